section
/-! ===== the class: its cells in one row, each with its row of ints ===== -/
noncomputable def kc (ct : Nat → ClassId) (E y : Nat → Nat) (n : Nat) (f : Nat → Int32) (g : Nat → Int64) : va_E :=
  if n < 138 then (if n % 6 = 0 then .inr (7, [.ref (y (n + 1)), .ref (y (n + 2)), .ref (y (n + 3)), .ref (y (n + 4)), .ref (y (n + 5)), .int (f 5)]) else .inl (ct 0, 6, .inl f)) else
  if n < 162 then (if (n - 138) % 4 = 0 then .inr (1, [.ref (y (n + 1)), .ref (y (n + 2)), .ref (y (n + 3)), .int (f 3)]) else .inl (ct 0, 40, .inl f)) else
  if n < 167 then .inr (6, [.int (f 0), .int (f 1)]) else
  if n < 171 then .inr (5, [.ref (y (6 * (n - 148))), .ref (y (4 * (n - 167) + 146)), .ref (y (n - 4)), .int (f 3)]) else
  if n < 195 then (if (n - 171) % 12 = 0 then .inr (2, [.ref (y (n + 1)), .ref (y (n + 2)), .ref (y (n + 3)), .ref (y (n + 4)), .ref (y (n + 5)), .ref (y (n + 6)), .ref (y (n + 7)), .ref (y (n + 8)), .ref (y (n + 9)), .int (f 9), .int (f 10), .int (f 11), .int (f 12)])
    else if (n - 171) % 12 = 3 ∨ (n - 171) % 12 = 8 then .inl (ct 1, 6, .inr (.inl g)) else if (n - 171) % 12 = 9 then .inr (4, [.ref (y (n + 1)), .ref (y (n + 2)), .int (f 2)])
    else if (n - 171) % 12 = 10 then .inl (ct 0, 1000, .inl f) else if (n - 171) % 12 = 11 then .inl (ct 0, 32, .inl f) else .inl (ct 0, 6, .inl f)) else
  if n = 195 then .inr (10, [.ref (y 196), .ref (y 171), .ref (y 183), .ref (y 198), .ref (y 138), .ref (y 142), .ref (y 199), .ref (y 200), .ref (y 6), .ref (y 12), .ref (y 162), .ref (y 205), .ref (y 206), .int (f 13), .int (f 14)]) else
  if n = 196 then .inr (8, [.ref (y 197), .int (f 1), .int (f 2), .int (f 3), .ref (E (zn (f 4))), .int (f 5), .long (g 6), .int (f 7)]) else
  if n = 197 then .inl (ct 2, 1000, .inl f) else
  if n = 198 then .inr (3, [.int (f 0), .int (f 1), .int (f 2)]) else
  if n = 199 then .inr (0, [.ref (y 171)]) else
  if n = 200 then .inr (9, [.ref (y 171), .ref (y 199), .ref (y 0), .ref (y 201), .ref (y 202), .ref (y 203), .ref (y 204)]) else
  if n = 201 then .inl (ct 0, 64, .inl f) else
  if n = 202 then .inl (ct 0, 6, .inl f) else
  if n = 203 then .inl (ct 0, 6, .inl f) else
  if n = 204 then .inl (ct 0, 6, .inl f) else
  if n = 205 then .inl (ct 4, 16, .inr (.inr (.inr (.inr (fun j => some (y (6 * j + 18))))))) else
  .inl (ct 5, 4, .inr (.inr (.inr (.inr (fun j => some (y (167 + j)))))))
noncomputable def kW (ct : Nat → ClassId) (E y : Nat → Nat) (r : zRr) (q : zRq) : va_W := (List.range 207).map (fun n => (y n, kc ct E y n (r n) (q n)))
section KW
variable {ct : Nat → ClassId} {E y : Nat → Nat} {r : zRr} {q : zRq} {n : Nat}
theorem kWlen : (kW ct E y r q).length = 207 := by unfold kW; rw [List.length_map, List.length_range]
theorem kWat (h : n < 207) {c : va_E} (hc : kc ct E y n (r n) (q n) = c) : (kW ct E y r q)[n]? = some (y n, c) := by
  unfold kW
  rw [List.getElem?_map, List.getElem?_range h, ← hc]; rfl
theorem kWset {f : Nat → Int32} {c : va_E} (hc : kc ct E y n f (q n) = c) : (kW ct E y r q).set n (y n, c) = kW ct E y (zset r n f) q := by
  apply List.ext_getElem?
  intro k
  rw [List.getElem?_set, kWlen]
  by_cases e : n = k
  · subst e
    rw [if_pos rfl]
    by_cases h : n < 207
    · rw [if_pos h, kWat h (c := c)]
      rw [zset_eq]; exact hc
    · rw [if_neg h, List.getElem?_eq_none (by rw [kWlen]; omega)]
  · rw [if_neg e]
    by_cases h : k < 207
    · rw [kWat h rfl, kWat h (c := kc ct E y k (r k) (q k)) (by rw [zset_ne (fun e2 => e e2.symm)])]
    · rw [List.getElem?_eq_none (by rw [kWlen]; omega), List.getElem?_eq_none (by rw [kWlen]; omega)]
theorem kWsetq {f : Nat → Int64} {c : va_E} (hc : kc ct E y n (r n) f = c) : (kW ct E y r q).set n (y n, c) = kW ct E y r (zset q n f) := by
  apply List.ext_getElem?
  intro k
  rw [List.getElem?_set, kWlen]
  by_cases e : n = k
  · subst e
    rw [if_pos rfl]
    by_cases h : n < 207
    · rw [if_pos h, kWat h (c := c)]
      rw [zset_eq]; exact hc
    · rw [if_neg h, List.getElem?_eq_none (by rw [kWlen]; omega)]
  · rw [if_neg e]
    by_cases h : k < 207
    · rw [kWat h rfl, kWat h (c := kc ct E y k (r k) (q k)) (by rw [zset_ne (fun e2 => e e2.symm)])]
    · rw [List.getElem?_eq_none (by rw [kWlen]; omega), List.getElem?_eq_none (by rw [kWlen]; omega)]
theorem kWn : va_nd (List.range (kW ct E y r q).length) = true := by rw [kWlen]; exact zndof List.nodup_range
theorem kg0 : (kW ct E y r q)[0]? = some (y 0, .inr (7, [.ref (y 1), .ref (y 2), .ref (y 3), .ref (y 4), .ref (y 5), .int ((r 0) 5)])) := kWat (by decide) rfl
theorem ks0_5 {v : Int32} : (kW ct E y r q).set 0 (y 0, .inr (7, ([.ref (y 1), .ref (y 2), .ref (y 3), .ref (y 4), .ref (y 5), .int ((r 0) 5)] : List Value).set 5 (.int v))) = kW ct E y (zset r 0 (upd (r 0) 5 v)) q := kWset rfl
theorem kg1 : (kW ct E y r q)[1]? = some (y 1, .inl (ct 0, 6, .inl (r 1))) := kWat (by decide) rfl
theorem kg2 : (kW ct E y r q)[2]? = some (y 2, .inl (ct 0, 6, .inl (r 2))) := kWat (by decide) rfl
theorem ks2 {f : Nat → Int32} : (kW ct E y r q).set 2 (y 2, .inl (ct 0, 6, .inl f)) = kW ct E y (zset r 2 f) q := kWset rfl
theorem kg3 : (kW ct E y r q)[3]? = some (y 3, .inl (ct 0, 6, .inl (r 3))) := kWat (by decide) rfl
theorem kg6 : (kW ct E y r q)[6]? = some (y 6, .inr (7, [.ref (y 7), .ref (y 8), .ref (y 9), .ref (y 10), .ref (y 11), .int ((r 6) 5)])) := kWat (by decide) rfl
theorem ks6_5 {v : Int32} : (kW ct E y r q).set 6 (y 6, .inr (7, ([.ref (y 7), .ref (y 8), .ref (y 9), .ref (y 10), .ref (y 11), .int ((r 6) 5)] : List Value).set 5 (.int v))) = kW ct E y (zset r 6 (upd (r 6) 5 v)) q := kWset rfl
theorem kg7 : (kW ct E y r q)[7]? = some (y 7, .inl (ct 0, 6, .inl (r 7))) := kWat (by decide) rfl
theorem ks7 {f : Nat → Int32} : (kW ct E y r q).set 7 (y 7, .inl (ct 0, 6, .inl f)) = kW ct E y (zset r 7 f) q := kWset rfl
theorem kg8 : (kW ct E y r q)[8]? = some (y 8, .inl (ct 0, 6, .inl (r 8))) := kWat (by decide) rfl
theorem ks8 {f : Nat → Int32} : (kW ct E y r q).set 8 (y 8, .inl (ct 0, 6, .inl f)) = kW ct E y (zset r 8 f) q := kWset rfl
theorem kg9 : (kW ct E y r q)[9]? = some (y 9, .inl (ct 0, 6, .inl (r 9))) := kWat (by decide) rfl
theorem ks9 {f : Nat → Int32} : (kW ct E y r q).set 9 (y 9, .inl (ct 0, 6, .inl f)) = kW ct E y (zset r 9 f) q := kWset rfl
theorem kg10 : (kW ct E y r q)[10]? = some (y 10, .inl (ct 0, 6, .inl (r 10))) := kWat (by decide) rfl
theorem ks10 {f : Nat → Int32} : (kW ct E y r q).set 10 (y 10, .inl (ct 0, 6, .inl f)) = kW ct E y (zset r 10 f) q := kWset rfl
theorem kg11 : (kW ct E y r q)[11]? = some (y 11, .inl (ct 0, 6, .inl (r 11))) := kWat (by decide) rfl
theorem ks11 {f : Nat → Int32} : (kW ct E y r q).set 11 (y 11, .inl (ct 0, 6, .inl f)) = kW ct E y (zset r 11 f) q := kWset rfl
theorem kg12 : (kW ct E y r q)[12]? = some (y 12, .inr (7, [.ref (y 13), .ref (y 14), .ref (y 15), .ref (y 16), .ref (y 17), .int ((r 12) 5)])) := kWat (by decide) rfl
theorem ks12_5 {v : Int32} : (kW ct E y r q).set 12 (y 12, .inr (7, ([.ref (y 13), .ref (y 14), .ref (y 15), .ref (y 16), .ref (y 17), .int ((r 12) 5)] : List Value).set 5 (.int v))) = kW ct E y (zset r 12 (upd (r 12) 5 v)) q := kWset rfl
theorem kg13 : (kW ct E y r q)[13]? = some (y 13, .inl (ct 0, 6, .inl (r 13))) := kWat (by decide) rfl
theorem ks13 {f : Nat → Int32} : (kW ct E y r q).set 13 (y 13, .inl (ct 0, 6, .inl f)) = kW ct E y (zset r 13 f) q := kWset rfl
theorem kg14 : (kW ct E y r q)[14]? = some (y 14, .inl (ct 0, 6, .inl (r 14))) := kWat (by decide) rfl
theorem ks14 {f : Nat → Int32} : (kW ct E y r q).set 14 (y 14, .inl (ct 0, 6, .inl f)) = kW ct E y (zset r 14 f) q := kWset rfl
theorem kg15 : (kW ct E y r q)[15]? = some (y 15, .inl (ct 0, 6, .inl (r 15))) := kWat (by decide) rfl
theorem ks15 {f : Nat → Int32} : (kW ct E y r q).set 15 (y 15, .inl (ct 0, 6, .inl f)) = kW ct E y (zset r 15 f) q := kWset rfl
theorem kg16 : (kW ct E y r q)[16]? = some (y 16, .inl (ct 0, 6, .inl (r 16))) := kWat (by decide) rfl
theorem ks16 {f : Nat → Int32} : (kW ct E y r q).set 16 (y 16, .inl (ct 0, 6, .inl f)) = kW ct E y (zset r 16 f) q := kWset rfl
theorem kg17 : (kW ct E y r q)[17]? = some (y 17, .inl (ct 0, 6, .inl (r 17))) := kWat (by decide) rfl
theorem ks17 {f : Nat → Int32} : (kW ct E y r q).set 17 (y 17, .inl (ct 0, 6, .inl f)) = kW ct E y (zset r 17 f) q := kWset rfl
theorem kg138 : (kW ct E y r q)[138]? = some (y 138, .inr (1, [.ref (y 139), .ref (y 140), .ref (y 141), .int ((r 138) 3)])) := kWat (by decide) rfl
theorem ks138_3 {v : Int32} : (kW ct E y r q).set 138 (y 138, .inr (1, ([.ref (y 139), .ref (y 140), .ref (y 141), .int ((r 138) 3)] : List Value).set 3 (.int v))) = kW ct E y (zset r 138 (upd (r 138) 3 v)) q := kWset rfl
theorem kg139 : (kW ct E y r q)[139]? = some (y 139, .inl (ct 0, 40, .inl (r 139))) := kWat (by decide) rfl
theorem kg140 : (kW ct E y r q)[140]? = some (y 140, .inl (ct 0, 40, .inl (r 140))) := kWat (by decide) rfl
theorem kg141 : (kW ct E y r q)[141]? = some (y 141, .inl (ct 0, 40, .inl (r 141))) := kWat (by decide) rfl
theorem kg142 : (kW ct E y r q)[142]? = some (y 142, .inr (1, [.ref (y 143), .ref (y 144), .ref (y 145), .int ((r 142) 3)])) := kWat (by decide) rfl
theorem ks142_3 {v : Int32} : (kW ct E y r q).set 142 (y 142, .inr (1, ([.ref (y 143), .ref (y 144), .ref (y 145), .int ((r 142) 3)] : List Value).set 3 (.int v))) = kW ct E y (zset r 142 (upd (r 142) 3 v)) q := kWset rfl
theorem kg143 : (kW ct E y r q)[143]? = some (y 143, .inl (ct 0, 40, .inl (r 143))) := kWat (by decide) rfl
theorem ks143 {f : Nat → Int32} : (kW ct E y r q).set 143 (y 143, .inl (ct 0, 40, .inl f)) = kW ct E y (zset r 143 f) q := kWset rfl
theorem kg144 : (kW ct E y r q)[144]? = some (y 144, .inl (ct 0, 40, .inl (r 144))) := kWat (by decide) rfl
theorem ks144 {f : Nat → Int32} : (kW ct E y r q).set 144 (y 144, .inl (ct 0, 40, .inl f)) = kW ct E y (zset r 144 f) q := kWset rfl
theorem kg145 : (kW ct E y r q)[145]? = some (y 145, .inl (ct 0, 40, .inl (r 145))) := kWat (by decide) rfl
theorem ks145 {f : Nat → Int32} : (kW ct E y r q).set 145 (y 145, .inl (ct 0, 40, .inl f)) = kW ct E y (zset r 145 f) q := kWset rfl
theorem kg162 : (kW ct E y r q)[162]? = some (y 162, .inr (6, [.int ((r 162) 0), .int ((r 162) 1)])) := kWat (by decide) rfl
theorem ks162_0 {v : Int32} : (kW ct E y r q).set 162 (y 162, .inr (6, ([.int ((r 162) 0), .int ((r 162) 1)] : List Value).set 0 (.int v))) = kW ct E y (zset r 162 (upd (r 162) 0 v)) q := kWset rfl
theorem ks162_1 {v : Int32} : (kW ct E y r q).set 162 (y 162, .inr (6, ([.int ((r 162) 0), .int ((r 162) 1)] : List Value).set 1 (.int v))) = kW ct E y (zset r 162 (upd (r 162) 1 v)) q := kWset rfl
theorem kg163 : (kW ct E y r q)[163]? = some (y 163, .inr (6, [.int ((r 163) 0), .int ((r 163) 1)])) := kWat (by decide) rfl
theorem kg164 : (kW ct E y r q)[164]? = some (y 164, .inr (6, [.int ((r 164) 0), .int ((r 164) 1)])) := kWat (by decide) rfl
theorem kg165 : (kW ct E y r q)[165]? = some (y 165, .inr (6, [.int ((r 165) 0), .int ((r 165) 1)])) := kWat (by decide) rfl
theorem kg166 : (kW ct E y r q)[166]? = some (y 166, .inr (6, [.int ((r 166) 0), .int ((r 166) 1)])) := kWat (by decide) rfl
theorem kg167 : (kW ct E y r q)[167]? = some (y 167, .inr (5, [.ref (y 114), .ref (y 146), .ref (y 163), .int ((r 167) 3)])) := kWat (by decide) rfl
theorem ks167_3 {v : Int32} : (kW ct E y r q).set 167 (y 167, .inr (5, ([.ref (y 114), .ref (y 146), .ref (y 163), .int ((r 167) 3)] : List Value).set 3 (.int v))) = kW ct E y (zset r 167 (upd (r 167) 3 v)) q := kWset rfl
theorem kg168 : (kW ct E y r q)[168]? = some (y 168, .inr (5, [.ref (y 120), .ref (y 150), .ref (y 164), .int ((r 168) 3)])) := kWat (by decide) rfl
theorem ks168_3 {v : Int32} : (kW ct E y r q).set 168 (y 168, .inr (5, ([.ref (y 120), .ref (y 150), .ref (y 164), .int ((r 168) 3)] : List Value).set 3 (.int v))) = kW ct E y (zset r 168 (upd (r 168) 3 v)) q := kWset rfl
theorem kg169 : (kW ct E y r q)[169]? = some (y 169, .inr (5, [.ref (y 126), .ref (y 154), .ref (y 165), .int ((r 169) 3)])) := kWat (by decide) rfl
theorem ks169_3 {v : Int32} : (kW ct E y r q).set 169 (y 169, .inr (5, ([.ref (y 126), .ref (y 154), .ref (y 165), .int ((r 169) 3)] : List Value).set 3 (.int v))) = kW ct E y (zset r 169 (upd (r 169) 3 v)) q := kWset rfl
theorem kg170 : (kW ct E y r q)[170]? = some (y 170, .inr (5, [.ref (y 132), .ref (y 158), .ref (y 166), .int ((r 170) 3)])) := kWat (by decide) rfl
theorem ks170_3 {v : Int32} : (kW ct E y r q).set 170 (y 170, .inr (5, ([.ref (y 132), .ref (y 158), .ref (y 166), .int ((r 170) 3)] : List Value).set 3 (.int v))) = kW ct E y (zset r 170 (upd (r 170) 3 v)) q := kWset rfl
theorem kg171 : (kW ct E y r q)[171]? = some (y 171, .inr (2, [.ref (y 172), .ref (y 173), .ref (y 174), .ref (y 175), .ref (y 176), .ref (y 177), .ref (y 178), .ref (y 179), .ref (y 180), .int ((r 171) 9), .int ((r 171) 10), .int ((r 171) 11), .int ((r 171) 12)])) := kWat (by decide) rfl
theorem kg172 : (kW ct E y r q)[172]? = some (y 172, .inl (ct 0, 6, .inl (r 172))) := kWat (by decide) rfl
theorem kg173 : (kW ct E y r q)[173]? = some (y 173, .inl (ct 0, 6, .inl (r 173))) := kWat (by decide) rfl
theorem kg174 : (kW ct E y r q)[174]? = some (y 174, .inl (ct 1, 6, .inr (.inl (q 174)))) := kWat (by decide) rfl
theorem kg175 : (kW ct E y r q)[175]? = some (y 175, .inl (ct 0, 6, .inl (r 175))) := kWat (by decide) rfl
theorem kg176 : (kW ct E y r q)[176]? = some (y 176, .inl (ct 0, 6, .inl (r 176))) := kWat (by decide) rfl
theorem kg177 : (kW ct E y r q)[177]? = some (y 177, .inl (ct 0, 6, .inl (r 177))) := kWat (by decide) rfl
theorem kg178 : (kW ct E y r q)[178]? = some (y 178, .inl (ct 0, 6, .inl (r 178))) := kWat (by decide) rfl
theorem kg179 : (kW ct E y r q)[179]? = some (y 179, .inl (ct 1, 6, .inr (.inl (q 179)))) := kWat (by decide) rfl
theorem kg180 : (kW ct E y r q)[180]? = some (y 180, .inr (4, [.ref (y 181), .ref (y 182), .int ((r 180) 2)])) := kWat (by decide) rfl
theorem kg181 : (kW ct E y r q)[181]? = some (y 181, .inl (ct 0, 1000, .inl (r 181))) := kWat (by decide) rfl
theorem kg182 : (kW ct E y r q)[182]? = some (y 182, .inl (ct 0, 32, .inl (r 182))) := kWat (by decide) rfl
theorem ks182 {f : Nat → Int32} : (kW ct E y r q).set 182 (y 182, .inl (ct 0, 32, .inl f)) = kW ct E y (zset r 182 f) q := kWset rfl
theorem kg183 : (kW ct E y r q)[183]? = some (y 183, .inr (2, [.ref (y 184), .ref (y 185), .ref (y 186), .ref (y 187), .ref (y 188), .ref (y 189), .ref (y 190), .ref (y 191), .ref (y 192), .int ((r 183) 9), .int ((r 183) 10), .int ((r 183) 11), .int ((r 183) 12)])) := kWat (by decide) rfl
theorem ks183_9 {v : Int32} : (kW ct E y r q).set 183 (y 183, .inr (2, ([.ref (y 184), .ref (y 185), .ref (y 186), .ref (y 187), .ref (y 188), .ref (y 189), .ref (y 190), .ref (y 191), .ref (y 192), .int ((r 183) 9), .int ((r 183) 10), .int ((r 183) 11), .int ((r 183) 12)] : List Value).set 9 (.int v))) = kW ct E y (zset r 183 (upd (r 183) 9 v)) q := kWset rfl
theorem ks183_10 {v : Int32} : (kW ct E y r q).set 183 (y 183, .inr (2, ([.ref (y 184), .ref (y 185), .ref (y 186), .ref (y 187), .ref (y 188), .ref (y 189), .ref (y 190), .ref (y 191), .ref (y 192), .int ((r 183) 9), .int ((r 183) 10), .int ((r 183) 11), .int ((r 183) 12)] : List Value).set 10 (.int v))) = kW ct E y (zset r 183 (upd (r 183) 10 v)) q := kWset rfl
theorem ks183_11 {v : Int32} : (kW ct E y r q).set 183 (y 183, .inr (2, ([.ref (y 184), .ref (y 185), .ref (y 186), .ref (y 187), .ref (y 188), .ref (y 189), .ref (y 190), .ref (y 191), .ref (y 192), .int ((r 183) 9), .int ((r 183) 10), .int ((r 183) 11), .int ((r 183) 12)] : List Value).set 11 (.int v))) = kW ct E y (zset r 183 (upd (r 183) 11 v)) q := kWset rfl
theorem ks183_12 {v : Int32} : (kW ct E y r q).set 183 (y 183, .inr (2, ([.ref (y 184), .ref (y 185), .ref (y 186), .ref (y 187), .ref (y 188), .ref (y 189), .ref (y 190), .ref (y 191), .ref (y 192), .int ((r 183) 9), .int ((r 183) 10), .int ((r 183) 11), .int ((r 183) 12)] : List Value).set 12 (.int v))) = kW ct E y (zset r 183 (upd (r 183) 12 v)) q := kWset rfl
theorem kg184 : (kW ct E y r q)[184]? = some (y 184, .inl (ct 0, 6, .inl (r 184))) := kWat (by decide) rfl
theorem ks184 {f : Nat → Int32} : (kW ct E y r q).set 184 (y 184, .inl (ct 0, 6, .inl f)) = kW ct E y (zset r 184 f) q := kWset rfl
theorem kg185 : (kW ct E y r q)[185]? = some (y 185, .inl (ct 0, 6, .inl (r 185))) := kWat (by decide) rfl
theorem ks185 {f : Nat → Int32} : (kW ct E y r q).set 185 (y 185, .inl (ct 0, 6, .inl f)) = kW ct E y (zset r 185 f) q := kWset rfl
theorem kg186 : (kW ct E y r q)[186]? = some (y 186, .inl (ct 1, 6, .inr (.inl (q 186)))) := kWat (by decide) rfl
theorem ks186 {f : Nat → Int64} : (kW ct E y r q).set 186 (y 186, .inl (ct 1, 6, .inr (.inl f))) = kW ct E y r (zset q 186 f) := kWsetq rfl
theorem kg187 : (kW ct E y r q)[187]? = some (y 187, .inl (ct 0, 6, .inl (r 187))) := kWat (by decide) rfl
theorem ks187 {f : Nat → Int32} : (kW ct E y r q).set 187 (y 187, .inl (ct 0, 6, .inl f)) = kW ct E y (zset r 187 f) q := kWset rfl
theorem kg188 : (kW ct E y r q)[188]? = some (y 188, .inl (ct 0, 6, .inl (r 188))) := kWat (by decide) rfl
theorem ks188 {f : Nat → Int32} : (kW ct E y r q).set 188 (y 188, .inl (ct 0, 6, .inl f)) = kW ct E y (zset r 188 f) q := kWset rfl
theorem kg189 : (kW ct E y r q)[189]? = some (y 189, .inl (ct 0, 6, .inl (r 189))) := kWat (by decide) rfl
theorem ks189 {f : Nat → Int32} : (kW ct E y r q).set 189 (y 189, .inl (ct 0, 6, .inl f)) = kW ct E y (zset r 189 f) q := kWset rfl
theorem kg190 : (kW ct E y r q)[190]? = some (y 190, .inl (ct 0, 6, .inl (r 190))) := kWat (by decide) rfl
theorem ks190 {f : Nat → Int32} : (kW ct E y r q).set 190 (y 190, .inl (ct 0, 6, .inl f)) = kW ct E y (zset r 190 f) q := kWset rfl
theorem kg191 : (kW ct E y r q)[191]? = some (y 191, .inl (ct 1, 6, .inr (.inl (q 191)))) := kWat (by decide) rfl
theorem ks191 {f : Nat → Int64} : (kW ct E y r q).set 191 (y 191, .inl (ct 1, 6, .inr (.inl f))) = kW ct E y r (zset q 191 f) := kWsetq rfl
theorem kg192 : (kW ct E y r q)[192]? = some (y 192, .inr (4, [.ref (y 193), .ref (y 194), .int ((r 192) 2)])) := kWat (by decide) rfl
theorem ks192_2 {v : Int32} : (kW ct E y r q).set 192 (y 192, .inr (4, ([.ref (y 193), .ref (y 194), .int ((r 192) 2)] : List Value).set 2 (.int v))) = kW ct E y (zset r 192 (upd (r 192) 2 v)) q := kWset rfl
theorem kg193 : (kW ct E y r q)[193]? = some (y 193, .inl (ct 0, 1000, .inl (r 193))) := kWat (by decide) rfl
theorem ks193 {f : Nat → Int32} : (kW ct E y r q).set 193 (y 193, .inl (ct 0, 1000, .inl f)) = kW ct E y (zset r 193 f) q := kWset rfl
theorem kg195 : (kW ct E y r q)[195]? = some (y 195, .inr (10, [.ref (y 196), .ref (y 171), .ref (y 183), .ref (y 198), .ref (y 138), .ref (y 142), .ref (y 199), .ref (y 200), .ref (y 6), .ref (y 12), .ref (y 162), .ref (y 205), .ref (y 206), .int ((r 195) 13), .int ((r 195) 14)])) := kWat (by decide) rfl
theorem ks195_13 {v : Int32} : (kW ct E y r q).set 195 (y 195, .inr (10, ([.ref (y 196), .ref (y 171), .ref (y 183), .ref (y 198), .ref (y 138), .ref (y 142), .ref (y 199), .ref (y 200), .ref (y 6), .ref (y 12), .ref (y 162), .ref (y 205), .ref (y 206), .int ((r 195) 13), .int ((r 195) 14)] : List Value).set 13 (.int v))) = kW ct E y (zset r 195 (upd (r 195) 13 v)) q := kWset rfl
theorem ks195_14 {v : Int32} : (kW ct E y r q).set 195 (y 195, .inr (10, ([.ref (y 196), .ref (y 171), .ref (y 183), .ref (y 198), .ref (y 138), .ref (y 142), .ref (y 199), .ref (y 200), .ref (y 6), .ref (y 12), .ref (y 162), .ref (y 205), .ref (y 206), .int ((r 195) 13), .int ((r 195) 14)] : List Value).set 14 (.int v))) = kW ct E y (zset r 195 (upd (r 195) 14 v)) q := kWset rfl
theorem kg196 : (kW ct E y r q)[196]? = some (y 196, .inr (8, [.ref (y 197), .int ((r 196) 1), .int ((r 196) 2), .int ((r 196) 3), .ref (E (zn ((r 196) 4))), .int ((r 196) 5), .long ((q 196) 6), .int ((r 196) 7)])) := kWat (by decide) rfl
theorem ks196_1 {v : Int32} : (kW ct E y r q).set 196 (y 196, .inr (8, ([.ref (y 197), .int ((r 196) 1), .int ((r 196) 2), .int ((r 196) 3), .ref (E (zn ((r 196) 4))), .int ((r 196) 5), .long ((q 196) 6), .int ((r 196) 7)] : List Value).set 1 (.int v))) = kW ct E y (zset r 196 (upd (r 196) 1 v)) q := kWset rfl
theorem ks196_2 {v : Int32} : (kW ct E y r q).set 196 (y 196, .inr (8, ([.ref (y 197), .int ((r 196) 1), .int ((r 196) 2), .int ((r 196) 3), .ref (E (zn ((r 196) 4))), .int ((r 196) 5), .long ((q 196) 6), .int ((r 196) 7)] : List Value).set 2 (.int v))) = kW ct E y (zset r 196 (upd (r 196) 2 v)) q := kWset rfl
theorem ks196_3 {v : Int32} : (kW ct E y r q).set 196 (y 196, .inr (8, ([.ref (y 197), .int ((r 196) 1), .int ((r 196) 2), .int ((r 196) 3), .ref (E (zn ((r 196) 4))), .int ((r 196) 5), .long ((q 196) 6), .int ((r 196) 7)] : List Value).set 3 (.int v))) = kW ct E y (zset r 196 (upd (r 196) 3 v)) q := kWset rfl
theorem ks196_4 {v : Int32} : (kW ct E y r q).set 196 (y 196, .inr (8, ([.ref (y 197), .int ((r 196) 1), .int ((r 196) 2), .int ((r 196) 3), .ref (E (zn ((r 196) 4))), .int ((r 196) 5), .long ((q 196) 6), .int ((r 196) 7)] : List Value).set 4 (.ref (E (zn v))))) = kW ct E y (zset r 196 (upd (r 196) 4 v)) q := kWset rfl
theorem ks196_5 {v : Int32} : (kW ct E y r q).set 196 (y 196, .inr (8, ([.ref (y 197), .int ((r 196) 1), .int ((r 196) 2), .int ((r 196) 3), .ref (E (zn ((r 196) 4))), .int ((r 196) 5), .long ((q 196) 6), .int ((r 196) 7)] : List Value).set 5 (.int v))) = kW ct E y (zset r 196 (upd (r 196) 5 v)) q := kWset rfl
theorem ks196_6 {v : Int64} : (kW ct E y r q).set 196 (y 196, .inr (8, ([.ref (y 197), .int ((r 196) 1), .int ((r 196) 2), .int ((r 196) 3), .ref (E (zn ((r 196) 4))), .int ((r 196) 5), .long ((q 196) 6), .int ((r 196) 7)] : List Value).set 6 (.long v))) = kW ct E y r (zset q 196 (vp_updL (q 196) 6 v)) := kWsetq rfl
theorem ks196_7 {v : Int32} : (kW ct E y r q).set 196 (y 196, .inr (8, ([.ref (y 197), .int ((r 196) 1), .int ((r 196) 2), .int ((r 196) 3), .ref (E (zn ((r 196) 4))), .int ((r 196) 5), .long ((q 196) 6), .int ((r 196) 7)] : List Value).set 7 (.int v))) = kW ct E y (zset r 196 (upd (r 196) 7 v)) q := kWset rfl
theorem kg197 : (kW ct E y r q)[197]? = some (y 197, .inl (ct 2, 1000, .inl (r 197))) := kWat (by decide) rfl
theorem kg198 : (kW ct E y r q)[198]? = some (y 198, .inr (3, [.int ((r 198) 0), .int ((r 198) 1), .int ((r 198) 2)])) := kWat (by decide) rfl
theorem ks198_0 {v : Int32} : (kW ct E y r q).set 198 (y 198, .inr (3, ([.int ((r 198) 0), .int ((r 198) 1), .int ((r 198) 2)] : List Value).set 0 (.int v))) = kW ct E y (zset r 198 (upd (r 198) 0 v)) q := kWset rfl
theorem ks198_1 {v : Int32} : (kW ct E y r q).set 198 (y 198, .inr (3, ([.int ((r 198) 0), .int ((r 198) 1), .int ((r 198) 2)] : List Value).set 1 (.int v))) = kW ct E y (zset r 198 (upd (r 198) 1 v)) q := kWset rfl
theorem ks198_2 {v : Int32} : (kW ct E y r q).set 198 (y 198, .inr (3, ([.int ((r 198) 0), .int ((r 198) 1), .int ((r 198) 2)] : List Value).set 2 (.int v))) = kW ct E y (zset r 198 (upd (r 198) 2 v)) q := kWset rfl
theorem kg199 : (kW ct E y r q)[199]? = some (y 199, .inr (0, [.ref (y 171)])) := kWat (by decide) rfl
theorem kg200 : (kW ct E y r q)[200]? = some (y 200, .inr (9, [.ref (y 171), .ref (y 199), .ref (y 0), .ref (y 201), .ref (y 202), .ref (y 203), .ref (y 204)])) := kWat (by decide) rfl
theorem kg201 : (kW ct E y r q)[201]? = some (y 201, .inl (ct 0, 64, .inl (r 201))) := kWat (by decide) rfl
theorem ks201 {f : Nat → Int32} : (kW ct E y r q).set 201 (y 201, .inl (ct 0, 64, .inl f)) = kW ct E y (zset r 201 f) q := kWset rfl
theorem kg202 : (kW ct E y r q)[202]? = some (y 202, .inl (ct 0, 6, .inl (r 202))) := kWat (by decide) rfl
theorem ks202 {f : Nat → Int32} : (kW ct E y r q).set 202 (y 202, .inl (ct 0, 6, .inl f)) = kW ct E y (zset r 202 f) q := kWset rfl
theorem kg203 : (kW ct E y r q)[203]? = some (y 203, .inl (ct 0, 6, .inl (r 203))) := kWat (by decide) rfl
theorem ks203 {f : Nat → Int32} : (kW ct E y r q).set 203 (y 203, .inl (ct 0, 6, .inl f)) = kW ct E y (zset r 203 f) q := kWset rfl
theorem kg204 : (kW ct E y r q)[204]? = some (y 204, .inl (ct 0, 6, .inl (r 204))) := kWat (by decide) rfl
theorem ks204 {f : Nat → Int32} : (kW ct E y r q).set 204 (y 204, .inl (ct 0, 6, .inl f)) = kW ct E y (zset r 204 f) q := kWset rfl
theorem kg205 : (kW ct E y r q)[205]? = some (y 205, .inl (ct 4, 16, .inr (.inr (.inr (.inr (fun j => some (y (6 * j + 18)))))))) := kWat (by decide) rfl
theorem kg206 : (kW ct E y r q)[206]? = some (y 206, .inl (ct 5, 4, .inr (.inr (.inr (.inr (fun j => some (y (167 + j)))))))) := kWat (by decide) rfl
end KW
noncomputable def klo (n j : Nat) : Int := if n < 138 then (if n % 6 = 1 then 0 else if n % 6 = 3 then 0 else (-2147483648)) else
  if n < 162 then (if (n - 138) % 4 = 0 then 0 else if n = 144 then (-1) else if (n - 138) % 4 = 2 then 0 else (-2147483648)) else
  if n < 167 then (-2147483648) else
  if n < 171 then 0 else
  if n < 195 then (if (n - 171) % 12 = 0 then (if j = 9 ∨ j = 10 then 0 else (-2147483648)) else if (n - 171) % 12 = 5 then (-1) else if (n - 171) % 12 = 9 then 0 else (-2147483648)) else
  if n = 195 then (if j = 13 then 0 else (-2147483648)) else
  if n = 196 then (if j = 1 ∨ j = 2 ∨ j = 3 then 0 else if j = 4 then 0 else (-2147483648)) else
  if n = 198 then 0 else (-2147483648)
noncomputable def khi (n j : Nat) : Int := if n < 138 then (if n % 6 = 1 then 5 else if n % 6 = 3 then 20 else 2147483647) else
  if n < 162 then (if (n - 138) % 4 = 0 then 40 else if n = 144 then 5 else if (n - 138) % 4 = 2 then 5 else 2147483647) else
  if n < 167 then 2147483647 else
  if n < 171 then 1 else
  if n < 195 then (if (n - 171) % 12 = 0 then (if j = 9 ∨ j = 10 then 6 else 2147483647) else if (n - 171) % 12 = 5 then 5 else if (n - 171) % 12 = 9 then 1000 else 2147483647) else
  if n = 195 then (if j = 13 then 15 else 2147483647) else
  if n = 196 then (if j = 1 ∨ j = 2 ∨ j = 3 then 1000 else if j = 4 then 32 else 2147483647) else
  if n = 198 then 1 else 2147483647
noncomputable def kI (r : zRr) : Prop := ∀ n j : Nat, zI (klo n j) (khi n j) (r n j)
/-- homes of those that are told -/
noncomputable def kH (r : zRr) (n : Nat) : Prop := ∀ j : Nat, (j : Int) < (r n 10).toInt → zI 0 5 (r (n + 5) j)
/-- a go has a town -/
noncomputable def kG (r : zRr) (n : Nat) : Prop := ∀ j : Nat, r (n + 1) j = 0 → zI 0 5 (r (n + 3) j)
noncomputable def kP (r : zRr) : Prop := kG r 138 ∧ kG r 146 ∧ kG r 150 ∧ kG r 154 ∧ kG r 158
noncomputable def kJ (r : zRr) : Prop := kI r ∧ kH r 171 ∧ kH r 183 ∧ kP r
theorem kJ.i {r : zRr} (h : kJ r) : kI r := h.1
noncomputable def kfree (k : Nat) : Bool := !([171, 176, 183, 188, 139, 141, 147, 149, 151, 153, 155, 157, 159, 161].contains k)
theorem kH.row {r r1 : zRr} {n : Nat} (h : kH r n) (e1 : r1 n = r n) (e2 : r1 (n + 5) = r (n + 5)) : kH r1 n := by unfold kH; rw [e1, e2]; exact h
theorem kG.row {r r1 : zRr} {n : Nat} (h : kG r n) (e1 : r1 (n + 1) = r (n + 1)) (e2 : r1 (n + 3) = r (n + 3)) : kG r1 n := by unfold kG; rw [e1, e2]; exact h
theorem kP.row {r r1 : zRr} (h : kP r) (e : ∀ k, [139, 141, 147, 149, 151, 153, 155, 157, 159, 161].contains k = true → r1 k = r k) : kP r1 :=
  ⟨h.1.row (e 139 rfl) (e 141 rfl), h.2.1.row (e 147 rfl) (e 149 rfl), h.2.2.1.row (e 151 rfl) (e 153 rfl), h.2.2.2.1.row (e 155 rfl) (e 157 rfl), h.2.2.2.2.row (e 159 rfl) (e 161 rfl)⟩
theorem kJ.free {r r1 : zRr} (h : kJ r) (hI : kI r1) (k : Nat) (hk : kfree k = true) (e : ∀ a, a ≠ k → r1 a = r a) : kJ r1 := by
  have n : ∀ a, [171, 176, 183, 188, 139, 141, 147, 149, 151, 153, 155, 157, 159, 161].contains a = true → r1 a = r a := fun a ha => e a (fun e2 => by subst e2; simp only [kfree, Bool.not_eq_true'] at hk; rw [ha] at hk; cases hk)
  exact ⟨hI, h.2.1.row (n 171 rfl) (n 176 rfl), h.2.2.1.row (n 183 rfl) (n 188 rfl), h.2.2.2.row (fun a ha => n a (by
    have h1 := List.contains_iff_mem.mp ha
    exact List.contains_iff_mem.mpr (List.mem_append_right [171, 176, 183, 188] h1)))⟩
theorem kI.setr {r : zRr} (h : kI r) {k : Nat} {g : Nat → Int32} (hv : ∀ j, zI (klo k j) (khi k j) (g j)) : kI (zset r k g) := by
  intro a b
  by_cases e : a = k
  · subst e; rw [zset_eq]; exact hv b
  · rw [zset_ne e]; exact h a b
theorem kI.set {r : zRr} (h : kI r) {k j : Nat} {v : Int32} (hv : zI (klo k j) (khi k j) v) : kI (zset r k (upd (r k) j v)) := by
  refine h.setr (fun b => ?_)
  by_cases e2 : b = j
  · subst e2; rw [pk_us]; exact hv
  · rw [pk_un e2]; exact h k b
theorem kJ.set {r : zRr} (h : kJ r) {k j : Nat} {v : Int32} (hk : kfree k = true) (hv : zI (klo k j) (khi k j) v) : kJ (zset r k (upd (r k) j v)) := h.free (h.i.set hv) k hk (fun _ e => zset_ne e)
theorem kJ.setr {r : zRr} (h : kJ r) {k : Nat} {g : Nat → Int32} (hk : kfree k = true) (hv : ∀ j, zI (klo k j) (khi k j) (g j)) : kJ (zset r k g) := h.free (h.i.setr hv) k hk (fun _ e => zset_ne e)
end
section
/-! ===== the contracts of the class: the constants of Sort, their texts, the words that a law names ===== -/
noncomputable def eN : List String := ["TOWN", "ASKS", "ROAD", "PERSON", "AT", "BEARD", "PURSE", "GROWS", "INCH", "READS", "GO", "FORGE", "SHAVE", "WEEK", "PLAIN", "SMOOTH", "BISHOP", "GREY", "NOT", "AND", "OR", "OPEN", "CLOSE", "LESS", "SAME", "PLUS", "MINUS", "TIMES", "STOP", "NAME", "NUMBER", "END", "NO_TOKEN"]
noncomputable def eT (E : Nat → Nat) (i : Nat) (A : Nat → Prop) (U : State) (H : Heap) : Prop := va_O RJ0 (E (40 + i)) A U H ∧ va_OF RJ0 "coder" "B" (.int 0) (E (40 + i)) A U H ∧ va_OF RJ0 "value" "[B" (.ref (E (80 + i))) (E (40 + i)) A U H ∧ va_T .byte (E (80 + i)) (eL.getD i 0) (fun j => .int ((eB.getD i []).getD j 0)) A U H
noncomputable def eR : List (Nat × String × Nat) := [(110, "long", 73), (116, "false", 74), (118, "asked", 75), (120, "weeks", 76)]
noncomputable def eZ (E : Nat → Nat) (A : Nat → Prop) (U : State) (H : Heap) : Prop :=
  (∀ i : Nat, i < 33 → va_Z RX7 (eN.getD i "") "LBeardPass$Sort;" (.ref (E i)) A U H) ∧ va_Z RX7 "ALL" "[LBeardPass$Sort;" (.ref (E 33)) A U H ∧ va_T (.object RX7) (E 33) 33 (fun j => .ref (E j)) A U H ∧
  (∀ i : Nat, i < 33 → va_OF RX7 "text" "Ljava/lang/String;" (.ref (E (40 + i))) (E i) A U H) ∧ (∀ i : Nat, i < 37 → eT E i A U H) ∧ (∀ k ∈ eR, vk_R RX4 k.1 k.2.1 (E k.2.2) U) ∧
  va_Z RJ0 "COMPACT_STRINGS" "Z" (.int 1) A U H ∧ (∃ o : Option Nat, va_Z RJ3 "SIOOBE_FORMATTER" "Ljava/util/function/BiFunction;" (va_rf o) A U H) ∧ va_Nw (.fieldLinkNest RX9 75 RX7 "ALL" "[LBeardPass$Sort;" RX11) U
theorem eT.moved {E : Nat → Nat} {i : Nat} {A : Nat → Prop} {u U : State} {H : Heap} (hvm : u.vm.Alike U.vm) (h : eT E i A u H) : eT E i A U H := ⟨va_O.moved hvm h.1, va_OF.moved hvm h.2.1, va_OF.moved hvm h.2.2.1, va_T.moved hvm h.2.2.2⟩
theorem eT.kept {E : Nat → Nat} {i : Nat} {A : Nat → Prop} {U : State} {H H1 : Heap} (h : eT E i A U H) (hq : ∀ a : Nat, a < H.size → ¬ A a → H1[a]? = H[a]?) : eT E i A U H1 := ⟨h.1.kept hq, h.2.1.kept hq, h.2.2.1.kept hq, h.2.2.2.kept hq⟩
theorem eT.narrow {E : Nat → Nat} {i : Nat} {A B : Nat → Prop} {U : State} {H : Heap} (h : eT E i A U H) (hAB : ∀ q, B q → A q) : eT E i B U H := ⟨h.1.narrow hAB, h.2.1.narrow hAB, h.2.2.1.narrow hAB, h.2.2.2.narrow hAB⟩
/-- to a callee: the heap and the words later, and less that may change -/
theorem eZ.go {E : Nat → Nat} {A B : Nat → Prop} {s U : State} {H1 : Heap} (h : eZ E A s s.heap) (hW : s.WarmedH U.vm) (hq : ∀ a : Nat, a < s.heap.size → ¬ A a → H1[a]? = s.heap[a]?) (hAB : ∀ q, B q → A q) : eZ E B U H1 := by
  obtain ⟨h1, h2, h3, h4, h5, h6, h7, ⟨o, h8⟩, h9⟩ := h
  exact ⟨fun i hi => va_Z.moved hW.alike (((h1 i hi).kept hq).narrow hAB), va_Z.moved hW.alike ((h2.kept hq).narrow hAB), va_T.moved hW.alike ((h3.kept hq).narrow hAB), fun i hi => va_OF.moved hW.alike (((h4 i hi).kept hq).narrow hAB), fun i hi => eT.moved hW.alike (((h5 i hi).kept hq).narrow hAB), fun k hk => vk_R.warm hW (h6 k hk), va_Z.moved hW.alike ((h7.kept hq).narrow hAB), ⟨o, va_Z.moved hW.alike ((h8.kept hq).narrow hAB)⟩, va_Nw.warmF hW h9⟩
theorem eZ.same {E : Nat → Nat} {A : Nat → Prop} {u U : State} {H : Heap} (hv : U.vm = u.vm) (hA : u.vm.Alike U.vm) (he : va_Nw (.fieldLinkNest RX9 75 RX7 "ALL" "[LBeardPass$Sort;" RX11) U) (h : eZ E A u H) : eZ E A U H := by
  obtain ⟨h1, h2, h3, h4, h5, h6, h7, ⟨o, h8⟩, h9⟩ := h
  exact ⟨fun i hi => va_Z.moved hA (h1 i hi), va_Z.moved hA h2, va_T.moved hA h3, fun i hi => va_OF.moved hA (h4 i hi), fun i hi => eT.moved hA (h5 i hi), fun k hk => vk_R.same hv (h6 k hk), va_Z.moved hA h7, ⟨o, va_Z.moved hA h8⟩, he⟩
noncomputable def cPc (D : va_G) (ct : Nat → ClassId) (E : Nat → Nat) (As : List Value) (w0 : va_W) (sz : Nat) : Array Value → State → Prop := va_Pc As (fun U => U.heap.size = sz ∧ va_P D vwCl w0 U.heap ∧ va_K D vwCl (zT ct) U ∧ va_D (fun _ => True) w0 ∧ eZ E (va_A w0 sz) U U.heap ∧ zN U)
noncomputable def cC (l : Launch) (y : MethodName) (ws : List Cond) (rm : Room) (D : va_G) (ct : Nat → ClassId) (E : Nat → Nat) (As : List Value) (w0 : va_W) {S : Type} (rv : S → Option Value) (post : S → Prop) (B : S → va_W) : Prop :=
  ∀ sz : Nat, Met l y ws rm (cPc D ct E As w0 sz) (zQ D (va_A w0 sz) rv post B) 0 0 (va_A w0 sz)
theorem cofQ {l : Launch} {y : MethodName} {ws ws' : List Cond} {rm : Room} {D : va_G} {ct : Nat → ClassId} {E : Nat → Nat} {As : List Value} {w0 : va_W} {S : Type} {rv : S → Option Value} {post : S → Prop} {B : S → va_W} (cc : ByteArray) (maxL : Nat) (ret : Option FieldType) (hy : plainName y.cls = true) (hw : ws = Cond.code y cc maxL ret :: ws') (hlen : (lg_sl As).length ≤ maxL)
    (body : ∀ (p : Program) (e : Env) (s : State) (m : MethodId) (below : List Frame) (meth : Method) (c : Code) (A : Nat → Prop) (a9 : Array Value) (Q : State → Prop), a9 = As.toArray → p.tables.exec = Jvm.exec → c.code = cc → meth.sig.returnType = ret → c.maxLocals = maxL → (∀ w ∈ ws, w.before a9 s = true) → s.vm.findClass y.cls = some m.cls → meth.locks = false → meth.name = y.name → va_K D vwCl (zT ct) s → (∀ q, s.heap.size ≤ q → A q) → eZ E A s s.heap → zN s → Q = MQ below (zQ D A rv post B) a9 s 0 0 A →
      ∀ (H : Heap) (locs : List Loc), zPD D A w0 H → va_S A s.heap H locs → ∀ ls : Array Slot, lv_has ls maxL (lv_args 0 As) → W p l e rm s m a9 below meth c H locs 0 0 Q (F0 m 0 ls [])) : cC l y ws rm D ct E As w0 rv post B := by
  intro sz
  refine Met.ofW (cc := cc) (maxL := maxL) (ret := ret) hy hw ?_
  intro p e s m args below meth c s₁ Bd hml hv
  obtain ⟨rfl, hsz, hP, hK, hD0, hZ, hN⟩ := hv
  have hts := atoms_spec (ws := ws) Bd.pre
  subst hsz
  have hD := hD0.self (sz := s.heap.size)
  have hl := lv_entry As (n := maxL) hlen
  rw [lg_entry_eq]
  exact body p e s m below meth c (va_A w0 s.heap.size) _ _ rfl Bd.exec Bd.bytes Bd.returns hml hts (findClass_of_methodNamed Bd.named) Bd.notSynchronized (name_of_methodNamed Bd.named Bd.method).1 hK (fun q h => Or.inr h) hZ hN rfl _ _ ⟨hP, hD⟩ va_S.rf _ hl
section CB
variable {p : Program} {l : Launch} {e : Env} {R : Room} {s : State} {m : MethodId} {args : Array Value} {below : List Frame} {meth : Method} {c : Code} {H : Heap} {locs : List Loc} {cells slots : Nat} {Q : State → Prop}
variable {cc : ByteArray} {pc : Nat} {ls : Array Slot} {rest st0 : List Value} {D : va_G} {ct : Nat → ClassId} {E : Nat → Nat} {A : Nat → Prop} {a : Nat} {ws w0 wr : va_W}
theorem cPc.blind {As : List Value} {sz : Nat} : FrameBlind (cPc D ct E As w0 sz) := fun a U g mk q => by
  obtain ⟨q0, q1, qP, qK, qD, qZ, qN⟩ := q
  exact ⟨q0, q1, qP, va_K.moved (u := U) (U := U.calling g mk a) (Vm.Alike.refl U.vm) qK, qD, eZ.same (u := U) (U := U.calling g mk a) rfl (Vm.Alike.refl U.vm) (va_Nw.same (u := U) (U := U.calling g mk a) rfl rfl qZ.2.2.2.2.2.2.2.2) qZ, ⟨fun x hx => va_Nw.same (u := U) (U := U.calling g mk a) rfl rfl (qN.1 x hx), va_AO.moved (u := U) (U := U.calling g mk a) (Vm.Alike.refl U.vm) qN.2.1, va_AO.moved (u := U) (U := U.calling g mk a) (Vm.Alike.refl U.vm) qN.2.2⟩⟩
theorem cpre {As : List Value} (hK : va_K D vwCl (zT ct) s) (hw : zPD D A ws H) (hS : va_S A s.heap H locs) (hA : ∀ q, s.heap.size ≤ q → A q) (hZ : eZ E A s s.heap) (hN : zN s) (isC : List Nat) (hnC : va_nd isC = true) (hC : isC.map (fun i => ws[i]?) = w0.map some) : ∀ U : State, U.heap = H → s.WarmedH U.vm → cPc D ct E As w0 H.size As.toArray U := by
  intro U hU hW
  have hF := va_free (wc := w0) hw.2 hS hA isC hC
  refine ⟨rfl, by rw [hU], by rw [hU]; exact zsub hw.1 isC hC, va_K.moved hW.alike hK, (hw.2.sub isC hnC hC).weaken (fun _ _ _ _ => trivial), ?_, fun q hq => va_Nw.warmM hW (hN.1 q hq), hN.2.1.moved hW.alike, hN.2.2.moved hW.alike⟩
  rw [hU]
  exact hZ.go hW hS.2.1 hF
theorem cpreS {As : List Value} (hK : va_K D vwCl (zT ct) s) (hw : zPD D A ws H) (hS : va_S A s.heap H locs) (hA : ∀ q, s.heap.size ≤ q → A q) (hZ : eZ E A s s.heap) (hN : zN s) (isC : List Nat) (hnC : va_nd isC = true) (hC : isC.map (fun i => ws[i]?) = w0.map some) : PreS s H (cPc D ct E As w0 H.size) As := ⟨cPc.blind, cpre hK hw hS hA hZ hN isC hnC hC⟩
theorem cpreV {As : List Value} {b : Addr} {q : vw_C} {fs : List Value} (hK : va_K D vwCl (zT ct) s) (hw : zPD D A ws H) (hS : va_S A s.heap H locs) (hA : ∀ q, s.heap.size ≤ q → A q) (hZ : eZ E A s s.heap) (hN : zN s) (isC : List Nat) (hnC : va_nd isC = true) (hC : isC.map (fun i => ws[i]?) = w0.map some) (ci q0 : Nat) (hc : vwCl[ci]? = some q) (he : ws[q0]? = some (b, .inr (ci, fs))) : PreV s H q.1 b (cPc D ct E (.ref b :: As) w0 H.size) As := ⟨cPc.blind, va_recv hK hw.1 hc he, cpre hK hw hS hA hZ hN isC hnC hC⟩
/-- a text is the receiver -/
theorem cpreT {As : List Value} {i : Nat} (hK : va_K D vwCl (zT ct) s) (hw : zPD D A ws H) (hS : va_S A s.heap H locs) (hA : ∀ q, s.heap.size ≤ q → A q) (hZ : eZ E A s s.heap) (hN : zN s) (hi : i < 37) : PreV s H RJ0 (E (40 + i)) (cPc D ct E (.ref (E (40 + i)) :: As) [] H.size) As := ⟨cPc.blind, va_Orecv (hZ.2.2.2.2.1 i hi).1 hS, cpre hK hw hS hA hZ hN [] rfl rfl⟩
section CR
variable {S : Type} {rv : S → Option Value} {post : S → Prop} {B : S → va_W}
theorem caretQ {v : Nat} (hQ : Q = MQ below (zQ D A rv post B) args s 0 0 A) (hx : p.tables.exec = Jvm.exec) (hb : c.code = cc) {n : String} (hr : meth.sig.returnType = some (.object n)) (hlocks : meth.locks = false) (u : S) (hv : rv u = some (.ref v)) (hp : post u) (hw : zPD D A (B u) H) (hS : va_S A s.heap H locs) (hdg : decode cc pc = .ok (.areturn, 1)) :
    W p l e R s m args below meth c H locs 0 0 Q (F0 m pc ls [.ref v]) := by
  subst hQ
  exact W.aret hx hb hr (Or.inl ⟨n, rfl⟩) (Or.inr ⟨v, rfl⟩) (fun t ht hW => ⟨⟨u, by rw [hv], hp, by rw [ht]; exact hw⟩, hS.F ht⟩) hS.2.2 hdg hlocks
theorem clretQ {v : Int64} (hQ : Q = MQ below (zQ D A rv post B) args s 0 0 A) (hx : p.tables.exec = Jvm.exec) (hb : c.code = cc) (hr : meth.sig.returnType = some .long) (hlocks : meth.locks = false) (u : S) (hv : rv u = some (.long v)) (hp : post u) (hw : zPD D A (B u) H) (hS : va_S A s.heap H locs) (hdg : decode cc pc = .ok (.lreturn, 1)) :
    W p l e R s m args below meth c H locs 0 0 Q (F0 m pc ls [.long v]) := by
  subst hQ
  exact W.lret hx hb hr (fun t ht hW => ⟨⟨u, by rw [hv], hp, by rw [ht]; exact hw⟩, hS.F ht⟩) hS.2.2 hdg hlocks
end CR
section CW
variable {y : Nat → Nat} {r : zRr} {q : zRq}
theorem cmgen {P : zRr → Prop} {G : Prop} {r2 : zRr} (hw : zPD D A (kW ct E y r2 q) H) (hp : P r2) (k : ∀ r1 : zRr, r1 = r2 → zPD D A (kW ct E y r1 q) H → P r1 → G) : G := k r2 rfl hw hp
theorem cqgen {G : Prop} {q2 : zRq} (hw : zPD D A (kW ct E y r q2) H) (k : ∀ q1 : zRq, q1 = q2 → zPD D A (kW ct E y r q1) H → G) : G := k q2 rfl hw
theorem mcald (hx : p.tables.exec = Jvm.exec) (hb : c.code = cc) (hK : va_K D vwCl (zT ct) s) (hw : zPD D A ws H) (q0 : Nat) {n : Nat} {f : Nat → Int32} (ha : ws[q0]? = some (a, .inl (ct 2, n, .inl f))) {i : Int32} {lo hi : Int} (h : zI lo hi i) (hk : 0 ≤ lo ∧ hi < (n : Int) ∧ n < 2147483648) (hdg : decode cc pc = .ok (.caload, 1))
    (kk : W p l e R s m args below meth c H locs cells slots Q (F0 m (pc + 1) ls (.int (f (zn i)) :: rest))) : W p l e R s m args below meth c H locs cells slots Q (F0 m pc ls (.int i :: .ref a :: rest)) :=
  zcald hx hb hK hw q0 ha (zn i) (h.ix hk).1 (h.ix hk).2 hk.2.2 hdg kk
theorem maald (hx : p.tables.exec = Jvm.exec) (hb : c.code = cc) (hK : va_K D vwCl (zT ct) s) (hw : zPD D A ws H) (q0 t0 : Nat) {cA : ClassId} {C : String} {n : Nat} {f : Nat → Option Nat} (ha : ws[q0]? = some (a, .inl (cA, n, .inr (.inr (.inr (.inr f)))))) (ht : (zT ct)[t0]? = some (cA, .object C)) {i : Int32} {lo hi : Int} (h : zI lo hi i) (hk : 0 ≤ lo ∧ hi < (n : Int) ∧ n < 2147483648) (b : Nat) (hq : f (zn i) = some b) (hdg : decode cc pc = .ok (.aaload, 1))
    (kk : W p l e R s m args below meth c H locs cells slots Q (F0 m (pc + 1) ls (.ref b :: rest))) : W p l e R s m args below meth c H locs cells slots Q (F0 m pc ls (.int i :: .ref a :: rest)) :=
  zaald hx hb hK hw q0 t0 ha ht (zn i) (h.ix hk).1 (h.ix hk).2 hk.2.2 b hq hdg kk
/-- a constant of Sort is fetched -/
theorem cgets (i : Nat) (hi : i < 33) (hx : p.tables.exec = Jvm.exec) (hb : c.code = cc) {own : String} {index : Nat} (hZ : eZ E A s s.heap) (hS : va_S A s.heap H locs) (hown : s.vm.findClass own = some m.cls) (hlink : (Cond.fieldLink own index RX7 (eN.getD i "") "LBeardPass$Sort;").before args s = true) (hdg : decode cc pc = .ok (.getstatic index, 3))
    (kk : W p l e R s m args below meth c H locs cells slots Q (F0 m (pc + 3) ls (.ref (E i) :: rest))) : W p l e R s m args below meth c H locs cells slots Q (F0 m pc ls rest) :=
  va_gets (C := RX7) hx hb (hZ.1 i hi) hS hown hlink (fun _ h => h) hdg kk
end CW
end CB
end
section
/-! ===== the class: small rows of numbers; copies ===== -/
theorem ksw {x : Int32} {lo hi : Int} {k : Nat} (h0 : lo + (k : Int) = hi + 1) (h : ¬ (x.toInt < lo ∨ hi < x.toInt)) : ∃ j : Nat, j < k ∧ x.toInt = lo + (j : Int) :=
  ⟨(x.toInt - lo).toNat, by omega, by omega⟩
theorem zI.vin {a b : Int} {v : Int32} {n : Nat} (h : zI a b v) (k : 0 ≤ a ∧ b < (n : Int) ∧ n < 2147483648) : vp_in v n := by
  obtain ⟨e, hk⟩ := h.ix k
  rw [e]
  exact vp_in_nI hk k.2.2
theorem zI.t37 {a b : Int} {v : Int32} (h : zI a b v) (k : 0 ≤ a ∧ b < 37) : zn v < 37 := by
  have h1 := h.nn k.1
  omega
theorem zI.t33 {a b : Int} {v : Int32} (h : zI a b v) (k : 0 ≤ a ∧ b < 33) : zn v < 33 := by
  have h1 := h.nn k.1
  omega
theorem eLb {i : Nat} (hi : i < 37) : zI 0 8 (nI (eL.getD i 0)) := by
  have h : ∀ i : Nat, i < 37 → eL.getD i 0 ≤ 8 := by decide
  have h2 := h i hi
  unfold zI
  rw [nI_toInt (by omega)]
  constructor <;> omega
theorem kcpy {f g : Nat → Int32} {lo hi : Nat → Int} {n : Nat} (hf : ∀ j, zI (lo j) (hi j) (f j)) (hg : ∀ j, zI (lo j) (hi j) (g j)) (j : Nat) : zI (lo j) (hi j) (va_cpy f g 0 0 n j) := by
  unfold va_cpy
  split
  · rw [show 0 + (j - 0) = j by omega]; exact hf j
  · exact hg j
theorem va_cpy_in {α : Type} {f g : Nat → α} {n j : Nat} (h : j < n) : va_cpy f g 0 0 n j = f j := by
  unfold va_cpy
  rw [if_pos ⟨Nat.zero_le _, by omega⟩, show 0 + (j - 0) = j by omega]
theorem va_cpy_out {α : Type} {f g : Nat → α} {n j : Nat} (h : n ≤ j) : va_cpy f g 0 0 n j = g j := by
  unfold va_cpy
  rw [if_neg (by omega)]
theorem kJ.setl {r : zRr} (h : kJ r) {n j : Nat} {v : Int32} (hn : n = 171 ∨ n = 183) (hj : ¬ j = 10) (hv : zI (klo n j) (khi n j) v) : kJ (zset r n (upd (r n) j v)) := by
  have e : ∀ a, a ≠ n → zset r n (upd (r n) j v) a = r a := fun a ha => zset_ne ha
  refine ⟨h.i.set hv, ?_, ?_, h.2.2.2.row (fun k hk => e k (fun e2 => by subst e2; rcases hn with rfl | rfl <;> cases hk))⟩
  · intro i hi
    rcases hn with rfl | rfl
    · rw [zset_eq, pk_un (by omega)] at hi
      rw [e _ (by decide)]; exact h.2.1 i hi
    · rw [e _ (by decide)] at hi
      rw [e _ (by decide)]; exact h.2.1 i hi
  · intro i hi
    rcases hn with rfl | rfl
    · rw [e _ (by decide)] at hi
      rw [e _ (by decide)]; exact h.2.2.1 i hi
    · rw [zset_eq, pk_un (by omega)] at hi
      rw [e _ (by decide)]; exact h.2.2.1 i hi
/-- nobody is told yet -/
theorem kJ.pers0 {r : zRr} (h : kJ r) {v : Int32} (hv : v = 0) : kJ (zset r 183 (upd (r 183) 10 v)) := by
  have e : ∀ a, a ≠ 183 → zset r 183 (upd (r 183) 10 v) a = r a := fun a ha => zset_ne ha
  refine ⟨h.i.set (by rw [hv]; exact (show zI 0 6 (0 : Int32) from ⟨by decide, by decide⟩)), h.2.1.row (e _ (by decide)) (e _ (by decide)), ?_, h.2.2.2.row (fun k hk => e k (fun e2 => by subst e2; cases hk))⟩
  intro i hi
  rw [zset_eq, pk_us, hv] at hi
  have e0 : (0 : Int32).toInt = 0 := by decide
  omega
/-- one more is told: his home is a town -/
theorem kJ.pers1 {r : zRr} (h : kJ r) {p : Int32} (hp : r 183 10 = p) (hb : zI 0 5 p) (hh : zI 0 5 (r 188 (zn p))) : kJ (zset r 183 (upd (r 183) 10 (r 183 10 + 1))) := by
  have e : ∀ a, a ≠ 183 → zset r 183 (upd (r 183) 10 (r 183 10 + 1)) a = r a := fun a ha => zset_ne ha
  have e1 : (r 183 10 + 1).toInt = p.toInt + 1 := by rw [hp]; exact i32_s hb (by decide)
  refine ⟨h.i.set (show zI 0 6 (r 183 10 + 1) by obtain ⟨q1, q2⟩ := hb; constructor <;> omega), h.2.1.row (e _ (by decide)) (e _ (by decide)), ?_, h.2.2.2.row (fun k hk => e k (fun e2 => by subst e2; cases hk))⟩
  intro i hi
  rw [zset_eq, pk_us, e1] at hi
  rw [e _ (by decide)]
  by_cases e2 : i = zn p
  · rw [e2]; exact hh
  · refine h.2.2.1 i ?_
    rw [hp]
    have := hb.1
    unfold zn at e2
    omega
/-- a home that is only being read -/
theorem kJ.home {r : zRr} (h : kJ r) {p v : Int32} (hp : (r 183 10).toInt ≤ p.toInt) (hb : zI 0 5 p) (hv : zI (-1) 5 v) : kJ (zset r 188 (upd (r 188) (zn p) v)) := by
  have e : ∀ a, a ≠ 188 → zset r 188 (upd (r 188) (zn p) v) a = r a := fun a ha => zset_ne ha
  refine ⟨h.i.set hv, h.2.1.row (e _ (by decide)) (e _ (by decide)), ?_, h.2.2.2.row (fun k hk => e k (fun e2 => by subst e2; cases hk))⟩
  intro i hi
  rw [e _ (by decide)] at hi
  have h2 := hb.1
  rw [show (183 : Nat) + 5 = 188 from rfl, zset_eq, pk_un (by unfold zn; omega)]
  exact h.2.2.1 i hi
theorem va_nd_of : ∀ {l : List Nat}, l.Nodup → va_nd l = true
  | [], _ => rfl
  | a :: l, h => by
    obtain ⟨h1, h2⟩ := List.nodup_cons.mp h
    simp only [va_nd, Bool.and_eq_true, decide_eq_true_eq]
    exact ⟨h1, va_nd_of h2⟩
/-! a call that knows of some cells alone -/
section KS
variable {p : Program} {l : Launch} {e : Env} {R : Room} {s : State} {m : MethodId} {args : Array Value} {below : List Frame} {meth : Method} {c : Code} {H : Heap} {locs : List Loc} {cells slots : Nat} {Q : State → Prop}
variable {cc : ByteArray} {pc : Nat} {ls : Array Slot} {rest st0 : List Value} {D : va_G} {ct : Nat → ClassId} {E y : Nat → Nat} {A : Nat → Prop} {a : Nat} {w0 : va_W} {r : zRr} {q : zRq}
noncomputable def kcl (ct : Nat → ClassId) (E y : Nat → Nat) (r : zRr) (q : zRq) (n : Nat) : Nat × va_E := (y n, kc ct E y n (r n) (q n))
theorem kget1 {n : Nat} (h : n < 207) : (kW ct E y r q)[n]? = some (kcl ct E y r q n) := kWat h rfl
theorem kmap {isC : List Nat} (hlt : ∀ n ∈ isC, n < 207) : isC.map (fun i => (kW ct E y r q)[i]?) = (isC.map (kcl ct E y r q)).map some := by
  rw [List.map_map]
  exact List.map_congr_left (fun n hn => kget1 (hlt n hn))
theorem kcall {S : Type} {rv : S → Option Value} {post : S → Prop} {B : S → va_W} {a9 : Array Value} (isC : List Nat) (hlt : ∀ n ∈ isC, n < 207) (hC : isC.map (kcl ct E y r q) = w0)
    (hr : va_Run p l e R s m args below meth c H locs 0 0 0 0 (F0 m pc ls st0) rest (zQ D (va_A w0 H.size) rv post B a9) (va_A w0 H.size)) (hw : zPD D A (kW ct E y r q) H) (hS : va_S A s.heap H locs) (hA : ∀ q, s.heap.size ≤ q → A q) (pc2 : Nat) (h2 : pc + 3 = pc2)
    (r1 : zRr) (q1 : zRq) (hB : ∀ u, isC.map (kcl ct E y r1 q1) = B u) (ho : ∀ n, n ∉ isC → r1 n = r n ∧ q1 n = q n)
    (kk : ∀ (u : S) (H1 : Heap) (locs1 : List Loc), post u → zPD D A (kW ct E y r1 q1) H1 → va_S A s.heap H1 locs1 → W p l e R s m args below meth c H1 locs1 0 0 Q (F0 m pc2 ls ((rv u).toList ++ rest))) : W p l e R s m args below meth c H locs 0 0 Q (F0 m pc ls st0) := by
  subst h2
  have hlR : ∀ n ∈ (List.range 207).filter (fun i => !isC.contains i), n < 207 := fun n hn => List.mem_range.mp (List.mem_filter.mp hn).1
  refine zcall (wr := ((List.range 207).filter (fun i => !isC.contains i)).map (kcl ct E y r q)) hr hw hS hA isC ((List.range 207).filter (fun i => !isC.contains i)) (by rw [← hC]; exact kmap hlt) (kmap hlR) ?_ ?_ ?_
  · exact va_nd_of (List.nodup_range.filter _)
  · intro i hi hc
    have h1 := (List.mem_filter.mp hi).2
    rw [List.contains_iff_mem.mpr hc] at h1
    cases h1
  · intro u H1 locs1 hp hz hs
    refine kk u H1 locs1 hp ⟨?_, ?_⟩ hs
    · intro k q9 hk
      have hk2 : k < 207 := by
        have := (List.getElem?_eq_some_iff.mp hk).1
        rw [kWlen] at this; exact this
      rw [kget1 hk2] at hk
      cases hk
      have hm : kcl ct E y r1 q1 k ∈ ((List.range 207).filter (fun i => !isC.contains i)).map (kcl ct E y r q) ++ B u := by
        by_cases hc : k ∈ isC
        · rw [← hB u]
          exact List.mem_append_right _ (List.mem_map_of_mem hc)
        · refine List.mem_append_left _ ?_
          obtain ⟨o1, o2⟩ := ho k hc
          have e9 : kcl ct E y r1 q1 k = kcl ct E y r q k := by unfold kcl; rw [o1, o2]
          rw [e9]
          exact List.mem_map_of_mem (List.mem_filter.mpr ⟨List.mem_range.mpr hk2, by simp [hc]⟩)
      obtain ⟨j, hj⟩ := List.getElem?_of_mem hm
      exact hz.1 j _ hj
    · have had : ∀ k : Nat, ((kW ct E y r1 q1)[k]?).map Prod.fst = ((kW ct E y r q)[k]?).map Prod.fst := by
        intro k
        by_cases hk : k < 207
        · rw [kget1 hk, kget1 hk]
          show some (y k) = some (y k)
          rfl
        · rw [List.getElem?_eq_none (by rw [kWlen]; omega), List.getElem?_eq_none (by rw [kWlen]; omega)]
      have get : ∀ (k : Nat) (x : Nat × va_E), (kW ct E y r1 q1)[k]? = some x → ∃ x', (kW ct E y r q)[k]? = some x' ∧ x'.1 = x.1 := by
        intro k x hx
        have h9 := had k
        rw [hx] at h9
        cases h8 : (kW ct E y r q)[k]? with
        | none => rw [h8] at h9; cases h9
        | some x' => rw [h8] at h9; exact ⟨x', rfl, (Option.some.inj h9).symm⟩
      refine ⟨fun i j x z hx hz e9 => ?_, fun k x hx => ?_⟩
      · obtain ⟨x', h1, h3⟩ := get i x hx
        obtain ⟨z', h4, h5⟩ := get j z hz
        exact hw.2.1 i j x' z' h1 h4 (by rw [h3, h5]; exact e9)
      · obtain ⟨x', h1, h3⟩ := get k x hx
        rw [← h3]
        exact hw.2.2 k x' h1
end KS
theorem eLn {i : Nat} (hi : i < 37) : eL.getD i 0 ≤ 8 := by
  have h : ∀ i : Nat, i < 37 → eL.getD i 0 ≤ 8 := by decide
  exact h i hi
theorem eLin {i : Nat} {k : Int32} {b : Int} (hi : i < 37) (hk : zI 0 b k) (h : k < nI (eL.getD i 0)) : vp_in k (eL.getD i 0) := by
  have h1 := eLn hi
  have h2 := Int32.lt_iff_toInt_lt.mp h
  rw [nI_toInt (by omega)] at h2
  have h3 := hk.1
  have e : k = nI (zn k) := Int32.toInt_inj.mp (by rw [nI_toInt (by unfold zn; omega)]; unfold zn; omega)
  rw [e]
  exact vp_in_nI (by unfold zn; omega) (by omega)
end
section
/-! ===== the class: standings, journeys, sightings, lands are copied ===== -/
section KC8
variable {ct : Nat → ClassId} {E y : Nat → Nat} {r : zRr} {q : zRq} {n m : Nat}
noncomputable def kSt (n : Nat) : Prop := n < 138 ∧ n % 6 = 0
theorem kS0 (h : kSt n) : kcl ct E y r q n = (y n, .inr (7, [.ref (y (n + 1)), .ref (y (n + 2)), .ref (y (n + 3)), .ref (y (n + 4)), .ref (y (n + 5)), .int (r n 5)])) := by
  unfold kcl kc; rw [if_pos h.1, if_pos h.2]
theorem kSk (k : Nat) (h : kSt n) (hk : 1 ≤ k ∧ k ≤ 5) : kcl ct E y r q (n + k) = (y (n + k), .inl (ct 0, 6, .inl (r (n + k)))) := by
  obtain ⟨h1, h2⟩ := h
  unfold kcl kc; rw [if_pos (by omega), if_neg (by omega)]
noncomputable def kis8 (n m : Nat) : List Nat := [n, n + 1, n + 2, n + 3, n + 4, n + 5, m, m + 1, m + 2, m + 3, m + 4, m + 5]
theorem kis8l (hn : kSt n) (hm : kSt m) : ∀ a ∈ kis8 n m, a < 207 := by
  obtain ⟨h1, h2⟩ := hn
  obtain ⟨h3, h4⟩ := hm
  intro a ha
  simp only [kis8, List.mem_cons, List.not_mem_nil, or_false] at ha
  omega
theorem kis8n (hn : kSt n) (hm : kSt m) (hnm : n ≠ m) : va_nd (kis8 n m) = true := by
  obtain ⟨h1, h2⟩ := hn
  obtain ⟨h3, h4⟩ := hm
  simp only [va_nd, kis8, List.mem_cons, List.not_mem_nil, or_false, Bool.and_eq_true, decide_eq_true_eq]
  refine ⟨?_, ?_, ?_, ?_, ?_, ?_, ?_, ?_, ?_, ?_, ?_, not_false, trivial⟩ <;> omega
theorem kis8w (hn : kSt n) (hm : kSt m) : (kis8 n m).map (kcl ct E y r q) = [(y n, .inr (7, [.ref (y (n + 1)), .ref (y (n + 2)), .ref (y (n + 3)), .ref (y (n + 4)), .ref (y (n + 5)), .int (r n 5)])), (y (n + 1), .inl (ct 0, 6, .inl (r (n + 1)))), (y (n + 2), .inl (ct 0, 6, .inl (r (n + 2)))), (y (n + 3), .inl (ct 0, 6, .inl (r (n + 3)))), (y (n + 4), .inl (ct 0, 6, .inl (r (n + 4)))), (y (n + 5), .inl (ct 0, 6, .inl (r (n + 5)))), (y m, .inr (7, [.ref (y (m + 1)), .ref (y (m + 2)), .ref (y (m + 3)), .ref (y (m + 4)), .ref (y (m + 5)), .int (r m 5)])), (y (m + 1), .inl (ct 0, 6, .inl (r (m + 1)))), (y (m + 2), .inl (ct 0, 6, .inl (r (m + 2)))), (y (m + 3), .inl (ct 0, 6, .inl (r (m + 3)))), (y (m + 4), .inl (ct 0, 6, .inl (r (m + 4)))), (y (m + 5), .inl (ct 0, 6, .inl (r (m + 5))))] := by
  simp only [kis8, List.map_cons, List.map_nil]
  rw [kS0 hn, kS0 hm, kSk 1 hn (by decide), kSk 2 hn (by decide), kSk 3 hn (by decide), kSk 4 hn (by decide), kSk 5 hn (by decide), kSk 1 hm (by decide), kSk 2 hm (by decide), kSk 3 hm (by decide), kSk 4 hm (by decide), kSk 5 hm (by decide)]
theorem kis8o (hn : kSt n) : (kW ct E y r q)[n]? = some (y n, .inr (7, [.ref (y (n + 1)), .ref (y (n + 2)), .ref (y (n + 3)), .ref (y (n + 4)), .ref (y (n + 5)), .int (r n 5)])) := by
  rw [kget1 (by have := hn.1; omega), kS0 hn]
noncomputable def kcp8 (r : zRr) (n m : Nat) : zRr := fun a => if a = n then upd (r n) 5 (r m 5) else if n < a ∧ a < n + 6 then va_cpy (r (a - n + m)) (r a) 0 0 6 else r a
theorem kcp8_0 : kcp8 r n m n = upd (r n) 5 (r m 5) := if_pos rfl
theorem kcp8_k {k : Nat} (hk : 1 ≤ k ∧ k ≤ 5) : kcp8 r n m (n + k) = va_cpy (r (m + k)) (r (n + k)) 0 0 6 := by
  unfold kcp8
  rw [if_neg (by omega), if_pos (by omega), show n + k - n + m = m + k by omega]
theorem kcp8_o {a : Nat} (h : a < n ∨ n + 6 ≤ a) : kcp8 r n m a = r a := by
  unfold kcp8
  rw [if_neg (by omega), if_neg (by omega)]
theorem kis8B (hn : kSt n) (hm : kSt m) (hnm : n ≠ m) : (kis8 n m).map (kcl ct E y (kcp8 r n m) q) = [(y n, .inr (7, [.ref (y (n + 1)), .ref (y (n + 2)), .ref (y (n + 3)), .ref (y (n + 4)), .ref (y (n + 5)), .int (r m 5)])), (y (n + 1), .inl (ct 0, 6, .inl (va_cpy (r (m + 1)) (r (n + 1)) 0 0 6))), (y (n + 2), .inl (ct 0, 6, .inl (va_cpy (r (m + 2)) (r (n + 2)) 0 0 6))), (y (n + 3), .inl (ct 0, 6, .inl (va_cpy (r (m + 3)) (r (n + 3)) 0 0 6))), (y (n + 4), .inl (ct 0, 6, .inl (va_cpy (r (m + 4)) (r (n + 4)) 0 0 6))), (y (n + 5), .inl (ct 0, 6, .inl (va_cpy (r (m + 5)) (r (n + 5)) 0 0 6))), (y m, .inr (7, [.ref (y (m + 1)), .ref (y (m + 2)), .ref (y (m + 3)), .ref (y (m + 4)), .ref (y (m + 5)), .int (r m 5)])), (y (m + 1), .inl (ct 0, 6, .inl (r (m + 1)))), (y (m + 2), .inl (ct 0, 6, .inl (r (m + 2)))), (y (m + 3), .inl (ct 0, 6, .inl (r (m + 3)))), (y (m + 4), .inl (ct 0, 6, .inl (r (m + 4)))), (y (m + 5), .inl (ct 0, 6, .inl (r (m + 5))))] := by
  have hs : m + 6 ≤ n ∨ n + 6 ≤ m := by
    obtain ⟨h1, h2⟩ := hn
    obtain ⟨h3, h4⟩ := hm
    omega
  rw [kis8w hn hm, kcp8_0, pk_us, kcp8_k (k := 1) (by decide), kcp8_k (k := 2) (by decide), kcp8_k (k := 3) (by decide), kcp8_k (k := 4) (by decide), kcp8_k (k := 5) (by decide), kcp8_o (a := m) (by omega), kcp8_o (a := m + 1) (by omega), kcp8_o (a := m + 2) (by omega), kcp8_o (a := m + 3) (by omega), kcp8_o (a := m + 4) (by omega), kcp8_o (a := m + 5) (by omega)]
theorem kis8x (a : Nat) (ha : a ∉ kis8 n m) : kcp8 r n m a = r a ∧ q a = q a := by
  simp only [kis8, List.mem_cons, List.not_mem_nil, or_false, not_or] at ha
  exact ⟨kcp8_o (by omega), rfl⟩
theorem klo8 (h : n < 138) (j : Nat) : klo n j = if n % 6 = 1 then 0 else if n % 6 = 3 then 0 else (-2147483648) := by unfold klo; rw [if_pos h]
theorem khi8 (h : n < 138) (j : Nat) : khi n j = if n % 6 = 1 then 5 else if n % 6 = 3 then 20 else 2147483647 := by unfold khi; rw [if_pos h]
theorem kJ.copy8 (h : kJ r) (hn : kSt n) (hm : kSt m) : kJ (kcp8 r n m) := by
  have o : ∀ a, 138 ≤ a → kcp8 r n m a = r a := fun a ha => kcp8_o (by have := hn.1; have := hn.2; omega)
  refine ⟨?_, h.2.1.row (o _ (by decide)) (o _ (by decide)), h.2.2.1.row (o _ (by decide)) (o _ (by decide)), h.2.2.2.row (fun k hk => o k ?_)⟩
  · intro a j
    by_cases h1 : a < n ∨ n + 6 ≤ a
    · rw [kcp8_o h1]; exact h.i a j
    · obtain ⟨k, hk, rfl⟩ : ∃ k, k ≤ 5 ∧ a = n + k := ⟨a - n, by omega, by omega⟩
      obtain ⟨n1, n2⟩ := hn
      obtain ⟨m1, m2⟩ := hm
      by_cases h0 : k = 0
      · subst h0
        rw [Nat.add_zero, klo8 (by omega), khi8 (by omega), if_neg (by omega), if_neg (by omega), if_neg (by omega), if_neg (by omega)]
        exact zI.top _
      · rw [kcp8_k (by omega)]
        have e1 : klo (n + k) j = klo (m + k) j := by rw [klo8 (by omega), klo8 (by omega), show (n + k) % 6 = (m + k) % 6 by omega]
        have e2 : khi (n + k) j = khi (m + k) j := by rw [khi8 (by omega), khi8 (by omega), show (n + k) % 6 = (m + k) % 6 by omega]
        by_cases hj : j < 6
        · rw [va_cpy_in hj, e1, e2]; exact h.i (m + k) j
        · rw [va_cpy_out (by omega)]; exact h.i (n + k) j
  · have h1 := List.contains_iff_mem.mp hk
    simp only [List.mem_cons, List.not_mem_nil, or_false] at h1
    omega
/-! journeys -/
noncomputable def kJo (n : Nat) : Prop := 138 ≤ n ∧ n < 162 ∧ (n - 138) % 4 = 0
theorem kj0 (h : kJo n) : kcl ct E y r q n = (y n, .inr (1, [.ref (y (n + 1)), .ref (y (n + 2)), .ref (y (n + 3)), .int (r n 3)])) := by
  obtain ⟨h1, h2, h3⟩ := h
  unfold kcl kc; rw [if_neg (by omega), if_pos h2, if_pos h3]
theorem kjk (k : Nat) (h : kJo n) (hk : 1 ≤ k ∧ k ≤ 3) : kcl ct E y r q (n + k) = (y (n + k), .inl (ct 0, 40, .inl (r (n + k)))) := by
  obtain ⟨h1, h2, h3⟩ := h
  unfold kcl kc; rw [if_neg (by omega), if_pos (by omega), if_neg (by omega)]
noncomputable def kis1 (n m : Nat) : List Nat := [n, n + 1, n + 2, n + 3, m, m + 1, m + 2, m + 3]
theorem kis1l (hn : kJo n) (hm : kJo m) : ∀ a ∈ kis1 n m, a < 207 := by
  obtain ⟨h1, h2, h3⟩ := hn
  obtain ⟨h4, h5, h6⟩ := hm
  intro a ha
  simp only [kis1, List.mem_cons, List.not_mem_nil, or_false] at ha
  omega
theorem kis1n (hn : kJo n) (hm : kJo m) (hnm : n ≠ m) : va_nd (kis1 n m) = true := by
  obtain ⟨h1, h2, h3⟩ := hn
  obtain ⟨h4, h5, h6⟩ := hm
  simp only [va_nd, kis1, List.mem_cons, List.not_mem_nil, or_false, Bool.and_eq_true, decide_eq_true_eq]
  refine ⟨?_, ?_, ?_, ?_, ?_, ?_, ?_, not_false, trivial⟩ <;> omega
theorem kis1w (hn : kJo n) (hm : kJo m) {v : Int32} (hv : r m 3 = v) : (kis1 n m).map (kcl ct E y r q) = [(y n, .inr (1, [.ref (y (n + 1)), .ref (y (n + 2)), .ref (y (n + 3)), .int (r n 3)])), (y (n + 1), .inl (ct 0, 40, .inl (r (n + 1)))), (y (n + 2), .inl (ct 0, 40, .inl (r (n + 2)))), (y (n + 3), .inl (ct 0, 40, .inl (r (n + 3)))), (y m, .inr (1, [.ref (y (m + 1)), .ref (y (m + 2)), .ref (y (m + 3)), .int v])), (y (m + 1), .inl (ct 0, 40, .inl (r (m + 1)))), (y (m + 2), .inl (ct 0, 40, .inl (r (m + 2)))), (y (m + 3), .inl (ct 0, 40, .inl (r (m + 3))))] := by
  subst hv
  simp only [kis1, List.map_cons, List.map_nil]
  rw [kj0 hn, kj0 hm, kjk 1 hn (by decide), kjk 2 hn (by decide), kjk 3 hn (by decide), kjk 1 hm (by decide), kjk 2 hm (by decide), kjk 3 hm (by decide)]
theorem kis1o (hn : kJo n) : (kW ct E y r q)[n]? = some (y n, .inr (1, [.ref (y (n + 1)), .ref (y (n + 2)), .ref (y (n + 3)), .int (r n 3)])) := by
  rw [kget1 (by have := hn.2.1; omega), kj0 hn]
noncomputable def kcp1 (r : zRr) (n m : Nat) : zRr := fun a => if a = n then upd (r n) 3 (r m 3) else if n < a ∧ a < n + 4 then va_cpy (r (a - n + m)) (r a) 0 0 (zn (r m 3)) else r a
theorem kcp1_0 : kcp1 r n m n = upd (r n) 3 (r m 3) := if_pos rfl
theorem kcp1_k {k : Nat} (hk : 1 ≤ k ∧ k ≤ 3) : kcp1 r n m (n + k) = va_cpy (r (m + k)) (r (n + k)) 0 0 (zn (r m 3)) := by
  unfold kcp1
  rw [if_neg (by omega), if_pos (by omega), show n + k - n + m = m + k by omega]
theorem kcp1_o {a : Nat} (h : a < n ∨ n + 4 ≤ a) : kcp1 r n m a = r a := by
  unfold kcp1
  rw [if_neg (by omega), if_neg (by omega)]
theorem kis1B (hn : kJo n) (hm : kJo m) (hnm : n ≠ m) {v : Int32} (hv : r m 3 = v) : (kis1 n m).map (kcl ct E y (kcp1 r n m) q) = [(y n, .inr (1, [.ref (y (n + 1)), .ref (y (n + 2)), .ref (y (n + 3)), .int v])), (y (n + 1), .inl (ct 0, 40, .inl (va_cpy (r (m + 1)) (r (n + 1)) 0 0 (zn (r m 3))))), (y (n + 2), .inl (ct 0, 40, .inl (va_cpy (r (m + 2)) (r (n + 2)) 0 0 (zn (r m 3))))), (y (n + 3), .inl (ct 0, 40, .inl (va_cpy (r (m + 3)) (r (n + 3)) 0 0 (zn (r m 3))))), (y m, .inr (1, [.ref (y (m + 1)), .ref (y (m + 2)), .ref (y (m + 3)), .int v])), (y (m + 1), .inl (ct 0, 40, .inl (r (m + 1)))), (y (m + 2), .inl (ct 0, 40, .inl (r (m + 2)))), (y (m + 3), .inl (ct 0, 40, .inl (r (m + 3))))] := by
  have hs : m + 4 ≤ n ∨ n + 4 ≤ m := by
    obtain ⟨h1, h2, h3⟩ := hn
    obtain ⟨h4, h5, h6⟩ := hm
    omega
  rw [kis1w hn hm (v := v) (by rw [kcp1_o (by omega)]; exact hv), kcp1_0, pk_us, kcp1_k (k := 1) (by decide), kcp1_k (k := 2) (by decide), kcp1_k (k := 3) (by decide), kcp1_o (a := m + 1) (by omega), kcp1_o (a := m + 2) (by omega), kcp1_o (a := m + 3) (by omega), hv]
theorem kis1x (a : Nat) (ha : a ∉ kis1 n m) : kcp1 r n m a = r a ∧ q a = q a := by
  simp only [kis1, List.mem_cons, List.not_mem_nil, or_false, not_or] at ha
  exact ⟨kcp1_o (by omega), rfl⟩
/-- the lines of a journey, as far as it goes, are right -/
noncomputable def kL (r : zRr) (m : Nat) : Prop := ∀ j : Nat, (j : Int) < (r m 3).toInt → (r (m + 1) j = 0 → zI 0 5 (r (m + 3) j)) ∧ zI 0 5 (r (m + 2) j)
theorem kG.L {r : zRr} (h : kJ r) {m : Nat} (hm : m = 138 ∨ m = 146 ∨ m = 150 ∨ m = 154 ∨ m = 158) : kL r m := by
  obtain ⟨h1, -, -, g1, g2, g3, g4, g5⟩ := h
  intro j hj
  rcases hm with rfl | rfl | rfl | rfl | rfl
  · exact ⟨g1 j, h1 140 j⟩
  · exact ⟨g2 j, h1 148 j⟩
  · exact ⟨g3 j, h1 152 j⟩
  · exact ⟨g4 j, h1 156 j⟩
  · exact ⟨g5 j, h1 160 j⟩
theorem kcp1G {r : zRr} {n m : Nat} (hn : kG r n) (hm : kL r m) (hb : 0 ≤ (r m 3).toInt) : kG (kcp1 r n m) n := by
  intro j
  rw [kcp1_k (k := 1) (by decide), kcp1_k (k := 3) (by decide)]
  by_cases hj : j < zn (r m 3)
  · rw [va_cpy_in hj, va_cpy_in hj]
    exact (hm j (by unfold zn at hj; omega)).1
  · rw [va_cpy_out (by omega), va_cpy_out (by omega)]
    exact hn j
theorem kJ.copy1 {r : zRr} (h : kJ r) {n m : Nat} (hn : n = 138 ∨ n = 146 ∨ n = 150 ∨ n = 154 ∨ n = 158) (hm : kL r m) (hb : zI 0 40 (r m 3)) : kJ (kcp1 r n m) := by
  have o : ∀ a, a < n ∨ n + 4 ≤ a → kcp1 r n m a = r a := fun a ha => kcp1_o ha
  have hg := kcp1G (r := r) (n := n) (m := m) (by
    obtain ⟨-, -, -, g1, g2, g3, g4, g5⟩ := h
    rcases hn with rfl | rfl | rfl | rfl | rfl <;> assumption) hm hb.1
  obtain ⟨h1, h2, h3, g1, g2, g3, g4, g5⟩ := h
  have hI : kI (kcp1 r n m) := by
    intro a j
    by_cases ha : a < n ∨ n + 4 ≤ a
    · rw [o a ha]; exact h1 a j
    · obtain ⟨k, hk, rfl⟩ : ∃ k, k ≤ 3 ∧ a = n + k := ⟨a - n, by omega, by omega⟩
      by_cases h0 : k = 0
      · subst h0
        rw [Nat.add_zero, kcp1_0]
        have hz : ∀ v : Int32, zI 0 40 v → zI (klo n j) (khi n j) v := fun v hv => by rcases hn with rfl | rfl | rfl | rfl | rfl <;> exact hv
        by_cases hj : j = 5 - 2
        · subst hj
          rw [pk_us]; exact hz _ hb
        · rw [pk_un hj]; exact h1 n j
      · rw [kcp1_k (by omega)]
        by_cases hj : j < zn (r m 3)
        · rw [va_cpy_in hj]
          have h9 := hm j (by have := hb.1; unfold zn at hj; omega)
          by_cases h8 : k = 2
          · subst h8
            have hz : zI 0 5 (r (m + 2) j) → zI (klo (n + 2) j) (khi (n + 2) j) (r (m + 2) j) := fun hv => by rcases hn with rfl | rfl | rfl | rfl | rfl <;> exact hv
            exact hz h9.2
          · have hz : zI (klo (n + k) j) (khi (n + k) j) (r (m + k) j) := by
              rcases (show k = 1 ∨ k = 3 by omega) with rfl | rfl <;> rcases hn with rfl | rfl | rfl | rfl | rfl <;> exact zI.top _
            exact hz
        · rw [va_cpy_out (by omega)]; exact h1 (n + k) j
  refine ⟨hI, h2.row (o _ (by omega)) (o _ (by omega)), h3.row (o _ (by omega)) (o _ (by omega)), ?_, ?_, ?_, ?_, ?_⟩
  · rcases hn with rfl | rfl | rfl | rfl | rfl
    · exact hg
    all_goals exact g1.row (o _ (by decide)) (o _ (by decide))
  · rcases hn with rfl | rfl | rfl | rfl | rfl
    · exact g2.row (o _ (by decide)) (o _ (by decide))
    · exact hg
    all_goals exact g2.row (o _ (by decide)) (o _ (by decide))
  · rcases hn with rfl | rfl | rfl | rfl | rfl
    · exact g3.row (o _ (by decide)) (o _ (by decide))
    · exact g3.row (o _ (by decide)) (o _ (by decide))
    · exact hg
    all_goals exact g3.row (o _ (by decide)) (o _ (by decide))
  · rcases hn with rfl | rfl | rfl | rfl | rfl
    · exact g4.row (o _ (by decide)) (o _ (by decide))
    · exact g4.row (o _ (by decide)) (o _ (by decide))
    · exact g4.row (o _ (by decide)) (o _ (by decide))
    · exact hg
    · exact g4.row (o _ (by decide)) (o _ (by decide))
  · rcases hn with rfl | rfl | rfl | rfl | rfl
    · exact g5.row (o _ (by decide)) (o _ (by decide))
    · exact g5.row (o _ (by decide)) (o _ (by decide))
    · exact g5.row (o _ (by decide)) (o _ (by decide))
    · exact g5.row (o _ (by decide)) (o _ (by decide))
    · exact hg
/-! lands -/
noncomputable def kcpL (r : zRr) (k : Nat) : zRr := fun a => if a = 171 then upd (upd (upd (upd (r 171) 9 (r 183 9)) 10 (r 183 10)) 11 (r 183 11)) 12 (r 183 12) else if a = 180 then upd (r 180) 2 (nI k) else if a = 181 then va_cpy (r 193) (r 181) 0 0 k else if 172 ≤ a ∧ a ≤ 178 ∧ a ≠ 174 then va_cpy (r (a + 12)) (r a) 0 0 6 else r a
noncomputable def kcpLq (q : zRq) : zRq := fun a => if a = 174 ∨ a = 179 then va_cpy (q (a + 12)) (q a) 0 0 6 else q a
noncomputable def kisL : List Nat := [171, 172, 173, 174, 175, 176, 177, 178, 179, 180, 181, 183, 184, 185, 186, 187, 188, 189, 190, 191, 192, 193]
theorem kisLx {k : Nat} (a : Nat) (ha : a ∉ kisL) : kcpL r k a = r a ∧ kcpLq q a = q a := by
  simp only [kisL, List.mem_cons, List.not_mem_nil, or_false, not_or] at ha
  unfold kcpL kcpLq
  rw [if_neg (by omega), if_neg (by omega), if_neg (by omega), if_neg (by omega), if_neg (by omega)]
  exact ⟨rfl, rfl⟩
theorem kJ.copyL (h : kJ r) {k : Nat} (hk : nI k = r 192 2) : kJ (kcpL r k) := by
  have hI : kI (kcpL r k) := by
    intro a j
    by_cases e1 : a = 171
    · subst e1
      show zI (klo 171 j) (khi 171 j) (upd (upd (upd (upd (r 171) 9 (r 183 9)) 10 (r 183 10)) 11 (r 183 11)) 12 (r 183 12) j)
      by_cases j12 : j = 12
      · subst j12; rw [pk_us]; exact h.i 183 12
      rw [pk_un j12]
      by_cases j11 : j = 11
      · subst j11; rw [pk_us]; exact h.i 183 11
      rw [pk_un j11]
      by_cases j10 : j = 10
      · subst j10; rw [pk_us]; exact h.i 183 10
      rw [pk_un j10]
      by_cases j9 : j = 9
      · subst j9; rw [pk_us]; exact h.i 183 9
      rw [pk_un j9]; exact h.i 171 j
    by_cases e2 : a = 180
    · subst e2
      show zI (klo 180 j) (khi 180 j) (upd (r 180) 2 (nI k) j)
      by_cases j2 : j = 2
      · subst j2; rw [pk_us, hk]; exact h.i 192 2
      rw [pk_un j2]; exact h.i 180 j
    by_cases e3 : a = 181
    · subst e3; exact zI.top _
    by_cases e4 : 172 ≤ a ∧ a ≤ 178 ∧ a ≠ 174
    · unfold kcpL
      rw [if_neg e1, if_neg e2, if_neg e3, if_pos e4]
      by_cases hj : j < 6
      · rw [va_cpy_in hj]
        rcases (show a = 172 ∨ a = 173 ∨ a = 175 ∨ a = 176 ∨ a = 177 ∨ a = 178 by omega) with rfl | rfl | rfl | rfl | rfl | rfl
        · exact h.i 184 j
        · exact h.i 185 j
        · exact h.i 187 j
        · exact h.i 188 j
        · exact h.i 189 j
        · exact h.i 190 j
      · rw [va_cpy_out (by omega)]; exact h.i a j
    · unfold kcpL
      rw [if_neg e1, if_neg e2, if_neg e3, if_neg e4]; exact h.i a j
  refine ⟨hI, ?_, h.2.2.1, h.2.2.2.row (fun a ha => ?_)⟩
  · intro j hj
    have e1 : kcpL r k 171 10 = r 183 10 := rfl
    rw [e1] at hj
    have h9 : zI 0 6 (r 183 10) := h.i 183 10
    have h8 := h.2.2.1 j hj
    show zI 0 5 (va_cpy (r 188) (r 176) 0 0 6 j)
    rw [va_cpy_in (by have := h9.2; omega)]
    exact h8
  · have h1 := List.contains_iff_mem.mp ha
    simp only [List.mem_cons, List.not_mem_nil, or_false] at h1
    rcases h1 with rfl | rfl | rfl | rfl | rfl | rfl | rfl | rfl | rfl | rfl <;> rfl
theorem kJ.fill (h : kJ r) {n N : Nat} {v : Int32} (hn : kfree n = true) (hv : ∀ j, zI (klo n j) (khi n j) v) : kJ (zset r n (zfl (r n) v N)) := h.setr hn (fun j => by
  unfold zfl
  split
  · exact hv j
  · exact h.i n j)
end KC8
section KC9
variable {ct : Nat → ClassId} {E y : Nat → Nat} {r : zRr} {q : zRq} {n m : Nat}
theorem kset1x {g : Nat → Int32} (a : Nat) (ha : a ∉ [n]) : zset r n g a = r a ∧ q a = q a := ⟨zset_ne (fun e => ha (by rw [e]; exact List.mem_singleton.mpr rfl)), rfl⟩
theorem kset2x {g : Nat → Int32} (a : Nat) (ha : a ∉ [n, m]) : zset r n g a = r a ∧ q a = q a := ⟨zset_ne (fun e => ha (by rw [e]; exact List.mem_cons_self)), rfl⟩
theorem kone {ws : va_W} {x : Nat × va_E} (h : ws[n]? = some x) : [n].map (fun i => ws[i]?) = [x].map some := by
  show [ws[n]?] = _
  rw [h]; rfl
theorem ktwo {ws : va_W} {x z : Nat × va_E} (h : ws[n]? = some x) (h2 : ws[m]? = some z) : [n, m].map (fun i => ws[i]?) = [x, z].map some := by
  show [ws[n]?, ws[m]?] = _
  rw [h, h2]; rfl
theorem kisLw {v : Int32} (hv : r 192 2 = v) : kisL.map (kcl ct E y r q) = [(y 171, .inr (2, [.ref (y 172), .ref (y 173), .ref (y 174), .ref (y 175), .ref (y 176), .ref (y 177), .ref (y 178), .ref (y 179), .ref (y 180), .int ((r 171) 9), .int ((r 171) 10), .int ((r 171) 11), .int ((r 171) 12)])), (y 172, .inl (ct 0, 6, .inl (r 172))), (y 173, .inl (ct 0, 6, .inl (r 173))), (y 174, .inl (ct 1, 6, .inr (.inl (q 174)))), (y 175, .inl (ct 0, 6, .inl (r 175))), (y 176, .inl (ct 0, 6, .inl (r 176))), (y 177, .inl (ct 0, 6, .inl (r 177))), (y 178, .inl (ct 0, 6, .inl (r 178))), (y 179, .inl (ct 1, 6, .inr (.inl (q 179)))), (y 180, .inr (4, [.ref (y 181), .ref (y 182), .int ((r 180) 2)])), (y 181, .inl (ct 0, 1000, .inl (r 181))), (y 183, .inr (2, [.ref (y 184), .ref (y 185), .ref (y 186), .ref (y 187), .ref (y 188), .ref (y 189), .ref (y 190), .ref (y 191), .ref (y 192), .int ((r 183) 9), .int ((r 183) 10), .int ((r 183) 11), .int ((r 183) 12)])), (y 184, .inl (ct 0, 6, .inl (r 184))), (y 185, .inl (ct 0, 6, .inl (r 185))), (y 186, .inl (ct 1, 6, .inr (.inl (q 186)))), (y 187, .inl (ct 0, 6, .inl (r 187))), (y 188, .inl (ct 0, 6, .inl (r 188))), (y 189, .inl (ct 0, 6, .inl (r 189))), (y 190, .inl (ct 0, 6, .inl (r 190))), (y 191, .inl (ct 1, 6, .inr (.inl (q 191)))), (y 192, .inr (4, [.ref (y 193), .ref (y 194), .int v])), (y 193, .inl (ct 0, 1000, .inl (r 193)))] := by
  subst hv
  rfl
theorem kisLB (hv : r 192 2 = nI (zn (r 192 2))) : kisL.map (kcl ct E y (kcpL r (zn (r 192 2))) (kcpLq q)) = [(y 171, .inr (2, [.ref (y 172), .ref (y 173), .ref (y 174), .ref (y 175), .ref (y 176), .ref (y 177), .ref (y 178), .ref (y 179), .ref (y 180), .int (r 183 9), .int (r 183 10), .int (r 183 11), .int (r 183 12)])), (y 172, .inl (ct 0, 6, .inl (va_cpy (r 184) (r 172) 0 0 6))), (y 173, .inl (ct 0, 6, .inl (va_cpy (r 185) (r 173) 0 0 6))), (y 174, .inl (ct 1, 6, .inr (.inl (va_cpy (q 186) (q 174) 0 0 6)))), (y 175, .inl (ct 0, 6, .inl (va_cpy (r 187) (r 175) 0 0 6))), (y 176, .inl (ct 0, 6, .inl (va_cpy (r 188) (r 176) 0 0 6))), (y 177, .inl (ct 0, 6, .inl (va_cpy (r 189) (r 177) 0 0 6))), (y 178, .inl (ct 0, 6, .inl (va_cpy (r 190) (r 178) 0 0 6))), (y 179, .inl (ct 1, 6, .inr (.inl (va_cpy (q 191) (q 179) 0 0 6)))), (y 180, .inr (4, [.ref (y 181), .ref (y 182), .int (nI (zn (r 192 2)))])), (y 181, .inl (ct 0, 1000, .inl (va_cpy (r 193) (r 181) 0 0 (zn (r 192 2))))), (y 183, .inr (2, [.ref (y 184), .ref (y 185), .ref (y 186), .ref (y 187), .ref (y 188), .ref (y 189), .ref (y 190), .ref (y 191), .ref (y 192), .int ((r 183) 9), .int ((r 183) 10), .int ((r 183) 11), .int ((r 183) 12)])), (y 184, .inl (ct 0, 6, .inl (r 184))), (y 185, .inl (ct 0, 6, .inl (r 185))), (y 186, .inl (ct 1, 6, .inr (.inl (q 186)))), (y 187, .inl (ct 0, 6, .inl (r 187))), (y 188, .inl (ct 0, 6, .inl (r 188))), (y 189, .inl (ct 0, 6, .inl (r 189))), (y 190, .inl (ct 0, 6, .inl (r 190))), (y 191, .inl (ct 1, 6, .inr (.inl (q 191)))), (y 192, .inr (4, [.ref (y 193), .ref (y 194), .int (nI (zn (r 192 2)))])), (y 193, .inl (ct 0, 1000, .inl (r 193)))] := congrArg (fun v : Int32 => ([(y 171, .inr (2, [.ref (y 172), .ref (y 173), .ref (y 174), .ref (y 175), .ref (y 176), .ref (y 177), .ref (y 178), .ref (y 179), .ref (y 180), .int (r 183 9), .int (r 183 10), .int (r 183 11), .int (r 183 12)])), (y 172, .inl (ct 0, 6, .inl (va_cpy (r 184) (r 172) 0 0 6))), (y 173, .inl (ct 0, 6, .inl (va_cpy (r 185) (r 173) 0 0 6))), (y 174, .inl (ct 1, 6, .inr (.inl (va_cpy (q 186) (q 174) 0 0 6)))), (y 175, .inl (ct 0, 6, .inl (va_cpy (r 187) (r 175) 0 0 6))), (y 176, .inl (ct 0, 6, .inl (va_cpy (r 188) (r 176) 0 0 6))), (y 177, .inl (ct 0, 6, .inl (va_cpy (r 189) (r 177) 0 0 6))), (y 178, .inl (ct 0, 6, .inl (va_cpy (r 190) (r 178) 0 0 6))), (y 179, .inl (ct 1, 6, .inr (.inl (va_cpy (q 191) (q 179) 0 0 6)))), (y 180, .inr (4, [.ref (y 181), .ref (y 182), .int (nI (zn (r 192 2)))])), (y 181, .inl (ct 0, 1000, .inl (va_cpy (r 193) (r 181) 0 0 (zn (r 192 2))))), (y 183, .inr (2, [.ref (y 184), .ref (y 185), .ref (y 186), .ref (y 187), .ref (y 188), .ref (y 189), .ref (y 190), .ref (y 191), .ref (y 192), .int ((r 183) 9), .int ((r 183) 10), .int ((r 183) 11), .int ((r 183) 12)])), (y 184, .inl (ct 0, 6, .inl (r 184))), (y 185, .inl (ct 0, 6, .inl (r 185))), (y 186, .inl (ct 1, 6, .inr (.inl (q 186)))), (y 187, .inl (ct 0, 6, .inl (r 187))), (y 188, .inl (ct 0, 6, .inl (r 188))), (y 189, .inl (ct 0, 6, .inl (r 189))), (y 190, .inl (ct 0, 6, .inl (r 190))), (y 191, .inl (ct 1, 6, .inr (.inl (q 191)))), (y 192, .inr (4, [.ref (y 193), .ref (y 194), .int v])), (y 193, .inl (ct 0, 1000, .inl (r 193)))] : va_W)) hv
end KC9
end
/-! ===== the lines of a journey as it is read ===== -/
noncomputable def kGd (r : zRr) (j : Nat) : Prop := (r 143 j = 0 → zI 0 5 (r 145 j)) ∧ zI 0 5 (r 144 j)
noncomputable def kLb (r : zRr) (n : Int) : Prop := ∀ j : Nat, (j : Int) < n → kGd r j
theorem kLb.L {r : zRr} (h : kLb r (r 142 3).toInt) : kL r 142 := h
theorem kLb.row {r r1 : zRr} {n : Int} (h : kLb r n) (e1 : r1 143 = r 143) (e2 : r1 144 = r 144) (e3 : r1 145 = r 145) : kLb r1 n := by
  intro j hj
  unfold kGd
  rw [e1, e2, e3]; exact h j hj
theorem kLb.set {r r1 : zRr} {n : Int} (h : kLb r n) {k : Nat} {i v : Int32} (hi : n ≤ i.toInt) (e : r1 = zset r k (upd (r k) (zn i) v)) : kLb r1 n := by
  intro j hj
  have hne : j ≠ zn i := by unfold zn; omega
  have h9 : ∀ a, r1 a j = r a j := by
    intro a
    rw [e]
    by_cases hk : a = k
    · subst hk; rw [zset_eq, pk_un hne]
    · rw [zset_ne hk]
  unfold kGd
  rw [h9, h9, h9]; exact h j hj
theorem kLb.up {r : zRr} {n m : Int} (h : kLb r n) (hm : m = n + 1) {i : Int32} (hi : i.toInt = n) (hg : kGd r (zn i)) : kLb r m := by
  intro j hj
  by_cases hn : (j : Int) < n
  · exact h j hn
  · have e : j = zn i := by unfold zn; omega
    rw [e]; exact hg
theorem kLb.zero {r : zRr} {n : Int} (h : n ≤ 0) : kLb r n := fun j hj => absurd hj (by omega)
theorem kGd.row {r r1 : zRr} {j : Nat} (h : kGd r j) (e1 : r1 143 = r 143) (e2 : r1 144 = r 144) (e3 : r1 145 = r 145) : kGd r1 j := by
  unfold kGd
  rw [e1, e2, e3]; exact h
theorem kforge {f v : Int32} (hf : zI 0 20 f) (h1 : (1 : Int32) ≤ v) (h2 : v ≤ 20 - f) : zI 0 20 (f + v) := by
  have c1 : (1 : Int32).toInt = 1 := by decide
  have c20 : (20 : Int32).toInt = 20 := by decide
  have h3 := leI h1
  have h4 := leI h2
  rw [i32_d (zI.lit (a := 20) (b := 20) (c := 20) (by decide)) hf (by decide)] at h4
  obtain ⟨q1, q2⟩ := hf
  have hv : zI 1 20 v := ⟨by omega, by omega⟩
  have e := i32_a (show zI 0 20 f from ⟨q1, q2⟩) hv (by decide)
  constructor <;> omega
theorem kfew {f i m : Int32} (hf : zI 0 20 f) (h1 : zI 0 20 i) (h2 : i ≤ m) (h3 : m.toInt ≤ 20 - f.toInt) : zI 0 20 (f + i) := by
  have h4 := leI h2
  have e := i32_a hf h1 (by decide)
  obtain ⟨q1, q2⟩ := hf
  obtain ⟨q3, q4⟩ := h1
  constructor <;> omega
theorem kcp8_15 {r : zRr} {i : Int32} (hi : zI 0 5 i) : kcp8 r 12 6 15 (zn i) = r 9 (zn i) := by
  have h9 := hi.nn (by decide)
  show va_cpy (r 9) (r 15) 0 0 6 (zn i) = _
  rw [va_cpy_in (by omega)]
theorem kJ.hm {r : zRr} (h : kJ r) {i : Int32} {a b : Int} (hi : zI a b i) (hlt : i < r 171 10) (k : 0 ≤ a) : zI 0 5 (r 176 (zn i)) := by
  have h1 := ltI hlt
  have h2 := hi.1
  exact h.2.1 (zn i) (by unfold zn; omega)
noncomputable def kgt (r : zRr) (k : Int32) : Int32 := if r 139 (zn k) = 0 then r 141 (zn k) else -1
theorem kgt_0 {r : zRr} {k : Int32} (h : r 139 (zn k) = 0) : r 141 (zn k) = kgt r k := (if_pos h).symm
theorem kgt_1 {r : zRr} {k : Int32} (h : ¬ r 139 (zn k) = 0) : -1 = kgt r k := (if_neg h).symm
set_option maxHeartbeats 4000000 in
set_option maxRecDepth 100000 in
/-- Standing.copy -/
theorem c_X8_copy (l : Launch) (D : va_G) (ct : Nat → ClassId) (h0 : Nat) (h1 : Nat) (a0 : Nat) (a1 : Nat) (a2 : Nat) (a3 : Nat) (a4 : Nat) (b0 : Nat) (b1 : Nat) (b2 : Nat) (b3 : Nat) (b4 : Nat) (f0 : Nat → Int32) (f1 : Nat → Int32) (f2 : Nat → Int32) (f3 : Nat → Int32) (f4 : Nat → Int32) (g0 : Nat → Int32) (g1 : Nat → Int32) (g2 : Nat → Int32) (g3 : Nat → Int32) (g4 : Nat → Int32) (w0 : Int32) (w1 : Int32)  : zC l yX8_copy wsX8_copy ({ frames := 2, cells := 0, slots := 0, locals := 120 }) D ct [] [.ref h0, .ref h1] [(h0, .inr (7, [.ref a0, .ref a1, .ref a2, .ref a3, .ref a4, .int w0])), (a0, .inl (ct 0, 6, .inl f0)), (a1, .inl (ct 0, 6, .inl f1)), (a2, .inl (ct 0, 6, .inl f2)), (a3, .inl (ct 0, 6, .inl f3)), (a4, .inl (ct 0, 6, .inl f4)), (h1, .inr (7, [.ref b0, .ref b1, .ref b2, .ref b3, .ref b4, .int w1])), (b0, .inl (ct 0, 6, .inl g0)), (b1, .inl (ct 0, 6, .inl g1)), (b2, .inl (ct 0, 6, .inl g2)), (b3, .inl (ct 0, 6, .inl g3)), (b4, .inl (ct 0, 6, .inl g4))] (S := Unit) (fun _ => none) (fun _ => True) (fun _ => [(h0, .inr (7, [.ref a0, .ref a1, .ref a2, .ref a3, .ref a4, .int w1])), (a0, .inl (ct 0, 6, .inl (va_cpy g0 f0 0 0 6))), (a1, .inl (ct 0, 6, .inl (va_cpy g1 f1 0 0 6))), (a2, .inl (ct 0, 6, .inl (va_cpy g2 f2 0 0 6))), (a3, .inl (ct 0, 6, .inl (va_cpy g3 f3 0 0 6))), (a4, .inl (ct 0, 6, .inl (va_cpy g4 f4 0 0 6))), (h1, .inr (7, [.ref b0, .ref b1, .ref b2, .ref b3, .ref b4, .int w1])), (b0, .inl (ct 0, 6, .inl g0)), (b1, .inl (ct 0, 6, .inl g1)), (b2, .inl (ct 0, 6, .inl g2)), (b3, .inl (ct 0, 6, .inl g3)), (b4, .inl (ct 0, 6, .inl g4))]) 0 0 := by
  refine zofW cX8_copy 2 none (by decide) rfl (Nat.le_of_ble_eq_true rfl) ?_
  intro p e s m below meth c A hx hb hr hml hts hown hlocks hname hK hA hZ hN H locs hw hS ls hl
  have hown : s.vm.findClass RX8 = some m.cls := hown
  have hl : lv_has ls 2 [(0, .ref h0), (1, .ref h1)] := hl
  have hiX8 : ∀ w ∈ wsX80, w ∈ wsX8_copy := by decide +kernel
  refine lv_aload_n hx hb dX8_copy_0 rfl (lv_at hl 0 rfl) ?_
  refine lv_aload_n hx hb dX8_copy_1 rfl (lv_at hl 1 rfl) ?_
  refine va_get (D := D) (ci := 7) (v := .int w1) hx hb hts hiX8 hown hK hw.1 6 rfl rfl 5 (by decide) (hts (.fieldLink RX8 27 "BeardPass$Standing" "weeks" "I") (by decide +kernel)) (fun _ h9 => h9) rfl dX8_copy_2 ?_
  refine zput (D := D) (ci := 7) (v := .int w1) (ty := .int) hx hb hts hiX8 tyX8 tyX8_ok nmX8 hown hK hw hS 0 rfl rfl 5 (by decide) (hts (.fieldLink RX8 27 "BeardPass$Standing" "weeks" "I") (by decide +kernel)) (fun _ h9 => h9) rfl (by decide +kernel) rfl rfl (Nat.le_of_ble_eq_true rfl) dX8_copy_5 [(h0, .inr (7, [.ref a0, .ref a1, .ref a2, .ref a3, .ref a4, .int w1])), (a0, .inl (ct 0, 6, .inl f0)), (a1, .inl (ct 0, 6, .inl f1)), (a2, .inl (ct 0, 6, .inl f2)), (a3, .inl (ct 0, 6, .inl f3)), (a4, .inl (ct 0, 6, .inl f4)), (h1, .inr (7, [.ref b0, .ref b1, .ref b2, .ref b3, .ref b4, .int w1])), (b0, .inl (ct 0, 6, .inl g0)), (b1, .inl (ct 0, 6, .inl g1)), (b2, .inl (ct 0, 6, .inl g2)), (b3, .inl (ct 0, 6, .inl g3)), (b4, .inl (ct 0, 6, .inl g4))] rfl (fun H locs hw hS => ?_)
  refine lv_aload_n hx hb dX8_copy_8 rfl (lv_at hl 1 rfl) ?_
  refine va_get (D := D) (ci := 7) (v := .ref b0) hx hb hts hiX8 hown hK hw.1 6 rfl rfl 0 (by decide) (hts (.fieldLink RX8 9 "BeardPass$Standing" "places" "[I") (by decide +kernel)) (fun _ h9 => h9) rfl dX8_copy_9 ?_
  refine lv_iconst (v := 0) hx hb dX8_copy_12 (by decide) ?_
  refine lv_aload_n hx hb dX8_copy_13 rfl (lv_at hl 0 rfl) ?_
  refine va_get (D := D) (ci := 7) (v := .ref a0) hx hb hts hiX8 hown hK hw.1 0 rfl rfl 0 (by decide) (hts (.fieldLink RX8 9 "BeardPass$Standing" "places" "[I") (by decide +kernel)) (fun _ h9 => h9) rfl dX8_copy_14 ?_
  refine lv_iconst (v := 0) hx hb dX8_copy_17 (by decide) ?_
  refine lv_bipush (v := 6) hx hb dX8_copy_18 (by decide) ?_
  refine zcopyi hx hb (hml.trans hl.1.symm) hown (hts (.methodLink RX8 41 arraycopyName) (by decide +kernel)) (hts (.native arraycopyName) (by decide +kernel)) (hts (.static arraycopyName) (by decide +kernel)) (hts (.initialized "java/lang/System") (by decide +kernel)) hK hw hS 7 1 rfl rfl 6 rfl rfl (by decide) (by decide) (by decide) (by decide) (Nat.le_of_ble_eq_true rfl) (by decide +kernel) dX8_copy_20 [(h0, .inr (7, [.ref a0, .ref a1, .ref a2, .ref a3, .ref a4, .int w1])), (a0, .inl (ct 0, 6, .inl (va_cpy g0 f0 0 0 6))), (a1, .inl (ct 0, 6, .inl f1)), (a2, .inl (ct 0, 6, .inl f2)), (a3, .inl (ct 0, 6, .inl f3)), (a4, .inl (ct 0, 6, .inl f4)), (h1, .inr (7, [.ref b0, .ref b1, .ref b2, .ref b3, .ref b4, .int w1])), (b0, .inl (ct 0, 6, .inl g0)), (b1, .inl (ct 0, 6, .inl g1)), (b2, .inl (ct 0, 6, .inl g2)), (b3, .inl (ct 0, 6, .inl g3)), (b4, .inl (ct 0, 6, .inl g4))] rfl (fun H locs hw hS => ?_)
  refine lv_aload_n hx hb dX8_copy_23 rfl (lv_at hl 1 rfl) ?_
  refine va_get (D := D) (ci := 7) (v := .ref b1) hx hb hts hiX8 hown hK hw.1 6 rfl rfl 1 (by decide) (hts (.fieldLink RX8 15 "BeardPass$Standing" "beards" "[I") (by decide +kernel)) (fun _ h9 => h9) rfl dX8_copy_24 ?_
  refine lv_iconst (v := 0) hx hb dX8_copy_27 (by decide) ?_
  refine lv_aload_n hx hb dX8_copy_28 rfl (lv_at hl 0 rfl) ?_
  refine va_get (D := D) (ci := 7) (v := .ref a1) hx hb hts hiX8 hown hK hw.1 0 rfl rfl 1 (by decide) (hts (.fieldLink RX8 15 "BeardPass$Standing" "beards" "[I") (by decide +kernel)) (fun _ h9 => h9) rfl dX8_copy_29 ?_
  refine lv_iconst (v := 0) hx hb dX8_copy_32 (by decide) ?_
  refine lv_bipush (v := 6) hx hb dX8_copy_33 (by decide) ?_
  refine zcopyi hx hb (hml.trans hl.1.symm) hown (hts (.methodLink RX8 41 arraycopyName) (by decide +kernel)) (hts (.native arraycopyName) (by decide +kernel)) (hts (.static arraycopyName) (by decide +kernel)) (hts (.initialized "java/lang/System") (by decide +kernel)) hK hw hS 8 2 rfl rfl 6 rfl rfl (by decide) (by decide) (by decide) (by decide) (Nat.le_of_ble_eq_true rfl) (by decide +kernel) dX8_copy_35 [(h0, .inr (7, [.ref a0, .ref a1, .ref a2, .ref a3, .ref a4, .int w1])), (a0, .inl (ct 0, 6, .inl (va_cpy g0 f0 0 0 6))), (a1, .inl (ct 0, 6, .inl (va_cpy g1 f1 0 0 6))), (a2, .inl (ct 0, 6, .inl f2)), (a3, .inl (ct 0, 6, .inl f3)), (a4, .inl (ct 0, 6, .inl f4)), (h1, .inr (7, [.ref b0, .ref b1, .ref b2, .ref b3, .ref b4, .int w1])), (b0, .inl (ct 0, 6, .inl g0)), (b1, .inl (ct 0, 6, .inl g1)), (b2, .inl (ct 0, 6, .inl g2)), (b3, .inl (ct 0, 6, .inl g3)), (b4, .inl (ct 0, 6, .inl g4))] rfl (fun H locs hw hS => ?_)
  refine lv_aload_n hx hb dX8_copy_38 rfl (lv_at hl 1 rfl) ?_
  refine va_get (D := D) (ci := 7) (v := .ref b2) hx hb hts hiX8 hown hK hw.1 6 rfl rfl 2 (by decide) (hts (.fieldLink RX8 18 "BeardPass$Standing" "forged" "[I") (by decide +kernel)) (fun _ h9 => h9) rfl dX8_copy_39 ?_
  refine lv_iconst (v := 0) hx hb dX8_copy_42 (by decide) ?_
  refine lv_aload_n hx hb dX8_copy_43 rfl (lv_at hl 0 rfl) ?_
  refine va_get (D := D) (ci := 7) (v := .ref a2) hx hb hts hiX8 hown hK hw.1 0 rfl rfl 2 (by decide) (hts (.fieldLink RX8 18 "BeardPass$Standing" "forged" "[I") (by decide +kernel)) (fun _ h9 => h9) rfl dX8_copy_44 ?_
  refine lv_iconst (v := 0) hx hb dX8_copy_47 (by decide) ?_
  refine lv_bipush (v := 6) hx hb dX8_copy_48 (by decide) ?_
  refine zcopyi hx hb (hml.trans hl.1.symm) hown (hts (.methodLink RX8 41 arraycopyName) (by decide +kernel)) (hts (.native arraycopyName) (by decide +kernel)) (hts (.static arraycopyName) (by decide +kernel)) (hts (.initialized "java/lang/System") (by decide +kernel)) hK hw hS 9 3 rfl rfl 6 rfl rfl (by decide) (by decide) (by decide) (by decide) (Nat.le_of_ble_eq_true rfl) (by decide +kernel) dX8_copy_50 [(h0, .inr (7, [.ref a0, .ref a1, .ref a2, .ref a3, .ref a4, .int w1])), (a0, .inl (ct 0, 6, .inl (va_cpy g0 f0 0 0 6))), (a1, .inl (ct 0, 6, .inl (va_cpy g1 f1 0 0 6))), (a2, .inl (ct 0, 6, .inl (va_cpy g2 f2 0 0 6))), (a3, .inl (ct 0, 6, .inl f3)), (a4, .inl (ct 0, 6, .inl f4)), (h1, .inr (7, [.ref b0, .ref b1, .ref b2, .ref b3, .ref b4, .int w1])), (b0, .inl (ct 0, 6, .inl g0)), (b1, .inl (ct 0, 6, .inl g1)), (b2, .inl (ct 0, 6, .inl g2)), (b3, .inl (ct 0, 6, .inl g3)), (b4, .inl (ct 0, 6, .inl g4))] rfl (fun H locs hw hS => ?_)
  refine lv_aload_n hx hb dX8_copy_53 rfl (lv_at hl 1 rfl) ?_
  refine va_get (D := D) (ci := 7) (v := .ref b3) hx hb hts hiX8 hown hK hw.1 6 rfl rfl 3 (by decide) (hts (.fieldLink RX8 21 "BeardPass$Standing" "purses" "[I") (by decide +kernel)) (fun _ h9 => h9) rfl dX8_copy_54 ?_
  refine lv_iconst (v := 0) hx hb dX8_copy_57 (by decide) ?_
  refine lv_aload_n hx hb dX8_copy_58 rfl (lv_at hl 0 rfl) ?_
  refine va_get (D := D) (ci := 7) (v := .ref a3) hx hb hts hiX8 hown hK hw.1 0 rfl rfl 3 (by decide) (hts (.fieldLink RX8 21 "BeardPass$Standing" "purses" "[I") (by decide +kernel)) (fun _ h9 => h9) rfl dX8_copy_59 ?_
  refine lv_iconst (v := 0) hx hb dX8_copy_62 (by decide) ?_
  refine lv_bipush (v := 6) hx hb dX8_copy_63 (by decide) ?_
  refine zcopyi hx hb (hml.trans hl.1.symm) hown (hts (.methodLink RX8 41 arraycopyName) (by decide +kernel)) (hts (.native arraycopyName) (by decide +kernel)) (hts (.static arraycopyName) (by decide +kernel)) (hts (.initialized "java/lang/System") (by decide +kernel)) hK hw hS 10 4 rfl rfl 6 rfl rfl (by decide) (by decide) (by decide) (by decide) (Nat.le_of_ble_eq_true rfl) (by decide +kernel) dX8_copy_65 [(h0, .inr (7, [.ref a0, .ref a1, .ref a2, .ref a3, .ref a4, .int w1])), (a0, .inl (ct 0, 6, .inl (va_cpy g0 f0 0 0 6))), (a1, .inl (ct 0, 6, .inl (va_cpy g1 f1 0 0 6))), (a2, .inl (ct 0, 6, .inl (va_cpy g2 f2 0 0 6))), (a3, .inl (ct 0, 6, .inl (va_cpy g3 f3 0 0 6))), (a4, .inl (ct 0, 6, .inl f4)), (h1, .inr (7, [.ref b0, .ref b1, .ref b2, .ref b3, .ref b4, .int w1])), (b0, .inl (ct 0, 6, .inl g0)), (b1, .inl (ct 0, 6, .inl g1)), (b2, .inl (ct 0, 6, .inl g2)), (b3, .inl (ct 0, 6, .inl g3)), (b4, .inl (ct 0, 6, .inl g4))] rfl (fun H locs hw hS => ?_)
  refine lv_aload_n hx hb dX8_copy_68 rfl (lv_at hl 1 rfl) ?_
  refine va_get (D := D) (ci := 7) (v := .ref b4) hx hb hts hiX8 hown hK hw.1 6 rfl rfl 4 (by decide) (hts (.fieldLink RX8 24 "BeardPass$Standing" "been" "[I") (by decide +kernel)) (fun _ h9 => h9) rfl dX8_copy_69 ?_
  refine lv_iconst (v := 0) hx hb dX8_copy_72 (by decide) ?_
  refine lv_aload_n hx hb dX8_copy_73 rfl (lv_at hl 0 rfl) ?_
  refine va_get (D := D) (ci := 7) (v := .ref a4) hx hb hts hiX8 hown hK hw.1 0 rfl rfl 4 (by decide) (hts (.fieldLink RX8 24 "BeardPass$Standing" "been" "[I") (by decide +kernel)) (fun _ h9 => h9) rfl dX8_copy_74 ?_
  refine lv_iconst (v := 0) hx hb dX8_copy_77 (by decide) ?_
  refine lv_bipush (v := 6) hx hb dX8_copy_78 (by decide) ?_
  refine zcopyi hx hb (hml.trans hl.1.symm) hown (hts (.methodLink RX8 41 arraycopyName) (by decide +kernel)) (hts (.native arraycopyName) (by decide +kernel)) (hts (.static arraycopyName) (by decide +kernel)) (hts (.initialized "java/lang/System") (by decide +kernel)) hK hw hS 11 5 rfl rfl 6 rfl rfl (by decide) (by decide) (by decide) (by decide) (Nat.le_of_ble_eq_true rfl) (by decide +kernel) dX8_copy_80 [(h0, .inr (7, [.ref a0, .ref a1, .ref a2, .ref a3, .ref a4, .int w1])), (a0, .inl (ct 0, 6, .inl (va_cpy g0 f0 0 0 6))), (a1, .inl (ct 0, 6, .inl (va_cpy g1 f1 0 0 6))), (a2, .inl (ct 0, 6, .inl (va_cpy g2 f2 0 0 6))), (a3, .inl (ct 0, 6, .inl (va_cpy g3 f3 0 0 6))), (a4, .inl (ct 0, 6, .inl (va_cpy g4 f4 0 0 6))), (h1, .inr (7, [.ref b0, .ref b1, .ref b2, .ref b3, .ref b4, .int w1])), (b0, .inl (ct 0, 6, .inl g0)), (b1, .inl (ct 0, 6, .inl g1)), (b2, .inl (ct 0, 6, .inl g2)), (b3, .inl (ct 0, 6, .inl g3)), (b4, .inl (ct 0, 6, .inl g4))] rfl (fun H locs hw hS => ?_)
  exact zvret hx hb hr hlocks () rfl (trivial) hw [0, 1, 2, 3, 4, 5, 6, 7, 8, 9, 10, 11] rfl (rfl) hS (Nat.le_of_ble_eq_true rfl) (Nat.le_of_ble_eq_true rfl) dX8_copy_83


set_option maxHeartbeats 4000000 in
set_option maxRecDepth 100000 in
/-- Journey.copy -/
theorem c_X1_copy (l : Launch) (D : va_G) (ct : Nat → ClassId) (h0 : Nat) (h1 : Nat) (a0 : Nat) (a1 : Nat) (a2 : Nat) (b0 : Nat) (b1 : Nat) (b2 : Nat) (f0 : Nat → Int32) (f1 : Nat → Int32) (f2 : Nat → Int32) (g0 : Nat → Int32) (g1 : Nat → Int32) (g2 : Nat → Int32) (v0 : Int32) (n : Nat) (hn : n ≤ 40) : zC l yX1_copy wsX1_copy ({ frames := 2, cells := 0, slots := 0, locals := 120 }) D ct [] [.ref h0, .ref h1] [(h0, .inr (1, [.ref a0, .ref a1, .ref a2, .int v0])), (a0, .inl (ct 0, 40, .inl f0)), (a1, .inl (ct 0, 40, .inl f1)), (a2, .inl (ct 0, 40, .inl f2)), (h1, .inr (1, [.ref b0, .ref b1, .ref b2, .int (nI n)])), (b0, .inl (ct 0, 40, .inl g0)), (b1, .inl (ct 0, 40, .inl g1)), (b2, .inl (ct 0, 40, .inl g2))] (S := Unit) (fun _ => none) (fun _ => True) (fun _ => [(h0, .inr (1, [.ref a0, .ref a1, .ref a2, .int (nI n)])), (a0, .inl (ct 0, 40, .inl (va_cpy g0 f0 0 0 n))), (a1, .inl (ct 0, 40, .inl (va_cpy g1 f1 0 0 n))), (a2, .inl (ct 0, 40, .inl (va_cpy g2 f2 0 0 n))), (h1, .inr (1, [.ref b0, .ref b1, .ref b2, .int (nI n)])), (b0, .inl (ct 0, 40, .inl g0)), (b1, .inl (ct 0, 40, .inl g1)), (b2, .inl (ct 0, 40, .inl g2))]) 0 0 := by
  refine zofW cX1_copy 2 none (by decide) rfl (Nat.le_of_ble_eq_true rfl) ?_
  intro p e s m below meth c A hx hb hr hml hts hown hlocks hname hK hA hZ hN H locs hw hS ls hl
  have hown : s.vm.findClass RX1 = some m.cls := hown
  have hl : lv_has ls 2 [(0, .ref h0), (1, .ref h1)] := hl
  have hiX1 : ∀ w ∈ wsX10, w ∈ wsX1_copy := by decide +kernel
  refine lv_aload_n hx hb dX1_copy_0 rfl (lv_at hl 0 rfl) ?_
  refine lv_aload_n hx hb dX1_copy_1 rfl (lv_at hl 1 rfl) ?_
  refine va_get (D := D) (ci := 1) (v := .int (nI n)) hx hb hts hiX1 hown hK hw.1 4 rfl rfl 3 (by decide) (hts (.fieldLink RX1 21 "BeardPass$Journey" "lines" "I") (by decide +kernel)) (fun _ h9 => h9) rfl dX1_copy_2 ?_
  refine zput (D := D) (ci := 1) (v := .int (nI n)) (ty := .int) hx hb hts hiX1 tyX1 tyX1_ok nmX1 hown hK hw hS 0 rfl rfl 3 (by decide) (hts (.fieldLink RX1 21 "BeardPass$Journey" "lines" "I") (by decide +kernel)) (fun _ h9 => h9) rfl (by decide +kernel) rfl rfl (Nat.le_of_ble_eq_true rfl) dX1_copy_5 [(h0, .inr (1, [.ref a0, .ref a1, .ref a2, .int (nI n)])), (a0, .inl (ct 0, 40, .inl f0)), (a1, .inl (ct 0, 40, .inl f1)), (a2, .inl (ct 0, 40, .inl f2)), (h1, .inr (1, [.ref b0, .ref b1, .ref b2, .int (nI n)])), (b0, .inl (ct 0, 40, .inl g0)), (b1, .inl (ct 0, 40, .inl g1)), (b2, .inl (ct 0, 40, .inl g2))] rfl (fun H locs hw hS => ?_)
  refine lv_aload_n hx hb dX1_copy_8 rfl (lv_at hl 1 rfl) ?_
  refine va_get (D := D) (ci := 1) (v := .ref b0) hx hb hts hiX1 hown hK hw.1 4 rfl rfl 0 (by decide) (hts (.fieldLink RX1 9 "BeardPass$Journey" "deeds" "[I") (by decide +kernel)) (fun _ h9 => h9) rfl dX1_copy_9 ?_
  refine lv_iconst (v := 0) hx hb dX1_copy_12 (by decide) ?_
  refine lv_aload_n hx hb dX1_copy_13 rfl (lv_at hl 0 rfl) ?_
  refine va_get (D := D) (ci := 1) (v := .ref a0) hx hb hts hiX1 hown hK hw.1 0 rfl rfl 0 (by decide) (hts (.fieldLink RX1 9 "BeardPass$Journey" "deeds" "[I") (by decide +kernel)) (fun _ h9 => h9) rfl dX1_copy_14 ?_
  refine lv_iconst (v := 0) hx hb dX1_copy_17 (by decide) ?_
  refine lv_aload_n hx hb dX1_copy_18 rfl (lv_at hl 0 rfl) ?_
  refine va_get (D := D) (ci := 1) (v := .int (nI n)) hx hb hts hiX1 hown hK hw.1 0 rfl rfl 3 (by decide) (hts (.fieldLink RX1 21 "BeardPass$Journey" "lines" "I") (by decide +kernel)) (fun _ h9 => h9) rfl dX1_copy_19 ?_
  refine zcopyi hx hb (hml.trans hl.1.symm) hown (hts (.methodLink RX1 25 arraycopyName) (by decide +kernel)) (hts (.native arraycopyName) (by decide +kernel)) (hts (.static arraycopyName) (by decide +kernel)) (hts (.initialized "java/lang/System") (by decide +kernel)) hK hw hS 5 1 rfl rfl n rfl rfl (rfl) (by omega) (by omega) (by omega) (Nat.le_of_ble_eq_true rfl) (by decide +kernel) dX1_copy_22 [(h0, .inr (1, [.ref a0, .ref a1, .ref a2, .int (nI n)])), (a0, .inl (ct 0, 40, .inl (va_cpy g0 f0 0 0 n))), (a1, .inl (ct 0, 40, .inl f1)), (a2, .inl (ct 0, 40, .inl f2)), (h1, .inr (1, [.ref b0, .ref b1, .ref b2, .int (nI n)])), (b0, .inl (ct 0, 40, .inl g0)), (b1, .inl (ct 0, 40, .inl g1)), (b2, .inl (ct 0, 40, .inl g2))] rfl (fun H locs hw hS => ?_)
  refine lv_aload_n hx hb dX1_copy_25 rfl (lv_at hl 1 rfl) ?_
  refine va_get (D := D) (ci := 1) (v := .ref b1) hx hb hts hiX1 hown hK hw.1 4 rfl rfl 1 (by decide) (hts (.fieldLink RX1 15 "BeardPass$Journey" "doers" "[I") (by decide +kernel)) (fun _ h9 => h9) rfl dX1_copy_26 ?_
  refine lv_iconst (v := 0) hx hb dX1_copy_29 (by decide) ?_
  refine lv_aload_n hx hb dX1_copy_30 rfl (lv_at hl 0 rfl) ?_
  refine va_get (D := D) (ci := 1) (v := .ref a1) hx hb hts hiX1 hown hK hw.1 0 rfl rfl 1 (by decide) (hts (.fieldLink RX1 15 "BeardPass$Journey" "doers" "[I") (by decide +kernel)) (fun _ h9 => h9) rfl dX1_copy_31 ?_
  refine lv_iconst (v := 0) hx hb dX1_copy_34 (by decide) ?_
  refine lv_aload_n hx hb dX1_copy_35 rfl (lv_at hl 0 rfl) ?_
  refine va_get (D := D) (ci := 1) (v := .int (nI n)) hx hb hts hiX1 hown hK hw.1 0 rfl rfl 3 (by decide) (hts (.fieldLink RX1 21 "BeardPass$Journey" "lines" "I") (by decide +kernel)) (fun _ h9 => h9) rfl dX1_copy_36 ?_
  refine zcopyi hx hb (hml.trans hl.1.symm) hown (hts (.methodLink RX1 25 arraycopyName) (by decide +kernel)) (hts (.native arraycopyName) (by decide +kernel)) (hts (.static arraycopyName) (by decide +kernel)) (hts (.initialized "java/lang/System") (by decide +kernel)) hK hw hS 6 2 rfl rfl n rfl rfl (rfl) (by omega) (by omega) (by omega) (Nat.le_of_ble_eq_true rfl) (by decide +kernel) dX1_copy_39 [(h0, .inr (1, [.ref a0, .ref a1, .ref a2, .int (nI n)])), (a0, .inl (ct 0, 40, .inl (va_cpy g0 f0 0 0 n))), (a1, .inl (ct 0, 40, .inl (va_cpy g1 f1 0 0 n))), (a2, .inl (ct 0, 40, .inl f2)), (h1, .inr (1, [.ref b0, .ref b1, .ref b2, .int (nI n)])), (b0, .inl (ct 0, 40, .inl g0)), (b1, .inl (ct 0, 40, .inl g1)), (b2, .inl (ct 0, 40, .inl g2))] rfl (fun H locs hw hS => ?_)
  refine lv_aload_n hx hb dX1_copy_42 rfl (lv_at hl 1 rfl) ?_
  refine va_get (D := D) (ci := 1) (v := .ref b2) hx hb hts hiX1 hown hK hw.1 4 rfl rfl 2 (by decide) (hts (.fieldLink RX1 18 "BeardPass$Journey" "objects" "[I") (by decide +kernel)) (fun _ h9 => h9) rfl dX1_copy_43 ?_
  refine lv_iconst (v := 0) hx hb dX1_copy_46 (by decide) ?_
  refine lv_aload_n hx hb dX1_copy_47 rfl (lv_at hl 0 rfl) ?_
  refine va_get (D := D) (ci := 1) (v := .ref a2) hx hb hts hiX1 hown hK hw.1 0 rfl rfl 2 (by decide) (hts (.fieldLink RX1 18 "BeardPass$Journey" "objects" "[I") (by decide +kernel)) (fun _ h9 => h9) rfl dX1_copy_48 ?_
  refine lv_iconst (v := 0) hx hb dX1_copy_51 (by decide) ?_
  refine lv_aload_n hx hb dX1_copy_52 rfl (lv_at hl 0 rfl) ?_
  refine va_get (D := D) (ci := 1) (v := .int (nI n)) hx hb hts hiX1 hown hK hw.1 0 rfl rfl 3 (by decide) (hts (.fieldLink RX1 21 "BeardPass$Journey" "lines" "I") (by decide +kernel)) (fun _ h9 => h9) rfl dX1_copy_53 ?_
  refine zcopyi hx hb (hml.trans hl.1.symm) hown (hts (.methodLink RX1 25 arraycopyName) (by decide +kernel)) (hts (.native arraycopyName) (by decide +kernel)) (hts (.static arraycopyName) (by decide +kernel)) (hts (.initialized "java/lang/System") (by decide +kernel)) hK hw hS 7 3 rfl rfl n rfl rfl (rfl) (by omega) (by omega) (by omega) (Nat.le_of_ble_eq_true rfl) (by decide +kernel) dX1_copy_56 [(h0, .inr (1, [.ref a0, .ref a1, .ref a2, .int (nI n)])), (a0, .inl (ct 0, 40, .inl (va_cpy g0 f0 0 0 n))), (a1, .inl (ct 0, 40, .inl (va_cpy g1 f1 0 0 n))), (a2, .inl (ct 0, 40, .inl (va_cpy g2 f2 0 0 n))), (h1, .inr (1, [.ref b0, .ref b1, .ref b2, .int (nI n)])), (b0, .inl (ct 0, 40, .inl g0)), (b1, .inl (ct 0, 40, .inl g1)), (b2, .inl (ct 0, 40, .inl g2))] rfl (fun H locs hw hS => ?_)
  exact zvret hx hb hr hlocks () rfl (trivial) hw [0, 1, 2, 3, 4, 5, 6, 7] rfl (rfl) hS (Nat.le_of_ble_eq_true rfl) (Nat.le_of_ble_eq_true rfl) dX1_copy_59


set_option maxHeartbeats 4000000 in
set_option maxRecDepth 100000 in
/-- Sightings.copy -/
theorem c_X6_copy (l : Launch) (D : va_G) (ct : Nat → ClassId) (h0 : Nat) (h1 : Nat) (v0 : Int32) (v1 : Int32) (v2 : Int32) (v3 : Int32)  : zC l yX6_copy wsX6_copy ({ frames := 1, cells := 0, slots := 0, locals := 80 }) D ct [] [.ref h0, .ref h1] [(h0, .inr (6, [.int v0, .int v1])), (h1, .inr (6, [.int v2, .int v3]))] (S := Unit) (fun _ => none) (fun _ => True) (fun _ => [(h0, .inr (6, [.int v2, .int v3])), (h1, .inr (6, [.int v2, .int v3]))]) 0 0 := by
  refine zofW cX6_copy 2 none (by decide) rfl (Nat.le_of_ble_eq_true rfl) ?_
  intro p e s m below meth c A hx hb hr hml hts hown hlocks hname hK hA hZ hN H locs hw hS ls hl
  have hown : s.vm.findClass RX6 = some m.cls := hown
  have hl : lv_has ls 2 [(0, .ref h0), (1, .ref h1)] := hl
  have hiX6 : ∀ w ∈ wsX60, w ∈ wsX6_copy := by decide +kernel
  refine lv_aload_n hx hb dX6_copy_0 rfl (lv_at hl 0 rfl) ?_
  refine lv_aload_n hx hb dX6_copy_1 rfl (lv_at hl 1 rfl) ?_
  refine va_get (D := D) (ci := 6) (v := .int v2) hx hb hts hiX6 hown hK hw.1 1 rfl rfl 0 (by decide) (hts (.fieldLink RX6 10 "BeardPass$Sightings" "possible" "I") (by decide +kernel)) (fun _ h9 => h9) rfl dX6_copy_2 ?_
  refine zput (D := D) (ci := 6) (v := .int v2) (ty := .int) hx hb hts hiX6 tyX6 tyX6_ok nmX6 hown hK hw hS 0 rfl rfl 0 (by decide) (hts (.fieldLink RX6 10 "BeardPass$Sightings" "possible" "I") (by decide +kernel)) (fun _ h9 => h9) rfl (by decide +kernel) rfl rfl (Nat.le_of_ble_eq_true rfl) dX6_copy_5 [(h0, .inr (6, [.int v2, .int v1])), (h1, .inr (6, [.int v2, .int v3]))] rfl (fun H locs hw hS => ?_)
  refine lv_aload_n hx hb dX6_copy_8 rfl (lv_at hl 0 rfl) ?_
  refine lv_aload_n hx hb dX6_copy_9 rfl (lv_at hl 1 rfl) ?_
  refine va_get (D := D) (ci := 6) (v := .int v3) hx hb hts hiX6 hown hK hw.1 1 rfl rfl 1 (by decide) (hts (.fieldLink RX6 16 "BeardPass$Sightings" "many" "I") (by decide +kernel)) (fun _ h9 => h9) rfl dX6_copy_10 ?_
  refine zput (D := D) (ci := 6) (v := .int v3) (ty := .int) hx hb hts hiX6 tyX6 tyX6_ok nmX6 hown hK hw hS 0 rfl rfl 1 (by decide) (hts (.fieldLink RX6 16 "BeardPass$Sightings" "many" "I") (by decide +kernel)) (fun _ h9 => h9) rfl (by decide +kernel) rfl rfl (Nat.le_of_ble_eq_true rfl) dX6_copy_13 [(h0, .inr (6, [.int v2, .int v3])), (h1, .inr (6, [.int v2, .int v3]))] rfl (fun H locs hw hS => ?_)
  exact zvret hx hb hr hlocks () rfl (trivial) hw [0, 1] rfl (rfl) hS (Nat.le_of_ble_eq_true rfl) (Nat.le_of_ble_eq_true rfl) dX6_copy_16


set_option maxHeartbeats 4000000 in
set_option maxRecDepth 100000 in
/-- Law.copy -/
theorem c_X4_copy (l : Launch) (D : va_G) (ct : Nat → ClassId) (h0 : Nat) (h1 : Nat) (a0 : Nat) (a1 : Nat) (b0 : Nat) (b1 : Nat) (f : Nat → Int32) (g : Nat → Int32) (v0 : Int32) (n : Nat) (hn : n ≤ 1000) : zC l yX4_copy wsX4_copy ({ frames := 2, cells := 0, slots := 0, locals := 120 }) D ct [] [.ref h0, .ref h1] [(h0, .inr (4, [.ref a0, .ref a1, .int v0])), (a0, .inl (ct 0, 1000, .inl f)), (h1, .inr (4, [.ref b0, .ref b1, .int (nI n)])), (b0, .inl (ct 0, 1000, .inl g))] (S := Unit) (fun _ => none) (fun _ => True) (fun _ => [(h0, .inr (4, [.ref a0, .ref a1, .int (nI n)])), (a0, .inl (ct 0, 1000, .inl (va_cpy g f 0 0 n))), (h1, .inr (4, [.ref b0, .ref b1, .int (nI n)])), (b0, .inl (ct 0, 1000, .inl g))]) 0 0 := by
  refine zofW cX4_copy 2 none (by decide) rfl (Nat.le_of_ble_eq_true rfl) ?_
  intro p e s m below meth c A hx hb hr hml hts hown hlocks hname hK hA hZ hN H locs hw hS ls hl
  have hown : s.vm.findClass RX4 = some m.cls := hown
  have hl : lv_has ls 2 [(0, .ref h0), (1, .ref h1)] := hl
  have hiX4 : ∀ w ∈ wsX40, w ∈ wsX4_copy := by decide +kernel
  refine lv_aload_n hx hb dX4_copy_0 rfl (lv_at hl 0 rfl) ?_
  refine lv_aload_n hx hb dX4_copy_1 rfl (lv_at hl 1 rfl) ?_
  refine va_get (D := D) (ci := 4) (v := .int (nI n)) hx hb hts hiX4 hown hK hw.1 2 rfl rfl 2 (by decide) (hts (.fieldLink RX4 18 "BeardPass$Law" "size" "I") (by decide +kernel)) (fun _ h9 => h9) rfl dX4_copy_2 ?_
  refine zput (D := D) (ci := 4) (v := .int (nI n)) (ty := .int) hx hb hts hiX4 tyX4 tyX4_ok nmX4 hown hK hw hS 0 rfl rfl 2 (by decide) (hts (.fieldLink RX4 18 "BeardPass$Law" "size" "I") (by decide +kernel)) (fun _ h9 => h9) rfl (by decide +kernel) rfl rfl (Nat.le_of_ble_eq_true rfl) dX4_copy_5 [(h0, .inr (4, [.ref a0, .ref a1, .int (nI n)])), (a0, .inl (ct 0, 1000, .inl f)), (h1, .inr (4, [.ref b0, .ref b1, .int (nI n)])), (b0, .inl (ct 0, 1000, .inl g))] rfl (fun H locs hw hS => ?_)
  refine lv_aload_n hx hb dX4_copy_8 rfl (lv_at hl 1 rfl) ?_
  refine va_get (D := D) (ci := 4) (v := .ref b0) hx hb hts hiX4 hown hK hw.1 2 rfl rfl 0 (by decide) (hts (.fieldLink RX4 9 "BeardPass$Law" "code" "[I") (by decide +kernel)) (fun _ h9 => h9) rfl dX4_copy_9 ?_
  refine lv_iconst (v := 0) hx hb dX4_copy_12 (by decide) ?_
  refine lv_aload_n hx hb dX4_copy_13 rfl (lv_at hl 0 rfl) ?_
  refine va_get (D := D) (ci := 4) (v := .ref a0) hx hb hts hiX4 hown hK hw.1 0 rfl rfl 0 (by decide) (hts (.fieldLink RX4 9 "BeardPass$Law" "code" "[I") (by decide +kernel)) (fun _ h9 => h9) rfl dX4_copy_14 ?_
  refine lv_iconst (v := 0) hx hb dX4_copy_17 (by decide) ?_
  refine lv_aload_n hx hb dX4_copy_18 rfl (lv_at hl 0 rfl) ?_
  refine va_get (D := D) (ci := 4) (v := .int (nI n)) hx hb hts hiX4 hown hK hw.1 0 rfl rfl 2 (by decide) (hts (.fieldLink RX4 18 "BeardPass$Law" "size" "I") (by decide +kernel)) (fun _ h9 => h9) rfl dX4_copy_19 ?_
  refine zcopyi hx hb (hml.trans hl.1.symm) hown (hts (.methodLink RX4 26 arraycopyName) (by decide +kernel)) (hts (.native arraycopyName) (by decide +kernel)) (hts (.static arraycopyName) (by decide +kernel)) (hts (.initialized "java/lang/System") (by decide +kernel)) hK hw hS 3 1 rfl rfl n rfl rfl (rfl) (by omega) (by omega) (by omega) (Nat.le_of_ble_eq_true rfl) (by decide +kernel) dX4_copy_22 [(h0, .inr (4, [.ref a0, .ref a1, .int (nI n)])), (a0, .inl (ct 0, 1000, .inl (va_cpy g f 0 0 n))), (h1, .inr (4, [.ref b0, .ref b1, .int (nI n)])), (b0, .inl (ct 0, 1000, .inl g))] rfl (fun H locs hw hS => ?_)
  exact zvret hx hb hr hlocks () rfl (trivial) hw [0, 1, 2, 3] rfl (rfl) hS (Nat.le_of_ble_eq_true rfl) (Nat.le_of_ble_eq_true rfl) dX4_copy_25


set_option maxHeartbeats 4000000 in
set_option maxRecDepth 100000 in
/-- Arrays.fill -/
theorem c_fill (l : Launch) (D : va_G) (ct : Nat → ClassId) (h1 : Nat) (v : Int32) (n1 : Nat) (f : Nat → Int32) (hn1 : n1 < 65536) : zC l yJ7_fill_53178 wsJ7_fill_53178 ({ frames := 1, cells := 0, slots := 0, locals := 80 }) D ct [] [.ref h1, .int v] [(h1, .inl (ct 0, n1, .inl f))] (S := Unit) (fun _ => none) (fun _ => True) (fun _ => [(h1, .inl (ct 0, n1, .inl (zfl f v n1)))]) 0 0 := by
  refine zofW cJ7_fill_53178 4 none (by decide) rfl (Nat.le_of_ble_eq_true rfl) ?_
  intro p e s m below meth c A hx hb hr hml hts hown hlocks hname hK hA hZ hN H locs hw hS ls hl
  have hown : s.vm.findClass RJ7 = some m.cls := hown
  have hl : lv_has ls 4 [(0, .ref h1), (1, .int v)] := hl
  refine lv_iconst (v := 0) hx hb dJ7_fill_53178_0 (by decide) ?_
  refine lv_istore_n (lv' := [(2, .int 0), (0, .ref h1), (1, .int v)]) hx hb dJ7_fill_53178_1 rfl hl (by decide) rfl (fun ls hl => ?_)
  refine lv_aload_n hx hb dJ7_fill_53178_2 rfl (lv_at hl 1 rfl) ?_
  refine va_alen hx hb hK hw.1 0 0 rfl rfl (v := nI n1) rfl dJ7_fill_53178_3 ?_
  refine lv_istore_n (lv' := [(3, .int (nI n1)), (2, .int 0), (0, .ref h1), (1, .int v)]) hx hb dJ7_fill_53178_4 rfl hl (by decide) rfl (fun ls hl => ?_)
  refine zloop (σ := Unit) (nL := 4) (st := []) (fun i _ => True) (fun i _ => [(h1, .inl (ct 0, n1, .inl (zfl f v i)))]) (fun i _ => [(2, .int (nI i)), (0, .ref h1), (1, .int v), (3, .int (nI n1))]) (fun _ => 0) (fun _ => 0) n1 ?_ ?_ 0 () (Nat.zero_le _) (trivial) H locs ls (zcong (by (try dsimp only); rw [zfl_0]) (hw.sub (w0 := [(h1, .inl (ct 0, n1, .inl f))]) [0] rfl rfl)) hS (lv_sub hl [1, 2, 3, 0] rfl)
  · intro x2 hI3 H locs ls hw hS hl
    have hw : zPD D A [(h1, .inl (ct 0, n1, .inl (zfl f v n1)))] H := hw
    have hl : lv_has ls 4 [(2, .int (nI n1)), (0, .ref h1), (1, .int v), (3, .int (nI n1))] := hl
    refine lv_iload_n hx hb dJ7_fill_53178_5 rfl (lv_at hl 0 rfl) ?_
    refine lv_iload_n hx hb dJ7_fill_53178_6 rfl (lv_at hl 3 rfl) ?_
    refine lv_icmp_ge (tgt := 20) hx hb dJ7_fill_53178_7 (by decide) (fun _ => ?_) (fun h => absurd (nI_le (Nat.le_refl n1) (by omega)) h)
    exact zvret hx hb hr hlocks () rfl (trivial) hw [0] rfl (rfl) hS (Nat.le_of_ble_eq_true rfl) (Nat.le_of_ble_eq_true rfl) dJ7_fill_53178_20
  · intro i1 x5 hlt8 hI6 ih7 H locs ls hw hS hl
    have hw : zPD D A [(h1, .inl (ct 0, n1, .inl (zfl f v i1)))] H := hw
    have hl : lv_has ls 4 [(2, .int (nI i1)), (0, .ref h1), (1, .int v), (3, .int (nI n1))] := hl
    refine lv_iload_n hx hb dJ7_fill_53178_5 rfl (lv_at hl 0 rfl) ?_
    refine lv_iload_n hx hb dJ7_fill_53178_6 rfl (lv_at hl 3 rfl) ?_
    refine lv_icmp_ge (tgt := 20) hx hb dJ7_fill_53178_7 (by decide) (fun h => absurd h (nI_ge hlt8 (by omega))) (fun _ => ?_)
    refine lv_aload_n hx hb dJ7_fill_53178_10 rfl (lv_at hl 1 rfl) ?_
    refine lv_iload_n hx hb dJ7_fill_53178_11 rfl (lv_at hl 0 rfl) ?_
    refine lv_iload_n hx hb dJ7_fill_53178_12 rfl (lv_at hl 2 rfl) ?_
    refine ziast hx hb hK hw hS 0 rfl i1 rfl (by omega) (by omega) dJ7_fill_53178_13 [(h1, .inl (ct 0, n1, .inl (upd (zfl f v i1) i1 v)))] rfl (fun H locs hw hS => ?_)
    refine lv_iinc (v := nI (i1 + 1)) (lv' := [(2, .int (nI (i1 + 1))), (0, .ref h1), (1, .int v), (3, .int (nI n1))]) hx hb dJ7_fill_53178_14 hl (k := 0) rfl (nI_add _ 1) (by decide) rfl (fun ls hl => ?_)
    refine lv_goto (tgt := 5) hx hb dJ7_fill_53178_17 (by decide) ?_
    exact ih7 () (trivial) H locs ls (zcong (by (try dsimp only); rw [zfl_s]) (hw.sub (w0 := [(h1, .inl (ct 0, n1, .inl (upd (zfl f v i1) i1 v)))]) [0] rfl rfl)) hS (lv_sub hl [0, 1, 2, 3] rfl)

set_option maxHeartbeats 4000000 in
set_option maxRecDepth 100000 in
/-- Land.copy -/
theorem c_X2_copy (l : Launch) (D : va_G) (ct : Nat → ClassId) (h0 : Nat) (h1 : Nat) (a0 : Nat) (a1 : Nat) (a2 : Nat) (a3 : Nat) (a4 : Nat) (a5 : Nat) (a6 : Nat) (a7 : Nat) (b0 : Nat) (b1 : Nat) (b2 : Nat) (b3 : Nat) (b4 : Nat) (b5 : Nat) (b6 : Nat) (b7 : Nat) (l0 : Nat) (l1 : Nat) (l2 : Nat) (m0 : Nat) (m1 : Nat) (m2 : Nat) (f0 : Nat → Int32) (f1 : Nat → Int32) (f2 : Nat → Int64) (f3 : Nat → Int32) (f4 : Nat → Int32) (f5 : Nat → Int32) (f6 : Nat → Int32) (f7 : Nat → Int64) (g0 : Nat → Int32) (g1 : Nat → Int32) (g2 : Nat → Int64) (g3 : Nat → Int32) (g4 : Nat → Int32) (g5 : Nat → Int32) (g6 : Nat → Int32) (g7 : Nat → Int64) (fc : Nat → Int32) (gc : Nat → Int32) (n0 : Int32) (n1 : Int32) (n2 : Int32) (n3 : Int32) (k0 : Int32) (k1 : Int32) (k2 : Int32) (k3 : Int32) (s0 : Int32) (sn : Nat) (hn : sn ≤ 1000) : zC l yX2_copy wsX2_copy ({ frames := 3, cells := 0, slots := 0, locals := 160 }) D ct [] [.ref h0, .ref h1] [(h0, .inr (2, [.ref a0, .ref a1, .ref a2, .ref a3, .ref a4, .ref a5, .ref a6, .ref a7, .ref l0, .int n0, .int n1, .int n2, .int n3])), (a0, .inl (ct 0, 6, .inl f0)), (a1, .inl (ct 0, 6, .inl f1)), (a2, .inl (ct 1, 6, .inr (.inl f2))), (a3, .inl (ct 0, 6, .inl f3)), (a4, .inl (ct 0, 6, .inl f4)), (a5, .inl (ct 0, 6, .inl f5)), (a6, .inl (ct 0, 6, .inl f6)), (a7, .inl (ct 1, 6, .inr (.inl f7))), (l0, .inr (4, [.ref l1, .ref l2, .int s0])), (l1, .inl (ct 0, 1000, .inl fc)), (h1, .inr (2, [.ref b0, .ref b1, .ref b2, .ref b3, .ref b4, .ref b5, .ref b6, .ref b7, .ref m0, .int k0, .int k1, .int k2, .int k3])), (b0, .inl (ct 0, 6, .inl g0)), (b1, .inl (ct 0, 6, .inl g1)), (b2, .inl (ct 1, 6, .inr (.inl g2))), (b3, .inl (ct 0, 6, .inl g3)), (b4, .inl (ct 0, 6, .inl g4)), (b5, .inl (ct 0, 6, .inl g5)), (b6, .inl (ct 0, 6, .inl g6)), (b7, .inl (ct 1, 6, .inr (.inl g7))), (m0, .inr (4, [.ref m1, .ref m2, .int (nI sn)])), (m1, .inl (ct 0, 1000, .inl gc))] (S := Unit) (fun _ => none) (fun _ => True) (fun _ => [(h0, .inr (2, [.ref a0, .ref a1, .ref a2, .ref a3, .ref a4, .ref a5, .ref a6, .ref a7, .ref l0, .int k0, .int k1, .int k2, .int k3])), (a0, .inl (ct 0, 6, .inl (va_cpy g0 f0 0 0 6))), (a1, .inl (ct 0, 6, .inl (va_cpy g1 f1 0 0 6))), (a2, .inl (ct 1, 6, .inr (.inl (va_cpy g2 f2 0 0 6)))), (a3, .inl (ct 0, 6, .inl (va_cpy g3 f3 0 0 6))), (a4, .inl (ct 0, 6, .inl (va_cpy g4 f4 0 0 6))), (a5, .inl (ct 0, 6, .inl (va_cpy g5 f5 0 0 6))), (a6, .inl (ct 0, 6, .inl (va_cpy g6 f6 0 0 6))), (a7, .inl (ct 1, 6, .inr (.inl (va_cpy g7 f7 0 0 6)))), (l0, .inr (4, [.ref l1, .ref l2, .int (nI sn)])), (l1, .inl (ct 0, 1000, .inl (va_cpy gc fc 0 0 sn))), (h1, .inr (2, [.ref b0, .ref b1, .ref b2, .ref b3, .ref b4, .ref b5, .ref b6, .ref b7, .ref m0, .int k0, .int k1, .int k2, .int k3])), (b0, .inl (ct 0, 6, .inl g0)), (b1, .inl (ct 0, 6, .inl g1)), (b2, .inl (ct 1, 6, .inr (.inl g2))), (b3, .inl (ct 0, 6, .inl g3)), (b4, .inl (ct 0, 6, .inl g4)), (b5, .inl (ct 0, 6, .inl g5)), (b6, .inl (ct 0, 6, .inl g6)), (b7, .inl (ct 1, 6, .inr (.inl g7))), (m0, .inr (4, [.ref m1, .ref m2, .int (nI sn)])), (m1, .inl (ct 0, 1000, .inl gc))]) 0 0 := by
  refine zofW cX2_copy 2 none (by decide) rfl (Nat.le_of_ble_eq_true rfl) ?_
  intro p e s m below meth c A hx hb hr hml hts hown hlocks hname hK hA hZ hN H locs hw hS ls hl
  have hown : s.vm.findClass RX2 = some m.cls := hown
  have hl : lv_has ls 2 [(0, .ref h0), (1, .ref h1)] := hl
  have hiX2 : ∀ w ∈ wsX20, w ∈ wsX2_copy := by decide +kernel
  refine lv_aload_n hx hb dX2_copy_0 rfl (lv_at hl 0 rfl) ?_
  refine lv_aload_n hx hb dX2_copy_1 rfl (lv_at hl 1 rfl) ?_
  refine va_get (D := D) (ci := 2) (v := .int k0) hx hb hts hiX2 hown hK hw.1 11 rfl rfl 9 (by decide) (hts (.fieldLink RX2 44 "BeardPass$Land" "towns" "I") (by decide +kernel)) (fun _ h9 => h9) rfl dX2_copy_2 ?_
  refine zput (D := D) (ci := 2) (v := .int k0) (ty := .int) hx hb hts hiX2 tyX2 tyX2_ok nmX2 hown hK hw hS 0 rfl rfl 9 (by decide) (hts (.fieldLink RX2 44 "BeardPass$Land" "towns" "I") (by decide +kernel)) (fun _ h9 => h9) rfl (by decide +kernel) rfl rfl (Nat.le_of_ble_eq_true rfl) dX2_copy_5 [(h0, .inr (2, [.ref a0, .ref a1, .ref a2, .ref a3, .ref a4, .ref a5, .ref a6, .ref a7, .ref l0, .int k0, .int n1, .int n2, .int n3])), (a0, .inl (ct 0, 6, .inl f0)), (a1, .inl (ct 0, 6, .inl f1)), (a2, .inl (ct 1, 6, .inr (.inl f2))), (a3, .inl (ct 0, 6, .inl f3)), (a4, .inl (ct 0, 6, .inl f4)), (a5, .inl (ct 0, 6, .inl f5)), (a6, .inl (ct 0, 6, .inl f6)), (a7, .inl (ct 1, 6, .inr (.inl f7))), (l0, .inr (4, [.ref l1, .ref l2, .int s0])), (l1, .inl (ct 0, 1000, .inl fc)), (h1, .inr (2, [.ref b0, .ref b1, .ref b2, .ref b3, .ref b4, .ref b5, .ref b6, .ref b7, .ref m0, .int k0, .int k1, .int k2, .int k3])), (b0, .inl (ct 0, 6, .inl g0)), (b1, .inl (ct 0, 6, .inl g1)), (b2, .inl (ct 1, 6, .inr (.inl g2))), (b3, .inl (ct 0, 6, .inl g3)), (b4, .inl (ct 0, 6, .inl g4)), (b5, .inl (ct 0, 6, .inl g5)), (b6, .inl (ct 0, 6, .inl g6)), (b7, .inl (ct 1, 6, .inr (.inl g7))), (m0, .inr (4, [.ref m1, .ref m2, .int (nI sn)])), (m1, .inl (ct 0, 1000, .inl gc))] rfl (fun H locs hw hS => ?_)
  refine lv_aload_n hx hb dX2_copy_8 rfl (lv_at hl 0 rfl) ?_
  refine lv_aload_n hx hb dX2_copy_9 rfl (lv_at hl 1 rfl) ?_
  refine va_get (D := D) (ci := 2) (v := .int k1) hx hb hts hiX2 hown hK hw.1 11 rfl rfl 10 (by decide) (hts (.fieldLink RX2 48 "BeardPass$Land" "persons" "I") (by decide +kernel)) (fun _ h9 => h9) rfl dX2_copy_10 ?_
  refine zput (D := D) (ci := 2) (v := .int k1) (ty := .int) hx hb hts hiX2 tyX2 tyX2_ok nmX2 hown hK hw hS 0 rfl rfl 10 (by decide) (hts (.fieldLink RX2 48 "BeardPass$Land" "persons" "I") (by decide +kernel)) (fun _ h9 => h9) rfl (by decide +kernel) rfl rfl (Nat.le_of_ble_eq_true rfl) dX2_copy_13 [(h0, .inr (2, [.ref a0, .ref a1, .ref a2, .ref a3, .ref a4, .ref a5, .ref a6, .ref a7, .ref l0, .int k0, .int k1, .int n2, .int n3])), (a0, .inl (ct 0, 6, .inl f0)), (a1, .inl (ct 0, 6, .inl f1)), (a2, .inl (ct 1, 6, .inr (.inl f2))), (a3, .inl (ct 0, 6, .inl f3)), (a4, .inl (ct 0, 6, .inl f4)), (a5, .inl (ct 0, 6, .inl f5)), (a6, .inl (ct 0, 6, .inl f6)), (a7, .inl (ct 1, 6, .inr (.inl f7))), (l0, .inr (4, [.ref l1, .ref l2, .int s0])), (l1, .inl (ct 0, 1000, .inl fc)), (h1, .inr (2, [.ref b0, .ref b1, .ref b2, .ref b3, .ref b4, .ref b5, .ref b6, .ref b7, .ref m0, .int k0, .int k1, .int k2, .int k3])), (b0, .inl (ct 0, 6, .inl g0)), (b1, .inl (ct 0, 6, .inl g1)), (b2, .inl (ct 1, 6, .inr (.inl g2))), (b3, .inl (ct 0, 6, .inl g3)), (b4, .inl (ct 0, 6, .inl g4)), (b5, .inl (ct 0, 6, .inl g5)), (b6, .inl (ct 0, 6, .inl g6)), (b7, .inl (ct 1, 6, .inr (.inl g7))), (m0, .inr (4, [.ref m1, .ref m2, .int (nI sn)])), (m1, .inl (ct 0, 1000, .inl gc))] rfl (fun H locs hw hS => ?_)
  refine lv_aload_n hx hb dX2_copy_16 rfl (lv_at hl 0 rfl) ?_
  refine lv_aload_n hx hb dX2_copy_17 rfl (lv_at hl 1 rfl) ?_
  refine va_get (D := D) (ci := 2) (v := .int k2) hx hb hts hiX2 hown hK hw.1 11 rfl rfl 11 (by decide) (hts (.fieldLink RX2 51 "BeardPass$Land" "grows" "I") (by decide +kernel)) (fun _ h9 => h9) rfl dX2_copy_18 ?_
  refine zput (D := D) (ci := 2) (v := .int k2) (ty := .int) hx hb hts hiX2 tyX2 tyX2_ok nmX2 hown hK hw hS 0 rfl rfl 11 (by decide) (hts (.fieldLink RX2 51 "BeardPass$Land" "grows" "I") (by decide +kernel)) (fun _ h9 => h9) rfl (by decide +kernel) rfl rfl (Nat.le_of_ble_eq_true rfl) dX2_copy_21 [(h0, .inr (2, [.ref a0, .ref a1, .ref a2, .ref a3, .ref a4, .ref a5, .ref a6, .ref a7, .ref l0, .int k0, .int k1, .int k2, .int n3])), (a0, .inl (ct 0, 6, .inl f0)), (a1, .inl (ct 0, 6, .inl f1)), (a2, .inl (ct 1, 6, .inr (.inl f2))), (a3, .inl (ct 0, 6, .inl f3)), (a4, .inl (ct 0, 6, .inl f4)), (a5, .inl (ct 0, 6, .inl f5)), (a6, .inl (ct 0, 6, .inl f6)), (a7, .inl (ct 1, 6, .inr (.inl f7))), (l0, .inr (4, [.ref l1, .ref l2, .int s0])), (l1, .inl (ct 0, 1000, .inl fc)), (h1, .inr (2, [.ref b0, .ref b1, .ref b2, .ref b3, .ref b4, .ref b5, .ref b6, .ref b7, .ref m0, .int k0, .int k1, .int k2, .int k3])), (b0, .inl (ct 0, 6, .inl g0)), (b1, .inl (ct 0, 6, .inl g1)), (b2, .inl (ct 1, 6, .inr (.inl g2))), (b3, .inl (ct 0, 6, .inl g3)), (b4, .inl (ct 0, 6, .inl g4)), (b5, .inl (ct 0, 6, .inl g5)), (b6, .inl (ct 0, 6, .inl g6)), (b7, .inl (ct 1, 6, .inr (.inl g7))), (m0, .inr (4, [.ref m1, .ref m2, .int (nI sn)])), (m1, .inl (ct 0, 1000, .inl gc))] rfl (fun H locs hw hS => ?_)
  refine lv_aload_n hx hb dX2_copy_24 rfl (lv_at hl 0 rfl) ?_
  refine lv_aload_n hx hb dX2_copy_25 rfl (lv_at hl 1 rfl) ?_
  refine va_get (D := D) (ci := 2) (v := .int k3) hx hb hts hiX2 hown hK hw.1 11 rfl rfl 12 (by decide) (hts (.fieldLink RX2 54 "BeardPass$Land" "inch" "I") (by decide +kernel)) (fun _ h9 => h9) rfl dX2_copy_26 ?_
  refine zput (D := D) (ci := 2) (v := .int k3) (ty := .int) hx hb hts hiX2 tyX2 tyX2_ok nmX2 hown hK hw hS 0 rfl rfl 12 (by decide) (hts (.fieldLink RX2 54 "BeardPass$Land" "inch" "I") (by decide +kernel)) (fun _ h9 => h9) rfl (by decide +kernel) rfl rfl (Nat.le_of_ble_eq_true rfl) dX2_copy_29 [(h0, .inr (2, [.ref a0, .ref a1, .ref a2, .ref a3, .ref a4, .ref a5, .ref a6, .ref a7, .ref l0, .int k0, .int k1, .int k2, .int k3])), (a0, .inl (ct 0, 6, .inl f0)), (a1, .inl (ct 0, 6, .inl f1)), (a2, .inl (ct 1, 6, .inr (.inl f2))), (a3, .inl (ct 0, 6, .inl f3)), (a4, .inl (ct 0, 6, .inl f4)), (a5, .inl (ct 0, 6, .inl f5)), (a6, .inl (ct 0, 6, .inl f6)), (a7, .inl (ct 1, 6, .inr (.inl f7))), (l0, .inr (4, [.ref l1, .ref l2, .int s0])), (l1, .inl (ct 0, 1000, .inl fc)), (h1, .inr (2, [.ref b0, .ref b1, .ref b2, .ref b3, .ref b4, .ref b5, .ref b6, .ref b7, .ref m0, .int k0, .int k1, .int k2, .int k3])), (b0, .inl (ct 0, 6, .inl g0)), (b1, .inl (ct 0, 6, .inl g1)), (b2, .inl (ct 1, 6, .inr (.inl g2))), (b3, .inl (ct 0, 6, .inl g3)), (b4, .inl (ct 0, 6, .inl g4)), (b5, .inl (ct 0, 6, .inl g5)), (b6, .inl (ct 0, 6, .inl g6)), (b7, .inl (ct 1, 6, .inr (.inl g7))), (m0, .inr (4, [.ref m1, .ref m2, .int (nI sn)])), (m1, .inl (ct 0, 1000, .inl gc))] rfl (fun H locs hw hS => ?_)
  refine lv_aload_n hx hb dX2_copy_32 rfl (lv_at hl 1 rfl) ?_
  refine va_get (D := D) (ci := 2) (v := .ref b0) hx hb hts hiX2 hown hK hw.1 11 rfl rfl 0 (by decide) (hts (.fieldLink RX2 9 "BeardPass$Land" "asks" "[I") (by decide +kernel)) (fun _ h9 => h9) rfl dX2_copy_33 ?_
  refine lv_iconst (v := 0) hx hb dX2_copy_36 (by decide) ?_
  refine lv_aload_n hx hb dX2_copy_37 rfl (lv_at hl 0 rfl) ?_
  refine va_get (D := D) (ci := 2) (v := .ref a0) hx hb hts hiX2 hown hK hw.1 0 rfl rfl 0 (by decide) (hts (.fieldLink RX2 9 "BeardPass$Land" "asks" "[I") (by decide +kernel)) (fun _ h9 => h9) rfl dX2_copy_38 ?_
  refine lv_iconst (v := 0) hx hb dX2_copy_41 (by decide) ?_
  refine lv_bipush (v := 6) hx hb dX2_copy_42 (by decide) ?_
  refine zcopyi hx hb (hml.trans hl.1.symm) hown (hts (.methodLink RX2 66 arraycopyName) (by decide +kernel)) (hts (.native arraycopyName) (by decide +kernel)) (hts (.static arraycopyName) (by decide +kernel)) (hts (.initialized "java/lang/System") (by decide +kernel)) hK hw hS 12 1 rfl rfl 6 rfl rfl (by decide) (by decide) (by decide) (by decide) (Nat.le_of_ble_eq_true rfl) (by decide +kernel) dX2_copy_44 [(h0, .inr (2, [.ref a0, .ref a1, .ref a2, .ref a3, .ref a4, .ref a5, .ref a6, .ref a7, .ref l0, .int k0, .int k1, .int k2, .int k3])), (a0, .inl (ct 0, 6, .inl (va_cpy g0 f0 0 0 6))), (a1, .inl (ct 0, 6, .inl f1)), (a2, .inl (ct 1, 6, .inr (.inl f2))), (a3, .inl (ct 0, 6, .inl f3)), (a4, .inl (ct 0, 6, .inl f4)), (a5, .inl (ct 0, 6, .inl f5)), (a6, .inl (ct 0, 6, .inl f6)), (a7, .inl (ct 1, 6, .inr (.inl f7))), (l0, .inr (4, [.ref l1, .ref l2, .int s0])), (l1, .inl (ct 0, 1000, .inl fc)), (h1, .inr (2, [.ref b0, .ref b1, .ref b2, .ref b3, .ref b4, .ref b5, .ref b6, .ref b7, .ref m0, .int k0, .int k1, .int k2, .int k3])), (b0, .inl (ct 0, 6, .inl g0)), (b1, .inl (ct 0, 6, .inl g1)), (b2, .inl (ct 1, 6, .inr (.inl g2))), (b3, .inl (ct 0, 6, .inl g3)), (b4, .inl (ct 0, 6, .inl g4)), (b5, .inl (ct 0, 6, .inl g5)), (b6, .inl (ct 0, 6, .inl g6)), (b7, .inl (ct 1, 6, .inr (.inl g7))), (m0, .inr (4, [.ref m1, .ref m2, .int (nI sn)])), (m1, .inl (ct 0, 1000, .inl gc))] rfl (fun H locs hw hS => ?_)
  refine lv_aload_n hx hb dX2_copy_47 rfl (lv_at hl 1 rfl) ?_
  refine va_get (D := D) (ci := 2) (v := .ref b1) hx hb hts hiX2 hown hK hw.1 11 rfl rfl 1 (by decide) (hts (.fieldLink RX2 15 "BeardPass$Land" "roads" "[I") (by decide +kernel)) (fun _ h9 => h9) rfl dX2_copy_48 ?_
  refine lv_iconst (v := 0) hx hb dX2_copy_51 (by decide) ?_
  refine lv_aload_n hx hb dX2_copy_52 rfl (lv_at hl 0 rfl) ?_
  refine va_get (D := D) (ci := 2) (v := .ref a1) hx hb hts hiX2 hown hK hw.1 0 rfl rfl 1 (by decide) (hts (.fieldLink RX2 15 "BeardPass$Land" "roads" "[I") (by decide +kernel)) (fun _ h9 => h9) rfl dX2_copy_53 ?_
  refine lv_iconst (v := 0) hx hb dX2_copy_56 (by decide) ?_
  refine lv_bipush (v := 6) hx hb dX2_copy_57 (by decide) ?_
  refine zcopyi hx hb (hml.trans hl.1.symm) hown (hts (.methodLink RX2 66 arraycopyName) (by decide +kernel)) (hts (.native arraycopyName) (by decide +kernel)) (hts (.static arraycopyName) (by decide +kernel)) (hts (.initialized "java/lang/System") (by decide +kernel)) hK hw hS 13 2 rfl rfl 6 rfl rfl (by decide) (by decide) (by decide) (by decide) (Nat.le_of_ble_eq_true rfl) (by decide +kernel) dX2_copy_59 [(h0, .inr (2, [.ref a0, .ref a1, .ref a2, .ref a3, .ref a4, .ref a5, .ref a6, .ref a7, .ref l0, .int k0, .int k1, .int k2, .int k3])), (a0, .inl (ct 0, 6, .inl (va_cpy g0 f0 0 0 6))), (a1, .inl (ct 0, 6, .inl (va_cpy g1 f1 0 0 6))), (a2, .inl (ct 1, 6, .inr (.inl f2))), (a3, .inl (ct 0, 6, .inl f3)), (a4, .inl (ct 0, 6, .inl f4)), (a5, .inl (ct 0, 6, .inl f5)), (a6, .inl (ct 0, 6, .inl f6)), (a7, .inl (ct 1, 6, .inr (.inl f7))), (l0, .inr (4, [.ref l1, .ref l2, .int s0])), (l1, .inl (ct 0, 1000, .inl fc)), (h1, .inr (2, [.ref b0, .ref b1, .ref b2, .ref b3, .ref b4, .ref b5, .ref b6, .ref b7, .ref m0, .int k0, .int k1, .int k2, .int k3])), (b0, .inl (ct 0, 6, .inl g0)), (b1, .inl (ct 0, 6, .inl g1)), (b2, .inl (ct 1, 6, .inr (.inl g2))), (b3, .inl (ct 0, 6, .inl g3)), (b4, .inl (ct 0, 6, .inl g4)), (b5, .inl (ct 0, 6, .inl g5)), (b6, .inl (ct 0, 6, .inl g6)), (b7, .inl (ct 1, 6, .inr (.inl g7))), (m0, .inr (4, [.ref m1, .ref m2, .int (nI sn)])), (m1, .inl (ct 0, 1000, .inl gc))] rfl (fun H locs hw hS => ?_)
  refine lv_aload_n hx hb dX2_copy_62 rfl (lv_at hl 1 rfl) ?_
  refine va_get (D := D) (ci := 2) (v := .ref b2) hx hb hts hiX2 hown hK hw.1 11 rfl rfl 2 (by decide) (hts (.fieldLink RX2 18 "BeardPass$Land" "townNames" "[J") (by decide +kernel)) (fun _ h9 => h9) rfl dX2_copy_63 ?_
  refine lv_iconst (v := 0) hx hb dX2_copy_66 (by decide) ?_
  refine lv_aload_n hx hb dX2_copy_67 rfl (lv_at hl 0 rfl) ?_
  refine va_get (D := D) (ci := 2) (v := .ref a2) hx hb hts hiX2 hown hK hw.1 0 rfl rfl 2 (by decide) (hts (.fieldLink RX2 18 "BeardPass$Land" "townNames" "[J") (by decide +kernel)) (fun _ h9 => h9) rfl dX2_copy_68 ?_
  refine lv_iconst (v := 0) hx hb dX2_copy_71 (by decide) ?_
  refine lv_bipush (v := 6) hx hb dX2_copy_72 (by decide) ?_
  refine zcopyl hx hb (hml.trans hl.1.symm) hown (hts (.methodLink RX2 66 arraycopyName) (by decide +kernel)) (hts (.native arraycopyName) (by decide +kernel)) (hts (.static arraycopyName) (by decide +kernel)) (hts (.initialized "java/lang/System") (by decide +kernel)) hK hw hS 14 3 rfl rfl 6 rfl rfl (by decide) (by decide) (by decide) (by decide) (Nat.le_of_ble_eq_true rfl) (by decide +kernel) dX2_copy_74 [(h0, .inr (2, [.ref a0, .ref a1, .ref a2, .ref a3, .ref a4, .ref a5, .ref a6, .ref a7, .ref l0, .int k0, .int k1, .int k2, .int k3])), (a0, .inl (ct 0, 6, .inl (va_cpy g0 f0 0 0 6))), (a1, .inl (ct 0, 6, .inl (va_cpy g1 f1 0 0 6))), (a2, .inl (ct 1, 6, .inr (.inl (va_cpy g2 f2 0 0 6)))), (a3, .inl (ct 0, 6, .inl f3)), (a4, .inl (ct 0, 6, .inl f4)), (a5, .inl (ct 0, 6, .inl f5)), (a6, .inl (ct 0, 6, .inl f6)), (a7, .inl (ct 1, 6, .inr (.inl f7))), (l0, .inr (4, [.ref l1, .ref l2, .int s0])), (l1, .inl (ct 0, 1000, .inl fc)), (h1, .inr (2, [.ref b0, .ref b1, .ref b2, .ref b3, .ref b4, .ref b5, .ref b6, .ref b7, .ref m0, .int k0, .int k1, .int k2, .int k3])), (b0, .inl (ct 0, 6, .inl g0)), (b1, .inl (ct 0, 6, .inl g1)), (b2, .inl (ct 1, 6, .inr (.inl g2))), (b3, .inl (ct 0, 6, .inl g3)), (b4, .inl (ct 0, 6, .inl g4)), (b5, .inl (ct 0, 6, .inl g5)), (b6, .inl (ct 0, 6, .inl g6)), (b7, .inl (ct 1, 6, .inr (.inl g7))), (m0, .inr (4, [.ref m1, .ref m2, .int (nI sn)])), (m1, .inl (ct 0, 1000, .inl gc))] rfl (fun H locs hw hS => ?_)
  refine lv_aload_n hx hb dX2_copy_77 rfl (lv_at hl 1 rfl) ?_
  refine va_get (D := D) (ci := 2) (v := .ref b3) hx hb hts hiX2 hown hK hw.1 11 rfl rfl 3 (by decide) (hts (.fieldLink RX2 22 "BeardPass$Land" "kinds" "[I") (by decide +kernel)) (fun _ h9 => h9) rfl dX2_copy_78 ?_
  refine lv_iconst (v := 0) hx hb dX2_copy_81 (by decide) ?_
  refine lv_aload_n hx hb dX2_copy_82 rfl (lv_at hl 0 rfl) ?_
  refine va_get (D := D) (ci := 2) (v := .ref a3) hx hb hts hiX2 hown hK hw.1 0 rfl rfl 3 (by decide) (hts (.fieldLink RX2 22 "BeardPass$Land" "kinds" "[I") (by decide +kernel)) (fun _ h9 => h9) rfl dX2_copy_83 ?_
  refine lv_iconst (v := 0) hx hb dX2_copy_86 (by decide) ?_
  refine lv_bipush (v := 6) hx hb dX2_copy_87 (by decide) ?_
  refine zcopyi hx hb (hml.trans hl.1.symm) hown (hts (.methodLink RX2 66 arraycopyName) (by decide +kernel)) (hts (.native arraycopyName) (by decide +kernel)) (hts (.static arraycopyName) (by decide +kernel)) (hts (.initialized "java/lang/System") (by decide +kernel)) hK hw hS 15 4 rfl rfl 6 rfl rfl (by decide) (by decide) (by decide) (by decide) (Nat.le_of_ble_eq_true rfl) (by decide +kernel) dX2_copy_89 [(h0, .inr (2, [.ref a0, .ref a1, .ref a2, .ref a3, .ref a4, .ref a5, .ref a6, .ref a7, .ref l0, .int k0, .int k1, .int k2, .int k3])), (a0, .inl (ct 0, 6, .inl (va_cpy g0 f0 0 0 6))), (a1, .inl (ct 0, 6, .inl (va_cpy g1 f1 0 0 6))), (a2, .inl (ct 1, 6, .inr (.inl (va_cpy g2 f2 0 0 6)))), (a3, .inl (ct 0, 6, .inl (va_cpy g3 f3 0 0 6))), (a4, .inl (ct 0, 6, .inl f4)), (a5, .inl (ct 0, 6, .inl f5)), (a6, .inl (ct 0, 6, .inl f6)), (a7, .inl (ct 1, 6, .inr (.inl f7))), (l0, .inr (4, [.ref l1, .ref l2, .int s0])), (l1, .inl (ct 0, 1000, .inl fc)), (h1, .inr (2, [.ref b0, .ref b1, .ref b2, .ref b3, .ref b4, .ref b5, .ref b6, .ref b7, .ref m0, .int k0, .int k1, .int k2, .int k3])), (b0, .inl (ct 0, 6, .inl g0)), (b1, .inl (ct 0, 6, .inl g1)), (b2, .inl (ct 1, 6, .inr (.inl g2))), (b3, .inl (ct 0, 6, .inl g3)), (b4, .inl (ct 0, 6, .inl g4)), (b5, .inl (ct 0, 6, .inl g5)), (b6, .inl (ct 0, 6, .inl g6)), (b7, .inl (ct 1, 6, .inr (.inl g7))), (m0, .inr (4, [.ref m1, .ref m2, .int (nI sn)])), (m1, .inl (ct 0, 1000, .inl gc))] rfl (fun H locs hw hS => ?_)
  refine lv_aload_n hx hb dX2_copy_92 rfl (lv_at hl 1 rfl) ?_
  refine va_get (D := D) (ci := 2) (v := .ref b4) hx hb hts hiX2 hown hK hw.1 11 rfl rfl 4 (by decide) (hts (.fieldLink RX2 25 "BeardPass$Land" "homes" "[I") (by decide +kernel)) (fun _ h9 => h9) rfl dX2_copy_93 ?_
  refine lv_iconst (v := 0) hx hb dX2_copy_96 (by decide) ?_
  refine lv_aload_n hx hb dX2_copy_97 rfl (lv_at hl 0 rfl) ?_
  refine va_get (D := D) (ci := 2) (v := .ref a4) hx hb hts hiX2 hown hK hw.1 0 rfl rfl 4 (by decide) (hts (.fieldLink RX2 25 "BeardPass$Land" "homes" "[I") (by decide +kernel)) (fun _ h9 => h9) rfl dX2_copy_98 ?_
  refine lv_iconst (v := 0) hx hb dX2_copy_101 (by decide) ?_
  refine lv_bipush (v := 6) hx hb dX2_copy_102 (by decide) ?_
  refine zcopyi hx hb (hml.trans hl.1.symm) hown (hts (.methodLink RX2 66 arraycopyName) (by decide +kernel)) (hts (.native arraycopyName) (by decide +kernel)) (hts (.static arraycopyName) (by decide +kernel)) (hts (.initialized "java/lang/System") (by decide +kernel)) hK hw hS 16 5 rfl rfl 6 rfl rfl (by decide) (by decide) (by decide) (by decide) (Nat.le_of_ble_eq_true rfl) (by decide +kernel) dX2_copy_104 [(h0, .inr (2, [.ref a0, .ref a1, .ref a2, .ref a3, .ref a4, .ref a5, .ref a6, .ref a7, .ref l0, .int k0, .int k1, .int k2, .int k3])), (a0, .inl (ct 0, 6, .inl (va_cpy g0 f0 0 0 6))), (a1, .inl (ct 0, 6, .inl (va_cpy g1 f1 0 0 6))), (a2, .inl (ct 1, 6, .inr (.inl (va_cpy g2 f2 0 0 6)))), (a3, .inl (ct 0, 6, .inl (va_cpy g3 f3 0 0 6))), (a4, .inl (ct 0, 6, .inl (va_cpy g4 f4 0 0 6))), (a5, .inl (ct 0, 6, .inl f5)), (a6, .inl (ct 0, 6, .inl f6)), (a7, .inl (ct 1, 6, .inr (.inl f7))), (l0, .inr (4, [.ref l1, .ref l2, .int s0])), (l1, .inl (ct 0, 1000, .inl fc)), (h1, .inr (2, [.ref b0, .ref b1, .ref b2, .ref b3, .ref b4, .ref b5, .ref b6, .ref b7, .ref m0, .int k0, .int k1, .int k2, .int k3])), (b0, .inl (ct 0, 6, .inl g0)), (b1, .inl (ct 0, 6, .inl g1)), (b2, .inl (ct 1, 6, .inr (.inl g2))), (b3, .inl (ct 0, 6, .inl g3)), (b4, .inl (ct 0, 6, .inl g4)), (b5, .inl (ct 0, 6, .inl g5)), (b6, .inl (ct 0, 6, .inl g6)), (b7, .inl (ct 1, 6, .inr (.inl g7))), (m0, .inr (4, [.ref m1, .ref m2, .int (nI sn)])), (m1, .inl (ct 0, 1000, .inl gc))] rfl (fun H locs hw hS => ?_)
  refine lv_aload_n hx hb dX2_copy_107 rfl (lv_at hl 1 rfl) ?_
  refine va_get (D := D) (ci := 2) (v := .ref b5) hx hb hts hiX2 hown hK hw.1 11 rfl rfl 5 (by decide) (hts (.fieldLink RX2 28 "BeardPass$Land" "beards" "[I") (by decide +kernel)) (fun _ h9 => h9) rfl dX2_copy_108 ?_
  refine lv_iconst (v := 0) hx hb dX2_copy_111 (by decide) ?_
  refine lv_aload_n hx hb dX2_copy_112 rfl (lv_at hl 0 rfl) ?_
  refine va_get (D := D) (ci := 2) (v := .ref a5) hx hb hts hiX2 hown hK hw.1 0 rfl rfl 5 (by decide) (hts (.fieldLink RX2 28 "BeardPass$Land" "beards" "[I") (by decide +kernel)) (fun _ h9 => h9) rfl dX2_copy_113 ?_
  refine lv_iconst (v := 0) hx hb dX2_copy_116 (by decide) ?_
  refine lv_bipush (v := 6) hx hb dX2_copy_117 (by decide) ?_
  refine zcopyi hx hb (hml.trans hl.1.symm) hown (hts (.methodLink RX2 66 arraycopyName) (by decide +kernel)) (hts (.native arraycopyName) (by decide +kernel)) (hts (.static arraycopyName) (by decide +kernel)) (hts (.initialized "java/lang/System") (by decide +kernel)) hK hw hS 17 6 rfl rfl 6 rfl rfl (by decide) (by decide) (by decide) (by decide) (Nat.le_of_ble_eq_true rfl) (by decide +kernel) dX2_copy_119 [(h0, .inr (2, [.ref a0, .ref a1, .ref a2, .ref a3, .ref a4, .ref a5, .ref a6, .ref a7, .ref l0, .int k0, .int k1, .int k2, .int k3])), (a0, .inl (ct 0, 6, .inl (va_cpy g0 f0 0 0 6))), (a1, .inl (ct 0, 6, .inl (va_cpy g1 f1 0 0 6))), (a2, .inl (ct 1, 6, .inr (.inl (va_cpy g2 f2 0 0 6)))), (a3, .inl (ct 0, 6, .inl (va_cpy g3 f3 0 0 6))), (a4, .inl (ct 0, 6, .inl (va_cpy g4 f4 0 0 6))), (a5, .inl (ct 0, 6, .inl (va_cpy g5 f5 0 0 6))), (a6, .inl (ct 0, 6, .inl f6)), (a7, .inl (ct 1, 6, .inr (.inl f7))), (l0, .inr (4, [.ref l1, .ref l2, .int s0])), (l1, .inl (ct 0, 1000, .inl fc)), (h1, .inr (2, [.ref b0, .ref b1, .ref b2, .ref b3, .ref b4, .ref b5, .ref b6, .ref b7, .ref m0, .int k0, .int k1, .int k2, .int k3])), (b0, .inl (ct 0, 6, .inl g0)), (b1, .inl (ct 0, 6, .inl g1)), (b2, .inl (ct 1, 6, .inr (.inl g2))), (b3, .inl (ct 0, 6, .inl g3)), (b4, .inl (ct 0, 6, .inl g4)), (b5, .inl (ct 0, 6, .inl g5)), (b6, .inl (ct 0, 6, .inl g6)), (b7, .inl (ct 1, 6, .inr (.inl g7))), (m0, .inr (4, [.ref m1, .ref m2, .int (nI sn)])), (m1, .inl (ct 0, 1000, .inl gc))] rfl (fun H locs hw hS => ?_)
  refine lv_aload_n hx hb dX2_copy_122 rfl (lv_at hl 1 rfl) ?_
  refine va_get (D := D) (ci := 2) (v := .ref b6) hx hb hts hiX2 hown hK hw.1 11 rfl rfl 6 (by decide) (hts (.fieldLink RX2 31 "BeardPass$Land" "purses" "[I") (by decide +kernel)) (fun _ h9 => h9) rfl dX2_copy_123 ?_
  refine lv_iconst (v := 0) hx hb dX2_copy_126 (by decide) ?_
  refine lv_aload_n hx hb dX2_copy_127 rfl (lv_at hl 0 rfl) ?_
  refine va_get (D := D) (ci := 2) (v := .ref a6) hx hb hts hiX2 hown hK hw.1 0 rfl rfl 6 (by decide) (hts (.fieldLink RX2 31 "BeardPass$Land" "purses" "[I") (by decide +kernel)) (fun _ h9 => h9) rfl dX2_copy_128 ?_
  refine lv_iconst (v := 0) hx hb dX2_copy_131 (by decide) ?_
  refine lv_bipush (v := 6) hx hb dX2_copy_132 (by decide) ?_
  refine zcopyi hx hb (hml.trans hl.1.symm) hown (hts (.methodLink RX2 66 arraycopyName) (by decide +kernel)) (hts (.native arraycopyName) (by decide +kernel)) (hts (.static arraycopyName) (by decide +kernel)) (hts (.initialized "java/lang/System") (by decide +kernel)) hK hw hS 18 7 rfl rfl 6 rfl rfl (by decide) (by decide) (by decide) (by decide) (Nat.le_of_ble_eq_true rfl) (by decide +kernel) dX2_copy_134 [(h0, .inr (2, [.ref a0, .ref a1, .ref a2, .ref a3, .ref a4, .ref a5, .ref a6, .ref a7, .ref l0, .int k0, .int k1, .int k2, .int k3])), (a0, .inl (ct 0, 6, .inl (va_cpy g0 f0 0 0 6))), (a1, .inl (ct 0, 6, .inl (va_cpy g1 f1 0 0 6))), (a2, .inl (ct 1, 6, .inr (.inl (va_cpy g2 f2 0 0 6)))), (a3, .inl (ct 0, 6, .inl (va_cpy g3 f3 0 0 6))), (a4, .inl (ct 0, 6, .inl (va_cpy g4 f4 0 0 6))), (a5, .inl (ct 0, 6, .inl (va_cpy g5 f5 0 0 6))), (a6, .inl (ct 0, 6, .inl (va_cpy g6 f6 0 0 6))), (a7, .inl (ct 1, 6, .inr (.inl f7))), (l0, .inr (4, [.ref l1, .ref l2, .int s0])), (l1, .inl (ct 0, 1000, .inl fc)), (h1, .inr (2, [.ref b0, .ref b1, .ref b2, .ref b3, .ref b4, .ref b5, .ref b6, .ref b7, .ref m0, .int k0, .int k1, .int k2, .int k3])), (b0, .inl (ct 0, 6, .inl g0)), (b1, .inl (ct 0, 6, .inl g1)), (b2, .inl (ct 1, 6, .inr (.inl g2))), (b3, .inl (ct 0, 6, .inl g3)), (b4, .inl (ct 0, 6, .inl g4)), (b5, .inl (ct 0, 6, .inl g5)), (b6, .inl (ct 0, 6, .inl g6)), (b7, .inl (ct 1, 6, .inr (.inl g7))), (m0, .inr (4, [.ref m1, .ref m2, .int (nI sn)])), (m1, .inl (ct 0, 1000, .inl gc))] rfl (fun H locs hw hS => ?_)
  refine lv_aload_n hx hb dX2_copy_137 rfl (lv_at hl 1 rfl) ?_
  refine va_get (D := D) (ci := 2) (v := .ref b7) hx hb hts hiX2 hown hK hw.1 11 rfl rfl 7 (by decide) (hts (.fieldLink RX2 34 "BeardPass$Land" "personNames" "[J") (by decide +kernel)) (fun _ h9 => h9) rfl dX2_copy_138 ?_
  refine lv_iconst (v := 0) hx hb dX2_copy_141 (by decide) ?_
  refine lv_aload_n hx hb dX2_copy_142 rfl (lv_at hl 0 rfl) ?_
  refine va_get (D := D) (ci := 2) (v := .ref a7) hx hb hts hiX2 hown hK hw.1 0 rfl rfl 7 (by decide) (hts (.fieldLink RX2 34 "BeardPass$Land" "personNames" "[J") (by decide +kernel)) (fun _ h9 => h9) rfl dX2_copy_143 ?_
  refine lv_iconst (v := 0) hx hb dX2_copy_146 (by decide) ?_
  refine lv_bipush (v := 6) hx hb dX2_copy_147 (by decide) ?_
  refine zcopyl hx hb (hml.trans hl.1.symm) hown (hts (.methodLink RX2 66 arraycopyName) (by decide +kernel)) (hts (.native arraycopyName) (by decide +kernel)) (hts (.static arraycopyName) (by decide +kernel)) (hts (.initialized "java/lang/System") (by decide +kernel)) hK hw hS 19 8 rfl rfl 6 rfl rfl (by decide) (by decide) (by decide) (by decide) (Nat.le_of_ble_eq_true rfl) (by decide +kernel) dX2_copy_149 [(h0, .inr (2, [.ref a0, .ref a1, .ref a2, .ref a3, .ref a4, .ref a5, .ref a6, .ref a7, .ref l0, .int k0, .int k1, .int k2, .int k3])), (a0, .inl (ct 0, 6, .inl (va_cpy g0 f0 0 0 6))), (a1, .inl (ct 0, 6, .inl (va_cpy g1 f1 0 0 6))), (a2, .inl (ct 1, 6, .inr (.inl (va_cpy g2 f2 0 0 6)))), (a3, .inl (ct 0, 6, .inl (va_cpy g3 f3 0 0 6))), (a4, .inl (ct 0, 6, .inl (va_cpy g4 f4 0 0 6))), (a5, .inl (ct 0, 6, .inl (va_cpy g5 f5 0 0 6))), (a6, .inl (ct 0, 6, .inl (va_cpy g6 f6 0 0 6))), (a7, .inl (ct 1, 6, .inr (.inl (va_cpy g7 f7 0 0 6)))), (l0, .inr (4, [.ref l1, .ref l2, .int s0])), (l1, .inl (ct 0, 1000, .inl fc)), (h1, .inr (2, [.ref b0, .ref b1, .ref b2, .ref b3, .ref b4, .ref b5, .ref b6, .ref b7, .ref m0, .int k0, .int k1, .int k2, .int k3])), (b0, .inl (ct 0, 6, .inl g0)), (b1, .inl (ct 0, 6, .inl g1)), (b2, .inl (ct 1, 6, .inr (.inl g2))), (b3, .inl (ct 0, 6, .inl g3)), (b4, .inl (ct 0, 6, .inl g4)), (b5, .inl (ct 0, 6, .inl g5)), (b6, .inl (ct 0, 6, .inl g6)), (b7, .inl (ct 1, 6, .inr (.inl g7))), (m0, .inr (4, [.ref m1, .ref m2, .int (nI sn)])), (m1, .inl (ct 0, 1000, .inl gc))] rfl (fun H locs hw hS => ?_)
  refine lv_aload_n hx hb dX2_copy_152 rfl (lv_at hl 0 rfl) ?_
  refine va_get (D := D) (ci := 2) (v := .ref l0) hx hb hts hiX2 hown hK hw.1 0 rfl rfl 8 (by decide) (hts (.fieldLink RX2 40 "BeardPass$Land" "law" "LBeardPass$Law;") (by decide +kernel)) (fun _ h9 => h9) rfl dX2_copy_153 ?_
  refine lv_aload_n hx hb dX2_copy_156 rfl (lv_at hl 1 rfl) ?_
  refine va_get (D := D) (ci := 2) (v := .ref m0) hx hb hts hiX2 hown hK hw.1 11 rfl rfl 8 (by decide) (hts (.fieldLink RX2 40 "BeardPass$Land" "law" "LBeardPass$Law;") (by decide +kernel)) (fun _ h9 => h9) rfl dX2_copy_157 ?_
  refine zcall2 (va_runV (As := [.ref m0]) (rest := []) ⟨hx, hb, hml, hown, hts⟩ (c_X4_copy l D ct l0 m0 l1 l2 m1 m2 fc gc s0 sn (hn) H.size) (cwV 1 hts gX2_copy_X4_copy rfl rfl rfl (by decide +kernel) ⟨Nat.le_of_ble_eq_true rfl, Nat.le_of_ble_eq_true rfl⟩) (zpreV hK hw hS hA zZ.nil hN [9, 10, 20, 21] rfl rfl 4 9 rfl rfl) rfl rfl hl.1 rfl (lv_room (Nat.le_of_ble_eq_true rfl)) dX2_copy_160 ⟨Nat.le_of_ble_eq_true rfl, Nat.le_of_ble_eq_true rfl⟩) hw hS hA [9, 10, 20, 21] [0, 1, 2, 3, 4, 5, 6, 7, 8, 11, 12, 13, 14, 15, 16, 17, 18, 19] rfl rfl (by decide +kernel) (by decide +kernel) (fun _ H locs hp1 hw hS => ?_)
  have hw : zPD D A [(h0, .inr (2, [.ref a0, .ref a1, .ref a2, .ref a3, .ref a4, .ref a5, .ref a6, .ref a7, .ref l0, .int k0, .int k1, .int k2, .int k3])), (a0, .inl (ct 0, 6, .inl (va_cpy g0 f0 0 0 6))), (a1, .inl (ct 0, 6, .inl (va_cpy g1 f1 0 0 6))), (a2, .inl (ct 1, 6, .inr (.inl (va_cpy g2 f2 0 0 6)))), (a3, .inl (ct 0, 6, .inl (va_cpy g3 f3 0 0 6))), (a4, .inl (ct 0, 6, .inl (va_cpy g4 f4 0 0 6))), (a5, .inl (ct 0, 6, .inl (va_cpy g5 f5 0 0 6))), (a6, .inl (ct 0, 6, .inl (va_cpy g6 f6 0 0 6))), (a7, .inl (ct 1, 6, .inr (.inl (va_cpy g7 f7 0 0 6)))), (h1, .inr (2, [.ref b0, .ref b1, .ref b2, .ref b3, .ref b4, .ref b5, .ref b6, .ref b7, .ref m0, .int k0, .int k1, .int k2, .int k3])), (b0, .inl (ct 0, 6, .inl g0)), (b1, .inl (ct 0, 6, .inl g1)), (b2, .inl (ct 1, 6, .inr (.inl g2))), (b3, .inl (ct 0, 6, .inl g3)), (b4, .inl (ct 0, 6, .inl g4)), (b5, .inl (ct 0, 6, .inl g5)), (b6, .inl (ct 0, 6, .inl g6)), (b7, .inl (ct 1, 6, .inr (.inl g7))), (l0, .inr (4, [.ref l1, .ref l2, .int (nI sn)])), (l1, .inl (ct 0, 1000, .inl (va_cpy gc fc 0 0 sn))), (m0, .inr (4, [.ref m1, .ref m2, .int (nI sn)])), (m1, .inl (ct 0, 1000, .inl gc))] H := hw
  refine zfr 163 [] rfl rfl ?_
  exact zvret hx hb hr hlocks () rfl (trivial) hw [0, 1, 2, 3, 4, 5, 6, 7, 8, 18, 19, 9, 10, 11, 12, 13, 14, 15, 16, 17, 20, 21] rfl (rfl) hS (Nat.le_of_ble_eq_true rfl) (Nat.le_of_ble_eq_true rfl) dX2_copy_163
theorem zm_lt {k : Nat} (hk : k ≤ 1000) (h : ¬ (1000 : Int32) ≤ nI k) : k < 1000 := by
  rcases Nat.lt_or_ge k 1000 with q | q
  · exact q
  · exact absurd (nI_le (a := 1000) q (by omega)) h
theorem zm_ge {k : Nat} (hk : k ≤ 1000) (h : (1000 : Int32) ≤ nI k) : ¬ k < 1000 := fun q => nI_ge (b := 1000) q (by decide) h
theorem zfit_in {x : Int32} (h1 : ¬ x < 32) (h2 : ¬ 126 < x) : x = 10 ∨ (32 ≤ x ∧ x ≤ 126) := Or.inr ⟨Int32.not_lt.mp h1, Int32.not_lt.mp h2⟩
theorem zno1 {x : Int32} (h : ¬ x = 10) (h1 : x < 32) : ¬ (x = 10 ∨ (32 ≤ x ∧ x ≤ 126)) := by
  rintro (q | ⟨q, -⟩)
  · exact h q
  · exact Int32.not_lt.mpr q h1
theorem zno2 {x : Int32} (h : ¬ x = 10) (h1 : 126 < x) : ¬ (x = 10 ∨ (32 ≤ x ∧ x ≤ 126)) := by
  rintro (q | ⟨-, q⟩)
  · exact h q
  · exact Int32.not_lt.mpr q h1
theorem zf1 {a b c : Int64} {i : Nat} (hi : i < 24) (c1 : ¬ (8 : Int32) ≤ nI i) : (((a.toUInt64 >>> (((56 : Int32) - 8 * (nI i &&& 7)).toInt64.toUInt64 &&& Int64.toUInt64 63)).toInt64) &&& 255).toInt32 = zsg (zwd a b c i) (i % 8) := by
  have h : i < 8 := by
    rcases Nat.lt_or_ge i 8 with q | q
    · exact q
    · exact absurd (nI_le (a := 8) q (by omega)) c1
  unfold zsg zwd
  rw [if_pos h, zsh_r i hi]
theorem zf2 {a b c : Int64} {i : Nat} (hi : i < 24) (c1 : (8 : Int32) ≤ nI i) (c2 : ¬ (16 : Int32) ≤ nI i) : (((b.toUInt64 >>> (((56 : Int32) - 8 * (nI i &&& 7)).toInt64.toUInt64 &&& Int64.toUInt64 63)).toInt64) &&& 255).toInt32 = zsg (zwd a b c i) (i % 8) := by
  have h1 : ¬ i < 8 := fun q => nI_ge (b := 8) q (by decide) c1
  have h : i < 16 := by
    rcases Nat.lt_or_ge i 16 with q | q
    · exact q
    · exact absurd (nI_le (a := 16) q (by omega)) c2
  unfold zsg zwd
  rw [if_neg h1, if_pos h, zsh_r i hi]
theorem zf3 {a b c : Int64} {i : Nat} (hi : i < 24) (c1 : (8 : Int32) ≤ nI i) (c2 : (16 : Int32) ≤ nI i) : (((c.toUInt64 >>> (((56 : Int32) - 8 * (nI i &&& 7)).toInt64.toUInt64 &&& Int64.toUInt64 63)).toInt64) &&& 255).toInt32 = zsg (zwd a b c i) (i % 8) := by
  have h1 : ¬ i < 8 := fun q => nI_ge (b := 8) q (by decide) c1
  have h : ¬ i < 16 := fun q => nI_ge (b := 16) q (by decide) c2
  unfold zsg zwd
  rw [if_neg h1, if_neg h, zsh_r i hi]
set_option maxHeartbeats 4000000 in
set_option maxRecDepth 100000 in
/-- Tape.put: the signs that fit, behind those that are there -/
theorem c_put (l : Launch) (D : va_G) (ct : Nat → ClassId) (h0 : Nat) (a0 : Nat) (n : Nat) (f : Nat → Int32) (w : Int64) (pl : Int32) (nx : Int32) (so : Nat) (nb : Int32) (wd : Int64) (ft : Int32) (hn : n ≤ 1000) : zC l yX9_put wsX9_put ({ frames := 1, cells := 0, slots := 0, locals := 80 }) D ct [] [.ref h0, .long w] [(h0, .inr (8, [.ref a0, .int (nI n), .int pl, .int nx, .ref so, .int nb, .long wd, .int ft])), (a0, .inl (ct 2, 1000, .inl f))] (S := Unit) (fun _ => none) (fun _ => True) (fun _ => [(h0, .inr (8, [.ref a0, .int (nI (ztp w 8 (n, f)).1), .int pl, .int nx, .ref so, .int nb, .long wd, .int ft])), (a0, .inl (ct 2, 1000, .inl ((ztp w 8 (n, f)).2)))]) 0 0 := by
  refine zofW cX9_put 6 none (by decide) rfl (Nat.le_of_ble_eq_true rfl) ?_
  intro p e s m below meth c A hx hb hr hml hts hown hlocks hname hK hA hZ hN H locs hw hS ls hl
  have hown : s.vm.findClass RX9 = some m.cls := hown
  have hl : lv_has ls 6 [(0, .ref h0), (1, .long w)] := hl
  have hiX9 : ∀ w ∈ wsX90, w ∈ wsX9_put := by decide +kernel
  refine lv_bipush (v := 56) hx hb dX9_put_0 (by decide) ?_
  refine lv_istore_n (lv' := [(3, .int 56), (0, .ref h0), (1, .long w)]) hx hb dX9_put_2 rfl hl (by decide) rfl (fun ls hl => ?_)
  refine zloop (σ := Unit) (nL := 6) (st := []) (fun i _ => True) (fun i _ => [(h0, .inr (8, [.ref a0, .int (nI (ztp w i (n, f)).1), .int pl, .int nx, .ref so, .int nb, .long wd, .int ft])), (a0, .inl (ct 2, 1000, .inl ((ztp w i (n, f)).2)))]) (fun i _ => [(3, .int (zsh i)), (0, .ref h0), (1, .long w)]) (fun _ => 0) (fun _ => 0) 8 ?_ ?_ 0 () (Nat.zero_le _) (trivial) H locs ls (hw.sub [0, 1] rfl rfl) hS (lv_sub hl [0, 1, 2] rfl)
  · intro x2 hI3 H locs ls hw hS hl
    have hw : zPD D A [(h0, .inr (8, [.ref a0, .int (nI (ztp w 8 (n, f)).1), .int pl, .int nx, .ref so, .int nb, .long wd, .int ft])), (a0, .inl (ct 2, 1000, .inl ((ztp w 8 (n, f)).2)))] H := hw
    have hl : lv_has ls 6 [(3, .int (zsh 8)), (0, .ref h0), (1, .long w)] := hl
    refine lv_iload_n hx hb dX9_put_3 rfl (lv_at hl 0 rfl) ?_
    refine lv_if_lt (tgt := 88) hx hb dX9_put_4 (by decide) (fun _ => ?_) (fun h => absurd (zsh_8) h)
    exact zvret hx hb hr hlocks () rfl (trivial) hw [0, 1] rfl (rfl) hS (Nat.le_of_ble_eq_true rfl) (Nat.le_of_ble_eq_true rfl) dX9_put_88
  · intro i1 x5 hlt8 hI6 ih7 H locs ls hw hS hl
    have hw : zPD D A [(h0, .inr (8, [.ref a0, .int (nI (ztp w i1 (n, f)).1), .int pl, .int nx, .ref so, .int nb, .long wd, .int ft])), (a0, .inl (ct 2, 1000, .inl ((ztp w i1 (n, f)).2)))] H := hw
    have hl : lv_has ls 6 [(3, .int (zsh i1)), (0, .ref h0), (1, .long w)] := hl
    refine lv_iload_n hx hb dX9_put_3 rfl (lv_at hl 0 rfl) ?_
    refine lv_if_lt (tgt := 88) hx hb dX9_put_4 (by decide) (fun h => absurd h (zsh_in _ hlt8)) (fun _ => ?_)
    refine lv_lload_n hx hb dX9_put_7 rfl (lv_at hl 2 rfl) ?_
    refine lv_iload_n hx hb dX9_put_8 rfl (lv_at hl 0 rfl) ?_
    refine lv_lushr (v := (w.toUInt64 >>> ((zsh i1).toInt64.toUInt64 &&& Int64.toUInt64 63)).toInt64) hx hb dX9_put_9 rfl ?_
    refine lv_ldc2 hx hb hown (hts (.constantLong RX9 44 255) (by decide +kernel)) dX9_put_10 ?_
    refine lv_land hx hb dX9_put_13 ?_
    refine lv_l2i (v := (((w.toUInt64 >>> ((zsh i1).toInt64.toUInt64 &&& Int64.toUInt64 63)).toInt64) &&& 255).toInt32) hx hb dX9_put_14 rfl ?_
    refine ztop (.int (zsg w i1)) (congrArg Value.int (rfl)) ?_
    refine lv_istore (lv' := [(4, .int (zsg w i1)), (3, .int (zsh i1)), (0, .ref h0), (1, .long w)]) hx hb dX9_put_15 hl (by decide) rfl (fun ls hl => ?_)
    refine lv_iload hx hb dX9_put_17 (lv_at hl 0 rfl) ?_
    refine lv_bipush (v := 10) hx hb dX9_put_19 (by decide) ?_
    refine lv_icmp_eq (tgt := 38) hx hb dX9_put_21 (by decide) (fun c_10 => ?_) (fun c_10 => ?_)
    · refine lv_iconst (v := 1) hx hb dX9_put_38 (by decide) ?_
      refine lv_goto (tgt := 43) hx hb dX9_put_39 (by decide) ?_
      refine lv_istore (lv' := [(5, .int 1), (4, .int (zsg w i1)), (3, .int (zsh i1)), (0, .ref h0), (1, .long w)]) hx hb dX9_put_43 hl (by decide) rfl (fun ls hl => ?_)
      refine lv_iload hx hb dX9_put_45 (lv_at hl 0 rfl) ?_
      refine lv_if_eq (tgt := 82) hx hb dX9_put_47 (by decide) (fun h => absurd h (by decide)) (fun _ => ?_)
      refine lv_aload_n hx hb dX9_put_50 rfl (lv_at hl 3 rfl) ?_
      refine va_get (D := D) (ci := 8) (v := .int (nI (ztp w i1 (n, f)).1)) hx hb hts hiX9 hown hK hw.1 0 rfl rfl 1 (by decide) (hts (.fieldLink RX9 15 "BeardPass$Tape" "length" "I") (by decide +kernel)) (fun _ h9 => h9) rfl dX9_put_51 ?_
      refine lv_sipush (v := 1000) hx hb dX9_put_54 (by decide) ?_
      refine lv_icmp_ge (tgt := 82) hx hb dX9_put_57 (by decide) (fun c_12 => ?_) (fun c_12 => ?_)
      · refine lv_iinc (v := zsh (i1 + 1)) (lv' := [(3, .int (zsh (i1 + 1))), (5, .int 1), (4, .int (zsg w i1)), (0, .ref h0), (1, .long w)]) hx hb dX9_put_82 hl (k := 2) rfl (zsh_s _ hlt8) (by decide) rfl (fun ls hl => ?_)
        refine lv_goto (tgt := 3) hx hb dX9_put_85 (by decide) ?_
        exact ih7 () (trivial) H locs ls (zcong (by (try dsimp only); rw [show (ztp w (i1 + 1) (n, f)) = (ztp w i1 (n, f)) from zstep_full (zm_ge (ztp_le hn) c_12)]) (hw.sub (w0 := [(h0, .inr (8, [.ref a0, .int (nI (ztp w i1 (n, f)).1), .int pl, .int nx, .ref so, .int nb, .long wd, .int ft])), (a0, .inl (ct 2, 1000, .inl ((ztp w i1 (n, f)).2)))]) [0, 1] rfl rfl)) hS (lv_sub hl [0, 3, 4] rfl)
      · refine lv_aload_n hx hb dX9_put_60 rfl (lv_at hl 3 rfl) ?_
        refine va_get (D := D) (ci := 8) (v := .ref a0) hx hb hts hiX9 hown hK hw.1 0 rfl rfl 0 (by decide) (hts (.fieldLink RX9 9 "BeardPass$Tape" "signs" "[C") (by decide +kernel)) (fun _ h9 => h9) rfl dX9_put_61 ?_
        refine lv_aload_n hx hb dX9_put_64 rfl (lv_at hl 3 rfl) ?_
        refine va_get (D := D) (ci := 8) (v := .int (nI (ztp w i1 (n, f)).1)) hx hb hts hiX9 hown hK hw.1 0 rfl rfl 1 (by decide) (hts (.fieldLink RX9 15 "BeardPass$Tape" "length" "I") (by decide +kernel)) (fun _ h9 => h9) rfl dX9_put_65 ?_
        refine lv_iload hx hb dX9_put_68 (lv_at hl 1 rfl) ?_
        refine lv_i2c (v := ((zsg w i1).toUInt32 % 65536).toInt32) hx hb dX9_put_70 rfl ?_
        refine zcast hx hb hK hw hS 1 rfl ((ztp w i1 (n, f)).1) (rfl) (zm_lt (ztp_le hn) c_12) (by decide) (zsg w i1) (zchar (Or.inl c_10)) dX9_put_71 [(h0, .inr (8, [.ref a0, .int (nI (ztp w i1 (n, f)).1), .int pl, .int nx, .ref so, .int nb, .long wd, .int ft])), (a0, .inl (ct 2, 1000, .inl (upd ((ztp w i1 (n, f)).2) ((ztp w i1 (n, f)).1) (zsg w i1))))] rfl (fun H locs hw hS => ?_)
        refine lv_aload_n hx hb dX9_put_72 rfl (lv_at hl 3 rfl) ?_
        refine lv_dup hx hb dX9_put_73 rfl ?_
        refine va_get (D := D) (ci := 8) (v := .int (nI (ztp w i1 (n, f)).1)) hx hb hts hiX9 hown hK hw.1 0 rfl rfl 1 (by decide) (hts (.fieldLink RX9 15 "BeardPass$Tape" "length" "I") (by decide +kernel)) (fun _ h9 => h9) rfl dX9_put_74 ?_
        refine lv_iconst (v := 1) hx hb dX9_put_77 (by decide) ?_
        refine lv_iadd hx hb dX9_put_78 ?_
        refine ztop (.int (nI (((ztp w i1 (n, f)).1) + 1))) (congrArg Value.int (nI_add _ _)) ?_
        refine zput (D := D) (ci := 8) (v := .int (nI (((ztp w i1 (n, f)).1) + 1))) (ty := .int) hx hb hts hiX9 tyX9 tyX9_ok nmX9 hown hK hw hS 0 rfl rfl 1 (by decide) (hts (.fieldLink RX9 15 "BeardPass$Tape" "length" "I") (by decide +kernel)) (fun _ h9 => h9) rfl (by decide +kernel) rfl rfl (Nat.le_of_ble_eq_true rfl) dX9_put_79 [(h0, .inr (8, [.ref a0, .int (nI (((ztp w i1 (n, f)).1) + 1)), .int pl, .int nx, .ref so, .int nb, .long wd, .int ft])), (a0, .inl (ct 2, 1000, .inl (upd ((ztp w i1 (n, f)).2) ((ztp w i1 (n, f)).1) (zsg w i1))))] rfl (fun H locs hw hS => ?_)
        refine lv_iinc (v := zsh (i1 + 1)) (lv' := [(3, .int (zsh (i1 + 1))), (5, .int 1), (4, .int (zsg w i1)), (0, .ref h0), (1, .long w)]) hx hb dX9_put_82 hl (k := 2) rfl (zsh_s _ hlt8) (by decide) rfl (fun ls hl => ?_)
        refine lv_goto (tgt := 3) hx hb dX9_put_85 (by decide) ?_
        exact ih7 () (trivial) H locs ls (zcong (by (try dsimp only); rw [show (ztp w (i1 + 1) (n, f)) = _ from zstep_in (Or.inl c_10) (zm_lt (ztp_le hn) c_12)]) (hw.sub (w0 := [(h0, .inr (8, [.ref a0, .int (nI (((ztp w i1 (n, f)).1) + 1)), .int pl, .int nx, .ref so, .int nb, .long wd, .int ft])), (a0, .inl (ct 2, 1000, .inl (upd ((ztp w i1 (n, f)).2) ((ztp w i1 (n, f)).1) (zsg w i1))))]) [0, 1] rfl rfl)) hS (lv_sub hl [0, 3, 4] rfl)
    · refine lv_iload hx hb dX9_put_24 (lv_at hl 0 rfl) ?_
      refine lv_bipush (v := 32) hx hb dX9_put_26 (by decide) ?_
      refine lv_icmp_lt (tgt := 42) hx hb dX9_put_28 (by decide) (fun c_13 => ?_) (fun c_13 => ?_)
      · refine lv_iconst (v := 0) hx hb dX9_put_42 (by decide) ?_
        refine lv_istore (lv' := [(5, .int 0), (4, .int (zsg w i1)), (3, .int (zsh i1)), (0, .ref h0), (1, .long w)]) hx hb dX9_put_43 hl (by decide) rfl (fun ls hl => ?_)
        refine lv_iload hx hb dX9_put_45 (lv_at hl 0 rfl) ?_
        refine lv_if_eq (tgt := 82) hx hb dX9_put_47 (by decide) (fun _ => ?_) (fun h => absurd (by decide) h)
        refine lv_iinc (v := zsh (i1 + 1)) (lv' := [(3, .int (zsh (i1 + 1))), (5, .int 0), (4, .int (zsg w i1)), (0, .ref h0), (1, .long w)]) hx hb dX9_put_82 hl (k := 2) rfl (zsh_s _ hlt8) (by decide) rfl (fun ls hl => ?_)
        refine lv_goto (tgt := 3) hx hb dX9_put_85 (by decide) ?_
        exact ih7 () (trivial) H locs ls (zcong (by (try dsimp only); rw [show (ztp w (i1 + 1) (n, f)) = (ztp w i1 (n, f)) from zstep_no (zno1 c_10 c_13)]) (hw.sub (w0 := [(h0, .inr (8, [.ref a0, .int (nI (ztp w i1 (n, f)).1), .int pl, .int nx, .ref so, .int nb, .long wd, .int ft])), (a0, .inl (ct 2, 1000, .inl ((ztp w i1 (n, f)).2)))]) [0, 1] rfl rfl)) hS (lv_sub hl [0, 3, 4] rfl)
      · refine lv_iload hx hb dX9_put_31 (lv_at hl 0 rfl) ?_
        refine lv_bipush (v := 126) hx hb dX9_put_33 (by decide) ?_
        refine lv_icmp_gt (tgt := 42) hx hb dX9_put_35 (by decide) (fun c_15 => ?_) (fun c_15 => ?_)
        · refine lv_iconst (v := 0) hx hb dX9_put_42 (by decide) ?_
          refine lv_istore (lv' := [(5, .int 0), (4, .int (zsg w i1)), (3, .int (zsh i1)), (0, .ref h0), (1, .long w)]) hx hb dX9_put_43 hl (by decide) rfl (fun ls hl => ?_)
          refine lv_iload hx hb dX9_put_45 (lv_at hl 0 rfl) ?_
          refine lv_if_eq (tgt := 82) hx hb dX9_put_47 (by decide) (fun _ => ?_) (fun h => absurd (by decide) h)
          refine lv_iinc (v := zsh (i1 + 1)) (lv' := [(3, .int (zsh (i1 + 1))), (5, .int 0), (4, .int (zsg w i1)), (0, .ref h0), (1, .long w)]) hx hb dX9_put_82 hl (k := 2) rfl (zsh_s _ hlt8) (by decide) rfl (fun ls hl => ?_)
          refine lv_goto (tgt := 3) hx hb dX9_put_85 (by decide) ?_
          exact ih7 () (trivial) H locs ls (zcong (by (try dsimp only); rw [show (ztp w (i1 + 1) (n, f)) = (ztp w i1 (n, f)) from zstep_no (zno2 c_10 c_15)]) (hw.sub (w0 := [(h0, .inr (8, [.ref a0, .int (nI (ztp w i1 (n, f)).1), .int pl, .int nx, .ref so, .int nb, .long wd, .int ft])), (a0, .inl (ct 2, 1000, .inl ((ztp w i1 (n, f)).2)))]) [0, 1] rfl rfl)) hS (lv_sub hl [0, 3, 4] rfl)
        · refine lv_iconst (v := 1) hx hb dX9_put_38 (by decide) ?_
          refine lv_goto (tgt := 43) hx hb dX9_put_39 (by decide) ?_
          refine lv_istore (lv' := [(5, .int 1), (4, .int (zsg w i1)), (3, .int (zsh i1)), (0, .ref h0), (1, .long w)]) hx hb dX9_put_43 hl (by decide) rfl (fun ls hl => ?_)
          refine lv_iload hx hb dX9_put_45 (lv_at hl 0 rfl) ?_
          refine lv_if_eq (tgt := 82) hx hb dX9_put_47 (by decide) (fun h => absurd h (by decide)) (fun _ => ?_)
          refine lv_aload_n hx hb dX9_put_50 rfl (lv_at hl 3 rfl) ?_
          refine va_get (D := D) (ci := 8) (v := .int (nI (ztp w i1 (n, f)).1)) hx hb hts hiX9 hown hK hw.1 0 rfl rfl 1 (by decide) (hts (.fieldLink RX9 15 "BeardPass$Tape" "length" "I") (by decide +kernel)) (fun _ h9 => h9) rfl dX9_put_51 ?_
          refine lv_sipush (v := 1000) hx hb dX9_put_54 (by decide) ?_
          refine lv_icmp_ge (tgt := 82) hx hb dX9_put_57 (by decide) (fun c_18 => ?_) (fun c_18 => ?_)
          · refine lv_iinc (v := zsh (i1 + 1)) (lv' := [(3, .int (zsh (i1 + 1))), (5, .int 1), (4, .int (zsg w i1)), (0, .ref h0), (1, .long w)]) hx hb dX9_put_82 hl (k := 2) rfl (zsh_s _ hlt8) (by decide) rfl (fun ls hl => ?_)
            refine lv_goto (tgt := 3) hx hb dX9_put_85 (by decide) ?_
            exact ih7 () (trivial) H locs ls (zcong (by (try dsimp only); rw [show (ztp w (i1 + 1) (n, f)) = (ztp w i1 (n, f)) from zstep_full (zm_ge (ztp_le hn) c_18)]) (hw.sub (w0 := [(h0, .inr (8, [.ref a0, .int (nI (ztp w i1 (n, f)).1), .int pl, .int nx, .ref so, .int nb, .long wd, .int ft])), (a0, .inl (ct 2, 1000, .inl ((ztp w i1 (n, f)).2)))]) [0, 1] rfl rfl)) hS (lv_sub hl [0, 3, 4] rfl)
          · refine lv_aload_n hx hb dX9_put_60 rfl (lv_at hl 3 rfl) ?_
            refine va_get (D := D) (ci := 8) (v := .ref a0) hx hb hts hiX9 hown hK hw.1 0 rfl rfl 0 (by decide) (hts (.fieldLink RX9 9 "BeardPass$Tape" "signs" "[C") (by decide +kernel)) (fun _ h9 => h9) rfl dX9_put_61 ?_
            refine lv_aload_n hx hb dX9_put_64 rfl (lv_at hl 3 rfl) ?_
            refine va_get (D := D) (ci := 8) (v := .int (nI (ztp w i1 (n, f)).1)) hx hb hts hiX9 hown hK hw.1 0 rfl rfl 1 (by decide) (hts (.fieldLink RX9 15 "BeardPass$Tape" "length" "I") (by decide +kernel)) (fun _ h9 => h9) rfl dX9_put_65 ?_
            refine lv_iload hx hb dX9_put_68 (lv_at hl 1 rfl) ?_
            refine lv_i2c (v := ((zsg w i1).toUInt32 % 65536).toInt32) hx hb dX9_put_70 rfl ?_
            refine zcast hx hb hK hw hS 1 rfl ((ztp w i1 (n, f)).1) (rfl) (zm_lt (ztp_le hn) c_18) (by decide) (zsg w i1) (zchar (zfit_in c_13 c_15)) dX9_put_71 [(h0, .inr (8, [.ref a0, .int (nI (ztp w i1 (n, f)).1), .int pl, .int nx, .ref so, .int nb, .long wd, .int ft])), (a0, .inl (ct 2, 1000, .inl (upd ((ztp w i1 (n, f)).2) ((ztp w i1 (n, f)).1) (zsg w i1))))] rfl (fun H locs hw hS => ?_)
            refine lv_aload_n hx hb dX9_put_72 rfl (lv_at hl 3 rfl) ?_
            refine lv_dup hx hb dX9_put_73 rfl ?_
            refine va_get (D := D) (ci := 8) (v := .int (nI (ztp w i1 (n, f)).1)) hx hb hts hiX9 hown hK hw.1 0 rfl rfl 1 (by decide) (hts (.fieldLink RX9 15 "BeardPass$Tape" "length" "I") (by decide +kernel)) (fun _ h9 => h9) rfl dX9_put_74 ?_
            refine lv_iconst (v := 1) hx hb dX9_put_77 (by decide) ?_
            refine lv_iadd hx hb dX9_put_78 ?_
            refine ztop (.int (nI (((ztp w i1 (n, f)).1) + 1))) (congrArg Value.int (nI_add _ _)) ?_
            refine zput (D := D) (ci := 8) (v := .int (nI (((ztp w i1 (n, f)).1) + 1))) (ty := .int) hx hb hts hiX9 tyX9 tyX9_ok nmX9 hown hK hw hS 0 rfl rfl 1 (by decide) (hts (.fieldLink RX9 15 "BeardPass$Tape" "length" "I") (by decide +kernel)) (fun _ h9 => h9) rfl (by decide +kernel) rfl rfl (Nat.le_of_ble_eq_true rfl) dX9_put_79 [(h0, .inr (8, [.ref a0, .int (nI (((ztp w i1 (n, f)).1) + 1)), .int pl, .int nx, .ref so, .int nb, .long wd, .int ft])), (a0, .inl (ct 2, 1000, .inl (upd ((ztp w i1 (n, f)).2) ((ztp w i1 (n, f)).1) (zsg w i1))))] rfl (fun H locs hw hS => ?_)
            refine lv_iinc (v := zsh (i1 + 1)) (lv' := [(3, .int (zsh (i1 + 1))), (5, .int 1), (4, .int (zsg w i1)), (0, .ref h0), (1, .long w)]) hx hb dX9_put_82 hl (k := 2) rfl (zsh_s _ hlt8) (by decide) rfl (fun ls hl => ?_)
            refine lv_goto (tgt := 3) hx hb dX9_put_85 (by decide) ?_
            exact ih7 () (trivial) H locs ls (zcong (by (try dsimp only); rw [show (ztp w (i1 + 1) (n, f)) = _ from zstep_in (zfit_in c_13 c_15) (zm_lt (ztp_le hn) c_18)]) (hw.sub (w0 := [(h0, .inr (8, [.ref a0, .int (nI (((ztp w i1 (n, f)).1) + 1)), .int pl, .int nx, .ref so, .int nb, .long wd, .int ft])), (a0, .inl (ct 2, 1000, .inl (upd ((ztp w i1 (n, f)).2) ((ztp w i1 (n, f)).1) (zsg w i1))))]) [0, 1] rfl rfl)) hS (lv_sub hl [0, 3, 4] rfl)

set_option maxHeartbeats 4000000 in
set_option maxRecDepth 100000 in
/-- feed -/
theorem r_feedG (l : Launch) (D : va_G) (ct : Nat → ClassId) (h0 : Nat) (y : Nat → Nat) (p1 : Int64) (p2 : Int64) (p3 : Int64) (r : zRr) (q : zRq) (n : Nat) (hn : n ≤ 1000) : zC l yX12_feed wsX12_feed ({ frames := 1, cells := 0, slots := 0, locals := 80 }) D ct [] [.ref h0, .long p1, .long p2, .long p3] [(h0, .inr (11, [.int (r 100 0), .int (nI n), .ref (y 0), .int (r 103 0), .int (r 104 0), .int (r 105 0), .int (r 106 0), .long (q 107 0), .int (r 108 0), .int (r 109 0), .ref (y 1), .ref (y 2), .ref (y 3), .ref (y 4), .ref (y 5), .ref (y 6), .ref (y 7), .ref (y 8), .ref (y 9), .ref (y 10), .ref (y 11), .ref (y 12), .int (r 122 0), .int (r 123 0), .ref (y 13), .ref (y 14), .ref (y 15), .ref (y 16), .ref (y 17), .ref (y 18), .ref (y 19), .ref (y 20), .ref (y 21), .ref (y 22), .ref (y 23), .ref (y 24), .int (r 136 0), .long (q 137 0), .ref (y 25), .ref (y 26), .ref (y 27), .ref (y 28), .ref (y 29), .ref (y 30), .ref (y 31), .ref (y 32), .ref (y 33), .ref (y 34), .ref (y 35), .ref (y 36), .ref (y 37), .int (r 151 0), .int (r 152 0), .ref (y 38), .long (q 154 0), .int (r 155 0), .int (r 156 0)])), (y 0, .inl (ct 0, 1000, .inl (r 0)))] (S := Unit) (fun _ => some (.int (nI (ztp3 p1 p2 p3 24 (n, r 0)).1))) (fun _ => True) (fun _ => [(h0, .inr (11, [.int 0, .int (nI (ztp3 p1 p2 p3 24 (n, r 0)).1), .ref (y 0), .int (r 103 0), .int (r 104 0), .int (r 105 0), .int (r 106 0), .long (q 107 0), .int (r 108 0), .int (r 109 0), .ref (y 1), .ref (y 2), .ref (y 3), .ref (y 4), .ref (y 5), .ref (y 6), .ref (y 7), .ref (y 8), .ref (y 9), .ref (y 10), .ref (y 11), .ref (y 12), .int (r 122 0), .int (r 123 0), .ref (y 13), .ref (y 14), .ref (y 15), .ref (y 16), .ref (y 17), .ref (y 18), .ref (y 19), .ref (y 20), .ref (y 21), .ref (y 22), .ref (y 23), .ref (y 24), .int (r 136 0), .long (q 137 0), .ref (y 25), .ref (y 26), .ref (y 27), .ref (y 28), .ref (y 29), .ref (y 30), .ref (y 31), .ref (y 32), .ref (y 33), .ref (y 34), .ref (y 35), .ref (y 36), .ref (y 37), .int (r 151 0), .int (r 152 0), .ref (y 38), .long (q 154 0), .int (r 155 0), .int (r 156 0)])), (y 0, .inl (ct 0, 1000, .inl ((ztp3 p1 p2 p3 24 (n, r 0)).2)))]) 0 0 := by
  refine zofW cX12_feed 11 (some .int) (by decide) rfl (Nat.le_of_ble_eq_true rfl) ?_
  intro p e s m below meth c A hx hb hr hml hts hown hlocks hname hK hA hZ hN H locs hw hS ls hl
  have hown : s.vm.findClass RX12 = some m.cls := hown
  have hl : lv_has ls 11 [(0, .ref h0), (1, .long p1), (3, .long p2), (5, .long p3)] := hl
  have hiX12 : ∀ w ∈ wsX120, w ∈ wsX12_feed := by decide +kernel
  refine lv_aload_n hx hb dX12_feed_0 rfl (lv_at hl 0 rfl) ?_
  refine lv_iconst (v := 0) hx hb dX12_feed_1 (by decide) ?_
  refine zput (D := D) (ci := 11) (v := .int 0) (ty := .int) hx hb hts hiX12 tyX12 tyX12_ok nmX12 hown hK hw hS 0 rfl rfl 0 (by decide) (hts (.fieldLink RX12 129 "BeardPassModel" "thrown" "I") (by decide +kernel)) (fun _ h9 => h9) rfl (by decide +kernel) rfl rfl (Nat.le_of_ble_eq_true rfl) dX12_feed_2 [(h0, .inr (11, [.int 0, .int (nI n), .ref (y 0), .int (r 103 0), .int (r 104 0), .int (r 105 0), .int (r 106 0), .long (q 107 0), .int (r 108 0), .int (r 109 0), .ref (y 1), .ref (y 2), .ref (y 3), .ref (y 4), .ref (y 5), .ref (y 6), .ref (y 7), .ref (y 8), .ref (y 9), .ref (y 10), .ref (y 11), .ref (y 12), .int (r 122 0), .int (r 123 0), .ref (y 13), .ref (y 14), .ref (y 15), .ref (y 16), .ref (y 17), .ref (y 18), .ref (y 19), .ref (y 20), .ref (y 21), .ref (y 22), .ref (y 23), .ref (y 24), .int (r 136 0), .long (q 137 0), .ref (y 25), .ref (y 26), .ref (y 27), .ref (y 28), .ref (y 29), .ref (y 30), .ref (y 31), .ref (y 32), .ref (y 33), .ref (y 34), .ref (y 35), .ref (y 36), .ref (y 37), .int (r 151 0), .int (r 152 0), .ref (y 38), .long (q 154 0), .int (r 155 0), .int (r 156 0)])), (y 0, .inl (ct 0, 1000, .inl (r 0)))] rfl (fun H locs hw hS => ?_)
  refine lv_iconst (v := 0) hx hb dX12_feed_5 (by decide) ?_
  refine lv_istore (lv' := [(7, .int 0), (0, .ref h0), (1, .long p1), (3, .long p2), (5, .long p3)]) hx hb dX12_feed_6 hl (by decide) rfl (fun ls hl => ?_)
  refine zloop (σ := Unit) (nL := 11) (st := []) (fun i _ => True) (fun i _ => [(h0, .inr (11, [.int 0, .int (nI (ztp3 p1 p2 p3 i (n, r 0)).1), .ref (y 0), .int (r 103 0), .int (r 104 0), .int (r 105 0), .int (r 106 0), .long (q 107 0), .int (r 108 0), .int (r 109 0), .ref (y 1), .ref (y 2), .ref (y 3), .ref (y 4), .ref (y 5), .ref (y 6), .ref (y 7), .ref (y 8), .ref (y 9), .ref (y 10), .ref (y 11), .ref (y 12), .int (r 122 0), .int (r 123 0), .ref (y 13), .ref (y 14), .ref (y 15), .ref (y 16), .ref (y 17), .ref (y 18), .ref (y 19), .ref (y 20), .ref (y 21), .ref (y 22), .ref (y 23), .ref (y 24), .int (r 136 0), .long (q 137 0), .ref (y 25), .ref (y 26), .ref (y 27), .ref (y 28), .ref (y 29), .ref (y 30), .ref (y 31), .ref (y 32), .ref (y 33), .ref (y 34), .ref (y 35), .ref (y 36), .ref (y 37), .int (r 151 0), .int (r 152 0), .ref (y 38), .long (q 154 0), .int (r 155 0), .int (r 156 0)])), (y 0, .inl (ct 0, 1000, .inl ((ztp3 p1 p2 p3 i (n, r 0)).2)))]) (fun i _ => [(7, .int (nI i)), (0, .ref h0), (1, .long p1), (3, .long p2), (5, .long p3)]) (fun _ => 0) (fun _ => 0) 24 ?_ ?_ 0 () (Nat.zero_le _) (trivial) H locs ls (hw.sub [0, 1] rfl rfl) hS (lv_sub hl [0, 1, 2, 3, 4] rfl)
  · intro x2 hI3 H locs ls hw hS hl
    have hw : zPD D A [(h0, .inr (11, [.int 0, .int (nI (ztp3 p1 p2 p3 24 (n, r 0)).1), .ref (y 0), .int (r 103 0), .int (r 104 0), .int (r 105 0), .int (r 106 0), .long (q 107 0), .int (r 108 0), .int (r 109 0), .ref (y 1), .ref (y 2), .ref (y 3), .ref (y 4), .ref (y 5), .ref (y 6), .ref (y 7), .ref (y 8), .ref (y 9), .ref (y 10), .ref (y 11), .ref (y 12), .int (r 122 0), .int (r 123 0), .ref (y 13), .ref (y 14), .ref (y 15), .ref (y 16), .ref (y 17), .ref (y 18), .ref (y 19), .ref (y 20), .ref (y 21), .ref (y 22), .ref (y 23), .ref (y 24), .int (r 136 0), .long (q 137 0), .ref (y 25), .ref (y 26), .ref (y 27), .ref (y 28), .ref (y 29), .ref (y 30), .ref (y 31), .ref (y 32), .ref (y 33), .ref (y 34), .ref (y 35), .ref (y 36), .ref (y 37), .int (r 151 0), .int (r 152 0), .ref (y 38), .long (q 154 0), .int (r 155 0), .int (r 156 0)])), (y 0, .inl (ct 0, 1000, .inl ((ztp3 p1 p2 p3 24 (n, r 0)).2)))] H := hw
    have hl : lv_has ls 11 [(7, .int (nI 24)), (0, .ref h0), (1, .long p1), (3, .long p2), (5, .long p3)] := hl
    refine lv_iload hx hb dX12_feed_8 (lv_at hl 0 rfl) ?_
    refine lv_bipush (v := 24) hx hb dX12_feed_10 (by decide) ?_
    refine lv_icmp_ge (tgt := 120) hx hb dX12_feed_12 (by decide) (fun _ => ?_) (fun h => absurd (by decide) h)
    refine lv_aload_n hx hb dX12_feed_120 rfl (lv_at hl 1 rfl) ?_
    refine va_get (D := D) (ci := 11) (v := .int (nI (ztp3 p1 p2 p3 24 (n, r 0)).1)) hx hb hts hiX12 hown hK hw.1 0 rfl rfl 1 (by decide) (hts (.fieldLink RX12 135 "BeardPassModel" "taped" "I") (by decide +kernel)) (fun _ h9 => h9) rfl dX12_feed_121 ?_
    exact ziret hx hb hr (rfl) hlocks () (rfl) (trivial) hw [0, 1] rfl (rfl) hS (Nat.le_of_ble_eq_true rfl) (Nat.le_of_ble_eq_true rfl) dX12_feed_124
  · intro i1 x5 hlt8 hI6 ih7 H locs ls hw hS hl
    have hw : zPD D A [(h0, .inr (11, [.int 0, .int (nI (ztp3 p1 p2 p3 i1 (n, r 0)).1), .ref (y 0), .int (r 103 0), .int (r 104 0), .int (r 105 0), .int (r 106 0), .long (q 107 0), .int (r 108 0), .int (r 109 0), .ref (y 1), .ref (y 2), .ref (y 3), .ref (y 4), .ref (y 5), .ref (y 6), .ref (y 7), .ref (y 8), .ref (y 9), .ref (y 10), .ref (y 11), .ref (y 12), .int (r 122 0), .int (r 123 0), .ref (y 13), .ref (y 14), .ref (y 15), .ref (y 16), .ref (y 17), .ref (y 18), .ref (y 19), .ref (y 20), .ref (y 21), .ref (y 22), .ref (y 23), .ref (y 24), .int (r 136 0), .long (q 137 0), .ref (y 25), .ref (y 26), .ref (y 27), .ref (y 28), .ref (y 29), .ref (y 30), .ref (y 31), .ref (y 32), .ref (y 33), .ref (y 34), .ref (y 35), .ref (y 36), .ref (y 37), .int (r 151 0), .int (r 152 0), .ref (y 38), .long (q 154 0), .int (r 155 0), .int (r 156 0)])), (y 0, .inl (ct 0, 1000, .inl ((ztp3 p1 p2 p3 i1 (n, r 0)).2)))] H := hw
    have hl : lv_has ls 11 [(7, .int (nI i1)), (0, .ref h0), (1, .long p1), (3, .long p2), (5, .long p3)] := hl
    refine lv_iload hx hb dX12_feed_8 (lv_at hl 0 rfl) ?_
    refine lv_bipush (v := 24) hx hb dX12_feed_10 (by decide) ?_
    refine lv_icmp_ge (tgt := 120) hx hb dX12_feed_12 (by decide) (fun h => absurd h (nI_ge hlt8 (by decide))) (fun _ => ?_)
    refine lv_iload hx hb dX12_feed_15 (lv_at hl 0 rfl) ?_
    refine lv_bipush (v := 8) hx hb dX12_feed_17 (by decide) ?_
    refine lv_icmp_ge (tgt := 26) hx hb dX12_feed_19 (by decide) (fun c_10 => ?_) (fun c_10 => ?_)
    · refine lv_iload hx hb dX12_feed_26 (lv_at hl 0 rfl) ?_
      refine lv_bipush (v := 16) hx hb dX12_feed_28 (by decide) ?_
      refine lv_icmp_ge (tgt := 37) hx hb dX12_feed_30 (by decide) (fun c_11 => ?_) (fun c_11 => ?_)
      · refine lv_lload hx hb dX12_feed_37 (lv_at hl 4 rfl) ?_
        refine lv_lstore (lv' := [(8, .long p3), (7, .int (nI i1)), (0, .ref h0), (1, .long p1), (3, .long p2), (5, .long p3)]) hx hb dX12_feed_39 hl (by decide) rfl (fun ls hl => ?_)
        refine lv_lload hx hb dX12_feed_41 (lv_at hl 0 rfl) ?_
        refine lv_bipush (v := 56) hx hb dX12_feed_43 (by decide) ?_
        refine lv_bipush (v := 8) hx hb dX12_feed_45 (by decide) ?_
        refine lv_iload hx hb dX12_feed_47 (lv_at hl 1 rfl) ?_
        refine lv_bipush (v := 7) hx hb dX12_feed_49 (by decide) ?_
        refine lv_iand hx hb dX12_feed_51 ?_
        refine lv_imul hx hb dX12_feed_52 ?_
        refine lv_isub hx hb dX12_feed_53 ?_
        refine lv_lushr (v := (p3.toUInt64 >>> ((56 - (8 * ((nI i1) &&& 7))).toInt64.toUInt64 &&& Int64.toUInt64 63)).toInt64) hx hb dX12_feed_54 rfl ?_
        refine lv_ldc2 hx hb hown (hts (.constantLong RX12 133 255) (by decide +kernel)) dX12_feed_55 ?_
        refine lv_land hx hb dX12_feed_58 ?_
        refine lv_l2i (v := (((p3.toUInt64 >>> ((56 - (8 * ((nI i1) &&& 7))).toInt64.toUInt64 &&& Int64.toUInt64 63)).toInt64) &&& 255).toInt32) hx hb dX12_feed_59 rfl ?_
        refine ztop (.int (zsg (zwd p1 p2 p3 i1) (i1 % 8))) (congrArg Value.int (zf3 hlt8 c_10 c_11)) ?_
        refine lv_istore (lv' := [(10, .int (zsg (zwd p1 p2 p3 i1) (i1 % 8))), (8, .long p3), (7, .int (nI i1)), (0, .ref h0), (1, .long p1), (3, .long p2), (5, .long p3)]) hx hb dX12_feed_60 hl (by decide) rfl (fun ls hl => ?_)
        refine lv_aload_n hx hb dX12_feed_62 rfl (lv_at hl 3 rfl) ?_
        refine va_get (D := D) (ci := 11) (v := .int (nI (ztp3 p1 p2 p3 i1 (n, r 0)).1)) hx hb hts hiX12 hown hK hw.1 0 rfl rfl 1 (by decide) (hts (.fieldLink RX12 135 "BeardPassModel" "taped" "I") (by decide +kernel)) (fun _ h9 => h9) rfl dX12_feed_63 ?_
        refine lv_sipush (v := 1000) hx hb dX12_feed_66 (by decide) ?_
        refine lv_icmp_ge (tgt := 114) hx hb dX12_feed_69 (by decide) (fun c_12 => ?_) (fun c_12 => ?_)
        · refine lv_iinc (v := nI (i1 + 1)) (lv' := [(7, .int (nI (i1 + 1))), (10, .int (zsg (zwd p1 p2 p3 i1) (i1 % 8))), (8, .long p3), (0, .ref h0), (1, .long p1), (3, .long p2), (5, .long p3)]) hx hb dX12_feed_114 hl (k := 2) rfl (nI_add _ 1) (by decide) rfl (fun ls hl => ?_)
          refine lv_goto (tgt := 8) hx hb dX12_feed_117 (by decide) ?_
          exact ih7 () (trivial) H locs ls (zcong (by (try dsimp only); rw [show (ztp3 p1 p2 p3 (i1 + 1) (n, r 0)) = (ztp3 p1 p2 p3 i1 (n, r 0)) from zstep_full (zm_ge (ztp3_le hn) c_12)]) (hw.sub (w0 := [(h0, .inr (11, [.int 0, .int (nI (ztp3 p1 p2 p3 i1 (n, r 0)).1), .ref (y 0), .int (r 103 0), .int (r 104 0), .int (r 105 0), .int (r 106 0), .long (q 107 0), .int (r 108 0), .int (r 109 0), .ref (y 1), .ref (y 2), .ref (y 3), .ref (y 4), .ref (y 5), .ref (y 6), .ref (y 7), .ref (y 8), .ref (y 9), .ref (y 10), .ref (y 11), .ref (y 12), .int (r 122 0), .int (r 123 0), .ref (y 13), .ref (y 14), .ref (y 15), .ref (y 16), .ref (y 17), .ref (y 18), .ref (y 19), .ref (y 20), .ref (y 21), .ref (y 22), .ref (y 23), .ref (y 24), .int (r 136 0), .long (q 137 0), .ref (y 25), .ref (y 26), .ref (y 27), .ref (y 28), .ref (y 29), .ref (y 30), .ref (y 31), .ref (y 32), .ref (y 33), .ref (y 34), .ref (y 35), .ref (y 36), .ref (y 37), .int (r 151 0), .int (r 152 0), .ref (y 38), .long (q 154 0), .int (r 155 0), .int (r 156 0)])), (y 0, .inl (ct 0, 1000, .inl ((ztp3 p1 p2 p3 i1 (n, r 0)).2)))]) [0, 1] rfl rfl)) hS (lv_sub hl [0, 3, 4, 5, 6] rfl)
        · refine lv_iload hx hb dX12_feed_72 (lv_at hl 0 rfl) ?_
          refine lv_bipush (v := 10) hx hb dX12_feed_74 (by decide) ?_
          refine lv_icmp_eq (tgt := 93) hx hb dX12_feed_76 (by decide) (fun c_13 => ?_) (fun c_13 => ?_)
          · refine lv_aload_n hx hb dX12_feed_93 rfl (lv_at hl 3 rfl) ?_
            refine va_get (D := D) (ci := 11) (v := .ref (y 0)) hx hb hts hiX12 hown hK hw.1 0 rfl rfl 2 (by decide) (hts (.fieldLink RX12 7 "BeardPassModel" "tape" "[I") (by decide +kernel)) (fun _ h9 => h9) rfl dX12_feed_94 ?_
            refine lv_aload_n hx hb dX12_feed_97 rfl (lv_at hl 3 rfl) ?_
            refine va_get (D := D) (ci := 11) (v := .int (nI (ztp3 p1 p2 p3 i1 (n, r 0)).1)) hx hb hts hiX12 hown hK hw.1 0 rfl rfl 1 (by decide) (hts (.fieldLink RX12 135 "BeardPassModel" "taped" "I") (by decide +kernel)) (fun _ h9 => h9) rfl dX12_feed_98 ?_
            refine lv_iload hx hb dX12_feed_101 (lv_at hl 0 rfl) ?_
            refine ziast hx hb hK hw hS 1 rfl ((ztp3 p1 p2 p3 i1 (n, r 0)).1) (rfl) (zm_lt (ztp3_le hn) c_12) (by decide) dX12_feed_103 [(h0, .inr (11, [.int 0, .int (nI (ztp3 p1 p2 p3 i1 (n, r 0)).1), .ref (y 0), .int (r 103 0), .int (r 104 0), .int (r 105 0), .int (r 106 0), .long (q 107 0), .int (r 108 0), .int (r 109 0), .ref (y 1), .ref (y 2), .ref (y 3), .ref (y 4), .ref (y 5), .ref (y 6), .ref (y 7), .ref (y 8), .ref (y 9), .ref (y 10), .ref (y 11), .ref (y 12), .int (r 122 0), .int (r 123 0), .ref (y 13), .ref (y 14), .ref (y 15), .ref (y 16), .ref (y 17), .ref (y 18), .ref (y 19), .ref (y 20), .ref (y 21), .ref (y 22), .ref (y 23), .ref (y 24), .int (r 136 0), .long (q 137 0), .ref (y 25), .ref (y 26), .ref (y 27), .ref (y 28), .ref (y 29), .ref (y 30), .ref (y 31), .ref (y 32), .ref (y 33), .ref (y 34), .ref (y 35), .ref (y 36), .ref (y 37), .int (r 151 0), .int (r 152 0), .ref (y 38), .long (q 154 0), .int (r 155 0), .int (r 156 0)])), (y 0, .inl (ct 0, 1000, .inl (upd ((ztp3 p1 p2 p3 i1 (n, r 0)).2) ((ztp3 p1 p2 p3 i1 (n, r 0)).1) (zsg (zwd p1 p2 p3 i1) (i1 % 8)))))] rfl (fun H locs hw hS => ?_)
            refine lv_aload_n hx hb dX12_feed_104 rfl (lv_at hl 3 rfl) ?_
            refine lv_dup hx hb dX12_feed_105 rfl ?_
            refine va_get (D := D) (ci := 11) (v := .int (nI (ztp3 p1 p2 p3 i1 (n, r 0)).1)) hx hb hts hiX12 hown hK hw.1 0 rfl rfl 1 (by decide) (hts (.fieldLink RX12 135 "BeardPassModel" "taped" "I") (by decide +kernel)) (fun _ h9 => h9) rfl dX12_feed_106 ?_
            refine lv_iconst (v := 1) hx hb dX12_feed_109 (by decide) ?_
            refine lv_iadd hx hb dX12_feed_110 ?_
            refine ztop (.int (nI (((ztp3 p1 p2 p3 i1 (n, r 0)).1) + 1))) (congrArg Value.int (nI_add _ _)) ?_
            refine zput (D := D) (ci := 11) (v := .int (nI (((ztp3 p1 p2 p3 i1 (n, r 0)).1) + 1))) (ty := .int) hx hb hts hiX12 tyX12 tyX12_ok nmX12 hown hK hw hS 0 rfl rfl 1 (by decide) (hts (.fieldLink RX12 135 "BeardPassModel" "taped" "I") (by decide +kernel)) (fun _ h9 => h9) rfl (by decide +kernel) rfl rfl (Nat.le_of_ble_eq_true rfl) dX12_feed_111 [(h0, .inr (11, [.int 0, .int (nI (((ztp3 p1 p2 p3 i1 (n, r 0)).1) + 1)), .ref (y 0), .int (r 103 0), .int (r 104 0), .int (r 105 0), .int (r 106 0), .long (q 107 0), .int (r 108 0), .int (r 109 0), .ref (y 1), .ref (y 2), .ref (y 3), .ref (y 4), .ref (y 5), .ref (y 6), .ref (y 7), .ref (y 8), .ref (y 9), .ref (y 10), .ref (y 11), .ref (y 12), .int (r 122 0), .int (r 123 0), .ref (y 13), .ref (y 14), .ref (y 15), .ref (y 16), .ref (y 17), .ref (y 18), .ref (y 19), .ref (y 20), .ref (y 21), .ref (y 22), .ref (y 23), .ref (y 24), .int (r 136 0), .long (q 137 0), .ref (y 25), .ref (y 26), .ref (y 27), .ref (y 28), .ref (y 29), .ref (y 30), .ref (y 31), .ref (y 32), .ref (y 33), .ref (y 34), .ref (y 35), .ref (y 36), .ref (y 37), .int (r 151 0), .int (r 152 0), .ref (y 38), .long (q 154 0), .int (r 155 0), .int (r 156 0)])), (y 0, .inl (ct 0, 1000, .inl (upd ((ztp3 p1 p2 p3 i1 (n, r 0)).2) ((ztp3 p1 p2 p3 i1 (n, r 0)).1) (zsg (zwd p1 p2 p3 i1) (i1 % 8)))))] rfl (fun H locs hw hS => ?_)
            refine lv_iinc (v := nI (i1 + 1)) (lv' := [(7, .int (nI (i1 + 1))), (10, .int (zsg (zwd p1 p2 p3 i1) (i1 % 8))), (8, .long p3), (0, .ref h0), (1, .long p1), (3, .long p2), (5, .long p3)]) hx hb dX12_feed_114 hl (k := 2) rfl (nI_add _ 1) (by decide) rfl (fun ls hl => ?_)
            refine lv_goto (tgt := 8) hx hb dX12_feed_117 (by decide) ?_
            exact ih7 () (trivial) H locs ls (zcong (by (try dsimp only); rw [show (ztp3 p1 p2 p3 (i1 + 1) (n, r 0)) = _ from zstep_in (Or.inl c_13) (zm_lt (ztp3_le hn) c_12)]) (hw.sub (w0 := [(h0, .inr (11, [.int 0, .int (nI (((ztp3 p1 p2 p3 i1 (n, r 0)).1) + 1)), .ref (y 0), .int (r 103 0), .int (r 104 0), .int (r 105 0), .int (r 106 0), .long (q 107 0), .int (r 108 0), .int (r 109 0), .ref (y 1), .ref (y 2), .ref (y 3), .ref (y 4), .ref (y 5), .ref (y 6), .ref (y 7), .ref (y 8), .ref (y 9), .ref (y 10), .ref (y 11), .ref (y 12), .int (r 122 0), .int (r 123 0), .ref (y 13), .ref (y 14), .ref (y 15), .ref (y 16), .ref (y 17), .ref (y 18), .ref (y 19), .ref (y 20), .ref (y 21), .ref (y 22), .ref (y 23), .ref (y 24), .int (r 136 0), .long (q 137 0), .ref (y 25), .ref (y 26), .ref (y 27), .ref (y 28), .ref (y 29), .ref (y 30), .ref (y 31), .ref (y 32), .ref (y 33), .ref (y 34), .ref (y 35), .ref (y 36), .ref (y 37), .int (r 151 0), .int (r 152 0), .ref (y 38), .long (q 154 0), .int (r 155 0), .int (r 156 0)])), (y 0, .inl (ct 0, 1000, .inl (upd ((ztp3 p1 p2 p3 i1 (n, r 0)).2) ((ztp3 p1 p2 p3 i1 (n, r 0)).1) (zsg (zwd p1 p2 p3 i1) (i1 % 8)))))]) [0, 1] rfl rfl)) hS (lv_sub hl [0, 3, 4, 5, 6] rfl)
          · refine lv_iload hx hb dX12_feed_79 (lv_at hl 0 rfl) ?_
            refine lv_bipush (v := 32) hx hb dX12_feed_81 (by decide) ?_
            refine lv_icmp_lt (tgt := 114) hx hb dX12_feed_83 (by decide) (fun c_14 => ?_) (fun c_14 => ?_)
            · refine lv_iinc (v := nI (i1 + 1)) (lv' := [(7, .int (nI (i1 + 1))), (10, .int (zsg (zwd p1 p2 p3 i1) (i1 % 8))), (8, .long p3), (0, .ref h0), (1, .long p1), (3, .long p2), (5, .long p3)]) hx hb dX12_feed_114 hl (k := 2) rfl (nI_add _ 1) (by decide) rfl (fun ls hl => ?_)
              refine lv_goto (tgt := 8) hx hb dX12_feed_117 (by decide) ?_
              exact ih7 () (trivial) H locs ls (zcong (by (try dsimp only); rw [show (ztp3 p1 p2 p3 (i1 + 1) (n, r 0)) = (ztp3 p1 p2 p3 i1 (n, r 0)) from zstep_no (zno1 c_13 c_14)]) (hw.sub (w0 := [(h0, .inr (11, [.int 0, .int (nI (ztp3 p1 p2 p3 i1 (n, r 0)).1), .ref (y 0), .int (r 103 0), .int (r 104 0), .int (r 105 0), .int (r 106 0), .long (q 107 0), .int (r 108 0), .int (r 109 0), .ref (y 1), .ref (y 2), .ref (y 3), .ref (y 4), .ref (y 5), .ref (y 6), .ref (y 7), .ref (y 8), .ref (y 9), .ref (y 10), .ref (y 11), .ref (y 12), .int (r 122 0), .int (r 123 0), .ref (y 13), .ref (y 14), .ref (y 15), .ref (y 16), .ref (y 17), .ref (y 18), .ref (y 19), .ref (y 20), .ref (y 21), .ref (y 22), .ref (y 23), .ref (y 24), .int (r 136 0), .long (q 137 0), .ref (y 25), .ref (y 26), .ref (y 27), .ref (y 28), .ref (y 29), .ref (y 30), .ref (y 31), .ref (y 32), .ref (y 33), .ref (y 34), .ref (y 35), .ref (y 36), .ref (y 37), .int (r 151 0), .int (r 152 0), .ref (y 38), .long (q 154 0), .int (r 155 0), .int (r 156 0)])), (y 0, .inl (ct 0, 1000, .inl ((ztp3 p1 p2 p3 i1 (n, r 0)).2)))]) [0, 1] rfl rfl)) hS (lv_sub hl [0, 3, 4, 5, 6] rfl)
            · refine lv_iload hx hb dX12_feed_86 (lv_at hl 0 rfl) ?_
              refine lv_bipush (v := 126) hx hb dX12_feed_88 (by decide) ?_
              refine lv_icmp_gt (tgt := 114) hx hb dX12_feed_90 (by decide) (fun c_15 => ?_) (fun c_15 => ?_)
              · refine lv_iinc (v := nI (i1 + 1)) (lv' := [(7, .int (nI (i1 + 1))), (10, .int (zsg (zwd p1 p2 p3 i1) (i1 % 8))), (8, .long p3), (0, .ref h0), (1, .long p1), (3, .long p2), (5, .long p3)]) hx hb dX12_feed_114 hl (k := 2) rfl (nI_add _ 1) (by decide) rfl (fun ls hl => ?_)
                refine lv_goto (tgt := 8) hx hb dX12_feed_117 (by decide) ?_
                exact ih7 () (trivial) H locs ls (zcong (by (try dsimp only); rw [show (ztp3 p1 p2 p3 (i1 + 1) (n, r 0)) = (ztp3 p1 p2 p3 i1 (n, r 0)) from zstep_no (zno2 c_13 c_15)]) (hw.sub (w0 := [(h0, .inr (11, [.int 0, .int (nI (ztp3 p1 p2 p3 i1 (n, r 0)).1), .ref (y 0), .int (r 103 0), .int (r 104 0), .int (r 105 0), .int (r 106 0), .long (q 107 0), .int (r 108 0), .int (r 109 0), .ref (y 1), .ref (y 2), .ref (y 3), .ref (y 4), .ref (y 5), .ref (y 6), .ref (y 7), .ref (y 8), .ref (y 9), .ref (y 10), .ref (y 11), .ref (y 12), .int (r 122 0), .int (r 123 0), .ref (y 13), .ref (y 14), .ref (y 15), .ref (y 16), .ref (y 17), .ref (y 18), .ref (y 19), .ref (y 20), .ref (y 21), .ref (y 22), .ref (y 23), .ref (y 24), .int (r 136 0), .long (q 137 0), .ref (y 25), .ref (y 26), .ref (y 27), .ref (y 28), .ref (y 29), .ref (y 30), .ref (y 31), .ref (y 32), .ref (y 33), .ref (y 34), .ref (y 35), .ref (y 36), .ref (y 37), .int (r 151 0), .int (r 152 0), .ref (y 38), .long (q 154 0), .int (r 155 0), .int (r 156 0)])), (y 0, .inl (ct 0, 1000, .inl ((ztp3 p1 p2 p3 i1 (n, r 0)).2)))]) [0, 1] rfl rfl)) hS (lv_sub hl [0, 3, 4, 5, 6] rfl)
              · refine lv_aload_n hx hb dX12_feed_93 rfl (lv_at hl 3 rfl) ?_
                refine va_get (D := D) (ci := 11) (v := .ref (y 0)) hx hb hts hiX12 hown hK hw.1 0 rfl rfl 2 (by decide) (hts (.fieldLink RX12 7 "BeardPassModel" "tape" "[I") (by decide +kernel)) (fun _ h9 => h9) rfl dX12_feed_94 ?_
                refine lv_aload_n hx hb dX12_feed_97 rfl (lv_at hl 3 rfl) ?_
                refine va_get (D := D) (ci := 11) (v := .int (nI (ztp3 p1 p2 p3 i1 (n, r 0)).1)) hx hb hts hiX12 hown hK hw.1 0 rfl rfl 1 (by decide) (hts (.fieldLink RX12 135 "BeardPassModel" "taped" "I") (by decide +kernel)) (fun _ h9 => h9) rfl dX12_feed_98 ?_
                refine lv_iload hx hb dX12_feed_101 (lv_at hl 0 rfl) ?_
                refine ziast hx hb hK hw hS 1 rfl ((ztp3 p1 p2 p3 i1 (n, r 0)).1) (rfl) (zm_lt (ztp3_le hn) c_12) (by decide) dX12_feed_103 [(h0, .inr (11, [.int 0, .int (nI (ztp3 p1 p2 p3 i1 (n, r 0)).1), .ref (y 0), .int (r 103 0), .int (r 104 0), .int (r 105 0), .int (r 106 0), .long (q 107 0), .int (r 108 0), .int (r 109 0), .ref (y 1), .ref (y 2), .ref (y 3), .ref (y 4), .ref (y 5), .ref (y 6), .ref (y 7), .ref (y 8), .ref (y 9), .ref (y 10), .ref (y 11), .ref (y 12), .int (r 122 0), .int (r 123 0), .ref (y 13), .ref (y 14), .ref (y 15), .ref (y 16), .ref (y 17), .ref (y 18), .ref (y 19), .ref (y 20), .ref (y 21), .ref (y 22), .ref (y 23), .ref (y 24), .int (r 136 0), .long (q 137 0), .ref (y 25), .ref (y 26), .ref (y 27), .ref (y 28), .ref (y 29), .ref (y 30), .ref (y 31), .ref (y 32), .ref (y 33), .ref (y 34), .ref (y 35), .ref (y 36), .ref (y 37), .int (r 151 0), .int (r 152 0), .ref (y 38), .long (q 154 0), .int (r 155 0), .int (r 156 0)])), (y 0, .inl (ct 0, 1000, .inl (upd ((ztp3 p1 p2 p3 i1 (n, r 0)).2) ((ztp3 p1 p2 p3 i1 (n, r 0)).1) (zsg (zwd p1 p2 p3 i1) (i1 % 8)))))] rfl (fun H locs hw hS => ?_)
                refine lv_aload_n hx hb dX12_feed_104 rfl (lv_at hl 3 rfl) ?_
                refine lv_dup hx hb dX12_feed_105 rfl ?_
                refine va_get (D := D) (ci := 11) (v := .int (nI (ztp3 p1 p2 p3 i1 (n, r 0)).1)) hx hb hts hiX12 hown hK hw.1 0 rfl rfl 1 (by decide) (hts (.fieldLink RX12 135 "BeardPassModel" "taped" "I") (by decide +kernel)) (fun _ h9 => h9) rfl dX12_feed_106 ?_
                refine lv_iconst (v := 1) hx hb dX12_feed_109 (by decide) ?_
                refine lv_iadd hx hb dX12_feed_110 ?_
                refine ztop (.int (nI (((ztp3 p1 p2 p3 i1 (n, r 0)).1) + 1))) (congrArg Value.int (nI_add _ _)) ?_
                refine zput (D := D) (ci := 11) (v := .int (nI (((ztp3 p1 p2 p3 i1 (n, r 0)).1) + 1))) (ty := .int) hx hb hts hiX12 tyX12 tyX12_ok nmX12 hown hK hw hS 0 rfl rfl 1 (by decide) (hts (.fieldLink RX12 135 "BeardPassModel" "taped" "I") (by decide +kernel)) (fun _ h9 => h9) rfl (by decide +kernel) rfl rfl (Nat.le_of_ble_eq_true rfl) dX12_feed_111 [(h0, .inr (11, [.int 0, .int (nI (((ztp3 p1 p2 p3 i1 (n, r 0)).1) + 1)), .ref (y 0), .int (r 103 0), .int (r 104 0), .int (r 105 0), .int (r 106 0), .long (q 107 0), .int (r 108 0), .int (r 109 0), .ref (y 1), .ref (y 2), .ref (y 3), .ref (y 4), .ref (y 5), .ref (y 6), .ref (y 7), .ref (y 8), .ref (y 9), .ref (y 10), .ref (y 11), .ref (y 12), .int (r 122 0), .int (r 123 0), .ref (y 13), .ref (y 14), .ref (y 15), .ref (y 16), .ref (y 17), .ref (y 18), .ref (y 19), .ref (y 20), .ref (y 21), .ref (y 22), .ref (y 23), .ref (y 24), .int (r 136 0), .long (q 137 0), .ref (y 25), .ref (y 26), .ref (y 27), .ref (y 28), .ref (y 29), .ref (y 30), .ref (y 31), .ref (y 32), .ref (y 33), .ref (y 34), .ref (y 35), .ref (y 36), .ref (y 37), .int (r 151 0), .int (r 152 0), .ref (y 38), .long (q 154 0), .int (r 155 0), .int (r 156 0)])), (y 0, .inl (ct 0, 1000, .inl (upd ((ztp3 p1 p2 p3 i1 (n, r 0)).2) ((ztp3 p1 p2 p3 i1 (n, r 0)).1) (zsg (zwd p1 p2 p3 i1) (i1 % 8)))))] rfl (fun H locs hw hS => ?_)
                refine lv_iinc (v := nI (i1 + 1)) (lv' := [(7, .int (nI (i1 + 1))), (10, .int (zsg (zwd p1 p2 p3 i1) (i1 % 8))), (8, .long p3), (0, .ref h0), (1, .long p1), (3, .long p2), (5, .long p3)]) hx hb dX12_feed_114 hl (k := 2) rfl (nI_add _ 1) (by decide) rfl (fun ls hl => ?_)
                refine lv_goto (tgt := 8) hx hb dX12_feed_117 (by decide) ?_
                exact ih7 () (trivial) H locs ls (zcong (by (try dsimp only); rw [show (ztp3 p1 p2 p3 (i1 + 1) (n, r 0)) = _ from zstep_in (zfit_in c_14 c_15) (zm_lt (ztp3_le hn) c_12)]) (hw.sub (w0 := [(h0, .inr (11, [.int 0, .int (nI (((ztp3 p1 p2 p3 i1 (n, r 0)).1) + 1)), .ref (y 0), .int (r 103 0), .int (r 104 0), .int (r 105 0), .int (r 106 0), .long (q 107 0), .int (r 108 0), .int (r 109 0), .ref (y 1), .ref (y 2), .ref (y 3), .ref (y 4), .ref (y 5), .ref (y 6), .ref (y 7), .ref (y 8), .ref (y 9), .ref (y 10), .ref (y 11), .ref (y 12), .int (r 122 0), .int (r 123 0), .ref (y 13), .ref (y 14), .ref (y 15), .ref (y 16), .ref (y 17), .ref (y 18), .ref (y 19), .ref (y 20), .ref (y 21), .ref (y 22), .ref (y 23), .ref (y 24), .int (r 136 0), .long (q 137 0), .ref (y 25), .ref (y 26), .ref (y 27), .ref (y 28), .ref (y 29), .ref (y 30), .ref (y 31), .ref (y 32), .ref (y 33), .ref (y 34), .ref (y 35), .ref (y 36), .ref (y 37), .int (r 151 0), .int (r 152 0), .ref (y 38), .long (q 154 0), .int (r 155 0), .int (r 156 0)])), (y 0, .inl (ct 0, 1000, .inl (upd ((ztp3 p1 p2 p3 i1 (n, r 0)).2) ((ztp3 p1 p2 p3 i1 (n, r 0)).1) (zsg (zwd p1 p2 p3 i1) (i1 % 8)))))]) [0, 1] rfl rfl)) hS (lv_sub hl [0, 3, 4, 5, 6] rfl)
      · refine lv_lload_n hx hb dX12_feed_33 rfl (lv_at hl 3 rfl) ?_
        refine lv_goto (tgt := 39) hx hb dX12_feed_34 (by decide) ?_
        refine lv_lstore (lv' := [(8, .long p2), (7, .int (nI i1)), (0, .ref h0), (1, .long p1), (3, .long p2), (5, .long p3)]) hx hb dX12_feed_39 hl (by decide) rfl (fun ls hl => ?_)
        refine lv_lload hx hb dX12_feed_41 (lv_at hl 0 rfl) ?_
        refine lv_bipush (v := 56) hx hb dX12_feed_43 (by decide) ?_
        refine lv_bipush (v := 8) hx hb dX12_feed_45 (by decide) ?_
        refine lv_iload hx hb dX12_feed_47 (lv_at hl 1 rfl) ?_
        refine lv_bipush (v := 7) hx hb dX12_feed_49 (by decide) ?_
        refine lv_iand hx hb dX12_feed_51 ?_
        refine lv_imul hx hb dX12_feed_52 ?_
        refine lv_isub hx hb dX12_feed_53 ?_
        refine lv_lushr (v := (p2.toUInt64 >>> ((56 - (8 * ((nI i1) &&& 7))).toInt64.toUInt64 &&& Int64.toUInt64 63)).toInt64) hx hb dX12_feed_54 rfl ?_
        refine lv_ldc2 hx hb hown (hts (.constantLong RX12 133 255) (by decide +kernel)) dX12_feed_55 ?_
        refine lv_land hx hb dX12_feed_58 ?_
        refine lv_l2i (v := (((p2.toUInt64 >>> ((56 - (8 * ((nI i1) &&& 7))).toInt64.toUInt64 &&& Int64.toUInt64 63)).toInt64) &&& 255).toInt32) hx hb dX12_feed_59 rfl ?_
        refine ztop (.int (zsg (zwd p1 p2 p3 i1) (i1 % 8))) (congrArg Value.int (zf2 hlt8 c_10 c_11)) ?_
        refine lv_istore (lv' := [(10, .int (zsg (zwd p1 p2 p3 i1) (i1 % 8))), (8, .long p2), (7, .int (nI i1)), (0, .ref h0), (1, .long p1), (3, .long p2), (5, .long p3)]) hx hb dX12_feed_60 hl (by decide) rfl (fun ls hl => ?_)
        refine lv_aload_n hx hb dX12_feed_62 rfl (lv_at hl 3 rfl) ?_
        refine va_get (D := D) (ci := 11) (v := .int (nI (ztp3 p1 p2 p3 i1 (n, r 0)).1)) hx hb hts hiX12 hown hK hw.1 0 rfl rfl 1 (by decide) (hts (.fieldLink RX12 135 "BeardPassModel" "taped" "I") (by decide +kernel)) (fun _ h9 => h9) rfl dX12_feed_63 ?_
        refine lv_sipush (v := 1000) hx hb dX12_feed_66 (by decide) ?_
        refine lv_icmp_ge (tgt := 114) hx hb dX12_feed_69 (by decide) (fun c_16 => ?_) (fun c_16 => ?_)
        · refine lv_iinc (v := nI (i1 + 1)) (lv' := [(7, .int (nI (i1 + 1))), (10, .int (zsg (zwd p1 p2 p3 i1) (i1 % 8))), (8, .long p2), (0, .ref h0), (1, .long p1), (3, .long p2), (5, .long p3)]) hx hb dX12_feed_114 hl (k := 2) rfl (nI_add _ 1) (by decide) rfl (fun ls hl => ?_)
          refine lv_goto (tgt := 8) hx hb dX12_feed_117 (by decide) ?_
          exact ih7 () (trivial) H locs ls (zcong (by (try dsimp only); rw [show (ztp3 p1 p2 p3 (i1 + 1) (n, r 0)) = (ztp3 p1 p2 p3 i1 (n, r 0)) from zstep_full (zm_ge (ztp3_le hn) c_16)]) (hw.sub (w0 := [(h0, .inr (11, [.int 0, .int (nI (ztp3 p1 p2 p3 i1 (n, r 0)).1), .ref (y 0), .int (r 103 0), .int (r 104 0), .int (r 105 0), .int (r 106 0), .long (q 107 0), .int (r 108 0), .int (r 109 0), .ref (y 1), .ref (y 2), .ref (y 3), .ref (y 4), .ref (y 5), .ref (y 6), .ref (y 7), .ref (y 8), .ref (y 9), .ref (y 10), .ref (y 11), .ref (y 12), .int (r 122 0), .int (r 123 0), .ref (y 13), .ref (y 14), .ref (y 15), .ref (y 16), .ref (y 17), .ref (y 18), .ref (y 19), .ref (y 20), .ref (y 21), .ref (y 22), .ref (y 23), .ref (y 24), .int (r 136 0), .long (q 137 0), .ref (y 25), .ref (y 26), .ref (y 27), .ref (y 28), .ref (y 29), .ref (y 30), .ref (y 31), .ref (y 32), .ref (y 33), .ref (y 34), .ref (y 35), .ref (y 36), .ref (y 37), .int (r 151 0), .int (r 152 0), .ref (y 38), .long (q 154 0), .int (r 155 0), .int (r 156 0)])), (y 0, .inl (ct 0, 1000, .inl ((ztp3 p1 p2 p3 i1 (n, r 0)).2)))]) [0, 1] rfl rfl)) hS (lv_sub hl [0, 3, 4, 5, 6] rfl)
        · refine lv_iload hx hb dX12_feed_72 (lv_at hl 0 rfl) ?_
          refine lv_bipush (v := 10) hx hb dX12_feed_74 (by decide) ?_
          refine lv_icmp_eq (tgt := 93) hx hb dX12_feed_76 (by decide) (fun c_17 => ?_) (fun c_17 => ?_)
          · refine lv_aload_n hx hb dX12_feed_93 rfl (lv_at hl 3 rfl) ?_
            refine va_get (D := D) (ci := 11) (v := .ref (y 0)) hx hb hts hiX12 hown hK hw.1 0 rfl rfl 2 (by decide) (hts (.fieldLink RX12 7 "BeardPassModel" "tape" "[I") (by decide +kernel)) (fun _ h9 => h9) rfl dX12_feed_94 ?_
            refine lv_aload_n hx hb dX12_feed_97 rfl (lv_at hl 3 rfl) ?_
            refine va_get (D := D) (ci := 11) (v := .int (nI (ztp3 p1 p2 p3 i1 (n, r 0)).1)) hx hb hts hiX12 hown hK hw.1 0 rfl rfl 1 (by decide) (hts (.fieldLink RX12 135 "BeardPassModel" "taped" "I") (by decide +kernel)) (fun _ h9 => h9) rfl dX12_feed_98 ?_
            refine lv_iload hx hb dX12_feed_101 (lv_at hl 0 rfl) ?_
            refine ziast hx hb hK hw hS 1 rfl ((ztp3 p1 p2 p3 i1 (n, r 0)).1) (rfl) (zm_lt (ztp3_le hn) c_16) (by decide) dX12_feed_103 [(h0, .inr (11, [.int 0, .int (nI (ztp3 p1 p2 p3 i1 (n, r 0)).1), .ref (y 0), .int (r 103 0), .int (r 104 0), .int (r 105 0), .int (r 106 0), .long (q 107 0), .int (r 108 0), .int (r 109 0), .ref (y 1), .ref (y 2), .ref (y 3), .ref (y 4), .ref (y 5), .ref (y 6), .ref (y 7), .ref (y 8), .ref (y 9), .ref (y 10), .ref (y 11), .ref (y 12), .int (r 122 0), .int (r 123 0), .ref (y 13), .ref (y 14), .ref (y 15), .ref (y 16), .ref (y 17), .ref (y 18), .ref (y 19), .ref (y 20), .ref (y 21), .ref (y 22), .ref (y 23), .ref (y 24), .int (r 136 0), .long (q 137 0), .ref (y 25), .ref (y 26), .ref (y 27), .ref (y 28), .ref (y 29), .ref (y 30), .ref (y 31), .ref (y 32), .ref (y 33), .ref (y 34), .ref (y 35), .ref (y 36), .ref (y 37), .int (r 151 0), .int (r 152 0), .ref (y 38), .long (q 154 0), .int (r 155 0), .int (r 156 0)])), (y 0, .inl (ct 0, 1000, .inl (upd ((ztp3 p1 p2 p3 i1 (n, r 0)).2) ((ztp3 p1 p2 p3 i1 (n, r 0)).1) (zsg (zwd p1 p2 p3 i1) (i1 % 8)))))] rfl (fun H locs hw hS => ?_)
            refine lv_aload_n hx hb dX12_feed_104 rfl (lv_at hl 3 rfl) ?_
            refine lv_dup hx hb dX12_feed_105 rfl ?_
            refine va_get (D := D) (ci := 11) (v := .int (nI (ztp3 p1 p2 p3 i1 (n, r 0)).1)) hx hb hts hiX12 hown hK hw.1 0 rfl rfl 1 (by decide) (hts (.fieldLink RX12 135 "BeardPassModel" "taped" "I") (by decide +kernel)) (fun _ h9 => h9) rfl dX12_feed_106 ?_
            refine lv_iconst (v := 1) hx hb dX12_feed_109 (by decide) ?_
            refine lv_iadd hx hb dX12_feed_110 ?_
            refine ztop (.int (nI (((ztp3 p1 p2 p3 i1 (n, r 0)).1) + 1))) (congrArg Value.int (nI_add _ _)) ?_
            refine zput (D := D) (ci := 11) (v := .int (nI (((ztp3 p1 p2 p3 i1 (n, r 0)).1) + 1))) (ty := .int) hx hb hts hiX12 tyX12 tyX12_ok nmX12 hown hK hw hS 0 rfl rfl 1 (by decide) (hts (.fieldLink RX12 135 "BeardPassModel" "taped" "I") (by decide +kernel)) (fun _ h9 => h9) rfl (by decide +kernel) rfl rfl (Nat.le_of_ble_eq_true rfl) dX12_feed_111 [(h0, .inr (11, [.int 0, .int (nI (((ztp3 p1 p2 p3 i1 (n, r 0)).1) + 1)), .ref (y 0), .int (r 103 0), .int (r 104 0), .int (r 105 0), .int (r 106 0), .long (q 107 0), .int (r 108 0), .int (r 109 0), .ref (y 1), .ref (y 2), .ref (y 3), .ref (y 4), .ref (y 5), .ref (y 6), .ref (y 7), .ref (y 8), .ref (y 9), .ref (y 10), .ref (y 11), .ref (y 12), .int (r 122 0), .int (r 123 0), .ref (y 13), .ref (y 14), .ref (y 15), .ref (y 16), .ref (y 17), .ref (y 18), .ref (y 19), .ref (y 20), .ref (y 21), .ref (y 22), .ref (y 23), .ref (y 24), .int (r 136 0), .long (q 137 0), .ref (y 25), .ref (y 26), .ref (y 27), .ref (y 28), .ref (y 29), .ref (y 30), .ref (y 31), .ref (y 32), .ref (y 33), .ref (y 34), .ref (y 35), .ref (y 36), .ref (y 37), .int (r 151 0), .int (r 152 0), .ref (y 38), .long (q 154 0), .int (r 155 0), .int (r 156 0)])), (y 0, .inl (ct 0, 1000, .inl (upd ((ztp3 p1 p2 p3 i1 (n, r 0)).2) ((ztp3 p1 p2 p3 i1 (n, r 0)).1) (zsg (zwd p1 p2 p3 i1) (i1 % 8)))))] rfl (fun H locs hw hS => ?_)
            refine lv_iinc (v := nI (i1 + 1)) (lv' := [(7, .int (nI (i1 + 1))), (10, .int (zsg (zwd p1 p2 p3 i1) (i1 % 8))), (8, .long p2), (0, .ref h0), (1, .long p1), (3, .long p2), (5, .long p3)]) hx hb dX12_feed_114 hl (k := 2) rfl (nI_add _ 1) (by decide) rfl (fun ls hl => ?_)
            refine lv_goto (tgt := 8) hx hb dX12_feed_117 (by decide) ?_
            exact ih7 () (trivial) H locs ls (zcong (by (try dsimp only); rw [show (ztp3 p1 p2 p3 (i1 + 1) (n, r 0)) = _ from zstep_in (Or.inl c_17) (zm_lt (ztp3_le hn) c_16)]) (hw.sub (w0 := [(h0, .inr (11, [.int 0, .int (nI (((ztp3 p1 p2 p3 i1 (n, r 0)).1) + 1)), .ref (y 0), .int (r 103 0), .int (r 104 0), .int (r 105 0), .int (r 106 0), .long (q 107 0), .int (r 108 0), .int (r 109 0), .ref (y 1), .ref (y 2), .ref (y 3), .ref (y 4), .ref (y 5), .ref (y 6), .ref (y 7), .ref (y 8), .ref (y 9), .ref (y 10), .ref (y 11), .ref (y 12), .int (r 122 0), .int (r 123 0), .ref (y 13), .ref (y 14), .ref (y 15), .ref (y 16), .ref (y 17), .ref (y 18), .ref (y 19), .ref (y 20), .ref (y 21), .ref (y 22), .ref (y 23), .ref (y 24), .int (r 136 0), .long (q 137 0), .ref (y 25), .ref (y 26), .ref (y 27), .ref (y 28), .ref (y 29), .ref (y 30), .ref (y 31), .ref (y 32), .ref (y 33), .ref (y 34), .ref (y 35), .ref (y 36), .ref (y 37), .int (r 151 0), .int (r 152 0), .ref (y 38), .long (q 154 0), .int (r 155 0), .int (r 156 0)])), (y 0, .inl (ct 0, 1000, .inl (upd ((ztp3 p1 p2 p3 i1 (n, r 0)).2) ((ztp3 p1 p2 p3 i1 (n, r 0)).1) (zsg (zwd p1 p2 p3 i1) (i1 % 8)))))]) [0, 1] rfl rfl)) hS (lv_sub hl [0, 3, 4, 5, 6] rfl)
          · refine lv_iload hx hb dX12_feed_79 (lv_at hl 0 rfl) ?_
            refine lv_bipush (v := 32) hx hb dX12_feed_81 (by decide) ?_
            refine lv_icmp_lt (tgt := 114) hx hb dX12_feed_83 (by decide) (fun c_18 => ?_) (fun c_18 => ?_)
            · refine lv_iinc (v := nI (i1 + 1)) (lv' := [(7, .int (nI (i1 + 1))), (10, .int (zsg (zwd p1 p2 p3 i1) (i1 % 8))), (8, .long p2), (0, .ref h0), (1, .long p1), (3, .long p2), (5, .long p3)]) hx hb dX12_feed_114 hl (k := 2) rfl (nI_add _ 1) (by decide) rfl (fun ls hl => ?_)
              refine lv_goto (tgt := 8) hx hb dX12_feed_117 (by decide) ?_
              exact ih7 () (trivial) H locs ls (zcong (by (try dsimp only); rw [show (ztp3 p1 p2 p3 (i1 + 1) (n, r 0)) = (ztp3 p1 p2 p3 i1 (n, r 0)) from zstep_no (zno1 c_17 c_18)]) (hw.sub (w0 := [(h0, .inr (11, [.int 0, .int (nI (ztp3 p1 p2 p3 i1 (n, r 0)).1), .ref (y 0), .int (r 103 0), .int (r 104 0), .int (r 105 0), .int (r 106 0), .long (q 107 0), .int (r 108 0), .int (r 109 0), .ref (y 1), .ref (y 2), .ref (y 3), .ref (y 4), .ref (y 5), .ref (y 6), .ref (y 7), .ref (y 8), .ref (y 9), .ref (y 10), .ref (y 11), .ref (y 12), .int (r 122 0), .int (r 123 0), .ref (y 13), .ref (y 14), .ref (y 15), .ref (y 16), .ref (y 17), .ref (y 18), .ref (y 19), .ref (y 20), .ref (y 21), .ref (y 22), .ref (y 23), .ref (y 24), .int (r 136 0), .long (q 137 0), .ref (y 25), .ref (y 26), .ref (y 27), .ref (y 28), .ref (y 29), .ref (y 30), .ref (y 31), .ref (y 32), .ref (y 33), .ref (y 34), .ref (y 35), .ref (y 36), .ref (y 37), .int (r 151 0), .int (r 152 0), .ref (y 38), .long (q 154 0), .int (r 155 0), .int (r 156 0)])), (y 0, .inl (ct 0, 1000, .inl ((ztp3 p1 p2 p3 i1 (n, r 0)).2)))]) [0, 1] rfl rfl)) hS (lv_sub hl [0, 3, 4, 5, 6] rfl)
            · refine lv_iload hx hb dX12_feed_86 (lv_at hl 0 rfl) ?_
              refine lv_bipush (v := 126) hx hb dX12_feed_88 (by decide) ?_
              refine lv_icmp_gt (tgt := 114) hx hb dX12_feed_90 (by decide) (fun c_19 => ?_) (fun c_19 => ?_)
              · refine lv_iinc (v := nI (i1 + 1)) (lv' := [(7, .int (nI (i1 + 1))), (10, .int (zsg (zwd p1 p2 p3 i1) (i1 % 8))), (8, .long p2), (0, .ref h0), (1, .long p1), (3, .long p2), (5, .long p3)]) hx hb dX12_feed_114 hl (k := 2) rfl (nI_add _ 1) (by decide) rfl (fun ls hl => ?_)
                refine lv_goto (tgt := 8) hx hb dX12_feed_117 (by decide) ?_
                exact ih7 () (trivial) H locs ls (zcong (by (try dsimp only); rw [show (ztp3 p1 p2 p3 (i1 + 1) (n, r 0)) = (ztp3 p1 p2 p3 i1 (n, r 0)) from zstep_no (zno2 c_17 c_19)]) (hw.sub (w0 := [(h0, .inr (11, [.int 0, .int (nI (ztp3 p1 p2 p3 i1 (n, r 0)).1), .ref (y 0), .int (r 103 0), .int (r 104 0), .int (r 105 0), .int (r 106 0), .long (q 107 0), .int (r 108 0), .int (r 109 0), .ref (y 1), .ref (y 2), .ref (y 3), .ref (y 4), .ref (y 5), .ref (y 6), .ref (y 7), .ref (y 8), .ref (y 9), .ref (y 10), .ref (y 11), .ref (y 12), .int (r 122 0), .int (r 123 0), .ref (y 13), .ref (y 14), .ref (y 15), .ref (y 16), .ref (y 17), .ref (y 18), .ref (y 19), .ref (y 20), .ref (y 21), .ref (y 22), .ref (y 23), .ref (y 24), .int (r 136 0), .long (q 137 0), .ref (y 25), .ref (y 26), .ref (y 27), .ref (y 28), .ref (y 29), .ref (y 30), .ref (y 31), .ref (y 32), .ref (y 33), .ref (y 34), .ref (y 35), .ref (y 36), .ref (y 37), .int (r 151 0), .int (r 152 0), .ref (y 38), .long (q 154 0), .int (r 155 0), .int (r 156 0)])), (y 0, .inl (ct 0, 1000, .inl ((ztp3 p1 p2 p3 i1 (n, r 0)).2)))]) [0, 1] rfl rfl)) hS (lv_sub hl [0, 3, 4, 5, 6] rfl)
              · refine lv_aload_n hx hb dX12_feed_93 rfl (lv_at hl 3 rfl) ?_
                refine va_get (D := D) (ci := 11) (v := .ref (y 0)) hx hb hts hiX12 hown hK hw.1 0 rfl rfl 2 (by decide) (hts (.fieldLink RX12 7 "BeardPassModel" "tape" "[I") (by decide +kernel)) (fun _ h9 => h9) rfl dX12_feed_94 ?_
                refine lv_aload_n hx hb dX12_feed_97 rfl (lv_at hl 3 rfl) ?_
                refine va_get (D := D) (ci := 11) (v := .int (nI (ztp3 p1 p2 p3 i1 (n, r 0)).1)) hx hb hts hiX12 hown hK hw.1 0 rfl rfl 1 (by decide) (hts (.fieldLink RX12 135 "BeardPassModel" "taped" "I") (by decide +kernel)) (fun _ h9 => h9) rfl dX12_feed_98 ?_
                refine lv_iload hx hb dX12_feed_101 (lv_at hl 0 rfl) ?_
                refine ziast hx hb hK hw hS 1 rfl ((ztp3 p1 p2 p3 i1 (n, r 0)).1) (rfl) (zm_lt (ztp3_le hn) c_16) (by decide) dX12_feed_103 [(h0, .inr (11, [.int 0, .int (nI (ztp3 p1 p2 p3 i1 (n, r 0)).1), .ref (y 0), .int (r 103 0), .int (r 104 0), .int (r 105 0), .int (r 106 0), .long (q 107 0), .int (r 108 0), .int (r 109 0), .ref (y 1), .ref (y 2), .ref (y 3), .ref (y 4), .ref (y 5), .ref (y 6), .ref (y 7), .ref (y 8), .ref (y 9), .ref (y 10), .ref (y 11), .ref (y 12), .int (r 122 0), .int (r 123 0), .ref (y 13), .ref (y 14), .ref (y 15), .ref (y 16), .ref (y 17), .ref (y 18), .ref (y 19), .ref (y 20), .ref (y 21), .ref (y 22), .ref (y 23), .ref (y 24), .int (r 136 0), .long (q 137 0), .ref (y 25), .ref (y 26), .ref (y 27), .ref (y 28), .ref (y 29), .ref (y 30), .ref (y 31), .ref (y 32), .ref (y 33), .ref (y 34), .ref (y 35), .ref (y 36), .ref (y 37), .int (r 151 0), .int (r 152 0), .ref (y 38), .long (q 154 0), .int (r 155 0), .int (r 156 0)])), (y 0, .inl (ct 0, 1000, .inl (upd ((ztp3 p1 p2 p3 i1 (n, r 0)).2) ((ztp3 p1 p2 p3 i1 (n, r 0)).1) (zsg (zwd p1 p2 p3 i1) (i1 % 8)))))] rfl (fun H locs hw hS => ?_)
                refine lv_aload_n hx hb dX12_feed_104 rfl (lv_at hl 3 rfl) ?_
                refine lv_dup hx hb dX12_feed_105 rfl ?_
                refine va_get (D := D) (ci := 11) (v := .int (nI (ztp3 p1 p2 p3 i1 (n, r 0)).1)) hx hb hts hiX12 hown hK hw.1 0 rfl rfl 1 (by decide) (hts (.fieldLink RX12 135 "BeardPassModel" "taped" "I") (by decide +kernel)) (fun _ h9 => h9) rfl dX12_feed_106 ?_
                refine lv_iconst (v := 1) hx hb dX12_feed_109 (by decide) ?_
                refine lv_iadd hx hb dX12_feed_110 ?_
                refine ztop (.int (nI (((ztp3 p1 p2 p3 i1 (n, r 0)).1) + 1))) (congrArg Value.int (nI_add _ _)) ?_
                refine zput (D := D) (ci := 11) (v := .int (nI (((ztp3 p1 p2 p3 i1 (n, r 0)).1) + 1))) (ty := .int) hx hb hts hiX12 tyX12 tyX12_ok nmX12 hown hK hw hS 0 rfl rfl 1 (by decide) (hts (.fieldLink RX12 135 "BeardPassModel" "taped" "I") (by decide +kernel)) (fun _ h9 => h9) rfl (by decide +kernel) rfl rfl (Nat.le_of_ble_eq_true rfl) dX12_feed_111 [(h0, .inr (11, [.int 0, .int (nI (((ztp3 p1 p2 p3 i1 (n, r 0)).1) + 1)), .ref (y 0), .int (r 103 0), .int (r 104 0), .int (r 105 0), .int (r 106 0), .long (q 107 0), .int (r 108 0), .int (r 109 0), .ref (y 1), .ref (y 2), .ref (y 3), .ref (y 4), .ref (y 5), .ref (y 6), .ref (y 7), .ref (y 8), .ref (y 9), .ref (y 10), .ref (y 11), .ref (y 12), .int (r 122 0), .int (r 123 0), .ref (y 13), .ref (y 14), .ref (y 15), .ref (y 16), .ref (y 17), .ref (y 18), .ref (y 19), .ref (y 20), .ref (y 21), .ref (y 22), .ref (y 23), .ref (y 24), .int (r 136 0), .long (q 137 0), .ref (y 25), .ref (y 26), .ref (y 27), .ref (y 28), .ref (y 29), .ref (y 30), .ref (y 31), .ref (y 32), .ref (y 33), .ref (y 34), .ref (y 35), .ref (y 36), .ref (y 37), .int (r 151 0), .int (r 152 0), .ref (y 38), .long (q 154 0), .int (r 155 0), .int (r 156 0)])), (y 0, .inl (ct 0, 1000, .inl (upd ((ztp3 p1 p2 p3 i1 (n, r 0)).2) ((ztp3 p1 p2 p3 i1 (n, r 0)).1) (zsg (zwd p1 p2 p3 i1) (i1 % 8)))))] rfl (fun H locs hw hS => ?_)
                refine lv_iinc (v := nI (i1 + 1)) (lv' := [(7, .int (nI (i1 + 1))), (10, .int (zsg (zwd p1 p2 p3 i1) (i1 % 8))), (8, .long p2), (0, .ref h0), (1, .long p1), (3, .long p2), (5, .long p3)]) hx hb dX12_feed_114 hl (k := 2) rfl (nI_add _ 1) (by decide) rfl (fun ls hl => ?_)
                refine lv_goto (tgt := 8) hx hb dX12_feed_117 (by decide) ?_
                exact ih7 () (trivial) H locs ls (zcong (by (try dsimp only); rw [show (ztp3 p1 p2 p3 (i1 + 1) (n, r 0)) = _ from zstep_in (zfit_in c_18 c_19) (zm_lt (ztp3_le hn) c_16)]) (hw.sub (w0 := [(h0, .inr (11, [.int 0, .int (nI (((ztp3 p1 p2 p3 i1 (n, r 0)).1) + 1)), .ref (y 0), .int (r 103 0), .int (r 104 0), .int (r 105 0), .int (r 106 0), .long (q 107 0), .int (r 108 0), .int (r 109 0), .ref (y 1), .ref (y 2), .ref (y 3), .ref (y 4), .ref (y 5), .ref (y 6), .ref (y 7), .ref (y 8), .ref (y 9), .ref (y 10), .ref (y 11), .ref (y 12), .int (r 122 0), .int (r 123 0), .ref (y 13), .ref (y 14), .ref (y 15), .ref (y 16), .ref (y 17), .ref (y 18), .ref (y 19), .ref (y 20), .ref (y 21), .ref (y 22), .ref (y 23), .ref (y 24), .int (r 136 0), .long (q 137 0), .ref (y 25), .ref (y 26), .ref (y 27), .ref (y 28), .ref (y 29), .ref (y 30), .ref (y 31), .ref (y 32), .ref (y 33), .ref (y 34), .ref (y 35), .ref (y 36), .ref (y 37), .int (r 151 0), .int (r 152 0), .ref (y 38), .long (q 154 0), .int (r 155 0), .int (r 156 0)])), (y 0, .inl (ct 0, 1000, .inl (upd ((ztp3 p1 p2 p3 i1 (n, r 0)).2) ((ztp3 p1 p2 p3 i1 (n, r 0)).1) (zsg (zwd p1 p2 p3 i1) (i1 % 8)))))]) [0, 1] rfl rfl)) hS (lv_sub hl [0, 3, 4, 5, 6] rfl)
    · refine lv_lload_n hx hb dX12_feed_22 rfl (lv_at hl 2 rfl) ?_
      refine lv_goto (tgt := 39) hx hb dX12_feed_23 (by decide) ?_
      refine lv_lstore (lv' := [(8, .long p1), (7, .int (nI i1)), (0, .ref h0), (1, .long p1), (3, .long p2), (5, .long p3)]) hx hb dX12_feed_39 hl (by decide) rfl (fun ls hl => ?_)
      refine lv_lload hx hb dX12_feed_41 (lv_at hl 0 rfl) ?_
      refine lv_bipush (v := 56) hx hb dX12_feed_43 (by decide) ?_
      refine lv_bipush (v := 8) hx hb dX12_feed_45 (by decide) ?_
      refine lv_iload hx hb dX12_feed_47 (lv_at hl 1 rfl) ?_
      refine lv_bipush (v := 7) hx hb dX12_feed_49 (by decide) ?_
      refine lv_iand hx hb dX12_feed_51 ?_
      refine lv_imul hx hb dX12_feed_52 ?_
      refine lv_isub hx hb dX12_feed_53 ?_
      refine lv_lushr (v := (p1.toUInt64 >>> ((56 - (8 * ((nI i1) &&& 7))).toInt64.toUInt64 &&& Int64.toUInt64 63)).toInt64) hx hb dX12_feed_54 rfl ?_
      refine lv_ldc2 hx hb hown (hts (.constantLong RX12 133 255) (by decide +kernel)) dX12_feed_55 ?_
      refine lv_land hx hb dX12_feed_58 ?_
      refine lv_l2i (v := (((p1.toUInt64 >>> ((56 - (8 * ((nI i1) &&& 7))).toInt64.toUInt64 &&& Int64.toUInt64 63)).toInt64) &&& 255).toInt32) hx hb dX12_feed_59 rfl ?_
      refine ztop (.int (zsg (zwd p1 p2 p3 i1) (i1 % 8))) (congrArg Value.int (zf1 hlt8 c_10)) ?_
      refine lv_istore (lv' := [(10, .int (zsg (zwd p1 p2 p3 i1) (i1 % 8))), (8, .long p1), (7, .int (nI i1)), (0, .ref h0), (1, .long p1), (3, .long p2), (5, .long p3)]) hx hb dX12_feed_60 hl (by decide) rfl (fun ls hl => ?_)
      refine lv_aload_n hx hb dX12_feed_62 rfl (lv_at hl 3 rfl) ?_
      refine va_get (D := D) (ci := 11) (v := .int (nI (ztp3 p1 p2 p3 i1 (n, r 0)).1)) hx hb hts hiX12 hown hK hw.1 0 rfl rfl 1 (by decide) (hts (.fieldLink RX12 135 "BeardPassModel" "taped" "I") (by decide +kernel)) (fun _ h9 => h9) rfl dX12_feed_63 ?_
      refine lv_sipush (v := 1000) hx hb dX12_feed_66 (by decide) ?_
      refine lv_icmp_ge (tgt := 114) hx hb dX12_feed_69 (by decide) (fun c_20 => ?_) (fun c_20 => ?_)
      · refine lv_iinc (v := nI (i1 + 1)) (lv' := [(7, .int (nI (i1 + 1))), (10, .int (zsg (zwd p1 p2 p3 i1) (i1 % 8))), (8, .long p1), (0, .ref h0), (1, .long p1), (3, .long p2), (5, .long p3)]) hx hb dX12_feed_114 hl (k := 2) rfl (nI_add _ 1) (by decide) rfl (fun ls hl => ?_)
        refine lv_goto (tgt := 8) hx hb dX12_feed_117 (by decide) ?_
        exact ih7 () (trivial) H locs ls (zcong (by (try dsimp only); rw [show (ztp3 p1 p2 p3 (i1 + 1) (n, r 0)) = (ztp3 p1 p2 p3 i1 (n, r 0)) from zstep_full (zm_ge (ztp3_le hn) c_20)]) (hw.sub (w0 := [(h0, .inr (11, [.int 0, .int (nI (ztp3 p1 p2 p3 i1 (n, r 0)).1), .ref (y 0), .int (r 103 0), .int (r 104 0), .int (r 105 0), .int (r 106 0), .long (q 107 0), .int (r 108 0), .int (r 109 0), .ref (y 1), .ref (y 2), .ref (y 3), .ref (y 4), .ref (y 5), .ref (y 6), .ref (y 7), .ref (y 8), .ref (y 9), .ref (y 10), .ref (y 11), .ref (y 12), .int (r 122 0), .int (r 123 0), .ref (y 13), .ref (y 14), .ref (y 15), .ref (y 16), .ref (y 17), .ref (y 18), .ref (y 19), .ref (y 20), .ref (y 21), .ref (y 22), .ref (y 23), .ref (y 24), .int (r 136 0), .long (q 137 0), .ref (y 25), .ref (y 26), .ref (y 27), .ref (y 28), .ref (y 29), .ref (y 30), .ref (y 31), .ref (y 32), .ref (y 33), .ref (y 34), .ref (y 35), .ref (y 36), .ref (y 37), .int (r 151 0), .int (r 152 0), .ref (y 38), .long (q 154 0), .int (r 155 0), .int (r 156 0)])), (y 0, .inl (ct 0, 1000, .inl ((ztp3 p1 p2 p3 i1 (n, r 0)).2)))]) [0, 1] rfl rfl)) hS (lv_sub hl [0, 3, 4, 5, 6] rfl)
      · refine lv_iload hx hb dX12_feed_72 (lv_at hl 0 rfl) ?_
        refine lv_bipush (v := 10) hx hb dX12_feed_74 (by decide) ?_
        refine lv_icmp_eq (tgt := 93) hx hb dX12_feed_76 (by decide) (fun c_21 => ?_) (fun c_21 => ?_)
        · refine lv_aload_n hx hb dX12_feed_93 rfl (lv_at hl 3 rfl) ?_
          refine va_get (D := D) (ci := 11) (v := .ref (y 0)) hx hb hts hiX12 hown hK hw.1 0 rfl rfl 2 (by decide) (hts (.fieldLink RX12 7 "BeardPassModel" "tape" "[I") (by decide +kernel)) (fun _ h9 => h9) rfl dX12_feed_94 ?_
          refine lv_aload_n hx hb dX12_feed_97 rfl (lv_at hl 3 rfl) ?_
          refine va_get (D := D) (ci := 11) (v := .int (nI (ztp3 p1 p2 p3 i1 (n, r 0)).1)) hx hb hts hiX12 hown hK hw.1 0 rfl rfl 1 (by decide) (hts (.fieldLink RX12 135 "BeardPassModel" "taped" "I") (by decide +kernel)) (fun _ h9 => h9) rfl dX12_feed_98 ?_
          refine lv_iload hx hb dX12_feed_101 (lv_at hl 0 rfl) ?_
          refine ziast hx hb hK hw hS 1 rfl ((ztp3 p1 p2 p3 i1 (n, r 0)).1) (rfl) (zm_lt (ztp3_le hn) c_20) (by decide) dX12_feed_103 [(h0, .inr (11, [.int 0, .int (nI (ztp3 p1 p2 p3 i1 (n, r 0)).1), .ref (y 0), .int (r 103 0), .int (r 104 0), .int (r 105 0), .int (r 106 0), .long (q 107 0), .int (r 108 0), .int (r 109 0), .ref (y 1), .ref (y 2), .ref (y 3), .ref (y 4), .ref (y 5), .ref (y 6), .ref (y 7), .ref (y 8), .ref (y 9), .ref (y 10), .ref (y 11), .ref (y 12), .int (r 122 0), .int (r 123 0), .ref (y 13), .ref (y 14), .ref (y 15), .ref (y 16), .ref (y 17), .ref (y 18), .ref (y 19), .ref (y 20), .ref (y 21), .ref (y 22), .ref (y 23), .ref (y 24), .int (r 136 0), .long (q 137 0), .ref (y 25), .ref (y 26), .ref (y 27), .ref (y 28), .ref (y 29), .ref (y 30), .ref (y 31), .ref (y 32), .ref (y 33), .ref (y 34), .ref (y 35), .ref (y 36), .ref (y 37), .int (r 151 0), .int (r 152 0), .ref (y 38), .long (q 154 0), .int (r 155 0), .int (r 156 0)])), (y 0, .inl (ct 0, 1000, .inl (upd ((ztp3 p1 p2 p3 i1 (n, r 0)).2) ((ztp3 p1 p2 p3 i1 (n, r 0)).1) (zsg (zwd p1 p2 p3 i1) (i1 % 8)))))] rfl (fun H locs hw hS => ?_)
          refine lv_aload_n hx hb dX12_feed_104 rfl (lv_at hl 3 rfl) ?_
          refine lv_dup hx hb dX12_feed_105 rfl ?_
          refine va_get (D := D) (ci := 11) (v := .int (nI (ztp3 p1 p2 p3 i1 (n, r 0)).1)) hx hb hts hiX12 hown hK hw.1 0 rfl rfl 1 (by decide) (hts (.fieldLink RX12 135 "BeardPassModel" "taped" "I") (by decide +kernel)) (fun _ h9 => h9) rfl dX12_feed_106 ?_
          refine lv_iconst (v := 1) hx hb dX12_feed_109 (by decide) ?_
          refine lv_iadd hx hb dX12_feed_110 ?_
          refine ztop (.int (nI (((ztp3 p1 p2 p3 i1 (n, r 0)).1) + 1))) (congrArg Value.int (nI_add _ _)) ?_
          refine zput (D := D) (ci := 11) (v := .int (nI (((ztp3 p1 p2 p3 i1 (n, r 0)).1) + 1))) (ty := .int) hx hb hts hiX12 tyX12 tyX12_ok nmX12 hown hK hw hS 0 rfl rfl 1 (by decide) (hts (.fieldLink RX12 135 "BeardPassModel" "taped" "I") (by decide +kernel)) (fun _ h9 => h9) rfl (by decide +kernel) rfl rfl (Nat.le_of_ble_eq_true rfl) dX12_feed_111 [(h0, .inr (11, [.int 0, .int (nI (((ztp3 p1 p2 p3 i1 (n, r 0)).1) + 1)), .ref (y 0), .int (r 103 0), .int (r 104 0), .int (r 105 0), .int (r 106 0), .long (q 107 0), .int (r 108 0), .int (r 109 0), .ref (y 1), .ref (y 2), .ref (y 3), .ref (y 4), .ref (y 5), .ref (y 6), .ref (y 7), .ref (y 8), .ref (y 9), .ref (y 10), .ref (y 11), .ref (y 12), .int (r 122 0), .int (r 123 0), .ref (y 13), .ref (y 14), .ref (y 15), .ref (y 16), .ref (y 17), .ref (y 18), .ref (y 19), .ref (y 20), .ref (y 21), .ref (y 22), .ref (y 23), .ref (y 24), .int (r 136 0), .long (q 137 0), .ref (y 25), .ref (y 26), .ref (y 27), .ref (y 28), .ref (y 29), .ref (y 30), .ref (y 31), .ref (y 32), .ref (y 33), .ref (y 34), .ref (y 35), .ref (y 36), .ref (y 37), .int (r 151 0), .int (r 152 0), .ref (y 38), .long (q 154 0), .int (r 155 0), .int (r 156 0)])), (y 0, .inl (ct 0, 1000, .inl (upd ((ztp3 p1 p2 p3 i1 (n, r 0)).2) ((ztp3 p1 p2 p3 i1 (n, r 0)).1) (zsg (zwd p1 p2 p3 i1) (i1 % 8)))))] rfl (fun H locs hw hS => ?_)
          refine lv_iinc (v := nI (i1 + 1)) (lv' := [(7, .int (nI (i1 + 1))), (10, .int (zsg (zwd p1 p2 p3 i1) (i1 % 8))), (8, .long p1), (0, .ref h0), (1, .long p1), (3, .long p2), (5, .long p3)]) hx hb dX12_feed_114 hl (k := 2) rfl (nI_add _ 1) (by decide) rfl (fun ls hl => ?_)
          refine lv_goto (tgt := 8) hx hb dX12_feed_117 (by decide) ?_
          exact ih7 () (trivial) H locs ls (zcong (by (try dsimp only); rw [show (ztp3 p1 p2 p3 (i1 + 1) (n, r 0)) = _ from zstep_in (Or.inl c_21) (zm_lt (ztp3_le hn) c_20)]) (hw.sub (w0 := [(h0, .inr (11, [.int 0, .int (nI (((ztp3 p1 p2 p3 i1 (n, r 0)).1) + 1)), .ref (y 0), .int (r 103 0), .int (r 104 0), .int (r 105 0), .int (r 106 0), .long (q 107 0), .int (r 108 0), .int (r 109 0), .ref (y 1), .ref (y 2), .ref (y 3), .ref (y 4), .ref (y 5), .ref (y 6), .ref (y 7), .ref (y 8), .ref (y 9), .ref (y 10), .ref (y 11), .ref (y 12), .int (r 122 0), .int (r 123 0), .ref (y 13), .ref (y 14), .ref (y 15), .ref (y 16), .ref (y 17), .ref (y 18), .ref (y 19), .ref (y 20), .ref (y 21), .ref (y 22), .ref (y 23), .ref (y 24), .int (r 136 0), .long (q 137 0), .ref (y 25), .ref (y 26), .ref (y 27), .ref (y 28), .ref (y 29), .ref (y 30), .ref (y 31), .ref (y 32), .ref (y 33), .ref (y 34), .ref (y 35), .ref (y 36), .ref (y 37), .int (r 151 0), .int (r 152 0), .ref (y 38), .long (q 154 0), .int (r 155 0), .int (r 156 0)])), (y 0, .inl (ct 0, 1000, .inl (upd ((ztp3 p1 p2 p3 i1 (n, r 0)).2) ((ztp3 p1 p2 p3 i1 (n, r 0)).1) (zsg (zwd p1 p2 p3 i1) (i1 % 8)))))]) [0, 1] rfl rfl)) hS (lv_sub hl [0, 3, 4, 5, 6] rfl)
        · refine lv_iload hx hb dX12_feed_79 (lv_at hl 0 rfl) ?_
          refine lv_bipush (v := 32) hx hb dX12_feed_81 (by decide) ?_
          refine lv_icmp_lt (tgt := 114) hx hb dX12_feed_83 (by decide) (fun c_22 => ?_) (fun c_22 => ?_)
          · refine lv_iinc (v := nI (i1 + 1)) (lv' := [(7, .int (nI (i1 + 1))), (10, .int (zsg (zwd p1 p2 p3 i1) (i1 % 8))), (8, .long p1), (0, .ref h0), (1, .long p1), (3, .long p2), (5, .long p3)]) hx hb dX12_feed_114 hl (k := 2) rfl (nI_add _ 1) (by decide) rfl (fun ls hl => ?_)
            refine lv_goto (tgt := 8) hx hb dX12_feed_117 (by decide) ?_
            exact ih7 () (trivial) H locs ls (zcong (by (try dsimp only); rw [show (ztp3 p1 p2 p3 (i1 + 1) (n, r 0)) = (ztp3 p1 p2 p3 i1 (n, r 0)) from zstep_no (zno1 c_21 c_22)]) (hw.sub (w0 := [(h0, .inr (11, [.int 0, .int (nI (ztp3 p1 p2 p3 i1 (n, r 0)).1), .ref (y 0), .int (r 103 0), .int (r 104 0), .int (r 105 0), .int (r 106 0), .long (q 107 0), .int (r 108 0), .int (r 109 0), .ref (y 1), .ref (y 2), .ref (y 3), .ref (y 4), .ref (y 5), .ref (y 6), .ref (y 7), .ref (y 8), .ref (y 9), .ref (y 10), .ref (y 11), .ref (y 12), .int (r 122 0), .int (r 123 0), .ref (y 13), .ref (y 14), .ref (y 15), .ref (y 16), .ref (y 17), .ref (y 18), .ref (y 19), .ref (y 20), .ref (y 21), .ref (y 22), .ref (y 23), .ref (y 24), .int (r 136 0), .long (q 137 0), .ref (y 25), .ref (y 26), .ref (y 27), .ref (y 28), .ref (y 29), .ref (y 30), .ref (y 31), .ref (y 32), .ref (y 33), .ref (y 34), .ref (y 35), .ref (y 36), .ref (y 37), .int (r 151 0), .int (r 152 0), .ref (y 38), .long (q 154 0), .int (r 155 0), .int (r 156 0)])), (y 0, .inl (ct 0, 1000, .inl ((ztp3 p1 p2 p3 i1 (n, r 0)).2)))]) [0, 1] rfl rfl)) hS (lv_sub hl [0, 3, 4, 5, 6] rfl)
          · refine lv_iload hx hb dX12_feed_86 (lv_at hl 0 rfl) ?_
            refine lv_bipush (v := 126) hx hb dX12_feed_88 (by decide) ?_
            refine lv_icmp_gt (tgt := 114) hx hb dX12_feed_90 (by decide) (fun c_23 => ?_) (fun c_23 => ?_)
            · refine lv_iinc (v := nI (i1 + 1)) (lv' := [(7, .int (nI (i1 + 1))), (10, .int (zsg (zwd p1 p2 p3 i1) (i1 % 8))), (8, .long p1), (0, .ref h0), (1, .long p1), (3, .long p2), (5, .long p3)]) hx hb dX12_feed_114 hl (k := 2) rfl (nI_add _ 1) (by decide) rfl (fun ls hl => ?_)
              refine lv_goto (tgt := 8) hx hb dX12_feed_117 (by decide) ?_
              exact ih7 () (trivial) H locs ls (zcong (by (try dsimp only); rw [show (ztp3 p1 p2 p3 (i1 + 1) (n, r 0)) = (ztp3 p1 p2 p3 i1 (n, r 0)) from zstep_no (zno2 c_21 c_23)]) (hw.sub (w0 := [(h0, .inr (11, [.int 0, .int (nI (ztp3 p1 p2 p3 i1 (n, r 0)).1), .ref (y 0), .int (r 103 0), .int (r 104 0), .int (r 105 0), .int (r 106 0), .long (q 107 0), .int (r 108 0), .int (r 109 0), .ref (y 1), .ref (y 2), .ref (y 3), .ref (y 4), .ref (y 5), .ref (y 6), .ref (y 7), .ref (y 8), .ref (y 9), .ref (y 10), .ref (y 11), .ref (y 12), .int (r 122 0), .int (r 123 0), .ref (y 13), .ref (y 14), .ref (y 15), .ref (y 16), .ref (y 17), .ref (y 18), .ref (y 19), .ref (y 20), .ref (y 21), .ref (y 22), .ref (y 23), .ref (y 24), .int (r 136 0), .long (q 137 0), .ref (y 25), .ref (y 26), .ref (y 27), .ref (y 28), .ref (y 29), .ref (y 30), .ref (y 31), .ref (y 32), .ref (y 33), .ref (y 34), .ref (y 35), .ref (y 36), .ref (y 37), .int (r 151 0), .int (r 152 0), .ref (y 38), .long (q 154 0), .int (r 155 0), .int (r 156 0)])), (y 0, .inl (ct 0, 1000, .inl ((ztp3 p1 p2 p3 i1 (n, r 0)).2)))]) [0, 1] rfl rfl)) hS (lv_sub hl [0, 3, 4, 5, 6] rfl)
            · refine lv_aload_n hx hb dX12_feed_93 rfl (lv_at hl 3 rfl) ?_
              refine va_get (D := D) (ci := 11) (v := .ref (y 0)) hx hb hts hiX12 hown hK hw.1 0 rfl rfl 2 (by decide) (hts (.fieldLink RX12 7 "BeardPassModel" "tape" "[I") (by decide +kernel)) (fun _ h9 => h9) rfl dX12_feed_94 ?_
              refine lv_aload_n hx hb dX12_feed_97 rfl (lv_at hl 3 rfl) ?_
              refine va_get (D := D) (ci := 11) (v := .int (nI (ztp3 p1 p2 p3 i1 (n, r 0)).1)) hx hb hts hiX12 hown hK hw.1 0 rfl rfl 1 (by decide) (hts (.fieldLink RX12 135 "BeardPassModel" "taped" "I") (by decide +kernel)) (fun _ h9 => h9) rfl dX12_feed_98 ?_
              refine lv_iload hx hb dX12_feed_101 (lv_at hl 0 rfl) ?_
              refine ziast hx hb hK hw hS 1 rfl ((ztp3 p1 p2 p3 i1 (n, r 0)).1) (rfl) (zm_lt (ztp3_le hn) c_20) (by decide) dX12_feed_103 [(h0, .inr (11, [.int 0, .int (nI (ztp3 p1 p2 p3 i1 (n, r 0)).1), .ref (y 0), .int (r 103 0), .int (r 104 0), .int (r 105 0), .int (r 106 0), .long (q 107 0), .int (r 108 0), .int (r 109 0), .ref (y 1), .ref (y 2), .ref (y 3), .ref (y 4), .ref (y 5), .ref (y 6), .ref (y 7), .ref (y 8), .ref (y 9), .ref (y 10), .ref (y 11), .ref (y 12), .int (r 122 0), .int (r 123 0), .ref (y 13), .ref (y 14), .ref (y 15), .ref (y 16), .ref (y 17), .ref (y 18), .ref (y 19), .ref (y 20), .ref (y 21), .ref (y 22), .ref (y 23), .ref (y 24), .int (r 136 0), .long (q 137 0), .ref (y 25), .ref (y 26), .ref (y 27), .ref (y 28), .ref (y 29), .ref (y 30), .ref (y 31), .ref (y 32), .ref (y 33), .ref (y 34), .ref (y 35), .ref (y 36), .ref (y 37), .int (r 151 0), .int (r 152 0), .ref (y 38), .long (q 154 0), .int (r 155 0), .int (r 156 0)])), (y 0, .inl (ct 0, 1000, .inl (upd ((ztp3 p1 p2 p3 i1 (n, r 0)).2) ((ztp3 p1 p2 p3 i1 (n, r 0)).1) (zsg (zwd p1 p2 p3 i1) (i1 % 8)))))] rfl (fun H locs hw hS => ?_)
              refine lv_aload_n hx hb dX12_feed_104 rfl (lv_at hl 3 rfl) ?_
              refine lv_dup hx hb dX12_feed_105 rfl ?_
              refine va_get (D := D) (ci := 11) (v := .int (nI (ztp3 p1 p2 p3 i1 (n, r 0)).1)) hx hb hts hiX12 hown hK hw.1 0 rfl rfl 1 (by decide) (hts (.fieldLink RX12 135 "BeardPassModel" "taped" "I") (by decide +kernel)) (fun _ h9 => h9) rfl dX12_feed_106 ?_
              refine lv_iconst (v := 1) hx hb dX12_feed_109 (by decide) ?_
              refine lv_iadd hx hb dX12_feed_110 ?_
              refine ztop (.int (nI (((ztp3 p1 p2 p3 i1 (n, r 0)).1) + 1))) (congrArg Value.int (nI_add _ _)) ?_
              refine zput (D := D) (ci := 11) (v := .int (nI (((ztp3 p1 p2 p3 i1 (n, r 0)).1) + 1))) (ty := .int) hx hb hts hiX12 tyX12 tyX12_ok nmX12 hown hK hw hS 0 rfl rfl 1 (by decide) (hts (.fieldLink RX12 135 "BeardPassModel" "taped" "I") (by decide +kernel)) (fun _ h9 => h9) rfl (by decide +kernel) rfl rfl (Nat.le_of_ble_eq_true rfl) dX12_feed_111 [(h0, .inr (11, [.int 0, .int (nI (((ztp3 p1 p2 p3 i1 (n, r 0)).1) + 1)), .ref (y 0), .int (r 103 0), .int (r 104 0), .int (r 105 0), .int (r 106 0), .long (q 107 0), .int (r 108 0), .int (r 109 0), .ref (y 1), .ref (y 2), .ref (y 3), .ref (y 4), .ref (y 5), .ref (y 6), .ref (y 7), .ref (y 8), .ref (y 9), .ref (y 10), .ref (y 11), .ref (y 12), .int (r 122 0), .int (r 123 0), .ref (y 13), .ref (y 14), .ref (y 15), .ref (y 16), .ref (y 17), .ref (y 18), .ref (y 19), .ref (y 20), .ref (y 21), .ref (y 22), .ref (y 23), .ref (y 24), .int (r 136 0), .long (q 137 0), .ref (y 25), .ref (y 26), .ref (y 27), .ref (y 28), .ref (y 29), .ref (y 30), .ref (y 31), .ref (y 32), .ref (y 33), .ref (y 34), .ref (y 35), .ref (y 36), .ref (y 37), .int (r 151 0), .int (r 152 0), .ref (y 38), .long (q 154 0), .int (r 155 0), .int (r 156 0)])), (y 0, .inl (ct 0, 1000, .inl (upd ((ztp3 p1 p2 p3 i1 (n, r 0)).2) ((ztp3 p1 p2 p3 i1 (n, r 0)).1) (zsg (zwd p1 p2 p3 i1) (i1 % 8)))))] rfl (fun H locs hw hS => ?_)
              refine lv_iinc (v := nI (i1 + 1)) (lv' := [(7, .int (nI (i1 + 1))), (10, .int (zsg (zwd p1 p2 p3 i1) (i1 % 8))), (8, .long p1), (0, .ref h0), (1, .long p1), (3, .long p2), (5, .long p3)]) hx hb dX12_feed_114 hl (k := 2) rfl (nI_add _ 1) (by decide) rfl (fun ls hl => ?_)
              refine lv_goto (tgt := 8) hx hb dX12_feed_117 (by decide) ?_
              exact ih7 () (trivial) H locs ls (zcong (by (try dsimp only); rw [show (ztp3 p1 p2 p3 (i1 + 1) (n, r 0)) = _ from zstep_in (zfit_in c_22 c_23) (zm_lt (ztp3_le hn) c_20)]) (hw.sub (w0 := [(h0, .inr (11, [.int 0, .int (nI (((ztp3 p1 p2 p3 i1 (n, r 0)).1) + 1)), .ref (y 0), .int (r 103 0), .int (r 104 0), .int (r 105 0), .int (r 106 0), .long (q 107 0), .int (r 108 0), .int (r 109 0), .ref (y 1), .ref (y 2), .ref (y 3), .ref (y 4), .ref (y 5), .ref (y 6), .ref (y 7), .ref (y 8), .ref (y 9), .ref (y 10), .ref (y 11), .ref (y 12), .int (r 122 0), .int (r 123 0), .ref (y 13), .ref (y 14), .ref (y 15), .ref (y 16), .ref (y 17), .ref (y 18), .ref (y 19), .ref (y 20), .ref (y 21), .ref (y 22), .ref (y 23), .ref (y 24), .int (r 136 0), .long (q 137 0), .ref (y 25), .ref (y 26), .ref (y 27), .ref (y 28), .ref (y 29), .ref (y 30), .ref (y 31), .ref (y 32), .ref (y 33), .ref (y 34), .ref (y 35), .ref (y 36), .ref (y 37), .int (r 151 0), .int (r 152 0), .ref (y 38), .long (q 154 0), .int (r 155 0), .int (r 156 0)])), (y 0, .inl (ct 0, 1000, .inl (upd ((ztp3 p1 p2 p3 i1 (n, r 0)).2) ((ztp3 p1 p2 p3 i1 (n, r 0)).1) (zsg (zwd p1 p2 p3 i1) (i1 % 8)))))]) [0, 1] rfl rfl)) hS (lv_sub hl [0, 3, 4, 5, 6] rfl)
/-! ===== what is asked leaves: how it is, what can be undone, marks, the JOURNEY, the LAND, what was SEEN, the tape ===== -/
noncomputable def zK3 (k : Nat) : Bool := (Nat.ble 6 k && Nat.ble k 11) || ((Nat.ble 18 k && Nat.ble k 141) || ((Nat.ble 146 k && Nat.ble k 181) || (Nat.ble 195 k && Nat.ble k 197)))
noncomputable def zFt (r r1 : zRr) : Prop := ∀ k, zK3 k = true → r1 k = r k
theorem zFt.refl {r : zRr} : zFt r r := fun _ _ => rfl
theorem zFt.set {r r1 : zRr} (h : zFt r r1) {k : Nat} {g : Nat → Int32} (hk : zK3 k = false) : zFt r (zset r1 k g) := by
  intro a ha
  rw [zset_ne (fun e => by rw [e, hk] at ha; cases ha)]
  exact h a ha
theorem zFt.tr {r r1 r2 : zRr} (h : zFt r r1) (h1 : zFt r1 r2) : zFt r r2 := fun a ha => (h1 a ha).trans (h a ha)
theorem zFt.trF {M : List Nat} {r r1 r2 : zRr} (h : zFt r r1) (h1 : zFr M r1 r2) (hk : M.any zK3 = false) : zFt r r2 := by
  intro a ha
  refine (h1 a ?_).trans (h a ha)
  cases e : M.contains a with
  | false => rfl
  | true =>
    have := List.any_eq_false.mp hk a (List.contains_iff_mem.mp e)
    exact absurd ha this
theorem bleT {a b : Nat} (h : a ≤ b) : Nat.ble a b = true := Nat.ble_eq_true_of_le h
theorem bleF {a b : Nat} (h : ¬ a ≤ b) : Nat.ble a b = false := by
  cases e : Nat.ble a b with
  | false => rfl
  | true => exact absurd (Nat.le_of_ble_eq_true e) h
theorem zK3_in {a : Nat} (h : (6 ≤ a ∧ a < 12) ∨ (18 ≤ a ∧ a < 142) ∨ (146 ≤ a ∧ a < 182) ∨ (195 ≤ a ∧ a < 198)) : zK3 a = true := by
  unfold zK3
  rcases h with ⟨h1, h2⟩ | ⟨h1, h2⟩ | ⟨h1, h2⟩ | ⟨h1, h2⟩
  · rw [bleT h1, bleT (show a ≤ 11 by omega)]; rfl
  · rw [bleT h1, bleT (show a ≤ 141 by omega), Bool.and_true, Bool.true_or, Bool.or_true]
  · rw [bleT h1, bleT (show a ≤ 181 by omega), Bool.and_true, Bool.true_or, Bool.or_true, Bool.or_true]
  · rw [bleT h1, bleT (show a ≤ 197 by omega), Bool.and_true, Bool.or_true, Bool.or_true, Bool.or_true]
theorem zK3_no {a : Nat} (h : a < 6 ∨ (12 ≤ a ∧ a < 18)) : zK3 a = false := by
  unfold zK3
  rcases h with h | ⟨h1, h2⟩
  · rw [bleF (show ¬ 6 ≤ a by omega), bleF (show ¬ 18 ≤ a by omega), bleF (show ¬ 146 ≤ a by omega), bleF (show ¬ 195 ≤ a by omega)]; rfl
  · rw [bleF (show ¬ a ≤ 11 by omega), bleF (show ¬ 18 ≤ a by omega), bleF (show ¬ 146 ≤ a by omega), bleF (show ¬ 195 ≤ a by omega), Bool.and_false]; rfl
theorem zFt.cp8 {r r1 : zRr} (h : zFt r r1) {n m : Nat} (hn : n + 6 ≤ 6 ∨ (12 ≤ n ∧ n + 6 ≤ 18)) : zFt r (kcp8 r1 n m) := fun a ha => (kcp8_o (by
  rcases Nat.lt_or_ge a n with h1 | h1
  · exact Or.inl h1
  · rcases Nat.lt_or_ge a (n + 6) with h2 | h2
    · rw [zK3_no (by omega)] at ha; cases ha
    · exact Or.inr h2)).trans (h a ha)
section
theorem zI.ofN {n : Nat} (h : n ≤ 1000) : zI 0 1000 (nI n) := by
  have e := nI_toInt (n := n) (by omega)
  constructor <;> rw [e] <;> omega
theorem zn_nI {n : Nat} (h : n ≤ 1000) : zn (nI n) = n := by
  have e := nI_toInt (n := n) (by omega)
  unfold zn; omega
/-- the tape of the class: how long, its signs -/
noncomputable def kTp (r : zRr) : Nat × (Nat → Int32) := (zn (r 196 1), r 197)
noncomputable def kput (r : zRr) (w : Int64) : zRr := zset (zset r 196 (upd (r 196) 1 (nI (ztp w 8 (kTp r)).1))) 197 (ztp w 8 (kTp r)).2
section KP
variable {ct : Nat → ClassId} {E y : Nat → Nat} {r : zRr} {q : zRq} {w : Int64}
theorem kTp_ix (h : kJ r) : r 196 1 = nI (kTp r).1 ∧ (kTp r).1 ≤ 1000 := by
  have h9 := (show zI 0 1000 (r 196 1) from h.i 196 1).ix (n := 1001) (by decide)
  exact ⟨h9.1, Nat.le_of_lt_succ h9.2⟩
theorem kputw (h : r 196 1 = nI (kTp r).1) : [196, 197].map (kcl ct E y r q) = [(y 196, .inr (8, [.ref (y 197), .int (nI (kTp r).1), .int (r 196 2), .int (r 196 3), .ref (E (zn (r 196 4))), .int (r 196 5), .long (q 196 6), .int (r 196 7)])), (y 197, .inl (ct 2, 1000, .inl (kTp r).2))] := by
  rw [← h]; rfl
theorem kputB : [196, 197].map (kcl ct E y (kput r w) q) = [(y 196, .inr (8, [.ref (y 197), .int (nI (ztp w 8 ((kTp r).1, (kTp r).2)).1), .int (r 196 2), .int (r 196 3), .ref (E (zn (r 196 4))), .int (r 196 5), .long (q 196 6), .int (r 196 7)])), (y 197, .inl (ct 2, 1000, .inl (ztp w 8 ((kTp r).1, (kTp r).2)).2))] := rfl
theorem kputx (a : Nat) (ha : a ∉ [196, 197]) : kput r w a = r a ∧ q a = q a := by
  refine ⟨?_, rfl⟩
  unfold kput
  rw [zset_ne (fun e => ha (by rw [e]; decide)), zset_ne (fun e => ha (by rw [e]; decide))]
theorem kputT (h : kJ r) : kTp (kput r w) = ztp w 8 (kTp r) := by
  have e := ztp_le (w := w) (j := 8) (kTp_ix h).2
  show (zn (nI (ztp w 8 (kTp r)).1), (ztp w 8 (kTp r)).2) = _
  rw [zn_nI e]
theorem kputJ (h : kJ r) : kJ (kput r w) := (h.set (k := 196) (j := 1) rfl (show zI 0 1000 (nI (ztp w 8 (kTp r)).1) from zI.ofN (ztp_le (kTp_ix h).2))).setr rfl (fun _ => zI.top _)
end KP
set_option maxRecDepth 20000 in
theorem mL_X9_put : ∀ w ∈ wsX9_put, w ∈ wsL_law0 := (zcm (zr9 19 rfl) (zmem (zcm (zr9 20 rfl) (zcm (zr3 13 rfl) (zcm (zr3 12 rfl) znm))) zs_wsX90))
set_option maxHeartbeats 4000000 in
set_option maxRecDepth 100000 in
theorem kc_feed (l : Launch) (D : va_G) (ct : Nat → ClassId) (E : Nat → Nat) (y : Nat → Nat) (a1 : Int64) (a2 : Int64) (a3 : Int64) (r : zRr) (q : zRq) (hJ0 : kJ r) : cC l yX11_feed (.code yX11_feed cX11_feed 7 (some .int) :: wsL_law0) ({ frames := 2, cells := 0, slots := 0, locals := 120 }) D ct E [.ref (y 195), .long a1, .long a2, .long a3] (kW ct E y r q) (S := Int32 × zRr) (fun u => some (.int u.1)) (fun u => zI (-2147483648) 2147483647 u.1 ∧ kJ u.2 ∧ (u.1 = u.2 196 1) ∧ (kTp u.2 = ztp a3 8 (ztp a2 8 (ztp a1 8 (kTp r)))) ∧ (zFr [196, 197] r u.2) ∧ True) (fun u => kW ct E y u.2 q) := by
  refine cofQ cX11_feed 7 (some .int) (by decide) rfl (Nat.le_of_ble_eq_true rfl) ?_
  intro p e s m below meth c A a9 Q ha9 hx hb hr hml hts hown hlocks hname hK hA hZ hN hQ
  have hown : s.vm.findClass RX11 = some m.cls := hown
  have hiX11 : ∀ w ∈ wsX110, w ∈ .code yX11_feed cX11_feed 7 (some .int) :: wsL_law0 := fun _ h => ki (zs_wsX110 _ h)
  have hiX9 : ∀ w ∈ wsX90, w ∈ .code yX11_feed cX11_feed 7 (some .int) :: wsL_law0 := fun _ h => ki (zs_wsX90 _ h)
  have lf10 := hts (.fieldLink RX11 10 "BeardPass" "tape" "LBeardPass$Tape;") (ki (zr1 17 rfl))
  have lf100 := hts (.fieldLink RX11 100 "BeardPass$Tape" "length" "I") (ki (zr9 15 rfl))
  intro H locs hw hS ls hl
  have hl : lv_has ls 7 [(0, .ref (y 195)), (1, .long a1), (3, .long a2), (5, .long a3)] := hl
  refine lv_aload_n hx hb dX11_feed_0 rfl (lv_at hl 0 rfl) ?_
  refine va_get (D := D) (ci := 10) (v := .ref (y 196)) hx hb hts hiX11 hown hK hw.1 195 kg195 rfl 0 (by decide) lf10 (fun _ h9 => h9) rfl dX11_feed_1 ?_
  refine lv_lload_n hx hb dX11_feed_4 rfl (lv_at hl 1 rfl) ?_
  refine kcall [196, 197] (by decide) (kputw (kTp_ix hJ0).1) (va_runV (As := [.long a1]) (rest := []) ⟨hx, hb, hml, hown, hts⟩ (c_put l D ct (y 196) (y 197) (kTp r).1 (kTp r).2 a1 (r 196 2) (r 196 3) (E (zn (r 196 4))) (r 196 5) (q 196 6) (r 196 7) (kTp_ix hJ0).2 H.size) (cwV 1 hts (kgVm (zr9 16 rfl) (zr9 17 rfl) (zr9 18 rfl) (zr1 16 rfl) mL_X9_put) rfl rfl rfl (by decide +kernel) ⟨Nat.le_of_ble_eq_true rfl, Nat.le_of_ble_eq_true rfl⟩) (zpreV hK hw hS hA zZ.nil hN [196, 197] (by decide) ((kmap (by decide)).trans (congrArg (List.map some) (kputw (kTp_ix hJ0).1))) 8 196 rfl kg196) rfl rfl hl.1 rfl (lv_room (Nat.le_of_ble_eq_true rfl)) dX11_feed_5 ⟨Nat.le_of_ble_eq_true rfl, Nat.le_of_ble_eq_true rfl⟩) hw hS hA 8 rfl (kput r a1) q (fun _ => kputB) kputx (fun _ H locs _ hw hS => ?_)
  refine zfr 8 [] rfl rfl ?_
  refine cmgen (P := fun x => kJ x) hw (kputJ hJ0) (fun r1 er1 hw pr1 => ?_)
  have yt2 : kTp r1 = ztp a1 8 (kTp r) := by rw [er1]; exact kputT hJ0
  have yf3 : zFr [196, 197] r r1 := by rw [er1]; exact (zFr.refl.set rfl).set rfl
  refine lv_aload_n hx hb dX11_feed_8 rfl (lv_at hl 0 rfl) ?_
  refine va_get (D := D) (ci := 10) (v := .ref (y 196)) hx hb hts hiX11 hown hK hw.1 195 kg195 rfl 0 (by decide) lf10 (fun _ h9 => h9) rfl dX11_feed_9 ?_
  refine lv_lload_n hx hb dX11_feed_12 rfl (lv_at hl 2 rfl) ?_
  refine kcall [196, 197] (by decide) (kputw (kTp_ix pr1).1) (va_runV (As := [.long a2]) (rest := []) ⟨hx, hb, hml, hown, hts⟩ (c_put l D ct (y 196) (y 197) (kTp r1).1 (kTp r1).2 a2 (r1 196 2) (r1 196 3) (E (zn (r1 196 4))) (r1 196 5) (q 196 6) (r1 196 7) (kTp_ix pr1).2 H.size) (cwV 1 hts (kgVm (zr9 16 rfl) (zr9 17 rfl) (zr9 18 rfl) (zr1 16 rfl) mL_X9_put) rfl rfl rfl (by decide +kernel) ⟨Nat.le_of_ble_eq_true rfl, Nat.le_of_ble_eq_true rfl⟩) (zpreV hK hw hS hA zZ.nil hN [196, 197] (by decide) ((kmap (by decide)).trans (congrArg (List.map some) (kputw (kTp_ix pr1).1))) 8 196 rfl kg196) rfl rfl hl.1 rfl (lv_room (Nat.le_of_ble_eq_true rfl)) dX11_feed_13 ⟨Nat.le_of_ble_eq_true rfl, Nat.le_of_ble_eq_true rfl⟩) hw hS hA 16 rfl (kput r1 a2) q (fun _ => kputB) kputx (fun _ H locs _ hw hS => ?_)
  refine zfr 16 [] rfl rfl ?_
  refine cmgen (P := fun x => kJ x) hw (kputJ pr1) (fun r4 er4 hw pr4 => ?_)
  have yt5 : kTp r4 = ztp a2 8 (kTp r1) := by rw [er4]; exact kputT pr1
  have yf6 : zFr [196, 197] r1 r4 := by rw [er4]; exact (zFr.refl.set rfl).set rfl
  refine lv_aload_n hx hb dX11_feed_16 rfl (lv_at hl 0 rfl) ?_
  refine va_get (D := D) (ci := 10) (v := .ref (y 196)) hx hb hts hiX11 hown hK hw.1 195 kg195 rfl 0 (by decide) lf10 (fun _ h9 => h9) rfl dX11_feed_17 ?_
  refine lv_lload hx hb dX11_feed_20 (lv_at hl 3 rfl) ?_
  refine kcall [196, 197] (by decide) (kputw (kTp_ix pr4).1) (va_runV (As := [.long a3]) (rest := []) ⟨hx, hb, hml, hown, hts⟩ (c_put l D ct (y 196) (y 197) (kTp r4).1 (kTp r4).2 a3 (r4 196 2) (r4 196 3) (E (zn (r4 196 4))) (r4 196 5) (q 196 6) (r4 196 7) (kTp_ix pr4).2 H.size) (cwV 1 hts (kgVm (zr9 16 rfl) (zr9 17 rfl) (zr9 18 rfl) (zr1 16 rfl) mL_X9_put) rfl rfl rfl (by decide +kernel) ⟨Nat.le_of_ble_eq_true rfl, Nat.le_of_ble_eq_true rfl⟩) (zpreV hK hw hS hA zZ.nil hN [196, 197] (by decide) ((kmap (by decide)).trans (congrArg (List.map some) (kputw (kTp_ix pr4).1))) 8 196 rfl kg196) rfl rfl hl.1 rfl (lv_room (Nat.le_of_ble_eq_true rfl)) dX11_feed_22 ⟨Nat.le_of_ble_eq_true rfl, Nat.le_of_ble_eq_true rfl⟩) hw hS hA 25 rfl (kput r4 a3) q (fun _ => kputB) kputx (fun _ H locs _ hw hS => ?_)
  refine zfr 25 [] rfl rfl ?_
  refine cmgen (P := fun x => kJ x) hw (kputJ pr4) (fun r7 er7 hw pr7 => ?_)
  have yt8 : kTp r7 = ztp a3 8 (kTp r4) := by rw [er7]; exact kputT pr4
  have yf9 : zFr [196, 197] r4 r7 := by rw [er7]; exact (zFr.refl.set rfl).set rfl
  refine lv_aload_n hx hb dX11_feed_25 rfl (lv_at hl 0 rfl) ?_
  refine va_get (D := D) (ci := 10) (v := .ref (y 196)) hx hb hts hiX11 hown hK hw.1 195 kg195 rfl 0 (by decide) lf10 (fun _ h9 => h9) rfl dX11_feed_26 ?_
  refine va_get (D := D) (ci := 8) (v := .int (r7 196 1)) hx hb hts hiX9 hown hK hw.1 196 kg196 rfl 1 (by decide) lf100 (fun _ h9 => h9) rfl dX11_feed_29 ?_
  exact ziretQ hQ hx hb hr rfl hlocks (r7 196 1, r7) rfl ⟨(zI.top _), pr7, (show (r7 196 1) = r7 196 1 from rfl), (show kTp r7 = ztp a3 8 (ztp a2 8 (ztp a1 8 (kTp r))) from (yt8.trans (by rw [yt5, yt2]))), (show zFr [196, 197] r r7 from ((yf3.tr yf6 rfl).tr yf9 rfl)), trivial⟩ hw hS dX11_feed_32
end
section
/-! ===== constants of Sort are told apart ===== -/
noncomputable def kEi (E : Nat → Nat) : Prop := ∀ i j : Nat, i < 33 → j < 33 → E i = E j → i = j
theorem kEi.eq {E : Nat → Nat} (h : kEi E) {a b : Int32} (ha : zI 0 32 a) (hb : zI 0 32 b) : E (zn a) = E (zn b) ↔ a = b := by
  obtain ⟨e1, h1⟩ := ha.ix (n := 33) (by decide)
  obtain ⟨e2, h2⟩ := hb.ix (n := 33) (by decide)
  exact ⟨fun e => by rw [e1, e2, h _ _ h1 h2 e], fun e => by rw [e]⟩
section CX
variable {p : Program} {l : Launch} {e : Env} {R : Room} {s : State} {m : MethodId} {args : Array Value} {below : List Frame} {meth : Method} {c : Code} {H : Heap} {locs : List Loc} {cells slots : Nat} {Q : State → Prop}
variable {cc : ByteArray} {pc : Nat} {ls : Array Slot} {rest : List Value} {E : Nat → Nat}
theorem cgenSE {x : Int32} {lo hi : Int} (h : zI lo hi x) (k : ∀ v : Int32, v = x → zI lo hi v → W p l e R s m args below meth c H locs cells slots Q (F0 m pc ls (.ref (E (zn v)) :: rest))) : W p l e R s m args below meth c H locs cells slots Q (F0 m pc ls (.ref (E (zn x)) :: rest)) := k x rfl h
theorem cxacmp_eq (hE : kEi E) {a b : Int32} (ha : zI 0 32 a) (hb2 : zI 0 32 b) (hx : p.tables.exec = Jvm.exec) (hb : c.code = cc) {off : Int} {tgt : Nat} (hdg : decode cc pc = .ok (.if_acmp .eq off, 3)) (ht : (pc : Int) + off = (tgt : Int))
    (kt : a = b → W p l e R s m args below meth c H locs cells slots Q (F0 m tgt ls rest)) (kf : ¬ a = b → W p l e R s m args below meth c H locs cells slots Q (F0 m (pc + 3) ls rest)) : W p l e R s m args below meth c H locs cells slots Q (F0 m pc ls (.ref (E (zn b)) :: .ref (E (zn a)) :: rest)) :=
  lv_acmp_eq (rx := some (E (zn a))) (ry := some (E (zn b))) hx hb hdg ht (fun e => kt ((hE.eq ha hb2).mp (Option.some.inj e))) (fun e => kf (fun e2 => e (congrArg some ((hE.eq ha hb2).mpr e2))))
theorem cxacmp_ne (hE : kEi E) {a b : Int32} (ha : zI 0 32 a) (hb2 : zI 0 32 b) (hx : p.tables.exec = Jvm.exec) (hb : c.code = cc) {off : Int} {tgt : Nat} (hdg : decode cc pc = .ok (.if_acmp .ne off, 3)) (ht : (pc : Int) + off = (tgt : Int))
    (kt : ¬ a = b → W p l e R s m args below meth c H locs cells slots Q (F0 m tgt ls rest)) (kf : a = b → W p l e R s m args below meth c H locs cells slots Q (F0 m (pc + 3) ls rest)) : W p l e R s m args below meth c H locs cells slots Q (F0 m pc ls (.ref (E (zn b)) :: .ref (E (zn a)) :: rest)) :=
  lv_acmp_ne (rx := some (E (zn a))) (ry := some (E (zn b))) hx hb hdg ht (fun e => kt (fun e2 => e (congrArg some ((hE.eq ha hb2).mpr e2)))) (fun e => kf ((hE.eq ha hb2).mp (Option.some.inj e)))
end CX
end
section
section KCV
variable {p : Program} {l : Launch} {e : Env} {R : Room} {s : State} {m : MethodId} {args : Array Value} {below : List Frame} {meth : Method} {c : Code} {H : Heap} {locs : List Loc} {cells slots : Nat} {Q : State → Prop}
variable {cc : ByteArray} {pc : Nat} {ls : Array Slot} {rest st0 : List Value} {D : va_G} {ct : Nat → ClassId} {A : Nat → Prop}
variable {E y : Nat → Nat} {r : zRr} {q : zRq} {b : Addr}
theorem kcallV {S : Type} {rv : S → Option Value} {post : S → Prop} {B : S → va_W} {y0 : MethodName} {bytes : ByteArray} {maxL nL n index : Nat} {ret : Option FieldType} {ws : List Cond} {rm : Room} {Ts : List Cond} {own C : String} {As : List Value} (fx : CallFix p m c cc nL s args Ts own) (hM : cC l y0 ws rm D ct E (.ref b :: As) (kW ct E y r q) rv post B) (cw : CallW R s args own C index y0 bytes maxL ret ws rm 0 0 n) (hw : zPD D A (kW ct E y r q) H) (hS : va_S A s.heap H locs) (hA : ∀ q, s.heap.size ≤ q → A q) (hK : va_K D vwCl (zT ct) s) (hZ : eZ E A s s.heap) (hN : zN s) (ci q0 : Nat) {T9 : u_T} {N9 : Nat} (hc : vwCl[ci]? = some (C, T9, N9)) {fs : List Value} (he : (kW ct E y r q)[q0]? = some (b, .inr (ci, fs))) (hn : As.length = n) (hsize : ls.size = nL) (hstack : st0 = As.reverse ++ .ref b :: rest) (hW : (rest.map fun v => v.category).sum ≤ 8) (hdg : decode cc pc = .ok (.invokevirtual index, 3)) (pc2 : Nat) (h2 : pc + 3 = pc2)
    (kk : ∀ (u : S) (H1 : Heap) (locs1 : List Loc), post u → zPD D A (B u) H1 → va_S A s.heap H1 locs1 → W p l e R s m args below meth c H1 locs1 0 0 Q (F0 m pc2 ls ((rv u).toList ++ rest))) : W p l e R s m args below meth c H locs 0 0 Q (F0 m pc ls st0) :=
  zcallW (va_runV fx (hM H.size) cw (cpreV (q := (C, T9, N9)) hK hw hS hA hZ hN (List.range (kW ct E y r q).length) kWn (zrange _) ci q0 hc he) rfl hn hsize hstack (lv_room hW) hdg ⟨Nat.zero_le _, Nat.zero_le _⟩) hw hS hA pc2 h2 kk
end KCV
section KZV
variable {p : Program} {l : Launch} {e : Env} {R : Room} {s : State} {m : MethodId} {args : Array Value} {below : List Frame} {meth : Method} {c : Code} {H : Heap} {locs : List Loc} {cells slots : Nat} {Q : State → Prop}
variable {cc : ByteArray} {pc : Nat} {ls : Array Slot} {rest st0 : List Value} {D : va_G} {ct : Nat → ClassId} {A : Nat → Prop}
variable {E y : Nat → Nat} {r : zRr} {q : zRq} {b : Addr} {w0 : va_W}
theorem kcallZ {S : Type} {rv : S → Option Value} {post : S → Prop} {B : S → va_W} {y0 : MethodName} {bytes : ByteArray} {maxL nL n index : Nat} {ret : Option FieldType} {ws : List Cond} {rm : Room} {Ts : List Cond} {own C : String} {As : List Value} (isC : List Nat) (hlt : ∀ n ∈ isC, n < 207) (hC : isC.map (kcl ct E y r q) = w0) (fx : CallFix p m c cc nL s args Ts own) (hM : zC l y0 ws rm D ct [] (.ref b :: As) w0 rv post B 0 0) (cw : CallW R s args own C index y0 bytes maxL ret ws rm 0 0 n) (hw : zPD D A (kW ct E y r q) H) (hS : va_S A s.heap H locs) (hA : ∀ q, s.heap.size ≤ q → A q) (hK : va_K D vwCl (zT ct) s) (hN : zN s) (hnC : va_nd isC = true) (ci q0 : Nat) {T9 : u_T} {N9 : Nat} (hc : vwCl[ci]? = some (C, T9, N9)) {fs : List Value} (he : (kW ct E y r q)[q0]? = some (b, .inr (ci, fs))) (hn : As.length = n) (hsize : ls.size = nL) (hstack : st0 = As.reverse ++ .ref b :: rest) (hW : (rest.map fun v => v.category).sum ≤ 8) (hdg : decode cc pc = .ok (.invokevirtual index, 3)) (pc2 : Nat) (h2 : pc + 3 = pc2)
    (r1 : zRr) (q1 : zRq) (hB : ∀ u, isC.map (kcl ct E y r1 q1) = B u) (ho : ∀ n, n ∉ isC → r1 n = r n ∧ q1 n = q n)
    (kk : ∀ (u : S) (H1 : Heap) (locs1 : List Loc), post u → zPD D A (kW ct E y r1 q1) H1 → va_S A s.heap H1 locs1 → W p l e R s m args below meth c H1 locs1 0 0 Q (F0 m pc2 ls ((rv u).toList ++ rest))) : W p l e R s m args below meth c H locs 0 0 Q (F0 m pc ls st0) :=
  kcall isC hlt hC (va_runV fx (hM H.size) cw (zpreV (q := (C, T9, N9)) hK hw hS hA zZ.nil hN isC hnC (by rw [← hC]; exact kmap hlt) ci q0 hc he) rfl hn hsize hstack (lv_room hW) hdg ⟨Nat.zero_le _, Nat.zero_le _⟩) hw hS hA pc2 h2 r1 q1 hB ho kk
theorem kcallZS {S : Type} {rv : S → Option Value} {post : S → Prop} {B : S → va_W} {y0 : MethodName} {bytes : ByteArray} {maxL nL n index : Nat} {ret : Option FieldType} {ws : List Cond} {rm : Room} {Ts : List Cond} {own : String} {As : List Value} (isC : List Nat) (hlt : ∀ n ∈ isC, n < 207) (hC : isC.map (kcl ct E y r q) = w0) (fx : CallFix p m c cc nL s args Ts own) (hM : zC l y0 ws rm D ct [] As w0 rv post B 0 0) (cw : CallB R s args own index y0 bytes maxL ret ws rm 0 0 n ∧ (Cond.static y0).before args s = true) (hw : zPD D A (kW ct E y r q) H) (hS : va_S A s.heap H locs) (hA : ∀ q, s.heap.size ≤ q → A q) (hK : va_K D vwCl (zT ct) s) (hN : zN s) (hnC : va_nd isC = true) (hn : As.length = n) (hsize : ls.size = nL) (hstack : st0 = As.reverse ++ rest) (hW : (rest.map fun v => v.category).sum ≤ 8) (hdg : decode cc pc = .ok (.invokestatic index, 3)) (pc2 : Nat) (h2 : pc + 3 = pc2)
    (r1 : zRr) (q1 : zRq) (hB : ∀ u, isC.map (kcl ct E y r1 q1) = B u) (ho : ∀ n, n ∉ isC → r1 n = r n ∧ q1 n = q n)
    (kk : ∀ (u : S) (H1 : Heap) (locs1 : List Loc), post u → zPD D A (kW ct E y r1 q1) H1 → va_S A s.heap H1 locs1 → W p l e R s m args below meth c H1 locs1 0 0 Q (F0 m pc2 ls ((rv u).toList ++ rest))) : W p l e R s m args below meth c H locs 0 0 Q (F0 m pc ls st0) :=
  kcall isC hlt hC (va_runS fx (hM H.size) cw (zpreS hK hw hS hA zZ.nil hN isC hnC (by rw [← hC]; exact kmap hlt)) rfl hn hsize hstack (lv_room hW) hdg ⟨Nat.zero_le _, Nat.zero_le _⟩) hw hS hA pc2 h2 r1 q1 hB ho kk
end KZV
end
set_option maxHeartbeats 4000000 in
set_option maxRecDepth 100000 in
theorem kc_bitCount (l : Launch) (D : va_G) (ct : Nat → ClassId) (a0 : Int32) : zC l yJ6_bitCount_0f7a4 (.code yJ6_bitCount_0f7a4 cJ6_bitCount_0f7a4 1 (some .int) :: wsL_law0) ({ frames := 1, cells := 0, slots := 0, locals := 80 }) D ct [] [.int a0] ([]) (S := Int32) (fun u => some (.int u)) (fun u => zI (-2147483648) 2147483647 u ∧ True) (fun u => []) 0 0 := by
  refine zofQ cJ6_bitCount_0f7a4 1 (some .int) (by decide) rfl (Nat.le_of_ble_eq_true rfl) ?_
  intro p e s m below meth c A a9 Q ha9 hx hb hr hml hts hown hlocks hname hK hA hZ hN hQ
  have hown : s.vm.findClass RJ6 = some m.cls := hown
  intro H locs hw hS ls hl
  have hl : lv_has ls 1 [(0, .int a0)] := hl
  refine lv_iload_n hx hb dJ6_bitCount_0f7a4_0 rfl (lv_at hl 0 rfl) ?_
  refine lv_iload_n hx hb dJ6_bitCount_0f7a4_1 rfl (lv_at hl 0 rfl) ?_
  refine lv_iconst (v := 1) hx hb dJ6_bitCount_0f7a4_2 (by decide) ?_
  refine lv_iushr (v := (a0.toUInt32 >>> ((1 : Int32).toUInt32 &&& Int32.toUInt32 31)).toInt32) hx hb dJ6_bitCount_0f7a4_3 rfl (zgen (zI.top _) (fun v1 _ => ?_))
  refine lv_ldcw hx hb hown (hts (.constant RJ6 265 1431655765) (ki (zr50 16 rfl))) dJ6_bitCount_0f7a4_4 ?_
  refine lv_iand hx hb dJ6_bitCount_0f7a4_7 (zgen (lo := 0) (hi := 1431655765) (zI.and (zI.lit (a := 1431655765) (b := 1431655765) (c := 1431655765) (by decide)) (by decide)) (fun v2 hv2 => ?_))
  refine lv_isub hx hb dJ6_bitCount_0f7a4_8 (zgen (zI.top _) (fun v3 _ => ?_))
  refine lv_istore_n (lv' := [(0, .int v3)]) hx hb dJ6_bitCount_0f7a4_9 rfl hl (by decide) rfl (fun ls hl => ?_)
  refine lv_iload_n hx hb dJ6_bitCount_0f7a4_10 rfl (lv_at hl 0 rfl) ?_
  refine lv_ldcw hx hb hown (hts (.constant RJ6 266 858993459) (ki (zr50 17 rfl))) dJ6_bitCount_0f7a4_11 ?_
  refine lv_iand hx hb dJ6_bitCount_0f7a4_14 (zgen (lo := 0) (hi := 858993459) (zI.and (zI.lit (a := 858993459) (b := 858993459) (c := 858993459) (by decide)) (by decide)) (fun v4 hv4 => ?_))
  refine lv_iload_n hx hb dJ6_bitCount_0f7a4_15 rfl (lv_at hl 0 rfl) ?_
  refine lv_iconst (v := 2) hx hb dJ6_bitCount_0f7a4_16 (by decide) ?_
  refine lv_iushr (v := (v3.toUInt32 >>> ((2 : Int32).toUInt32 &&& Int32.toUInt32 31)).toInt32) hx hb dJ6_bitCount_0f7a4_17 rfl (zgen (zI.top _) (fun v5 _ => ?_))
  refine lv_ldcw hx hb hown (hts (.constant RJ6 266 858993459) (ki (zr50 17 rfl))) dJ6_bitCount_0f7a4_18 ?_
  refine lv_iand hx hb dJ6_bitCount_0f7a4_21 (zgen (lo := 0) (hi := 858993459) (zI.and (zI.lit (a := 858993459) (b := 858993459) (c := 858993459) (by decide)) (by decide)) (fun v6 hv6 => ?_))
  refine lv_iadd hx hb dJ6_bitCount_0f7a4_22 (zgen (lo := 0) (hi := 1717986918) (zI.add hv4 hv6 (by decide)) (fun v7 hv7 => ?_))
  refine lv_istore_n (lv' := [(0, .int v7)]) hx hb dJ6_bitCount_0f7a4_23 rfl hl (by decide) rfl (fun ls hl => ?_)
  refine lv_iload_n hx hb dJ6_bitCount_0f7a4_24 rfl (lv_at hl 0 rfl) ?_
  refine lv_iload_n hx hb dJ6_bitCount_0f7a4_25 rfl (lv_at hl 0 rfl) ?_
  refine lv_iconst (v := 4) hx hb dJ6_bitCount_0f7a4_26 (by decide) ?_
  refine lv_iushr (v := (v7.toUInt32 >>> ((4 : Int32).toUInt32 &&& Int32.toUInt32 31)).toInt32) hx hb dJ6_bitCount_0f7a4_27 rfl (zgen (zI.top _) (fun v8 _ => ?_))
  refine lv_iadd hx hb dJ6_bitCount_0f7a4_28 (zgen (zI.top _) (fun v9 _ => ?_))
  refine lv_ldcw hx hb hown (hts (.constant RJ6 267 252645135) (ki (zr50 18 rfl))) dJ6_bitCount_0f7a4_29 ?_
  refine lv_iand hx hb dJ6_bitCount_0f7a4_32 (zgen (lo := 0) (hi := 252645135) (zI.and (zI.lit (a := 252645135) (b := 252645135) (c := 252645135) (by decide)) (by decide)) (fun v10 hv10 => ?_))
  refine lv_istore_n (lv' := [(0, .int v10)]) hx hb dJ6_bitCount_0f7a4_33 rfl hl (by decide) rfl (fun ls hl => ?_)
  refine lv_iload_n hx hb dJ6_bitCount_0f7a4_34 rfl (lv_at hl 0 rfl) ?_
  refine lv_iload_n hx hb dJ6_bitCount_0f7a4_35 rfl (lv_at hl 0 rfl) ?_
  refine lv_bipush (v := 8) hx hb dJ6_bitCount_0f7a4_36 (by decide) ?_
  refine lv_iushr (v := (v10.toUInt32 >>> ((8 : Int32).toUInt32 &&& Int32.toUInt32 31)).toInt32) hx hb dJ6_bitCount_0f7a4_38 rfl (zgen (zI.top _) (fun v11 _ => ?_))
  refine lv_iadd hx hb dJ6_bitCount_0f7a4_39 (zgen (zI.top _) (fun v12 _ => ?_))
  refine lv_istore_n (lv' := [(0, .int v12)]) hx hb dJ6_bitCount_0f7a4_40 rfl hl (by decide) rfl (fun ls hl => ?_)
  refine lv_iload_n hx hb dJ6_bitCount_0f7a4_41 rfl (lv_at hl 0 rfl) ?_
  refine lv_iload_n hx hb dJ6_bitCount_0f7a4_42 rfl (lv_at hl 0 rfl) ?_
  refine lv_bipush (v := 16) hx hb dJ6_bitCount_0f7a4_43 (by decide) ?_
  refine lv_iushr (v := (v12.toUInt32 >>> ((16 : Int32).toUInt32 &&& Int32.toUInt32 31)).toInt32) hx hb dJ6_bitCount_0f7a4_45 rfl (zgen (zI.top _) (fun v13 _ => ?_))
  refine lv_iadd hx hb dJ6_bitCount_0f7a4_46 (zgen (zI.top _) (fun v14 _ => ?_))
  refine lv_istore_n (lv' := [(0, .int v14)]) hx hb dJ6_bitCount_0f7a4_47 rfl hl (by decide) rfl (fun ls hl => ?_)
  refine lv_iload_n hx hb dJ6_bitCount_0f7a4_48 rfl (lv_at hl 0 rfl) ?_
  refine lv_bipush (v := 63) hx hb dJ6_bitCount_0f7a4_49 (by decide) ?_
  refine lv_iand hx hb dJ6_bitCount_0f7a4_51 (zgen (lo := 0) (hi := 63) (zI.and (zI.lit (a := 63) (b := 63) (c := 63) (by decide)) (by decide)) (fun v15 hv15 => ?_))
  exact ziretQ hQ hx hb hr rfl hlocks v15 rfl ⟨(zI.top _), trivial⟩ hw hS dJ6_bitCount_0f7a4_52

set_option maxHeartbeats 4000000 in
set_option maxRecDepth 100000 in
theorem kc_ntz (l : Launch) (D : va_G) (ct : Nat → ClassId) (a0 : Int32) : zC l yJ6_numberOfTrailingZeros_0f7a4 (.code yJ6_numberOfTrailingZeros_0f7a4 cJ6_numberOfTrailingZeros_0f7a4 2 (some .int) :: wsL_law0) ({ frames := 1, cells := 0, slots := 0, locals := 80 }) D ct [] [.int a0] ([]) (S := Int32) (fun u => some (.int u)) (fun u => zI (-2147483648) 2147483647 u ∧ True) (fun u => []) 0 0 := by
  refine zofQ cJ6_numberOfTrailingZeros_0f7a4 2 (some .int) (by decide) rfl (Nat.le_of_ble_eq_true rfl) ?_
  intro p e s m below meth c A a9 Q ha9 hx hb hr hml hts hown hlocks hname hK hA hZ hN hQ
  have hown : s.vm.findClass RJ6 = some m.cls := hown
  have cut62 : ∀ (w62_0 : Int32) (w62_1 : Int32) (hw62_1 : zI 1 36 w62_1), zKf p l e ({ frames := 1, cells := 0, slots := 0, locals := 80 }) s m a9 below meth c Q D A 62 2 [] ([]) [(0, .int w62_0), (1, .int w62_1)] := by
    intro w62_0 w62_1 hw62_1 H locs ls hw hS hl
    refine lv_iload_n hx hb dJ6_numberOfTrailingZeros_0f7a4_62 rfl (lv_at hl 0 rfl) ?_
    refine lv_iconst (v := 4) hx hb dJ6_numberOfTrailingZeros_0f7a4_63 (by decide) ?_
    refine lv_icmp_le (tgt := 74) hx hb dJ6_numberOfTrailingZeros_0f7a4_64 (by decide) (fun c1 => ?_) (fun c1 => ?_)
    · have k2 : zI (-2147483648) 4 (w62_0) := zI.leU c1 (zI.top _) (zI.lit (a := 4) (b := 4) (c := 4) (by decide)) (by decide)
      refine lv_iload_n hx hb dJ6_numberOfTrailingZeros_0f7a4_74 rfl (lv_at hl 1 rfl) ?_
      refine lv_iload_n hx hb dJ6_numberOfTrailingZeros_0f7a4_75 rfl (lv_at hl 0 rfl) ?_
      refine lv_iconst (v := 1) hx hb dJ6_numberOfTrailingZeros_0f7a4_76 (by decide) ?_
      refine lv_iushr (v := (w62_0.toUInt32 >>> ((1 : Int32).toUInt32 &&& Int32.toUInt32 31)).toInt32) hx hb dJ6_numberOfTrailingZeros_0f7a4_77 rfl (zgen (zI.top _) (fun v3 _ => ?_))
      refine lv_iadd hx hb dJ6_numberOfTrailingZeros_0f7a4_78 (zgen (zI.top _) (fun v4 _ => ?_))
      exact ziretQ hQ hx hb hr rfl hlocks v4 rfl ⟨(zI.top _), trivial⟩ hw hS dJ6_numberOfTrailingZeros_0f7a4_79
    · have k5 : zI 5 2147483647 (w62_0) := zI.ltD (zI.nle c1) (zI.lit (a := 4) (b := 4) (c := 4) (by decide)) (zI.top _) (by decide)
      refine lv_iinc (v := w62_1 + 2) (lv' := [(1, .int (w62_1 + 2)), (0, .int w62_0)]) hx hb dJ6_numberOfTrailingZeros_0f7a4_67 hl (k := 1) rfl (rfl) (by decide) rfl (fun ls hl => ?_)
      have k6 : zI 3 38 (w62_1 + 2) := zI.add hw62_1 (zI.lit (a := 2) (b := 2) (by decide)) (by decide)
      refine lv_iload_n hx hb dJ6_numberOfTrailingZeros_0f7a4_70 rfl (lv_at hl 1 rfl) ?_
      refine lv_iconst (v := 2) hx hb dJ6_numberOfTrailingZeros_0f7a4_71 (by decide) ?_
      refine lv_iushr (v := (w62_0.toUInt32 >>> ((2 : Int32).toUInt32 &&& Int32.toUInt32 31)).toInt32) hx hb dJ6_numberOfTrailingZeros_0f7a4_72 rfl (zgen (zI.top _) (fun v7 _ => ?_))
      refine lv_istore_n (lv' := [(0, .int v7), (1, .int (w62_1 + 2))]) hx hb dJ6_numberOfTrailingZeros_0f7a4_73 rfl hl (by decide) rfl (fun ls hl => ?_)
      refine lv_iload_n hx hb dJ6_numberOfTrailingZeros_0f7a4_74 rfl (lv_at hl 1 rfl) ?_
      refine lv_iload_n hx hb dJ6_numberOfTrailingZeros_0f7a4_75 rfl (lv_at hl 0 rfl) ?_
      refine lv_iconst (v := 1) hx hb dJ6_numberOfTrailingZeros_0f7a4_76 (by decide) ?_
      refine lv_iushr (v := (v7.toUInt32 >>> ((1 : Int32).toUInt32 &&& Int32.toUInt32 31)).toInt32) hx hb dJ6_numberOfTrailingZeros_0f7a4_77 rfl (zgen (zI.top _) (fun v8 _ => ?_))
      refine lv_iadd hx hb dJ6_numberOfTrailingZeros_0f7a4_78 (zgen (zI.top _) (fun v9 _ => ?_))
      exact ziretQ hQ hx hb hr rfl hlocks v9 rfl ⟨(zI.top _), trivial⟩ hw hS dJ6_numberOfTrailingZeros_0f7a4_79
  have cut49 : ∀ (w49_0 : Int32) (w49_1 : Int32) (hw49_1 : zI 1 30 w49_1), zKf p l e ({ frames := 1, cells := 0, slots := 0, locals := 80 }) s m a9 below meth c Q D A 49 2 [] ([]) [(0, .int w49_0), (1, .int w49_1)] := by
    intro w49_0 w49_1 hw49_1 H locs ls hw hS hl
    refine lv_iload_n hx hb dJ6_numberOfTrailingZeros_0f7a4_49 rfl (lv_at hl 0 rfl) ?_
    refine lv_bipush (v := 16) hx hb dJ6_numberOfTrailingZeros_0f7a4_50 (by decide) ?_
    refine lv_icmp_le (tgt := 62) hx hb dJ6_numberOfTrailingZeros_0f7a4_52 (by decide) (fun c10 => ?_) (fun c10 => ?_)
    · have k11 : zI (-2147483648) 16 (w49_0) := zI.leU c10 (zI.top _) (zI.lit (a := 16) (b := 16) (c := 16) (by decide)) (by decide)
      exact cut62 w49_0 w49_1 (hw49_1.w (c := 1) (d := 36) (by decide)) H locs ls hw hS (lv_sub hl [0, 1] rfl)
    · have k12 : zI 17 2147483647 (w49_0) := zI.ltD (zI.nle c10) (zI.lit (a := 16) (b := 16) (c := 16) (by decide)) (zI.top _) (by decide)
      refine lv_iinc (v := w49_1 + 4) (lv' := [(1, .int (w49_1 + 4)), (0, .int w49_0)]) hx hb dJ6_numberOfTrailingZeros_0f7a4_55 hl (k := 1) rfl (rfl) (by decide) rfl (fun ls hl => ?_)
      have k13 : zI 5 34 (w49_1 + 4) := zI.add hw49_1 (zI.lit (a := 4) (b := 4) (by decide)) (by decide)
      refine lv_iload_n hx hb dJ6_numberOfTrailingZeros_0f7a4_58 rfl (lv_at hl 1 rfl) ?_
      refine lv_iconst (v := 4) hx hb dJ6_numberOfTrailingZeros_0f7a4_59 (by decide) ?_
      refine lv_iushr (v := (w49_0.toUInt32 >>> ((4 : Int32).toUInt32 &&& Int32.toUInt32 31)).toInt32) hx hb dJ6_numberOfTrailingZeros_0f7a4_60 rfl (zgen (zI.top _) (fun v14 _ => ?_))
      refine lv_istore_n (lv' := [(0, .int v14), (1, .int (w49_1 + 4))]) hx hb dJ6_numberOfTrailingZeros_0f7a4_61 rfl hl (by decide) rfl (fun ls hl => ?_)
      exact cut62 v14 (w49_1 + 4) (k13.w (c := 1) (d := 36) (by decide)) H locs ls hw hS (lv_sub hl [0, 1] rfl)
  have cut34 : ∀ (w34_0 : Int32) (w34_1 : Int32) (hw34_1 : zI 1 17 w34_1), zKf p l e ({ frames := 1, cells := 0, slots := 0, locals := 80 }) s m a9 below meth c Q D A 34 2 [] ([]) [(0, .int w34_0), (1, .int w34_1)] := by
    intro w34_0 w34_1 hw34_1 H locs ls hw hS hl
    refine lv_iload_n hx hb dJ6_numberOfTrailingZeros_0f7a4_34 rfl (lv_at hl 0 rfl) ?_
    refine lv_sipush (v := 256) hx hb dJ6_numberOfTrailingZeros_0f7a4_35 (by decide) ?_
    refine lv_icmp_le (tgt := 49) hx hb dJ6_numberOfTrailingZeros_0f7a4_38 (by decide) (fun c15 => ?_) (fun c15 => ?_)
    · have k16 : zI (-2147483648) 256 (w34_0) := zI.leU c15 (zI.top _) (zI.lit (a := 256) (b := 256) (c := 256) (by decide)) (by decide)
      exact cut49 w34_0 w34_1 (hw34_1.w (c := 1) (d := 30) (by decide)) H locs ls hw hS (lv_sub hl [0, 1] rfl)
    · have k17 : zI 257 2147483647 (w34_0) := zI.ltD (zI.nle c15) (zI.lit (a := 256) (b := 256) (c := 256) (by decide)) (zI.top _) (by decide)
      refine lv_iinc (v := w34_1 + 8) (lv' := [(1, .int (w34_1 + 8)), (0, .int w34_0)]) hx hb dJ6_numberOfTrailingZeros_0f7a4_41 hl (k := 1) rfl (rfl) (by decide) rfl (fun ls hl => ?_)
      have k18 : zI 9 25 (w34_1 + 8) := zI.add hw34_1 (zI.lit (a := 8) (b := 8) (by decide)) (by decide)
      refine lv_iload_n hx hb dJ6_numberOfTrailingZeros_0f7a4_44 rfl (lv_at hl 1 rfl) ?_
      refine lv_bipush (v := 8) hx hb dJ6_numberOfTrailingZeros_0f7a4_45 (by decide) ?_
      refine lv_iushr (v := (w34_0.toUInt32 >>> ((8 : Int32).toUInt32 &&& Int32.toUInt32 31)).toInt32) hx hb dJ6_numberOfTrailingZeros_0f7a4_47 rfl (zgen (zI.top _) (fun v19 _ => ?_))
      refine lv_istore_n (lv' := [(0, .int v19), (1, .int (w34_1 + 8))]) hx hb dJ6_numberOfTrailingZeros_0f7a4_48 rfl hl (by decide) rfl (fun ls hl => ?_)
      exact cut49 v19 (w34_1 + 8) (k18.w (c := 1) (d := 30) (by decide)) H locs ls hw hS (lv_sub hl [0, 1] rfl)
  intro H locs hw hS ls hl
  have hl : lv_has ls 2 [(0, .int a0)] := hl
  refine lv_iload_n hx hb dJ6_numberOfTrailingZeros_0f7a4_0 rfl (lv_at hl 0 rfl) ?_
  refine lv_iconst (v := (-1)) hx hb dJ6_numberOfTrailingZeros_0f7a4_1 (by decide) ?_
  refine lv_ixor hx hb dJ6_numberOfTrailingZeros_0f7a4_2 (zgen (zI.top _) (fun v20 _ => ?_))
  refine lv_iload_n hx hb dJ6_numberOfTrailingZeros_0f7a4_3 rfl (lv_at hl 0 rfl) ?_
  refine lv_iconst (v := 1) hx hb dJ6_numberOfTrailingZeros_0f7a4_4 (by decide) ?_
  refine lv_isub hx hb dJ6_numberOfTrailingZeros_0f7a4_5 (zgen (zI.top _) (fun v21 _ => ?_))
  refine lv_iand hx hb dJ6_numberOfTrailingZeros_0f7a4_6 (zgen (zI.top _) (fun v22 _ => ?_))
  refine lv_istore_n (lv' := [(0, .int v22)]) hx hb dJ6_numberOfTrailingZeros_0f7a4_7 rfl hl (by decide) rfl (fun ls hl => ?_)
  refine lv_iload_n hx hb dJ6_numberOfTrailingZeros_0f7a4_8 rfl (lv_at hl 0 rfl) ?_
  refine lv_if_gt (tgt := 17) hx hb dJ6_numberOfTrailingZeros_0f7a4_9 (by decide) (fun c23 => ?_) (fun c23 => ?_)
  · have k24 : zI 1 2147483647 (v22) := zI.ltD c23 (zI.lit (a := 0) (b := 0) (c := 0) (by decide)) (zI.top _) (by decide)
    refine lv_iconst (v := 1) hx hb dJ6_numberOfTrailingZeros_0f7a4_17 (by decide) ?_
    refine lv_istore_n (lv' := [(1, .int 1), (0, .int v22)]) hx hb dJ6_numberOfTrailingZeros_0f7a4_18 rfl hl (by decide) rfl (fun ls hl => ?_)
    refine lv_iload_n hx hb dJ6_numberOfTrailingZeros_0f7a4_19 rfl (lv_at hl 1 rfl) ?_
    refine lv_ldcw hx hb hown (hts (.constant RJ6 264 65536) (ki (zr52 12 rfl))) dJ6_numberOfTrailingZeros_0f7a4_20 ?_
    refine lv_icmp_le (tgt := 34) hx hb dJ6_numberOfTrailingZeros_0f7a4_23 (by decide) (fun c25 => ?_) (fun c25 => ?_)
    · have k26 : zI 1 65536 (v22) := zI.leU c25 k24 (zI.lit (a := 65536) (b := 65536) (c := 65536) (by decide)) (by decide)
      exact cut34 v22 1 ((zI.lit (a := 1) (b := 1) (c := 1) (by decide)).w (c := 1) (d := 17) (by decide)) H locs ls hw hS (lv_sub hl [1, 0] rfl)
    · have k27 : zI 65537 2147483647 (v22) := zI.ltD (zI.nle c25) (zI.lit (a := 65536) (b := 65536) (c := 65536) (by decide)) k24 (by decide)
      refine lv_iinc (v := 17) (lv' := [(1, .int 17), (0, .int v22)]) hx hb dJ6_numberOfTrailingZeros_0f7a4_26 hl (k := 0) rfl (by decide) (by decide) rfl (fun ls hl => ?_)
      refine lv_iload_n hx hb dJ6_numberOfTrailingZeros_0f7a4_29 rfl (lv_at hl 1 rfl) ?_
      refine lv_bipush (v := 16) hx hb dJ6_numberOfTrailingZeros_0f7a4_30 (by decide) ?_
      refine lv_iushr (v := (v22.toUInt32 >>> ((16 : Int32).toUInt32 &&& Int32.toUInt32 31)).toInt32) hx hb dJ6_numberOfTrailingZeros_0f7a4_32 rfl (zgen (zI.top _) (fun v28 _ => ?_))
      refine lv_istore_n (lv' := [(0, .int v28), (1, .int 17)]) hx hb dJ6_numberOfTrailingZeros_0f7a4_33 rfl hl (by decide) rfl (fun ls hl => ?_)
      exact cut34 v28 17 ((zI.lit (a := 17) (b := 17) (c := 17) (by decide)).w (c := 1) (d := 17) (by decide)) H locs ls hw hS (lv_sub hl [0, 1] rfl)
  · have k29 : zI (-2147483648) 0 (v22) := zI.leU (zI.nlt c23) (zI.top _) (zI.lit (a := 0) (b := 0) (c := 0) (by decide)) (by decide)
    refine lv_iload_n hx hb dJ6_numberOfTrailingZeros_0f7a4_12 rfl (lv_at hl 0 rfl) ?_
    refine lv_bipush (v := 32) hx hb dJ6_numberOfTrailingZeros_0f7a4_13 (by decide) ?_
    refine lv_iand hx hb dJ6_numberOfTrailingZeros_0f7a4_15 (zgen (lo := 0) (hi := 32) (zI.and (zI.lit (a := 32) (b := 32) (c := 32) (by decide)) (by decide)) (fun v30 hv30 => ?_))
    exact ziretQ hQ hx hb hr rfl hlocks v30 rfl ⟨(zI.top _), trivial⟩ hw hS dJ6_numberOfTrailingZeros_0f7a4_16

set_option maxHeartbeats 4000000 in
set_option maxRecDepth 100000 in
theorem kc_nlz (l : Launch) (D : va_G) (ct : Nat → ClassId) (a0 : Int32) : zC l yJ6_numberOfLeadingZeros_0f7a4 (.code yJ6_numberOfLeadingZeros_0f7a4 cJ6_numberOfLeadingZeros_0f7a4 2 (some .int) :: wsL_law0) ({ frames := 1, cells := 0, slots := 0, locals := 80 }) D ct [] [.int a0] ([]) (S := Int32) (fun u => some (.int u)) (fun u => zI (-2147483648) 2147483647 u ∧ True) (fun u => []) 0 0 := by
  refine zofQ cJ6_numberOfLeadingZeros_0f7a4 2 (some .int) (by decide) rfl (Nat.le_of_ble_eq_true rfl) ?_
  intro p e s m below meth c A a9 Q ha9 hx hb hr hml hts hown hlocks hname hK hA hZ hN hQ
  have hown : s.vm.findClass RJ6 = some m.cls := hown
  have cut61 : ∀ (w61_0 : Int32) (w61_1 : Int32) (hw61_1 : zI 3 31 w61_1), zKf p l e ({ frames := 1, cells := 0, slots := 0, locals := 80 }) s m a9 below meth c Q D A 61 2 [] ([]) [(0, .int w61_0), (1, .int w61_1)] := by
    intro w61_0 w61_1 hw61_1 H locs ls hw hS hl
    refine lv_iload_n hx hb dJ6_numberOfLeadingZeros_0f7a4_61 rfl (lv_at hl 0 rfl) ?_
    refine lv_iconst (v := 4) hx hb dJ6_numberOfLeadingZeros_0f7a4_62 (by decide) ?_
    refine lv_icmp_lt (tgt := 73) hx hb dJ6_numberOfLeadingZeros_0f7a4_63 (by decide) (fun c1 => ?_) (fun c1 => ?_)
    · have k2 : zI (-2147483648) 3 (w61_0) := zI.ltU c1 (zI.top _) (zI.lit (a := 4) (b := 4) (c := 4) (by decide)) (by decide)
      refine lv_iload_n hx hb dJ6_numberOfLeadingZeros_0f7a4_73 rfl (lv_at hl 1 rfl) ?_
      refine lv_iload_n hx hb dJ6_numberOfLeadingZeros_0f7a4_74 rfl (lv_at hl 0 rfl) ?_
      refine lv_iconst (v := 1) hx hb dJ6_numberOfLeadingZeros_0f7a4_75 (by decide) ?_
      refine lv_iushr (v := (w61_0.toUInt32 >>> ((1 : Int32).toUInt32 &&& Int32.toUInt32 31)).toInt32) hx hb dJ6_numberOfLeadingZeros_0f7a4_76 rfl (zgen (zI.top _) (fun v3 _ => ?_))
      refine lv_isub hx hb dJ6_numberOfLeadingZeros_0f7a4_77 (zgen (zI.top _) (fun v4 _ => ?_))
      exact ziretQ hQ hx hb hr rfl hlocks v4 rfl ⟨(zI.top _), trivial⟩ hw hS dJ6_numberOfLeadingZeros_0f7a4_78
    · have k5 : zI 4 2147483647 (w61_0) := zI.leD (zI.nlt c1) (zI.lit (a := 4) (b := 4) (c := 4) (by decide)) (zI.top _) (by decide)
      refine lv_iinc (v := w61_1 + (-2)) (lv' := [(1, .int (w61_1 + (-2))), (0, .int w61_0)]) hx hb dJ6_numberOfLeadingZeros_0f7a4_66 hl (k := 1) rfl (rfl) (by decide) rfl (fun ls hl => ?_)
      have k6 : zI 1 29 (w61_1 + (-2)) := zI.add hw61_1 (zI.lit (a := (-2)) (b := (-2)) (by decide)) (by decide)
      refine lv_iload_n hx hb dJ6_numberOfLeadingZeros_0f7a4_69 rfl (lv_at hl 1 rfl) ?_
      refine lv_iconst (v := 2) hx hb dJ6_numberOfLeadingZeros_0f7a4_70 (by decide) ?_
      refine lv_iushr (v := (w61_0.toUInt32 >>> ((2 : Int32).toUInt32 &&& Int32.toUInt32 31)).toInt32) hx hb dJ6_numberOfLeadingZeros_0f7a4_71 rfl (zgen (zI.top _) (fun v7 _ => ?_))
      refine lv_istore_n (lv' := [(0, .int v7), (1, .int (w61_1 + (-2)))]) hx hb dJ6_numberOfLeadingZeros_0f7a4_72 rfl hl (by decide) rfl (fun ls hl => ?_)
      refine lv_iload_n hx hb dJ6_numberOfLeadingZeros_0f7a4_73 rfl (lv_at hl 1 rfl) ?_
      refine lv_iload_n hx hb dJ6_numberOfLeadingZeros_0f7a4_74 rfl (lv_at hl 0 rfl) ?_
      refine lv_iconst (v := 1) hx hb dJ6_numberOfLeadingZeros_0f7a4_75 (by decide) ?_
      refine lv_iushr (v := (v7.toUInt32 >>> ((1 : Int32).toUInt32 &&& Int32.toUInt32 31)).toInt32) hx hb dJ6_numberOfLeadingZeros_0f7a4_76 rfl (zgen (zI.top _) (fun v8 _ => ?_))
      refine lv_isub hx hb dJ6_numberOfLeadingZeros_0f7a4_77 (zgen (zI.top _) (fun v9 _ => ?_))
      exact ziretQ hQ hx hb hr rfl hlocks v9 rfl ⟨(zI.top _), trivial⟩ hw hS dJ6_numberOfLeadingZeros_0f7a4_78
  have cut48 : ∀ (w48_0 : Int32) (w48_1 : Int32) (hw48_1 : zI 7 31 w48_1), zKf p l e ({ frames := 1, cells := 0, slots := 0, locals := 80 }) s m a9 below meth c Q D A 48 2 [] ([]) [(0, .int w48_0), (1, .int w48_1)] := by
    intro w48_0 w48_1 hw48_1 H locs ls hw hS hl
    refine lv_iload_n hx hb dJ6_numberOfLeadingZeros_0f7a4_48 rfl (lv_at hl 0 rfl) ?_
    refine lv_bipush (v := 16) hx hb dJ6_numberOfLeadingZeros_0f7a4_49 (by decide) ?_
    refine lv_icmp_lt (tgt := 61) hx hb dJ6_numberOfLeadingZeros_0f7a4_51 (by decide) (fun c10 => ?_) (fun c10 => ?_)
    · have k11 : zI (-2147483648) 15 (w48_0) := zI.ltU c10 (zI.top _) (zI.lit (a := 16) (b := 16) (c := 16) (by decide)) (by decide)
      exact cut61 w48_0 w48_1 (hw48_1.w (c := 3) (d := 31) (by decide)) H locs ls hw hS (lv_sub hl [0, 1] rfl)
    · have k12 : zI 16 2147483647 (w48_0) := zI.leD (zI.nlt c10) (zI.lit (a := 16) (b := 16) (c := 16) (by decide)) (zI.top _) (by decide)
      refine lv_iinc (v := w48_1 + (-4)) (lv' := [(1, .int (w48_1 + (-4))), (0, .int w48_0)]) hx hb dJ6_numberOfLeadingZeros_0f7a4_54 hl (k := 1) rfl (rfl) (by decide) rfl (fun ls hl => ?_)
      have k13 : zI 3 27 (w48_1 + (-4)) := zI.add hw48_1 (zI.lit (a := (-4)) (b := (-4)) (by decide)) (by decide)
      refine lv_iload_n hx hb dJ6_numberOfLeadingZeros_0f7a4_57 rfl (lv_at hl 1 rfl) ?_
      refine lv_iconst (v := 4) hx hb dJ6_numberOfLeadingZeros_0f7a4_58 (by decide) ?_
      refine lv_iushr (v := (w48_0.toUInt32 >>> ((4 : Int32).toUInt32 &&& Int32.toUInt32 31)).toInt32) hx hb dJ6_numberOfLeadingZeros_0f7a4_59 rfl (zgen (zI.top _) (fun v14 _ => ?_))
      refine lv_istore_n (lv' := [(0, .int v14), (1, .int (w48_1 + (-4)))]) hx hb dJ6_numberOfLeadingZeros_0f7a4_60 rfl hl (by decide) rfl (fun ls hl => ?_)
      exact cut61 v14 (w48_1 + (-4)) (k13.w (c := 3) (d := 31) (by decide)) H locs ls hw hS (lv_sub hl [0, 1] rfl)
  have cut33 : ∀ (w33_0 : Int32) (w33_1 : Int32) (hw33_1 : zI 15 31 w33_1), zKf p l e ({ frames := 1, cells := 0, slots := 0, locals := 80 }) s m a9 below meth c Q D A 33 2 [] ([]) [(0, .int w33_0), (1, .int w33_1)] := by
    intro w33_0 w33_1 hw33_1 H locs ls hw hS hl
    refine lv_iload_n hx hb dJ6_numberOfLeadingZeros_0f7a4_33 rfl (lv_at hl 0 rfl) ?_
    refine lv_sipush (v := 256) hx hb dJ6_numberOfLeadingZeros_0f7a4_34 (by decide) ?_
    refine lv_icmp_lt (tgt := 48) hx hb dJ6_numberOfLeadingZeros_0f7a4_37 (by decide) (fun c15 => ?_) (fun c15 => ?_)
    · have k16 : zI (-2147483648) 255 (w33_0) := zI.ltU c15 (zI.top _) (zI.lit (a := 256) (b := 256) (c := 256) (by decide)) (by decide)
      exact cut48 w33_0 w33_1 (hw33_1.w (c := 7) (d := 31) (by decide)) H locs ls hw hS (lv_sub hl [0, 1] rfl)
    · have k17 : zI 256 2147483647 (w33_0) := zI.leD (zI.nlt c15) (zI.lit (a := 256) (b := 256) (c := 256) (by decide)) (zI.top _) (by decide)
      refine lv_iinc (v := w33_1 + (-8)) (lv' := [(1, .int (w33_1 + (-8))), (0, .int w33_0)]) hx hb dJ6_numberOfLeadingZeros_0f7a4_40 hl (k := 1) rfl (rfl) (by decide) rfl (fun ls hl => ?_)
      have k18 : zI 7 23 (w33_1 + (-8)) := zI.add hw33_1 (zI.lit (a := (-8)) (b := (-8)) (by decide)) (by decide)
      refine lv_iload_n hx hb dJ6_numberOfLeadingZeros_0f7a4_43 rfl (lv_at hl 1 rfl) ?_
      refine lv_bipush (v := 8) hx hb dJ6_numberOfLeadingZeros_0f7a4_44 (by decide) ?_
      refine lv_iushr (v := (w33_0.toUInt32 >>> ((8 : Int32).toUInt32 &&& Int32.toUInt32 31)).toInt32) hx hb dJ6_numberOfLeadingZeros_0f7a4_46 rfl (zgen (zI.top _) (fun v19 _ => ?_))
      refine lv_istore_n (lv' := [(0, .int v19), (1, .int (w33_1 + (-8)))]) hx hb dJ6_numberOfLeadingZeros_0f7a4_47 rfl hl (by decide) rfl (fun ls hl => ?_)
      exact cut48 v19 (w33_1 + (-8)) (k18.w (c := 7) (d := 31) (by decide)) H locs ls hw hS (lv_sub hl [0, 1] rfl)
  intro H locs hw hS ls hl
  have hl : lv_has ls 2 [(0, .int a0)] := hl
  refine lv_iload_n hx hb dJ6_numberOfLeadingZeros_0f7a4_0 rfl (lv_at hl 0 rfl) ?_
  refine lv_if_gt (tgt := 15) hx hb dJ6_numberOfLeadingZeros_0f7a4_1 (by decide) (fun c20 => ?_) (fun c20 => ?_)
  · have k21 : zI 1 2147483647 (a0) := zI.ltD c20 (zI.lit (a := 0) (b := 0) (c := 0) (by decide)) (zI.top _) (by decide)
    refine lv_bipush (v := 31) hx hb dJ6_numberOfLeadingZeros_0f7a4_15 (by decide) ?_
    refine lv_istore_n (lv' := [(1, .int 31), (0, .int a0)]) hx hb dJ6_numberOfLeadingZeros_0f7a4_17 rfl hl (by decide) rfl (fun ls hl => ?_)
    refine lv_iload_n hx hb dJ6_numberOfLeadingZeros_0f7a4_18 rfl (lv_at hl 1 rfl) ?_
    refine lv_ldcw hx hb hown (hts (.constant RJ6 264 65536) (ki (zr52 12 rfl))) dJ6_numberOfLeadingZeros_0f7a4_19 ?_
    refine lv_icmp_lt (tgt := 33) hx hb dJ6_numberOfLeadingZeros_0f7a4_22 (by decide) (fun c22 => ?_) (fun c22 => ?_)
    · have k23 : zI 1 65535 (a0) := zI.ltU c22 k21 (zI.lit (a := 65536) (b := 65536) (c := 65536) (by decide)) (by decide)
      exact cut33 a0 31 ((zI.lit (a := 31) (b := 31) (c := 31) (by decide)).w (c := 15) (d := 31) (by decide)) H locs ls hw hS (lv_sub hl [1, 0] rfl)
    · have k24 : zI 65536 2147483647 (a0) := zI.leD (zI.nlt c22) (zI.lit (a := 65536) (b := 65536) (c := 65536) (by decide)) k21 (by decide)
      refine lv_iinc (v := 15) (lv' := [(1, .int 15), (0, .int a0)]) hx hb dJ6_numberOfLeadingZeros_0f7a4_25 hl (k := 0) rfl (by decide) (by decide) rfl (fun ls hl => ?_)
      refine lv_iload_n hx hb dJ6_numberOfLeadingZeros_0f7a4_28 rfl (lv_at hl 1 rfl) ?_
      refine lv_bipush (v := 16) hx hb dJ6_numberOfLeadingZeros_0f7a4_29 (by decide) ?_
      refine lv_iushr (v := (a0.toUInt32 >>> ((16 : Int32).toUInt32 &&& Int32.toUInt32 31)).toInt32) hx hb dJ6_numberOfLeadingZeros_0f7a4_31 rfl (zgen (zI.top _) (fun v25 _ => ?_))
      refine lv_istore_n (lv' := [(0, .int v25), (1, .int 15)]) hx hb dJ6_numberOfLeadingZeros_0f7a4_32 rfl hl (by decide) rfl (fun ls hl => ?_)
      exact cut33 v25 15 ((zI.lit (a := 15) (b := 15) (c := 15) (by decide)).w (c := 15) (d := 31) (by decide)) H locs ls hw hS (lv_sub hl [0, 1] rfl)
  · have k26 : zI (-2147483648) 0 (a0) := zI.leU (zI.nlt c20) (zI.top _) (zI.lit (a := 0) (b := 0) (c := 0) (by decide)) (by decide)
    refine lv_iload_n hx hb dJ6_numberOfLeadingZeros_0f7a4_4 rfl (lv_at hl 0 rfl) ?_
    refine lv_if_ne (tgt := 13) hx hb dJ6_numberOfLeadingZeros_0f7a4_5 (by decide) (fun c27 => ?_) (fun c27 => ?_)
    · have k28 : zI (-2147483648) (-1) (a0) := zI.neU c27 k26 (zI.lit (a := 0) (b := 0) (c := 0) (by decide)) (by decide)
      refine lv_iconst (v := 0) hx hb dJ6_numberOfLeadingZeros_0f7a4_13 (by decide) ?_
      exact ziretQ hQ hx hb hr rfl hlocks (0 : Int32) rfl ⟨(zI.top _), trivial⟩ hw hS dJ6_numberOfLeadingZeros_0f7a4_14
    · have k29 : zI 0 0 (a0) := zI.eqq c27 (zI.lit (a := 0) (b := 0) (c := 0) (by decide))
      refine lv_bipush (v := 32) hx hb dJ6_numberOfLeadingZeros_0f7a4_8 (by decide) ?_
      refine lv_goto (tgt := 14) hx hb dJ6_numberOfLeadingZeros_0f7a4_10 (by decide) ?_
      exact ziretQ hQ hx hb hr rfl hlocks (32 : Int32) rfl ⟨(zI.top _), trivial⟩ hw hS dJ6_numberOfLeadingZeros_0f7a4_14

set_option maxHeartbeats 4000000 in
set_option maxRecDepth 100000 in
theorem kc_has (l : Launch) (D : va_G) (ct : Nat → ClassId) (a0 : Int32) (a1 : Int32) : zC l yX11_has (.code yX11_has cX11_has 2 (some .boolean) :: wsL_law0) ({ frames := 1, cells := 0, slots := 0, locals := 80 }) D ct [] [.int a0, .int a1] ([]) (S := Int32) (fun u => some (.int u)) (fun u => zI 0 1 u ∧ u = (Gk_has a0 a1) ∧ True) (fun u => []) 0 0 := by
  refine zofQ cX11_has 2 (some .boolean) (by decide) rfl (Nat.le_of_ble_eq_true rfl) ?_
  intro p e s m below meth c A a9 Q ha9 hx hb hr hml hts hown hlocks hname hK hA hZ hN hQ
  have hown : s.vm.findClass RX11 = some m.cls := hown
  obtain ⟨X, hX⟩ : ∃ X, X = (Gk_has a0 a1) := ⟨_, rfl⟩
  intro H locs hw hS ls hl
  have hl : lv_has ls 2 [(0, .int a0), (1, .int a1)] := hl
  have hE := hX
  unfold Gk_has at hE
  refine lv_iload_n hx hb dX11_has_0 rfl (lv_at hl 0 rfl) ?_
  refine lv_iload_n hx hb dX11_has_1 rfl (lv_at hl 1 rfl) ?_
  refine lv_ishr hx hb dX11_has_2 (zgenE (zI.top _) (fun v1 ev1 _ => ?_))
  have hE := zletE ev1 hE
  refine lv_iconst (v := 1) hx hb dX11_has_3 (by decide) ?_
  refine lv_iand hx hb dX11_has_4 (zgenE (lo := 0) (hi := 1) (zI.and (zI.lit (a := 1) (b := 1) (c := 1) (by decide)) (by decide)) (fun v2 ev2 hv2 => ?_))
  have hE := zletE ev2 hE
  refine lv_if_eq (tgt := 12) hx hb dX11_has_5 (by decide) (fun c3 => ?_) (fun c3 => ?_)
  · have hE := zifT c3 hE
    have k4 : zI 0 0 (v2) := zI.eqq c3 (zI.lit (a := 0) (b := 0) (c := 0) (by decide))
    refine lv_iconst (v := 0) hx hb dX11_has_12 (by decide) ?_
    exact ziretQ hQ hx hb hr rfl hlocks (0 : Int32) rfl ⟨((zI.lit (a := 0) (b := 0) (c := 0) (by decide)).w (c := 0) (d := 1) (by decide)), (hE.symm.trans hX), trivial⟩ hw hS dX11_has_13
  · have hE := zifF c3 hE
    have k5 : zI 1 1 (v2) := zI.neD c3 hv2 (zI.lit (a := 0) (b := 0) (c := 0) (by decide)) (by decide)
    refine lv_iconst (v := 1) hx hb dX11_has_8 (by decide) ?_
    refine lv_goto (tgt := 13) hx hb dX11_has_9 (by decide) ?_
    exact ziretQ hQ hx hb hr rfl hlocks (1 : Int32) rfl ⟨((zI.lit (a := 1) (b := 1) (c := 1) (by decide)).w (c := 0) (d := 1) (by decide)), (hE.symm.trans hX), trivial⟩ hw hS dX11_has_13

set_option maxHeartbeats 4000000 in
set_option maxRecDepth 100000 in
theorem kc_isLetter (l : Launch) (D : va_G) (ct : Nat → ClassId) (a0 : Int32) : zC l yX9_isLetter (.code yX9_isLetter cX9_isLetter 1 (some .boolean) :: wsL_law0) ({ frames := 1, cells := 0, slots := 0, locals := 80 }) D ct [] [.int a0] ([]) (S := Int32) (fun u => some (.int u)) (fun u => zI 0 1 u ∧ u = (Gk_isLetter a0) ∧ True) (fun u => []) 0 0 := by
  refine zofQ cX9_isLetter 1 (some .boolean) (by decide) rfl (Nat.le_of_ble_eq_true rfl) ?_
  intro p e s m below meth c A a9 Q ha9 hx hb hr hml hts hown hlocks hname hK hA hZ hN hQ
  have hown : s.vm.findClass RX9 = some m.cls := hown
  obtain ⟨X, hX⟩ : ∃ X, X = (Gk_isLetter a0) := ⟨_, rfl⟩
  intro H locs hw hS ls hl
  have hl : lv_has ls 1 [(0, .int a0)] := hl
  have hE := hX
  unfold Gk_isLetter at hE
  refine lv_iload_n hx hb dX9_isLetter_0 rfl (lv_at hl 0 rfl) ?_
  refine lv_bipush (v := 97) hx hb dX9_isLetter_1 (by decide) ?_
  refine lv_icmp_lt (tgt := 16) hx hb dX9_isLetter_3 (by decide) (fun c1 => ?_) (fun c1 => ?_)
  · have hE := zifT c1 hE
    have k2 : zI (-2147483648) 96 (a0) := zI.ltU c1 (zI.top _) (zI.lit (a := 97) (b := 97) (c := 97) (by decide)) (by decide)
    refine lv_iconst (v := 0) hx hb dX9_isLetter_16 (by decide) ?_
    exact ziretQ hQ hx hb hr rfl hlocks (0 : Int32) rfl ⟨((zI.lit (a := 0) (b := 0) (c := 0) (by decide)).w (c := 0) (d := 1) (by decide)), (hE.symm.trans hX), trivial⟩ hw hS dX9_isLetter_17
  · have hE := zifF c1 hE
    have k3 : zI 97 2147483647 (a0) := zI.leD (zI.nlt c1) (zI.lit (a := 97) (b := 97) (c := 97) (by decide)) (zI.top _) (by decide)
    refine lv_iload_n hx hb dX9_isLetter_6 rfl (lv_at hl 0 rfl) ?_
    refine lv_bipush (v := 122) hx hb dX9_isLetter_7 (by decide) ?_
    refine lv_icmp_gt (tgt := 16) hx hb dX9_isLetter_9 (by decide) (fun c4 => ?_) (fun c4 => ?_)
    · have hE := zifT c4 hE
      have k5 : zI 123 2147483647 (a0) := zI.ltD c4 (zI.lit (a := 122) (b := 122) (c := 122) (by decide)) k3 (by decide)
      refine lv_iconst (v := 0) hx hb dX9_isLetter_16 (by decide) ?_
      exact ziretQ hQ hx hb hr rfl hlocks (0 : Int32) rfl ⟨((zI.lit (a := 0) (b := 0) (c := 0) (by decide)).w (c := 0) (d := 1) (by decide)), (hE.symm.trans hX), trivial⟩ hw hS dX9_isLetter_17
    · have hE := zifF c4 hE
      have k6 : zI 97 122 (a0) := zI.leU (zI.nlt c4) k3 (zI.lit (a := 122) (b := 122) (c := 122) (by decide)) (by decide)
      refine lv_iconst (v := 1) hx hb dX9_isLetter_12 (by decide) ?_
      refine lv_goto (tgt := 17) hx hb dX9_isLetter_13 (by decide) ?_
      exact ziretQ hQ hx hb hr rfl hlocks (1 : Int32) rfl ⟨((zI.lit (a := 1) (b := 1) (c := 1) (by decide)).w (c := 0) (d := 1) (by decide)), (hE.symm.trans hX), trivial⟩ hw hS dX9_isLetter_17

set_option maxHeartbeats 4000000 in
set_option maxRecDepth 100000 in
theorem kc_isDigit (l : Launch) (D : va_G) (ct : Nat → ClassId) (a0 : Int32) : zC l yX9_isDigit (.code yX9_isDigit cX9_isDigit 1 (some .boolean) :: wsL_law0) ({ frames := 1, cells := 0, slots := 0, locals := 80 }) D ct [] [.int a0] ([]) (S := Int32) (fun u => some (.int u)) (fun u => zI 0 1 u ∧ u = (Gk_isDigit a0) ∧ True) (fun u => []) 0 0 := by
  refine zofQ cX9_isDigit 1 (some .boolean) (by decide) rfl (Nat.le_of_ble_eq_true rfl) ?_
  intro p e s m below meth c A a9 Q ha9 hx hb hr hml hts hown hlocks hname hK hA hZ hN hQ
  have hown : s.vm.findClass RX9 = some m.cls := hown
  obtain ⟨X, hX⟩ : ∃ X, X = (Gk_isDigit a0) := ⟨_, rfl⟩
  intro H locs hw hS ls hl
  have hl : lv_has ls 1 [(0, .int a0)] := hl
  have hE := hX
  unfold Gk_isDigit at hE
  refine lv_iload_n hx hb dX9_isDigit_0 rfl (lv_at hl 0 rfl) ?_
  refine lv_bipush (v := 48) hx hb dX9_isDigit_1 (by decide) ?_
  refine lv_icmp_lt (tgt := 16) hx hb dX9_isDigit_3 (by decide) (fun c1 => ?_) (fun c1 => ?_)
  · have hE := zifT c1 hE
    have k2 : zI (-2147483648) 47 (a0) := zI.ltU c1 (zI.top _) (zI.lit (a := 48) (b := 48) (c := 48) (by decide)) (by decide)
    refine lv_iconst (v := 0) hx hb dX9_isDigit_16 (by decide) ?_
    exact ziretQ hQ hx hb hr rfl hlocks (0 : Int32) rfl ⟨((zI.lit (a := 0) (b := 0) (c := 0) (by decide)).w (c := 0) (d := 1) (by decide)), (hE.symm.trans hX), trivial⟩ hw hS dX9_isDigit_17
  · have hE := zifF c1 hE
    have k3 : zI 48 2147483647 (a0) := zI.leD (zI.nlt c1) (zI.lit (a := 48) (b := 48) (c := 48) (by decide)) (zI.top _) (by decide)
    refine lv_iload_n hx hb dX9_isDigit_6 rfl (lv_at hl 0 rfl) ?_
    refine lv_bipush (v := 57) hx hb dX9_isDigit_7 (by decide) ?_
    refine lv_icmp_gt (tgt := 16) hx hb dX9_isDigit_9 (by decide) (fun c4 => ?_) (fun c4 => ?_)
    · have hE := zifT c4 hE
      have k5 : zI 58 2147483647 (a0) := zI.ltD c4 (zI.lit (a := 57) (b := 57) (c := 57) (by decide)) k3 (by decide)
      refine lv_iconst (v := 0) hx hb dX9_isDigit_16 (by decide) ?_
      exact ziretQ hQ hx hb hr rfl hlocks (0 : Int32) rfl ⟨((zI.lit (a := 0) (b := 0) (c := 0) (by decide)).w (c := 0) (d := 1) (by decide)), (hE.symm.trans hX), trivial⟩ hw hS dX9_isDigit_17
    · have hE := zifF c4 hE
      have k6 : zI 48 57 (a0) := zI.leU (zI.nlt c4) k3 (zI.lit (a := 57) (b := 57) (c := 57) (by decide)) (by decide)
      refine lv_iconst (v := 1) hx hb dX9_isDigit_12 (by decide) ?_
      refine lv_goto (tgt := 17) hx hb dX9_isDigit_13 (by decide) ?_
      exact ziretQ hQ hx hb hr rfl hlocks (1 : Int32) rfl ⟨((zI.lit (a := 1) (b := 1) (c := 1) (by decide)).w (c := 0) (d := 1) (by decide)), (hE.symm.trans hX), trivial⟩ hw hS dX9_isDigit_17

set_option maxHeartbeats 4000000 in
set_option maxRecDepth 100000 in
theorem kc_nextDraw (l : Launch) (D : va_G) (ct : Nat → ClassId) (a0 : Int64) (x1 : mQ a0) : zC l yX11_nextDraw (.code yX11_nextDraw cX11_nextDraw 2 (some .long) :: wsL_law0) ({ frames := 1, cells := 0, slots := 0, locals := 80 }) D ct [] [.long a0] ([]) (S := Int64) (fun u => some (.long u)) (fun u => (mQ u) ∧ True) (fun u => []) 0 0 := by
  refine zofQ cX11_nextDraw 2 (some .long) (by decide) rfl (Nat.le_of_ble_eq_true rfl) ?_
  intro p e s m below meth c A a9 Q ha9 hx hb hr hml hts hown hlocks hname hK hA hZ hN hQ
  have hown : s.vm.findClass RX11 = some m.cls := hown
  intro H locs hw hS ls hl
  have hl : lv_has ls 2 [(0, .long a0)] := hl
  refine lv_lload_n hx hb dX11_nextDraw_0 rfl (lv_at hl 0 rfl) ?_
  refine lv_ldc2 hx hb hown (hts (.constantLong RX11 356 1103515245) (ki (zr55 9 rfl))) dX11_nextDraw_1 ?_
  refine lv_lmul hx hb dX11_nextDraw_4 ?_
  refine lv_ldc2 hx hb hown (hts (.constantLong RX11 358 12345) (ki (zr55 10 rfl))) dX11_nextDraw_5 ?_
  refine lv_ladd hx hb dX11_nextDraw_8 ?_
  refine lv_ldc2 hx hb hown (hts (.constantLong RX11 360 2147483648) (ki (zr55 11 rfl))) dX11_nextDraw_9 ?_
  refine lv_lrem hx hb dX11_nextDraw_12 (by decide) ?_
  exact clretQ hQ hx hb hr hlocks (((a0 * (1103515245 : Int64)) + (12345 : Int64)) - ((a0 * (1103515245 : Int64)) + (12345 : Int64)) / (2147483648 : Int64) * (2147483648 : Int64)) rfl ⟨(show mQ (((a0 * (1103515245 : Int64)) + (12345 : Int64)) - ((a0 * (1103515245 : Int64)) + (12345 : Int64)) / (2147483648 : Int64) * (2147483648 : Int64)) from (x1.step)), trivial⟩ hw hS dX11_nextDraw_13

set_option maxHeartbeats 4000000 in
set_option maxRecDepth 100000 in
theorem kc_below6 (l : Launch) (D : va_G) (ct : Nat → ClassId) (a0 : Int64) (a1 : Int32) (g1 : zI 0 6 a1) (x1 : mQ a0) : zC l yX11_below (.code yX11_below cX11_below 3 (some .int) :: wsL_law0) ({ frames := 1, cells := 0, slots := 0, locals := 80 }) D ct [] [.long a0, .int a1] ([]) (S := Int32) (fun u => some (.int u)) (fun u => zI 0 5 u ∧ True) (fun u => []) 0 0 := by
  refine zofQ cX11_below 3 (some .int) (by decide) rfl (Nat.le_of_ble_eq_true rfl) ?_
  intro p e s m below meth c A a9 Q ha9 hx hb hr hml hts hown hlocks hname hK hA hZ hN hQ
  have hown : s.vm.findClass RX11 = some m.cls := hown
  intro H locs hw hS ls hl
  have hl : lv_has ls 3 [(0, .long a0), (2, .int a1)] := hl
  refine lv_iload_n hx hb dX11_below_0 rfl (lv_at hl 1 rfl) ?_
  refine lv_iconst (v := 1) hx hb dX11_below_1 (by decide) ?_
  refine lv_icmp_ge (tgt := 9) hx hb dX11_below_2 (by decide) (fun c1 => ?_) (fun c1 => ?_)
  · have k2 : zI 1 6 (a1) := zI.leD c1 (zI.lit (a := 1) (b := 1) (c := 1) (by decide)) g1 (by decide)
    refine lv_lload_n hx hb dX11_below_9 rfl (lv_at hl 0 rfl) ?_
    refine lv_ldc2 hx hb hown (hts (.constantLong RX11 362 65536) (ki (zr55 15 rfl))) dX11_below_10 ?_
    refine lv_ldiv hx hb dX11_below_13 (by decide) ?_
    refine lv_iload_n hx hb dX11_below_14 rfl (lv_at hl 1 rfl) ?_
    refine lv_i2l (v := a1.toInt64) hx hb dX11_below_15 rfl ?_
    refine lv_lrem hx hb dX11_below_16 (i64ne k2 (by decide)) ?_
    refine lv_l2i (v := ((a0 / (65536 : Int64)) - (a0 / (65536 : Int64)) / a1.toInt64 * a1.toInt64).toInt32) hx hb dX11_below_17 rfl (zgen (lo := 0) (hi := 5) ((x1.draw k2 (by decide))) (fun v3 hv3 => ?_))
    exact ziretQ hQ hx hb hr rfl hlocks v3 rfl ⟨hv3, trivial⟩ hw hS dX11_below_18
  · have k4 : zI 0 0 (a1) := zI.ltU (zI.nle c1) g1 (zI.lit (a := 1) (b := 1) (c := 1) (by decide)) (by decide)
    refine lv_iconst (v := 0) hx hb dX11_below_5 (by decide) ?_
    refine lv_goto (tgt := 18) hx hb dX11_below_6 (by decide) ?_
    exact ziretQ hQ hx hb hr rfl hlocks (0 : Int32) rfl ⟨((zI.lit (a := 0) (b := 0) (c := 0) (by decide)).w (c := 0) (d := 5) (by decide)), trivial⟩ hw hS dX11_below_18

set_option maxHeartbeats 4000000 in
set_option maxRecDepth 100000 in
theorem kc_below20 (l : Launch) (D : va_G) (ct : Nat → ClassId) (a0 : Int64) : zC l yX11_below (.code yX11_below cX11_below 3 (some .int) :: wsL_law0) ({ frames := 1, cells := 0, slots := 0, locals := 80 }) D ct [] [.long a0, .int 20] ([]) (S := Int32) (fun u => some (.int u)) (fun u => zI (-2147483648) 2147483647 u ∧ True) (fun u => []) 0 0 := by
  refine zofQ cX11_below 3 (some .int) (by decide) rfl (Nat.le_of_ble_eq_true rfl) ?_
  intro p e s m below meth c A a9 Q ha9 hx hb hr hml hts hown hlocks hname hK hA hZ hN hQ
  have hown : s.vm.findClass RX11 = some m.cls := hown
  intro H locs hw hS ls hl
  have hl : lv_has ls 3 [(0, .long a0), (2, .int 20)] := hl
  refine lv_iload_n hx hb dX11_below_0 rfl (lv_at hl 1 rfl) ?_
  refine lv_iconst (v := 1) hx hb dX11_below_1 (by decide) ?_
  refine lv_icmp_ge (tgt := 9) hx hb dX11_below_2 (by decide) (fun _ => ?_) (fun h => absurd (by decide) h)
  refine lv_lload_n hx hb dX11_below_9 rfl (lv_at hl 0 rfl) ?_
  refine lv_ldc2 hx hb hown (hts (.constantLong RX11 362 65536) (ki (zr55 15 rfl))) dX11_below_10 ?_
  refine lv_ldiv hx hb dX11_below_13 (by decide) (zgenL (fun v2 => ?_))
  refine lv_iload_n hx hb dX11_below_14 rfl (lv_at hl 1 rfl) ?_
  refine lv_i2l (v := 20) hx hb dX11_below_15 (by decide) ?_
  refine lv_lrem hx hb dX11_below_16 (by decide) (zgenL (fun v3 => ?_))
  refine lv_l2i (v := v3.toInt32) hx hb dX11_below_17 rfl (zgen (zI.top _) (fun v4 _ => ?_))
  exact ziretQ hQ hx hb hr rfl hlocks v4 rfl ⟨(zI.top _), trivial⟩ hw hS dX11_below_18

set_option maxHeartbeats 4000000 in
set_option maxRecDepth 100000 in
theorem kc_coder (l : Launch) (D : va_G) (ct : Nat → ClassId) (E : Nat → Nat) (a0 : Nat) (g0 : a0 < 37) (hEi : kEi E) : cC l yJ0_coder_7d493 (.code yJ0_coder_7d493 cJ0_coder_7d493 1 (some .byte) :: wsL_law0) ({ frames := 1, cells := 0, slots := 0, locals := 80 }) D ct E [.ref (E (40 + a0))] ([]) (S := Int32) (fun u => some (.int u)) (fun u => zI 0 0 u ∧ u = (Gk_coder a0) ∧ True) (fun u => []) := by
  refine cofQ cJ0_coder_7d493 1 (some .byte) (by decide) rfl (Nat.le_of_ble_eq_true rfl) ?_
  intro p e s m below meth c A a9 Q ha9 hx hb hr hml hts hown hlocks hname hK hA hZ hN hQ
  have hown : s.vm.findClass RJ0 = some m.cls := hown
  have lf15 := hts (.fieldLink RJ0 15 "java/lang/String" "coder" "B") (ki (zr12 16 rfl))
  have lf38 := hts (.fieldLink RJ0 38 "java/lang/String" "COMPACT_STRINGS" "Z") (ki (zr12 15 rfl))
  obtain ⟨X, hX⟩ : ∃ X, X = (Gk_coder a0) := ⟨_, rfl⟩
  intro H locs hw hS ls hl
  have hl : lv_has ls 1 [(0, .ref (E (40 + a0)))] := hl
  have hE := hX
  unfold Gk_coder at hE
  refine va_gets (C := RJ0) (v := .int 1) hx hb hZ.2.2.2.2.2.2.1 hS hown lf38 (fun _ h9 => h9) dJ0_coder_7d493_0 ?_
  refine lv_if_eq (tgt := 13) hx hb dJ0_coder_7d493_3 (by decide) (fun h => absurd h (by decide)) (fun _ => ?_)
  refine lv_aload_n hx hb dJ0_coder_7d493_6 rfl (lv_at hl 0 rfl) ?_
  refine vk_getf (o := RJ0) hx hb (hZ.2.2.2.2.1 _ g0).2.1 hS hown lf15 (fun _ h9 => h9) dJ0_coder_7d493_7 ?_
  refine lv_goto (tgt := 14) hx hb dJ0_coder_7d493_10 (by decide) ?_
  exact ziretQ hQ hx hb hr rfl hlocks (0 : Int32) rfl ⟨(zI.lit (a := 0) (b := 0) (c := 0) (by decide)), (hE.symm.trans hX), trivial⟩ hw hS dJ0_coder_7d493_14

set_option maxHeartbeats 4000000 in
set_option maxRecDepth 100000 in
theorem kc_isLatin1 (l : Launch) (D : va_G) (ct : Nat → ClassId) (E : Nat → Nat) (a0 : Nat) (g0 : a0 < 37) (hEi : kEi E) : cC l yJ0_isLatin1_aae02 (.code yJ0_isLatin1_aae02 cJ0_isLatin1_aae02 1 (some .boolean) :: wsL_law0) ({ frames := 1, cells := 0, slots := 0, locals := 80 }) D ct E [.ref (E (40 + a0))] ([]) (S := Int32) (fun u => some (.int u)) (fun u => zI 1 1 u ∧ u = (Gk_isLatin1 a0) ∧ True) (fun u => []) := by
  refine cofQ cJ0_isLatin1_aae02 1 (some .boolean) (by decide) rfl (Nat.le_of_ble_eq_true rfl) ?_
  intro p e s m below meth c A a9 Q ha9 hx hb hr hml hts hown hlocks hname hK hA hZ hN hQ
  have hown : s.vm.findClass RJ0 = some m.cls := hown
  have lf15 := hts (.fieldLink RJ0 15 "java/lang/String" "coder" "B") (ki (zr12 16 rfl))
  have lf38 := hts (.fieldLink RJ0 38 "java/lang/String" "COMPACT_STRINGS" "Z") (ki (zr12 15 rfl))
  obtain ⟨X, hX⟩ : ∃ X, X = (Gk_isLatin1 a0) := ⟨_, rfl⟩
  intro H locs hw hS ls hl
  have hl : lv_has ls 1 [(0, .ref (E (40 + a0)))] := hl
  have hE := hX
  unfold Gk_isLatin1 at hE
  refine va_gets (C := RJ0) (v := .int 1) hx hb hZ.2.2.2.2.2.2.1 hS hown lf38 (fun _ h9 => h9) dJ0_isLatin1_aae02_0 ?_
  refine lv_if_eq (tgt := 17) hx hb dJ0_isLatin1_aae02_3 (by decide) (fun h => absurd h (by decide)) (fun _ => ?_)
  refine lv_aload_n hx hb dJ0_isLatin1_aae02_6 rfl (lv_at hl 0 rfl) ?_
  refine vk_getf (o := RJ0) hx hb (hZ.2.2.2.2.1 _ g0).2.1 hS hown lf15 (fun _ h9 => h9) dJ0_isLatin1_aae02_7 ?_
  refine lv_if_ne (tgt := 17) hx hb dJ0_isLatin1_aae02_10 (by decide) (fun h => absurd (by decide) h) (fun _ => ?_)
  refine lv_iconst (v := 1) hx hb dJ0_isLatin1_aae02_13 (by decide) ?_
  refine lv_goto (tgt := 18) hx hb dJ0_isLatin1_aae02_14 (by decide) ?_
  exact ziretQ hQ hx hb hr rfl hlocks (1 : Int32) rfl ⟨(zI.lit (a := 1) (b := 1) (c := 1) (by decide)), (hE.symm.trans hX), trivial⟩ hw hS dJ0_isLatin1_aae02_18

set_option maxHeartbeats 4000000 in
set_option maxRecDepth 100000 in
theorem kc_length (l : Launch) (D : va_G) (ct : Nat → ClassId) (E : Nat → Nat) (a0 : Nat) (g0 : a0 < 37) (hEi : kEi E) : cC l yJ0_length_8abf5 (.code yJ0_length_8abf5 cJ0_length_8abf5 1 (some .int) :: wsL_law0) ({ frames := 2, cells := 0, slots := 0, locals := 120 }) D ct E [.ref (E (40 + a0))] ([]) (S := Int32) (fun u => some (.int u)) (fun u => zI 0 8 u ∧ (u = nI (eL.getD a0 0)) ∧ u = (Gk_length a0) ∧ True) (fun u => []) := by
  refine cofQ cJ0_length_8abf5 1 (some .int) (by decide) rfl (Nat.le_of_ble_eq_true rfl) ?_
  intro p e s m below meth c A a9 Q ha9 hx hb hr hml hts hown hlocks hname hK hA hZ hN hQ
  have hown : s.vm.findClass RJ0 = some m.cls := hown
  have lf9 := hts (.fieldLink RJ0 9 "java/lang/String" "value" "[B") (ki (zr12 10 rfl))
  obtain ⟨X, hX⟩ : ∃ X, X = (Gk_length a0) := ⟨_, rfl⟩
  intro H locs hw hS ls hl
  have hl : lv_has ls 1 [(0, .ref (E (40 + a0)))] := hl
  have hE := hX
  unfold Gk_length at hE
  refine lv_aload_n hx hb dJ0_length_8abf5_0 rfl (lv_at hl 0 rfl) ?_
  refine vk_getf (o := RJ0) hx hb (hZ.2.2.2.2.1 _ g0).2.2.1 hS hown lf9 (fun _ h9 => h9) dJ0_length_8abf5_1 ?_
  refine va_tlen (v := nI (eL.getD a0 0)) hx hb (hZ.2.2.2.2.1 _ g0).2.2.2 hS rfl dJ0_length_8abf5_4 ?_
  have k2 : zI 0 8 (nI (eL.getD a0 0)) := eLb g0
  refine lv_aload_n hx hb dJ0_length_8abf5_5 rfl (lv_at hl 0 rfl) ?_
  refine zcallE (va_runV (As := []) (rest := [.int (nI (eL.getD a0 0))]) ⟨hx, hb, hml, hown, hts⟩ (kc_coder l D ct E a0 g0 hEi H.size) (cwV 0 hts (kgV (zr12 11 rfl) (zr12 12 rfl) (zr12 13 rfl) (zr12 8 rfl) (zr12 14 rfl)) rfl rfl rfl (by decide +kernel) ⟨Nat.le_of_ble_eq_true rfl, Nat.le_of_ble_eq_true rfl⟩) (cpreT hK hw hS hA hZ hN g0) rfl rfl hl.1 rfl (lv_room (Nat.le_of_ble_eq_true rfl)) dJ0_length_8abf5_6 ⟨Nat.le_of_ble_eq_true rfl, Nat.le_of_ble_eq_true rfl⟩) hw hS hA rfl 9 rfl (fun u3 H locs pu3 hw hS => ?_)
  have hu3 : zI 0 0 u3 := pu3.1
  have xu3 : u3 = (Gk_coder a0) := pu3.2.1
  have hE := zletE xu3 hE
  refine zfr 9 [.int u3, .int (nI (eL.getD a0 0))] rfl rfl ?_
  refine lv_ishr hx hb dJ0_length_8abf5_9 ?_
  have k5 : zI 0 8 ((nI (eL.getD a0 0)) >>> (u3 &&& 31)) := zI.shr k2 (by decide)
  exact ziretQ hQ hx hb hr rfl hlocks ((nI (eL.getD a0 0)) >>> (u3 &&& 31)) rfl ⟨k5, (show ((nI (eL.getD a0 0)) >>> (u3 &&& 31)) = nI (eL.getD a0 0) from (by rw [zI.eq0 hu3]; exact sc_shr0 (by have h9 := eLn g0; omega))), (hE.symm.trans hX), trivial⟩ hw hS dJ0_length_8abf5_10

set_option maxHeartbeats 4000000 in
set_option maxRecDepth 100000 in
theorem kc_check3 (l : Launch) (D : va_G) (ct : Nat → ClassId) (a0 : Int32) (a1 : Int32) (a2 : Option Nat) (g0 : zI 0 2147483647 a0) (x1 : a0 < a1) : zC l yJ3_checkIndex_8e157 (.code yJ3_checkIndex_8e157 cJ3_checkIndex_8e157 3 (some .int) :: wsL_law0) ({ frames := 1, cells := 0, slots := 0, locals := 80 }) D ct [] [.int a0, .int a1, (va_rf a2)] ([]) (S := Int32) (fun u => some (.int u)) (fun u => zI (-2147483648) 2147483647 u ∧ True) (fun u => []) 0 0 := by
  refine zofQ cJ3_checkIndex_8e157 3 (some .int) (by decide) rfl (by cases a2 <;> exact Nat.le_of_ble_eq_true rfl) ?_
  intro p e s m below meth c A a9 Q ha9 hx hb hr hml hts hown hlocks hname hK hA hZ hN hQ
  have hown : s.vm.findClass RJ3 = some m.cls := hown
  intro H locs hw hS ls hl
  have hl : lv_has ls 3 [(0, .int a0), (1, .int a1), (2, (va_rf a2))] := hl
  refine lv_iload_n hx hb dJ3_checkIndex_8e157_0 rfl (lv_at hl 0 rfl) ?_
  refine lv_if_lt (tgt := 9) hx hb dJ3_checkIndex_8e157_1 (by decide) (fun c1 => ?_) (fun c1 => ?_)
  · exact zI.abs (a := 0) (b := (-1)) (zI.ltU c1 g0 (zI.lit (a := 0) (b := 0) (c := 0) (by decide)) (by decide)) (by decide)
  · refine lv_iload_n hx hb dJ3_checkIndex_8e157_4 rfl (lv_at hl 0 rfl) ?_
    refine lv_iload_n hx hb dJ3_checkIndex_8e157_5 rfl (lv_at hl 1 rfl) ?_
    refine lv_icmp_lt (tgt := 16) hx hb dJ3_checkIndex_8e157_6 (by decide) (fun c2 => ?_) (fun c2 => ?_)
    · have k3 : zI 0 2147483646 (a0) := zI.ltU c2 g0 (zI.top _) (by decide)
      have k4 : zI 1 2147483647 (a1) := zI.ltD c2 g0 (zI.top _) (by decide)
      refine lv_iload_n hx hb dJ3_checkIndex_8e157_16 rfl (lv_at hl 0 rfl) ?_
      exact ziretQ hQ hx hb hr rfl hlocks a0 rfl ⟨(zI.top _), trivial⟩ hw hS dJ3_checkIndex_8e157_17
    · exact absurd x1 c2

set_option maxHeartbeats 4000000 in
set_option maxRecDepth 100000 in
theorem kc_check (l : Launch) (D : va_G) (ct : Nat → ClassId) (E : Nat → Nat) (a0 : Int32) (a1 : Int32) (g0 : zI 0 2147483647 a0) (hEi : kEi E) (x1 : a0 < a1) : cC l yJ0_checkIndex_df160 (.code yJ0_checkIndex_df160 cJ0_checkIndex_df160 2 none :: wsL_law0) ({ frames := 2, cells := 0, slots := 0, locals := 120 }) D ct E [.int a0, .int a1] ([]) (S := Unit) (fun u => none) (fun u => True) (fun u => []) := by
  refine cofQ cJ0_checkIndex_df160 2 none (by decide) rfl (Nat.le_of_ble_eq_true rfl) ?_
  intro p e s m below meth c A a9 Q ha9 hx hb hr hml hts hown hlocks hname hK hA hZ hN hQ
  have hown : s.vm.findClass RJ0 = some m.cls := hown
  have lf1053 := hts (.fieldLink RJ0 1053 "jdk/internal/util/Preconditions" "SIOOBE_FORMATTER" "Ljava/util/function/BiFunction;") (ki (zr13 8 rfl))
  intro H locs hw hS ls hl
  have hl : lv_has ls 2 [(0, .int a0), (1, .int a1)] := hl
  refine lv_iload_n hx hb dJ0_checkIndex_df160_0 rfl (lv_at hl 0 rfl) ?_
  refine lv_iload_n hx hb dJ0_checkIndex_df160_1 rfl (lv_at hl 1 rfl) ?_
  obtain ⟨o9, ho9⟩ := hZ.2.2.2.2.2.2.2.1
  refine va_gets (C := RJ3) (v := va_rf o9) hx hb ho9 hS hown lf1053 (fun _ h9 => h9) dJ0_checkIndex_df160_2 ?_
  refine scallE (As := [.int a0, .int a1, (va_rf o9)]) (rest := []) ⟨hx, hb, hml, hown, hts⟩ (kc_check3 l D ct a0 a1 o9 g0 (x1)) (va_cwS 3 hts (kgS (zr13 9 rfl) (zr13 10 rfl) (zr13 11 rfl) (zr13 12 rfl)) rfl rfl rfl (by decide +kernel) ⟨Nat.le_of_ble_eq_true rfl, Nat.le_of_ble_eq_true rfl⟩) hw hS hA hK hN rfl rfl hl.1 rfl (Nat.le_of_ble_eq_true rfl) dJ0_checkIndex_df160_5 8 rfl (fun u1 H locs pu1 hw hS => ?_)
  have hu1 : zI (-2147483648) 2147483647 u1 := pu1.1
  refine zfr 8 [.int u1] rfl rfl ?_
  refine lv_pop hx hb dJ0_checkIndex_df160_8 rfl ?_
  exact zvretQ hQ hx hb hr hlocks () rfl trivial hw hS dJ0_checkIndex_df160_9

set_option maxHeartbeats 4000000 in
set_option maxRecDepth 100000 in
theorem kc_charAt1 (l : Launch) (D : va_G) (ct : Nat → ClassId) (E : Nat → Nat) (a0 : Nat) (a1 : Int32) (g0 : a0 < 37) (g1 : zI 0 7 a1) (hEi : kEi E) (x1 : a1 < nI (eL.getD a0 0)) : cC l yJ1_charAt_3b067 (.code yJ1_charAt_3b067 cJ1_charAt_3b067 2 (some .char) :: wsL_law0) ({ frames := 3, cells := 0, slots := 0, locals := 160 }) D ct E [.ref (E (80 + a0)), .int a1] ([]) (S := Int32) (fun u => some (.int u)) (fun u => zI (-2147483648) 2147483647 u ∧ (narrow .char (.int u) = .int u) ∧ u = (Gk_charAt1 a0 a1) ∧ True) (fun u => []) := by
  refine cofQ cJ1_charAt_3b067 2 (some .char) (by decide) rfl (Nat.le_of_ble_eq_true rfl) ?_
  intro p e s m below meth c A a9 Q ha9 hx hb hr hml hts hown hlocks hname hK hA hZ hN hQ
  have hown : s.vm.findClass RJ1 = some m.cls := hown
  obtain ⟨X, hX⟩ : ∃ X, X = (Gk_charAt1 a0 a1) := ⟨_, rfl⟩
  intro H locs hw hS ls hl
  have hl : lv_has ls 2 [(0, .ref (E (80 + a0))), (1, .int a1)] := hl
  have hE := hX
  unfold Gk_charAt1 at hE
  refine lv_iload_n hx hb dJ1_charAt_3b067_0 rfl (lv_at hl 1 rfl) ?_
  refine lv_aload_n hx hb dJ1_charAt_3b067_1 rfl (lv_at hl 0 rfl) ?_
  refine va_tlen (v := nI (eL.getD a0 0)) hx hb (hZ.2.2.2.2.1 _ g0).2.2.2 hS rfl dJ1_charAt_3b067_2 ?_
  have k2 : zI 0 8 (nI (eL.getD a0 0)) := eLb g0
  refine zcallE (va_runS (As := [.int a1, .int (nI (eL.getD a0 0))]) (rest := []) ⟨hx, hb, hml, hown, hts⟩ (kc_check l D ct E a1 (nI (eL.getD a0 0)) (g1.w (c := 0) (d := 2147483647) (by decide)) hEi (x1) H.size) (va_cwS 2 hts (kgS (zr13 5 rfl) (zr13 6 rfl) (zr12 8 rfl) (zr13 7 rfl)) rfl rfl rfl (by decide +kernel) ⟨Nat.le_of_ble_eq_true rfl, Nat.le_of_ble_eq_true rfl⟩) (cpreS hK hw hS hA hZ hN [] rfl rfl) rfl rfl hl.1 rfl (lv_room (Nat.le_of_ble_eq_true rfl)) dJ1_charAt_3b067_3 ⟨Nat.le_of_ble_eq_true rfl, Nat.le_of_ble_eq_true rfl⟩) hw hS hA rfl 6 rfl (fun u3 H locs pu3 hw hS => ?_)
  refine zfr 6 [] rfl rfl ?_
  refine lv_aload_n hx hb dJ1_charAt_3b067_6 rfl (lv_at hl 0 rfl) ?_
  refine lv_iload_n hx hb dJ1_charAt_3b067_7 rfl (lv_at hl 1 rfl) ?_
  refine va_tb hx hb (hZ.2.2.2.2.1 _ g0).2.2.2 hS (eLin g0 g1 x1) (v := .int _) rfl dJ1_charAt_3b067_8 (zgenE (zI.top _) (fun v4 ev4 _ => ?_))
  have hE := zletE ev4 hE
  refine lv_sipush (v := 255) hx hb dJ1_charAt_3b067_9 (by decide) ?_
  refine lv_iand hx hb dJ1_charAt_3b067_12 (zgenE (lo := 0) (hi := 255) (zI.and (zI.lit (a := 255) (b := 255) (c := 255) (by decide)) (by decide)) (fun v5 ev5 hv5 => ?_))
  have hE := zletE ev5 hE
  refine lv_i2c (v := (v5.toUInt32 % 65536).toInt32) hx hb dJ1_charAt_3b067_13 rfl (zgenE (zI.top _) (fun v6 ev6 _ => ?_))
  have hE := zletE ev6 hE
  exact ziretQ hQ hx hb hr (by rw [ev6]; exact pk_nc _) hlocks v6 rfl ⟨(zI.top _), (show narrow .char (.int v6) = .int v6 from (by rw [ev6]; exact pk_nc _)), (hE.symm.trans hX), trivial⟩ hw hS dJ1_charAt_3b067_14

set_option maxHeartbeats 4000000 in
set_option maxRecDepth 100000 in
theorem kc_charAt (l : Launch) (D : va_G) (ct : Nat → ClassId) (E : Nat → Nat) (a0 : Nat) (a1 : Int32) (g0 : a0 < 37) (g1 : zI 0 7 a1) (hEi : kEi E) (x1 : a1 < nI (eL.getD a0 0)) : cC l yJ0_charAt_5068e (.code yJ0_charAt_5068e cJ0_charAt_5068e 2 (some .char) :: wsL_law0) ({ frames := 4, cells := 0, slots := 0, locals := 200 }) D ct E [.ref (E (40 + a0)), .int a1] ([]) (S := Int32) (fun u => some (.int u)) (fun u => zI (-2147483648) 2147483647 u ∧ u = (Gk_charAt a0 a1) ∧ True) (fun u => []) := by
  refine cofQ cJ0_charAt_5068e 2 (some .char) (by decide) rfl (Nat.le_of_ble_eq_true rfl) ?_
  intro p e s m below meth c A a9 Q ha9 hx hb hr hml hts hown hlocks hname hK hA hZ hN hQ
  have hown : s.vm.findClass RJ0 = some m.cls := hown
  have lf9 := hts (.fieldLink RJ0 9 "java/lang/String" "value" "[B") (ki (zr12 10 rfl))
  obtain ⟨X, hX⟩ : ∃ X, X = (Gk_charAt a0 a1) := ⟨_, rfl⟩
  intro H locs hw hS ls hl
  have hl : lv_has ls 2 [(0, .ref (E (40 + a0))), (1, .int a1)] := hl
  have hE := hX
  unfold Gk_charAt at hE
  refine lv_aload_n hx hb dJ0_charAt_5068e_0 rfl (lv_at hl 0 rfl) ?_
  refine zcallE (va_runV (As := []) (rest := []) ⟨hx, hb, hml, hown, hts⟩ (kc_isLatin1 l D ct E a0 g0 hEi H.size) (cwV 0 hts (kgV (zr12 21 rfl) (zr12 22 rfl) (zr12 23 rfl) (zr12 8 rfl) (zr13 0 rfl)) rfl rfl rfl (by decide +kernel) ⟨Nat.le_of_ble_eq_true rfl, Nat.le_of_ble_eq_true rfl⟩) (cpreT hK hw hS hA hZ hN g0) rfl rfl hl.1 rfl (lv_room (Nat.le_of_ble_eq_true rfl)) dJ0_charAt_5068e_1 ⟨Nat.le_of_ble_eq_true rfl, Nat.le_of_ble_eq_true rfl⟩) hw hS hA rfl 4 rfl (fun u1 H locs pu1 hw hS => ?_)
  have hu1 : zI 1 1 u1 := pu1.1
  have xu1 : u1 = (Gk_isLatin1 a0) := pu1.2.1
  have hE := zletE xu1 hE
  refine zfr 4 [.int u1] rfl rfl ?_
  refine lv_if_eq (tgt := 16) hx hb dJ0_charAt_5068e_4 (by decide) (fun c3 => ?_) (fun c3 => ?_)
  · have hE := zifT c3 hE
    exact absurd (congrArg Int32.toInt c3) (by have := hu1.1; have := (zI.lit (a := 0) (b := 0) (c := 0) (by decide)).2; omega)
  · have hE := zifF c3 hE
    refine lv_aload_n hx hb dJ0_charAt_5068e_7 rfl (lv_at hl 0 rfl) ?_
    refine vk_getf (o := RJ0) hx hb (hZ.2.2.2.2.1 _ g0).2.2.1 hS hown lf9 (fun _ h9 => h9) dJ0_charAt_5068e_8 ?_
    refine lv_iload_n hx hb dJ0_charAt_5068e_11 rfl (lv_at hl 1 rfl) ?_
    refine zcallE (va_runS (As := [.ref (E (80 + a0)), .int a1]) (rest := []) ⟨hx, hb, hml, hown, hts⟩ (kc_charAt1 l D ct E a0 a1 g0 g1 hEi (x1) H.size) (va_cwS 2 hts (kgS (zr13 1 rfl) (zr13 2 rfl) (zr13 3 rfl) (zr13 4 rfl)) rfl rfl rfl (by decide +kernel) ⟨Nat.le_of_ble_eq_true rfl, Nat.le_of_ble_eq_true rfl⟩) (cpreS hK hw hS hA hZ hN [] rfl rfl) rfl rfl hl.1 rfl (lv_room (Nat.le_of_ble_eq_true rfl)) dJ0_charAt_5068e_12 ⟨Nat.le_of_ble_eq_true rfl, Nat.le_of_ble_eq_true rfl⟩) hw hS hA rfl 15 rfl (fun u4 H locs pu4 hw hS => ?_)
    have hu4 : zI (-2147483648) 2147483647 u4 := pu4.1
    have yu4_0 : (narrow .char (.int u4) = .int u4) := pu4.2.1
    have xu4 : u4 = (Gk_charAt1 a0 a1) := pu4.2.2.1
    have hE := zletE xu4 hE
    refine zfr 15 [.int u4] rfl rfl ?_
    exact ziretQ hQ hx hb hr yu4_0 hlocks u4 rfl ⟨(zI.top _), (hE.symm.trans hX), trivial⟩ hw hS dJ0_charAt_5068e_15
