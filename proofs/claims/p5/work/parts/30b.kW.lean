/-! ===== the class: its cells in one row, each with its row of ints ===== -/
def kc (ct : Nat → ClassId) (E y : Nat → Nat) (n : Nat) (f : Nat → Int32) (g : Nat → Int64) : va_E :=
  if n < 138 then (if n % 6 = 0 then .inr (7, [.ref (y (n + 1)), .ref (y (n + 2)), .ref (y (n + 3)), .ref (y (n + 4)), .ref (y (n + 5)), .int (f 5)]) else .inl (ct 0, 6, .inl f)) else
  if n < 162 then (if (n - 138) % 4 = 0 then .inr (1, [.ref (y (n + 1)), .ref (y (n + 2)), .ref (y (n + 3)), .int (f 3)]) else .inl (ct 0, 40, .inl f)) else
  if n < 167 then .inr (6, [.int (f 0), .int (f 1)]) else
  if n < 171 then .inr (5, [.ref (y (6 * (n - 148))), .ref (y (4 * (n - 167) + 146)), .ref (y (n - 4)), .int (f 3)]) else
  if n < 195 then (if (n - 171) % 12 = 0 then .inr (2, [.ref (y (n + 1)), .ref (y (n + 2)), .ref (y (n + 3)), .ref (y (n + 4)), .ref (y (n + 5)), .ref (y (n + 6)), .ref (y (n + 7)), .ref (y (n + 8)), .ref (y (n + 9)), .int (f 9), .int (f 10), .int (f 11), .int (f 12)])
    else if (n - 171) % 12 = 3 ∨ (n - 171) % 12 = 8 then .inl (ct 1, 6, .inr (.inl g)) else if (n - 171) % 12 = 9 then .inr (4, [.ref (y (n + 1)), .ref (y (n + 2)), .int (f 2)])
    else if (n - 171) % 12 = 10 then .inl (ct 0, 1000, .inl f) else if (n - 171) % 12 = 11 then .inl (ct 0, 32, .inl f) else .inl (ct 0, 6, .inl f)) else
  if n = 195 then .inr (10, [.ref (y 196), .ref (y 171), .ref (y 183), .ref (y 198), .ref (y 138), .ref (y 142), .ref (y 199), .ref (y 200), .ref (y 6), .ref (y 12), .ref (y 162), .ref (y 205), .ref (y 206), .int (f 13), .int (f 14)]) else
  if n = 196 then .inr (8, [.ref (y 197), .int (f 1), .int (f 2), .int (f 3), .ref (E (zn (f 4))), .int (f 5), .long (g 6), .int (f 7)]) else
  if n = 197 then .inl (ct 2, 1000, .inl f) else
  if n = 198 then .inr (3, [.int (f 0), .int (f 1), .int (f 2)]) else
  if n = 199 then .inr (0, [.ref (y 171)]) else
  if n = 200 then .inr (9, [.ref (y 171), .ref (y 199), .ref (y 0), .ref (y 201), .ref (y 202), .ref (y 203), .ref (y 204)]) else
  if n = 201 then .inl (ct 0, 64, .inl f) else
  if n = 202 then .inl (ct 0, 6, .inl f) else
  if n = 203 then .inl (ct 0, 6, .inl f) else
  if n = 204 then .inl (ct 0, 6, .inl f) else
  if n = 205 then .inl (ct 4, 16, .inr (.inr (.inr (.inr (fun j => some (y (6 * j + 18))))))) else
  .inl (ct 5, 4, .inr (.inr (.inr (.inr (fun j => some (y (167 + j)))))))
def kW (ct : Nat → ClassId) (E y : Nat → Nat) (r : zRr) (q : zRq) : va_W := (List.range 207).map (fun n => (y n, kc ct E y n (r n) (q n)))
section KW
variable {ct : Nat → ClassId} {E y : Nat → Nat} {r : zRr} {q : zRq} {n : Nat}
theorem kWlen : (kW ct E y r q).length = 207 := by unfold kW; rw [List.length_map, List.length_range]
theorem kWat (h : n < 207) {c : va_E} (hc : kc ct E y n (r n) (q n) = c) : (kW ct E y r q)[n]? = some (y n, c) := by
  unfold kW
  rw [List.getElem?_map, List.getElem?_range h, ← hc]; rfl
theorem kWset {f : Nat → Int32} {c : va_E} (hc : kc ct E y n f (q n) = c) : (kW ct E y r q).set n (y n, c) = kW ct E y (zset r n f) q := by
  apply List.ext_getElem?
  intro k
  rw [List.getElem?_set, kWlen]
  by_cases e : n = k
  · subst e
    rw [if_pos rfl]
    by_cases h : n < 207
    · rw [if_pos h, kWat h (c := c)]
      rw [zset_eq]; exact hc
    · rw [if_neg h, List.getElem?_eq_none (by rw [kWlen]; omega)]
  · rw [if_neg e]
    by_cases h : k < 207
    · rw [kWat h rfl, kWat h (c := kc ct E y k (r k) (q k)) (by rw [zset_ne (fun e2 => e e2.symm)])]
    · rw [List.getElem?_eq_none (by rw [kWlen]; omega), List.getElem?_eq_none (by rw [kWlen]; omega)]
theorem kWsetq {f : Nat → Int64} {c : va_E} (hc : kc ct E y n (r n) f = c) : (kW ct E y r q).set n (y n, c) = kW ct E y r (zset q n f) := by
  apply List.ext_getElem?
  intro k
  rw [List.getElem?_set, kWlen]
  by_cases e : n = k
  · subst e
    rw [if_pos rfl]
    by_cases h : n < 207
    · rw [if_pos h, kWat h (c := c)]
      rw [zset_eq]; exact hc
    · rw [if_neg h, List.getElem?_eq_none (by rw [kWlen]; omega)]
  · rw [if_neg e]
    by_cases h : k < 207
    · rw [kWat h rfl, kWat h (c := kc ct E y k (r k) (q k)) (by rw [zset_ne (fun e2 => e e2.symm)])]
    · rw [List.getElem?_eq_none (by rw [kWlen]; omega), List.getElem?_eq_none (by rw [kWlen]; omega)]
theorem kWn : va_nd (List.range (kW ct E y r q).length) = true := by rw [kWlen]; decide +kernel
theorem kg0 : (kW ct E y r q)[0]? = some (y 0, .inr (7, [.ref (y 1), .ref (y 2), .ref (y 3), .ref (y 4), .ref (y 5), .int ((r 0) 5)])) := kWat (by decide) rfl
theorem ks0_5 {v : Int32} : (kW ct E y r q).set 0 (y 0, .inr (7, ([.ref (y 1), .ref (y 2), .ref (y 3), .ref (y 4), .ref (y 5), .int ((r 0) 5)] : List Value).set 5 (.int v))) = kW ct E y (zset r 0 (upd (r 0) 5 v)) q := kWset rfl
theorem kg1 : (kW ct E y r q)[1]? = some (y 1, .inl (ct 0, 6, .inl (r 1))) := kWat (by decide) rfl
theorem ks1 {f : Nat → Int32} : (kW ct E y r q).set 1 (y 1, .inl (ct 0, 6, .inl f)) = kW ct E y (zset r 1 f) q := kWset rfl
theorem kg2 : (kW ct E y r q)[2]? = some (y 2, .inl (ct 0, 6, .inl (r 2))) := kWat (by decide) rfl
theorem ks2 {f : Nat → Int32} : (kW ct E y r q).set 2 (y 2, .inl (ct 0, 6, .inl f)) = kW ct E y (zset r 2 f) q := kWset rfl
theorem kg3 : (kW ct E y r q)[3]? = some (y 3, .inl (ct 0, 6, .inl (r 3))) := kWat (by decide) rfl
theorem ks3 {f : Nat → Int32} : (kW ct E y r q).set 3 (y 3, .inl (ct 0, 6, .inl f)) = kW ct E y (zset r 3 f) q := kWset rfl
theorem kg4 : (kW ct E y r q)[4]? = some (y 4, .inl (ct 0, 6, .inl (r 4))) := kWat (by decide) rfl
theorem ks4 {f : Nat → Int32} : (kW ct E y r q).set 4 (y 4, .inl (ct 0, 6, .inl f)) = kW ct E y (zset r 4 f) q := kWset rfl
theorem kg5 : (kW ct E y r q)[5]? = some (y 5, .inl (ct 0, 6, .inl (r 5))) := kWat (by decide) rfl
theorem ks5 {f : Nat → Int32} : (kW ct E y r q).set 5 (y 5, .inl (ct 0, 6, .inl f)) = kW ct E y (zset r 5 f) q := kWset rfl
theorem kg6 : (kW ct E y r q)[6]? = some (y 6, .inr (7, [.ref (y 7), .ref (y 8), .ref (y 9), .ref (y 10), .ref (y 11), .int ((r 6) 5)])) := kWat (by decide) rfl
theorem ks6_5 {v : Int32} : (kW ct E y r q).set 6 (y 6, .inr (7, ([.ref (y 7), .ref (y 8), .ref (y 9), .ref (y 10), .ref (y 11), .int ((r 6) 5)] : List Value).set 5 (.int v))) = kW ct E y (zset r 6 (upd (r 6) 5 v)) q := kWset rfl
theorem kg7 : (kW ct E y r q)[7]? = some (y 7, .inl (ct 0, 6, .inl (r 7))) := kWat (by decide) rfl
theorem ks7 {f : Nat → Int32} : (kW ct E y r q).set 7 (y 7, .inl (ct 0, 6, .inl f)) = kW ct E y (zset r 7 f) q := kWset rfl
theorem kg8 : (kW ct E y r q)[8]? = some (y 8, .inl (ct 0, 6, .inl (r 8))) := kWat (by decide) rfl
theorem ks8 {f : Nat → Int32} : (kW ct E y r q).set 8 (y 8, .inl (ct 0, 6, .inl f)) = kW ct E y (zset r 8 f) q := kWset rfl
theorem kg9 : (kW ct E y r q)[9]? = some (y 9, .inl (ct 0, 6, .inl (r 9))) := kWat (by decide) rfl
theorem ks9 {f : Nat → Int32} : (kW ct E y r q).set 9 (y 9, .inl (ct 0, 6, .inl f)) = kW ct E y (zset r 9 f) q := kWset rfl
theorem kg10 : (kW ct E y r q)[10]? = some (y 10, .inl (ct 0, 6, .inl (r 10))) := kWat (by decide) rfl
theorem ks10 {f : Nat → Int32} : (kW ct E y r q).set 10 (y 10, .inl (ct 0, 6, .inl f)) = kW ct E y (zset r 10 f) q := kWset rfl
theorem kg11 : (kW ct E y r q)[11]? = some (y 11, .inl (ct 0, 6, .inl (r 11))) := kWat (by decide) rfl
theorem ks11 {f : Nat → Int32} : (kW ct E y r q).set 11 (y 11, .inl (ct 0, 6, .inl f)) = kW ct E y (zset r 11 f) q := kWset rfl
theorem kg12 : (kW ct E y r q)[12]? = some (y 12, .inr (7, [.ref (y 13), .ref (y 14), .ref (y 15), .ref (y 16), .ref (y 17), .int ((r 12) 5)])) := kWat (by decide) rfl
theorem ks12_5 {v : Int32} : (kW ct E y r q).set 12 (y 12, .inr (7, ([.ref (y 13), .ref (y 14), .ref (y 15), .ref (y 16), .ref (y 17), .int ((r 12) 5)] : List Value).set 5 (.int v))) = kW ct E y (zset r 12 (upd (r 12) 5 v)) q := kWset rfl
theorem kg13 : (kW ct E y r q)[13]? = some (y 13, .inl (ct 0, 6, .inl (r 13))) := kWat (by decide) rfl
theorem ks13 {f : Nat → Int32} : (kW ct E y r q).set 13 (y 13, .inl (ct 0, 6, .inl f)) = kW ct E y (zset r 13 f) q := kWset rfl
theorem kg14 : (kW ct E y r q)[14]? = some (y 14, .inl (ct 0, 6, .inl (r 14))) := kWat (by decide) rfl
theorem ks14 {f : Nat → Int32} : (kW ct E y r q).set 14 (y 14, .inl (ct 0, 6, .inl f)) = kW ct E y (zset r 14 f) q := kWset rfl
theorem kg15 : (kW ct E y r q)[15]? = some (y 15, .inl (ct 0, 6, .inl (r 15))) := kWat (by decide) rfl
theorem ks15 {f : Nat → Int32} : (kW ct E y r q).set 15 (y 15, .inl (ct 0, 6, .inl f)) = kW ct E y (zset r 15 f) q := kWset rfl
theorem kg16 : (kW ct E y r q)[16]? = some (y 16, .inl (ct 0, 6, .inl (r 16))) := kWat (by decide) rfl
theorem ks16 {f : Nat → Int32} : (kW ct E y r q).set 16 (y 16, .inl (ct 0, 6, .inl f)) = kW ct E y (zset r 16 f) q := kWset rfl
theorem kg17 : (kW ct E y r q)[17]? = some (y 17, .inl (ct 0, 6, .inl (r 17))) := kWat (by decide) rfl
theorem ks17 {f : Nat → Int32} : (kW ct E y r q).set 17 (y 17, .inl (ct 0, 6, .inl f)) = kW ct E y (zset r 17 f) q := kWset rfl
theorem kg114 : (kW ct E y r q)[114]? = some (y 114, .inr (7, [.ref (y 115), .ref (y 116), .ref (y 117), .ref (y 118), .ref (y 119), .int ((r 114) 5)])) := kWat (by decide) rfl
theorem ks114_5 {v : Int32} : (kW ct E y r q).set 114 (y 114, .inr (7, ([.ref (y 115), .ref (y 116), .ref (y 117), .ref (y 118), .ref (y 119), .int ((r 114) 5)] : List Value).set 5 (.int v))) = kW ct E y (zset r 114 (upd (r 114) 5 v)) q := kWset rfl
theorem kg115 : (kW ct E y r q)[115]? = some (y 115, .inl (ct 0, 6, .inl (r 115))) := kWat (by decide) rfl
theorem ks115 {f : Nat → Int32} : (kW ct E y r q).set 115 (y 115, .inl (ct 0, 6, .inl f)) = kW ct E y (zset r 115 f) q := kWset rfl
theorem kg116 : (kW ct E y r q)[116]? = some (y 116, .inl (ct 0, 6, .inl (r 116))) := kWat (by decide) rfl
theorem ks116 {f : Nat → Int32} : (kW ct E y r q).set 116 (y 116, .inl (ct 0, 6, .inl f)) = kW ct E y (zset r 116 f) q := kWset rfl
theorem kg117 : (kW ct E y r q)[117]? = some (y 117, .inl (ct 0, 6, .inl (r 117))) := kWat (by decide) rfl
theorem ks117 {f : Nat → Int32} : (kW ct E y r q).set 117 (y 117, .inl (ct 0, 6, .inl f)) = kW ct E y (zset r 117 f) q := kWset rfl
theorem kg118 : (kW ct E y r q)[118]? = some (y 118, .inl (ct 0, 6, .inl (r 118))) := kWat (by decide) rfl
theorem ks118 {f : Nat → Int32} : (kW ct E y r q).set 118 (y 118, .inl (ct 0, 6, .inl f)) = kW ct E y (zset r 118 f) q := kWset rfl
theorem kg119 : (kW ct E y r q)[119]? = some (y 119, .inl (ct 0, 6, .inl (r 119))) := kWat (by decide) rfl
theorem ks119 {f : Nat → Int32} : (kW ct E y r q).set 119 (y 119, .inl (ct 0, 6, .inl f)) = kW ct E y (zset r 119 f) q := kWset rfl
theorem kg120 : (kW ct E y r q)[120]? = some (y 120, .inr (7, [.ref (y 121), .ref (y 122), .ref (y 123), .ref (y 124), .ref (y 125), .int ((r 120) 5)])) := kWat (by decide) rfl
theorem ks120_5 {v : Int32} : (kW ct E y r q).set 120 (y 120, .inr (7, ([.ref (y 121), .ref (y 122), .ref (y 123), .ref (y 124), .ref (y 125), .int ((r 120) 5)] : List Value).set 5 (.int v))) = kW ct E y (zset r 120 (upd (r 120) 5 v)) q := kWset rfl
theorem kg121 : (kW ct E y r q)[121]? = some (y 121, .inl (ct 0, 6, .inl (r 121))) := kWat (by decide) rfl
theorem ks121 {f : Nat → Int32} : (kW ct E y r q).set 121 (y 121, .inl (ct 0, 6, .inl f)) = kW ct E y (zset r 121 f) q := kWset rfl
theorem kg122 : (kW ct E y r q)[122]? = some (y 122, .inl (ct 0, 6, .inl (r 122))) := kWat (by decide) rfl
theorem ks122 {f : Nat → Int32} : (kW ct E y r q).set 122 (y 122, .inl (ct 0, 6, .inl f)) = kW ct E y (zset r 122 f) q := kWset rfl
theorem kg123 : (kW ct E y r q)[123]? = some (y 123, .inl (ct 0, 6, .inl (r 123))) := kWat (by decide) rfl
theorem ks123 {f : Nat → Int32} : (kW ct E y r q).set 123 (y 123, .inl (ct 0, 6, .inl f)) = kW ct E y (zset r 123 f) q := kWset rfl
theorem kg124 : (kW ct E y r q)[124]? = some (y 124, .inl (ct 0, 6, .inl (r 124))) := kWat (by decide) rfl
theorem ks124 {f : Nat → Int32} : (kW ct E y r q).set 124 (y 124, .inl (ct 0, 6, .inl f)) = kW ct E y (zset r 124 f) q := kWset rfl
theorem kg125 : (kW ct E y r q)[125]? = some (y 125, .inl (ct 0, 6, .inl (r 125))) := kWat (by decide) rfl
theorem ks125 {f : Nat → Int32} : (kW ct E y r q).set 125 (y 125, .inl (ct 0, 6, .inl f)) = kW ct E y (zset r 125 f) q := kWset rfl
theorem kg126 : (kW ct E y r q)[126]? = some (y 126, .inr (7, [.ref (y 127), .ref (y 128), .ref (y 129), .ref (y 130), .ref (y 131), .int ((r 126) 5)])) := kWat (by decide) rfl
theorem ks126_5 {v : Int32} : (kW ct E y r q).set 126 (y 126, .inr (7, ([.ref (y 127), .ref (y 128), .ref (y 129), .ref (y 130), .ref (y 131), .int ((r 126) 5)] : List Value).set 5 (.int v))) = kW ct E y (zset r 126 (upd (r 126) 5 v)) q := kWset rfl
theorem kg127 : (kW ct E y r q)[127]? = some (y 127, .inl (ct 0, 6, .inl (r 127))) := kWat (by decide) rfl
theorem ks127 {f : Nat → Int32} : (kW ct E y r q).set 127 (y 127, .inl (ct 0, 6, .inl f)) = kW ct E y (zset r 127 f) q := kWset rfl
theorem kg128 : (kW ct E y r q)[128]? = some (y 128, .inl (ct 0, 6, .inl (r 128))) := kWat (by decide) rfl
theorem ks128 {f : Nat → Int32} : (kW ct E y r q).set 128 (y 128, .inl (ct 0, 6, .inl f)) = kW ct E y (zset r 128 f) q := kWset rfl
theorem kg129 : (kW ct E y r q)[129]? = some (y 129, .inl (ct 0, 6, .inl (r 129))) := kWat (by decide) rfl
theorem ks129 {f : Nat → Int32} : (kW ct E y r q).set 129 (y 129, .inl (ct 0, 6, .inl f)) = kW ct E y (zset r 129 f) q := kWset rfl
theorem kg130 : (kW ct E y r q)[130]? = some (y 130, .inl (ct 0, 6, .inl (r 130))) := kWat (by decide) rfl
theorem ks130 {f : Nat → Int32} : (kW ct E y r q).set 130 (y 130, .inl (ct 0, 6, .inl f)) = kW ct E y (zset r 130 f) q := kWset rfl
theorem kg131 : (kW ct E y r q)[131]? = some (y 131, .inl (ct 0, 6, .inl (r 131))) := kWat (by decide) rfl
theorem ks131 {f : Nat → Int32} : (kW ct E y r q).set 131 (y 131, .inl (ct 0, 6, .inl f)) = kW ct E y (zset r 131 f) q := kWset rfl
theorem kg132 : (kW ct E y r q)[132]? = some (y 132, .inr (7, [.ref (y 133), .ref (y 134), .ref (y 135), .ref (y 136), .ref (y 137), .int ((r 132) 5)])) := kWat (by decide) rfl
theorem ks132_5 {v : Int32} : (kW ct E y r q).set 132 (y 132, .inr (7, ([.ref (y 133), .ref (y 134), .ref (y 135), .ref (y 136), .ref (y 137), .int ((r 132) 5)] : List Value).set 5 (.int v))) = kW ct E y (zset r 132 (upd (r 132) 5 v)) q := kWset rfl
theorem kg133 : (kW ct E y r q)[133]? = some (y 133, .inl (ct 0, 6, .inl (r 133))) := kWat (by decide) rfl
theorem ks133 {f : Nat → Int32} : (kW ct E y r q).set 133 (y 133, .inl (ct 0, 6, .inl f)) = kW ct E y (zset r 133 f) q := kWset rfl
theorem kg134 : (kW ct E y r q)[134]? = some (y 134, .inl (ct 0, 6, .inl (r 134))) := kWat (by decide) rfl
theorem ks134 {f : Nat → Int32} : (kW ct E y r q).set 134 (y 134, .inl (ct 0, 6, .inl f)) = kW ct E y (zset r 134 f) q := kWset rfl
theorem kg135 : (kW ct E y r q)[135]? = some (y 135, .inl (ct 0, 6, .inl (r 135))) := kWat (by decide) rfl
theorem ks135 {f : Nat → Int32} : (kW ct E y r q).set 135 (y 135, .inl (ct 0, 6, .inl f)) = kW ct E y (zset r 135 f) q := kWset rfl
theorem kg136 : (kW ct E y r q)[136]? = some (y 136, .inl (ct 0, 6, .inl (r 136))) := kWat (by decide) rfl
theorem ks136 {f : Nat → Int32} : (kW ct E y r q).set 136 (y 136, .inl (ct 0, 6, .inl f)) = kW ct E y (zset r 136 f) q := kWset rfl
theorem kg137 : (kW ct E y r q)[137]? = some (y 137, .inl (ct 0, 6, .inl (r 137))) := kWat (by decide) rfl
theorem ks137 {f : Nat → Int32} : (kW ct E y r q).set 137 (y 137, .inl (ct 0, 6, .inl f)) = kW ct E y (zset r 137 f) q := kWset rfl
theorem kg138 : (kW ct E y r q)[138]? = some (y 138, .inr (1, [.ref (y 139), .ref (y 140), .ref (y 141), .int ((r 138) 3)])) := kWat (by decide) rfl
theorem ks138_3 {v : Int32} : (kW ct E y r q).set 138 (y 138, .inr (1, ([.ref (y 139), .ref (y 140), .ref (y 141), .int ((r 138) 3)] : List Value).set 3 (.int v))) = kW ct E y (zset r 138 (upd (r 138) 3 v)) q := kWset rfl
theorem kg139 : (kW ct E y r q)[139]? = some (y 139, .inl (ct 0, 40, .inl (r 139))) := kWat (by decide) rfl
theorem ks139 {f : Nat → Int32} : (kW ct E y r q).set 139 (y 139, .inl (ct 0, 40, .inl f)) = kW ct E y (zset r 139 f) q := kWset rfl
theorem kg140 : (kW ct E y r q)[140]? = some (y 140, .inl (ct 0, 40, .inl (r 140))) := kWat (by decide) rfl
theorem ks140 {f : Nat → Int32} : (kW ct E y r q).set 140 (y 140, .inl (ct 0, 40, .inl f)) = kW ct E y (zset r 140 f) q := kWset rfl
theorem kg141 : (kW ct E y r q)[141]? = some (y 141, .inl (ct 0, 40, .inl (r 141))) := kWat (by decide) rfl
theorem ks141 {f : Nat → Int32} : (kW ct E y r q).set 141 (y 141, .inl (ct 0, 40, .inl f)) = kW ct E y (zset r 141 f) q := kWset rfl
theorem kg142 : (kW ct E y r q)[142]? = some (y 142, .inr (1, [.ref (y 143), .ref (y 144), .ref (y 145), .int ((r 142) 3)])) := kWat (by decide) rfl
theorem ks142_3 {v : Int32} : (kW ct E y r q).set 142 (y 142, .inr (1, ([.ref (y 143), .ref (y 144), .ref (y 145), .int ((r 142) 3)] : List Value).set 3 (.int v))) = kW ct E y (zset r 142 (upd (r 142) 3 v)) q := kWset rfl
theorem kg143 : (kW ct E y r q)[143]? = some (y 143, .inl (ct 0, 40, .inl (r 143))) := kWat (by decide) rfl
theorem ks143 {f : Nat → Int32} : (kW ct E y r q).set 143 (y 143, .inl (ct 0, 40, .inl f)) = kW ct E y (zset r 143 f) q := kWset rfl
theorem kg144 : (kW ct E y r q)[144]? = some (y 144, .inl (ct 0, 40, .inl (r 144))) := kWat (by decide) rfl
theorem ks144 {f : Nat → Int32} : (kW ct E y r q).set 144 (y 144, .inl (ct 0, 40, .inl f)) = kW ct E y (zset r 144 f) q := kWset rfl
theorem kg145 : (kW ct E y r q)[145]? = some (y 145, .inl (ct 0, 40, .inl (r 145))) := kWat (by decide) rfl
theorem ks145 {f : Nat → Int32} : (kW ct E y r q).set 145 (y 145, .inl (ct 0, 40, .inl f)) = kW ct E y (zset r 145 f) q := kWset rfl
theorem kg146 : (kW ct E y r q)[146]? = some (y 146, .inr (1, [.ref (y 147), .ref (y 148), .ref (y 149), .int ((r 146) 3)])) := kWat (by decide) rfl
theorem ks146_3 {v : Int32} : (kW ct E y r q).set 146 (y 146, .inr (1, ([.ref (y 147), .ref (y 148), .ref (y 149), .int ((r 146) 3)] : List Value).set 3 (.int v))) = kW ct E y (zset r 146 (upd (r 146) 3 v)) q := kWset rfl
theorem kg147 : (kW ct E y r q)[147]? = some (y 147, .inl (ct 0, 40, .inl (r 147))) := kWat (by decide) rfl
theorem ks147 {f : Nat → Int32} : (kW ct E y r q).set 147 (y 147, .inl (ct 0, 40, .inl f)) = kW ct E y (zset r 147 f) q := kWset rfl
theorem kg148 : (kW ct E y r q)[148]? = some (y 148, .inl (ct 0, 40, .inl (r 148))) := kWat (by decide) rfl
theorem ks148 {f : Nat → Int32} : (kW ct E y r q).set 148 (y 148, .inl (ct 0, 40, .inl f)) = kW ct E y (zset r 148 f) q := kWset rfl
theorem kg149 : (kW ct E y r q)[149]? = some (y 149, .inl (ct 0, 40, .inl (r 149))) := kWat (by decide) rfl
theorem ks149 {f : Nat → Int32} : (kW ct E y r q).set 149 (y 149, .inl (ct 0, 40, .inl f)) = kW ct E y (zset r 149 f) q := kWset rfl
theorem kg150 : (kW ct E y r q)[150]? = some (y 150, .inr (1, [.ref (y 151), .ref (y 152), .ref (y 153), .int ((r 150) 3)])) := kWat (by decide) rfl
theorem ks150_3 {v : Int32} : (kW ct E y r q).set 150 (y 150, .inr (1, ([.ref (y 151), .ref (y 152), .ref (y 153), .int ((r 150) 3)] : List Value).set 3 (.int v))) = kW ct E y (zset r 150 (upd (r 150) 3 v)) q := kWset rfl
theorem kg151 : (kW ct E y r q)[151]? = some (y 151, .inl (ct 0, 40, .inl (r 151))) := kWat (by decide) rfl
theorem ks151 {f : Nat → Int32} : (kW ct E y r q).set 151 (y 151, .inl (ct 0, 40, .inl f)) = kW ct E y (zset r 151 f) q := kWset rfl
theorem kg152 : (kW ct E y r q)[152]? = some (y 152, .inl (ct 0, 40, .inl (r 152))) := kWat (by decide) rfl
theorem ks152 {f : Nat → Int32} : (kW ct E y r q).set 152 (y 152, .inl (ct 0, 40, .inl f)) = kW ct E y (zset r 152 f) q := kWset rfl
theorem kg153 : (kW ct E y r q)[153]? = some (y 153, .inl (ct 0, 40, .inl (r 153))) := kWat (by decide) rfl
theorem ks153 {f : Nat → Int32} : (kW ct E y r q).set 153 (y 153, .inl (ct 0, 40, .inl f)) = kW ct E y (zset r 153 f) q := kWset rfl
theorem kg154 : (kW ct E y r q)[154]? = some (y 154, .inr (1, [.ref (y 155), .ref (y 156), .ref (y 157), .int ((r 154) 3)])) := kWat (by decide) rfl
theorem ks154_3 {v : Int32} : (kW ct E y r q).set 154 (y 154, .inr (1, ([.ref (y 155), .ref (y 156), .ref (y 157), .int ((r 154) 3)] : List Value).set 3 (.int v))) = kW ct E y (zset r 154 (upd (r 154) 3 v)) q := kWset rfl
theorem kg155 : (kW ct E y r q)[155]? = some (y 155, .inl (ct 0, 40, .inl (r 155))) := kWat (by decide) rfl
theorem ks155 {f : Nat → Int32} : (kW ct E y r q).set 155 (y 155, .inl (ct 0, 40, .inl f)) = kW ct E y (zset r 155 f) q := kWset rfl
theorem kg156 : (kW ct E y r q)[156]? = some (y 156, .inl (ct 0, 40, .inl (r 156))) := kWat (by decide) rfl
theorem ks156 {f : Nat → Int32} : (kW ct E y r q).set 156 (y 156, .inl (ct 0, 40, .inl f)) = kW ct E y (zset r 156 f) q := kWset rfl
theorem kg157 : (kW ct E y r q)[157]? = some (y 157, .inl (ct 0, 40, .inl (r 157))) := kWat (by decide) rfl
theorem ks157 {f : Nat → Int32} : (kW ct E y r q).set 157 (y 157, .inl (ct 0, 40, .inl f)) = kW ct E y (zset r 157 f) q := kWset rfl
theorem kg158 : (kW ct E y r q)[158]? = some (y 158, .inr (1, [.ref (y 159), .ref (y 160), .ref (y 161), .int ((r 158) 3)])) := kWat (by decide) rfl
theorem ks158_3 {v : Int32} : (kW ct E y r q).set 158 (y 158, .inr (1, ([.ref (y 159), .ref (y 160), .ref (y 161), .int ((r 158) 3)] : List Value).set 3 (.int v))) = kW ct E y (zset r 158 (upd (r 158) 3 v)) q := kWset rfl
theorem kg159 : (kW ct E y r q)[159]? = some (y 159, .inl (ct 0, 40, .inl (r 159))) := kWat (by decide) rfl
theorem ks159 {f : Nat → Int32} : (kW ct E y r q).set 159 (y 159, .inl (ct 0, 40, .inl f)) = kW ct E y (zset r 159 f) q := kWset rfl
theorem kg160 : (kW ct E y r q)[160]? = some (y 160, .inl (ct 0, 40, .inl (r 160))) := kWat (by decide) rfl
theorem ks160 {f : Nat → Int32} : (kW ct E y r q).set 160 (y 160, .inl (ct 0, 40, .inl f)) = kW ct E y (zset r 160 f) q := kWset rfl
theorem kg161 : (kW ct E y r q)[161]? = some (y 161, .inl (ct 0, 40, .inl (r 161))) := kWat (by decide) rfl
theorem ks161 {f : Nat → Int32} : (kW ct E y r q).set 161 (y 161, .inl (ct 0, 40, .inl f)) = kW ct E y (zset r 161 f) q := kWset rfl
theorem kg162 : (kW ct E y r q)[162]? = some (y 162, .inr (6, [.int ((r 162) 0), .int ((r 162) 1)])) := kWat (by decide) rfl
theorem ks162_0 {v : Int32} : (kW ct E y r q).set 162 (y 162, .inr (6, ([.int ((r 162) 0), .int ((r 162) 1)] : List Value).set 0 (.int v))) = kW ct E y (zset r 162 (upd (r 162) 0 v)) q := kWset rfl
theorem ks162_1 {v : Int32} : (kW ct E y r q).set 162 (y 162, .inr (6, ([.int ((r 162) 0), .int ((r 162) 1)] : List Value).set 1 (.int v))) = kW ct E y (zset r 162 (upd (r 162) 1 v)) q := kWset rfl
theorem kg163 : (kW ct E y r q)[163]? = some (y 163, .inr (6, [.int ((r 163) 0), .int ((r 163) 1)])) := kWat (by decide) rfl
theorem ks163_0 {v : Int32} : (kW ct E y r q).set 163 (y 163, .inr (6, ([.int ((r 163) 0), .int ((r 163) 1)] : List Value).set 0 (.int v))) = kW ct E y (zset r 163 (upd (r 163) 0 v)) q := kWset rfl
theorem ks163_1 {v : Int32} : (kW ct E y r q).set 163 (y 163, .inr (6, ([.int ((r 163) 0), .int ((r 163) 1)] : List Value).set 1 (.int v))) = kW ct E y (zset r 163 (upd (r 163) 1 v)) q := kWset rfl
theorem kg164 : (kW ct E y r q)[164]? = some (y 164, .inr (6, [.int ((r 164) 0), .int ((r 164) 1)])) := kWat (by decide) rfl
theorem ks164_0 {v : Int32} : (kW ct E y r q).set 164 (y 164, .inr (6, ([.int ((r 164) 0), .int ((r 164) 1)] : List Value).set 0 (.int v))) = kW ct E y (zset r 164 (upd (r 164) 0 v)) q := kWset rfl
theorem ks164_1 {v : Int32} : (kW ct E y r q).set 164 (y 164, .inr (6, ([.int ((r 164) 0), .int ((r 164) 1)] : List Value).set 1 (.int v))) = kW ct E y (zset r 164 (upd (r 164) 1 v)) q := kWset rfl
theorem kg165 : (kW ct E y r q)[165]? = some (y 165, .inr (6, [.int ((r 165) 0), .int ((r 165) 1)])) := kWat (by decide) rfl
theorem ks165_0 {v : Int32} : (kW ct E y r q).set 165 (y 165, .inr (6, ([.int ((r 165) 0), .int ((r 165) 1)] : List Value).set 0 (.int v))) = kW ct E y (zset r 165 (upd (r 165) 0 v)) q := kWset rfl
theorem ks165_1 {v : Int32} : (kW ct E y r q).set 165 (y 165, .inr (6, ([.int ((r 165) 0), .int ((r 165) 1)] : List Value).set 1 (.int v))) = kW ct E y (zset r 165 (upd (r 165) 1 v)) q := kWset rfl
theorem kg166 : (kW ct E y r q)[166]? = some (y 166, .inr (6, [.int ((r 166) 0), .int ((r 166) 1)])) := kWat (by decide) rfl
theorem ks166_0 {v : Int32} : (kW ct E y r q).set 166 (y 166, .inr (6, ([.int ((r 166) 0), .int ((r 166) 1)] : List Value).set 0 (.int v))) = kW ct E y (zset r 166 (upd (r 166) 0 v)) q := kWset rfl
theorem ks166_1 {v : Int32} : (kW ct E y r q).set 166 (y 166, .inr (6, ([.int ((r 166) 0), .int ((r 166) 1)] : List Value).set 1 (.int v))) = kW ct E y (zset r 166 (upd (r 166) 1 v)) q := kWset rfl
theorem kg167 : (kW ct E y r q)[167]? = some (y 167, .inr (5, [.ref (y 114), .ref (y 146), .ref (y 163), .int ((r 167) 3)])) := kWat (by decide) rfl
theorem ks167_3 {v : Int32} : (kW ct E y r q).set 167 (y 167, .inr (5, ([.ref (y 114), .ref (y 146), .ref (y 163), .int ((r 167) 3)] : List Value).set 3 (.int v))) = kW ct E y (zset r 167 (upd (r 167) 3 v)) q := kWset rfl
theorem kg168 : (kW ct E y r q)[168]? = some (y 168, .inr (5, [.ref (y 120), .ref (y 150), .ref (y 164), .int ((r 168) 3)])) := kWat (by decide) rfl
theorem ks168_3 {v : Int32} : (kW ct E y r q).set 168 (y 168, .inr (5, ([.ref (y 120), .ref (y 150), .ref (y 164), .int ((r 168) 3)] : List Value).set 3 (.int v))) = kW ct E y (zset r 168 (upd (r 168) 3 v)) q := kWset rfl
theorem kg169 : (kW ct E y r q)[169]? = some (y 169, .inr (5, [.ref (y 126), .ref (y 154), .ref (y 165), .int ((r 169) 3)])) := kWat (by decide) rfl
theorem ks169_3 {v : Int32} : (kW ct E y r q).set 169 (y 169, .inr (5, ([.ref (y 126), .ref (y 154), .ref (y 165), .int ((r 169) 3)] : List Value).set 3 (.int v))) = kW ct E y (zset r 169 (upd (r 169) 3 v)) q := kWset rfl
theorem kg170 : (kW ct E y r q)[170]? = some (y 170, .inr (5, [.ref (y 132), .ref (y 158), .ref (y 166), .int ((r 170) 3)])) := kWat (by decide) rfl
theorem ks170_3 {v : Int32} : (kW ct E y r q).set 170 (y 170, .inr (5, ([.ref (y 132), .ref (y 158), .ref (y 166), .int ((r 170) 3)] : List Value).set 3 (.int v))) = kW ct E y (zset r 170 (upd (r 170) 3 v)) q := kWset rfl
theorem kg171 : (kW ct E y r q)[171]? = some (y 171, .inr (2, [.ref (y 172), .ref (y 173), .ref (y 174), .ref (y 175), .ref (y 176), .ref (y 177), .ref (y 178), .ref (y 179), .ref (y 180), .int ((r 171) 9), .int ((r 171) 10), .int ((r 171) 11), .int ((r 171) 12)])) := kWat (by decide) rfl
theorem ks171_9 {v : Int32} : (kW ct E y r q).set 171 (y 171, .inr (2, ([.ref (y 172), .ref (y 173), .ref (y 174), .ref (y 175), .ref (y 176), .ref (y 177), .ref (y 178), .ref (y 179), .ref (y 180), .int ((r 171) 9), .int ((r 171) 10), .int ((r 171) 11), .int ((r 171) 12)] : List Value).set 9 (.int v))) = kW ct E y (zset r 171 (upd (r 171) 9 v)) q := kWset rfl
theorem ks171_10 {v : Int32} : (kW ct E y r q).set 171 (y 171, .inr (2, ([.ref (y 172), .ref (y 173), .ref (y 174), .ref (y 175), .ref (y 176), .ref (y 177), .ref (y 178), .ref (y 179), .ref (y 180), .int ((r 171) 9), .int ((r 171) 10), .int ((r 171) 11), .int ((r 171) 12)] : List Value).set 10 (.int v))) = kW ct E y (zset r 171 (upd (r 171) 10 v)) q := kWset rfl
theorem ks171_11 {v : Int32} : (kW ct E y r q).set 171 (y 171, .inr (2, ([.ref (y 172), .ref (y 173), .ref (y 174), .ref (y 175), .ref (y 176), .ref (y 177), .ref (y 178), .ref (y 179), .ref (y 180), .int ((r 171) 9), .int ((r 171) 10), .int ((r 171) 11), .int ((r 171) 12)] : List Value).set 11 (.int v))) = kW ct E y (zset r 171 (upd (r 171) 11 v)) q := kWset rfl
theorem ks171_12 {v : Int32} : (kW ct E y r q).set 171 (y 171, .inr (2, ([.ref (y 172), .ref (y 173), .ref (y 174), .ref (y 175), .ref (y 176), .ref (y 177), .ref (y 178), .ref (y 179), .ref (y 180), .int ((r 171) 9), .int ((r 171) 10), .int ((r 171) 11), .int ((r 171) 12)] : List Value).set 12 (.int v))) = kW ct E y (zset r 171 (upd (r 171) 12 v)) q := kWset rfl
theorem kg172 : (kW ct E y r q)[172]? = some (y 172, .inl (ct 0, 6, .inl (r 172))) := kWat (by decide) rfl
theorem ks172 {f : Nat → Int32} : (kW ct E y r q).set 172 (y 172, .inl (ct 0, 6, .inl f)) = kW ct E y (zset r 172 f) q := kWset rfl
theorem kg173 : (kW ct E y r q)[173]? = some (y 173, .inl (ct 0, 6, .inl (r 173))) := kWat (by decide) rfl
theorem ks173 {f : Nat → Int32} : (kW ct E y r q).set 173 (y 173, .inl (ct 0, 6, .inl f)) = kW ct E y (zset r 173 f) q := kWset rfl
theorem kg174 : (kW ct E y r q)[174]? = some (y 174, .inl (ct 1, 6, .inr (.inl (q 174)))) := kWat (by decide) rfl
theorem ks174 {f : Nat → Int64} : (kW ct E y r q).set 174 (y 174, .inl (ct 1, 6, .inr (.inl f))) = kW ct E y r (zset q 174 f) := kWsetq rfl
theorem kg175 : (kW ct E y r q)[175]? = some (y 175, .inl (ct 0, 6, .inl (r 175))) := kWat (by decide) rfl
theorem ks175 {f : Nat → Int32} : (kW ct E y r q).set 175 (y 175, .inl (ct 0, 6, .inl f)) = kW ct E y (zset r 175 f) q := kWset rfl
theorem kg176 : (kW ct E y r q)[176]? = some (y 176, .inl (ct 0, 6, .inl (r 176))) := kWat (by decide) rfl
theorem ks176 {f : Nat → Int32} : (kW ct E y r q).set 176 (y 176, .inl (ct 0, 6, .inl f)) = kW ct E y (zset r 176 f) q := kWset rfl
theorem kg177 : (kW ct E y r q)[177]? = some (y 177, .inl (ct 0, 6, .inl (r 177))) := kWat (by decide) rfl
theorem ks177 {f : Nat → Int32} : (kW ct E y r q).set 177 (y 177, .inl (ct 0, 6, .inl f)) = kW ct E y (zset r 177 f) q := kWset rfl
theorem kg178 : (kW ct E y r q)[178]? = some (y 178, .inl (ct 0, 6, .inl (r 178))) := kWat (by decide) rfl
theorem ks178 {f : Nat → Int32} : (kW ct E y r q).set 178 (y 178, .inl (ct 0, 6, .inl f)) = kW ct E y (zset r 178 f) q := kWset rfl
theorem kg179 : (kW ct E y r q)[179]? = some (y 179, .inl (ct 1, 6, .inr (.inl (q 179)))) := kWat (by decide) rfl
theorem ks179 {f : Nat → Int64} : (kW ct E y r q).set 179 (y 179, .inl (ct 1, 6, .inr (.inl f))) = kW ct E y r (zset q 179 f) := kWsetq rfl
theorem kg180 : (kW ct E y r q)[180]? = some (y 180, .inr (4, [.ref (y 181), .ref (y 182), .int ((r 180) 2)])) := kWat (by decide) rfl
theorem ks180_2 {v : Int32} : (kW ct E y r q).set 180 (y 180, .inr (4, ([.ref (y 181), .ref (y 182), .int ((r 180) 2)] : List Value).set 2 (.int v))) = kW ct E y (zset r 180 (upd (r 180) 2 v)) q := kWset rfl
theorem kg181 : (kW ct E y r q)[181]? = some (y 181, .inl (ct 0, 1000, .inl (r 181))) := kWat (by decide) rfl
theorem ks181 {f : Nat → Int32} : (kW ct E y r q).set 181 (y 181, .inl (ct 0, 1000, .inl f)) = kW ct E y (zset r 181 f) q := kWset rfl
theorem kg182 : (kW ct E y r q)[182]? = some (y 182, .inl (ct 0, 32, .inl (r 182))) := kWat (by decide) rfl
theorem ks182 {f : Nat → Int32} : (kW ct E y r q).set 182 (y 182, .inl (ct 0, 32, .inl f)) = kW ct E y (zset r 182 f) q := kWset rfl
theorem kg183 : (kW ct E y r q)[183]? = some (y 183, .inr (2, [.ref (y 184), .ref (y 185), .ref (y 186), .ref (y 187), .ref (y 188), .ref (y 189), .ref (y 190), .ref (y 191), .ref (y 192), .int ((r 183) 9), .int ((r 183) 10), .int ((r 183) 11), .int ((r 183) 12)])) := kWat (by decide) rfl
theorem ks183_9 {v : Int32} : (kW ct E y r q).set 183 (y 183, .inr (2, ([.ref (y 184), .ref (y 185), .ref (y 186), .ref (y 187), .ref (y 188), .ref (y 189), .ref (y 190), .ref (y 191), .ref (y 192), .int ((r 183) 9), .int ((r 183) 10), .int ((r 183) 11), .int ((r 183) 12)] : List Value).set 9 (.int v))) = kW ct E y (zset r 183 (upd (r 183) 9 v)) q := kWset rfl
theorem ks183_10 {v : Int32} : (kW ct E y r q).set 183 (y 183, .inr (2, ([.ref (y 184), .ref (y 185), .ref (y 186), .ref (y 187), .ref (y 188), .ref (y 189), .ref (y 190), .ref (y 191), .ref (y 192), .int ((r 183) 9), .int ((r 183) 10), .int ((r 183) 11), .int ((r 183) 12)] : List Value).set 10 (.int v))) = kW ct E y (zset r 183 (upd (r 183) 10 v)) q := kWset rfl
theorem ks183_11 {v : Int32} : (kW ct E y r q).set 183 (y 183, .inr (2, ([.ref (y 184), .ref (y 185), .ref (y 186), .ref (y 187), .ref (y 188), .ref (y 189), .ref (y 190), .ref (y 191), .ref (y 192), .int ((r 183) 9), .int ((r 183) 10), .int ((r 183) 11), .int ((r 183) 12)] : List Value).set 11 (.int v))) = kW ct E y (zset r 183 (upd (r 183) 11 v)) q := kWset rfl
theorem ks183_12 {v : Int32} : (kW ct E y r q).set 183 (y 183, .inr (2, ([.ref (y 184), .ref (y 185), .ref (y 186), .ref (y 187), .ref (y 188), .ref (y 189), .ref (y 190), .ref (y 191), .ref (y 192), .int ((r 183) 9), .int ((r 183) 10), .int ((r 183) 11), .int ((r 183) 12)] : List Value).set 12 (.int v))) = kW ct E y (zset r 183 (upd (r 183) 12 v)) q := kWset rfl
theorem kg184 : (kW ct E y r q)[184]? = some (y 184, .inl (ct 0, 6, .inl (r 184))) := kWat (by decide) rfl
theorem ks184 {f : Nat → Int32} : (kW ct E y r q).set 184 (y 184, .inl (ct 0, 6, .inl f)) = kW ct E y (zset r 184 f) q := kWset rfl
theorem kg185 : (kW ct E y r q)[185]? = some (y 185, .inl (ct 0, 6, .inl (r 185))) := kWat (by decide) rfl
theorem ks185 {f : Nat → Int32} : (kW ct E y r q).set 185 (y 185, .inl (ct 0, 6, .inl f)) = kW ct E y (zset r 185 f) q := kWset rfl
theorem kg186 : (kW ct E y r q)[186]? = some (y 186, .inl (ct 1, 6, .inr (.inl (q 186)))) := kWat (by decide) rfl
theorem ks186 {f : Nat → Int64} : (kW ct E y r q).set 186 (y 186, .inl (ct 1, 6, .inr (.inl f))) = kW ct E y r (zset q 186 f) := kWsetq rfl
theorem kg187 : (kW ct E y r q)[187]? = some (y 187, .inl (ct 0, 6, .inl (r 187))) := kWat (by decide) rfl
theorem ks187 {f : Nat → Int32} : (kW ct E y r q).set 187 (y 187, .inl (ct 0, 6, .inl f)) = kW ct E y (zset r 187 f) q := kWset rfl
theorem kg188 : (kW ct E y r q)[188]? = some (y 188, .inl (ct 0, 6, .inl (r 188))) := kWat (by decide) rfl
theorem ks188 {f : Nat → Int32} : (kW ct E y r q).set 188 (y 188, .inl (ct 0, 6, .inl f)) = kW ct E y (zset r 188 f) q := kWset rfl
theorem kg189 : (kW ct E y r q)[189]? = some (y 189, .inl (ct 0, 6, .inl (r 189))) := kWat (by decide) rfl
theorem ks189 {f : Nat → Int32} : (kW ct E y r q).set 189 (y 189, .inl (ct 0, 6, .inl f)) = kW ct E y (zset r 189 f) q := kWset rfl
theorem kg190 : (kW ct E y r q)[190]? = some (y 190, .inl (ct 0, 6, .inl (r 190))) := kWat (by decide) rfl
theorem ks190 {f : Nat → Int32} : (kW ct E y r q).set 190 (y 190, .inl (ct 0, 6, .inl f)) = kW ct E y (zset r 190 f) q := kWset rfl
theorem kg191 : (kW ct E y r q)[191]? = some (y 191, .inl (ct 1, 6, .inr (.inl (q 191)))) := kWat (by decide) rfl
theorem ks191 {f : Nat → Int64} : (kW ct E y r q).set 191 (y 191, .inl (ct 1, 6, .inr (.inl f))) = kW ct E y r (zset q 191 f) := kWsetq rfl
theorem kg192 : (kW ct E y r q)[192]? = some (y 192, .inr (4, [.ref (y 193), .ref (y 194), .int ((r 192) 2)])) := kWat (by decide) rfl
theorem ks192_2 {v : Int32} : (kW ct E y r q).set 192 (y 192, .inr (4, ([.ref (y 193), .ref (y 194), .int ((r 192) 2)] : List Value).set 2 (.int v))) = kW ct E y (zset r 192 (upd (r 192) 2 v)) q := kWset rfl
theorem kg193 : (kW ct E y r q)[193]? = some (y 193, .inl (ct 0, 1000, .inl (r 193))) := kWat (by decide) rfl
theorem ks193 {f : Nat → Int32} : (kW ct E y r q).set 193 (y 193, .inl (ct 0, 1000, .inl f)) = kW ct E y (zset r 193 f) q := kWset rfl
theorem kg194 : (kW ct E y r q)[194]? = some (y 194, .inl (ct 0, 32, .inl (r 194))) := kWat (by decide) rfl
theorem ks194 {f : Nat → Int32} : (kW ct E y r q).set 194 (y 194, .inl (ct 0, 32, .inl f)) = kW ct E y (zset r 194 f) q := kWset rfl
theorem kg195 : (kW ct E y r q)[195]? = some (y 195, .inr (10, [.ref (y 196), .ref (y 171), .ref (y 183), .ref (y 198), .ref (y 138), .ref (y 142), .ref (y 199), .ref (y 200), .ref (y 6), .ref (y 12), .ref (y 162), .ref (y 205), .ref (y 206), .int ((r 195) 13), .int ((r 195) 14)])) := kWat (by decide) rfl
theorem ks195_13 {v : Int32} : (kW ct E y r q).set 195 (y 195, .inr (10, ([.ref (y 196), .ref (y 171), .ref (y 183), .ref (y 198), .ref (y 138), .ref (y 142), .ref (y 199), .ref (y 200), .ref (y 6), .ref (y 12), .ref (y 162), .ref (y 205), .ref (y 206), .int ((r 195) 13), .int ((r 195) 14)] : List Value).set 13 (.int v))) = kW ct E y (zset r 195 (upd (r 195) 13 v)) q := kWset rfl
theorem ks195_14 {v : Int32} : (kW ct E y r q).set 195 (y 195, .inr (10, ([.ref (y 196), .ref (y 171), .ref (y 183), .ref (y 198), .ref (y 138), .ref (y 142), .ref (y 199), .ref (y 200), .ref (y 6), .ref (y 12), .ref (y 162), .ref (y 205), .ref (y 206), .int ((r 195) 13), .int ((r 195) 14)] : List Value).set 14 (.int v))) = kW ct E y (zset r 195 (upd (r 195) 14 v)) q := kWset rfl
theorem kg196 : (kW ct E y r q)[196]? = some (y 196, .inr (8, [.ref (y 197), .int ((r 196) 1), .int ((r 196) 2), .int ((r 196) 3), .ref (E (zn ((r 196) 4))), .int ((r 196) 5), .long ((q 196) 6), .int ((r 196) 7)])) := kWat (by decide) rfl
theorem ks196_1 {v : Int32} : (kW ct E y r q).set 196 (y 196, .inr (8, ([.ref (y 197), .int ((r 196) 1), .int ((r 196) 2), .int ((r 196) 3), .ref (E (zn ((r 196) 4))), .int ((r 196) 5), .long ((q 196) 6), .int ((r 196) 7)] : List Value).set 1 (.int v))) = kW ct E y (zset r 196 (upd (r 196) 1 v)) q := kWset rfl
theorem ks196_2 {v : Int32} : (kW ct E y r q).set 196 (y 196, .inr (8, ([.ref (y 197), .int ((r 196) 1), .int ((r 196) 2), .int ((r 196) 3), .ref (E (zn ((r 196) 4))), .int ((r 196) 5), .long ((q 196) 6), .int ((r 196) 7)] : List Value).set 2 (.int v))) = kW ct E y (zset r 196 (upd (r 196) 2 v)) q := kWset rfl
theorem ks196_3 {v : Int32} : (kW ct E y r q).set 196 (y 196, .inr (8, ([.ref (y 197), .int ((r 196) 1), .int ((r 196) 2), .int ((r 196) 3), .ref (E (zn ((r 196) 4))), .int ((r 196) 5), .long ((q 196) 6), .int ((r 196) 7)] : List Value).set 3 (.int v))) = kW ct E y (zset r 196 (upd (r 196) 3 v)) q := kWset rfl
theorem ks196_4 {v : Int32} : (kW ct E y r q).set 196 (y 196, .inr (8, ([.ref (y 197), .int ((r 196) 1), .int ((r 196) 2), .int ((r 196) 3), .ref (E (zn ((r 196) 4))), .int ((r 196) 5), .long ((q 196) 6), .int ((r 196) 7)] : List Value).set 4 (.ref (E (zn v))))) = kW ct E y (zset r 196 (upd (r 196) 4 v)) q := kWset rfl
theorem ks196_5 {v : Int32} : (kW ct E y r q).set 196 (y 196, .inr (8, ([.ref (y 197), .int ((r 196) 1), .int ((r 196) 2), .int ((r 196) 3), .ref (E (zn ((r 196) 4))), .int ((r 196) 5), .long ((q 196) 6), .int ((r 196) 7)] : List Value).set 5 (.int v))) = kW ct E y (zset r 196 (upd (r 196) 5 v)) q := kWset rfl
theorem ks196_6 {v : Int64} : (kW ct E y r q).set 196 (y 196, .inr (8, ([.ref (y 197), .int ((r 196) 1), .int ((r 196) 2), .int ((r 196) 3), .ref (E (zn ((r 196) 4))), .int ((r 196) 5), .long ((q 196) 6), .int ((r 196) 7)] : List Value).set 6 (.long v))) = kW ct E y r (zset q 196 (vp_updL (q 196) 6 v)) := kWsetq rfl
theorem ks196_7 {v : Int32} : (kW ct E y r q).set 196 (y 196, .inr (8, ([.ref (y 197), .int ((r 196) 1), .int ((r 196) 2), .int ((r 196) 3), .ref (E (zn ((r 196) 4))), .int ((r 196) 5), .long ((q 196) 6), .int ((r 196) 7)] : List Value).set 7 (.int v))) = kW ct E y (zset r 196 (upd (r 196) 7 v)) q := kWset rfl
theorem kg197 : (kW ct E y r q)[197]? = some (y 197, .inl (ct 2, 1000, .inl (r 197))) := kWat (by decide) rfl
theorem ks197 {f : Nat → Int32} : (kW ct E y r q).set 197 (y 197, .inl (ct 2, 1000, .inl f)) = kW ct E y (zset r 197 f) q := kWset rfl
theorem kg198 : (kW ct E y r q)[198]? = some (y 198, .inr (3, [.int ((r 198) 0), .int ((r 198) 1), .int ((r 198) 2)])) := kWat (by decide) rfl
theorem ks198_0 {v : Int32} : (kW ct E y r q).set 198 (y 198, .inr (3, ([.int ((r 198) 0), .int ((r 198) 1), .int ((r 198) 2)] : List Value).set 0 (.int v))) = kW ct E y (zset r 198 (upd (r 198) 0 v)) q := kWset rfl
theorem ks198_1 {v : Int32} : (kW ct E y r q).set 198 (y 198, .inr (3, ([.int ((r 198) 0), .int ((r 198) 1), .int ((r 198) 2)] : List Value).set 1 (.int v))) = kW ct E y (zset r 198 (upd (r 198) 1 v)) q := kWset rfl
theorem ks198_2 {v : Int32} : (kW ct E y r q).set 198 (y 198, .inr (3, ([.int ((r 198) 0), .int ((r 198) 1), .int ((r 198) 2)] : List Value).set 2 (.int v))) = kW ct E y (zset r 198 (upd (r 198) 2 v)) q := kWset rfl
theorem kg199 : (kW ct E y r q)[199]? = some (y 199, .inr (0, [.ref (y 171)])) := kWat (by decide) rfl
theorem kg200 : (kW ct E y r q)[200]? = some (y 200, .inr (9, [.ref (y 171), .ref (y 199), .ref (y 0), .ref (y 201), .ref (y 202), .ref (y 203), .ref (y 204)])) := kWat (by decide) rfl
theorem kg201 : (kW ct E y r q)[201]? = some (y 201, .inl (ct 0, 64, .inl (r 201))) := kWat (by decide) rfl
theorem ks201 {f : Nat → Int32} : (kW ct E y r q).set 201 (y 201, .inl (ct 0, 64, .inl f)) = kW ct E y (zset r 201 f) q := kWset rfl
theorem kg202 : (kW ct E y r q)[202]? = some (y 202, .inl (ct 0, 6, .inl (r 202))) := kWat (by decide) rfl
theorem ks202 {f : Nat → Int32} : (kW ct E y r q).set 202 (y 202, .inl (ct 0, 6, .inl f)) = kW ct E y (zset r 202 f) q := kWset rfl
theorem kg203 : (kW ct E y r q)[203]? = some (y 203, .inl (ct 0, 6, .inl (r 203))) := kWat (by decide) rfl
theorem ks203 {f : Nat → Int32} : (kW ct E y r q).set 203 (y 203, .inl (ct 0, 6, .inl f)) = kW ct E y (zset r 203 f) q := kWset rfl
theorem kg204 : (kW ct E y r q)[204]? = some (y 204, .inl (ct 0, 6, .inl (r 204))) := kWat (by decide) rfl
theorem ks204 {f : Nat → Int32} : (kW ct E y r q).set 204 (y 204, .inl (ct 0, 6, .inl f)) = kW ct E y (zset r 204 f) q := kWset rfl
theorem kg205 : (kW ct E y r q)[205]? = some (y 205, .inl (ct 4, 16, .inr (.inr (.inr (.inr (fun j => some (y (6 * j + 18)))))))) := kWat (by decide) rfl
theorem kg206 : (kW ct E y r q)[206]? = some (y 206, .inl (ct 5, 4, .inr (.inr (.inr (.inr (fun j => some (y (167 + j)))))))) := kWat (by decide) rfl
end KW
def klo (n j : Nat) : Int := if n < 138 then (if n % 6 = 1 then 0 else if n % 6 = 3 then 0 else (-2147483648)) else
  if n < 162 then (if (n - 138) % 4 = 0 then 0 else if n = 144 then (-1) else if (n - 138) % 4 = 2 then 0 else (-2147483648)) else
  if n < 167 then (-2147483648) else
  if n < 171 then 0 else
  if n < 195 then (if (n - 171) % 12 = 0 then (if j = 9 ∨ j = 10 then 0 else (-2147483648)) else if (n - 171) % 12 = 5 then (-1) else if (n - 171) % 12 = 9 then 0 else (-2147483648)) else
  if n = 195 then (if j = 13 then 0 else (-2147483648)) else
  if n = 196 then (if j = 1 ∨ j = 2 ∨ j = 3 then 0 else if j = 4 then 0 else (-2147483648)) else
  if n = 198 then 0 else (-2147483648)
def khi (n j : Nat) : Int := if n < 138 then (if n % 6 = 1 then 5 else if n % 6 = 3 then 20 else 2147483647) else
  if n < 162 then (if (n - 138) % 4 = 0 then 40 else if n = 144 then 5 else if (n - 138) % 4 = 2 then 5 else 2147483647) else
  if n < 167 then 2147483647 else
  if n < 171 then 1 else
  if n < 195 then (if (n - 171) % 12 = 0 then (if j = 9 ∨ j = 10 then 6 else 2147483647) else if (n - 171) % 12 = 5 then 5 else if (n - 171) % 12 = 9 then 1000 else 2147483647) else
  if n = 195 then (if j = 13 then 15 else 2147483647) else
  if n = 196 then (if j = 1 ∨ j = 2 ∨ j = 3 then 1000 else if j = 4 then 32 else 2147483647) else
  if n = 198 then 1 else 2147483647
def kI (r : zRr) : Prop := ∀ n j : Nat, zI (klo n j) (khi n j) (r n j)
/-- homes of those that are told -/
def kH (r : zRr) (n : Nat) : Prop := ∀ j : Nat, (j : Int) < (r n 10).toInt → zI 0 5 (r (n + 5) j)
/-- a go has a town -/
def kG (r : zRr) (n : Nat) : Prop := ∀ j : Nat, r (n + 1) j = 0 → zI 0 5 (r (n + 3) j)
def kP (r : zRr) : Prop := kG r 138 ∧ kG r 146 ∧ kG r 150 ∧ kG r 154 ∧ kG r 158
def kJ (r : zRr) : Prop := kI r ∧ kH r 171 ∧ kH r 183 ∧ kP r
theorem kJ.i {r : zRr} (h : kJ r) : kI r := h.1
def kfree (k : Nat) : Bool := !([171, 176, 183, 188, 139, 141, 147, 149, 151, 153, 155, 157, 159, 161].contains k)
theorem kH.row {r r1 : zRr} {n : Nat} (h : kH r n) (e1 : r1 n = r n) (e2 : r1 (n + 5) = r (n + 5)) : kH r1 n := by unfold kH; rw [e1, e2]; exact h
theorem kG.row {r r1 : zRr} {n : Nat} (h : kG r n) (e1 : r1 (n + 1) = r (n + 1)) (e2 : r1 (n + 3) = r (n + 3)) : kG r1 n := by unfold kG; rw [e1, e2]; exact h
theorem kP.row {r r1 : zRr} (h : kP r) (e : ∀ k, [139, 141, 147, 149, 151, 153, 155, 157, 159, 161].contains k = true → r1 k = r k) : kP r1 :=
  ⟨h.1.row (e 139 rfl) (e 141 rfl), h.2.1.row (e 147 rfl) (e 149 rfl), h.2.2.1.row (e 151 rfl) (e 153 rfl), h.2.2.2.1.row (e 155 rfl) (e 157 rfl), h.2.2.2.2.row (e 159 rfl) (e 161 rfl)⟩
theorem kJ.free {r r1 : zRr} (h : kJ r) (hI : kI r1) (k : Nat) (hk : kfree k = true) (e : ∀ a, a ≠ k → r1 a = r a) : kJ r1 := by
  have n : ∀ a, [171, 176, 183, 188, 139, 141, 147, 149, 151, 153, 155, 157, 159, 161].contains a = true → r1 a = r a := fun a ha => e a (fun e2 => by subst e2; simp only [kfree, Bool.not_eq_true'] at hk; rw [ha] at hk; cases hk)
  exact ⟨hI, h.2.1.row (n 171 rfl) (n 176 rfl), h.2.2.1.row (n 183 rfl) (n 188 rfl), h.2.2.2.row (fun a ha => n a (by
    have h1 := List.contains_iff_mem.mp ha
    exact List.contains_iff_mem.mpr (List.mem_append_right [171, 176, 183, 188] h1)))⟩
theorem kI.setr {r : zRr} (h : kI r) {k : Nat} {g : Nat → Int32} (hv : ∀ j, zI (klo k j) (khi k j) (g j)) : kI (zset r k g) := by
  intro a b
  by_cases e : a = k
  · subst e; rw [zset_eq]; exact hv b
  · rw [zset_ne e]; exact h a b
theorem kI.set {r : zRr} (h : kI r) {k j : Nat} {v : Int32} (hv : zI (klo k j) (khi k j) v) : kI (zset r k (upd (r k) j v)) := by
  refine h.setr (fun b => ?_)
  by_cases e2 : b = j
  · subst e2; rw [pk_us]; exact hv
  · rw [pk_un e2]; exact h k b
theorem kJ.set {r : zRr} (h : kJ r) {k j : Nat} {v : Int32} (hk : kfree k = true) (hv : zI (klo k j) (khi k j) v) : kJ (zset r k (upd (r k) j v)) := h.free (h.i.set hv) k hk (fun _ e => zset_ne e)
theorem kJ.setr {r : zRr} (h : kJ r) {k : Nat} {g : Nat → Int32} (hk : kfree k = true) (hv : ∀ j, zI (klo k j) (khi k j) (g j)) : kJ (zset r k g) := h.free (h.i.setr hv) k hk (fun _ e => zset_ne e)

