section
/-! ===== worlds side by side: a call that knows the first of them ===== -/
theorem zseg {u w v : va_W} {k n : Nat} (hk : u.length = k) (hn : w.length = n) : (List.range' k n).map (fun i => (u ++ (w ++ v))[i]?) = w.map some := by
  subst hk hn
  apply List.ext_getElem?
  intro j
  rw [List.getElem?_map, List.getElem?_map]
  by_cases h : j < w.length
  · rw [List.getElem?_range' h, List.getElem?_eq_getElem h]
    show some ((u ++ (w ++ v))[u.length + 1 * j]?) = _
    rw [Nat.one_mul, List.getElem?_append_right (Nat.le_add_right _ _), Nat.add_sub_cancel_left, List.getElem?_append_left h, List.getElem?_eq_getElem h]; rfl
  · rw [List.getElem?_eq_none (by simpa using h), List.getElem?_eq_none (by omega)]; rfl
theorem zseg0 {w v : va_W} {n : Nat} (hn : w.length = n) : (List.range' 0 n).map (fun i => (w ++ v)[i]?) = w.map some := zseg (u := []) rfl hn
theorem zseg1 {u w : va_W} {k n : Nat} (hk : u.length = k) (hn : w.length = n) : (List.range' k n).map (fun i => (u ++ w)[i]?) = w.map some := by
  have h := zseg (u := u) (w := w) (v := []) hk hn
  rw [List.append_nil] at h; exact h
theorem zseg2 {u w v : va_W} {a b n : Nat} (ha : u.length = a) (hb : w.length = b) (hn : v.length = n) : (List.range' (a + b) n).map (fun i => (u ++ (w ++ v))[i]?) = v.map some := by
  have h := zseg1 (u := u ++ w) (w := v) (k := a + b) (by rw [List.length_append, ha, hb]) hn
  rw [List.append_assoc] at h; exact h
section ZSD
variable {p : Program} {l : Launch} {e : Env} {R : Room} {s : State} {m : MethodId} {args : Array Value} {below : List Frame} {meth : Method} {c : Code} {H : Heap} {locs : List Loc} {cells slots : Nat} {Q : State → Prop}
variable {cc : ByteArray} {pc : Nat} {ls : Array Slot} {rest st0 : List Value} {D : va_G} {ct : Nat → ClassId} {E : Nat → Nat} {A : Nat → Prop} {w0 wr a b d : va_W} {na nb nd : Nat}
theorem zPD.swap (ha : a.length = na) (hb : b.length = nb) (hn : va_nd (List.range' na nb ++ List.range' 0 na) = true) (hw : zPD D A (a ++ b) H) : zPD D A (b ++ a) H :=
  hw.sub _ hn (by rw [List.map_append, List.map_append, zseg1 ha hb, zseg0 ha])
theorem zPD.rot (ha : a.length = na) (hb : b.length = nb) (hd : d.length = nd) (hn : va_nd (List.range' na nb ++ (List.range' 0 na ++ List.range' (na + nb) nd)) = true) (hw : zPD D A (a ++ (b ++ d)) H) : zPD D A (b ++ (a ++ d)) H :=
  hw.sub _ hn (by rw [List.map_append, List.map_append, List.map_append, List.map_append, zseg ha hb, zseg0 ha, zseg2 ha hb hd])
theorem lcall {S : Type} {rv : S → Option Value} {post : S → Prop} {B : S → va_W} {mc ms : Nat} {a9 : Array Value} (h0 : w0.length = na) (h1 : wr.length = nb) (hB : ∀ u, (B u).length = na) (hn1 : va_nd (List.range' na nb) = true) (hn2 : va_nd (List.range' nb na ++ List.range' 0 nb) = true)
    (hr : va_Run p l e R s m args below meth c H locs cells slots mc ms (F0 m pc ls st0) rest (zQ D (va_A w0 H.size) rv post B a9) (va_A w0 H.size)) (hw : zPD D A (w0 ++ wr) H) (hS : va_S A s.heap H locs) (hA : ∀ q, s.heap.size ≤ q → A q) (pc2 : Nat) (h2 : pc + 3 = pc2)
    (kk : ∀ (u : S) (H1 : Heap) (locs1 : List Loc), post u → zPD D A (B u ++ wr) H1 → va_S A s.heap H1 locs1 → W p l e R s m args below meth c H1 locs1 (cells + mc) (slots + ms) Q (F0 m pc2 ls ((rv u).toList ++ rest))) : W p l e R s m args below meth c H locs cells slots Q (F0 m pc ls st0) := by
  subst h2
  refine zcall (wr := wr) hr hw hS hA (List.range' 0 na) (List.range' na nb) (zseg0 h0) (zseg1 h0 h1) hn1 (fun i hi hc => ?_) (fun u H1 l1 hp hz hs => kk u H1 l1 hp (hz.swap h1 (hB u) hn2) hs)
  have h3 := List.mem_range'_1.mp hi
  have h4 := List.mem_range'_1.mp hc
  omega
/-- what a callee wants of the first world -/
theorem lpreC {As : List Value} {ad : Addr} {q : vw_C} {fs : List Value} (hK : va_K D vwCl (zT ct) s) (hw : zPD D A (w0 ++ wr) H) (hS : va_S A s.heap H locs) (hA : ∀ q, s.heap.size ≤ q → A q) (hZ : eZ E A s s.heap) (hN : zN s) (h0 : w0.length = na) (hn : va_nd (List.range' 0 na) = true) (ci q0 : Nat) (hc : vwCl[ci]? = some q) (he : w0[q0]? = some (ad, .inr (ci, fs))) : PreV s H q.1 ad (cPc D ct E (.ref ad :: As) w0 H.size) As :=
  cpreV hK hw hS hA hZ hN (List.range' 0 na) hn (zseg0 h0) ci q0 hc (by rw [List.getElem?_append_left (List.getElem?_eq_some_iff.mp he).1]; exact he)
theorem lpreZ {As : List Value} {ad : Addr} {q : vw_C} {fs : List Value} (hK : va_K D vwCl (zT ct) s) (hw : zPD D A (w0 ++ wr) H) (hS : va_S A s.heap H locs) (hA : ∀ q, s.heap.size ≤ q → A q) (hN : zN s) (h0 : w0.length = na) (hn : va_nd (List.range' 0 na) = true) (ci q0 : Nat) (hc : vwCl[ci]? = some q) (he : w0[q0]? = some (ad, .inr (ci, fs))) : PreV s H q.1 ad (zPc D ct [] (.ref ad :: As) w0 H.size) As :=
  zpreV hK hw hS hA zZ.nil hN (List.range' 0 na) hn (zseg0 h0) ci q0 hc (by rw [List.getElem?_append_left (List.getElem?_eq_some_iff.mp he).1]; exact he)
end ZSD
end
/-! ===== the constants of Sort and their texts, as the Statement gives them ===== -/
noncomputable def eSt (i : Nat) : Term := .static RX7 (eN.getD i "") "LBeardPass$Sort;"
noncomputable def eEnt : List Nat := [127, 133, 136, 139, 142, 145, 148, 151, 154, 157, 160, 163, 166, 169, 172, 175, 178, 181, 184, 187, 190, 193, 196, 199, 202, 205, 208, 211, 214, 217, 217, 217, 217, 110, 116, 118, 120]
noncomputable def eSr (i : Nat) : Term := if i < 33 then .string RX7 (eEnt.getD i 0) else .string RX4 (eEnt.getD i 0)
noncomputable def eAl : Term := .static RX7 "ALL" "[LBeardPass$Sort;"
noncomputable def eLf (T : Cond) : Nat → Option Cond := match T with
  | .and a b => fun n => bif Nat.beq (n % 2) 0 then eLf a (n / 2) else eLf b (n / 2)
  | c => fun _ => some c
theorem eLf_m : ∀ (T : Cond) (n : Nat) (c : Cond), eLf T n = some c → c ∈ flatC T := by
  intro T
  induction T with
  | and a b iha ihb =>
    intro n c h
    have h : (bif Nat.beq (n % 2) 0 then eLf a (n / 2) else eLf b (n / 2)) = some c := h
    cases hb : Nat.beq (n % 2) 0 with
    | true => rw [hb] at h; exact List.mem_append_left _ (iha _ c h)
    | false => rw [hb] at h; exact List.mem_append_right _ (ihb _ c h)
  | _ => intro n c h; cases h; exact List.mem_singleton.mpr rfl
noncomputable def eGN : Cond := Jvm.Cond.and given_1 narrow_1
noncomputable def eFl : List Cond := flatC eGN
noncomputable def em1p : List Nat := [497, 265, 649, 73, 105, 873, 489, 281, 665, 89, 965, 805, 421, 613, 841, 457, 297, 681, 473, 645, 69, 857, 313, 505, 261, 121, 889, 697, 197, 321, 881, 769, 385]
set_option maxRecDepth 100000 in
theorem em1q : ∀ i, i < 33 → eLf eGN (em1p.getD i 0) = some (Cond.exactly (eSt i) RX7) := by decide +kernel
theorem em1 : ∀ i, i < 33 → Cond.exactly (eSt i) RX7 ∈ eFl := fun i hi => eLf_m _ _ _ (em1q i hi)
noncomputable def em2p : List Nat := [9, 137, 905, 329, 361, 745, 25, 153, 921, 345, 293, 677, 101, 869, 713, 41, 169, 937, 57, 901, 837, 729, 185, 5, 133, 377, 761, 953, 453, 193, 753, 641, 65]
set_option maxRecDepth 100000 in
theorem em2q : ∀ i, i < 33 → eLf eGN (em2p.getD i 0) = some (Cond.eq (.field (eSt i) RX7 "text" "Ljava/lang/String;") (eSr i)) := by decide +kernel
theorem em2 : ∀ i, i < 33 → Cond.eq (.field (eSt i) RX7 "text" "Ljava/lang/String;") (eSr i) ∈ eFl := fun i hi => eLf_m _ _ _ (em2q i hi)
noncomputable def em3p : List Nat := [801, 161, 673, 417, 929, 97, 609, 353, 865, 225, 737, 481, 993, 17, 273, 785, 145, 657, 401, 913, 81, 593, 337, 849, 209, 721, 465, 977, 49, 305, 817, 177, 689]
set_option maxRecDepth 100000 in
theorem em3q : ∀ i, i < 33 → eLf eGN (em3p.getD i 0) = some (Cond.eq (.elem eAl (.int (Int32.ofNat i))) (eSt i)) := by decide +kernel
theorem em3 : ∀ i, i < 33 → Cond.eq (.elem eAl (.int (Int32.ofNat i))) (eSt i) ∈ eFl := fun i hi => eLf_m _ _ _ (em3q i hi)
noncomputable def em4p : List Nat := [739, 403, 467, 947, 603, 987, 635, 775, 199, 679, 495, 671, 479, 127, 267, 843, 427, 27, 151, 847, 815, 487, 855, 15, 399, 439, 887, 55, 623, 611, 611, 611, 611, 205, 685, 493, 93]
set_option maxRecDepth 100000 in
theorem em4q : ∀ i, i < 37 → eLf eGN (em4p.getD i 0) = some (Cond.exactly (eSr i) RJ0) := by decide +kernel
theorem em4 : ∀ i, i < 37 → Cond.exactly (eSr i) RJ0 ∈ eFl := fun i hi => eLf_m _ _ _ (em4q i hi)
noncomputable def em5p : List Nat := [483, 915, 979, 115, 347, 59, 379, 135, 711, 423, 1007, 415, 991, 639, 779, 203, 939, 283, 663, 207, 175, 999, 215, 271, 911, 951, 247, 311, 367, 355, 355, 355, 355, 717, 429, 1005, 605]
set_option maxRecDepth 100000 in
theorem em5q : ∀ i, i < 37 → eLf eGN (em5p.getD i 0) = some (Cond.eq (.field (eSr i) RJ0 "coder" "B") (.int 0)) := by decide +kernel
theorem em5 : ∀ i, i < 37 → Cond.eq (.field (eSr i) RJ0 "coder" "B") (.int 0) ∈ eFl := fun i hi => eLf_m _ _ _ (em5q i hi)
noncomputable def em6p : List Nat := [995, 83, 51, 627, 859, 315, 891, 647, 455, 935, 31, 927, 63, 383, 139, 715, 107, 795, 407, 719, 687, 23, 727, 783, 79, 119, 759, 823, 879, 867, 867, 867, 867, 461, 941, 29, 349]
set_option maxRecDepth 100000 in
theorem em6q : ∀ i, i < 37 → eLf eGN (em6p.getD i 0) = some (Cond.arrayOf (.field (eSr i) RJ0 "value" "[B") .byte) := by decide +kernel
theorem em6 : ∀ i, i < 37 → Cond.arrayOf (.field (eSr i) RJ0 "value" "[B") .byte ∈ eFl := fun i hi => eLf_m _ _ _ (em6q i hi)
noncomputable def em7p : List Nat := [19, 595, 307, 371, 219, 827, 251, 391, 967, 103, 287, 95, 319, 895, 651, 459, 619, 155, 919, 463, 431, 279, 471, 143, 591, 631, 503, 183, 239, 227, 227, 227, 227, 973, 109, 285, 861]
set_option maxRecDepth 100000 in
theorem em7q : ∀ i, i < 37 → eLf eGN (em7p.getD i 0) = some (Cond.eq (.length (.field (eSr i) RJ0 "value" "[B")) (.int (Int32.ofNat (eL.getD i 0)))) := by decide +kernel
theorem em7 : ∀ i, i < 37 → Cond.eq (.length (.field (eSr i) RJ0 "value" "[B")) (.int (Int32.ofNat (eL.getD i 0))) ∈ eFl := fun i hi => eLf_m _ _ _ (em7q i hi)
noncomputable def em8_0p : List Nat := [275, 339, 819, 883, 731, 187, 763, 903, 39, 615, 799, 607, 831, 255, 395, 971, 363, 667, 87, 975, 943, 791, 983, 655, 335, 375, 1015, 695, 751, 0, 0, 0, 0, 45, 621, 797, 221]
set_option maxRecDepth 100000 in
theorem em8_0q : ∀ i, i < 37 → 0 < eL.getD i 0 → eLf eGN (em8_0p.getD i 0) = some (Cond.eq (.elem (.field (eSr i) RJ0 "value" "[B") (.int (Int32.ofNat 0))) (.int ((eB.getD i []).getD 0 0))) := by decide +kernel
theorem em8_0 : ∀ i, i < 37 → 0 < eL.getD i 0 → Cond.eq (.elem (.field (eSr i) RJ0 "value" "[B") (.int (Int32.ofNat 0))) (.int ((eB.getD i []).getD 0 0)) ∈ eFl := fun i hi h8 => eLf_m _ _ _ (em8_0q i hi h8)
noncomputable def em8_1p : List Nat := [787, 851, 179, 243, 475, 699, 507, 71, 295, 359, 159, 351, 191, 767, 907, 43, 875, 411, 599, 47, 111, 0, 0, 0, 0, 0, 0, 0, 0, 0, 0, 0, 0, 301, 365, 157, 733]
set_option maxRecDepth 100000 in
theorem em8_1q : ∀ i, i < 37 → 1 < eL.getD i 0 → eLf eGN (em8_1p.getD i 0) = some (Cond.eq (.elem (.field (eSr i) RJ0 "value" "[B") (.int (Int32.ofNat 1))) (.int ((eB.getD i []).getD 1 0))) := by decide +kernel
theorem em8_1 : ∀ i, i < 37 → 1 < eL.getD i 0 → Cond.eq (.elem (.field (eSr i) RJ0 "value" "[B") (.int (Int32.ofNat 1))) (.int ((eB.getD i []).getD 1 0)) ∈ eFl := fun i hi h8 => eLf_m _ _ _ (em8_1q i hi h8)
noncomputable def em8_2p : List Nat := [147, 211, 691, 755, 0, 443, 1019, 583, 807, 871, 0, 863, 703, 511, 75, 299, 235, 923, 343, 303, 0, 0, 0, 0, 0, 0, 0, 0, 0, 0, 0, 0, 0, 813, 877, 669, 477]
set_option maxRecDepth 100000 in
theorem em8_2q : ∀ i, i < 37 → 2 < eL.getD i 0 → eLf eGN (em8_2p.getD i 0) = some (Cond.eq (.elem (.field (eSr i) RJ0 "value" "[B") (.int (Int32.ofNat 2))) (.int ((eB.getD i []).getD 2 0))) := by decide +kernel
theorem em8_2 : ∀ i, i < 37 → 2 < eL.getD i 0 → Cond.eq (.elem (.field (eSr i) RJ0 "value" "[B") (.int (Int32.ofNat 2))) (.int ((eB.getD i []).getD 2 0)) ∈ eFl := fun i hi h8 => eLf_m _ _ _ (em8_2q i hi h8)
noncomputable def em8_3p : List Nat := [659, 723, 435, 499, 0, 955, 7, 327, 167, 231, 0, 223, 447, 1023, 587, 811, 747, 91, 0, 0, 0, 0, 0, 0, 0, 0, 0, 0, 0, 0, 0, 0, 0, 173, 237, 413, 989]
set_option maxRecDepth 100000 in
theorem em8_3q : ∀ i, i < 37 → 3 < eL.getD i 0 → eLf eGN (em8_3p.getD i 0) = some (Cond.eq (.elem (.field (eSr i) RJ0 "value" "[B") (.int (Int32.ofNat 3))) (.int ((eB.getD i []).getD 3 0))) := by decide +kernel
theorem em8_3 : ∀ i, i < 37 → 3 < eL.getD i 0 → Cond.eq (.elem (.field (eSr i) RJ0 "value" "[B") (.int (Int32.ofNat 3))) (.int ((eB.getD i []).getD 3 0)) ∈ eFl := fun i hi h8 => eLf_m _ _ _ (em8_3q i hi h8)
noncomputable def em8_4p : List Nat := [0, 0, 0, 1011, 0, 123, 263, 839, 0, 743, 0, 735, 959, 0, 331, 171, 491, 0, 0, 0, 0, 0, 0, 0, 0, 0, 0, 0, 0, 0, 0, 0, 0, 0, 749, 925, 61]
set_option maxRecDepth 100000 in
theorem em8_4q : ∀ i, i < 37 → 4 < eL.getD i 0 → eLf eGN (em8_4p.getD i 0) = some (Cond.eq (.elem (.field (eSr i) RJ0 "value" "[B") (.int (Int32.ofNat 4))) (.int ((eB.getD i []).getD 4 0))) := by decide +kernel
theorem em8_4 : ∀ i, i < 37 → 4 < eL.getD i 0 → Cond.eq (.elem (.field (eSr i) RJ0 "value" "[B") (.int (Int32.ofNat 4))) (.int ((eB.getD i []).getD 4 0)) ∈ eFl := fun i hi h8 => eLf_m _ _ _ (em8_4q i hi h8)
noncomputable def em8_5p : List Nat := [0, 0, 0, 11, 0, 0, 0, 0, 0, 0, 0, 0, 0, 0, 0, 683, 1003, 0, 0, 0, 0, 0, 0, 0, 0, 0, 0, 0, 0, 0, 0, 0, 0, 0, 0, 0, 0]
set_option maxRecDepth 100000 in
theorem em8_5q : ∀ i, i < 37 → 5 < eL.getD i 0 → eLf eGN (em8_5p.getD i 0) = some (Cond.eq (.elem (.field (eSr i) RJ0 "value" "[B") (.int (Int32.ofNat 5))) (.int ((eB.getD i []).getD 5 0))) := by decide +kernel
theorem em8_5 : ∀ i, i < 37 → 5 < eL.getD i 0 → Cond.eq (.elem (.field (eSr i) RJ0 "value" "[B") (.int (Int32.ofNat 5))) (.int ((eB.getD i []).getD 5 0)) ∈ eFl := fun i hi h8 => eLf_m _ _ _ (em8_5q i hi h8)
noncomputable def em8_6p : List Nat := [0, 0, 0, 0, 0, 0, 0, 0, 0, 0, 0, 0, 0, 0, 0, 0, 0, 0, 0, 0, 0, 0, 0, 0, 0, 0, 0, 0, 0, 0, 0, 0, 0, 0, 0, 0, 0]
set_option maxRecDepth 100000 in
theorem em8_6q : ∀ i, i < 37 → 6 < eL.getD i 0 → eLf eGN (em8_6p.getD i 0) = some (Cond.eq (.elem (.field (eSr i) RJ0 "value" "[B") (.int (Int32.ofNat 6))) (.int ((eB.getD i []).getD 6 0))) := by decide +kernel
theorem em8_6 : ∀ i, i < 37 → 6 < eL.getD i 0 → Cond.eq (.elem (.field (eSr i) RJ0 "value" "[B") (.int (Int32.ofNat 6))) (.int ((eB.getD i []).getD 6 0)) ∈ eFl := fun i hi h8 => eLf_m _ _ _ (em8_6q i hi h8)
noncomputable def em8_7p : List Nat := [0, 0, 0, 0, 0, 0, 0, 0, 0, 0, 0, 0, 0, 0, 0, 0, 0, 0, 0, 0, 0, 0, 0, 0, 0, 0, 0, 0, 0, 0, 0, 0, 0, 0, 0, 0, 0]
set_option maxRecDepth 100000 in
theorem em8_7q : ∀ i, i < 37 → 7 < eL.getD i 0 → eLf eGN (em8_7p.getD i 0) = some (Cond.eq (.elem (.field (eSr i) RJ0 "value" "[B") (.int (Int32.ofNat 7))) (.int ((eB.getD i []).getD 7 0))) := by decide +kernel
theorem em8_7 : ∀ i, i < 37 → 7 < eL.getD i 0 → Cond.eq (.elem (.field (eSr i) RJ0 "value" "[B") (.int (Int32.ofNat 7))) (.int ((eB.getD i []).getD 7 0)) ∈ eFl := fun i hi h8 => eLf_m _ _ _ (em8_7q i hi h8)
theorem em8 : ∀ i, i < 37 → ∀ j, j < 8 → j < eL.getD i 0 → Cond.eq (.elem (.field (eSr i) RJ0 "value" "[B") (.int (Int32.ofNat j))) (.int ((eB.getD i []).getD j 0)) ∈ eFl := by
  intro i hi j hj h
  match j, hj, h with
  | 0, _, h => exact em8_0 i hi h
  | 1, _, h => exact em8_1 i hi h
  | 2, _, h => exact em8_2 i hi h
  | 3, _, h => exact em8_3 i hi h
  | 4, _, h => exact em8_4 i hi h
  | 5, _, h => exact em8_5 i hi h
  | 6, _, h => exact em8_6 i hi h
  | 7, _, h => exact em8_7 i hi h
  | k + 8, hj, _ => omega
set_option maxRecDepth 100000 in
theorem em9 : Cond.arrayOf eAl (.object RX7) ∈ eFl ∧ Cond.eq (.length eAl) (.int (Int32.ofNat 33)) ∈ eFl ∧ Cond.eq (.static RJ0 "COMPACT_STRINGS" "Z") (.int 1) ∈ eFl ∧ Cond.isRef (.static RJ3 "SIOOBE_FORMATTER" "Ljava/util/function/BiFunction;") ∈ eFl := ⟨eLf_m _ 961 _ (by decide +kernel), eLf_m _ 33 _ (by decide +kernel), eLf_m _ 433 _ (by decide +kernel), eLf_m _ 945 _ (by decide +kernel)⟩
set_option maxRecDepth 100000 in
theorem em0 : ∀ i, i < 33 → Cond.laysStatic RX7 (eN.getD i "") "LBeardPass$Sort;" ∈ lw_tbl := by
  intro i hi
  match i, hi with
  | 0, _ => exact (ztm3 32 (by decide +kernel))
  | 1, _ => exact (ztm3 55 (by decide +kernel))
  | 2, _ => exact (ztm3 66 (by decide +kernel))
  | 3, _ => exact (ztm3 80 (by decide +kernel))
  | 4, _ => exact (ztm3 97 (by decide +kernel))
  | 5, _ => exact (ztm3 103 (by decide +kernel))
  | 6, _ => exact (ztm3 105 (by decide +kernel))
  | 7, _ => exact (ztm3 107 (by decide +kernel))
  | 8, _ => exact (ztm3 113 (by decide +kernel))
  | 9, _ => exact (ztm3 119 (by decide +kernel))
  | 10, _ => exact (ztm3 223 (by decide +kernel))
  | 11, _ => exact (ztm3 225 (by decide +kernel))
  | 12, _ => exact (ztm3 227 (by decide +kernel))
  | 13, _ => exact (ztm3 229 (by decide +kernel))
  | 14, _ => exact (ztm3 89 (by decide +kernel))
  | 15, _ => exact (ztm3 91 (by decide +kernel))
  | 16, _ => exact (ztm3 93 (by decide +kernel))
  | 17, _ => exact (ztm3 95 (by decide +kernel))
  | 18, _ => exact (ztm3 147 (by decide +kernel))
  | 19, _ => exact (ztm3 175 (by decide +kernel))
  | 20, _ => exact (ztm3 177 (by decide +kernel))
  | 21, _ => exact (ztm3 145 (by decide +kernel))
  | 22, _ => exact (ztm3 162 (by decide +kernel))
  | 23, _ => exact (ztm3 171 (by decide +kernel))
  | 24, _ => exact (ztm3 173 (by decide +kernel))
  | 25, _ => exact (ztm3 167 (by decide +kernel))
  | 26, _ => exact (ztm3 169 (by decide +kernel))
  | 27, _ => exact (ztm3 165 (by decide +kernel))
  | 28, _ => exact (ztm3 179 (by decide +kernel))
  | 29, _ => exact (ztm2 198 (by decide +kernel))
  | 30, _ => exact (ztm3 25 (by decide +kernel))
  | 31, _ => exact (ztm1 42 (by decide +kernel))
  | 32, _ => exact (ztm2 196 (by decide +kernel))
  | k + 33, hi => omega
noncomputable def em10p : List Nat := [1009, 777, 393, 585, 617, 233, 1001, 793, 409, 601, 37, 165, 933, 357, 201, 969, 809, 425, 985, 389, 325, 217, 825, 1017, 773, 633, 249, 441, 709, 833, 241, 129, 897]
set_option maxRecDepth 100000 in
theorem em10q : ∀ i, i < 33 → eLf eGN (em10p.getD i 0) = some (Cond.eq (.field (eSt i) "java/lang/Enum" "ordinal" "I") (.int (Int32.ofNat i))) := by decide +kernel
theorem em10 : ∀ i, i < 33 → Cond.eq (.field (eSt i) "java/lang/Enum" "ordinal" "I") (.int (Int32.ofNat i)) ∈ eFl := fun i hi => eLf_m _ _ _ (em10q i hi)
theorem eFe {s : State} {args : Array Value} {t u : Term} {c n d : String} {x : Nat} (h1 : t.eval args s none [] s = some (.ref x)) (h2 : u.eval args s none [] s = some (.ref x)) : (Term.field t c n d).eval args s none [] s = (Term.field u c n d).eval args s none [] s := by
  simp only [Term.eval, h1, h2]
set_option maxHeartbeats 4000000 in
set_option maxRecDepth 100000 in
theorem eZof {s : State} {args : Array Value} (hts : ∀ w ∈ lw_tbl, w.before args s = true) (hgv : (Jvm.Cond.and given_1 narrow_1).before args s = true) : ∃ E : Nat → Nat, eZ E (fun q : Nat => s.heap.size ≤ q) s s.heap ∧ kEi E := by
  have hs : ∀ c ∈ eFl, c.before args s = true := flat_of_before _ hgv
  have hA : ∀ a : Nat, a < s.heap.size → ¬ (fun q : Nat => s.heap.size ≤ q) a := fun a h => Nat.not_le.mpr h
  have k1 : ∀ i : Nat, ∃ a : Nat, i < 33 → (eSt i).eval args s none [] s = some (.ref a) := by
    intro i
    by_cases hi : i < 33
    · obtain ⟨a, c, cell, k, q1, -⟩ := Cond.exactly_spec (hs _ (em1 i hi))
      exact ⟨a, fun _ => q1⟩
    · exact ⟨0, fun h => absurd h hi⟩
  obtain ⟨a, ha⟩ := Classical.axiomOfChoice k1
  have k2 : ∀ i : Nat, ∃ q : Nat × Nat, i < 37 → (eSr i).eval args s none [] s = some (.ref q.1) ∧ va_O RJ0 q.1 (fun q : Nat => s.heap.size ≤ q) s s.heap ∧ va_OF RJ0 "coder" "B" (.int 0) q.1 (fun q : Nat => s.heap.size ≤ q) s s.heap ∧ va_OF RJ0 "value" "[B" (.ref q.2) q.1 (fun q : Nat => s.heap.size ≤ q) s s.heap ∧ va_T .byte q.2 (eL.getD i 0) (fun j => .int ((eB.getD i []).getD j 0)) (fun q : Nat => s.heap.size ≤ q) s s.heap := by
    intro i
    by_cases hi : i < 37
    · obtain ⟨b, c, cA, kA, q1, -⟩ := Cond.exactly_spec (hs _ (em4 i hi))
      have hl8 := eLn hi
      obtain ⟨t, ht, hT⟩ := va_Tof (f := fun j => .int ((eB.getD i []).getD j 0)) (A := fun q : Nat => s.heap.size ≤ q) (N := eL.getD i 0) (by omega) (hs _ (em6 i hi)) (va_eqt (hs _ (em7 i hi))) (fun j hj => va_eqt (hs _ (em8 i hi j (by omega) hj))) hA
      exact ⟨(b, t), fun _ => ⟨q1, va_Oof (hs _ (em4 i hi)) q1 hA, vk_OFof q1 (va_eqt (hs _ (em5 i hi))) hA, vk_OFof q1 ht hA, hT⟩⟩
    · exact ⟨(0, 0), fun h => absurd h hi⟩
  obtain ⟨b, hb⟩ := Classical.axiomOfChoice k2
  obtain ⟨t, ht, hT⟩ := va_Tof (tm := eAl) (ty := .object RX7) (N := 33) (f := fun j => .ref (a j)) (A := fun q : Nat => s.heap.size ≤ q) (by decide) (hs _ em9.1) (va_eqt (hs _ em9.2.1)) (fun j hj => va_eqv (hs _ (em3 j hj)) (ha j hj)) hA
  obtain ⟨o9, ho9⟩ := vx_Zqof (hts (.laysStatic RJ3 "SIOOBE_FORMATTER" "Ljava/util/function/BiFunction;") (ztm2 234 (by decide +kernel))) (hts (.initialized RJ3) (ztm1 18 (by decide +kernel))) (hs _ em9.2.2.2) hA
  have e33 : ∀ i, i < 33 → (fun n : Nat => if n < 33 then a n else if n = 33 then t else if n < 80 then (b (n - 40)).1 else (b (n - 80)).2) i = a i := fun i hi => if_pos hi
  have e40 : ∀ i, i < 37 → (fun n : Nat => if n < 33 then a n else if n = 33 then t else if n < 80 then (b (n - 40)).1 else (b (n - 80)).2) (40 + i) = (b i).1 := fun i hi => by
    show (if 40 + i < 33 then _ else if 40 + i = 33 then _ else if 40 + i < 80 then _ else _) = _
    rw [if_neg (by omega), if_neg (by omega), if_pos (by omega), show 40 + i - 40 = i by omega]
  have e80 : ∀ i, i < 37 → (fun n : Nat => if n < 33 then a n else if n = 33 then t else if n < 80 then (b (n - 40)).1 else (b (n - 80)).2) (80 + i) = (b i).2 := fun i hi => by
    show (if 80 + i < 33 then _ else if 80 + i = 33 then _ else if 80 + i < 80 then _ else _) = _
    rw [if_neg (by omega), if_neg (by omega), if_neg (by omega), show 80 + i - 80 = i by omega]
  refine ⟨fun n => if n < 33 then a n else if n = 33 then t else if n < 80 then (b (n - 40)).1 else (b (n - 80)).2, ⟨?_, ?_, ?_, ?_, ?_, ?_, ?_, ?_, ?_⟩, ?_⟩
  · intro i hi
    rw [e33 i hi]
    exact va_Zref (hts _ (em0 i hi)) (hts (.initialized RX7) (ztm1 4 (by decide +kernel))) (ha i hi) hA
  · exact va_Zref (hts (.laysStatic RX7 "ALL" "[LBeardPass$Sort;") (ztm2 204 (by decide +kernel))) (hts (.initialized RX7) (ztm1 4 (by decide +kernel))) ht hA
  · obtain ⟨cell, h1, h2, h3, h4, h5, h6, h7⟩ := hT
    refine ⟨cell, h1, h2, h3, h4, h5, fun j hj => ?_, h7⟩
    rw [h6 j hj]
    exact congrArg (fun a9 : Nat => some (Value.ref a9)) (e33 j hj).symm
  · intro i hi
    rw [e33 i hi, e40 i (by omega)]
    exact vk_OFof (ha i hi) (va_eqv (hs _ (em2 i hi)) (hb i (by omega)).1) hA
  · intro i hi
    unfold eT
    rw [e40 i hi, e80 i hi]
    exact (hb i hi).2
  · intro k hk
    simp only [eR, List.mem_cons, List.not_mem_nil, or_false] at hk
    rcases hk with rfl | rfl | rfl | rfl
    · exact vk_R.of (hts (.stringRef RX4 110 "long") (ztm3 153 (by decide +kernel))) (by have h9 := (hb 33 (by decide)).1; exact h9)
    · exact vk_R.of (hts (.stringRef RX4 116 "false") (ztm3 155 (by decide +kernel))) (by have h9 := (hb 34 (by decide)).1; exact h9)
    · exact vk_R.of (hts (.stringRef RX4 118 "asked") (ztm3 156 (by decide +kernel))) (by have h9 := (hb 35 (by decide)).1; exact h9)
    · exact vk_R.of (hts (.stringRef RX4 120 "weeks") (ztm3 157 (by decide +kernel))) (by have h9 := (hb 36 (by decide)).1; exact h9)
  · exact va_Zof (hts (.laysStatic RJ0 "COMPACT_STRINGS" "Z") (ztm2 218 (by decide +kernel))) (hts (.initialized RJ0) (ztm1 16 (by decide +kernel))) (va_eqt (hs _ em9.2.2.1)) hA
  · rcases o9 with o9 | ⟨t9, o9⟩
    · exact ⟨none, o9⟩
    · exact ⟨some t9, o9⟩
  · exact va_Nw.of rfl (hts (.fieldLinkNest RX9 75 RX7 "ALL" "[LBeardPass$Sort;" RX11) (ztm2 203 (by decide +kernel)))
  · intro i j hi hj hij
    rw [e33 i hi, e33 j hj] at hij
    have e1 := va_eqt (hs _ (em10 i hi))
    have e2 := va_eqt (hs _ (em10 j hj))
    have h2 := ha j hj
    rw [← hij] at h2
    rw [eFe (ha i hi) h2, e2] at e1
    have e3 : nI j = nI i := Value.int.inj (Option.some.inj e1)
    exact ((nI_eq (by omega) (by omega)).mp e3).symm
section
/-! ===== the law: the world of both objects and of the row of answers ===== -/
noncomputable def lW (ct : Nat → ClassId) (E y : Nat → Nat) (r : zRr) (q : zRq) (h2 : Nat) (ym : Nat → Nat) (rm : zRr) (qm : zRq) (h3 : Nat) (fo : Nat → Int64) : va_W := kW ct E y r q ++ (mW ct h2 ym rm qm ++ [(h3, .inl (ct 1, 1, .inr (.inl fo)))])
theorem mWl {ct : Nat → ClassId} {h2 : Nat} {ym : Nat → Nat} {rm : zRr} {qm : zRq} : (mW ct h2 ym rm qm).length = 40 := rfl
theorem lroom {cells slots : Nat} (h : cells ≤ 600000 ∧ slots ≤ 7290000) : cells + 0 ≤ room_1.cells ∧ slots + 0 ≤ room_1.slots := ⟨Nat.le_trans h.1 (Nat.le_of_ble_eq_true rfl), Nat.le_trans h.2 (Nat.le_of_ble_eq_true rfl)⟩
theorem lnd1 : va_nd (List.range' 207 41) = true := zndr 207 41
theorem lnd2 : va_nd (List.range' 41 207 ++ List.range' 0 41) = true := zndap (zndr 41 207) (zndr 0 41) (fun x h1 h2 => by have := (List.mem_range'_1.mp h1).1; have := (List.mem_range'_1.mp h2).2; omega)
theorem lnd3 : va_nd (List.range' 40 208) = true := zndr 40 208
theorem lnd4 : va_nd (List.range' 208 40 ++ List.range' 0 208) = true := zndap (zndr 208 40) (zndr 0 208) (fun x h1 h2 => by have := (List.mem_range'_1.mp h1).1; have := (List.mem_range'_1.mp h2).2; omega)
theorem lnd5 : va_nd (List.range' 207 40 ++ (List.range' 0 207 ++ List.range' (207 + 40) 1)) = true := zndap (zndr 207 40) (zndap (zndr 0 207) (zndr 247 1) (fun x h1 h2 => by have := (List.mem_range'_1.mp h1).2; have := (List.mem_range'_1.mp h2).1; omega)) (fun x h1 h2 => by have q1 := List.mem_range'_1.mp h1; rcases List.mem_append.mp h2 with h2 | h2 <;> have q2 := List.mem_range'_1.mp h2 <;> omega)
theorem lnd6 : va_nd (List.range' 40 207 ++ (List.range' 0 40 ++ List.range' (40 + 207) 1)) = true := zndap (zndr 40 207) (zndap (zndr 0 40) (zndr 247 1) (fun x h1 h2 => by have := (List.mem_range'_1.mp h1).2; have := (List.mem_range'_1.mp h2).1; omega)) (fun x h1 h2 => by have q1 := List.mem_range'_1.mp h1; rcases List.mem_append.mp h2 with h2 | h2 <;> have q2 := List.mem_range'_1.mp h2 <;> omega)
section LW
variable {p : Program} {l : Launch} {e : Env} {R : Room} {s : State} {m : MethodId} {args : Array Value} {below : List Frame} {meth : Method} {c : Code} {H : Heap} {locs : List Loc} {cells slots : Nat} {Q : State → Prop}
variable {cc : ByteArray} {pc : Nat} {ls : Array Slot} {rest st0 : List Value} {D : va_G} {ct : Nat → ClassId} {E y ym : Nat → Nat} {A : Nat → Prop} {r rm : zRr} {q qm : zRq} {h2 h3 : Nat} {fo : Nat → Int64}
theorem lrot (hw : zPD D A (lW ct E y r q h2 ym rm qm h3 fo) H) : zPD D A (mW ct h2 ym rm qm ++ (kW ct E y r q ++ [(h3, .inl (ct 1, 1, .inr (.inl fo)))])) H := zPD.rot (na := 207) (nb := 40) (nd := 1) kWlen mWl rfl lnd5 hw
theorem lcallX {S : Type} {rv : S → Option Value} {post : S → Prop} {r1 : S → zRr} {q1 : S → zRq} {a9 : Array Value} (hr : va_Run p l e R s m args below meth c H locs cells slots 0 0 (F0 m pc ls st0) rest (zQ D (va_A (kW ct E y r q) H.size) rv post (fun u => kW ct E y (r1 u) (q1 u)) a9) (va_A (kW ct E y r q) H.size)) (hw : zPD D A (lW ct E y r q h2 ym rm qm h3 fo) H) (hS : va_S A s.heap H locs) (hA : ∀ q, s.heap.size ≤ q → A q) (pc2 : Nat) (h9 : pc + 3 = pc2)
    (kk : ∀ (u : S) (H1 : Heap) (locs1 : List Loc), post u → zPD D A (lW ct E y (r1 u) (q1 u) h2 ym rm qm h3 fo) H1 → va_S A s.heap H1 locs1 → W p l e R s m args below meth c H1 locs1 cells slots Q (F0 m pc2 ls ((rv u).toList ++ rest))) : W p l e R s m args below meth c H locs cells slots Q (F0 m pc ls st0) :=
  lcall (na := 207) (nb := 41) kWlen rfl (fun _ => kWlen) lnd1 lnd2 hr hw hS hA pc2 h9 kk
theorem lcallM {S : Type} {rv : S → Option Value} {post : S → Prop} {r1 : S → zRr} {q1 : S → zRq} {a9 : Array Value} (hr : va_Run p l e R s m args below meth c H locs cells slots 0 0 (F0 m pc ls st0) rest (zQ D (va_A (mW ct h2 ym rm qm) H.size) rv post (fun u => mW ct h2 ym (r1 u) (q1 u)) a9) (va_A (mW ct h2 ym rm qm) H.size)) (hw : zPD D A (mW ct h2 ym rm qm ++ (kW ct E y r q ++ [(h3, .inl (ct 1, 1, .inr (.inl fo)))])) H) (hS : va_S A s.heap H locs) (hA : ∀ q, s.heap.size ≤ q → A q) (pc2 : Nat) (h9 : pc + 3 = pc2)
    (kk : ∀ (u : S) (H1 : Heap) (locs1 : List Loc), post u → zPD D A (lW ct E y r q h2 ym (r1 u) (q1 u) h3 fo) H1 → va_S A s.heap H1 locs1 → W p l e R s m args below meth c H1 locs1 cells slots Q (F0 m pc2 ls ((rv u).toList ++ rest))) : W p l e R s m args below meth c H locs cells slots Q (F0 m pc ls st0) :=
  lcall (na := 40) (nb := 208) mWl (by rw [List.length_append, kWlen]; rfl) (fun _ => mWl) lnd3 lnd4 hr hw hS hA pc2 h9 (fun u H1 l1 hp hz hs => kk u H1 l1 hp (zPD.rot (na := 40) (nb := 207) (nd := 1) mWl kWlen rfl lnd6 hz) hs)
end LW
/-- how it goes on behind the two calls -/
noncomputable def kEnd (p : Program) (l : Launch) (e : Env) (s : State) (m : MethodId) (below : List Frame) (meth : Method) (c : Code) (b : Nat) (D : va_G) (ct : Nat → ClassId) (E y ym : Nat → Nat) (h2 h3 t cells slots : Nat) : Prop :=
  ∀ (r : zRr) (q : zRq) (rm : zRr) (qm : zRq) (fo : Nat → Int64) (cells1 slots1 : Nat), kJ r → mJ 20 rm → lR r q rm qm → cells1 ≤ cells + 1 → slots1 ≤ slots + 6 → ∀ (H : Heap) (locs : List Loc) (ls : Array Slot), zPD D (fun q : Nat => s.heap.size ≤ q) (lW ct E y r q h2 ym rm qm h3 fo) H → va_S (fun q : Nat => s.heap.size ≤ q) s.heap H locs → lv_has ls 7 [(4, .int (nI (7 * t))), (3, .ref h3), (2, .ref h2), (1, .ref (y 195)), (0, .ref b)] → W p l e room_1 s m #[Value.ref b] below meth c H locs cells1 slots1 (lw_Z below #[Value.ref b] s) (F0 m 1278 ls [])
end
theorem klV {cy : Cond} {own C : String} {idx : Nat} {y : MethodName} (h1 : Cond.methodLink own idx y ∈ wsL_law0) (h2 : Cond.instanceMethod y ∈ wsL_law0) (h3 : Cond.selects C y y ∈ wsL_law0) (h4 : Cond.initialized C ∈ wsL_law0) (h5 : cy ∈ wsL_law0) : GoodIn wsL_law0 (wsV own idx C y (cy :: wsL_law0)) := zgl (zmem (zcm h1 (zcm h2 (zcm h3 (zcm h4 znm)))) (zcm h5 (fun _ h => h)))
theorem klVm {own C : String} {idx : Nat} {y : MethodName} {ws : List Cond} (h1 : Cond.methodLink own idx y ∈ wsL_law0) (h2 : Cond.instanceMethod y ∈ wsL_law0) (h3 : Cond.selects C y y ∈ wsL_law0) (h4 : Cond.initialized C ∈ wsL_law0) (h5 : ∀ w ∈ ws, w ∈ wsL_law0) : GoodIn wsL_law0 (wsV own idx C y ws) := zgl (zmem (zcm h1 (zcm h2 (zcm h3 (zcm h4 znm)))) h5)
set_option maxRecDepth 20000 in
theorem mL_X12_feed : ∀ w ∈ wsX12_feed, w ∈ wsL_law0 := (zcm (zr10 0 rfl) (zmem (zcm (zr10 1 rfl) (zcm (zr10 2 rfl) (zcm (zr10 3 rfl) (zcm (zr7 19 rfl) znm)))) zs_wsX120))
set_option maxRecDepth 20000 in
theorem mL_X12_rests : ∀ w ∈ wsX12_rests, w ∈ wsL_law0 := (zcm (zr54 19 rfl) (zmem (zcm (zr10 1 rfl) (zcm (zr25 11 rfl) (zcm (zr25 12 rfl) (zcm (zr1 5 rfl) (zcm (zr25 13 rfl) (zcm (zr54 20 rfl) (zcm (zr54 21 rfl) (zcm (zr54 22 rfl) (zcm (zr54 23 rfl) (zcm (zr55 0 rfl) (zcm (zr55 1 rfl) znm))))))))))) zs_wsX120))
section
/-! ===== calls that know one cell or two of a world; the world behind them ===== -/
section LB
variable {p : Program} {l : Launch} {e : Env} {R : Room} {s : State} {m : MethodId} {args : Array Value} {below : List Frame} {meth : Method} {c : Code} {H H1 : Heap} {locs : List Loc} {cells slots : Nat} {Q : State → Prop}
variable {cc : ByteArray} {pc : Nat} {ls : Array Slot} {rest st0 : List Value} {D : va_G} {A : Nat → Prop} {ws ws' wz : va_W} {k : Nat} {x x0 c' : Nat × va_E}
theorem zback (hw : zPD D A ws H) (hz : zPD D A wz H1) (hf : ws'.map Prod.fst = ws.map Prod.fst) (hm : ∀ x ∈ ws', x ∈ wz) : zPD D A ws' H1 := by
  have get : ∀ (k : Nat) (x : Nat × va_E), ws'[k]? = some x → ∃ x', ws[k]? = some x' ∧ x'.1 = x.1 := by
    intro k x hx
    have h9 := congrArg (fun l : List Nat => l[k]?) hf
    simp only [List.getElem?_map, hx, Option.map_some] at h9
    cases h8 : ws[k]? with
    | none => rw [h8] at h9; cases h9
    | some x' => rw [h8] at h9; exact ⟨x', rfl, (Option.some.inj h9).symm⟩
  refine ⟨fun k x hx => ?_, fun i j a b ha hb e9 => ?_, fun k x hx => ?_⟩
  · obtain ⟨j, hj⟩ := List.getElem?_of_mem (hm x (List.mem_of_getElem? hx))
    exact hz.1 j x hj
  · obtain ⟨a', h1, h3⟩ := get i a ha
    obtain ⟨b', h4, h5⟩ := get j b hb
    exact hw.2.1 i j a' b' h1 h4 (by rw [h3, h5]; exact e9)
  · obtain ⟨x', h1, h3⟩ := get k x hx
    rw [← h3]
    exact hw.2.2 k x' h1
theorem zmset (h : x ∈ ws.set k c') : x = c' ∨ ∃ i, i ≠ k ∧ ws[i]? = some x := by
  obtain ⟨i, hi⟩ := List.getElem?_of_mem h
  rw [List.getElem?_set] at hi
  by_cases e : k = i
  · rw [if_pos e] at hi
    split at hi
    · exact Or.inl (Option.some.inj hi).symm
    · cases hi
  · rw [if_neg e] at hi
    exact Or.inr ⟨i, fun h => e h.symm, hi⟩
theorem zfset (hk : ws[k]? = some x) (hc : c'.1 = x.1) : (ws.set k c').map Prod.fst = ws.map Prod.fst := by
  apply List.ext_getElem?
  intro i
  rw [List.getElem?_map, List.getElem?_map, List.getElem?_set]
  by_cases e : k = i
  · subst e
    rw [if_pos rfl, if_pos (List.getElem?_eq_some_iff.mp hk).1, hk]
    show some c'.1 = some x.1
    rw [hc]
  · rw [if_neg e]
noncomputable def lrs (n : Nat) (isC : List Nat) : List Nat := (List.range n).filter (fun i => !isC.contains i)
theorem lrs_nd {n : Nat} {isC : List Nat} : va_nd (lrs n isC) = true := va_nd_of (List.nodup_range.filter _)
theorem lrs_all {isC : List Nat} : (lrs ws.length isC).all (fun i => decide (i < ws.length)) = true := List.all_eq_true.mpr (fun i hi => decide_eq_true (List.mem_range.mp (List.mem_filter.mp hi).1))
theorem lrs_dis {n : Nat} {isC : List Nat} : ∀ i ∈ lrs n isC, i ∉ isC := by
  intro i hi hc
  have h1 := (List.mem_filter.mp hi).2
  rw [List.contains_iff_mem.mpr hc] at h1
  cases h1
theorem lrs_mem {isC : List Nat} {i : Nat} (hi : ws[i]? = some x) (hc : i ∉ isC) : x ∈ (lrs ws.length isC).filterMap (fun i => ws[i]?) := List.mem_filterMap.mpr ⟨i, List.mem_filter.mpr ⟨List.mem_range.mpr (List.getElem?_eq_some_iff.mp hi).1, by simp [hc]⟩, hi⟩
/-- a call that knows the k-th cell alone -/
theorem lcell {S : Type} {rv : S → Option Value} {post : S → Prop} {mc ms : Nat} {a9 : Array Value} (k : Nat) (hk : ws[k]? = some x) (hc : c'.1 = x.1) (hr : va_Run p l e R s m args below meth c H locs cells slots mc ms (F0 m pc ls st0) rest (zQ D (va_A [x] H.size) rv post (fun _ => [c']) a9) (va_A [x] H.size)) (hw : zPD D A ws H) (hS : va_S A s.heap H locs) (hA : ∀ q, s.heap.size ≤ q → A q) (pc2 : Nat) (h9 : pc + 3 = pc2)
    (kk : ∀ (u : S) (H1 : Heap) (locs1 : List Loc), post u → zPD D A (ws.set k c') H1 → va_S A s.heap H1 locs1 → W p l e R s m args below meth c H1 locs1 (cells + mc) (slots + ms) Q (F0 m pc2 ls ((rv u).toList ++ rest))) : W p l e R s m args below meth c H locs cells slots Q (F0 m pc ls st0) := by
  subst h9
  refine zcall hr hw hS hA [k] (lrs ws.length [k]) (kone hk) (zval _ lrs_all) lrs_nd lrs_dis (fun u H1 l1 hp hz hs => kk u H1 l1 hp (zback hw hz (zfset hk hc) (fun z hz9 => ?_)) hs)
  rcases zmset hz9 with rfl | ⟨i, hi, hi2⟩
  · exact List.mem_append_right _ (List.mem_singleton.mpr rfl)
  · exact List.mem_append_left _ (lrs_mem hi2 (fun h => hi (List.mem_singleton.mp h)))
/-- a call that may throw, and knows two cells: the second changes -/
theorem lxcell {S : Type} {rv : S → Option Value} {post : S → Prop} {px : Unit → Prop} {BX : String → Unit → State → Prop} {mc ms : Nat} {a9 : Array Value} (k0 k : Nat) (hk0 : ws[k0]? = some x0) (hk : ws[k]? = some x) (hne : k0 ≠ k) (hc : c'.1 = x.1) (hr : vx_Run p l e R s m args below meth c H locs cells slots mc ms (F0 m pc ls st0) rest (zQ D (va_A [x0, x] H.size) rv post (fun _ => [x0, c']) a9) (vx_X px BX (va_A [x0, x] H.size)) (va_A [x0, x] H.size)) (hw : zPD D A ws H) (hS : va_S A s.heap H locs) (hA : ∀ q, s.heap.size ≤ q → A q) (pc2 : Nat) (h9 : pc + 3 = pc2) (hpx : ∀ u, ¬ px u)
    (kk : ∀ (u : S) (H1 : Heap) (locs1 : List Loc), post u → zPD D A (ws.set k c') H1 → va_S A s.heap H1 locs1 → W p l e R s m args below meth c H1 locs1 (cells + mc) (slots + ms) Q (F0 m pc2 ls ((rv u).toList ++ rest))) : W p l e R s m args below meth c H locs cells slots Q (F0 m pc ls st0) := by
  subst h9
  refine zxcall hr hw hS hA [k0, k] (lrs ws.length [k0, k]) (ktwo hk0 hk) (zval _ lrs_all) lrs_nd lrs_dis (fun E ce q9 t H locs hp hE hw hS hce hcv hcl => absurd hp (hpx _)) (fun u H1 l1 hp hz hs => kk u H1 l1 hp (zback hw hz (zfset hk hc) (fun z hz9 => ?_)) hs)
  rcases zmset hz9 with rfl | ⟨i, hi, hi2⟩
  · exact List.mem_append_right _ (List.mem_cons_of_mem _ (List.mem_singleton.mpr rfl))
  · by_cases h0 : i = k0
    · subst h0
      rw [hk0] at hi2
      cases hi2
      exact List.mem_append_right _ List.mem_cons_self
    · exact List.mem_append_left _ (lrs_mem hi2 (by
        intro h
        rcases List.mem_cons.mp h with h | h
        · exact h0 h
        · exact hi (List.mem_singleton.mp h)))
end LB
section LC
variable {D : va_G} {ct : Nat → ClassId} {E y ym : Nat → Nat} {A : Nat → Prop} {r rm : zRr} {q qm : zRq} {h2 h3 : Nat} {fo fo' : Nat → Int64} {v : Int32}
theorem l195 : (lW ct E y r q h2 ym rm qm h3 fo)[195]? = some (y 195, .inr (10, [.ref (y 196), .ref (y 171), .ref (y 183), .ref (y 198), .ref (y 138), .ref (y 142), .ref (y 199), .ref (y 200), .ref (y 6), .ref (y 12), .ref (y 162), .ref (y 205), .ref (y 206), .int (r 195 13), .int (r 195 14)])) := by
  unfold lW
  rw [List.getElem?_append_left (by rw [kWlen]; decide)]; exact kg195
theorem l207 : (lW ct E y r q h2 ym rm qm h3 fo)[207]? = some (h2, .inr (11, mF ym rm qm)) := by
  unfold lW
  rw [List.getElem?_append_right (by rw [kWlen]; decide), kWlen]; rfl
theorem l247 : (lW ct E y r q h2 ym rm qm h3 fo)[247]? = some (h3, .inl (ct 1, 1, .inr (.inl fo))) := by
  unfold lW
  rw [List.getElem?_append_right (by rw [kWlen]; decide), kWlen]; rfl
theorem ls247 : (lW ct E y r q h2 ym rm qm h3 fo).set 247 (h3, .inl (ct 1, 1, .inr (.inl fo'))) = lW ct E y r q h2 ym rm qm h3 fo' := by
  unfold lW
  rw [List.set_append_right _ _ (by rw [kWlen]; decide), kWlen]; rfl
theorem ls207 : (lW ct E y r q h2 ym rm qm h3 fo).set 207 (h2, .inr (11, (mF ym rm qm).set 0 (.int v))) = lW ct E y r q h2 ym (zset rm 100 (fun _ => v)) qm h3 fo := by
  unfold lW
  rw [List.set_append_right _ _ (by rw [kWlen]; decide), kWlen]; rfl
end LC
theorem lroom1 {cells slots : Nat} (h : cells ≤ 600000 ∧ slots ≤ 7290000) : cells + 1 ≤ room_1.cells ∧ slots + 6 ≤ room_1.slots := ⟨Nat.le_trans (Nat.succ_le_succ h.1) (Nat.le_of_ble_eq_true rfl), Nat.le_trans (Nat.add_le_add_right h.2 6) (Nat.le_of_ble_eq_true rfl)⟩
theorem lroom2 {cells slots : Nat} (h : cells ≤ 600000 ∧ slots ≤ 7290000) : cells + 1 + 0 ≤ room_1.cells ∧ slots + 6 + 0 ≤ room_1.slots := lroom1 h
end
section
/-! ===== feed on both sides: the tapes are as long ===== -/
/-- the tape of the reference: how long, its signs -/
noncomputable def mTp (r : zRr) : Nat × (Nat → Int32) := (zn (r 101 0), r 0)
noncomputable def mfd (r : zRr) (a b c : Int64) : zRr := zset (zset (zset r 100 (fun _ => 0)) 101 (fun _ => nI (ztp3 a b c 24 (mTp r)).1)) 0 (ztp3 a b c 24 (mTp r)).2
noncomputable def mW2 (ct : Nat → ClassId) (h0 : Nat) (y : Nat → Nat) (r : zRr) (q : zRq) : va_W := [(h0, .inr (11, mF y r q)), (y 0, .inl (ct 0, 1000, .inl (r 0)))]
noncomputable def mWt (ct : Nat → ClassId) (y : Nat → Nat) (r : zRr) (q : zRq) : va_W := (mW ct 0 y r q).drop 2
theorem mTp_ix {B : Int} {r : zRr} (h : mJ B r) : r 101 0 = nI (mTp r).1 ∧ (mTp r).1 ≤ 1000 := by
  have h9 := (show zI 0 1000 (r 101 0) from h.i 101 0).ix (n := 1001) (by decide)
  exact ⟨h9.1, Nat.le_of_lt_succ h9.2⟩
theorem mfdJ {B : Int} {r : zRr} {a b c : Int64} (h : mJ B r) : mJ B (mfd r a b c) :=
  ((h.setc (k := 100) rfl (fun _ => zI.top _)).setc (k := 101) rfl (fun _ => show zI 0 1000 (nI (ztp3 a b c 24 (mTp r)).1) from zI.ofN (ztp3_le (mTp_ix h).2))).setr (k := 0) rfl (fun _ => zI.top _)
set_option maxHeartbeats 4000000 in
theorem r_feedM (l : Launch) (D : va_G) (ct : Nat → ClassId) (h0 : Nat) (y : Nat → Nat) (a b c : Int64) (r : zRr) (q : zRq) {B : Int} (h : mJ B r) : zC l yX12_feed wsX12_feed ({ frames := 1, cells := 0, slots := 0, locals := 80 }) D ct [] [.ref h0, .long a, .long b, .long c] (mW2 ct h0 y r q) (S := Unit) (fun _ => some (.int (nI (ztp3 a b c 24 (mTp r)).1))) (fun _ => True) (fun _ => mW2 ct h0 y (mfd r a b c) q) 0 0 := by
  have h1 := r_feedG l D ct h0 y a b c r q (mTp r).1 (mTp_ix h).2
  rw [← (mTp_ix h).1] at h1
  exact h1
theorem lnd7 : va_nd (List.range' 2 246) = true := by decide +kernel
theorem lnd8 : va_nd (List.range' 246 2 ++ List.range' 0 246) = true := by decide +kernel
section LF
variable {p : Program} {l : Launch} {e : Env} {R : Room} {s : State} {m : MethodId} {args : Array Value} {below : List Frame} {meth : Method} {c : Code} {H : Heap} {locs : List Loc} {cells slots : Nat} {Q : State → Prop}
variable {cc : ByteArray} {pc : Nat} {ls : Array Slot} {rest st0 : List Value} {D : va_G} {ct : Nat → ClassId} {E y ym : Nat → Nat} {A : Nat → Prop} {r rm : zRr} {q qm : zRq} {h2 h3 : Nat} {fo : Nat → Int64}
theorem lrot2 (hw : zPD D A (lW ct E y r q h2 ym rm qm h3 fo) H) : zPD D A (mW2 ct h2 ym rm qm ++ (mWt ct ym rm qm ++ (kW ct E y r q ++ [(h3, .inl (ct 1, 1, .inr (.inl fo)))]))) H := lrot hw
theorem lcallF {S : Type} {rv : S → Option Value} {post : S → Prop} {a9 : Array Value} {u1 u2 u3 : Int64} (hr : va_Run p l e R s m args below meth c H locs cells slots 0 0 (F0 m pc ls st0) rest (zQ D (va_A (mW2 ct h2 ym rm qm) H.size) rv post (fun _ => mW2 ct h2 ym (mfd rm u1 u2 u3) qm) a9) (va_A (mW2 ct h2 ym rm qm) H.size)) (hw : zPD D A (mW2 ct h2 ym rm qm ++ (mWt ct ym rm qm ++ (kW ct E y r q ++ [(h3, .inl (ct 1, 1, .inr (.inl fo)))]))) H) (hS : va_S A s.heap H locs) (hA : ∀ q, s.heap.size ≤ q → A q) (pc2 : Nat) (h9 : pc + 3 = pc2)
    (kk : ∀ (u : S) (H1 : Heap) (locs1 : List Loc), post u → zPD D A (lW ct E y r q h2 ym (mfd rm u1 u2 u3) qm h3 fo) H1 → va_S A s.heap H1 locs1 → W p l e R s m args below meth c H1 locs1 cells slots Q (F0 m pc2 ls ((rv u).toList ++ rest))) : W p l e R s m args below meth c H locs cells slots Q (F0 m pc ls st0) := by
  refine lcall (na := 2) (nb := 246) rfl (by rw [List.length_append, List.length_append, kWlen]; rfl) (fun _ => rfl) lnd7 lnd8 hr hw hS hA pc2 h9 (fun u H1 l1 hp hz hs => kk u H1 l1 hp ?_ hs)
  have hz : zPD D A (mW ct h2 ym (mfd rm u1 u2 u3) qm ++ (kW ct E y r q ++ [(h3, .inl (ct 1, 1, .inr (.inl fo)))])) H1 := hz
  exact zPD.rot (na := 40) (nb := 207) (nd := 1) mWl kWlen rfl lnd6 hz
end LF
/-- a long of two numbers of a script -/
noncomputable def lLg (x y : Int32) : Int64 := (x.toInt64 <<< ((32 : Int32).toInt64 &&& 63)) ||| (y.toInt64 &&& 4294967295)
end
theorem lfeed2 {r r1 rm : zRr} {a b c : Int64} {B : Int} (hM : mJ B rm) (hJ : kJ r1) (hT : lT r rm) (h2 : kTp r1 = ztp c 8 (ztp b 8 (ztp a 8 (kTp r)))) : lT r1 (mfd rm a b c) := by
  have hag := ztp3_ag (a := a) (b := b) (c := c) (j := 24) (t := kTp r) (t' := mTp rm) ⟨by show zn (r 196 1) = zn (rm 101 0); rw [hT.1], fun i hi => hT.2 i (by have hi : i < zn (r 196 1) := hi; rw [hT.1] at hi; exact hi)⟩
  rw [ztp3_24, ← h2] at hag
  have hle := ztp3_le (a := a) (b := b) (c := c) (j := 24) (mTp_ix hM).2
  refine ⟨?_, fun i hi => ?_⟩
  · show r1 196 1 = nI (ztp3 a b c 24 (mTp rm)).1
    rw [(kTp_ix hJ).1, hag.1]
  · have hi : i < zn (nI (ztp3 a b c 24 (mTp rm)).1) := hi
    rw [xzn (by omega), ← hag.1] at hi
    exact hag.2 i hi
theorem lR.feed {r r1 : zRr} {q : zRq} {rm : zRr} {qm : zRq} {a b c : Int64} {B : Int} (hM : mJ B rm) (hJ : kJ r1) (h : lR r q rm qm) (f : zFr [196, 197] r r1) (h2 : kTp r1 = ztp c 8 (ztp b 8 (ztp a 8 (kTp r)))) : lR r1 q (mfd rm a b c) qm := by
  have g : zFr [0, 100, 101] rm (mfd rm a b c) := ((zFr.refl.set rfl).set rfl).set rfl
  have kf : ∀ a, a ≠ 196 → a ≠ 197 → r1 a = r a := fun a a1 a2 => f a (by
    cases e : [196, 197].contains a with
    | false => rfl
    | true =>
      have := List.contains_iff_mem.mp e
      simp only [List.mem_cons, List.not_mem_nil, or_false] at this
      omega)
  obtain ⟨g1, ⟨t, p, g2⟩, g3, g4⟩ := h
  exact ⟨lfeed2 hM hJ g1 h2, ⟨t, p, g2.fr (fun a ha => kf a (by omega) (by omega)) (fun i _ => by rw [g 32 rfl]) (by rw [g 152 rfl]; exact g2.2.2.2.2.2) g (by decide)⟩, g3.fr (fun k hk => kf _ (by omega) (by omega)) (g 37 rfl), g4.fr (fun k hk => kf _ (by omega) (by omega)) (g 29 rfl)⟩
section
section LCV
variable {p : Program} {l : Launch} {e : Env} {R : Room} {s : State} {m : MethodId} {args : Array Value} {below : List Frame} {meth : Method} {c : Code} {H : Heap} {locs : List Loc} {cells slots : Nat} {Q : State → Prop}
variable {cc : ByteArray} {pc : Nat} {ls : Array Slot} {rest st0 : List Value} {D : va_G} {ct : Nat → ClassId} {A : Nat → Prop}
variable {E y ym : Nat → Nat} {r rm : zRr} {q qm : zRq} {b : Addr} {h2 h3 : Nat} {fo : Nat → Int64}
theorem lcX {S : Type} {rv : S → Option Value} {post : S → Prop} {r1 : S → zRr} {q1 : S → zRq} {y0 : MethodName} {bytes : ByteArray} {maxL nL n index : Nat} {ret : Option FieldType} {ws : List Cond} {ro : Room} {Ts : List Cond} {own C : String} {As : List Value} (fx : CallFix p m c cc nL s args Ts own) (hM : cC l y0 ws ro D ct E (.ref b :: As) (kW ct E y r q) rv post (fun u => kW ct E y (r1 u) (q1 u))) (cw : CallW R s args own C index y0 bytes maxL ret ws ro 0 0 n) (hw : zPD D A (lW ct E y r q h2 ym rm qm h3 fo) H) (hS : va_S A s.heap H locs) (hA : ∀ q, s.heap.size ≤ q → A q) (hK : va_K D vwCl (zT ct) s) (hZ : eZ E A s s.heap) (hN : zN s) (ci q0 : Nat) {T9 : u_T} {N9 : Nat} (hc : vwCl[ci]? = some (C, T9, N9)) {fs : List Value} (he : (kW ct E y r q)[q0]? = some (b, .inr (ci, fs))) (hn : As.length = n) (hsize : ls.size = nL) (hstack : st0 = As.reverse ++ .ref b :: rest) (hW : (rest.map fun v => v.category).sum ≤ 8) (hdg : decode cc pc = .ok (.invokevirtual index, 3)) (hf : cells + 0 ≤ R.cells ∧ slots + 0 ≤ R.slots) (pc2 : Nat) (h9 : pc + 3 = pc2)
    (kk : ∀ (u : S) (H1 : Heap) (locs1 : List Loc), post u → zPD D A (lW ct E y (r1 u) (q1 u) h2 ym rm qm h3 fo) H1 → va_S A s.heap H1 locs1 → W p l e R s m args below meth c H1 locs1 cells slots Q (F0 m pc2 ls ((rv u).toList ++ rest))) : W p l e R s m args below meth c H locs cells slots Q (F0 m pc ls st0) :=
  lcallX (va_runV fx (hM H.size) cw (lpreC (q := (C, T9, N9)) hK hw hS hA hZ hN kWlen (zndr 0 207) ci q0 hc he) rfl hn hsize hstack (lv_room hW) hdg hf) hw hS hA pc2 h9 kk
theorem lcM {S : Type} {rv : S → Option Value} {post : S → Prop} {r1 : S → zRr} {q1 : S → zRq} {y0 : MethodName} {bytes : ByteArray} {maxL nL n index : Nat} {ret : Option FieldType} {ws : List Cond} {ro : Room} {Ts : List Cond} {own : String} {As : List Value} (fx : CallFix p m c cc nL s args Ts own) (hM : zC l y0 ws ro D ct [] (.ref h2 :: As) (mW ct h2 ym rm qm) rv post (fun u => mW ct h2 ym (r1 u) (q1 u)) 0 0) (cw : CallW R s args own RX12 index y0 bytes maxL ret ws ro 0 0 n) (hw : zPD D A (mW ct h2 ym rm qm ++ (kW ct E y r q ++ [(h3, .inl (ct 1, 1, .inr (.inl fo)))])) H) (hS : va_S A s.heap H locs) (hA : ∀ q, s.heap.size ≤ q → A q) (hK : va_K D vwCl (zT ct) s) (hN : zN s) (hn : As.length = n) (hsize : ls.size = nL) (hstack : st0 = As.reverse ++ .ref h2 :: rest) (hW : (rest.map fun v => v.category).sum ≤ 8) (hdg : decode cc pc = .ok (.invokevirtual index, 3)) (hf : cells + 0 ≤ R.cells ∧ slots + 0 ≤ R.slots) (pc2 : Nat) (h9 : pc + 3 = pc2)
    (kk : ∀ (u : S) (H1 : Heap) (locs1 : List Loc), post u → zPD D A (lW ct E y r q h2 ym (r1 u) (q1 u) h3 fo) H1 → va_S A s.heap H1 locs1 → W p l e R s m args below meth c H1 locs1 cells slots Q (F0 m pc2 ls ((rv u).toList ++ rest))) : W p l e R s m args below meth c H locs cells slots Q (F0 m pc ls st0) :=
  lcallM (va_runV fx (hM H.size) cw (lpreZ hK hw hS hA hN mWl (zndr 0 40) 11 0 rfl mWo) rfl hn hsize hstack (lv_room hW) hdg hf) hw hS hA pc2 h9 kk
end LCV
end
set_option maxHeartbeats 4000000 in
set_option maxRecDepth 100000 in
theorem kl_0 {p : Program} {l : Launch} {e : Env} {s : State} {m : MethodId} {below : List Frame} {meth : Method} {c : Code} {b L : Nat} {xs : Nat → Int32} (C0 : lw_At p s m meth c b L xs) {D : va_G} {ct : Nat → ClassId} {E : Nat → Nat} (hK : va_K D vwCl (zT ct) s) (hN : zN s) (hZ : eZ E (fun q : Nat => s.heap.size ≤ q) s s.heap) (y ym : Nat → Nat) (h2 h3 t : Nat) (ht : 7 * t + 7 ≤ L) (hL : L ≤ 3584) (r : zRr) (q : zRq) (rm : zRr) (qm : zRq) (fo : Nat → Int64) (hJ : kJ r) (hM : mJ 20 rm) (hT : lR r q rm qm) (hEi : kEi E) (cells slots : Nat) (hcs : cells ≤ 600000 ∧ slots ≤ 7290000)
    (kk : kEnd p l e s m below meth c b D ct E y ym h2 h3 t cells slots) (H : Heap) (locs : List Loc) (hw : zPD D (fun q : Nat => s.heap.size ≤ q) (lW ct E y r q h2 ym rm qm h3 fo) H) (hS : va_S (fun q : Nat => s.heap.size ≤ q) s.heap H locs) (ls : Array Slot) (hl : lv_has ls 7 [(4, .int (nI (7 * t))), (3, .ref h3), (2, .ref h2), (1, .ref (y 195)), (0, .ref b)]) : W p l e room_1 s m #[Value.ref b] below meth c H locs cells slots (lw_Z below #[Value.ref b] s) (F0 m 188 ls []) := by
  obtain ⟨hx, hb, hr, hml, hown, hts, hX, hbl, hlocks, hgv⟩ := id C0
  have hown : s.vm.findClass RL = some m.cls := hown
  have htl : ∀ w ∈ wsL_law0, w.before #[Value.ref b] s = true := fun w h => hts w (wsL_law_in0 w h)
  have hA : ∀ q : Nat, s.heap.size ≤ q → (fun q : Nat => s.heap.size ≤ q) q := fun _ h => h
  have hbA : ¬ (fun q : Nat => s.heap.size ≤ q) b := Nat.not_le.mpr hbl
  refine lv_aload_n hx hb dL_law_188 rfl (lv_at hl 3 rfl) ?_
  refine lv_aload_n hx hb dL_law_189 rfl (lv_at hl 4 rfl) ?_
  refine lv_iload hx hb dL_law_190 (lv_at hl 0 rfl) ?_
  refine lv_iconst (v := 1) hx hb dL_law_192 (by decide) ?_
  refine lv_iadd hx hb dL_law_193 (ztop (.int (nI (7 * t + 1))) (congrArg Value.int (nI_add _ 1)) ?_)
  refine va_sld hx hb hX hbl hbA hS (zix (k := 7 * t + 1) rfl (by omega) (by omega)).1 dL_law_194 (ztop (.int (xs (7 * t + 1))) (congrArg Value.int (congrArg xs (nI_clamp (by omega)))) ?_)
  refine lv_i2l (v := (xs (7 * t + 1)).toInt64) hx hb dL_law_195 rfl ?_
  refine lv_bipush (v := 32) hx hb dL_law_196 (by decide) ?_
  refine lv_lshl (v := (xs (7 * t + 1)).toInt64 <<< ((32 : Int32).toInt64 &&& 63)) hx hb dL_law_198 rfl ?_
  refine lv_aload_n hx hb dL_law_199 rfl (lv_at hl 4 rfl) ?_
  refine lv_iload hx hb dL_law_200 (lv_at hl 0 rfl) ?_
  refine lv_iconst (v := 2) hx hb dL_law_202 (by decide) ?_
  refine lv_iadd hx hb dL_law_203 (ztop (.int (nI (7 * t + 2))) (congrArg Value.int (nI_add _ 2)) ?_)
  refine va_sld hx hb hX hbl hbA hS (zix (k := 7 * t + 2) rfl (by omega) (by omega)).1 dL_law_204 (ztop (.int (xs (7 * t + 2))) (congrArg Value.int (congrArg xs (nI_clamp (by omega)))) ?_)
  refine lv_i2l (v := (xs (7 * t + 2)).toInt64) hx hb dL_law_205 rfl ?_
  refine lv_ldc2 hx hb hown (htl (.constantLong RL 19 4294967295) (zr1 7 rfl)) dL_law_206 ?_
  refine lv_land hx hb dL_law_209 ?_
  refine lv_lor hx hb dL_law_210 (ztop (.long (lLg (xs (7 * t + 1)) (xs (7 * t + 2)))) rfl ?_)
  refine lv_aload_n hx hb dL_law_211 rfl (lv_at hl 4 rfl) ?_
  refine lv_iload hx hb dL_law_212 (lv_at hl 0 rfl) ?_
  refine lv_iconst (v := 3) hx hb dL_law_214 (by decide) ?_
  refine lv_iadd hx hb dL_law_215 (ztop (.int (nI (7 * t + 3))) (congrArg Value.int (nI_add _ 3)) ?_)
  refine va_sld hx hb hX hbl hbA hS (zix (k := 7 * t + 3) rfl (by omega) (by omega)).1 dL_law_216 (ztop (.int (xs (7 * t + 3))) (congrArg Value.int (congrArg xs (nI_clamp (by omega)))) ?_)
  refine lv_i2l (v := (xs (7 * t + 3)).toInt64) hx hb dL_law_217 rfl ?_
  refine lv_bipush (v := 32) hx hb dL_law_218 (by decide) ?_
  refine lv_lshl (v := (xs (7 * t + 3)).toInt64 <<< ((32 : Int32).toInt64 &&& 63)) hx hb dL_law_220 rfl ?_
  refine lv_aload_n hx hb dL_law_221 rfl (lv_at hl 4 rfl) ?_
  refine lv_iload hx hb dL_law_222 (lv_at hl 0 rfl) ?_
  refine lv_iconst (v := 4) hx hb dL_law_224 (by decide) ?_
  refine lv_iadd hx hb dL_law_225 (ztop (.int (nI (7 * t + 4))) (congrArg Value.int (nI_add _ 4)) ?_)
  refine va_sld hx hb hX hbl hbA hS (zix (k := 7 * t + 4) rfl (by omega) (by omega)).1 dL_law_226 (ztop (.int (xs (7 * t + 4))) (congrArg Value.int (congrArg xs (nI_clamp (by omega)))) ?_)
  refine lv_i2l (v := (xs (7 * t + 4)).toInt64) hx hb dL_law_227 rfl ?_
  refine lv_ldc2 hx hb hown (htl (.constantLong RL 19 4294967295) (zr1 7 rfl)) dL_law_228 ?_
  refine lv_land hx hb dL_law_231 ?_
  refine lv_lor hx hb dL_law_232 (ztop (.long (lLg (xs (7 * t + 3)) (xs (7 * t + 4)))) rfl ?_)
  refine lv_aload_n hx hb dL_law_233 rfl (lv_at hl 4 rfl) ?_
  refine lv_iload hx hb dL_law_234 (lv_at hl 0 rfl) ?_
  refine lv_iconst (v := 5) hx hb dL_law_236 (by decide) ?_
  refine lv_iadd hx hb dL_law_237 (ztop (.int (nI (7 * t + 5))) (congrArg Value.int (nI_add _ 5)) ?_)
  refine va_sld hx hb hX hbl hbA hS (zix (k := 7 * t + 5) rfl (by omega) (by omega)).1 dL_law_238 (ztop (.int (xs (7 * t + 5))) (congrArg Value.int (congrArg xs (nI_clamp (by omega)))) ?_)
  refine lv_i2l (v := (xs (7 * t + 5)).toInt64) hx hb dL_law_239 rfl ?_
  refine lv_bipush (v := 32) hx hb dL_law_240 (by decide) ?_
  refine lv_lshl (v := (xs (7 * t + 5)).toInt64 <<< ((32 : Int32).toInt64 &&& 63)) hx hb dL_law_242 rfl ?_
  refine lv_aload_n hx hb dL_law_243 rfl (lv_at hl 4 rfl) ?_
  refine lv_iload hx hb dL_law_244 (lv_at hl 0 rfl) ?_
  refine lv_bipush (v := 6) hx hb dL_law_246 (by decide) ?_
  refine lv_iadd hx hb dL_law_248 (ztop (.int (nI (7 * t + 6))) (congrArg Value.int (nI_add _ 6)) ?_)
  refine va_sld hx hb hX hbl hbA hS (zix (k := 7 * t + 6) rfl (by omega) (by omega)).1 dL_law_249 (ztop (.int (xs (7 * t + 6))) (congrArg Value.int (congrArg xs (nI_clamp (by omega)))) ?_)
  refine lv_i2l (v := (xs (7 * t + 6)).toInt64) hx hb dL_law_250 rfl ?_
  refine lv_ldc2 hx hb hown (htl (.constantLong RL 19 4294967295) (zr1 7 rfl)) dL_law_251 ?_
  refine lv_land hx hb dL_law_254 ?_
  refine lv_lor hx hb dL_law_255 (ztop (.long (lLg (xs (7 * t + 5)) (xs (7 * t + 6)))) rfl ?_)
  refine lcX (As := [.long (lLg (xs (7 * t + 1)) (xs (7 * t + 2))), .long (lLg (xs (7 * t + 3)) (xs (7 * t + 4))), .long (lLg (xs (7 * t + 5)) (xs (7 * t + 6)))]) (rest := []) ⟨hx, hb, hml, hown, htl⟩ (kc_feed l D ct E y (lLg (xs (7 * t + 1)) (xs (7 * t + 2))) (lLg (xs (7 * t + 3)) (xs (7 * t + 4))) (lLg (xs (7 * t + 5)) (xs (7 * t + 6))) r q hJ) (cwV 3 htl (klV (zr9 11 rfl) (zr9 12 rfl) (zr9 13 rfl) (zr1 2 rfl) (zr9 14 rfl)) rfl rfl rfl (by decide +kernel) ⟨Nat.le_of_ble_eq_true rfl, Nat.le_of_ble_eq_true rfl⟩) hw hS hA hK hZ hN 10 195 rfl kg195 rfl hl.1 rfl (Nat.le_of_ble_eq_true rfl) dL_law_256 (lroom hcs) 259 rfl (fun u16 H locs pu16 hw hS => ?_)
  have kh17 := pu16.2.1
  have hw : zPD D (fun q : Nat => s.heap.size ≤ q) (lW ct E y u16.2 q h2 ym rm qm h3 fo) H := hw
  refine zfr 259 [.int u16.1] rfl rfl ?_
  refine lv_pop hx hb dL_law_259 rfl ?_
  refine lv_aload_n hx hb dL_law_260 rfl (lv_at hl 2 rfl) ?_
  refine lv_aload_n hx hb dL_law_261 rfl (lv_at hl 4 rfl) ?_
  refine lv_iload hx hb dL_law_262 (lv_at hl 0 rfl) ?_
  refine lv_iconst (v := 1) hx hb dL_law_264 (by decide) ?_
  refine lv_iadd hx hb dL_law_265 (ztop (.int (nI (7 * t + 1))) (congrArg Value.int (nI_add _ 1)) ?_)
  refine va_sld hx hb hX hbl hbA hS (zix (k := 7 * t + 1) rfl (by omega) (by omega)).1 dL_law_266 (ztop (.int (xs (7 * t + 1))) (congrArg Value.int (congrArg xs (nI_clamp (by omega)))) ?_)
  refine lv_i2l (v := (xs (7 * t + 1)).toInt64) hx hb dL_law_267 rfl ?_
  refine lv_bipush (v := 32) hx hb dL_law_268 (by decide) ?_
  refine lv_lshl (v := (xs (7 * t + 1)).toInt64 <<< ((32 : Int32).toInt64 &&& 63)) hx hb dL_law_270 rfl ?_
  refine lv_aload_n hx hb dL_law_271 rfl (lv_at hl 4 rfl) ?_
  refine lv_iload hx hb dL_law_272 (lv_at hl 0 rfl) ?_
  refine lv_iconst (v := 2) hx hb dL_law_274 (by decide) ?_
  refine lv_iadd hx hb dL_law_275 (ztop (.int (nI (7 * t + 2))) (congrArg Value.int (nI_add _ 2)) ?_)
  refine va_sld hx hb hX hbl hbA hS (zix (k := 7 * t + 2) rfl (by omega) (by omega)).1 dL_law_276 (ztop (.int (xs (7 * t + 2))) (congrArg Value.int (congrArg xs (nI_clamp (by omega)))) ?_)
  refine lv_i2l (v := (xs (7 * t + 2)).toInt64) hx hb dL_law_277 rfl ?_
  refine lv_ldc2 hx hb hown (htl (.constantLong RL 19 4294967295) (zr1 7 rfl)) dL_law_278 ?_
  refine lv_land hx hb dL_law_281 ?_
  refine lv_lor hx hb dL_law_282 (ztop (.long (lLg (xs (7 * t + 1)) (xs (7 * t + 2)))) rfl ?_)
  refine lv_aload_n hx hb dL_law_283 rfl (lv_at hl 4 rfl) ?_
  refine lv_iload hx hb dL_law_284 (lv_at hl 0 rfl) ?_
  refine lv_iconst (v := 3) hx hb dL_law_286 (by decide) ?_
  refine lv_iadd hx hb dL_law_287 (ztop (.int (nI (7 * t + 3))) (congrArg Value.int (nI_add _ 3)) ?_)
  refine va_sld hx hb hX hbl hbA hS (zix (k := 7 * t + 3) rfl (by omega) (by omega)).1 dL_law_288 (ztop (.int (xs (7 * t + 3))) (congrArg Value.int (congrArg xs (nI_clamp (by omega)))) ?_)
  refine lv_i2l (v := (xs (7 * t + 3)).toInt64) hx hb dL_law_289 rfl ?_
  refine lv_bipush (v := 32) hx hb dL_law_290 (by decide) ?_
  refine lv_lshl (v := (xs (7 * t + 3)).toInt64 <<< ((32 : Int32).toInt64 &&& 63)) hx hb dL_law_292 rfl ?_
  refine lv_aload_n hx hb dL_law_293 rfl (lv_at hl 4 rfl) ?_
  refine lv_iload hx hb dL_law_294 (lv_at hl 0 rfl) ?_
  refine lv_iconst (v := 4) hx hb dL_law_296 (by decide) ?_
  refine lv_iadd hx hb dL_law_297 (ztop (.int (nI (7 * t + 4))) (congrArg Value.int (nI_add _ 4)) ?_)
  refine va_sld hx hb hX hbl hbA hS (zix (k := 7 * t + 4) rfl (by omega) (by omega)).1 dL_law_298 (ztop (.int (xs (7 * t + 4))) (congrArg Value.int (congrArg xs (nI_clamp (by omega)))) ?_)
  refine lv_i2l (v := (xs (7 * t + 4)).toInt64) hx hb dL_law_299 rfl ?_
  refine lv_ldc2 hx hb hown (htl (.constantLong RL 19 4294967295) (zr1 7 rfl)) dL_law_300 ?_
  refine lv_land hx hb dL_law_303 ?_
  refine lv_lor hx hb dL_law_304 (ztop (.long (lLg (xs (7 * t + 3)) (xs (7 * t + 4)))) rfl ?_)
  refine lv_aload_n hx hb dL_law_305 rfl (lv_at hl 4 rfl) ?_
  refine lv_iload hx hb dL_law_306 (lv_at hl 0 rfl) ?_
  refine lv_iconst (v := 5) hx hb dL_law_308 (by decide) ?_
  refine lv_iadd hx hb dL_law_309 (ztop (.int (nI (7 * t + 5))) (congrArg Value.int (nI_add _ 5)) ?_)
  refine va_sld hx hb hX hbl hbA hS (zix (k := 7 * t + 5) rfl (by omega) (by omega)).1 dL_law_310 (ztop (.int (xs (7 * t + 5))) (congrArg Value.int (congrArg xs (nI_clamp (by omega)))) ?_)
  refine lv_i2l (v := (xs (7 * t + 5)).toInt64) hx hb dL_law_311 rfl ?_
  refine lv_bipush (v := 32) hx hb dL_law_312 (by decide) ?_
  refine lv_lshl (v := (xs (7 * t + 5)).toInt64 <<< ((32 : Int32).toInt64 &&& 63)) hx hb dL_law_314 rfl ?_
  refine lv_aload_n hx hb dL_law_315 rfl (lv_at hl 4 rfl) ?_
  refine lv_iload hx hb dL_law_316 (lv_at hl 0 rfl) ?_
  refine lv_bipush (v := 6) hx hb dL_law_318 (by decide) ?_
  refine lv_iadd hx hb dL_law_320 (ztop (.int (nI (7 * t + 6))) (congrArg Value.int (nI_add _ 6)) ?_)
  refine va_sld hx hb hX hbl hbA hS (zix (k := 7 * t + 6) rfl (by omega) (by omega)).1 dL_law_321 (ztop (.int (xs (7 * t + 6))) (congrArg Value.int (congrArg xs (nI_clamp (by omega)))) ?_)
  refine lv_i2l (v := (xs (7 * t + 6)).toInt64) hx hb dL_law_322 rfl ?_
  refine lv_ldc2 hx hb hown (htl (.constantLong RL 19 4294967295) (zr1 7 rfl)) dL_law_323 ?_
  refine lv_land hx hb dL_law_326 ?_
  refine lv_lor hx hb dL_law_327 (ztop (.long (lLg (xs (7 * t + 5)) (xs (7 * t + 6)))) rfl ?_)
  have hw := lrot2 hw
  refine lcallF (va_runV (As := [.long (lLg (xs (7 * t + 1)) (xs (7 * t + 2))), .long (lLg (xs (7 * t + 3)) (xs (7 * t + 4))), .long (lLg (xs (7 * t + 5)) (xs (7 * t + 6)))]) (rest := []) ⟨hx, hb, hml, hown, htl⟩ (r_feedM l D ct h2 ym (lLg (xs (7 * t + 1)) (xs (7 * t + 2))) (lLg (xs (7 * t + 3)) (xs (7 * t + 4))) (lLg (xs (7 * t + 5)) (xs (7 * t + 6))) rm qm hM H.size) (cwV 3 htl (klVm (zr9 21 rfl) (zr9 22 rfl) (zr9 23 rfl) (zr1 5 rfl) mL_X12_feed) rfl rfl rfl (by decide +kernel) ⟨Nat.le_of_ble_eq_true rfl, Nat.le_of_ble_eq_true rfl⟩) (lpreZ hK hw hS hA hN (show (mW2 ct h2 ym rm qm).length = 2 from rfl) (by decide +kernel) 11 0 rfl rfl) rfl rfl hl.1 rfl (lv_room (Nat.le_of_ble_eq_true rfl)) dL_law_328 (lroom hcs)) hw hS hA 331 rfl (fun u34 H locs _ hw hS => ?_)
  have hf9 := lR.feed (a := (lLg (xs (7 * t + 1)) (xs (7 * t + 2)))) (b := (lLg (xs (7 * t + 3)) (xs (7 * t + 4)))) (c := (lLg (xs (7 * t + 5)) (xs (7 * t + 6)))) hM kh17 hT pu16.2.2.2.2.1 pu16.2.2.2.1
  have hM9 : mJ 20 (mfd rm (lLg (xs (7 * t + 1)) (xs (7 * t + 2))) (lLg (xs (7 * t + 3)) (xs (7 * t + 4))) (lLg (xs (7 * t + 5)) (xs (7 * t + 6)))) := mfdJ hM
  have hw : zPD D (fun q : Nat => s.heap.size ≤ q) (lW ct E y u16.2 q h2 ym (mfd rm (lLg (xs (7 * t + 1)) (xs (7 * t + 2))) (lLg (xs (7 * t + 3)) (xs (7 * t + 4))) (lLg (xs (7 * t + 5)) (xs (7 * t + 6)))) qm h3 fo) H := hw
  refine zfr 331 [.int (nI (ztp3 (lLg (xs (7 * t + 1)) (xs (7 * t + 2))) (lLg (xs (7 * t + 3)) (xs (7 * t + 4))) (lLg (xs (7 * t + 5)) (xs (7 * t + 6))) 24 (mTp rm)).1)] rfl rfl ?_
  refine lv_pop hx hb dL_law_331 rfl ?_
  refine lv_goto (tgt := 1278) hx hb dL_law_332 (by decide) ?_
  exact kk u16.2 q (mfd rm (lLg (xs (7 * t + 1)) (xs (7 * t + 2))) (lLg (xs (7 * t + 3)) (xs (7 * t + 4))) (lLg (xs (7 * t + 5)) (xs (7 * t + 6)))) qm fo cells slots kh17 hM9 hf9 (Nat.le_succ _) (Nat.le_add_right _ _) H locs ls hw hS (lv_sub hl [0, 1, 2, 3, 4] rfl)

set_option maxHeartbeats 4000000 in
set_option maxRecDepth 100000 in
theorem kl_1 {p : Program} {l : Launch} {e : Env} {s : State} {m : MethodId} {below : List Frame} {meth : Method} {c : Code} {b L : Nat} {xs : Nat → Int32} (C0 : lw_At p s m meth c b L xs) {D : va_G} {ct : Nat → ClassId} {E : Nat → Nat} (hK : va_K D vwCl (zT ct) s) (hN : zN s) (hZ : eZ E (fun q : Nat => s.heap.size ≤ q) s s.heap) (y ym : Nat → Nat) (h2 h3 t : Nat) (ht : 7 * t + 7 ≤ L) (hL : L ≤ 3584) (r : zRr) (q : zRq) (rm : zRr) (qm : zRq) (fo : Nat → Int64) (hJ : kJ r) (hM : mJ 20 rm) (hT : lR r q rm qm) (hEi : kEi E) (cells slots : Nat) (hcs : cells ≤ 600000 ∧ slots ≤ 7290000)
    (kk : kEnd p l e s m below meth c b D ct E y ym h2 h3 t cells slots) (H : Heap) (locs : List Loc) (hw : zPD D (fun q : Nat => s.heap.size ≤ q) (lW ct E y r q h2 ym rm qm h3 fo) H) (hS : va_S (fun q : Nat => s.heap.size ≤ q) s.heap H locs) (ls : Array Slot) (hl : lv_has ls 7 [(4, .int (nI (7 * t))), (3, .ref h3), (2, .ref h2), (1, .ref (y 195)), (0, .ref b)]) : W p l e room_1 s m #[Value.ref b] below meth c H locs cells slots (lw_Z below #[Value.ref b] s) (F0 m 335 ls []) := by
  obtain ⟨hx, hb, hr, hml, hown, hts, hX, hbl, hlocks, hgv⟩ := id C0
  have hown : s.vm.findClass RL = some m.cls := hown
  have htl : ∀ w ∈ wsL_law0, w.before #[Value.ref b] s = true := fun w h => hts w (wsL_law_in0 w h)
  have hA : ∀ q : Nat, s.heap.size ≤ q → (fun q : Nat => s.heap.size ≤ q) q := fun _ h => h
  have hbA : ¬ (fun q : Nat => s.heap.size ≤ q) b := Nat.not_le.mpr hbl
  refine lv_aload_n hx hb dL_law_335 rfl (lv_at hl 3 rfl) ?_
  refine lcX (As := []) (rest := []) ⟨hx, hb, hml, hown, htl⟩ (kc_land l D ct E y r q hJ hEi) (cwV 0 htl (klV (zr10 4 rfl) (zr10 5 rfl) (zr10 6 rfl) (zr1 2 rfl) (zr10 7 rfl)) rfl rfl rfl (by decide +kernel) ⟨Nat.le_of_ble_eq_true rfl, Nat.le_of_ble_eq_true rfl⟩) hw hS hA hK hZ hN 10 195 rfl kg195 rfl hl.1 rfl (Nat.le_of_ble_eq_true rfl) dL_law_336 (lroom hcs) 339 rfl (fun u1 H locs pu1 hw hS => ?_)
  have kh2 := pu1.2.1
  have hw : zPD D (fun q : Nat => s.heap.size ≤ q) (lW ct E y u1.2.1 u1.2.2 h2 ym rm qm h3 fo) H := hw
  refine zfr 339 [.int u1.1] rfl rfl ?_
  refine lv_aload_n hx hb dL_law_339 rfl (lv_at hl 2 rfl) ?_
  have hw := lrot hw
  refine lcM (As := []) (rest := [.int u1.1]) ⟨hx, hb, hml, hown, htl⟩ (mc_land l D ct h2 ym 20 rm qm hM) (cwV 0 htl (klV (zr21 12 rfl) (zr21 13 rfl) (zr21 14 rfl) (zr1 5 rfl) (zr21 15 rfl)) rfl rfl rfl (by decide +kernel) ⟨Nat.le_of_ble_eq_true rfl, Nat.le_of_ble_eq_true rfl⟩) hw hS hA hK hN rfl hl.1 rfl (Nat.le_of_ble_eq_true rfl) dL_law_340 (lroom hcs) 343 rfl (fun u4 H locs pu4 hw hS => ?_)
  have kh5 := pu4.2.1
  have hA9 := lR.land pu1.2.2.2.1 pu4.2.2.2.2.1 hM hT pu1.2.2.1 pu4.2.2.2.1
  have ht7 : lR u1.2.1 u1.2.2 u4.2.1 u4.2.2 := hA9.2
  have hw : zPD D (fun q : Nat => s.heap.size ≤ q) (lW ct E y u1.2.1 u1.2.2 h2 ym u4.2.1 u4.2.2 h3 fo) H := hw
  refine zfr 343 [.int u4.1, .int u1.1] rfl rfl ?_
  refine lv_icmp_eq (tgt := 1278) hx hb dL_law_343 (by decide) (fun _ => ?_) (fun h => absurd hA9.1 h)
  exact kk u1.2.1 u1.2.2 u4.2.1 u4.2.2 fo cells slots kh2 kh5 ht7 (Nat.le_succ _) (Nat.le_add_right _ _) H locs ls hw hS (lv_sub hl [0, 1, 2, 3, 4] rfl)

set_option maxHeartbeats 4000000 in
set_option maxRecDepth 100000 in
theorem kl_2 {p : Program} {l : Launch} {e : Env} {s : State} {m : MethodId} {below : List Frame} {meth : Method} {c : Code} {b L : Nat} {xs : Nat → Int32} (C0 : lw_At p s m meth c b L xs) {D : va_G} {ct : Nat → ClassId} {E : Nat → Nat} (hK : va_K D vwCl (zT ct) s) (hN : zN s) (hZ : eZ E (fun q : Nat => s.heap.size ≤ q) s s.heap) (y ym : Nat → Nat) (h2 h3 t : Nat) (ht : 7 * t + 7 ≤ L) (hL : L ≤ 3584) (r : zRr) (q : zRq) (rm : zRr) (qm : zRq) (fo : Nat → Int64) (hJ : kJ r) (hM : mJ 20 rm) (hT : lR r q rm qm) (hEi : kEi E) (cells slots : Nat) (hcs : cells ≤ 600000 ∧ slots ≤ 7290000)
    (kk : kEnd p l e s m below meth c b D ct E y ym h2 h3 t cells slots) (H : Heap) (locs : List Loc) (hw : zPD D (fun q : Nat => s.heap.size ≤ q) (lW ct E y r q h2 ym rm qm h3 fo) H) (hS : va_S (fun q : Nat => s.heap.size ≤ q) s.heap H locs) (ls : Array Slot) (hl : lv_has ls 7 [(4, .int (nI (7 * t))), (3, .ref h3), (2, .ref h2), (1, .ref (y 195)), (0, .ref b)]) : W p l e room_1 s m #[Value.ref b] below meth c H locs cells slots (lw_Z below #[Value.ref b] s) (F0 m 348 ls []) := by
  obtain ⟨hx, hb, hr, hml, hown, hts, hX, hbl, hlocks, hgv⟩ := id C0
  have hown : s.vm.findClass RL = some m.cls := hown
  have htl : ∀ w ∈ wsL_law0, w.before #[Value.ref b] s = true := fun w h => hts w (wsL_law_in0 w h)
  have hA : ∀ q : Nat, s.heap.size ≤ q → (fun q : Nat => s.heap.size ≤ q) q := fun _ h => h
  have hbA : ¬ (fun q : Nat => s.heap.size ≤ q) b := Nat.not_le.mpr hbl
  refine lv_aload_n hx hb dL_law_348 rfl (lv_at hl 3 rfl) ?_
  refine lcX (As := []) (rest := []) ⟨hx, hb, hml, hown, htl⟩ (kc_journey l D ct E y r q hJ hEi) (cwV 0 htl (klV (zr28 0 rfl) (zr28 1 rfl) (zr28 2 rfl) (zr1 2 rfl) (zr28 3 rfl)) rfl rfl rfl (by decide +kernel) ⟨Nat.le_of_ble_eq_true rfl, Nat.le_of_ble_eq_true rfl⟩) hw hS hA hK hZ hN 10 195 rfl kg195 rfl hl.1 rfl (Nat.le_of_ble_eq_true rfl) dL_law_349 (lroom hcs) 352 rfl (fun u1 H locs pu1 hw hS => ?_)
  have kh2 := pu1.2.1
  have hw : zPD D (fun q : Nat => s.heap.size ≤ q) (lW ct E y u1.2.1 u1.2.2 h2 ym rm qm h3 fo) H := hw
  refine zfr 352 [.int u1.1] rfl rfl ?_
  refine lv_pop hx hb dL_law_352 rfl ?_
  refine lv_aload_n hx hb dL_law_353 rfl (lv_at hl 2 rfl) ?_
  have hw := lrot hw
  refine lcM (As := []) (rest := []) ⟨hx, hb, hml, hown, htl⟩ (mc_journey l D ct h2 ym 20 rm qm hM) (cwV 0 htl (klV (zr29 18 rfl) (zr29 19 rfl) (zr29 20 rfl) (zr1 5 rfl) (zr29 21 rfl)) rfl rfl rfl (by decide +kernel) ⟨Nat.le_of_ble_eq_true rfl, Nat.le_of_ble_eq_true rfl⟩) hw hS hA hK hN rfl hl.1 rfl (Nat.le_of_ble_eq_true rfl) dL_law_354 (lroom hcs) 357 rfl (fun u4 H locs pu4 hw hS => ?_)
  have kh5 := pu4.2.1
  have hA9 := lR.jour pu1.2.2.2.1 pu4.2.2.2.2.1 hM hT pu1.2.2.1 pu4.2.2.2.1 pu4.2.2.1 rfl rfl
  have ht7 : lR u1.2.1 u1.2.2 u4.2.1 u4.2.2 := hA9.2
  have hw : zPD D (fun q : Nat => s.heap.size ≤ q) (lW ct E y u1.2.1 u1.2.2 h2 ym u4.2.1 u4.2.2 h3 fo) H := hw
  refine zfr 357 [.int u4.1] rfl rfl ?_
  refine lv_pop hx hb dL_law_357 rfl ?_
  refine lv_goto (tgt := 1278) hx hb dL_law_358 (by decide) ?_
  exact kk u1.2.1 u1.2.2 u4.2.1 u4.2.2 fo cells slots kh2 kh5 ht7 (Nat.le_succ _) (Nat.le_add_right _ _) H locs ls hw hS (lv_sub hl [0, 1, 2, 3, 4] rfl)

set_option maxHeartbeats 4000000 in
set_option maxRecDepth 100000 in
theorem kl_3 {p : Program} {l : Launch} {e : Env} {s : State} {m : MethodId} {below : List Frame} {meth : Method} {c : Code} {b L : Nat} {xs : Nat → Int32} (C0 : lw_At p s m meth c b L xs) {D : va_G} {ct : Nat → ClassId} {E : Nat → Nat} (hK : va_K D vwCl (zT ct) s) (hN : zN s) (hZ : eZ E (fun q : Nat => s.heap.size ≤ q) s s.heap) (y ym : Nat → Nat) (h2 h3 t : Nat) (ht : 7 * t + 7 ≤ L) (hL : L ≤ 3584) (r : zRr) (q : zRq) (rm : zRr) (qm : zRq) (fo : Nat → Int64) (hJ : kJ r) (hM : mJ 20 rm) (hT : lR r q rm qm) (hEi : kEi E) (cells slots : Nat) (hcs : cells ≤ 600000 ∧ slots ≤ 7290000)
    (kk : kEnd p l e s m below meth c b D ct E y ym h2 h3 t cells slots) (H : Heap) (locs : List Loc) (hw : zPD D (fun q : Nat => s.heap.size ≤ q) (lW ct E y r q h2 ym rm qm h3 fo) H) (hS : va_S (fun q : Nat => s.heap.size ≤ q) s.heap H locs) (ls : Array Slot) (hl : lv_has ls 7 [(4, .int (nI (7 * t))), (3, .ref h3), (2, .ref h2), (1, .ref (y 195)), (0, .ref b)]) : W p l e room_1 s m #[Value.ref b] below meth c H locs cells slots (lw_Z below #[Value.ref b] s) (F0 m 361 ls []) := by
  obtain ⟨hx, hb, hr, hml, hown, hts, hX, hbl, hlocks, hgv⟩ := id C0
  have hown : s.vm.findClass RL = some m.cls := hown
  have htl : ∀ w ∈ wsL_law0, w.before #[Value.ref b] s = true := fun w h => hts w (wsL_law_in0 w h)
  have hA : ∀ q : Nat, s.heap.size ≤ q → (fun q : Nat => s.heap.size ≤ q) q := fun _ h => h
  have hbA : ¬ (fun q : Nat => s.heap.size ≤ q) b := Nat.not_le.mpr hbl
  refine lv_aload_n hx hb dL_law_361 rfl (lv_at hl 3 rfl) ?_
  refine lv_aload_n hx hb dL_law_362 rfl (lv_at hl 4 rfl) ?_
  refine lv_iload hx hb dL_law_363 (lv_at hl 0 rfl) ?_
  refine lv_iconst (v := 1) hx hb dL_law_365 (by decide) ?_
  refine lv_iadd hx hb dL_law_366 (ztop (.int (nI (7 * t + 1))) (congrArg Value.int (nI_add _ 1)) ?_)
  refine va_sld hx hb hX hbl hbA hS (zix (k := 7 * t + 1) rfl (by omega) (by omega)).1 dL_law_367 (ztop (.int (xs (7 * t + 1))) (congrArg Value.int (congrArg xs (nI_clamp (by omega)))) ?_)
  refine lv_aload_n hx hb dL_law_368 rfl (lv_at hl 4 rfl) ?_
  refine lv_iload hx hb dL_law_369 (lv_at hl 0 rfl) ?_
  refine lv_iconst (v := 2) hx hb dL_law_371 (by decide) ?_
  refine lv_iadd hx hb dL_law_372 (ztop (.int (nI (7 * t + 2))) (congrArg Value.int (nI_add _ 2)) ?_)
  refine va_sld hx hb hX hbl hbA hS (zix (k := 7 * t + 2) rfl (by omega) (by omega)).1 dL_law_373 (ztop (.int (xs (7 * t + 2))) (congrArg Value.int (congrArg xs (nI_clamp (by omega)))) ?_)
  refine lcX (As := [.int (xs (7 * t + 1)), .int (xs (7 * t + 2))]) (rest := []) ⟨hx, hb, hml, hown, htl⟩ (kc_person l D ct E y (xs (7 * t + 1)) (xs (7 * t + 2)) r q hJ hEi) (cwV 2 htl (klV (zr30 10 rfl) (zr30 11 rfl) (zr30 12 rfl) (zr1 2 rfl) (zr30 13 rfl)) rfl rfl rfl (by decide +kernel) ⟨Nat.le_of_ble_eq_true rfl, Nat.le_of_ble_eq_true rfl⟩) hw hS hA hK hZ hN 10 195 rfl kg195 rfl hl.1 rfl (Nat.le_of_ble_eq_true rfl) dL_law_374 (lroom hcs) 377 rfl (fun u1 H locs pu1 hw hS => ?_)
  have hw : zPD D (fun q : Nat => s.heap.size ≤ q) (lW ct E y r q h2 ym rm qm h3 fo) H := hw
  refine zfr 377 [.int u1] rfl rfl ?_
  refine lv_pop hx hb dL_law_377 rfl ?_
  refine lv_aload_n hx hb dL_law_378 rfl (lv_at hl 2 rfl) ?_
  refine lv_aload_n hx hb dL_law_379 rfl (lv_at hl 4 rfl) ?_
  refine lv_iload hx hb dL_law_380 (lv_at hl 0 rfl) ?_
  refine lv_iconst (v := 1) hx hb dL_law_382 (by decide) ?_
  refine lv_iadd hx hb dL_law_383 (ztop (.int (nI (7 * t + 1))) (congrArg Value.int (nI_add _ 1)) ?_)
  refine va_sld hx hb hX hbl hbA hS (zix (k := 7 * t + 1) rfl (by omega) (by omega)).1 dL_law_384 (ztop (.int (xs (7 * t + 1))) (congrArg Value.int (congrArg xs (nI_clamp (by omega)))) ?_)
  refine lv_aload_n hx hb dL_law_385 rfl (lv_at hl 4 rfl) ?_
  refine lv_iload hx hb dL_law_386 (lv_at hl 0 rfl) ?_
  refine lv_iconst (v := 2) hx hb dL_law_388 (by decide) ?_
  refine lv_iadd hx hb dL_law_389 (ztop (.int (nI (7 * t + 2))) (congrArg Value.int (nI_add _ 2)) ?_)
  refine va_sld hx hb hX hbl hbA hS (zix (k := 7 * t + 2) rfl (by omega) (by omega)).1 dL_law_390 (ztop (.int (xs (7 * t + 2))) (congrArg Value.int (congrArg xs (nI_clamp (by omega)))) ?_)
  have hw := lrot hw
  refine lcM (As := [.int (xs (7 * t + 1)), .int (xs (7 * t + 2))]) (rest := []) ⟨hx, hb, hml, hown, htl⟩ (mc_person l D ct h2 ym 20 (xs (7 * t + 1)) (xs (7 * t + 2)) rm qm hM) (cwV 2 htl (klV (zr31 1 rfl) (zr31 2 rfl) (zr31 3 rfl) (zr1 5 rfl) (zr31 4 rfl)) rfl rfl rfl (by decide +kernel) ⟨Nat.le_of_ble_eq_true rfl, Nat.le_of_ble_eq_true rfl⟩) hw hS hA hK hN rfl hl.1 rfl (Nat.le_of_ble_eq_true rfl) dL_law_391 (lroom hcs) 394 rfl (fun u2 H locs pu2 hw hS => ?_)
  have kh3 := pu2.2.1
  have ht5 : lR r q u2.2 qm := (lR.q hT zFt.refl pu2.2.2.1 rfl rfl rfl)
  have hw : zPD D (fun q : Nat => s.heap.size ≤ q) (lW ct E y r q h2 ym u2.2 qm h3 fo) H := hw
  refine zfr 394 [.int u2.1] rfl rfl ?_
  refine lv_pop hx hb dL_law_394 rfl ?_
  refine lv_goto (tgt := 1278) hx hb dL_law_395 (by decide) ?_
  exact kk r q u2.2 qm fo cells slots hJ kh3 ht5 (Nat.le_succ _) (Nat.le_add_right _ _) H locs ls hw hS (lv_sub hl [0, 1, 2, 3, 4] rfl)

set_option maxHeartbeats 4000000 in
set_option maxRecDepth 100000 in
theorem kl_4 {p : Program} {l : Launch} {e : Env} {s : State} {m : MethodId} {below : List Frame} {meth : Method} {c : Code} {b L : Nat} {xs : Nat → Int32} (C0 : lw_At p s m meth c b L xs) {D : va_G} {ct : Nat → ClassId} {E : Nat → Nat} (hK : va_K D vwCl (zT ct) s) (hN : zN s) (hZ : eZ E (fun q : Nat => s.heap.size ≤ q) s s.heap) (y ym : Nat → Nat) (h2 h3 t : Nat) (ht : 7 * t + 7 ≤ L) (hL : L ≤ 3584) (r : zRr) (q : zRq) (rm : zRr) (qm : zRq) (fo : Nat → Int64) (hJ : kJ r) (hM : mJ 20 rm) (hT : lR r q rm qm) (hEi : kEi E) (cells slots : Nat) (hcs : cells ≤ 600000 ∧ slots ≤ 7290000)
    (kk : kEnd p l e s m below meth c b D ct E y ym h2 h3 t cells slots) (H : Heap) (locs : List Loc) (hw : zPD D (fun q : Nat => s.heap.size ≤ q) (lW ct E y r q h2 ym rm qm h3 fo) H) (hS : va_S (fun q : Nat => s.heap.size ≤ q) s.heap H locs) (ls : Array Slot) (hl : lv_has ls 7 [(4, .int (nI (7 * t))), (3, .ref h3), (2, .ref h2), (1, .ref (y 195)), (0, .ref b)]) : W p l e room_1 s m #[Value.ref b] below meth c H locs cells slots (lw_Z below #[Value.ref b] s) (F0 m 398 ls []) := by
  obtain ⟨hx, hb, hr, hml, hown, hts, hX, hbl, hlocks, hgv⟩ := id C0
  have hown : s.vm.findClass RL = some m.cls := hown
  have htl : ∀ w ∈ wsL_law0, w.before #[Value.ref b] s = true := fun w h => hts w (wsL_law_in0 w h)
  have hA : ∀ q : Nat, s.heap.size ≤ q → (fun q : Nat => s.heap.size ≤ q) q := fun _ h => h
  have hbA : ¬ (fun q : Nat => s.heap.size ≤ q) b := Nat.not_le.mpr hbl
  refine lv_aload_n hx hb dL_law_398 rfl (lv_at hl 3 rfl) ?_
  refine lv_aload_n hx hb dL_law_399 rfl (lv_at hl 4 rfl) ?_
  refine lv_iload hx hb dL_law_400 (lv_at hl 0 rfl) ?_
  refine lv_iconst (v := 1) hx hb dL_law_402 (by decide) ?_
  refine lv_iadd hx hb dL_law_403 (ztop (.int (nI (7 * t + 1))) (congrArg Value.int (nI_add _ 1)) ?_)
  refine va_sld hx hb hX hbl hbA hS (zix (k := 7 * t + 1) rfl (by omega) (by omega)).1 dL_law_404 (ztop (.int (xs (7 * t + 1))) (congrArg Value.int (congrArg xs (nI_clamp (by omega)))) ?_)
  refine lv_aload_n hx hb dL_law_405 rfl (lv_at hl 4 rfl) ?_
  refine lv_iload hx hb dL_law_406 (lv_at hl 0 rfl) ?_
  refine lv_iconst (v := 2) hx hb dL_law_408 (by decide) ?_
  refine lv_iadd hx hb dL_law_409 (ztop (.int (nI (7 * t + 2))) (congrArg Value.int (nI_add _ 2)) ?_)
  refine va_sld hx hb hX hbl hbA hS (zix (k := 7 * t + 2) rfl (by omega) (by omega)).1 dL_law_410 (ztop (.int (xs (7 * t + 2))) (congrArg Value.int (congrArg xs (nI_clamp (by omega)))) ?_)
  refine lcX (As := [.int (xs (7 * t + 1)), .int (xs (7 * t + 2))]) (rest := []) ⟨hx, hb, hml, hown, htl⟩ (kc_town l D ct E y (xs (7 * t + 1)) (xs (7 * t + 2)) r q hJ hEi) (cwV 2 htl (klV (zr31 9 rfl) (zr31 10 rfl) (zr31 11 rfl) (zr1 2 rfl) (zr31 12 rfl)) rfl rfl rfl (by decide +kernel) ⟨Nat.le_of_ble_eq_true rfl, Nat.le_of_ble_eq_true rfl⟩) hw hS hA hK hZ hN 10 195 rfl kg195 rfl hl.1 rfl (Nat.le_of_ble_eq_true rfl) dL_law_411 (lroom hcs) 414 rfl (fun u1 H locs pu1 hw hS => ?_)
  have kh2 := pu1.2.1
  have hw : zPD D (fun q : Nat => s.heap.size ≤ q) (lW ct E y u1.2 q h2 ym rm qm h3 fo) H := hw
  refine zfr 414 [.int u1.1] rfl rfl ?_
  refine lv_pop hx hb dL_law_414 rfl ?_
  refine lv_aload_n hx hb dL_law_415 rfl (lv_at hl 2 rfl) ?_
  refine lv_aload_n hx hb dL_law_416 rfl (lv_at hl 4 rfl) ?_
  refine lv_iload hx hb dL_law_417 (lv_at hl 0 rfl) ?_
  refine lv_iconst (v := 1) hx hb dL_law_419 (by decide) ?_
  refine lv_iadd hx hb dL_law_420 (ztop (.int (nI (7 * t + 1))) (congrArg Value.int (nI_add _ 1)) ?_)
  refine va_sld hx hb hX hbl hbA hS (zix (k := 7 * t + 1) rfl (by omega) (by omega)).1 dL_law_421 (ztop (.int (xs (7 * t + 1))) (congrArg Value.int (congrArg xs (nI_clamp (by omega)))) ?_)
  refine lv_aload_n hx hb dL_law_422 rfl (lv_at hl 4 rfl) ?_
  refine lv_iload hx hb dL_law_423 (lv_at hl 0 rfl) ?_
  refine lv_iconst (v := 2) hx hb dL_law_425 (by decide) ?_
  refine lv_iadd hx hb dL_law_426 (ztop (.int (nI (7 * t + 2))) (congrArg Value.int (nI_add _ 2)) ?_)
  refine va_sld hx hb hX hbl hbA hS (zix (k := 7 * t + 2) rfl (by omega) (by omega)).1 dL_law_427 (ztop (.int (xs (7 * t + 2))) (congrArg Value.int (congrArg xs (nI_clamp (by omega)))) ?_)
  have hw := lrot hw
  refine lcM (As := [.int (xs (7 * t + 1)), .int (xs (7 * t + 2))]) (rest := []) ⟨hx, hb, hml, hown, htl⟩ (mc_town l D ct h2 ym 20 (xs (7 * t + 1)) (xs (7 * t + 2)) rm qm hM) (cwV 2 htl (klV (zr33 6 rfl) (zr33 7 rfl) (zr33 8 rfl) (zr1 5 rfl) (zr33 9 rfl)) rfl rfl rfl (by decide +kernel) ⟨Nat.le_of_ble_eq_true rfl, Nat.le_of_ble_eq_true rfl⟩) hw hS hA hK hN rfl hl.1 rfl (Nat.le_of_ble_eq_true rfl) dL_law_428 (lroom hcs) 431 rfl (fun u4 H locs pu4 hw hS => ?_)
  have kh5 := pu4.2.1
  have ht7 : lR u1.2 q u4.2 qm := (lR.q hT pu1.2.2.1 pu4.2.2.1 rfl rfl rfl)
  have hw : zPD D (fun q : Nat => s.heap.size ≤ q) (lW ct E y u1.2 q h2 ym u4.2 qm h3 fo) H := hw
  refine zfr 431 [.int u4.1] rfl rfl ?_
  refine lv_pop hx hb dL_law_431 rfl ?_
  refine lv_goto (tgt := 1278) hx hb dL_law_432 (by decide) ?_
  exact kk u1.2 q u4.2 qm fo cells slots kh2 kh5 ht7 (Nat.le_succ _) (Nat.le_add_right _ _) H locs ls hw hS (lv_sub hl [0, 1, 2, 3, 4] rfl)

set_option maxHeartbeats 4000000 in
set_option maxRecDepth 100000 in
theorem kl_5 {p : Program} {l : Launch} {e : Env} {s : State} {m : MethodId} {below : List Frame} {meth : Method} {c : Code} {b L : Nat} {xs : Nat → Int32} (C0 : lw_At p s m meth c b L xs) {D : va_G} {ct : Nat → ClassId} {E : Nat → Nat} (hK : va_K D vwCl (zT ct) s) (hN : zN s) (hZ : eZ E (fun q : Nat => s.heap.size ≤ q) s s.heap) (y ym : Nat → Nat) (h2 h3 t : Nat) (ht : 7 * t + 7 ≤ L) (hL : L ≤ 3584) (r : zRr) (q : zRq) (rm : zRr) (qm : zRq) (fo : Nat → Int64) (hJ : kJ r) (hM : mJ 20 rm) (hT : lR r q rm qm) (hEi : kEi E) (cells slots : Nat) (hcs : cells ≤ 600000 ∧ slots ≤ 7290000)
    (kk : kEnd p l e s m below meth c b D ct E y ym h2 h3 t cells slots) (H : Heap) (locs : List Loc) (hw : zPD D (fun q : Nat => s.heap.size ≤ q) (lW ct E y r q h2 ym rm qm h3 fo) H) (hS : va_S (fun q : Nat => s.heap.size ≤ q) s.heap H locs) (ls : Array Slot) (hl : lv_has ls 7 [(4, .int (nI (7 * t))), (3, .ref h3), (2, .ref h2), (1, .ref (y 195)), (0, .ref b)]) : W p l e room_1 s m #[Value.ref b] below meth c H locs cells slots (lw_Z below #[Value.ref b] s) (F0 m 435 ls []) := by
  obtain ⟨hx, hb, hr, hml, hown, hts, hX, hbl, hlocks, hgv⟩ := id C0
  have hown : s.vm.findClass RL = some m.cls := hown
  have htl : ∀ w ∈ wsL_law0, w.before #[Value.ref b] s = true := fun w h => hts w (wsL_law_in0 w h)
  have hA : ∀ q : Nat, s.heap.size ≤ q → (fun q : Nat => s.heap.size ≤ q) q := fun _ h => h
  have hbA : ¬ (fun q : Nat => s.heap.size ≤ q) b := Nat.not_le.mpr hbl
  refine lv_aload_n hx hb dL_law_435 rfl (lv_at hl 3 rfl) ?_
  refine lv_aload_n hx hb dL_law_436 rfl (lv_at hl 4 rfl) ?_
  refine lv_iload hx hb dL_law_437 (lv_at hl 0 rfl) ?_
  refine lv_iconst (v := 1) hx hb dL_law_439 (by decide) ?_
  refine lv_iadd hx hb dL_law_440 (ztop (.int (nI (7 * t + 1))) (congrArg Value.int (nI_add _ 1)) ?_)
  refine va_sld hx hb hX hbl hbA hS (zix (k := 7 * t + 1) rfl (by omega) (by omega)).1 dL_law_441 (ztop (.int (xs (7 * t + 1))) (congrArg Value.int (congrArg xs (nI_clamp (by omega)))) ?_)
  refine lv_aload_n hx hb dL_law_442 rfl (lv_at hl 4 rfl) ?_
  refine lv_iload hx hb dL_law_443 (lv_at hl 0 rfl) ?_
  refine lv_iconst (v := 2) hx hb dL_law_445 (by decide) ?_
  refine lv_iadd hx hb dL_law_446 (ztop (.int (nI (7 * t + 2))) (congrArg Value.int (nI_add _ 2)) ?_)
  refine va_sld hx hb hX hbl hbA hS (zix (k := 7 * t + 2) rfl (by omega) (by omega)).1 dL_law_447 (ztop (.int (xs (7 * t + 2))) (congrArg Value.int (congrArg xs (nI_clamp (by omega)))) ?_)
  refine lcX (As := [.int (xs (7 * t + 1)), .int (xs (7 * t + 2))]) (rest := []) ⟨hx, hb, hml, hown, htl⟩ (kc_go l D ct E y (xs (7 * t + 1)) (xs (7 * t + 2)) r q hJ hEi) (cwV 2 htl (klV (zr35 3 rfl) (zr35 4 rfl) (zr35 5 rfl) (zr1 2 rfl) (zr35 6 rfl)) rfl rfl rfl (by decide +kernel) ⟨Nat.le_of_ble_eq_true rfl, Nat.le_of_ble_eq_true rfl⟩) hw hS hA hK hZ hN 10 195 rfl kg195 rfl hl.1 rfl (Nat.le_of_ble_eq_true rfl) dL_law_448 (lroom hcs) 451 rfl (fun u1 H locs pu1 hw hS => ?_)
  have kh2 := pu1.2.1
  have hw : zPD D (fun q : Nat => s.heap.size ≤ q) (lW ct E y u1.2 q h2 ym rm qm h3 fo) H := hw
  refine zfr 451 [.int u1.1] rfl rfl ?_
  refine lv_pop hx hb dL_law_451 rfl ?_
  refine lv_aload_n hx hb dL_law_452 rfl (lv_at hl 2 rfl) ?_
  refine lv_aload_n hx hb dL_law_453 rfl (lv_at hl 4 rfl) ?_
  refine lv_iload hx hb dL_law_454 (lv_at hl 0 rfl) ?_
  refine lv_iconst (v := 1) hx hb dL_law_456 (by decide) ?_
  refine lv_iadd hx hb dL_law_457 (ztop (.int (nI (7 * t + 1))) (congrArg Value.int (nI_add _ 1)) ?_)
  refine va_sld hx hb hX hbl hbA hS (zix (k := 7 * t + 1) rfl (by omega) (by omega)).1 dL_law_458 (ztop (.int (xs (7 * t + 1))) (congrArg Value.int (congrArg xs (nI_clamp (by omega)))) ?_)
  refine lv_aload_n hx hb dL_law_459 rfl (lv_at hl 4 rfl) ?_
  refine lv_iload hx hb dL_law_460 (lv_at hl 0 rfl) ?_
  refine lv_iconst (v := 2) hx hb dL_law_462 (by decide) ?_
  refine lv_iadd hx hb dL_law_463 (ztop (.int (nI (7 * t + 2))) (congrArg Value.int (nI_add _ 2)) ?_)
  refine va_sld hx hb hX hbl hbA hS (zix (k := 7 * t + 2) rfl (by omega) (by omega)).1 dL_law_464 (ztop (.int (xs (7 * t + 2))) (congrArg Value.int (congrArg xs (nI_clamp (by omega)))) ?_)
  have hw := lrot hw
  refine lcM (As := [.int (xs (7 * t + 1)), .int (xs (7 * t + 2))]) (rest := []) ⟨hx, hb, hml, hown, htl⟩ (mc_go l D ct h2 ym (xs (7 * t + 1)) (xs (7 * t + 2)) rm qm hM) (cwV 2 htl (klV (zr36 5 rfl) (zr36 6 rfl) (zr36 7 rfl) (zr1 5 rfl) (zr36 8 rfl)) rfl rfl rfl (by decide +kernel) ⟨Nat.le_of_ble_eq_true rfl, Nat.le_of_ble_eq_true rfl⟩) hw hS hA hK hN rfl hl.1 rfl (Nat.le_of_ble_eq_true rfl) dL_law_465 (lroom hcs) 468 rfl (fun u4 H locs pu4 hw hS => ?_)
  have kh5 := pu4.2.1
  have hA9 := lR.go pu1.2.2.1 pu4.2.2.2.1 hT pu4.2.2.1 rfl
  have ht7 : lR u1.2 q u4.2 qm := hA9.2
  have hw : zPD D (fun q : Nat => s.heap.size ≤ q) (lW ct E y u1.2 q h2 ym u4.2 qm h3 fo) H := hw
  refine zfr 468 [.int u4.1] rfl rfl ?_
  refine lv_pop hx hb dL_law_468 rfl ?_
  refine lv_goto (tgt := 1278) hx hb dL_law_469 (by decide) ?_
  exact kk u1.2 q u4.2 qm fo cells slots kh2 kh5 ht7 (Nat.le_succ _) (Nat.le_add_right _ _) H locs ls hw hS (lv_sub hl [0, 1, 2, 3, 4] rfl)

set_option maxHeartbeats 4000000 in
set_option maxRecDepth 100000 in
theorem kl_6 {p : Program} {l : Launch} {e : Env} {s : State} {m : MethodId} {below : List Frame} {meth : Method} {c : Code} {b L : Nat} {xs : Nat → Int32} (C0 : lw_At p s m meth c b L xs) {D : va_G} {ct : Nat → ClassId} {E : Nat → Nat} (hK : va_K D vwCl (zT ct) s) (hN : zN s) (hZ : eZ E (fun q : Nat => s.heap.size ≤ q) s s.heap) (y ym : Nat → Nat) (h2 h3 t : Nat) (ht : 7 * t + 7 ≤ L) (hL : L ≤ 3584) (r : zRr) (q : zRq) (rm : zRr) (qm : zRq) (fo : Nat → Int64) (hJ : kJ r) (hM : mJ 20 rm) (hT : lR r q rm qm) (hEi : kEi E) (cells slots : Nat) (hcs : cells ≤ 600000 ∧ slots ≤ 7290000)
    (kk : kEnd p l e s m below meth c b D ct E y ym h2 h3 t cells slots) (H : Heap) (locs : List Loc) (hw : zPD D (fun q : Nat => s.heap.size ≤ q) (lW ct E y r q h2 ym rm qm h3 fo) H) (hS : va_S (fun q : Nat => s.heap.size ≤ q) s.heap H locs) (ls : Array Slot) (hl : lv_has ls 7 [(4, .int (nI (7 * t))), (3, .ref h3), (2, .ref h2), (1, .ref (y 195)), (0, .ref b)]) : W p l e room_1 s m #[Value.ref b] below meth c H locs cells slots (lw_Z below #[Value.ref b] s) (F0 m 472 ls []) := by
  obtain ⟨hx, hb, hr, hml, hown, hts, hX, hbl, hlocks, hgv⟩ := id C0
  have hown : s.vm.findClass RL = some m.cls := hown
  have htl : ∀ w ∈ wsL_law0, w.before #[Value.ref b] s = true := fun w h => hts w (wsL_law_in0 w h)
  have hA : ∀ q : Nat, s.heap.size ≤ q → (fun q : Nat => s.heap.size ≤ q) q := fun _ h => h
  have hbA : ¬ (fun q : Nat => s.heap.size ≤ q) b := Nat.not_le.mpr hbl
  refine lv_aload_n hx hb dL_law_472 rfl (lv_at hl 3 rfl) ?_
  refine lv_aload_n hx hb dL_law_473 rfl (lv_at hl 4 rfl) ?_
  refine lv_iload hx hb dL_law_474 (lv_at hl 0 rfl) ?_
  refine lv_iconst (v := 1) hx hb dL_law_476 (by decide) ?_
  refine lv_iadd hx hb dL_law_477 (ztop (.int (nI (7 * t + 1))) (congrArg Value.int (nI_add _ 1)) ?_)
  refine va_sld hx hb hX hbl hbA hS (zix (k := 7 * t + 1) rfl (by omega) (by omega)).1 dL_law_478 (ztop (.int (xs (7 * t + 1))) (congrArg Value.int (congrArg xs (nI_clamp (by omega)))) ?_)
  refine lv_aload_n hx hb dL_law_479 rfl (lv_at hl 4 rfl) ?_
  refine lv_iload hx hb dL_law_480 (lv_at hl 0 rfl) ?_
  refine lv_iconst (v := 2) hx hb dL_law_482 (by decide) ?_
  refine lv_iadd hx hb dL_law_483 (ztop (.int (nI (7 * t + 2))) (congrArg Value.int (nI_add _ 2)) ?_)
  refine va_sld hx hb hX hbl hbA hS (zix (k := 7 * t + 2) rfl (by omega) (by omega)).1 dL_law_484 (ztop (.int (xs (7 * t + 2))) (congrArg Value.int (congrArg xs (nI_clamp (by omega)))) ?_)
  refine lcX (As := [.int (xs (7 * t + 1)), .int (xs (7 * t + 2))]) (rest := []) ⟨hx, hb, hml, hown, htl⟩ (kc_forge l D ct E y (xs (7 * t + 1)) (xs (7 * t + 2)) r q hJ hEi) (cwV 2 htl (klV (zr37 0 rfl) (zr37 1 rfl) (zr37 2 rfl) (zr1 2 rfl) (zr37 3 rfl)) rfl rfl rfl (by decide +kernel) ⟨Nat.le_of_ble_eq_true rfl, Nat.le_of_ble_eq_true rfl⟩) hw hS hA hK hZ hN 10 195 rfl kg195 rfl hl.1 rfl (Nat.le_of_ble_eq_true rfl) dL_law_485 (lroom hcs) 488 rfl (fun u1 H locs pu1 hw hS => ?_)
  have kh2 := pu1.2.1
  have hw : zPD D (fun q : Nat => s.heap.size ≤ q) (lW ct E y u1.2 q h2 ym rm qm h3 fo) H := hw
  refine zfr 488 [.int u1.1] rfl rfl ?_
  refine lv_pop hx hb dL_law_488 rfl ?_
  refine lv_aload_n hx hb dL_law_489 rfl (lv_at hl 2 rfl) ?_
  refine lv_aload_n hx hb dL_law_490 rfl (lv_at hl 4 rfl) ?_
  refine lv_iload hx hb dL_law_491 (lv_at hl 0 rfl) ?_
  refine lv_iconst (v := 1) hx hb dL_law_493 (by decide) ?_
  refine lv_iadd hx hb dL_law_494 (ztop (.int (nI (7 * t + 1))) (congrArg Value.int (nI_add _ 1)) ?_)
  refine va_sld hx hb hX hbl hbA hS (zix (k := 7 * t + 1) rfl (by omega) (by omega)).1 dL_law_495 (ztop (.int (xs (7 * t + 1))) (congrArg Value.int (congrArg xs (nI_clamp (by omega)))) ?_)
  refine lv_aload_n hx hb dL_law_496 rfl (lv_at hl 4 rfl) ?_
  refine lv_iload hx hb dL_law_497 (lv_at hl 0 rfl) ?_
  refine lv_iconst (v := 2) hx hb dL_law_499 (by decide) ?_
  refine lv_iadd hx hb dL_law_500 (ztop (.int (nI (7 * t + 2))) (congrArg Value.int (nI_add _ 2)) ?_)
  refine va_sld hx hb hX hbl hbA hS (zix (k := 7 * t + 2) rfl (by omega) (by omega)).1 dL_law_501 (ztop (.int (xs (7 * t + 2))) (congrArg Value.int (congrArg xs (nI_clamp (by omega)))) ?_)
  have hw := lrot hw
  refine lcM (As := [.int (xs (7 * t + 1)), .int (xs (7 * t + 2))]) (rest := []) ⟨hx, hb, hml, hown, htl⟩ (mc_forge l D ct h2 ym (xs (7 * t + 1)) (xs (7 * t + 2)) rm qm hM) (cwV 2 htl (klV (zr37 14 rfl) (zr37 15 rfl) (zr37 16 rfl) (zr1 5 rfl) (zr37 17 rfl)) rfl rfl rfl (by decide +kernel) ⟨Nat.le_of_ble_eq_true rfl, Nat.le_of_ble_eq_true rfl⟩) hw hS hA hK hN rfl hl.1 rfl (Nat.le_of_ble_eq_true rfl) dL_law_502 (lroom hcs) 505 rfl (fun u4 H locs pu4 hw hS => ?_)
  have kh5 := pu4.2.1
  have hA9 := lR.forge pu1.2.2.1 pu4.2.2.2.1 hM hT pu4.2.2.1 rfl
  have ht7 : lR u1.2 q u4.2 qm := hA9.2
  have hw : zPD D (fun q : Nat => s.heap.size ≤ q) (lW ct E y u1.2 q h2 ym u4.2 qm h3 fo) H := hw
  refine zfr 505 [.int u4.1] rfl rfl ?_
  refine lv_pop hx hb dL_law_505 rfl ?_
  refine lv_goto (tgt := 1278) hx hb dL_law_506 (by decide) ?_
  exact kk u1.2 q u4.2 qm fo cells slots kh2 kh5 ht7 (Nat.le_succ _) (Nat.le_add_right _ _) H locs ls hw hS (lv_sub hl [0, 1, 2, 3, 4] rfl)

set_option maxHeartbeats 4000000 in
set_option maxRecDepth 100000 in
theorem kl_7 {p : Program} {l : Launch} {e : Env} {s : State} {m : MethodId} {below : List Frame} {meth : Method} {c : Code} {b L : Nat} {xs : Nat → Int32} (C0 : lw_At p s m meth c b L xs) {D : va_G} {ct : Nat → ClassId} {E : Nat → Nat} (hK : va_K D vwCl (zT ct) s) (hN : zN s) (hZ : eZ E (fun q : Nat => s.heap.size ≤ q) s s.heap) (y ym : Nat → Nat) (h2 h3 t : Nat) (ht : 7 * t + 7 ≤ L) (hL : L ≤ 3584) (r : zRr) (q : zRq) (rm : zRr) (qm : zRq) (fo : Nat → Int64) (hJ : kJ r) (hM : mJ 20 rm) (hT : lR r q rm qm) (hEi : kEi E) (cells slots : Nat) (hcs : cells ≤ 600000 ∧ slots ≤ 7290000)
    (kk : kEnd p l e s m below meth c b D ct E y ym h2 h3 t cells slots) (H : Heap) (locs : List Loc) (hw : zPD D (fun q : Nat => s.heap.size ≤ q) (lW ct E y r q h2 ym rm qm h3 fo) H) (hS : va_S (fun q : Nat => s.heap.size ≤ q) s.heap H locs) (ls : Array Slot) (hl : lv_has ls 7 [(4, .int (nI (7 * t))), (3, .ref h3), (2, .ref h2), (1, .ref (y 195)), (0, .ref b)]) : W p l e room_1 s m #[Value.ref b] below meth c H locs cells slots (lw_Z below #[Value.ref b] s) (F0 m 509 ls []) := by
  obtain ⟨hx, hb, hr, hml, hown, hts, hX, hbl, hlocks, hgv⟩ := id C0
  have hown : s.vm.findClass RL = some m.cls := hown
  have htl : ∀ w ∈ wsL_law0, w.before #[Value.ref b] s = true := fun w h => hts w (wsL_law_in0 w h)
  have hA : ∀ q : Nat, s.heap.size ≤ q → (fun q : Nat => s.heap.size ≤ q) q := fun _ h => h
  have hbA : ¬ (fun q : Nat => s.heap.size ≤ q) b := Nat.not_le.mpr hbl
  refine lv_aload_n hx hb dL_law_509 rfl (lv_at hl 3 rfl) ?_
  refine lv_aload_n hx hb dL_law_510 rfl (lv_at hl 4 rfl) ?_
  refine lv_iload hx hb dL_law_511 (lv_at hl 0 rfl) ?_
  refine lv_iconst (v := 1) hx hb dL_law_513 (by decide) ?_
  refine lv_iadd hx hb dL_law_514 (ztop (.int (nI (7 * t + 1))) (congrArg Value.int (nI_add _ 1)) ?_)
  refine va_sld hx hb hX hbl hbA hS (zix (k := 7 * t + 1) rfl (by omega) (by omega)).1 dL_law_515 (ztop (.int (xs (7 * t + 1))) (congrArg Value.int (congrArg xs (nI_clamp (by omega)))) ?_)
  refine lcX (As := [.int (xs (7 * t + 1))]) (rest := []) ⟨hx, hb, hml, hown, htl⟩ (kc_shave l D ct E y (xs (7 * t + 1)) r q hJ hEi) (cwV 1 htl (klV (zr38 2 rfl) (zr38 3 rfl) (zr38 4 rfl) (zr1 2 rfl) (zr38 5 rfl)) rfl rfl rfl (by decide +kernel) ⟨Nat.le_of_ble_eq_true rfl, Nat.le_of_ble_eq_true rfl⟩) hw hS hA hK hZ hN 10 195 rfl kg195 rfl hl.1 rfl (Nat.le_of_ble_eq_true rfl) dL_law_516 (lroom hcs) 519 rfl (fun u1 H locs pu1 hw hS => ?_)
  have kh2 := pu1.2.1
  have hw : zPD D (fun q : Nat => s.heap.size ≤ q) (lW ct E y u1.2 q h2 ym rm qm h3 fo) H := hw
  refine zfr 519 [.int u1.1] rfl rfl ?_
  refine lv_pop hx hb dL_law_519 rfl ?_
  refine lv_aload_n hx hb dL_law_520 rfl (lv_at hl 2 rfl) ?_
  refine lv_aload_n hx hb dL_law_521 rfl (lv_at hl 4 rfl) ?_
  refine lv_iload hx hb dL_law_522 (lv_at hl 0 rfl) ?_
  refine lv_iconst (v := 1) hx hb dL_law_524 (by decide) ?_
  refine lv_iadd hx hb dL_law_525 (ztop (.int (nI (7 * t + 1))) (congrArg Value.int (nI_add _ 1)) ?_)
  refine va_sld hx hb hX hbl hbA hS (zix (k := 7 * t + 1) rfl (by omega) (by omega)).1 dL_law_526 (ztop (.int (xs (7 * t + 1))) (congrArg Value.int (congrArg xs (nI_clamp (by omega)))) ?_)
  have hw := lrot hw
  refine lcM (As := [.int (xs (7 * t + 1))]) (rest := []) ⟨hx, hb, hml, hown, htl⟩ (mc_shave l D ct h2 ym (xs (7 * t + 1)) rm qm hM) (cwV 1 htl (klV (zr38 10 rfl) (zr38 11 rfl) (zr38 12 rfl) (zr1 5 rfl) (zr38 13 rfl)) rfl rfl rfl (by decide +kernel) ⟨Nat.le_of_ble_eq_true rfl, Nat.le_of_ble_eq_true rfl⟩) hw hS hA hK hN rfl hl.1 rfl (Nat.le_of_ble_eq_true rfl) dL_law_527 (lroom hcs) 530 rfl (fun u4 H locs pu4 hw hS => ?_)
  have kh5 := pu4.2.1
  have hA9 := lR.shave pu1.2.2.1 pu4.2.2.2.1 hT pu4.2.2.1 rfl
  have ht7 : lR u1.2 q u4.2 qm := hA9.2
  have hw : zPD D (fun q : Nat => s.heap.size ≤ q) (lW ct E y u1.2 q h2 ym u4.2 qm h3 fo) H := hw
  refine zfr 530 [.int u4.1] rfl rfl ?_
  refine lv_pop hx hb dL_law_530 rfl ?_
  refine lv_goto (tgt := 1278) hx hb dL_law_531 (by decide) ?_
  exact kk u1.2 q u4.2 qm fo cells slots kh2 kh5 ht7 (Nat.le_succ _) (Nat.le_add_right _ _) H locs ls hw hS (lv_sub hl [0, 1, 2, 3, 4] rfl)

set_option maxHeartbeats 4000000 in
set_option maxRecDepth 100000 in
theorem kl_8 {p : Program} {l : Launch} {e : Env} {s : State} {m : MethodId} {below : List Frame} {meth : Method} {c : Code} {b L : Nat} {xs : Nat → Int32} (C0 : lw_At p s m meth c b L xs) {D : va_G} {ct : Nat → ClassId} {E : Nat → Nat} (hK : va_K D vwCl (zT ct) s) (hN : zN s) (hZ : eZ E (fun q : Nat => s.heap.size ≤ q) s s.heap) (y ym : Nat → Nat) (h2 h3 t : Nat) (ht : 7 * t + 7 ≤ L) (hL : L ≤ 3584) (r : zRr) (q : zRq) (rm : zRr) (qm : zRq) (fo : Nat → Int64) (hJ : kJ r) (hM : mJ 20 rm) (hT : lR r q rm qm) (hEi : kEi E) (cells slots : Nat) (hcs : cells ≤ 600000 ∧ slots ≤ 7290000)
    (kk : kEnd p l e s m below meth c b D ct E y ym h2 h3 t cells slots) (H : Heap) (locs : List Loc) (hw : zPD D (fun q : Nat => s.heap.size ≤ q) (lW ct E y r q h2 ym rm qm h3 fo) H) (hS : va_S (fun q : Nat => s.heap.size ≤ q) s.heap H locs) (ls : Array Slot) (hl : lv_has ls 7 [(4, .int (nI (7 * t))), (3, .ref h3), (2, .ref h2), (1, .ref (y 195)), (0, .ref b)]) : W p l e room_1 s m #[Value.ref b] below meth c H locs cells slots (lw_Z below #[Value.ref b] s) (F0 m 534 ls []) := by
  obtain ⟨hx, hb, hr, hml, hown, hts, hX, hbl, hlocks, hgv⟩ := id C0
  have hown : s.vm.findClass RL = some m.cls := hown
  have htl : ∀ w ∈ wsL_law0, w.before #[Value.ref b] s = true := fun w h => hts w (wsL_law_in0 w h)
  have hA : ∀ q : Nat, s.heap.size ≤ q → (fun q : Nat => s.heap.size ≤ q) q := fun _ h => h
  have hbA : ¬ (fun q : Nat => s.heap.size ≤ q) b := Nat.not_le.mpr hbl
  refine lv_aload_n hx hb dL_law_534 rfl (lv_at hl 3 rfl) ?_
  refine lcX (As := []) (rest := []) ⟨hx, hb, hml, hown, htl⟩ (kc_week l D ct E y r q hJ hEi) (cwV 0 htl (klV (zr38 18 rfl) (zr38 19 rfl) (zr38 20 rfl) (zr1 2 rfl) (zr38 21 rfl)) rfl rfl rfl (by decide +kernel) ⟨Nat.le_of_ble_eq_true rfl, Nat.le_of_ble_eq_true rfl⟩) hw hS hA hK hZ hN 10 195 rfl kg195 rfl hl.1 rfl (Nat.le_of_ble_eq_true rfl) dL_law_535 (lroom hcs) 538 rfl (fun u1 H locs pu1 hw hS => ?_)
  have kh2 := pu1.2.1
  have hw : zPD D (fun q : Nat => s.heap.size ≤ q) (lW ct E y u1.2 q h2 ym rm qm h3 fo) H := hw
  refine zfr 538 [.int u1.1] rfl rfl ?_
  refine lv_pop hx hb dL_law_538 rfl ?_
  refine lv_aload_n hx hb dL_law_539 rfl (lv_at hl 2 rfl) ?_
  have hw := lrot hw
  refine lcM (As := []) (rest := []) ⟨hx, hb, hml, hown, htl⟩ (mc_week l D ct h2 ym rm qm hM) (cwV 0 htl (klV (zr39 5 rfl) (zr39 6 rfl) (zr39 7 rfl) (zr1 5 rfl) (zr39 8 rfl)) rfl rfl rfl (by decide +kernel) ⟨Nat.le_of_ble_eq_true rfl, Nat.le_of_ble_eq_true rfl⟩) hw hS hA hK hN rfl hl.1 rfl (Nat.le_of_ble_eq_true rfl) dL_law_540 (lroom hcs) 543 rfl (fun u4 H locs pu4 hw hS => ?_)
  have kh5 := pu4.2.1
  have hA9 := lR.week pu1.2.2.1 pu4.2.2.2.1 hT pu4.2.2.1 rfl
  have ht7 : lR u1.2 q u4.2 qm := hA9.2
  have hw : zPD D (fun q : Nat => s.heap.size ≤ q) (lW ct E y u1.2 q h2 ym u4.2 qm h3 fo) H := hw
  refine zfr 543 [.int u4.1] rfl rfl ?_
  refine lv_pop hx hb dL_law_543 rfl ?_
  refine lv_goto (tgt := 1278) hx hb dL_law_544 (by decide) ?_
  exact kk u1.2 q u4.2 qm fo cells slots kh2 kh5 ht7 (Nat.le_succ _) (Nat.le_add_right _ _) H locs ls hw hS (lv_sub hl [0, 1, 2, 3, 4] rfl)

set_option maxHeartbeats 4000000 in
set_option maxRecDepth 100000 in
theorem kl_9 {p : Program} {l : Launch} {e : Env} {s : State} {m : MethodId} {below : List Frame} {meth : Method} {c : Code} {b L : Nat} {xs : Nat → Int32} (C0 : lw_At p s m meth c b L xs) {D : va_G} {ct : Nat → ClassId} {E : Nat → Nat} (hK : va_K D vwCl (zT ct) s) (hN : zN s) (hZ : eZ E (fun q : Nat => s.heap.size ≤ q) s s.heap) (y ym : Nat → Nat) (h2 h3 t : Nat) (ht : 7 * t + 7 ≤ L) (hL : L ≤ 3584) (r : zRr) (q : zRq) (rm : zRr) (qm : zRq) (fo : Nat → Int64) (hJ : kJ r) (hM : mJ 20 rm) (hT : lR r q rm qm) (hEi : kEi E) (cells slots : Nat) (hcs : cells ≤ 600000 ∧ slots ≤ 7290000)
    (kk : kEnd p l e s m below meth c b D ct E y ym h2 h3 t cells slots) (H : Heap) (locs : List Loc) (hw : zPD D (fun q : Nat => s.heap.size ≤ q) (lW ct E y r q h2 ym rm qm h3 fo) H) (hS : va_S (fun q : Nat => s.heap.size ≤ q) s.heap H locs) (ls : Array Slot) (hl : lv_has ls 7 [(4, .int (nI (7 * t))), (3, .ref h3), (2, .ref h2), (1, .ref (y 195)), (0, .ref b)]) : W p l e room_1 s m #[Value.ref b] below meth c H locs cells slots (lw_Z below #[Value.ref b] s) (F0 m 547 ls []) := by
  obtain ⟨hx, hb, hr, hml, hown, hts, hX, hbl, hlocks, hgv⟩ := id C0
  have hown : s.vm.findClass RL = some m.cls := hown
  have htl : ∀ w ∈ wsL_law0, w.before #[Value.ref b] s = true := fun w h => hts w (wsL_law_in0 w h)
  have hA : ∀ q : Nat, s.heap.size ≤ q → (fun q : Nat => s.heap.size ≤ q) q := fun _ h => h
  have hbA : ¬ (fun q : Nat => s.heap.size ≤ q) b := Nat.not_le.mpr hbl
  refine lv_aload_n hx hb dL_law_547 rfl (lv_at hl 3 rfl) ?_
  refine lcX (As := []) (rest := []) ⟨hx, hb, hml, hown, htl⟩ (kc_undo l D ct E y r q hJ hEi) (cwV 0 htl (klV (zr39 14 rfl) (zr39 15 rfl) (zr39 16 rfl) (zr1 2 rfl) (zr39 17 rfl)) rfl rfl rfl (by decide +kernel) ⟨Nat.le_of_ble_eq_true rfl, Nat.le_of_ble_eq_true rfl⟩) hw hS hA hK hZ hN 10 195 rfl kg195 rfl hl.1 rfl (Nat.le_of_ble_eq_true rfl) dL_law_548 (lroom hcs) 551 rfl (fun u1 H locs pu1 hw hS => ?_)
  have kh2 := pu1.2.1
  have hw : zPD D (fun q : Nat => s.heap.size ≤ q) (lW ct E y u1.2 q h2 ym rm qm h3 fo) H := hw
  refine zfr 551 [.int u1.1] rfl rfl ?_
  refine lv_pop hx hb dL_law_551 rfl ?_
  refine lv_aload_n hx hb dL_law_552 rfl (lv_at hl 2 rfl) ?_
  have hw := lrot hw
  refine lcM (As := []) (rest := []) ⟨hx, hb, hml, hown, htl⟩ (mc_undo l D ct h2 ym rm qm hM) (cwV 0 htl (klV (zr39 18 rfl) (zr39 19 rfl) (zr39 20 rfl) (zr1 5 rfl) (zr39 21 rfl)) rfl rfl rfl (by decide +kernel) ⟨Nat.le_of_ble_eq_true rfl, Nat.le_of_ble_eq_true rfl⟩) hw hS hA hK hN rfl hl.1 rfl (Nat.le_of_ble_eq_true rfl) dL_law_553 (lroom hcs) 556 rfl (fun u4 H locs pu4 hw hS => ?_)
  have kh5 := pu4.2.1
  have hA9 := lR.undo pu1.2.2.1 pu4.2.2.2.1 hT pu4.2.2.1 rfl
  have ht7 : lR u1.2 q u4.2 qm := hA9.2
  have hw : zPD D (fun q : Nat => s.heap.size ≤ q) (lW ct E y u1.2 q h2 ym u4.2 qm h3 fo) H := hw
  refine zfr 556 [.int u4.1] rfl rfl ?_
  refine lv_pop hx hb dL_law_556 rfl ?_
  refine lv_goto (tgt := 1278) hx hb dL_law_557 (by decide) ?_
  exact kk u1.2 q u4.2 qm fo cells slots kh2 kh5 ht7 (Nat.le_succ _) (Nat.le_add_right _ _) H locs ls hw hS (lv_sub hl [0, 1, 2, 3, 4] rfl)

set_option maxHeartbeats 4000000 in
set_option maxRecDepth 100000 in
theorem kl_10 {p : Program} {l : Launch} {e : Env} {s : State} {m : MethodId} {below : List Frame} {meth : Method} {c : Code} {b L : Nat} {xs : Nat → Int32} (C0 : lw_At p s m meth c b L xs) {D : va_G} {ct : Nat → ClassId} {E : Nat → Nat} (hK : va_K D vwCl (zT ct) s) (hN : zN s) (hZ : eZ E (fun q : Nat => s.heap.size ≤ q) s s.heap) (y ym : Nat → Nat) (h2 h3 t : Nat) (ht : 7 * t + 7 ≤ L) (hL : L ≤ 3584) (r : zRr) (q : zRq) (rm : zRr) (qm : zRq) (fo : Nat → Int64) (hJ : kJ r) (hM : mJ 20 rm) (hT : lR r q rm qm) (hEi : kEi E) (cells slots : Nat) (hcs : cells ≤ 600000 ∧ slots ≤ 7290000)
    (kk : kEnd p l e s m below meth c b D ct E y ym h2 h3 t cells slots) (H : Heap) (locs : List Loc) (hw : zPD D (fun q : Nat => s.heap.size ≤ q) (lW ct E y r q h2 ym rm qm h3 fo) H) (hS : va_S (fun q : Nat => s.heap.size ≤ q) s.heap H locs) (ls : Array Slot) (hl : lv_has ls 7 [(4, .int (nI (7 * t))), (3, .ref h3), (2, .ref h2), (1, .ref (y 195)), (0, .ref b)]) : W p l e room_1 s m #[Value.ref b] below meth c H locs cells slots (lw_Z below #[Value.ref b] s) (F0 m 560 ls []) := by
  obtain ⟨hx, hb, hr, hml, hown, hts, hX, hbl, hlocks, hgv⟩ := id C0
  have hown : s.vm.findClass RL = some m.cls := hown
  have htl : ∀ w ∈ wsL_law0, w.before #[Value.ref b] s = true := fun w h => hts w (wsL_law_in0 w h)
  have hA : ∀ q : Nat, s.heap.size ≤ q → (fun q : Nat => s.heap.size ≤ q) q := fun _ h => h
  have hbA : ¬ (fun q : Nat => s.heap.size ≤ q) b := Nat.not_le.mpr hbl
  refine lv_aload_n hx hb dL_law_560 rfl (lv_at hl 3 rfl) ?_
  refine lv_aload_n hx hb dL_law_561 rfl (lv_at hl 4 rfl) ?_
  refine lv_iload hx hb dL_law_562 (lv_at hl 0 rfl) ?_
  refine lv_iconst (v := 1) hx hb dL_law_564 (by decide) ?_
  refine lv_iadd hx hb dL_law_565 (ztop (.int (nI (7 * t + 1))) (congrArg Value.int (nI_add _ 1)) ?_)
  refine va_sld hx hb hX hbl hbA hS (zix (k := 7 * t + 1) rfl (by omega) (by omega)).1 dL_law_566 (ztop (.int (xs (7 * t + 1))) (congrArg Value.int (congrArg xs (nI_clamp (by omega)))) ?_)
  refine lcX (As := [.int (xs (7 * t + 1))]) (rest := []) ⟨hx, hb, hml, hown, htl⟩ (kc_judged l D ct E y (xs (7 * t + 1)) r q hJ hEi) (cwV 1 htl (klV (zr39 22 rfl) (zr39 23 rfl) (zr40 0 rfl) (zr1 2 rfl) (zr40 1 rfl)) rfl rfl rfl (by decide +kernel) ⟨Nat.le_of_ble_eq_true rfl, Nat.le_of_ble_eq_true rfl⟩) hw hS hA hK hZ hN 10 195 rfl kg195 rfl hl.1 rfl (Nat.le_of_ble_eq_true rfl) dL_law_567 (lroom hcs) 570 rfl (fun u1 H locs pu1 hw hS => ?_)
  have kh2 := pu1.2.1
  have hw : zPD D (fun q : Nat => s.heap.size ≤ q) (lW ct E y u1.2 q h2 ym rm qm h3 fo) H := hw
  refine zfr 570 [.int u1.1] rfl rfl ?_
  refine lv_pop hx hb dL_law_570 rfl ?_
  refine lv_aload_n hx hb dL_law_571 rfl (lv_at hl 2 rfl) ?_
  refine lv_aload_n hx hb dL_law_572 rfl (lv_at hl 4 rfl) ?_
  refine lv_iload hx hb dL_law_573 (lv_at hl 0 rfl) ?_
  refine lv_iconst (v := 1) hx hb dL_law_575 (by decide) ?_
  refine lv_iadd hx hb dL_law_576 (ztop (.int (nI (7 * t + 1))) (congrArg Value.int (nI_add _ 1)) ?_)
  refine va_sld hx hb hX hbl hbA hS (zix (k := 7 * t + 1) rfl (by omega) (by omega)).1 dL_law_577 (ztop (.int (xs (7 * t + 1))) (congrArg Value.int (congrArg xs (nI_clamp (by omega)))) ?_)
  have hw := lrot hw
  refine lcM (As := [.int (xs (7 * t + 1))]) (rest := []) ⟨hx, hb, hml, hown, htl⟩ (mc_judged l D ct h2 ym (xs (7 * t + 1)) rm qm hM) (cwV 1 htl (klV (zr41 4 rfl) (zr41 5 rfl) (zr41 6 rfl) (zr1 5 rfl) (zr41 7 rfl)) rfl rfl rfl (by decide +kernel) ⟨Nat.le_of_ble_eq_true rfl, Nat.le_of_ble_eq_true rfl⟩) hw hS hA hK hN rfl hl.1 rfl (Nat.le_of_ble_eq_true rfl) dL_law_578 (lroom hcs) 581 rfl (fun u4 H locs pu4 hw hS => ?_)
  have kh5 := pu4.2.1
  have ht7 : lR u1.2 q u4.2 qm := (lR.s hT pu1.2.2.1 pu4.2.2.1 (lR.sJ pu4.2.2.2.1 hT) rfl rfl)
  have hw : zPD D (fun q : Nat => s.heap.size ≤ q) (lW ct E y u1.2 q h2 ym u4.2 qm h3 fo) H := hw
  refine zfr 581 [.int u4.1] rfl rfl ?_
  refine lv_pop hx hb dL_law_581 rfl ?_
  refine lv_goto (tgt := 1278) hx hb dL_law_582 (by decide) ?_
  exact kk u1.2 q u4.2 qm fo cells slots kh2 kh5 ht7 (Nat.le_succ _) (Nat.le_add_right _ _) H locs ls hw hS (lv_sub hl [0, 1, 2, 3, 4] rfl)

set_option maxHeartbeats 4000000 in
set_option maxRecDepth 100000 in
theorem kl_11 {p : Program} {l : Launch} {e : Env} {s : State} {m : MethodId} {below : List Frame} {meth : Method} {c : Code} {b L : Nat} {xs : Nat → Int32} (C0 : lw_At p s m meth c b L xs) {D : va_G} {ct : Nat → ClassId} {E : Nat → Nat} (hK : va_K D vwCl (zT ct) s) (hN : zN s) (hZ : eZ E (fun q : Nat => s.heap.size ≤ q) s s.heap) (y ym : Nat → Nat) (h2 h3 t : Nat) (ht : 7 * t + 7 ≤ L) (hL : L ≤ 3584) (r : zRr) (q : zRq) (rm : zRr) (qm : zRq) (fo : Nat → Int64) (hJ : kJ r) (hM : mJ 20 rm) (hT : lR r q rm qm) (hEi : kEi E) (cells slots : Nat) (hcs : cells ≤ 600000 ∧ slots ≤ 7290000)
    (kk : kEnd p l e s m below meth c b D ct E y ym h2 h3 t cells slots) (H : Heap) (locs : List Loc) (hw : zPD D (fun q : Nat => s.heap.size ≤ q) (lW ct E y r q h2 ym rm qm h3 fo) H) (hS : va_S (fun q : Nat => s.heap.size ≤ q) s.heap H locs) (ls : Array Slot) (hl : lv_has ls 7 [(4, .int (nI (7 * t))), (3, .ref h3), (2, .ref h2), (1, .ref (y 195)), (0, .ref b)]) : W p l e room_1 s m #[Value.ref b] below meth c H locs cells slots (lw_Z below #[Value.ref b] s) (F0 m 585 ls []) := by
  obtain ⟨hx, hb, hr, hml, hown, hts, hX, hbl, hlocks, hgv⟩ := id C0
  have hown : s.vm.findClass RL = some m.cls := hown
  have htl : ∀ w ∈ wsL_law0, w.before #[Value.ref b] s = true := fun w h => hts w (wsL_law_in0 w h)
  have hA : ∀ q : Nat, s.heap.size ≤ q → (fun q : Nat => s.heap.size ≤ q) q := fun _ h => h
  have hbA : ¬ (fun q : Nat => s.heap.size ≤ q) b := Nat.not_le.mpr hbl
  refine lv_aload_n hx hb dL_law_585 rfl (lv_at hl 3 rfl) ?_
  refine lv_aload_n hx hb dL_law_586 rfl (lv_at hl 4 rfl) ?_
  refine lv_iload hx hb dL_law_587 (lv_at hl 0 rfl) ?_
  refine lv_iconst (v := 1) hx hb dL_law_589 (by decide) ?_
  refine lv_iadd hx hb dL_law_590 (ztop (.int (nI (7 * t + 1))) (congrArg Value.int (nI_add _ 1)) ?_)
  refine va_sld hx hb hX hbl hbA hS (zix (k := 7 * t + 1) rfl (by omega) (by omega)).1 dL_law_591 (ztop (.int (xs (7 * t + 1))) (congrArg Value.int (congrArg xs (nI_clamp (by omega)))) ?_)
  refine lcX (As := [.int (xs (7 * t + 1))]) (rest := []) ⟨hx, hb, hml, hown, htl⟩ (kc_reach l D ct E y (xs (7 * t + 1)) r q hJ hEi) (cwV 1 htl (klV (zr41 21 rfl) (zr41 22 rfl) (zr41 23 rfl) (zr1 2 rfl) (zr42 0 rfl)) rfl rfl rfl (by decide +kernel) ⟨Nat.le_of_ble_eq_true rfl, Nat.le_of_ble_eq_true rfl⟩) hw hS hA hK hZ hN 10 195 rfl kg195 rfl hl.1 rfl (Nat.le_of_ble_eq_true rfl) dL_law_592 (lroom hcs) 595 rfl (fun u1 H locs pu1 hw hS => ?_)
  have kh2 := pu1.2.1
  have hw : zPD D (fun q : Nat => s.heap.size ≤ q) (lW ct E y u1.2 q h2 ym rm qm h3 fo) H := hw
  refine zfr 595 [.int u1.1] rfl rfl ?_
  refine lv_pop hx hb dL_law_595 rfl ?_
  refine lv_aload_n hx hb dL_law_596 rfl (lv_at hl 2 rfl) ?_
  refine lv_aload_n hx hb dL_law_597 rfl (lv_at hl 4 rfl) ?_
  refine lv_iload hx hb dL_law_598 (lv_at hl 0 rfl) ?_
  refine lv_iconst (v := 1) hx hb dL_law_600 (by decide) ?_
  refine lv_iadd hx hb dL_law_601 (ztop (.int (nI (7 * t + 1))) (congrArg Value.int (nI_add _ 1)) ?_)
  refine va_sld hx hb hX hbl hbA hS (zix (k := 7 * t + 1) rfl (by omega) (by omega)).1 dL_law_602 (ztop (.int (xs (7 * t + 1))) (congrArg Value.int (congrArg xs (nI_clamp (by omega)))) ?_)
  have hw := lrot hw
  refine lcM (As := [.int (xs (7 * t + 1))]) (rest := []) ⟨hx, hb, hml, hown, htl⟩ (mc_reach l D ct h2 ym 20 (xs (7 * t + 1)) rm qm hM) (cwV 1 htl (klV (zr43 4 rfl) (zr43 5 rfl) (zr43 6 rfl) (zr1 5 rfl) (zr43 7 rfl)) rfl rfl rfl (by decide +kernel) ⟨Nat.le_of_ble_eq_true rfl, Nat.le_of_ble_eq_true rfl⟩) hw hS hA hK hN rfl hl.1 rfl (Nat.le_of_ble_eq_true rfl) dL_law_603 (lroom hcs) 606 rfl (fun u4 H locs pu4 hw hS => ?_)
  have kh5 := pu4.2.1
  have ht7 : lR u1.2 q u4.2 qm := (lR.q hT pu1.2.2.1 pu4.2.2.1 rfl rfl rfl)
  have hw : zPD D (fun q : Nat => s.heap.size ≤ q) (lW ct E y u1.2 q h2 ym u4.2 qm h3 fo) H := hw
  refine zfr 606 [.int u4.1] rfl rfl ?_
  refine lv_pop hx hb dL_law_606 rfl ?_
  refine lv_goto (tgt := 1278) hx hb dL_law_607 (by decide) ?_
  exact kk u1.2 q u4.2 qm fo cells slots kh2 kh5 ht7 (Nat.le_succ _) (Nat.le_add_right _ _) H locs ls hw hS (lv_sub hl [0, 1, 2, 3, 4] rfl)

set_option maxHeartbeats 4000000 in
set_option maxRecDepth 100000 in
theorem kl_12 {p : Program} {l : Launch} {e : Env} {s : State} {m : MethodId} {below : List Frame} {meth : Method} {c : Code} {b L : Nat} {xs : Nat → Int32} (C0 : lw_At p s m meth c b L xs) {D : va_G} {ct : Nat → ClassId} {E : Nat → Nat} (hK : va_K D vwCl (zT ct) s) (hN : zN s) (hZ : eZ E (fun q : Nat => s.heap.size ≤ q) s s.heap) (y ym : Nat → Nat) (h2 h3 t : Nat) (ht : 7 * t + 7 ≤ L) (hL : L ≤ 3584) (r : zRr) (q : zRq) (rm : zRr) (qm : zRq) (fo : Nat → Int64) (hJ : kJ r) (hM : mJ 20 rm) (hT : lR r q rm qm) (hEi : kEi E) (cells slots : Nat) (hcs : cells ≤ 600000 ∧ slots ≤ 7290000)
    (kk : kEnd p l e s m below meth c b D ct E y ym h2 h3 t cells slots) (H : Heap) (locs : List Loc) (hw : zPD D (fun q : Nat => s.heap.size ≤ q) (lW ct E y r q h2 ym rm qm h3 fo) H) (hS : va_S (fun q : Nat => s.heap.size ≤ q) s.heap H locs) (ls : Array Slot) (hl : lv_has ls 7 [(4, .int (nI (7 * t))), (3, .ref h3), (2, .ref h2), (1, .ref (y 195)), (0, .ref b)]) : W p l e room_1 s m #[Value.ref b] below meth c H locs cells slots (lw_Z below #[Value.ref b] s) (F0 m 610 ls []) := by
  obtain ⟨hx, hb, hr, hml, hown, hts, hX, hbl, hlocks, hgv⟩ := id C0
  have hown : s.vm.findClass RL = some m.cls := hown
  have htl : ∀ w ∈ wsL_law0, w.before #[Value.ref b] s = true := fun w h => hts w (wsL_law_in0 w h)
  have hA : ∀ q : Nat, s.heap.size ≤ q → (fun q : Nat => s.heap.size ≤ q) q := fun _ h => h
  have hbA : ¬ (fun q : Nat => s.heap.size ≤ q) b := Nat.not_le.mpr hbl
  refine lv_aload_n hx hb dL_law_610 rfl (lv_at hl 3 rfl) ?_
  refine lv_aload_n hx hb dL_law_611 rfl (lv_at hl 4 rfl) ?_
  refine lv_iload hx hb dL_law_612 (lv_at hl 0 rfl) ?_
  refine lv_iconst (v := 1) hx hb dL_law_614 (by decide) ?_
  refine lv_iadd hx hb dL_law_615 (ztop (.int (nI (7 * t + 1))) (congrArg Value.int (nI_add _ 1)) ?_)
  refine va_sld hx hb hX hbl hbA hS (zix (k := 7 * t + 1) rfl (by omega) (by omega)).1 dL_law_616 (ztop (.int (xs (7 * t + 1))) (congrArg Value.int (congrArg xs (nI_clamp (by omega)))) ?_)
  refine lv_aload_n hx hb dL_law_617 rfl (lv_at hl 4 rfl) ?_
  refine lv_iload hx hb dL_law_618 (lv_at hl 0 rfl) ?_
  refine lv_iconst (v := 2) hx hb dL_law_620 (by decide) ?_
  refine lv_iadd hx hb dL_law_621 (ztop (.int (nI (7 * t + 2))) (congrArg Value.int (nI_add _ 2)) ?_)
  refine va_sld hx hb hX hbl hbA hS (zix (k := 7 * t + 2) rfl (by omega) (by omega)).1 dL_law_622 (ztop (.int (xs (7 * t + 2))) (congrArg Value.int (congrArg xs (nI_clamp (by omega)))) ?_)
  refine lcX (As := [.int (xs (7 * t + 1)), .int (xs (7 * t + 2))]) (rest := []) ⟨hx, hb, hml, hown, htl⟩ (kc_frontiers l D ct E y (xs (7 * t + 1)) (xs (7 * t + 2)) r q hJ hEi) (cwV 2 htl (klV (zr43 16 rfl) (zr43 17 rfl) (zr43 18 rfl) (zr1 2 rfl) (zr43 19 rfl)) rfl rfl rfl (by decide +kernel) ⟨Nat.le_of_ble_eq_true rfl, Nat.le_of_ble_eq_true rfl⟩) hw hS hA hK hZ hN 10 195 rfl kg195 rfl hl.1 rfl (Nat.le_of_ble_eq_true rfl) dL_law_623 (lroom hcs) 626 rfl (fun u1 H locs pu1 hw hS => ?_)
  have kh2 := pu1.2.1
  have hw : zPD D (fun q : Nat => s.heap.size ≤ q) (lW ct E y u1.2 q h2 ym rm qm h3 fo) H := hw
  refine zfr 626 [.int u1.1] rfl rfl ?_
  refine lv_pop hx hb dL_law_626 rfl ?_
  refine lv_aload_n hx hb dL_law_627 rfl (lv_at hl 2 rfl) ?_
  refine lv_aload_n hx hb dL_law_628 rfl (lv_at hl 4 rfl) ?_
  refine lv_iload hx hb dL_law_629 (lv_at hl 0 rfl) ?_
  refine lv_iconst (v := 1) hx hb dL_law_631 (by decide) ?_
  refine lv_iadd hx hb dL_law_632 (ztop (.int (nI (7 * t + 1))) (congrArg Value.int (nI_add _ 1)) ?_)
  refine va_sld hx hb hX hbl hbA hS (zix (k := 7 * t + 1) rfl (by omega) (by omega)).1 dL_law_633 (ztop (.int (xs (7 * t + 1))) (congrArg Value.int (congrArg xs (nI_clamp (by omega)))) ?_)
  refine lv_aload_n hx hb dL_law_634 rfl (lv_at hl 4 rfl) ?_
  refine lv_iload hx hb dL_law_635 (lv_at hl 0 rfl) ?_
  refine lv_iconst (v := 2) hx hb dL_law_637 (by decide) ?_
  refine lv_iadd hx hb dL_law_638 (ztop (.int (nI (7 * t + 2))) (congrArg Value.int (nI_add _ 2)) ?_)
  refine va_sld hx hb hX hbl hbA hS (zix (k := 7 * t + 2) rfl (by omega) (by omega)).1 dL_law_639 (ztop (.int (xs (7 * t + 2))) (congrArg Value.int (congrArg xs (nI_clamp (by omega)))) ?_)
  have hw := lrot hw
  refine lcM (As := [.int (xs (7 * t + 1)), .int (xs (7 * t + 2))]) (rest := []) ⟨hx, hb, hml, hown, htl⟩ (mc_frontiers l D ct h2 ym 20 (xs (7 * t + 1)) (xs (7 * t + 2)) rm qm hM) (cwV 2 htl (klV (zr44 1 rfl) (zr44 2 rfl) (zr44 3 rfl) (zr1 5 rfl) (zr44 4 rfl)) rfl rfl rfl (by decide +kernel) ⟨Nat.le_of_ble_eq_true rfl, Nat.le_of_ble_eq_true rfl⟩) hw hS hA hK hN rfl hl.1 rfl (Nat.le_of_ble_eq_true rfl) dL_law_640 (lroom hcs) 643 rfl (fun u4 H locs pu4 hw hS => ?_)
  have kh5 := pu4.2.1
  have ht7 : lR u1.2 q u4.2 qm := (lR.q hT pu1.2.2.1 pu4.2.2.1 rfl rfl rfl)
  have hw : zPD D (fun q : Nat => s.heap.size ≤ q) (lW ct E y u1.2 q h2 ym u4.2 qm h3 fo) H := hw
  refine zfr 643 [.int u4.1] rfl rfl ?_
  refine lv_pop hx hb dL_law_643 rfl ?_
  refine lv_goto (tgt := 1278) hx hb dL_law_644 (by decide) ?_
  exact kk u1.2 q u4.2 qm fo cells slots kh2 kh5 ht7 (Nat.le_succ _) (Nat.le_add_right _ _) H locs ls hw hS (lv_sub hl [0, 1, 2, 3, 4] rfl)

set_option maxHeartbeats 4000000 in
set_option maxRecDepth 100000 in
theorem kl_13 {p : Program} {l : Launch} {e : Env} {s : State} {m : MethodId} {below : List Frame} {meth : Method} {c : Code} {b L : Nat} {xs : Nat → Int32} (C0 : lw_At p s m meth c b L xs) {D : va_G} {ct : Nat → ClassId} {E : Nat → Nat} (hK : va_K D vwCl (zT ct) s) (hN : zN s) (hZ : eZ E (fun q : Nat => s.heap.size ≤ q) s s.heap) (y ym : Nat → Nat) (h2 h3 t : Nat) (ht : 7 * t + 7 ≤ L) (hL : L ≤ 3584) (r : zRr) (q : zRq) (rm : zRr) (qm : zRq) (fo : Nat → Int64) (hJ : kJ r) (hM : mJ 20 rm) (hT : lR r q rm qm) (hEi : kEi E) (cells slots : Nat) (hcs : cells ≤ 600000 ∧ slots ≤ 7290000)
    (kk : kEnd p l e s m below meth c b D ct E y ym h2 h3 t cells slots) (H : Heap) (locs : List Loc) (hw : zPD D (fun q : Nat => s.heap.size ≤ q) (lW ct E y r q h2 ym rm qm h3 fo) H) (hS : va_S (fun q : Nat => s.heap.size ≤ q) s.heap H locs) (ls : Array Slot) (hl : lv_has ls 7 [(4, .int (nI (7 * t))), (3, .ref h3), (2, .ref h2), (1, .ref (y 195)), (0, .ref b)]) : W p l e room_1 s m #[Value.ref b] below meth c H locs cells slots (lw_Z below #[Value.ref b] s) (F0 m 647 ls []) := by
  obtain ⟨hx, hb, hr, hml, hown, hts, hX, hbl, hlocks, hgv⟩ := id C0
  have hown : s.vm.findClass RL = some m.cls := hown
  have htl : ∀ w ∈ wsL_law0, w.before #[Value.ref b] s = true := fun w h => hts w (wsL_law_in0 w h)
  have hA : ∀ q : Nat, s.heap.size ≤ q → (fun q : Nat => s.heap.size ≤ q) q := fun _ h => h
  have hbA : ¬ (fun q : Nat => s.heap.size ≤ q) b := Nat.not_le.mpr hbl
  refine lv_aload_n hx hb dL_law_647 rfl (lv_at hl 3 rfl) ?_
  refine lv_aload_n hx hb dL_law_648 rfl (lv_at hl 4 rfl) ?_
  refine lv_iload hx hb dL_law_649 (lv_at hl 0 rfl) ?_
  refine lv_iconst (v := 1) hx hb dL_law_651 (by decide) ?_
  refine lv_iadd hx hb dL_law_652 (ztop (.int (nI (7 * t + 1))) (congrArg Value.int (nI_add _ 1)) ?_)
  refine va_sld hx hb hX hbl hbA hS (zix (k := 7 * t + 1) rfl (by omega) (by omega)).1 dL_law_653 (ztop (.int (xs (7 * t + 1))) (congrArg Value.int (congrArg xs (nI_clamp (by omega)))) ?_)
  refine lv_aload_n hx hb dL_law_654 rfl (lv_at hl 4 rfl) ?_
  refine lv_iload hx hb dL_law_655 (lv_at hl 0 rfl) ?_
  refine lv_iconst (v := 2) hx hb dL_law_657 (by decide) ?_
  refine lv_iadd hx hb dL_law_658 (ztop (.int (nI (7 * t + 2))) (congrArg Value.int (nI_add _ 2)) ?_)
  refine va_sld hx hb hX hbl hbA hS (zix (k := 7 * t + 2) rfl (by omega) (by omega)).1 dL_law_659 (ztop (.int (xs (7 * t + 2))) (congrArg Value.int (congrArg xs (nI_clamp (by omega)))) ?_)
  refine lcX (As := [.int (xs (7 * t + 1)), .int (xs (7 * t + 2))]) (rest := []) ⟨hx, hb, hml, hown, htl⟩ (kc_when l D ct E y (xs (7 * t + 1)) (xs (7 * t + 2)) r q hJ hEi) (cwV 2 htl (klV (zr44 9 rfl) (zr44 10 rfl) (zr44 11 rfl) (zr1 2 rfl) (zr44 12 rfl)) rfl rfl rfl (by decide +kernel) ⟨Nat.le_of_ble_eq_true rfl, Nat.le_of_ble_eq_true rfl⟩) hw hS hA hK hZ hN 10 195 rfl kg195 rfl hl.1 rfl (Nat.le_of_ble_eq_true rfl) dL_law_660 (lroom hcs) 663 rfl (fun u1 H locs pu1 hw hS => ?_)
  have kh2 := pu1.2.1
  have hw : zPD D (fun q : Nat => s.heap.size ≤ q) (lW ct E y u1.2 q h2 ym rm qm h3 fo) H := hw
  refine zfr 663 [.int u1.1] rfl rfl ?_
  refine lv_pop hx hb dL_law_663 rfl ?_
  refine lv_aload_n hx hb dL_law_664 rfl (lv_at hl 2 rfl) ?_
  refine lv_aload_n hx hb dL_law_665 rfl (lv_at hl 4 rfl) ?_
  refine lv_iload hx hb dL_law_666 (lv_at hl 0 rfl) ?_
  refine lv_iconst (v := 1) hx hb dL_law_668 (by decide) ?_
  refine lv_iadd hx hb dL_law_669 (ztop (.int (nI (7 * t + 1))) (congrArg Value.int (nI_add _ 1)) ?_)
  refine va_sld hx hb hX hbl hbA hS (zix (k := 7 * t + 1) rfl (by omega) (by omega)).1 dL_law_670 (ztop (.int (xs (7 * t + 1))) (congrArg Value.int (congrArg xs (nI_clamp (by omega)))) ?_)
  refine lv_aload_n hx hb dL_law_671 rfl (lv_at hl 4 rfl) ?_
  refine lv_iload hx hb dL_law_672 (lv_at hl 0 rfl) ?_
  refine lv_iconst (v := 2) hx hb dL_law_674 (by decide) ?_
  refine lv_iadd hx hb dL_law_675 (ztop (.int (nI (7 * t + 2))) (congrArg Value.int (nI_add _ 2)) ?_)
  refine va_sld hx hb hX hbl hbA hS (zix (k := 7 * t + 2) rfl (by omega) (by omega)).1 dL_law_676 (ztop (.int (xs (7 * t + 2))) (congrArg Value.int (congrArg xs (nI_clamp (by omega)))) ?_)
  have hw := lrot hw
  refine lcM (As := [.int (xs (7 * t + 1)), .int (xs (7 * t + 2))]) (rest := []) ⟨hx, hb, hml, hown, htl⟩ (mc_when l D ct h2 ym (xs (7 * t + 1)) (xs (7 * t + 2)) rm qm hM) (cwV 2 htl (klV (zr45 1 rfl) (zr45 2 rfl) (zr45 3 rfl) (zr1 5 rfl) (zr45 4 rfl)) rfl rfl rfl (by decide +kernel) ⟨Nat.le_of_ble_eq_true rfl, Nat.le_of_ble_eq_true rfl⟩) hw hS hA hK hN rfl hl.1 rfl (Nat.le_of_ble_eq_true rfl) dL_law_677 (lroom hcs) 680 rfl (fun u4 H locs pu4 hw hS => ?_)
  have kh5 := pu4.2.1
  have ht7 : lR u1.2 q u4.2 qm := (lR.s hT pu1.2.2.1 pu4.2.2.1 (by rw [show u4 = _ from pu4.2.2.2.1]; exact rs_when) rfl rfl)
  have hw : zPD D (fun q : Nat => s.heap.size ≤ q) (lW ct E y u1.2 q h2 ym u4.2 qm h3 fo) H := hw
  refine zfr 680 [.int u4.1] rfl rfl ?_
  refine lv_pop hx hb dL_law_680 rfl ?_
  refine lv_goto (tgt := 1278) hx hb dL_law_681 (by decide) ?_
  exact kk u1.2 q u4.2 qm fo cells slots kh2 kh5 ht7 (Nat.le_succ _) (Nat.le_add_right _ _) H locs ls hw hS (lv_sub hl [0, 1, 2, 3, 4] rfl)

set_option maxHeartbeats 4000000 in
set_option maxRecDepth 100000 in
theorem kl_14 {p : Program} {l : Launch} {e : Env} {s : State} {m : MethodId} {below : List Frame} {meth : Method} {c : Code} {b L : Nat} {xs : Nat → Int32} (C0 : lw_At p s m meth c b L xs) {D : va_G} {ct : Nat → ClassId} {E : Nat → Nat} (hK : va_K D vwCl (zT ct) s) (hN : zN s) (hZ : eZ E (fun q : Nat => s.heap.size ≤ q) s s.heap) (y ym : Nat → Nat) (h2 h3 t : Nat) (ht : 7 * t + 7 ≤ L) (hL : L ≤ 3584) (r : zRr) (q : zRq) (rm : zRr) (qm : zRq) (fo : Nat → Int64) (hJ : kJ r) (hM : mJ 20 rm) (hT : lR r q rm qm) (hEi : kEi E) (cells slots : Nat) (hcs : cells ≤ 600000 ∧ slots ≤ 7290000)
    (kk : kEnd p l e s m below meth c b D ct E y ym h2 h3 t cells slots) (H : Heap) (locs : List Loc) (hw : zPD D (fun q : Nat => s.heap.size ≤ q) (lW ct E y r q h2 ym rm qm h3 fo) H) (hS : va_S (fun q : Nat => s.heap.size ≤ q) s.heap H locs) (ls : Array Slot) (hl : lv_has ls 7 [(4, .int (nI (7 * t))), (3, .ref h3), (2, .ref h2), (1, .ref (y 195)), (0, .ref b)]) : W p l e room_1 s m #[Value.ref b] below meth c H locs cells slots (lw_Z below #[Value.ref b] s) (F0 m 684 ls []) := by
  obtain ⟨hx, hb, hr, hml, hown, hts, hX, hbl, hlocks, hgv⟩ := id C0
  have hown : s.vm.findClass RL = some m.cls := hown
  have htl : ∀ w ∈ wsL_law0, w.before #[Value.ref b] s = true := fun w h => hts w (wsL_law_in0 w h)
  have hA : ∀ q : Nat, s.heap.size ≤ q → (fun q : Nat => s.heap.size ≤ q) q := fun _ h => h
  have hbA : ¬ (fun q : Nat => s.heap.size ≤ q) b := Nat.not_le.mpr hbl
  refine lv_aload_n hx hb dL_law_684 rfl (lv_at hl 3 rfl) ?_
  refine lv_aload_n hx hb dL_law_685 rfl (lv_at hl 4 rfl) ?_
  refine lv_iload hx hb dL_law_686 (lv_at hl 0 rfl) ?_
  refine lv_iconst (v := 1) hx hb dL_law_688 (by decide) ?_
  refine lv_iadd hx hb dL_law_689 (ztop (.int (nI (7 * t + 1))) (congrArg Value.int (nI_add _ 1)) ?_)
  refine va_sld hx hb hX hbl hbA hS (zix (k := 7 * t + 1) rfl (by omega) (by omega)).1 dL_law_690 (ztop (.int (xs (7 * t + 1))) (congrArg Value.int (congrArg xs (nI_clamp (by omega)))) ?_)
  refine lcX (As := [.int (xs (7 * t + 1))]) (rest := []) ⟨hx, hb, hml, hown, htl⟩ (kc_round l D ct E y (xs (7 * t + 1)) r q hJ hEi) (cwV 1 htl (klV (zr45 9 rfl) (zr45 10 rfl) (zr45 11 rfl) (zr1 2 rfl) (zr45 12 rfl)) rfl rfl rfl (by decide +kernel) ⟨Nat.le_of_ble_eq_true rfl, Nat.le_of_ble_eq_true rfl⟩) hw hS hA hK hZ hN 10 195 rfl kg195 rfl hl.1 rfl (Nat.le_of_ble_eq_true rfl) dL_law_691 (lroom hcs) 694 rfl (fun u1 H locs pu1 hw hS => ?_)
  have kh2 := pu1.2.1
  have hw : zPD D (fun q : Nat => s.heap.size ≤ q) (lW ct E y u1.2 q h2 ym rm qm h3 fo) H := hw
  refine zfr 694 [.int u1.1] rfl rfl ?_
  refine lv_pop hx hb dL_law_694 rfl ?_
  refine lv_aload_n hx hb dL_law_695 rfl (lv_at hl 2 rfl) ?_
  refine lv_aload_n hx hb dL_law_696 rfl (lv_at hl 4 rfl) ?_
  refine lv_iload hx hb dL_law_697 (lv_at hl 0 rfl) ?_
  refine lv_iconst (v := 1) hx hb dL_law_699 (by decide) ?_
  refine lv_iadd hx hb dL_law_700 (ztop (.int (nI (7 * t + 1))) (congrArg Value.int (nI_add _ 1)) ?_)
  refine va_sld hx hb hX hbl hbA hS (zix (k := 7 * t + 1) rfl (by omega) (by omega)).1 dL_law_701 (ztop (.int (xs (7 * t + 1))) (congrArg Value.int (congrArg xs (nI_clamp (by omega)))) ?_)
  have hw := lrot hw
  refine lcM (As := [.int (xs (7 * t + 1))]) (rest := []) ⟨hx, hb, hml, hown, htl⟩ (mc_round l D ct h2 ym (xs (7 * t + 1)) rm qm hM) (cwV 1 htl (klV (zr46 2 rfl) (zr46 3 rfl) (zr46 4 rfl) (zr1 5 rfl) (zr46 5 rfl)) rfl rfl rfl (by decide +kernel) ⟨Nat.le_of_ble_eq_true rfl, Nat.le_of_ble_eq_true rfl⟩) hw hS hA hK hN rfl hl.1 rfl (Nat.le_of_ble_eq_true rfl) dL_law_702 (lroom hcs) 705 rfl (fun u4 H locs pu4 hw hS => ?_)
  have kh5 := pu4.2.1
  have ht7 : lR u1.2 q u4.2 qm := (lR.s hT pu1.2.2.1 pu4.2.2.1 (by rw [show u4 = _ from pu4.2.2.2.1]; exact rs_round) rfl rfl)
  have hw : zPD D (fun q : Nat => s.heap.size ≤ q) (lW ct E y u1.2 q h2 ym u4.2 qm h3 fo) H := hw
  refine zfr 705 [.int u4.1] rfl rfl ?_
  refine lv_pop hx hb dL_law_705 rfl ?_
  refine lv_goto (tgt := 1278) hx hb dL_law_706 (by decide) ?_
  exact kk u1.2 q u4.2 qm fo cells slots kh2 kh5 ht7 (Nat.le_succ _) (Nat.le_add_right _ _) H locs ls hw hS (lv_sub hl [0, 1, 2, 3, 4] rfl)

set_option maxHeartbeats 4000000 in
set_option maxRecDepth 100000 in
theorem kl_15 {p : Program} {l : Launch} {e : Env} {s : State} {m : MethodId} {below : List Frame} {meth : Method} {c : Code} {b L : Nat} {xs : Nat → Int32} (C0 : lw_At p s m meth c b L xs) {D : va_G} {ct : Nat → ClassId} {E : Nat → Nat} (hK : va_K D vwCl (zT ct) s) (hN : zN s) (hZ : eZ E (fun q : Nat => s.heap.size ≤ q) s s.heap) (y ym : Nat → Nat) (h2 h3 t : Nat) (ht : 7 * t + 7 ≤ L) (hL : L ≤ 3584) (r : zRr) (q : zRq) (rm : zRr) (qm : zRq) (fo : Nat → Int64) (hJ : kJ r) (hM : mJ 20 rm) (hT : lR r q rm qm) (hEi : kEi E) (cells slots : Nat) (hcs : cells ≤ 600000 ∧ slots ≤ 7290000)
    (kk : kEnd p l e s m below meth c b D ct E y ym h2 h3 t cells slots) (H : Heap) (locs : List Loc) (hw : zPD D (fun q : Nat => s.heap.size ≤ q) (lW ct E y r q h2 ym rm qm h3 fo) H) (hS : va_S (fun q : Nat => s.heap.size ≤ q) s.heap H locs) (ls : Array Slot) (hl : lv_has ls 7 [(4, .int (nI (7 * t))), (3, .ref h3), (2, .ref h2), (1, .ref (y 195)), (0, .ref b)]) : W p l e room_1 s m #[Value.ref b] below meth c H locs cells slots (lw_Z below #[Value.ref b] s) (F0 m 709 ls []) := by
  obtain ⟨hx, hb, hr, hml, hown, hts, hX, hbl, hlocks, hgv⟩ := id C0
  have hown : s.vm.findClass RL = some m.cls := hown
  have htl : ∀ w ∈ wsL_law0, w.before #[Value.ref b] s = true := fun w h => hts w (wsL_law_in0 w h)
  have hA : ∀ q : Nat, s.heap.size ≤ q → (fun q : Nat => s.heap.size ≤ q) q := fun _ h => h
  have hbA : ¬ (fun q : Nat => s.heap.size ≤ q) b := Nat.not_le.mpr hbl
  refine lv_aload_n hx hb dL_law_709 rfl (lv_at hl 3 rfl) ?_
  refine lv_aload_n hx hb dL_law_710 rfl (lv_at hl 4 rfl) ?_
  refine lv_iload hx hb dL_law_711 (lv_at hl 0 rfl) ?_
  refine lv_iconst (v := 1) hx hb dL_law_713 (by decide) ?_
  refine lv_iadd hx hb dL_law_714 (ztop (.int (nI (7 * t + 1))) (congrArg Value.int (nI_add _ 1)) ?_)
  refine va_sld hx hb hX hbl hbA hS (zix (k := 7 * t + 1) rfl (by omega) (by omega)).1 dL_law_715 (ztop (.int (xs (7 * t + 1))) (congrArg Value.int (congrArg xs (nI_clamp (by omega)))) ?_)
  refine lv_aload_n hx hb dL_law_716 rfl (lv_at hl 4 rfl) ?_
  refine lv_iload hx hb dL_law_717 (lv_at hl 0 rfl) ?_
  refine lv_iconst (v := 2) hx hb dL_law_719 (by decide) ?_
  refine lv_iadd hx hb dL_law_720 (ztop (.int (nI (7 * t + 2))) (congrArg Value.int (nI_add _ 2)) ?_)
  refine va_sld hx hb hX hbl hbA hS (zix (k := 7 * t + 2) rfl (by omega) (by omega)).1 dL_law_721 (ztop (.int (xs (7 * t + 2))) (congrArg Value.int (congrArg xs (nI_clamp (by omega)))) ?_)
  refine lcX (As := [.int (xs (7 * t + 1)), .int (xs (7 * t + 2))]) (rest := []) ⟨hx, hb, hml, hown, htl⟩ (kc_need l D ct E y (xs (7 * t + 1)) (xs (7 * t + 2)) r q hJ hEi) (cwV 2 htl (klV (zr46 10 rfl) (zr46 11 rfl) (zr46 12 rfl) (zr1 2 rfl) (zr46 13 rfl)) rfl rfl rfl (by decide +kernel) ⟨Nat.le_of_ble_eq_true rfl, Nat.le_of_ble_eq_true rfl⟩) hw hS hA hK hZ hN 10 195 rfl kg195 rfl hl.1 rfl (Nat.le_of_ble_eq_true rfl) dL_law_722 (lroom hcs) 725 rfl (fun u1 H locs pu1 hw hS => ?_)
  have kh2 := pu1.2.1
  have hw : zPD D (fun q : Nat => s.heap.size ≤ q) (lW ct E y u1.2 q h2 ym rm qm h3 fo) H := hw
  refine zfr 725 [.int u1.1] rfl rfl ?_
  refine lv_pop hx hb dL_law_725 rfl ?_
  refine lv_aload_n hx hb dL_law_726 rfl (lv_at hl 2 rfl) ?_
  refine lv_aload_n hx hb dL_law_727 rfl (lv_at hl 4 rfl) ?_
  refine lv_iload hx hb dL_law_728 (lv_at hl 0 rfl) ?_
  refine lv_iconst (v := 1) hx hb dL_law_730 (by decide) ?_
  refine lv_iadd hx hb dL_law_731 (ztop (.int (nI (7 * t + 1))) (congrArg Value.int (nI_add _ 1)) ?_)
  refine va_sld hx hb hX hbl hbA hS (zix (k := 7 * t + 1) rfl (by omega) (by omega)).1 dL_law_732 (ztop (.int (xs (7 * t + 1))) (congrArg Value.int (congrArg xs (nI_clamp (by omega)))) ?_)
  refine lv_aload_n hx hb dL_law_733 rfl (lv_at hl 4 rfl) ?_
  refine lv_iload hx hb dL_law_734 (lv_at hl 0 rfl) ?_
  refine lv_iconst (v := 2) hx hb dL_law_736 (by decide) ?_
  refine lv_iadd hx hb dL_law_737 (ztop (.int (nI (7 * t + 2))) (congrArg Value.int (nI_add _ 2)) ?_)
  refine va_sld hx hb hX hbl hbA hS (zix (k := 7 * t + 2) rfl (by omega) (by omega)).1 dL_law_738 (ztop (.int (xs (7 * t + 2))) (congrArg Value.int (congrArg xs (nI_clamp (by omega)))) ?_)
  have hw := lrot hw
  refine lcM (As := [.int (xs (7 * t + 1)), .int (xs (7 * t + 2))]) (rest := []) ⟨hx, hb, hml, hown, htl⟩ (mc_need l D ct h2 ym (xs (7 * t + 1)) (xs (7 * t + 2)) rm qm hM) (cwV 2 htl (klV (zr46 19 rfl) (zr46 20 rfl) (zr46 21 rfl) (zr1 5 rfl) (zr46 22 rfl)) rfl rfl rfl (by decide +kernel) ⟨Nat.le_of_ble_eq_true rfl, Nat.le_of_ble_eq_true rfl⟩) hw hS hA hK hN rfl hl.1 rfl (Nat.le_of_ble_eq_true rfl) dL_law_739 (lroom hcs) 742 rfl (fun u4 H locs pu4 hw hS => ?_)
  have kh5 := pu4.2.1
  have ht7 : lR u1.2 q u4.2 qm := (lR.s hT pu1.2.2.1 pu4.2.2.1 (lR.sN pu4.2.2.2.1 hM hT) rfl rfl)
  have hw : zPD D (fun q : Nat => s.heap.size ≤ q) (lW ct E y u1.2 q h2 ym u4.2 qm h3 fo) H := hw
  refine zfr 742 [.int u4.1] rfl rfl ?_
  refine lv_pop hx hb dL_law_742 rfl ?_
  refine lv_goto (tgt := 1278) hx hb dL_law_743 (by decide) ?_
  exact kk u1.2 q u4.2 qm fo cells slots kh2 kh5 ht7 (Nat.le_succ _) (Nat.le_add_right _ _) H locs ls hw hS (lv_sub hl [0, 1, 2, 3, 4] rfl)
set_option maxHeartbeats 4000000 in
set_option maxRecDepth 100000 in
theorem kl_16 {p : Program} {l : Launch} {e : Env} {s : State} {m : MethodId} {below : List Frame} {meth : Method} {c : Code} {b L : Nat} {xs : Nat → Int32} (C0 : lw_At p s m meth c b L xs) {D : va_G} {ct : Nat → ClassId} {E : Nat → Nat} (hK : va_K D vwCl (zT ct) s) (hN : zN s) (hZ : eZ E (fun q : Nat => s.heap.size ≤ q) s s.heap) (y ym : Nat → Nat) (h2 h3 t : Nat) (ht : 7 * t + 7 ≤ L) (hL : L ≤ 3584) (r : zRr) (q : zRq) (rm : zRr) (qm : zRq) (fo : Nat → Int64) (hJ : kJ r) (hM : mJ 20 rm) (hT : lR r q rm qm) (hEi : kEi E) (cells slots : Nat) (hcs : cells ≤ 600000 ∧ slots ≤ 7290000)
    (kk : kEnd p l e s m below meth c b D ct E y ym h2 h3 t cells slots) (H : Heap) (locs : List Loc) (hw : zPD D (fun q : Nat => s.heap.size ≤ q) (lW ct E y r q h2 ym rm qm h3 fo) H) (hS : va_S (fun q : Nat => s.heap.size ≤ q) s.heap H locs) (ls : Array Slot) (hl : lv_has ls 7 [(4, .int (nI (7 * t))), (3, .ref h3), (2, .ref h2), (1, .ref (y 195)), (0, .ref b)]) : W p l e room_1 s m #[Value.ref b] below meth c H locs cells slots (lw_Z below #[Value.ref b] s) (F0 m 746 ls []) := by
  obtain ⟨hx, hb, hr, hml, hown, hts, hX, hbl, hlocks, hgv⟩ := id C0
  have hown : s.vm.findClass RL = some m.cls := hown
  have htl : ∀ w ∈ wsL_law0, w.before #[Value.ref b] s = true := fun w h => hts w (wsL_law_in0 w h)
  have hA : ∀ q : Nat, s.heap.size ≤ q → (fun q : Nat => s.heap.size ≤ q) q := fun _ h => h
  have hbA : ¬ (fun q : Nat => s.heap.size ≤ q) b := Nat.not_le.mpr hbl
  refine lv_aload_n hx hb dL_law_746 rfl (lv_at hl 3 rfl) ?_
  refine lv_aload_n hx hb dL_law_747 rfl (lv_at hl 4 rfl) ?_
  refine lv_iload hx hb dL_law_748 (lv_at hl 0 rfl) ?_
  refine lv_iconst (v := 1) hx hb dL_law_750 (by decide) ?_
  refine lv_iadd hx hb dL_law_751 (ztop (.int (nI (7 * t + 1))) (congrArg Value.int (nI_add _ 1)) ?_)
  refine va_sld hx hb hX hbl hbA hS (zix (k := 7 * t + 1) rfl (by omega) (by omega)).1 dL_law_752 (ztop (.int (xs (7 * t + 1))) (congrArg Value.int (congrArg xs (nI_clamp (by omega)))) ?_)
  refine lv_aload_n hx hb dL_law_753 rfl (lv_at hl 4 rfl) ?_
  refine lv_iload hx hb dL_law_754 (lv_at hl 0 rfl) ?_
  refine lv_iconst (v := 2) hx hb dL_law_756 (by decide) ?_
  refine lv_iadd hx hb dL_law_757 (ztop (.int (nI (7 * t + 2))) (congrArg Value.int (nI_add _ 2)) ?_)
  refine va_sld hx hb hX hbl hbA hS (zix (k := 7 * t + 2) rfl (by omega) (by omega)).1 dL_law_758 (ztop (.int (xs (7 * t + 2))) (congrArg Value.int (congrArg xs (nI_clamp (by omega)))) ?_)
  refine lcX (As := [.int (xs (7 * t + 1)), .int (xs (7 * t + 2))]) (rest := []) ⟨hx, hb, hml, hown, htl⟩ (kc_guide l D ct E y (xs (7 * t + 1)) (xs (7 * t + 2)) r q hJ hEi) (cwV 2 htl (klV (zr47 3 rfl) (zr47 4 rfl) (zr47 5 rfl) (zr1 2 rfl) (zr47 6 rfl)) rfl rfl rfl (by decide +kernel) ⟨Nat.le_of_ble_eq_true rfl, Nat.le_of_ble_eq_true rfl⟩) hw hS hA hK hZ hN 10 195 rfl kg195 rfl hl.1 rfl (Nat.le_of_ble_eq_true rfl) dL_law_759 (lroom hcs) 762 rfl (fun u1 H locs pu1 hw hS => ?_)
  have kh2 := pu1.2.1
  have hw : zPD D (fun q : Nat => s.heap.size ≤ q) (lW ct E y u1.2 q h2 ym rm qm h3 fo) H := hw
  refine zfr 762 [.int u1.1] rfl rfl ?_
  refine lv_pop hx hb dL_law_762 rfl ?_
  refine lv_aload_n hx hb dL_law_763 rfl (lv_at hl 2 rfl) ?_
  refine lv_aload_n hx hb dL_law_764 rfl (lv_at hl 4 rfl) ?_
  refine lv_iload hx hb dL_law_765 (lv_at hl 0 rfl) ?_
  refine lv_iconst (v := 1) hx hb dL_law_767 (by decide) ?_
  refine lv_iadd hx hb dL_law_768 (ztop (.int (nI (7 * t + 1))) (congrArg Value.int (nI_add _ 1)) ?_)
  refine va_sld hx hb hX hbl hbA hS (zix (k := 7 * t + 1) rfl (by omega) (by omega)).1 dL_law_769 (ztop (.int (xs (7 * t + 1))) (congrArg Value.int (congrArg xs (nI_clamp (by omega)))) ?_)
  refine lv_aload_n hx hb dL_law_770 rfl (lv_at hl 4 rfl) ?_
  refine lv_iload hx hb dL_law_771 (lv_at hl 0 rfl) ?_
  refine lv_iconst (v := 2) hx hb dL_law_773 (by decide) ?_
  refine lv_iadd hx hb dL_law_774 (ztop (.int (nI (7 * t + 2))) (congrArg Value.int (nI_add _ 2)) ?_)
  refine va_sld hx hb hX hbl hbA hS (zix (k := 7 * t + 2) rfl (by omega) (by omega)).1 dL_law_775 (ztop (.int (xs (7 * t + 2))) (congrArg Value.int (congrArg xs (nI_clamp (by omega)))) ?_)
  have hw := lrot hw
  refine lcM (As := [.int (xs (7 * t + 1)), .int (xs (7 * t + 2))]) (rest := []) ⟨hx, hb, hml, hown, htl⟩ (mc_guide l D ct h2 ym 20 (xs (7 * t + 1)) (xs (7 * t + 2)) rm qm hM) (cwV 2 htl (klV (zr47 12 rfl) (zr47 13 rfl) (zr47 14 rfl) (zr1 5 rfl) (zr47 15 rfl)) rfl rfl rfl (by decide +kernel) ⟨Nat.le_of_ble_eq_true rfl, Nat.le_of_ble_eq_true rfl⟩) hw hS hA hK hN rfl hl.1 rfl (Nat.le_of_ble_eq_true rfl) dL_law_776 (lroom hcs) 779 rfl (fun u4 H locs pu4 hw hS => ?_)
  have kh5 := pu4.2.1
  have ht7 : lR u1.2 q u4.2 qm := (lR.q hT pu1.2.2.1 pu4.2.2.1 rfl rfl rfl)
  have hw : zPD D (fun q : Nat => s.heap.size ≤ q) (lW ct E y u1.2 q h2 ym u4.2 qm h3 fo) H := hw
  refine zfr 779 [.int u4.1] rfl rfl ?_
  refine lv_pop hx hb dL_law_779 rfl ?_
  refine lv_goto (tgt := 1278) hx hb dL_law_780 (by decide) ?_
  exact kk u1.2 q u4.2 qm fo cells slots kh2 kh5 ht7 (Nat.le_succ _) (Nat.le_add_right _ _) H locs ls hw hS (lv_sub hl [0, 1, 2, 3, 4] rfl)

set_option maxHeartbeats 4000000 in
set_option maxRecDepth 100000 in
theorem kl_17 {p : Program} {l : Launch} {e : Env} {s : State} {m : MethodId} {below : List Frame} {meth : Method} {c : Code} {b L : Nat} {xs : Nat → Int32} (C0 : lw_At p s m meth c b L xs) {D : va_G} {ct : Nat → ClassId} {E : Nat → Nat} (hK : va_K D vwCl (zT ct) s) (hN : zN s) (hZ : eZ E (fun q : Nat => s.heap.size ≤ q) s s.heap) (y ym : Nat → Nat) (h2 h3 t : Nat) (ht : 7 * t + 7 ≤ L) (hL : L ≤ 3584) (r : zRr) (q : zRq) (rm : zRr) (qm : zRq) (fo : Nat → Int64) (hJ : kJ r) (hM : mJ 20 rm) (hT : lR r q rm qm) (hEi : kEi E) (cells slots : Nat) (hcs : cells ≤ 600000 ∧ slots ≤ 7290000)
    (kk : kEnd p l e s m below meth c b D ct E y ym h2 h3 t cells slots) (H : Heap) (locs : List Loc) (hw : zPD D (fun q : Nat => s.heap.size ≤ q) (lW ct E y r q h2 ym rm qm h3 fo) H) (hS : va_S (fun q : Nat => s.heap.size ≤ q) s.heap H locs) (ls : Array Slot) (hl : lv_has ls 7 [(4, .int (nI (7 * t))), (3, .ref h3), (2, .ref h2), (1, .ref (y 195)), (0, .ref b)]) : W p l e room_1 s m #[Value.ref b] below meth c H locs cells slots (lw_Z below #[Value.ref b] s) (F0 m 783 ls []) := by
  obtain ⟨hx, hb, hr, hml, hown, hts, hX, hbl, hlocks, hgv⟩ := id C0
  have hown : s.vm.findClass RL = some m.cls := hown
  have htl : ∀ w ∈ wsL_law0, w.before #[Value.ref b] s = true := fun w h => hts w (wsL_law_in0 w h)
  have hA : ∀ q : Nat, s.heap.size ≤ q → (fun q : Nat => s.heap.size ≤ q) q := fun _ h => h
  have hbA : ¬ (fun q : Nat => s.heap.size ≤ q) b := Nat.not_le.mpr hbl
  refine lv_aload_n hx hb dL_law_783 rfl (lv_at hl 3 rfl) ?_
  refine lv_aload_n hx hb dL_law_784 rfl (lv_at hl 4 rfl) ?_
  refine lv_iload hx hb dL_law_785 (lv_at hl 0 rfl) ?_
  refine lv_iconst (v := 1) hx hb dL_law_787 (by decide) ?_
  refine lv_iadd hx hb dL_law_788 (ztop (.int (nI (7 * t + 1))) (congrArg Value.int (nI_add _ 1)) ?_)
  refine va_sld hx hb hX hbl hbA hS (zix (k := 7 * t + 1) rfl (by omega) (by omega)).1 dL_law_789 (ztop (.int (xs (7 * t + 1))) (congrArg Value.int (congrArg xs (nI_clamp (by omega)))) ?_)
  refine lcX (As := [.int (xs (7 * t + 1))]) (rest := []) ⟨hx, hb, hml, hown, htl⟩ (kc_cheapest l D ct E y (xs (7 * t + 1)) r q hJ hEi) (cwV 1 htl (klV (zr47 16 rfl) (zr47 17 rfl) (zr47 18 rfl) (zr1 2 rfl) (zr47 19 rfl)) rfl rfl rfl (by decide +kernel) ⟨Nat.le_of_ble_eq_true rfl, Nat.le_of_ble_eq_true rfl⟩) hw hS hA hK hZ hN 10 195 rfl kg195 rfl hl.1 rfl (Nat.le_of_ble_eq_true rfl) dL_law_790 (lroom hcs) 793 rfl (fun u1 H locs pu1 hw hS => ?_)
  have kh2 := pu1.2.1
  have hw : zPD D (fun q : Nat => s.heap.size ≤ q) (lW ct E y u1.2 q h2 ym rm qm h3 fo) H := hw
  refine zfr 793 [.int u1.1] rfl rfl ?_
  refine lv_pop hx hb dL_law_793 rfl ?_
  refine lv_aload_n hx hb dL_law_794 rfl (lv_at hl 2 rfl) ?_
  refine lv_aload_n hx hb dL_law_795 rfl (lv_at hl 4 rfl) ?_
  refine lv_iload hx hb dL_law_796 (lv_at hl 0 rfl) ?_
  refine lv_iconst (v := 1) hx hb dL_law_798 (by decide) ?_
  refine lv_iadd hx hb dL_law_799 (ztop (.int (nI (7 * t + 1))) (congrArg Value.int (nI_add _ 1)) ?_)
  refine va_sld hx hb hX hbl hbA hS (zix (k := 7 * t + 1) rfl (by omega) (by omega)).1 dL_law_800 (ztop (.int (xs (7 * t + 1))) (congrArg Value.int (congrArg xs (nI_clamp (by omega)))) ?_)
  have hw := lrot hw
  refine lcM (As := [.int (xs (7 * t + 1))]) (rest := []) ⟨hx, hb, hml, hown, htl⟩ (mc_cheapest l D ct h2 ym (xs (7 * t + 1)) rm qm hM) (cwV 1 htl (klV (zr47 20 rfl) (zr47 21 rfl) (zr47 22 rfl) (zr1 5 rfl) (zr47 23 rfl)) rfl rfl rfl (by decide +kernel) ⟨Nat.le_of_ble_eq_true rfl, Nat.le_of_ble_eq_true rfl⟩) hw hS hA hK hN rfl hl.1 rfl (Nat.le_of_ble_eq_true rfl) dL_law_801 (lroom hcs) 804 rfl (fun u4 H locs pu4 hw hS => ?_)
  have kh5 := pu4.2.1
  have ht7 : lR u1.2 q u4.2 qm := (lR.s hT pu1.2.2.1 pu4.2.2.1 (lR.sC pu4.2.2.2.1 hM hT) rfl rfl)
  have hw : zPD D (fun q : Nat => s.heap.size ≤ q) (lW ct E y u1.2 q h2 ym u4.2 qm h3 fo) H := hw
  refine zfr 804 [.int u4.1] rfl rfl ?_
  refine lv_pop hx hb dL_law_804 rfl ?_
  refine lv_goto (tgt := 1278) hx hb dL_law_805 (by decide) ?_
  exact kk u1.2 q u4.2 qm fo cells slots kh2 kh5 ht7 (Nat.le_succ _) (Nat.le_add_right _ _) H locs ls hw hS (lv_sub hl [0, 1, 2, 3, 4] rfl)

set_option maxHeartbeats 4000000 in
set_option maxRecDepth 100000 in
theorem kl_18 {p : Program} {l : Launch} {e : Env} {s : State} {m : MethodId} {below : List Frame} {meth : Method} {c : Code} {b L : Nat} {xs : Nat → Int32} (C0 : lw_At p s m meth c b L xs) {D : va_G} {ct : Nat → ClassId} {E : Nat → Nat} (hK : va_K D vwCl (zT ct) s) (hN : zN s) (hZ : eZ E (fun q : Nat => s.heap.size ≤ q) s s.heap) (y ym : Nat → Nat) (h2 h3 t : Nat) (ht : 7 * t + 7 ≤ L) (hL : L ≤ 3584) (r : zRr) (q : zRq) (rm : zRr) (qm : zRq) (fo : Nat → Int64) (hJ : kJ r) (hM : mJ 20 rm) (hT : lR r q rm qm) (hEi : kEi E) (cells slots : Nat) (hcs : cells ≤ 600000 ∧ slots ≤ 7290000)
    (kk : kEnd p l e s m below meth c b D ct E y ym h2 h3 t cells slots) (H : Heap) (locs : List Loc) (hw : zPD D (fun q : Nat => s.heap.size ≤ q) (lW ct E y r q h2 ym rm qm h3 fo) H) (hS : va_S (fun q : Nat => s.heap.size ≤ q) s.heap H locs) (ls : Array Slot) (hl : lv_has ls 7 [(4, .int (nI (7 * t))), (3, .ref h3), (2, .ref h2), (1, .ref (y 195)), (0, .ref b)]) : W p l e room_1 s m #[Value.ref b] below meth c H locs cells slots (lw_Z below #[Value.ref b] s) (F0 m 808 ls []) := by
  obtain ⟨hx, hb, hr, hml, hown, hts, hX, hbl, hlocks, hgv⟩ := id C0
  have hown : s.vm.findClass RL = some m.cls := hown
  have htl : ∀ w ∈ wsL_law0, w.before #[Value.ref b] s = true := fun w h => hts w (wsL_law_in0 w h)
  have hA : ∀ q : Nat, s.heap.size ≤ q → (fun q : Nat => s.heap.size ≤ q) q := fun _ h => h
  have hbA : ¬ (fun q : Nat => s.heap.size ≤ q) b := Nat.not_le.mpr hbl
  refine lv_aload_n hx hb dL_law_808 rfl (lv_at hl 3 rfl) ?_
  refine lv_aload_n hx hb dL_law_809 rfl (lv_at hl 4 rfl) ?_
  refine lv_iload hx hb dL_law_810 (lv_at hl 0 rfl) ?_
  refine lv_iconst (v := 1) hx hb dL_law_812 (by decide) ?_
  refine lv_iadd hx hb dL_law_813 (ztop (.int (nI (7 * t + 1))) (congrArg Value.int (nI_add _ 1)) ?_)
  refine va_sld hx hb hX hbl hbA hS (zix (k := 7 * t + 1) rfl (by omega) (by omega)).1 dL_law_814 (ztop (.int (xs (7 * t + 1))) (congrArg Value.int (congrArg xs (nI_clamp (by omega)))) ?_)
  refine lv_aload_n hx hb dL_law_815 rfl (lv_at hl 4 rfl) ?_
  refine lv_iload hx hb dL_law_816 (lv_at hl 0 rfl) ?_
  refine lv_iconst (v := 2) hx hb dL_law_818 (by decide) ?_
  refine lv_iadd hx hb dL_law_819 (ztop (.int (nI (7 * t + 2))) (congrArg Value.int (nI_add _ 2)) ?_)
  refine va_sld hx hb hX hbl hbA hS (zix (k := 7 * t + 2) rfl (by omega) (by omega)).1 dL_law_820 (ztop (.int (xs (7 * t + 2))) (congrArg Value.int (congrArg xs (nI_clamp (by omega)))) ?_)
  refine lcX (As := [.int (xs (7 * t + 1)), .int (xs (7 * t + 2))]) (rest := []) ⟨hx, hb, hml, hown, htl⟩ (kc_debt l D ct E y (xs (7 * t + 1)) (xs (7 * t + 2)) r q hJ hEi) (cwV 2 htl (klV (zr48 0 rfl) (zr48 1 rfl) (zr48 2 rfl) (zr1 2 rfl) (zr48 3 rfl)) rfl rfl rfl (by decide +kernel) ⟨Nat.le_of_ble_eq_true rfl, Nat.le_of_ble_eq_true rfl⟩) hw hS hA hK hZ hN 10 195 rfl kg195 rfl hl.1 rfl (Nat.le_of_ble_eq_true rfl) dL_law_821 (lroom hcs) 824 rfl (fun u1 H locs pu1 hw hS => ?_)
  have kh2 := pu1.2.1
  have hw : zPD D (fun q : Nat => s.heap.size ≤ q) (lW ct E y u1.2 q h2 ym rm qm h3 fo) H := hw
  refine zfr 824 [.int u1.1] rfl rfl ?_
  refine lv_pop hx hb dL_law_824 rfl ?_
  refine lv_aload_n hx hb dL_law_825 rfl (lv_at hl 2 rfl) ?_
  refine lv_aload_n hx hb dL_law_826 rfl (lv_at hl 4 rfl) ?_
  refine lv_iload hx hb dL_law_827 (lv_at hl 0 rfl) ?_
  refine lv_iconst (v := 1) hx hb dL_law_829 (by decide) ?_
  refine lv_iadd hx hb dL_law_830 (ztop (.int (nI (7 * t + 1))) (congrArg Value.int (nI_add _ 1)) ?_)
  refine va_sld hx hb hX hbl hbA hS (zix (k := 7 * t + 1) rfl (by omega) (by omega)).1 dL_law_831 (ztop (.int (xs (7 * t + 1))) (congrArg Value.int (congrArg xs (nI_clamp (by omega)))) ?_)
  refine lv_aload_n hx hb dL_law_832 rfl (lv_at hl 4 rfl) ?_
  refine lv_iload hx hb dL_law_833 (lv_at hl 0 rfl) ?_
  refine lv_iconst (v := 2) hx hb dL_law_835 (by decide) ?_
  refine lv_iadd hx hb dL_law_836 (ztop (.int (nI (7 * t + 2))) (congrArg Value.int (nI_add _ 2)) ?_)
  refine va_sld hx hb hX hbl hbA hS (zix (k := 7 * t + 2) rfl (by omega) (by omega)).1 dL_law_837 (ztop (.int (xs (7 * t + 2))) (congrArg Value.int (congrArg xs (nI_clamp (by omega)))) ?_)
  have hw := lrot hw
  refine lcM (As := [.int (xs (7 * t + 1)), .int (xs (7 * t + 2))]) (rest := []) ⟨hx, hb, hml, hown, htl⟩ (mc_debt l D ct h2 ym (xs (7 * t + 1)) (xs (7 * t + 2)) rm qm hM) (cwV 2 htl (klV (zr48 6 rfl) (zr48 7 rfl) (zr48 8 rfl) (zr1 5 rfl) (zr48 9 rfl)) rfl rfl rfl (by decide +kernel) ⟨Nat.le_of_ble_eq_true rfl, Nat.le_of_ble_eq_true rfl⟩) hw hS hA hK hN rfl hl.1 rfl (Nat.le_of_ble_eq_true rfl) dL_law_838 (lroom hcs) 841 rfl (fun u4 H locs pu4 hw hS => ?_)
  have kh5 := pu4.2.1
  have ht7 : lR u1.2 q u4.2 qm := (lR.s hT pu1.2.2.1 pu4.2.2.1 (lR.sD pu4.2.2.2.1 hM hT) rfl rfl)
  have hw : zPD D (fun q : Nat => s.heap.size ≤ q) (lW ct E y u1.2 q h2 ym u4.2 qm h3 fo) H := hw
  refine zfr 841 [.int u4.1] rfl rfl ?_
  refine lv_pop hx hb dL_law_841 rfl ?_
  refine lv_goto (tgt := 1278) hx hb dL_law_842 (by decide) ?_
  exact kk u1.2 q u4.2 qm fo cells slots kh2 kh5 ht7 (Nat.le_succ _) (Nat.le_add_right _ _) H locs ls hw hS (lv_sub hl [0, 1, 2, 3, 4] rfl)

set_option maxHeartbeats 4000000 in
set_option maxRecDepth 100000 in
theorem kl_19 {p : Program} {l : Launch} {e : Env} {s : State} {m : MethodId} {below : List Frame} {meth : Method} {c : Code} {b L : Nat} {xs : Nat → Int32} (C0 : lw_At p s m meth c b L xs) {D : va_G} {ct : Nat → ClassId} {E : Nat → Nat} (hK : va_K D vwCl (zT ct) s) (hN : zN s) (hZ : eZ E (fun q : Nat => s.heap.size ≤ q) s s.heap) (y ym : Nat → Nat) (h2 h3 t : Nat) (ht : 7 * t + 7 ≤ L) (hL : L ≤ 3584) (r : zRr) (q : zRq) (rm : zRr) (qm : zRq) (fo : Nat → Int64) (hJ : kJ r) (hM : mJ 20 rm) (hT : lR r q rm qm) (hEi : kEi E) (cells slots : Nat) (hcs : cells ≤ 600000 ∧ slots ≤ 7290000)
    (kk : kEnd p l e s m below meth c b D ct E y ym h2 h3 t cells slots) (H : Heap) (locs : List Loc) (hw : zPD D (fun q : Nat => s.heap.size ≤ q) (lW ct E y r q h2 ym rm qm h3 fo) H) (hS : va_S (fun q : Nat => s.heap.size ≤ q) s.heap H locs) (ls : Array Slot) (hl : lv_has ls 7 [(4, .int (nI (7 * t))), (3, .ref h3), (2, .ref h2), (1, .ref (y 195)), (0, .ref b)]) : W p l e room_1 s m #[Value.ref b] below meth c H locs cells slots (lw_Z below #[Value.ref b] s) (F0 m 845 ls []) := by
  obtain ⟨hx, hb, hr, hml, hown, hts, hX, hbl, hlocks, hgv⟩ := id C0
  have hown : s.vm.findClass RL = some m.cls := hown
  have htl : ∀ w ∈ wsL_law0, w.before #[Value.ref b] s = true := fun w h => hts w (wsL_law_in0 w h)
  have hA : ∀ q : Nat, s.heap.size ≤ q → (fun q : Nat => s.heap.size ≤ q) q := fun _ h => h
  have hbA : ¬ (fun q : Nat => s.heap.size ≤ q) b := Nat.not_le.mpr hbl
  refine lv_aload_n hx hb dL_law_845 rfl (lv_at hl 3 rfl) ?_
  refine lcX (As := []) (rest := []) ⟨hx, hb, hml, hown, htl⟩ (kc_trapped l D ct E y r q hJ hEi) (cwV 0 htl (klV (zr48 10 rfl) (zr48 11 rfl) (zr48 12 rfl) (zr1 2 rfl) (zr48 13 rfl)) rfl rfl rfl (by decide +kernel) ⟨Nat.le_of_ble_eq_true rfl, Nat.le_of_ble_eq_true rfl⟩) hw hS hA hK hZ hN 10 195 rfl kg195 rfl hl.1 rfl (Nat.le_of_ble_eq_true rfl) dL_law_846 (lroom hcs) 849 rfl (fun u1 H locs pu1 hw hS => ?_)
  have kh2 := pu1.2.1
  have hw : zPD D (fun q : Nat => s.heap.size ≤ q) (lW ct E y u1.2 q h2 ym rm qm h3 fo) H := hw
  refine zfr 849 [.int u1.1] rfl rfl ?_
  refine lv_pop hx hb dL_law_849 rfl ?_
  refine lv_aload_n hx hb dL_law_850 rfl (lv_at hl 2 rfl) ?_
  have hw := lrot hw
  refine lcM (As := []) (rest := []) ⟨hx, hb, hml, hown, htl⟩ (mc_trapped l D ct h2 ym 20 rm qm hM) (cwV 0 htl (klV (zr48 15 rfl) (zr48 16 rfl) (zr48 17 rfl) (zr1 5 rfl) (zr48 18 rfl)) rfl rfl rfl (by decide +kernel) ⟨Nat.le_of_ble_eq_true rfl, Nat.le_of_ble_eq_true rfl⟩) hw hS hA hK hN rfl hl.1 rfl (Nat.le_of_ble_eq_true rfl) dL_law_851 (lroom hcs) 854 rfl (fun u4 H locs pu4 hw hS => ?_)
  have kh5 := pu4.2.1
  have ht7 : lR u1.2 q u4.2 qm := (lR.q hT pu1.2.2.1 pu4.2.2.1 rfl rfl rfl)
  have hw : zPD D (fun q : Nat => s.heap.size ≤ q) (lW ct E y u1.2 q h2 ym u4.2 qm h3 fo) H := hw
  refine zfr 854 [.int u4.1] rfl rfl ?_
  refine lv_pop hx hb dL_law_854 rfl ?_
  refine lv_goto (tgt := 1278) hx hb dL_law_855 (by decide) ?_
  exact kk u1.2 q u4.2 qm fo cells slots kh2 kh5 ht7 (Nat.le_succ _) (Nat.le_add_right _ _) H locs ls hw hS (lv_sub hl [0, 1, 2, 3, 4] rfl)

set_option maxHeartbeats 4000000 in
set_option maxRecDepth 100000 in
theorem kl_20 {p : Program} {l : Launch} {e : Env} {s : State} {m : MethodId} {below : List Frame} {meth : Method} {c : Code} {b L : Nat} {xs : Nat → Int32} (C0 : lw_At p s m meth c b L xs) {D : va_G} {ct : Nat → ClassId} {E : Nat → Nat} (hK : va_K D vwCl (zT ct) s) (hN : zN s) (hZ : eZ E (fun q : Nat => s.heap.size ≤ q) s s.heap) (y ym : Nat → Nat) (h2 h3 t : Nat) (ht : 7 * t + 7 ≤ L) (hL : L ≤ 3584) (r : zRr) (q : zRq) (rm : zRr) (qm : zRq) (fo : Nat → Int64) (hJ : kJ r) (hM : mJ 20 rm) (hT : lR r q rm qm) (hEi : kEi E) (cells slots : Nat) (hcs : cells ≤ 600000 ∧ slots ≤ 7290000)
    (kk : kEnd p l e s m below meth c b D ct E y ym h2 h3 t cells slots) (H : Heap) (locs : List Loc) (hw : zPD D (fun q : Nat => s.heap.size ≤ q) (lW ct E y r q h2 ym rm qm h3 fo) H) (hS : va_S (fun q : Nat => s.heap.size ≤ q) s.heap H locs) (ls : Array Slot) (hl : lv_has ls 7 [(4, .int (nI (7 * t))), (3, .ref h3), (2, .ref h2), (1, .ref (y 195)), (0, .ref b)]) : W p l e room_1 s m #[Value.ref b] below meth c H locs cells slots (lw_Z below #[Value.ref b] s) (F0 m 858 ls []) := by
  obtain ⟨hx, hb, hr, hml, hown, hts, hX, hbl, hlocks, hgv⟩ := id C0
  have hown : s.vm.findClass RL = some m.cls := hown
  have htl : ∀ w ∈ wsL_law0, w.before #[Value.ref b] s = true := fun w h => hts w (wsL_law_in0 w h)
  have hA : ∀ q : Nat, s.heap.size ≤ q → (fun q : Nat => s.heap.size ≤ q) q := fun _ h => h
  have hbA : ¬ (fun q : Nat => s.heap.size ≤ q) b := Nat.not_le.mpr hbl
  refine lv_aload_n hx hb dL_law_858 rfl (lv_at hl 3 rfl) ?_
  refine lv_aload_n hx hb dL_law_859 rfl (lv_at hl 4 rfl) ?_
  refine lv_iload hx hb dL_law_860 (lv_at hl 0 rfl) ?_
  refine lv_iconst (v := 1) hx hb dL_law_862 (by decide) ?_
  refine lv_iadd hx hb dL_law_863 (ztop (.int (nI (7 * t + 1))) (congrArg Value.int (nI_add _ 1)) ?_)
  refine va_sld hx hb hX hbl hbA hS (zix (k := 7 * t + 1) rfl (by omega) (by omega)).1 dL_law_864 (ztop (.int (xs (7 * t + 1))) (congrArg Value.int (congrArg xs (nI_clamp (by omega)))) ?_)
  refine lcX (As := [.int (xs (7 * t + 1))]) (rest := []) ⟨hx, hb, hml, hown, htl⟩ (kc_shaven l D ct E y (xs (7 * t + 1)) r q hJ hEi) (cwV 1 htl (klV (zr48 19 rfl) (zr48 20 rfl) (zr48 21 rfl) (zr1 2 rfl) (zr48 22 rfl)) rfl rfl rfl (by decide +kernel) ⟨Nat.le_of_ble_eq_true rfl, Nat.le_of_ble_eq_true rfl⟩) hw hS hA hK hZ hN 10 195 rfl kg195 rfl hl.1 rfl (Nat.le_of_ble_eq_true rfl) dL_law_865 (lroom hcs) 868 rfl (fun u1 H locs pu1 hw hS => ?_)
  have kh2 := pu1.2.1
  have hw : zPD D (fun q : Nat => s.heap.size ≤ q) (lW ct E y u1.2 q h2 ym rm qm h3 fo) H := hw
  refine zfr 868 [.int u1.1] rfl rfl ?_
  refine lv_pop hx hb dL_law_868 rfl ?_
  refine lv_aload_n hx hb dL_law_869 rfl (lv_at hl 2 rfl) ?_
  refine lv_aload_n hx hb dL_law_870 rfl (lv_at hl 4 rfl) ?_
  refine lv_iload hx hb dL_law_871 (lv_at hl 0 rfl) ?_
  refine lv_iconst (v := 1) hx hb dL_law_873 (by decide) ?_
  refine lv_iadd hx hb dL_law_874 (ztop (.int (nI (7 * t + 1))) (congrArg Value.int (nI_add _ 1)) ?_)
  refine va_sld hx hb hX hbl hbA hS (zix (k := 7 * t + 1) rfl (by omega) (by omega)).1 dL_law_875 (ztop (.int (xs (7 * t + 1))) (congrArg Value.int (congrArg xs (nI_clamp (by omega)))) ?_)
  have hw := lrot hw
  refine lcM (As := [.int (xs (7 * t + 1))]) (rest := []) ⟨hx, hb, hml, hown, htl⟩ (mc_shaven l D ct h2 ym (xs (7 * t + 1)) rm qm hM) (cwV 1 htl (klV (zr48 23 rfl) (zr49 0 rfl) (zr49 1 rfl) (zr1 5 rfl) (zr49 2 rfl)) rfl rfl rfl (by decide +kernel) ⟨Nat.le_of_ble_eq_true rfl, Nat.le_of_ble_eq_true rfl⟩) hw hS hA hK hN rfl hl.1 rfl (Nat.le_of_ble_eq_true rfl) dL_law_876 (lroom hcs) 879 rfl (fun u4 H locs pu4 hw hS => ?_)
  have kh5 := pu4.2.1
  have ht7 : lR u1.2 q u4.2 qm := (lR.s hT pu1.2.2.1 pu4.2.2.1 (by rw [show u4 = _ from pu4.2.2.2.1]; exact rs_shaven) rfl rfl)
  have hw : zPD D (fun q : Nat => s.heap.size ≤ q) (lW ct E y u1.2 q h2 ym u4.2 qm h3 fo) H := hw
  refine zfr 879 [.int u4.1] rfl rfl ?_
  refine lv_pop hx hb dL_law_879 rfl ?_
  refine lv_goto (tgt := 1278) hx hb dL_law_880 (by decide) ?_
  exact kk u1.2 q u4.2 qm fo cells slots kh2 kh5 ht7 (Nat.le_succ _) (Nat.le_add_right _ _) H locs ls hw hS (lv_sub hl [0, 1, 2, 3, 4] rfl)

set_option maxHeartbeats 4000000 in
set_option maxRecDepth 100000 in
theorem kl_21 {p : Program} {l : Launch} {e : Env} {s : State} {m : MethodId} {below : List Frame} {meth : Method} {c : Code} {b L : Nat} {xs : Nat → Int32} (C0 : lw_At p s m meth c b L xs) {D : va_G} {ct : Nat → ClassId} {E : Nat → Nat} (hK : va_K D vwCl (zT ct) s) (hN : zN s) (hZ : eZ E (fun q : Nat => s.heap.size ≤ q) s s.heap) (y ym : Nat → Nat) (h2 h3 t : Nat) (ht : 7 * t + 7 ≤ L) (hL : L ≤ 3584) (r : zRr) (q : zRq) (rm : zRr) (qm : zRq) (fo : Nat → Int64) (hJ : kJ r) (hM : mJ 20 rm) (hT : lR r q rm qm) (hEi : kEi E) (cells slots : Nat) (hcs : cells ≤ 600000 ∧ slots ≤ 7290000)
    (kk : kEnd p l e s m below meth c b D ct E y ym h2 h3 t cells slots) (H : Heap) (locs : List Loc) (hw : zPD D (fun q : Nat => s.heap.size ≤ q) (lW ct E y r q h2 ym rm qm h3 fo) H) (hS : va_S (fun q : Nat => s.heap.size ≤ q) s.heap H locs) (ls : Array Slot) (hl : lv_has ls 7 [(4, .int (nI (7 * t))), (3, .ref h3), (2, .ref h2), (1, .ref (y 195)), (0, .ref b)]) : W p l e room_1 s m #[Value.ref b] below meth c H locs cells slots (lw_Z below #[Value.ref b] s) (F0 m 883 ls []) := by
  obtain ⟨hx, hb, hr, hml, hown, hts, hX, hbl, hlocks, hgv⟩ := id C0
  have hown : s.vm.findClass RL = some m.cls := hown
  have htl : ∀ w ∈ wsL_law0, w.before #[Value.ref b] s = true := fun w h => hts w (wsL_law_in0 w h)
  have hA : ∀ q : Nat, s.heap.size ≤ q → (fun q : Nat => s.heap.size ≤ q) q := fun _ h => h
  have hbA : ¬ (fun q : Nat => s.heap.size ≤ q) b := Nat.not_le.mpr hbl
  refine lv_aload_n hx hb dL_law_883 rfl (lv_at hl 3 rfl) ?_
  refine lv_aload_n hx hb dL_law_884 rfl (lv_at hl 4 rfl) ?_
  refine lv_iload hx hb dL_law_885 (lv_at hl 0 rfl) ?_
  refine lv_iconst (v := 1) hx hb dL_law_887 (by decide) ?_
  refine lv_iadd hx hb dL_law_888 (ztop (.int (nI (7 * t + 1))) (congrArg Value.int (nI_add _ 1)) ?_)
  refine va_sld hx hb hX hbl hbA hS (zix (k := 7 * t + 1) rfl (by omega) (by omega)).1 dL_law_889 (ztop (.int (xs (7 * t + 1))) (congrArg Value.int (congrArg xs (nI_clamp (by omega)))) ?_)
  refine lcX (As := [.int (xs (7 * t + 1))]) (rest := []) ⟨hx, hb, hml, hown, htl⟩ (kc_meeting l D ct E y (xs (7 * t + 1)) r q hJ hEi) (cwV 1 htl (klV (zr49 3 rfl) (zr49 4 rfl) (zr49 5 rfl) (zr1 2 rfl) (zr49 6 rfl)) rfl rfl rfl (by decide +kernel) ⟨Nat.le_of_ble_eq_true rfl, Nat.le_of_ble_eq_true rfl⟩) hw hS hA hK hZ hN 10 195 rfl kg195 rfl hl.1 rfl (Nat.le_of_ble_eq_true rfl) dL_law_890 (lroom hcs) 893 rfl (fun u1 H locs pu1 hw hS => ?_)
  have kh2 := pu1.2.1
  have hw : zPD D (fun q : Nat => s.heap.size ≤ q) (lW ct E y u1.2 q h2 ym rm qm h3 fo) H := hw
  refine zfr 893 [.int u1.1] rfl rfl ?_
  refine lv_pop hx hb dL_law_893 rfl ?_
  refine lv_aload_n hx hb dL_law_894 rfl (lv_at hl 2 rfl) ?_
  refine lv_aload_n hx hb dL_law_895 rfl (lv_at hl 4 rfl) ?_
  refine lv_iload hx hb dL_law_896 (lv_at hl 0 rfl) ?_
  refine lv_iconst (v := 1) hx hb dL_law_898 (by decide) ?_
  refine lv_iadd hx hb dL_law_899 (ztop (.int (nI (7 * t + 1))) (congrArg Value.int (nI_add _ 1)) ?_)
  refine va_sld hx hb hX hbl hbA hS (zix (k := 7 * t + 1) rfl (by omega) (by omega)).1 dL_law_900 (ztop (.int (xs (7 * t + 1))) (congrArg Value.int (congrArg xs (nI_clamp (by omega)))) ?_)
  have hw := lrot hw
  refine lcM (As := [.int (xs (7 * t + 1))]) (rest := []) ⟨hx, hb, hml, hown, htl⟩ (mc_meeting l D ct h2 ym (xs (7 * t + 1)) rm qm hM) (cwV 1 htl (klV (zr49 15 rfl) (zr49 16 rfl) (zr49 17 rfl) (zr1 5 rfl) (zr49 18 rfl)) rfl rfl rfl (by decide +kernel) ⟨Nat.le_of_ble_eq_true rfl, Nat.le_of_ble_eq_true rfl⟩) hw hS hA hK hN rfl hl.1 rfl (Nat.le_of_ble_eq_true rfl) dL_law_901 (lroom hcs) 904 rfl (fun u4 H locs pu4 hw hS => ?_)
  have kh5 := pu4.2.1
  have ht7 : lR u1.2 q u4.2 qm := (lR.s hT pu1.2.2.1 pu4.2.2.1 (by rw [show u4 = _ from pu4.2.2.2.1]; exact rs_meeting) rfl rfl)
  have hw : zPD D (fun q : Nat => s.heap.size ≤ q) (lW ct E y u1.2 q h2 ym u4.2 qm h3 fo) H := hw
  refine zfr 904 [.int u4.1] rfl rfl ?_
  refine lv_pop hx hb dL_law_904 rfl ?_
  refine lv_goto (tgt := 1278) hx hb dL_law_905 (by decide) ?_
  exact kk u1.2 q u4.2 qm fo cells slots kh2 kh5 ht7 (Nat.le_succ _) (Nat.le_add_right _ _) H locs ls hw hS (lv_sub hl [0, 1, 2, 3, 4] rfl)

set_option maxHeartbeats 4000000 in
set_option maxRecDepth 100000 in
theorem kl_22 {p : Program} {l : Launch} {e : Env} {s : State} {m : MethodId} {below : List Frame} {meth : Method} {c : Code} {b L : Nat} {xs : Nat → Int32} (C0 : lw_At p s m meth c b L xs) {D : va_G} {ct : Nat → ClassId} {E : Nat → Nat} (hK : va_K D vwCl (zT ct) s) (hN : zN s) (hZ : eZ E (fun q : Nat => s.heap.size ≤ q) s s.heap) (y ym : Nat → Nat) (h2 h3 t : Nat) (ht : 7 * t + 7 ≤ L) (hL : L ≤ 3584) (r : zRr) (q : zRq) (rm : zRr) (qm : zRq) (fo : Nat → Int64) (hJ : kJ r) (hM : mJ 20 rm) (hT : lR r q rm qm) (hEi : kEi E) (cells slots : Nat) (hcs : cells ≤ 600000 ∧ slots ≤ 7290000)
    (kk : kEnd p l e s m below meth c b D ct E y ym h2 h3 t cells slots) (H : Heap) (locs : List Loc) (hw : zPD D (fun q : Nat => s.heap.size ≤ q) (lW ct E y r q h2 ym rm qm h3 fo) H) (hS : va_S (fun q : Nat => s.heap.size ≤ q) s.heap H locs) (ls : Array Slot) (hl : lv_has ls 7 [(4, .int (nI (7 * t))), (3, .ref h3), (2, .ref h2), (1, .ref (y 195)), (0, .ref b)]) : W p l e room_1 s m #[Value.ref b] below meth c H locs cells slots (lw_Z below #[Value.ref b] s) (F0 m 908 ls []) := by
  obtain ⟨hx, hb, hr, hml, hown, hts, hX, hbl, hlocks, hgv⟩ := id C0
  have hown : s.vm.findClass RL = some m.cls := hown
  have htl : ∀ w ∈ wsL_law0, w.before #[Value.ref b] s = true := fun w h => hts w (wsL_law_in0 w h)
  have hA : ∀ q : Nat, s.heap.size ≤ q → (fun q : Nat => s.heap.size ≤ q) q := fun _ h => h
  have hbA : ¬ (fun q : Nat => s.heap.size ≤ q) b := Nat.not_le.mpr hbl
  refine lv_aload_n hx hb dL_law_908 rfl (lv_at hl 3 rfl) ?_
  refine lv_aload_n hx hb dL_law_909 rfl (lv_at hl 4 rfl) ?_
  refine lv_iload hx hb dL_law_910 (lv_at hl 0 rfl) ?_
  refine lv_iconst (v := 1) hx hb dL_law_912 (by decide) ?_
  refine lv_iadd hx hb dL_law_913 (ztop (.int (nI (7 * t + 1))) (congrArg Value.int (nI_add _ 1)) ?_)
  refine va_sld hx hb hX hbl hbA hS (zix (k := 7 * t + 1) rfl (by omega) (by omega)).1 dL_law_914 (ztop (.int (xs (7 * t + 1))) (congrArg Value.int (congrArg xs (nI_clamp (by omega)))) ?_)
  refine lv_aload_n hx hb dL_law_915 rfl (lv_at hl 4 rfl) ?_
  refine lv_iload hx hb dL_law_916 (lv_at hl 0 rfl) ?_
  refine lv_iconst (v := 2) hx hb dL_law_918 (by decide) ?_
  refine lv_iadd hx hb dL_law_919 (ztop (.int (nI (7 * t + 2))) (congrArg Value.int (nI_add _ 2)) ?_)
  refine va_sld hx hb hX hbl hbA hS (zix (k := 7 * t + 2) rfl (by omega) (by omega)).1 dL_law_920 (ztop (.int (xs (7 * t + 2))) (congrArg Value.int (congrArg xs (nI_clamp (by omega)))) ?_)
  refine lcX (As := [.int (xs (7 * t + 1)), .int (xs (7 * t + 2))]) (rest := []) ⟨hx, hb, hml, hown, htl⟩ (kc_speakers l D ct E y (xs (7 * t + 1)) (xs (7 * t + 2)) r q hJ hEi) (cwV 2 htl (klV (zr49 23 rfl) (zr50 0 rfl) (zr50 1 rfl) (zr1 2 rfl) (zr50 2 rfl)) rfl rfl rfl (by decide +kernel) ⟨Nat.le_of_ble_eq_true rfl, Nat.le_of_ble_eq_true rfl⟩) hw hS hA hK hZ hN 10 195 rfl kg195 rfl hl.1 rfl (Nat.le_of_ble_eq_true rfl) dL_law_921 (lroom hcs) 924 rfl (fun u1 H locs pu1 hw hS => ?_)
  have kh2 := pu1.2.1
  have hw : zPD D (fun q : Nat => s.heap.size ≤ q) (lW ct E y u1.2 q h2 ym rm qm h3 fo) H := hw
  refine zfr 924 [.int u1.1] rfl rfl ?_
  refine lv_pop hx hb dL_law_924 rfl ?_
  refine lv_aload_n hx hb dL_law_925 rfl (lv_at hl 2 rfl) ?_
  refine lv_aload_n hx hb dL_law_926 rfl (lv_at hl 4 rfl) ?_
  refine lv_iload hx hb dL_law_927 (lv_at hl 0 rfl) ?_
  refine lv_iconst (v := 1) hx hb dL_law_929 (by decide) ?_
  refine lv_iadd hx hb dL_law_930 (ztop (.int (nI (7 * t + 1))) (congrArg Value.int (nI_add _ 1)) ?_)
  refine va_sld hx hb hX hbl hbA hS (zix (k := 7 * t + 1) rfl (by omega) (by omega)).1 dL_law_931 (ztop (.int (xs (7 * t + 1))) (congrArg Value.int (congrArg xs (nI_clamp (by omega)))) ?_)
  refine lv_aload_n hx hb dL_law_932 rfl (lv_at hl 4 rfl) ?_
  refine lv_iload hx hb dL_law_933 (lv_at hl 0 rfl) ?_
  refine lv_iconst (v := 2) hx hb dL_law_935 (by decide) ?_
  refine lv_iadd hx hb dL_law_936 (ztop (.int (nI (7 * t + 2))) (congrArg Value.int (nI_add _ 2)) ?_)
  refine va_sld hx hb hX hbl hbA hS (zix (k := 7 * t + 2) rfl (by omega) (by omega)).1 dL_law_937 (ztop (.int (xs (7 * t + 2))) (congrArg Value.int (congrArg xs (nI_clamp (by omega)))) ?_)
  have hw := lrot hw
  refine lcM (As := [.int (xs (7 * t + 1)), .int (xs (7 * t + 2))]) (rest := []) ⟨hx, hb, hml, hown, htl⟩ (mc_speakers l D ct h2 ym 20 (xs (7 * t + 1)) (xs (7 * t + 2)) rm qm hM) (cwV 2 htl (klV (zr50 4 rfl) (zr50 5 rfl) (zr50 6 rfl) (zr1 5 rfl) (zr50 7 rfl)) rfl rfl rfl (by decide +kernel) ⟨Nat.le_of_ble_eq_true rfl, Nat.le_of_ble_eq_true rfl⟩) hw hS hA hK hN rfl hl.1 rfl (Nat.le_of_ble_eq_true rfl) dL_law_938 (lroom hcs) 941 rfl (fun u4 H locs pu4 hw hS => ?_)
  have kh5 := pu4.2.1
  have ht7 : lR u1.2 q u4.2 qm := (lR.q hT pu1.2.2.1 pu4.2.2.1 rfl rfl rfl)
  have hw : zPD D (fun q : Nat => s.heap.size ≤ q) (lW ct E y u1.2 q h2 ym u4.2 qm h3 fo) H := hw
  refine zfr 941 [.int u4.1] rfl rfl ?_
  refine lv_pop hx hb dL_law_941 rfl ?_
  refine lv_goto (tgt := 1278) hx hb dL_law_942 (by decide) ?_
  exact kk u1.2 q u4.2 qm fo cells slots kh2 kh5 ht7 (Nat.le_succ _) (Nat.le_add_right _ _) H locs ls hw hS (lv_sub hl [0, 1, 2, 3, 4] rfl)

set_option maxHeartbeats 4000000 in
set_option maxRecDepth 100000 in
theorem kl_23 {p : Program} {l : Launch} {e : Env} {s : State} {m : MethodId} {below : List Frame} {meth : Method} {c : Code} {b L : Nat} {xs : Nat → Int32} (C0 : lw_At p s m meth c b L xs) {D : va_G} {ct : Nat → ClassId} {E : Nat → Nat} (hK : va_K D vwCl (zT ct) s) (hN : zN s) (hZ : eZ E (fun q : Nat => s.heap.size ≤ q) s s.heap) (y ym : Nat → Nat) (h2 h3 t : Nat) (ht : 7 * t + 7 ≤ L) (hL : L ≤ 3584) (r : zRr) (q : zRq) (rm : zRr) (qm : zRq) (fo : Nat → Int64) (hJ : kJ r) (hM : mJ 20 rm) (hT : lR r q rm qm) (hEi : kEi E) (cells slots : Nat) (hcs : cells ≤ 600000 ∧ slots ≤ 7290000)
    (kk : kEnd p l e s m below meth c b D ct E y ym h2 h3 t cells slots) (H : Heap) (locs : List Loc) (hw : zPD D (fun q : Nat => s.heap.size ≤ q) (lW ct E y r q h2 ym rm qm h3 fo) H) (hS : va_S (fun q : Nat => s.heap.size ≤ q) s.heap H locs) (ls : Array Slot) (hl : lv_has ls 7 [(4, .int (nI (7 * t))), (3, .ref h3), (2, .ref h2), (1, .ref (y 195)), (0, .ref b)]) : W p l e room_1 s m #[Value.ref b] below meth c H locs cells slots (lw_Z below #[Value.ref b] s) (F0 m 945 ls []) := by
  obtain ⟨hx, hb, hr, hml, hown, hts, hX, hbl, hlocks, hgv⟩ := id C0
  have hown : s.vm.findClass RL = some m.cls := hown
  have htl : ∀ w ∈ wsL_law0, w.before #[Value.ref b] s = true := fun w h => hts w (wsL_law_in0 w h)
  have hA : ∀ q : Nat, s.heap.size ≤ q → (fun q : Nat => s.heap.size ≤ q) q := fun _ h => h
  have hbA : ¬ (fun q : Nat => s.heap.size ≤ q) b := Nat.not_le.mpr hbl
  refine lv_aload_n hx hb dL_law_945 rfl (lv_at hl 3 rfl) ?_
  refine lcX (As := []) (rest := []) ⟨hx, hb, hml, hown, htl⟩ (kc_strict l D ct E y r q hJ hEi) (cwV 0 htl (klV (zr50 8 rfl) (zr50 9 rfl) (zr50 10 rfl) (zr1 2 rfl) (zr50 11 rfl)) rfl rfl rfl (by decide +kernel) ⟨Nat.le_of_ble_eq_true rfl, Nat.le_of_ble_eq_true rfl⟩) hw hS hA hK hZ hN 10 195 rfl kg195 rfl hl.1 rfl (Nat.le_of_ble_eq_true rfl) dL_law_946 (lroom hcs) 949 rfl (fun u1 H locs pu1 hw hS => ?_)
  have kh2 := pu1.2.1
  have hw : zPD D (fun q : Nat => s.heap.size ≤ q) (lW ct E y u1.2 q h2 ym rm qm h3 fo) H := hw
  refine zfr 949 [.int u1.1] rfl rfl ?_
  refine lv_pop hx hb dL_law_949 rfl ?_
  refine lv_aload_n hx hb dL_law_950 rfl (lv_at hl 2 rfl) ?_
  have hw := lrot hw
  refine lcM (As := []) (rest := []) ⟨hx, hb, hml, hown, htl⟩ (mc_strict l D ct h2 ym 20 rm qm hM) (cwV 0 htl (klV (zr50 19 rfl) (zr50 20 rfl) (zr50 21 rfl) (zr1 5 rfl) (zr50 22 rfl)) rfl rfl rfl (by decide +kernel) ⟨Nat.le_of_ble_eq_true rfl, Nat.le_of_ble_eq_true rfl⟩) hw hS hA hK hN rfl hl.1 rfl (Nat.le_of_ble_eq_true rfl) dL_law_951 (lroom hcs) 954 rfl (fun u4 H locs pu4 hw hS => ?_)
  have kh5 := pu4.2.1
  have ht7 : lR u1.2 q u4.2 qm := (lR.q hT pu1.2.2.1 pu4.2.2.1 rfl rfl rfl)
  have hw : zPD D (fun q : Nat => s.heap.size ≤ q) (lW ct E y u1.2 q h2 ym u4.2 qm h3 fo) H := hw
  refine zfr 954 [.int u4.1] rfl rfl ?_
  refine lv_pop hx hb dL_law_954 rfl ?_
  refine lv_goto (tgt := 1278) hx hb dL_law_955 (by decide) ?_
  exact kk u1.2 q u4.2 qm fo cells slots kh2 kh5 ht7 (Nat.le_succ _) (Nat.le_add_right _ _) H locs ls hw hS (lv_sub hl [0, 1, 2, 3, 4] rfl)

set_option maxHeartbeats 4000000 in
set_option maxRecDepth 100000 in
theorem kl_24 {p : Program} {l : Launch} {e : Env} {s : State} {m : MethodId} {below : List Frame} {meth : Method} {c : Code} {b L : Nat} {xs : Nat → Int32} (C0 : lw_At p s m meth c b L xs) {D : va_G} {ct : Nat → ClassId} {E : Nat → Nat} (hK : va_K D vwCl (zT ct) s) (hN : zN s) (hZ : eZ E (fun q : Nat => s.heap.size ≤ q) s s.heap) (y ym : Nat → Nat) (h2 h3 t : Nat) (ht : 7 * t + 7 ≤ L) (hL : L ≤ 3584) (r : zRr) (q : zRq) (rm : zRr) (qm : zRq) (fo : Nat → Int64) (hJ : kJ r) (hM : mJ 20 rm) (hT : lR r q rm qm) (hEi : kEi E) (cells slots : Nat) (hcs : cells ≤ 600000 ∧ slots ≤ 7290000)
    (kk : kEnd p l e s m below meth c b D ct E y ym h2 h3 t cells slots) (H : Heap) (locs : List Loc) (hw : zPD D (fun q : Nat => s.heap.size ≤ q) (lW ct E y r q h2 ym rm qm h3 fo) H) (hS : va_S (fun q : Nat => s.heap.size ≤ q) s.heap H locs) (ls : Array Slot) (hl : lv_has ls 7 [(4, .int (nI (7 * t))), (3, .ref h3), (2, .ref h2), (1, .ref (y 195)), (0, .ref b)]) : W p l e room_1 s m #[Value.ref b] below meth c H locs cells slots (lw_Z below #[Value.ref b] s) (F0 m 958 ls []) := by
  obtain ⟨hx, hb, hr, hml, hown, hts, hX, hbl, hlocks, hgv⟩ := id C0
  have hown : s.vm.findClass RL = some m.cls := hown
  have htl : ∀ w ∈ wsL_law0, w.before #[Value.ref b] s = true := fun w h => hts w (wsL_law_in0 w h)
  have hA : ∀ q : Nat, s.heap.size ≤ q → (fun q : Nat => s.heap.size ≤ q) q := fun _ h => h
  have hbA : ¬ (fun q : Nat => s.heap.size ≤ q) b := Nat.not_le.mpr hbl
  refine lv_aload_n hx hb dL_law_958 rfl (lv_at hl 3 rfl) ?_
  refine lcX (As := []) (rest := []) ⟨hx, hb, hml, hown, htl⟩ (kc_alike l D ct E y r q hJ hEi) (cwV 0 htl (klV (zr51 2 rfl) (zr51 3 rfl) (zr51 4 rfl) (zr1 2 rfl) (zr51 5 rfl)) rfl rfl rfl (by decide +kernel) ⟨Nat.le_of_ble_eq_true rfl, Nat.le_of_ble_eq_true rfl⟩) hw hS hA hK hZ hN 10 195 rfl kg195 rfl hl.1 rfl (Nat.le_of_ble_eq_true rfl) dL_law_959 (lroom hcs) 962 rfl (fun u1 H locs pu1 hw hS => ?_)
  have kh2 := pu1.2.1
  have hw : zPD D (fun q : Nat => s.heap.size ≤ q) (lW ct E y u1.2 q h2 ym rm qm h3 fo) H := hw
  refine zfr 962 [.int u1.1] rfl rfl ?_
  refine lv_pop hx hb dL_law_962 rfl ?_
  refine lv_aload_n hx hb dL_law_963 rfl (lv_at hl 2 rfl) ?_
  have hw := lrot hw
  refine lcM (As := []) (rest := []) ⟨hx, hb, hml, hown, htl⟩ (mc_alike l D ct h2 ym 20 rm qm hM) (cwV 0 htl (klV (zr51 6 rfl) (zr51 7 rfl) (zr51 8 rfl) (zr1 5 rfl) (zr51 9 rfl)) rfl rfl rfl (by decide +kernel) ⟨Nat.le_of_ble_eq_true rfl, Nat.le_of_ble_eq_true rfl⟩) hw hS hA hK hN rfl hl.1 rfl (Nat.le_of_ble_eq_true rfl) dL_law_964 (lroom hcs) 967 rfl (fun u4 H locs pu4 hw hS => ?_)
  have kh5 := pu4.2.1
  have ht7 : lR u1.2 q u4.2 qm := (lR.q hT pu1.2.2.1 pu4.2.2.1 rfl rfl rfl)
  have hw : zPD D (fun q : Nat => s.heap.size ≤ q) (lW ct E y u1.2 q h2 ym u4.2 qm h3 fo) H := hw
  refine zfr 967 [.int u4.1] rfl rfl ?_
  refine lv_pop hx hb dL_law_967 rfl ?_
  refine lv_goto (tgt := 1278) hx hb dL_law_968 (by decide) ?_
  exact kk u1.2 q u4.2 qm fo cells slots kh2 kh5 ht7 (Nat.le_succ _) (Nat.le_add_right _ _) H locs ls hw hS (lv_sub hl [0, 1, 2, 3, 4] rfl)

set_option maxHeartbeats 4000000 in
set_option maxRecDepth 100000 in
theorem kl_25 {p : Program} {l : Launch} {e : Env} {s : State} {m : MethodId} {below : List Frame} {meth : Method} {c : Code} {b L : Nat} {xs : Nat → Int32} (C0 : lw_At p s m meth c b L xs) {D : va_G} {ct : Nat → ClassId} {E : Nat → Nat} (hK : va_K D vwCl (zT ct) s) (hN : zN s) (hZ : eZ E (fun q : Nat => s.heap.size ≤ q) s s.heap) (y ym : Nat → Nat) (h2 h3 t : Nat) (ht : 7 * t + 7 ≤ L) (hL : L ≤ 3584) (r : zRr) (q : zRq) (rm : zRr) (qm : zRq) (fo : Nat → Int64) (hJ : kJ r) (hM : mJ 20 rm) (hT : lR r q rm qm) (hEi : kEi E) (cells slots : Nat) (hcs : cells ≤ 600000 ∧ slots ≤ 7290000)
    (kk : kEnd p l e s m below meth c b D ct E y ym h2 h3 t cells slots) (H : Heap) (locs : List Loc) (hw : zPD D (fun q : Nat => s.heap.size ≤ q) (lW ct E y r q h2 ym rm qm h3 fo) H) (hS : va_S (fun q : Nat => s.heap.size ≤ q) s.heap H locs) (ls : Array Slot) (hl : lv_has ls 7 [(4, .int (nI (7 * t))), (3, .ref h3), (2, .ref h2), (1, .ref (y 195)), (0, .ref b)]) : W p l e room_1 s m #[Value.ref b] below meth c H locs cells slots (lw_Z below #[Value.ref b] s) (F0 m 971 ls []) := by
  obtain ⟨hx, hb, hr, hml, hown, hts, hX, hbl, hlocks, hgv⟩ := id C0
  have hown : s.vm.findClass RL = some m.cls := hown
  have htl : ∀ w ∈ wsL_law0, w.before #[Value.ref b] s = true := fun w h => hts w (wsL_law_in0 w h)
  have hA : ∀ q : Nat, s.heap.size ≤ q → (fun q : Nat => s.heap.size ≤ q) q := fun _ h => h
  have hbA : ¬ (fun q : Nat => s.heap.size ≤ q) b := Nat.not_le.mpr hbl
  refine lv_aload_n hx hb dL_law_971 rfl (lv_at hl 3 rfl) ?_
  refine lv_aload_n hx hb dL_law_972 rfl (lv_at hl 4 rfl) ?_
  refine lv_iload hx hb dL_law_973 (lv_at hl 0 rfl) ?_
  refine lv_iconst (v := 1) hx hb dL_law_975 (by decide) ?_
  refine lv_iadd hx hb dL_law_976 (ztop (.int (nI (7 * t + 1))) (congrArg Value.int (nI_add _ 1)) ?_)
  refine va_sld hx hb hX hbl hbA hS (zix (k := 7 * t + 1) rfl (by omega) (by omega)).1 dL_law_977 (ztop (.int (xs (7 * t + 1))) (congrArg Value.int (congrArg xs (nI_clamp (by omega)))) ?_)
  refine lv_aload_n hx hb dL_law_978 rfl (lv_at hl 4 rfl) ?_
  refine lv_iload hx hb dL_law_979 (lv_at hl 0 rfl) ?_
  refine lv_iconst (v := 2) hx hb dL_law_981 (by decide) ?_
  refine lv_iadd hx hb dL_law_982 (ztop (.int (nI (7 * t + 2))) (congrArg Value.int (nI_add _ 2)) ?_)
  refine va_sld hx hb hX hbl hbA hS (zix (k := 7 * t + 2) rfl (by omega) (by omega)).1 dL_law_983 (ztop (.int (xs (7 * t + 2))) (congrArg Value.int (congrArg xs (nI_clamp (by omega)))) ?_)
  refine lv_if_eq (tgt := 991) hx hb dL_law_984 (by decide) (fun c1 => ?_) (fun c1 => ?_)
  · refine lv_iconst (v := 0) hx hb dL_law_991 (by decide) ?_
    refine lcX (As := [.int (xs (7 * t + 1)), .int 0]) (rest := []) ⟨hx, hb, hml, hown, htl⟩ (kc_see l D ct E y (xs (7 * t + 1)) (0 : Int32) r q (zI.lit (by decide)) hJ hEi) (cwV 2 htl (klV (zr51 10 rfl) (zr51 11 rfl) (zr51 12 rfl) (zr1 2 rfl) (zr51 13 rfl)) rfl rfl rfl (by decide +kernel) ⟨Nat.le_of_ble_eq_true rfl, Nat.le_of_ble_eq_true rfl⟩) hw hS hA hK hZ hN 10 195 rfl kg195 rfl hl.1 rfl (Nat.le_of_ble_eq_true rfl) dL_law_992 (lroom hcs) 995 rfl (fun u2 H locs pu2 hw hS => ?_)
    have kh3 := pu2.2.1
    have hw : zPD D (fun q : Nat => s.heap.size ≤ q) (lW ct E y u2.2 q h2 ym rm qm h3 fo) H := hw
    refine zfr 995 [.int u2.1] rfl rfl ?_
    refine lv_pop hx hb dL_law_995 rfl ?_
    refine lv_aload_n hx hb dL_law_996 rfl (lv_at hl 2 rfl) ?_
    refine lv_aload_n hx hb dL_law_997 rfl (lv_at hl 4 rfl) ?_
    refine lv_iload hx hb dL_law_998 (lv_at hl 0 rfl) ?_
    refine lv_iconst (v := 1) hx hb dL_law_1000 (by decide) ?_
    refine lv_iadd hx hb dL_law_1001 (ztop (.int (nI (7 * t + 1))) (congrArg Value.int (nI_add _ 1)) ?_)
    refine va_sld hx hb hX hbl hbA hS (zix (k := 7 * t + 1) rfl (by omega) (by omega)).1 dL_law_1002 (ztop (.int (xs (7 * t + 1))) (congrArg Value.int (congrArg xs (nI_clamp (by omega)))) ?_)
    refine lv_aload_n hx hb dL_law_1003 rfl (lv_at hl 4 rfl) ?_
    refine lv_iload hx hb dL_law_1004 (lv_at hl 0 rfl) ?_
    refine lv_iconst (v := 2) hx hb dL_law_1006 (by decide) ?_
    refine lv_iadd hx hb dL_law_1007 (ztop (.int (nI (7 * t + 2))) (congrArg Value.int (nI_add _ 2)) ?_)
    refine va_sld hx hb hX hbl hbA hS (zix (k := 7 * t + 2) rfl (by omega) (by omega)).1 dL_law_1008 (ztop (.int (xs (7 * t + 2))) (congrArg Value.int (congrArg xs (nI_clamp (by omega)))) ?_)
    refine lv_if_eq (tgt := 1016) hx hb dL_law_1009 (by decide) (fun _ => ?_) (fun h => absurd c1 h)
    refine lv_iconst (v := 0) hx hb dL_law_1016 (by decide) ?_
    have hw := lrot hw
    refine lcM (As := [.int (xs (7 * t + 1)), .int 0]) (rest := []) ⟨hx, hb, hml, hown, htl⟩ (mc_see l D ct h2 ym 20 (xs (7 * t + 1)) (0 : Int32) rm qm (zI.lit (by decide)) hM) (cwV 2 htl (klV (zr52 0 rfl) (zr52 1 rfl) (zr52 2 rfl) (zr1 5 rfl) (zr52 3 rfl)) rfl rfl rfl (by decide +kernel) ⟨Nat.le_of_ble_eq_true rfl, Nat.le_of_ble_eq_true rfl⟩) hw hS hA hK hN rfl hl.1 rfl (Nat.le_of_ble_eq_true rfl) dL_law_1017 (lroom hcs) 1020 rfl (fun u5 H locs pu5 hw hS => ?_)
    have kh6 := pu5.2.1
    have hA9 := lR.see pu2.2.2.1 pu5.2.2.2.1 hM hT
    have ht8 : lR u2.2 q u5.2 qm := hA9.2
    have hw : zPD D (fun q : Nat => s.heap.size ≤ q) (lW ct E y u2.2 q h2 ym u5.2 qm h3 fo) H := hw
    refine zfr 1020 [.int u5.1] rfl rfl ?_
    refine lv_pop hx hb dL_law_1020 rfl ?_
    refine lv_goto (tgt := 1278) hx hb dL_law_1021 (by decide) ?_
    exact kk u2.2 q u5.2 qm fo cells slots kh3 kh6 ht8 (Nat.le_succ _) (Nat.le_add_right _ _) H locs ls hw hS (lv_sub hl [0, 1, 2, 3, 4] rfl)
  · refine lv_iconst (v := 1) hx hb dL_law_987 (by decide) ?_
    refine lv_goto (tgt := 992) hx hb dL_law_988 (by decide) ?_
    refine lcX (As := [.int (xs (7 * t + 1)), .int 1]) (rest := []) ⟨hx, hb, hml, hown, htl⟩ (kc_see l D ct E y (xs (7 * t + 1)) (1 : Int32) r q (zI.lit (by decide)) hJ hEi) (cwV 2 htl (klV (zr51 10 rfl) (zr51 11 rfl) (zr51 12 rfl) (zr1 2 rfl) (zr51 13 rfl)) rfl rfl rfl (by decide +kernel) ⟨Nat.le_of_ble_eq_true rfl, Nat.le_of_ble_eq_true rfl⟩) hw hS hA hK hZ hN 10 195 rfl kg195 rfl hl.1 rfl (Nat.le_of_ble_eq_true rfl) dL_law_992 (lroom hcs) 995 rfl (fun u9 H locs pu9 hw hS => ?_)
    have kh10 := pu9.2.1
    have hw : zPD D (fun q : Nat => s.heap.size ≤ q) (lW ct E y u9.2 q h2 ym rm qm h3 fo) H := hw
    refine zfr 995 [.int u9.1] rfl rfl ?_
    refine lv_pop hx hb dL_law_995 rfl ?_
    refine lv_aload_n hx hb dL_law_996 rfl (lv_at hl 2 rfl) ?_
    refine lv_aload_n hx hb dL_law_997 rfl (lv_at hl 4 rfl) ?_
    refine lv_iload hx hb dL_law_998 (lv_at hl 0 rfl) ?_
    refine lv_iconst (v := 1) hx hb dL_law_1000 (by decide) ?_
    refine lv_iadd hx hb dL_law_1001 (ztop (.int (nI (7 * t + 1))) (congrArg Value.int (nI_add _ 1)) ?_)
    refine va_sld hx hb hX hbl hbA hS (zix (k := 7 * t + 1) rfl (by omega) (by omega)).1 dL_law_1002 (ztop (.int (xs (7 * t + 1))) (congrArg Value.int (congrArg xs (nI_clamp (by omega)))) ?_)
    refine lv_aload_n hx hb dL_law_1003 rfl (lv_at hl 4 rfl) ?_
    refine lv_iload hx hb dL_law_1004 (lv_at hl 0 rfl) ?_
    refine lv_iconst (v := 2) hx hb dL_law_1006 (by decide) ?_
    refine lv_iadd hx hb dL_law_1007 (ztop (.int (nI (7 * t + 2))) (congrArg Value.int (nI_add _ 2)) ?_)
    refine va_sld hx hb hX hbl hbA hS (zix (k := 7 * t + 2) rfl (by omega) (by omega)).1 dL_law_1008 (ztop (.int (xs (7 * t + 2))) (congrArg Value.int (congrArg xs (nI_clamp (by omega)))) ?_)
    refine lv_if_eq (tgt := 1016) hx hb dL_law_1009 (by decide) (fun h => absurd h c1) (fun _ => ?_)
    refine lv_iconst (v := 1) hx hb dL_law_1012 (by decide) ?_
    refine lv_goto (tgt := 1017) hx hb dL_law_1013 (by decide) ?_
    have hw := lrot hw
    refine lcM (As := [.int (xs (7 * t + 1)), .int 1]) (rest := []) ⟨hx, hb, hml, hown, htl⟩ (mc_see l D ct h2 ym 20 (xs (7 * t + 1)) (1 : Int32) rm qm (zI.lit (by decide)) hM) (cwV 2 htl (klV (zr52 0 rfl) (zr52 1 rfl) (zr52 2 rfl) (zr1 5 rfl) (zr52 3 rfl)) rfl rfl rfl (by decide +kernel) ⟨Nat.le_of_ble_eq_true rfl, Nat.le_of_ble_eq_true rfl⟩) hw hS hA hK hN rfl hl.1 rfl (Nat.le_of_ble_eq_true rfl) dL_law_1017 (lroom hcs) 1020 rfl (fun u12 H locs pu12 hw hS => ?_)
    have kh13 := pu12.2.1
    have hA9 := lR.see pu9.2.2.1 pu12.2.2.2.1 hM hT
    have ht15 : lR u9.2 q u12.2 qm := hA9.2
    have hw : zPD D (fun q : Nat => s.heap.size ≤ q) (lW ct E y u9.2 q h2 ym u12.2 qm h3 fo) H := hw
    refine zfr 1020 [.int u12.1] rfl rfl ?_
    refine lv_pop hx hb dL_law_1020 rfl ?_
    refine lv_goto (tgt := 1278) hx hb dL_law_1021 (by decide) ?_
    exact kk u9.2 q u12.2 qm fo cells slots kh10 kh13 ht15 (Nat.le_succ _) (Nat.le_add_right _ _) H locs ls hw hS (lv_sub hl [0, 1, 2, 3, 4] rfl)

set_option maxHeartbeats 4000000 in
set_option maxRecDepth 100000 in
theorem kl_26 {p : Program} {l : Launch} {e : Env} {s : State} {m : MethodId} {below : List Frame} {meth : Method} {c : Code} {b L : Nat} {xs : Nat → Int32} (C0 : lw_At p s m meth c b L xs) {D : va_G} {ct : Nat → ClassId} {E : Nat → Nat} (hK : va_K D vwCl (zT ct) s) (hN : zN s) (hZ : eZ E (fun q : Nat => s.heap.size ≤ q) s s.heap) (y ym : Nat → Nat) (h2 h3 t : Nat) (ht : 7 * t + 7 ≤ L) (hL : L ≤ 3584) (r : zRr) (q : zRq) (rm : zRr) (qm : zRq) (fo : Nat → Int64) (hJ : kJ r) (hM : mJ 20 rm) (hT : lR r q rm qm) (hEi : kEi E) (cells slots : Nat) (hcs : cells ≤ 600000 ∧ slots ≤ 7290000)
    (kk : kEnd p l e s m below meth c b D ct E y ym h2 h3 t cells slots) (H : Heap) (locs : List Loc) (hw : zPD D (fun q : Nat => s.heap.size ≤ q) (lW ct E y r q h2 ym rm qm h3 fo) H) (hS : va_S (fun q : Nat => s.heap.size ≤ q) s.heap H locs) (ls : Array Slot) (hl : lv_has ls 7 [(4, .int (nI (7 * t))), (3, .ref h3), (2, .ref h2), (1, .ref (y 195)), (0, .ref b)]) : W p l e room_1 s m #[Value.ref b] below meth c H locs cells slots (lw_Z below #[Value.ref b] s) (F0 m 1024 ls []) := by
  obtain ⟨hx, hb, hr, hml, hown, hts, hX, hbl, hlocks, hgv⟩ := id C0
  have hown : s.vm.findClass RL = some m.cls := hown
  have htl : ∀ w ∈ wsL_law0, w.before #[Value.ref b] s = true := fun w h => hts w (wsL_law_in0 w h)
  have hA : ∀ q : Nat, s.heap.size ≤ q → (fun q : Nat => s.heap.size ≤ q) q := fun _ h => h
  have hbA : ¬ (fun q : Nat => s.heap.size ≤ q) b := Nat.not_le.mpr hbl
  refine lv_aload_n hx hb dL_law_1024 rfl (lv_at hl 3 rfl) ?_
  refine lv_aload_n hx hb dL_law_1025 rfl (lv_at hl 4 rfl) ?_
  refine lv_iload hx hb dL_law_1026 (lv_at hl 0 rfl) ?_
  refine lv_iconst (v := 1) hx hb dL_law_1028 (by decide) ?_
  refine lv_iadd hx hb dL_law_1029 (ztop (.int (nI (7 * t + 1))) (congrArg Value.int (nI_add _ 1)) ?_)
  refine va_sld hx hb hX hbl hbA hS (zix (k := 7 * t + 1) rfl (by omega) (by omega)).1 dL_law_1030 (ztop (.int (xs (7 * t + 1))) (congrArg Value.int (congrArg xs (nI_clamp (by omega)))) ?_)
  refine lcX (As := [.int (xs (7 * t + 1))]) (rest := []) ⟨hx, hb, hml, hown, htl⟩ (kc_lengths l D ct E y (xs (7 * t + 1)) r q hJ hEi) (cwV 1 htl (klV (zr52 4 rfl) (zr52 5 rfl) (zr52 6 rfl) (zr1 2 rfl) (zr52 7 rfl)) rfl rfl rfl (by decide +kernel) ⟨Nat.le_of_ble_eq_true rfl, Nat.le_of_ble_eq_true rfl⟩) hw hS hA hK hZ hN 10 195 rfl kg195 rfl hl.1 rfl (Nat.le_of_ble_eq_true rfl) dL_law_1031 (lroom hcs) 1034 rfl (fun u1 H locs pu1 hw hS => ?_)
  have hw : zPD D (fun q : Nat => s.heap.size ≤ q) (lW ct E y r q h2 ym rm qm h3 fo) H := hw
  refine zfr 1034 [.int u1] rfl rfl ?_
  refine lv_pop hx hb dL_law_1034 rfl ?_
  refine lv_aload_n hx hb dL_law_1035 rfl (lv_at hl 2 rfl) ?_
  refine lv_aload_n hx hb dL_law_1036 rfl (lv_at hl 4 rfl) ?_
  refine lv_iload hx hb dL_law_1037 (lv_at hl 0 rfl) ?_
  refine lv_iconst (v := 1) hx hb dL_law_1039 (by decide) ?_
  refine lv_iadd hx hb dL_law_1040 (ztop (.int (nI (7 * t + 1))) (congrArg Value.int (nI_add _ 1)) ?_)
  refine va_sld hx hb hX hbl hbA hS (zix (k := 7 * t + 1) rfl (by omega) (by omega)).1 dL_law_1041 (ztop (.int (xs (7 * t + 1))) (congrArg Value.int (congrArg xs (nI_clamp (by omega)))) ?_)
  have hw := lrot hw
  refine lcM (As := [.int (xs (7 * t + 1))]) (rest := []) ⟨hx, hb, hml, hown, htl⟩ (mc_lengths l D ct h2 ym 20 (xs (7 * t + 1)) rm qm hM) (cwV 1 htl (klV (zr52 16 rfl) (zr52 17 rfl) (zr52 18 rfl) (zr1 5 rfl) (zr52 19 rfl)) rfl rfl rfl (by decide +kernel) ⟨Nat.le_of_ble_eq_true rfl, Nat.le_of_ble_eq_true rfl⟩) hw hS hA hK hN rfl hl.1 rfl (Nat.le_of_ble_eq_true rfl) dL_law_1042 (lroom hcs) 1045 rfl (fun u2 H locs pu2 hw hS => ?_)
  have kh3 := pu2.2.1
  have ht5 : lR r q u2.2 qm := (lR.q hT zFt.refl pu2.2.2.1 rfl rfl rfl)
  have hw : zPD D (fun q : Nat => s.heap.size ≤ q) (lW ct E y r q h2 ym u2.2 qm h3 fo) H := hw
  refine zfr 1045 [.int u2.1] rfl rfl ?_
  refine lv_pop hx hb dL_law_1045 rfl ?_
  refine lv_goto (tgt := 1278) hx hb dL_law_1046 (by decide) ?_
  exact kk r q u2.2 qm fo cells slots hJ kh3 ht5 (Nat.le_succ _) (Nat.le_add_right _ _) H locs ls hw hS (lv_sub hl [0, 1, 2, 3, 4] rfl)

set_option maxHeartbeats 4000000 in
set_option maxRecDepth 100000 in
theorem kl_27 {p : Program} {l : Launch} {e : Env} {s : State} {m : MethodId} {below : List Frame} {meth : Method} {c : Code} {b L : Nat} {xs : Nat → Int32} (C0 : lw_At p s m meth c b L xs) {D : va_G} {ct : Nat → ClassId} {E : Nat → Nat} (hK : va_K D vwCl (zT ct) s) (hN : zN s) (hZ : eZ E (fun q : Nat => s.heap.size ≤ q) s s.heap) (y ym : Nat → Nat) (h2 h3 t : Nat) (ht : 7 * t + 7 ≤ L) (hL : L ≤ 3584) (r : zRr) (q : zRq) (rm : zRr) (qm : zRq) (fo : Nat → Int64) (hJ : kJ r) (hM : mJ 20 rm) (hT : lR r q rm qm) (hEi : kEi E) (cells slots : Nat) (hcs : cells ≤ 600000 ∧ slots ≤ 7290000)
    (kk : kEnd p l e s m below meth c b D ct E y ym h2 h3 t cells slots) (H : Heap) (locs : List Loc) (hw : zPD D (fun q : Nat => s.heap.size ≤ q) (lW ct E y r q h2 ym rm qm h3 fo) H) (hS : va_S (fun q : Nat => s.heap.size ≤ q) s.heap H locs) (ls : Array Slot) (hl : lv_has ls 7 [(4, .int (nI (7 * t))), (3, .ref h3), (2, .ref h2), (1, .ref (y 195)), (0, .ref b)]) : W p l e room_1 s m #[Value.ref b] below meth c H locs cells slots (lw_Z below #[Value.ref b] s) (F0 m 1049 ls []) := by
  obtain ⟨hx, hb, hr, hml, hown, hts, hX, hbl, hlocks, hgv⟩ := id C0
  have hown : s.vm.findClass RL = some m.cls := hown
  have htl : ∀ w ∈ wsL_law0, w.before #[Value.ref b] s = true := fun w h => hts w (wsL_law_in0 w h)
  have hA : ∀ q : Nat, s.heap.size ≤ q → (fun q : Nat => s.heap.size ≤ q) q := fun _ h => h
  have hbA : ¬ (fun q : Nat => s.heap.size ≤ q) b := Nat.not_le.mpr hbl
  refine lv_aload_n hx hb dL_law_1049 rfl (lv_at hl 3 rfl) ?_
  refine lcX (As := []) (rest := []) ⟨hx, hb, hml, hown, htl⟩ (kc_ask l D ct E y r q hJ hEi) (cwV 0 htl (klV (zr53 0 rfl) (zr53 1 rfl) (zr53 2 rfl) (zr1 2 rfl) (zr53 3 rfl)) rfl rfl rfl (by decide +kernel) ⟨Nat.le_of_ble_eq_true rfl, Nat.le_of_ble_eq_true rfl⟩) hw hS hA hK hZ hN 10 195 rfl kg195 rfl hl.1 rfl (Nat.le_of_ble_eq_true rfl) dL_law_1050 (lroom hcs) 1053 rfl (fun u1 H locs pu1 hw hS => ?_)
  have kh2 := pu1.2.1
  have hw : zPD D (fun q : Nat => s.heap.size ≤ q) (lW ct E y u1.2 q h2 ym rm qm h3 fo) H := hw
  refine zfr 1053 [.int u1.1] rfl rfl ?_
  refine lv_pop hx hb dL_law_1053 rfl ?_
  refine lv_aload_n hx hb dL_law_1054 rfl (lv_at hl 2 rfl) ?_
  have hw := lrot hw
  refine lcM (As := []) (rest := []) ⟨hx, hb, hml, hown, htl⟩ (mc_ask l D ct h2 ym 20 rm qm hM) (cwV 0 htl (klV (zr53 4 rfl) (zr53 5 rfl) (zr53 6 rfl) (zr1 5 rfl) (zr53 7 rfl)) rfl rfl rfl (by decide +kernel) ⟨Nat.le_of_ble_eq_true rfl, Nat.le_of_ble_eq_true rfl⟩) hw hS hA hK hN rfl hl.1 rfl (Nat.le_of_ble_eq_true rfl) dL_law_1055 (lroom hcs) 1058 rfl (fun u4 H locs pu4 hw hS => ?_)
  have kh5 := pu4.2.1
  have ht7 : lR u1.2 q u4.2 qm := (lR.q hT pu1.2.2.1 pu4.2.2.1 rfl rfl rfl)
  have hw : zPD D (fun q : Nat => s.heap.size ≤ q) (lW ct E y u1.2 q h2 ym u4.2 qm h3 fo) H := hw
  refine zfr 1058 [.int u4.1] rfl rfl ?_
  refine lv_pop hx hb dL_law_1058 rfl ?_
  refine lv_goto (tgt := 1278) hx hb dL_law_1059 (by decide) ?_
  exact kk u1.2 q u4.2 qm fo cells slots kh2 kh5 ht7 (Nat.le_succ _) (Nat.le_add_right _ _) H locs ls hw hS (lv_sub hl [0, 1, 2, 3, 4] rfl)

set_option maxHeartbeats 4000000 in
set_option maxRecDepth 100000 in
theorem kl_28 {p : Program} {l : Launch} {e : Env} {s : State} {m : MethodId} {below : List Frame} {meth : Method} {c : Code} {b L : Nat} {xs : Nat → Int32} (C0 : lw_At p s m meth c b L xs) {D : va_G} {ct : Nat → ClassId} {E : Nat → Nat} (hK : va_K D vwCl (zT ct) s) (hN : zN s) (hZ : eZ E (fun q : Nat => s.heap.size ≤ q) s s.heap) (y ym : Nat → Nat) (h2 h3 t : Nat) (ht : 7 * t + 7 ≤ L) (hL : L ≤ 3584) (r : zRr) (q : zRq) (rm : zRr) (qm : zRq) (fo : Nat → Int64) (hJ : kJ r) (hM : mJ 20 rm) (hT : lR r q rm qm) (hEi : kEi E) (cells slots : Nat) (hcs : cells ≤ 600000 ∧ slots ≤ 7290000)
    (kk : kEnd p l e s m below meth c b D ct E y ym h2 h3 t cells slots) (H : Heap) (locs : List Loc) (hw : zPD D (fun q : Nat => s.heap.size ≤ q) (lW ct E y r q h2 ym rm qm h3 fo) H) (hS : va_S (fun q : Nat => s.heap.size ≤ q) s.heap H locs) (ls : Array Slot) (hl : lv_has ls 7 [(4, .int (nI (7 * t))), (3, .ref h3), (2, .ref h2), (1, .ref (y 195)), (0, .ref b)]) : W p l e room_1 s m #[Value.ref b] below meth c H locs cells slots (lw_Z below #[Value.ref b] s) (F0 m 1062 ls []) := by
  obtain ⟨hx, hb, hr, hml, hown, hts, hX, hbl, hlocks, hgv⟩ := id C0
  have hown : s.vm.findClass RL = some m.cls := hown
  have htl : ∀ w ∈ wsL_law0, w.before #[Value.ref b] s = true := fun w h => hts w (wsL_law_in0 w h)
  have hA : ∀ q : Nat, s.heap.size ≤ q → (fun q : Nat => s.heap.size ≤ q) q := fun _ h => h
  have hbA : ¬ (fun q : Nat => s.heap.size ≤ q) b := Nat.not_le.mpr hbl
  refine lv_aload_n hx hb dL_law_1062 rfl (lv_at hl 3 rfl) ?_
  refine lv_aload_n hx hb dL_law_1063 rfl (lv_at hl 4 rfl) ?_
  refine lv_iload hx hb dL_law_1064 (lv_at hl 0 rfl) ?_
  refine lv_iconst (v := 1) hx hb dL_law_1066 (by decide) ?_
  refine lv_iadd hx hb dL_law_1067 (ztop (.int (nI (7 * t + 1))) (congrArg Value.int (nI_add _ 1)) ?_)
  refine va_sld hx hb hX hbl hbA hS (zix (k := 7 * t + 1) rfl (by omega) (by omega)).1 dL_law_1068 (ztop (.int (xs (7 * t + 1))) (congrArg Value.int (congrArg xs (nI_clamp (by omega)))) ?_)
  refine lv_aload_n hx hb dL_law_1069 rfl (lv_at hl 4 rfl) ?_
  refine lv_iload hx hb dL_law_1070 (lv_at hl 0 rfl) ?_
  refine lv_iconst (v := 2) hx hb dL_law_1072 (by decide) ?_
  refine lv_iadd hx hb dL_law_1073 (ztop (.int (nI (7 * t + 2))) (congrArg Value.int (nI_add _ 2)) ?_)
  refine va_sld hx hb hX hbl hbA hS (zix (k := 7 * t + 2) rfl (by omega) (by omega)).1 dL_law_1074 (ztop (.int (xs (7 * t + 2))) (congrArg Value.int (congrArg xs (nI_clamp (by omega)))) ?_)
  refine lcX (As := [.int (xs (7 * t + 1)), .int (xs (7 * t + 2))]) (rest := []) ⟨hx, hb, hml, hown, htl⟩ (kc_stricter l D ct E y (xs (7 * t + 1)) (xs (7 * t + 2)) r q hJ hEi) (cwV 2 htl (klV (zr53 9 rfl) (zr53 10 rfl) (zr53 11 rfl) (zr1 2 rfl) (zr53 12 rfl)) rfl rfl rfl (by decide +kernel) ⟨Nat.le_of_ble_eq_true rfl, Nat.le_of_ble_eq_true rfl⟩) hw hS hA hK hZ hN 10 195 rfl kg195 rfl hl.1 rfl (Nat.le_of_ble_eq_true rfl) dL_law_1075 (lroom hcs) 1078 rfl (fun u1 H locs pu1 hw hS => ?_)
  have kh2 := pu1.2.1
  have hw : zPD D (fun q : Nat => s.heap.size ≤ q) (lW ct E y u1.2 q h2 ym rm qm h3 fo) H := hw
  refine zfr 1078 [.int u1.1] rfl rfl ?_
  refine lv_pop hx hb dL_law_1078 rfl ?_
  refine lv_aload_n hx hb dL_law_1079 rfl (lv_at hl 2 rfl) ?_
  refine lv_aload_n hx hb dL_law_1080 rfl (lv_at hl 4 rfl) ?_
  refine lv_iload hx hb dL_law_1081 (lv_at hl 0 rfl) ?_
  refine lv_iconst (v := 1) hx hb dL_law_1083 (by decide) ?_
  refine lv_iadd hx hb dL_law_1084 (ztop (.int (nI (7 * t + 1))) (congrArg Value.int (nI_add _ 1)) ?_)
  refine va_sld hx hb hX hbl hbA hS (zix (k := 7 * t + 1) rfl (by omega) (by omega)).1 dL_law_1085 (ztop (.int (xs (7 * t + 1))) (congrArg Value.int (congrArg xs (nI_clamp (by omega)))) ?_)
  refine lv_aload_n hx hb dL_law_1086 rfl (lv_at hl 4 rfl) ?_
  refine lv_iload hx hb dL_law_1087 (lv_at hl 0 rfl) ?_
  refine lv_iconst (v := 2) hx hb dL_law_1089 (by decide) ?_
  refine lv_iadd hx hb dL_law_1090 (ztop (.int (nI (7 * t + 2))) (congrArg Value.int (nI_add _ 2)) ?_)
  refine va_sld hx hb hX hbl hbA hS (zix (k := 7 * t + 2) rfl (by omega) (by omega)).1 dL_law_1091 (ztop (.int (xs (7 * t + 2))) (congrArg Value.int (congrArg xs (nI_clamp (by omega)))) ?_)
  have hw := lrot hw
  refine lcM (As := [.int (xs (7 * t + 1)), .int (xs (7 * t + 2))]) (rest := []) ⟨hx, hb, hml, hown, htl⟩ (mc_stricter l D ct h2 ym 20 (xs (7 * t + 1)) (xs (7 * t + 2)) rm qm hM) (cwV 2 htl (klV (zr53 13 rfl) (zr53 14 rfl) (zr53 15 rfl) (zr1 5 rfl) (zr53 16 rfl)) rfl rfl rfl (by decide +kernel) ⟨Nat.le_of_ble_eq_true rfl, Nat.le_of_ble_eq_true rfl⟩) hw hS hA hK hN rfl hl.1 rfl (Nat.le_of_ble_eq_true rfl) dL_law_1092 (lroom hcs) 1095 rfl (fun u4 H locs pu4 hw hS => ?_)
  have kh5 := pu4.2.1
  have ht7 : lR u1.2 q u4.2 qm := (lR.w hT pu1.2.2.1 pu4.2.2.1 (fun i _ => congrFun (pu4.2.2.1 32 rfl) i) (lR.sT pu4.2.2.2.1 hT) rfl)
  have hw : zPD D (fun q : Nat => s.heap.size ≤ q) (lW ct E y u1.2 q h2 ym u4.2 qm h3 fo) H := hw
  refine zfr 1095 [.int u4.1] rfl rfl ?_
  refine lv_pop hx hb dL_law_1095 rfl ?_
  refine lv_goto (tgt := 1278) hx hb dL_law_1096 (by decide) ?_
  exact kk u1.2 q u4.2 qm fo cells slots kh2 kh5 ht7 (Nat.le_succ _) (Nat.le_add_right _ _) H locs ls hw hS (lv_sub hl [0, 1, 2, 3, 4] rfl)

set_option maxHeartbeats 4000000 in
set_option maxRecDepth 100000 in
theorem kl_30 {p : Program} {l : Launch} {e : Env} {s : State} {m : MethodId} {below : List Frame} {meth : Method} {c : Code} {b L : Nat} {xs : Nat → Int32} (C0 : lw_At p s m meth c b L xs) {D : va_G} {ct : Nat → ClassId} {E : Nat → Nat} (hK : va_K D vwCl (zT ct) s) (hN : zN s) (hZ : eZ E (fun q : Nat => s.heap.size ≤ q) s s.heap) (y ym : Nat → Nat) (h2 h3 t : Nat) (ht : 7 * t + 7 ≤ L) (hL : L ≤ 3584) (r : zRr) (q : zRq) (rm : zRr) (qm : zRq) (fo : Nat → Int64) (hJ : kJ r) (hM : mJ 20 rm) (hT : lR r q rm qm) (hEi : kEi E) (cells slots : Nat) (hcs : cells ≤ 600000 ∧ slots ≤ 7290000)
    (kk : kEnd p l e s m below meth c b D ct E y ym h2 h3 t cells slots) (H : Heap) (locs : List Loc) (hw : zPD D (fun q : Nat => s.heap.size ≤ q) (lW ct E y r q h2 ym rm qm h3 fo) H) (hS : va_S (fun q : Nat => s.heap.size ≤ q) s.heap H locs) (ls : Array Slot) (hl : lv_has ls 7 [(4, .int (nI (7 * t))), (3, .ref h3), (2, .ref h2), (1, .ref (y 195)), (0, .ref b)]) : W p l e room_1 s m #[Value.ref b] below meth c H locs cells slots (lw_Z below #[Value.ref b] s) (F0 m 1151 ls []) := by
  obtain ⟨hx, hb, hr, hml, hown, hts, hX, hbl, hlocks, hgv⟩ := id C0
  have hown : s.vm.findClass RL = some m.cls := hown
  have htl : ∀ w ∈ wsL_law0, w.before #[Value.ref b] s = true := fun w h => hts w (wsL_law_in0 w h)
  have hA : ∀ q : Nat, s.heap.size ≤ q → (fun q : Nat => s.heap.size ≤ q) q := fun _ h => h
  have hbA : ¬ (fun q : Nat => s.heap.size ≤ q) b := Nat.not_le.mpr hbl
  refine lv_aload_n hx hb dL_law_1151 rfl (lv_at hl 3 rfl) ?_
  refine lv_aload_n hx hb dL_law_1152 rfl (lv_at hl 4 rfl) ?_
  refine lv_iload hx hb dL_law_1153 (lv_at hl 0 rfl) ?_
  refine lv_iconst (v := 1) hx hb dL_law_1155 (by decide) ?_
  refine lv_iadd hx hb dL_law_1156 (ztop (.int (nI (7 * t + 1))) (congrArg Value.int (nI_add _ 1)) ?_)
  refine va_sld hx hb hX hbl hbA hS (zix (k := 7 * t + 1) rfl (by omega) (by omega)).1 dL_law_1157 (ztop (.int (xs (7 * t + 1))) (congrArg Value.int (congrArg xs (nI_clamp (by omega)))) ?_)
  refine lv_aload_n hx hb dL_law_1158 rfl (lv_at hl 4 rfl) ?_
  refine lv_iload hx hb dL_law_1159 (lv_at hl 0 rfl) ?_
  refine lv_iconst (v := 2) hx hb dL_law_1161 (by decide) ?_
  refine lv_iadd hx hb dL_law_1162 (ztop (.int (nI (7 * t + 2))) (congrArg Value.int (nI_add _ 2)) ?_)
  refine va_sld hx hb hX hbl hbA hS (zix (k := 7 * t + 2) rfl (by omega) (by omega)).1 dL_law_1163 (ztop (.int (xs (7 * t + 2))) (congrArg Value.int (congrArg xs (nI_clamp (by omega)))) ?_)
  refine lv_aload_n hx hb dL_law_1164 rfl (lv_at hl 4 rfl) ?_
  refine lv_iload hx hb dL_law_1165 (lv_at hl 0 rfl) ?_
  refine lv_iconst (v := 3) hx hb dL_law_1167 (by decide) ?_
  refine lv_iadd hx hb dL_law_1168 (ztop (.int (nI (7 * t + 3))) (congrArg Value.int (nI_add _ 3)) ?_)
  refine va_sld hx hb hX hbl hbA hS (zix (k := 7 * t + 3) rfl (by omega) (by omega)).1 dL_law_1169 (ztop (.int (xs (7 * t + 3))) (congrArg Value.int (congrArg xs (nI_clamp (by omega)))) ?_)
  refine lcX (As := [.int (xs (7 * t + 1)), .int (xs (7 * t + 2)), .int (xs (7 * t + 3))]) (rest := []) ⟨hx, hb, hml, hown, htl⟩ (kc_years l D ct E y (xs (7 * t + 1)) (xs (7 * t + 2)) (xs (7 * t + 3)) r q hJ hEi) (cwV 3 htl (klV (zr55 2 rfl) (zr55 3 rfl) (zr55 4 rfl) (zr1 2 rfl) (zr55 5 rfl)) rfl rfl rfl (by decide +kernel) ⟨Nat.le_of_ble_eq_true rfl, Nat.le_of_ble_eq_true rfl⟩) hw hS hA hK hZ hN 10 195 rfl kg195 rfl hl.1 rfl (Nat.le_of_ble_eq_true rfl) dL_law_1170 (lroom hcs) 1173 rfl (fun u1 H locs pu1 hw hS => ?_)
  have kh2 := pu1.2.1
  have hw : zPD D (fun q : Nat => s.heap.size ≤ q) (lW ct E y u1.2 q h2 ym rm qm h3 fo) H := hw
  refine zfr 1173 [.int u1.1] rfl rfl ?_
  refine lv_pop hx hb dL_law_1173 rfl ?_
  refine lv_aload_n hx hb dL_law_1174 rfl (lv_at hl 2 rfl) ?_
  refine lv_aload_n hx hb dL_law_1175 rfl (lv_at hl 4 rfl) ?_
  refine lv_iload hx hb dL_law_1176 (lv_at hl 0 rfl) ?_
  refine lv_iconst (v := 1) hx hb dL_law_1178 (by decide) ?_
  refine lv_iadd hx hb dL_law_1179 (ztop (.int (nI (7 * t + 1))) (congrArg Value.int (nI_add _ 1)) ?_)
  refine va_sld hx hb hX hbl hbA hS (zix (k := 7 * t + 1) rfl (by omega) (by omega)).1 dL_law_1180 (ztop (.int (xs (7 * t + 1))) (congrArg Value.int (congrArg xs (nI_clamp (by omega)))) ?_)
  refine lv_aload_n hx hb dL_law_1181 rfl (lv_at hl 4 rfl) ?_
  refine lv_iload hx hb dL_law_1182 (lv_at hl 0 rfl) ?_
  refine lv_iconst (v := 2) hx hb dL_law_1184 (by decide) ?_
  refine lv_iadd hx hb dL_law_1185 (ztop (.int (nI (7 * t + 2))) (congrArg Value.int (nI_add _ 2)) ?_)
  refine va_sld hx hb hX hbl hbA hS (zix (k := 7 * t + 2) rfl (by omega) (by omega)).1 dL_law_1186 (ztop (.int (xs (7 * t + 2))) (congrArg Value.int (congrArg xs (nI_clamp (by omega)))) ?_)
  refine lv_aload_n hx hb dL_law_1187 rfl (lv_at hl 4 rfl) ?_
  refine lv_iload hx hb dL_law_1188 (lv_at hl 0 rfl) ?_
  refine lv_iconst (v := 3) hx hb dL_law_1190 (by decide) ?_
  refine lv_iadd hx hb dL_law_1191 (ztop (.int (nI (7 * t + 3))) (congrArg Value.int (nI_add _ 3)) ?_)
  refine va_sld hx hb hX hbl hbA hS (zix (k := 7 * t + 3) rfl (by omega) (by omega)).1 dL_law_1192 (ztop (.int (xs (7 * t + 3))) (congrArg Value.int (congrArg xs (nI_clamp (by omega)))) ?_)
  have hw := lrot hw
  refine lcM (As := [.int (xs (7 * t + 1)), .int (xs (7 * t + 2)), .int (xs (7 * t + 3))]) (rest := []) ⟨hx, hb, hml, hown, htl⟩ (mc_years l D ct h2 ym (xs (7 * t + 1)) (xs (7 * t + 2)) (xs (7 * t + 3)) rm qm hM) (cwV 3 htl (klV (zr55 20 rfl) (zr55 21 rfl) (zr55 22 rfl) (zr1 5 rfl) (zr55 23 rfl)) rfl rfl rfl (by decide +kernel) ⟨Nat.le_of_ble_eq_true rfl, Nat.le_of_ble_eq_true rfl⟩) hw hS hA hK hN rfl hl.1 rfl (Nat.le_of_ble_eq_true rfl) dL_law_1193 (lroom hcs) 1196 rfl (fun u4 H locs pu4 hw hS => ?_)
  have kh5 := pu4.2.1
  have ht7 : lR u1.2 q u4.2.1 u4.2.2 := ((lR.s hT pu1.2.2.1 pu4.2.2.1 (by rw [show u4 = _ from pu4.2.2.2.2.1]; exact rs_years) rfl rfl).n pu4.2.2.2.1)
  have hw : zPD D (fun q : Nat => s.heap.size ≤ q) (lW ct E y u1.2 q h2 ym u4.2.1 u4.2.2 h3 fo) H := hw
  refine zfr 1196 [.int u4.1] rfl rfl ?_
  refine lv_pop hx hb dL_law_1196 rfl ?_
  refine lv_goto (tgt := 1278) hx hb dL_law_1197 (by decide) ?_
  exact kk u1.2 q u4.2.1 u4.2.2 fo cells slots kh2 kh5 ht7 (Nat.le_succ _) (Nat.le_add_right _ _) H locs ls hw hS (lv_sub hl [0, 1, 2, 3, 4] rfl)

set_option maxHeartbeats 4000000 in
set_option maxRecDepth 100000 in
theorem kl_31 {p : Program} {l : Launch} {e : Env} {s : State} {m : MethodId} {below : List Frame} {meth : Method} {c : Code} {b L : Nat} {xs : Nat → Int32} (C0 : lw_At p s m meth c b L xs) {D : va_G} {ct : Nat → ClassId} {E : Nat → Nat} (hK : va_K D vwCl (zT ct) s) (hN : zN s) (hZ : eZ E (fun q : Nat => s.heap.size ≤ q) s s.heap) (y ym : Nat → Nat) (h2 h3 t : Nat) (ht : 7 * t + 7 ≤ L) (hL : L ≤ 3584) (r : zRr) (q : zRq) (rm : zRr) (qm : zRq) (fo : Nat → Int64) (hJ : kJ r) (hM : mJ 20 rm) (hT : lR r q rm qm) (hEi : kEi E) (cells slots : Nat) (hcs : cells ≤ 600000 ∧ slots ≤ 7290000)
    (kk : kEnd p l e s m below meth c b D ct E y ym h2 h3 t cells slots) (H : Heap) (locs : List Loc) (hw : zPD D (fun q : Nat => s.heap.size ≤ q) (lW ct E y r q h2 ym rm qm h3 fo) H) (hS : va_S (fun q : Nat => s.heap.size ≤ q) s.heap H locs) (ls : Array Slot) (hl : lv_has ls 7 [(4, .int (nI (7 * t))), (3, .ref h3), (2, .ref h2), (1, .ref (y 195)), (0, .ref b)]) : W p l e room_1 s m #[Value.ref b] below meth c H locs cells slots (lw_Z below #[Value.ref b] s) (F0 m 1200 ls []) := by
  obtain ⟨hx, hb, hr, hml, hown, hts, hX, hbl, hlocks, hgv⟩ := id C0
  have hown : s.vm.findClass RL = some m.cls := hown
  have htl : ∀ w ∈ wsL_law0, w.before #[Value.ref b] s = true := fun w h => hts w (wsL_law_in0 w h)
  have hA : ∀ q : Nat, s.heap.size ≤ q → (fun q : Nat => s.heap.size ≤ q) q := fun _ h => h
  have hbA : ¬ (fun q : Nat => s.heap.size ≤ q) b := Nat.not_le.mpr hbl
  refine lv_aload_n hx hb dL_law_1200 rfl (lv_at hl 3 rfl) ?_
  refine lv_aload_n hx hb dL_law_1201 rfl (lv_at hl 4 rfl) ?_
  refine lv_iload hx hb dL_law_1202 (lv_at hl 0 rfl) ?_
  refine lv_iconst (v := 1) hx hb dL_law_1204 (by decide) ?_
  refine lv_iadd hx hb dL_law_1205 (ztop (.int (nI (7 * t + 1))) (congrArg Value.int (nI_add _ 1)) ?_)
  refine va_sld hx hb hX hbl hbA hS (zix (k := 7 * t + 1) rfl (by omega) (by omega)).1 dL_law_1206 (ztop (.int (xs (7 * t + 1))) (congrArg Value.int (congrArg xs (nI_clamp (by omega)))) ?_)
  refine lv_aload_n hx hb dL_law_1207 rfl (lv_at hl 4 rfl) ?_
  refine lv_iload hx hb dL_law_1208 (lv_at hl 0 rfl) ?_
  refine lv_iconst (v := 2) hx hb dL_law_1210 (by decide) ?_
  refine lv_iadd hx hb dL_law_1211 (ztop (.int (nI (7 * t + 2))) (congrArg Value.int (nI_add _ 2)) ?_)
  refine va_sld hx hb hX hbl hbA hS (zix (k := 7 * t + 2) rfl (by omega) (by omega)).1 dL_law_1212 (ztop (.int (xs (7 * t + 2))) (congrArg Value.int (congrArg xs (nI_clamp (by omega)))) ?_)
  refine lv_if_eq (tgt := 1220) hx hb dL_law_1213 (by decide) (fun c1 => ?_) (fun c1 => ?_)
  · refine lv_iconst (v := 0) hx hb dL_law_1220 (by decide) ?_
    refine lcX (As := [.int (xs (7 * t + 1)), .int 0]) (rest := []) ⟨hx, hb, hml, hown, htl⟩ (kc_mark l D ct E y (xs (7 * t + 1)) (0 : Int32) r q (zI.lit (by decide)) hJ hEi) (cwV 2 htl (klV (zr56 19 rfl) (zr56 20 rfl) (zr56 21 rfl) (zr1 2 rfl) (zr56 22 rfl)) rfl rfl rfl (by decide +kernel) ⟨Nat.le_of_ble_eq_true rfl, Nat.le_of_ble_eq_true rfl⟩) hw hS hA hK hZ hN 10 195 rfl kg195 rfl hl.1 rfl (Nat.le_of_ble_eq_true rfl) dL_law_1221 (lroom hcs) 1224 rfl (fun u2 H locs pu2 hw hS => ?_)
    have kh3 := pu2.2.1
    have hw : zPD D (fun q : Nat => s.heap.size ≤ q) (lW ct E y u2.2 q h2 ym rm qm h3 fo) H := hw
    refine zfr 1224 [.int u2.1] rfl rfl ?_
    refine lv_pop hx hb dL_law_1224 rfl ?_
    refine lv_aload_n hx hb dL_law_1225 rfl (lv_at hl 2 rfl) ?_
    refine lv_aload_n hx hb dL_law_1226 rfl (lv_at hl 4 rfl) ?_
    refine lv_iload hx hb dL_law_1227 (lv_at hl 0 rfl) ?_
    refine lv_iconst (v := 1) hx hb dL_law_1229 (by decide) ?_
    refine lv_iadd hx hb dL_law_1230 (ztop (.int (nI (7 * t + 1))) (congrArg Value.int (nI_add _ 1)) ?_)
    refine va_sld hx hb hX hbl hbA hS (zix (k := 7 * t + 1) rfl (by omega) (by omega)).1 dL_law_1231 (ztop (.int (xs (7 * t + 1))) (congrArg Value.int (congrArg xs (nI_clamp (by omega)))) ?_)
    refine lv_aload_n hx hb dL_law_1232 rfl (lv_at hl 4 rfl) ?_
    refine lv_iload hx hb dL_law_1233 (lv_at hl 0 rfl) ?_
    refine lv_iconst (v := 2) hx hb dL_law_1235 (by decide) ?_
    refine lv_iadd hx hb dL_law_1236 (ztop (.int (nI (7 * t + 2))) (congrArg Value.int (nI_add _ 2)) ?_)
    refine va_sld hx hb hX hbl hbA hS (zix (k := 7 * t + 2) rfl (by omega) (by omega)).1 dL_law_1237 (ztop (.int (xs (7 * t + 2))) (congrArg Value.int (congrArg xs (nI_clamp (by omega)))) ?_)
    refine lv_if_eq (tgt := 1245) hx hb dL_law_1238 (by decide) (fun _ => ?_) (fun h => absurd c1 h)
    refine lv_iconst (v := 0) hx hb dL_law_1245 (by decide) ?_
    have hw := lrot hw
    refine lcM (As := [.int (xs (7 * t + 1)), .int 0]) (rest := []) ⟨hx, hb, hml, hown, htl⟩ (mc_mark l D ct h2 ym (xs (7 * t + 1)) (0 : Int32) rm qm (zI.lit (by decide)) hM) (cwV 2 htl (klV (zr57 13 rfl) (zr57 14 rfl) (zr57 15 rfl) (zr1 5 rfl) (zr57 16 rfl)) rfl rfl rfl (by decide +kernel) ⟨Nat.le_of_ble_eq_true rfl, Nat.le_of_ble_eq_true rfl⟩) hw hS hA hK hN rfl hl.1 rfl (Nat.le_of_ble_eq_true rfl) dL_law_1246 (lroom hcs) 1249 rfl (fun u5 H locs pu5 hw hS => ?_)
    have kh6 := pu5.2.1
    have hA9 := lR.mark pu2.2.2.1 pu5.2.2.2.1 hT pu5.2.2.1
    have ht8 : lR u2.2 q u5.2 qm := hA9.2
    have hw : zPD D (fun q : Nat => s.heap.size ≤ q) (lW ct E y u2.2 q h2 ym u5.2 qm h3 fo) H := hw
    refine zfr 1249 [.int u5.1] rfl rfl ?_
    refine lv_pop hx hb dL_law_1249 rfl ?_
    refine lv_goto (tgt := 1278) hx hb dL_law_1250 (by decide) ?_
    exact kk u2.2 q u5.2 qm fo cells slots kh3 kh6 ht8 (Nat.le_succ _) (Nat.le_add_right _ _) H locs ls hw hS (lv_sub hl [0, 1, 2, 3, 4] rfl)
  · refine lv_iconst (v := 1) hx hb dL_law_1216 (by decide) ?_
    refine lv_goto (tgt := 1221) hx hb dL_law_1217 (by decide) ?_
    refine lcX (As := [.int (xs (7 * t + 1)), .int 1]) (rest := []) ⟨hx, hb, hml, hown, htl⟩ (kc_mark l D ct E y (xs (7 * t + 1)) (1 : Int32) r q (zI.lit (by decide)) hJ hEi) (cwV 2 htl (klV (zr56 19 rfl) (zr56 20 rfl) (zr56 21 rfl) (zr1 2 rfl) (zr56 22 rfl)) rfl rfl rfl (by decide +kernel) ⟨Nat.le_of_ble_eq_true rfl, Nat.le_of_ble_eq_true rfl⟩) hw hS hA hK hZ hN 10 195 rfl kg195 rfl hl.1 rfl (Nat.le_of_ble_eq_true rfl) dL_law_1221 (lroom hcs) 1224 rfl (fun u9 H locs pu9 hw hS => ?_)
    have kh10 := pu9.2.1
    have hw : zPD D (fun q : Nat => s.heap.size ≤ q) (lW ct E y u9.2 q h2 ym rm qm h3 fo) H := hw
    refine zfr 1224 [.int u9.1] rfl rfl ?_
    refine lv_pop hx hb dL_law_1224 rfl ?_
    refine lv_aload_n hx hb dL_law_1225 rfl (lv_at hl 2 rfl) ?_
    refine lv_aload_n hx hb dL_law_1226 rfl (lv_at hl 4 rfl) ?_
    refine lv_iload hx hb dL_law_1227 (lv_at hl 0 rfl) ?_
    refine lv_iconst (v := 1) hx hb dL_law_1229 (by decide) ?_
    refine lv_iadd hx hb dL_law_1230 (ztop (.int (nI (7 * t + 1))) (congrArg Value.int (nI_add _ 1)) ?_)
    refine va_sld hx hb hX hbl hbA hS (zix (k := 7 * t + 1) rfl (by omega) (by omega)).1 dL_law_1231 (ztop (.int (xs (7 * t + 1))) (congrArg Value.int (congrArg xs (nI_clamp (by omega)))) ?_)
    refine lv_aload_n hx hb dL_law_1232 rfl (lv_at hl 4 rfl) ?_
    refine lv_iload hx hb dL_law_1233 (lv_at hl 0 rfl) ?_
    refine lv_iconst (v := 2) hx hb dL_law_1235 (by decide) ?_
    refine lv_iadd hx hb dL_law_1236 (ztop (.int (nI (7 * t + 2))) (congrArg Value.int (nI_add _ 2)) ?_)
    refine va_sld hx hb hX hbl hbA hS (zix (k := 7 * t + 2) rfl (by omega) (by omega)).1 dL_law_1237 (ztop (.int (xs (7 * t + 2))) (congrArg Value.int (congrArg xs (nI_clamp (by omega)))) ?_)
    refine lv_if_eq (tgt := 1245) hx hb dL_law_1238 (by decide) (fun h => absurd h c1) (fun _ => ?_)
    refine lv_iconst (v := 1) hx hb dL_law_1241 (by decide) ?_
    refine lv_goto (tgt := 1246) hx hb dL_law_1242 (by decide) ?_
    have hw := lrot hw
    refine lcM (As := [.int (xs (7 * t + 1)), .int 1]) (rest := []) ⟨hx, hb, hml, hown, htl⟩ (mc_mark l D ct h2 ym (xs (7 * t + 1)) (1 : Int32) rm qm (zI.lit (by decide)) hM) (cwV 2 htl (klV (zr57 13 rfl) (zr57 14 rfl) (zr57 15 rfl) (zr1 5 rfl) (zr57 16 rfl)) rfl rfl rfl (by decide +kernel) ⟨Nat.le_of_ble_eq_true rfl, Nat.le_of_ble_eq_true rfl⟩) hw hS hA hK hN rfl hl.1 rfl (Nat.le_of_ble_eq_true rfl) dL_law_1246 (lroom hcs) 1249 rfl (fun u12 H locs pu12 hw hS => ?_)
    have kh13 := pu12.2.1
    have hA9 := lR.mark pu9.2.2.1 pu12.2.2.2.1 hT pu12.2.2.1
    have ht15 : lR u9.2 q u12.2 qm := hA9.2
    have hw : zPD D (fun q : Nat => s.heap.size ≤ q) (lW ct E y u9.2 q h2 ym u12.2 qm h3 fo) H := hw
    refine zfr 1249 [.int u12.1] rfl rfl ?_
    refine lv_pop hx hb dL_law_1249 rfl ?_
    refine lv_goto (tgt := 1278) hx hb dL_law_1250 (by decide) ?_
    exact kk u9.2 q u12.2 qm fo cells slots kh10 kh13 ht15 (Nat.le_succ _) (Nat.le_add_right _ _) H locs ls hw hS (lv_sub hl [0, 1, 2, 3, 4] rfl)

set_option maxHeartbeats 4000000 in
set_option maxRecDepth 100000 in
theorem kl_32 {p : Program} {l : Launch} {e : Env} {s : State} {m : MethodId} {below : List Frame} {meth : Method} {c : Code} {b L : Nat} {xs : Nat → Int32} (C0 : lw_At p s m meth c b L xs) {D : va_G} {ct : Nat → ClassId} {E : Nat → Nat} (hK : va_K D vwCl (zT ct) s) (hN : zN s) (hZ : eZ E (fun q : Nat => s.heap.size ≤ q) s s.heap) (y ym : Nat → Nat) (h2 h3 t : Nat) (ht : 7 * t + 7 ≤ L) (hL : L ≤ 3584) (r : zRr) (q : zRq) (rm : zRr) (qm : zRq) (fo : Nat → Int64) (hJ : kJ r) (hM : mJ 20 rm) (hT : lR r q rm qm) (hEi : kEi E) (cells slots : Nat) (hcs : cells ≤ 600000 ∧ slots ≤ 7290000)
    (kk : kEnd p l e s m below meth c b D ct E y ym h2 h3 t cells slots) (H : Heap) (locs : List Loc) (hw : zPD D (fun q : Nat => s.heap.size ≤ q) (lW ct E y r q h2 ym rm qm h3 fo) H) (hS : va_S (fun q : Nat => s.heap.size ≤ q) s.heap H locs) (ls : Array Slot) (hl : lv_has ls 7 [(4, .int (nI (7 * t))), (3, .ref h3), (2, .ref h2), (1, .ref (y 195)), (0, .ref b)]) : W p l e room_1 s m #[Value.ref b] below meth c H locs cells slots (lw_Z below #[Value.ref b] s) (F0 m 1253 ls []) := by
  obtain ⟨hx, hb, hr, hml, hown, hts, hX, hbl, hlocks, hgv⟩ := id C0
  have hown : s.vm.findClass RL = some m.cls := hown
  have htl : ∀ w ∈ wsL_law0, w.before #[Value.ref b] s = true := fun w h => hts w (wsL_law_in0 w h)
  have hA : ∀ q : Nat, s.heap.size ≤ q → (fun q : Nat => s.heap.size ≤ q) q := fun _ h => h
  have hbA : ¬ (fun q : Nat => s.heap.size ≤ q) b := Nat.not_le.mpr hbl
  refine lv_aload_n hx hb dL_law_1253 rfl (lv_at hl 3 rfl) ?_
  refine lv_aload_n hx hb dL_law_1254 rfl (lv_at hl 4 rfl) ?_
  refine lv_iload hx hb dL_law_1255 (lv_at hl 0 rfl) ?_
  refine lv_iconst (v := 1) hx hb dL_law_1257 (by decide) ?_
  refine lv_iadd hx hb dL_law_1258 (ztop (.int (nI (7 * t + 1))) (congrArg Value.int (nI_add _ 1)) ?_)
  refine va_sld hx hb hX hbl hbA hS (zix (k := 7 * t + 1) rfl (by omega) (by omega)).1 dL_law_1259 (ztop (.int (xs (7 * t + 1))) (congrArg Value.int (congrArg xs (nI_clamp (by omega)))) ?_)
  refine lcX (As := [.int (xs (7 * t + 1))]) (rest := []) ⟨hx, hb, hml, hown, htl⟩ (kc_count l D ct E y (xs (7 * t + 1)) r q hJ hEi) (cwV 1 htl (klV (zr57 21 rfl) (zr57 22 rfl) (zr57 23 rfl) (zr1 2 rfl) (zr58 0 rfl)) rfl rfl rfl (by decide +kernel) ⟨Nat.le_of_ble_eq_true rfl, Nat.le_of_ble_eq_true rfl⟩) hw hS hA hK hZ hN 10 195 rfl kg195 rfl hl.1 rfl (Nat.le_of_ble_eq_true rfl) dL_law_1260 (lroom hcs) 1263 rfl (fun u1 H locs pu1 hw hS => ?_)
  have hw : zPD D (fun q : Nat => s.heap.size ≤ q) (lW ct E y r q h2 ym rm qm h3 fo) H := hw
  refine zfr 1263 [.int u1] rfl rfl ?_
  refine lv_pop hx hb dL_law_1263 rfl ?_
  refine lv_aload_n hx hb dL_law_1264 rfl (lv_at hl 2 rfl) ?_
  refine lv_aload_n hx hb dL_law_1265 rfl (lv_at hl 4 rfl) ?_
  refine lv_iload hx hb dL_law_1266 (lv_at hl 0 rfl) ?_
  refine lv_iconst (v := 1) hx hb dL_law_1268 (by decide) ?_
  refine lv_iadd hx hb dL_law_1269 (ztop (.int (nI (7 * t + 1))) (congrArg Value.int (nI_add _ 1)) ?_)
  refine va_sld hx hb hX hbl hbA hS (zix (k := 7 * t + 1) rfl (by omega) (by omega)).1 dL_law_1270 (ztop (.int (xs (7 * t + 1))) (congrArg Value.int (congrArg xs (nI_clamp (by omega)))) ?_)
  have hw := lrot hw
  refine lcM (As := [.int (xs (7 * t + 1))]) (rest := []) ⟨hx, hb, hml, hown, htl⟩ (mc_count l D ct h2 ym 20 (xs (7 * t + 1)) rm qm hM) (cwV 1 htl (klV (zr58 2 rfl) (zr58 3 rfl) (zr58 4 rfl) (zr1 5 rfl) (zr58 5 rfl)) rfl rfl rfl (by decide +kernel) ⟨Nat.le_of_ble_eq_true rfl, Nat.le_of_ble_eq_true rfl⟩) hw hS hA hK hN rfl hl.1 rfl (Nat.le_of_ble_eq_true rfl) dL_law_1271 (lroom hcs) 1274 rfl (fun u2 H locs pu2 hw hS => ?_)
  have kh3 := pu2.2.1
  have ht5 : lR r q u2.2 qm := (lR.q hT zFt.refl pu2.2.2.1 rfl rfl rfl)
  have hw : zPD D (fun q : Nat => s.heap.size ≤ q) (lW ct E y r q h2 ym u2.2 qm h3 fo) H := hw
  refine zfr 1274 [.int u2.1] rfl rfl ?_
  refine lv_pop hx hb dL_law_1274 rfl ?_
  refine lv_goto (tgt := 1278) hx hb dL_law_1275 (by decide) ?_
  exact kk r q u2.2 qm fo cells slots hJ kh3 ht5 (Nat.le_succ _) (Nat.le_add_right _ _) H locs ls hw hS (lv_sub hl [0, 1, 2, 3, 4] rfl)
set_option maxHeartbeats 4000000 in
set_option maxRecDepth 100000 in
theorem kl_29 {p : Program} {l : Launch} {e : Env} {s : State} {m : MethodId} {below : List Frame} {meth : Method} {c : Code} {b L : Nat} {xs : Nat → Int32} (hst : l.stackTraces = false) (C0 : lw_At p s m meth c b L xs) {D : va_G} {ct : Nat → ClassId} {E : Nat → Nat} (hK : va_K D vwCl (zT ct) s) (hN : zN s) (hZ : eZ E (fun q : Nat => s.heap.size ≤ q) s s.heap) (y ym : Nat → Nat) (h2 h3 t : Nat) (ht : 7 * t + 7 ≤ L) (hL : L ≤ 3584) (r : zRr) (q : zRq) (rm : zRr) (qm : zRq) (fo : Nat → Int64) (hJ : kJ r) (hM : mJ 20 rm) (hT : lR r q rm qm) (hEi : kEi E) (cells slots : Nat) (hcs : cells ≤ 600000 ∧ slots ≤ 7290000)
    (kk : kEnd p l e s m below meth c b D ct E y ym h2 h3 t cells slots) (H : Heap) (locs : List Loc) (hw : zPD D (fun q : Nat => s.heap.size ≤ q) (lW ct E y r q h2 ym rm qm h3 fo) H) (hS : va_S (fun q : Nat => s.heap.size ≤ q) s.heap H locs) (ls : Array Slot) (hl : lv_has ls 7 [(4, .int (nI (7 * t))), (3, .ref h3), (2, .ref h2), (1, .ref (y 195)), (0, .ref b)]) : W p l e room_1 s m #[Value.ref b] below meth c H locs cells slots (lw_Z below #[Value.ref b] s) (F0 m 1099 ls []) := by
  obtain ⟨hx, hb, hr, hml, hown, hts, hX, hbl, hlocks, hgv⟩ := id C0
  have hown : s.vm.findClass RL = some m.cls := hown
  have htl : ∀ w ∈ wsL_law0, w.before #[Value.ref b] s = true := fun w h => hts w (wsL_law_in0 w h)
  have hA : ∀ q : Nat, s.heap.size ≤ q → (fun q : Nat => s.heap.size ≤ q) q := fun _ h => h
  have hbA : ¬ (fun q : Nat => s.heap.size ≤ q) b := Nat.not_le.mpr hbl
  obtain ⟨sa, sb, hX9⟩ := zXof hts hgv
  have htB : ∀ w ∈ va_wsS RL 145 yL_rests zwsRL, w.before #[Value.ref b] s = true := fun w h => hts w (zBig_in w h)
  refine lv_aload_n hx hb dL_law_1099 rfl (lv_at hl 3 rfl) ?_
  refine lv_aload_n hx hb dL_law_1100 rfl (lv_at hl 4 rfl) ?_
  refine lv_iload hx hb dL_law_1101 (lv_at hl 0 rfl) ?_
  refine lv_iconst (v := 1) hx hb dL_law_1103 (by decide) ?_
  refine lv_iadd hx hb dL_law_1104 (ztop (.int (nI (7 * t + 1))) (congrArg Value.int (nI_add _ 1)) ?_)
  refine va_sld hx hb hX hbl hbA hS (zix (k := 7 * t + 1) rfl (by omega) (by omega)).1 dL_law_1105 (ztop (.int (xs (7 * t + 1))) (congrArg Value.int (congrArg xs (nI_clamp (by omega)))) ?_)
  refine lv_aload_n hx hb dL_law_1106 rfl (lv_at hl 4 rfl) ?_
  refine lv_iload hx hb dL_law_1107 (lv_at hl 0 rfl) ?_
  refine lv_iconst (v := 2) hx hb dL_law_1109 (by decide) ?_
  refine lv_iadd hx hb dL_law_1110 (ztop (.int (nI (7 * t + 2))) (congrArg Value.int (nI_add _ 2)) ?_)
  refine va_sld hx hb hX hbl hbA hS (zix (k := 7 * t + 2) rfl (by omega) (by omega)).1 dL_law_1111 (ztop (.int (xs (7 * t + 2))) (congrArg Value.int (congrArg xs (nI_clamp (by omega)))) ?_)
  refine lv_aload_n hx hb dL_law_1112 rfl (lv_at hl 4 rfl) ?_
  refine lv_iload hx hb dL_law_1113 (lv_at hl 0 rfl) ?_
  refine lv_iconst (v := 3) hx hb dL_law_1115 (by decide) ?_
  refine lv_iadd hx hb dL_law_1116 (ztop (.int (nI (7 * t + 3))) (congrArg Value.int (nI_add _ 3)) ?_)
  refine va_sld hx hb hX hbl hbA hS (zix (k := 7 * t + 3) rfl (by omega) (by omega)).1 dL_law_1117 (ztop (.int (xs (7 * t + 3))) (congrArg Value.int (congrArg xs (nI_clamp (by omega)))) ?_)
  refine lv_aload_n hx hb dL_law_1118 rfl (lv_at hl 1 rfl) ?_
  refine lxcell (x0 := (y 195, .inr (10, [.ref (y 196), .ref (y 171), .ref (y 183), .ref (y 198), .ref (y 138), .ref (y 142), .ref (y 199), .ref (y 200), .ref (y 6), .ref (y 12), .ref (y 162), .ref (y 205), .ref (y 206), .int (r 195 13), .int (r 195 14)]))) (x := (h3, .inl (ct 1, 1, .inr (.inl fo)))) (c' := (h3, .inl (ct 1, 1, .inr (.inl (zou fo (xs (7 * t + 1)) (xs (7 * t + 2)) (xs (7 * t + 3))))))) 195 247 l195 l247 (by decide) rfl (vx_runSX (As := [.ref (y 195), .int (xs (7 * t + 1)), .int (xs (7 * t + 2)), .int (xs (7 * t + 3)), .ref h3]) (rest := []) ⟨hx, hb, hml, hown, htB⟩ (c_restsL l hst D ct (y 195) h3 [.ref (y 196), .ref (y 171), .ref (y 183), .ref (y 198), .ref (y 138), .ref (y 142), .ref (y 199), .ref (y 200), .ref (y 6), .ref (y 12), .ref (y 162), .ref (y 205), .ref (y 206), .int (r 195 13), .int (r 195 14)] fo (xs (7 * t + 1)) (xs (7 * t + 2)) (xs (7 * t + 3)) sa sb H.size) (vx_cwSW (hh := [(0, 12, 15, 13)]) 5 htB gL_law_L_rests rfl rfl rfl (by decide +kernel) ⟨Nat.le_of_ble_eq_true rfl, Nat.le_of_ble_eq_true rfl⟩) (zprexS hK hw hS hA hX9 hN [195, 247] rfl (ktwo l195 l247)) rfl rfl hl.1 rfl (lv_room (Nat.le_of_ble_eq_true rfl)) dL_law_1119 (lroom1 hcs)) hw hS hA 1122 rfl (fun _ h => h) (fun _ H locs _ hw hS => ?_)
  rw [ls247] at hw
  refine zfr 1122 [.int (zth (xs (7 * t + 1)) (xs (7 * t + 2)) (xs (7 * t + 3)))] rfl rfl ?_
  refine lv_istore (lv' := [(5, .int (zth (xs (7 * t + 1)) (xs (7 * t + 2)) (xs (7 * t + 3)))), (4, .int (nI (7 * t))), (3, .ref h3), (2, .ref h2), (1, .ref (y 195)), (0, .ref b)]) hx hb dL_law_1122 hl (by decide) rfl (fun ls hl => ?_)
  refine lv_aload_n hx hb dL_law_1124 rfl (lv_at hl 3 rfl) ?_
  refine lv_aload_n hx hb dL_law_1125 rfl (lv_at hl 5 rfl) ?_
  refine lv_iload hx hb dL_law_1126 (lv_at hl 1 rfl) ?_
  refine lv_iconst (v := 1) hx hb dL_law_1128 (by decide) ?_
  refine lv_iadd hx hb dL_law_1129 (ztop (.int (nI (7 * t + 1))) (congrArg Value.int (nI_add _ 1)) ?_)
  refine va_sld hx hb hX hbl hbA hS (zix (k := 7 * t + 1) rfl (by omega) (by omega)).1 dL_law_1130 (ztop (.int (xs (7 * t + 1))) (congrArg Value.int (congrArg xs (nI_clamp (by omega)))) ?_)
  refine lv_aload_n hx hb dL_law_1131 rfl (lv_at hl 5 rfl) ?_
  refine lv_iload hx hb dL_law_1132 (lv_at hl 1 rfl) ?_
  refine lv_iconst (v := 2) hx hb dL_law_1134 (by decide) ?_
  refine lv_iadd hx hb dL_law_1135 (ztop (.int (nI (7 * t + 2))) (congrArg Value.int (nI_add _ 2)) ?_)
  refine va_sld hx hb hX hbl hbA hS (zix (k := 7 * t + 2) rfl (by omega) (by omega)).1 dL_law_1136 (ztop (.int (xs (7 * t + 2))) (congrArg Value.int (congrArg xs (nI_clamp (by omega)))) ?_)
  refine lv_aload_n hx hb dL_law_1137 rfl (lv_at hl 5 rfl) ?_
  refine lv_iload hx hb dL_law_1138 (lv_at hl 1 rfl) ?_
  refine lv_iconst (v := 3) hx hb dL_law_1140 (by decide) ?_
  refine lv_iadd hx hb dL_law_1141 (ztop (.int (nI (7 * t + 3))) (congrArg Value.int (nI_add _ 3)) ?_)
  refine va_sld hx hb hX hbl hbA hS (zix (k := 7 * t + 3) rfl (by omega) (by omega)).1 dL_law_1142 (ztop (.int (xs (7 * t + 3))) (congrArg Value.int (congrArg xs (nI_clamp (by omega)))) ?_)
  refine lcell (x := (h2, .inr (11, mF ym rm qm))) (c' := (h2, .inr (11, (mF ym rm qm).set 0 (.int (zth (xs (7 * t + 1)) (xs (7 * t + 2)) (xs (7 * t + 3))))))) 207 l207 rfl (va_runV (As := [.int (xs (7 * t + 1)), .int (xs (7 * t + 2)), .int (xs (7 * t + 3))]) (rest := []) ⟨hx, hb, hml, hown, htl⟩ (r_rests l D ct h2 ym (rm 100 0) (rm 101 0) (rm 103 0) (rm 104 0) (rm 105 0) (rm 106 0) (qm 107 0) (rm 108 0) (rm 109 0) (rm 122 0) (rm 123 0) (rm 136 0) (qm 137 0) (rm 151 0) (rm 152 0) (qm 154 0) (rm 155 0) (rm 156 0) (xs (7 * t + 1)) (xs (7 * t + 2)) (xs (7 * t + 3)) H.size) (cwV 3 htl (klVm (zr54 16 rfl) (zr54 17 rfl) (zr54 18 rfl) (zr1 5 rfl) mL_X12_rests) rfl rfl rfl (by decide +kernel) ⟨Nat.le_of_ble_eq_true rfl, Nat.le_of_ble_eq_true rfl⟩) (zpreV hK hw hS hA zZ.nil hN [207] rfl (kone l207) 11 207 rfl l207) rfl rfl hl.1 rfl (lv_room (Nat.le_of_ble_eq_true rfl)) dL_law_1143 (lroom2 hcs)) hw hS hA 1146 rfl (fun _ H locs _ hw hS => ?_)
  rw [ls207] at hw
  have hM1 : mJ 20 (zset rm 100 (fun _ => zth (xs (7 * t + 1)) (xs (7 * t + 2)) (xs (7 * t + 3)))) := hM.setc rfl (fun _ => zI.top _)
  refine zfr 1146 [.int (zrv (xs (7 * t + 1)) (xs (7 * t + 2)) (xs (7 * t + 3)))] rfl rfl ?_
  refine lv_istore (lv' := [(6, .int (zrv (xs (7 * t + 1)) (xs (7 * t + 2)) (xs (7 * t + 3)))), (5, .int (zth (xs (7 * t + 1)) (xs (7 * t + 2)) (xs (7 * t + 3)))), (4, .int (nI (7 * t))), (3, .ref h3), (2, .ref h2), (1, .ref (y 195)), (0, .ref b)]) hx hb dL_law_1146 hl (by decide) rfl (fun ls hl => ?_)
  refine lv_goto (tgt := 1278) hx hb dL_law_1148 (by decide) ?_
  exact kk r q (zset rm 100 (fun _ => zth (xs (7 * t + 1)) (xs (7 * t + 2)) (xs (7 * t + 3)))) qm (zou fo (xs (7 * t + 1)) (xs (7 * t + 2)) (xs (7 * t + 3))) (cells + 1) (slots + 6) hJ hM1 hT (Nat.le_refl _) (Nat.le_refl _) H locs ls hw hS (lv_sub hl [2, 3, 4, 5, 6] rfl)
