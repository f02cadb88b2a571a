noncomputable def Gk_has (a0 : Int32) (a1 : Int32) : Int32 :=
  zlet (α := Int32) (a0 >>> (a1 &&& 31)) <| fun v1 => zlet (α := Int32) (v1 &&& 1) <| fun v2 => zif (v2 = (0 : Int32)) ((0 : Int32)) ((1 : Int32))
noncomputable def Gk_isLetter (a0 : Int32) : Int32 :=
  zif (a0 < (97 : Int32)) ((0 : Int32)) (zif ((122 : Int32) < a0) ((0 : Int32)) ((1 : Int32)))
noncomputable def Gk_isDigit (a0 : Int32) : Int32 :=
  zif (a0 < (48 : Int32)) ((0 : Int32)) (zif ((57 : Int32) < a0) ((0 : Int32)) ((1 : Int32)))
noncomputable def Gk_coder (a0 : Nat) : Int32 :=
  (0 : Int32)
noncomputable def Gk_isLatin1 (a0 : Nat) : Int32 :=
  (1 : Int32)
noncomputable def Gk_length (a0 : Nat) : Int32 :=
  zlet (α := Int32) ((Gk_coder a0)) <| fun u3 => (nI (eL.getD a0 0)) >>> (u3 &&& 31)
noncomputable def Gk_charAt1 (a0 : Nat) (a1 : Int32) : Int32 :=
  zlet (α := Int32) ((eB.getD a0 []).getD a1.toNatClampNeg 0) <| fun v4 => zlet (α := Int32) (v4 &&& 255) <| fun v5 => zlet (α := Int32) ((v5.toUInt32 % 65536).toInt32) <| fun v6 => v6
noncomputable def Gk_charAt (a0 : Nat) (a1 : Int32) : Int32 :=
  zlet (α := Int32) ((Gk_isLatin1 a0)) <| fun u1 => zif (u1 = (0 : Int32)) (default) (zlet (α := Int32) ((Gk_charAt1 a0 a1)) <| fun u4 => u4)
noncomputable def Bk_spells_20 (a1 : Nat) (r : zRr) (ih20 : Int32 → Int32) (w20_2 : Int32) : Int32 :=
  zlet (α := Int32) ((Gk_length a1)) <| fun u1 => zif (u1 ≤ w20_2) ((1 : Int32)) (zif ((r 196 1) ≤ ((r 196 2) + w20_2)) ((1 : Int32)) (zlet (α := Int32) (r 197 (zn ((r 196 2) + w20_2))) <| fun v10 => zlet (α := Int32) ((Gk_charAt a1 w20_2)) <| fun u11 => zif (v10 = u11) (ih20 (w20_2 + 1)) ((0 : Int32))))
noncomputable def Gk_spells_20 (a1 : Nat) (r : zRr) (n : Nat) : Int32 → Int32 :=
  Nat.rec (motive := fun _ => Int32 → Int32) (fun _ => default) (fun _ ih => Bk_spells_20 a1 r ih) n
noncomputable def Gk_spells (a1 : Nat) (r : zRr) (q : zRq) : Int32 :=
  zlet (α := Int32) ((r 196 3) - (r 196 2)) <| fun v15 => zlet (α := Int32) ((Gk_length a1)) <| fun u16 => zif (v15 = u16) (Gk_spells_20 a1 r 9 0) ((0 : Int32))
noncomputable def Bk_sortAs_2 (r : zRr) (q : zRq) (ih2 : Int32 → Int32 → Int32) (w2_1 : Int32) (w2_2 : Int32) : Int32 :=
  zif ((33 : Int32) ≤ w2_2) (w2_1) (zlet (α := Int32) ((Gk_spells (zn w2_2) r q)) <| fun u4 => zif (u4 = (0 : Int32)) (ih2 w2_1 (w2_2 + 1)) (w2_2))
noncomputable def Gk_sortAs_2 (r : zRr) (q : zRq) (n : Nat) : Int32 → Int32 → Int32 :=
  Nat.rec (motive := fun _ => Int32 → Int32 → Int32) (fun _ _ => default) (fun _ ih => Bk_sortAs_2 r q ih) n
noncomputable def Gk_sortAs (a1 : Int32) (r : zRr) (q : zRq) : Int32 :=
  Gk_sortAs_2 r q 34 a1 0
noncomputable def Gk_wrong (a1 : Int32) (r : zRr) (q : zRq) : Int32 × zRr :=
  zlet (α := Int32) (r 196 2) <| fun v1 => zlet (α := Int32) (16 * v1) <| fun v2 => zlet (α := Int32) (a1 + v2) <| fun v3 => zlet (α := zRr) ((zset r 196 (upd (r 196) 7 v3))) <| fun r4 => ((0 : Int32), r4)
noncomputable def Bk_stepOverWord_5 (ih5 : zRr → zRq → (zRr × zRq)) (rw5 : zRr) (qw5 : zRq) : zRr × zRq :=
  zif ((rw5 196 1) ≤ (rw5 196 3)) ((rw5, qw5)) (zlet (α := Int32) (rw5 197 (zn (rw5 196 3))) <| fun v4 => zlet (α := Int32) ((Gk_isLetter v4)) <| fun u5 => zif (u5 = (0 : Int32)) ((rw5, qw5)) (zlet (α := Int64) (qw5 196 6) <| fun v10 => zlet (α := Int64) (v10 <<< ((5 : Int32).toInt64 &&& 63)) <| fun v11 => zlet (α := Int32) (rw5 197 (zn (rw5 196 3))) <| fun v12 => zlet (α := Int32) (v12 - 97) <| fun v13 => zlet (α := Int32) (v13 + 1) <| fun v14 => zlet (α := Int64) (v14.toInt64) <| fun v15 => zlet (α := Int64) (v11 ||| v15) <| fun v16 => zlet (α := zRq) (zset qw5 196 (vp_updL (qw5 196) 6 v16)) <| fun q17 => zlet (α := zRr) ((zset rw5 196 (upd (rw5 196) 3 ((rw5 196 3) + 1)))) <| fun r19 => ih5 r19 q17))
noncomputable def Gk_stepOverWord_5 (n : Nat) : zRr → zRq → (zRr × zRq) :=
  Nat.rec (motive := fun _ => zRr → zRq → (zRr × zRq)) (fun rw5 qw5 => (rw5, qw5)) (fun _ ih => Bk_stepOverWord_5 ih) n
noncomputable def Gk_stepOverWord (r : zRr) (q : zRq) : zRr × zRq :=
  zlet (α := zRq) (zset q 196 (vp_updL (q 196) 6 (0 : Int64))) <| fun q20 => Gk_stepOverWord_5 1001 r q20
noncomputable def Bk_stepOverNumber_5 (ih5 : zRr → zRr) (rw5 : zRr) : zRr :=
  zif ((rw5 196 1) ≤ (rw5 196 3)) (rw5) (zlet (α := Int32) (rw5 197 (zn (rw5 196 3))) <| fun v4 => zlet (α := Int32) ((Gk_isDigit v4)) <| fun u5 => zif (u5 = (0 : Int32)) (rw5) (zlet (α := Int32) (rw5 196 5) <| fun v10 => zlet (α := Int32) (v10 * 10) <| fun v11 => zlet (α := Int32) (rw5 197 (zn (rw5 196 3))) <| fun v12 => zlet (α := Int32) (v12 - 48) <| fun v13 => zlet (α := Int32) (v11 + v13) <| fun v14 => zlet (α := zRr) ((zset rw5 196 (upd (rw5 196) 5 v14))) <| fun r15 => zlet (α := zRr) ((zset r15 196 (upd (r15 196) 3 ((r15 196 3) + 1)))) <| fun r17 => ih5 r17))
noncomputable def Gk_stepOverNumber_5 (n : Nat) : zRr → zRr :=
  Nat.rec (motive := fun _ => zRr → zRr) (fun rw5 => rw5) (fun _ ih => Bk_stepOverNumber_5 ih) n
noncomputable def Gk_stepOverNumber (r : zRr) (q : zRq) : zRr :=
  zlet (α := zRr) ((zset r 196 (upd (r 196) 5 (0 : Int32)))) <| fun r18 => Gk_stepOverNumber_5 1001 r18
noncomputable def Gk_step_176 (q : zRq) (w176_s0 : Int32) (rw176 : zRr) : zRr × zRq :=
  zlet (α := zRr) ((zset rw176 196 (upd (rw176 196) 4 w176_s0))) <| fun r1 => (r1, q)
noncomputable def Gk_step_128 (w128_s0 : Int32) (rw128 : zRr) (qw128 : zRq) : zRr × zRq :=
  zlet (α := zRr) ((zset rw128 196 (upd (rw128 196) 4 w128_s0))) <| fun r2 => (r2, qw128)
noncomputable def Gk_step_52 (q : zRq) (rw52 : zRr) : zRr × zRq :=
  zlet (α := zRr) ((zset rw52 196 (upd (rw52 196) 2 (rw52 196 3)))) <| fun r3 => zif ((r3 196 3) < (r3 196 1)) (zlet (α := Int32) (r3 197 (zn (r3 196 3))) <| fun v7 => zlet (α := Int32) ((Gk_isLetter v7)) <| fun u8 => zif (u8 = (0 : Int32)) (zlet (α := Int32) (r3 197 (zn (r3 196 3))) <| fun v12 => zlet (α := Int32) ((Gk_isDigit v12)) <| fun u13 => zif (u13 = (0 : Int32)) (zlet (α := zRr) ((zset r3 196 (upd (r3 196) 3 ((r3 196 3) + 1)))) <| fun r18 => zlet (α := Int32) ((Gk_sortAs 32 r18 q)) <| fun u19 => zlet (α := zRr) ((zset r18 196 (upd (r18 196) 4 u19))) <| fun r21 => (r21, q)) (zlet (α := zRr) ((Gk_stepOverNumber r3 q)) <| fun u23 => zlet (α := Int32) (u23 196 2) <| fun v25 => zlet (α := Int32) ((u23 196 3) - v25) <| fun v26 => zif (v26 ≤ (4 : Int32)) (Gk_step_176 q 30 u23) (Gk_step_176 q 32 u23))) (zc_rq (Gk_stepOverWord r3 q) <| fun r32 q33 => zlet (α := Int32) (r32 196 2) <| fun v34 => zlet (α := Int32) ((r32 196 3) - v34) <| fun v35 => zif (v35 ≤ (8 : Int32)) (zlet (α := Int32) ((Gk_sortAs 29 r32 q33)) <| fun u38 => Gk_step_128 u38 r32 q33) (Gk_step_128 32 r32 q33))) (zlet (α := zRr) ((zset r3 196 (upd (r3 196) 4 (31 : Int32)))) <| fun r41 => (r41, q))
noncomputable def Gk_step_39 (rw0 : zRr) (ih0 : zRr → (zRr × zRq)) : zRr × zRq :=
  zlet (α := zRr) ((zset rw0 196 (upd (rw0 196) 3 ((rw0 196 3) + 1)))) <| fun r43 => ih0 r43
noncomputable def Bk_step_0 (q : zRq) (ih0 : zRr → (zRr × zRq)) (rw0 : zRr) : zRr × zRq :=
  zif ((rw0 196 1) ≤ (rw0 196 3)) (Gk_step_52 q rw0) (zlet (α := Int32) (rw0 197 (zn (rw0 196 3))) <| fun v47 => zif (v47 = (32 : Int32)) (Gk_step_39 rw0 ih0 ) (zlet (α := Int32) (rw0 197 (zn (rw0 196 3))) <| fun v50 => zifn (v50 = (10 : Int32)) (Gk_step_52 q rw0) (Gk_step_39 rw0 ih0 )))
noncomputable def Gk_step_0 (q : zRq) (n : Nat) : zRr → (zRr × zRq) :=
  Nat.rec (motive := fun _ => zRr → (zRr × zRq)) (fun rw0 => (rw0, q)) (fun _ ih => Bk_step_0 q ih) n
noncomputable def Gk_step (r : zRr) (q : zRq) : zRr × zRq :=
  Gk_step_0 q 1001 r
noncomputable def Gk_begin (r : zRr) (q : zRq) : zRr × zRq :=
  zlet (α := zRr) ((zset r 196 (upd (r 196) 3 (0 : Int32)))) <| fun r1 => zlet (α := zRr) ((zset r1 196 (upd (r1 196) 7 (0 : Int32)))) <| fun r2 => zc_rq (Gk_step r2 q) <| fun r4 q5 => (r4, q5)
noncomputable def Gk_take (a1 : Int32) (r : zRr) (q : zRq) : Int32 × zRr × zRq :=
  zlet (α := Int32) (r 196 4) <| fun v1 => zif (v1 = a1) (zc_rq (Gk_step r q) <| fun r4 q5 => ((1 : Int32), r4, q5)) (zc_vr (Gk_wrong (1 : Int32) r q) <| fun v7 r8 => (v7, r8, q))
noncomputable def Gk_takeNumber_26 (r : zRr) (q : zRq) : Int32 × zRr × zRq :=
  zlet (α := Int32) (r 196 4) <| fun v1 => zif (v1 = (30 : Int32)) (zc_vr (Gk_wrong (4 : Int32) r q) <| fun v4 r5 => (((-1) : Int32), r5, q)) (zc_vr (Gk_wrong (1 : Int32) r q) <| fun v7 r8 => (((-1) : Int32), r8, q))
noncomputable def Gk_takeNumber (a1 : Int32) (a2 : Int32) (r : zRr) (q : zRq) : Int32 × zRr × zRq :=
  zlet (α := Int32) (r 196 4) <| fun v9 => zifn (v9 = (30 : Int32)) (Gk_takeNumber_26 r q ) (zlet (α := Int32) (r 196 5) <| fun v11 => zif (v11 < a1) (Gk_takeNumber_26 r q ) (zlet (α := Int32) (r 196 5) <| fun v13 => zif (v13 ≤ a2) (zlet (α := Int32) (r 196 5) <| fun v15 => zc_rq (Gk_step r q) <| fun r17 q18 => (v15, r17, q18)) (Gk_takeNumber_26 r q )))
noncomputable def Bk_townNamed_2 (a1 : Int64) (r : zRr) (q : zRq) (ih2 : Int32 → Int32) (w2_3 : Int32) : Int32 :=
  zlet (α := Int32) (r 171 9) <| fun v1 => zif (v1 ≤ w2_3) (((-1) : Int32)) (zlet (α := Int64) (q 174 (zn w2_3)) <| fun v5 => zlet (α := Int32) (lg_cmp v5 a1) <| fun v6 => zifn (v6 = (0 : Int32)) (ih2 (w2_3 + 1)) (w2_3))
noncomputable def Gk_townNamed_2 (a1 : Int64) (r : zRr) (q : zRq) (n : Nat) : Int32 → Int32 :=
  Nat.rec (motive := fun _ => Int32 → Int32) (fun _ => default) (fun _ ih => Bk_townNamed_2 a1 r q ih) n
noncomputable def Gk_townNamed (a1 : Int64) (r : zRr) (q : zRq) : Int32 :=
  Gk_townNamed_2 a1 r q 7 0
noncomputable def Gk_townHere_44 (r : zRr) (q : zRq) (w44_2 : Int32) (w44_s0 : Int32) : Int32 × zRr :=
  zc_vr (Gk_wrong w44_s0 r q) <| fun v2 r3 => (w44_2, r3)
noncomputable def Gk_townHere_22 (r : zRr) (q : zRq) (w22_s0 : Int32) : Int32 × zRr :=
  zifn (w22_s0 = ((-1) : Int32)) ((w22_s0, r)) (zlet (α := Int32) (r 196 4) <| fun v7 => zifn (v7 = (29 : Int32)) (Gk_townHere_44 r q w22_s0 1) (Gk_townHere_44 r q w22_s0 2))
noncomputable def Gk_townHere (r : zRr) (q : zRq) : Int32 × zRr :=
  zlet (α := Int32) (r 196 4) <| fun v9 => zifn (v9 = (29 : Int32)) (Gk_townHere_22 r q (-1)) (zlet (α := Int64) (q 196 6) <| fun v11 => zlet (α := Int32) ((Gk_townNamed v11 r q)) <| fun u12 => Gk_townHere_22 r q u12)
noncomputable def Bk_personNamed_2 (a1 : Int64) (r : zRr) (q : zRq) (ih2 : Int32 → Int32) (w2_3 : Int32) : Int32 :=
  zlet (α := Int32) (r 171 10) <| fun v1 => zif (v1 ≤ w2_3) (((-1) : Int32)) (zlet (α := Int64) (q 179 (zn w2_3)) <| fun v5 => zlet (α := Int32) (lg_cmp v5 a1) <| fun v6 => zifn (v6 = (0 : Int32)) (ih2 (w2_3 + 1)) (w2_3))
noncomputable def Gk_personNamed_2 (a1 : Int64) (r : zRr) (q : zRq) (n : Nat) : Int32 → Int32 :=
  Nat.rec (motive := fun _ => Int32 → Int32) (fun _ => default) (fun _ ih => Bk_personNamed_2 a1 r q ih) n
noncomputable def Gk_personNamed (a1 : Int64) (r : zRr) (q : zRq) : Int32 :=
  Gk_personNamed_2 a1 r q 7 0
noncomputable def Gk_personHere_44 (r : zRr) (q : zRq) (w44_2 : Int32) (w44_s0 : Int32) : Int32 × zRr :=
  zc_vr (Gk_wrong w44_s0 r q) <| fun v2 r3 => (w44_2, r3)
noncomputable def Gk_personHere_22 (r : zRr) (q : zRq) (w22_s0 : Int32) : Int32 × zRr :=
  zifn (w22_s0 = ((-1) : Int32)) ((w22_s0, r)) (zlet (α := Int32) (r 196 4) <| fun v7 => zifn (v7 = (29 : Int32)) (Gk_personHere_44 r q w22_s0 1) (Gk_personHere_44 r q w22_s0 2))
noncomputable def Gk_personHere (r : zRr) (q : zRq) : Int32 × zRr :=
  zlet (α := Int32) (r 196 4) <| fun v9 => zifn (v9 = (29 : Int32)) (Gk_personHere_22 r q (-1)) (zlet (α := Int64) (q 196 6) <| fun v11 => zlet (α := Int32) ((Gk_personNamed v11 r q)) <| fun u12 => Gk_personHere_22 r q u12)
noncomputable def Bk_townNamedD_2 (a1 : Int64) (r : zRr) (q : zRq) (ih2 : Int32 → Int32) (w2_3 : Int32) : Int32 :=
  zlet (α := Int32) (r 183 9) <| fun v1 => zif (v1 ≤ w2_3) (((-1) : Int32)) (zlet (α := Int64) (q 186 (zn w2_3)) <| fun v5 => zlet (α := Int32) (lg_cmp v5 a1) <| fun v6 => zifn (v6 = (0 : Int32)) (ih2 (w2_3 + 1)) (w2_3))
noncomputable def Gk_townNamedD_2 (a1 : Int64) (r : zRr) (q : zRq) (n : Nat) : Int32 → Int32 :=
  Nat.rec (motive := fun _ => Int32 → Int32) (fun _ => default) (fun _ ih => Bk_townNamedD_2 a1 r q ih) n
noncomputable def Gk_townNamedD (a1 : Int64) (r : zRr) (q : zRq) : Int32 :=
  Gk_townNamedD_2 a1 r q 7 0
noncomputable def Gk_townHereD_44 (r : zRr) (q : zRq) (w44_2 : Int32) (w44_s0 : Int32) : Int32 × zRr :=
  zc_vr (Gk_wrong w44_s0 r q) <| fun v2 r3 => (w44_2, r3)
noncomputable def Gk_townHereD_22 (r : zRr) (q : zRq) (w22_s0 : Int32) : Int32 × zRr :=
  zifn (w22_s0 = ((-1) : Int32)) ((w22_s0, r)) (zlet (α := Int32) (r 196 4) <| fun v7 => zifn (v7 = (29 : Int32)) (Gk_townHereD_44 r q w22_s0 1) (Gk_townHereD_44 r q w22_s0 2))
noncomputable def Gk_townHereD (r : zRr) (q : zRq) : Int32 × zRr :=
  zlet (α := Int32) (r 196 4) <| fun v9 => zifn (v9 = (29 : Int32)) (Gk_townHereD_22 r q (-1)) (zlet (α := Int64) (q 196 6) <| fun v11 => zlet (α := Int32) ((Gk_townNamedD v11 r q)) <| fun u12 => Gk_townHereD_22 r q u12)
noncomputable def Bk_personNamedD_2 (a1 : Int64) (r : zRr) (q : zRq) (ih2 : Int32 → Int32) (w2_3 : Int32) : Int32 :=
  zlet (α := Int32) (r 183 10) <| fun v1 => zif (v1 ≤ w2_3) (((-1) : Int32)) (zlet (α := Int64) (q 191 (zn w2_3)) <| fun v5 => zlet (α := Int32) (lg_cmp v5 a1) <| fun v6 => zifn (v6 = (0 : Int32)) (ih2 (w2_3 + 1)) (w2_3))
noncomputable def Gk_personNamedD_2 (a1 : Int64) (r : zRr) (q : zRq) (n : Nat) : Int32 → Int32 :=
  Nat.rec (motive := fun _ => Int32 → Int32) (fun _ => default) (fun _ ih => Bk_personNamedD_2 a1 r q ih) n
noncomputable def Gk_personNamedD (a1 : Int64) (r : zRr) (q : zRq) : Int32 :=
  Gk_personNamedD_2 a1 r q 7 0
noncomputable def Gk_add (a1 : Int32) (r : zRr) (q : zRq) : zRr :=
  zif ((1000 : Int32) ≤ (r 192 2)) (r) (zlet (α := zRr) (zset r 193 (upd (r 193) (zn (r 192 2)) a1)) <| fun r4 => zlet (α := zRr) ((zset r4 192 (upd (r4 192) 2 ((r4 192 2) + 1)))) <| fun r6 => r6)
noncomputable def Gk_untold (r : zRr) (q : zRq) : zRr :=
  zlet (α := zRr) ((zset r 192 (upd (r 192) 2 (0 : Int32)))) <| fun r1 => zlet (α := zRr) ((Gk_add ((-1) : Int32) r1 q)) <| fun u2 => zlet (α := zRr) ((Gk_add ((-3) : Int32) u2 q)) <| fun u4 => zlet (α := zRr) ((Gk_add ((-8) : Int32) u4 q)) <| fun u6 => zlet (α := zRr) ((Gk_add ((-5) : Int32) u6 q)) <| fun u8 => u8
noncomputable def Gk_valueHere (r : zRr) (q : zRq) : Int32 :=
  zlet (α := Int32) (r 196 4) <| fun v1 => zifn (v1 = (30 : Int32)) (zlet (α := Int32) (r 196 4) <| fun v3 => zif (v3 = (29 : Int32)) (zlet (α := Int32) ((Gk_spells 33 r q)) <| fun u5 => zif (u5 = (0 : Int32)) (zlet (α := Int32) ((Gk_spells 34 r q)) <| fun u9 => zif (u9 = (0 : Int32)) (zlet (α := Int32) ((Gk_spells 35 r q)) <| fun u13 => zif (u13 = (0 : Int32)) (zlet (α := Int32) ((Gk_spells 36 r q)) <| fun u17 => zif (u17 = (0 : Int32)) (((-13) : Int32)) (((-4) : Int32))) (((-3) : Int32))) (((-2) : Int32))) (((-1) : Int32))) (((-13) : Int32))) (zlet (α := Int32) (r 196 5) <| fun v25 => v25)
noncomputable def Gk_readPart5_66 (r : zRr) (q : zRq) (w66_3 : Int32) (w66_4 : Int32) (w66_5 : Int32) : Int32 × zRr × zRq :=
  zc_vr (Gk_wrong (5 : Int32) r q) <| fun v3 r4 => (v3, r4, q)
noncomputable def Gk_readPart5_47 (r : zRr) (q : zRq) (w47_3 : Int32) (w47_4 : Int32) (w47_s0 : Int32) : Int32 × zRr × zRq :=
  zifn (w47_3 = (0 : Int32)) (Gk_readPart5_66 r q w47_3 w47_4 w47_s0) (zifn (w47_s0 = ((-13) : Int32)) (Gk_readPart5_66 r q w47_3 w47_4 w47_s0) (zc_vr (Gk_wrong (1 : Int32) r q) <| fun v11 r12 => (v11, r12, q)))
noncomputable def Gk_readPart5_31 (r : zRr) (q : zRq) (w31_3 : Int32) (w31_s0 : Int32) : Int32 × zRr × zRq :=
  zif (w31_s0 = (0 : Int32)) (zlet (α := Int32) ((Gk_valueHere r q)) <| fun u15 => Gk_readPart5_47 r q w31_3 w31_s0 u15) (Gk_readPart5_47 r q w31_3 w31_s0 (-5))
noncomputable def Gk_readPart5_15 (r : zRr) (q : zRq) (w15_s0 : Int32) : Int32 × zRr × zRq :=
  zlet (α := Int32) (r 196 4) <| fun v18 => zifn (v18 = (18 : Int32)) (Gk_readPart5_31 r q w15_s0 0) (Gk_readPart5_31 r q w15_s0 1)
noncomputable def Gk_readPart5 (r : zRr) (q : zRq) : Int32 × zRr × zRq :=
  zlet (α := Int32) (r 196 4) <| fun v20 => zifn (v20 = (21 : Int32)) (Gk_readPart5_15 r q 0) (Gk_readPart5_15 r q 1)
noncomputable def Bk_readProduct5_13 (ih13 : Int32 → zRr → zRq → (Int32 × zRr × zRq)) (w13_3 : Int32) (rw13 : zRr) (qw13 : zRq) : Int32 × zRr × zRq :=
  zif ((1000 : Int32) ≤ w13_3) (((1 : Int32), rw13, qw13)) (zlet (α := Int32) (rw13 196 4) <| fun v4 => zifn (v4 = (27 : Int32)) (((1 : Int32), rw13, qw13)) (zc_rq (Gk_step rw13 qw13) <| fun r7 q8 => zc_vrq (Gk_readPart5 r7 q8) <| fun v10 r11 q12 => zifn (v10 = (0 : Int32)) (zlet (α := zRr) ((Gk_add ((-12) : Int32) r11 q12)) <| fun u15 => ih13 (w13_3 + 1) u15 q12) (((0 : Int32), r11, q12))))
noncomputable def Gk_readProduct5_13 (n : Nat) : Int32 → zRr → zRq → (Int32 × zRr × zRq) :=
  Nat.rec (motive := fun _ => Int32 → zRr → zRq → (Int32 × zRr × zRq)) (fun _ rw13 qw13 => (default, rw13, qw13)) (fun _ ih => Bk_readProduct5_13 ih) n
noncomputable def Gk_readProduct5 (r : zRr) (q : zRq) : Int32 × zRr × zRq :=
  zc_vrq (Gk_readPart5 r q) <| fun v20 r21 q22 => zifn (v20 = (0 : Int32)) (Gk_readProduct5_13 1001 0 r21 q22) (((0 : Int32), r21, q22))
noncomputable def Gk_readSum5_57 (w13_3 : Int32) (rw13 : zRr) (qw13 : zRq) (ih13 : Int32 → zRr → zRq → (Int32 × zRr × zRq)) (w57_s0 : Int32) : Int32 × zRr × zRq :=
  zc_rq (Gk_step rw13 qw13) <| fun r2 q3 => zc_vrq (Gk_readProduct5 r2 q3) <| fun v5 r6 q7 => zifn (v5 = (0 : Int32)) (zlet (α := zRr) ((Gk_add w57_s0 r6 q7)) <| fun u10 => ih13 (w13_3 + 1) u10 q7) (((0 : Int32), r6, q7))
noncomputable def Gk_readSum5_40 (w13_3 : Int32) (rw13 : zRr) (qw13 : zRq) (ih13 : Int32 → zRr → zRq → (Int32 × zRr × zRq)) : Int32 × zRr × zRq :=
  zlet (α := Int32) (rw13 196 4) <| fun v14 => zifn (v14 = (25 : Int32)) (Gk_readSum5_57 w13_3 rw13 qw13 ih13 (-11)) (Gk_readSum5_57 w13_3 rw13 qw13 ih13 (-10))
noncomputable def Bk_readSum5_13 (ih13 : Int32 → zRr → zRq → (Int32 × zRr × zRq)) (w13_3 : Int32) (rw13 : zRr) (qw13 : zRq) : Int32 × zRr × zRq :=
  zif ((1000 : Int32) ≤ w13_3) (((1 : Int32), rw13, qw13)) (zlet (α := Int32) (rw13 196 4) <| fun v19 => zif (v19 = (25 : Int32)) (Gk_readSum5_40 w13_3 rw13 qw13 ih13 ) (zlet (α := Int32) (rw13 196 4) <| fun v21 => zifn (v21 = (26 : Int32)) (((1 : Int32), rw13, qw13)) (Gk_readSum5_40 w13_3 rw13 qw13 ih13 )))
noncomputable def Gk_readSum5_13 (n : Nat) : Int32 → zRr → zRq → (Int32 × zRr × zRq) :=
  Nat.rec (motive := fun _ => Int32 → zRr → zRq → (Int32 × zRr × zRq)) (fun _ rw13 qw13 => (default, rw13, qw13)) (fun _ ih => Bk_readSum5_13 ih) n
noncomputable def Gk_readSum5 (r : zRr) (q : zRq) : Int32 × zRr × zRq :=
  zc_vrq (Gk_readProduct5 r q) <| fun v24 r25 q26 => zifn (v24 = (0 : Int32)) (Gk_readSum5_13 1001 0 r25 q26) (((0 : Int32), r25, q26))
noncomputable def Gk_readTest5_50 (w50_s0 : Int32) (rw50 : zRr) (qw50 : zRq) : Int32 × zRr × zRq :=
  zc_rq (Gk_step rw50 qw50) <| fun r2 q3 => zc_vrq (Gk_readSum5 r2 q3) <| fun v5 r6 q7 => zifn (v5 = (0 : Int32)) (zlet (α := zRr) ((Gk_add w50_s0 r6 q7)) <| fun u10 => ((1 : Int32), u10, q7)) (((0 : Int32), r6, q7))
noncomputable def Gk_readTest5_33 (rw33 : zRr) (qw33 : zRq) : Int32 × zRr × zRq :=
  zlet (α := Int32) (rw33 196 4) <| fun v13 => zifn (v13 = (23 : Int32)) (Gk_readTest5_50 (-9) rw33 qw33) (Gk_readTest5_50 (-8) rw33 qw33)
noncomputable def Gk_readTest5 (r : zRr) (q : zRq) : Int32 × zRr × zRq :=
  zc_vrq (Gk_readSum5 r q) <| fun v16 r17 q18 => zifn (v16 = (0 : Int32)) (zlet (α := Int32) (r17 196 4) <| fun v21 => zif (v21 = (23 : Int32)) (Gk_readTest5_33 r17 q18) (zlet (α := Int32) (r17 196 4) <| fun v23 => zif (v23 = (24 : Int32)) (Gk_readTest5_33 r17 q18) (((1 : Int32), r17, q18)))) (((0 : Int32), r17, q18))
noncomputable def Gk_readWhole5_57 (w13_3 : Int32) (rw13 : zRr) (qw13 : zRq) (ih13 : Int32 → zRr → zRq → (Int32 × zRr × zRq)) (w57_s0 : Int32) : Int32 × zRr × zRq :=
  zc_rq (Gk_step rw13 qw13) <| fun r2 q3 => zc_vrq (Gk_readTest5 r2 q3) <| fun v5 r6 q7 => zifn (v5 = (0 : Int32)) (zlet (α := zRr) ((Gk_add w57_s0 r6 q7)) <| fun u10 => ih13 (w13_3 + 1) u10 q7) (((0 : Int32), r6, q7))
noncomputable def Gk_readWhole5_40 (w13_3 : Int32) (rw13 : zRr) (qw13 : zRq) (ih13 : Int32 → zRr → zRq → (Int32 × zRr × zRq)) : Int32 × zRr × zRq :=
  zlet (α := Int32) (rw13 196 4) <| fun v14 => zifn (v14 = (19 : Int32)) (Gk_readWhole5_57 w13_3 rw13 qw13 ih13 (-7)) (Gk_readWhole5_57 w13_3 rw13 qw13 ih13 (-6))
noncomputable def Bk_readWhole5_13 (ih13 : Int32 → zRr → zRq → (Int32 × zRr × zRq)) (w13_3 : Int32) (rw13 : zRr) (qw13 : zRq) : Int32 × zRr × zRq :=
  zif ((1000 : Int32) ≤ w13_3) (((1 : Int32), rw13, qw13)) (zlet (α := Int32) (rw13 196 4) <| fun v19 => zif (v19 = (19 : Int32)) (Gk_readWhole5_40 w13_3 rw13 qw13 ih13 ) (zlet (α := Int32) (rw13 196 4) <| fun v21 => zifn (v21 = (20 : Int32)) (((1 : Int32), rw13, qw13)) (Gk_readWhole5_40 w13_3 rw13 qw13 ih13 )))
noncomputable def Gk_readWhole5_13 (n : Nat) : Int32 → zRr → zRq → (Int32 × zRr × zRq) :=
  Nat.rec (motive := fun _ => Int32 → zRr → zRq → (Int32 × zRr × zRq)) (fun _ rw13 qw13 => (default, rw13, qw13)) (fun _ ih => Bk_readWhole5_13 ih) n
noncomputable def Gk_readWhole5 (r : zRr) (q : zRq) : Int32 × zRr × zRq :=
  zc_vrq (Gk_readTest5 r q) <| fun v24 r25 q26 => zifn (v24 = (0 : Int32)) (Gk_readWhole5_13 1001 0 r25 q26) (((0 : Int32), r25, q26))
noncomputable def Gk_readPart4_130 (w130_5 : Int32) (rw130 : zRr) (qw130 : zRq) : Int32 × zRr × zRq :=
  zlet (α := zRr) ((Gk_add w130_5 rw130 qw130)) <| fun u1 => ((1 : Int32), u1, qw130)
noncomputable def Gk_readPart4_66 (r : zRr) (q : zRq) (w66_3 : Int32) (w66_4 : Int32) (w66_5 : Int32) : Int32 × zRr × zRq :=
  zc_rq (Gk_step r q) <| fun r5 q6 => zif (w66_3 = (0 : Int32)) (zif (w66_4 = (0 : Int32)) (Gk_readPart4_130 w66_5 r5 q6) (zc_vrq (Gk_readPart5 r5 q6) <| fun v13 r14 q15 => zifn (v13 = (0 : Int32)) (Gk_readPart4_130 w66_5 r14 q15) (((0 : Int32), r14, q15)))) (zc_vrq (Gk_readWhole5 r5 q6) <| fun v21 r22 q23 => zif (v21 = (0 : Int32)) (((0 : Int32), r22, q23)) (zc_vrq (Gk_take 22 r22 q23) <| fun v28 r29 q30 => zif (v28 = (0 : Int32)) (((0 : Int32), r29, q30)) (((1 : Int32), r29, q30))))
noncomputable def Gk_readPart4_47 (r : zRr) (q : zRq) (w47_3 : Int32) (w47_4 : Int32) (w47_s0 : Int32) : Int32 × zRr × zRq :=
  zifn (w47_3 = (0 : Int32)) (Gk_readPart4_66 r q w47_3 w47_4 w47_s0) (zifn (w47_s0 = ((-13) : Int32)) (Gk_readPart4_66 r q w47_3 w47_4 w47_s0) (zc_vr (Gk_wrong (1 : Int32) r q) <| fun v40 r41 => (v40, r41, q)))
noncomputable def Gk_readPart4_31 (r : zRr) (q : zRq) (w31_3 : Int32) (w31_s0 : Int32) : Int32 × zRr × zRq :=
  zif (w31_s0 = (0 : Int32)) (zlet (α := Int32) ((Gk_valueHere r q)) <| fun u44 => Gk_readPart4_47 r q w31_3 w31_s0 u44) (Gk_readPart4_47 r q w31_3 w31_s0 (-5))
noncomputable def Gk_readPart4_15 (r : zRr) (q : zRq) (w15_s0 : Int32) : Int32 × zRr × zRq :=
  zlet (α := Int32) (r 196 4) <| fun v47 => zifn (v47 = (18 : Int32)) (Gk_readPart4_31 r q w15_s0 0) (Gk_readPart4_31 r q w15_s0 1)
noncomputable def Gk_readPart4 (r : zRr) (q : zRq) : Int32 × zRr × zRq :=
  zlet (α := Int32) (r 196 4) <| fun v49 => zifn (v49 = (21 : Int32)) (Gk_readPart4_15 r q 0) (Gk_readPart4_15 r q 1)
noncomputable def Bk_readProduct4_13 (ih13 : Int32 → zRr → zRq → (Int32 × zRr × zRq)) (w13_3 : Int32) (rw13 : zRr) (qw13 : zRq) : Int32 × zRr × zRq :=
  zif ((1000 : Int32) ≤ w13_3) (((1 : Int32), rw13, qw13)) (zlet (α := Int32) (rw13 196 4) <| fun v4 => zifn (v4 = (27 : Int32)) (((1 : Int32), rw13, qw13)) (zc_rq (Gk_step rw13 qw13) <| fun r7 q8 => zc_vrq (Gk_readPart4 r7 q8) <| fun v10 r11 q12 => zifn (v10 = (0 : Int32)) (zlet (α := zRr) ((Gk_add ((-12) : Int32) r11 q12)) <| fun u15 => ih13 (w13_3 + 1) u15 q12) (((0 : Int32), r11, q12))))
noncomputable def Gk_readProduct4_13 (n : Nat) : Int32 → zRr → zRq → (Int32 × zRr × zRq) :=
  Nat.rec (motive := fun _ => Int32 → zRr → zRq → (Int32 × zRr × zRq)) (fun _ rw13 qw13 => (default, rw13, qw13)) (fun _ ih => Bk_readProduct4_13 ih) n
noncomputable def Gk_readProduct4 (r : zRr) (q : zRq) : Int32 × zRr × zRq :=
  zc_vrq (Gk_readPart4 r q) <| fun v20 r21 q22 => zifn (v20 = (0 : Int32)) (Gk_readProduct4_13 1001 0 r21 q22) (((0 : Int32), r21, q22))
noncomputable def Gk_readSum4_57 (w13_3 : Int32) (rw13 : zRr) (qw13 : zRq) (ih13 : Int32 → zRr → zRq → (Int32 × zRr × zRq)) (w57_s0 : Int32) : Int32 × zRr × zRq :=
  zc_rq (Gk_step rw13 qw13) <| fun r2 q3 => zc_vrq (Gk_readProduct4 r2 q3) <| fun v5 r6 q7 => zifn (v5 = (0 : Int32)) (zlet (α := zRr) ((Gk_add w57_s0 r6 q7)) <| fun u10 => ih13 (w13_3 + 1) u10 q7) (((0 : Int32), r6, q7))
noncomputable def Gk_readSum4_40 (w13_3 : Int32) (rw13 : zRr) (qw13 : zRq) (ih13 : Int32 → zRr → zRq → (Int32 × zRr × zRq)) : Int32 × zRr × zRq :=
  zlet (α := Int32) (rw13 196 4) <| fun v14 => zifn (v14 = (25 : Int32)) (Gk_readSum4_57 w13_3 rw13 qw13 ih13 (-11)) (Gk_readSum4_57 w13_3 rw13 qw13 ih13 (-10))
noncomputable def Bk_readSum4_13 (ih13 : Int32 → zRr → zRq → (Int32 × zRr × zRq)) (w13_3 : Int32) (rw13 : zRr) (qw13 : zRq) : Int32 × zRr × zRq :=
  zif ((1000 : Int32) ≤ w13_3) (((1 : Int32), rw13, qw13)) (zlet (α := Int32) (rw13 196 4) <| fun v19 => zif (v19 = (25 : Int32)) (Gk_readSum4_40 w13_3 rw13 qw13 ih13 ) (zlet (α := Int32) (rw13 196 4) <| fun v21 => zifn (v21 = (26 : Int32)) (((1 : Int32), rw13, qw13)) (Gk_readSum4_40 w13_3 rw13 qw13 ih13 )))
noncomputable def Gk_readSum4_13 (n : Nat) : Int32 → zRr → zRq → (Int32 × zRr × zRq) :=
  Nat.rec (motive := fun _ => Int32 → zRr → zRq → (Int32 × zRr × zRq)) (fun _ rw13 qw13 => (default, rw13, qw13)) (fun _ ih => Bk_readSum4_13 ih) n
noncomputable def Gk_readSum4 (r : zRr) (q : zRq) : Int32 × zRr × zRq :=
  zc_vrq (Gk_readProduct4 r q) <| fun v24 r25 q26 => zifn (v24 = (0 : Int32)) (Gk_readSum4_13 1001 0 r25 q26) (((0 : Int32), r25, q26))
noncomputable def Gk_readTest4_50 (w50_s0 : Int32) (rw50 : zRr) (qw50 : zRq) : Int32 × zRr × zRq :=
  zc_rq (Gk_step rw50 qw50) <| fun r2 q3 => zc_vrq (Gk_readSum4 r2 q3) <| fun v5 r6 q7 => zifn (v5 = (0 : Int32)) (zlet (α := zRr) ((Gk_add w50_s0 r6 q7)) <| fun u10 => ((1 : Int32), u10, q7)) (((0 : Int32), r6, q7))
noncomputable def Gk_readTest4_33 (rw33 : zRr) (qw33 : zRq) : Int32 × zRr × zRq :=
  zlet (α := Int32) (rw33 196 4) <| fun v13 => zifn (v13 = (23 : Int32)) (Gk_readTest4_50 (-9) rw33 qw33) (Gk_readTest4_50 (-8) rw33 qw33)
noncomputable def Gk_readTest4 (r : zRr) (q : zRq) : Int32 × zRr × zRq :=
  zc_vrq (Gk_readSum4 r q) <| fun v16 r17 q18 => zifn (v16 = (0 : Int32)) (zlet (α := Int32) (r17 196 4) <| fun v21 => zif (v21 = (23 : Int32)) (Gk_readTest4_33 r17 q18) (zlet (α := Int32) (r17 196 4) <| fun v23 => zif (v23 = (24 : Int32)) (Gk_readTest4_33 r17 q18) (((1 : Int32), r17, q18)))) (((0 : Int32), r17, q18))
noncomputable def Gk_readWhole4_57 (w13_3 : Int32) (rw13 : zRr) (qw13 : zRq) (ih13 : Int32 → zRr → zRq → (Int32 × zRr × zRq)) (w57_s0 : Int32) : Int32 × zRr × zRq :=
  zc_rq (Gk_step rw13 qw13) <| fun r2 q3 => zc_vrq (Gk_readTest4 r2 q3) <| fun v5 r6 q7 => zifn (v5 = (0 : Int32)) (zlet (α := zRr) ((Gk_add w57_s0 r6 q7)) <| fun u10 => ih13 (w13_3 + 1) u10 q7) (((0 : Int32), r6, q7))
noncomputable def Gk_readWhole4_40 (w13_3 : Int32) (rw13 : zRr) (qw13 : zRq) (ih13 : Int32 → zRr → zRq → (Int32 × zRr × zRq)) : Int32 × zRr × zRq :=
  zlet (α := Int32) (rw13 196 4) <| fun v14 => zifn (v14 = (19 : Int32)) (Gk_readWhole4_57 w13_3 rw13 qw13 ih13 (-7)) (Gk_readWhole4_57 w13_3 rw13 qw13 ih13 (-6))
noncomputable def Bk_readWhole4_13 (ih13 : Int32 → zRr → zRq → (Int32 × zRr × zRq)) (w13_3 : Int32) (rw13 : zRr) (qw13 : zRq) : Int32 × zRr × zRq :=
  zif ((1000 : Int32) ≤ w13_3) (((1 : Int32), rw13, qw13)) (zlet (α := Int32) (rw13 196 4) <| fun v19 => zif (v19 = (19 : Int32)) (Gk_readWhole4_40 w13_3 rw13 qw13 ih13 ) (zlet (α := Int32) (rw13 196 4) <| fun v21 => zifn (v21 = (20 : Int32)) (((1 : Int32), rw13, qw13)) (Gk_readWhole4_40 w13_3 rw13 qw13 ih13 )))
noncomputable def Gk_readWhole4_13 (n : Nat) : Int32 → zRr → zRq → (Int32 × zRr × zRq) :=
  Nat.rec (motive := fun _ => Int32 → zRr → zRq → (Int32 × zRr × zRq)) (fun _ rw13 qw13 => (default, rw13, qw13)) (fun _ ih => Bk_readWhole4_13 ih) n
noncomputable def Gk_readWhole4 (r : zRr) (q : zRq) : Int32 × zRr × zRq :=
  zc_vrq (Gk_readTest4 r q) <| fun v24 r25 q26 => zifn (v24 = (0 : Int32)) (Gk_readWhole4_13 1001 0 r25 q26) (((0 : Int32), r25, q26))
noncomputable def Gk_readPart3_130 (w130_5 : Int32) (rw130 : zRr) (qw130 : zRq) : Int32 × zRr × zRq :=
  zlet (α := zRr) ((Gk_add w130_5 rw130 qw130)) <| fun u1 => ((1 : Int32), u1, qw130)
noncomputable def Gk_readPart3_66 (r : zRr) (q : zRq) (w66_3 : Int32) (w66_4 : Int32) (w66_5 : Int32) : Int32 × zRr × zRq :=
  zc_rq (Gk_step r q) <| fun r5 q6 => zif (w66_3 = (0 : Int32)) (zif (w66_4 = (0 : Int32)) (Gk_readPart3_130 w66_5 r5 q6) (zc_vrq (Gk_readPart4 r5 q6) <| fun v13 r14 q15 => zifn (v13 = (0 : Int32)) (Gk_readPart3_130 w66_5 r14 q15) (((0 : Int32), r14, q15)))) (zc_vrq (Gk_readWhole4 r5 q6) <| fun v21 r22 q23 => zif (v21 = (0 : Int32)) (((0 : Int32), r22, q23)) (zc_vrq (Gk_take 22 r22 q23) <| fun v28 r29 q30 => zif (v28 = (0 : Int32)) (((0 : Int32), r29, q30)) (((1 : Int32), r29, q30))))
noncomputable def Gk_readPart3_47 (r : zRr) (q : zRq) (w47_3 : Int32) (w47_4 : Int32) (w47_s0 : Int32) : Int32 × zRr × zRq :=
  zifn (w47_3 = (0 : Int32)) (Gk_readPart3_66 r q w47_3 w47_4 w47_s0) (zifn (w47_s0 = ((-13) : Int32)) (Gk_readPart3_66 r q w47_3 w47_4 w47_s0) (zc_vr (Gk_wrong (1 : Int32) r q) <| fun v40 r41 => (v40, r41, q)))
noncomputable def Gk_readPart3_31 (r : zRr) (q : zRq) (w31_3 : Int32) (w31_s0 : Int32) : Int32 × zRr × zRq :=
  zif (w31_s0 = (0 : Int32)) (zlet (α := Int32) ((Gk_valueHere r q)) <| fun u44 => Gk_readPart3_47 r q w31_3 w31_s0 u44) (Gk_readPart3_47 r q w31_3 w31_s0 (-5))
noncomputable def Gk_readPart3_15 (r : zRr) (q : zRq) (w15_s0 : Int32) : Int32 × zRr × zRq :=
  zlet (α := Int32) (r 196 4) <| fun v47 => zifn (v47 = (18 : Int32)) (Gk_readPart3_31 r q w15_s0 0) (Gk_readPart3_31 r q w15_s0 1)
noncomputable def Gk_readPart3 (r : zRr) (q : zRq) : Int32 × zRr × zRq :=
  zlet (α := Int32) (r 196 4) <| fun v49 => zifn (v49 = (21 : Int32)) (Gk_readPart3_15 r q 0) (Gk_readPart3_15 r q 1)
noncomputable def Bk_readProduct3_13 (ih13 : Int32 → zRr → zRq → (Int32 × zRr × zRq)) (w13_3 : Int32) (rw13 : zRr) (qw13 : zRq) : Int32 × zRr × zRq :=
  zif ((1000 : Int32) ≤ w13_3) (((1 : Int32), rw13, qw13)) (zlet (α := Int32) (rw13 196 4) <| fun v4 => zifn (v4 = (27 : Int32)) (((1 : Int32), rw13, qw13)) (zc_rq (Gk_step rw13 qw13) <| fun r7 q8 => zc_vrq (Gk_readPart3 r7 q8) <| fun v10 r11 q12 => zifn (v10 = (0 : Int32)) (zlet (α := zRr) ((Gk_add ((-12) : Int32) r11 q12)) <| fun u15 => ih13 (w13_3 + 1) u15 q12) (((0 : Int32), r11, q12))))
noncomputable def Gk_readProduct3_13 (n : Nat) : Int32 → zRr → zRq → (Int32 × zRr × zRq) :=
  Nat.rec (motive := fun _ => Int32 → zRr → zRq → (Int32 × zRr × zRq)) (fun _ rw13 qw13 => (default, rw13, qw13)) (fun _ ih => Bk_readProduct3_13 ih) n
noncomputable def Gk_readProduct3 (r : zRr) (q : zRq) : Int32 × zRr × zRq :=
  zc_vrq (Gk_readPart3 r q) <| fun v20 r21 q22 => zifn (v20 = (0 : Int32)) (Gk_readProduct3_13 1001 0 r21 q22) (((0 : Int32), r21, q22))
noncomputable def Gk_readSum3_57 (w13_3 : Int32) (rw13 : zRr) (qw13 : zRq) (ih13 : Int32 → zRr → zRq → (Int32 × zRr × zRq)) (w57_s0 : Int32) : Int32 × zRr × zRq :=
  zc_rq (Gk_step rw13 qw13) <| fun r2 q3 => zc_vrq (Gk_readProduct3 r2 q3) <| fun v5 r6 q7 => zifn (v5 = (0 : Int32)) (zlet (α := zRr) ((Gk_add w57_s0 r6 q7)) <| fun u10 => ih13 (w13_3 + 1) u10 q7) (((0 : Int32), r6, q7))
noncomputable def Gk_readSum3_40 (w13_3 : Int32) (rw13 : zRr) (qw13 : zRq) (ih13 : Int32 → zRr → zRq → (Int32 × zRr × zRq)) : Int32 × zRr × zRq :=
  zlet (α := Int32) (rw13 196 4) <| fun v14 => zifn (v14 = (25 : Int32)) (Gk_readSum3_57 w13_3 rw13 qw13 ih13 (-11)) (Gk_readSum3_57 w13_3 rw13 qw13 ih13 (-10))
noncomputable def Bk_readSum3_13 (ih13 : Int32 → zRr → zRq → (Int32 × zRr × zRq)) (w13_3 : Int32) (rw13 : zRr) (qw13 : zRq) : Int32 × zRr × zRq :=
  zif ((1000 : Int32) ≤ w13_3) (((1 : Int32), rw13, qw13)) (zlet (α := Int32) (rw13 196 4) <| fun v19 => zif (v19 = (25 : Int32)) (Gk_readSum3_40 w13_3 rw13 qw13 ih13 ) (zlet (α := Int32) (rw13 196 4) <| fun v21 => zifn (v21 = (26 : Int32)) (((1 : Int32), rw13, qw13)) (Gk_readSum3_40 w13_3 rw13 qw13 ih13 )))
noncomputable def Gk_readSum3_13 (n : Nat) : Int32 → zRr → zRq → (Int32 × zRr × zRq) :=
  Nat.rec (motive := fun _ => Int32 → zRr → zRq → (Int32 × zRr × zRq)) (fun _ rw13 qw13 => (default, rw13, qw13)) (fun _ ih => Bk_readSum3_13 ih) n
noncomputable def Gk_readSum3 (r : zRr) (q : zRq) : Int32 × zRr × zRq :=
  zc_vrq (Gk_readProduct3 r q) <| fun v24 r25 q26 => zifn (v24 = (0 : Int32)) (Gk_readSum3_13 1001 0 r25 q26) (((0 : Int32), r25, q26))
noncomputable def Gk_readTest3_50 (w50_s0 : Int32) (rw50 : zRr) (qw50 : zRq) : Int32 × zRr × zRq :=
  zc_rq (Gk_step rw50 qw50) <| fun r2 q3 => zc_vrq (Gk_readSum3 r2 q3) <| fun v5 r6 q7 => zifn (v5 = (0 : Int32)) (zlet (α := zRr) ((Gk_add w50_s0 r6 q7)) <| fun u10 => ((1 : Int32), u10, q7)) (((0 : Int32), r6, q7))
noncomputable def Gk_readTest3_33 (rw33 : zRr) (qw33 : zRq) : Int32 × zRr × zRq :=
  zlet (α := Int32) (rw33 196 4) <| fun v13 => zifn (v13 = (23 : Int32)) (Gk_readTest3_50 (-9) rw33 qw33) (Gk_readTest3_50 (-8) rw33 qw33)
noncomputable def Gk_readTest3 (r : zRr) (q : zRq) : Int32 × zRr × zRq :=
  zc_vrq (Gk_readSum3 r q) <| fun v16 r17 q18 => zifn (v16 = (0 : Int32)) (zlet (α := Int32) (r17 196 4) <| fun v21 => zif (v21 = (23 : Int32)) (Gk_readTest3_33 r17 q18) (zlet (α := Int32) (r17 196 4) <| fun v23 => zif (v23 = (24 : Int32)) (Gk_readTest3_33 r17 q18) (((1 : Int32), r17, q18)))) (((0 : Int32), r17, q18))
noncomputable def Gk_readWhole3_57 (w13_3 : Int32) (rw13 : zRr) (qw13 : zRq) (ih13 : Int32 → zRr → zRq → (Int32 × zRr × zRq)) (w57_s0 : Int32) : Int32 × zRr × zRq :=
  zc_rq (Gk_step rw13 qw13) <| fun r2 q3 => zc_vrq (Gk_readTest3 r2 q3) <| fun v5 r6 q7 => zifn (v5 = (0 : Int32)) (zlet (α := zRr) ((Gk_add w57_s0 r6 q7)) <| fun u10 => ih13 (w13_3 + 1) u10 q7) (((0 : Int32), r6, q7))
noncomputable def Gk_readWhole3_40 (w13_3 : Int32) (rw13 : zRr) (qw13 : zRq) (ih13 : Int32 → zRr → zRq → (Int32 × zRr × zRq)) : Int32 × zRr × zRq :=
  zlet (α := Int32) (rw13 196 4) <| fun v14 => zifn (v14 = (19 : Int32)) (Gk_readWhole3_57 w13_3 rw13 qw13 ih13 (-7)) (Gk_readWhole3_57 w13_3 rw13 qw13 ih13 (-6))
noncomputable def Bk_readWhole3_13 (ih13 : Int32 → zRr → zRq → (Int32 × zRr × zRq)) (w13_3 : Int32) (rw13 : zRr) (qw13 : zRq) : Int32 × zRr × zRq :=
  zif ((1000 : Int32) ≤ w13_3) (((1 : Int32), rw13, qw13)) (zlet (α := Int32) (rw13 196 4) <| fun v19 => zif (v19 = (19 : Int32)) (Gk_readWhole3_40 w13_3 rw13 qw13 ih13 ) (zlet (α := Int32) (rw13 196 4) <| fun v21 => zifn (v21 = (20 : Int32)) (((1 : Int32), rw13, qw13)) (Gk_readWhole3_40 w13_3 rw13 qw13 ih13 )))
noncomputable def Gk_readWhole3_13 (n : Nat) : Int32 → zRr → zRq → (Int32 × zRr × zRq) :=
  Nat.rec (motive := fun _ => Int32 → zRr → zRq → (Int32 × zRr × zRq)) (fun _ rw13 qw13 => (default, rw13, qw13)) (fun _ ih => Bk_readWhole3_13 ih) n
noncomputable def Gk_readWhole3 (r : zRr) (q : zRq) : Int32 × zRr × zRq :=
  zc_vrq (Gk_readTest3 r q) <| fun v24 r25 q26 => zifn (v24 = (0 : Int32)) (Gk_readWhole3_13 1001 0 r25 q26) (((0 : Int32), r25, q26))
noncomputable def Gk_readPart2_130 (w130_5 : Int32) (rw130 : zRr) (qw130 : zRq) : Int32 × zRr × zRq :=
  zlet (α := zRr) ((Gk_add w130_5 rw130 qw130)) <| fun u1 => ((1 : Int32), u1, qw130)
noncomputable def Gk_readPart2_66 (r : zRr) (q : zRq) (w66_3 : Int32) (w66_4 : Int32) (w66_5 : Int32) : Int32 × zRr × zRq :=
  zc_rq (Gk_step r q) <| fun r5 q6 => zif (w66_3 = (0 : Int32)) (zif (w66_4 = (0 : Int32)) (Gk_readPart2_130 w66_5 r5 q6) (zc_vrq (Gk_readPart3 r5 q6) <| fun v13 r14 q15 => zifn (v13 = (0 : Int32)) (Gk_readPart2_130 w66_5 r14 q15) (((0 : Int32), r14, q15)))) (zc_vrq (Gk_readWhole3 r5 q6) <| fun v21 r22 q23 => zif (v21 = (0 : Int32)) (((0 : Int32), r22, q23)) (zc_vrq (Gk_take 22 r22 q23) <| fun v28 r29 q30 => zif (v28 = (0 : Int32)) (((0 : Int32), r29, q30)) (((1 : Int32), r29, q30))))
noncomputable def Gk_readPart2_47 (r : zRr) (q : zRq) (w47_3 : Int32) (w47_4 : Int32) (w47_s0 : Int32) : Int32 × zRr × zRq :=
  zifn (w47_3 = (0 : Int32)) (Gk_readPart2_66 r q w47_3 w47_4 w47_s0) (zifn (w47_s0 = ((-13) : Int32)) (Gk_readPart2_66 r q w47_3 w47_4 w47_s0) (zc_vr (Gk_wrong (1 : Int32) r q) <| fun v40 r41 => (v40, r41, q)))
noncomputable def Gk_readPart2_31 (r : zRr) (q : zRq) (w31_3 : Int32) (w31_s0 : Int32) : Int32 × zRr × zRq :=
  zif (w31_s0 = (0 : Int32)) (zlet (α := Int32) ((Gk_valueHere r q)) <| fun u44 => Gk_readPart2_47 r q w31_3 w31_s0 u44) (Gk_readPart2_47 r q w31_3 w31_s0 (-5))
noncomputable def Gk_readPart2_15 (r : zRr) (q : zRq) (w15_s0 : Int32) : Int32 × zRr × zRq :=
  zlet (α := Int32) (r 196 4) <| fun v47 => zifn (v47 = (18 : Int32)) (Gk_readPart2_31 r q w15_s0 0) (Gk_readPart2_31 r q w15_s0 1)
noncomputable def Gk_readPart2 (r : zRr) (q : zRq) : Int32 × zRr × zRq :=
  zlet (α := Int32) (r 196 4) <| fun v49 => zifn (v49 = (21 : Int32)) (Gk_readPart2_15 r q 0) (Gk_readPart2_15 r q 1)
noncomputable def Bk_readProduct2_13 (ih13 : Int32 → zRr → zRq → (Int32 × zRr × zRq)) (w13_3 : Int32) (rw13 : zRr) (qw13 : zRq) : Int32 × zRr × zRq :=
  zif ((1000 : Int32) ≤ w13_3) (((1 : Int32), rw13, qw13)) (zlet (α := Int32) (rw13 196 4) <| fun v4 => zifn (v4 = (27 : Int32)) (((1 : Int32), rw13, qw13)) (zc_rq (Gk_step rw13 qw13) <| fun r7 q8 => zc_vrq (Gk_readPart2 r7 q8) <| fun v10 r11 q12 => zifn (v10 = (0 : Int32)) (zlet (α := zRr) ((Gk_add ((-12) : Int32) r11 q12)) <| fun u15 => ih13 (w13_3 + 1) u15 q12) (((0 : Int32), r11, q12))))
noncomputable def Gk_readProduct2_13 (n : Nat) : Int32 → zRr → zRq → (Int32 × zRr × zRq) :=
  Nat.rec (motive := fun _ => Int32 → zRr → zRq → (Int32 × zRr × zRq)) (fun _ rw13 qw13 => (default, rw13, qw13)) (fun _ ih => Bk_readProduct2_13 ih) n
noncomputable def Gk_readProduct2 (r : zRr) (q : zRq) : Int32 × zRr × zRq :=
  zc_vrq (Gk_readPart2 r q) <| fun v20 r21 q22 => zifn (v20 = (0 : Int32)) (Gk_readProduct2_13 1001 0 r21 q22) (((0 : Int32), r21, q22))
noncomputable def Gk_readSum2_57 (w13_3 : Int32) (rw13 : zRr) (qw13 : zRq) (ih13 : Int32 → zRr → zRq → (Int32 × zRr × zRq)) (w57_s0 : Int32) : Int32 × zRr × zRq :=
  zc_rq (Gk_step rw13 qw13) <| fun r2 q3 => zc_vrq (Gk_readProduct2 r2 q3) <| fun v5 r6 q7 => zifn (v5 = (0 : Int32)) (zlet (α := zRr) ((Gk_add w57_s0 r6 q7)) <| fun u10 => ih13 (w13_3 + 1) u10 q7) (((0 : Int32), r6, q7))
noncomputable def Gk_readSum2_40 (w13_3 : Int32) (rw13 : zRr) (qw13 : zRq) (ih13 : Int32 → zRr → zRq → (Int32 × zRr × zRq)) : Int32 × zRr × zRq :=
  zlet (α := Int32) (rw13 196 4) <| fun v14 => zifn (v14 = (25 : Int32)) (Gk_readSum2_57 w13_3 rw13 qw13 ih13 (-11)) (Gk_readSum2_57 w13_3 rw13 qw13 ih13 (-10))
noncomputable def Bk_readSum2_13 (ih13 : Int32 → zRr → zRq → (Int32 × zRr × zRq)) (w13_3 : Int32) (rw13 : zRr) (qw13 : zRq) : Int32 × zRr × zRq :=
  zif ((1000 : Int32) ≤ w13_3) (((1 : Int32), rw13, qw13)) (zlet (α := Int32) (rw13 196 4) <| fun v19 => zif (v19 = (25 : Int32)) (Gk_readSum2_40 w13_3 rw13 qw13 ih13 ) (zlet (α := Int32) (rw13 196 4) <| fun v21 => zifn (v21 = (26 : Int32)) (((1 : Int32), rw13, qw13)) (Gk_readSum2_40 w13_3 rw13 qw13 ih13 )))
noncomputable def Gk_readSum2_13 (n : Nat) : Int32 → zRr → zRq → (Int32 × zRr × zRq) :=
  Nat.rec (motive := fun _ => Int32 → zRr → zRq → (Int32 × zRr × zRq)) (fun _ rw13 qw13 => (default, rw13, qw13)) (fun _ ih => Bk_readSum2_13 ih) n
noncomputable def Gk_readSum2 (r : zRr) (q : zRq) : Int32 × zRr × zRq :=
  zc_vrq (Gk_readProduct2 r q) <| fun v24 r25 q26 => zifn (v24 = (0 : Int32)) (Gk_readSum2_13 1001 0 r25 q26) (((0 : Int32), r25, q26))
noncomputable def Gk_readTest2_50 (w50_s0 : Int32) (rw50 : zRr) (qw50 : zRq) : Int32 × zRr × zRq :=
  zc_rq (Gk_step rw50 qw50) <| fun r2 q3 => zc_vrq (Gk_readSum2 r2 q3) <| fun v5 r6 q7 => zifn (v5 = (0 : Int32)) (zlet (α := zRr) ((Gk_add w50_s0 r6 q7)) <| fun u10 => ((1 : Int32), u10, q7)) (((0 : Int32), r6, q7))
noncomputable def Gk_readTest2_33 (rw33 : zRr) (qw33 : zRq) : Int32 × zRr × zRq :=
  zlet (α := Int32) (rw33 196 4) <| fun v13 => zifn (v13 = (23 : Int32)) (Gk_readTest2_50 (-9) rw33 qw33) (Gk_readTest2_50 (-8) rw33 qw33)
noncomputable def Gk_readTest2 (r : zRr) (q : zRq) : Int32 × zRr × zRq :=
  zc_vrq (Gk_readSum2 r q) <| fun v16 r17 q18 => zifn (v16 = (0 : Int32)) (zlet (α := Int32) (r17 196 4) <| fun v21 => zif (v21 = (23 : Int32)) (Gk_readTest2_33 r17 q18) (zlet (α := Int32) (r17 196 4) <| fun v23 => zif (v23 = (24 : Int32)) (Gk_readTest2_33 r17 q18) (((1 : Int32), r17, q18)))) (((0 : Int32), r17, q18))
noncomputable def Gk_readWhole2_57 (w13_3 : Int32) (rw13 : zRr) (qw13 : zRq) (ih13 : Int32 → zRr → zRq → (Int32 × zRr × zRq)) (w57_s0 : Int32) : Int32 × zRr × zRq :=
  zc_rq (Gk_step rw13 qw13) <| fun r2 q3 => zc_vrq (Gk_readTest2 r2 q3) <| fun v5 r6 q7 => zifn (v5 = (0 : Int32)) (zlet (α := zRr) ((Gk_add w57_s0 r6 q7)) <| fun u10 => ih13 (w13_3 + 1) u10 q7) (((0 : Int32), r6, q7))
noncomputable def Gk_readWhole2_40 (w13_3 : Int32) (rw13 : zRr) (qw13 : zRq) (ih13 : Int32 → zRr → zRq → (Int32 × zRr × zRq)) : Int32 × zRr × zRq :=
  zlet (α := Int32) (rw13 196 4) <| fun v14 => zifn (v14 = (19 : Int32)) (Gk_readWhole2_57 w13_3 rw13 qw13 ih13 (-7)) (Gk_readWhole2_57 w13_3 rw13 qw13 ih13 (-6))
noncomputable def Bk_readWhole2_13 (ih13 : Int32 → zRr → zRq → (Int32 × zRr × zRq)) (w13_3 : Int32) (rw13 : zRr) (qw13 : zRq) : Int32 × zRr × zRq :=
  zif ((1000 : Int32) ≤ w13_3) (((1 : Int32), rw13, qw13)) (zlet (α := Int32) (rw13 196 4) <| fun v19 => zif (v19 = (19 : Int32)) (Gk_readWhole2_40 w13_3 rw13 qw13 ih13 ) (zlet (α := Int32) (rw13 196 4) <| fun v21 => zifn (v21 = (20 : Int32)) (((1 : Int32), rw13, qw13)) (Gk_readWhole2_40 w13_3 rw13 qw13 ih13 )))
noncomputable def Gk_readWhole2_13 (n : Nat) : Int32 → zRr → zRq → (Int32 × zRr × zRq) :=
  Nat.rec (motive := fun _ => Int32 → zRr → zRq → (Int32 × zRr × zRq)) (fun _ rw13 qw13 => (default, rw13, qw13)) (fun _ ih => Bk_readWhole2_13 ih) n
noncomputable def Gk_readWhole2 (r : zRr) (q : zRq) : Int32 × zRr × zRq :=
  zc_vrq (Gk_readTest2 r q) <| fun v24 r25 q26 => zifn (v24 = (0 : Int32)) (Gk_readWhole2_13 1001 0 r25 q26) (((0 : Int32), r25, q26))
noncomputable def Gk_readPart1_130 (w130_5 : Int32) (rw130 : zRr) (qw130 : zRq) : Int32 × zRr × zRq :=
  zlet (α := zRr) ((Gk_add w130_5 rw130 qw130)) <| fun u1 => ((1 : Int32), u1, qw130)
noncomputable def Gk_readPart1_66 (r : zRr) (q : zRq) (w66_3 : Int32) (w66_4 : Int32) (w66_5 : Int32) : Int32 × zRr × zRq :=
  zc_rq (Gk_step r q) <| fun r5 q6 => zif (w66_3 = (0 : Int32)) (zif (w66_4 = (0 : Int32)) (Gk_readPart1_130 w66_5 r5 q6) (zc_vrq (Gk_readPart2 r5 q6) <| fun v13 r14 q15 => zifn (v13 = (0 : Int32)) (Gk_readPart1_130 w66_5 r14 q15) (((0 : Int32), r14, q15)))) (zc_vrq (Gk_readWhole2 r5 q6) <| fun v21 r22 q23 => zif (v21 = (0 : Int32)) (((0 : Int32), r22, q23)) (zc_vrq (Gk_take 22 r22 q23) <| fun v28 r29 q30 => zif (v28 = (0 : Int32)) (((0 : Int32), r29, q30)) (((1 : Int32), r29, q30))))
noncomputable def Gk_readPart1_47 (r : zRr) (q : zRq) (w47_3 : Int32) (w47_4 : Int32) (w47_s0 : Int32) : Int32 × zRr × zRq :=
  zifn (w47_3 = (0 : Int32)) (Gk_readPart1_66 r q w47_3 w47_4 w47_s0) (zifn (w47_s0 = ((-13) : Int32)) (Gk_readPart1_66 r q w47_3 w47_4 w47_s0) (zc_vr (Gk_wrong (1 : Int32) r q) <| fun v40 r41 => (v40, r41, q)))
noncomputable def Gk_readPart1_31 (r : zRr) (q : zRq) (w31_3 : Int32) (w31_s0 : Int32) : Int32 × zRr × zRq :=
  zif (w31_s0 = (0 : Int32)) (zlet (α := Int32) ((Gk_valueHere r q)) <| fun u44 => Gk_readPart1_47 r q w31_3 w31_s0 u44) (Gk_readPart1_47 r q w31_3 w31_s0 (-5))
noncomputable def Gk_readPart1_15 (r : zRr) (q : zRq) (w15_s0 : Int32) : Int32 × zRr × zRq :=
  zlet (α := Int32) (r 196 4) <| fun v47 => zifn (v47 = (18 : Int32)) (Gk_readPart1_31 r q w15_s0 0) (Gk_readPart1_31 r q w15_s0 1)
noncomputable def Gk_readPart1 (r : zRr) (q : zRq) : Int32 × zRr × zRq :=
  zlet (α := Int32) (r 196 4) <| fun v49 => zifn (v49 = (21 : Int32)) (Gk_readPart1_15 r q 0) (Gk_readPart1_15 r q 1)
noncomputable def Bk_readProduct1_13 (ih13 : Int32 → zRr → zRq → (Int32 × zRr × zRq)) (w13_3 : Int32) (rw13 : zRr) (qw13 : zRq) : Int32 × zRr × zRq :=
  zif ((1000 : Int32) ≤ w13_3) (((1 : Int32), rw13, qw13)) (zlet (α := Int32) (rw13 196 4) <| fun v4 => zifn (v4 = (27 : Int32)) (((1 : Int32), rw13, qw13)) (zc_rq (Gk_step rw13 qw13) <| fun r7 q8 => zc_vrq (Gk_readPart1 r7 q8) <| fun v10 r11 q12 => zifn (v10 = (0 : Int32)) (zlet (α := zRr) ((Gk_add ((-12) : Int32) r11 q12)) <| fun u15 => ih13 (w13_3 + 1) u15 q12) (((0 : Int32), r11, q12))))
noncomputable def Gk_readProduct1_13 (n : Nat) : Int32 → zRr → zRq → (Int32 × zRr × zRq) :=
  Nat.rec (motive := fun _ => Int32 → zRr → zRq → (Int32 × zRr × zRq)) (fun _ rw13 qw13 => (default, rw13, qw13)) (fun _ ih => Bk_readProduct1_13 ih) n
noncomputable def Gk_readProduct1 (r : zRr) (q : zRq) : Int32 × zRr × zRq :=
  zc_vrq (Gk_readPart1 r q) <| fun v20 r21 q22 => zifn (v20 = (0 : Int32)) (Gk_readProduct1_13 1001 0 r21 q22) (((0 : Int32), r21, q22))
noncomputable def Gk_readSum1_57 (w13_3 : Int32) (rw13 : zRr) (qw13 : zRq) (ih13 : Int32 → zRr → zRq → (Int32 × zRr × zRq)) (w57_s0 : Int32) : Int32 × zRr × zRq :=
  zc_rq (Gk_step rw13 qw13) <| fun r2 q3 => zc_vrq (Gk_readProduct1 r2 q3) <| fun v5 r6 q7 => zifn (v5 = (0 : Int32)) (zlet (α := zRr) ((Gk_add w57_s0 r6 q7)) <| fun u10 => ih13 (w13_3 + 1) u10 q7) (((0 : Int32), r6, q7))
noncomputable def Gk_readSum1_40 (w13_3 : Int32) (rw13 : zRr) (qw13 : zRq) (ih13 : Int32 → zRr → zRq → (Int32 × zRr × zRq)) : Int32 × zRr × zRq :=
  zlet (α := Int32) (rw13 196 4) <| fun v14 => zifn (v14 = (25 : Int32)) (Gk_readSum1_57 w13_3 rw13 qw13 ih13 (-11)) (Gk_readSum1_57 w13_3 rw13 qw13 ih13 (-10))
noncomputable def Bk_readSum1_13 (ih13 : Int32 → zRr → zRq → (Int32 × zRr × zRq)) (w13_3 : Int32) (rw13 : zRr) (qw13 : zRq) : Int32 × zRr × zRq :=
  zif ((1000 : Int32) ≤ w13_3) (((1 : Int32), rw13, qw13)) (zlet (α := Int32) (rw13 196 4) <| fun v19 => zif (v19 = (25 : Int32)) (Gk_readSum1_40 w13_3 rw13 qw13 ih13 ) (zlet (α := Int32) (rw13 196 4) <| fun v21 => zifn (v21 = (26 : Int32)) (((1 : Int32), rw13, qw13)) (Gk_readSum1_40 w13_3 rw13 qw13 ih13 )))
noncomputable def Gk_readSum1_13 (n : Nat) : Int32 → zRr → zRq → (Int32 × zRr × zRq) :=
  Nat.rec (motive := fun _ => Int32 → zRr → zRq → (Int32 × zRr × zRq)) (fun _ rw13 qw13 => (default, rw13, qw13)) (fun _ ih => Bk_readSum1_13 ih) n
noncomputable def Gk_readSum1 (r : zRr) (q : zRq) : Int32 × zRr × zRq :=
  zc_vrq (Gk_readProduct1 r q) <| fun v24 r25 q26 => zifn (v24 = (0 : Int32)) (Gk_readSum1_13 1001 0 r25 q26) (((0 : Int32), r25, q26))
noncomputable def Gk_readTest1_50 (w50_s0 : Int32) (rw50 : zRr) (qw50 : zRq) : Int32 × zRr × zRq :=
  zc_rq (Gk_step rw50 qw50) <| fun r2 q3 => zc_vrq (Gk_readSum1 r2 q3) <| fun v5 r6 q7 => zifn (v5 = (0 : Int32)) (zlet (α := zRr) ((Gk_add w50_s0 r6 q7)) <| fun u10 => ((1 : Int32), u10, q7)) (((0 : Int32), r6, q7))
noncomputable def Gk_readTest1_33 (rw33 : zRr) (qw33 : zRq) : Int32 × zRr × zRq :=
  zlet (α := Int32) (rw33 196 4) <| fun v13 => zifn (v13 = (23 : Int32)) (Gk_readTest1_50 (-9) rw33 qw33) (Gk_readTest1_50 (-8) rw33 qw33)
noncomputable def Gk_readTest1 (r : zRr) (q : zRq) : Int32 × zRr × zRq :=
  zc_vrq (Gk_readSum1 r q) <| fun v16 r17 q18 => zifn (v16 = (0 : Int32)) (zlet (α := Int32) (r17 196 4) <| fun v21 => zif (v21 = (23 : Int32)) (Gk_readTest1_33 r17 q18) (zlet (α := Int32) (r17 196 4) <| fun v23 => zif (v23 = (24 : Int32)) (Gk_readTest1_33 r17 q18) (((1 : Int32), r17, q18)))) (((0 : Int32), r17, q18))
noncomputable def Gk_readWhole1_57 (w13_3 : Int32) (rw13 : zRr) (qw13 : zRq) (ih13 : Int32 → zRr → zRq → (Int32 × zRr × zRq)) (w57_s0 : Int32) : Int32 × zRr × zRq :=
  zc_rq (Gk_step rw13 qw13) <| fun r2 q3 => zc_vrq (Gk_readTest1 r2 q3) <| fun v5 r6 q7 => zifn (v5 = (0 : Int32)) (zlet (α := zRr) ((Gk_add w57_s0 r6 q7)) <| fun u10 => ih13 (w13_3 + 1) u10 q7) (((0 : Int32), r6, q7))
noncomputable def Gk_readWhole1_40 (w13_3 : Int32) (rw13 : zRr) (qw13 : zRq) (ih13 : Int32 → zRr → zRq → (Int32 × zRr × zRq)) : Int32 × zRr × zRq :=
  zlet (α := Int32) (rw13 196 4) <| fun v14 => zifn (v14 = (19 : Int32)) (Gk_readWhole1_57 w13_3 rw13 qw13 ih13 (-7)) (Gk_readWhole1_57 w13_3 rw13 qw13 ih13 (-6))
noncomputable def Bk_readWhole1_13 (ih13 : Int32 → zRr → zRq → (Int32 × zRr × zRq)) (w13_3 : Int32) (rw13 : zRr) (qw13 : zRq) : Int32 × zRr × zRq :=
  zif ((1000 : Int32) ≤ w13_3) (((1 : Int32), rw13, qw13)) (zlet (α := Int32) (rw13 196 4) <| fun v19 => zif (v19 = (19 : Int32)) (Gk_readWhole1_40 w13_3 rw13 qw13 ih13 ) (zlet (α := Int32) (rw13 196 4) <| fun v21 => zifn (v21 = (20 : Int32)) (((1 : Int32), rw13, qw13)) (Gk_readWhole1_40 w13_3 rw13 qw13 ih13 )))
noncomputable def Gk_readWhole1_13 (n : Nat) : Int32 → zRr → zRq → (Int32 × zRr × zRq) :=
  Nat.rec (motive := fun _ => Int32 → zRr → zRq → (Int32 × zRr × zRq)) (fun _ rw13 qw13 => (default, rw13, qw13)) (fun _ ih => Bk_readWhole1_13 ih) n
noncomputable def Gk_readWhole1 (r : zRr) (q : zRq) : Int32 × zRr × zRq :=
  zc_vrq (Gk_readTest1 r q) <| fun v24 r25 q26 => zifn (v24 = (0 : Int32)) (Gk_readWhole1_13 1001 0 r25 q26) (((0 : Int32), r25, q26))
noncomputable def Gk_readPart0_130 (w130_5 : Int32) (rw130 : zRr) (qw130 : zRq) : Int32 × zRr × zRq :=
  zlet (α := zRr) ((Gk_add w130_5 rw130 qw130)) <| fun u1 => ((1 : Int32), u1, qw130)
noncomputable def Gk_readPart0_66 (r : zRr) (q : zRq) (w66_3 : Int32) (w66_4 : Int32) (w66_5 : Int32) : Int32 × zRr × zRq :=
  zc_rq (Gk_step r q) <| fun r5 q6 => zif (w66_3 = (0 : Int32)) (zif (w66_4 = (0 : Int32)) (Gk_readPart0_130 w66_5 r5 q6) (zc_vrq (Gk_readPart1 r5 q6) <| fun v13 r14 q15 => zifn (v13 = (0 : Int32)) (Gk_readPart0_130 w66_5 r14 q15) (((0 : Int32), r14, q15)))) (zc_vrq (Gk_readWhole1 r5 q6) <| fun v21 r22 q23 => zif (v21 = (0 : Int32)) (((0 : Int32), r22, q23)) (zc_vrq (Gk_take 22 r22 q23) <| fun v28 r29 q30 => zif (v28 = (0 : Int32)) (((0 : Int32), r29, q30)) (((1 : Int32), r29, q30))))
noncomputable def Gk_readPart0_47 (r : zRr) (q : zRq) (w47_3 : Int32) (w47_4 : Int32) (w47_s0 : Int32) : Int32 × zRr × zRq :=
  zifn (w47_3 = (0 : Int32)) (Gk_readPart0_66 r q w47_3 w47_4 w47_s0) (zifn (w47_s0 = ((-13) : Int32)) (Gk_readPart0_66 r q w47_3 w47_4 w47_s0) (zc_vr (Gk_wrong (1 : Int32) r q) <| fun v40 r41 => (v40, r41, q)))
noncomputable def Gk_readPart0_31 (r : zRr) (q : zRq) (w31_3 : Int32) (w31_s0 : Int32) : Int32 × zRr × zRq :=
  zif (w31_s0 = (0 : Int32)) (zlet (α := Int32) ((Gk_valueHere r q)) <| fun u44 => Gk_readPart0_47 r q w31_3 w31_s0 u44) (Gk_readPart0_47 r q w31_3 w31_s0 (-5))
noncomputable def Gk_readPart0_15 (r : zRr) (q : zRq) (w15_s0 : Int32) : Int32 × zRr × zRq :=
  zlet (α := Int32) (r 196 4) <| fun v47 => zifn (v47 = (18 : Int32)) (Gk_readPart0_31 r q w15_s0 0) (Gk_readPart0_31 r q w15_s0 1)
noncomputable def Gk_readPart0 (r : zRr) (q : zRq) : Int32 × zRr × zRq :=
  zlet (α := Int32) (r 196 4) <| fun v49 => zifn (v49 = (21 : Int32)) (Gk_readPart0_15 r q 0) (Gk_readPart0_15 r q 1)
noncomputable def Bk_readProduct0_13 (ih13 : Int32 → zRr → zRq → (Int32 × zRr × zRq)) (w13_3 : Int32) (rw13 : zRr) (qw13 : zRq) : Int32 × zRr × zRq :=
  zif ((1000 : Int32) ≤ w13_3) (((1 : Int32), rw13, qw13)) (zlet (α := Int32) (rw13 196 4) <| fun v4 => zifn (v4 = (27 : Int32)) (((1 : Int32), rw13, qw13)) (zc_rq (Gk_step rw13 qw13) <| fun r7 q8 => zc_vrq (Gk_readPart0 r7 q8) <| fun v10 r11 q12 => zifn (v10 = (0 : Int32)) (zlet (α := zRr) ((Gk_add ((-12) : Int32) r11 q12)) <| fun u15 => ih13 (w13_3 + 1) u15 q12) (((0 : Int32), r11, q12))))
noncomputable def Gk_readProduct0_13 (n : Nat) : Int32 → zRr → zRq → (Int32 × zRr × zRq) :=
  Nat.rec (motive := fun _ => Int32 → zRr → zRq → (Int32 × zRr × zRq)) (fun _ rw13 qw13 => (default, rw13, qw13)) (fun _ ih => Bk_readProduct0_13 ih) n
noncomputable def Gk_readProduct0 (r : zRr) (q : zRq) : Int32 × zRr × zRq :=
  zc_vrq (Gk_readPart0 r q) <| fun v20 r21 q22 => zifn (v20 = (0 : Int32)) (Gk_readProduct0_13 1001 0 r21 q22) (((0 : Int32), r21, q22))
noncomputable def Gk_readSum0_57 (w13_3 : Int32) (rw13 : zRr) (qw13 : zRq) (ih13 : Int32 → zRr → zRq → (Int32 × zRr × zRq)) (w57_s0 : Int32) : Int32 × zRr × zRq :=
  zc_rq (Gk_step rw13 qw13) <| fun r2 q3 => zc_vrq (Gk_readProduct0 r2 q3) <| fun v5 r6 q7 => zifn (v5 = (0 : Int32)) (zlet (α := zRr) ((Gk_add w57_s0 r6 q7)) <| fun u10 => ih13 (w13_3 + 1) u10 q7) (((0 : Int32), r6, q7))
noncomputable def Gk_readSum0_40 (w13_3 : Int32) (rw13 : zRr) (qw13 : zRq) (ih13 : Int32 → zRr → zRq → (Int32 × zRr × zRq)) : Int32 × zRr × zRq :=
  zlet (α := Int32) (rw13 196 4) <| fun v14 => zifn (v14 = (25 : Int32)) (Gk_readSum0_57 w13_3 rw13 qw13 ih13 (-11)) (Gk_readSum0_57 w13_3 rw13 qw13 ih13 (-10))
noncomputable def Bk_readSum0_13 (ih13 : Int32 → zRr → zRq → (Int32 × zRr × zRq)) (w13_3 : Int32) (rw13 : zRr) (qw13 : zRq) : Int32 × zRr × zRq :=
  zif ((1000 : Int32) ≤ w13_3) (((1 : Int32), rw13, qw13)) (zlet (α := Int32) (rw13 196 4) <| fun v19 => zif (v19 = (25 : Int32)) (Gk_readSum0_40 w13_3 rw13 qw13 ih13 ) (zlet (α := Int32) (rw13 196 4) <| fun v21 => zifn (v21 = (26 : Int32)) (((1 : Int32), rw13, qw13)) (Gk_readSum0_40 w13_3 rw13 qw13 ih13 )))
noncomputable def Gk_readSum0_13 (n : Nat) : Int32 → zRr → zRq → (Int32 × zRr × zRq) :=
  Nat.rec (motive := fun _ => Int32 → zRr → zRq → (Int32 × zRr × zRq)) (fun _ rw13 qw13 => (default, rw13, qw13)) (fun _ ih => Bk_readSum0_13 ih) n
noncomputable def Gk_readSum0 (r : zRr) (q : zRq) : Int32 × zRr × zRq :=
  zc_vrq (Gk_readProduct0 r q) <| fun v24 r25 q26 => zifn (v24 = (0 : Int32)) (Gk_readSum0_13 1001 0 r25 q26) (((0 : Int32), r25, q26))
noncomputable def Gk_readTest0_50 (w50_s0 : Int32) (rw50 : zRr) (qw50 : zRq) : Int32 × zRr × zRq :=
  zc_rq (Gk_step rw50 qw50) <| fun r2 q3 => zc_vrq (Gk_readSum0 r2 q3) <| fun v5 r6 q7 => zifn (v5 = (0 : Int32)) (zlet (α := zRr) ((Gk_add w50_s0 r6 q7)) <| fun u10 => ((1 : Int32), u10, q7)) (((0 : Int32), r6, q7))
noncomputable def Gk_readTest0_33 (rw33 : zRr) (qw33 : zRq) : Int32 × zRr × zRq :=
  zlet (α := Int32) (rw33 196 4) <| fun v13 => zifn (v13 = (23 : Int32)) (Gk_readTest0_50 (-9) rw33 qw33) (Gk_readTest0_50 (-8) rw33 qw33)
noncomputable def Gk_readTest0 (r : zRr) (q : zRq) : Int32 × zRr × zRq :=
  zc_vrq (Gk_readSum0 r q) <| fun v16 r17 q18 => zifn (v16 = (0 : Int32)) (zlet (α := Int32) (r17 196 4) <| fun v21 => zif (v21 = (23 : Int32)) (Gk_readTest0_33 r17 q18) (zlet (α := Int32) (r17 196 4) <| fun v23 => zif (v23 = (24 : Int32)) (Gk_readTest0_33 r17 q18) (((1 : Int32), r17, q18)))) (((0 : Int32), r17, q18))
noncomputable def Gk_readWhole0_57 (w13_3 : Int32) (rw13 : zRr) (qw13 : zRq) (ih13 : Int32 → zRr → zRq → (Int32 × zRr × zRq)) (w57_s0 : Int32) : Int32 × zRr × zRq :=
  zc_rq (Gk_step rw13 qw13) <| fun r2 q3 => zc_vrq (Gk_readTest0 r2 q3) <| fun v5 r6 q7 => zifn (v5 = (0 : Int32)) (zlet (α := zRr) ((Gk_add w57_s0 r6 q7)) <| fun u10 => ih13 (w13_3 + 1) u10 q7) (((0 : Int32), r6, q7))
noncomputable def Gk_readWhole0_40 (w13_3 : Int32) (rw13 : zRr) (qw13 : zRq) (ih13 : Int32 → zRr → zRq → (Int32 × zRr × zRq)) : Int32 × zRr × zRq :=
  zlet (α := Int32) (rw13 196 4) <| fun v14 => zifn (v14 = (19 : Int32)) (Gk_readWhole0_57 w13_3 rw13 qw13 ih13 (-7)) (Gk_readWhole0_57 w13_3 rw13 qw13 ih13 (-6))
noncomputable def Bk_readWhole0_13 (ih13 : Int32 → zRr → zRq → (Int32 × zRr × zRq)) (w13_3 : Int32) (rw13 : zRr) (qw13 : zRq) : Int32 × zRr × zRq :=
  zif ((1000 : Int32) ≤ w13_3) (((1 : Int32), rw13, qw13)) (zlet (α := Int32) (rw13 196 4) <| fun v19 => zif (v19 = (19 : Int32)) (Gk_readWhole0_40 w13_3 rw13 qw13 ih13 ) (zlet (α := Int32) (rw13 196 4) <| fun v21 => zifn (v21 = (20 : Int32)) (((1 : Int32), rw13, qw13)) (Gk_readWhole0_40 w13_3 rw13 qw13 ih13 )))
noncomputable def Gk_readWhole0_13 (n : Nat) : Int32 → zRr → zRq → (Int32 × zRr × zRq) :=
  Nat.rec (motive := fun _ => Int32 → zRr → zRq → (Int32 × zRr × zRq)) (fun _ rw13 qw13 => (default, rw13, qw13)) (fun _ ih => Bk_readWhole0_13 ih) n
noncomputable def Gk_readWhole0 (r : zRr) (q : zRq) : Int32 × zRr × zRq :=
  zc_vrq (Gk_readTest0 r q) <| fun v24 r25 q26 => zifn (v24 = (0 : Int32)) (Gk_readWhole0_13 1001 0 r25 q26) (((0 : Int32), r25, q26))
noncomputable def Gk_clear (r : zRr) (q : zRq) : zRr :=
  zlet (α := zRr) ((zset r 183 (upd (r 183) 9 (0 : Int32)))) <| fun r1 => zlet (α := zRr) ((zset r1 183 (upd (r1 183) 10 (0 : Int32)))) <| fun r2 => zlet (α := zRr) ((zset r2 183 (upd (r2 183) 11 (1 : Int32)))) <| fun r3 => zlet (α := zRr) ((zset r3 183 (upd (r3 183) 12 (2 : Int32)))) <| fun r4 => zlet (α := zRr) (zset r4 185 (zfl (r4 185) (0 : Int32) 6)) <| fun r5 => zlet (α := zRr) ((Gk_untold r5 q)) <| fun u6 => u6
noncomputable def Gk_kindHere (r : zRr) (q : zRq) : Int32 :=
  zlet (α := Int32) (r 196 4) <| fun v1 => zifn (v1 = (14 : Int32)) (zlet (α := Int32) (r 196 4) <| fun v3 => zifn (v3 = (15 : Int32)) (zlet (α := Int32) (r 196 4) <| fun v5 => zifn (v5 = (16 : Int32)) (zlet (α := Int32) (r 196 4) <| fun v7 => zifn (v7 = (17 : Int32)) (((-1) : Int32)) ((3 : Int32))) ((2 : Int32))) ((1 : Int32))) ((0 : Int32))
noncomputable def Gk_isNewName_40 (r : zRr) (q : zRq) : Int32 × zRr :=
  zc_vr (Gk_wrong (3 : Int32) r q) <| fun v2 r3 => (v2, r3)
noncomputable def Gk_isNewName (r : zRr) (q : zRq) : Int32 × zRr :=
  zlet (α := Int32) (r 196 4) <| fun v4 => zif (v4 = (29 : Int32)) (zlet (α := Int64) (q 196 6) <| fun v6 => zlet (α := Int32) ((Gk_townNamedD v6 r q)) <| fun u7 => zifn (u7 = ((-1) : Int32)) (Gk_isNewName_40 r q ) (zlet (α := Int64) (q 196 6) <| fun v12 => zlet (α := Int32) ((Gk_personNamedD v12 r q)) <| fun u13 => zif (u13 = ((-1) : Int32)) (((1 : Int32), r)) (Gk_isNewName_40 r q ))) (zc_vr (Gk_wrong (1 : Int32) r q) <| fun v19 r20 => (v19, r20))
noncomputable def Gk_readTown (r : zRr) (q : zRq) : Int32 × zRr × zRq :=
  zif ((r 183 9) < (6 : Int32)) (zc_rq (Gk_step r q) <| fun r4 q5 => zc_vr (Gk_isNewName r4 q5) <| fun v7 r8 => zifn (v7 = (0 : Int32)) (zlet (α := Int64) (q5 196 6) <| fun v11 => zlet (α := zRq) (zset q5 186 (vp_updL (q5 186) (zn (r 183 9)) v11)) <| fun q12 => zc_rq (Gk_step r8 q12) <| fun r14 q15 => zc_vrq (Gk_take 1 r14 q15) <| fun v17 r18 q19 => zifn (v17 = (0 : Int32)) (zc_vrq (Gk_takeNumber (0 : Int32) (30 : Int32) r18 q19) <| fun v23 r24 q25 => zlet (α := zRr) (zset r24 184 (upd (r24 184) (zn (r 183 9)) v23)) <| fun r26 => zlet (α := zRr) ((zset r26 183 (upd (r26 183) 9 ((r26 183 9) + 1)))) <| fun r28 => zlet (α := Int32) (r28 184 (zn (r 183 9))) <| fun v29 => zif (v29 = ((-1) : Int32)) (((0 : Int32), r28, q25)) (((1 : Int32), r28, q25))) (((0 : Int32), r18, q19))) (((0 : Int32), r8, q5))) (zc_vr (Gk_wrong (5 : Int32) r q) <| fun v36 r37 => (v36, r37, q))
noncomputable def Gk_readRoad_56 (rw56 : zRr) (qw56 : zRq) : Int32 × zRr × zRq :=
  zc_vr (Gk_wrong (3 : Int32) rw56 qw56) <| fun v2 r3 => (v2, r3, qw56)
noncomputable def Gk_readRoad (r : zRr) (q : zRq) : Int32 × zRr × zRq :=
  zc_rq (Gk_step r q) <| fun r5 q6 => zc_vr (Gk_townHereD r5 q6) <| fun v8 r9 => zifn (v8 = ((-1) : Int32)) (zc_rq (Gk_step r9 q6) <| fun r13 q14 => zc_vr (Gk_townHereD r13 q14) <| fun v16 r17 => zifn (v16 = ((-1) : Int32)) (zif (v8 = v16) (Gk_readRoad_56 r17 q14) (zlet (α := Int32) (r17 185 (zn v8)) <| fun v21 => zlet (α := Int32) ((Gk_has v21 v16)) <| fun u22 => zif (u22 = (0 : Int32)) (zc_rq (Gk_step r17 q14) <| fun r27 q28 => zlet (α := Int32) (r27 185 (zn v8)) <| fun v29 => zlet (α := Int32) (1 <<< (v16 &&& 31)) <| fun v30 => zlet (α := Int32) (v29 ||| v30) <| fun v31 => zlet (α := zRr) (zset r27 185 (upd (r27 185) (zn v8) v31)) <| fun r32 => zlet (α := Int32) (r32 185 (zn v16)) <| fun v33 => zlet (α := Int32) (1 <<< (v8 &&& 31)) <| fun v34 => zlet (α := Int32) (v33 ||| v34) <| fun v35 => zlet (α := zRr) (zset r32 185 (upd (r32 185) (zn v16) v35)) <| fun r36 => ((1 : Int32), r36, q28)) (Gk_readRoad_56 r17 q14))) (((0 : Int32), r17, q14))) (((0 : Int32), r9, q6))
noncomputable def Gk_readPerson (r : zRr) (q : zRq) : Int32 × zRr × zRq :=
  zif ((r 183 10) < (6 : Int32)) (zc_rq (Gk_step r q) <| fun r4 q5 => zc_vr (Gk_isNewName r4 q5) <| fun v7 r8 => zifn (v7 = (0 : Int32)) (zlet (α := Int64) (q5 196 6) <| fun v11 => zlet (α := zRq) (zset q5 191 (vp_updL (q5 191) (zn (r 183 10)) v11)) <| fun q12 => zc_rq (Gk_step r8 q12) <| fun r14 q15 => zlet (α := Int32) ((Gk_kindHere r14 q15)) <| fun u16 => zlet (α := zRr) (zset r14 187 (upd (r14 187) (zn (r 183 10)) u16)) <| fun r18 => zlet (α := Int32) (r18 187 (zn (r 183 10))) <| fun v19 => zifn (v19 = ((-1) : Int32)) (zc_rq (Gk_step r18 q15) <| fun r22 q23 => zc_vrq (Gk_take 4 r22 q23) <| fun v25 r26 q27 => zifn (v25 = (0 : Int32)) (zc_vr (Gk_townHereD r26 q27) <| fun v31 r32 => zlet (α := zRr) (zset r32 188 (upd (r32 188) (zn (r 183 10)) v31)) <| fun r33 => zifn ((r33 188 (zn (r 183 10))) = ((-1) : Int32)) (zc_rq (Gk_step r33 q27) <| fun r38 q39 => zlet (α := zRr) ((zset r38 183 (upd (r38 183) 10 ((r38 183 10) + 1)))) <| fun r41 => ((1 : Int32), r41, q39)) (((0 : Int32), r33, q27))) (((0 : Int32), r26, q27))) (zc_vr (Gk_wrong (1 : Int32) r18 q15) <| fun v46 r47 => (v46, r47, q15))) (((0 : Int32), r8, q5))) (zc_vr (Gk_wrong (5 : Int32) r q) <| fun v51 r52 => (v51, r52, q))
noncomputable def Gk_readGoods (a3 : Int32) (r : zRr) (q : zRq) : Int32 × zRr × zRq :=
  zc_vrq (Gk_take 5 r q) <| fun v2 r3 q4 => zifn (v2 = (0 : Int32)) (zc_vrq (Gk_takeNumber (0 : Int32) (30 : Int32) r3 q4) <| fun v8 r9 q10 => zlet (α := zRr) (zset r9 189 (upd (r9 189) (zn a3) v8)) <| fun r11 => zlet (α := Int32) (r11 189 (zn a3)) <| fun v12 => zif (v12 = ((-1) : Int32)) (((0 : Int32), r11, q10)) (zc_vrq (Gk_take 6 r11 q10) <| fun v16 r17 q18 => zifn (v16 = (0 : Int32)) (zc_vrq (Gk_takeNumber (0 : Int32) (99 : Int32) r17 q18) <| fun v22 r23 q24 => zlet (α := zRr) (zset r23 190 (upd (r23 190) (zn a3) v22)) <| fun r25 => zlet (α := Int32) (r25 190 (zn a3)) <| fun v26 => zif (v26 = ((-1) : Int32)) (((0 : Int32), r25, q24)) (((1 : Int32), r25, q24))) (((0 : Int32), r17, q18)))) (((0 : Int32), r3, q4))
noncomputable def Gk_readGrows (r : zRr) (q : zRq) : Int32 × zRr × zRq :=
  zlet (α := Int32) (r 198 0) <| fun v1 => zif (v1 = (0 : Int32)) (zlet (α := zRr) ((zset r 198 (upd (r 198) 0 (1 : Int32)))) <| fun r4 => zc_rq (Gk_step r4 q) <| fun r6 q7 => zc_vrq (Gk_takeNumber (0 : Int32) (5 : Int32) r6 q7) <| fun v9 r10 q11 => zlet (α := zRr) ((zset r10 183 (upd (r10 183) 11 v9))) <| fun r12 => zlet (α := Int32) (r12 183 11) <| fun v13 => zif (v13 = ((-1) : Int32)) (((0 : Int32), r12, q11)) (((1 : Int32), r12, q11))) (zc_vr (Gk_wrong (3 : Int32) r q) <| fun v18 r19 => (v18, r19, q))
noncomputable def Gk_readInch (r : zRr) (q : zRq) : Int32 × zRr × zRq :=
  zlet (α := Int32) (r 198 1) <| fun v1 => zif (v1 = (0 : Int32)) (zlet (α := zRr) ((zset r 198 (upd (r 198) 1 (1 : Int32)))) <| fun r4 => zc_rq (Gk_step r4 q) <| fun r6 q7 => zc_vrq (Gk_takeNumber (1 : Int32) (9 : Int32) r6 q7) <| fun v9 r10 q11 => zlet (α := zRr) ((zset r10 183 (upd (r10 183) 12 v9))) <| fun r12 => zlet (α := Int32) (r12 183 12) <| fun v13 => zif (v13 = ((-1) : Int32)) (((0 : Int32), r12, q11)) (((1 : Int32), r12, q11))) (zc_vr (Gk_wrong (3 : Int32) r q) <| fun v18 r19 => (v18, r19, q))
noncomputable def Gk_beginReads (r : zRr) (q : zRq) : Int32 × zRr × zRq :=
  zlet (α := Int32) (r 198 2) <| fun v1 => zif (v1 = (0 : Int32)) (zlet (α := zRr) ((zset r 198 (upd (r 198) 2 (1 : Int32)))) <| fun r4 => zc_rq (Gk_step r4 q) <| fun r6 q7 => zlet (α := zRr) ((zset r6 192 (upd (r6 192) 2 (0 : Int32)))) <| fun r8 => ((1 : Int32), r8, q7)) (zc_vr (Gk_wrong (3 : Int32) r q) <| fun v11 r12 => (v11, r12, q))
noncomputable def Gk_readLineL (r : zRr) (q : zRq) : Int32 × zRr × zRq :=
  zlet (α := Int32) (r 196 4) <| fun v1 => zifn (v1 = (0 : Int32)) (zlet (α := Int32) (r 196 4) <| fun v3 => zifn (v3 = (2 : Int32)) (zlet (α := Int32) (r 196 4) <| fun v5 => zifn (v5 = (3 : Int32)) (zlet (α := Int32) (r 196 4) <| fun v7 => zifn (v7 = (7 : Int32)) (zlet (α := Int32) (r 196 4) <| fun v9 => zifn (v9 = (8 : Int32)) (zlet (α := Int32) (r 196 4) <| fun v11 => zifn (v11 = (9 : Int32)) (zc_vr (Gk_wrong (1 : Int32) r q) <| fun v14 r15 => (v14, r15, q)) (zc_vrq (Gk_beginReads r q) <| fun v17 r18 q19 => zif (v17 = (0 : Int32)) (((0 : Int32), r18, q19)) (zc_vrq (Gk_readWhole0 r18 q19) <| fun v24 r25 q26 => zif (v24 = (0 : Int32)) (((0 : Int32), r25, q26)) (((1 : Int32), r25, q26))))) (zc_vrq (Gk_readInch r q) <| fun v31 r32 q33 => (v31, r32, q33))) (zc_vrq (Gk_readGrows r q) <| fun v35 r36 q37 => (v35, r36, q37))) (zc_vrq (Gk_readPerson r q) <| fun v39 r40 q41 => zif (v39 = (0 : Int32)) (((0 : Int32), r40, q41)) (zlet (α := Int32) ((r40 183 10) - 1) <| fun v45 => zc_vrq (Gk_readGoods v45 r40 q41) <| fun v47 r48 q49 => zif (v47 = (0 : Int32)) (((0 : Int32), r48, q49)) (((1 : Int32), r48, q49))))) (zc_vrq (Gk_readRoad r q) <| fun v54 r55 q56 => (v54, r55, q56))) (zc_vrq (Gk_readTown r q) <| fun v58 r59 q60 => (v58, r59, q60))
noncomputable def Bk_readL_25 (ih25 : Int32 → zRr → zRq → (Int32 × zRr × zRq)) (w25_3 : Int32) (rw25 : zRr) (qw25 : zRq) : Int32 × zRr × zRq :=
  zif ((1000 : Int32) ≤ w25_3) (((1 : Int32), rw25, qw25)) (zlet (α := Int32) (rw25 196 4) <| fun v4 => zif (v4 = (31 : Int32)) (((1 : Int32), rw25, qw25)) (zc_vrq (Gk_readLineL rw25 qw25) <| fun v7 r8 q9 => zif (v7 = (0 : Int32)) (((0 : Int32), r8, q9)) (zc_vrq (Gk_take 28 r8 q9) <| fun v14 r15 q16 => zifn (v14 = (0 : Int32)) (ih25 (w25_3 + 1) r15 q16) (((0 : Int32), r15, q16)))))
noncomputable def Gk_readL_25 (n : Nat) : Int32 → zRr → zRq → (Int32 × zRr × zRq) :=
  Nat.rec (motive := fun _ => Int32 → zRr → zRq → (Int32 × zRr × zRq)) (fun _ rw25 qw25 => (default, rw25, qw25)) (fun _ ih => Bk_readL_25 ih) n
noncomputable def Gk_readL (r : zRr) (q : zRq) : Int32 × zRr × zRq :=
  zlet (α := zRr) ((Gk_clear r q)) <| fun u21 => zlet (α := zRr) ((zset u21 198 (upd (u21 198) 0 (0 : Int32)))) <| fun r23 => zlet (α := zRr) ((zset r23 198 (upd (r23 198) 1 (0 : Int32)))) <| fun r24 => zlet (α := zRr) ((zset r24 198 (upd (r24 198) 2 (0 : Int32)))) <| fun r25 => zc_rq (Gk_begin r25 q) <| fun r27 q28 => Gk_readL_25 1001 0 r27 q28
noncomputable def Gk_deedHere (r : zRr) (q : zRq) : Int32 :=
  zlet (α := Int32) (r 196 4) <| fun v1 => zifn (v1 = (10 : Int32)) (zlet (α := Int32) (r 196 4) <| fun v3 => zifn (v3 = (11 : Int32)) (zlet (α := Int32) (r 196 4) <| fun v5 => zifn (v5 = (12 : Int32)) (zlet (α := Int32) (r 196 4) <| fun v7 => zifn (v7 = (13 : Int32)) (((-1) : Int32)) ((3 : Int32))) ((2 : Int32))) ((1 : Int32))) ((0 : Int32))
noncomputable def Gk_readDoer_87 (a3 : Int32) (rw87 : zRr) (qw87 : zRq) : Int32 × zRr × zRq :=
  zif ((rw87 145 (zn a3)) = ((-1) : Int32)) (((0 : Int32), rw87, qw87)) (((1 : Int32), rw87, qw87))
noncomputable def Gk_readDoer (a3 : Int32) (r : zRr) (q : zRq) : Int32 × zRr × zRq :=
  zc_vr (Gk_personHere r q) <| fun v4 r5 => zlet (α := zRr) (zset r5 144 (upd (r5 144) (zn a3) v4)) <| fun r6 => zifn ((r6 144 (zn a3)) = ((-1) : Int32)) (zc_rq (Gk_step r6 q) <| fun r11 q12 => zifn ((r11 143 (zn a3)) = (1 : Int32)) (zifn ((r11 143 (zn a3)) = (0 : Int32)) (Gk_readDoer_87 a3 r11 q12) (zc_vr (Gk_townHere r11 q12) <| fun v17 r18 => zlet (α := zRr) (zset r18 145 (upd (r18 145) (zn a3) v17)) <| fun r19 => zif ((r19 145 (zn a3)) = ((-1) : Int32)) (Gk_readDoer_87 a3 r19 q12) (zc_rq (Gk_step r19 q12) <| fun r23 q24 => Gk_readDoer_87 a3 r23 q24))) (zc_vrq (Gk_takeNumber (1 : Int32) (20 : Int32) r11 q12) <| fun v27 r28 q29 => zlet (α := zRr) (zset r28 145 (upd (r28 145) (zn a3) v27)) <| fun r30 => Gk_readDoer_87 a3 r30 q29)) (((0 : Int32), r6, q))
noncomputable def Gk_readLineJ (r : zRr) (q : zRq) : Int32 × zRr × zRq :=
  zlet (α := Int32) ((Gk_deedHere r q)) <| fun u1 => zifn (u1 = ((-1) : Int32)) (zif ((r 142 3) < (40 : Int32)) (zlet (α := zRr) ((zset r 142 (upd (r 142) 3 ((r 142 3) + 1)))) <| fun r8 => zlet (α := zRr) (zset r8 143 (upd (r8 143) (zn (r 142 3)) u1)) <| fun r9 => zlet (α := zRr) (zset r9 144 (upd (r9 144) (zn (r 142 3)) (0 : Int32))) <| fun r10 => zlet (α := zRr) (zset r10 145 (upd (r10 145) (zn (r 142 3)) (0 : Int32))) <| fun r11 => zc_rq (Gk_step r11 q) <| fun r13 q14 => zif (u1 = (3 : Int32)) (((1 : Int32), r13, q14)) (zc_vrq (Gk_readDoer (r 142 3) r13 q14) <| fun v19 r20 q21 => zif (v19 = (0 : Int32)) (((0 : Int32), r20, q21)) (((1 : Int32), r20, q21)))) (zc_vr (Gk_wrong (5 : Int32) r q) <| fun v27 r28 => (v27, r28, q))) (zc_vr (Gk_wrong (1 : Int32) r q) <| fun v31 r32 => (v31, r32, q))
noncomputable def Bk_readJ_11 (ih11 : Int32 → zRr → zRq → (Int32 × zRr × zRq)) (w11_3 : Int32) (rw11 : zRr) (qw11 : zRq) : Int32 × zRr × zRq :=
  zif ((1000 : Int32) ≤ w11_3) (((1 : Int32), rw11, qw11)) (zlet (α := Int32) (rw11 196 4) <| fun v4 => zif (v4 = (31 : Int32)) (((1 : Int32), rw11, qw11)) (zc_vrq (Gk_readLineJ rw11 qw11) <| fun v7 r8 q9 => zif (v7 = (0 : Int32)) (((0 : Int32), r8, q9)) (zc_vrq (Gk_take 28 r8 q9) <| fun v14 r15 q16 => zifn (v14 = (0 : Int32)) (ih11 (w11_3 + 1) r15 q16) (((0 : Int32), r15, q16)))))
noncomputable def Gk_readJ_11 (n : Nat) : Int32 → zRr → zRq → (Int32 × zRr × zRq) :=
  Nat.rec (motive := fun _ => Int32 → zRr → zRq → (Int32 × zRr × zRq)) (fun _ rw11 qw11 => (default, rw11, qw11)) (fun _ ih => Bk_readJ_11 ih) n
noncomputable def Gk_readJ (r : zRr) (q : zRq) : Int32 × zRr × zRq :=
  zlet (α := zRr) ((zset r 142 (upd (r 142) 3 (0 : Int32)))) <| fun r21 => zc_rq (Gk_begin r21 q) <| fun r23 q24 => Gk_readJ_11 1001 0 r23 q24
