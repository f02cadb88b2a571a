noncomputable def Gk_bitCount (a0 : Int32) : Int32 :=
  zlet (α := Int32) ((a0.toUInt32 >>> ((1 : Int32).toUInt32 &&& Int32.toUInt32 31)).toInt32) <| fun v1 => zlet (α := Int32) (v1 &&& 1431655765) <| fun v2 => zlet (α := Int32) (a0 - v2) <| fun v3 => zlet (α := Int32) (v3 &&& 858993459) <| fun v4 => zlet (α := Int32) ((v3.toUInt32 >>> ((2 : Int32).toUInt32 &&& Int32.toUInt32 31)).toInt32) <| fun v5 => zlet (α := Int32) (v5 &&& 858993459) <| fun v6 => zlet (α := Int32) (v4 + v6) <| fun v7 => zlet (α := Int32) ((v7.toUInt32 >>> ((4 : Int32).toUInt32 &&& Int32.toUInt32 31)).toInt32) <| fun v8 => zlet (α := Int32) (v7 + v8) <| fun v9 => zlet (α := Int32) (v9 &&& 252645135) <| fun v10 => zlet (α := Int32) ((v10.toUInt32 >>> ((8 : Int32).toUInt32 &&& Int32.toUInt32 31)).toInt32) <| fun v11 => zlet (α := Int32) (v10 + v11) <| fun v12 => zlet (α := Int32) ((v12.toUInt32 >>> ((16 : Int32).toUInt32 &&& Int32.toUInt32 31)).toInt32) <| fun v13 => zlet (α := Int32) (v12 + v13) <| fun v14 => zlet (α := Int32) (v14 &&& 63) <| fun v15 => v15
noncomputable def Gk_ntz_62 (w62_0 : Int32) (w62_1 : Int32) : Int32 :=
  zif (w62_0 ≤ (4 : Int32)) (zlet (α := Int32) ((w62_0.toUInt32 >>> ((1 : Int32).toUInt32 &&& Int32.toUInt32 31)).toInt32) <| fun v3 => zlet (α := Int32) (w62_1 + v3) <| fun v4 => v4) (zlet (α := Int32) ((w62_0.toUInt32 >>> ((2 : Int32).toUInt32 &&& Int32.toUInt32 31)).toInt32) <| fun v7 => zlet (α := Int32) ((v7.toUInt32 >>> ((1 : Int32).toUInt32 &&& Int32.toUInt32 31)).toInt32) <| fun v8 => zlet (α := Int32) ((w62_1 + 2) + v8) <| fun v9 => v9)
noncomputable def Gk_ntz_49 (w49_0 : Int32) (w49_1 : Int32) : Int32 :=
  zif (w49_0 ≤ (16 : Int32)) (Gk_ntz_62 w49_0 w49_1) (zlet (α := Int32) ((w49_0.toUInt32 >>> ((4 : Int32).toUInt32 &&& Int32.toUInt32 31)).toInt32) <| fun v14 => Gk_ntz_62 v14 (w49_1 + 4))
noncomputable def Gk_ntz_34 (w34_0 : Int32) (w34_1 : Int32) : Int32 :=
  zif (w34_0 ≤ (256 : Int32)) (Gk_ntz_49 w34_0 w34_1) (zlet (α := Int32) ((w34_0.toUInt32 >>> ((8 : Int32).toUInt32 &&& Int32.toUInt32 31)).toInt32) <| fun v19 => Gk_ntz_49 v19 (w34_1 + 8))
noncomputable def Gk_ntz (a0 : Int32) : Int32 :=
  zlet (α := Int32) (a0 ^^^ (-1)) <| fun v20 => zlet (α := Int32) (a0 - 1) <| fun v21 => zlet (α := Int32) (v20 &&& v21) <| fun v22 => zif ((0 : Int32) < v22) (zif (v22 ≤ (65536 : Int32)) (Gk_ntz_34 v22 1) (zlet (α := Int32) ((v22.toUInt32 >>> ((16 : Int32).toUInt32 &&& Int32.toUInt32 31)).toInt32) <| fun v28 => Gk_ntz_34 v28 17)) (zlet (α := Int32) (v22 &&& 32) <| fun v30 => v30)
noncomputable def Gk_nlz_61 (w61_0 : Int32) (w61_1 : Int32) : Int32 :=
  zif (w61_0 < (4 : Int32)) (zlet (α := Int32) ((w61_0.toUInt32 >>> ((1 : Int32).toUInt32 &&& Int32.toUInt32 31)).toInt32) <| fun v3 => zlet (α := Int32) (w61_1 - v3) <| fun v4 => v4) (zlet (α := Int32) ((w61_0.toUInt32 >>> ((2 : Int32).toUInt32 &&& Int32.toUInt32 31)).toInt32) <| fun v7 => zlet (α := Int32) ((v7.toUInt32 >>> ((1 : Int32).toUInt32 &&& Int32.toUInt32 31)).toInt32) <| fun v8 => zlet (α := Int32) ((w61_1 + (-2)) - v8) <| fun v9 => v9)
noncomputable def Gk_nlz_48 (w48_0 : Int32) (w48_1 : Int32) : Int32 :=
  zif (w48_0 < (16 : Int32)) (Gk_nlz_61 w48_0 w48_1) (zlet (α := Int32) ((w48_0.toUInt32 >>> ((4 : Int32).toUInt32 &&& Int32.toUInt32 31)).toInt32) <| fun v14 => Gk_nlz_61 v14 (w48_1 + (-4)))
noncomputable def Gk_nlz_33 (w33_0 : Int32) (w33_1 : Int32) : Int32 :=
  zif (w33_0 < (256 : Int32)) (Gk_nlz_48 w33_0 w33_1) (zlet (α := Int32) ((w33_0.toUInt32 >>> ((8 : Int32).toUInt32 &&& Int32.toUInt32 31)).toInt32) <| fun v19 => Gk_nlz_48 v19 (w33_1 + (-8)))
noncomputable def Gk_nlz (a0 : Int32) : Int32 :=
  zif ((0 : Int32) < a0) (zif (a0 < (65536 : Int32)) (Gk_nlz_33 a0 31) (zlet (α := Int32) ((a0.toUInt32 >>> ((16 : Int32).toUInt32 &&& Int32.toUInt32 31)).toInt32) <| fun v25 => Gk_nlz_33 v25 15)) (zifn (a0 = (0 : Int32)) ((0 : Int32)) ((32 : Int32)))
noncomputable def Gk_has (a0 : Int32) (a1 : Int32) : Int32 :=
  zlet (α := Int32) (a0 >>> (a1 &&& 31)) <| fun v1 => zlet (α := Int32) (v1 &&& 1) <| fun v2 => zif (v2 = (0 : Int32)) ((0 : Int32)) ((1 : Int32))
noncomputable def Gk_isStake (a0 : Int32) : Int32 :=
  zif (a0 < (0 : Int32)) ((0 : Int32)) (zif ((9 : Int32) < a0) ((0 : Int32)) ((1 : Int32)))
noncomputable def Gk_isLetter (a0 : Int32) : Int32 :=
  zif (a0 < (97 : Int32)) ((0 : Int32)) (zif ((122 : Int32) < a0) ((0 : Int32)) ((1 : Int32)))
noncomputable def Gk_isDigit (a0 : Int32) : Int32 :=
  zif (a0 < (48 : Int32)) ((0 : Int32)) (zif ((57 : Int32) < a0) ((0 : Int32)) ((1 : Int32)))
noncomputable def Gk_nextDraw (a0 : Int64) : Int64 :=
  ((a0 * (1103515245 : Int64)) + (12345 : Int64)) - ((a0 * (1103515245 : Int64)) + (12345 : Int64)) / (2147483648 : Int64) * (2147483648 : Int64)
noncomputable def Gk_below6 (a0 : Int64) (a1 : Int32) : Int32 :=
  zif ((1 : Int32) ≤ a1) (zlet (α := Int32) (((a0 / (65536 : Int64)) - (a0 / (65536 : Int64)) / a1.toInt64 * a1.toInt64).toInt32) <| fun v3 => v3) ((0 : Int32))
noncomputable def Gk_below20 (a0 : Int64) : Int32 :=
  zlet (α := Int64) (a0 / (65536 : Int64)) <| fun v2 => zlet (α := Int64) (v2 - v2 / (20 : Int64) * (20 : Int64)) <| fun v3 => zlet (α := Int32) (v3.toInt32) <| fun v4 => v4
noncomputable def Gk_coder (a0 : Nat) : Int32 :=
  (0 : Int32)
noncomputable def Gk_isLatin1 (a0 : Nat) : Int32 :=
  (1 : Int32)
noncomputable def Gk_length (a0 : Nat) : Int32 :=
  zlet (α := Int32) ((Gk_coder a0)) <| fun u3 => (nI (eL.getD a0 0)) >>> (u3 &&& 31)
noncomputable def Gk_check3 (a0 : Int32) (a1 : Int32) (a2 : Option Nat) : Int32 :=
  zif (a0 < (0 : Int32)) (default) (zif (a0 < a1) (a0) (default))
noncomputable def Gk_charAt1 (a0 : Nat) (a1 : Int32) : Int32 :=
  zlet (α := Int32) ((eB.getD a0 []).getD a1.toNatClampNeg 0) <| fun v4 => zlet (α := Int32) (v4 &&& 255) <| fun v5 => zlet (α := Int32) ((v5.toUInt32 % 65536).toInt32) <| fun v6 => v6
noncomputable def Gk_charAt (a0 : Nat) (a1 : Int32) : Int32 :=
  zlet (α := Int32) ((Gk_isLatin1 a0)) <| fun u1 => zif (u1 = (0 : Int32)) (default) (zlet (α := Int32) ((Gk_charAt1 a0 a1)) <| fun u4 => u4)
noncomputable def Bk_spells_20 (a1 : Nat) (r : zRr) (ih20 : Int32 → Int32) (w20_2 : Int32) : Int32 :=
  zlet (α := Int32) ((Gk_length a1)) <| fun u1 => zif (u1 ≤ w20_2) ((1 : Int32)) (zif ((r 196 1) ≤ ((r 196 2) + w20_2)) ((1 : Int32)) (zlet (α := Int32) (r 197 (zn ((r 196 2) + w20_2))) <| fun v10 => zlet (α := Int32) ((Gk_charAt a1 w20_2)) <| fun u11 => zif (v10 = u11) (ih20 (w20_2 + 1)) ((0 : Int32))))
noncomputable def Gk_spells_20 (a1 : Nat) (r : zRr) (n : Nat) : Int32 → Int32 :=
  Nat.rec (motive := fun _ => Int32 → Int32) (fun _ => default) (fun _ ih => Bk_spells_20 a1 r ih) n
noncomputable def Gk_spells (a1 : Nat) (r : zRr) (q : zRq) : Int32 :=
  zlet (α := Int32) ((r 196 3) - (r 196 2)) <| fun v15 => zlet (α := Int32) ((Gk_length a1)) <| fun u16 => zif (v15 = u16) (Gk_spells_20 a1 r 9 0) ((0 : Int32))
noncomputable def Bk_sortAs_2 (r : zRr) (q : zRq) (ih2 : Int32 → Int32 → Int32) (w2_1 : Int32) (w2_2 : Int32) : Int32 :=
  zif ((33 : Int32) ≤ w2_2) (w2_1) (zlet (α := Int32) ((Gk_spells (zn w2_2) r q)) <| fun u4 => zif (u4 = (0 : Int32)) (ih2 w2_1 (w2_2 + 1)) (w2_2))
noncomputable def Gk_sortAs_2 (r : zRr) (q : zRq) (n : Nat) : Int32 → Int32 → Int32 :=
  Nat.rec (motive := fun _ => Int32 → Int32 → Int32) (fun _ _ => default) (fun _ ih => Bk_sortAs_2 r q ih) n
noncomputable def Gk_sortAs (a1 : Int32) (r : zRr) (q : zRq) : Int32 :=
  Gk_sortAs_2 r q 34 a1 0
noncomputable def Gk_wrong (a1 : Int32) (r : zRr) (q : zRq) : Int32 × zRr :=
  zlet (α := Int32) (r 196 2) <| fun v1 => zlet (α := Int32) (16 * v1) <| fun v2 => zlet (α := Int32) (a1 + v2) <| fun v3 => zlet (α := zRr) ((zset r 196 (upd (r 196) 7 v3))) <| fun r4 => ((0 : Int32), r4)
noncomputable def Gk_put_82 (w3_3 : Int32) (ih3 : Int32 → zRr → zRr) (rw82 : zRr) : zRr :=
  ih3 (w3_3 + (-8)) rw82
noncomputable def Gk_put_43 (w3_3 : Int32) (rw3 : zRr) (ih3 : Int32 → zRr → zRr) (w43_4 : Int32) (w43_s0 : Int32) : zRr :=
  zif (w43_s0 = (0 : Int32)) (Gk_put_82 w3_3 ih3 rw3) (zif ((1000 : Int32) ≤ (rw3 196 1)) (Gk_put_82 w3_3 ih3 rw3) (zlet (α := Int32) ((w43_4.toUInt32 % 65536).toInt32) <| fun v8 => zlet (α := zRr) (zset rw3 197 (upd (rw3 197) (zn (rw3 196 1)) (vp_nar .char v8))) <| fun r9 => zlet (α := zRr) ((zset r9 196 (upd (r9 196) 1 ((r9 196 1) + 1)))) <| fun r11 => Gk_put_82 w3_3 ih3 r11))
noncomputable def Gk_put_42 (w3_3 : Int32) (rw3 : zRr) (ih3 : Int32 → zRr → zRr) (w42_4 : Int32) : zRr :=
  Gk_put_43 w3_3 rw3 ih3 w42_4 0
noncomputable def Gk_put_38 (w3_3 : Int32) (rw3 : zRr) (ih3 : Int32 → zRr → zRr) (w38_4 : Int32) : zRr :=
  Gk_put_43 w3_3 rw3 ih3 w38_4 1
noncomputable def Bk_put_3 (a1 : Int64) (ih3 : Int32 → zRr → zRr) (w3_3 : Int32) (rw3 : zRr) : zRr :=
  zif (w3_3 < (0 : Int32)) (rw3) (zlet (α := Int64) ((a1.toUInt64 >>> (w3_3.toInt64.toUInt64 &&& Int64.toUInt64 63)).toInt64) <| fun v15 => zlet (α := Int64) (v15 &&& (255 : Int64)) <| fun v16 => zlet (α := Int32) (v16.toInt32) <| fun v17 => zif (v17 = (10 : Int32)) (Gk_put_38 w3_3 rw3 ih3 v17) (zif (v17 < (32 : Int32)) (Gk_put_42 w3_3 rw3 ih3 v17) (zif ((126 : Int32) < v17) (Gk_put_42 w3_3 rw3 ih3 v17) (Gk_put_38 w3_3 rw3 ih3 v17))))
noncomputable def Gk_put_3 (a1 : Int64) (n : Nat) : Int32 → zRr → zRr :=
  Nat.rec (motive := fun _ => Int32 → zRr → zRr) (fun _ rw3 => rw3) (fun _ ih => Bk_put_3 a1 ih) n
noncomputable def Gk_put (a1 : Int64) (r : zRr) (q : zRq) : zRr :=
  Gk_put_3 a1 65 56 r
noncomputable def Bk_stepOverWord_5 (ih5 : zRr → zRq → (zRr × zRq)) (rw5 : zRr) (qw5 : zRq) : zRr × zRq :=
  zif ((rw5 196 1) ≤ (rw5 196 3)) ((rw5, qw5)) (zlet (α := Int32) (rw5 197 (zn (rw5 196 3))) <| fun v4 => zlet (α := Int32) ((Gk_isLetter v4)) <| fun u5 => zif (u5 = (0 : Int32)) ((rw5, qw5)) (zlet (α := Int64) (qw5 196 6) <| fun v10 => zlet (α := Int64) (v10 <<< ((5 : Int32).toInt64 &&& 63)) <| fun v11 => zlet (α := Int32) (rw5 197 (zn (rw5 196 3))) <| fun v12 => zlet (α := Int32) (v12 - 97) <| fun v13 => zlet (α := Int32) (v13 + 1) <| fun v14 => zlet (α := Int64) (v14.toInt64) <| fun v15 => zlet (α := Int64) (v11 ||| v15) <| fun v16 => zlet (α := zRq) (zset qw5 196 (vp_updL (qw5 196) 6 v16)) <| fun q17 => zlet (α := zRr) ((zset rw5 196 (upd (rw5 196) 3 ((rw5 196 3) + 1)))) <| fun r19 => ih5 r19 q17))
noncomputable def Gk_stepOverWord_5 (n : Nat) : zRr → zRq → (zRr × zRq) :=
  Nat.rec (motive := fun _ => zRr → zRq → (zRr × zRq)) (fun rw5 qw5 => (rw5, qw5)) (fun _ ih => Bk_stepOverWord_5 ih) n
noncomputable def Gk_stepOverWord (r : zRr) (q : zRq) : zRr × zRq :=
  zlet (α := zRq) (zset q 196 (vp_updL (q 196) 6 (0 : Int64))) <| fun q20 => Gk_stepOverWord_5 1001 r q20
noncomputable def Bk_stepOverNumber_5 (ih5 : zRr → zRr) (rw5 : zRr) : zRr :=
  zif ((rw5 196 1) ≤ (rw5 196 3)) (rw5) (zlet (α := Int32) (rw5 197 (zn (rw5 196 3))) <| fun v4 => zlet (α := Int32) ((Gk_isDigit v4)) <| fun u5 => zif (u5 = (0 : Int32)) (rw5) (zlet (α := Int32) (rw5 196 5) <| fun v10 => zlet (α := Int32) (v10 * 10) <| fun v11 => zlet (α := Int32) (rw5 197 (zn (rw5 196 3))) <| fun v12 => zlet (α := Int32) (v12 - 48) <| fun v13 => zlet (α := Int32) (v11 + v13) <| fun v14 => zlet (α := zRr) ((zset rw5 196 (upd (rw5 196) 5 v14))) <| fun r15 => zlet (α := zRr) ((zset r15 196 (upd (r15 196) 3 ((r15 196 3) + 1)))) <| fun r17 => ih5 r17))
noncomputable def Gk_stepOverNumber_5 (n : Nat) : zRr → zRr :=
  Nat.rec (motive := fun _ => zRr → zRr) (fun rw5 => rw5) (fun _ ih => Bk_stepOverNumber_5 ih) n
noncomputable def Gk_stepOverNumber (r : zRr) (q : zRq) : zRr :=
  zlet (α := zRr) ((zset r 196 (upd (r 196) 5 (0 : Int32)))) <| fun r18 => Gk_stepOverNumber_5 1001 r18
noncomputable def Gk_step_176 (q : zRq) (w176_s0 : Int32) (rw176 : zRr) : zRr × zRq :=
  zlet (α := zRr) ((zset rw176 196 (upd (rw176 196) 4 w176_s0))) <| fun r1 => (r1, q)
noncomputable def Gk_step_128 (w128_s0 : Int32) (rw128 : zRr) (qw128 : zRq) : zRr × zRq :=
  zlet (α := zRr) ((zset rw128 196 (upd (rw128 196) 4 w128_s0))) <| fun r2 => (r2, qw128)
noncomputable def Gk_step_52 (q : zRq) (rw52 : zRr) : zRr × zRq :=
  zlet (α := zRr) ((zset rw52 196 (upd (rw52 196) 2 (rw52 196 3)))) <| fun r3 => zif ((r3 196 3) < (r3 196 1)) (zlet (α := Int32) (r3 197 (zn (r3 196 3))) <| fun v7 => zlet (α := Int32) ((Gk_isLetter v7)) <| fun u8 => zif (u8 = (0 : Int32)) (zlet (α := Int32) (r3 197 (zn (r3 196 3))) <| fun v12 => zlet (α := Int32) ((Gk_isDigit v12)) <| fun u13 => zif (u13 = (0 : Int32)) (zlet (α := zRr) ((zset r3 196 (upd (r3 196) 3 ((r3 196 3) + 1)))) <| fun r18 => zlet (α := Int32) ((Gk_sortAs 32 r18 q)) <| fun u19 => zlet (α := zRr) ((zset r18 196 (upd (r18 196) 4 u19))) <| fun r21 => (r21, q)) (zlet (α := zRr) ((Gk_stepOverNumber r3 q)) <| fun u23 => zlet (α := Int32) (u23 196 2) <| fun v25 => zlet (α := Int32) ((u23 196 3) - v25) <| fun v26 => zif (v26 ≤ (4 : Int32)) (Gk_step_176 q 30 u23) (Gk_step_176 q 32 u23))) (zc_rq (Gk_stepOverWord r3 q) <| fun r32 q33 => zlet (α := Int32) (r32 196 2) <| fun v34 => zlet (α := Int32) ((r32 196 3) - v34) <| fun v35 => zif (v35 ≤ (8 : Int32)) (zlet (α := Int32) ((Gk_sortAs 29 r32 q33)) <| fun u38 => Gk_step_128 u38 r32 q33) (Gk_step_128 32 r32 q33))) (zlet (α := zRr) ((zset r3 196 (upd (r3 196) 4 (31 : Int32)))) <| fun r41 => (r41, q))
noncomputable def Gk_step_39 (rw0 : zRr) (ih0 : zRr → (zRr × zRq)) : zRr × zRq :=
  zlet (α := zRr) ((zset rw0 196 (upd (rw0 196) 3 ((rw0 196 3) + 1)))) <| fun r43 => ih0 r43
noncomputable def Bk_step_0 (q : zRq) (ih0 : zRr → (zRr × zRq)) (rw0 : zRr) : zRr × zRq :=
  zif ((rw0 196 1) ≤ (rw0 196 3)) (Gk_step_52 q rw0) (zlet (α := Int32) (rw0 197 (zn (rw0 196 3))) <| fun v47 => zif (v47 = (32 : Int32)) (Gk_step_39 rw0 ih0 ) (zlet (α := Int32) (rw0 197 (zn (rw0 196 3))) <| fun v50 => zifn (v50 = (10 : Int32)) (Gk_step_52 q rw0) (Gk_step_39 rw0 ih0 )))
noncomputable def Gk_step_0 (q : zRq) (n : Nat) : zRr → (zRr × zRq) :=
  Nat.rec (motive := fun _ => zRr → (zRr × zRq)) (fun rw0 => (rw0, q)) (fun _ ih => Bk_step_0 q ih) n
noncomputable def Gk_step (r : zRr) (q : zRq) : zRr × zRq :=
  Gk_step_0 q 1001 r
noncomputable def Gk_begin (r : zRr) (q : zRq) : zRr × zRq :=
  zlet (α := zRr) ((zset r 196 (upd (r 196) 3 (0 : Int32)))) <| fun r1 => zlet (α := zRr) ((zset r1 196 (upd (r1 196) 7 (0 : Int32)))) <| fun r2 => zc_rq (Gk_step r2 q) <| fun r4 q5 => (r4, q5)
noncomputable def Gk_take (a1 : Int32) (r : zRr) (q : zRq) : Int32 × zRr × zRq :=
  zlet (α := Int32) (r 196 4) <| fun v1 => zif (v1 = a1) (zc_rq (Gk_step r q) <| fun r4 q5 => ((1 : Int32), r4, q5)) (zc_vr (Gk_wrong (1 : Int32) r q) <| fun v7 r8 => (v7, r8, q))
noncomputable def Gk_takeNumber_26 (r : zRr) (q : zRq) : Int32 × zRr × zRq :=
  zlet (α := Int32) (r 196 4) <| fun v1 => zif (v1 = (30 : Int32)) (zc_vr (Gk_wrong (4 : Int32) r q) <| fun v4 r5 => (((-1) : Int32), r5, q)) (zc_vr (Gk_wrong (1 : Int32) r q) <| fun v7 r8 => (((-1) : Int32), r8, q))
noncomputable def Gk_takeNumber (a1 : Int32) (a2 : Int32) (r : zRr) (q : zRq) : Int32 × zRr × zRq :=
  zlet (α := Int32) (r 196 4) <| fun v9 => zifn (v9 = (30 : Int32)) (Gk_takeNumber_26 r q ) (zlet (α := Int32) (r 196 5) <| fun v11 => zif (v11 < a1) (Gk_takeNumber_26 r q ) (zlet (α := Int32) (r 196 5) <| fun v13 => zif (v13 ≤ a2) (zlet (α := Int32) (r 196 5) <| fun v15 => zc_rq (Gk_step r q) <| fun r17 q18 => (v15, r17, q18)) (Gk_takeNumber_26 r q )))
noncomputable def Bk_townNamed_2 (a1 : Int64) (r : zRr) (q : zRq) (ih2 : Int32 → Int32) (w2_3 : Int32) : Int32 :=
  zlet (α := Int32) (r 171 9) <| fun v1 => zif (v1 ≤ w2_3) (((-1) : Int32)) (zlet (α := Int64) (q 174 (zn w2_3)) <| fun v5 => zlet (α := Int32) (lg_cmp v5 a1) <| fun v6 => zifn (v6 = (0 : Int32)) (ih2 (w2_3 + 1)) (w2_3))
noncomputable def Gk_townNamed_2 (a1 : Int64) (r : zRr) (q : zRq) (n : Nat) : Int32 → Int32 :=
  Nat.rec (motive := fun _ => Int32 → Int32) (fun _ => default) (fun _ ih => Bk_townNamed_2 a1 r q ih) n
noncomputable def Gk_townNamed (a1 : Int64) (r : zRr) (q : zRq) : Int32 :=
  Gk_townNamed_2 a1 r q 7 0
noncomputable def Gk_townHere_44 (r : zRr) (q : zRq) (w44_2 : Int32) (w44_s0 : Int32) : Int32 × zRr :=
  zc_vr (Gk_wrong w44_s0 r q) <| fun v2 r3 => (w44_2, r3)
noncomputable def Gk_townHere_22 (r : zRr) (q : zRq) (w22_s0 : Int32) : Int32 × zRr :=
  zifn (w22_s0 = ((-1) : Int32)) ((w22_s0, r)) (zlet (α := Int32) (r 196 4) <| fun v7 => zifn (v7 = (29 : Int32)) (Gk_townHere_44 r q w22_s0 1) (Gk_townHere_44 r q w22_s0 2))
noncomputable def Gk_townHere (r : zRr) (q : zRq) : Int32 × zRr :=
  zlet (α := Int32) (r 196 4) <| fun v9 => zifn (v9 = (29 : Int32)) (Gk_townHere_22 r q (-1)) (zlet (α := Int64) (q 196 6) <| fun v11 => zlet (α := Int32) ((Gk_townNamed v11 r q)) <| fun u12 => Gk_townHere_22 r q u12)
noncomputable def Bk_personNamed_2 (a1 : Int64) (r : zRr) (q : zRq) (ih2 : Int32 → Int32) (w2_3 : Int32) : Int32 :=
  zlet (α := Int32) (r 171 10) <| fun v1 => zif (v1 ≤ w2_3) (((-1) : Int32)) (zlet (α := Int64) (q 179 (zn w2_3)) <| fun v5 => zlet (α := Int32) (lg_cmp v5 a1) <| fun v6 => zifn (v6 = (0 : Int32)) (ih2 (w2_3 + 1)) (w2_3))
noncomputable def Gk_personNamed_2 (a1 : Int64) (r : zRr) (q : zRq) (n : Nat) : Int32 → Int32 :=
  Nat.rec (motive := fun _ => Int32 → Int32) (fun _ => default) (fun _ ih => Bk_personNamed_2 a1 r q ih) n
noncomputable def Gk_personNamed (a1 : Int64) (r : zRr) (q : zRq) : Int32 :=
  Gk_personNamed_2 a1 r q 7 0
noncomputable def Gk_personHere_44 (r : zRr) (q : zRq) (w44_2 : Int32) (w44_s0 : Int32) : Int32 × zRr :=
  zc_vr (Gk_wrong w44_s0 r q) <| fun v2 r3 => (w44_2, r3)
noncomputable def Gk_personHere_22 (r : zRr) (q : zRq) (w22_s0 : Int32) : Int32 × zRr :=
  zifn (w22_s0 = ((-1) : Int32)) ((w22_s0, r)) (zlet (α := Int32) (r 196 4) <| fun v7 => zifn (v7 = (29 : Int32)) (Gk_personHere_44 r q w22_s0 1) (Gk_personHere_44 r q w22_s0 2))
noncomputable def Gk_personHere (r : zRr) (q : zRq) : Int32 × zRr :=
  zlet (α := Int32) (r 196 4) <| fun v9 => zifn (v9 = (29 : Int32)) (Gk_personHere_22 r q (-1)) (zlet (α := Int64) (q 196 6) <| fun v11 => zlet (α := Int32) ((Gk_personNamed v11 r q)) <| fun u12 => Gk_personHere_22 r q u12)
noncomputable def Bk_townNamedD_2 (a1 : Int64) (r : zRr) (q : zRq) (ih2 : Int32 → Int32) (w2_3 : Int32) : Int32 :=
  zlet (α := Int32) (r 183 9) <| fun v1 => zif (v1 ≤ w2_3) (((-1) : Int32)) (zlet (α := Int64) (q 186 (zn w2_3)) <| fun v5 => zlet (α := Int32) (lg_cmp v5 a1) <| fun v6 => zifn (v6 = (0 : Int32)) (ih2 (w2_3 + 1)) (w2_3))
noncomputable def Gk_townNamedD_2 (a1 : Int64) (r : zRr) (q : zRq) (n : Nat) : Int32 → Int32 :=
  Nat.rec (motive := fun _ => Int32 → Int32) (fun _ => default) (fun _ ih => Bk_townNamedD_2 a1 r q ih) n
noncomputable def Gk_townNamedD (a1 : Int64) (r : zRr) (q : zRq) : Int32 :=
  Gk_townNamedD_2 a1 r q 7 0
noncomputable def Gk_townHereD_44 (r : zRr) (q : zRq) (w44_2 : Int32) (w44_s0 : Int32) : Int32 × zRr :=
  zc_vr (Gk_wrong w44_s0 r q) <| fun v2 r3 => (w44_2, r3)
noncomputable def Gk_townHereD_22 (r : zRr) (q : zRq) (w22_s0 : Int32) : Int32 × zRr :=
  zifn (w22_s0 = ((-1) : Int32)) ((w22_s0, r)) (zlet (α := Int32) (r 196 4) <| fun v7 => zifn (v7 = (29 : Int32)) (Gk_townHereD_44 r q w22_s0 1) (Gk_townHereD_44 r q w22_s0 2))
noncomputable def Gk_townHereD (r : zRr) (q : zRq) : Int32 × zRr :=
  zlet (α := Int32) (r 196 4) <| fun v9 => zifn (v9 = (29 : Int32)) (Gk_townHereD_22 r q (-1)) (zlet (α := Int64) (q 196 6) <| fun v11 => zlet (α := Int32) ((Gk_townNamedD v11 r q)) <| fun u12 => Gk_townHereD_22 r q u12)
noncomputable def Bk_personNamedD_2 (a1 : Int64) (r : zRr) (q : zRq) (ih2 : Int32 → Int32) (w2_3 : Int32) : Int32 :=
  zlet (α := Int32) (r 183 10) <| fun v1 => zif (v1 ≤ w2_3) (((-1) : Int32)) (zlet (α := Int64) (q 191 (zn w2_3)) <| fun v5 => zlet (α := Int32) (lg_cmp v5 a1) <| fun v6 => zifn (v6 = (0 : Int32)) (ih2 (w2_3 + 1)) (w2_3))
noncomputable def Gk_personNamedD_2 (a1 : Int64) (r : zRr) (q : zRq) (n : Nat) : Int32 → Int32 :=
  Nat.rec (motive := fun _ => Int32 → Int32) (fun _ => default) (fun _ ih => Bk_personNamedD_2 a1 r q ih) n
noncomputable def Gk_personNamedD (a1 : Int64) (r : zRr) (q : zRq) : Int32 :=
  Gk_personNamedD_2 a1 r q 7 0
noncomputable def Gk_personHereD_44 (r : zRr) (q : zRq) (w44_2 : Int32) (w44_s0 : Int32) : Int32 × zRr :=
  zc_vr (Gk_wrong w44_s0 r q) <| fun v2 r3 => (w44_2, r3)
noncomputable def Gk_personHereD_22 (r : zRr) (q : zRq) (w22_s0 : Int32) : Int32 × zRr :=
  zifn (w22_s0 = ((-1) : Int32)) ((w22_s0, r)) (zlet (α := Int32) (r 196 4) <| fun v7 => zifn (v7 = (29 : Int32)) (Gk_personHereD_44 r q w22_s0 1) (Gk_personHereD_44 r q w22_s0 2))
noncomputable def Gk_personHereD (r : zRr) (q : zRq) : Int32 × zRr :=
  zlet (α := Int32) (r 196 4) <| fun v9 => zifn (v9 = (29 : Int32)) (Gk_personHereD_22 r q (-1)) (zlet (α := Int64) (q 196 6) <| fun v11 => zlet (α := Int32) ((Gk_personNamedD v11 r q)) <| fun u12 => Gk_personHereD_22 r q u12)
noncomputable def Gk_add (a1 : Int32) (r : zRr) (q : zRq) : zRr :=
  zif ((1000 : Int32) ≤ (r 192 2)) (r) (zlet (α := zRr) (zset r 193 (upd (r 193) (zn (r 192 2)) a1)) <| fun r4 => zlet (α := zRr) ((zset r4 192 (upd (r4 192) 2 ((r4 192 2) + 1)))) <| fun r6 => r6)
noncomputable def Gk_untold (r : zRr) (q : zRq) : zRr :=
  zlet (α := zRr) ((zset r 192 (upd (r 192) 2 (0 : Int32)))) <| fun r1 => zlet (α := zRr) ((Gk_add ((-1) : Int32) r1 q)) <| fun u2 => zlet (α := zRr) ((Gk_add ((-3) : Int32) u2 q)) <| fun u4 => zlet (α := zRr) ((Gk_add ((-8) : Int32) u4 q)) <| fun u6 => zlet (α := zRr) ((Gk_add ((-5) : Int32) u6 q)) <| fun u8 => u8
noncomputable def Gk_valueHere (r : zRr) (q : zRq) : Int32 :=
  zlet (α := Int32) (r 196 4) <| fun v1 => zifn (v1 = (30 : Int32)) (zlet (α := Int32) (r 196 4) <| fun v3 => zif (v3 = (29 : Int32)) (zlet (α := Int32) ((Gk_spells 33 r q)) <| fun u5 => zif (u5 = (0 : Int32)) (zlet (α := Int32) ((Gk_spells 34 r q)) <| fun u9 => zif (u9 = (0 : Int32)) (zlet (α := Int32) ((Gk_spells 35 r q)) <| fun u13 => zif (u13 = (0 : Int32)) (zlet (α := Int32) ((Gk_spells 36 r q)) <| fun u17 => zif (u17 = (0 : Int32)) (((-13) : Int32)) (((-4) : Int32))) (((-3) : Int32))) (((-2) : Int32))) (((-1) : Int32))) (((-13) : Int32))) (zlet (α := Int32) (r 196 5) <| fun v25 => v25)
noncomputable def Gk_readPart5_66 (r : zRr) (q : zRq) (w66_3 : Int32) (w66_4 : Int32) (w66_5 : Int32) : Int32 × zRr × zRq :=
  zc_vr (Gk_wrong (5 : Int32) r q) <| fun v3 r4 => (v3, r4, q)
noncomputable def Gk_readPart5_47 (r : zRr) (q : zRq) (w47_3 : Int32) (w47_4 : Int32) (w47_s0 : Int32) : Int32 × zRr × zRq :=
  zifn (w47_3 = (0 : Int32)) (Gk_readPart5_66 r q w47_3 w47_4 w47_s0) (zifn (w47_s0 = ((-13) : Int32)) (Gk_readPart5_66 r q w47_3 w47_4 w47_s0) (zc_vr (Gk_wrong (1 : Int32) r q) <| fun v11 r12 => (v11, r12, q)))
noncomputable def Gk_readPart5_31 (r : zRr) (q : zRq) (w31_3 : Int32) (w31_s0 : Int32) : Int32 × zRr × zRq :=
  zif (w31_s0 = (0 : Int32)) (zlet (α := Int32) ((Gk_valueHere r q)) <| fun u15 => Gk_readPart5_47 r q w31_3 w31_s0 u15) (Gk_readPart5_47 r q w31_3 w31_s0 (-5))
noncomputable def Gk_readPart5_15 (r : zRr) (q : zRq) (w15_s0 : Int32) : Int32 × zRr × zRq :=
  zlet (α := Int32) (r 196 4) <| fun v18 => zifn (v18 = (18 : Int32)) (Gk_readPart5_31 r q w15_s0 0) (Gk_readPart5_31 r q w15_s0 1)
noncomputable def Gk_readPart5 (r : zRr) (q : zRq) : Int32 × zRr × zRq :=
  zlet (α := Int32) (r 196 4) <| fun v20 => zifn (v20 = (21 : Int32)) (Gk_readPart5_15 r q 0) (Gk_readPart5_15 r q 1)
noncomputable def Bk_readProduct5_13 (ih13 : Int32 → zRr → zRq → (Int32 × zRr × zRq)) (w13_3 : Int32) (rw13 : zRr) (qw13 : zRq) : Int32 × zRr × zRq :=
  zif ((1000 : Int32) ≤ w13_3) (((1 : Int32), rw13, qw13)) (zlet (α := Int32) (rw13 196 4) <| fun v4 => zifn (v4 = (27 : Int32)) (((1 : Int32), rw13, qw13)) (zc_rq (Gk_step rw13 qw13) <| fun r7 q8 => zc_vrq (Gk_readPart5 r7 q8) <| fun v10 r11 q12 => zifn (v10 = (0 : Int32)) (zlet (α := zRr) ((Gk_add ((-12) : Int32) r11 q12)) <| fun u15 => ih13 (w13_3 + 1) u15 q12) (((0 : Int32), r11, q12))))
noncomputable def Gk_readProduct5_13 (n : Nat) : Int32 → zRr → zRq → (Int32 × zRr × zRq) :=
  Nat.rec (motive := fun _ => Int32 → zRr → zRq → (Int32 × zRr × zRq)) (fun _ rw13 qw13 => (default, rw13, qw13)) (fun _ ih => Bk_readProduct5_13 ih) n
noncomputable def Gk_readProduct5 (r : zRr) (q : zRq) : Int32 × zRr × zRq :=
  zc_vrq (Gk_readPart5 r q) <| fun v20 r21 q22 => zifn (v20 = (0 : Int32)) (Gk_readProduct5_13 1001 0 r21 q22) (((0 : Int32), r21, q22))
noncomputable def Gk_readSum5_57 (w13_3 : Int32) (rw13 : zRr) (qw13 : zRq) (ih13 : Int32 → zRr → zRq → (Int32 × zRr × zRq)) (w57_s0 : Int32) : Int32 × zRr × zRq :=
  zc_rq (Gk_step rw13 qw13) <| fun r2 q3 => zc_vrq (Gk_readProduct5 r2 q3) <| fun v5 r6 q7 => zifn (v5 = (0 : Int32)) (zlet (α := zRr) ((Gk_add w57_s0 r6 q7)) <| fun u10 => ih13 (w13_3 + 1) u10 q7) (((0 : Int32), r6, q7))
noncomputable def Gk_readSum5_40 (w13_3 : Int32) (rw13 : zRr) (qw13 : zRq) (ih13 : Int32 → zRr → zRq → (Int32 × zRr × zRq)) : Int32 × zRr × zRq :=
  zlet (α := Int32) (rw13 196 4) <| fun v14 => zifn (v14 = (25 : Int32)) (Gk_readSum5_57 w13_3 rw13 qw13 ih13 (-11)) (Gk_readSum5_57 w13_3 rw13 qw13 ih13 (-10))
noncomputable def Bk_readSum5_13 (ih13 : Int32 → zRr → zRq → (Int32 × zRr × zRq)) (w13_3 : Int32) (rw13 : zRr) (qw13 : zRq) : Int32 × zRr × zRq :=
  zif ((1000 : Int32) ≤ w13_3) (((1 : Int32), rw13, qw13)) (zlet (α := Int32) (rw13 196 4) <| fun v19 => zif (v19 = (25 : Int32)) (Gk_readSum5_40 w13_3 rw13 qw13 ih13 ) (zlet (α := Int32) (rw13 196 4) <| fun v21 => zifn (v21 = (26 : Int32)) (((1 : Int32), rw13, qw13)) (Gk_readSum5_40 w13_3 rw13 qw13 ih13 )))
noncomputable def Gk_readSum5_13 (n : Nat) : Int32 → zRr → zRq → (Int32 × zRr × zRq) :=
  Nat.rec (motive := fun _ => Int32 → zRr → zRq → (Int32 × zRr × zRq)) (fun _ rw13 qw13 => (default, rw13, qw13)) (fun _ ih => Bk_readSum5_13 ih) n
noncomputable def Gk_readSum5 (r : zRr) (q : zRq) : Int32 × zRr × zRq :=
  zc_vrq (Gk_readProduct5 r q) <| fun v24 r25 q26 => zifn (v24 = (0 : Int32)) (Gk_readSum5_13 1001 0 r25 q26) (((0 : Int32), r25, q26))
noncomputable def Gk_readTest5_50 (w50_s0 : Int32) (rw50 : zRr) (qw50 : zRq) : Int32 × zRr × zRq :=
  zc_rq (Gk_step rw50 qw50) <| fun r2 q3 => zc_vrq (Gk_readSum5 r2 q3) <| fun v5 r6 q7 => zifn (v5 = (0 : Int32)) (zlet (α := zRr) ((Gk_add w50_s0 r6 q7)) <| fun u10 => ((1 : Int32), u10, q7)) (((0 : Int32), r6, q7))
noncomputable def Gk_readTest5_33 (rw33 : zRr) (qw33 : zRq) : Int32 × zRr × zRq :=
  zlet (α := Int32) (rw33 196 4) <| fun v13 => zifn (v13 = (23 : Int32)) (Gk_readTest5_50 (-9) rw33 qw33) (Gk_readTest5_50 (-8) rw33 qw33)
noncomputable def Gk_readTest5 (r : zRr) (q : zRq) : Int32 × zRr × zRq :=
  zc_vrq (Gk_readSum5 r q) <| fun v16 r17 q18 => zifn (v16 = (0 : Int32)) (zlet (α := Int32) (r17 196 4) <| fun v21 => zif (v21 = (23 : Int32)) (Gk_readTest5_33 r17 q18) (zlet (α := Int32) (r17 196 4) <| fun v23 => zif (v23 = (24 : Int32)) (Gk_readTest5_33 r17 q18) (((1 : Int32), r17, q18)))) (((0 : Int32), r17, q18))
noncomputable def Gk_readWhole5_57 (w13_3 : Int32) (rw13 : zRr) (qw13 : zRq) (ih13 : Int32 → zRr → zRq → (Int32 × zRr × zRq)) (w57_s0 : Int32) : Int32 × zRr × zRq :=
  zc_rq (Gk_step rw13 qw13) <| fun r2 q3 => zc_vrq (Gk_readTest5 r2 q3) <| fun v5 r6 q7 => zifn (v5 = (0 : Int32)) (zlet (α := zRr) ((Gk_add w57_s0 r6 q7)) <| fun u10 => ih13 (w13_3 + 1) u10 q7) (((0 : Int32), r6, q7))
noncomputable def Gk_readWhole5_40 (w13_3 : Int32) (rw13 : zRr) (qw13 : zRq) (ih13 : Int32 → zRr → zRq → (Int32 × zRr × zRq)) : Int32 × zRr × zRq :=
  zlet (α := Int32) (rw13 196 4) <| fun v14 => zifn (v14 = (19 : Int32)) (Gk_readWhole5_57 w13_3 rw13 qw13 ih13 (-7)) (Gk_readWhole5_57 w13_3 rw13 qw13 ih13 (-6))
noncomputable def Bk_readWhole5_13 (ih13 : Int32 → zRr → zRq → (Int32 × zRr × zRq)) (w13_3 : Int32) (rw13 : zRr) (qw13 : zRq) : Int32 × zRr × zRq :=
  zif ((1000 : Int32) ≤ w13_3) (((1 : Int32), rw13, qw13)) (zlet (α := Int32) (rw13 196 4) <| fun v19 => zif (v19 = (19 : Int32)) (Gk_readWhole5_40 w13_3 rw13 qw13 ih13 ) (zlet (α := Int32) (rw13 196 4) <| fun v21 => zifn (v21 = (20 : Int32)) (((1 : Int32), rw13, qw13)) (Gk_readWhole5_40 w13_3 rw13 qw13 ih13 )))
noncomputable def Gk_readWhole5_13 (n : Nat) : Int32 → zRr → zRq → (Int32 × zRr × zRq) :=
  Nat.rec (motive := fun _ => Int32 → zRr → zRq → (Int32 × zRr × zRq)) (fun _ rw13 qw13 => (default, rw13, qw13)) (fun _ ih => Bk_readWhole5_13 ih) n
noncomputable def Gk_readWhole5 (r : zRr) (q : zRq) : Int32 × zRr × zRq :=
  zc_vrq (Gk_readTest5 r q) <| fun v24 r25 q26 => zifn (v24 = (0 : Int32)) (Gk_readWhole5_13 1001 0 r25 q26) (((0 : Int32), r25, q26))
noncomputable def Gk_readPart4_130 (w130_5 : Int32) (rw130 : zRr) (qw130 : zRq) : Int32 × zRr × zRq :=
  zlet (α := zRr) ((Gk_add w130_5 rw130 qw130)) <| fun u1 => ((1 : Int32), u1, qw130)
noncomputable def Gk_readPart4_66 (r : zRr) (q : zRq) (w66_3 : Int32) (w66_4 : Int32) (w66_5 : Int32) : Int32 × zRr × zRq :=
  zc_rq (Gk_step r q) <| fun r5 q6 => zif (w66_3 = (0 : Int32)) (zif (w66_4 = (0 : Int32)) (Gk_readPart4_130 w66_5 r5 q6) (zc_vrq (Gk_readPart5 r5 q6) <| fun v13 r14 q15 => zifn (v13 = (0 : Int32)) (Gk_readPart4_130 w66_5 r14 q15) (((0 : Int32), r14, q15)))) (zc_vrq (Gk_readWhole5 r5 q6) <| fun v21 r22 q23 => zif (v21 = (0 : Int32)) (((0 : Int32), r22, q23)) (zc_vrq (Gk_take 22 r22 q23) <| fun v28 r29 q30 => zif (v28 = (0 : Int32)) (((0 : Int32), r29, q30)) (((1 : Int32), r29, q30))))
noncomputable def Gk_readPart4_47 (r : zRr) (q : zRq) (w47_3 : Int32) (w47_4 : Int32) (w47_s0 : Int32) : Int32 × zRr × zRq :=
  zifn (w47_3 = (0 : Int32)) (Gk_readPart4_66 r q w47_3 w47_4 w47_s0) (zifn (w47_s0 = ((-13) : Int32)) (Gk_readPart4_66 r q w47_3 w47_4 w47_s0) (zc_vr (Gk_wrong (1 : Int32) r q) <| fun v40 r41 => (v40, r41, q)))
noncomputable def Gk_readPart4_31 (r : zRr) (q : zRq) (w31_3 : Int32) (w31_s0 : Int32) : Int32 × zRr × zRq :=
  zif (w31_s0 = (0 : Int32)) (zlet (α := Int32) ((Gk_valueHere r q)) <| fun u44 => Gk_readPart4_47 r q w31_3 w31_s0 u44) (Gk_readPart4_47 r q w31_3 w31_s0 (-5))
noncomputable def Gk_readPart4_15 (r : zRr) (q : zRq) (w15_s0 : Int32) : Int32 × zRr × zRq :=
  zlet (α := Int32) (r 196 4) <| fun v47 => zifn (v47 = (18 : Int32)) (Gk_readPart4_31 r q w15_s0 0) (Gk_readPart4_31 r q w15_s0 1)
noncomputable def Gk_readPart4 (r : zRr) (q : zRq) : Int32 × zRr × zRq :=
  zlet (α := Int32) (r 196 4) <| fun v49 => zifn (v49 = (21 : Int32)) (Gk_readPart4_15 r q 0) (Gk_readPart4_15 r q 1)
noncomputable def Bk_readProduct4_13 (ih13 : Int32 → zRr → zRq → (Int32 × zRr × zRq)) (w13_3 : Int32) (rw13 : zRr) (qw13 : zRq) : Int32 × zRr × zRq :=
  zif ((1000 : Int32) ≤ w13_3) (((1 : Int32), rw13, qw13)) (zlet (α := Int32) (rw13 196 4) <| fun v4 => zifn (v4 = (27 : Int32)) (((1 : Int32), rw13, qw13)) (zc_rq (Gk_step rw13 qw13) <| fun r7 q8 => zc_vrq (Gk_readPart4 r7 q8) <| fun v10 r11 q12 => zifn (v10 = (0 : Int32)) (zlet (α := zRr) ((Gk_add ((-12) : Int32) r11 q12)) <| fun u15 => ih13 (w13_3 + 1) u15 q12) (((0 : Int32), r11, q12))))
noncomputable def Gk_readProduct4_13 (n : Nat) : Int32 → zRr → zRq → (Int32 × zRr × zRq) :=
  Nat.rec (motive := fun _ => Int32 → zRr → zRq → (Int32 × zRr × zRq)) (fun _ rw13 qw13 => (default, rw13, qw13)) (fun _ ih => Bk_readProduct4_13 ih) n
noncomputable def Gk_readProduct4 (r : zRr) (q : zRq) : Int32 × zRr × zRq :=
  zc_vrq (Gk_readPart4 r q) <| fun v20 r21 q22 => zifn (v20 = (0 : Int32)) (Gk_readProduct4_13 1001 0 r21 q22) (((0 : Int32), r21, q22))
noncomputable def Gk_readSum4_57 (w13_3 : Int32) (rw13 : zRr) (qw13 : zRq) (ih13 : Int32 → zRr → zRq → (Int32 × zRr × zRq)) (w57_s0 : Int32) : Int32 × zRr × zRq :=
  zc_rq (Gk_step rw13 qw13) <| fun r2 q3 => zc_vrq (Gk_readProduct4 r2 q3) <| fun v5 r6 q7 => zifn (v5 = (0 : Int32)) (zlet (α := zRr) ((Gk_add w57_s0 r6 q7)) <| fun u10 => ih13 (w13_3 + 1) u10 q7) (((0 : Int32), r6, q7))
noncomputable def Gk_readSum4_40 (w13_3 : Int32) (rw13 : zRr) (qw13 : zRq) (ih13 : Int32 → zRr → zRq → (Int32 × zRr × zRq)) : Int32 × zRr × zRq :=
  zlet (α := Int32) (rw13 196 4) <| fun v14 => zifn (v14 = (25 : Int32)) (Gk_readSum4_57 w13_3 rw13 qw13 ih13 (-11)) (Gk_readSum4_57 w13_3 rw13 qw13 ih13 (-10))
noncomputable def Bk_readSum4_13 (ih13 : Int32 → zRr → zRq → (Int32 × zRr × zRq)) (w13_3 : Int32) (rw13 : zRr) (qw13 : zRq) : Int32 × zRr × zRq :=
  zif ((1000 : Int32) ≤ w13_3) (((1 : Int32), rw13, qw13)) (zlet (α := Int32) (rw13 196 4) <| fun v19 => zif (v19 = (25 : Int32)) (Gk_readSum4_40 w13_3 rw13 qw13 ih13 ) (zlet (α := Int32) (rw13 196 4) <| fun v21 => zifn (v21 = (26 : Int32)) (((1 : Int32), rw13, qw13)) (Gk_readSum4_40 w13_3 rw13 qw13 ih13 )))
noncomputable def Gk_readSum4_13 (n : Nat) : Int32 → zRr → zRq → (Int32 × zRr × zRq) :=
  Nat.rec (motive := fun _ => Int32 → zRr → zRq → (Int32 × zRr × zRq)) (fun _ rw13 qw13 => (default, rw13, qw13)) (fun _ ih => Bk_readSum4_13 ih) n
noncomputable def Gk_readSum4 (r : zRr) (q : zRq) : Int32 × zRr × zRq :=
  zc_vrq (Gk_readProduct4 r q) <| fun v24 r25 q26 => zifn (v24 = (0 : Int32)) (Gk_readSum4_13 1001 0 r25 q26) (((0 : Int32), r25, q26))
noncomputable def Gk_readTest4_50 (w50_s0 : Int32) (rw50 : zRr) (qw50 : zRq) : Int32 × zRr × zRq :=
  zc_rq (Gk_step rw50 qw50) <| fun r2 q3 => zc_vrq (Gk_readSum4 r2 q3) <| fun v5 r6 q7 => zifn (v5 = (0 : Int32)) (zlet (α := zRr) ((Gk_add w50_s0 r6 q7)) <| fun u10 => ((1 : Int32), u10, q7)) (((0 : Int32), r6, q7))
noncomputable def Gk_readTest4_33 (rw33 : zRr) (qw33 : zRq) : Int32 × zRr × zRq :=
  zlet (α := Int32) (rw33 196 4) <| fun v13 => zifn (v13 = (23 : Int32)) (Gk_readTest4_50 (-9) rw33 qw33) (Gk_readTest4_50 (-8) rw33 qw33)
noncomputable def Gk_readTest4 (r : zRr) (q : zRq) : Int32 × zRr × zRq :=
  zc_vrq (Gk_readSum4 r q) <| fun v16 r17 q18 => zifn (v16 = (0 : Int32)) (zlet (α := Int32) (r17 196 4) <| fun v21 => zif (v21 = (23 : Int32)) (Gk_readTest4_33 r17 q18) (zlet (α := Int32) (r17 196 4) <| fun v23 => zif (v23 = (24 : Int32)) (Gk_readTest4_33 r17 q18) (((1 : Int32), r17, q18)))) (((0 : Int32), r17, q18))
noncomputable def Gk_readWhole4_57 (w13_3 : Int32) (rw13 : zRr) (qw13 : zRq) (ih13 : Int32 → zRr → zRq → (Int32 × zRr × zRq)) (w57_s0 : Int32) : Int32 × zRr × zRq :=
  zc_rq (Gk_step rw13 qw13) <| fun r2 q3 => zc_vrq (Gk_readTest4 r2 q3) <| fun v5 r6 q7 => zifn (v5 = (0 : Int32)) (zlet (α := zRr) ((Gk_add w57_s0 r6 q7)) <| fun u10 => ih13 (w13_3 + 1) u10 q7) (((0 : Int32), r6, q7))
noncomputable def Gk_readWhole4_40 (w13_3 : Int32) (rw13 : zRr) (qw13 : zRq) (ih13 : Int32 → zRr → zRq → (Int32 × zRr × zRq)) : Int32 × zRr × zRq :=
  zlet (α := Int32) (rw13 196 4) <| fun v14 => zifn (v14 = (19 : Int32)) (Gk_readWhole4_57 w13_3 rw13 qw13 ih13 (-7)) (Gk_readWhole4_57 w13_3 rw13 qw13 ih13 (-6))
noncomputable def Bk_readWhole4_13 (ih13 : Int32 → zRr → zRq → (Int32 × zRr × zRq)) (w13_3 : Int32) (rw13 : zRr) (qw13 : zRq) : Int32 × zRr × zRq :=
  zif ((1000 : Int32) ≤ w13_3) (((1 : Int32), rw13, qw13)) (zlet (α := Int32) (rw13 196 4) <| fun v19 => zif (v19 = (19 : Int32)) (Gk_readWhole4_40 w13_3 rw13 qw13 ih13 ) (zlet (α := Int32) (rw13 196 4) <| fun v21 => zifn (v21 = (20 : Int32)) (((1 : Int32), rw13, qw13)) (Gk_readWhole4_40 w13_3 rw13 qw13 ih13 )))
noncomputable def Gk_readWhole4_13 (n : Nat) : Int32 → zRr → zRq → (Int32 × zRr × zRq) :=
  Nat.rec (motive := fun _ => Int32 → zRr → zRq → (Int32 × zRr × zRq)) (fun _ rw13 qw13 => (default, rw13, qw13)) (fun _ ih => Bk_readWhole4_13 ih) n
noncomputable def Gk_readWhole4 (r : zRr) (q : zRq) : Int32 × zRr × zRq :=
  zc_vrq (Gk_readTest4 r q) <| fun v24 r25 q26 => zifn (v24 = (0 : Int32)) (Gk_readWhole4_13 1001 0 r25 q26) (((0 : Int32), r25, q26))
noncomputable def Gk_readPart3_130 (w130_5 : Int32) (rw130 : zRr) (qw130 : zRq) : Int32 × zRr × zRq :=
  zlet (α := zRr) ((Gk_add w130_5 rw130 qw130)) <| fun u1 => ((1 : Int32), u1, qw130)
noncomputable def Gk_readPart3_66 (r : zRr) (q : zRq) (w66_3 : Int32) (w66_4 : Int32) (w66_5 : Int32) : Int32 × zRr × zRq :=
  zc_rq (Gk_step r q) <| fun r5 q6 => zif (w66_3 = (0 : Int32)) (zif (w66_4 = (0 : Int32)) (Gk_readPart3_130 w66_5 r5 q6) (zc_vrq (Gk_readPart4 r5 q6) <| fun v13 r14 q15 => zifn (v13 = (0 : Int32)) (Gk_readPart3_130 w66_5 r14 q15) (((0 : Int32), r14, q15)))) (zc_vrq (Gk_readWhole4 r5 q6) <| fun v21 r22 q23 => zif (v21 = (0 : Int32)) (((0 : Int32), r22, q23)) (zc_vrq (Gk_take 22 r22 q23) <| fun v28 r29 q30 => zif (v28 = (0 : Int32)) (((0 : Int32), r29, q30)) (((1 : Int32), r29, q30))))
noncomputable def Gk_readPart3_47 (r : zRr) (q : zRq) (w47_3 : Int32) (w47_4 : Int32) (w47_s0 : Int32) : Int32 × zRr × zRq :=
  zifn (w47_3 = (0 : Int32)) (Gk_readPart3_66 r q w47_3 w47_4 w47_s0) (zifn (w47_s0 = ((-13) : Int32)) (Gk_readPart3_66 r q w47_3 w47_4 w47_s0) (zc_vr (Gk_wrong (1 : Int32) r q) <| fun v40 r41 => (v40, r41, q)))
noncomputable def Gk_readPart3_31 (r : zRr) (q : zRq) (w31_3 : Int32) (w31_s0 : Int32) : Int32 × zRr × zRq :=
  zif (w31_s0 = (0 : Int32)) (zlet (α := Int32) ((Gk_valueHere r q)) <| fun u44 => Gk_readPart3_47 r q w31_3 w31_s0 u44) (Gk_readPart3_47 r q w31_3 w31_s0 (-5))
noncomputable def Gk_readPart3_15 (r : zRr) (q : zRq) (w15_s0 : Int32) : Int32 × zRr × zRq :=
  zlet (α := Int32) (r 196 4) <| fun v47 => zifn (v47 = (18 : Int32)) (Gk_readPart3_31 r q w15_s0 0) (Gk_readPart3_31 r q w15_s0 1)
noncomputable def Gk_readPart3 (r : zRr) (q : zRq) : Int32 × zRr × zRq :=
  zlet (α := Int32) (r 196 4) <| fun v49 => zifn (v49 = (21 : Int32)) (Gk_readPart3_15 r q 0) (Gk_readPart3_15 r q 1)
noncomputable def Bk_readProduct3_13 (ih13 : Int32 → zRr → zRq → (Int32 × zRr × zRq)) (w13_3 : Int32) (rw13 : zRr) (qw13 : zRq) : Int32 × zRr × zRq :=
  zif ((1000 : Int32) ≤ w13_3) (((1 : Int32), rw13, qw13)) (zlet (α := Int32) (rw13 196 4) <| fun v4 => zifn (v4 = (27 : Int32)) (((1 : Int32), rw13, qw13)) (zc_rq (Gk_step rw13 qw13) <| fun r7 q8 => zc_vrq (Gk_readPart3 r7 q8) <| fun v10 r11 q12 => zifn (v10 = (0 : Int32)) (zlet (α := zRr) ((Gk_add ((-12) : Int32) r11 q12)) <| fun u15 => ih13 (w13_3 + 1) u15 q12) (((0 : Int32), r11, q12))))
noncomputable def Gk_readProduct3_13 (n : Nat) : Int32 → zRr → zRq → (Int32 × zRr × zRq) :=
  Nat.rec (motive := fun _ => Int32 → zRr → zRq → (Int32 × zRr × zRq)) (fun _ rw13 qw13 => (default, rw13, qw13)) (fun _ ih => Bk_readProduct3_13 ih) n
noncomputable def Gk_readProduct3 (r : zRr) (q : zRq) : Int32 × zRr × zRq :=
  zc_vrq (Gk_readPart3 r q) <| fun v20 r21 q22 => zifn (v20 = (0 : Int32)) (Gk_readProduct3_13 1001 0 r21 q22) (((0 : Int32), r21, q22))
noncomputable def Gk_readSum3_57 (w13_3 : Int32) (rw13 : zRr) (qw13 : zRq) (ih13 : Int32 → zRr → zRq → (Int32 × zRr × zRq)) (w57_s0 : Int32) : Int32 × zRr × zRq :=
  zc_rq (Gk_step rw13 qw13) <| fun r2 q3 => zc_vrq (Gk_readProduct3 r2 q3) <| fun v5 r6 q7 => zifn (v5 = (0 : Int32)) (zlet (α := zRr) ((Gk_add w57_s0 r6 q7)) <| fun u10 => ih13 (w13_3 + 1) u10 q7) (((0 : Int32), r6, q7))
noncomputable def Gk_readSum3_40 (w13_3 : Int32) (rw13 : zRr) (qw13 : zRq) (ih13 : Int32 → zRr → zRq → (Int32 × zRr × zRq)) : Int32 × zRr × zRq :=
  zlet (α := Int32) (rw13 196 4) <| fun v14 => zifn (v14 = (25 : Int32)) (Gk_readSum3_57 w13_3 rw13 qw13 ih13 (-11)) (Gk_readSum3_57 w13_3 rw13 qw13 ih13 (-10))
noncomputable def Bk_readSum3_13 (ih13 : Int32 → zRr → zRq → (Int32 × zRr × zRq)) (w13_3 : Int32) (rw13 : zRr) (qw13 : zRq) : Int32 × zRr × zRq :=
  zif ((1000 : Int32) ≤ w13_3) (((1 : Int32), rw13, qw13)) (zlet (α := Int32) (rw13 196 4) <| fun v19 => zif (v19 = (25 : Int32)) (Gk_readSum3_40 w13_3 rw13 qw13 ih13 ) (zlet (α := Int32) (rw13 196 4) <| fun v21 => zifn (v21 = (26 : Int32)) (((1 : Int32), rw13, qw13)) (Gk_readSum3_40 w13_3 rw13 qw13 ih13 )))
noncomputable def Gk_readSum3_13 (n : Nat) : Int32 → zRr → zRq → (Int32 × zRr × zRq) :=
  Nat.rec (motive := fun _ => Int32 → zRr → zRq → (Int32 × zRr × zRq)) (fun _ rw13 qw13 => (default, rw13, qw13)) (fun _ ih => Bk_readSum3_13 ih) n
noncomputable def Gk_readSum3 (r : zRr) (q : zRq) : Int32 × zRr × zRq :=
  zc_vrq (Gk_readProduct3 r q) <| fun v24 r25 q26 => zifn (v24 = (0 : Int32)) (Gk_readSum3_13 1001 0 r25 q26) (((0 : Int32), r25, q26))
noncomputable def Gk_readTest3_50 (w50_s0 : Int32) (rw50 : zRr) (qw50 : zRq) : Int32 × zRr × zRq :=
  zc_rq (Gk_step rw50 qw50) <| fun r2 q3 => zc_vrq (Gk_readSum3 r2 q3) <| fun v5 r6 q7 => zifn (v5 = (0 : Int32)) (zlet (α := zRr) ((Gk_add w50_s0 r6 q7)) <| fun u10 => ((1 : Int32), u10, q7)) (((0 : Int32), r6, q7))
noncomputable def Gk_readTest3_33 (rw33 : zRr) (qw33 : zRq) : Int32 × zRr × zRq :=
  zlet (α := Int32) (rw33 196 4) <| fun v13 => zifn (v13 = (23 : Int32)) (Gk_readTest3_50 (-9) rw33 qw33) (Gk_readTest3_50 (-8) rw33 qw33)
noncomputable def Gk_readTest3 (r : zRr) (q : zRq) : Int32 × zRr × zRq :=
  zc_vrq (Gk_readSum3 r q) <| fun v16 r17 q18 => zifn (v16 = (0 : Int32)) (zlet (α := Int32) (r17 196 4) <| fun v21 => zif (v21 = (23 : Int32)) (Gk_readTest3_33 r17 q18) (zlet (α := Int32) (r17 196 4) <| fun v23 => zif (v23 = (24 : Int32)) (Gk_readTest3_33 r17 q18) (((1 : Int32), r17, q18)))) (((0 : Int32), r17, q18))
noncomputable def Gk_readWhole3_57 (w13_3 : Int32) (rw13 : zRr) (qw13 : zRq) (ih13 : Int32 → zRr → zRq → (Int32 × zRr × zRq)) (w57_s0 : Int32) : Int32 × zRr × zRq :=
  zc_rq (Gk_step rw13 qw13) <| fun r2 q3 => zc_vrq (Gk_readTest3 r2 q3) <| fun v5 r6 q7 => zifn (v5 = (0 : Int32)) (zlet (α := zRr) ((Gk_add w57_s0 r6 q7)) <| fun u10 => ih13 (w13_3 + 1) u10 q7) (((0 : Int32), r6, q7))
noncomputable def Gk_readWhole3_40 (w13_3 : Int32) (rw13 : zRr) (qw13 : zRq) (ih13 : Int32 → zRr → zRq → (Int32 × zRr × zRq)) : Int32 × zRr × zRq :=
  zlet (α := Int32) (rw13 196 4) <| fun v14 => zifn (v14 = (19 : Int32)) (Gk_readWhole3_57 w13_3 rw13 qw13 ih13 (-7)) (Gk_readWhole3_57 w13_3 rw13 qw13 ih13 (-6))
noncomputable def Bk_readWhole3_13 (ih13 : Int32 → zRr → zRq → (Int32 × zRr × zRq)) (w13_3 : Int32) (rw13 : zRr) (qw13 : zRq) : Int32 × zRr × zRq :=
  zif ((1000 : Int32) ≤ w13_3) (((1 : Int32), rw13, qw13)) (zlet (α := Int32) (rw13 196 4) <| fun v19 => zif (v19 = (19 : Int32)) (Gk_readWhole3_40 w13_3 rw13 qw13 ih13 ) (zlet (α := Int32) (rw13 196 4) <| fun v21 => zifn (v21 = (20 : Int32)) (((1 : Int32), rw13, qw13)) (Gk_readWhole3_40 w13_3 rw13 qw13 ih13 )))
noncomputable def Gk_readWhole3_13 (n : Nat) : Int32 → zRr → zRq → (Int32 × zRr × zRq) :=
  Nat.rec (motive := fun _ => Int32 → zRr → zRq → (Int32 × zRr × zRq)) (fun _ rw13 qw13 => (default, rw13, qw13)) (fun _ ih => Bk_readWhole3_13 ih) n
noncomputable def Gk_readWhole3 (r : zRr) (q : zRq) : Int32 × zRr × zRq :=
  zc_vrq (Gk_readTest3 r q) <| fun v24 r25 q26 => zifn (v24 = (0 : Int32)) (Gk_readWhole3_13 1001 0 r25 q26) (((0 : Int32), r25, q26))
noncomputable def Gk_readPart2_130 (w130_5 : Int32) (rw130 : zRr) (qw130 : zRq) : Int32 × zRr × zRq :=
  zlet (α := zRr) ((Gk_add w130_5 rw130 qw130)) <| fun u1 => ((1 : Int32), u1, qw130)
noncomputable def Gk_readPart2_66 (r : zRr) (q : zRq) (w66_3 : Int32) (w66_4 : Int32) (w66_5 : Int32) : Int32 × zRr × zRq :=
  zc_rq (Gk_step r q) <| fun r5 q6 => zif (w66_3 = (0 : Int32)) (zif (w66_4 = (0 : Int32)) (Gk_readPart2_130 w66_5 r5 q6) (zc_vrq (Gk_readPart3 r5 q6) <| fun v13 r14 q15 => zifn (v13 = (0 : Int32)) (Gk_readPart2_130 w66_5 r14 q15) (((0 : Int32), r14, q15)))) (zc_vrq (Gk_readWhole3 r5 q6) <| fun v21 r22 q23 => zif (v21 = (0 : Int32)) (((0 : Int32), r22, q23)) (zc_vrq (Gk_take 22 r22 q23) <| fun v28 r29 q30 => zif (v28 = (0 : Int32)) (((0 : Int32), r29, q30)) (((1 : Int32), r29, q30))))
noncomputable def Gk_readPart2_47 (r : zRr) (q : zRq) (w47_3 : Int32) (w47_4 : Int32) (w47_s0 : Int32) : Int32 × zRr × zRq :=
  zifn (w47_3 = (0 : Int32)) (Gk_readPart2_66 r q w47_3 w47_4 w47_s0) (zifn (w47_s0 = ((-13) : Int32)) (Gk_readPart2_66 r q w47_3 w47_4 w47_s0) (zc_vr (Gk_wrong (1 : Int32) r q) <| fun v40 r41 => (v40, r41, q)))
noncomputable def Gk_readPart2_31 (r : zRr) (q : zRq) (w31_3 : Int32) (w31_s0 : Int32) : Int32 × zRr × zRq :=
  zif (w31_s0 = (0 : Int32)) (zlet (α := Int32) ((Gk_valueHere r q)) <| fun u44 => Gk_readPart2_47 r q w31_3 w31_s0 u44) (Gk_readPart2_47 r q w31_3 w31_s0 (-5))
noncomputable def Gk_readPart2_15 (r : zRr) (q : zRq) (w15_s0 : Int32) : Int32 × zRr × zRq :=
  zlet (α := Int32) (r 196 4) <| fun v47 => zifn (v47 = (18 : Int32)) (Gk_readPart2_31 r q w15_s0 0) (Gk_readPart2_31 r q w15_s0 1)
noncomputable def Gk_readPart2 (r : zRr) (q : zRq) : Int32 × zRr × zRq :=
  zlet (α := Int32) (r 196 4) <| fun v49 => zifn (v49 = (21 : Int32)) (Gk_readPart2_15 r q 0) (Gk_readPart2_15 r q 1)
noncomputable def Bk_readProduct2_13 (ih13 : Int32 → zRr → zRq → (Int32 × zRr × zRq)) (w13_3 : Int32) (rw13 : zRr) (qw13 : zRq) : Int32 × zRr × zRq :=
  zif ((1000 : Int32) ≤ w13_3) (((1 : Int32), rw13, qw13)) (zlet (α := Int32) (rw13 196 4) <| fun v4 => zifn (v4 = (27 : Int32)) (((1 : Int32), rw13, qw13)) (zc_rq (Gk_step rw13 qw13) <| fun r7 q8 => zc_vrq (Gk_readPart2 r7 q8) <| fun v10 r11 q12 => zifn (v10 = (0 : Int32)) (zlet (α := zRr) ((Gk_add ((-12) : Int32) r11 q12)) <| fun u15 => ih13 (w13_3 + 1) u15 q12) (((0 : Int32), r11, q12))))
noncomputable def Gk_readProduct2_13 (n : Nat) : Int32 → zRr → zRq → (Int32 × zRr × zRq) :=
  Nat.rec (motive := fun _ => Int32 → zRr → zRq → (Int32 × zRr × zRq)) (fun _ rw13 qw13 => (default, rw13, qw13)) (fun _ ih => Bk_readProduct2_13 ih) n
noncomputable def Gk_readProduct2 (r : zRr) (q : zRq) : Int32 × zRr × zRq :=
  zc_vrq (Gk_readPart2 r q) <| fun v20 r21 q22 => zifn (v20 = (0 : Int32)) (Gk_readProduct2_13 1001 0 r21 q22) (((0 : Int32), r21, q22))
noncomputable def Gk_readSum2_57 (w13_3 : Int32) (rw13 : zRr) (qw13 : zRq) (ih13 : Int32 → zRr → zRq → (Int32 × zRr × zRq)) (w57_s0 : Int32) : Int32 × zRr × zRq :=
  zc_rq (Gk_step rw13 qw13) <| fun r2 q3 => zc_vrq (Gk_readProduct2 r2 q3) <| fun v5 r6 q7 => zifn (v5 = (0 : Int32)) (zlet (α := zRr) ((Gk_add w57_s0 r6 q7)) <| fun u10 => ih13 (w13_3 + 1) u10 q7) (((0 : Int32), r6, q7))
noncomputable def Gk_readSum2_40 (w13_3 : Int32) (rw13 : zRr) (qw13 : zRq) (ih13 : Int32 → zRr → zRq → (Int32 × zRr × zRq)) : Int32 × zRr × zRq :=
  zlet (α := Int32) (rw13 196 4) <| fun v14 => zifn (v14 = (25 : Int32)) (Gk_readSum2_57 w13_3 rw13 qw13 ih13 (-11)) (Gk_readSum2_57 w13_3 rw13 qw13 ih13 (-10))
noncomputable def Bk_readSum2_13 (ih13 : Int32 → zRr → zRq → (Int32 × zRr × zRq)) (w13_3 : Int32) (rw13 : zRr) (qw13 : zRq) : Int32 × zRr × zRq :=
  zif ((1000 : Int32) ≤ w13_3) (((1 : Int32), rw13, qw13)) (zlet (α := Int32) (rw13 196 4) <| fun v19 => zif (v19 = (25 : Int32)) (Gk_readSum2_40 w13_3 rw13 qw13 ih13 ) (zlet (α := Int32) (rw13 196 4) <| fun v21 => zifn (v21 = (26 : Int32)) (((1 : Int32), rw13, qw13)) (Gk_readSum2_40 w13_3 rw13 qw13 ih13 )))
noncomputable def Gk_readSum2_13 (n : Nat) : Int32 → zRr → zRq → (Int32 × zRr × zRq) :=
  Nat.rec (motive := fun _ => Int32 → zRr → zRq → (Int32 × zRr × zRq)) (fun _ rw13 qw13 => (default, rw13, qw13)) (fun _ ih => Bk_readSum2_13 ih) n
noncomputable def Gk_readSum2 (r : zRr) (q : zRq) : Int32 × zRr × zRq :=
  zc_vrq (Gk_readProduct2 r q) <| fun v24 r25 q26 => zifn (v24 = (0 : Int32)) (Gk_readSum2_13 1001 0 r25 q26) (((0 : Int32), r25, q26))
noncomputable def Gk_readTest2_50 (w50_s0 : Int32) (rw50 : zRr) (qw50 : zRq) : Int32 × zRr × zRq :=
  zc_rq (Gk_step rw50 qw50) <| fun r2 q3 => zc_vrq (Gk_readSum2 r2 q3) <| fun v5 r6 q7 => zifn (v5 = (0 : Int32)) (zlet (α := zRr) ((Gk_add w50_s0 r6 q7)) <| fun u10 => ((1 : Int32), u10, q7)) (((0 : Int32), r6, q7))
noncomputable def Gk_readTest2_33 (rw33 : zRr) (qw33 : zRq) : Int32 × zRr × zRq :=
  zlet (α := Int32) (rw33 196 4) <| fun v13 => zifn (v13 = (23 : Int32)) (Gk_readTest2_50 (-9) rw33 qw33) (Gk_readTest2_50 (-8) rw33 qw33)
noncomputable def Gk_readTest2 (r : zRr) (q : zRq) : Int32 × zRr × zRq :=
  zc_vrq (Gk_readSum2 r q) <| fun v16 r17 q18 => zifn (v16 = (0 : Int32)) (zlet (α := Int32) (r17 196 4) <| fun v21 => zif (v21 = (23 : Int32)) (Gk_readTest2_33 r17 q18) (zlet (α := Int32) (r17 196 4) <| fun v23 => zif (v23 = (24 : Int32)) (Gk_readTest2_33 r17 q18) (((1 : Int32), r17, q18)))) (((0 : Int32), r17, q18))
noncomputable def Gk_readWhole2_57 (w13_3 : Int32) (rw13 : zRr) (qw13 : zRq) (ih13 : Int32 → zRr → zRq → (Int32 × zRr × zRq)) (w57_s0 : Int32) : Int32 × zRr × zRq :=
  zc_rq (Gk_step rw13 qw13) <| fun r2 q3 => zc_vrq (Gk_readTest2 r2 q3) <| fun v5 r6 q7 => zifn (v5 = (0 : Int32)) (zlet (α := zRr) ((Gk_add w57_s0 r6 q7)) <| fun u10 => ih13 (w13_3 + 1) u10 q7) (((0 : Int32), r6, q7))
noncomputable def Gk_readWhole2_40 (w13_3 : Int32) (rw13 : zRr) (qw13 : zRq) (ih13 : Int32 → zRr → zRq → (Int32 × zRr × zRq)) : Int32 × zRr × zRq :=
  zlet (α := Int32) (rw13 196 4) <| fun v14 => zifn (v14 = (19 : Int32)) (Gk_readWhole2_57 w13_3 rw13 qw13 ih13 (-7)) (Gk_readWhole2_57 w13_3 rw13 qw13 ih13 (-6))
noncomputable def Bk_readWhole2_13 (ih13 : Int32 → zRr → zRq → (Int32 × zRr × zRq)) (w13_3 : Int32) (rw13 : zRr) (qw13 : zRq) : Int32 × zRr × zRq :=
  zif ((1000 : Int32) ≤ w13_3) (((1 : Int32), rw13, qw13)) (zlet (α := Int32) (rw13 196 4) <| fun v19 => zif (v19 = (19 : Int32)) (Gk_readWhole2_40 w13_3 rw13 qw13 ih13 ) (zlet (α := Int32) (rw13 196 4) <| fun v21 => zifn (v21 = (20 : Int32)) (((1 : Int32), rw13, qw13)) (Gk_readWhole2_40 w13_3 rw13 qw13 ih13 )))
noncomputable def Gk_readWhole2_13 (n : Nat) : Int32 → zRr → zRq → (Int32 × zRr × zRq) :=
  Nat.rec (motive := fun _ => Int32 → zRr → zRq → (Int32 × zRr × zRq)) (fun _ rw13 qw13 => (default, rw13, qw13)) (fun _ ih => Bk_readWhole2_13 ih) n
noncomputable def Gk_readWhole2 (r : zRr) (q : zRq) : Int32 × zRr × zRq :=
  zc_vrq (Gk_readTest2 r q) <| fun v24 r25 q26 => zifn (v24 = (0 : Int32)) (Gk_readWhole2_13 1001 0 r25 q26) (((0 : Int32), r25, q26))
noncomputable def Gk_readPart1_130 (w130_5 : Int32) (rw130 : zRr) (qw130 : zRq) : Int32 × zRr × zRq :=
  zlet (α := zRr) ((Gk_add w130_5 rw130 qw130)) <| fun u1 => ((1 : Int32), u1, qw130)
noncomputable def Gk_readPart1_66 (r : zRr) (q : zRq) (w66_3 : Int32) (w66_4 : Int32) (w66_5 : Int32) : Int32 × zRr × zRq :=
  zc_rq (Gk_step r q) <| fun r5 q6 => zif (w66_3 = (0 : Int32)) (zif (w66_4 = (0 : Int32)) (Gk_readPart1_130 w66_5 r5 q6) (zc_vrq (Gk_readPart2 r5 q6) <| fun v13 r14 q15 => zifn (v13 = (0 : Int32)) (Gk_readPart1_130 w66_5 r14 q15) (((0 : Int32), r14, q15)))) (zc_vrq (Gk_readWhole2 r5 q6) <| fun v21 r22 q23 => zif (v21 = (0 : Int32)) (((0 : Int32), r22, q23)) (zc_vrq (Gk_take 22 r22 q23) <| fun v28 r29 q30 => zif (v28 = (0 : Int32)) (((0 : Int32), r29, q30)) (((1 : Int32), r29, q30))))
noncomputable def Gk_readPart1_47 (r : zRr) (q : zRq) (w47_3 : Int32) (w47_4 : Int32) (w47_s0 : Int32) : Int32 × zRr × zRq :=
  zifn (w47_3 = (0 : Int32)) (Gk_readPart1_66 r q w47_3 w47_4 w47_s0) (zifn (w47_s0 = ((-13) : Int32)) (Gk_readPart1_66 r q w47_3 w47_4 w47_s0) (zc_vr (Gk_wrong (1 : Int32) r q) <| fun v40 r41 => (v40, r41, q)))
noncomputable def Gk_readPart1_31 (r : zRr) (q : zRq) (w31_3 : Int32) (w31_s0 : Int32) : Int32 × zRr × zRq :=
  zif (w31_s0 = (0 : Int32)) (zlet (α := Int32) ((Gk_valueHere r q)) <| fun u44 => Gk_readPart1_47 r q w31_3 w31_s0 u44) (Gk_readPart1_47 r q w31_3 w31_s0 (-5))
noncomputable def Gk_readPart1_15 (r : zRr) (q : zRq) (w15_s0 : Int32) : Int32 × zRr × zRq :=
  zlet (α := Int32) (r 196 4) <| fun v47 => zifn (v47 = (18 : Int32)) (Gk_readPart1_31 r q w15_s0 0) (Gk_readPart1_31 r q w15_s0 1)
noncomputable def Gk_readPart1 (r : zRr) (q : zRq) : Int32 × zRr × zRq :=
  zlet (α := Int32) (r 196 4) <| fun v49 => zifn (v49 = (21 : Int32)) (Gk_readPart1_15 r q 0) (Gk_readPart1_15 r q 1)
noncomputable def Bk_readProduct1_13 (ih13 : Int32 → zRr → zRq → (Int32 × zRr × zRq)) (w13_3 : Int32) (rw13 : zRr) (qw13 : zRq) : Int32 × zRr × zRq :=
  zif ((1000 : Int32) ≤ w13_3) (((1 : Int32), rw13, qw13)) (zlet (α := Int32) (rw13 196 4) <| fun v4 => zifn (v4 = (27 : Int32)) (((1 : Int32), rw13, qw13)) (zc_rq (Gk_step rw13 qw13) <| fun r7 q8 => zc_vrq (Gk_readPart1 r7 q8) <| fun v10 r11 q12 => zifn (v10 = (0 : Int32)) (zlet (α := zRr) ((Gk_add ((-12) : Int32) r11 q12)) <| fun u15 => ih13 (w13_3 + 1) u15 q12) (((0 : Int32), r11, q12))))
noncomputable def Gk_readProduct1_13 (n : Nat) : Int32 → zRr → zRq → (Int32 × zRr × zRq) :=
  Nat.rec (motive := fun _ => Int32 → zRr → zRq → (Int32 × zRr × zRq)) (fun _ rw13 qw13 => (default, rw13, qw13)) (fun _ ih => Bk_readProduct1_13 ih) n
noncomputable def Gk_readProduct1 (r : zRr) (q : zRq) : Int32 × zRr × zRq :=
  zc_vrq (Gk_readPart1 r q) <| fun v20 r21 q22 => zifn (v20 = (0 : Int32)) (Gk_readProduct1_13 1001 0 r21 q22) (((0 : Int32), r21, q22))
noncomputable def Gk_readSum1_57 (w13_3 : Int32) (rw13 : zRr) (qw13 : zRq) (ih13 : Int32 → zRr → zRq → (Int32 × zRr × zRq)) (w57_s0 : Int32) : Int32 × zRr × zRq :=
  zc_rq (Gk_step rw13 qw13) <| fun r2 q3 => zc_vrq (Gk_readProduct1 r2 q3) <| fun v5 r6 q7 => zifn (v5 = (0 : Int32)) (zlet (α := zRr) ((Gk_add w57_s0 r6 q7)) <| fun u10 => ih13 (w13_3 + 1) u10 q7) (((0 : Int32), r6, q7))
noncomputable def Gk_readSum1_40 (w13_3 : Int32) (rw13 : zRr) (qw13 : zRq) (ih13 : Int32 → zRr → zRq → (Int32 × zRr × zRq)) : Int32 × zRr × zRq :=
  zlet (α := Int32) (rw13 196 4) <| fun v14 => zifn (v14 = (25 : Int32)) (Gk_readSum1_57 w13_3 rw13 qw13 ih13 (-11)) (Gk_readSum1_57 w13_3 rw13 qw13 ih13 (-10))
noncomputable def Bk_readSum1_13 (ih13 : Int32 → zRr → zRq → (Int32 × zRr × zRq)) (w13_3 : Int32) (rw13 : zRr) (qw13 : zRq) : Int32 × zRr × zRq :=
  zif ((1000 : Int32) ≤ w13_3) (((1 : Int32), rw13, qw13)) (zlet (α := Int32) (rw13 196 4) <| fun v19 => zif (v19 = (25 : Int32)) (Gk_readSum1_40 w13_3 rw13 qw13 ih13 ) (zlet (α := Int32) (rw13 196 4) <| fun v21 => zifn (v21 = (26 : Int32)) (((1 : Int32), rw13, qw13)) (Gk_readSum1_40 w13_3 rw13 qw13 ih13 )))
noncomputable def Gk_readSum1_13 (n : Nat) : Int32 → zRr → zRq → (Int32 × zRr × zRq) :=
  Nat.rec (motive := fun _ => Int32 → zRr → zRq → (Int32 × zRr × zRq)) (fun _ rw13 qw13 => (default, rw13, qw13)) (fun _ ih => Bk_readSum1_13 ih) n
noncomputable def Gk_readSum1 (r : zRr) (q : zRq) : Int32 × zRr × zRq :=
  zc_vrq (Gk_readProduct1 r q) <| fun v24 r25 q26 => zifn (v24 = (0 : Int32)) (Gk_readSum1_13 1001 0 r25 q26) (((0 : Int32), r25, q26))
noncomputable def Gk_readTest1_50 (w50_s0 : Int32) (rw50 : zRr) (qw50 : zRq) : Int32 × zRr × zRq :=
  zc_rq (Gk_step rw50 qw50) <| fun r2 q3 => zc_vrq (Gk_readSum1 r2 q3) <| fun v5 r6 q7 => zifn (v5 = (0 : Int32)) (zlet (α := zRr) ((Gk_add w50_s0 r6 q7)) <| fun u10 => ((1 : Int32), u10, q7)) (((0 : Int32), r6, q7))
noncomputable def Gk_readTest1_33 (rw33 : zRr) (qw33 : zRq) : Int32 × zRr × zRq :=
  zlet (α := Int32) (rw33 196 4) <| fun v13 => zifn (v13 = (23 : Int32)) (Gk_readTest1_50 (-9) rw33 qw33) (Gk_readTest1_50 (-8) rw33 qw33)
noncomputable def Gk_readTest1 (r : zRr) (q : zRq) : Int32 × zRr × zRq :=
  zc_vrq (Gk_readSum1 r q) <| fun v16 r17 q18 => zifn (v16 = (0 : Int32)) (zlet (α := Int32) (r17 196 4) <| fun v21 => zif (v21 = (23 : Int32)) (Gk_readTest1_33 r17 q18) (zlet (α := Int32) (r17 196 4) <| fun v23 => zif (v23 = (24 : Int32)) (Gk_readTest1_33 r17 q18) (((1 : Int32), r17, q18)))) (((0 : Int32), r17, q18))
noncomputable def Gk_readWhole1_57 (w13_3 : Int32) (rw13 : zRr) (qw13 : zRq) (ih13 : Int32 → zRr → zRq → (Int32 × zRr × zRq)) (w57_s0 : Int32) : Int32 × zRr × zRq :=
  zc_rq (Gk_step rw13 qw13) <| fun r2 q3 => zc_vrq (Gk_readTest1 r2 q3) <| fun v5 r6 q7 => zifn (v5 = (0 : Int32)) (zlet (α := zRr) ((Gk_add w57_s0 r6 q7)) <| fun u10 => ih13 (w13_3 + 1) u10 q7) (((0 : Int32), r6, q7))
noncomputable def Gk_readWhole1_40 (w13_3 : Int32) (rw13 : zRr) (qw13 : zRq) (ih13 : Int32 → zRr → zRq → (Int32 × zRr × zRq)) : Int32 × zRr × zRq :=
  zlet (α := Int32) (rw13 196 4) <| fun v14 => zifn (v14 = (19 : Int32)) (Gk_readWhole1_57 w13_3 rw13 qw13 ih13 (-7)) (Gk_readWhole1_57 w13_3 rw13 qw13 ih13 (-6))
noncomputable def Bk_readWhole1_13 (ih13 : Int32 → zRr → zRq → (Int32 × zRr × zRq)) (w13_3 : Int32) (rw13 : zRr) (qw13 : zRq) : Int32 × zRr × zRq :=
  zif ((1000 : Int32) ≤ w13_3) (((1 : Int32), rw13, qw13)) (zlet (α := Int32) (rw13 196 4) <| fun v19 => zif (v19 = (19 : Int32)) (Gk_readWhole1_40 w13_3 rw13 qw13 ih13 ) (zlet (α := Int32) (rw13 196 4) <| fun v21 => zifn (v21 = (20 : Int32)) (((1 : Int32), rw13, qw13)) (Gk_readWhole1_40 w13_3 rw13 qw13 ih13 )))
noncomputable def Gk_readWhole1_13 (n : Nat) : Int32 → zRr → zRq → (Int32 × zRr × zRq) :=
  Nat.rec (motive := fun _ => Int32 → zRr → zRq → (Int32 × zRr × zRq)) (fun _ rw13 qw13 => (default, rw13, qw13)) (fun _ ih => Bk_readWhole1_13 ih) n
noncomputable def Gk_readWhole1 (r : zRr) (q : zRq) : Int32 × zRr × zRq :=
  zc_vrq (Gk_readTest1 r q) <| fun v24 r25 q26 => zifn (v24 = (0 : Int32)) (Gk_readWhole1_13 1001 0 r25 q26) (((0 : Int32), r25, q26))
noncomputable def Gk_readPart0_130 (w130_5 : Int32) (rw130 : zRr) (qw130 : zRq) : Int32 × zRr × zRq :=
  zlet (α := zRr) ((Gk_add w130_5 rw130 qw130)) <| fun u1 => ((1 : Int32), u1, qw130)
noncomputable def Gk_readPart0_66 (r : zRr) (q : zRq) (w66_3 : Int32) (w66_4 : Int32) (w66_5 : Int32) : Int32 × zRr × zRq :=
  zc_rq (Gk_step r q) <| fun r5 q6 => zif (w66_3 = (0 : Int32)) (zif (w66_4 = (0 : Int32)) (Gk_readPart0_130 w66_5 r5 q6) (zc_vrq (Gk_readPart1 r5 q6) <| fun v13 r14 q15 => zifn (v13 = (0 : Int32)) (Gk_readPart0_130 w66_5 r14 q15) (((0 : Int32), r14, q15)))) (zc_vrq (Gk_readWhole1 r5 q6) <| fun v21 r22 q23 => zif (v21 = (0 : Int32)) (((0 : Int32), r22, q23)) (zc_vrq (Gk_take 22 r22 q23) <| fun v28 r29 q30 => zif (v28 = (0 : Int32)) (((0 : Int32), r29, q30)) (((1 : Int32), r29, q30))))
noncomputable def Gk_readPart0_47 (r : zRr) (q : zRq) (w47_3 : Int32) (w47_4 : Int32) (w47_s0 : Int32) : Int32 × zRr × zRq :=
  zifn (w47_3 = (0 : Int32)) (Gk_readPart0_66 r q w47_3 w47_4 w47_s0) (zifn (w47_s0 = ((-13) : Int32)) (Gk_readPart0_66 r q w47_3 w47_4 w47_s0) (zc_vr (Gk_wrong (1 : Int32) r q) <| fun v40 r41 => (v40, r41, q)))
noncomputable def Gk_readPart0_31 (r : zRr) (q : zRq) (w31_3 : Int32) (w31_s0 : Int32) : Int32 × zRr × zRq :=
  zif (w31_s0 = (0 : Int32)) (zlet (α := Int32) ((Gk_valueHere r q)) <| fun u44 => Gk_readPart0_47 r q w31_3 w31_s0 u44) (Gk_readPart0_47 r q w31_3 w31_s0 (-5))
noncomputable def Gk_readPart0_15 (r : zRr) (q : zRq) (w15_s0 : Int32) : Int32 × zRr × zRq :=
  zlet (α := Int32) (r 196 4) <| fun v47 => zifn (v47 = (18 : Int32)) (Gk_readPart0_31 r q w15_s0 0) (Gk_readPart0_31 r q w15_s0 1)
noncomputable def Gk_readPart0 (r : zRr) (q : zRq) : Int32 × zRr × zRq :=
  zlet (α := Int32) (r 196 4) <| fun v49 => zifn (v49 = (21 : Int32)) (Gk_readPart0_15 r q 0) (Gk_readPart0_15 r q 1)
noncomputable def Bk_readProduct0_13 (ih13 : Int32 → zRr → zRq → (Int32 × zRr × zRq)) (w13_3 : Int32) (rw13 : zRr) (qw13 : zRq) : Int32 × zRr × zRq :=
  zif ((1000 : Int32) ≤ w13_3) (((1 : Int32), rw13, qw13)) (zlet (α := Int32) (rw13 196 4) <| fun v4 => zifn (v4 = (27 : Int32)) (((1 : Int32), rw13, qw13)) (zc_rq (Gk_step rw13 qw13) <| fun r7 q8 => zc_vrq (Gk_readPart0 r7 q8) <| fun v10 r11 q12 => zifn (v10 = (0 : Int32)) (zlet (α := zRr) ((Gk_add ((-12) : Int32) r11 q12)) <| fun u15 => ih13 (w13_3 + 1) u15 q12) (((0 : Int32), r11, q12))))
noncomputable def Gk_readProduct0_13 (n : Nat) : Int32 → zRr → zRq → (Int32 × zRr × zRq) :=
  Nat.rec (motive := fun _ => Int32 → zRr → zRq → (Int32 × zRr × zRq)) (fun _ rw13 qw13 => (default, rw13, qw13)) (fun _ ih => Bk_readProduct0_13 ih) n
noncomputable def Gk_readProduct0 (r : zRr) (q : zRq) : Int32 × zRr × zRq :=
  zc_vrq (Gk_readPart0 r q) <| fun v20 r21 q22 => zifn (v20 = (0 : Int32)) (Gk_readProduct0_13 1001 0 r21 q22) (((0 : Int32), r21, q22))
noncomputable def Gk_readSum0_57 (w13_3 : Int32) (rw13 : zRr) (qw13 : zRq) (ih13 : Int32 → zRr → zRq → (Int32 × zRr × zRq)) (w57_s0 : Int32) : Int32 × zRr × zRq :=
  zc_rq (Gk_step rw13 qw13) <| fun r2 q3 => zc_vrq (Gk_readProduct0 r2 q3) <| fun v5 r6 q7 => zifn (v5 = (0 : Int32)) (zlet (α := zRr) ((Gk_add w57_s0 r6 q7)) <| fun u10 => ih13 (w13_3 + 1) u10 q7) (((0 : Int32), r6, q7))
noncomputable def Gk_readSum0_40 (w13_3 : Int32) (rw13 : zRr) (qw13 : zRq) (ih13 : Int32 → zRr → zRq → (Int32 × zRr × zRq)) : Int32 × zRr × zRq :=
  zlet (α := Int32) (rw13 196 4) <| fun v14 => zifn (v14 = (25 : Int32)) (Gk_readSum0_57 w13_3 rw13 qw13 ih13 (-11)) (Gk_readSum0_57 w13_3 rw13 qw13 ih13 (-10))
noncomputable def Bk_readSum0_13 (ih13 : Int32 → zRr → zRq → (Int32 × zRr × zRq)) (w13_3 : Int32) (rw13 : zRr) (qw13 : zRq) : Int32 × zRr × zRq :=
  zif ((1000 : Int32) ≤ w13_3) (((1 : Int32), rw13, qw13)) (zlet (α := Int32) (rw13 196 4) <| fun v19 => zif (v19 = (25 : Int32)) (Gk_readSum0_40 w13_3 rw13 qw13 ih13 ) (zlet (α := Int32) (rw13 196 4) <| fun v21 => zifn (v21 = (26 : Int32)) (((1 : Int32), rw13, qw13)) (Gk_readSum0_40 w13_3 rw13 qw13 ih13 )))
noncomputable def Gk_readSum0_13 (n : Nat) : Int32 → zRr → zRq → (Int32 × zRr × zRq) :=
  Nat.rec (motive := fun _ => Int32 → zRr → zRq → (Int32 × zRr × zRq)) (fun _ rw13 qw13 => (default, rw13, qw13)) (fun _ ih => Bk_readSum0_13 ih) n
noncomputable def Gk_readSum0 (r : zRr) (q : zRq) : Int32 × zRr × zRq :=
  zc_vrq (Gk_readProduct0 r q) <| fun v24 r25 q26 => zifn (v24 = (0 : Int32)) (Gk_readSum0_13 1001 0 r25 q26) (((0 : Int32), r25, q26))
noncomputable def Gk_readTest0_50 (w50_s0 : Int32) (rw50 : zRr) (qw50 : zRq) : Int32 × zRr × zRq :=
  zc_rq (Gk_step rw50 qw50) <| fun r2 q3 => zc_vrq (Gk_readSum0 r2 q3) <| fun v5 r6 q7 => zifn (v5 = (0 : Int32)) (zlet (α := zRr) ((Gk_add w50_s0 r6 q7)) <| fun u10 => ((1 : Int32), u10, q7)) (((0 : Int32), r6, q7))
noncomputable def Gk_readTest0_33 (rw33 : zRr) (qw33 : zRq) : Int32 × zRr × zRq :=
  zlet (α := Int32) (rw33 196 4) <| fun v13 => zifn (v13 = (23 : Int32)) (Gk_readTest0_50 (-9) rw33 qw33) (Gk_readTest0_50 (-8) rw33 qw33)
noncomputable def Gk_readTest0 (r : zRr) (q : zRq) : Int32 × zRr × zRq :=
  zc_vrq (Gk_readSum0 r q) <| fun v16 r17 q18 => zifn (v16 = (0 : Int32)) (zlet (α := Int32) (r17 196 4) <| fun v21 => zif (v21 = (23 : Int32)) (Gk_readTest0_33 r17 q18) (zlet (α := Int32) (r17 196 4) <| fun v23 => zif (v23 = (24 : Int32)) (Gk_readTest0_33 r17 q18) (((1 : Int32), r17, q18)))) (((0 : Int32), r17, q18))
noncomputable def Gk_readWhole0_57 (w13_3 : Int32) (rw13 : zRr) (qw13 : zRq) (ih13 : Int32 → zRr → zRq → (Int32 × zRr × zRq)) (w57_s0 : Int32) : Int32 × zRr × zRq :=
  zc_rq (Gk_step rw13 qw13) <| fun r2 q3 => zc_vrq (Gk_readTest0 r2 q3) <| fun v5 r6 q7 => zifn (v5 = (0 : Int32)) (zlet (α := zRr) ((Gk_add w57_s0 r6 q7)) <| fun u10 => ih13 (w13_3 + 1) u10 q7) (((0 : Int32), r6, q7))
noncomputable def Gk_readWhole0_40 (w13_3 : Int32) (rw13 : zRr) (qw13 : zRq) (ih13 : Int32 → zRr → zRq → (Int32 × zRr × zRq)) : Int32 × zRr × zRq :=
  zlet (α := Int32) (rw13 196 4) <| fun v14 => zifn (v14 = (19 : Int32)) (Gk_readWhole0_57 w13_3 rw13 qw13 ih13 (-7)) (Gk_readWhole0_57 w13_3 rw13 qw13 ih13 (-6))
noncomputable def Bk_readWhole0_13 (ih13 : Int32 → zRr → zRq → (Int32 × zRr × zRq)) (w13_3 : Int32) (rw13 : zRr) (qw13 : zRq) : Int32 × zRr × zRq :=
  zif ((1000 : Int32) ≤ w13_3) (((1 : Int32), rw13, qw13)) (zlet (α := Int32) (rw13 196 4) <| fun v19 => zif (v19 = (19 : Int32)) (Gk_readWhole0_40 w13_3 rw13 qw13 ih13 ) (zlet (α := Int32) (rw13 196 4) <| fun v21 => zifn (v21 = (20 : Int32)) (((1 : Int32), rw13, qw13)) (Gk_readWhole0_40 w13_3 rw13 qw13 ih13 )))
noncomputable def Gk_readWhole0_13 (n : Nat) : Int32 → zRr → zRq → (Int32 × zRr × zRq) :=
  Nat.rec (motive := fun _ => Int32 → zRr → zRq → (Int32 × zRr × zRq)) (fun _ rw13 qw13 => (default, rw13, qw13)) (fun _ ih => Bk_readWhole0_13 ih) n
noncomputable def Gk_readWhole0 (r : zRr) (q : zRq) : Int32 × zRr × zRq :=
  zc_vrq (Gk_readTest0 r q) <| fun v24 r25 q26 => zifn (v24 = (0 : Int32)) (Gk_readWhole0_13 1001 0 r25 q26) (((0 : Int32), r25, q26))
noncomputable def Gk_clear (r : zRr) (q : zRq) : zRr :=
  zlet (α := zRr) ((zset r 183 (upd (r 183) 9 (0 : Int32)))) <| fun r1 => zlet (α := zRr) ((zset r1 183 (upd (r1 183) 10 (0 : Int32)))) <| fun r2 => zlet (α := zRr) ((zset r2 183 (upd (r2 183) 11 (1 : Int32)))) <| fun r3 => zlet (α := zRr) ((zset r3 183 (upd (r3 183) 12 (2 : Int32)))) <| fun r4 => zlet (α := zRr) (zset r4 185 (zfl (r4 185) (0 : Int32) 6)) <| fun r5 => zlet (α := zRr) ((Gk_untold r5 q)) <| fun u6 => u6
noncomputable def Gk_kindHere (r : zRr) (q : zRq) : Int32 :=
  zlet (α := Int32) (r 196 4) <| fun v1 => zifn (v1 = (14 : Int32)) (zlet (α := Int32) (r 196 4) <| fun v3 => zifn (v3 = (15 : Int32)) (zlet (α := Int32) (r 196 4) <| fun v5 => zifn (v5 = (16 : Int32)) (zlet (α := Int32) (r 196 4) <| fun v7 => zifn (v7 = (17 : Int32)) (((-1) : Int32)) ((3 : Int32))) ((2 : Int32))) ((1 : Int32))) ((0 : Int32))
noncomputable def Gk_isNewName_40 (r : zRr) (q : zRq) : Int32 × zRr :=
  zc_vr (Gk_wrong (3 : Int32) r q) <| fun v2 r3 => (v2, r3)
noncomputable def Gk_isNewName (r : zRr) (q : zRq) : Int32 × zRr :=
  zlet (α := Int32) (r 196 4) <| fun v4 => zif (v4 = (29 : Int32)) (zlet (α := Int64) (q 196 6) <| fun v6 => zlet (α := Int32) ((Gk_townNamedD v6 r q)) <| fun u7 => zifn (u7 = ((-1) : Int32)) (Gk_isNewName_40 r q ) (zlet (α := Int64) (q 196 6) <| fun v12 => zlet (α := Int32) ((Gk_personNamedD v12 r q)) <| fun u13 => zif (u13 = ((-1) : Int32)) (((1 : Int32), r)) (Gk_isNewName_40 r q ))) (zc_vr (Gk_wrong (1 : Int32) r q) <| fun v19 r20 => (v19, r20))
noncomputable def Gk_readTown (r : zRr) (q : zRq) : Int32 × zRr × zRq :=
  zif ((r 183 9) < (6 : Int32)) (zc_rq (Gk_step r q) <| fun r4 q5 => zc_vr (Gk_isNewName r4 q5) <| fun v7 r8 => zifn (v7 = (0 : Int32)) (zlet (α := Int64) (q5 196 6) <| fun v11 => zlet (α := zRq) (zset q5 186 (vp_updL (q5 186) (zn (r 183 9)) v11)) <| fun q12 => zc_rq (Gk_step r8 q12) <| fun r14 q15 => zc_vrq (Gk_take 1 r14 q15) <| fun v17 r18 q19 => zifn (v17 = (0 : Int32)) (zc_vrq (Gk_takeNumber (0 : Int32) (30 : Int32) r18 q19) <| fun v23 r24 q25 => zlet (α := zRr) (zset r24 184 (upd (r24 184) (zn (r 183 9)) v23)) <| fun r26 => zlet (α := zRr) ((zset r26 183 (upd (r26 183) 9 ((r26 183 9) + 1)))) <| fun r28 => zlet (α := Int32) (r28 184 (zn (r 183 9))) <| fun v29 => zif (v29 = ((-1) : Int32)) (((0 : Int32), r28, q25)) (((1 : Int32), r28, q25))) (((0 : Int32), r18, q19))) (((0 : Int32), r8, q5))) (zc_vr (Gk_wrong (5 : Int32) r q) <| fun v36 r37 => (v36, r37, q))
noncomputable def Gk_readRoad_56 (rw56 : zRr) (qw56 : zRq) : Int32 × zRr × zRq :=
  zc_vr (Gk_wrong (3 : Int32) rw56 qw56) <| fun v2 r3 => (v2, r3, qw56)
noncomputable def Gk_readRoad (r : zRr) (q : zRq) : Int32 × zRr × zRq :=
  zc_rq (Gk_step r q) <| fun r5 q6 => zc_vr (Gk_townHereD r5 q6) <| fun v8 r9 => zifn (v8 = ((-1) : Int32)) (zc_rq (Gk_step r9 q6) <| fun r13 q14 => zc_vr (Gk_townHereD r13 q14) <| fun v16 r17 => zifn (v16 = ((-1) : Int32)) (zif (v8 = v16) (Gk_readRoad_56 r17 q14) (zlet (α := Int32) (r17 185 (zn v8)) <| fun v21 => zlet (α := Int32) ((Gk_has v21 v16)) <| fun u22 => zif (u22 = (0 : Int32)) (zc_rq (Gk_step r17 q14) <| fun r27 q28 => zlet (α := Int32) (r27 185 (zn v8)) <| fun v29 => zlet (α := Int32) (1 <<< (v16 &&& 31)) <| fun v30 => zlet (α := Int32) (v29 ||| v30) <| fun v31 => zlet (α := zRr) (zset r27 185 (upd (r27 185) (zn v8) v31)) <| fun r32 => zlet (α := Int32) (r32 185 (zn v16)) <| fun v33 => zlet (α := Int32) (1 <<< (v8 &&& 31)) <| fun v34 => zlet (α := Int32) (v33 ||| v34) <| fun v35 => zlet (α := zRr) (zset r32 185 (upd (r32 185) (zn v16) v35)) <| fun r36 => ((1 : Int32), r36, q28)) (Gk_readRoad_56 r17 q14))) (((0 : Int32), r17, q14))) (((0 : Int32), r9, q6))
noncomputable def Gk_readPerson (r : zRr) (q : zRq) : Int32 × zRr × zRq :=
  zif ((r 183 10) < (6 : Int32)) (zc_rq (Gk_step r q) <| fun r4 q5 => zc_vr (Gk_isNewName r4 q5) <| fun v7 r8 => zifn (v7 = (0 : Int32)) (zlet (α := Int64) (q5 196 6) <| fun v11 => zlet (α := zRq) (zset q5 191 (vp_updL (q5 191) (zn (r 183 10)) v11)) <| fun q12 => zc_rq (Gk_step r8 q12) <| fun r14 q15 => zlet (α := Int32) ((Gk_kindHere r14 q15)) <| fun u16 => zlet (α := zRr) (zset r14 187 (upd (r14 187) (zn (r 183 10)) u16)) <| fun r18 => zlet (α := Int32) (r18 187 (zn (r 183 10))) <| fun v19 => zifn (v19 = ((-1) : Int32)) (zc_rq (Gk_step r18 q15) <| fun r22 q23 => zc_vrq (Gk_take 4 r22 q23) <| fun v25 r26 q27 => zifn (v25 = (0 : Int32)) (zc_vr (Gk_townHereD r26 q27) <| fun v31 r32 => zlet (α := zRr) (zset r32 188 (upd (r32 188) (zn (r 183 10)) v31)) <| fun r33 => zifn ((r33 188 (zn (r 183 10))) = ((-1) : Int32)) (zc_rq (Gk_step r33 q27) <| fun r38 q39 => zlet (α := zRr) ((zset r38 183 (upd (r38 183) 10 ((r38 183 10) + 1)))) <| fun r41 => ((1 : Int32), r41, q39)) (((0 : Int32), r33, q27))) (((0 : Int32), r26, q27))) (zc_vr (Gk_wrong (1 : Int32) r18 q15) <| fun v46 r47 => (v46, r47, q15))) (((0 : Int32), r8, q5))) (zc_vr (Gk_wrong (5 : Int32) r q) <| fun v51 r52 => (v51, r52, q))
noncomputable def Gk_readGoods (a3 : Int32) (r : zRr) (q : zRq) : Int32 × zRr × zRq :=
  zc_vrq (Gk_take 5 r q) <| fun v2 r3 q4 => zifn (v2 = (0 : Int32)) (zc_vrq (Gk_takeNumber (0 : Int32) (30 : Int32) r3 q4) <| fun v8 r9 q10 => zlet (α := zRr) (zset r9 189 (upd (r9 189) (zn a3) v8)) <| fun r11 => zlet (α := Int32) (r11 189 (zn a3)) <| fun v12 => zif (v12 = ((-1) : Int32)) (((0 : Int32), r11, q10)) (zc_vrq (Gk_take 6 r11 q10) <| fun v16 r17 q18 => zifn (v16 = (0 : Int32)) (zc_vrq (Gk_takeNumber (0 : Int32) (99 : Int32) r17 q18) <| fun v22 r23 q24 => zlet (α := zRr) (zset r23 190 (upd (r23 190) (zn a3) v22)) <| fun r25 => zlet (α := Int32) (r25 190 (zn a3)) <| fun v26 => zif (v26 = ((-1) : Int32)) (((0 : Int32), r25, q24)) (((1 : Int32), r25, q24))) (((0 : Int32), r17, q18)))) (((0 : Int32), r3, q4))
noncomputable def Gk_readGrows (r : zRr) (q : zRq) : Int32 × zRr × zRq :=
  zlet (α := Int32) (r 198 0) <| fun v1 => zif (v1 = (0 : Int32)) (zlet (α := zRr) ((zset r 198 (upd (r 198) 0 (1 : Int32)))) <| fun r4 => zc_rq (Gk_step r4 q) <| fun r6 q7 => zc_vrq (Gk_takeNumber (0 : Int32) (5 : Int32) r6 q7) <| fun v9 r10 q11 => zlet (α := zRr) ((zset r10 183 (upd (r10 183) 11 v9))) <| fun r12 => zlet (α := Int32) (r12 183 11) <| fun v13 => zif (v13 = ((-1) : Int32)) (((0 : Int32), r12, q11)) (((1 : Int32), r12, q11))) (zc_vr (Gk_wrong (3 : Int32) r q) <| fun v18 r19 => (v18, r19, q))
noncomputable def Gk_readInch (r : zRr) (q : zRq) : Int32 × zRr × zRq :=
  zlet (α := Int32) (r 198 1) <| fun v1 => zif (v1 = (0 : Int32)) (zlet (α := zRr) ((zset r 198 (upd (r 198) 1 (1 : Int32)))) <| fun r4 => zc_rq (Gk_step r4 q) <| fun r6 q7 => zc_vrq (Gk_takeNumber (1 : Int32) (9 : Int32) r6 q7) <| fun v9 r10 q11 => zlet (α := zRr) ((zset r10 183 (upd (r10 183) 12 v9))) <| fun r12 => zlet (α := Int32) (r12 183 12) <| fun v13 => zif (v13 = ((-1) : Int32)) (((0 : Int32), r12, q11)) (((1 : Int32), r12, q11))) (zc_vr (Gk_wrong (3 : Int32) r q) <| fun v18 r19 => (v18, r19, q))
noncomputable def Gk_beginReads (r : zRr) (q : zRq) : Int32 × zRr × zRq :=
  zlet (α := Int32) (r 198 2) <| fun v1 => zif (v1 = (0 : Int32)) (zlet (α := zRr) ((zset r 198 (upd (r 198) 2 (1 : Int32)))) <| fun r4 => zc_rq (Gk_step r4 q) <| fun r6 q7 => zlet (α := zRr) ((zset r6 192 (upd (r6 192) 2 (0 : Int32)))) <| fun r8 => ((1 : Int32), r8, q7)) (zc_vr (Gk_wrong (3 : Int32) r q) <| fun v11 r12 => (v11, r12, q))
noncomputable def Gk_readLineL (r : zRr) (q : zRq) : Int32 × zRr × zRq :=
  zlet (α := Int32) (r 196 4) <| fun v1 => zifn (v1 = (0 : Int32)) (zlet (α := Int32) (r 196 4) <| fun v3 => zifn (v3 = (2 : Int32)) (zlet (α := Int32) (r 196 4) <| fun v5 => zifn (v5 = (3 : Int32)) (zlet (α := Int32) (r 196 4) <| fun v7 => zifn (v7 = (7 : Int32)) (zlet (α := Int32) (r 196 4) <| fun v9 => zifn (v9 = (8 : Int32)) (zlet (α := Int32) (r 196 4) <| fun v11 => zifn (v11 = (9 : Int32)) (zc_vr (Gk_wrong (1 : Int32) r q) <| fun v14 r15 => (v14, r15, q)) (zc_vrq (Gk_beginReads r q) <| fun v17 r18 q19 => zif (v17 = (0 : Int32)) (((0 : Int32), r18, q19)) (zc_vrq (Gk_readWhole0 r18 q19) <| fun v24 r25 q26 => zif (v24 = (0 : Int32)) (((0 : Int32), r25, q26)) (((1 : Int32), r25, q26))))) (zc_vrq (Gk_readInch r q) <| fun v31 r32 q33 => (v31, r32, q33))) (zc_vrq (Gk_readGrows r q) <| fun v35 r36 q37 => (v35, r36, q37))) (zc_vrq (Gk_readPerson r q) <| fun v39 r40 q41 => zif (v39 = (0 : Int32)) (((0 : Int32), r40, q41)) (zlet (α := Int32) ((r40 183 10) - 1) <| fun v45 => zc_vrq (Gk_readGoods v45 r40 q41) <| fun v47 r48 q49 => zif (v47 = (0 : Int32)) (((0 : Int32), r48, q49)) (((1 : Int32), r48, q49))))) (zc_vrq (Gk_readRoad r q) <| fun v54 r55 q56 => (v54, r55, q56))) (zc_vrq (Gk_readTown r q) <| fun v58 r59 q60 => (v58, r59, q60))
noncomputable def Bk_readL_25 (ih25 : Int32 → zRr → zRq → (Int32 × zRr × zRq)) (w25_3 : Int32) (rw25 : zRr) (qw25 : zRq) : Int32 × zRr × zRq :=
  zif ((1000 : Int32) ≤ w25_3) (((1 : Int32), rw25, qw25)) (zlet (α := Int32) (rw25 196 4) <| fun v4 => zif (v4 = (31 : Int32)) (((1 : Int32), rw25, qw25)) (zc_vrq (Gk_readLineL rw25 qw25) <| fun v7 r8 q9 => zif (v7 = (0 : Int32)) (((0 : Int32), r8, q9)) (zc_vrq (Gk_take 28 r8 q9) <| fun v14 r15 q16 => zifn (v14 = (0 : Int32)) (ih25 (w25_3 + 1) r15 q16) (((0 : Int32), r15, q16)))))
noncomputable def Gk_readL_25 (n : Nat) : Int32 → zRr → zRq → (Int32 × zRr × zRq) :=
  Nat.rec (motive := fun _ => Int32 → zRr → zRq → (Int32 × zRr × zRq)) (fun _ rw25 qw25 => (default, rw25, qw25)) (fun _ ih => Bk_readL_25 ih) n
noncomputable def Gk_readL (r : zRr) (q : zRq) : Int32 × zRr × zRq :=
  zlet (α := zRr) ((Gk_clear r q)) <| fun u21 => zlet (α := zRr) ((zset u21 198 (upd (u21 198) 0 (0 : Int32)))) <| fun r23 => zlet (α := zRr) ((zset r23 198 (upd (r23 198) 1 (0 : Int32)))) <| fun r24 => zlet (α := zRr) ((zset r24 198 (upd (r24 198) 2 (0 : Int32)))) <| fun r25 => zc_rq (Gk_begin r25 q) <| fun r27 q28 => Gk_readL_25 1001 0 r27 q28
noncomputable def Gk_deedHere (r : zRr) (q : zRq) : Int32 :=
  zlet (α := Int32) (r 196 4) <| fun v1 => zifn (v1 = (10 : Int32)) (zlet (α := Int32) (r 196 4) <| fun v3 => zifn (v3 = (11 : Int32)) (zlet (α := Int32) (r 196 4) <| fun v5 => zifn (v5 = (12 : Int32)) (zlet (α := Int32) (r 196 4) <| fun v7 => zifn (v7 = (13 : Int32)) (((-1) : Int32)) ((3 : Int32))) ((2 : Int32))) ((1 : Int32))) ((0 : Int32))
noncomputable def Gk_readDoer_87 (a3 : Int32) (rw87 : zRr) (qw87 : zRq) : Int32 × zRr × zRq :=
  zif ((rw87 145 (zn a3)) = ((-1) : Int32)) (((0 : Int32), rw87, qw87)) (((1 : Int32), rw87, qw87))
noncomputable def Gk_readDoer (a3 : Int32) (r : zRr) (q : zRq) : Int32 × zRr × zRq :=
  zc_vr (Gk_personHere r q) <| fun v4 r5 => zlet (α := zRr) (zset r5 144 (upd (r5 144) (zn a3) v4)) <| fun r6 => zifn ((r6 144 (zn a3)) = ((-1) : Int32)) (zc_rq (Gk_step r6 q) <| fun r11 q12 => zifn ((r11 143 (zn a3)) = (1 : Int32)) (zifn ((r11 143 (zn a3)) = (0 : Int32)) (Gk_readDoer_87 a3 r11 q12) (zc_vr (Gk_townHere r11 q12) <| fun v17 r18 => zlet (α := zRr) (zset r18 145 (upd (r18 145) (zn a3) v17)) <| fun r19 => zif ((r19 145 (zn a3)) = ((-1) : Int32)) (Gk_readDoer_87 a3 r19 q12) (zc_rq (Gk_step r19 q12) <| fun r23 q24 => Gk_readDoer_87 a3 r23 q24))) (zc_vrq (Gk_takeNumber (1 : Int32) (20 : Int32) r11 q12) <| fun v27 r28 q29 => zlet (α := zRr) (zset r28 145 (upd (r28 145) (zn a3) v27)) <| fun r30 => Gk_readDoer_87 a3 r30 q29)) (((0 : Int32), r6, q))
noncomputable def Gk_readLineJ (r : zRr) (q : zRq) : Int32 × zRr × zRq :=
  zlet (α := Int32) ((Gk_deedHere r q)) <| fun u1 => zifn (u1 = ((-1) : Int32)) (zif ((r 142 3) < (40 : Int32)) (zlet (α := zRr) ((zset r 142 (upd (r 142) 3 ((r 142 3) + 1)))) <| fun r8 => zlet (α := zRr) (zset r8 143 (upd (r8 143) (zn (r 142 3)) u1)) <| fun r9 => zlet (α := zRr) (zset r9 144 (upd (r9 144) (zn (r 142 3)) (0 : Int32))) <| fun r10 => zlet (α := zRr) (zset r10 145 (upd (r10 145) (zn (r 142 3)) (0 : Int32))) <| fun r11 => zc_rq (Gk_step r11 q) <| fun r13 q14 => zif (u1 = (3 : Int32)) (((1 : Int32), r13, q14)) (zc_vrq (Gk_readDoer (r 142 3) r13 q14) <| fun v19 r20 q21 => zif (v19 = (0 : Int32)) (((0 : Int32), r20, q21)) (((1 : Int32), r20, q21)))) (zc_vr (Gk_wrong (5 : Int32) r q) <| fun v27 r28 => (v27, r28, q))) (zc_vr (Gk_wrong (1 : Int32) r q) <| fun v31 r32 => (v31, r32, q))
noncomputable def Bk_readJ_11 (ih11 : Int32 → zRr → zRq → (Int32 × zRr × zRq)) (w11_3 : Int32) (rw11 : zRr) (qw11 : zRq) : Int32 × zRr × zRq :=
  zif ((1000 : Int32) ≤ w11_3) (((1 : Int32), rw11, qw11)) (zlet (α := Int32) (rw11 196 4) <| fun v4 => zif (v4 = (31 : Int32)) (((1 : Int32), rw11, qw11)) (zc_vrq (Gk_readLineJ rw11 qw11) <| fun v7 r8 q9 => zif (v7 = (0 : Int32)) (((0 : Int32), r8, q9)) (zc_vrq (Gk_take 28 r8 q9) <| fun v14 r15 q16 => zifn (v14 = (0 : Int32)) (ih11 (w11_3 + 1) r15 q16) (((0 : Int32), r15, q16)))))
noncomputable def Gk_readJ_11 (n : Nat) : Int32 → zRr → zRq → (Int32 × zRr × zRq) :=
  Nat.rec (motive := fun _ => Int32 → zRr → zRq → (Int32 × zRr × zRq)) (fun _ rw11 qw11 => (default, rw11, qw11)) (fun _ ih => Bk_readJ_11 ih) n
noncomputable def Gk_readJ (r : zRr) (q : zRq) : Int32 × zRr × zRq :=
  zlet (α := zRr) ((zset r 142 (upd (r 142) 3 (0 : Int32)))) <| fun r21 => zc_rq (Gk_begin r21 q) <| fun r23 q24 => Gk_readJ_11 1001 0 r23 q24
noncomputable def Gk_valueOf (a0 : Int32) (a1 : Int32) (a2 : Int32) (a3 : Int32) (a4 : Int32) : Int32 :=
  zif (a0.toInt < (-4) ∨ (-1) < a0.toInt) (a0) (zif (a0 = ((-4) : Int32)) (a4) (zif (a0 = ((-3) : Int32)) (a3) (zif (a0 = ((-2) : Int32)) (a2) (zif (a0 = ((-1) : Int32)) (a1) (default)))))
noncomputable def Gk_join (a0 : Int32) (a1 : Int32) (a2 : Int32) : Int32 :=
  zif (a0.toInt < (-11) ∨ (-6) < a0.toInt) (zlet (α := Int32) (a1 * a2) <| fun v2 => v2) (zif (a0 = ((-11) : Int32)) (zlet (α := Int32) (a1 - a2) <| fun v7 => v7) (zif (a0 = ((-10) : Int32)) (zlet (α := Int32) (a1 + a2) <| fun v9 => v9) (zif (a0 = ((-9) : Int32)) (zifn (a1 = a2) ((0 : Int32)) ((1 : Int32))) (zif (a0 = ((-8) : Int32)) (zif (a2 ≤ a1) ((0 : Int32)) ((1 : Int32))) (zif (a0 = ((-7) : Int32)) (zifn (a1 = (0 : Int32)) ((1 : Int32)) (zif (a2 = (0 : Int32)) ((0 : Int32)) ((1 : Int32)))) (zif (a0 = ((-6) : Int32)) (zif (a1 = (0 : Int32)) ((0 : Int32)) (zif (a2 = (0 : Int32)) ((0 : Int32)) ((1 : Int32)))) (default)))))))
noncomputable def Gk_passes_150 (w6_6 : Int32) (ih6 : Int32 → Int32 → zRr → (Int32 × zRr)) (w150_5 : Int32) (rw150 : zRr) : Int32 × zRr :=
  ih6 w150_5 (w6_6 + 1) rw150
noncomputable def Gk_passes_104 (w6_5 : Int32) (w6_6 : Int32) (rw6 : zRr) (ih6 : Int32 → Int32 → zRr → (Int32 × zRr)) (w104_7 : Int32) : Int32 × zRr :=
  zif (((-5) : Int32) ≤ w104_7) (Gk_passes_150 w6_6 ih6 w6_5 rw6) (zif (w6_5 ≤ (1 : Int32)) (Gk_passes_150 w6_6 ih6 w6_5 rw6) (zlet (α := Int32) ((w6_5 + (-1)) - 1) <| fun v9 => zlet (α := Int32) ((w6_5 + (-1)) - 1) <| fun v10 => zlet (α := Int32) (rw6 182 (zn v10)) <| fun v11 => zlet (α := Int32) (rw6 182 (zn (w6_5 + (-1)))) <| fun v12 => zlet (α := Int32) ((Gk_join w104_7 v11 v12)) <| fun u13 => zlet (α := zRr) (zset rw6 182 (upd (rw6 182) (zn v9) u13)) <| fun r15 => Gk_passes_150 w6_6 ih6 (w6_5 + (-1)) r15))
noncomputable def Gk_passes_100 (w6_5 : Int32) (w6_6 : Int32) (rw6 : zRr) (ih6 : Int32 → Int32 → zRr → (Int32 × zRr)) (w100_s0 : Int32) (w100_s1 : Int32) : Int32 × zRr :=
  zlet (α := zRr) (zset rw6 182 (upd (rw6 182) (zn w100_s1) w100_s0)) <| fun r16 => Gk_passes_150 w6_6 ih6 w6_5 r16
noncomputable def Bk_passes_6 (a1 : Int32) (a2 : Int32) (a3 : Int32) (a4 : Int32) (ih6 : Int32 → Int32 → zRr → (Int32 × zRr)) (w6_5 : Int32) (w6_6 : Int32) (rw6 : zRr) : Int32 × zRr :=
  zlet (α := Int32) (rw6 180 2) <| fun v17 => zif (v17 ≤ w6_6) (zif (w6_5 ≤ (0 : Int32)) (((0 : Int32), rw6)) (zlet (α := Int32) (w6_5 - 1) <| fun v22 => zlet (α := Int32) (rw6 182 (zn v22)) <| fun v23 => zif (v23 = (0 : Int32)) (((0 : Int32), rw6)) (((1 : Int32), rw6)))) (zlet (α := Int32) (rw6 181 (zn w6_6)) <| fun v28 => zif (v28 ≤ ((-5) : Int32)) (zifn (v28 = ((-5) : Int32)) (Gk_passes_104 w6_5 w6_6 rw6 ih6 v28) (zif (w6_5 ≤ (0 : Int32)) (Gk_passes_104 w6_5 w6_6 rw6 ih6 v28) (zlet (α := Int32) (w6_5 - 1) <| fun v37 => zlet (α := Int32) (w6_5 - 1) <| fun v38 => zlet (α := Int32) (rw6 182 (zn v38)) <| fun v39 => zifn (v39 = (0 : Int32)) (Gk_passes_100 w6_5 w6_6 rw6 ih6 0 v37) (Gk_passes_100 w6_5 w6_6 rw6 ih6 1 v37)))) (zif (w6_5 < (32 : Int32)) (zlet (α := Int32) ((Gk_valueOf v28 a1 a2 a3 a4)) <| fun u45 => zlet (α := zRr) (zset rw6 182 (upd (rw6 182) (zn w6_5) u45)) <| fun r47 => Gk_passes_150 w6_6 ih6 (w6_5 + 1) r47) (((0 : Int32), rw6))))
noncomputable def Gk_passes_6 (a1 : Int32) (a2 : Int32) (a3 : Int32) (a4 : Int32) (n : Nat) : Int32 → Int32 → zRr → (Int32 × zRr) :=
  Nat.rec (motive := fun _ => Int32 → Int32 → zRr → (Int32 × zRr)) (fun _ _ rw6 => (default, rw6)) (fun _ ih => Bk_passes_6 a1 a2 a3 a4 ih) n
noncomputable def Gk_passes (a1 : Int32) (a2 : Int32) (a3 : Int32) (a4 : Int32) (r : zRr) (q : zRq) : Int32 × zRr :=
  Gk_passes_6 a1 a2 a3 a4 1001 0 0 r
noncomputable def Gk_unreadLet_39 (w5_4 : Int32) (ih5 : Int32 → Int32 → zRr → (Int32 × zRr)) (w39_3 : Int32) (rw39 : zRr) : Int32 × zRr :=
  ih5 w39_3 (w5_4 + 1) rw39
noncomputable def Bk_unreadLet_5 (a1 : Int32) (a2 : Int32) (q : zRq) (ih5 : Int32 → Int32 → zRr → (Int32 × zRr)) (w5_3 : Int32) (w5_4 : Int32) (rw5 : zRr) : Int32 × zRr :=
  zif ((30 : Int32) < w5_4) ((w5_3, rw5)) (zlet (α := Int32) (rw5 172 (zn a1)) <| fun v5 => zc_vr (Gk_passes w5_4 (0 : Int32) v5 a2 rw5 q) <| fun v7 r8 => zif (v7 = (0 : Int32)) (Gk_unreadLet_39 w5_4 ih5 w5_3 r8) (zlet (α := Int32) (1 <<< (w5_4 &&& 31)) <| fun v12 => zlet (α := Int32) (w5_3 ||| v12) <| fun v13 => Gk_unreadLet_39 w5_4 ih5 v13 r8))
noncomputable def Gk_unreadLet_5 (a1 : Int32) (a2 : Int32) (q : zRq) (n : Nat) : Int32 → Int32 → zRr → (Int32 × zRr) :=
  Nat.rec (motive := fun _ => Int32 → Int32 → zRr → (Int32 × zRr)) (fun _ _ rw5 => (default, rw5)) (fun _ ih => Bk_unreadLet_5 a1 a2 q ih) n
noncomputable def Gk_unreadLet (a1 : Int32) (a2 : Int32) (r : zRr) (q : zRq) : Int32 × zRr :=
  Gk_unreadLet_5 a1 a2 q 32 0 0 r
noncomputable def Gk_allTowns (r : zRr) (q : zRq) : Int32 :=
  zlet (α := Int32) (r 171 9) <| fun v1 => zlet (α := Int32) (1 <<< (v1 &&& 31)) <| fun v2 => zlet (α := Int32) (v2 - 1) <| fun v3 => v3
noncomputable def Bk_mostAsked_4 (r : zRr) (ih4 : Int32 → Int32 → Int32) (w4_1 : Int32) (w4_2 : Int32) : Int32 :=
  zlet (α := Int32) (r 171 9) <| fun v1 => zif (v1 ≤ w4_2) (w4_1) (zlet (α := Int32) (r 172 (zn w4_2)) <| fun v5 => zlet (α := Int32) (if w4_1 < v5 then v5 else w4_1) <| fun v6 => ih4 v6 (w4_2 + 1))
noncomputable def Gk_mostAsked_4 (r : zRr) (n : Nat) : Int32 → Int32 → Int32 :=
  Nat.rec (motive := fun _ => Int32 → Int32 → Int32) (fun _ _ => default) (fun _ ih => Bk_mostAsked_4 r ih) n
noncomputable def Gk_mostAsked (r : zRr) (q : zRq) : Int32 :=
  Gk_mostAsked_4 r 7 0 0
noncomputable def Bk_begin8N_7 (ih7 : Int32 → zRr → zRr) (w7_2 : Int32) (rw7 : zRr) : zRr :=
  zif ((rw7 171 10) ≤ w7_2) (rw7) (zlet (α := Int32) (rw7 176 (zn w7_2)) <| fun v4 => zlet (α := zRr) (zset rw7 7 (upd (rw7 7) (zn w7_2) v4)) <| fun r5 => zlet (α := Int32) (r5 177 (zn w7_2)) <| fun v6 => zlet (α := zRr) (zset r5 8 (upd (r5 8) (zn w7_2) v6)) <| fun r7 => zlet (α := zRr) (zset r7 9 (upd (r7 9) (zn w7_2) (0 : Int32))) <| fun r8 => zlet (α := Int32) (r8 178 (zn w7_2)) <| fun v9 => zlet (α := zRr) (zset r8 10 (upd (r8 10) (zn w7_2) v9)) <| fun r10 => zlet (α := Int32) (r10 176 (zn w7_2)) <| fun v11 => zlet (α := Int32) (1 <<< (v11 &&& 31)) <| fun v12 => zlet (α := zRr) (zset r10 11 (upd (r10 11) (zn w7_2) v12)) <| fun r13 => ih7 (w7_2 + 1) r13)
noncomputable def Gk_begin8N_7 (n : Nat) : Int32 → zRr → zRr :=
  Nat.rec (motive := fun _ => Int32 → zRr → zRr) (fun _ rw7 => rw7) (fun _ ih => Bk_begin8N_7 ih) n
noncomputable def Gk_begin8N (r : zRr) (q : zRq) : zRr :=
  zlet (α := zRr) ((zset r 6 (upd (r 6) 5 (0 : Int32)))) <| fun r15 => Gk_begin8N_7 7 0 r15
noncomputable def Gk_arriveN (a1 : Int32) (a2 : Int32) (r : zRr) (q : zRq) : zRr :=
  zlet (α := zRr) (zset r 7 (upd (r 7) (zn a1) a2)) <| fun r1 => zlet (α := Int32) (r1 11 (zn a1)) <| fun v2 => zlet (α := Int32) (1 <<< (a2 &&& 31)) <| fun v3 => zlet (α := Int32) (v2 ||| v3) <| fun v4 => zlet (α := zRr) (zset r1 11 (upd (r1 11) (zn a1) v4)) <| fun r5 => r5
noncomputable def Gk_loseBeardN (a1 : Int32) (r : zRr) (q : zRq) : zRr :=
  zlet (α := zRr) (zset r 8 (upd (r 8) (zn a1) (0 : Int32))) <| fun r1 => zlet (α := zRr) (zset r1 9 (upd (r1 9) (zn a1) (0 : Int32))) <| fun r2 => r2
noncomputable def Bk_peopledN_4 (a1 : Int32) (r : zRr) (ih4 : Int32 → Int32 → Int32) (w4_2 : Int32) (w4_3 : Int32) : Int32 :=
  zif (a1 ≤ w4_3) (w4_2) (zlet (α := Int32) (r 7 (zn w4_3)) <| fun v4 => zlet (α := Int32) (1 <<< (v4 &&& 31)) <| fun v5 => zlet (α := Int32) (w4_2 ||| v5) <| fun v6 => ih4 v6 (w4_3 + 1))
noncomputable def Gk_peopledN_4 (a1 : Int32) (r : zRr) (n : Nat) : Int32 → Int32 → Int32 :=
  Nat.rec (motive := fun _ => Int32 → Int32 → Int32) (fun _ _ => default) (fun _ ih => Bk_peopledN_4 a1 r ih) n
noncomputable def Gk_peopledN (a1 : Int32) (r : zRr) (q : zRq) : Int32 :=
  Gk_peopledN_4 a1 r 7 0 0
noncomputable def Bk_begin8T_7 (ih7 : Int32 → zRr → zRr) (w7_2 : Int32) (rw7 : zRr) : zRr :=
  zif ((rw7 171 10) ≤ w7_2) (rw7) (zlet (α := Int32) (rw7 176 (zn w7_2)) <| fun v4 => zlet (α := zRr) (zset rw7 13 (upd (rw7 13) (zn w7_2) v4)) <| fun r5 => zlet (α := Int32) (r5 177 (zn w7_2)) <| fun v6 => zlet (α := zRr) (zset r5 14 (upd (r5 14) (zn w7_2) v6)) <| fun r7 => zlet (α := zRr) (zset r7 15 (upd (r7 15) (zn w7_2) (0 : Int32))) <| fun r8 => zlet (α := Int32) (r8 178 (zn w7_2)) <| fun v9 => zlet (α := zRr) (zset r8 16 (upd (r8 16) (zn w7_2) v9)) <| fun r10 => zlet (α := Int32) (r10 176 (zn w7_2)) <| fun v11 => zlet (α := Int32) (1 <<< (v11 &&& 31)) <| fun v12 => zlet (α := zRr) (zset r10 17 (upd (r10 17) (zn w7_2) v12)) <| fun r13 => ih7 (w7_2 + 1) r13)
noncomputable def Gk_begin8T_7 (n : Nat) : Int32 → zRr → zRr :=
  Nat.rec (motive := fun _ => Int32 → zRr → zRr) (fun _ rw7 => rw7) (fun _ ih => Bk_begin8T_7 ih) n
noncomputable def Gk_begin8T (r : zRr) (q : zRq) : zRr :=
  zlet (α := zRr) ((zset r 12 (upd (r 12) 5 (0 : Int32)))) <| fun r15 => Gk_begin8T_7 7 0 r15
noncomputable def Gk_arriveT (a1 : Int32) (a2 : Int32) (r : zRr) (q : zRq) : zRr :=
  zlet (α := zRr) (zset r 13 (upd (r 13) (zn a1) a2)) <| fun r1 => zlet (α := Int32) (r1 17 (zn a1)) <| fun v2 => zlet (α := Int32) (1 <<< (a2 &&& 31)) <| fun v3 => zlet (α := Int32) (v2 ||| v3) <| fun v4 => zlet (α := zRr) (zset r1 17 (upd (r1 17) (zn a1) v4)) <| fun r5 => r5
noncomputable def Gk_loseBeardT (a1 : Int32) (r : zRr) (q : zRq) : zRr :=
  zlet (α := zRr) (zset r 14 (upd (r 14) (zn a1) (0 : Int32))) <| fun r1 => zlet (α := zRr) (zset r1 15 (upd (r1 15) (zn a1) (0 : Int32))) <| fun r2 => r2
noncomputable def Bk_peopledT_4 (a1 : Int32) (r : zRr) (ih4 : Int32 → Int32 → Int32) (w4_2 : Int32) (w4_3 : Int32) : Int32 :=
  zif (a1 ≤ w4_3) (w4_2) (zlet (α := Int32) (r 13 (zn w4_3)) <| fun v4 => zlet (α := Int32) (1 <<< (v4 &&& 31)) <| fun v5 => zlet (α := Int32) (w4_2 ||| v5) <| fun v6 => ih4 v6 (w4_3 + 1))
noncomputable def Gk_peopledT_4 (a1 : Int32) (r : zRr) (n : Nat) : Int32 → Int32 → Int32 :=
  Nat.rec (motive := fun _ => Int32 → Int32 → Int32) (fun _ _ => default) (fun _ ih => Bk_peopledT_4 a1 r ih) n
noncomputable def Gk_peopledT (a1 : Int32) (r : zRr) (q : zRq) : Int32 :=
  Gk_peopledT_4 a1 r 7 0 0
noncomputable def Gk_passesAloneA_74 (r : zRr) (q : zRq) (w74_s0 : Int32) (w74_s1 : Int32) (w74_s2 : Int32) : Int32 × zRr :=
  zlet (α := Int32) (r 0 5) <| fun v1 => zc_vr (Gk_passes w74_s2 w74_s1 w74_s0 v1 r q) <| fun v3 r4 => (v3, r4)
noncomputable def Gk_passesAloneA (a2 : Int32) (a3 : Int32) (a4 : Int32) (r : zRr) (q : zRq) : Int32 × zRr :=
  zlet (α := Int32) (r 175 (zn a2)) <| fun v5 => zifn (v5 = (2 : Int32)) (zlet (α := Int32) (r 172 (zn a3)) <| fun v7 => zlet (α := Int32) (v7 + a4) <| fun v8 => zlet (α := Int32) (r 3 (zn a2)) <| fun v9 => zlet (α := Int32) (r 2 (zn a2)) <| fun v10 => zlet (α := Int32) (v10 + v9) <| fun v11 => zifn (v5 = (3 : Int32)) (Gk_passesAloneA_74 r q v8 v9 v11) (zlet (α := Int32) (v8 / 2) <| fun v14 => Gk_passesAloneA_74 r q v14 v9 v11)) (((1 : Int32), r))
noncomputable def Gk_opensA_39 (w6_5 : Int32) (ih6 : Int32 → Int32 → zRr → (Int32 × zRr)) (w39_4 : Int32) (rw39 : zRr) : Int32 × zRr :=
  ih6 w39_4 (w6_5 + 1) rw39
noncomputable def Bk_opensA_6 (a2 : Int32) (a3 : Int32) (q : zRq) (ih6 : Int32 → Int32 → zRr → (Int32 × zRr)) (w6_4 : Int32) (w6_5 : Int32) (rw6 : zRr) : Int32 × zRr :=
  zlet (α := Int32) (rw6 171 9) <| fun v2 => zif (v2 ≤ w6_5) ((w6_4, rw6)) (zc_vr (Gk_passesAloneA a2 w6_5 a3 rw6 q) <| fun v7 r8 => zif (v7 = (0 : Int32)) (Gk_opensA_39 w6_5 ih6 w6_4 r8) (zlet (α := Int32) (1 <<< (w6_5 &&& 31)) <| fun v12 => zlet (α := Int32) (w6_4 ||| v12) <| fun v13 => Gk_opensA_39 w6_5 ih6 v13 r8))
noncomputable def Gk_opensA_6 (a2 : Int32) (a3 : Int32) (q : zRq) (n : Nat) : Int32 → Int32 → zRr → (Int32 × zRr) :=
  Nat.rec (motive := fun _ => Int32 → Int32 → zRr → (Int32 × zRr)) (fun _ _ rw6 => (default, rw6)) (fun _ ih => Bk_opensA_6 a2 a3 q ih) n
noncomputable def Gk_opensA (a2 : Int32) (a3 : Int32) (r : zRr) (q : zRq) : Int32 × zRr :=
  Gk_opensA_6 a2 a3 q 7 0 0 r
noncomputable def Gk_passWeekA_63 (w12_2 : Int32) (ih12 : Int32 → zRr → zRr) (rw63 : zRr) : zRr :=
  ih12 (w12_2 + 1) rw63
noncomputable def Bk_passWeekA_12 (ih12 : Int32 → zRr → zRr) (w12_2 : Int32) (rw12 : zRr) : zRr :=
  zlet (α := Int32) (rw12 171 10) <| fun v2 => zif (v2 ≤ w12_2) (rw12) (zlet (α := Int32) (rw12 175 (zn w12_2)) <| fun v6 => zif (v6 = (1 : Int32)) (Gk_passWeekA_63 w12_2 ih12 rw12) (zlet (α := Int32) (rw12 2 (zn w12_2)) <| fun v9 => zlet (α := Int32) (rw12 171 11) <| fun v10 => zlet (α := Int32) (v9 + v10) <| fun v11 => zlet (α := Int32) (if 60 < v11 then 60 else v11) <| fun v12 => zlet (α := zRr) (zset rw12 2 (upd (rw12 2) (zn w12_2) v12)) <| fun r13 => Gk_passWeekA_63 w12_2 ih12 r13))
noncomputable def Gk_passWeekA_12 (n : Nat) : Int32 → zRr → zRr :=
  Nat.rec (motive := fun _ => Int32 → zRr → zRr) (fun _ rw12 => rw12) (fun _ ih => Bk_passWeekA_12 ih) n
noncomputable def Gk_passWeekA (r : zRr) (q : zRq) : zRr :=
  zlet (α := Int32) (r 0 5) <| fun v14 => zlet (α := Int32) (v14 + 1) <| fun v15 => zlet (α := zRr) ((zset r 0 (upd (r 0) 5 v15))) <| fun r16 => Gk_passWeekA_12 7 0 r16
noncomputable def Gk_layA_145 (w78_4 : Int32) (ih78 : Int32 → zRr → zRr) (rw145 : zRr) : zRr :=
  ih78 (w78_4 + 1) rw145
noncomputable def Bk_layA_78 (a3 : Int32) (q : zRq) (ih78 : Int32 → zRr → zRr) (w78_4 : Int32) (rw78 : zRr) : zRr :=
  zlet (α := Int32) (rw78 171 10) <| fun v2 => zif (v2 ≤ w78_4) (rw78) (zlet (α := Int32) (rw78 175 (zn w78_4)) <| fun v6 => zif (v6 = (1 : Int32)) (Gk_layA_145 w78_4 ih78 rw78) (zlet (α := Int32) (rw78 1 (zn w78_4)) <| fun v9 => zlet (α := Int32) (rw78 202 (zn v9)) <| fun v10 => zlet (α := Int32) (rw78 173 (zn v9)) <| fun v11 => zc_vr (Gk_opensA w78_4 a3 rw78 q) <| fun v13 r14 => zlet (α := Int32) (v11 &&& v13) <| fun v15 => zlet (α := Int32) (v10 ||| v15) <| fun v16 => zlet (α := zRr) (zset r14 202 (upd (r14 202) (zn v9) v16)) <| fun r17 => Gk_layA_145 w78_4 ih78 r17))
noncomputable def Gk_layA_78 (a3 : Int32) (q : zRq) (n : Nat) : Int32 → zRr → zRr :=
  Nat.rec (motive := fun _ => Int32 → zRr → zRr) (fun _ rw78 => rw78) (fun _ ih => Bk_layA_78 a3 q ih) n
noncomputable def Bk_layA_36 (ih36 : Int32 → Int32 → zRr → zRr) (w36_4 : Int32) (w36_5 : Int32) (rw36 : zRr) : zRr :=
  zlet (α := Int32) (rw36 171 9) <| fun v18 => zif (v18 ≤ w36_5) (rw36) (zlet (α := Int32) (rw36 173 (zn w36_5)) <| fun v22 => zlet (α := Int32) (v22 &&& w36_4) <| fun v23 => zlet (α := zRr) (zset rw36 202 (upd (rw36 202) (zn w36_5) v23)) <| fun r24 => ih36 w36_4 (w36_5 + 1) r24)
noncomputable def Gk_layA_36 (n : Nat) : Int32 → Int32 → zRr → zRr :=
  Nat.rec (motive := fun _ => Int32 → Int32 → zRr → zRr) (fun _ _ rw36 => rw36) (fun _ ih => Bk_layA_36 ih) n
noncomputable def Gk_layA (a2 : Int32) (a3 : Int32) (r : zRr) (q : zRq) : zRr :=
  zlet (α := zRr) (zset r 202 (zfl (r 202) (0 : Int32) 6)) <| fun r26 => zlet (α := Int32) (r26 175 (zn a2)) <| fun v27 => zif (v27 = (1 : Int32)) (Gk_layA_78 a3 q 7 0 r26) (zc_vr (Gk_opensA a2 a3 r26 q) <| fun v31 r32 => Gk_layA_36 7 v31 0 r32)
noncomputable def Gk_passesAloneN_74 (r : zRr) (q : zRq) (w74_s0 : Int32) (w74_s1 : Int32) (w74_s2 : Int32) : Int32 × zRr :=
  zlet (α := Int32) (r 6 5) <| fun v1 => zc_vr (Gk_passes w74_s2 w74_s1 w74_s0 v1 r q) <| fun v3 r4 => (v3, r4)
noncomputable def Gk_passesAloneN (a2 : Int32) (a3 : Int32) (a4 : Int32) (r : zRr) (q : zRq) : Int32 × zRr :=
  zlet (α := Int32) (r 175 (zn a2)) <| fun v5 => zifn (v5 = (2 : Int32)) (zlet (α := Int32) (r 172 (zn a3)) <| fun v7 => zlet (α := Int32) (v7 + a4) <| fun v8 => zlet (α := Int32) (r 9 (zn a2)) <| fun v9 => zlet (α := Int32) (r 8 (zn a2)) <| fun v10 => zlet (α := Int32) (v10 + v9) <| fun v11 => zifn (v5 = (3 : Int32)) (Gk_passesAloneN_74 r q v8 v9 v11) (zlet (α := Int32) (v8 / 2) <| fun v14 => Gk_passesAloneN_74 r q v14 v9 v11)) (((1 : Int32), r))
noncomputable def Gk_opensN_39 (w6_5 : Int32) (ih6 : Int32 → Int32 → zRr → (Int32 × zRr)) (w39_4 : Int32) (rw39 : zRr) : Int32 × zRr :=
  ih6 w39_4 (w6_5 + 1) rw39
noncomputable def Bk_opensN_6 (a2 : Int32) (a3 : Int32) (q : zRq) (ih6 : Int32 → Int32 → zRr → (Int32 × zRr)) (w6_4 : Int32) (w6_5 : Int32) (rw6 : zRr) : Int32 × zRr :=
  zlet (α := Int32) (rw6 171 9) <| fun v2 => zif (v2 ≤ w6_5) ((w6_4, rw6)) (zc_vr (Gk_passesAloneN a2 w6_5 a3 rw6 q) <| fun v7 r8 => zif (v7 = (0 : Int32)) (Gk_opensN_39 w6_5 ih6 w6_4 r8) (zlet (α := Int32) (1 <<< (w6_5 &&& 31)) <| fun v12 => zlet (α := Int32) (w6_4 ||| v12) <| fun v13 => Gk_opensN_39 w6_5 ih6 v13 r8))
noncomputable def Gk_opensN_6 (a2 : Int32) (a3 : Int32) (q : zRq) (n : Nat) : Int32 → Int32 → zRr → (Int32 × zRr) :=
  Nat.rec (motive := fun _ => Int32 → Int32 → zRr → (Int32 × zRr)) (fun _ _ rw6 => (default, rw6)) (fun _ ih => Bk_opensN_6 a2 a3 q ih) n
noncomputable def Gk_opensN (a2 : Int32) (a3 : Int32) (r : zRr) (q : zRq) : Int32 × zRr :=
  Gk_opensN_6 a2 a3 q 7 0 0 r
noncomputable def Gk_passWeekN_63 (w12_2 : Int32) (ih12 : Int32 → zRr → zRr) (rw63 : zRr) : zRr :=
  ih12 (w12_2 + 1) rw63
noncomputable def Bk_passWeekN_12 (ih12 : Int32 → zRr → zRr) (w12_2 : Int32) (rw12 : zRr) : zRr :=
  zlet (α := Int32) (rw12 171 10) <| fun v2 => zif (v2 ≤ w12_2) (rw12) (zlet (α := Int32) (rw12 175 (zn w12_2)) <| fun v6 => zif (v6 = (1 : Int32)) (Gk_passWeekN_63 w12_2 ih12 rw12) (zlet (α := Int32) (rw12 8 (zn w12_2)) <| fun v9 => zlet (α := Int32) (rw12 171 11) <| fun v10 => zlet (α := Int32) (v9 + v10) <| fun v11 => zlet (α := Int32) (if 60 < v11 then 60 else v11) <| fun v12 => zlet (α := zRr) (zset rw12 8 (upd (rw12 8) (zn w12_2) v12)) <| fun r13 => Gk_passWeekN_63 w12_2 ih12 r13))
noncomputable def Gk_passWeekN_12 (n : Nat) : Int32 → zRr → zRr :=
  Nat.rec (motive := fun _ => Int32 → zRr → zRr) (fun _ rw12 => rw12) (fun _ ih => Bk_passWeekN_12 ih) n
noncomputable def Gk_passWeekN (r : zRr) (q : zRq) : zRr :=
  zlet (α := Int32) (r 6 5) <| fun v14 => zlet (α := Int32) (v14 + 1) <| fun v15 => zlet (α := zRr) ((zset r 6 (upd (r 6) 5 v15))) <| fun r16 => Gk_passWeekN_12 7 0 r16
noncomputable def Gk_layN_145 (w78_4 : Int32) (ih78 : Int32 → zRr → zRr) (rw145 : zRr) : zRr :=
  ih78 (w78_4 + 1) rw145
noncomputable def Bk_layN_78 (a3 : Int32) (q : zRq) (ih78 : Int32 → zRr → zRr) (w78_4 : Int32) (rw78 : zRr) : zRr :=
  zlet (α := Int32) (rw78 171 10) <| fun v2 => zif (v2 ≤ w78_4) (rw78) (zlet (α := Int32) (rw78 175 (zn w78_4)) <| fun v6 => zif (v6 = (1 : Int32)) (Gk_layN_145 w78_4 ih78 rw78) (zlet (α := Int32) (rw78 7 (zn w78_4)) <| fun v9 => zlet (α := Int32) (rw78 202 (zn v9)) <| fun v10 => zlet (α := Int32) (rw78 173 (zn v9)) <| fun v11 => zc_vr (Gk_opensN w78_4 a3 rw78 q) <| fun v13 r14 => zlet (α := Int32) (v11 &&& v13) <| fun v15 => zlet (α := Int32) (v10 ||| v15) <| fun v16 => zlet (α := zRr) (zset r14 202 (upd (r14 202) (zn v9) v16)) <| fun r17 => Gk_layN_145 w78_4 ih78 r17))
noncomputable def Gk_layN_78 (a3 : Int32) (q : zRq) (n : Nat) : Int32 → zRr → zRr :=
  Nat.rec (motive := fun _ => Int32 → zRr → zRr) (fun _ rw78 => rw78) (fun _ ih => Bk_layN_78 a3 q ih) n
noncomputable def Bk_layN_36 (ih36 : Int32 → Int32 → zRr → zRr) (w36_4 : Int32) (w36_5 : Int32) (rw36 : zRr) : zRr :=
  zlet (α := Int32) (rw36 171 9) <| fun v18 => zif (v18 ≤ w36_5) (rw36) (zlet (α := Int32) (rw36 173 (zn w36_5)) <| fun v22 => zlet (α := Int32) (v22 &&& w36_4) <| fun v23 => zlet (α := zRr) (zset rw36 202 (upd (rw36 202) (zn w36_5) v23)) <| fun r24 => ih36 w36_4 (w36_5 + 1) r24)
noncomputable def Gk_layN_36 (n : Nat) : Int32 → Int32 → zRr → zRr :=
  Nat.rec (motive := fun _ => Int32 → Int32 → zRr → zRr) (fun _ _ rw36 => rw36) (fun _ ih => Bk_layN_36 ih) n
noncomputable def Gk_layN (a2 : Int32) (a3 : Int32) (r : zRr) (q : zRq) : zRr :=
  zlet (α := zRr) (zset r 202 (zfl (r 202) (0 : Int32) 6)) <| fun r26 => zlet (α := Int32) (r26 175 (zn a2)) <| fun v27 => zif (v27 = (1 : Int32)) (Gk_layN_78 a3 q 7 0 r26) (zc_vr (Gk_opensN a2 a3 r26 q) <| fun v31 r32 => Gk_layN_36 7 v31 0 r32)
noncomputable def Gk_voicesN_64 (w6_5 : Int32) (ih6 : Int32 → Int32 → zRr → (Int32 × zRr)) (w64_4 : Int32) (rw64 : zRr) : Int32 × zRr :=
  ih6 w64_4 (w6_5 + 1) rw64
noncomputable def Bk_voicesN_6 (a2 : Int32) (a3 : Int32) (q : zRq) (ih6 : Int32 → Int32 → zRr → (Int32 × zRr)) (w6_4 : Int32) (w6_5 : Int32) (rw6 : zRr) : Int32 × zRr :=
  zlet (α := Int32) (rw6 171 10) <| fun v2 => zif (v2 ≤ w6_5) ((w6_4, rw6)) (zlet (α := Int32) (rw6 175 (zn w6_5)) <| fun v6 => zif (v6 = (1 : Int32)) (Gk_voicesN_64 w6_5 ih6 w6_4 rw6) (zlet (α := Int32) (rw6 7 (zn w6_5)) <| fun v9 => zifn (v9 = a2) (Gk_voicesN_64 w6_5 ih6 w6_4 rw6) (zc_vr (Gk_passesAloneN w6_5 a3 (0 : Int32) rw6 q) <| fun v13 r14 => zif (v13 = (0 : Int32)) (Gk_voicesN_64 w6_5 ih6 w6_4 r14) (zlet (α := Int32) (1 <<< (w6_5 &&& 31)) <| fun v18 => zlet (α := Int32) (w6_4 ||| v18) <| fun v19 => Gk_voicesN_64 w6_5 ih6 v19 r14))))
noncomputable def Gk_voicesN_6 (a2 : Int32) (a3 : Int32) (q : zRq) (n : Nat) : Int32 → Int32 → zRr → (Int32 × zRr) :=
  Nat.rec (motive := fun _ => Int32 → Int32 → zRr → (Int32 × zRr)) (fun _ _ rw6 => (default, rw6)) (fun _ ih => Bk_voicesN_6 a2 a3 q ih) n
noncomputable def Gk_voicesN (a2 : Int32) (a3 : Int32) (r : zRr) (q : zRq) : Int32 × zRr :=
  Gk_voicesN_6 a2 a3 q 7 0 0 r
noncomputable def Gk_letsN (a2 : Int32) (a3 : Int32) (r : zRr) (q : zRq) : Int32 × zRr :=
  zlet (α := Int32) (r 175 (zn a2)) <| fun v1 => zifn (v1 = (1 : Int32)) (zc_vr (Gk_passesAloneN a2 a3 (0 : Int32) r q) <| fun v4 r5 => (v4, r5)) (zlet (α := Int32) (r 7 (zn a2)) <| fun v7 => zc_vr (Gk_voicesN v7 a3 r q) <| fun v9 r10 => zif (v9 = (0 : Int32)) (((0 : Int32), r10)) (((1 : Int32), r10)))
noncomputable def Gk_canGoN (a2 : Int32) (a3 : Int32) (r : zRr) (q : zRq) : Int32 × zRr :=
  zlet (α := Int32) (r 7 (zn a2)) <| fun v1 => zlet (α := Int32) (r 173 (zn v1)) <| fun v2 => zlet (α := Int32) ((Gk_has v2 a3)) <| fun u3 => zif (u3 = (0 : Int32)) (((0 : Int32), r)) (zc_vr (Gk_letsN a2 a3 r q) <| fun v9 r10 => zif (v9 = (0 : Int32)) (((0 : Int32), r10)) (((1 : Int32), r10)))
noncomputable def Gk_canForgeN (a2 : Int32) (a3 : Int32) (r : zRr) (q : zRq) : Int32 :=
  zif ((r 175 (zn a2)) = (1 : Int32)) ((0 : Int32)) (zif (a3 < (1 : Int32)) ((0 : Int32)) (zif ((20 - (r 9 (zn a2))) < a3) ((0 : Int32)) (zif ((r 10 (zn a2)) < (a3 * (r 171 12))) ((0 : Int32)) ((1 : Int32)))))
noncomputable def Gk_sellN (a2 : Int32) (a3 : Int32) (r : zRr) (q : zRq) : zRr :=
  zlet (α := zRr) (zset r 9 (upd (r 9) (zn a2) ((r 9 (zn a2)) + a3))) <| fun r2 => zlet (α := Int32) (r2 10 (zn a2)) <| fun v3 => zlet (α := Int32) (r2 171 12) <| fun v4 => zlet (α := Int32) (a3 * v4) <| fun v5 => zlet (α := Int32) (v3 - v5) <| fun v6 => zlet (α := zRr) (zset r2 10 (upd (r2 10) (zn a2) v6)) <| fun r7 => r7
noncomputable def Gk_passesAloneT_74 (r : zRr) (q : zRq) (w74_s0 : Int32) (w74_s1 : Int32) (w74_s2 : Int32) : Int32 × zRr :=
  zlet (α := Int32) (r 12 5) <| fun v1 => zc_vr (Gk_passes w74_s2 w74_s1 w74_s0 v1 r q) <| fun v3 r4 => (v3, r4)
noncomputable def Gk_passesAloneT (a2 : Int32) (a3 : Int32) (a4 : Int32) (r : zRr) (q : zRq) : Int32 × zRr :=
  zlet (α := Int32) (r 175 (zn a2)) <| fun v5 => zifn (v5 = (2 : Int32)) (zlet (α := Int32) (r 172 (zn a3)) <| fun v7 => zlet (α := Int32) (v7 + a4) <| fun v8 => zlet (α := Int32) (r 15 (zn a2)) <| fun v9 => zlet (α := Int32) (r 14 (zn a2)) <| fun v10 => zlet (α := Int32) (v10 + v9) <| fun v11 => zifn (v5 = (3 : Int32)) (Gk_passesAloneT_74 r q v8 v9 v11) (zlet (α := Int32) (v8 / 2) <| fun v14 => Gk_passesAloneT_74 r q v14 v9 v11)) (((1 : Int32), r))
noncomputable def Gk_opensT_39 (w6_5 : Int32) (ih6 : Int32 → Int32 → zRr → (Int32 × zRr)) (w39_4 : Int32) (rw39 : zRr) : Int32 × zRr :=
  ih6 w39_4 (w6_5 + 1) rw39
noncomputable def Bk_opensT_6 (a2 : Int32) (a3 : Int32) (q : zRq) (ih6 : Int32 → Int32 → zRr → (Int32 × zRr)) (w6_4 : Int32) (w6_5 : Int32) (rw6 : zRr) : Int32 × zRr :=
  zlet (α := Int32) (rw6 171 9) <| fun v2 => zif (v2 ≤ w6_5) ((w6_4, rw6)) (zc_vr (Gk_passesAloneT a2 w6_5 a3 rw6 q) <| fun v7 r8 => zif (v7 = (0 : Int32)) (Gk_opensT_39 w6_5 ih6 w6_4 r8) (zlet (α := Int32) (1 <<< (w6_5 &&& 31)) <| fun v12 => zlet (α := Int32) (w6_4 ||| v12) <| fun v13 => Gk_opensT_39 w6_5 ih6 v13 r8))
noncomputable def Gk_opensT_6 (a2 : Int32) (a3 : Int32) (q : zRq) (n : Nat) : Int32 → Int32 → zRr → (Int32 × zRr) :=
  Nat.rec (motive := fun _ => Int32 → Int32 → zRr → (Int32 × zRr)) (fun _ _ rw6 => (default, rw6)) (fun _ ih => Bk_opensT_6 a2 a3 q ih) n
noncomputable def Gk_opensT (a2 : Int32) (a3 : Int32) (r : zRr) (q : zRq) : Int32 × zRr :=
  Gk_opensT_6 a2 a3 q 7 0 0 r
noncomputable def Gk_passWeekT_63 (w12_2 : Int32) (ih12 : Int32 → zRr → zRr) (rw63 : zRr) : zRr :=
  ih12 (w12_2 + 1) rw63
noncomputable def Bk_passWeekT_12 (ih12 : Int32 → zRr → zRr) (w12_2 : Int32) (rw12 : zRr) : zRr :=
  zlet (α := Int32) (rw12 171 10) <| fun v2 => zif (v2 ≤ w12_2) (rw12) (zlet (α := Int32) (rw12 175 (zn w12_2)) <| fun v6 => zif (v6 = (1 : Int32)) (Gk_passWeekT_63 w12_2 ih12 rw12) (zlet (α := Int32) (rw12 14 (zn w12_2)) <| fun v9 => zlet (α := Int32) (rw12 171 11) <| fun v10 => zlet (α := Int32) (v9 + v10) <| fun v11 => zlet (α := Int32) (if 60 < v11 then 60 else v11) <| fun v12 => zlet (α := zRr) (zset rw12 14 (upd (rw12 14) (zn w12_2) v12)) <| fun r13 => Gk_passWeekT_63 w12_2 ih12 r13))
noncomputable def Gk_passWeekT_12 (n : Nat) : Int32 → zRr → zRr :=
  Nat.rec (motive := fun _ => Int32 → zRr → zRr) (fun _ rw12 => rw12) (fun _ ih => Bk_passWeekT_12 ih) n
noncomputable def Gk_passWeekT (r : zRr) (q : zRq) : zRr :=
  zlet (α := Int32) (r 12 5) <| fun v14 => zlet (α := Int32) (v14 + 1) <| fun v15 => zlet (α := zRr) ((zset r 12 (upd (r 12) 5 v15))) <| fun r16 => Gk_passWeekT_12 7 0 r16
noncomputable def Gk_layT_145 (w78_4 : Int32) (ih78 : Int32 → zRr → zRr) (rw145 : zRr) : zRr :=
  ih78 (w78_4 + 1) rw145
noncomputable def Bk_layT_78 (a3 : Int32) (q : zRq) (ih78 : Int32 → zRr → zRr) (w78_4 : Int32) (rw78 : zRr) : zRr :=
  zlet (α := Int32) (rw78 171 10) <| fun v2 => zif (v2 ≤ w78_4) (rw78) (zlet (α := Int32) (rw78 175 (zn w78_4)) <| fun v6 => zif (v6 = (1 : Int32)) (Gk_layT_145 w78_4 ih78 rw78) (zlet (α := Int32) (rw78 13 (zn w78_4)) <| fun v9 => zlet (α := Int32) (rw78 202 (zn v9)) <| fun v10 => zlet (α := Int32) (rw78 173 (zn v9)) <| fun v11 => zc_vr (Gk_opensT w78_4 a3 rw78 q) <| fun v13 r14 => zlet (α := Int32) (v11 &&& v13) <| fun v15 => zlet (α := Int32) (v10 ||| v15) <| fun v16 => zlet (α := zRr) (zset r14 202 (upd (r14 202) (zn v9) v16)) <| fun r17 => Gk_layT_145 w78_4 ih78 r17))
noncomputable def Gk_layT_78 (a3 : Int32) (q : zRq) (n : Nat) : Int32 → zRr → zRr :=
  Nat.rec (motive := fun _ => Int32 → zRr → zRr) (fun _ rw78 => rw78) (fun _ ih => Bk_layT_78 a3 q ih) n
noncomputable def Bk_layT_36 (ih36 : Int32 → Int32 → zRr → zRr) (w36_4 : Int32) (w36_5 : Int32) (rw36 : zRr) : zRr :=
  zlet (α := Int32) (rw36 171 9) <| fun v18 => zif (v18 ≤ w36_5) (rw36) (zlet (α := Int32) (rw36 173 (zn w36_5)) <| fun v22 => zlet (α := Int32) (v22 &&& w36_4) <| fun v23 => zlet (α := zRr) (zset rw36 202 (upd (rw36 202) (zn w36_5) v23)) <| fun r24 => ih36 w36_4 (w36_5 + 1) r24)
noncomputable def Gk_layT_36 (n : Nat) : Int32 → Int32 → zRr → zRr :=
  Nat.rec (motive := fun _ => Int32 → Int32 → zRr → zRr) (fun _ _ rw36 => rw36) (fun _ ih => Bk_layT_36 ih) n
noncomputable def Gk_layT (a2 : Int32) (a3 : Int32) (r : zRr) (q : zRq) : zRr :=
  zlet (α := zRr) (zset r 202 (zfl (r 202) (0 : Int32) 6)) <| fun r26 => zlet (α := Int32) (r26 175 (zn a2)) <| fun v27 => zif (v27 = (1 : Int32)) (Gk_layT_78 a3 q 7 0 r26) (zc_vr (Gk_opensT a2 a3 r26 q) <| fun v31 r32 => Gk_layT_36 7 v31 0 r32)
noncomputable def Gk_voicesT_64 (w6_5 : Int32) (ih6 : Int32 → Int32 → zRr → (Int32 × zRr)) (w64_4 : Int32) (rw64 : zRr) : Int32 × zRr :=
  ih6 w64_4 (w6_5 + 1) rw64
noncomputable def Bk_voicesT_6 (a2 : Int32) (a3 : Int32) (q : zRq) (ih6 : Int32 → Int32 → zRr → (Int32 × zRr)) (w6_4 : Int32) (w6_5 : Int32) (rw6 : zRr) : Int32 × zRr :=
  zlet (α := Int32) (rw6 171 10) <| fun v2 => zif (v2 ≤ w6_5) ((w6_4, rw6)) (zlet (α := Int32) (rw6 175 (zn w6_5)) <| fun v6 => zif (v6 = (1 : Int32)) (Gk_voicesT_64 w6_5 ih6 w6_4 rw6) (zlet (α := Int32) (rw6 13 (zn w6_5)) <| fun v9 => zifn (v9 = a2) (Gk_voicesT_64 w6_5 ih6 w6_4 rw6) (zc_vr (Gk_passesAloneT w6_5 a3 (0 : Int32) rw6 q) <| fun v13 r14 => zif (v13 = (0 : Int32)) (Gk_voicesT_64 w6_5 ih6 w6_4 r14) (zlet (α := Int32) (1 <<< (w6_5 &&& 31)) <| fun v18 => zlet (α := Int32) (w6_4 ||| v18) <| fun v19 => Gk_voicesT_64 w6_5 ih6 v19 r14))))
noncomputable def Gk_voicesT_6 (a2 : Int32) (a3 : Int32) (q : zRq) (n : Nat) : Int32 → Int32 → zRr → (Int32 × zRr) :=
  Nat.rec (motive := fun _ => Int32 → Int32 → zRr → (Int32 × zRr)) (fun _ _ rw6 => (default, rw6)) (fun _ ih => Bk_voicesT_6 a2 a3 q ih) n
noncomputable def Gk_voicesT (a2 : Int32) (a3 : Int32) (r : zRr) (q : zRq) : Int32 × zRr :=
  Gk_voicesT_6 a2 a3 q 7 0 0 r
noncomputable def Gk_letsT (a2 : Int32) (a3 : Int32) (r : zRr) (q : zRq) : Int32 × zRr :=
  zlet (α := Int32) (r 175 (zn a2)) <| fun v1 => zifn (v1 = (1 : Int32)) (zc_vr (Gk_passesAloneT a2 a3 (0 : Int32) r q) <| fun v4 r5 => (v4, r5)) (zlet (α := Int32) (r 13 (zn a2)) <| fun v7 => zc_vr (Gk_voicesT v7 a3 r q) <| fun v9 r10 => zif (v9 = (0 : Int32)) (((0 : Int32), r10)) (((1 : Int32), r10)))
noncomputable def Gk_canGoT (a2 : Int32) (a3 : Int32) (r : zRr) (q : zRq) : Int32 × zRr :=
  zlet (α := Int32) (r 13 (zn a2)) <| fun v1 => zlet (α := Int32) (r 173 (zn v1)) <| fun v2 => zlet (α := Int32) ((Gk_has v2 a3)) <| fun u3 => zif (u3 = (0 : Int32)) (((0 : Int32), r)) (zc_vr (Gk_letsT a2 a3 r q) <| fun v9 r10 => zif (v9 = (0 : Int32)) (((0 : Int32), r10)) (((1 : Int32), r10)))
noncomputable def Gk_canForgeT (a2 : Int32) (a3 : Int32) (r : zRr) (q : zRq) : Int32 :=
  zif ((r 175 (zn a2)) = (1 : Int32)) ((0 : Int32)) (zif (a3 < (1 : Int32)) ((0 : Int32)) (zif ((20 - (r 15 (zn a2))) < a3) ((0 : Int32)) (zif ((r 16 (zn a2)) < (a3 * (r 171 12))) ((0 : Int32)) ((1 : Int32)))))
noncomputable def Gk_sellT (a2 : Int32) (a3 : Int32) (r : zRr) (q : zRq) : zRr :=
  zlet (α := zRr) (zset r 15 (upd (r 15) (zn a2) ((r 15 (zn a2)) + a3))) <| fun r2 => zlet (α := Int32) (r2 16 (zn a2)) <| fun v3 => zlet (α := Int32) (r2 171 12) <| fun v4 => zlet (α := Int32) (a3 * v4) <| fun v5 => zlet (α := Int32) (v3 - v5) <| fun v6 => zlet (α := zRr) (zset r2 16 (upd (r2 16) (zn a2) v6)) <| fun r7 => r7
noncomputable def Gk_letThrough_35 (w5_4 : Int32) (ih5 : Int32 → Int32 → zRr → (Int32 × zRr)) (w35_3 : Int32) (rw35 : zRr) : Int32 × zRr :=
  ih5 w35_3 (w5_4 + 1) rw35
noncomputable def Bk_letThrough_5 (a2 : Int32) (q : zRq) (ih5 : Int32 → Int32 → zRr → (Int32 × zRr)) (w5_3 : Int32) (w5_4 : Int32) (rw5 : zRr) : Int32 × zRr :=
  zlet (α := Int32) (rw5 171 10) <| fun v2 => zif (v2 ≤ w5_4) ((w5_3, rw5)) (zc_vr (Gk_letsN w5_4 a2 rw5 q) <| fun v7 r8 => zif (v7 = (0 : Int32)) (Gk_letThrough_35 w5_4 ih5 w5_3 r8) (zlet (α := Int32) (1 <<< (w5_4 &&& 31)) <| fun v12 => zlet (α := Int32) (w5_3 ||| v12) <| fun v13 => Gk_letThrough_35 w5_4 ih5 v13 r8))
noncomputable def Gk_letThrough_5 (a2 : Int32) (q : zRq) (n : Nat) : Int32 → Int32 → zRr → (Int32 × zRr) :=
  Nat.rec (motive := fun _ => Int32 → Int32 → zRr → (Int32 × zRr)) (fun _ _ rw5 => (default, rw5)) (fun _ ih => Bk_letThrough_5 a2 q ih) n
noncomputable def Gk_letThrough (a2 : Int32) (r : zRr) (q : zRq) : Int32 × zRr :=
  Gk_letThrough_5 a2 q 7 0 0 r
noncomputable def Gk_widen_32 (w4_3 : Int32) (ih4 : Int32 → Int32 → Int32) (w32_2 : Int32) : Int32 :=
  ih4 w32_2 (w4_3 + 1)
noncomputable def Bk_widen_4 (a1 : Int32) (r : zRr) (ih4 : Int32 → Int32 → Int32) (w4_2 : Int32) (w4_3 : Int32) : Int32 :=
  zlet (α := Int32) (r 171 9) <| fun v2 => zif (v2 ≤ w4_3) (w4_2) (zlet (α := Int32) ((Gk_has a1 w4_3)) <| fun u6 => zif (u6 = (0 : Int32)) (Gk_widen_32 w4_3 ih4 w4_2) (zlet (α := Int32) (r 202 (zn w4_3)) <| fun v11 => zlet (α := Int32) (w4_2 ||| v11) <| fun v12 => Gk_widen_32 w4_3 ih4 v12))
noncomputable def Gk_widen_4 (a1 : Int32) (r : zRr) (n : Nat) : Int32 → Int32 → Int32 :=
  Nat.rec (motive := fun _ => Int32 → Int32 → Int32) (fun _ _ => default) (fun _ ih => Bk_widen_4 a1 r ih) n
noncomputable def Gk_widen (a1 : Int32) (r : zRr) (q : zRq) : Int32 :=
  Gk_widen_4 a1 r 7 a1 0
noncomputable def Bk_spread_4 (r : zRr) (q : zRq) (ih4 : Int32 → Int32 → Int32) (w4_2 : Int32) (w4_3 : Int32) : Int32 :=
  zlet (α := Int32) (r 171 9) <| fun v1 => zif (v1 ≤ w4_3) (w4_2) (zlet (α := Int32) ((Gk_widen w4_2 r q)) <| fun u5 => ih4 u5 (w4_3 + 1))
noncomputable def Gk_spread_4 (r : zRr) (q : zRq) (n : Nat) : Int32 → Int32 → Int32 :=
  Nat.rec (motive := fun _ => Int32 → Int32 → Int32) (fun _ _ => default) (fun _ ih => Bk_spread_4 r q ih) n
noncomputable def Gk_spread (a1 : Int32) (r : zRr) (q : zRq) : Int32 :=
  Gk_spread_4 r q 6 a1 1
noncomputable def Gk_reachOfN (a2 : Int32) (a3 : Int32) (r : zRr) (q : zRq) : Int32 × zRr :=
  zlet (α := zRr) ((Gk_layN a2 a3 r q)) <| fun u1 => zlet (α := Int32) (u1 7 (zn a2)) <| fun v3 => zlet (α := Int32) (1 <<< (v3 &&& 31)) <| fun v4 => zlet (α := Int32) ((Gk_spread v4 u1 q)) <| fun u5 => (u5, u1)
noncomputable def Gk_reachOfT (a2 : Int32) (a3 : Int32) (r : zRr) (q : zRq) : Int32 × zRr :=
  zlet (α := zRr) ((Gk_layT a2 a3 r q)) <| fun u1 => zlet (α := Int32) (u1 13 (zn a2)) <| fun v3 => zlet (α := Int32) (1 <<< (v3 &&& 31)) <| fun v4 => zlet (α := Int32) ((Gk_spread v4 u1 q)) <| fun u5 => (u5, u1)
noncomputable def Bk_distance_7 (a2 : Int32) (r : zRr) (q : zRq) (ih7 : Int32 → Int32 → Int32) (w7_3 : Int32) (w7_4 : Int32) : Int32 :=
  zlet (α := Int32) (r 171 9) <| fun v1 => zif (v1 ≤ w7_4) (((-1) : Int32)) (zlet (α := Int32) ((Gk_has w7_3 a2)) <| fun u5 => zif (u5 = (0 : Int32)) (zlet (α := Int32) ((Gk_widen w7_3 r q)) <| fun u9 => ih7 u9 (w7_4 + 1)) (w7_4))
noncomputable def Gk_distance_7 (a2 : Int32) (r : zRr) (q : zRq) (n : Nat) : Int32 → Int32 → Int32 :=
  Nat.rec (motive := fun _ => Int32 → Int32 → Int32) (fun _ _ => default) (fun _ ih => Bk_distance_7 a2 r q ih) n
noncomputable def Gk_distance (a1 : Int32) (a2 : Int32) (r : zRr) (q : zRq) : Int32 :=
  zlet (α := Int32) (1 <<< (a1 &&& 31)) <| fun v13 => Gk_distance_7 a2 r q 7 v13 0
noncomputable def Gk_firstStep_59 (w17_3 : Int32) (w17_4 : Int32) (ih17 : Int32 → Int32 → Int32) : Int32 :=
  ih17 w17_3 (w17_4 + 1)
noncomputable def Bk_firstStep_17 (a1 : Int32) (a2 : Int32) (r : zRr) (q : zRq) (ih17 : Int32 → Int32 → Int32) (w17_3 : Int32) (w17_4 : Int32) : Int32 :=
  zlet (α := Int32) (r 171 9) <| fun v2 => zif (v2 ≤ w17_4) (((-1) : Int32)) (zlet (α := Int32) (r 202 (zn a1)) <| fun v6 => zlet (α := Int32) ((Gk_has v6 w17_4)) <| fun u7 => zif (u7 = (0 : Int32)) (Gk_firstStep_59 w17_3 w17_4 ih17 ) (zlet (α := Int32) ((Gk_distance w17_4 a2 r q)) <| fun u12 => zlet (α := Int32) (w17_3 - 1) <| fun v14 => zifn (u12 = v14) (Gk_firstStep_59 w17_3 w17_4 ih17 ) (w17_4)))
noncomputable def Gk_firstStep_17 (a1 : Int32) (a2 : Int32) (r : zRr) (q : zRq) (n : Nat) : Int32 → Int32 → Int32 :=
  Nat.rec (motive := fun _ => Int32 → Int32 → Int32) (fun _ _ => default) (fun _ ih => Bk_firstStep_17 a1 a2 r q ih) n
noncomputable def Gk_firstStep (a1 : Int32) (a2 : Int32) (r : zRr) (q : zRq) : Int32 :=
  zlet (α := Int32) ((Gk_distance a1 a2 r q)) <| fun u17 => zif ((1 : Int32) ≤ u17) (Gk_firstStep_17 a1 a2 r q 7 u17 0) (((-1) : Int32))
noncomputable def Gk_linkedTo (a1 : Int32) (r : zRr) (q : zRq) : Int32 × zRr :=
  zlet (α := zRr) (zset r 202 (va_cpy (r 173) (r 202) 0 0 6)) <| fun r1 => zlet (α := Int32) (1 <<< (a1 &&& 31)) <| fun v2 => zlet (α := Int32) ((Gk_spread v2 r1 q)) <| fun u3 => (u3, r1)
noncomputable def Gk_findSoonest_113 (w71_4 : Int32) (w71_7 : Int32) (ih71 : Int32 → Int32 → zRr → zRr) (rw113 : zRr) : zRr :=
  ih71 w71_4 (w71_7 + 1) rw113
noncomputable def Bk_findSoonest_71 (q : zRq) (w43_5 : Int32) (w43_6 : Int32) (ih43 : Int32 → Int32 → Int32 → zRr → zRr) (ih71 : Int32 → Int32 → zRr → zRr) (w71_4 : Int32) (w71_7 : Int32) (rw71 : zRr) : zRr :=
  zlet (α := Int32) (rw71 171 9) <| fun v2 => zif (v2 ≤ w71_7) (zlet (α := Int32) (w71_4 ^^^ (-1)) <| fun v4 => zlet (α := Int32) (w43_5 &&& v4) <| fun v5 => zifn (v5 = (0 : Int32)) (zlet (α := zRr) ((Gk_passWeekA rw71 q)) <| fun u7 => ih43 w71_4 w43_5 (w43_6 + 1) u7) (rw71)) (zlet (α := Int32) (rw71 203 (zn w71_7)) <| fun v13 => zifn (v13 = ((-1) : Int32)) (Gk_findSoonest_113 w71_4 w71_7 ih71 rw71) (zlet (α := Int32) ((Gk_has w71_4 w71_7)) <| fun u16 => zif (u16 = (0 : Int32)) (Gk_findSoonest_113 w71_4 w71_7 ih71 rw71) (zlet (α := zRr) (zset rw71 203 (upd (rw71 203) (zn w71_7) w43_6)) <| fun r21 => Gk_findSoonest_113 w71_4 w71_7 ih71 r21)))
noncomputable def Gk_findSoonest_71 (q : zRq) (w43_5 : Int32) (w43_6 : Int32) (ih43 : Int32 → Int32 → Int32 → zRr → zRr) (n : Nat) : Int32 → Int32 → zRr → zRr :=
  Nat.rec (motive := fun _ => Int32 → Int32 → zRr → zRr) (fun _ _ rw71 => rw71) (fun _ ih => Bk_findSoonest_71 q w43_5 w43_6 ih43 ih) n
noncomputable def Bk_findSoonest_43 (a2 : Int32) (q : zRq) (ih43 : Int32 → Int32 → Int32 → zRr → zRr) (w43_4 : Int32) (w43_5 : Int32) (w43_6 : Int32) (rw43 : zRr) : zRr :=
  zif ((99 : Int32) < w43_6) (rw43) (zlet (α := zRr) ((Gk_layA a2 (0 : Int32) rw43 q)) <| fun u25 => zlet (α := Int32) ((Gk_spread w43_4 u25 q)) <| fun u27 => Gk_findSoonest_71 q w43_5 w43_6 ih43 7 u27 0 u25)
noncomputable def Gk_findSoonest_43 (a2 : Int32) (q : zRq) (n : Nat) : Int32 → Int32 → Int32 → zRr → zRr :=
  Nat.rec (motive := fun _ => Int32 → Int32 → Int32 → zRr → zRr) (fun _ _ _ rw43 => rw43) (fun _ ih => Bk_findSoonest_43 a2 q ih) n
noncomputable def Gk_findSoonest (a2 : Int32) (a3 : Int32) (r : zRr) (q : zRq) : zRr :=
  zlet (α := Int32) (r 7 (zn a2)) <| fun v29 => zlet (α := Int32) (1 <<< (v29 &&& 31)) <| fun v30 => zlet (α := Int32) (r 7 (zn a2)) <| fun v31 => zc_vr (Gk_linkedTo v31 r q) <| fun v33 r34 => zlet (α := Int32) (a3 &&& v33) <| fun v35 => zlet (α := zRr) (zset r34 203 (zfl (r34 203) ((-1) : Int32) 6)) <| fun r36 => zlet (α := zRr) (kcp8 r36 0 6) <| fun r37 => Gk_findSoonest_43 a2 q 101 v30 v35 0 r37
noncomputable def Gk_waitForSoonest_67 (w2_1 : Int32) (rw2 : zRr) (ih2 : Int32 → zRr → zRr) (w67_s0 : Int32) : zRr :=
  zlet (α := zRr) (zset rw2 204 (upd (rw2 204) (zn w2_1) w67_s0)) <| fun r1 => ih2 (w2_1 + 1) r1
noncomputable def Gk_waitForSoonest_38 (w2_1 : Int32) (rw2 : zRr) (ih2 : Int32 → zRr → zRr) (w38_s0 : Int32) : zRr :=
  zif (w38_s0 = (0 : Int32)) (zlet (α := Int32) (rw2 204 (zn w2_1)) <| fun v5 => zlet (α := Int32) (rw2 203 (zn w2_1)) <| fun v6 => zlet (α := Int32) (if v5 < v6 then v6 else v5) <| fun v7 => Gk_waitForSoonest_67 w2_1 rw2 ih2 v7) (Gk_waitForSoonest_67 w2_1 rw2 ih2 (-1))
noncomputable def Gk_waitForSoonest_33 (w2_1 : Int32) (rw2 : zRr) (ih2 : Int32 → zRr → zRr) : zRr :=
  Gk_waitForSoonest_38 w2_1 rw2 ih2 1
noncomputable def Bk_waitForSoonest_2 (ih2 : Int32 → zRr → zRr) (w2_1 : Int32) (rw2 : zRr) : zRr :=
  zlet (α := Int32) (rw2 171 9) <| fun v9 => zif (v9 ≤ w2_1) (rw2) (zlet (α := Int32) (rw2 204 (zn w2_1)) <| fun v13 => zif (v13 = ((-1) : Int32)) (Gk_waitForSoonest_33 w2_1 rw2 ih2 ) (zlet (α := Int32) (rw2 203 (zn w2_1)) <| fun v16 => zifn (v16 = ((-1) : Int32)) (Gk_waitForSoonest_38 w2_1 rw2 ih2 0) (Gk_waitForSoonest_33 w2_1 rw2 ih2 )))
noncomputable def Gk_waitForSoonest_2 (n : Nat) : Int32 → zRr → zRr :=
  Nat.rec (motive := fun _ => Int32 → zRr → zRr) (fun _ rw2 => rw2) (fun _ ih => Bk_waitForSoonest_2 ih) n
noncomputable def Gk_waitForSoonest (r : zRr) (q : zRq) : zRr :=
  Gk_waitForSoonest_2 7 0 r
noncomputable def Gk_wander_105 (w66_3 : Int32) (w66_4 : Int32) (ih66 : Int32 → Int32 → zRr → zRr) (rw105 : zRr) : zRr :=
  ih66 w66_3 (w66_4 + 1) rw105
noncomputable def Bk_wander_66 (a1 : Int32) (ih66 : Int32 → Int32 → zRr → zRr) (w66_3 : Int32) (w66_4 : Int32) (rw66 : zRr) : zRr :=
  zlet (α := Int32) (rw66 171 9) <| fun v2 => zif (v2 ≤ w66_4) (rw66) (zlet (α := Int32) ((Gk_has w66_3 w66_4)) <| fun u6 => zif (u6 = (0 : Int32)) (Gk_wander_105 w66_3 w66_4 ih66 rw66) (zlet (α := Int32) (1 <<< (w66_4 &&& 31)) <| fun v11 => zlet (α := Int32) (a1 ||| v11) <| fun v12 => zlet (α := Int32) (rw66 201 (zn v12)) <| fun v13 => zlet (α := Int32) (1 <<< (w66_4 &&& 31)) <| fun v14 => zlet (α := Int32) (v13 ||| v14) <| fun v15 => zlet (α := zRr) (zset rw66 201 (upd (rw66 201) (zn v12) v15)) <| fun r16 => Gk_wander_105 w66_3 w66_4 ih66 r16))
noncomputable def Gk_wander_66 (a1 : Int32) (n : Nat) : Int32 → Int32 → zRr → zRr :=
  Nat.rec (motive := fun _ => Int32 → Int32 → zRr → zRr) (fun _ _ rw66 => rw66) (fun _ ih => Bk_wander_66 a1 ih) n
noncomputable def Bk_wander_19 (a1 : Int32) (r : zRr) (q : zRq) (ih19 : Int32 → Int32 → zRr) (w19_2 : Int32) (w19_3 : Int32) : zRr :=
  zlet (α := Int32) (r 171 9) <| fun v17 => zif (v17 ≤ w19_3) (zlet (α := zRr) (zset r 201 (upd (r 201) (zn a1) w19_2)) <| fun r19 => zlet (α := Int32) ((Gk_widen w19_2 r19 q)) <| fun u20 => zlet (α := Int32) (a1 ^^^ (-1)) <| fun v22 => zlet (α := Int32) (u20 &&& v22) <| fun v23 => Gk_wander_66 a1 7 v23 0 r19) (zlet (α := Int32) ((Gk_widen w19_2 r q)) <| fun u26 => zlet (α := Int32) (u26 &&& a1) <| fun v28 => zlet (α := Int32) (w19_2 ||| v28) <| fun v29 => ih19 v29 (w19_3 + 1))
noncomputable def Gk_wander_19 (a1 : Int32) (r : zRr) (q : zRq) (n : Nat) : Int32 → Int32 → zRr :=
  Nat.rec (motive := fun _ => Int32 → Int32 → zRr) (fun _ _ => r) (fun _ ih => Bk_wander_19 a1 r q ih) n
noncomputable def Gk_wander (a1 : Int32) (r : zRr) (q : zRq) : zRr :=
  zlet (α := Int32) (r 201 (zn a1)) <| fun v31 => zifn (v31 = (0 : Int32)) (zlet (α := Int32) (r 201 (zn a1)) <| fun v33 => Gk_wander_19 a1 r q 6 v33 1) (r)
noncomputable def Bk_soonestRound_92 (q : zRq) (w71_3 : Int32) (w71_4 : Int32) (w71_5 : Int32) (ih71 : Int32 → Int32 → Int32 → zRr → (Int32 × zRr)) (ih92 : Int32 → zRr → (Int32 × zRr)) (w92_6 : Int32) (rw92 : zRr) : Int32 × zRr :=
  zif (w71_3 < w92_6) (zlet (α := Int32) (rw92 201 (zn w71_3)) <| fun v3 => zif (v3 = (0 : Int32)) (zlet (α := zRr) ((Gk_passWeekA rw92 q)) <| fun u6 => ih71 w71_3 w71_4 (w71_5 + 1) u6) ((w71_5, rw92))) (zlet (α := zRr) ((Gk_wander w92_6 rw92 q)) <| fun u10 => ih92 (w92_6 + 1) u10)
noncomputable def Gk_soonestRound_92 (q : zRq) (w71_3 : Int32) (w71_4 : Int32) (w71_5 : Int32) (ih71 : Int32 → Int32 → Int32 → zRr → (Int32 × zRr)) (n : Nat) : Int32 → zRr → (Int32 × zRr) :=
  Nat.rec (motive := fun _ => Int32 → zRr → (Int32 × zRr)) (fun _ rw92 => (default, rw92)) (fun _ ih => Bk_soonestRound_92 q w71_3 w71_4 w71_5 ih71 ih) n
noncomputable def Bk_soonestRound_71 (a2 : Int32) (q : zRq) (ih71 : Int32 → Int32 → Int32 → zRr → (Int32 × zRr)) (w71_3 : Int32) (w71_4 : Int32) (w71_5 : Int32) (rw71 : zRr) : Int32 × zRr :=
  zif ((99 : Int32) < w71_5) ((((-1) : Int32), rw71)) (zlet (α := zRr) ((Gk_layA a2 (0 : Int32) rw71 q)) <| fun u16 => Gk_soonestRound_92 q w71_3 w71_4 w71_5 ih71 65 w71_4 u16)
noncomputable def Gk_soonestRound_71 (a2 : Int32) (q : zRq) (n : Nat) : Int32 → Int32 → Int32 → zRr → (Int32 × zRr) :=
  Nat.rec (motive := fun _ => Int32 → Int32 → Int32 → zRr → (Int32 × zRr)) (fun _ _ _ rw71 => (default, rw71)) (fun _ ih => Bk_soonestRound_71 a2 q ih) n
noncomputable def Gk_soonestRound (a2 : Int32) (r : zRr) (q : zRq) : Int32 × zRr :=
  zlet (α := Int32) ((Gk_allTowns r q)) <| fun u18 => zlet (α := Int32) (r 11 (zn a2)) <| fun v20 => zlet (α := Int32) (v20 &&& u18) <| fun v21 => zlet (α := Int32) (r 7 (zn a2)) <| fun v22 => zc_vr (Gk_linkedTo v22 r q) <| fun v24 r25 => zlet (α := Int32) (v21 ||| v24) <| fun v26 => zif (v26 = u18) (zlet (α := zRr) (zset r25 201 (zfl (r25 201) (0 : Int32) 64)) <| fun r29 => zlet (α := Int32) (r29 7 (zn a2)) <| fun v30 => zlet (α := Int32) (1 <<< (v30 &&& 31)) <| fun v31 => zlet (α := zRr) (zset r29 201 (upd (r29 201) (zn v21) v31)) <| fun r32 => zlet (α := zRr) (kcp8 r32 0 6) <| fun r33 => Gk_soonestRound_71 a2 q 101 u18 v21 0 r33) ((((-1) : Int32), r25))
noncomputable def Gk_isPerson (a1 : Int32) (r : zRr) (q : zRq) : Int32 :=
  zif (a1 < (0 : Int32)) ((0 : Int32)) (zlet (α := Int32) (r 171 10) <| fun v4 => zif (v4 ≤ a1) ((0 : Int32)) ((1 : Int32)))
noncomputable def Gk_isTown (a1 : Int32) (r : zRr) (q : zRq) : Int32 :=
  zif (a1 < (0 : Int32)) ((0 : Int32)) (zlet (α := Int32) (r 171 9) <| fun v4 => zif (v4 ≤ a1) ((0 : Int32)) ((1 : Int32)))
noncomputable def Gk_clear6 (r : zRr) (q : zRq) : zRr :=
  zlet (α := zRr) ((zset r 162 (upd (r 162) 0 (2147483647 : Int32)))) <| fun r1 => zlet (α := zRr) ((zset r1 162 (upd (r1 162) 1 (0 : Int32)))) <| fun r2 => r2
noncomputable def Gk_add6 (a1 : Int32) (r : zRr) (q : zRq) : zRr :=
  zlet (α := Int32) (r 162 0) <| fun v1 => zlet (α := Int32) (v1 &&& a1) <| fun v2 => zlet (α := zRr) ((zset r 162 (upd (r 162) 0 v2))) <| fun r3 => zlet (α := Int32) (r3 162 1) <| fun v4 => zlet (α := Int32) (v4 + 1) <| fun v5 => zlet (α := zRr) ((zset r3 162 (upd (r3 162) 1 v5))) <| fun r6 => r6
noncomputable def Gk_forgetPast (r : zRr) (q : zRq) : zRr :=
  zlet (α := zRr) ((zset r 195 (upd (r 195) 13 (0 : Int32)))) <| fun r1 => zlet (α := zRr) ((zset r1 195 (upd (r1 195) 14 (0 : Int32)))) <| fun r2 => r2
noncomputable def Bk_land_79 (ih79 : Int32 → zRr → zRq → (Int32 × zRr × zRq)) (w79_2 : Int32) (rw79 : zRr) (qw79 : zRq) : Int32 × zRr × zRq :=
  zif ((4 : Int32) ≤ w79_2) (((0 : Int32), rw79, qw79)) (zif (zn w79_2 = 0) (zlet (α := zRr) ((zset rw79 167 (upd (rw79 167) 3 (0 : Int32)))) <| fun r5 => ih79 (w79_2 + 1) r5 qw79) (zif (zn w79_2 = 1) (zlet (α := zRr) ((zset rw79 168 (upd (rw79 168) 3 (0 : Int32)))) <| fun r7 => ih79 (w79_2 + 1) r7 qw79) (zif (zn w79_2 = 2) (zlet (α := zRr) ((zset rw79 169 (upd (rw79 169) 3 (0 : Int32)))) <| fun r9 => ih79 (w79_2 + 1) r9 qw79) (zif (zn w79_2 = 3) (zlet (α := zRr) ((zset rw79 170 (upd (rw79 170) 3 (0 : Int32)))) <| fun r11 => ih79 (w79_2 + 1) r11 qw79) (default)))))
noncomputable def Gk_land_79 (n : Nat) : Int32 → zRr → zRq → (Int32 × zRr × zRq) :=
  Nat.rec (motive := fun _ => Int32 → zRr → zRq → (Int32 × zRr × zRq)) (fun _ rw79 qw79 => (default, rw79, qw79)) (fun _ ih => Bk_land_79 ih) n
noncomputable def Gk_land (r : zRr) (q : zRq) : Int32 × zRr × zRq :=
  zc_vrq (Gk_readL r q) <| fun v14 r15 q16 => zlet (α := zRr) ((zset r15 196 (upd (r15 196) 1 (0 : Int32)))) <| fun r17 => zifn (v14 = (0 : Int32)) (zlet (α := zRq) (kcpLq q16) <| fun q20 => zlet (α := zRr) (kcpL r17 (zn (r17 192 2))) <| fun r21 => zlet (α := zRr) ((Gk_begin8N r21 q20)) <| fun u22 => zlet (α := zRr) ((zset u22 138 (upd (u22 138) 3 (0 : Int32)))) <| fun r24 => zlet (α := zRr) ((Gk_clear6 r24 q20)) <| fun u25 => zlet (α := zRr) ((Gk_forgetPast u25 q20)) <| fun u27 => Gk_land_79 5 0 u27 q20) (zlet (α := Int32) (r17 196 7) <| fun v30 => (v30, r17, q16))
noncomputable def Gk_journey (r : zRr) (q : zRq) : Int32 × zRr × zRq :=
  zc_vrq (Gk_readJ r q) <| fun v2 r3 q4 => zlet (α := zRr) ((zset r3 196 (upd (r3 196) 1 (0 : Int32)))) <| fun r5 => zifn (v2 = (0 : Int32)) (zlet (α := zRr) (kcp1 r5 138 142) <| fun r8 => ((0 : Int32), r8, q4)) (zlet (α := Int32) (r5 196 7) <| fun v10 => (v10, r5, q4))
noncomputable def Bk_suma_4 (r : zRr) (ih4 : Int32 → Int32 → Int32) (w4_2 : Int32) (w4_3 : Int32) : Int32 :=
  zlet (α := Int32) (r 171 10) <| fun v1 => zif (v1 ≤ w4_3) (w4_2) (zif ((6 : Int32) ≤ w4_3) (default) (zlet (α := Int32) (r 178 (zn w4_3)) <| fun v6 => zlet (α := Int32) (w4_2 + v6) <| fun v7 => ih4 v7 (w4_3 + 1)))
noncomputable def Gk_suma_4 (r : zRr) (n : Nat) : Int32 → Int32 → Int32 :=
  Nat.rec (motive := fun _ => Int32 → Int32 → Int32) (fun _ _ => default) (fun _ ih => Bk_suma_4 r ih) n
noncomputable def Gk_suma (r : zRr) (q : zRq) : Int32 :=
  Gk_suma_4 r 7 0 0
noncomputable def Bk_sumb_4 (r : zRr) (ih4 : Int32 → Int32 → Int32) (w4_2 : Int32) (w4_3 : Int32) : Int32 :=
  zlet (α := Int32) (r 171 10) <| fun v1 => zif (v1 ≤ w4_3) (w4_2) (zif ((6 : Int32) ≤ w4_3) (default) (zlet (α := Int32) (r 9 (zn w4_3)) <| fun v6 => zlet (α := Int32) (w4_2 + v6) <| fun v7 => ih4 v7 (w4_3 + 1)))
noncomputable def Gk_sumb_4 (r : zRr) (n : Nat) : Int32 → Int32 → Int32 :=
  Nat.rec (motive := fun _ => Int32 → Int32 → Int32) (fun _ _ => default) (fun _ ih => Bk_sumb_4 r ih) n
noncomputable def Gk_sumb (r : zRr) (q : zRq) : Int32 :=
  Gk_sumb_4 r 7 0 0
noncomputable def Bk_sumc_4 (r : zRr) (ih4 : Int32 → Int32 → Int32) (w4_2 : Int32) (w4_3 : Int32) : Int32 :=
  zlet (α := Int32) (r 171 10) <| fun v1 => zif (v1 ≤ w4_3) (w4_2) (zif ((6 : Int32) ≤ w4_3) (default) (zlet (α := Int32) (r 10 (zn w4_3)) <| fun v6 => zlet (α := Int32) (w4_2 + v6) <| fun v7 => ih4 v7 (w4_3 + 1)))
noncomputable def Gk_sumc_4 (r : zRr) (n : Nat) : Int32 → Int32 → Int32 :=
  Nat.rec (motive := fun _ => Int32 → Int32 → Int32) (fun _ _ => default) (fun _ ih => Bk_sumc_4 r ih) n
noncomputable def Gk_sumc (r : zRr) (q : zRq) : Int32 :=
  Gk_sumc_4 r 7 0 0
noncomputable def Bk_sumd_4 (r : zRr) (ih4 : Int32 → Int32 → Int32) (w4_2 : Int32) (w4_3 : Int32) : Int32 :=
  zlet (α := Int32) (r 171 10) <| fun v1 => zif (v1 ≤ w4_3) (w4_2) (zif ((6 : Int32) ≤ w4_3) (default) (zlet (α := Int32) (r 16 (zn w4_3)) <| fun v6 => zlet (α := Int32) (w4_2 + v6) <| fun v7 => ih4 v7 (w4_3 + 1)))
noncomputable def Gk_sumd_4 (r : zRr) (n : Nat) : Int32 → Int32 → Int32 :=
  Nat.rec (motive := fun _ => Int32 → Int32 → Int32) (fun _ _ => default) (fun _ ih => Bk_sumd_4 r ih) n
noncomputable def Gk_sumd (r : zRr) (q : zRq) : Int32 :=
  Gk_sumd_4 r 7 0 0
noncomputable def Gk_person (a1 : Int32) (a2 : Int32) (r : zRr) (q : zRq) : Int32 :=
  zlet (α := Int32) ((Gk_isPerson a1 r q)) <| fun u1 => zifn (u1 = (0 : Int32)) (zif (a2.toInt < 0 ∨ 5 < a2.toInt) (((-1) : Int32)) (zif (a2 = (0 : Int32)) (zlet (α := Int32) (r 175 (zn a1)) <| fun v10 => v10) (zif (a2 = (1 : Int32)) (zlet (α := Int32) (r 7 (zn a1)) <| fun v12 => v12) (zif (a2 = (2 : Int32)) (zlet (α := Int32) (r 8 (zn a1)) <| fun v14 => zlet (α := Int32) (r 9 (zn a1)) <| fun v15 => zlet (α := Int32) (v14 + v15) <| fun v16 => v16) (zif (a2 = (3 : Int32)) (zlet (α := Int32) (r 9 (zn a1)) <| fun v18 => v18) (zif (a2 = (4 : Int32)) (zlet (α := Int32) (r 10 (zn a1)) <| fun v20 => v20) (zif (a2 = (5 : Int32)) (zlet (α := Int32) (r 11 (zn a1)) <| fun v22 => v22) (default)))))))) (((-1) : Int32))
noncomputable def Gk_town (a1 : Int32) (a2 : Int32) (r : zRr) (q : zRq) : Int32 × zRr :=
  zlet (α := Int32) ((Gk_isTown a1 r q)) <| fun u1 => zifn (u1 = (0 : Int32)) (zif (a2.toInt < 0 ∨ 2 < a2.toInt) ((((-1) : Int32), r)) (zif (a2 = (0 : Int32)) (zlet (α := Int32) (r 172 (zn a1)) <| fun v10 => (v10, r)) (zif (a2 = (1 : Int32)) (zlet (α := Int32) (r 173 (zn a1)) <| fun v12 => (v12, r)) (zif (a2 = (2 : Int32)) (zc_vr (Gk_letThrough a1 r q) <| fun v15 r16 => (v15, r16)) (default))))) ((((-1) : Int32), r))
noncomputable def Gk_count (a1 : Int32) (r : zRr) (q : zRq) : Int32 :=
  zif (a1.toInt < 0 ∨ 11 < a1.toInt) (((-1) : Int32)) (zif (a1 = (0 : Int32)) (zlet (α := Int32) (r 171 9) <| fun v6 => v6) (zif (a1 = (1 : Int32)) (zlet (α := Int32) (r 171 10) <| fun v8 => v8) (zif (a1 = (2 : Int32)) (zlet (α := Int32) (r 171 11) <| fun v10 => v10) (zif (a1 = (3 : Int32)) (zlet (α := Int32) (r 171 12) <| fun v12 => v12) (zif (a1 = (4 : Int32)) (zlet (α := Int32) (r 6 5) <| fun v14 => v14) (zif (a1 = (5 : Int32)) (zlet (α := Int32) (r 171 10) <| fun v16 => zlet (α := Int32) ((Gk_peopledN v16 r q)) <| fun u17 => u17) (zif (a1 = (6 : Int32)) (zlet (α := Int32) ((Gk_sumb r q)) <| fun u20 => u20) (zif (a1 = (7 : Int32)) (zlet (α := Int32) ((Gk_sumc r q)) <| fun u23 => u23) (zif (a1 = (8 : Int32)) (zlet (α := Int32) (r 138 3) <| fun v26 => v26) (zif (a1 = (9 : Int32)) (zlet (α := Int32) (r 162 1) <| fun v28 => v28) (zif (a1 = (10 : Int32)) (zlet (α := Int32) (r 195 14) <| fun v30 => v30) (zif (a1 = (11 : Int32)) (zlet (α := Int32) (r 196 1) <| fun v32 => v32) (default)))))))))))))
noncomputable def Gk_remember (r : zRr) (q : zRq) : zRr :=
  zlet (α := Int32) (r 195 13) <| fun v1 => zlet (α := zRr) (kcp8 r (6 * (zn v1) + 18) 6) <| fun r2 => zlet (α := Int32) (r2 195 13) <| fun v3 => zlet (α := Int32) (v3 + 1) <| fun v4 => zlet (α := Int32) (v4 - v4 / 16 * 16) <| fun v5 => zlet (α := zRr) ((zset r2 195 (upd (r2 195) 13 v5))) <| fun r6 => zlet (α := Int32) (r6 195 14) <| fun v7 => zlet (α := Int32) (v7 + 1) <| fun v8 => zlet (α := Int32) (if 16 < v8 then 16 else v8) <| fun v9 => zlet (α := zRr) ((zset r6 195 (upd (r6 195) 14 v9))) <| fun r10 => r10
noncomputable def Gk_undo (r : zRr) (q : zRq) : Int32 × zRr :=
  zlet (α := Int32) (r 195 14) <| fun v1 => zifn (v1 = (0 : Int32)) (zlet (α := Int32) (r 195 13) <| fun v3 => zlet (α := Int32) (v3 + 16) <| fun v4 => zlet (α := Int32) (v4 - 1) <| fun v5 => zlet (α := Int32) (v5 - v5 / 16 * 16) <| fun v6 => zlet (α := zRr) ((zset r 195 (upd (r 195) 13 v6))) <| fun r7 => zlet (α := Int32) (r7 195 14) <| fun v8 => zlet (α := Int32) (v8 - 1) <| fun v9 => zlet (α := zRr) ((zset r7 195 (upd (r7 195) 14 v9))) <| fun r10 => zlet (α := Int32) (r10 195 13) <| fun v11 => zlet (α := zRr) (kcp8 r10 6 (6 * (zn v11) + 18)) <| fun r12 => ((1 : Int32), r12)) (((0 : Int32), r))
noncomputable def Gk_go (a1 : Int32) (a2 : Int32) (r : zRr) (q : zRq) : Int32 × zRr :=
  zlet (α := Int32) ((Gk_isPerson a1 r q)) <| fun u1 => zif (u1 = (0 : Int32)) (((0 : Int32), r)) (zlet (α := Int32) ((Gk_isTown a2 r q)) <| fun u6 => zif (u6 = (0 : Int32)) (((0 : Int32), r)) (zc_vr (Gk_canGoN a1 a2 r q) <| fun v12 r13 => zifn (v12 = (0 : Int32)) (zlet (α := zRr) ((Gk_remember r13 q)) <| fun u16 => zlet (α := zRr) ((Gk_arriveN a1 a2 u16 q)) <| fun u18 => ((1 : Int32), u18)) (((0 : Int32), r13))))
noncomputable def Gk_forge (a1 : Int32) (a2 : Int32) (r : zRr) (q : zRq) : Int32 × zRr :=
  zlet (α := Int32) ((Gk_isPerson a1 r q)) <| fun u1 => zif (u1 = (0 : Int32)) ((((-1) : Int32), r)) (zlet (α := Int32) ((Gk_canForgeN a1 a2 r q)) <| fun u6 => zifn (u6 = (0 : Int32)) (zlet (α := zRr) ((Gk_remember r q)) <| fun u10 => zlet (α := zRr) ((Gk_sellN a1 a2 u10 q)) <| fun u12 => zlet (α := Int32) (u12 10 (zn a1)) <| fun v14 => (v14, u12)) ((((-1) : Int32), r)))
noncomputable def Gk_shave (a1 : Int32) (r : zRr) (q : zRq) : Int32 × zRr :=
  zlet (α := Int32) ((Gk_isPerson a1 r q)) <| fun u1 => zifn (u1 = (0 : Int32)) (zlet (α := zRr) ((Gk_remember r q)) <| fun u5 => zlet (α := zRr) ((Gk_loseBeardN a1 u5 q)) <| fun u7 => ((1 : Int32), u7)) (((0 : Int32), r))
noncomputable def Gk_week (r : zRr) (q : zRq) : Int32 × zRr :=
  zlet (α := zRr) ((Gk_remember r q)) <| fun u1 => zlet (α := zRr) ((Gk_passWeekN u1 q)) <| fun u3 => zlet (α := Int32) (u3 6 5) <| fun v5 => (v5, u3)
noncomputable def Gk_markLay0 (r : zRr) (q : zRq) : zRr :=
  zlet (α := zRr) (kcp8 r 114 6) <| fun r1 => zlet (α := zRr) (kcp1 r1 146 138) <| fun r2 => zlet (α := zRr) (zset r2 163 (r2 162)) <| fun r3 => zlet (α := zRr) ((zset r3 167 (upd (r3 167) 3 (1 : Int32)))) <| fun r4 => r4
noncomputable def Gk_markLay1 (r : zRr) (q : zRq) : zRr :=
  zlet (α := zRr) (kcp8 r 120 6) <| fun r1 => zlet (α := zRr) (kcp1 r1 150 138) <| fun r2 => zlet (α := zRr) (zset r2 164 (r2 162)) <| fun r3 => zlet (α := zRr) ((zset r3 168 (upd (r3 168) 3 (1 : Int32)))) <| fun r4 => r4
noncomputable def Gk_markLay2 (r : zRr) (q : zRq) : zRr :=
  zlet (α := zRr) (kcp8 r 126 6) <| fun r1 => zlet (α := zRr) (kcp1 r1 154 138) <| fun r2 => zlet (α := zRr) (zset r2 165 (r2 162)) <| fun r3 => zlet (α := zRr) ((zset r3 169 (upd (r3 169) 3 (1 : Int32)))) <| fun r4 => r4
noncomputable def Gk_markLay3 (r : zRr) (q : zRq) : zRr :=
  zlet (α := zRr) (kcp8 r 132 6) <| fun r1 => zlet (α := zRr) (kcp1 r1 158 138) <| fun r2 => zlet (α := zRr) (zset r2 166 (r2 162)) <| fun r3 => zlet (α := zRr) ((zset r3 170 (upd (r3 170) 3 (1 : Int32)))) <| fun r4 => r4
noncomputable def Gk_mark (a1 : Int32) (a2 : Int32) (r : zRr) (q : zRq) : Int32 × zRr :=
  zif (a1 < (0 : Int32)) (((0 : Int32), r)) (zif (a1 < (4 : Int32)) (zif (zn a1 = 0) (zifn (a2 = (0 : Int32)) (zlet (α := Int32) (r 167 3) <| fun v9 => zifn (v9 = (0 : Int32)) (zlet (α := zRr) (kcp8 r 6 114) <| fun r12 => zlet (α := zRr) (kcp1 r12 138 146) <| fun r13 => zlet (α := zRr) (zset r13 162 (r13 163)) <| fun r14 => zlet (α := zRr) ((Gk_forgetPast r14 q)) <| fun u15 => ((1 : Int32), u15)) (((0 : Int32), r))) (zlet (α := zRr) ((Gk_markLay0 r q)) <| fun u19 => ((1 : Int32), u19))) (zif (zn a1 = 1) (zifn (a2 = (0 : Int32)) (zlet (α := Int32) (r 168 3) <| fun v23 => zifn (v23 = (0 : Int32)) (zlet (α := zRr) (kcp8 r 6 120) <| fun r26 => zlet (α := zRr) (kcp1 r26 138 150) <| fun r27 => zlet (α := zRr) (zset r27 162 (r27 164)) <| fun r28 => zlet (α := zRr) ((Gk_forgetPast r28 q)) <| fun u29 => ((1 : Int32), u29)) (((0 : Int32), r))) (zlet (α := zRr) ((Gk_markLay1 r q)) <| fun u33 => ((1 : Int32), u33))) (zif (zn a1 = 2) (zifn (a2 = (0 : Int32)) (zlet (α := Int32) (r 169 3) <| fun v37 => zifn (v37 = (0 : Int32)) (zlet (α := zRr) (kcp8 r 6 126) <| fun r40 => zlet (α := zRr) (kcp1 r40 138 154) <| fun r41 => zlet (α := zRr) (zset r41 162 (r41 165)) <| fun r42 => zlet (α := zRr) ((Gk_forgetPast r42 q)) <| fun u43 => ((1 : Int32), u43)) (((0 : Int32), r))) (zlet (α := zRr) ((Gk_markLay2 r q)) <| fun u47 => ((1 : Int32), u47))) (zif (zn a1 = 3) (zifn (a2 = (0 : Int32)) (zlet (α := Int32) (r 170 3) <| fun v51 => zifn (v51 = (0 : Int32)) (zlet (α := zRr) (kcp8 r 6 132) <| fun r54 => zlet (α := zRr) (kcp1 r54 138 158) <| fun r55 => zlet (α := zRr) (zset r55 162 (r55 166)) <| fun r56 => zlet (α := zRr) ((Gk_forgetPast r56 q)) <| fun u57 => ((1 : Int32), u57)) (((0 : Int32), r))) (zlet (α := zRr) ((Gk_markLay3 r q)) <| fun u61 => ((1 : Int32), u61))) (default))))) (((0 : Int32), r)))
noncomputable def Gk_goesTo (a1 : Int32) (r : zRr) (q : zRq) : Int32 :=
  zifn ((r 139 (zn a1)) = (0 : Int32)) (((-1) : Int32)) (r 141 (zn a1))
noncomputable def Gk_perform (a1 : Int32) (r : zRr) (q : zRq) : Int32 × zRr :=
  zlet (α := Int32) (r 140 (zn a1)) <| fun v1 => zifn ((r 139 (zn a1)) = (3 : Int32)) (zifn ((r 139 (zn a1)) = (2 : Int32)) (zifn ((r 139 (zn a1)) = (0 : Int32)) (zlet (α := Int32) ((Gk_canForgeT v1 (r 141 (zn a1)) r q)) <| fun u5 => zifn (u5 = (0 : Int32)) (zlet (α := zRr) ((Gk_sellT v1 (r 141 (zn a1)) r q)) <| fun u9 => ((1 : Int32), u9)) (((0 : Int32), r))) (zc_vr (Gk_canGoT v1 (r 141 (zn a1)) r q) <| fun v14 r15 => zifn (v14 = (0 : Int32)) (zlet (α := zRr) ((Gk_arriveT v1 (r 141 (zn a1)) r15 q)) <| fun u18 => ((1 : Int32), u18)) (((0 : Int32), r15)))) (zlet (α := zRr) ((Gk_loseBeardT v1 r q)) <| fun u22 => ((1 : Int32), u22))) (zlet (α := zRr) ((Gk_passWeekT r q)) <| fun u25 => ((1 : Int32), u25))
noncomputable def Gk_judged_117 (w27_4 : Int32) (w27_5 : Int32) (ih27 : Int32 → Int32 → Int32 → Int32 → zRr → (Int32 × zRr)) (w117_2 : Int32) (w117_3 : Int32) (rw117 : zRr) : Int32 × zRr :=
  ih27 w117_2 w117_3 w27_4 (w27_5 + 1) rw117
noncomputable def Gk_judged_70 (w27_3 : Int32) (w27_4 : Int32) (w27_5 : Int32) (ih27 : Int32 → Int32 → Int32 → Int32 → zRr → (Int32 × zRr)) (w70_s0 : Int32) (rw70 : zRr) : Int32 × zRr :=
  Gk_judged_117 w27_4 w27_5 ih27 w70_s0 w27_3 rw70
noncomputable def Bk_judged_27 (a1 : Int32) (q : zRq) (ih27 : Int32 → Int32 → Int32 → Int32 → zRr → (Int32 × zRr)) (w27_2 : Int32) (w27_3 : Int32) (w27_4 : Int32) (w27_5 : Int32) (rw27 : zRr) : Int32 × zRr :=
  zlet (α := Int32) (rw27 138 3) <| fun v2 => zif (v2 ≤ w27_5) (zif (a1.toInt < 0 ∨ 2 < a1.toInt) ((((-2) : Int32), rw27)) (zif (a1 = (0 : Int32)) ((w27_2, rw27)) (zif (a1 = (1 : Int32)) ((w27_3, rw27)) (zif (a1 = (2 : Int32)) (zlet (α := Int32) ((Gk_suma rw27 q)) <| fun u11 => zlet (α := Int32) ((Gk_sumd rw27 q)) <| fun u13 => zlet (α := Int32) (u11 - u13) <| fun v15 => (v15, rw27)) (default))))) (zc_vr (Gk_perform w27_5 rw27 q) <| fun v19 r20 => zifn (v19 = (0 : Int32)) (zifn (w27_3 = ((-1) : Int32)) (Gk_judged_117 w27_4 w27_5 ih27 w27_2 w27_3 r20) (zlet (α := Int32) ((Gk_goesTo w27_5 r20 q)) <| fun u26 => zif (u26 = ((-1) : Int32)) (Gk_judged_117 w27_4 w27_5 ih27 w27_2 w27_3 r20) (zlet (α := Int32) ((Gk_goesTo w27_5 r20 q)) <| fun u31 => zlet (α := Int32) (r20 172 (zn u31)) <| fun v34 => zifn (v34 = w27_4) (Gk_judged_117 w27_4 w27_5 ih27 w27_2 w27_3 r20) (Gk_judged_117 w27_4 w27_5 ih27 w27_2 w27_5 r20)))) (zifn (w27_2 = ((-1) : Int32)) (Gk_judged_70 w27_3 w27_4 w27_5 ih27 w27_2 r20) (Gk_judged_70 w27_3 w27_4 w27_5 ih27 w27_5 r20)))
noncomputable def Gk_judged_27 (a1 : Int32) (q : zRq) (n : Nat) : Int32 → Int32 → Int32 → Int32 → zRr → (Int32 × zRr) :=
  Nat.rec (motive := fun _ => Int32 → Int32 → Int32 → Int32 → zRr → (Int32 × zRr)) (fun _ _ _ _ rw27 => (default, rw27)) (fun _ ih => Bk_judged_27 a1 q ih) n
noncomputable def Gk_judged (a1 : Int32) (r : zRr) (q : zRq) : Int32 × zRr :=
  zlet (α := Int32) ((Gk_mostAsked r q)) <| fun u40 => zlet (α := zRr) ((Gk_begin8T r q)) <| fun u42 => Gk_judged_27 a1 q 41 (-1) (-1) u40 0 u42
noncomputable def Gk_reach (a1 : Int32) (r : zRr) (q : zRq) : Int32 × zRr :=
  zlet (α := Int32) ((Gk_isPerson a1 r q)) <| fun u1 => zif (u1 = (0 : Int32)) ((((-1) : Int32), r)) (zc_vr (Gk_reachOfN a1 (0 : Int32) r q) <| fun v7 r8 => (v7, r8))
noncomputable def Gk_frontiers (a1 : Int32) (a2 : Int32) (r : zRr) (q : zRq) : Int32 × zRr :=
  zlet (α := Int32) ((Gk_isPerson a1 r q)) <| fun u1 => zif (u1 = (0 : Int32)) ((((-1) : Int32), r)) (zlet (α := Int32) ((Gk_isTown a2 r q)) <| fun u6 => zifn (u6 = (0 : Int32)) (zlet (α := zRr) ((Gk_layN a1 (0 : Int32) r q)) <| fun u10 => zlet (α := Int32) (u10 7 (zn a1)) <| fun v12 => zlet (α := Int32) ((Gk_distance v12 a2 u10 q)) <| fun u13 => (u13, u10)) ((((-1) : Int32), r)))
noncomputable def Gk_guide (a1 : Int32) (a2 : Int32) (r : zRr) (q : zRq) : Int32 × zRr :=
  zlet (α := Int32) ((Gk_isPerson a1 r q)) <| fun u1 => zif (u1 = (0 : Int32)) ((((-1) : Int32), r)) (zlet (α := Int32) ((Gk_isTown a2 r q)) <| fun u6 => zifn (u6 = (0 : Int32)) (zlet (α := zRr) ((Gk_layN a1 (0 : Int32) r q)) <| fun u10 => zlet (α := Int32) (u10 7 (zn a1)) <| fun v12 => zlet (α := Int32) ((Gk_firstStep v12 a2 u10 q)) <| fun u13 => (u13, u10)) ((((-1) : Int32), r)))
noncomputable def Gk_when (a1 : Int32) (a2 : Int32) (r : zRr) (q : zRq) : Int32 × zRr :=
  zlet (α := Int32) ((Gk_isPerson a1 r q)) <| fun u1 => zif (u1 = (0 : Int32)) ((((-1) : Int32), r)) (zlet (α := Int32) ((Gk_isTown a2 r q)) <| fun u6 => zifn (u6 = (0 : Int32)) (zlet (α := Int32) (1 <<< (a2 &&& 31)) <| fun v10 => zlet (α := zRr) ((Gk_findSoonest a1 v10 r q)) <| fun u11 => zlet (α := Int32) (u11 203 (zn a2)) <| fun v13 => (v13, u11)) ((((-1) : Int32), r)))
noncomputable def Gk_round (a1 : Int32) (r : zRr) (q : zRq) : Int32 × zRr :=
  zlet (α := Int32) ((Gk_isPerson a1 r q)) <| fun u1 => zif (u1 = (0 : Int32)) ((((-1) : Int32), r)) (zc_vr (Gk_soonestRound a1 r q) <| fun v7 r8 => (v7, r8))
noncomputable def Gk_trapped_54 (w4_2 : Int32) (ih4 : Int32 → Int32 → zRr → (Int32 × zRr)) (w54_1 : Int32) (rw54 : zRr) : Int32 × zRr :=
  ih4 w54_1 (w4_2 + 1) rw54
noncomputable def Bk_trapped_4 (q : zRq) (ih4 : Int32 → Int32 → zRr → (Int32 × zRr)) (w4_1 : Int32) (w4_2 : Int32) (rw4 : zRr) : Int32 × zRr :=
  zlet (α := Int32) (rw4 171 10) <| fun v2 => zif (v2 ≤ w4_2) ((w4_1, rw4)) (zlet (α := zRr) ((Gk_layN w4_2 (0 : Int32) rw4 q)) <| fun u6 => zlet (α := Int32) (u6 7 (zn w4_2)) <| fun v8 => zlet (α := Int32) (u6 202 (zn v8)) <| fun v9 => zifn (v9 = (0 : Int32)) (Gk_trapped_54 w4_2 ih4 w4_1 u6) (zlet (α := Int32) (1 <<< (w4_2 &&& 31)) <| fun v12 => zlet (α := Int32) (w4_1 ||| v12) <| fun v13 => Gk_trapped_54 w4_2 ih4 v13 u6))
noncomputable def Gk_trapped_4 (q : zRq) (n : Nat) : Int32 → Int32 → zRr → (Int32 × zRr) :=
  Nat.rec (motive := fun _ => Int32 → Int32 → zRr → (Int32 × zRr)) (fun _ _ rw4 => (default, rw4)) (fun _ ih => Bk_trapped_4 q ih) n
noncomputable def Gk_trapped (r : zRr) (q : zRq) : Int32 × zRr :=
  Gk_trapped_4 q 7 0 0 r
noncomputable def Gk_shaven (a1 : Int32) (r : zRr) (q : zRq) : Int32 × zRr :=
  zlet (α := Int32) ((Gk_isPerson a1 r q)) <| fun u1 => zifn (u1 = (0 : Int32)) (zlet (α := zRr) (kcp8 r 12 6) <| fun r5 => zlet (α := zRr) ((Gk_loseBeardT a1 r5 q)) <| fun u6 => zc_vr (Gk_reachOfT a1 (0 : Int32) u6 q) <| fun v9 r10 => (v9, r10)) ((((-1) : Int32), r))
noncomputable def Gk_stricter_65 (w25_4 : Int32) (ih25 : Int32 → Int32 → zRr → (Int32 × zRr)) (w65_3 : Int32) (rw65 : zRr) : Int32 × zRr :=
  ih25 w65_3 (w25_4 + 1) rw65
noncomputable def Bk_stricter_25 (a1 : Int32) (a2 : Int32) (q : zRq) (ih25 : Int32 → Int32 → zRr → (Int32 × zRr)) (w25_3 : Int32) (w25_4 : Int32) (rw25 : zRr) : Int32 × zRr :=
  zlet (α := Int32) (rw25 171 10) <| fun v2 => zif (v2 ≤ w25_4) ((w25_3, rw25)) (zc_vr (Gk_reachOfN w25_4 a2 rw25 q) <| fun v7 r8 => zlet (α := Int32) ((Gk_has v7 a1)) <| fun u9 => zif (u9 = (0 : Int32)) (Gk_stricter_65 w25_4 ih25 w25_3 r8) (zlet (α := Int32) (1 <<< (w25_4 &&& 31)) <| fun v14 => zlet (α := Int32) (w25_3 ||| v14) <| fun v15 => Gk_stricter_65 w25_4 ih25 v15 r8))
noncomputable def Gk_stricter_25 (a1 : Int32) (a2 : Int32) (q : zRq) (n : Nat) : Int32 → Int32 → zRr → (Int32 × zRr) :=
  Nat.rec (motive := fun _ => Int32 → Int32 → zRr → (Int32 × zRr)) (fun _ _ rw25 => (default, rw25)) (fun _ ih => Bk_stricter_25 a1 a2 q ih) n
noncomputable def Gk_stricter (a1 : Int32) (a2 : Int32) (r : zRr) (q : zRq) : Int32 × zRr :=
  zlet (α := Int32) ((Gk_isTown a1 r q)) <| fun u16 => zif (u16 = (0 : Int32)) ((((-1) : Int32), r)) (zif (a2 < (0 : Int32)) ((((-1) : Int32), r)) (zif (a2 ≤ (9 : Int32)) (Gk_stricter_25 a1 a2 q 7 0 0 r) ((((-1) : Int32), r))))
noncomputable def Bk_fewest_33 (a1 : Int32) (a2 : Int32) (q : zRq) (ih33 : Int32 → Int32 → zRr → (Int32 × zRr)) (w33_3 : Int32) (w33_4 : Int32) (rw33 : zRr) : Int32 × zRr :=
  zif (w33_3 < w33_4) ((((-1) : Int32), rw33)) (zlet (α := zRr) (kcp8 rw33 12 6) <| fun r4 => zlet (α := zRr) (zset r4 15 (upd (r4 15) (zn a1) ((r4 15 (zn a1)) + w33_4))) <| fun r7 => zc_vr (Gk_reachOfT a1 (0 : Int32) r7 q) <| fun v9 r10 => zlet (α := Int32) ((Gk_has v9 a2)) <| fun u11 => zif (u11 = (0 : Int32)) (ih33 w33_3 (w33_4 + 1) r10) ((w33_4, r10)))
noncomputable def Gk_fewest_33 (a1 : Int32) (a2 : Int32) (q : zRq) (n : Nat) : Int32 → Int32 → zRr → (Int32 × zRr) :=
  Nat.rec (motive := fun _ => Int32 → Int32 → zRr → (Int32 × zRr)) (fun _ _ rw33 => (default, rw33)) (fun _ ih => Bk_fewest_33 a1 a2 q ih) n
noncomputable def Gk_fewest_29 (a1 : Int32) (a2 : Int32) (r : zRr) (q : zRq) (w29_s0 : Int32) : Int32 × zRr :=
  Gk_fewest_33 a1 a2 q 22 w29_s0 0 r
noncomputable def Gk_fewest (a1 : Int32) (a2 : Int32) (r : zRr) (q : zRq) : Int32 × zRr :=
  zlet (α := Int32) (r 175 (zn a1)) <| fun v17 => zifn (v17 = (1 : Int32)) (Gk_fewest_29 a1 a2 r q (20 - (r 9 (zn a1)))) (Gk_fewest_29 a1 a2 r q 0)
noncomputable def Gk_need (a1 : Int32) (a2 : Int32) (r : zRr) (q : zRq) : Int32 × zRr :=
  zlet (α := Int32) ((Gk_isPerson a1 r q)) <| fun u1 => zif (u1 = (0 : Int32)) ((((-1) : Int32), r)) (zlet (α := Int32) ((Gk_isTown a2 r q)) <| fun u6 => zif (u6 = (0 : Int32)) ((((-1) : Int32), r)) (zc_vr (Gk_fewest a1 a2 r q) <| fun v12 r13 => (v12, r13)))
noncomputable def Gk_cheapest_56 (w18_4 : Int32) (ih18 : Int32 → Int32 → Int32 → zRr → (Int32 × zRr)) (w56_2 : Int32) (w56_3 : Int32) (rw56 : zRr) : Int32 × zRr :=
  ih18 w56_2 w56_3 (w18_4 + 1) rw56
noncomputable def Bk_cheapest_18 (a1 : Int32) (q : zRq) (ih18 : Int32 → Int32 → Int32 → zRr → (Int32 × zRr)) (w18_2 : Int32) (w18_3 : Int32) (w18_4 : Int32) (rw18 : zRr) : Int32 × zRr :=
  zlet (α := Int32) (rw18 171 9) <| fun v2 => zif (v2 ≤ w18_4) ((w18_2, rw18)) (zc_vr (Gk_fewest a1 w18_4 rw18 q) <| fun v7 r8 => zif (v7 ≤ (0 : Int32)) (Gk_cheapest_56 w18_4 ih18 w18_2 w18_3 r8) (zif (w18_3 ≤ v7) (Gk_cheapest_56 w18_4 ih18 w18_2 w18_3 r8) (Gk_cheapest_56 w18_4 ih18 w18_4 v7 r8)))
noncomputable def Gk_cheapest_18 (a1 : Int32) (q : zRq) (n : Nat) : Int32 → Int32 → Int32 → zRr → (Int32 × zRr) :=
  Nat.rec (motive := fun _ => Int32 → Int32 → Int32 → zRr → (Int32 × zRr)) (fun _ _ _ rw18 => (default, rw18)) (fun _ ih => Bk_cheapest_18 a1 q ih) n
noncomputable def Gk_cheapest (a1 : Int32) (r : zRr) (q : zRq) : Int32 × zRr :=
  zlet (α := Int32) ((Gk_isPerson a1 r q)) <| fun u15 => zifn (u15 = (0 : Int32)) (Gk_cheapest_18 a1 q 7 (-1) 21 0 r) ((((-1) : Int32), r))
noncomputable def Gk_debt (a1 : Int32) (a2 : Int32) (r : zRr) (q : zRq) : Int32 × zRr :=
  zlet (α := Int32) ((Gk_isPerson a1 r q)) <| fun u1 => zif (u1 = (0 : Int32)) ((((-1) : Int32), r)) (zlet (α := Int32) ((Gk_isTown a2 r q)) <| fun u6 => zifn (u6 = (0 : Int32)) (zc_vr (Gk_fewest a1 a2 r q) <| fun v11 r12 => zifn (v11 = ((-1) : Int32)) (zlet (α := Int32) (r12 171 12) <| fun v15 => zlet (α := Int32) (v11 * v15) <| fun v16 => zlet (α := Int32) (r12 10 (zn a1)) <| fun v17 => zlet (α := Int32) (v16 - v17) <| fun v18 => zlet (α := Int32) (if 0 < v18 then v18 else 0) <| fun v19 => (v19, r12)) ((((-1) : Int32), r12))) ((((-1) : Int32), r)))
noncomputable def Gk_meeting_120 (w71_3 : Int32) (rw71 : zRr) (ih71 : Int32 → Int32 → zRr → (Int32 × zRr)) (w120_2 : Int32) : Int32 × zRr :=
  ih71 w120_2 (w71_3 + 1) rw71
noncomputable def Gk_meeting_118 (w71_3 : Int32) (rw71 : zRr) (ih71 : Int32 → Int32 → zRr → (Int32 × zRr)) : Int32 × zRr :=
  Gk_meeting_120 w71_3 rw71 ih71 w71_3
noncomputable def Bk_meeting_71 (a1 : Int32) (ih71 : Int32 → Int32 → zRr → (Int32 × zRr)) (w71_2 : Int32) (w71_3 : Int32) (rw71 : zRr) : Int32 × zRr :=
  zlet (α := Int32) (rw71 171 9) <| fun v2 => zif (v2 ≤ w71_3) (zif (w71_2 = ((-1) : Int32)) ((w71_2, rw71)) (zifn (a1 = (1 : Int32)) (zlet (α := Int32) (rw71 204 (zn w71_2)) <| fun v9 => (v9, rw71)) ((w71_2, rw71)))) (zlet (α := Int32) (rw71 204 (zn w71_3)) <| fun v13 => zif (v13 = ((-1) : Int32)) (Gk_meeting_120 w71_3 rw71 ih71 w71_2) (zif (w71_2 = ((-1) : Int32)) (Gk_meeting_118 w71_3 rw71 ih71 ) (zlet (α := Int32) (rw71 204 (zn w71_2)) <| fun v19 => zif (v19 ≤ v13) (Gk_meeting_120 w71_3 rw71 ih71 w71_2) (Gk_meeting_118 w71_3 rw71 ih71 ))))
noncomputable def Gk_meeting_71 (a1 : Int32) (n : Nat) : Int32 → Int32 → zRr → (Int32 × zRr) :=
  Nat.rec (motive := fun _ => Int32 → Int32 → zRr → (Int32 × zRr)) (fun _ _ rw71 => (default, rw71)) (fun _ ih => Bk_meeting_71 a1 ih) n
noncomputable def Bk_meeting_24 (a1 : Int32) (q : zRq) (ih24 : Int32 → zRr → (Int32 × zRr)) (w24_2 : Int32) (rw24 : zRr) : Int32 × zRr :=
  zlet (α := Int32) (rw24 171 10) <| fun v21 => zif (v21 ≤ w24_2) (Gk_meeting_71 a1 7 (-1) 0 rw24) (zlet (α := Int32) ((Gk_allTowns rw24 q)) <| fun u25 => zlet (α := zRr) ((Gk_findSoonest w24_2 u25 rw24 q)) <| fun u27 => zlet (α := zRr) ((Gk_waitForSoonest u27 q)) <| fun u29 => ih24 (w24_2 + 1) u29)
noncomputable def Gk_meeting_24 (a1 : Int32) (q : zRq) (n : Nat) : Int32 → zRr → (Int32 × zRr) :=
  Nat.rec (motive := fun _ => Int32 → zRr → (Int32 × zRr)) (fun _ rw24 => (default, rw24)) (fun _ ih => Bk_meeting_24 a1 q ih) n
noncomputable def Gk_meeting_11 (a1 : Int32) (r : zRr) (q : zRq) : Int32 × zRr :=
  zlet (α := zRr) (zset r 204 (zfl (r 204) (0 : Int32) 6)) <| fun r32 => Gk_meeting_24 a1 q 7 0 r32
noncomputable def Gk_meeting (a1 : Int32) (r : zRr) (q : zRq) : Int32 × zRr :=
  zif (a1 = (0 : Int32)) (Gk_meeting_11 a1 r q ) (zif (a1 = (1 : Int32)) (Gk_meeting_11 a1 r q ) ((((-1) : Int32), r)))
noncomputable def Gk_speakers (a1 : Int32) (a2 : Int32) (r : zRr) (q : zRq) : Int32 × zRr :=
  zlet (α := Int32) ((Gk_isPerson a1 r q)) <| fun u1 => zif (u1 = (0 : Int32)) ((((-1) : Int32), r)) (zlet (α := Int32) ((Gk_isTown a2 r q)) <| fun u6 => zif (u6 = (0 : Int32)) ((((-1) : Int32), r)) (zlet (α := Int32) (r 175 (zn a1)) <| fun v11 => zif (v11 = (1 : Int32)) (zlet (α := Int32) (r 7 (zn a1)) <| fun v14 => zc_vr (Gk_voicesN v14 a2 r q) <| fun v16 r17 => (v16, r17)) ((((-1) : Int32), r))))
noncomputable def Gk_strict_46 (w7_3 : Int32) (ih7 : Int32 → Int32 → Int32 → zRr → (Int32 × zRr)) (w46_1 : Int32) (w46_2 : Int32) (rw46 : zRr) : Int32 × zRr :=
  ih7 w46_1 w46_2 (w7_3 + 1) rw46
noncomputable def Bk_strict_7 (q : zRq) (ih7 : Int32 → Int32 → Int32 → zRr → (Int32 × zRr)) (w7_1 : Int32) (w7_2 : Int32) (w7_3 : Int32) (rw7 : zRr) : Int32 × zRr :=
  zlet (α := Int32) (rw7 171 9) <| fun v2 => zif (v2 ≤ w7_3) ((w7_1, rw7)) (zc_vr (Gk_letThrough w7_3 rw7 q) <| fun v7 r8 => zlet (α := Int32) ((Gk_bitCount v7)) <| fun u9 => zif (w7_2 ≤ u9) (Gk_strict_46 w7_3 ih7 w7_1 w7_2 r8) (Gk_strict_46 w7_3 ih7 w7_3 u9 r8))
noncomputable def Gk_strict_7 (q : zRq) (n : Nat) : Int32 → Int32 → Int32 → zRr → (Int32 × zRr) :=
  Nat.rec (motive := fun _ => Int32 → Int32 → Int32 → zRr → (Int32 × zRr)) (fun _ _ _ rw7 => (default, rw7)) (fun _ ih => Bk_strict_7 q ih) n
noncomputable def Gk_strict (r : zRr) (q : zRq) : Int32 × zRr :=
  Gk_strict_7 q 7 (-1) 7 0 r
noncomputable def Gk_alike_65 (w33_3 : Int32) (w33_4 : Int32) (ih33 : Int32 → Int32 → Int32 → zRr → (Int32 × zRr)) (w65_1 : Int32) (rw65 : zRr) : Int32 × zRr :=
  ih33 w65_1 w33_3 (w33_4 + 1) rw65
noncomputable def Bk_alike_33 (q : zRq) (w4_2 : Int32) (ih4 : Int32 → Int32 → zRr → (Int32 × zRr)) (ih33 : Int32 → Int32 → Int32 → zRr → (Int32 × zRr)) (w33_1 : Int32) (w33_3 : Int32) (w33_4 : Int32) (rw33 : zRr) : Int32 × zRr :=
  zlet (α := Int32) (rw33 171 9) <| fun v2 => zif (v2 ≤ w33_4) (ih4 w33_1 (w4_2 + 1) rw33) (zc_vr (Gk_letThrough w33_4 rw33 q) <| fun v8 r9 => zifn (v8 = w33_3) (Gk_alike_65 w33_3 w33_4 ih33 w33_1 r9) (Gk_alike_65 w33_3 w33_4 ih33 (w33_1 + 1) r9))
noncomputable def Gk_alike_33 (q : zRq) (w4_2 : Int32) (ih4 : Int32 → Int32 → zRr → (Int32 × zRr)) (n : Nat) : Int32 → Int32 → Int32 → zRr → (Int32 × zRr) :=
  Nat.rec (motive := fun _ => Int32 → Int32 → Int32 → zRr → (Int32 × zRr)) (fun _ _ _ rw33 => (default, rw33)) (fun _ ih => Bk_alike_33 q w4_2 ih4 ih) n
noncomputable def Bk_alike_4 (q : zRq) (ih4 : Int32 → Int32 → zRr → (Int32 × zRr)) (w4_1 : Int32) (w4_2 : Int32) (rw4 : zRr) : Int32 × zRr :=
  zlet (α := Int32) (rw4 171 9) <| fun v11 => zif (v11 ≤ w4_2) ((w4_1, rw4)) (zc_vr (Gk_letThrough w4_2 rw4 q) <| fun v16 r17 => zlet (α := Int32) (w4_2 + 1) <| fun v18 => Gk_alike_33 q w4_2 ih4 6 w4_1 v16 v18 r17)
noncomputable def Gk_alike_4 (q : zRq) (n : Nat) : Int32 → Int32 → zRr → (Int32 × zRr) :=
  Nat.rec (motive := fun _ => Int32 → Int32 → zRr → (Int32 × zRr)) (fun _ _ rw4 => (default, rw4)) (fun _ ih => Bk_alike_4 q ih) n
noncomputable def Gk_alike (r : zRr) (q : zRq) : Int32 × zRr :=
  Gk_alike_4 q 7 0 0 r
noncomputable def Gk_see_53 (q : zRq) (w53_s0 : Int32) (rw53 : zRr) : Int32 × zRr :=
  zlet (α := zRr) ((Gk_add6 w53_s0 rw53 q)) <| fun u1 => ((1 : Int32), u1)
noncomputable def Gk_see (a1 : Int32) (a2 : Int32) (r : zRr) (q : zRq) : Int32 × zRr :=
  zlet (α := Int32) ((Gk_isTown a1 r q)) <| fun u3 => zif (u3 = (0 : Int32)) (((0 : Int32), r)) (zlet (α := Int32) (r 162 1) <| fun v8 => zif (v8 < (8 : Int32)) (zlet (α := Int32) (r 6 5) <| fun v11 => zc_vr (Gk_unreadLet a1 v11 r q) <| fun v13 r14 => zif (a2 = (0 : Int32)) (zlet (α := Int32) (v13 ^^^ (-1)) <| fun v17 => Gk_see_53 q v17 r14) (Gk_see_53 q v13 r14)) (((0 : Int32), r)))
noncomputable def Gk_lengths (a1 : Int32) (r : zRr) (q : zRq) : Int32 :=
  zlet (α := Int32) (r 162 0) <| fun v1 => zif (a1.toInt < 0 ∨ 2 < a1.toInt) (((-1) : Int32)) (zif (a1 = (0 : Int32)) (zlet (α := Int32) ((Gk_bitCount v1)) <| fun u7 => u7) (zif (a1 = (1 : Int32)) (zifn (v1 = (0 : Int32)) (zlet (α := Int32) ((Gk_ntz v1)) <| fun u11 => u11) (((-1) : Int32))) (zif (a1 = (2 : Int32)) (zifn (v1 = (0 : Int32)) (zlet (α := Int32) ((Gk_nlz v1)) <| fun u16 => zlet (α := Int32) (31 - u16) <| fun v18 => v18) (((-1) : Int32))) (default))))
noncomputable def Gk_ask_81 (w21_1 : Int32) (w21_2 : Int32) (w21_5 : Int32) (ih21 : Int32 → Int32 → Int32 → Int32 → Int32 → zRr → (Int32 × zRr)) (w81_3 : Int32) (w81_4 : Int32) (rw81 : zRr) : Int32 × zRr :=
  ih21 w21_1 w21_2 w81_3 w81_4 (w21_5 + 1) rw81
noncomputable def Bk_ask_21 (q : zRq) (ih21 : Int32 → Int32 → Int32 → Int32 → Int32 → zRr → (Int32 × zRr)) (w21_1 : Int32) (w21_2 : Int32) (w21_3 : Int32) (w21_4 : Int32) (w21_5 : Int32) (rw21 : zRr) : Int32 × zRr :=
  zlet (α := Int32) (rw21 171 9) <| fun v2 => zif (v2 ≤ w21_5) ((w21_3, rw21)) (zlet (α := Int32) (rw21 6 5) <| fun v6 => zc_vr (Gk_unreadLet w21_5 v6 rw21 q) <| fun v8 r9 => zlet (α := Int32) (w21_1 &&& v8) <| fun v10 => zlet (α := Int32) ((Gk_bitCount v10)) <| fun u11 => zlet (α := Int32) (w21_2 - u11) <| fun v13 => zlet (α := Int32) (if u11 < v13 then v13 else u11) <| fun v14 => zif (w21_4 ≤ v14) (Gk_ask_81 w21_1 w21_2 w21_5 ih21 w21_3 w21_4 r9) (Gk_ask_81 w21_1 w21_2 w21_5 ih21 w21_5 v14 r9))
noncomputable def Gk_ask_21 (q : zRq) (n : Nat) : Int32 → Int32 → Int32 → Int32 → Int32 → zRr → (Int32 × zRr) :=
  Nat.rec (motive := fun _ => Int32 → Int32 → Int32 → Int32 → Int32 → zRr → (Int32 × zRr)) (fun _ _ _ _ _ rw21 => (default, rw21)) (fun _ ih => Bk_ask_21 q ih) n
noncomputable def Gk_ask (r : zRr) (q : zRq) : Int32 × zRr :=
  zlet (α := Int32) (r 162 0) <| fun v16 => zlet (α := Int32) ((Gk_bitCount v16)) <| fun u17 => Gk_ask_21 q 7 v16 u17 (-1) u17 0 r
noncomputable def Gk_years_189 (w66_9 : Int32) (ih66 : Int64 → Int32 → Int32 → Int32 → zRr → (Int32 × zRr)) (w189_4 : Int64) (w189_6 : Int32) (w189_7 : Int32) (rw189 : zRr) : Int32 × zRr :=
  ih66 w189_4 w189_6 w189_7 (w66_9 + 1) rw189
noncomputable def Gk_years_163 (q : zRq) (w66_9 : Int32) (ih66 : Int64 → Int32 → Int32 → Int32 → zRr → (Int32 × zRr)) (w163_4 : Int64) (w163_6 : Int32) (w163_7 : Int32) (rw163 : zRr) : Int32 × zRr :=
  zlet (α := Int64) ((Gk_nextDraw w163_4)) <| fun u2 => zlet (α := Int32) ((Gk_below20 u2)) <| fun u4 => zifn (u4 = (0 : Int32)) (Gk_years_189 w66_9 ih66 u2 w163_6 w163_7 rw163) (zlet (α := zRr) ((Gk_loseBeardT w66_9 rw163 q)) <| fun u8 => Gk_years_189 w66_9 ih66 u2 w163_6 w163_7 u8)
noncomputable def Bk_years_66 (q : zRq) (w57_8 : Int32) (ih57 : Int64 → Int32 → Int32 → Int32 → zRr → (Int32 × zRr)) (ih66 : Int64 → Int32 → Int32 → Int32 → zRr → (Int32 × zRr)) (w66_4 : Int64) (w66_6 : Int32) (w66_7 : Int32) (w66_9 : Int32) (rw66 : zRr) : Int32 × zRr :=
  zlet (α := Int32) (rw66 171 10) <| fun v10 => zif (v10 ≤ w66_9) (zlet (α := zRr) ((Gk_passWeekT rw66 q)) <| fun u12 => ih57 w66_4 w66_6 w66_7 (w57_8 + 1) u12) (zlet (α := Int64) ((Gk_nextDraw w66_4)) <| fun u17 => zlet (α := Int32) (rw66 171 9) <| fun v19 => zlet (α := Int32) ((Gk_below6 u17 v19)) <| fun u20 => zc_vr (Gk_canGoT w66_9 u20 rw66 q) <| fun v23 r24 => zif (v23 = (0 : Int32)) (zlet (α := Int32) (r24 13 (zn w66_9)) <| fun v27 => zlet (α := Int32) (r24 173 (zn v27)) <| fun v28 => zlet (α := Int32) ((Gk_has v28 u20)) <| fun u29 => zif (u29 = (0 : Int32)) (Gk_years_163 q w66_9 ih66 u17 w66_6 w66_7 r24) (Gk_years_163 q w66_9 ih66 u17 w66_6 (w66_7 + 1) r24)) (zlet (α := zRr) ((Gk_arriveT w66_9 u20 r24 q)) <| fun u35 => Gk_years_163 q w66_9 ih66 u17 (w66_6 + 1) w66_7 u35))
noncomputable def Gk_years_66 (q : zRq) (w57_8 : Int32) (ih57 : Int64 → Int32 → Int32 → Int32 → zRr → (Int32 × zRr)) (n : Nat) : Int64 → Int32 → Int32 → Int32 → zRr → (Int32 × zRr) :=
  Nat.rec (motive := fun _ => Int64 → Int32 → Int32 → Int32 → zRr → (Int32 × zRr)) (fun _ _ _ _ rw66 => (default, rw66)) (fun _ ih => Bk_years_66 q w57_8 ih57 ih) n
noncomputable def Bk_years_57 (a2 : Int32) (a3 : Int32) (q : zRq) (ih57 : Int64 → Int32 → Int32 → Int32 → zRr → (Int32 × zRr)) (w57_4 : Int64) (w57_6 : Int32) (w57_7 : Int32) (w57_8 : Int32) (rw57 : zRr) : Int32 × zRr :=
  zif (a2 ≤ w57_8) (zifn (a3 = (2 : Int32)) (zifn (a3 = (0 : Int32)) ((w57_7, rw57)) ((w57_6, rw57))) (zlet (α := Int32) (rw57 171 10) <| fun v45 => zlet (α := Int32) ((Gk_peopledT v45 rw57 q)) <| fun u46 => (u46, rw57))) (Gk_years_66 q w57_8 ih57 7 w57_4 w57_6 w57_7 0 rw57)
noncomputable def Gk_years_57 (a2 : Int32) (a3 : Int32) (q : zRq) (n : Nat) : Int64 → Int32 → Int32 → Int32 → zRr → (Int32 × zRr) :=
  Nat.rec (motive := fun _ => Int64 → Int32 → Int32 → Int32 → zRr → (Int32 × zRr)) (fun _ _ _ _ rw57 => (default, rw57)) (fun _ ih => Bk_years_57 a2 a3 q ih) n
noncomputable def Gk_years (a1 : Int32) (a2 : Int32) (a3 : Int32) (r : zRr) (q : zRq) : Int32 × zRr :=
  zif (a1 < (0 : Int32)) ((((-1) : Int32), r)) (zif ((9999 : Int32) < a1) ((((-1) : Int32), r)) (zif (a2 < (1 : Int32)) ((((-1) : Int32), r)) (zif ((99 : Int32) < a2) ((((-1) : Int32), r)) (zif (a3 < (0 : Int32)) ((((-1) : Int32), r)) (zif (a3 ≤ (2 : Int32)) (zlet (α := zRr) (kcp8 r 12 6) <| fun r66 => Gk_years_57 a2 a3 q 100 a1.toInt64 0 0 0 r66) ((((-1) : Int32), r)))))))
