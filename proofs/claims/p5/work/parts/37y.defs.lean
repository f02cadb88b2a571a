noncomputable def Bm_bits_4 (a1 : Int32) (ih4 : Int32 → Int32 → Int32) (w4_1 : Int32) (w4_2 : Int32) : Int32 :=
  zif ((6 : Int32) ≤ w4_2) (w4_1) (zlet (α := Int32) (a1 >>> (w4_2 &&& 31)) <| fun v4 => zlet (α := Int32) (v4 &&& 1) <| fun v5 => zlet (α := Int32) (w4_1 + v5) <| fun v6 => ih4 v6 (w4_2 + 1))
noncomputable def Gm_bits_4 (a1 : Int32) (n : Nat) : Int32 → Int32 → Int32 :=
  Nat.rec (motive := fun _ => Int32 → Int32 → Int32) (fun _ _ => default) (fun _ ih => Bm_bits_4 a1 ih) n
noncomputable def Gm_bits (a1 : Int32) : Int32 :=
  Gm_bits_4 a1 7 0 0
noncomputable def Gm_letThrough_39 (w4_2 : Int32) (w4_3 : Int32) (ih4 : Int32 → Int32 → zRr → (Int32 × zRr)) (w39_s0 : Int32) (rw39 : zRr) : Int32 × zRr :=
  zlet (α := Int32) (w4_2 ||| w39_s0) <| fun v1 => ih4 v1 (w4_3 + 1) rw39
noncomputable def Bm_letThrough_4 (a1 : Int32) (q : zRq) (ih4 : Int32 → Int32 → zRr → (Int32 × zRr)) (w4_2 : Int32) (w4_3 : Int32) (rw4 : zRr) : Int32 × zRr :=
  zlet (α := Int32) (rw4 1 1) <| fun v3 => zif (v3 ≤ w4_3) ((w4_2, rw4)) (zlet (α := Int32) (1 + w4_3) <| fun v7 => zlet (α := Int32) (rw4 32 (zn v7)) <| fun v8 => zc_vr (Gm_lets a1 w4_3 v8 rw4 q) <| fun v10 r11 => zif (v10 = (0 : Int32)) (Gm_letThrough_39 w4_2 w4_3 ih4 0 r11) (zlet (α := Int32) (1 <<< (w4_3 &&& 31)) <| fun v15 => Gm_letThrough_39 w4_2 w4_3 ih4 v15 r11))
noncomputable def Gm_letThrough_4 (a1 : Int32) (q : zRq) (n : Nat) : Int32 → Int32 → zRr → (Int32 × zRr) :=
  Nat.rec (motive := fun _ => Int32 → Int32 → zRr → (Int32 × zRr)) (fun _ _ rw4 => (default, rw4)) (fun _ ih => Bm_letThrough_4 a1 q ih) n
noncomputable def Gm_letThrough (a1 : Int32) (r : zRr) (q : zRq) : Int32 × zRr :=
  Gm_letThrough_4 a1 q 7 0 0 r
noncomputable def Gm_town (a1 : Int32) (a2 : Int32) (r : zRr) (q : zRq) : Int32 × zRr :=
  zlet (α := zRr) (zset r 100 (fun _ => (0 : Int32))) <| fun r1 => zlet (α := Int32) ((Gm_isTown a1 r1 q)) <| fun u2 => zif (u2 = (0 : Int32)) ((((-1) : Int32), r1)) (zlet (α := Int32) ((Gm_within a2 (0 : Int32) (2 : Int32))) <| fun u7 => zifn (u7 = (0 : Int32)) (zifn (a2 = (0 : Int32)) (zifn (a2 = (1 : Int32)) (zc_vr (Gm_letThrough a1 r1 q) <| fun v18 r19 => (v18, r19)) (zlet (α := Int32) (r1 5 (zn a1)) <| fun v21 => (v21, r1))) (zlet (α := Int32) (r1 4 (zn a1)) <| fun v23 => (v23, r1))) ((((-1) : Int32), r1)))
noncomputable def Gm_reach (a1 : Int32) (r : zRr) (q : zRq) : Int32 × zRr :=
  zlet (α := zRr) (zset r 100 (fun _ => (0 : Int32))) <| fun r1 => zlet (α := Int32) ((Gm_isPerson a1 r1 q)) <| fun u2 => zif (u2 = (0 : Int32)) ((((-1) : Int32), r1)) (zlet (α := Int32) (1 + a1) <| fun v7 => zlet (α := Int32) (r1 32 (zn v7)) <| fun v8 => zlet (α := Int32) (1 <<< (v8 &&& 31)) <| fun v9 => zc_vr (Gm_reachFrom a1 v9 r1 q) <| fun v11 r12 => (v11, r12))
noncomputable def Bm_farFrom_8 (a1 : Int32) (a3 : Int32) (q : zRq) (ih8 : Int32 → Int32 → zRr → (Int32 × zRr)) (w8_4 : Int32) (w8_5 : Int32) (rw8 : zRr) : Int32 × zRr :=
  zif ((6 : Int32) ≤ w8_5) ((((-1) : Int32), rw8)) (zlet (α := Int32) (w8_4 >>> (a3 &&& 31)) <| fun v4 => zlet (α := Int32) (v4 &&& 1) <| fun v5 => zifn (v5 = (1 : Int32)) (zc_vr (Gm_spreads a1 w8_4 rw8 q) <| fun v9 r10 => ih8 v9 (w8_5 + 1) r10) ((w8_5, rw8)))
noncomputable def Gm_farFrom_8 (a1 : Int32) (a3 : Int32) (q : zRq) (n : Nat) : Int32 → Int32 → zRr → (Int32 × zRr) :=
  Nat.rec (motive := fun _ => Int32 → Int32 → zRr → (Int32 × zRr)) (fun _ _ rw8 => (default, rw8)) (fun _ ih => Bm_farFrom_8 a1 a3 q ih) n
noncomputable def Gm_farFrom (a1 : Int32) (a2 : Int32) (a3 : Int32) (r : zRr) (q : zRq) : Int32 × zRr :=
  zlet (α := Int32) (1 <<< (a2 &&& 31)) <| fun v13 => Gm_farFrom_8 a1 a3 q 7 v13 0 r
noncomputable def Gm_frontiers (a1 : Int32) (a2 : Int32) (r : zRr) (q : zRq) : Int32 × zRr :=
  zlet (α := zRr) (zset r 100 (fun _ => (0 : Int32))) <| fun r1 => zlet (α := Int32) ((Gm_isPerson a1 r1 q)) <| fun u2 => zif (u2 = (0 : Int32)) ((((-1) : Int32), r1)) (zlet (α := Int32) ((Gm_isTown a2 r1 q)) <| fun u7 => zif (u7 = (0 : Int32)) ((((-1) : Int32), r1)) (zlet (α := Int32) (1 + a1) <| fun v12 => zlet (α := Int32) (r1 32 (zn v12)) <| fun v13 => zc_vr (Gm_farFrom a1 v13 a2 r1 q) <| fun v15 r16 => (v15, r16)))
noncomputable def Gm_guide_92 (w59_3 : Int32) (w59_5 : Int32) (ih59 : Int32 → Int32 → Int32 → zRr → (Int32 × zRr)) (w92_4 : Int32) (rw92 : zRr) : Int32 × zRr :=
  ih59 w59_3 w92_4 (w59_5 + (-1)) rw92
noncomputable def Bm_guide_59 (a1 : Int32) (a2 : Int32) (q : zRq) (ih59 : Int32 → Int32 → Int32 → zRr → (Int32 × zRr)) (w59_3 : Int32) (w59_4 : Int32) (w59_5 : Int32) (rw59 : zRr) : Int32 × zRr :=
  zif (w59_5 < (0 : Int32)) ((w59_4, rw59)) (zc_vr (Gm_canGo a1 w59_5 rw59 q) <| fun v6 r7 => zif (v6 = (0 : Int32)) (Gm_guide_92 w59_3 w59_5 ih59 w59_4 r7) (zc_vr (Gm_farFrom a1 w59_5 a2 r7 q) <| fun v12 r13 => zlet (α := Int32) (w59_3 - 1) <| fun v14 => zifn (v12 = v14) (Gm_guide_92 w59_3 w59_5 ih59 w59_4 r13) (Gm_guide_92 w59_3 w59_5 ih59 w59_5 r13)))
noncomputable def Gm_guide_59 (a1 : Int32) (a2 : Int32) (q : zRq) (n : Nat) : Int32 → Int32 → Int32 → zRr → (Int32 × zRr) :=
  Nat.rec (motive := fun _ => Int32 → Int32 → Int32 → zRr → (Int32 × zRr)) (fun _ _ _ rw59 => (default, rw59)) (fun _ ih => Bm_guide_59 a1 a2 q ih) n
noncomputable def Gm_guide (a1 : Int32) (a2 : Int32) (r : zRr) (q : zRq) : Int32 × zRr :=
  zlet (α := zRr) (zset r 100 (fun _ => (0 : Int32))) <| fun r17 => zlet (α := Int32) ((Gm_isPerson a1 r17 q)) <| fun u18 => zif (u18 = (0 : Int32)) ((((-1) : Int32), r17)) (zlet (α := Int32) ((Gm_isTown a2 r17 q)) <| fun u24 => zif (u24 = (0 : Int32)) ((((-1) : Int32), r17)) (zlet (α := Int32) (1 + a1) <| fun v30 => zlet (α := Int32) (r17 32 (zn v30)) <| fun v31 => zc_vr (Gm_farFrom a1 v31 a2 r17 q) <| fun v33 r34 => zif ((0 : Int32) < v33) (zlet (α := Int32) (r34 1 0) <| fun v37 => zlet (α := Int32) (v37 - 1) <| fun v38 => Gm_guide_59 a1 a2 q 7 v33 (-1) v38 r34) ((((-1) : Int32), r34))))
noncomputable def Gm_trapped_73 (w9_1 : Int32) (w9_2 : Int32) (ih9 : Int32 → Int32 → zRr → (Int32 × zRr)) (w73_s0 : Int32) (rw73 : zRr) : Int32 × zRr :=
  zlet (α := Int32) (w9_1 ||| w73_s0) <| fun v1 => ih9 v1 (w9_2 + 1) rw73
noncomputable def Gm_trapped_54 (w24_4 : Int32) (ih24 : Int32 → Int32 → zRr → (Int32 × zRr)) (w54_s0 : Int32) (rw54 : zRr) : Int32 × zRr :=
  ih24 w54_s0 (w24_4 + 1) rw54
noncomputable def Gm_trapped_53 (w24_4 : Int32) (ih24 : Int32 → Int32 → zRr → (Int32 × zRr)) (rw53 : zRr) : Int32 × zRr :=
  Gm_trapped_54 w24_4 ih24 0 rw53
noncomputable def Bm_trapped_24 (q : zRq) (w9_1 : Int32) (w9_2 : Int32) (ih9 : Int32 → Int32 → zRr → (Int32 × zRr)) (ih24 : Int32 → Int32 → zRr → (Int32 × zRr)) (w24_3 : Int32) (w24_4 : Int32) (rw24 : zRr) : Int32 × zRr :=
  zlet (α := Int32) (rw24 1 0) <| fun v4 => zif (v4 ≤ w24_4) (zif (w24_3 = (0 : Int32)) (Gm_trapped_73 w9_1 w9_2 ih9 0 rw24) (zlet (α := Int32) (1 <<< (w9_2 &&& 31)) <| fun v9 => Gm_trapped_73 w9_1 w9_2 ih9 v9 rw24)) (zif (w24_3 = (0 : Int32)) (Gm_trapped_53 w24_4 ih24 rw24) (zc_vr (Gm_canGo w9_2 w24_4 rw24 q) <| fun v16 r17 => zifn (v16 = (0 : Int32)) (Gm_trapped_53 w24_4 ih24 r17) (Gm_trapped_54 w24_4 ih24 1 r17)))
noncomputable def Gm_trapped_24 (q : zRq) (w9_1 : Int32) (w9_2 : Int32) (ih9 : Int32 → Int32 → zRr → (Int32 × zRr)) (n : Nat) : Int32 → Int32 → zRr → (Int32 × zRr) :=
  Nat.rec (motive := fun _ => Int32 → Int32 → zRr → (Int32 × zRr)) (fun _ _ rw24 => (default, rw24)) (fun _ ih => Bm_trapped_24 q w9_1 w9_2 ih9 ih) n
noncomputable def Bm_trapped_9 (q : zRq) (ih9 : Int32 → Int32 → zRr → (Int32 × zRr)) (w9_1 : Int32) (w9_2 : Int32) (rw9 : zRr) : Int32 × zRr :=
  zlet (α := Int32) (rw9 1 1) <| fun v21 => zif (v21 ≤ w9_2) ((w9_1, rw9)) (Gm_trapped_24 q w9_1 w9_2 ih9 7 1 0 rw9)
noncomputable def Gm_trapped_9 (q : zRq) (n : Nat) : Int32 → Int32 → zRr → (Int32 × zRr) :=
  Nat.rec (motive := fun _ => Int32 → Int32 → zRr → (Int32 × zRr)) (fun _ _ rw9 => (default, rw9)) (fun _ ih => Bm_trapped_9 q ih) n
noncomputable def Gm_trapped (r : zRr) (q : zRq) : Int32 × zRr :=
  zlet (α := zRr) (zset r 100 (fun _ => (0 : Int32))) <| fun r25 => Gm_trapped_9 q 7 0 0 r25
noncomputable def Gm_speakers (a1 : Int32) (a2 : Int32) (r : zRr) (q : zRq) : Int32 × zRr :=
  zlet (α := zRr) (zset r 100 (fun _ => (0 : Int32))) <| fun r1 => zlet (α := Int32) ((Gm_isPerson a1 r1 q)) <| fun u2 => zif (u2 = (0 : Int32)) ((((-1) : Int32), r1)) (zlet (α := Int32) ((Gm_isTown a2 r1 q)) <| fun u7 => zif (u7 = (0 : Int32)) ((((-1) : Int32), r1)) (zlet (α := Int32) (r1 6 (zn a1)) <| fun v12 => zifn (v12 = (1 : Int32)) ((((-1) : Int32), r1)) (zlet (α := Int32) (1 + a1) <| fun v15 => zlet (α := Int32) (r1 32 (zn v15)) <| fun v16 => zc_vr (Gm_speakersAt v16 a2 r1 q) <| fun v18 r19 => (v18, r19))))
noncomputable def Gm_strict_44 (w9_2 : Int32) (ih9 : Int32 → Int32 → zRr → (Int32 × zRr)) (w44_1 : Int32) (rw44 : zRr) : Int32 × zRr :=
  ih9 w44_1 (w9_2 + 1) rw44
noncomputable def Gm_strict_42 (w9_2 : Int32) (ih9 : Int32 → Int32 → zRr → (Int32 × zRr)) (rw42 : zRr) : Int32 × zRr :=
  Gm_strict_44 w9_2 ih9 w9_2 rw42
noncomputable def Bm_strict_9 (q : zRq) (ih9 : Int32 → Int32 → zRr → (Int32 × zRr)) (w9_1 : Int32) (w9_2 : Int32) (rw9 : zRr) : Int32 × zRr :=
  zlet (α := Int32) (rw9 1 0) <| fun v2 => zif (v2 ≤ w9_2) ((w9_1, rw9)) (zif (w9_1 < (0 : Int32)) (Gm_strict_42 w9_2 ih9 rw9) (zc_vr (Gm_letThrough w9_2 rw9 q) <| fun v10 r11 => zlet (α := Int32) ((Gm_bits v10)) <| fun u12 => zc_vr (Gm_letThrough w9_1 r11 q) <| fun v15 r16 => zlet (α := Int32) ((Gm_bits v15)) <| fun u17 => zif (u17 ≤ u12) (Gm_strict_44 w9_2 ih9 w9_1 r16) (Gm_strict_42 w9_2 ih9 r16)))
noncomputable def Gm_strict_9 (q : zRq) (n : Nat) : Int32 → Int32 → zRr → (Int32 × zRr) :=
  Nat.rec (motive := fun _ => Int32 → Int32 → zRr → (Int32 × zRr)) (fun _ _ rw9 => (default, rw9)) (fun _ ih => Bm_strict_9 q ih) n
noncomputable def Gm_strict (r : zRr) (q : zRq) : Int32 × zRr :=
  zlet (α := zRr) (zset r 100 (fun _ => (0 : Int32))) <| fun r20 => Gm_strict_9 q 7 (-1) 0 r20
noncomputable def Gm_alike_45 (w21_1 : Int32) (w21_3 : Int32) (ih21 : Int32 → Int32 → zRr → (Int32 × zRr)) (w45_s0 : Int32) (rw45 : zRr) : Int32 × zRr :=
  zlet (α := Int32) (w21_1 + w45_s0) <| fun v1 => ih21 v1 (w21_3 + 1) rw45
noncomputable def Bm_alike_21 (q : zRq) (w9_2 : Int32) (ih9 : Int32 → Int32 → zRr → (Int32 × zRr)) (ih21 : Int32 → Int32 → zRr → (Int32 × zRr)) (w21_1 : Int32) (w21_3 : Int32) (rw21 : zRr) : Int32 × zRr :=
  zif (w9_2 ≤ w21_3) (ih9 w21_1 (w9_2 + 1) rw21) (zc_vr (Gm_letThrough w9_2 rw21 q) <| fun v8 r9 => zc_vr (Gm_letThrough w21_3 r9 q) <| fun v11 r12 => zifn (v8 = v11) (Gm_alike_45 w21_1 w21_3 ih21 0 r12) (Gm_alike_45 w21_1 w21_3 ih21 1 r12))
noncomputable def Gm_alike_21 (q : zRq) (w9_2 : Int32) (ih9 : Int32 → Int32 → zRr → (Int32 × zRr)) (n : Nat) : Int32 → Int32 → zRr → (Int32 × zRr) :=
  Nat.rec (motive := fun _ => Int32 → Int32 → zRr → (Int32 × zRr)) (fun _ _ rw21 => (default, rw21)) (fun _ ih => Bm_alike_21 q w9_2 ih9 ih) n
noncomputable def Bm_alike_9 (q : zRq) (ih9 : Int32 → Int32 → zRr → (Int32 × zRr)) (w9_1 : Int32) (w9_2 : Int32) (rw9 : zRr) : Int32 × zRr :=
  zlet (α := Int32) (rw9 1 0) <| fun v14 => zif (v14 ≤ w9_2) ((w9_1, rw9)) (Gm_alike_21 q w9_2 ih9 6 w9_1 0 rw9)
noncomputable def Gm_alike_9 (q : zRq) (n : Nat) : Int32 → Int32 → zRr → (Int32 × zRr) :=
  Nat.rec (motive := fun _ => Int32 → Int32 → zRr → (Int32 × zRr)) (fun _ _ rw9 => (default, rw9)) (fun _ ih => Bm_alike_9 q ih) n
noncomputable def Gm_alike (r : zRr) (q : zRq) : Int32 × zRr :=
  zlet (α := zRr) (zset r 100 (fun _ => (0 : Int32))) <| fun r18 => Gm_alike_9 q 7 0 0 r18
noncomputable def Bm_isAsSeen_2 (a1 : Int32) (q : zRq) (ih2 : Int32 → zRr → (Int32 × zRr)) (w2_2 : Int32) (rw2 : zRr) : Int32 × zRr :=
  zlet (α := Int32) (rw2 29 0) <| fun v1 => zif (v1 ≤ w2_2) (((1 : Int32), rw2)) (zlet (α := Int32) (rw2 30 (zn w2_2)) <| fun v5 => zlet (α := Int32) (rw2 4 (zn v5)) <| fun v6 => zc_vr (Gm_readsBeard a1 (0 : Int32) v6 rw2 q) <| fun v8 r9 => zlet (α := Int32) (r9 31 (zn w2_2)) <| fun v10 => zif (v8 = v10) (ih2 (w2_2 + 1) r9) (((0 : Int32), r9)))
noncomputable def Gm_isAsSeen_2 (a1 : Int32) (q : zRq) (n : Nat) : Int32 → zRr → (Int32 × zRr) :=
  Nat.rec (motive := fun _ => Int32 → zRr → (Int32 × zRr)) (fun _ rw2 => (default, rw2)) (fun _ ih => Bm_isAsSeen_2 a1 q ih) n
noncomputable def Gm_isAsSeen (a1 : Int32) (r : zRr) (q : zRq) : Int32 × zRr :=
  Gm_isAsSeen_2 a1 q 9 0 r
noncomputable def Gm_lengths_59 (w26_5 : Int32) (ih26 : Int32 → Int32 → Int32 → Int32 → zRr → (Int32 × zRr)) (w59_2 : Int32) (w59_3 : Int32) (w59_4 : Int32) (rw59 : zRr) : Int32 × zRr :=
  ih26 w59_2 w59_3 w59_4 (w26_5 + 1) rw59
noncomputable def Gm_lengths_55 (w26_2 : Int32) (w26_5 : Int32) (ih26 : Int32 → Int32 → Int32 → Int32 → zRr → (Int32 × zRr)) (w55_3 : Int32) (rw55 : zRr) : Int32 × zRr :=
  Gm_lengths_59 w26_5 ih26 (w26_2 + 1) w55_3 w26_5 rw55
noncomputable def Bm_lengths_26 (a1 : Int32) (q : zRq) (ih26 : Int32 → Int32 → Int32 → Int32 → zRr → (Int32 × zRr)) (w26_2 : Int32) (w26_3 : Int32) (w26_4 : Int32) (w26_5 : Int32) (rw26 : zRr) : Int32 × zRr :=
  zif ((31 : Int32) ≤ w26_5) (zifn (a1 = (0 : Int32)) (zifn (a1 = (1 : Int32)) ((w26_4, rw26)) ((w26_3, rw26))) ((w26_2, rw26))) (zc_vr (Gm_isAsSeen w26_5 rw26 q) <| fun v12 r13 => zifn (v12 = (0 : Int32)) (zif ((0 : Int32) ≤ w26_3) (Gm_lengths_55 w26_2 w26_5 ih26 w26_3 r13) (Gm_lengths_55 w26_2 w26_5 ih26 w26_5 r13)) (Gm_lengths_59 w26_5 ih26 w26_2 w26_3 w26_4 r13))
noncomputable def Gm_lengths_26 (a1 : Int32) (q : zRq) (n : Nat) : Int32 → Int32 → Int32 → Int32 → zRr → (Int32 × zRr) :=
  Nat.rec (motive := fun _ => Int32 → Int32 → Int32 → Int32 → zRr → (Int32 × zRr)) (fun _ _ _ _ rw26 => (default, rw26)) (fun _ ih => Bm_lengths_26 a1 q ih) n
noncomputable def Gm_lengths (a1 : Int32) (r : zRr) (q : zRq) : Int32 × zRr :=
  zlet (α := zRr) (zset r 100 (fun _ => (0 : Int32))) <| fun r20 => zlet (α := Int32) ((Gm_within a1 (0 : Int32) (2 : Int32))) <| fun u21 => zifn (u21 = (0 : Int32)) (Gm_lengths_26 a1 q 32 0 (-1) (-1) 0 r20) ((((-1) : Int32), r20))
noncomputable def Gm_ask_110 (w18_1 : Int32) (w18_4 : Int32) (ih18 : Int32 → Int32 → Int32 → Int32 → zRr → (Int32 × zRr)) (w110_2 : Int32) (w110_3 : Int32) (rw110 : zRr) : Int32 × zRr :=
  ih18 w18_1 w110_2 w110_3 (w18_4 + 1) rw110
noncomputable def Gm_ask_75 (w35_5 : Int32) (w35_6 : Int32) (ih35 : Int32 → Int32 → zRr → (Int32 × zRr)) (w75_s0 : Int32) (rw75 : zRr) : Int32 × zRr :=
  zlet (α := Int32) (w35_5 + w75_s0) <| fun v2 => ih35 v2 (w35_6 + 1) rw75
noncomputable def Gm_ask_74 (w35_5 : Int32) (w35_6 : Int32) (ih35 : Int32 → Int32 → zRr → (Int32 × zRr)) (rw74 : zRr) : Int32 × zRr :=
  Gm_ask_75 w35_5 w35_6 ih35 0 rw74
noncomputable def Bm_ask_35 (q : zRq) (w18_1 : Int32) (w18_2 : Int32) (w18_3 : Int32) (w18_4 : Int32) (ih18 : Int32 → Int32 → Int32 → Int32 → zRr → (Int32 × zRr)) (ih35 : Int32 → Int32 → zRr → (Int32 × zRr)) (w35_5 : Int32) (w35_6 : Int32) (rw35 : zRr) : Int32 × zRr :=
  zif ((31 : Int32) ≤ w35_6) (zlet (α := Int32) (w18_1 - w35_5) <| fun v6 => zlet (α := Int32) (if w35_5 < v6 then v6 else w35_5) <| fun v7 => zif (v7 < w18_2) (Gm_ask_110 w18_1 w18_4 ih18 v7 w18_4 rw35) (Gm_ask_110 w18_1 w18_4 ih18 w18_2 w18_3 rw35)) (zc_vr (Gm_isAsSeen w35_6 rw35 q) <| fun v11 r12 => zif (v11 = (0 : Int32)) (Gm_ask_74 w35_5 w35_6 ih35 r12) (zlet (α := Int32) (r12 4 (zn w18_4)) <| fun v16 => zc_vr (Gm_readsBeard w35_6 (0 : Int32) v16 r12 q) <| fun v18 r19 => zif (v18 = (0 : Int32)) (Gm_ask_74 w35_5 w35_6 ih35 r19) (Gm_ask_75 w35_5 w35_6 ih35 1 r19)))
noncomputable def Gm_ask_35 (q : zRq) (w18_1 : Int32) (w18_2 : Int32) (w18_3 : Int32) (w18_4 : Int32) (ih18 : Int32 → Int32 → Int32 → Int32 → zRr → (Int32 × zRr)) (n : Nat) : Int32 → Int32 → zRr → (Int32 × zRr) :=
  Nat.rec (motive := fun _ => Int32 → Int32 → zRr → (Int32 × zRr)) (fun _ _ rw35 => (default, rw35)) (fun _ ih => Bm_ask_35 q w18_1 w18_2 w18_3 w18_4 ih18 ih) n
noncomputable def Bm_ask_18 (q : zRq) (ih18 : Int32 → Int32 → Int32 → Int32 → zRr → (Int32 × zRr)) (w18_1 : Int32) (w18_2 : Int32) (w18_3 : Int32) (w18_4 : Int32) (rw18 : zRr) : Int32 × zRr :=
  zlet (α := Int32) (rw18 1 0) <| fun v23 => zif (v23 ≤ w18_4) ((w18_3, rw18)) (Gm_ask_35 q w18_1 w18_2 w18_3 w18_4 ih18 32 0 0 rw18)
noncomputable def Gm_ask_18 (q : zRq) (n : Nat) : Int32 → Int32 → Int32 → Int32 → zRr → (Int32 × zRr) :=
  Nat.rec (motive := fun _ => Int32 → Int32 → Int32 → Int32 → zRr → (Int32 × zRr)) (fun _ _ _ _ rw18 => (default, rw18)) (fun _ ih => Bm_ask_18 q ih) n
noncomputable def Gm_ask (r : zRr) (q : zRq) : Int32 × zRr :=
  zlet (α := zRr) (zset r 100 (fun _ => (0 : Int32))) <| fun r27 => zc_vr (Gm_lengths (0 : Int32) r27 q) <| fun v29 r30 => Gm_ask_18 q 7 v29 v29 (-1) 0 r30
noncomputable def Gm_count (a1 : Int32) (r : zRr) (q : zRq) : Int32 × zRr :=
  zlet (α := zRr) (zset r 100 (fun _ => (0 : Int32))) <| fun r1 => zlet (α := Int32) ((Gm_within a1 (0 : Int32) (11 : Int32))) <| fun u2 => zifn (u2 = (0 : Int32)) (zif ((4 : Int32) ≤ a1) (zif ((6 : Int32) ≤ a1) (zif ((8 : Int32) ≤ a1) (zif ((10 : Int32) ≤ a1) (zifn (a1 = (10 : Int32)) (zlet (α := Int32) (r1 101 0) <| fun v18 => (v18, r1)) (zlet (α := Int32) (r1 151 0) <| fun v20 => (v20, r1))) (zifn (a1 = (8 : Int32)) (zlet (α := Int32) (r1 29 0) <| fun v24 => (v24, r1)) (zlet (α := Int32) (r1 25 0) <| fun v26 => (v26, r1)))) (zifn (a1 = (6 : Int32)) (zlet (α := Int32) ((Gm_allOf (19 : Int32) r1 q)) <| fun u30 => (u30, r1)) (zlet (α := Int32) ((Gm_allOf (13 : Int32) r1 q)) <| fun u33 => (u33, r1)))) (zifn (a1 = (4 : Int32)) (zlet (α := Int32) ((Gm_peopled r1 q)) <| fun u38 => (u38, r1)) (zlet (α := Int32) (r1 32 0) <| fun v41 => (v41, r1)))) (zlet (α := Int32) (r1 1 (zn a1)) <| fun v43 => (v43, r1))) ((((-1) : Int32), r1))
noncomputable def Gm_feed_114 (w8_7 : Int32) (ih8 : Int32 → zRr → (Int32 × zRr)) (rw114 : zRr) : Int32 × zRr :=
  ih8 (w8_7 + 1) rw114
noncomputable def Gm_feed_93 (w8_7 : Int32) (rw8 : zRr) (ih8 : Int32 → zRr → (Int32 × zRr)) (w93_10 : Int32) : Int32 × zRr :=
  zlet (α := zRr) (zset rw8 0 (upd (rw8 0) (zn (rw8 101 0)) w93_10)) <| fun r2 => zlet (α := Int32) ((r2 101 0) + 1) <| fun v3 => zlet (α := zRr) (zset r2 101 (fun _ => v3)) <| fun r4 => Gm_feed_114 w8_7 ih8 r4
noncomputable def Gm_feed_39 (w8_7 : Int32) (rw8 : zRr) (ih8 : Int32 → zRr → (Int32 × zRr)) (w39_s0 : Int64) : Int32 × zRr :=
  zlet (α := Int32) (w8_7 &&& 7) <| fun v5 => zlet (α := Int32) (8 * v5) <| fun v6 => zlet (α := Int32) (56 - v6) <| fun v7 => zlet (α := Int64) ((w39_s0.toUInt64 >>> (v7.toInt64.toUInt64 &&& Int64.toUInt64 63)).toInt64) <| fun v8 => zlet (α := Int64) (v8 &&& (255 : Int64)) <| fun v9 => zlet (α := Int32) (v9.toInt32) <| fun v10 => zif ((1000 : Int32) ≤ (rw8 101 0)) (Gm_feed_114 w8_7 ih8 rw8) (zif (v10 = (10 : Int32)) (Gm_feed_93 w8_7 rw8 ih8 v10) (zif (v10 < (32 : Int32)) (Gm_feed_114 w8_7 ih8 rw8) (zif ((126 : Int32) < v10) (Gm_feed_114 w8_7 ih8 rw8) (Gm_feed_93 w8_7 rw8 ih8 v10))))
noncomputable def Bm_feed_8 (a1 : Int64) (a2 : Int64) (a3 : Int64) (ih8 : Int32 → zRr → (Int32 × zRr)) (w8_7 : Int32) (rw8 : zRr) : Int32 × zRr :=
  zif ((24 : Int32) ≤ w8_7) ((rw8 101 0, rw8)) (zif ((8 : Int32) ≤ w8_7) (zif ((16 : Int32) ≤ w8_7) (Gm_feed_39 w8_7 rw8 ih8 a3) (Gm_feed_39 w8_7 rw8 ih8 a2)) (Gm_feed_39 w8_7 rw8 ih8 a1))
noncomputable def Gm_feed_8 (a1 : Int64) (a2 : Int64) (a3 : Int64) (n : Nat) : Int32 → zRr → (Int32 × zRr) :=
  Nat.rec (motive := fun _ => Int32 → zRr → (Int32 × zRr)) (fun _ rw8 => (default, rw8)) (fun _ ih => Bm_feed_8 a1 a2 a3 ih) n
noncomputable def Gm_feed (a1 : Int64) (a2 : Int64) (a3 : Int64) (r : zRr) (q : zRq) : Int32 × zRr :=
  zlet (α := zRr) (zset r 100 (fun _ => (0 : Int32))) <| fun r31 => Gm_feed_8 a1 a2 a3 25 0 r31
noncomputable def Gk_bitCount (a0 : Int32) : Int32 :=
  zlet (α := Int32) ((a0.toUInt32 >>> ((1 : Int32).toUInt32 &&& Int32.toUInt32 31)).toInt32) <| fun v1 => zlet (α := Int32) (v1 &&& 1431655765) <| fun v2 => zlet (α := Int32) (a0 - v2) <| fun v3 => zlet (α := Int32) (v3 &&& 858993459) <| fun v4 => zlet (α := Int32) ((v3.toUInt32 >>> ((2 : Int32).toUInt32 &&& Int32.toUInt32 31)).toInt32) <| fun v5 => zlet (α := Int32) (v5 &&& 858993459) <| fun v6 => zlet (α := Int32) (v4 + v6) <| fun v7 => zlet (α := Int32) ((v7.toUInt32 >>> ((4 : Int32).toUInt32 &&& Int32.toUInt32 31)).toInt32) <| fun v8 => zlet (α := Int32) (v7 + v8) <| fun v9 => zlet (α := Int32) (v9 &&& 252645135) <| fun v10 => zlet (α := Int32) ((v10.toUInt32 >>> ((8 : Int32).toUInt32 &&& Int32.toUInt32 31)).toInt32) <| fun v11 => zlet (α := Int32) (v10 + v11) <| fun v12 => zlet (α := Int32) ((v12.toUInt32 >>> ((16 : Int32).toUInt32 &&& Int32.toUInt32 31)).toInt32) <| fun v13 => zlet (α := Int32) (v12 + v13) <| fun v14 => zlet (α := Int32) (v14 &&& 63) <| fun v15 => v15
noncomputable def Gk_ntz_62 (w62_0 : Int32) (w62_1 : Int32) : Int32 :=
  zif (w62_0 ≤ (4 : Int32)) (zlet (α := Int32) ((w62_0.toUInt32 >>> ((1 : Int32).toUInt32 &&& Int32.toUInt32 31)).toInt32) <| fun v3 => zlet (α := Int32) (w62_1 + v3) <| fun v4 => v4) (zlet (α := Int32) ((w62_0.toUInt32 >>> ((2 : Int32).toUInt32 &&& Int32.toUInt32 31)).toInt32) <| fun v7 => zlet (α := Int32) ((v7.toUInt32 >>> ((1 : Int32).toUInt32 &&& Int32.toUInt32 31)).toInt32) <| fun v8 => zlet (α := Int32) ((w62_1 + 2) + v8) <| fun v9 => v9)
noncomputable def Gk_ntz_49 (w49_0 : Int32) (w49_1 : Int32) : Int32 :=
  zif (w49_0 ≤ (16 : Int32)) (Gk_ntz_62 w49_0 w49_1) (zlet (α := Int32) ((w49_0.toUInt32 >>> ((4 : Int32).toUInt32 &&& Int32.toUInt32 31)).toInt32) <| fun v14 => Gk_ntz_62 v14 (w49_1 + 4))
noncomputable def Gk_ntz_34 (w34_0 : Int32) (w34_1 : Int32) : Int32 :=
  zif (w34_0 ≤ (256 : Int32)) (Gk_ntz_49 w34_0 w34_1) (zlet (α := Int32) ((w34_0.toUInt32 >>> ((8 : Int32).toUInt32 &&& Int32.toUInt32 31)).toInt32) <| fun v19 => Gk_ntz_49 v19 (w34_1 + 8))
noncomputable def Gk_ntz (a0 : Int32) : Int32 :=
  zlet (α := Int32) (a0 ^^^ (-1)) <| fun v20 => zlet (α := Int32) (a0 - 1) <| fun v21 => zlet (α := Int32) (v20 &&& v21) <| fun v22 => zif ((0 : Int32) < v22) (zif (v22 ≤ (65536 : Int32)) (Gk_ntz_34 v22 1) (zlet (α := Int32) ((v22.toUInt32 >>> ((16 : Int32).toUInt32 &&& Int32.toUInt32 31)).toInt32) <| fun v28 => Gk_ntz_34 v28 17)) (zlet (α := Int32) (v22 &&& 32) <| fun v30 => v30)
noncomputable def Gk_nlz_61 (w61_0 : Int32) (w61_1 : Int32) : Int32 :=
  zif (w61_0 < (4 : Int32)) (zlet (α := Int32) ((w61_0.toUInt32 >>> ((1 : Int32).toUInt32 &&& Int32.toUInt32 31)).toInt32) <| fun v3 => zlet (α := Int32) (w61_1 - v3) <| fun v4 => v4) (zlet (α := Int32) ((w61_0.toUInt32 >>> ((2 : Int32).toUInt32 &&& Int32.toUInt32 31)).toInt32) <| fun v7 => zlet (α := Int32) ((v7.toUInt32 >>> ((1 : Int32).toUInt32 &&& Int32.toUInt32 31)).toInt32) <| fun v8 => zlet (α := Int32) ((w61_1 + (-2)) - v8) <| fun v9 => v9)
noncomputable def Gk_nlz_48 (w48_0 : Int32) (w48_1 : Int32) : Int32 :=
  zif (w48_0 < (16 : Int32)) (Gk_nlz_61 w48_0 w48_1) (zlet (α := Int32) ((w48_0.toUInt32 >>> ((4 : Int32).toUInt32 &&& Int32.toUInt32 31)).toInt32) <| fun v14 => Gk_nlz_61 v14 (w48_1 + (-4)))
noncomputable def Gk_nlz_33 (w33_0 : Int32) (w33_1 : Int32) : Int32 :=
  zif (w33_0 < (256 : Int32)) (Gk_nlz_48 w33_0 w33_1) (zlet (α := Int32) ((w33_0.toUInt32 >>> ((8 : Int32).toUInt32 &&& Int32.toUInt32 31)).toInt32) <| fun v19 => Gk_nlz_48 v19 (w33_1 + (-8)))
noncomputable def Gk_nlz (a0 : Int32) : Int32 :=
  zif ((0 : Int32) < a0) (zif (a0 < (65536 : Int32)) (Gk_nlz_33 a0 31) (zlet (α := Int32) ((a0.toUInt32 >>> ((16 : Int32).toUInt32 &&& Int32.toUInt32 31)).toInt32) <| fun v25 => Gk_nlz_33 v25 15)) (zifn (a0 = (0 : Int32)) ((0 : Int32)) ((32 : Int32)))
noncomputable def Gk_isStake (a0 : Int32) : Int32 :=
  zif (a0 < (0 : Int32)) ((0 : Int32)) (zif ((9 : Int32) < a0) ((0 : Int32)) ((1 : Int32)))
noncomputable def Gk_nextDraw (a0 : Int64) : Int64 :=
  ((a0 * (1103515245 : Int64)) + (12345 : Int64)) - ((a0 * (1103515245 : Int64)) + (12345 : Int64)) / (2147483648 : Int64) * (2147483648 : Int64)
noncomputable def Gk_below6 (a0 : Int64) (a1 : Int32) : Int32 :=
  zif ((1 : Int32) ≤ a1) (zlet (α := Int32) (((a0 / (65536 : Int64)) - (a0 / (65536 : Int64)) / a1.toInt64 * a1.toInt64).toInt32) <| fun v3 => v3) ((0 : Int32))
noncomputable def Gk_below20 (a0 : Int64) : Int32 :=
  zlet (α := Int64) (a0 / (65536 : Int64)) <| fun v2 => zlet (α := Int64) (v2 - v2 / (20 : Int64) * (20 : Int64)) <| fun v3 => zlet (α := Int32) (v3.toInt32) <| fun v4 => v4
noncomputable def Gk_check3 (a0 : Int32) (a1 : Int32) (a2 : Option Nat) : Int32 :=
  zif (a0 < (0 : Int32)) (default) (zif (a0 < a1) (a0) (default))
noncomputable def Gk_put_82 (w3_3 : Int32) (ih3 : Int32 → zRr → zRr) (rw82 : zRr) : zRr :=
  ih3 (w3_3 + (-8)) rw82
noncomputable def Gk_put_43 (w3_3 : Int32) (rw3 : zRr) (ih3 : Int32 → zRr → zRr) (w43_4 : Int32) (w43_s0 : Int32) : zRr :=
  zif (w43_s0 = (0 : Int32)) (Gk_put_82 w3_3 ih3 rw3) (zif ((1000 : Int32) ≤ (rw3 196 1)) (Gk_put_82 w3_3 ih3 rw3) (zlet (α := Int32) ((w43_4.toUInt32 % 65536).toInt32) <| fun v8 => zlet (α := zRr) (zset rw3 197 (upd (rw3 197) (zn (rw3 196 1)) (vp_nar .char v8))) <| fun r9 => zlet (α := zRr) ((zset r9 196 (upd (r9 196) 1 ((r9 196 1) + 1)))) <| fun r11 => Gk_put_82 w3_3 ih3 r11))
noncomputable def Gk_put_42 (w3_3 : Int32) (rw3 : zRr) (ih3 : Int32 → zRr → zRr) (w42_4 : Int32) : zRr :=
  Gk_put_43 w3_3 rw3 ih3 w42_4 0
noncomputable def Gk_put_38 (w3_3 : Int32) (rw3 : zRr) (ih3 : Int32 → zRr → zRr) (w38_4 : Int32) : zRr :=
  Gk_put_43 w3_3 rw3 ih3 w38_4 1
noncomputable def Bk_put_3 (a1 : Int64) (ih3 : Int32 → zRr → zRr) (w3_3 : Int32) (rw3 : zRr) : zRr :=
  zif (w3_3 < (0 : Int32)) (rw3) (zlet (α := Int64) ((a1.toUInt64 >>> (w3_3.toInt64.toUInt64 &&& Int64.toUInt64 63)).toInt64) <| fun v15 => zlet (α := Int64) (v15 &&& (255 : Int64)) <| fun v16 => zlet (α := Int32) (v16.toInt32) <| fun v17 => zif (v17 = (10 : Int32)) (Gk_put_38 w3_3 rw3 ih3 v17) (zif (v17 < (32 : Int32)) (Gk_put_42 w3_3 rw3 ih3 v17) (zif ((126 : Int32) < v17) (Gk_put_42 w3_3 rw3 ih3 v17) (Gk_put_38 w3_3 rw3 ih3 v17))))
noncomputable def Gk_put_3 (a1 : Int64) (n : Nat) : Int32 → zRr → zRr :=
  Nat.rec (motive := fun _ => Int32 → zRr → zRr) (fun _ rw3 => rw3) (fun _ ih => Bk_put_3 a1 ih) n
noncomputable def Gk_put (a1 : Int64) (r : zRr) (q : zRq) : zRr :=
  Gk_put_3 a1 65 56 r
noncomputable def Gk_personHereD_44 (r : zRr) (q : zRq) (w44_2 : Int32) (w44_s0 : Int32) : Int32 × zRr :=
  zc_vr (Gk_wrong w44_s0 r q) <| fun v2 r3 => (w44_2, r3)
noncomputable def Gk_personHereD_22 (r : zRr) (q : zRq) (w22_s0 : Int32) : Int32 × zRr :=
  zifn (w22_s0 = ((-1) : Int32)) ((w22_s0, r)) (zlet (α := Int32) (r 196 4) <| fun v7 => zifn (v7 = (29 : Int32)) (Gk_personHereD_44 r q w22_s0 1) (Gk_personHereD_44 r q w22_s0 2))
noncomputable def Gk_personHereD (r : zRr) (q : zRq) : Int32 × zRr :=
  zlet (α := Int32) (r 196 4) <| fun v9 => zifn (v9 = (29 : Int32)) (Gk_personHereD_22 r q (-1)) (zlet (α := Int64) (q 196 6) <| fun v11 => zlet (α := Int32) ((Gk_personNamedD v11 r q)) <| fun u12 => Gk_personHereD_22 r q u12)
noncomputable def Gk_allTowns (r : zRr) (q : zRq) : Int32 :=
  zlet (α := Int32) (r 171 9) <| fun v1 => zlet (α := Int32) (1 <<< (v1 &&& 31)) <| fun v2 => zlet (α := Int32) (v2 - 1) <| fun v3 => v3
noncomputable def Bk_mostAsked_4 (r : zRr) (ih4 : Int32 → Int32 → Int32) (w4_1 : Int32) (w4_2 : Int32) : Int32 :=
  zlet (α := Int32) (r 171 9) <| fun v1 => zif (v1 ≤ w4_2) (w4_1) (zlet (α := Int32) (r 172 (zn w4_2)) <| fun v5 => zlet (α := Int32) (if w4_1 < v5 then v5 else w4_1) <| fun v6 => ih4 v6 (w4_2 + 1))
noncomputable def Gk_mostAsked_4 (r : zRr) (n : Nat) : Int32 → Int32 → Int32 :=
  Nat.rec (motive := fun _ => Int32 → Int32 → Int32) (fun _ _ => default) (fun _ ih => Bk_mostAsked_4 r ih) n
noncomputable def Gk_mostAsked (r : zRr) (q : zRq) : Int32 :=
  Gk_mostAsked_4 r 7 0 0
noncomputable def Bk_peopledN_4 (a1 : Int32) (r : zRr) (ih4 : Int32 → Int32 → Int32) (w4_2 : Int32) (w4_3 : Int32) : Int32 :=
  zif (a1 ≤ w4_3) (w4_2) (zlet (α := Int32) (r 7 (zn w4_3)) <| fun v4 => zlet (α := Int32) (1 <<< (v4 &&& 31)) <| fun v5 => zlet (α := Int32) (w4_2 ||| v5) <| fun v6 => ih4 v6 (w4_3 + 1))
noncomputable def Gk_peopledN_4 (a1 : Int32) (r : zRr) (n : Nat) : Int32 → Int32 → Int32 :=
  Nat.rec (motive := fun _ => Int32 → Int32 → Int32) (fun _ _ => default) (fun _ ih => Bk_peopledN_4 a1 r ih) n
noncomputable def Gk_peopledN (a1 : Int32) (r : zRr) (q : zRq) : Int32 :=
  Gk_peopledN_4 a1 r 7 0 0
noncomputable def Bk_begin8T_7 (ih7 : Int32 → zRr → zRr) (w7_2 : Int32) (rw7 : zRr) : zRr :=
  zif ((rw7 171 10) ≤ w7_2) (rw7) (zlet (α := Int32) (rw7 176 (zn w7_2)) <| fun v4 => zlet (α := zRr) (zset rw7 13 (upd (rw7 13) (zn w7_2) v4)) <| fun r5 => zlet (α := Int32) (r5 177 (zn w7_2)) <| fun v6 => zlet (α := zRr) (zset r5 14 (upd (r5 14) (zn w7_2) v6)) <| fun r7 => zlet (α := zRr) (zset r7 15 (upd (r7 15) (zn w7_2) (0 : Int32))) <| fun r8 => zlet (α := Int32) (r8 178 (zn w7_2)) <| fun v9 => zlet (α := zRr) (zset r8 16 (upd (r8 16) (zn w7_2) v9)) <| fun r10 => zlet (α := Int32) (r10 176 (zn w7_2)) <| fun v11 => zlet (α := Int32) (1 <<< (v11 &&& 31)) <| fun v12 => zlet (α := zRr) (zset r10 17 (upd (r10 17) (zn w7_2) v12)) <| fun r13 => ih7 (w7_2 + 1) r13)
noncomputable def Gk_begin8T_7 (n : Nat) : Int32 → zRr → zRr :=
  Nat.rec (motive := fun _ => Int32 → zRr → zRr) (fun _ rw7 => rw7) (fun _ ih => Bk_begin8T_7 ih) n
noncomputable def Gk_begin8T (r : zRr) (q : zRq) : zRr :=
  zlet (α := zRr) ((zset r 12 (upd (r 12) 5 (0 : Int32)))) <| fun r15 => Gk_begin8T_7 7 0 r15
noncomputable def Gk_arriveT (a1 : Int32) (a2 : Int32) (r : zRr) (q : zRq) : zRr :=
  zlet (α := zRr) (zset r 13 (upd (r 13) (zn a1) a2)) <| fun r1 => zlet (α := Int32) (r1 17 (zn a1)) <| fun v2 => zlet (α := Int32) (1 <<< (a2 &&& 31)) <| fun v3 => zlet (α := Int32) (v2 ||| v3) <| fun v4 => zlet (α := zRr) (zset r1 17 (upd (r1 17) (zn a1) v4)) <| fun r5 => r5
noncomputable def Gk_loseBeardT (a1 : Int32) (r : zRr) (q : zRq) : zRr :=
  zlet (α := zRr) (zset r 14 (upd (r 14) (zn a1) (0 : Int32))) <| fun r1 => zlet (α := zRr) (zset r1 15 (upd (r1 15) (zn a1) (0 : Int32))) <| fun r2 => r2
noncomputable def Bk_peopledT_4 (a1 : Int32) (r : zRr) (ih4 : Int32 → Int32 → Int32) (w4_2 : Int32) (w4_3 : Int32) : Int32 :=
  zif (a1 ≤ w4_3) (w4_2) (zlet (α := Int32) (r 13 (zn w4_3)) <| fun v4 => zlet (α := Int32) (1 <<< (v4 &&& 31)) <| fun v5 => zlet (α := Int32) (w4_2 ||| v5) <| fun v6 => ih4 v6 (w4_3 + 1))
noncomputable def Gk_peopledT_4 (a1 : Int32) (r : zRr) (n : Nat) : Int32 → Int32 → Int32 :=
  Nat.rec (motive := fun _ => Int32 → Int32 → Int32) (fun _ _ => default) (fun _ ih => Bk_peopledT_4 a1 r ih) n
noncomputable def Gk_peopledT (a1 : Int32) (r : zRr) (q : zRq) : Int32 :=
  Gk_peopledT_4 a1 r 7 0 0
noncomputable def Gk_passesAloneA_74 (r : zRr) (q : zRq) (w74_s0 : Int32) (w74_s1 : Int32) (w74_s2 : Int32) : Int32 × zRr :=
  zlet (α := Int32) (r 0 5) <| fun v1 => zc_vr (Gk_passes w74_s2 w74_s1 w74_s0 v1 r q) <| fun v3 r4 => (v3, r4)
noncomputable def Gk_passesAloneA (a2 : Int32) (a3 : Int32) (a4 : Int32) (r : zRr) (q : zRq) : Int32 × zRr :=
  zlet (α := Int32) (r 175 (zn a2)) <| fun v5 => zifn (v5 = (2 : Int32)) (zlet (α := Int32) (r 172 (zn a3)) <| fun v7 => zlet (α := Int32) (v7 + a4) <| fun v8 => zlet (α := Int32) (r 3 (zn a2)) <| fun v9 => zlet (α := Int32) (r 2 (zn a2)) <| fun v10 => zlet (α := Int32) (v10 + v9) <| fun v11 => zifn (v5 = (3 : Int32)) (Gk_passesAloneA_74 r q v8 v9 v11) (zlet (α := Int32) (v8 / 2) <| fun v14 => Gk_passesAloneA_74 r q v14 v9 v11)) (((1 : Int32), r))
noncomputable def Gk_opensA_39 (w6_5 : Int32) (ih6 : Int32 → Int32 → zRr → (Int32 × zRr)) (w39_4 : Int32) (rw39 : zRr) : Int32 × zRr :=
  ih6 w39_4 (w6_5 + 1) rw39
noncomputable def Bk_opensA_6 (a2 : Int32) (a3 : Int32) (q : zRq) (ih6 : Int32 → Int32 → zRr → (Int32 × zRr)) (w6_4 : Int32) (w6_5 : Int32) (rw6 : zRr) : Int32 × zRr :=
  zlet (α := Int32) (rw6 171 9) <| fun v2 => zif (v2 ≤ w6_5) ((w6_4, rw6)) (zc_vr (Gk_passesAloneA a2 w6_5 a3 rw6 q) <| fun v7 r8 => zif (v7 = (0 : Int32)) (Gk_opensA_39 w6_5 ih6 w6_4 r8) (zlet (α := Int32) (1 <<< (w6_5 &&& 31)) <| fun v12 => zlet (α := Int32) (w6_4 ||| v12) <| fun v13 => Gk_opensA_39 w6_5 ih6 v13 r8))
noncomputable def Gk_opensA_6 (a2 : Int32) (a3 : Int32) (q : zRq) (n : Nat) : Int32 → Int32 → zRr → (Int32 × zRr) :=
  Nat.rec (motive := fun _ => Int32 → Int32 → zRr → (Int32 × zRr)) (fun _ _ rw6 => (default, rw6)) (fun _ ih => Bk_opensA_6 a2 a3 q ih) n
noncomputable def Gk_opensA (a2 : Int32) (a3 : Int32) (r : zRr) (q : zRq) : Int32 × zRr :=
  Gk_opensA_6 a2 a3 q 7 0 0 r
noncomputable def Gk_passWeekA_63 (w12_2 : Int32) (ih12 : Int32 → zRr → zRr) (rw63 : zRr) : zRr :=
  ih12 (w12_2 + 1) rw63
noncomputable def Bk_passWeekA_12 (ih12 : Int32 → zRr → zRr) (w12_2 : Int32) (rw12 : zRr) : zRr :=
  zlet (α := Int32) (rw12 171 10) <| fun v2 => zif (v2 ≤ w12_2) (rw12) (zlet (α := Int32) (rw12 175 (zn w12_2)) <| fun v6 => zif (v6 = (1 : Int32)) (Gk_passWeekA_63 w12_2 ih12 rw12) (zlet (α := Int32) (rw12 2 (zn w12_2)) <| fun v9 => zlet (α := Int32) (rw12 171 11) <| fun v10 => zlet (α := Int32) (v9 + v10) <| fun v11 => zlet (α := Int32) (if 60 < v11 then 60 else v11) <| fun v12 => zlet (α := zRr) (zset rw12 2 (upd (rw12 2) (zn w12_2) v12)) <| fun r13 => Gk_passWeekA_63 w12_2 ih12 r13))
noncomputable def Gk_passWeekA_12 (n : Nat) : Int32 → zRr → zRr :=
  Nat.rec (motive := fun _ => Int32 → zRr → zRr) (fun _ rw12 => rw12) (fun _ ih => Bk_passWeekA_12 ih) n
noncomputable def Gk_passWeekA (r : zRr) (q : zRq) : zRr :=
  zlet (α := Int32) (r 0 5) <| fun v14 => zlet (α := Int32) (v14 + 1) <| fun v15 => zlet (α := zRr) ((zset r 0 (upd (r 0) 5 v15))) <| fun r16 => Gk_passWeekA_12 7 0 r16
noncomputable def Gk_layA_145 (w78_4 : Int32) (ih78 : Int32 → zRr → zRr) (rw145 : zRr) : zRr :=
  ih78 (w78_4 + 1) rw145
noncomputable def Bk_layA_78 (a3 : Int32) (q : zRq) (ih78 : Int32 → zRr → zRr) (w78_4 : Int32) (rw78 : zRr) : zRr :=
  zlet (α := Int32) (rw78 171 10) <| fun v2 => zif (v2 ≤ w78_4) (rw78) (zlet (α := Int32) (rw78 175 (zn w78_4)) <| fun v6 => zif (v6 = (1 : Int32)) (Gk_layA_145 w78_4 ih78 rw78) (zlet (α := Int32) (rw78 1 (zn w78_4)) <| fun v9 => zlet (α := Int32) (rw78 202 (zn v9)) <| fun v10 => zlet (α := Int32) (rw78 173 (zn v9)) <| fun v11 => zc_vr (Gk_opensA w78_4 a3 rw78 q) <| fun v13 r14 => zlet (α := Int32) (v11 &&& v13) <| fun v15 => zlet (α := Int32) (v10 ||| v15) <| fun v16 => zlet (α := zRr) (zset r14 202 (upd (r14 202) (zn v9) v16)) <| fun r17 => Gk_layA_145 w78_4 ih78 r17))
noncomputable def Gk_layA_78 (a3 : Int32) (q : zRq) (n : Nat) : Int32 → zRr → zRr :=
  Nat.rec (motive := fun _ => Int32 → zRr → zRr) (fun _ rw78 => rw78) (fun _ ih => Bk_layA_78 a3 q ih) n
noncomputable def Bk_layA_36 (ih36 : Int32 → Int32 → zRr → zRr) (w36_4 : Int32) (w36_5 : Int32) (rw36 : zRr) : zRr :=
  zlet (α := Int32) (rw36 171 9) <| fun v18 => zif (v18 ≤ w36_5) (rw36) (zlet (α := Int32) (rw36 173 (zn w36_5)) <| fun v22 => zlet (α := Int32) (v22 &&& w36_4) <| fun v23 => zlet (α := zRr) (zset rw36 202 (upd (rw36 202) (zn w36_5) v23)) <| fun r24 => ih36 w36_4 (w36_5 + 1) r24)
noncomputable def Gk_layA_36 (n : Nat) : Int32 → Int32 → zRr → zRr :=
  Nat.rec (motive := fun _ => Int32 → Int32 → zRr → zRr) (fun _ _ rw36 => rw36) (fun _ ih => Bk_layA_36 ih) n
noncomputable def Gk_layA (a2 : Int32) (a3 : Int32) (r : zRr) (q : zRq) : zRr :=
  zlet (α := zRr) (zset r 202 (zfl (r 202) (0 : Int32) 6)) <| fun r26 => zlet (α := Int32) (r26 175 (zn a2)) <| fun v27 => zif (v27 = (1 : Int32)) (Gk_layA_78 a3 q 7 0 r26) (zc_vr (Gk_opensA a2 a3 r26 q) <| fun v31 r32 => Gk_layA_36 7 v31 0 r32)
noncomputable def Gk_opensN_39 (w6_5 : Int32) (ih6 : Int32 → Int32 → zRr → (Int32 × zRr)) (w39_4 : Int32) (rw39 : zRr) : Int32 × zRr :=
  ih6 w39_4 (w6_5 + 1) rw39
noncomputable def Bk_opensN_6 (a2 : Int32) (a3 : Int32) (q : zRq) (ih6 : Int32 → Int32 → zRr → (Int32 × zRr)) (w6_4 : Int32) (w6_5 : Int32) (rw6 : zRr) : Int32 × zRr :=
  zlet (α := Int32) (rw6 171 9) <| fun v2 => zif (v2 ≤ w6_5) ((w6_4, rw6)) (zc_vr (Gk_passesAloneN a2 w6_5 a3 rw6 q) <| fun v7 r8 => zif (v7 = (0 : Int32)) (Gk_opensN_39 w6_5 ih6 w6_4 r8) (zlet (α := Int32) (1 <<< (w6_5 &&& 31)) <| fun v12 => zlet (α := Int32) (w6_4 ||| v12) <| fun v13 => Gk_opensN_39 w6_5 ih6 v13 r8))
noncomputable def Gk_opensN_6 (a2 : Int32) (a3 : Int32) (q : zRq) (n : Nat) : Int32 → Int32 → zRr → (Int32 × zRr) :=
  Nat.rec (motive := fun _ => Int32 → Int32 → zRr → (Int32 × zRr)) (fun _ _ rw6 => (default, rw6)) (fun _ ih => Bk_opensN_6 a2 a3 q ih) n
noncomputable def Gk_opensN (a2 : Int32) (a3 : Int32) (r : zRr) (q : zRq) : Int32 × zRr :=
  Gk_opensN_6 a2 a3 q 7 0 0 r
noncomputable def Gk_layN_145 (w78_4 : Int32) (ih78 : Int32 → zRr → zRr) (rw145 : zRr) : zRr :=
  ih78 (w78_4 + 1) rw145
noncomputable def Bk_layN_78 (a3 : Int32) (q : zRq) (ih78 : Int32 → zRr → zRr) (w78_4 : Int32) (rw78 : zRr) : zRr :=
  zlet (α := Int32) (rw78 171 10) <| fun v2 => zif (v2 ≤ w78_4) (rw78) (zlet (α := Int32) (rw78 175 (zn w78_4)) <| fun v6 => zif (v6 = (1 : Int32)) (Gk_layN_145 w78_4 ih78 rw78) (zlet (α := Int32) (rw78 7 (zn w78_4)) <| fun v9 => zlet (α := Int32) (rw78 202 (zn v9)) <| fun v10 => zlet (α := Int32) (rw78 173 (zn v9)) <| fun v11 => zc_vr (Gk_opensN w78_4 a3 rw78 q) <| fun v13 r14 => zlet (α := Int32) (v11 &&& v13) <| fun v15 => zlet (α := Int32) (v10 ||| v15) <| fun v16 => zlet (α := zRr) (zset r14 202 (upd (r14 202) (zn v9) v16)) <| fun r17 => Gk_layN_145 w78_4 ih78 r17))
noncomputable def Gk_layN_78 (a3 : Int32) (q : zRq) (n : Nat) : Int32 → zRr → zRr :=
  Nat.rec (motive := fun _ => Int32 → zRr → zRr) (fun _ rw78 => rw78) (fun _ ih => Bk_layN_78 a3 q ih) n
noncomputable def Bk_layN_36 (ih36 : Int32 → Int32 → zRr → zRr) (w36_4 : Int32) (w36_5 : Int32) (rw36 : zRr) : zRr :=
  zlet (α := Int32) (rw36 171 9) <| fun v18 => zif (v18 ≤ w36_5) (rw36) (zlet (α := Int32) (rw36 173 (zn w36_5)) <| fun v22 => zlet (α := Int32) (v22 &&& w36_4) <| fun v23 => zlet (α := zRr) (zset rw36 202 (upd (rw36 202) (zn w36_5) v23)) <| fun r24 => ih36 w36_4 (w36_5 + 1) r24)
noncomputable def Gk_layN_36 (n : Nat) : Int32 → Int32 → zRr → zRr :=
  Nat.rec (motive := fun _ => Int32 → Int32 → zRr → zRr) (fun _ _ rw36 => rw36) (fun _ ih => Bk_layN_36 ih) n
noncomputable def Gk_layN (a2 : Int32) (a3 : Int32) (r : zRr) (q : zRq) : zRr :=
  zlet (α := zRr) (zset r 202 (zfl (r 202) (0 : Int32) 6)) <| fun r26 => zlet (α := Int32) (r26 175 (zn a2)) <| fun v27 => zif (v27 = (1 : Int32)) (Gk_layN_78 a3 q 7 0 r26) (zc_vr (Gk_opensN a2 a3 r26 q) <| fun v31 r32 => Gk_layN_36 7 v31 0 r32)
noncomputable def Gk_passesAloneT_74 (r : zRr) (q : zRq) (w74_s0 : Int32) (w74_s1 : Int32) (w74_s2 : Int32) : Int32 × zRr :=
  zlet (α := Int32) (r 12 5) <| fun v1 => zc_vr (Gk_passes w74_s2 w74_s1 w74_s0 v1 r q) <| fun v3 r4 => (v3, r4)
noncomputable def Gk_passesAloneT (a2 : Int32) (a3 : Int32) (a4 : Int32) (r : zRr) (q : zRq) : Int32 × zRr :=
  zlet (α := Int32) (r 175 (zn a2)) <| fun v5 => zifn (v5 = (2 : Int32)) (zlet (α := Int32) (r 172 (zn a3)) <| fun v7 => zlet (α := Int32) (v7 + a4) <| fun v8 => zlet (α := Int32) (r 15 (zn a2)) <| fun v9 => zlet (α := Int32) (r 14 (zn a2)) <| fun v10 => zlet (α := Int32) (v10 + v9) <| fun v11 => zifn (v5 = (3 : Int32)) (Gk_passesAloneT_74 r q v8 v9 v11) (zlet (α := Int32) (v8 / 2) <| fun v14 => Gk_passesAloneT_74 r q v14 v9 v11)) (((1 : Int32), r))
noncomputable def Gk_opensT_39 (w6_5 : Int32) (ih6 : Int32 → Int32 → zRr → (Int32 × zRr)) (w39_4 : Int32) (rw39 : zRr) : Int32 × zRr :=
  ih6 w39_4 (w6_5 + 1) rw39
noncomputable def Bk_opensT_6 (a2 : Int32) (a3 : Int32) (q : zRq) (ih6 : Int32 → Int32 → zRr → (Int32 × zRr)) (w6_4 : Int32) (w6_5 : Int32) (rw6 : zRr) : Int32 × zRr :=
  zlet (α := Int32) (rw6 171 9) <| fun v2 => zif (v2 ≤ w6_5) ((w6_4, rw6)) (zc_vr (Gk_passesAloneT a2 w6_5 a3 rw6 q) <| fun v7 r8 => zif (v7 = (0 : Int32)) (Gk_opensT_39 w6_5 ih6 w6_4 r8) (zlet (α := Int32) (1 <<< (w6_5 &&& 31)) <| fun v12 => zlet (α := Int32) (w6_4 ||| v12) <| fun v13 => Gk_opensT_39 w6_5 ih6 v13 r8))
noncomputable def Gk_opensT_6 (a2 : Int32) (a3 : Int32) (q : zRq) (n : Nat) : Int32 → Int32 → zRr → (Int32 × zRr) :=
  Nat.rec (motive := fun _ => Int32 → Int32 → zRr → (Int32 × zRr)) (fun _ _ rw6 => (default, rw6)) (fun _ ih => Bk_opensT_6 a2 a3 q ih) n
noncomputable def Gk_opensT (a2 : Int32) (a3 : Int32) (r : zRr) (q : zRq) : Int32 × zRr :=
  Gk_opensT_6 a2 a3 q 7 0 0 r
noncomputable def Gk_passWeekT_63 (w12_2 : Int32) (ih12 : Int32 → zRr → zRr) (rw63 : zRr) : zRr :=
  ih12 (w12_2 + 1) rw63
noncomputable def Bk_passWeekT_12 (ih12 : Int32 → zRr → zRr) (w12_2 : Int32) (rw12 : zRr) : zRr :=
  zlet (α := Int32) (rw12 171 10) <| fun v2 => zif (v2 ≤ w12_2) (rw12) (zlet (α := Int32) (rw12 175 (zn w12_2)) <| fun v6 => zif (v6 = (1 : Int32)) (Gk_passWeekT_63 w12_2 ih12 rw12) (zlet (α := Int32) (rw12 14 (zn w12_2)) <| fun v9 => zlet (α := Int32) (rw12 171 11) <| fun v10 => zlet (α := Int32) (v9 + v10) <| fun v11 => zlet (α := Int32) (if 60 < v11 then 60 else v11) <| fun v12 => zlet (α := zRr) (zset rw12 14 (upd (rw12 14) (zn w12_2) v12)) <| fun r13 => Gk_passWeekT_63 w12_2 ih12 r13))
noncomputable def Gk_passWeekT_12 (n : Nat) : Int32 → zRr → zRr :=
  Nat.rec (motive := fun _ => Int32 → zRr → zRr) (fun _ rw12 => rw12) (fun _ ih => Bk_passWeekT_12 ih) n
noncomputable def Gk_passWeekT (r : zRr) (q : zRq) : zRr :=
  zlet (α := Int32) (r 12 5) <| fun v14 => zlet (α := Int32) (v14 + 1) <| fun v15 => zlet (α := zRr) ((zset r 12 (upd (r 12) 5 v15))) <| fun r16 => Gk_passWeekT_12 7 0 r16
noncomputable def Gk_layT_145 (w78_4 : Int32) (ih78 : Int32 → zRr → zRr) (rw145 : zRr) : zRr :=
  ih78 (w78_4 + 1) rw145
noncomputable def Bk_layT_78 (a3 : Int32) (q : zRq) (ih78 : Int32 → zRr → zRr) (w78_4 : Int32) (rw78 : zRr) : zRr :=
  zlet (α := Int32) (rw78 171 10) <| fun v2 => zif (v2 ≤ w78_4) (rw78) (zlet (α := Int32) (rw78 175 (zn w78_4)) <| fun v6 => zif (v6 = (1 : Int32)) (Gk_layT_145 w78_4 ih78 rw78) (zlet (α := Int32) (rw78 13 (zn w78_4)) <| fun v9 => zlet (α := Int32) (rw78 202 (zn v9)) <| fun v10 => zlet (α := Int32) (rw78 173 (zn v9)) <| fun v11 => zc_vr (Gk_opensT w78_4 a3 rw78 q) <| fun v13 r14 => zlet (α := Int32) (v11 &&& v13) <| fun v15 => zlet (α := Int32) (v10 ||| v15) <| fun v16 => zlet (α := zRr) (zset r14 202 (upd (r14 202) (zn v9) v16)) <| fun r17 => Gk_layT_145 w78_4 ih78 r17))
noncomputable def Gk_layT_78 (a3 : Int32) (q : zRq) (n : Nat) : Int32 → zRr → zRr :=
  Nat.rec (motive := fun _ => Int32 → zRr → zRr) (fun _ rw78 => rw78) (fun _ ih => Bk_layT_78 a3 q ih) n
noncomputable def Bk_layT_36 (ih36 : Int32 → Int32 → zRr → zRr) (w36_4 : Int32) (w36_5 : Int32) (rw36 : zRr) : zRr :=
  zlet (α := Int32) (rw36 171 9) <| fun v18 => zif (v18 ≤ w36_5) (rw36) (zlet (α := Int32) (rw36 173 (zn w36_5)) <| fun v22 => zlet (α := Int32) (v22 &&& w36_4) <| fun v23 => zlet (α := zRr) (zset rw36 202 (upd (rw36 202) (zn w36_5) v23)) <| fun r24 => ih36 w36_4 (w36_5 + 1) r24)
noncomputable def Gk_layT_36 (n : Nat) : Int32 → Int32 → zRr → zRr :=
  Nat.rec (motive := fun _ => Int32 → Int32 → zRr → zRr) (fun _ _ rw36 => rw36) (fun _ ih => Bk_layT_36 ih) n
noncomputable def Gk_layT (a2 : Int32) (a3 : Int32) (r : zRr) (q : zRq) : zRr :=
  zlet (α := zRr) (zset r 202 (zfl (r 202) (0 : Int32) 6)) <| fun r26 => zlet (α := Int32) (r26 175 (zn a2)) <| fun v27 => zif (v27 = (1 : Int32)) (Gk_layT_78 a3 q 7 0 r26) (zc_vr (Gk_opensT a2 a3 r26 q) <| fun v31 r32 => Gk_layT_36 7 v31 0 r32)
noncomputable def Gk_voicesT_64 (w6_5 : Int32) (ih6 : Int32 → Int32 → zRr → (Int32 × zRr)) (w64_4 : Int32) (rw64 : zRr) : Int32 × zRr :=
  ih6 w64_4 (w6_5 + 1) rw64
noncomputable def Bk_voicesT_6 (a2 : Int32) (a3 : Int32) (q : zRq) (ih6 : Int32 → Int32 → zRr → (Int32 × zRr)) (w6_4 : Int32) (w6_5 : Int32) (rw6 : zRr) : Int32 × zRr :=
  zlet (α := Int32) (rw6 171 10) <| fun v2 => zif (v2 ≤ w6_5) ((w6_4, rw6)) (zlet (α := Int32) (rw6 175 (zn w6_5)) <| fun v6 => zif (v6 = (1 : Int32)) (Gk_voicesT_64 w6_5 ih6 w6_4 rw6) (zlet (α := Int32) (rw6 13 (zn w6_5)) <| fun v9 => zifn (v9 = a2) (Gk_voicesT_64 w6_5 ih6 w6_4 rw6) (zc_vr (Gk_passesAloneT w6_5 a3 (0 : Int32) rw6 q) <| fun v13 r14 => zif (v13 = (0 : Int32)) (Gk_voicesT_64 w6_5 ih6 w6_4 r14) (zlet (α := Int32) (1 <<< (w6_5 &&& 31)) <| fun v18 => zlet (α := Int32) (w6_4 ||| v18) <| fun v19 => Gk_voicesT_64 w6_5 ih6 v19 r14))))
noncomputable def Gk_voicesT_6 (a2 : Int32) (a3 : Int32) (q : zRq) (n : Nat) : Int32 → Int32 → zRr → (Int32 × zRr) :=
  Nat.rec (motive := fun _ => Int32 → Int32 → zRr → (Int32 × zRr)) (fun _ _ rw6 => (default, rw6)) (fun _ ih => Bk_voicesT_6 a2 a3 q ih) n
noncomputable def Gk_voicesT (a2 : Int32) (a3 : Int32) (r : zRr) (q : zRq) : Int32 × zRr :=
  Gk_voicesT_6 a2 a3 q 7 0 0 r
noncomputable def Gk_letsT (a2 : Int32) (a3 : Int32) (r : zRr) (q : zRq) : Int32 × zRr :=
  zlet (α := Int32) (r 175 (zn a2)) <| fun v1 => zifn (v1 = (1 : Int32)) (zc_vr (Gk_passesAloneT a2 a3 (0 : Int32) r q) <| fun v4 r5 => (v4, r5)) (zlet (α := Int32) (r 13 (zn a2)) <| fun v7 => zc_vr (Gk_voicesT v7 a3 r q) <| fun v9 r10 => zif (v9 = (0 : Int32)) (((0 : Int32), r10)) (((1 : Int32), r10)))
noncomputable def Gk_canGoT (a2 : Int32) (a3 : Int32) (r : zRr) (q : zRq) : Int32 × zRr :=
  zlet (α := Int32) (r 13 (zn a2)) <| fun v1 => zlet (α := Int32) (r 173 (zn v1)) <| fun v2 => zlet (α := Int32) ((Gk_has v2 a3)) <| fun u3 => zif (u3 = (0 : Int32)) (((0 : Int32), r)) (zc_vr (Gk_letsT a2 a3 r q) <| fun v9 r10 => zif (v9 = (0 : Int32)) (((0 : Int32), r10)) (((1 : Int32), r10)))
noncomputable def Gk_canForgeT (a2 : Int32) (a3 : Int32) (r : zRr) (q : zRq) : Int32 :=
  zif ((r 175 (zn a2)) = (1 : Int32)) ((0 : Int32)) (zif (a3 < (1 : Int32)) ((0 : Int32)) (zif ((20 - (r 15 (zn a2))) < a3) ((0 : Int32)) (zif ((r 16 (zn a2)) < (a3 * (r 171 12))) ((0 : Int32)) ((1 : Int32)))))
noncomputable def Gk_sellT (a2 : Int32) (a3 : Int32) (r : zRr) (q : zRq) : zRr :=
  zlet (α := zRr) (zset r 15 (upd (r 15) (zn a2) ((r 15 (zn a2)) + a3))) <| fun r2 => zlet (α := Int32) (r2 16 (zn a2)) <| fun v3 => zlet (α := Int32) (r2 171 12) <| fun v4 => zlet (α := Int32) (a3 * v4) <| fun v5 => zlet (α := Int32) (v3 - v5) <| fun v6 => zlet (α := zRr) (zset r2 16 (upd (r2 16) (zn a2) v6)) <| fun r7 => r7
noncomputable def Gk_letThrough_35 (w5_4 : Int32) (ih5 : Int32 → Int32 → zRr → (Int32 × zRr)) (w35_3 : Int32) (rw35 : zRr) : Int32 × zRr :=
  ih5 w35_3 (w5_4 + 1) rw35
noncomputable def Bk_letThrough_5 (a2 : Int32) (q : zRq) (ih5 : Int32 → Int32 → zRr → (Int32 × zRr)) (w5_3 : Int32) (w5_4 : Int32) (rw5 : zRr) : Int32 × zRr :=
  zlet (α := Int32) (rw5 171 10) <| fun v2 => zif (v2 ≤ w5_4) ((w5_3, rw5)) (zc_vr (Gk_letsN w5_4 a2 rw5 q) <| fun v7 r8 => zif (v7 = (0 : Int32)) (Gk_letThrough_35 w5_4 ih5 w5_3 r8) (zlet (α := Int32) (1 <<< (w5_4 &&& 31)) <| fun v12 => zlet (α := Int32) (w5_3 ||| v12) <| fun v13 => Gk_letThrough_35 w5_4 ih5 v13 r8))
noncomputable def Gk_letThrough_5 (a2 : Int32) (q : zRq) (n : Nat) : Int32 → Int32 → zRr → (Int32 × zRr) :=
  Nat.rec (motive := fun _ => Int32 → Int32 → zRr → (Int32 × zRr)) (fun _ _ rw5 => (default, rw5)) (fun _ ih => Bk_letThrough_5 a2 q ih) n
noncomputable def Gk_letThrough (a2 : Int32) (r : zRr) (q : zRq) : Int32 × zRr :=
  Gk_letThrough_5 a2 q 7 0 0 r
noncomputable def Gk_widen_32 (w4_3 : Int32) (ih4 : Int32 → Int32 → Int32) (w32_2 : Int32) : Int32 :=
  ih4 w32_2 (w4_3 + 1)
noncomputable def Bk_widen_4 (a1 : Int32) (r : zRr) (ih4 : Int32 → Int32 → Int32) (w4_2 : Int32) (w4_3 : Int32) : Int32 :=
  zlet (α := Int32) (r 171 9) <| fun v2 => zif (v2 ≤ w4_3) (w4_2) (zlet (α := Int32) ((Gk_has a1 w4_3)) <| fun u6 => zif (u6 = (0 : Int32)) (Gk_widen_32 w4_3 ih4 w4_2) (zlet (α := Int32) (r 202 (zn w4_3)) <| fun v11 => zlet (α := Int32) (w4_2 ||| v11) <| fun v12 => Gk_widen_32 w4_3 ih4 v12))
noncomputable def Gk_widen_4 (a1 : Int32) (r : zRr) (n : Nat) : Int32 → Int32 → Int32 :=
  Nat.rec (motive := fun _ => Int32 → Int32 → Int32) (fun _ _ => default) (fun _ ih => Bk_widen_4 a1 r ih) n
noncomputable def Gk_widen (a1 : Int32) (r : zRr) (q : zRq) : Int32 :=
  Gk_widen_4 a1 r 7 a1 0
noncomputable def Bk_spread_4 (r : zRr) (q : zRq) (ih4 : Int32 → Int32 → Int32) (w4_2 : Int32) (w4_3 : Int32) : Int32 :=
  zlet (α := Int32) (r 171 9) <| fun v1 => zif (v1 ≤ w4_3) (w4_2) (zlet (α := Int32) ((Gk_widen w4_2 r q)) <| fun u5 => ih4 u5 (w4_3 + 1))
noncomputable def Gk_spread_4 (r : zRr) (q : zRq) (n : Nat) : Int32 → Int32 → Int32 :=
  Nat.rec (motive := fun _ => Int32 → Int32 → Int32) (fun _ _ => default) (fun _ ih => Bk_spread_4 r q ih) n
noncomputable def Gk_spread (a1 : Int32) (r : zRr) (q : zRq) : Int32 :=
  Gk_spread_4 r q 6 a1 1
noncomputable def Gk_reachOfN (a2 : Int32) (a3 : Int32) (r : zRr) (q : zRq) : Int32 × zRr :=
  zlet (α := zRr) ((Gk_layN a2 a3 r q)) <| fun u1 => zlet (α := Int32) (u1 7 (zn a2)) <| fun v3 => zlet (α := Int32) (1 <<< (v3 &&& 31)) <| fun v4 => zlet (α := Int32) ((Gk_spread v4 u1 q)) <| fun u5 => (u5, u1)
noncomputable def Gk_reachOfT (a2 : Int32) (a3 : Int32) (r : zRr) (q : zRq) : Int32 × zRr :=
  zlet (α := zRr) ((Gk_layT a2 a3 r q)) <| fun u1 => zlet (α := Int32) (u1 13 (zn a2)) <| fun v3 => zlet (α := Int32) (1 <<< (v3 &&& 31)) <| fun v4 => zlet (α := Int32) ((Gk_spread v4 u1 q)) <| fun u5 => (u5, u1)
noncomputable def Bk_distance_7 (a2 : Int32) (r : zRr) (q : zRq) (ih7 : Int32 → Int32 → Int32) (w7_3 : Int32) (w7_4 : Int32) : Int32 :=
  zlet (α := Int32) (r 171 9) <| fun v1 => zif (v1 ≤ w7_4) (((-1) : Int32)) (zlet (α := Int32) ((Gk_has w7_3 a2)) <| fun u5 => zif (u5 = (0 : Int32)) (zlet (α := Int32) ((Gk_widen w7_3 r q)) <| fun u9 => ih7 u9 (w7_4 + 1)) (w7_4))
noncomputable def Gk_distance_7 (a2 : Int32) (r : zRr) (q : zRq) (n : Nat) : Int32 → Int32 → Int32 :=
  Nat.rec (motive := fun _ => Int32 → Int32 → Int32) (fun _ _ => default) (fun _ ih => Bk_distance_7 a2 r q ih) n
noncomputable def Gk_distance (a1 : Int32) (a2 : Int32) (r : zRr) (q : zRq) : Int32 :=
  zlet (α := Int32) (1 <<< (a1 &&& 31)) <| fun v13 => Gk_distance_7 a2 r q 7 v13 0
noncomputable def Gk_firstStep_59 (w17_3 : Int32) (w17_4 : Int32) (ih17 : Int32 → Int32 → Int32) : Int32 :=
  ih17 w17_3 (w17_4 + 1)
noncomputable def Bk_firstStep_17 (a1 : Int32) (a2 : Int32) (r : zRr) (q : zRq) (ih17 : Int32 → Int32 → Int32) (w17_3 : Int32) (w17_4 : Int32) : Int32 :=
  zlet (α := Int32) (r 171 9) <| fun v2 => zif (v2 ≤ w17_4) (((-1) : Int32)) (zlet (α := Int32) (r 202 (zn a1)) <| fun v6 => zlet (α := Int32) ((Gk_has v6 w17_4)) <| fun u7 => zif (u7 = (0 : Int32)) (Gk_firstStep_59 w17_3 w17_4 ih17 ) (zlet (α := Int32) ((Gk_distance w17_4 a2 r q)) <| fun u12 => zlet (α := Int32) (w17_3 - 1) <| fun v14 => zifn (u12 = v14) (Gk_firstStep_59 w17_3 w17_4 ih17 ) (w17_4)))
noncomputable def Gk_firstStep_17 (a1 : Int32) (a2 : Int32) (r : zRr) (q : zRq) (n : Nat) : Int32 → Int32 → Int32 :=
  Nat.rec (motive := fun _ => Int32 → Int32 → Int32) (fun _ _ => default) (fun _ ih => Bk_firstStep_17 a1 a2 r q ih) n
noncomputable def Gk_firstStep (a1 : Int32) (a2 : Int32) (r : zRr) (q : zRq) : Int32 :=
  zlet (α := Int32) ((Gk_distance a1 a2 r q)) <| fun u17 => zif ((1 : Int32) ≤ u17) (Gk_firstStep_17 a1 a2 r q 7 u17 0) (((-1) : Int32))
noncomputable def Gk_linkedTo (a1 : Int32) (r : zRr) (q : zRq) : Int32 × zRr :=
  zlet (α := zRr) (zset r 202 (va_cpy (r 173) (r 202) 0 0 6)) <| fun r1 => zlet (α := Int32) (1 <<< (a1 &&& 31)) <| fun v2 => zlet (α := Int32) ((Gk_spread v2 r1 q)) <| fun u3 => (u3, r1)
noncomputable def Gk_findSoonest_113 (w71_4 : Int32) (w71_7 : Int32) (ih71 : Int32 → Int32 → zRr → zRr) (rw113 : zRr) : zRr :=
  ih71 w71_4 (w71_7 + 1) rw113
noncomputable def Bk_findSoonest_71 (q : zRq) (w43_5 : Int32) (w43_6 : Int32) (ih43 : Int32 → Int32 → Int32 → zRr → zRr) (ih71 : Int32 → Int32 → zRr → zRr) (w71_4 : Int32) (w71_7 : Int32) (rw71 : zRr) : zRr :=
  zlet (α := Int32) (rw71 171 9) <| fun v2 => zif (v2 ≤ w71_7) (zlet (α := Int32) (w71_4 ^^^ (-1)) <| fun v4 => zlet (α := Int32) (w43_5 &&& v4) <| fun v5 => zifn (v5 = (0 : Int32)) (zlet (α := zRr) ((Gk_passWeekA rw71 q)) <| fun u7 => ih43 w71_4 w43_5 (w43_6 + 1) u7) (rw71)) (zlet (α := Int32) (rw71 203 (zn w71_7)) <| fun v13 => zifn (v13 = ((-1) : Int32)) (Gk_findSoonest_113 w71_4 w71_7 ih71 rw71) (zlet (α := Int32) ((Gk_has w71_4 w71_7)) <| fun u16 => zif (u16 = (0 : Int32)) (Gk_findSoonest_113 w71_4 w71_7 ih71 rw71) (zlet (α := zRr) (zset rw71 203 (upd (rw71 203) (zn w71_7) w43_6)) <| fun r21 => Gk_findSoonest_113 w71_4 w71_7 ih71 r21)))
noncomputable def Gk_findSoonest_71 (q : zRq) (w43_5 : Int32) (w43_6 : Int32) (ih43 : Int32 → Int32 → Int32 → zRr → zRr) (n : Nat) : Int32 → Int32 → zRr → zRr :=
  Nat.rec (motive := fun _ => Int32 → Int32 → zRr → zRr) (fun _ _ rw71 => rw71) (fun _ ih => Bk_findSoonest_71 q w43_5 w43_6 ih43 ih) n
noncomputable def Bk_findSoonest_43 (a2 : Int32) (q : zRq) (ih43 : Int32 → Int32 → Int32 → zRr → zRr) (w43_4 : Int32) (w43_5 : Int32) (w43_6 : Int32) (rw43 : zRr) : zRr :=
  zif ((99 : Int32) < w43_6) (rw43) (zlet (α := zRr) ((Gk_layA a2 (0 : Int32) rw43 q)) <| fun u25 => zlet (α := Int32) ((Gk_spread w43_4 u25 q)) <| fun u27 => Gk_findSoonest_71 q w43_5 w43_6 ih43 7 u27 0 u25)
noncomputable def Gk_findSoonest_43 (a2 : Int32) (q : zRq) (n : Nat) : Int32 → Int32 → Int32 → zRr → zRr :=
  Nat.rec (motive := fun _ => Int32 → Int32 → Int32 → zRr → zRr) (fun _ _ _ rw43 => rw43) (fun _ ih => Bk_findSoonest_43 a2 q ih) n
noncomputable def Gk_findSoonest (a2 : Int32) (a3 : Int32) (r : zRr) (q : zRq) : zRr :=
  zlet (α := Int32) (r 7 (zn a2)) <| fun v29 => zlet (α := Int32) (1 <<< (v29 &&& 31)) <| fun v30 => zlet (α := Int32) (r 7 (zn a2)) <| fun v31 => zc_vr (Gk_linkedTo v31 r q) <| fun v33 r34 => zlet (α := Int32) (a3 &&& v33) <| fun v35 => zlet (α := zRr) (zset r34 203 (zfl (r34 203) ((-1) : Int32) 6)) <| fun r36 => zlet (α := zRr) (kcp8 r36 0 6) <| fun r37 => Gk_findSoonest_43 a2 q 101 v30 v35 0 r37
noncomputable def Gk_waitForSoonest_67 (w2_1 : Int32) (rw2 : zRr) (ih2 : Int32 → zRr → zRr) (w67_s0 : Int32) : zRr :=
  zlet (α := zRr) (zset rw2 204 (upd (rw2 204) (zn w2_1) w67_s0)) <| fun r1 => ih2 (w2_1 + 1) r1
noncomputable def Gk_waitForSoonest_38 (w2_1 : Int32) (rw2 : zRr) (ih2 : Int32 → zRr → zRr) (w38_s0 : Int32) : zRr :=
  zif (w38_s0 = (0 : Int32)) (zlet (α := Int32) (rw2 204 (zn w2_1)) <| fun v5 => zlet (α := Int32) (rw2 203 (zn w2_1)) <| fun v6 => zlet (α := Int32) (if v5 < v6 then v6 else v5) <| fun v7 => Gk_waitForSoonest_67 w2_1 rw2 ih2 v7) (Gk_waitForSoonest_67 w2_1 rw2 ih2 (-1))
noncomputable def Gk_waitForSoonest_33 (w2_1 : Int32) (rw2 : zRr) (ih2 : Int32 → zRr → zRr) : zRr :=
  Gk_waitForSoonest_38 w2_1 rw2 ih2 1
noncomputable def Bk_waitForSoonest_2 (ih2 : Int32 → zRr → zRr) (w2_1 : Int32) (rw2 : zRr) : zRr :=
  zlet (α := Int32) (rw2 171 9) <| fun v9 => zif (v9 ≤ w2_1) (rw2) (zlet (α := Int32) (rw2 204 (zn w2_1)) <| fun v13 => zif (v13 = ((-1) : Int32)) (Gk_waitForSoonest_33 w2_1 rw2 ih2 ) (zlet (α := Int32) (rw2 203 (zn w2_1)) <| fun v16 => zifn (v16 = ((-1) : Int32)) (Gk_waitForSoonest_38 w2_1 rw2 ih2 0) (Gk_waitForSoonest_33 w2_1 rw2 ih2 )))
noncomputable def Gk_waitForSoonest_2 (n : Nat) : Int32 → zRr → zRr :=
  Nat.rec (motive := fun _ => Int32 → zRr → zRr) (fun _ rw2 => rw2) (fun _ ih => Bk_waitForSoonest_2 ih) n
noncomputable def Gk_waitForSoonest (r : zRr) (q : zRq) : zRr :=
  Gk_waitForSoonest_2 7 0 r
noncomputable def Gk_wander_105 (w66_3 : Int32) (w66_4 : Int32) (ih66 : Int32 → Int32 → zRr → zRr) (rw105 : zRr) : zRr :=
  ih66 w66_3 (w66_4 + 1) rw105
noncomputable def Bk_wander_66 (a1 : Int32) (ih66 : Int32 → Int32 → zRr → zRr) (w66_3 : Int32) (w66_4 : Int32) (rw66 : zRr) : zRr :=
  zlet (α := Int32) (rw66 171 9) <| fun v2 => zif (v2 ≤ w66_4) (rw66) (zlet (α := Int32) ((Gk_has w66_3 w66_4)) <| fun u6 => zif (u6 = (0 : Int32)) (Gk_wander_105 w66_3 w66_4 ih66 rw66) (zlet (α := Int32) (1 <<< (w66_4 &&& 31)) <| fun v11 => zlet (α := Int32) (a1 ||| v11) <| fun v12 => zlet (α := Int32) (rw66 201 (zn v12)) <| fun v13 => zlet (α := Int32) (1 <<< (w66_4 &&& 31)) <| fun v14 => zlet (α := Int32) (v13 ||| v14) <| fun v15 => zlet (α := zRr) (zset rw66 201 (upd (rw66 201) (zn v12) v15)) <| fun r16 => Gk_wander_105 w66_3 w66_4 ih66 r16))
noncomputable def Gk_wander_66 (a1 : Int32) (n : Nat) : Int32 → Int32 → zRr → zRr :=
  Nat.rec (motive := fun _ => Int32 → Int32 → zRr → zRr) (fun _ _ rw66 => rw66) (fun _ ih => Bk_wander_66 a1 ih) n
noncomputable def Bk_wander_19 (a1 : Int32) (r : zRr) (q : zRq) (ih19 : Int32 → Int32 → zRr) (w19_2 : Int32) (w19_3 : Int32) : zRr :=
  zlet (α := Int32) (r 171 9) <| fun v17 => zif (v17 ≤ w19_3) (zlet (α := zRr) (zset r 201 (upd (r 201) (zn a1) w19_2)) <| fun r19 => zlet (α := Int32) ((Gk_widen w19_2 r19 q)) <| fun u20 => zlet (α := Int32) (a1 ^^^ (-1)) <| fun v22 => zlet (α := Int32) (u20 &&& v22) <| fun v23 => Gk_wander_66 a1 7 v23 0 r19) (zlet (α := Int32) ((Gk_widen w19_2 r q)) <| fun u26 => zlet (α := Int32) (u26 &&& a1) <| fun v28 => zlet (α := Int32) (w19_2 ||| v28) <| fun v29 => ih19 v29 (w19_3 + 1))
noncomputable def Gk_wander_19 (a1 : Int32) (r : zRr) (q : zRq) (n : Nat) : Int32 → Int32 → zRr :=
  Nat.rec (motive := fun _ => Int32 → Int32 → zRr) (fun _ _ => r) (fun _ ih => Bk_wander_19 a1 r q ih) n
noncomputable def Gk_wander (a1 : Int32) (r : zRr) (q : zRq) : zRr :=
  zlet (α := Int32) (r 201 (zn a1)) <| fun v31 => zifn (v31 = (0 : Int32)) (zlet (α := Int32) (r 201 (zn a1)) <| fun v33 => Gk_wander_19 a1 r q 6 v33 1) (r)
noncomputable def Bk_soonestRound_92 (q : zRq) (w71_3 : Int32) (w71_4 : Int32) (w71_5 : Int32) (ih71 : Int32 → Int32 → Int32 → zRr → (Int32 × zRr)) (ih92 : Int32 → zRr → (Int32 × zRr)) (w92_6 : Int32) (rw92 : zRr) : Int32 × zRr :=
  zif (w71_3 < w92_6) (zlet (α := Int32) (rw92 201 (zn w71_3)) <| fun v3 => zif (v3 = (0 : Int32)) (zlet (α := zRr) ((Gk_passWeekA rw92 q)) <| fun u6 => ih71 w71_3 w71_4 (w71_5 + 1) u6) ((w71_5, rw92))) (zlet (α := zRr) ((Gk_wander w92_6 rw92 q)) <| fun u10 => ih92 (w92_6 + 1) u10)
noncomputable def Gk_soonestRound_92 (q : zRq) (w71_3 : Int32) (w71_4 : Int32) (w71_5 : Int32) (ih71 : Int32 → Int32 → Int32 → zRr → (Int32 × zRr)) (n : Nat) : Int32 → zRr → (Int32 × zRr) :=
  Nat.rec (motive := fun _ => Int32 → zRr → (Int32 × zRr)) (fun _ rw92 => (default, rw92)) (fun _ ih => Bk_soonestRound_92 q w71_3 w71_4 w71_5 ih71 ih) n
noncomputable def Bk_soonestRound_71 (a2 : Int32) (q : zRq) (ih71 : Int32 → Int32 → Int32 → zRr → (Int32 × zRr)) (w71_3 : Int32) (w71_4 : Int32) (w71_5 : Int32) (rw71 : zRr) : Int32 × zRr :=
  zif ((99 : Int32) < w71_5) ((((-1) : Int32), rw71)) (zlet (α := zRr) ((Gk_layA a2 (0 : Int32) rw71 q)) <| fun u16 => Gk_soonestRound_92 q w71_3 w71_4 w71_5 ih71 65 w71_4 u16)
noncomputable def Gk_soonestRound_71 (a2 : Int32) (q : zRq) (n : Nat) : Int32 → Int32 → Int32 → zRr → (Int32 × zRr) :=
  Nat.rec (motive := fun _ => Int32 → Int32 → Int32 → zRr → (Int32 × zRr)) (fun _ _ _ rw71 => (default, rw71)) (fun _ ih => Bk_soonestRound_71 a2 q ih) n
noncomputable def Gk_soonestRound (a2 : Int32) (r : zRr) (q : zRq) : Int32 × zRr :=
  zlet (α := Int32) ((Gk_allTowns r q)) <| fun u18 => zlet (α := Int32) (r 11 (zn a2)) <| fun v20 => zlet (α := Int32) (v20 &&& u18) <| fun v21 => zlet (α := Int32) (r 7 (zn a2)) <| fun v22 => zc_vr (Gk_linkedTo v22 r q) <| fun v24 r25 => zlet (α := Int32) (v21 ||| v24) <| fun v26 => zif (v26 = u18) (zlet (α := zRr) (zset r25 201 (zfl (r25 201) (0 : Int32) 64)) <| fun r29 => zlet (α := Int32) (r29 7 (zn a2)) <| fun v30 => zlet (α := Int32) (1 <<< (v30 &&& 31)) <| fun v31 => zlet (α := zRr) (zset r29 201 (upd (r29 201) (zn v21) v31)) <| fun r32 => zlet (α := zRr) (kcp8 r32 0 6) <| fun r33 => Gk_soonestRound_71 a2 q 101 u18 v21 0 r33) ((((-1) : Int32), r25))
noncomputable def Bk_suma_4 (r : zRr) (ih4 : Int32 → Int32 → Int32) (w4_2 : Int32) (w4_3 : Int32) : Int32 :=
  zlet (α := Int32) (r 171 10) <| fun v1 => zif (v1 ≤ w4_3) (w4_2) (zif ((6 : Int32) ≤ w4_3) (default) (zlet (α := Int32) (r 178 (zn w4_3)) <| fun v6 => zlet (α := Int32) (w4_2 + v6) <| fun v7 => ih4 v7 (w4_3 + 1)))
noncomputable def Gk_suma_4 (r : zRr) (n : Nat) : Int32 → Int32 → Int32 :=
  Nat.rec (motive := fun _ => Int32 → Int32 → Int32) (fun _ _ => default) (fun _ ih => Bk_suma_4 r ih) n
noncomputable def Gk_suma (r : zRr) (q : zRq) : Int32 :=
  Gk_suma_4 r 7 0 0
noncomputable def Bk_sumb_4 (r : zRr) (ih4 : Int32 → Int32 → Int32) (w4_2 : Int32) (w4_3 : Int32) : Int32 :=
  zlet (α := Int32) (r 171 10) <| fun v1 => zif (v1 ≤ w4_3) (w4_2) (zif ((6 : Int32) ≤ w4_3) (default) (zlet (α := Int32) (r 9 (zn w4_3)) <| fun v6 => zlet (α := Int32) (w4_2 + v6) <| fun v7 => ih4 v7 (w4_3 + 1)))
noncomputable def Gk_sumb_4 (r : zRr) (n : Nat) : Int32 → Int32 → Int32 :=
  Nat.rec (motive := fun _ => Int32 → Int32 → Int32) (fun _ _ => default) (fun _ ih => Bk_sumb_4 r ih) n
noncomputable def Gk_sumb (r : zRr) (q : zRq) : Int32 :=
  Gk_sumb_4 r 7 0 0
noncomputable def Bk_sumc_4 (r : zRr) (ih4 : Int32 → Int32 → Int32) (w4_2 : Int32) (w4_3 : Int32) : Int32 :=
  zlet (α := Int32) (r 171 10) <| fun v1 => zif (v1 ≤ w4_3) (w4_2) (zif ((6 : Int32) ≤ w4_3) (default) (zlet (α := Int32) (r 10 (zn w4_3)) <| fun v6 => zlet (α := Int32) (w4_2 + v6) <| fun v7 => ih4 v7 (w4_3 + 1)))
noncomputable def Gk_sumc_4 (r : zRr) (n : Nat) : Int32 → Int32 → Int32 :=
  Nat.rec (motive := fun _ => Int32 → Int32 → Int32) (fun _ _ => default) (fun _ ih => Bk_sumc_4 r ih) n
noncomputable def Gk_sumc (r : zRr) (q : zRq) : Int32 :=
  Gk_sumc_4 r 7 0 0
noncomputable def Bk_sumd_4 (r : zRr) (ih4 : Int32 → Int32 → Int32) (w4_2 : Int32) (w4_3 : Int32) : Int32 :=
  zlet (α := Int32) (r 171 10) <| fun v1 => zif (v1 ≤ w4_3) (w4_2) (zif ((6 : Int32) ≤ w4_3) (default) (zlet (α := Int32) (r 16 (zn w4_3)) <| fun v6 => zlet (α := Int32) (w4_2 + v6) <| fun v7 => ih4 v7 (w4_3 + 1)))
noncomputable def Gk_sumd_4 (r : zRr) (n : Nat) : Int32 → Int32 → Int32 :=
  Nat.rec (motive := fun _ => Int32 → Int32 → Int32) (fun _ _ => default) (fun _ ih => Bk_sumd_4 r ih) n
noncomputable def Gk_sumd (r : zRr) (q : zRq) : Int32 :=
  Gk_sumd_4 r 7 0 0
noncomputable def Gk_town (a1 : Int32) (a2 : Int32) (r : zRr) (q : zRq) : Int32 × zRr :=
  zlet (α := Int32) ((Gk_isTown a1 r q)) <| fun u1 => zifn (u1 = (0 : Int32)) (zif (a2.toInt < 0 ∨ 2 < a2.toInt) ((((-1) : Int32), r)) (zif (a2 = (0 : Int32)) (zlet (α := Int32) (r 172 (zn a1)) <| fun v10 => (v10, r)) (zif (a2 = (1 : Int32)) (zlet (α := Int32) (r 173 (zn a1)) <| fun v12 => (v12, r)) (zif (a2 = (2 : Int32)) (zc_vr (Gk_letThrough a1 r q) <| fun v15 r16 => (v15, r16)) (default))))) ((((-1) : Int32), r))
noncomputable def Gk_count (a1 : Int32) (r : zRr) (q : zRq) : Int32 :=
  zif (a1.toInt < 0 ∨ 11 < a1.toInt) (((-1) : Int32)) (zif (a1 = (0 : Int32)) (zlet (α := Int32) (r 171 9) <| fun v6 => v6) (zif (a1 = (1 : Int32)) (zlet (α := Int32) (r 171 10) <| fun v8 => v8) (zif (a1 = (2 : Int32)) (zlet (α := Int32) (r 171 11) <| fun v10 => v10) (zif (a1 = (3 : Int32)) (zlet (α := Int32) (r 171 12) <| fun v12 => v12) (zif (a1 = (4 : Int32)) (zlet (α := Int32) (r 6 5) <| fun v14 => v14) (zif (a1 = (5 : Int32)) (zlet (α := Int32) (r 171 10) <| fun v16 => zlet (α := Int32) ((Gk_peopledN v16 r q)) <| fun u17 => u17) (zif (a1 = (6 : Int32)) (zlet (α := Int32) ((Gk_sumb r q)) <| fun u20 => u20) (zif (a1 = (7 : Int32)) (zlet (α := Int32) ((Gk_sumc r q)) <| fun u23 => u23) (zif (a1 = (8 : Int32)) (zlet (α := Int32) (r 138 3) <| fun v26 => v26) (zif (a1 = (9 : Int32)) (zlet (α := Int32) (r 162 1) <| fun v28 => v28) (zif (a1 = (10 : Int32)) (zlet (α := Int32) (r 195 14) <| fun v30 => v30) (zif (a1 = (11 : Int32)) (zlet (α := Int32) (r 196 1) <| fun v32 => v32) (default)))))))))))))
noncomputable def Gk_goesTo (a1 : Int32) (r : zRr) (q : zRq) : Int32 :=
  zifn ((r 139 (zn a1)) = (0 : Int32)) (((-1) : Int32)) (r 141 (zn a1))
noncomputable def Gk_perform (a1 : Int32) (r : zRr) (q : zRq) : Int32 × zRr :=
  zlet (α := Int32) (r 140 (zn a1)) <| fun v1 => zifn ((r 139 (zn a1)) = (3 : Int32)) (zifn ((r 139 (zn a1)) = (2 : Int32)) (zifn ((r 139 (zn a1)) = (0 : Int32)) (zlet (α := Int32) ((Gk_canForgeT v1 (r 141 (zn a1)) r q)) <| fun u5 => zifn (u5 = (0 : Int32)) (zlet (α := zRr) ((Gk_sellT v1 (r 141 (zn a1)) r q)) <| fun u9 => ((1 : Int32), u9)) (((0 : Int32), r))) (zc_vr (Gk_canGoT v1 (r 141 (zn a1)) r q) <| fun v14 r15 => zifn (v14 = (0 : Int32)) (zlet (α := zRr) ((Gk_arriveT v1 (r 141 (zn a1)) r15 q)) <| fun u18 => ((1 : Int32), u18)) (((0 : Int32), r15)))) (zlet (α := zRr) ((Gk_loseBeardT v1 r q)) <| fun u22 => ((1 : Int32), u22))) (zlet (α := zRr) ((Gk_passWeekT r q)) <| fun u25 => ((1 : Int32), u25))
noncomputable def Gk_judged_117 (w27_4 : Int32) (w27_5 : Int32) (ih27 : Int32 → Int32 → Int32 → Int32 → zRr → (Int32 × zRr)) (w117_2 : Int32) (w117_3 : Int32) (rw117 : zRr) : Int32 × zRr :=
  ih27 w117_2 w117_3 w27_4 (w27_5 + 1) rw117
noncomputable def Gk_judged_70 (w27_3 : Int32) (w27_4 : Int32) (w27_5 : Int32) (ih27 : Int32 → Int32 → Int32 → Int32 → zRr → (Int32 × zRr)) (w70_s0 : Int32) (rw70 : zRr) : Int32 × zRr :=
  Gk_judged_117 w27_4 w27_5 ih27 w70_s0 w27_3 rw70
noncomputable def Bk_judged_27 (a1 : Int32) (q : zRq) (ih27 : Int32 → Int32 → Int32 → Int32 → zRr → (Int32 × zRr)) (w27_2 : Int32) (w27_3 : Int32) (w27_4 : Int32) (w27_5 : Int32) (rw27 : zRr) : Int32 × zRr :=
  zlet (α := Int32) (rw27 138 3) <| fun v2 => zif (v2 ≤ w27_5) (zif (a1.toInt < 0 ∨ 2 < a1.toInt) ((((-2) : Int32), rw27)) (zif (a1 = (0 : Int32)) ((w27_2, rw27)) (zif (a1 = (1 : Int32)) ((w27_3, rw27)) (zif (a1 = (2 : Int32)) (zlet (α := Int32) ((Gk_suma rw27 q)) <| fun u11 => zlet (α := Int32) ((Gk_sumd rw27 q)) <| fun u13 => zlet (α := Int32) (u11 - u13) <| fun v15 => (v15, rw27)) (default))))) (zc_vr (Gk_perform w27_5 rw27 q) <| fun v19 r20 => zifn (v19 = (0 : Int32)) (zifn (w27_3 = ((-1) : Int32)) (Gk_judged_117 w27_4 w27_5 ih27 w27_2 w27_3 r20) (zlet (α := Int32) ((Gk_goesTo w27_5 r20 q)) <| fun u26 => zif (u26 = ((-1) : Int32)) (Gk_judged_117 w27_4 w27_5 ih27 w27_2 w27_3 r20) (zlet (α := Int32) ((Gk_goesTo w27_5 r20 q)) <| fun u31 => zlet (α := Int32) (r20 172 (zn u31)) <| fun v34 => zifn (v34 = w27_4) (Gk_judged_117 w27_4 w27_5 ih27 w27_2 w27_3 r20) (Gk_judged_117 w27_4 w27_5 ih27 w27_2 w27_5 r20)))) (zifn (w27_2 = ((-1) : Int32)) (Gk_judged_70 w27_3 w27_4 w27_5 ih27 w27_2 r20) (Gk_judged_70 w27_3 w27_4 w27_5 ih27 w27_5 r20)))
noncomputable def Gk_judged_27 (a1 : Int32) (q : zRq) (n : Nat) : Int32 → Int32 → Int32 → Int32 → zRr → (Int32 × zRr) :=
  Nat.rec (motive := fun _ => Int32 → Int32 → Int32 → Int32 → zRr → (Int32 × zRr)) (fun _ _ _ _ rw27 => (default, rw27)) (fun _ ih => Bk_judged_27 a1 q ih) n
noncomputable def Gk_judged (a1 : Int32) (r : zRr) (q : zRq) : Int32 × zRr :=
  zlet (α := Int32) ((Gk_mostAsked r q)) <| fun u40 => zlet (α := zRr) ((Gk_begin8T r q)) <| fun u42 => Gk_judged_27 a1 q 41 (-1) (-1) u40 0 u42
noncomputable def Gk_reach (a1 : Int32) (r : zRr) (q : zRq) : Int32 × zRr :=
  zlet (α := Int32) ((Gk_isPerson a1 r q)) <| fun u1 => zif (u1 = (0 : Int32)) ((((-1) : Int32), r)) (zc_vr (Gk_reachOfN a1 (0 : Int32) r q) <| fun v7 r8 => (v7, r8))
noncomputable def Gk_frontiers (a1 : Int32) (a2 : Int32) (r : zRr) (q : zRq) : Int32 × zRr :=
  zlet (α := Int32) ((Gk_isPerson a1 r q)) <| fun u1 => zif (u1 = (0 : Int32)) ((((-1) : Int32), r)) (zlet (α := Int32) ((Gk_isTown a2 r q)) <| fun u6 => zifn (u6 = (0 : Int32)) (zlet (α := zRr) ((Gk_layN a1 (0 : Int32) r q)) <| fun u10 => zlet (α := Int32) (u10 7 (zn a1)) <| fun v12 => zlet (α := Int32) ((Gk_distance v12 a2 u10 q)) <| fun u13 => (u13, u10)) ((((-1) : Int32), r)))
noncomputable def Gk_guide (a1 : Int32) (a2 : Int32) (r : zRr) (q : zRq) : Int32 × zRr :=
  zlet (α := Int32) ((Gk_isPerson a1 r q)) <| fun u1 => zif (u1 = (0 : Int32)) ((((-1) : Int32), r)) (zlet (α := Int32) ((Gk_isTown a2 r q)) <| fun u6 => zifn (u6 = (0 : Int32)) (zlet (α := zRr) ((Gk_layN a1 (0 : Int32) r q)) <| fun u10 => zlet (α := Int32) (u10 7 (zn a1)) <| fun v12 => zlet (α := Int32) ((Gk_firstStep v12 a2 u10 q)) <| fun u13 => (u13, u10)) ((((-1) : Int32), r)))
noncomputable def Gk_when (a1 : Int32) (a2 : Int32) (r : zRr) (q : zRq) : Int32 × zRr :=
  zlet (α := Int32) ((Gk_isPerson a1 r q)) <| fun u1 => zif (u1 = (0 : Int32)) ((((-1) : Int32), r)) (zlet (α := Int32) ((Gk_isTown a2 r q)) <| fun u6 => zifn (u6 = (0 : Int32)) (zlet (α := Int32) (1 <<< (a2 &&& 31)) <| fun v10 => zlet (α := zRr) ((Gk_findSoonest a1 v10 r q)) <| fun u11 => zlet (α := Int32) (u11 203 (zn a2)) <| fun v13 => (v13, u11)) ((((-1) : Int32), r)))
noncomputable def Gk_round (a1 : Int32) (r : zRr) (q : zRq) : Int32 × zRr :=
  zlet (α := Int32) ((Gk_isPerson a1 r q)) <| fun u1 => zif (u1 = (0 : Int32)) ((((-1) : Int32), r)) (zc_vr (Gk_soonestRound a1 r q) <| fun v7 r8 => (v7, r8))
noncomputable def Gk_trapped_54 (w4_2 : Int32) (ih4 : Int32 → Int32 → zRr → (Int32 × zRr)) (w54_1 : Int32) (rw54 : zRr) : Int32 × zRr :=
  ih4 w54_1 (w4_2 + 1) rw54
noncomputable def Bk_trapped_4 (q : zRq) (ih4 : Int32 → Int32 → zRr → (Int32 × zRr)) (w4_1 : Int32) (w4_2 : Int32) (rw4 : zRr) : Int32 × zRr :=
  zlet (α := Int32) (rw4 171 10) <| fun v2 => zif (v2 ≤ w4_2) ((w4_1, rw4)) (zlet (α := zRr) ((Gk_layN w4_2 (0 : Int32) rw4 q)) <| fun u6 => zlet (α := Int32) (u6 7 (zn w4_2)) <| fun v8 => zlet (α := Int32) (u6 202 (zn v8)) <| fun v9 => zifn (v9 = (0 : Int32)) (Gk_trapped_54 w4_2 ih4 w4_1 u6) (zlet (α := Int32) (1 <<< (w4_2 &&& 31)) <| fun v12 => zlet (α := Int32) (w4_1 ||| v12) <| fun v13 => Gk_trapped_54 w4_2 ih4 v13 u6))
noncomputable def Gk_trapped_4 (q : zRq) (n : Nat) : Int32 → Int32 → zRr → (Int32 × zRr) :=
  Nat.rec (motive := fun _ => Int32 → Int32 → zRr → (Int32 × zRr)) (fun _ _ rw4 => (default, rw4)) (fun _ ih => Bk_trapped_4 q ih) n
noncomputable def Gk_trapped (r : zRr) (q : zRq) : Int32 × zRr :=
  Gk_trapped_4 q 7 0 0 r
noncomputable def Gk_shaven (a1 : Int32) (r : zRr) (q : zRq) : Int32 × zRr :=
  zlet (α := Int32) ((Gk_isPerson a1 r q)) <| fun u1 => zifn (u1 = (0 : Int32)) (zlet (α := zRr) (kcp8 r 12 6) <| fun r5 => zlet (α := zRr) ((Gk_loseBeardT a1 r5 q)) <| fun u6 => zc_vr (Gk_reachOfT a1 (0 : Int32) u6 q) <| fun v9 r10 => (v9, r10)) ((((-1) : Int32), r))
noncomputable def Gk_stricter_65 (w25_4 : Int32) (ih25 : Int32 → Int32 → zRr → (Int32 × zRr)) (w65_3 : Int32) (rw65 : zRr) : Int32 × zRr :=
  ih25 w65_3 (w25_4 + 1) rw65
noncomputable def Bk_stricter_25 (a1 : Int32) (a2 : Int32) (q : zRq) (ih25 : Int32 → Int32 → zRr → (Int32 × zRr)) (w25_3 : Int32) (w25_4 : Int32) (rw25 : zRr) : Int32 × zRr :=
  zlet (α := Int32) (rw25 171 10) <| fun v2 => zif (v2 ≤ w25_4) ((w25_3, rw25)) (zc_vr (Gk_reachOfN w25_4 a2 rw25 q) <| fun v7 r8 => zlet (α := Int32) ((Gk_has v7 a1)) <| fun u9 => zif (u9 = (0 : Int32)) (Gk_stricter_65 w25_4 ih25 w25_3 r8) (zlet (α := Int32) (1 <<< (w25_4 &&& 31)) <| fun v14 => zlet (α := Int32) (w25_3 ||| v14) <| fun v15 => Gk_stricter_65 w25_4 ih25 v15 r8))
noncomputable def Gk_stricter_25 (a1 : Int32) (a2 : Int32) (q : zRq) (n : Nat) : Int32 → Int32 → zRr → (Int32 × zRr) :=
  Nat.rec (motive := fun _ => Int32 → Int32 → zRr → (Int32 × zRr)) (fun _ _ rw25 => (default, rw25)) (fun _ ih => Bk_stricter_25 a1 a2 q ih) n
noncomputable def Gk_stricter (a1 : Int32) (a2 : Int32) (r : zRr) (q : zRq) : Int32 × zRr :=
  zlet (α := Int32) ((Gk_isTown a1 r q)) <| fun u16 => zif (u16 = (0 : Int32)) ((((-1) : Int32), r)) (zif (a2 < (0 : Int32)) ((((-1) : Int32), r)) (zif (a2 ≤ (9 : Int32)) (Gk_stricter_25 a1 a2 q 7 0 0 r) ((((-1) : Int32), r))))
noncomputable def Bk_fewest_33 (a1 : Int32) (a2 : Int32) (q : zRq) (ih33 : Int32 → Int32 → zRr → (Int32 × zRr)) (w33_3 : Int32) (w33_4 : Int32) (rw33 : zRr) : Int32 × zRr :=
  zif (w33_3 < w33_4) ((((-1) : Int32), rw33)) (zlet (α := zRr) (kcp8 rw33 12 6) <| fun r4 => zlet (α := zRr) (zset r4 15 (upd (r4 15) (zn a1) ((r4 15 (zn a1)) + w33_4))) <| fun r7 => zc_vr (Gk_reachOfT a1 (0 : Int32) r7 q) <| fun v9 r10 => zlet (α := Int32) ((Gk_has v9 a2)) <| fun u11 => zif (u11 = (0 : Int32)) (ih33 w33_3 (w33_4 + 1) r10) ((w33_4, r10)))
noncomputable def Gk_fewest_33 (a1 : Int32) (a2 : Int32) (q : zRq) (n : Nat) : Int32 → Int32 → zRr → (Int32 × zRr) :=
  Nat.rec (motive := fun _ => Int32 → Int32 → zRr → (Int32 × zRr)) (fun _ _ rw33 => (default, rw33)) (fun _ ih => Bk_fewest_33 a1 a2 q ih) n
noncomputable def Gk_fewest_29 (a1 : Int32) (a2 : Int32) (r : zRr) (q : zRq) (w29_s0 : Int32) : Int32 × zRr :=
  Gk_fewest_33 a1 a2 q 22 w29_s0 0 r
noncomputable def Gk_fewest (a1 : Int32) (a2 : Int32) (r : zRr) (q : zRq) : Int32 × zRr :=
  zlet (α := Int32) (r 175 (zn a1)) <| fun v17 => zifn (v17 = (1 : Int32)) (Gk_fewest_29 a1 a2 r q (20 - (r 9 (zn a1)))) (Gk_fewest_29 a1 a2 r q 0)
noncomputable def Gk_need (a1 : Int32) (a2 : Int32) (r : zRr) (q : zRq) : Int32 × zRr :=
  zlet (α := Int32) ((Gk_isPerson a1 r q)) <| fun u1 => zif (u1 = (0 : Int32)) ((((-1) : Int32), r)) (zlet (α := Int32) ((Gk_isTown a2 r q)) <| fun u6 => zif (u6 = (0 : Int32)) ((((-1) : Int32), r)) (zc_vr (Gk_fewest a1 a2 r q) <| fun v12 r13 => (v12, r13)))
noncomputable def Gk_cheapest_56 (w18_4 : Int32) (ih18 : Int32 → Int32 → Int32 → zRr → (Int32 × zRr)) (w56_2 : Int32) (w56_3 : Int32) (rw56 : zRr) : Int32 × zRr :=
  ih18 w56_2 w56_3 (w18_4 + 1) rw56
noncomputable def Bk_cheapest_18 (a1 : Int32) (q : zRq) (ih18 : Int32 → Int32 → Int32 → zRr → (Int32 × zRr)) (w18_2 : Int32) (w18_3 : Int32) (w18_4 : Int32) (rw18 : zRr) : Int32 × zRr :=
  zlet (α := Int32) (rw18 171 9) <| fun v2 => zif (v2 ≤ w18_4) ((w18_2, rw18)) (zc_vr (Gk_fewest a1 w18_4 rw18 q) <| fun v7 r8 => zif (v7 ≤ (0 : Int32)) (Gk_cheapest_56 w18_4 ih18 w18_2 w18_3 r8) (zif (w18_3 ≤ v7) (Gk_cheapest_56 w18_4 ih18 w18_2 w18_3 r8) (Gk_cheapest_56 w18_4 ih18 w18_4 v7 r8)))
noncomputable def Gk_cheapest_18 (a1 : Int32) (q : zRq) (n : Nat) : Int32 → Int32 → Int32 → zRr → (Int32 × zRr) :=
  Nat.rec (motive := fun _ => Int32 → Int32 → Int32 → zRr → (Int32 × zRr)) (fun _ _ _ rw18 => (default, rw18)) (fun _ ih => Bk_cheapest_18 a1 q ih) n
noncomputable def Gk_cheapest (a1 : Int32) (r : zRr) (q : zRq) : Int32 × zRr :=
  zlet (α := Int32) ((Gk_isPerson a1 r q)) <| fun u15 => zifn (u15 = (0 : Int32)) (Gk_cheapest_18 a1 q 7 (-1) 21 0 r) ((((-1) : Int32), r))
noncomputable def Gk_debt (a1 : Int32) (a2 : Int32) (r : zRr) (q : zRq) : Int32 × zRr :=
  zlet (α := Int32) ((Gk_isPerson a1 r q)) <| fun u1 => zif (u1 = (0 : Int32)) ((((-1) : Int32), r)) (zlet (α := Int32) ((Gk_isTown a2 r q)) <| fun u6 => zifn (u6 = (0 : Int32)) (zc_vr (Gk_fewest a1 a2 r q) <| fun v11 r12 => zifn (v11 = ((-1) : Int32)) (zlet (α := Int32) (r12 171 12) <| fun v15 => zlet (α := Int32) (v11 * v15) <| fun v16 => zlet (α := Int32) (r12 10 (zn a1)) <| fun v17 => zlet (α := Int32) (v16 - v17) <| fun v18 => zlet (α := Int32) (if 0 < v18 then v18 else 0) <| fun v19 => (v19, r12)) ((((-1) : Int32), r12))) ((((-1) : Int32), r)))
noncomputable def Gk_meeting_120 (w71_3 : Int32) (rw71 : zRr) (ih71 : Int32 → Int32 → zRr → (Int32 × zRr)) (w120_2 : Int32) : Int32 × zRr :=
  ih71 w120_2 (w71_3 + 1) rw71
noncomputable def Gk_meeting_118 (w71_3 : Int32) (rw71 : zRr) (ih71 : Int32 → Int32 → zRr → (Int32 × zRr)) : Int32 × zRr :=
  Gk_meeting_120 w71_3 rw71 ih71 w71_3
noncomputable def Bk_meeting_71 (a1 : Int32) (ih71 : Int32 → Int32 → zRr → (Int32 × zRr)) (w71_2 : Int32) (w71_3 : Int32) (rw71 : zRr) : Int32 × zRr :=
  zlet (α := Int32) (rw71 171 9) <| fun v2 => zif (v2 ≤ w71_3) (zif (w71_2 = ((-1) : Int32)) ((w71_2, rw71)) (zifn (a1 = (1 : Int32)) (zlet (α := Int32) (rw71 204 (zn w71_2)) <| fun v9 => (v9, rw71)) ((w71_2, rw71)))) (zlet (α := Int32) (rw71 204 (zn w71_3)) <| fun v13 => zif (v13 = ((-1) : Int32)) (Gk_meeting_120 w71_3 rw71 ih71 w71_2) (zif (w71_2 = ((-1) : Int32)) (Gk_meeting_118 w71_3 rw71 ih71 ) (zlet (α := Int32) (rw71 204 (zn w71_2)) <| fun v19 => zif (v19 ≤ v13) (Gk_meeting_120 w71_3 rw71 ih71 w71_2) (Gk_meeting_118 w71_3 rw71 ih71 ))))
noncomputable def Gk_meeting_71 (a1 : Int32) (n : Nat) : Int32 → Int32 → zRr → (Int32 × zRr) :=
  Nat.rec (motive := fun _ => Int32 → Int32 → zRr → (Int32 × zRr)) (fun _ _ rw71 => (default, rw71)) (fun _ ih => Bk_meeting_71 a1 ih) n
noncomputable def Bk_meeting_24 (a1 : Int32) (q : zRq) (ih24 : Int32 → zRr → (Int32 × zRr)) (w24_2 : Int32) (rw24 : zRr) : Int32 × zRr :=
  zlet (α := Int32) (rw24 171 10) <| fun v21 => zif (v21 ≤ w24_2) (Gk_meeting_71 a1 7 (-1) 0 rw24) (zlet (α := Int32) ((Gk_allTowns rw24 q)) <| fun u25 => zlet (α := zRr) ((Gk_findSoonest w24_2 u25 rw24 q)) <| fun u27 => zlet (α := zRr) ((Gk_waitForSoonest u27 q)) <| fun u29 => ih24 (w24_2 + 1) u29)
noncomputable def Gk_meeting_24 (a1 : Int32) (q : zRq) (n : Nat) : Int32 → zRr → (Int32 × zRr) :=
  Nat.rec (motive := fun _ => Int32 → zRr → (Int32 × zRr)) (fun _ rw24 => (default, rw24)) (fun _ ih => Bk_meeting_24 a1 q ih) n
noncomputable def Gk_meeting_11 (a1 : Int32) (r : zRr) (q : zRq) : Int32 × zRr :=
  zlet (α := zRr) (zset r 204 (zfl (r 204) (0 : Int32) 6)) <| fun r32 => Gk_meeting_24 a1 q 7 0 r32
noncomputable def Gk_meeting (a1 : Int32) (r : zRr) (q : zRq) : Int32 × zRr :=
  zif (a1 = (0 : Int32)) (Gk_meeting_11 a1 r q ) (zif (a1 = (1 : Int32)) (Gk_meeting_11 a1 r q ) ((((-1) : Int32), r)))
noncomputable def Gk_speakers (a1 : Int32) (a2 : Int32) (r : zRr) (q : zRq) : Int32 × zRr :=
  zlet (α := Int32) ((Gk_isPerson a1 r q)) <| fun u1 => zif (u1 = (0 : Int32)) ((((-1) : Int32), r)) (zlet (α := Int32) ((Gk_isTown a2 r q)) <| fun u6 => zif (u6 = (0 : Int32)) ((((-1) : Int32), r)) (zlet (α := Int32) (r 175 (zn a1)) <| fun v11 => zif (v11 = (1 : Int32)) (zlet (α := Int32) (r 7 (zn a1)) <| fun v14 => zc_vr (Gk_voicesN v14 a2 r q) <| fun v16 r17 => (v16, r17)) ((((-1) : Int32), r))))
noncomputable def Gk_strict_46 (w7_3 : Int32) (ih7 : Int32 → Int32 → Int32 → zRr → (Int32 × zRr)) (w46_1 : Int32) (w46_2 : Int32) (rw46 : zRr) : Int32 × zRr :=
  ih7 w46_1 w46_2 (w7_3 + 1) rw46
noncomputable def Bk_strict_7 (q : zRq) (ih7 : Int32 → Int32 → Int32 → zRr → (Int32 × zRr)) (w7_1 : Int32) (w7_2 : Int32) (w7_3 : Int32) (rw7 : zRr) : Int32 × zRr :=
  zlet (α := Int32) (rw7 171 9) <| fun v2 => zif (v2 ≤ w7_3) ((w7_1, rw7)) (zc_vr (Gk_letThrough w7_3 rw7 q) <| fun v7 r8 => zlet (α := Int32) ((Gk_bitCount v7)) <| fun u9 => zif (w7_2 ≤ u9) (Gk_strict_46 w7_3 ih7 w7_1 w7_2 r8) (Gk_strict_46 w7_3 ih7 w7_3 u9 r8))
noncomputable def Gk_strict_7 (q : zRq) (n : Nat) : Int32 → Int32 → Int32 → zRr → (Int32 × zRr) :=
  Nat.rec (motive := fun _ => Int32 → Int32 → Int32 → zRr → (Int32 × zRr)) (fun _ _ _ rw7 => (default, rw7)) (fun _ ih => Bk_strict_7 q ih) n
noncomputable def Gk_strict (r : zRr) (q : zRq) : Int32 × zRr :=
  Gk_strict_7 q 7 (-1) 7 0 r
noncomputable def Gk_alike_65 (w33_3 : Int32) (w33_4 : Int32) (ih33 : Int32 → Int32 → Int32 → zRr → (Int32 × zRr)) (w65_1 : Int32) (rw65 : zRr) : Int32 × zRr :=
  ih33 w65_1 w33_3 (w33_4 + 1) rw65
noncomputable def Bk_alike_33 (q : zRq) (w4_2 : Int32) (ih4 : Int32 → Int32 → zRr → (Int32 × zRr)) (ih33 : Int32 → Int32 → Int32 → zRr → (Int32 × zRr)) (w33_1 : Int32) (w33_3 : Int32) (w33_4 : Int32) (rw33 : zRr) : Int32 × zRr :=
  zlet (α := Int32) (rw33 171 9) <| fun v2 => zif (v2 ≤ w33_4) (ih4 w33_1 (w4_2 + 1) rw33) (zc_vr (Gk_letThrough w33_4 rw33 q) <| fun v8 r9 => zifn (v8 = w33_3) (Gk_alike_65 w33_3 w33_4 ih33 w33_1 r9) (Gk_alike_65 w33_3 w33_4 ih33 (w33_1 + 1) r9))
noncomputable def Gk_alike_33 (q : zRq) (w4_2 : Int32) (ih4 : Int32 → Int32 → zRr → (Int32 × zRr)) (n : Nat) : Int32 → Int32 → Int32 → zRr → (Int32 × zRr) :=
  Nat.rec (motive := fun _ => Int32 → Int32 → Int32 → zRr → (Int32 × zRr)) (fun _ _ _ rw33 => (default, rw33)) (fun _ ih => Bk_alike_33 q w4_2 ih4 ih) n
noncomputable def Bk_alike_4 (q : zRq) (ih4 : Int32 → Int32 → zRr → (Int32 × zRr)) (w4_1 : Int32) (w4_2 : Int32) (rw4 : zRr) : Int32 × zRr :=
  zlet (α := Int32) (rw4 171 9) <| fun v11 => zif (v11 ≤ w4_2) ((w4_1, rw4)) (zc_vr (Gk_letThrough w4_2 rw4 q) <| fun v16 r17 => zlet (α := Int32) (w4_2 + 1) <| fun v18 => Gk_alike_33 q w4_2 ih4 6 w4_1 v16 v18 r17)
noncomputable def Gk_alike_4 (q : zRq) (n : Nat) : Int32 → Int32 → zRr → (Int32 × zRr) :=
  Nat.rec (motive := fun _ => Int32 → Int32 → zRr → (Int32 × zRr)) (fun _ _ rw4 => (default, rw4)) (fun _ ih => Bk_alike_4 q ih) n
noncomputable def Gk_alike (r : zRr) (q : zRq) : Int32 × zRr :=
  Gk_alike_4 q 7 0 0 r
noncomputable def Gk_lengths (a1 : Int32) (r : zRr) (q : zRq) : Int32 :=
  zlet (α := Int32) (r 162 0) <| fun v1 => zif (a1.toInt < 0 ∨ 2 < a1.toInt) (((-1) : Int32)) (zif (a1 = (0 : Int32)) (zlet (α := Int32) ((Gk_bitCount v1)) <| fun u7 => u7) (zif (a1 = (1 : Int32)) (zifn (v1 = (0 : Int32)) (zlet (α := Int32) ((Gk_ntz v1)) <| fun u11 => u11) (((-1) : Int32))) (zif (a1 = (2 : Int32)) (zifn (v1 = (0 : Int32)) (zlet (α := Int32) ((Gk_nlz v1)) <| fun u16 => zlet (α := Int32) (31 - u16) <| fun v18 => v18) (((-1) : Int32))) (default))))
noncomputable def Gk_ask_81 (w21_1 : Int32) (w21_2 : Int32) (w21_5 : Int32) (ih21 : Int32 → Int32 → Int32 → Int32 → Int32 → zRr → (Int32 × zRr)) (w81_3 : Int32) (w81_4 : Int32) (rw81 : zRr) : Int32 × zRr :=
  ih21 w21_1 w21_2 w81_3 w81_4 (w21_5 + 1) rw81
noncomputable def Bk_ask_21 (q : zRq) (ih21 : Int32 → Int32 → Int32 → Int32 → Int32 → zRr → (Int32 × zRr)) (w21_1 : Int32) (w21_2 : Int32) (w21_3 : Int32) (w21_4 : Int32) (w21_5 : Int32) (rw21 : zRr) : Int32 × zRr :=
  zlet (α := Int32) (rw21 171 9) <| fun v2 => zif (v2 ≤ w21_5) ((w21_3, rw21)) (zlet (α := Int32) (rw21 6 5) <| fun v6 => zc_vr (Gk_unreadLet w21_5 v6 rw21 q) <| fun v8 r9 => zlet (α := Int32) (w21_1 &&& v8) <| fun v10 => zlet (α := Int32) ((Gk_bitCount v10)) <| fun u11 => zlet (α := Int32) (w21_2 - u11) <| fun v13 => zlet (α := Int32) (if u11 < v13 then v13 else u11) <| fun v14 => zif (w21_4 ≤ v14) (Gk_ask_81 w21_1 w21_2 w21_5 ih21 w21_3 w21_4 r9) (Gk_ask_81 w21_1 w21_2 w21_5 ih21 w21_5 v14 r9))
noncomputable def Gk_ask_21 (q : zRq) (n : Nat) : Int32 → Int32 → Int32 → Int32 → Int32 → zRr → (Int32 × zRr) :=
  Nat.rec (motive := fun _ => Int32 → Int32 → Int32 → Int32 → Int32 → zRr → (Int32 × zRr)) (fun _ _ _ _ _ rw21 => (default, rw21)) (fun _ ih => Bk_ask_21 q ih) n
noncomputable def Gk_ask (r : zRr) (q : zRq) : Int32 × zRr :=
  zlet (α := Int32) (r 162 0) <| fun v16 => zlet (α := Int32) ((Gk_bitCount v16)) <| fun u17 => Gk_ask_21 q 7 v16 u17 (-1) u17 0 r
noncomputable def Gk_years_189 (w66_9 : Int32) (ih66 : Int64 → Int32 → Int32 → Int32 → zRr → (Int32 × zRr)) (w189_4 : Int64) (w189_6 : Int32) (w189_7 : Int32) (rw189 : zRr) : Int32 × zRr :=
  ih66 w189_4 w189_6 w189_7 (w66_9 + 1) rw189
noncomputable def Gk_years_163 (q : zRq) (w66_9 : Int32) (ih66 : Int64 → Int32 → Int32 → Int32 → zRr → (Int32 × zRr)) (w163_4 : Int64) (w163_6 : Int32) (w163_7 : Int32) (rw163 : zRr) : Int32 × zRr :=
  zlet (α := Int64) ((Gk_nextDraw w163_4)) <| fun u2 => zlet (α := Int32) ((Gk_below20 u2)) <| fun u4 => zifn (u4 = (0 : Int32)) (Gk_years_189 w66_9 ih66 u2 w163_6 w163_7 rw163) (zlet (α := zRr) ((Gk_loseBeardT w66_9 rw163 q)) <| fun u8 => Gk_years_189 w66_9 ih66 u2 w163_6 w163_7 u8)
noncomputable def Bk_years_66 (q : zRq) (w57_8 : Int32) (ih57 : Int64 → Int32 → Int32 → Int32 → zRr → (Int32 × zRr)) (ih66 : Int64 → Int32 → Int32 → Int32 → zRr → (Int32 × zRr)) (w66_4 : Int64) (w66_6 : Int32) (w66_7 : Int32) (w66_9 : Int32) (rw66 : zRr) : Int32 × zRr :=
  zlet (α := Int32) (rw66 171 10) <| fun v10 => zif (v10 ≤ w66_9) (zlet (α := zRr) ((Gk_passWeekT rw66 q)) <| fun u12 => ih57 w66_4 w66_6 w66_7 (w57_8 + 1) u12) (zlet (α := Int64) ((Gk_nextDraw w66_4)) <| fun u17 => zlet (α := Int32) (rw66 171 9) <| fun v19 => zlet (α := Int32) ((Gk_below6 u17 v19)) <| fun u20 => zc_vr (Gk_canGoT w66_9 u20 rw66 q) <| fun v23 r24 => zif (v23 = (0 : Int32)) (zlet (α := Int32) (r24 13 (zn w66_9)) <| fun v27 => zlet (α := Int32) (r24 173 (zn v27)) <| fun v28 => zlet (α := Int32) ((Gk_has v28 u20)) <| fun u29 => zif (u29 = (0 : Int32)) (Gk_years_163 q w66_9 ih66 u17 w66_6 w66_7 r24) (Gk_years_163 q w66_9 ih66 u17 w66_6 (w66_7 + 1) r24)) (zlet (α := zRr) ((Gk_arriveT w66_9 u20 r24 q)) <| fun u35 => Gk_years_163 q w66_9 ih66 u17 (w66_6 + 1) w66_7 u35))
noncomputable def Gk_years_66 (q : zRq) (w57_8 : Int32) (ih57 : Int64 → Int32 → Int32 → Int32 → zRr → (Int32 × zRr)) (n : Nat) : Int64 → Int32 → Int32 → Int32 → zRr → (Int32 × zRr) :=
  Nat.rec (motive := fun _ => Int64 → Int32 → Int32 → Int32 → zRr → (Int32 × zRr)) (fun _ _ _ _ rw66 => (default, rw66)) (fun _ ih => Bk_years_66 q w57_8 ih57 ih) n
noncomputable def Bk_years_57 (a2 : Int32) (a3 : Int32) (q : zRq) (ih57 : Int64 → Int32 → Int32 → Int32 → zRr → (Int32 × zRr)) (w57_4 : Int64) (w57_6 : Int32) (w57_7 : Int32) (w57_8 : Int32) (rw57 : zRr) : Int32 × zRr :=
  zif (a2 ≤ w57_8) (zifn (a3 = (2 : Int32)) (zifn (a3 = (0 : Int32)) ((w57_7, rw57)) ((w57_6, rw57))) (zlet (α := Int32) (rw57 171 10) <| fun v45 => zlet (α := Int32) ((Gk_peopledT v45 rw57 q)) <| fun u46 => (u46, rw57))) (Gk_years_66 q w57_8 ih57 7 w57_4 w57_6 w57_7 0 rw57)
noncomputable def Gk_years_57 (a2 : Int32) (a3 : Int32) (q : zRq) (n : Nat) : Int64 → Int32 → Int32 → Int32 → zRr → (Int32 × zRr) :=
  Nat.rec (motive := fun _ => Int64 → Int32 → Int32 → Int32 → zRr → (Int32 × zRr)) (fun _ _ _ _ rw57 => (default, rw57)) (fun _ ih => Bk_years_57 a2 a3 q ih) n
noncomputable def Gk_years (a1 : Int32) (a2 : Int32) (a3 : Int32) (r : zRr) (q : zRq) : Int32 × zRr :=
  zif (a1 < (0 : Int32)) ((((-1) : Int32), r)) (zif ((9999 : Int32) < a1) ((((-1) : Int32), r)) (zif (a2 < (1 : Int32)) ((((-1) : Int32), r)) (zif ((99 : Int32) < a2) ((((-1) : Int32), r)) (zif (a3 < (0 : Int32)) ((((-1) : Int32), r)) (zif (a3 ≤ (2 : Int32)) (zlet (α := zRr) (kcp8 r 12 6) <| fun r66 => Gk_years_57 a2 a3 q 100 a1.toInt64 0 0 0 r66) ((((-1) : Int32), r)))))))
