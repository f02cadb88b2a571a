theorem lfeed2 {r r1 rm : zRr} {a b c : Int64} {B : Int} (hM : mJ B rm) (hJ : kJ r1) (hT : lT r rm) (h2 : kTp r1 = ztp c 8 (ztp b 8 (ztp a 8 (kTp r)))) : lT r1 (mfd rm a b c) := by
  have hag := ztp3_ag (a := a) (b := b) (c := c) (j := 24) (t := kTp r) (t' := mTp rm) ⟨by show zn (r 196 1) = zn (rm 101 0); rw [hT.1], fun i hi => hT.2 i (by have hi : i < zn (r 196 1) := hi; rw [hT.1] at hi; exact hi)⟩
  rw [ztp3_24, ← h2] at hag
  have hle := ztp3_le (a := a) (b := b) (c := c) (j := 24) (mTp_ix hM).2
  refine ⟨?_, fun i hi => ?_⟩
  · show r1 196 1 = nI (ztp3 a b c 24 (mTp rm)).1
    rw [(kTp_ix hJ).1, hag.1]
  · have hi : i < zn (nI (ztp3 a b c 24 (mTp rm)).1) := hi
    rw [xzn (by omega), ← hag.1] at hi
    exact hag.2 i hi
