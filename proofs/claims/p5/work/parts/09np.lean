/-! ===== a frontier at rest: what both answer ===== -/
def zat0 (w : Int32) : Int32 := if w ≤ 0 then 1 else 0
def zat1 (r w : Int32) : Int32 := if -w < r then 0 else if 0 ≤ w then 1 else 0
def zat3 (r w : Int32) : Int32 := if r < -w then 0 else if 0 ≤ -r then 1 else 0
def zrq4 (q f : Int32) : Option Int32 := if q = -1 then some f else none
def zrq3 (r w q f g : Int32) : Option Int32 := if zat3 r w = 0 then zrq4 q f else if f = q then some 3 else zrq4 q g
def zrq1 (r w q f g h : Int32) : Option Int32 := if zat1 r w = 0 then zrq3 r w q f g else if f = q then some 1 else zrq3 r w q g h
def zrq0 (r w q : Int32) : Option Int32 := if zat0 w = 0 then zrq1 r w q 0 1 2 else if (0 : Int32) = q then some 0 else zrq1 r w q 1 2 3
def zrs (r w q : Int32) : Option Int32 := if zwi r 0 9 = 0 then none else if zwi w 0 9 = 0 then none else if -1 ≤ q then zrq0 r w q else none
def zrv (r w q : Int32) : Int32 := (zrs r w q).getD 0
def zth (r w q : Int32) : Int32 := if (zrs r w q).isSome then 0 else 1
def zou (f : Nat → Int64) (r w q : Int32) : Nat → Int64 := match zrs r w q with
  | some v => vp_updL f 0 v.toInt64
  | none => f
theorem zth_0 {r w q : Int32} (h : zth r w q = 0) : ∃ v, zrs r w q = some v := by
  unfold zth at h
  cases hz : zrs r w q with
  | none => rw [hz] at h; exact absurd h (by decide)
  | some v => exact ⟨v, rfl⟩
theorem zth_some {r w q v : Int32} (h : zrs r w q = some v) : zth r w q = 0 := by unfold zth; rw [h]; rfl
theorem zth_none {r w q : Int32} (h : zrs r w q = none) : zth r w q = 1 := by unfold zth; rw [h]; rfl
theorem zrv_some {r w q v : Int32} (h : zrs r w q = some v) : zrv r w q = v := by unfold zrv; rw [h]; rfl
theorem zrv_none {r w q : Int32} (h : zrs r w q = none) : zrv r w q = 0 := by unfold zrv; rw [h]; rfl
theorem zou_some {f : Nat → Int64} {r w q v : Int32} (h : zrs r w q = some v) : zou f r w q = vp_updL f 0 v.toInt64 := by unfold zou; rw [h]
theorem zou_none {f : Nat → Int64} {r w q : Int32} (h : zrs r w q = none) : zou f r w q = f := by unfold zou; rw [h]
theorem zsge {r w q : Int32} (h : ¬ q < -1) : -1 ≤ q := Int32.not_lt.mp h
theorem zslt {r w q : Int32} (h : q < -1) : ¬ -1 ≤ q := Int32.not_le.mpr h
