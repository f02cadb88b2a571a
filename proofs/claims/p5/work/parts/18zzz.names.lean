/-! ===== the names stay ===== -/
def mNm (q q1 : zRq) : Prop := q1 2 = q 2 ∧ q1 3 = q 3
theorem mNm.refl {q : zRq} : mNm q q := ⟨rfl, rfl⟩
theorem mNm.tr {q q1 q2 : zRq} (h : mNm q q1) (k : mNm q1 q2) : mNm q q2 := ⟨k.1.trans h.1, k.2.trans h.2⟩
