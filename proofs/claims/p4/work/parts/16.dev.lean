theorem mtold {t u : Int32} (ht : zI 0 999 t) (hu : zI 48 57 u) : (t * 10 + u - 48).toInt = t.toInt * 10 + u.toInt - 48 := by
  obtain ⟨h1, h2⟩ := ht
  obtain ⟨h3, h4⟩ := hu
  have c10 : (10 : Int32).toInt = 10 := by decide
  have c48 : (48 : Int32).toInt = 48 := by decide
  have e1 : (t * 10).toInt = t.toInt * 10 := by rw [Jvm.Kit.i32_mul (by rw [c10]; omega) (by rw [c10]; omega), c10]
  have e2 : (t * 10 + u).toInt = t.toInt * 10 + u.toInt := by rw [Jvm.Kit.i32_add (by rw [e1]; omega) (by rw [e1]; omega), e1]
  rw [Jvm.Kit.i32_sub (by rw [e2, c48]; omega) (by rw [e2, c48]; omega), e2, c48]
