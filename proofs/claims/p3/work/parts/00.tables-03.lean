-- ===== PART A: goes FIRST, ahead of the names: the tables' words, and 'selects' of the private methods out of them =====
/-- a private method of a class that the tables say can be made, by its rows of tables_1 -/
noncomputable def lw_okq (q : MethodName × Nat) : Prop := (q.1.cls ≠ "java/lang/invoke/MethodHandle" ∧ q.1.cls ≠ "java/lang/invoke/VarHandle") ∧ Cond.instantiable q.1.cls q.2 ∈ tables_1 ∧ Cond.privateMethod q.1 ∈ tables_1 ∧ Cond.instanceMethod q.1 ∈ tables_1
theorem lwb1 {w : Jvm.Cond} (i : Nat) (h : tables_1_1[i]? = some w) : w ∈ tables_1 := List.mem_append_left _ (List.mem_of_getElem? h)
theorem lwb2 {w : Jvm.Cond} (i : Nat) (h : tables_1_2[i]? = some w) : w ∈ tables_1 := List.mem_append_right _ (List.mem_append_left _ (List.mem_of_getElem? h))
theorem lwb3 {w : Jvm.Cond} (i : Nat) (h : tables_1_3[i]? = some w) : w ∈ tables_1 := List.mem_append_right _ (List.mem_append_right _ (List.mem_append_left _ (List.mem_of_getElem? h)))
theorem lwb4 {w : Jvm.Cond} (i : Nat) (h : tables_1_4[i]? = some w) : w ∈ tables_1 := List.mem_append_right _ (List.mem_append_right _ (List.mem_append_right _ (List.mem_append_left _ (List.mem_of_getElem? h))))
theorem lwb5 {w : Jvm.Cond} (i : Nat) (h : tables_1_5[i]? = some w) : w ∈ tables_1 := List.mem_append_right _ (List.mem_append_right _ (List.mem_append_right _ (List.mem_append_right _ (List.mem_append_left _ (List.mem_of_getElem? h)))))
theorem lwb6 {w : Jvm.Cond} (i : Nat) (h : tables_1_6[i]? = some w) : w ∈ tables_1 := List.mem_append_right _ (List.mem_append_right _ (List.mem_append_right _ (List.mem_append_right _ (List.mem_append_right _ (List.mem_append_left _ (List.mem_of_getElem? h))))))
theorem lwb7 {w : Jvm.Cond} (i : Nat) (h : tables_1_7[i]? = some w) : w ∈ tables_1 := List.mem_append_right _ (List.mem_append_right _ (List.mem_append_right _ (List.mem_append_right _ (List.mem_append_right _ (List.mem_append_right _ (List.mem_append_left _ (List.mem_of_getElem? h)))))))
theorem lwb8 {w : Jvm.Cond} (i : Nat) (h : tables_1_8[i]? = some w) : w ∈ tables_1 := List.mem_append_right _ (List.mem_append_right _ (List.mem_append_right _ (List.mem_append_right _ (List.mem_append_right _ (List.mem_append_right _ (List.mem_append_right _ (List.mem_of_getElem? h)))))))
theorem lw_p0 : lw_okq (⟨"BeardPass$Law", "add", "(I)V"⟩, 3) := ⟨⟨by decide +kernel, by decide +kernel⟩, lwb1 83 (by decide +kernel), lwb1 106 (by decide +kernel), lwb1 107 (by decide +kernel)⟩
theorem lw_p1 : lw_okq (⟨"BeardPass$Tape", "stepOverWord", "()V"⟩, 8) := ⟨⟨by decide +kernel, by decide +kernel⟩, lwb1 36 (by decide +kernel), lwb2 192 (by decide +kernel), lwb2 193 (by decide +kernel)⟩
theorem lw_p2 : lw_okq (⟨"BeardPass$Tape", "sortAs", "(LBeardPass$Sort;)LBeardPass$Sort;"⟩, 8) := ⟨⟨by decide +kernel, by decide +kernel⟩, lwb1 36 (by decide +kernel), lwb2 200 (by decide +kernel), lwb2 201 (by decide +kernel)⟩
theorem lw_p3 : lw_okq (⟨"BeardPass$Tape", "stepOverNumber", "()V"⟩, 8) := ⟨⟨by decide +kernel, by decide +kernel⟩, lwb1 36 (by decide +kernel), lwb3 21 (by decide +kernel), lwb3 22 (by decide +kernel)⟩
theorem lw_p4 : lw_okq (⟨"BeardPass$LandReader", "readLine", "(LBeardPass$Tape;LBeardPass$Land;)Z"⟩, 3) := ⟨⟨by decide +kernel, by decide +kernel⟩, lwb1 187 (by decide +kernel), lwb3 28 (by decide +kernel), lwb3 29 (by decide +kernel)⟩
theorem lw_p5 : lw_okq (⟨"BeardPass$LandReader", "readTown", "(LBeardPass$Tape;LBeardPass$Land;)Z"⟩, 3) := ⟨⟨by decide +kernel, by decide +kernel⟩, lwb1 187 (by decide +kernel), lwb3 34 (by decide +kernel), lwb3 35 (by decide +kernel)⟩
theorem lw_p6 : lw_okq (⟨"BeardPass$LandReader", "readRoad", "(LBeardPass$Tape;LBeardPass$Land;)Z"⟩, 3) := ⟨⟨by decide +kernel, by decide +kernel⟩, lwb1 187 (by decide +kernel), lwb3 68 (by decide +kernel), lwb3 69 (by decide +kernel)⟩
theorem lw_p7 : lw_okq (⟨"BeardPass$LandReader", "readPerson", "(LBeardPass$Tape;LBeardPass$Land;)Z"⟩, 3) := ⟨⟨by decide +kernel, by decide +kernel⟩, lwb1 187 (by decide +kernel), lwb3 82 (by decide +kernel), lwb3 83 (by decide +kernel)⟩
theorem lw_p8 : lw_okq (⟨"BeardPass$LandReader", "readGoods", "(LBeardPass$Tape;LBeardPass$Land;I)Z"⟩, 3) := ⟨⟨by decide +kernel, by decide +kernel⟩, lwb1 187 (by decide +kernel), lwb3 99 (by decide +kernel), lwb3 100 (by decide +kernel)⟩
theorem lw_p9 : lw_okq (⟨"BeardPass$LandReader", "readGrows", "(LBeardPass$Tape;LBeardPass$Land;)Z"⟩, 3) := ⟨⟨by decide +kernel, by decide +kernel⟩, lwb1 187 (by decide +kernel), lwb3 109 (by decide +kernel), lwb3 110 (by decide +kernel)⟩
theorem lw_p10 : lw_okq (⟨"BeardPass$LandReader", "readInch", "(LBeardPass$Tape;LBeardPass$Land;)Z"⟩, 3) := ⟨⟨by decide +kernel, by decide +kernel⟩, lwb1 187 (by decide +kernel), lwb3 115 (by decide +kernel), lwb3 116 (by decide +kernel)⟩
theorem lw_p11 : lw_okq (⟨"BeardPass$LandReader", "beginReads", "(LBeardPass$Tape;LBeardPass$Land;)Z"⟩, 3) := ⟨⟨by decide +kernel, by decide +kernel⟩, lwb1 187 (by decide +kernel), lwb3 121 (by decide +kernel), lwb3 122 (by decide +kernel)⟩
theorem lw_p12 : lw_okq (⟨"BeardPass$Law", "readWhole", "(LBeardPass$Tape;I)Z"⟩, 3) := ⟨⟨by decide +kernel, by decide +kernel⟩, lwb1 83 (by decide +kernel), lwb3 125 (by decide +kernel), lwb3 126 (by decide +kernel)⟩
theorem lw_p13 : lw_okq (⟨"BeardPass$Law", "readTest", "(LBeardPass$Tape;I)Z"⟩, 3) := ⟨⟨by decide +kernel, by decide +kernel⟩, lwb1 83 (by decide +kernel), lwb3 129 (by decide +kernel), lwb3 130 (by decide +kernel)⟩
theorem lw_p14 : lw_okq (⟨"BeardPass$Law", "readSum", "(LBeardPass$Tape;I)Z"⟩, 3) := ⟨⟨by decide +kernel, by decide +kernel⟩, lwb1 83 (by decide +kernel), lwb3 133 (by decide +kernel), lwb3 134 (by decide +kernel)⟩
theorem lw_p15 : lw_okq (⟨"BeardPass$Law", "readProduct", "(LBeardPass$Tape;I)Z"⟩, 3) := ⟨⟨by decide +kernel, by decide +kernel⟩, lwb1 83 (by decide +kernel), lwb3 137 (by decide +kernel), lwb3 138 (by decide +kernel)⟩
noncomputable def lw_privs_1 : List (MethodName × Nat) := [(⟨"BeardPass$Law", "add", "(I)V"⟩, 3), (⟨"BeardPass$Tape", "stepOverWord", "()V"⟩, 8), (⟨"BeardPass$Tape", "sortAs", "(LBeardPass$Sort;)LBeardPass$Sort;"⟩, 8), (⟨"BeardPass$Tape", "stepOverNumber", "()V"⟩, 8), (⟨"BeardPass$LandReader", "readLine", "(LBeardPass$Tape;LBeardPass$Land;)Z"⟩, 3), (⟨"BeardPass$LandReader", "readTown", "(LBeardPass$Tape;LBeardPass$Land;)Z"⟩, 3), (⟨"BeardPass$LandReader", "readRoad", "(LBeardPass$Tape;LBeardPass$Land;)Z"⟩, 3), (⟨"BeardPass$LandReader", "readPerson", "(LBeardPass$Tape;LBeardPass$Land;)Z"⟩, 3), (⟨"BeardPass$LandReader", "readGoods", "(LBeardPass$Tape;LBeardPass$Land;I)Z"⟩, 3), (⟨"BeardPass$LandReader", "readGrows", "(LBeardPass$Tape;LBeardPass$Land;)Z"⟩, 3), (⟨"BeardPass$LandReader", "readInch", "(LBeardPass$Tape;LBeardPass$Land;)Z"⟩, 3), (⟨"BeardPass$LandReader", "beginReads", "(LBeardPass$Tape;LBeardPass$Land;)Z"⟩, 3), (⟨"BeardPass$Law", "readWhole", "(LBeardPass$Tape;I)Z"⟩, 3), (⟨"BeardPass$Law", "readTest", "(LBeardPass$Tape;I)Z"⟩, 3), (⟨"BeardPass$Law", "readSum", "(LBeardPass$Tape;I)Z"⟩, 3), (⟨"BeardPass$Law", "readProduct", "(LBeardPass$Tape;I)Z"⟩, 3)]
theorem lw_r1 : ∀ q ∈ lw_privs_1, lw_okq q := List.forall_mem_cons.mpr ⟨lw_p0, List.forall_mem_cons.mpr ⟨lw_p1, List.forall_mem_cons.mpr ⟨lw_p2, List.forall_mem_cons.mpr ⟨lw_p3, List.forall_mem_cons.mpr ⟨lw_p4, List.forall_mem_cons.mpr ⟨lw_p5, List.forall_mem_cons.mpr ⟨lw_p6, List.forall_mem_cons.mpr ⟨lw_p7, List.forall_mem_cons.mpr ⟨lw_p8, List.forall_mem_cons.mpr ⟨lw_p9, List.forall_mem_cons.mpr ⟨lw_p10, List.forall_mem_cons.mpr ⟨lw_p11, List.forall_mem_cons.mpr ⟨lw_p12, List.forall_mem_cons.mpr ⟨lw_p13, List.forall_mem_cons.mpr ⟨lw_p14, List.forall_mem_cons.mpr ⟨lw_p15, fun _ h => absurd h List.not_mem_nil⟩⟩⟩⟩⟩⟩⟩⟩⟩⟩⟩⟩⟩⟩⟩⟩
theorem lw_p16 : lw_okq (⟨"BeardPass$Law", "readPart", "(LBeardPass$Tape;I)Z"⟩, 3) := ⟨⟨by decide +kernel, by decide +kernel⟩, lwb1 83 (by decide +kernel), lwb3 141 (by decide +kernel), lwb3 142 (by decide +kernel)⟩
theorem lw_p17 : lw_okq (⟨"BeardPass", "forgetPast", "()V"⟩, 15) := ⟨⟨by decide +kernel, by decide +kernel⟩, lwb1 28 (by decide +kernel), lwb3 201 (by decide +kernel), lwb3 202 (by decide +kernel)⟩
theorem lw_p18 : lw_okq (⟨"BeardPass$Journey", "readLine", "(LBeardPass$Tape;LBeardPass$Land;)Z"⟩, 4) := ⟨⟨by decide +kernel, by decide +kernel⟩, lwb1 203 (by decide +kernel), lwb3 216 (by decide +kernel), lwb3 217 (by decide +kernel)⟩
theorem lw_p19 : lw_okq (⟨"BeardPass$Journey", "readDoer", "(LBeardPass$Tape;LBeardPass$Land;I)Z"⟩, 4) := ⟨⟨by decide +kernel, by decide +kernel⟩, lwb1 203 (by decide +kernel), lwb3 233 (by decide +kernel), lwb3 234 (by decide +kernel)⟩
theorem lw_p20 : lw_okq (⟨"BeardPass", "isPerson", "(I)Z"⟩, 15) := ⟨⟨by decide +kernel, by decide +kernel⟩, lwb1 28 (by decide +kernel), lwb4 15 (by decide +kernel), lwb4 16 (by decide +kernel)⟩
theorem lw_p21 : lw_okq (⟨"BeardPass", "isTown", "(I)Z"⟩, 15) := ⟨⟨by decide +kernel, by decide +kernel⟩, lwb1 28 (by decide +kernel), lwb4 23 (by decide +kernel), lwb4 24 (by decide +kernel)⟩
theorem lw_p22 : lw_okq (⟨"BeardPass", "sum", "([I)I"⟩, 15) := ⟨⟨by decide +kernel, by decide +kernel⟩, lwb1 28 (by decide +kernel), lwb4 61 (by decide +kernel), lwb4 62 (by decide +kernel)⟩
theorem lw_p23 : lw_okq (⟨"BeardPass", "remember", "()V"⟩, 15) := ⟨⟨by decide +kernel, by decide +kernel⟩, lwb1 28 (by decide +kernel), lwb4 74 (by decide +kernel), lwb4 75 (by decide +kernel)⟩
theorem lw_p24 : lw_okq (⟨"BeardPass$Ways", "spread", "(I)I"⟩, 7) := ⟨⟨by decide +kernel, by decide +kernel⟩, lwb1 233 (by decide +kernel), lwb4 180 (by decide +kernel), lwb4 181 (by decide +kernel)⟩
theorem lw_p25 : lw_okq (⟨"BeardPass$Ways", "widen", "(I)I"⟩, 7) := ⟨⟨by decide +kernel, by decide +kernel⟩, lwb1 233 (by decide +kernel), lwb4 184 (by decide +kernel), lwb4 185 (by decide +kernel)⟩
theorem lw_p26 : lw_okq (⟨"BeardPass$Ways", "linkedTo", "(I)I"⟩, 7) := ⟨⟨by decide +kernel, by decide +kernel⟩, lwb1 233 (by decide +kernel), lwb4 215 (by decide +kernel), lwb4 216 (by decide +kernel)⟩
theorem lw_p27 : lw_okq (⟨"BeardPass$Ways", "wander", "(I)V"⟩, 7) := ⟨⟨by decide +kernel, by decide +kernel⟩, lwb1 233 (by decide +kernel), lwb4 234 (by decide +kernel), lwb4 235 (by decide +kernel)⟩
theorem lw_p28 : lw_okq (⟨"BeardPass", "fewestInches", "(II)I"⟩, 15) := ⟨⟨by decide +kernel, by decide +kernel⟩, lwb1 28 (by decide +kernel), lwb5 15 (by decide +kernel), lwb5 16 (by decide +kernel)⟩
theorem lw_p29 : lw_okq (⟨"java/lang/Throwable", "fillInStackTrace", "(I)Ljava/lang/Throwable;"⟩, 6) := ⟨⟨by decide +kernel, by decide +kernel⟩, lwb5 147 (by decide +kernel), lwb5 145 (by decide +kernel), lwb5 146 (by decide +kernel)⟩
theorem lw_p30 : lw_okq (⟨"BeardPassModel", "readsAll", "()Z"⟩, 57) := ⟨⟨by decide +kernel, by decide +kernel⟩, lwb5 186 (by decide +kernel), lwb6 134 (by decide +kernel), lwb6 135 (by decide +kernel)⟩
theorem lw_p31 : lw_okq (⟨"BeardPassModel", "begins", "()V"⟩, 57) := ⟨⟨by decide +kernel, by decide +kernel⟩, lwb5 186 (by decide +kernel), lwb6 138 (by decide +kernel), lwb6 139 (by decide +kernel)⟩
noncomputable def lw_privs_2 : List (MethodName × Nat) := [(⟨"BeardPass$Law", "readPart", "(LBeardPass$Tape;I)Z"⟩, 3), (⟨"BeardPass", "forgetPast", "()V"⟩, 15), (⟨"BeardPass$Journey", "readLine", "(LBeardPass$Tape;LBeardPass$Land;)Z"⟩, 4), (⟨"BeardPass$Journey", "readDoer", "(LBeardPass$Tape;LBeardPass$Land;I)Z"⟩, 4), (⟨"BeardPass", "isPerson", "(I)Z"⟩, 15), (⟨"BeardPass", "isTown", "(I)Z"⟩, 15), (⟨"BeardPass", "sum", "([I)I"⟩, 15), (⟨"BeardPass", "remember", "()V"⟩, 15), (⟨"BeardPass$Ways", "spread", "(I)I"⟩, 7), (⟨"BeardPass$Ways", "widen", "(I)I"⟩, 7), (⟨"BeardPass$Ways", "linkedTo", "(I)I"⟩, 7), (⟨"BeardPass$Ways", "wander", "(I)V"⟩, 7), (⟨"BeardPass", "fewestInches", "(II)I"⟩, 15), (⟨"java/lang/Throwable", "fillInStackTrace", "(I)Ljava/lang/Throwable;"⟩, 6), (⟨"BeardPassModel", "readsAll", "()Z"⟩, 57), (⟨"BeardPassModel", "begins", "()V"⟩, 57)]
theorem lw_r2 : ∀ q ∈ lw_privs_2, lw_okq q := List.forall_mem_cons.mpr ⟨lw_p16, List.forall_mem_cons.mpr ⟨lw_p17, List.forall_mem_cons.mpr ⟨lw_p18, List.forall_mem_cons.mpr ⟨lw_p19, List.forall_mem_cons.mpr ⟨lw_p20, List.forall_mem_cons.mpr ⟨lw_p21, List.forall_mem_cons.mpr ⟨lw_p22, List.forall_mem_cons.mpr ⟨lw_p23, List.forall_mem_cons.mpr ⟨lw_p24, List.forall_mem_cons.mpr ⟨lw_p25, List.forall_mem_cons.mpr ⟨lw_p26, List.forall_mem_cons.mpr ⟨lw_p27, List.forall_mem_cons.mpr ⟨lw_p28, List.forall_mem_cons.mpr ⟨lw_p29, List.forall_mem_cons.mpr ⟨lw_p30, List.forall_mem_cons.mpr ⟨lw_p31, fun _ h => absurd h List.not_mem_nil⟩⟩⟩⟩⟩⟩⟩⟩⟩⟩⟩⟩⟩⟩⟩⟩
theorem lw_p32 : lw_okq (⟨"BeardPassModel", "nextToken", "()V"⟩, 57) := ⟨⟨by decide +kernel, by decide +kernel⟩, lwb5 186 (by decide +kernel), lwb6 142 (by decide +kernel), lwb6 143 (by decide +kernel)⟩
theorem lw_p33 : lw_okq (⟨"BeardPassModel", "signAt", "(I)I"⟩, 57) := ⟨⟨by decide +kernel, by decide +kernel⟩, lwb5 186 (by decide +kernel), lwb6 146 (by decide +kernel), lwb6 147 (by decide +kernel)⟩
theorem lw_p34 : lw_okq (⟨"BeardPassModel", "isWord", "(J)Z"⟩, 57) := ⟨⟨by decide +kernel, by decide +kernel⟩, lwb5 186 (by decide +kernel), lwb6 153 (by decide +kernel), lwb6 154 (by decide +kernel)⟩
theorem lw_p35 : lw_okq (⟨"BeardPassModel", "readsTown", "()Z"⟩, 57) := ⟨⟨by decide +kernel, by decide +kernel⟩, lwb5 186 (by decide +kernel), lwb6 157 (by decide +kernel), lwb6 158 (by decide +kernel)⟩
theorem lw_p36 : lw_okq (⟨"BeardPassModel", "fails", "(I)Z"⟩, 57) := ⟨⟨by decide +kernel, by decide +kernel⟩, lwb5 186 (by decide +kernel), lwb6 161 (by decide +kernel), lwb6 162 (by decide +kernel)⟩
theorem lw_p37 : lw_okq (⟨"BeardPassModel", "needsNew", "()Z"⟩, 57) := ⟨⟨by decide +kernel, by decide +kernel⟩, lwb5 186 (by decide +kernel), lwb6 165 (by decide +kernel), lwb6 166 (by decide +kernel)⟩
theorem lw_p38 : lw_okq (⟨"BeardPassModel", "isKept", "()Z"⟩, 57) := ⟨⟨by decide +kernel, by decide +kernel⟩, lwb5 186 (by decide +kernel), lwb6 169 (by decide +kernel), lwb6 170 (by decide +kernel)⟩
theorem lw_p39 : lw_okq (⟨"BeardPassModel", "townNamed", "(I)I"⟩, 57) := ⟨⟨by decide +kernel, by decide +kernel⟩, lwb5 186 (by decide +kernel), lwb6 193 (by decide +kernel), lwb6 194 (by decide +kernel)⟩
theorem lw_p40 : lw_okq (⟨"BeardPassModel", "personNamed", "(I)I"⟩, 57) := ⟨⟨by decide +kernel, by decide +kernel⟩, lwb5 186 (by decide +kernel), lwb6 197 (by decide +kernel), lwb6 198 (by decide +kernel)⟩
theorem lw_p41 : lw_okq (⟨"BeardPassModel", "needsBoth", "(JII)Z"⟩, 57) := ⟨⟨by decide +kernel, by decide +kernel⟩, lwb5 186 (by decide +kernel), lwb6 201 (by decide +kernel), lwb6 202 (by decide +kernel)⟩
theorem lw_p42 : lw_okq (⟨"BeardPassModel", "needsWord", "(J)Z"⟩, 57) := ⟨⟨by decide +kernel, by decide +kernel⟩, lwb5 186 (by decide +kernel), lwb6 205 (by decide +kernel), lwb6 206 (by decide +kernel)⟩
theorem lw_p43 : lw_okq (⟨"BeardPassModel", "needsNumber", "(II)Z"⟩, 57) := ⟨⟨by decide +kernel, by decide +kernel⟩, lwb5 186 (by decide +kernel), lwb6 209 (by decide +kernel), lwb6 210 (by decide +kernel)⟩
theorem lw_p44 : lw_okq (⟨"BeardPassModel", "closes", "()Z"⟩, 57) := ⟨⟨by decide +kernel, by decide +kernel⟩, lwb5 186 (by decide +kernel), lwb6 216 (by decide +kernel), lwb6 217 (by decide +kernel)⟩
theorem lw_p45 : lw_okq (⟨"BeardPassModel", "isSign", "(I)Z"⟩, 57) := ⟨⟨by decide +kernel, by decide +kernel⟩, lwb5 186 (by decide +kernel), lwb6 220 (by decide +kernel), lwb6 221 (by decide +kernel)⟩
theorem lw_p46 : lw_okq (⟨"BeardPassModel", "readsRoad", "()Z"⟩, 57) := ⟨⟨by decide +kernel, by decide +kernel⟩, lwb5 186 (by decide +kernel), lwb6 224 (by decide +kernel), lwb6 225 (by decide +kernel)⟩
theorem lw_p47 : lw_okq (⟨"BeardPassModel", "needsTown", "(I)Z"⟩, 57) := ⟨⟨by decide +kernel, by decide +kernel⟩, lwb5 186 (by decide +kernel), lwb6 228 (by decide +kernel), lwb6 229 (by decide +kernel)⟩
noncomputable def lw_privs_3 : List (MethodName × Nat) := [(⟨"BeardPassModel", "nextToken", "()V"⟩, 57), (⟨"BeardPassModel", "signAt", "(I)I"⟩, 57), (⟨"BeardPassModel", "isWord", "(J)Z"⟩, 57), (⟨"BeardPassModel", "readsTown", "()Z"⟩, 57), (⟨"BeardPassModel", "fails", "(I)Z"⟩, 57), (⟨"BeardPassModel", "needsNew", "()Z"⟩, 57), (⟨"BeardPassModel", "isKept", "()Z"⟩, 57), (⟨"BeardPassModel", "townNamed", "(I)I"⟩, 57), (⟨"BeardPassModel", "personNamed", "(I)I"⟩, 57), (⟨"BeardPassModel", "needsBoth", "(JII)Z"⟩, 57), (⟨"BeardPassModel", "needsWord", "(J)Z"⟩, 57), (⟨"BeardPassModel", "needsNumber", "(II)Z"⟩, 57), (⟨"BeardPassModel", "closes", "()Z"⟩, 57), (⟨"BeardPassModel", "isSign", "(I)Z"⟩, 57), (⟨"BeardPassModel", "readsRoad", "()Z"⟩, 57), (⟨"BeardPassModel", "needsTown", "(I)Z"⟩, 57)]
theorem lw_r3 : ∀ q ∈ lw_privs_3, lw_okq q := List.forall_mem_cons.mpr ⟨lw_p32, List.forall_mem_cons.mpr ⟨lw_p33, List.forall_mem_cons.mpr ⟨lw_p34, List.forall_mem_cons.mpr ⟨lw_p35, List.forall_mem_cons.mpr ⟨lw_p36, List.forall_mem_cons.mpr ⟨lw_p37, List.forall_mem_cons.mpr ⟨lw_p38, List.forall_mem_cons.mpr ⟨lw_p39, List.forall_mem_cons.mpr ⟨lw_p40, List.forall_mem_cons.mpr ⟨lw_p41, List.forall_mem_cons.mpr ⟨lw_p42, List.forall_mem_cons.mpr ⟨lw_p43, List.forall_mem_cons.mpr ⟨lw_p44, List.forall_mem_cons.mpr ⟨lw_p45, List.forall_mem_cons.mpr ⟨lw_p46, List.forall_mem_cons.mpr ⟨lw_p47, fun _ h => absurd h List.not_mem_nil⟩⟩⟩⟩⟩⟩⟩⟩⟩⟩⟩⟩⟩⟩⟩⟩
theorem lw_p48 : lw_okq (⟨"BeardPassModel", "readsPerson", "()Z"⟩, 57) := ⟨⟨by decide +kernel, by decide +kernel⟩, lwb5 186 (by decide +kernel), lwb6 232 (by decide +kernel), lwb6 233 (by decide +kernel)⟩
theorem lw_p49 : lw_okq (⟨"BeardPassModel", "readsOne", "(III)Z"⟩, 57) := ⟨⟨by decide +kernel, by decide +kernel⟩, lwb5 186 (by decide +kernel), lwb6 236 (by decide +kernel), lwb6 237 (by decide +kernel)⟩
theorem lw_p50 : lw_okq (⟨"BeardPassModel", "readsReads", "()Z"⟩, 57) := ⟨⟨by decide +kernel, by decide +kernel⟩, lwb5 186 (by decide +kernel), lwb7 0 (by decide +kernel), lwb7 1 (by decide +kernel)⟩
theorem lw_p51 : lw_okq (⟨"BeardPassModel", "reads", "()Z"⟩, 57) := ⟨⟨by decide +kernel, by decide +kernel⟩, lwb5 186 (by decide +kernel), lwb7 4 (by decide +kernel), lwb7 5 (by decide +kernel)⟩
theorem lw_p52 : lw_okq (⟨"BeardPassModel", "fact", "()I"⟩, 57) := ⟨⟨by decide +kernel, by decide +kernel⟩, lwb5 186 (by decide +kernel), lwb7 8 (by decide +kernel), lwb7 9 (by decide +kernel)⟩
theorem lw_p53 : lw_okq (⟨"BeardPassModel", "puts", "(I)V"⟩, 57) := ⟨⟨by decide +kernel, by decide +kernel⟩, lwb5 186 (by decide +kernel), lwb7 16 (by decide +kernel), lwb7 17 (by decide +kernel)⟩
theorem lw_p54 : lw_okq (⟨"BeardPassModel", "lays", "()V"⟩, 57) := ⟨⟨by decide +kernel, by decide +kernel⟩, lwb5 186 (by decide +kernel), lwb7 20 (by decide +kernel), lwb7 21 (by decide +kernel)⟩
theorem lw_p55 : lw_okq (⟨"BeardPassModel", "fresh0", "()V"⟩, 57) := ⟨⟨by decide +kernel, by decide +kernel⟩, lwb5 186 (by decide +kernel), lwb7 30 (by decide +kernel), lwb7 31 (by decide +kernel)⟩
theorem lw_p56 : lw_okq (⟨"BeardPassModel", "readsLine", "()Z"⟩, 57) := ⟨⟨by decide +kernel, by decide +kernel⟩, lwb5 186 (by decide +kernel), lwb7 38 (by decide +kernel), lwb7 39 (by decide +kernel)⟩
theorem lw_p57 : lw_okq (⟨"BeardPassModel", "needsPerson", "()Z"⟩, 57) := ⟨⟨by decide +kernel, by decide +kernel⟩, lwb5 186 (by decide +kernel), lwb7 42 (by decide +kernel), lwb7 43 (by decide +kernel)⟩
theorem lw_p58 : lw_okq (⟨"BeardPassModel", "laysLines", "(II)V"⟩, 57) := ⟨⟨by decide +kernel, by decide +kernel⟩, lwb5 186 (by decide +kernel), lwb7 46 (by decide +kernel), lwb7 47 (by decide +kernel)⟩
theorem lw_p59 : lw_okq (⟨"BeardPassModel", "isPerson", "(I)Z"⟩, 57) := ⟨⟨by decide +kernel, by decide +kernel⟩, lwb5 186 (by decide +kernel), lwb7 54 (by decide +kernel), lwb7 55 (by decide +kernel)⟩
theorem lw_p60 : lw_okq (⟨"BeardPassModel", "isTown", "(I)Z"⟩, 57) := ⟨⟨by decide +kernel, by decide +kernel⟩, lwb5 186 (by decide +kernel), lwb7 62 (by decide +kernel), lwb7 63 (by decide +kernel)⟩
theorem lw_p61 : lw_okq (⟨"BeardPassModel", "letThrough", "(I)I"⟩, 57) := ⟨⟨by decide +kernel, by decide +kernel⟩, lwb5 186 (by decide +kernel), lwb7 66 (by decide +kernel), lwb7 67 (by decide +kernel)⟩
theorem lw_p62 : lw_okq (⟨"BeardPassModel", "lets", "(III)Z"⟩, 57) := ⟨⟨by decide +kernel, by decide +kernel⟩, lwb5 186 (by decide +kernel), lwb7 70 (by decide +kernel), lwb7 71 (by decide +kernel)⟩
theorem lw_p63 : lw_okq (⟨"BeardPassModel", "speakersAt", "(II)I"⟩, 57) := ⟨⟨by decide +kernel, by decide +kernel⟩, lwb5 186 (by decide +kernel), lwb7 74 (by decide +kernel), lwb7 75 (by decide +kernel)⟩
noncomputable def lw_privs_4 : List (MethodName × Nat) := [(⟨"BeardPassModel", "readsPerson", "()Z"⟩, 57), (⟨"BeardPassModel", "readsOne", "(III)Z"⟩, 57), (⟨"BeardPassModel", "readsReads", "()Z"⟩, 57), (⟨"BeardPassModel", "reads", "()Z"⟩, 57), (⟨"BeardPassModel", "fact", "()I"⟩, 57), (⟨"BeardPassModel", "puts", "(I)V"⟩, 57), (⟨"BeardPassModel", "lays", "()V"⟩, 57), (⟨"BeardPassModel", "fresh0", "()V"⟩, 57), (⟨"BeardPassModel", "readsLine", "()Z"⟩, 57), (⟨"BeardPassModel", "needsPerson", "()Z"⟩, 57), (⟨"BeardPassModel", "laysLines", "(II)V"⟩, 57), (⟨"BeardPassModel", "isPerson", "(I)Z"⟩, 57), (⟨"BeardPassModel", "isTown", "(I)Z"⟩, 57), (⟨"BeardPassModel", "letThrough", "(I)I"⟩, 57), (⟨"BeardPassModel", "lets", "(III)Z"⟩, 57), (⟨"BeardPassModel", "speakersAt", "(II)I"⟩, 57)]
theorem lw_r4 : ∀ q ∈ lw_privs_4, lw_okq q := List.forall_mem_cons.mpr ⟨lw_p48, List.forall_mem_cons.mpr ⟨lw_p49, List.forall_mem_cons.mpr ⟨lw_p50, List.forall_mem_cons.mpr ⟨lw_p51, List.forall_mem_cons.mpr ⟨lw_p52, List.forall_mem_cons.mpr ⟨lw_p53, List.forall_mem_cons.mpr ⟨lw_p54, List.forall_mem_cons.mpr ⟨lw_p55, List.forall_mem_cons.mpr ⟨lw_p56, List.forall_mem_cons.mpr ⟨lw_p57, List.forall_mem_cons.mpr ⟨lw_p58, List.forall_mem_cons.mpr ⟨lw_p59, List.forall_mem_cons.mpr ⟨lw_p60, List.forall_mem_cons.mpr ⟨lw_p61, List.forall_mem_cons.mpr ⟨lw_p62, List.forall_mem_cons.mpr ⟨lw_p63, fun _ h => absurd h List.not_mem_nil⟩⟩⟩⟩⟩⟩⟩⟩⟩⟩⟩⟩⟩⟩⟩⟩
theorem lw_p64 : lw_okq (⟨"BeardPassModel", "letsHim", "(II)Z"⟩, 57) := ⟨⟨by decide +kernel, by decide +kernel⟩, lwb5 186 (by decide +kernel), lwb7 78 (by decide +kernel), lwb7 79 (by decide +kernel)⟩
theorem lw_p65 : lw_okq (⟨"BeardPassModel", "readsBeard", "(III)Z"⟩, 57) := ⟨⟨by decide +kernel, by decide +kernel⟩, lwb5 186 (by decide +kernel), lwb7 82 (by decide +kernel), lwb7 83 (by decide +kernel)⟩
theorem lw_p66 : lw_okq (⟨"BeardPassModel", "worked", "(I)I"⟩, 57) := ⟨⟨by decide +kernel, by decide +kernel⟩, lwb5 186 (by decide +kernel), lwb7 86 (by decide +kernel), lwb7 87 (by decide +kernel)⟩
theorem lw_p67 : lw_okq (⟨"BeardPassModel", "opens", "(I)V"⟩, 57) := ⟨⟨by decide +kernel, by decide +kernel⟩, lwb5 186 (by decide +kernel), lwb7 90 (by decide +kernel), lwb7 91 (by decide +kernel)⟩
theorem lw_p68 : lw_okq (⟨"BeardPassModel", "sums", "(I)V"⟩, 57) := ⟨⟨by decide +kernel, by decide +kernel⟩, lwb5 186 (by decide +kernel), lwb7 94 (by decide +kernel), lwb7 95 (by decide +kernel)⟩
theorem lw_p69 : lw_okq (⟨"BeardPassModel", "tests", "(I)V"⟩, 57) := ⟨⟨by decide +kernel, by decide +kernel⟩, lwb5 186 (by decide +kernel), lwb7 98 (by decide +kernel), lwb7 99 (by decide +kernel)⟩
theorem lw_p70 : lw_okq (⟨"BeardPassModel", "canGo", "(II)Z"⟩, 57) := ⟨⟨by decide +kernel, by decide +kernel⟩, lwb5 186 (by decide +kernel), lwb7 106 (by decide +kernel), lwb7 107 (by decide +kernel)⟩
theorem lw_p71 : lw_okq (⟨"BeardPassModel", "keeps", "()V"⟩, 57) := ⟨⟨by decide +kernel, by decide +kernel⟩, lwb5 186 (by decide +kernel), lwb7 110 (by decide +kernel), lwb7 111 (by decide +kernel)⟩
theorem lw_p72 : lw_okq (⟨"BeardPassModel", "goes", "(II)V"⟩, 57) := ⟨⟨by decide +kernel, by decide +kernel⟩, lwb5 186 (by decide +kernel), lwb7 117 (by decide +kernel), lwb7 118 (by decide +kernel)⟩
theorem lw_p73 : lw_okq (⟨"BeardPassModel", "canForge", "(II)Z"⟩, 57) := ⟨⟨by decide +kernel, by decide +kernel⟩, lwb5 186 (by decide +kernel), lwb7 125 (by decide +kernel), lwb7 126 (by decide +kernel)⟩
theorem lw_p74 : lw_okq (⟨"BeardPassModel", "forges", "(II)V"⟩, 57) := ⟨⟨by decide +kernel, by decide +kernel⟩, lwb5 186 (by decide +kernel), lwb7 129 (by decide +kernel), lwb7 130 (by decide +kernel)⟩
theorem lw_p75 : lw_okq (⟨"BeardPassModel", "shaves", "(I)V"⟩, 57) := ⟨⟨by decide +kernel, by decide +kernel⟩, lwb5 186 (by decide +kernel), lwb7 137 (by decide +kernel), lwb7 138 (by decide +kernel)⟩
theorem lw_p76 : lw_okq (⟨"BeardPassModel", "passes", "()V"⟩, 57) := ⟨⟨by decide +kernel, by decide +kernel⟩, lwb5 186 (by decide +kernel), lwb7 145 (by decide +kernel), lwb7 146 (by decide +kernel)⟩
theorem lw_p77 : lw_okq (⟨"BeardPassModel", "allOf", "(I)I"⟩, 57) := ⟨⟨by decide +kernel, by decide +kernel⟩, lwb5 186 (by decide +kernel), lwb7 158 (by decide +kernel), lwb7 159 (by decide +kernel)⟩
theorem lw_p78 : lw_okq (⟨"BeardPassModel", "follows", "(I)Z"⟩, 57) := ⟨⟨by decide +kernel, by decide +kernel⟩, lwb5 186 (by decide +kernel), lwb7 162 (by decide +kernel), lwb7 163 (by decide +kernel)⟩
theorem lw_p79 : lw_okq (⟨"BeardPassModel", "mostAsked", "()I"⟩, 57) := ⟨⟨by decide +kernel, by decide +kernel⟩, lwb5 186 (by decide +kernel), lwb7 166 (by decide +kernel), lwb7 167 (by decide +kernel)⟩
noncomputable def lw_privs_5 : List (MethodName × Nat) := [(⟨"BeardPassModel", "letsHim", "(II)Z"⟩, 57), (⟨"BeardPassModel", "readsBeard", "(III)Z"⟩, 57), (⟨"BeardPassModel", "worked", "(I)I"⟩, 57), (⟨"BeardPassModel", "opens", "(I)V"⟩, 57), (⟨"BeardPassModel", "sums", "(I)V"⟩, 57), (⟨"BeardPassModel", "tests", "(I)V"⟩, 57), (⟨"BeardPassModel", "canGo", "(II)Z"⟩, 57), (⟨"BeardPassModel", "keeps", "()V"⟩, 57), (⟨"BeardPassModel", "goes", "(II)V"⟩, 57), (⟨"BeardPassModel", "canForge", "(II)Z"⟩, 57), (⟨"BeardPassModel", "forges", "(II)V"⟩, 57), (⟨"BeardPassModel", "shaves", "(I)V"⟩, 57), (⟨"BeardPassModel", "passes", "()V"⟩, 57), (⟨"BeardPassModel", "allOf", "(I)I"⟩, 57), (⟨"BeardPassModel", "follows", "(I)Z"⟩, 57), (⟨"BeardPassModel", "mostAsked", "()I"⟩, 57)]
theorem lw_r5 : ∀ q ∈ lw_privs_5, lw_okq q := List.forall_mem_cons.mpr ⟨lw_p64, List.forall_mem_cons.mpr ⟨lw_p65, List.forall_mem_cons.mpr ⟨lw_p66, List.forall_mem_cons.mpr ⟨lw_p67, List.forall_mem_cons.mpr ⟨lw_p68, List.forall_mem_cons.mpr ⟨lw_p69, List.forall_mem_cons.mpr ⟨lw_p70, List.forall_mem_cons.mpr ⟨lw_p71, List.forall_mem_cons.mpr ⟨lw_p72, List.forall_mem_cons.mpr ⟨lw_p73, List.forall_mem_cons.mpr ⟨lw_p74, List.forall_mem_cons.mpr ⟨lw_p75, List.forall_mem_cons.mpr ⟨lw_p76, List.forall_mem_cons.mpr ⟨lw_p77, List.forall_mem_cons.mpr ⟨lw_p78, List.forall_mem_cons.mpr ⟨lw_p79, fun _ h => absurd h List.not_mem_nil⟩⟩⟩⟩⟩⟩⟩⟩⟩⟩⟩⟩⟩⟩⟩⟩
theorem lw_p80 : lw_okq (⟨"BeardPassModel", "reachFrom", "(II)I"⟩, 57) := ⟨⟨by decide +kernel, by decide +kernel⟩, lwb5 186 (by decide +kernel), lwb7 175 (by decide +kernel), lwb7 176 (by decide +kernel)⟩
theorem lw_p81 : lw_okq (⟨"BeardPassModel", "spreads", "(II)I"⟩, 57) := ⟨⟨by decide +kernel, by decide +kernel⟩, lwb5 186 (by decide +kernel), lwb7 179 (by decide +kernel), lwb7 180 (by decide +kernel)⟩
theorem lw_p82 : lw_okq (⟨"BeardPassModel", "farFrom", "(III)I"⟩, 57) := ⟨⟨by decide +kernel, by decide +kernel⟩, lwb5 186 (by decide +kernel), lwb7 187 (by decide +kernel), lwb7 188 (by decide +kernel)⟩
theorem lw_p83 : lw_okq (⟨"BeardPassModel", "whenAt", "(II)I"⟩, 57) := ⟨⟨by decide +kernel, by decide +kernel⟩, lwb5 186 (by decide +kernel), lwb7 203 (by decide +kernel), lwb7 204 (by decide +kernel)⟩
theorem lw_p84 : lw_okq (⟨"BeardPassModel", "roams", "(I)Z"⟩, 57) := ⟨⟨by decide +kernel, by decide +kernel⟩, lwb5 186 (by decide +kernel), lwb7 211 (by decide +kernel), lwb7 212 (by decide +kernel)⟩
theorem lw_p85 : lw_okq (⟨"BeardPassModel", "needOf", "(II)I"⟩, 57) := ⟨⟨by decide +kernel, by decide +kernel⟩, lwb5 186 (by decide +kernel), lwb7 219 (by decide +kernel), lwb7 220 (by decide +kernel)⟩
theorem lw_p86 : lw_okq (⟨"BeardPassModel", "meetsAt", "(I)I"⟩, 57) := ⟨⟨by decide +kernel, by decide +kernel⟩, lwb5 186 (by decide +kernel), lwb7 239 (by decide +kernel), lwb8 0 (by decide +kernel)⟩
theorem lw_p87 : lw_okq (⟨"BeardPassModel", "isAsSeen", "(I)Z"⟩, 57) := ⟨⟨by decide +kernel, by decide +kernel⟩, lwb5 186 (by decide +kernel), lwb8 26 (by decide +kernel), lwb8 27 (by decide +kernel)⟩
theorem lw_p88 : lw_okq (⟨"BeardPassModel", "livesWeek", "()V"⟩, 57) := ⟨⟨by decide +kernel, by decide +kernel⟩, lwb5 186 (by decide +kernel), lwb8 53 (by decide +kernel), lwb8 54 (by decide +kernel)⟩
theorem lw_p89 : lw_okq (⟨"BeardPassModel", "draws", "(I)I"⟩, 57) := ⟨⟨by decide +kernel, by decide +kernel⟩, lwb5 186 (by decide +kernel), lwb8 57 (by decide +kernel), lwb8 58 (by decide +kernel)⟩
theorem lw_p90 : lw_okq (⟨"BeardPassModel", "peopled", "()I"⟩, 57) := ⟨⟨by decide +kernel, by decide +kernel⟩, lwb5 186 (by decide +kernel), lwb8 65 (by decide +kernel), lwb8 66 (by decide +kernel)⟩
theorem lw_p91 : lw_okq (⟨"BeardPassModel", "laysSeen", "(II)V"⟩, 57) := ⟨⟨by decide +kernel, by decide +kernel⟩, lwb5 186 (by decide +kernel), lwb8 73 (by decide +kernel), lwb8 74 (by decide +kernel)⟩
noncomputable def lw_privs_6 : List (MethodName × Nat) := [(⟨"BeardPassModel", "reachFrom", "(II)I"⟩, 57), (⟨"BeardPassModel", "spreads", "(II)I"⟩, 57), (⟨"BeardPassModel", "farFrom", "(III)I"⟩, 57), (⟨"BeardPassModel", "whenAt", "(II)I"⟩, 57), (⟨"BeardPassModel", "roams", "(I)Z"⟩, 57), (⟨"BeardPassModel", "needOf", "(II)I"⟩, 57), (⟨"BeardPassModel", "meetsAt", "(I)I"⟩, 57), (⟨"BeardPassModel", "isAsSeen", "(I)Z"⟩, 57), (⟨"BeardPassModel", "livesWeek", "()V"⟩, 57), (⟨"BeardPassModel", "draws", "(I)I"⟩, 57), (⟨"BeardPassModel", "peopled", "()I"⟩, 57), (⟨"BeardPassModel", "laysSeen", "(II)V"⟩, 57)]
theorem lw_r6 : ∀ q ∈ lw_privs_6, lw_okq q := List.forall_mem_cons.mpr ⟨lw_p80, List.forall_mem_cons.mpr ⟨lw_p81, List.forall_mem_cons.mpr ⟨lw_p82, List.forall_mem_cons.mpr ⟨lw_p83, List.forall_mem_cons.mpr ⟨lw_p84, List.forall_mem_cons.mpr ⟨lw_p85, List.forall_mem_cons.mpr ⟨lw_p86, List.forall_mem_cons.mpr ⟨lw_p87, List.forall_mem_cons.mpr ⟨lw_p88, List.forall_mem_cons.mpr ⟨lw_p89, List.forall_mem_cons.mpr ⟨lw_p90, List.forall_mem_cons.mpr ⟨lw_p91, fun _ h => absurd h List.not_mem_nil⟩⟩⟩⟩⟩⟩⟩⟩⟩⟩⟩⟩
noncomputable def lw_privs : List (MethodName × Nat) := lw_privs_1 ++ (lw_privs_2 ++ (lw_privs_3 ++ (lw_privs_4 ++ (lw_privs_5 ++ (lw_privs_6)))))
noncomputable def lw_tbl : List Cond := k2_sels lw_privs ++ tables_1
theorem lw_privs_ok : ∀ q ∈ lw_privs, lw_okq q := by
  show ∀ q ∈ lw_privs_1 ++ (lw_privs_2 ++ (lw_privs_3 ++ (lw_privs_4 ++ (lw_privs_5 ++ (lw_privs_6))))), lw_okq q
  exact List.forall_mem_append.mpr ⟨lw_r1, List.forall_mem_append.mpr ⟨lw_r2, List.forall_mem_append.mpr ⟨lw_r3, List.forall_mem_append.mpr ⟨lw_r4, List.forall_mem_append.mpr ⟨lw_r5, lw_r6⟩⟩⟩⟩⟩
section
/-! ===== BEGIN words of one list among another's, by their places ===== -/
theorem goodIn_r {big : List Cond} (ws : List Cond) (ps : List Nat) (hp : ws = ps.filterMap (fun i => big[i]?)) (h : ws.all goodWord = true) : GoodIn big ws := by
  intro w hw
  have h1 := List.all_eq_true.mp h w hw
  rw [hp] at hw
  obtain ⟨i, -, hi⟩ := List.mem_filterMap.mp hw
  have hm : w ∈ big := by first | exact List.mem_of_getElem? hi | exact List.getElem?_mem hi
  exact ⟨hm, good_of_word h1⟩
theorem goodIn_app {big a b : List Cond} (ha : GoodIn big a) (hb : GoodIn big b) : GoodIn big (a ++ b) := fun w h => (List.mem_append.mp h).elim (ha w) (hb w)
/-! ===== END ===== -/

/-! ===== BEGIN exceptions that leave a method, and their catching by the caller (launches without stack traces) ===== -/
section VXA
/-! The laws vx_back, vx_callV, vx_callS, vx_callSW, vx_throw0, vx_throwS follow proofs of the library, with one case more: JvmDerived/Free/Laws.lean (Back.of_free), Shelf42/LK1.lean (callV, callS), Shelf/KitTraced.lean (throwNew0V, throwNewS). -/
/-- where a method has thrown q: the class by its name, the cell, what was written, the world -/
noncomputable def vx_T (XC : String → State → State → Prop) (st : State) (q : Addr) (t : State) (mc ms : Nat) (free : Addr → Prop) : Prop :=
  ∃ (E : String) (ce : Cell) (L : List Loc), XC E st t ∧ t.heap[q]? = some ce ∧ ce.vm = .none ∧ st.vm.findClass E = some ce.cls ∧ st.WarmedH t.vm ∧ st.sameButNew ({ t with vm := st.vm } : State) L mc ms ∧ ∀ z ∈ L, free z.base
noncomputable def vx_Q (Qc : Array Value → State → Outcome → State → Prop) (XC : String → State → State → Prop) (mc ms : Nat) (free : Addr → Prop) : Array Value → State → Outcome → State → Prop := fun a st o t =>
  (Qc a st o t ∧ ∃ L, FrameEnd st o t L mc ms ∧ ∀ q ∈ L, free q.base) ∨ ∃ q, o = .threw q ∧ vx_T XC st q t mc ms free
/-- a callee that returns or throws -/
noncomputable def vx_Met (l : Launch) (y : MethodName) (ws : List Cond) (rm : Room) (Pc : Array Value → State → Prop) (Qc : Array Value → State → Outcome → State → Prop) (XC : String → State → State → Prop) (mc ms : Nat) (free : Addr → Prop) : Prop :=
  MetFree l y (headSpec ws rm) Pc (fun _ _ _ _ _ => True) (vx_Q Qc XC mc ms free)
noncomputable def vx_Post (XC : String → State → State → Prop) (mc ms : Nat) (free : Addr → Prop) : Pt → Array Value → Addr → Pt → Prop := fun A a q B =>
  ∃ (g : JFrame) (mk : MethodId) (t : State) (L : List Loc) (E : String) (ce : Cell), B.U.heap = t.heap ∧ B.U.vm = t.vm ∧ XC E (A.U.calling g mk a) t ∧ t.heap[q]? = some ce ∧ ce.vm = .none ∧ A.U.vm.findClass E = some ce.cls ∧ B.locs = A.locs ++ L ∧ (∀ z ∈ L, free z.base) ∧ B.cells = A.cells + mc ∧ B.slots = A.slots + ms
noncomputable def vx_Back (l : Launch) (R : Room) (p : Program) (e : Env) (below : List Frame) (s : State) (sargs : Array Value) (y : MethodName) (len W9 : Nat)
    (Pre : Pt → Array Value → Prop) (Post : Pt → Array Value → Option Value → Pt → Prop) (PostX : Pt → Array Value → Addr → Pt → Prop) : Prop :=
  ∀ (m : MethodId) (meth : Method) (c : Code) (A : Pt) (g : JFrame) (ig : Instr) (mk : MethodId) (a : Array Value),
    Stand p l e R s m sargs below meth c A.U A.locs A.cells A.slots → g.method = m → g.locals.size = c.maxLocals → decode c.code g.pc = .ok (ig, len) →
    2 * g.monitorRoom + (g.stack.map fun v => v.category).sum ≤ W9 → A.U.methodNamed? y = some mk → Pre A a →
    (∃ (v : Option Value) (B : Pt), Stand p l e R s m sargs below meth c B.U B.locs B.cells B.slots ∧ Post A a v B ∧
      Steps p.tables e below (doInvoke e (A.U.setTop g) [] mk a).1 (B.U.setTop { g with pc := g.pc + len, stack := v.toList ++ g.stack })) ∨
    (∃ (q : Addr) (B : Pt), Stand p l e R s m sargs below meth c B.U B.locs B.cells B.slots ∧ PostX A a q B ∧
      Steps p.tables e below (doInvoke e (A.U.setTop g) [] mk a).1 ((B.U.setTop g).pushFrame (.throwing q)))
section Payer
variable {l : Launch} {R : Room} {p : Program} {e : Env} {below : List Frame} {s : State} {sargs : Array Value} {y : MethodName} {len W9 : Nat}
theorem vx_back {ws : List Cond} {rm : Room} {Pc : Array Value → State → Prop} {Qc : Array Value → State → Outcome → State → Prop} {XC : String → State → State → Prop} {mc ms : Nat} {free : Addr → Prop} {bytes : ByteArray} {maxL : Nat} {ret : Option FieldType}
    (hM : vx_Met l y ws rm Pc Qc XC mc ms free) (hblind : FrameBlind Pc) (hrc : rm.cells = mc) (hrs : rm.slots = ms)
    (hframes : rm.frames + 1 ≤ R.frames) (hlocals : W9 + (maxL + 11) + rm.locals ≤ R.locals)
    (hws : ∀ w ∈ ws, ∀ a' U, s.WarmedH U.vm → w.before a' U = true) (hcode : Cond.code y bytes maxL ret ∈ ws) (hinit : ∀ a' U, s.WarmedH U.vm → (Cond.initialized y.cls).before a' U = true) :
    vx_Back l R p e below s sargs y len W9 (PreOf R mc ms Pc) (PostOf Qc mc ms free) (vx_Post XC mc ms free) := by
  intro m meth c A g ig mk a X hg hsize hdg hW hn hp
  have h1 : (headSpec ws rm).pre.before a A.U = true := atoms_intro fun w hw => hws w hw _ _ X.warmed
  have h2 : (Cond.code y bytes maxL ret).before a A.U = true := hws _ hcode _ _ X.warmed
  have h3 : (Cond.initialized y.cls).before a A.U = true := hinit _ _ X.warmed
  have h4 : A.cells + (headSpec ws rm).room.cells ≤ R.cells := by rw [show (headSpec ws rm).room.cells = mc from hrc]; exact hp.1
  have h5 : A.slots + (headSpec ws rm).room.slots ≤ R.slots := by rw [show (headSpec ws rm).room.slots = ms from hrs]; exact hp.2.1
  have hPc : Pc a (A.U.calling g mk a) := hblind _ _ _ _ hp.2.2
  obtain ⟨U, Ls, c0, s0⟩ := A
  dsimp only [Pt.U, Pt.locs, Pt.cells, Pt.slots] at h1 h2 h3 h4 h5 X hn hPc ⊢
  obtain ⟨methY, cY, hmY, hcY, -, hlY, -, -, -, -⟩ := Cond.code_spec hn h2
  obtain ⟨kY, hkY, -⟩ := className_of_methodNamed hn
  have hinitY : kY.init = .initialized := Cond.initialized_spec (findClass_of_methodNamed hn) hkY h3
  have h : At U g.method c below := by rw [hg]; exact X.here
  have hlocals9 : W9 + (maxL + 11) + (headSpec ws rm).room.locals ≤ R.locals := hlocals
  have happ : (headSpec ws rm).appliesLoose y e.platform (U.calling g mk a) = true :=
    Spec.appliesLoose_calling (g := g) h hdg hn hkY hinitY
      (X.room_calling (g := g) (R' := (headSpec ws rm).room) hsize hmY hcY hframes (by rw [hlY]; omega) h4 h5) h1
  obtain ⟨mid, hmid⟩ := h.above
  have hfr : (U.setTop g).frames = (.java g :: mid) ++ below := by rw [State.frames_setTop' g h.top, hmid]; rfl
  obtain ⟨o, s₂, hsteps, -, hend, hq⟩ := Steps.callFree hM p X.admits X.cas X.clock (acts := []) hfr happ hPc trivial
  have hq' : vx_Q Qc XC mc ms free a (U.calling g mk a) o s₂ := hq
  rw [State.frames_setTop' g h.top] at hend
  obtain ⟨g₀, hg0⟩ := Option.isSome_iff_exists.mp h.top
  obtain ⟨r, hr⟩ := State.topJava?_eq_some.mp hg0
  have hr' : (({ U with heap := s₂.heap, slotsUsed := s₂.slotsUsed } : State).setVm s₂.vm).frames = .java g₀ :: r := hr
  rcases hq' with ⟨hqc, L, hfe, hL⟩ | ⟨q, rfl, E, ce, L, hx, hce, hcv, hcl, hW₂, hsm, hL⟩
  · obtain ⟨⟨v, rfl⟩, hW₂, e2, q2, q3, q4, q5, q6⟩ := id hfe
    have e3 : s₂ = ({ (U.calling g mk a).setFrames s₂.frames with heap := s₂.heap, slotsUsed := s₂.slotsUsed } : State).setVm s₂.vm := by
      have : s₂ = ({ s₂ with vm := (U.calling g mk a).vm } : State).setVm s₂.vm := rfl
      rw [e2] at this
      exact this
    obtain ⟨c₂, i₂, len₂, hc₂, hd₂, hf₂⟩ := hend
    have hW' : U.WarmedH s₂.vm := hW₂
    have hcc : c₂ = c := by
      have h1 : s₂.code? g.method = U.code? g.method := by
        rw [State.code?_eq, State.code?_eq, hW'.alike.method?]
      exact Option.some.inj (hc₂.symm.trans (h1.trans h.code))
    subst hcc
    have hlen : len₂ = len := by rw [hdg] at hd₂; cases hd₂; rfl
    subst hlen
    have hs₂ : s₂ = (({ U with heap := s₂.heap, slotsUsed := s₂.slotsUsed } : State).setVm s₂.vm).setTop { g with pc := g.pc + len₂, stack := v.toList ++ g.stack } := by
      refine e3.trans ?_
      rw [hf₂, State.calling_eq h.top, State.setFrames_setFrames, State.setTop_of_frames _ hr', hr]
      rfl
    have hsame : U.sameButNew ({ U with heap := s₂.heap, slotsUsed := s₂.slotsUsed } : State) L mc ms := by
      refine ⟨?_, q2, q3, q4, q5, q6⟩
      obtain ⟨t, ht, -⟩ := State.frames_cons hr
      show ({ U with heap := s₂.heap, slotsUsed := s₂.slotsUsed } : State) = { U.setFrames U.frames with heap := s₂.heap, slotsUsed := s₂.slotsUsed }
      rw [State.setFrames_self ht]
    subst hg
    refine Or.inl ⟨v, ⟨(({ U with heap := s₂.heap, slotsUsed := s₂.slotsUsed } : State).setVm s₂.vm), Ls ++ L, c0 + mc, s0 + ms⟩,
      ⟨X.admits, X.cas, X.clock, X.frames, X.room, X.hears, X.method, X.code, (X.here.setHeapUsed s₂.heap s₂.slotsUsed).setVm hW'.alike, X.tail, State.WarmedH.trans X.warmed hW', X.limits, X.bytes, X.same.trans (hsame.setVm s.vm)⟩,
      ⟨g, mk, s₂, L, rfl, rfl, hqc, rfl, hL, rfl, rfl⟩, ?_⟩
    show Steps p.tables e below _ ((({ U with heap := s₂.heap, slotsUsed := s₂.slotsUsed } : State).setVm s₂.vm).setTop { g with pc := g.pc + len₂, stack := v.toList ++ g.stack })
    rw [← hs₂]
    exact hsteps
  · obtain ⟨e2, q2, q3, q4, q5, q6⟩ := id hsm
    have e3 : s₂ = ({ (U.calling g mk a).setFrames s₂.frames with heap := s₂.heap, slotsUsed := s₂.slotsUsed } : State).setVm s₂.vm := by
      have : s₂ = ({ s₂ with vm := (U.calling g mk a).vm } : State).setVm s₂.vm := rfl
      rw [e2] at this
      exact this
    have hf₂ : s₂.frames = .throwing q :: .java g :: U.frames.tail := hend
    have hW' : U.WarmedH s₂.vm := hW₂
    have hs₂ : s₂ = ((({ U with heap := s₂.heap, slotsUsed := s₂.slotsUsed } : State).setVm s₂.vm).setTop g).pushFrame (.throwing q) := by
      refine e3.trans ?_
      rw [hf₂, State.calling_eq h.top, State.setFrames_setFrames, State.pushFrame, State.frames_setTop _ hr', State.setTop_of_frames _ hr', State.setFrames_setFrames, hr]
      rfl
    have hsame : U.sameButNew ({ U with heap := s₂.heap, slotsUsed := s₂.slotsUsed } : State) L mc ms := by
      refine ⟨?_, q2, q3, q4, q5, q6⟩
      obtain ⟨t, ht, -⟩ := State.frames_cons hr
      show ({ U with heap := s₂.heap, slotsUsed := s₂.slotsUsed } : State) = { U.setFrames U.frames with heap := s₂.heap, slotsUsed := s₂.slotsUsed }
      rw [State.setFrames_self ht]
    subst hg
    refine Or.inr ⟨q, ⟨(({ U with heap := s₂.heap, slotsUsed := s₂.slotsUsed } : State).setVm s₂.vm), Ls ++ L, c0 + mc, s0 + ms⟩,
      ⟨X.admits, X.cas, X.clock, X.frames, X.room, X.hears, X.method, X.code, (X.here.setHeapUsed s₂.heap s₂.slotsUsed).setVm hW'.alike, X.tail, State.WarmedH.trans X.warmed hW', X.limits, X.bytes, X.same.trans (hsame.setVm s.vm)⟩,
      ⟨g, mk, s₂, L, E, ce, rfl, rfl, hx, hce, hcv, hcl, rfl, hL, rfl, rfl⟩, ?_⟩
    show Steps p.tables e below _ (((({ U with heap := s₂.heap, slotsUsed := s₂.slotsUsed } : State).setVm s₂.vm).setTop g).pushFrame (.throwing q))
    rw [← hs₂]
    exact hsteps
end Payer
section Calls
variable {p : Program} {l : Launch} {e : Env} {R : Room} {s : State} {m : MethodId} {args : Array Value} {below : List Frame} {meth : Method} {c : Code} {T : State} {locs : List Loc} {cells slots : Nat}
theorem vx_callV (X : Stand p l e R s m args below meth c T locs cells slots) (hexec : p.tables.exec = Jvm.exec) {own C : String} {index : Nat} {y : MethodName} {bytes : ByteArray} {maxL : Nat} {ret : Option FieldType}
    (hown : s.vm.findClass own = some m.cls) (hlink : (Cond.methodLink own index y).before args s = true) (hinst : (Cond.instanceMethod y).before args s = true) (hsel : (Cond.selects C y y).before args s = true)
    (hcode : (Cond.code y bytes maxL ret).before args s = true) (hy : y.cls ≠ "java/lang/invoke/MethodHandle" ∧ y.cls ≠ "java/lang/invoke/VarHandle")
    {W9 : Nat} {Pre : Pt → Array Value → Prop} {Post : Pt → Array Value → Option Value → Pt → Prop} {PostX : Pt → Array Value → Addr → Pt → Prop} (hK : vx_Back l R p e below s args y 3 W9 Pre Post PostX)
    {b : Addr} {cellB : Cell} (hcell : T.heap[b]? = some cellB) (hobj : cellB.vm.isStatics = false) (hcls : s.vm.findClass C = some cellB.cls)
    {g : JFrame} (hg : g.method = m) (hsize : g.locals.size = c.maxLocals) {argsL rest : List Value} (hlen : ∀ sig, parseMethodDescriptor y.desc = some sig → argsL.length = sig.parameters.length)
    (hstack : g.stack = argsL.reverse ++ .ref b :: rest) (hW : 2 * g.monitorRoom + (rest.map fun v => v.category).sum ≤ W9) (hdg : decode c.code g.pc = .ok (.invokevirtual index, 3))
    (hpre : ∀ vm₁, s.WarmedH vm₁ → Pre ⟨T.setVm vm₁, locs, cells, slots⟩ (Value.ref b :: argsL).toArray) :
    (∃ (v : Option Value) (vm₁ : Vm) (B : Pt), s.WarmedH vm₁ ∧ Stand p l e R s m args below meth c B.U B.locs B.cells B.slots ∧ Post ⟨T.setVm vm₁, locs, cells, slots⟩ (Value.ref b :: argsL).toArray v B ∧
      ∀ target, Steps p.tables e below (B.U.setTop { g with pc := g.pc + 3, stack := v.toList ++ rest }) target → Steps p.tables e below (T.setTop g) target) ∨
    (∃ (q : Addr) (vm₁ : Vm) (B : Pt), s.WarmedH vm₁ ∧ Stand p l e R s m args below meth c B.U B.locs B.cells B.slots ∧ PostX ⟨T.setVm vm₁, locs, cells, slots⟩ (Value.ref b :: argsL).toArray q B ∧
      Steps p.tables e below (T.setTop g) ((B.U.setTop { g with stack := rest }).pushFrame (.throwing q))) := by
  obtain ⟨mk, methM, hnamed, hmethM, hstM, habM⟩ := Cond.instanceMethod_spec hinst
  obtain ⟨methM', cM, hmethM', -, -, -, -, -, -, hsigM⟩ := Cond.code_spec hnamed hcode
  cases hmethM.symm.trans hmethM'
  obtain ⟨c2, r2, m2, q1, q2, q3, q4, kP, hkP, hkPi⟩ := Cond.selects_spec hsel
  cases hcls.symm.trans q1
  cases (State.methodFound?_of_named hnamed hy).symm.trans q2
  cases hnamed.symm.trans q3
  have hselP : selectMethod e.platform s.vm cellB.cls mk = .method mk := by rw [Launch.admits_selectMethod X.admits]; exact q4
  obtain ⟨vm₁, X₁, hstep₁⟩ := X.invokevirtual hexec hown hlink hnamed hmethM hstM hkP hkPi hy (a := b) (cell := cellB) hcell
    (fun z h => by rw [h] at hobj; cases hobj) hselP hmethM habM hkP hkPi (g := g) hg (argsL := argsL) (rest := rest) (hlen _ hsigM) hstack hdg
  rcases hK m meth c ⟨T.setVm vm₁, locs, cells, slots⟩ { g with stack := rest } (.invokevirtual index) mk (Value.ref b :: argsL).toArray X₁ hg hsize hdg hW (X₁.named hnamed) (hpre vm₁ X₁.warmed) with ⟨v, B, X', hpost, hsteps⟩ | ⟨q, B, X', hpost, hsteps⟩
  · exact Or.inl ⟨v, vm₁, B, X₁.warmed, X', hpost, fun target h => hstep₁ _ fun acts => by rw [doInvoke_state]; exact hsteps.trans h⟩
  · exact Or.inr ⟨q, vm₁, B, X₁.warmed, X', hpost, hstep₁ _ fun acts => by rw [doInvoke_state]; exact hsteps⟩
theorem vx_callS (X : Stand p l e R s m args below meth c T locs cells slots) (hexec : p.tables.exec = Jvm.exec) {own : String} {index : Nat} {y : MethodName} {bytes : ByteArray} {maxL : Nat} {ret : Option FieldType}
    (hown : s.vm.findClass own = some m.cls) (hlink : (Cond.methodLink own index y).before args s = true) (hstat : (Cond.static y).before args s = true) (hinit : (Cond.initialized y.cls).before args s = true)
    (hcode : (Cond.code y bytes maxL ret).before args s = true) (hy : y.cls ≠ "java/lang/invoke/MethodHandle" ∧ y.cls ≠ "java/lang/invoke/VarHandle")
    {W9 : Nat} {Pre : Pt → Array Value → Prop} {Post : Pt → Array Value → Option Value → Pt → Prop} {PostX : Pt → Array Value → Addr → Pt → Prop} (hK : vx_Back l R p e below s args y 3 W9 Pre Post PostX)
    {g : JFrame} (hg : g.method = m) (hsize : g.locals.size = c.maxLocals) {argsL rest : List Value} (hlen : ∀ sig, parseMethodDescriptor y.desc = some sig → argsL.length = sig.parameters.length)
    (hstack : g.stack = argsL.reverse ++ rest) (hW : 2 * g.monitorRoom + (rest.map fun v => v.category).sum ≤ W9) (hdg : decode c.code g.pc = .ok (.invokestatic index, 3))
    (hpre : ∀ vm₁, s.WarmedH vm₁ → Pre ⟨T.setVm vm₁, locs, cells, slots⟩ argsL.toArray) :
    (∃ (v : Option Value) (vm₁ : Vm) (B : Pt), s.WarmedH vm₁ ∧ Stand p l e R s m args below meth c B.U B.locs B.cells B.slots ∧ Post ⟨T.setVm vm₁, locs, cells, slots⟩ argsL.toArray v B ∧
      ∀ target, Steps p.tables e below (B.U.setTop { g with pc := g.pc + 3, stack := v.toList ++ rest }) target → Steps p.tables e below (T.setTop g) target) ∨
    (∃ (q : Addr) (vm₁ : Vm) (B : Pt), s.WarmedH vm₁ ∧ Stand p l e R s m args below meth c B.U B.locs B.cells B.slots ∧ PostX ⟨T.setVm vm₁, locs, cells, slots⟩ argsL.toArray q B ∧
      Steps p.tables e below (T.setTop g) ((B.U.setTop { g with stack := rest }).pushFrame (.throwing q))) := by
  obtain ⟨mk, hnamed⟩ := Cond.code_named hcode
  obtain ⟨methM, cM, hmethM, -, -, -, -, -, -, hsigM⟩ := Cond.code_spec hnamed hcode
  have hstatic : methM.isStatic = true := Cond.static_spec hnamed hmethM hstat
  obtain ⟨kP, hkP, -⟩ := className_of_methodNamed hnamed
  have hinitP : kP.init = .initialized := Cond.initialized_spec (findClass_of_methodNamed hnamed) hkP hinit
  obtain ⟨vm₁, X₁, hstep₁⟩ := X.invokestatic hexec hown hlink hnamed hmethM hstatic hkP hinitP hy (g := g) hg (argsL := argsL) (rest := rest) (hlen _ hsigM) hstack hdg
  rcases hK m meth c ⟨T.setVm vm₁, locs, cells, slots⟩ { g with stack := rest } (.invokestatic index) mk argsL.toArray X₁ hg hsize hdg hW (X₁.named hnamed) (hpre vm₁ X₁.warmed) with ⟨v, B, X', hpost, hsteps⟩ | ⟨q, B, X', hpost, hsteps⟩
  · exact Or.inl ⟨v, vm₁, B, X₁.warmed, X', hpost, fun target h => hstep₁ _ fun acts => by rw [doInvoke_state]; exact hsteps.trans h⟩
  · exact Or.inr ⟨q, vm₁, B, X₁.warmed, X', hpost, hstep₁ _ fun acts => by rw [doInvoke_state]; exact hsteps⟩
end Calls
theorem vx_cls {s : State} {T : State} {vm₁ : Vm} {E : String} {k : ClassId} (hW : s.WarmedH vm₁) (h : (T.setVm vm₁).vm.findClass E = some k) : s.vm.findClass E = some k := by
  have h1 : vm₁.findClass E = some k := h
  rw [hW.alike.findClass] at h1
  exact h1
/-- the method's frame g, with q thrown over it -/
noncomputable def vx_W (p : Program) (l : Launch) (e : Env) (R : Room) (s : State) (m : MethodId) (args : Array Value) (below : List Frame) (meth : Method) (c : Code) (H : Heap) (locs : List Loc) (cells slots : Nat) (Q : State → Prop) (g : JFrame) (q : Addr) : Prop :=
  ∀ T : State, T.heap = H → Stand p l e R s m args below meth c T locs cells slots → ∃ t, Steps p.tables e below ((T.setTop g).pushFrame (.throwing q)) t ∧ Q t
noncomputable def vx_Run (p : Program) (l : Launch) (e : Env) (R : Room) (s : State) (m : MethodId) (args : Array Value) (below : List Frame) (meth : Method) (c : Code) (H : Heap) (locs : List Loc) (cells slots mc ms : Nat) (g : JFrame) (rest : List Value) (Qa : State → Outcome → State → Prop) (XC : String → State → State → Prop) (free : Addr → Prop) : Prop :=
  ∀ T : State, T.heap = H → Stand p l e R s m args below meth c T locs cells slots →
    (∃ (v : Option Value) (st₀ t T' : State) (L : List Loc), st₀.heap = H ∧ Stand p l e R s m args below meth c T' (locs ++ L) (cells + mc) (slots + ms) ∧ (∀ q ∈ L, free q.base) ∧ T'.heap = t.heap ∧ T'.vm = t.vm ∧ Qa st₀ (.returned v) t ∧
      Goes p e below T g T' { g with pc := g.pc + 3, stack := v.toList ++ rest }) ∨
    (∃ (q : Addr) (st₀ t T' : State) (L : List Loc) (E : String) (ce : Cell), st₀.heap = H ∧ Stand p l e R s m args below meth c T' (locs ++ L) (cells + mc) (slots + ms) ∧ (∀ z ∈ L, free z.base) ∧ T'.heap = t.heap ∧ T'.vm = t.vm ∧ XC E st₀ t ∧ t.heap[q]? = some ce ∧ ce.vm = .none ∧ s.vm.findClass E = some ce.cls ∧
      Steps p.tables e below (T.setTop g) ((T'.setTop { g with stack := rest }).pushFrame (.throwing q)))
noncomputable def vx_X {S : Type} (px : S → Prop) (B : String → S → State → Prop) (A : Nat → Prop) : String → State → State → Prop := fun E st t => ∃ u : S, px u ∧ B E u t ∧ va_F A st t
section Runs
variable {p : Program} {l : Launch} {e : Env} {R : Room} {s : State} {m : MethodId} {args : Array Value} {below : List Frame} {meth : Method} {c : Code} {H : Heap} {locs : List Loc} {cells slots : Nat}
variable {y : MethodName} {bytes cc : ByteArray} {maxL nL mc ms n index : Nat} {ret : Option FieldType} {ws : List Cond} {rm : Room} {Pc : Array Value → State → Prop} {Qc : Array Value → State → Outcome → State → Prop} {XC : String → State → State → Prop} {free : Addr → Prop} {Ts : List Cond} {own C : String} {b : Addr} {As rest : List Value} {g : JFrame}
theorem vx_callBack (cb : CallB R s args own index y bytes maxL ret ws rm mc ms n) (hM : vx_Met l y ws rm Pc Qc XC mc ms free) (hbl : FrameBlind Pc) : vx_Back l R p e below s args y 3 8 (PreOf R mc ms Pc) (PostOf Qc mc ms free) (vx_Post XC mc ms free) := by
  obtain ⟨hrc, hrs, hfr, hlo, hws, hcw, -, hini, -⟩ := cb
  exact vx_back (bytes := bytes) (maxL := maxL) (ret := ret) hM hbl hrc hrs hfr hlo hws hcw (fun a' U hW => word_at hW (Or.inl (by first | rfl | simp [Cond.onTables, Cond.keeps, Cond.steady])) hini)
theorem vx_runV (S : CallFix p m c cc nL s args Ts own) (hM : vx_Met l y ws rm Pc Qc XC mc ms free) (cw : CallW R s args own C index y bytes maxL ret ws rm mc ms n) (hp : PreV s H C b Pc As)
    (hg : g.method = m) (hn : As.length = n) (hsize : g.locals.size = nL) (hstack : g.stack = As.reverse ++ .ref b :: rest) (hW : 2 * g.monitorRoom + (rest.map fun v => v.category).sum ≤ 8) (hdg : decode cc g.pc = .ok (.invokevirtual index, 3)) (hf : cells + mc ≤ R.cells ∧ slots + ms ≤ R.slots) :
    vx_Run p l e R s m args below meth c H locs cells slots mc ms g rest (Qc (Value.ref b :: As).toArray) XC free := by
  have hK : vx_Back l R p e below s args y 3 8 (PreOf R mc ms Pc) (PostOf Qc mc ms free) (vx_Post XC mc ms free) := vx_callBack cw.1 hM hp.1
  obtain ⟨⟨-, -, -, -, -, -, hcode, -, hy, hlen, hl⟩, hin, hse⟩ := cw
  obtain ⟨hx, hb, hml, ho, -⟩ := S
  obtain ⟨-, ⟨cellB, hcB, hoB, hclB⟩, hPc⟩ := hp
  intro T hT X
  rcases vx_callV X hx (C := C) (bytes := bytes) (maxL := maxL) (ret := ret) ho hl hin hse hcode hy hK (by rw [hT]; exact hcB) hoB hclB hg (hsize.trans hml.symm) (argsL := As) (rest := rest) (fun sig h => hn.trans (hlen sig h)) hstack hW (by rw [hb]; exact hdg)
    (fun vm₁ hW₁ => ⟨hf.1, hf.2, hPc (T.setVm vm₁) hT hW₁⟩) with ⟨v, vm₁, ⟨U', l2, c2, s2⟩, hW₁, X', ⟨g', mk, t, L, e1, e2, hq, h1, hL, h2, h3⟩, st⟩ | ⟨q, vm₁, ⟨U', l2, c2, s2⟩, hW₁, X', ⟨g', mk, t, L, E, ce, e1, e2, hq, hce, hcv, hcl, h1, hL, h2, h3⟩, st⟩
  · dsimp only [Pt.U, Pt.locs, Pt.cells, Pt.slots] at X' e1 e2 h1 h2 h3 st
    subst h1; subst h2; subst h3
    exact Or.inl ⟨v, (T.setVm vm₁).calling g' mk (Value.ref b :: As).toArray, t, U', L, hT, X', hL, e1, e2, hq, st⟩
  · dsimp only [Pt.U, Pt.locs, Pt.cells, Pt.slots] at X' e1 e2 h1 h2 h3 st hcl
    subst h1; subst h2; subst h3
    exact Or.inr ⟨q, (T.setVm vm₁).calling g' mk (Value.ref b :: As).toArray, t, U', L, E, ce, hT, X', hL, e1, e2, hq, hce, hcv, vx_cls hW₁ hcl, st⟩
end Runs
section Rows
variable {p : Program} {l : Launch} {e : Env} {R : Room} {s : State} {m : MethodId} {args : Array Value} {below : List Frame} {meth : Method} {c : Code} {H : Heap} {locs : List Loc} {cells slots : Nat} {Q : State → Prop}
variable {mc ms : Nat} {free : Addr → Prop} {A0 A1 : Nat → Prop} {H0 : Heap} {a : Array Value} {pc : Nat} {ls : Array Slot} {st0 rest : List Value}
theorem vx_keep {st₀ t T' : State} {L : List Loc} (h0 : st₀.heap = H) (e1 : T'.heap = t.heap) (hS : va_S A0 H0 H locs) (hA : ∀ q, q < H.size → A1 q → A0 q) (hf : ∀ q, free q → A0 q) (hL : ∀ q ∈ L, free q.base) (hF : va_F A1 st₀ t) :
    H.size ≤ T'.heap.size ∧ (∀ q : Nat, q < H.size → ¬ A1 q → T'.heap[q]? = H[q]?) ∧ va_S A0 H0 T'.heap (locs ++ L) := by
  obtain ⟨hz, hk⟩ := hF
  rw [h0] at hz hk
  exact ⟨by rw [e1]; exact hz, fun q h1 h2 => by rw [e1]; exact hk q h1 h2,
    ⟨Nat.le_trans hS.1 (by rw [e1]; exact hz), fun q h1 h2 => by rw [e1, hk q (Nat.lt_of_lt_of_le h1 hS.1) (fun z => h2 (hA q (Nat.lt_of_lt_of_le h1 hS.1) z))]; exact hS.2.1 q h1 h2, fun q hq => by
      rcases List.mem_append.mp hq with h | h
      · exact hS.2.2 q h
      · exact hf _ (hL q h)⟩⟩
/-- caught by the row x of this method's table; the rows ahead don't take it -/
theorem vx_catch {own name : String} {E : String} {ce : Cell} {q : Addr} (hown : s.vm.findClass own = some m.cls) (pre : List ExceptionTableEntry) (x : ExceptionTableEntry) (suf : List ExceptionTableEntry) (hsplit : c.exceptionTable.toList = pre ++ x :: suf)
    (hpass : ∀ z ∈ pre, covers z pc = false ∨ (z.catchType ≠ 0 ∧ ∃ nm : String, (Cond.classLink own z.catchType nm).before args s = true ∧ va_Nc E nm s)) (hx : covers x pc = true) (h0 : x.catchType ≠ 0)
    (hlink : (Cond.classLink own x.catchType name).before args s = true) (hcast : (Cond.castable E name).before args s = true) (hcell : H[q]? = some ce) (hv : ce.vm = .none) (hcl : s.vm.findClass E = some ce.cls)
    (kk : W p l e R s m args below meth c H locs cells slots Q (F0 m x.handlerPc ls [.ref q])) : vx_W p l e R s m args below meth c H locs cells slots Q (F0 m pc ls rest) q := by
  intro T hT X
  have hpl : e.platform.magicAccessors = ({} : Platform).magicAccessors := by rw [X.admits.platform]
  obtain ⟨c3, c4, hc3, hc4, hasg⟩ := Cond.castable_spec hcast
  cases Option.some.inj (hc3.symm.trans hcl)
  obtain ⟨c5, hc5, hcl5⟩ := Cond.classLink_spec hown hlink e.platform hpl
  cases Option.some.inj (hc4.symm.trans hc5)
  obtain ⟨vm', X', st⟩ := Stand.thenCaughtThrough X q (g := F0 m pc ls rest) rfl (Steps.refl _) (by rw [hT]; exact hcell) (by rw [hv]; rfl) (by obtain ⟨k9, h9, -⟩ := Vm.findClass_spec hcl; exact ⟨k9, h9⟩) pre x suf hsplit
    (fun z hz => by
      rcases hpass z hz with h | ⟨hz0, nm, hl1, hn1⟩
      · exact Or.inl h
      · obtain ⟨c6, hc6, hcl6⟩ := Cond.classLink_spec hown hl1 e.platform hpl
        obtain ⟨a8, b8, h1, h2, h3⟩ := hn1
        cases Option.some.inj (h1.symm.trans hcl)
        cases Option.some.inj (h2.symm.trans hc6)
        exact Or.inr ⟨hz0, _, hcl6, h3⟩) hx (Or.inr ⟨h0, c4, hcl5, hasg⟩)
  obtain ⟨t, a1, b1⟩ := kk (T.setVm vm') hT X'
  exact ⟨t, st.trans a1, b1⟩
end Rows
section Ends
variable {p : Program} {l : Launch} {e : Env} {R : Room} {s : State} {m : MethodId} {args : Array Value} {below : List Frame} {meth : Method} {c : Code} {H : Heap} {locs : List Loc} {cells slots : Nat} {Q : State → Prop}
variable {mc ms : Nat} {free : Addr → Prop} {A0 A1 : Nat → Prop} {H0 : Heap} {a : Array Value} {ls : Array Slot} {st0 rest : List Value}
variable {Qc : Array Value → State → Outcome → State → Prop} {XC : String → State → State → Prop}
/-- what a body that may throw owes at its end -/
noncomputable def vx_MQ (below : List Frame) (Qc : Array Value → State → Outcome → State → Prop) (XC : String → State → State → Prop) (a : Array Value) (s : State) (mc ms : Nat) (free : Addr → Prop) : State → Prop := fun t =>
  ∃ o, t.status = .running ∧ Ended t below o ∧ vx_Q Qc XC mc ms free a s o t
theorem vx_ret {g : JFrame} {mc ms : Nat} (k : W p l e R s m args below meth c H locs cells slots (MQ below Qc args s mc ms free) g) : W p l e R s m args below meth c H locs cells slots (vx_MQ below Qc XC args s mc ms free) g := by
  intro T hT X
  obtain ⟨t, a1, o, b1, b2, b3, b4⟩ := k T hT X
  exact ⟨t, a1, o, b1, b2, Or.inl ⟨b3, b4⟩⟩
theorem vx_frame {U : State} {k n : Nat} (h : s.sameButNew ({ U with vm := s.vm } : State) locs k n) : s.heap.size ≤ U.heap.size ∧ ∀ q : Nat, q < s.heap.size → (∀ z ∈ locs, z.base ≠ q) → U.heap[q]? = s.heap[q]? := by
  obtain ⟨-, h2, -, -, -, h6⟩ := h
  refine ⟨h2, fun q hq hz => ?_⟩
  obtain ⟨c9, e1, e2, e3, e4⟩ := h6 q _ (Array.getElem?_eq_getElem hq)
  have hs : c9.slots = (s.heap[q]).slots := Array.ext_getElem? fun i => e4 i fun hm => hz _ hm rfl
  have h9 : c9 = s.heap[q] := by
    rw [hs] at e2
    exact e2
  have e5 : U.heap[q]? = some c9 := e1
  rw [e5, h9, Array.getElem?_eq_getElem hq]
/-- the words of a throw but the four that speak of the heap -/
noncomputable def vx_no (w : Cond) : Bool := decide (w ≠ .isRef (.static Bundle.tN "UNASSIGNED_STACK" Bundle.steD)) && decide (w ≠ .isRef (.static Bundle.tN "SUPPRESSED_SENTINEL" Bundle.listD)) && decide (w ≠ .laysStatic Bundle.tN "UNASSIGNED_STACK" Bundle.steD) && decide (w ≠ .laysStatic Bundle.tN "SUPPRESSED_SENTINEL" Bundle.listD)
noncomputable def vx_at0 (own : String) (ic : Nat) (X : String) (names : List String) : List Cond := (Bundle.ownAtoms0 own ic X names).filter vx_no
noncomputable def vx_atS (own : String) (ic : Nat) (X : String) (names : List String) : List Cond := (Bundle.ownAtoms own ic X names).filter vx_no
/-- a word that the tables alone decide, or a good one -/
noncomputable def vx_ot (w : Cond) : Bool := w.onTables || goodWord w
theorem vx_ot_at {args a' : Array Value} {s U : State} {w : Cond} (hW : s.WarmedH U.vm) (hvm : s.vm = U.vm) (hg : vx_ot w = true) (h : w.before args s = true) : w.before a' U = true := by
  simp only [vx_ot, Bool.or_eq_true] at hg
  rcases hg with hg | hg
  · exact va_tabs hg hvm h
  · exact word_at hW (good_of_word hg) h
theorem vx_own {args : Array Value} {s : State} {L : List Cond} (h1 : ∀ w ∈ L.filter vx_no, w.before args s = true)
    (hU : (Cond.isRef (.static Bundle.tN "UNASSIGNED_STACK" Bundle.steD)).before args s = true) (hN : (Cond.isRef (.static Bundle.tN "SUPPRESSED_SENTINEL" Bundle.listD)).before args s = true)
    (lU : (Cond.laysStatic Bundle.tN "UNASSIGNED_STACK" Bundle.steD).before args s = true) (lN : (Cond.laysStatic Bundle.tN "SUPPRESSED_SENTINEL" Bundle.listD).before args s = true) : ∀ w ∈ L, w.before args s = true := by
  intro w hw
  by_cases e1 : w = .isRef (.static Bundle.tN "UNASSIGNED_STACK" Bundle.steD)
  · rw [e1]; exact hU
  · by_cases e2 : w = .isRef (.static Bundle.tN "SUPPRESSED_SENTINEL" Bundle.listD)
    · rw [e2]; exact hN
    · by_cases e3 : w = .laysStatic Bundle.tN "UNASSIGNED_STACK" Bundle.steD
      · rw [e3]; exact lU
      · by_cases e4 : w = .laysStatic Bundle.tN "SUPPRESSED_SENTINEL" Bundle.listD
        · rw [e4]; exact lN
        · exact h1 w (List.mem_filter.mpr ⟨hw, by unfold vx_no; rw [decide_eq_true e1, decide_eq_true e2, decide_eq_true e3, decide_eq_true e4]; rfl⟩)
/-- where a static field lies, its class's statics cell in H -/
noncomputable def vx_L (C n d : String) (A : Nat → Prop) (U : State) (H : Heap) : Prop := ∃ (c : ClassId) (k : Class) (i : Nat) (f : Field) (a : Nat) (cell : Cell), U.vm.findClass C = some c ∧ U.fieldFound? C n d = some (c, k, i, f) ∧ f.isStatic = true ∧ k.statics = some a ∧ H[a]? = some cell ∧ cell.vm.isStatics = true ∧ cell.cls = c ∧ f.slot < cell.slots.size ∧ k.staticTypes[f.slot]? = some f.type ∧ ¬ A a
theorem vx_L.moved {C n d : String} {A : Nat → Prop} {u U : State} {H : Heap} (hvm : u.vm.Alike U.vm) (h : vx_L C n d A u H) : vx_L C n d A U H := by
  obtain ⟨c, k, i, f, a, cell, h1, h2, h3, h4, h5, h6, h7, h8, h9, h10⟩ := h
  obtain ⟨k', hi', he⟩ := State.fieldFound?_setVm hvm h2
  exact ⟨c, k', i, f, a, cell, by rw [hvm.findClass]; exact h1, hi', h3, by rw [he]; exact h4, h5, h6, h7, h8, by rw [he]; exact h9, h10⟩
theorem vx_L.kept {C n d : String} {A : Nat → Prop} {U : State} {H H1 : Heap} (h : vx_L C n d A U H) (hq : ∀ a : Nat, a < H.size → ¬ A a → H1[a]? = H[a]?) : vx_L C n d A U H1 := by
  obtain ⟨c, k, i, f, a, cell, h1, h2, h3, h4, h5, h6, h7, h8, h9, h10⟩ := h
  exact ⟨c, k, i, f, a, cell, h1, h2, h3, h4, by rw [hq a (Array.getElem?_eq_some_iff.mp h5).1 h10]; exact h5, h6, h7, h8, h9, h10⟩
theorem vx_L.narrow {C n d : String} {A B : Nat → Prop} {U : State} {H : Heap} (h : vx_L C n d A U H) (hAB : ∀ q, B q → A q) : vx_L C n d B U H := by
  obtain ⟨c, k, i, f, a, cell, h1, h2, h3, h4, h5, h6, h7, h8, h9, h10⟩ := h
  exact ⟨c, k, i, f, a, cell, h1, h2, h3, h4, h5, h6, h7, h8, h9, fun z => h10 (hAB _ z)⟩
theorem vx_L.word {C n d : String} {A : Nat → Prop} {s : State} {args : Array Value} (h : vx_L C n d A s s.heap) : (Cond.laysStatic C n d).before args s = true := by
  obtain ⟨c, k, i, f, a, cell, h1, h2, h3, h4, h5, h6, h7, h8, h9, -⟩ := h
  show (Cond.laysStatic C n d).holds args s none s [] = true
  exact Cond.laysStatic_of h1 h2 h3 h4 h5 h6 h7 h8 h9
/-- .. and what it holds: null or some reference -/
noncomputable def vx_Zq (C n d : String) (A : Nat → Prop) (U : State) (H : Heap) : Prop := va_Zq C n d A U H ∧ vx_L C n d A U H
theorem vx_Zq.moved {C n d : String} {A : Nat → Prop} {u U : State} {H : Heap} (hvm : u.vm.Alike U.vm) (h : vx_Zq C n d A u H) : vx_Zq C n d A U H := ⟨va_Zq.moved hvm h.1, vx_L.moved hvm h.2⟩
theorem vx_Zq.kept {C n d : String} {A : Nat → Prop} {U : State} {H H1 : Heap} (h : vx_Zq C n d A U H) (hq : ∀ a : Nat, a < H.size → ¬ A a → H1[a]? = H[a]?) : vx_Zq C n d A U H1 := ⟨va_Zq.kept h.1 hq, vx_L.kept h.2 hq⟩
theorem vx_Zq.narrow {C n d : String} {A B : Nat → Prop} {U : State} {H : Heap} (h : vx_Zq C n d A U H) (hAB : ∀ q, B q → A q) : vx_Zq C n d B U H := ⟨va_Zq.narrow h.1 hAB, vx_L.narrow h.2 hAB⟩
theorem vx_Zqof {args : Array Value} {s : State} {C n d : String} {A : Nat → Prop} (hl : (Cond.laysStatic C n d).before args s = true) (hini : (Cond.initialized C).before args s = true) (h : (Cond.isRef (.static C n d)).before args s = true) (hA : ∀ a : Nat, a < s.heap.size → ¬ A a) : vx_Zq C n d A s s.heap := by
  refine ⟨va_Zqof hl hini h hA, ?_⟩
  obtain ⟨c, k, i, f, a, cell, h1, h2, h3, h4, h5, h6, h7, h8, h9⟩ := Cond.laysStatic_spec hl
  exact ⟨c, k, i, f, a, cell, h1, h2, h3, h4, h5, h6, h7, h8, h9, hA a (Array.getElem?_eq_some_iff.mp h5).1⟩
theorem vx_isRef {C n d : String} {v : Value} {A : Nat → Prop} {s : State} {args : Array Value} (h : va_Z C n d v A s s.heap) (hv : v.isRef = true) : (Cond.isRef (.static C n d)).before args s = true := by
  obtain ⟨cf, kf, fi, f, a, cell, h1, h2, h3, h4, h5, h6, h7, -⟩ := h
  have he : (Term.static C n d).eval args s none [] s = some v := by
    simp [Term.eval, State.fieldNamed?, h1, h2, h4, h5, h6, h7]
  simp only [Cond.before, Cond.holds, Cond.value, he]
  cases v <;> simp_all [Value.isRef]
theorem vx_isRefq {C n d : String} {A : Nat → Prop} {s : State} {args : Array Value} (h : va_Zq C n d A s s.heap) : (Cond.isRef (.static C n d)).before args s = true := by
  rcases h with h | ⟨t, h⟩
  · exact vx_isRef h rfl
  · exact vx_isRef h rfl
/-- the same frame, seen from here: as if the method were called anew in this heap -/
theorem vx_rebase {T : State} (X : Stand p l e R s m args below meth c T locs cells slots) {R' : Room} (hf : R'.frames ≤ R.frames) (hl : R'.locals ≤ R.locals) (hc : cells + R'.cells ≤ R.cells) (hs : slots + R'.slots ≤ R.slots) :
    Stand p l e R' ((T.setVm s.vm).setFrames (.invoking m args :: below)) m args below meth c T [] 0 0 := by
  have htop : (T.setVm s.vm).topJava?.isSome := X.here.top
  have hF : ((T.setVm s.vm).setFrames (.invoking m args :: below)).frames = .invoking m args :: below := State.frames_setFrames _ (State.cur_lt_of_top htop)
  obtain ⟨g₀, hg0⟩ := Option.isSome_iff_exists.mp htop
  obtain ⟨r, hr⟩ := State.topJava?_eq_some.mp hg0
  have hl9 : e.platform.stackLimits (T.setVm s.vm).me = e.platform.stackLimits s.me := X.limits
  have hb9 : (T.setVm s.vm).me.stackBytes = s.me.stackBytes := X.bytes
  refine ⟨X.admits, X.cas, X.clock, hF, ?_, X.hears, X.method, X.code, X.here, X.tail, X.warmed, ?_, ?_, ?_⟩
  · have h := X.room
    have hU : ((T.setVm s.vm).setFrames (.invoking m args :: below)).localsInUse = s.localsInUse := by
      rw [State.localsInUse_invoking hF (meth := meth) (c := c) X.method X.code, State.localsInUse_invoking X.frames X.method X.code]
    simp only [State.hasRoom, Bool.and_eq_true, decide_eq_true_eq] at h ⊢
    obtain ⟨⟨⟨⟨h1, h2, h3, h4, h5, h6⟩, h7⟩, h8⟩, h9⟩ := h
    rw [X.frames, List.length_cons] at h2 h3
    have q1 := X.heapSize
    have q2 := X.used
    simp only [hF, hU, List.length_cons, State.stackLimits_setFrames, State.stackBytes_setFrames, hl9, hb9]
    refine ⟨⟨⟨⟨by omega, by omega, by omega, by omega, by omega, h6⟩, ?_⟩, ?_⟩, X.book⟩
    · show T.heap.size + R'.cells ≤ e.platform.maxCells
      omega
    · show T.slotsUsed + R'.slots ≤ e.platform.maxSlots
      omega
  · rw [State.stackLimits_setFrames]; rfl
  · rw [State.stackBytes_setFrames]; rfl
  · refine ⟨?_, Nat.le_refl _, Nat.le_refl _, ?_, ?_, fun a c9 h9 => ⟨c9, h9, rfl, rfl, fun _ _ => rfl⟩⟩
    · obtain ⟨t, ht, -⟩ := State.frames_cons hr
      show T.setVm s.vm = { ((T.setVm s.vm).setFrames (.invoking m args :: below)).setFrames (T.setVm s.vm).frames with heap := T.heap, slotsUsed := T.slotsUsed }
      rw [State.setFrames_setFrames, State.setFrames_self ht]
      rfl
    · show T.slotsUsed = T.slotsUsed + ((T.heap.toList.drop T.heap.size).map (·.slots.size)).sum
      rw [List.drop_eq_nil_of_le (Nat.le_of_eq Array.length_toList)]
      rfl
    · show ((T.heap.toList.drop T.heap.size).map (·.slots.size)).sum ≤ 0
      rw [List.drop_eq_nil_of_le (Nat.le_of_eq Array.length_toList)]
      exact Nat.le_refl _
/-- 'throw new E()': new; dup; invokespecial; athrow -/
theorem vx_throw0 {cc : ByteArray} {pc : Nat} (hexec : p.tables.exec = Jvm.exec) (hb : c.code = cc) (hl : l.stackTraces = false) {own cls : String} {names : List String} {ik ic mc ms : Nat} {A : Nat → Prop}
    (hown : s.vm.findClass own = some m.cls) (hcls : Bundle.fit cls = true) (hnames : ∀ n ∈ names, Bundle.fit n = true)
    (hk : (Cond.classLink own ik cls).before args s = true) (hini : (Cond.initialized cls).before args s = true) (hat : ∀ w ∈ vx_at0 own ic cls names, w.before args s = true)
    (hgood : ∀ w ∈ Cond.classLink own ik cls :: Cond.initialized cls :: vx_at0 own ic cls names, vx_ot w = true)
    (hU : vx_Zq Bundle.tN "UNASSIGNED_STACK" Bundle.steD A s s.heap) (hN : vx_Zq Bundle.tN "SUPPRESSED_SENTINEL" Bundle.listD A s s.heap) (hS : va_S A s.heap H locs) (hsize : ls.size = c.maxLocals)
    (d0 : decode cc pc = .ok (.new ik, 3)) (d3 : decode cc (pc + 3) = .ok (.dup, 1)) (d4 : decode cc (pc + 4) = .ok (.invokespecial ic, 3)) (d7 : decode cc (pc + 7) = .ok (.athrow, 1))
    (hout : ∀ x ∈ c.exceptionTable.toList, covers x (pc + 7) = false)
    (hRframes : names.length + 3 < R.frames) (hRlocals : (rest.map fun v => v.category).sum + (13 * (names.length + 1) + 42) ≤ R.locals) (hRcells : cells + 1 ≤ R.cells) (hRslots : slots + 6 ≤ R.slots) (hlocks : meth.locks = false)
    (hx : ∀ t : State, s.vm.Alike t.vm → H.size ≤ t.heap.size → (∀ q : Nat, q < H.size → t.heap[q]? = H[q]?) → XC cls s t)
    (hf : ∀ z ∈ locs, free z.base) (hc : cells + 1 ≤ mc) (hs : slots + 6 ≤ ms) :
    W p l e R s m args below meth c H locs cells slots (vx_MQ below Qc XC args s mc ms free) (F0 m pc ls rest) := by
  intro T hT X
  have htr : e.platform.stackTraces = false := (show e.platform.stackTraces = l.stackTraces by rw [X.admits.platform]).trans hl
  have Y := vx_rebase X (R' := { frames := R.frames, locals := R.locals, cells := 1, slots := 6 }) (Nat.le_refl _) (Nat.le_refl _) hRcells hRslots
  obtain ⟨s', hA⟩ : ∃ z, z = (T.setVm s.vm).setFrames (.invoking m args :: below) := ⟨_, rfl⟩
  rw [← hA] at Y
  have hvm : s'.vm = s.vm := by rw [hA]; rfl
  have hhp : s'.heap = H := by rw [hA]; exact hT
  have hW0 : s.WarmedH s'.vm := by rw [hvm]; exact State.WarmedH.refl s
  have hat' : ∀ w ∈ vx_at0 own ic cls names, w.before args s' = true := fun w hw => vx_ot_at hW0 hvm.symm (hgood w (List.mem_cons_of_mem _ (List.mem_cons_of_mem _ hw))) (hat w hw)
  have hk' : (Cond.classLink own ik cls).before args s' = true := vx_ot_at hW0 hvm.symm (hgood _ List.mem_cons_self) hk
  have hini' : (Cond.initialized cls).before args s' = true := vx_ot_at hW0 hvm.symm (hgood _ (List.mem_cons_of_mem _ List.mem_cons_self)) hini
  have hU' : vx_Zq Bundle.tN "UNASSIGNED_STACK" Bundle.steD A s' s'.heap := by rw [hhp]; exact vx_Zq.moved hW0.alike (hU.kept hS.2.1)
  have hN' : vx_Zq Bundle.tN "SUPPRESSED_SENTINEL" Bundle.listD A s' s'.heap := by rw [hhp]; exact vx_Zq.moved hW0.alike (hN.kept hS.2.1)
  have h : ∀ w ∈ Bundle.ownAtoms0 own ic cls names, w.before args s' = true := vx_own hat' (vx_isRefq hU'.1) (vx_isRefq hN'.1) hU'.2.word hN'.2.word
  have hown' : s'.vm.findClass own = some m.cls := by rw [hvm]; exact hown
  have hins : (Cond.instantiable cls 6).before args s' = true := h _ (by simp [Bundle.ownAtoms0])
  obtain ⟨vm₁, cX, kX, hfX, hkX, -, -, X₁, st1⟩ := Y.newCold hexec (own := own) (C := cls) (index := ik) (n := 6) hown' hk' hins hini'
    (g := F0 m pc ls rest) rfl (by rw [hb]; exact d0) (Nat.le_refl _) (Nat.le_refl _)
  generalize hT1 : (T.setVm vm₁).pushCell { cls := cX, slots := kX.instanceTypes.map defaultValue, vm := .none } = T1 at X₁ st1
  have hcat : (Value.ref T.heap.size).category = 1 := rfl
  have hcellA : T1.heap[T.heap.size]? = some (freshCell cX kX) := by rw [← hT1]; exact State.heap_pushCell_size _ _
  have d3' : decode c.code (pc + 3) = .ok (.dup, 1) := by rw [hb]; exact d3
  obtain ⟨U, hsteps, hrun, hend, hW, hsame, ce, hce, hO⟩ := X₁.ctorThrow0 hexec htr (own := own) (cls := cls) (names := names) (ic := ic) hown' hcls hnames h (fun x hx => nomatch hx) hfX hkX hcellA (by rw [hhp, hT]; exact Nat.le_refl _)
    (g := { method := m, pc := pc + 4, locals := ls, stack := .ref T.heap.size :: .ref T.heap.size :: rest, locked := none }) rfl hsize rfl rfl (rest := rest) rfl
    (by rw [hb]; exact d4) (by rw [hb]; exact d7) hout hRframes (by simp only [List.map_cons, List.sum_cons, hcat]; omega) hlocks
  obtain ⟨f1, f2⟩ := vx_frame hsame
  rw [hhp] at f1 f2
  have hWs : s.WarmedH U.vm := State.WarmedH.trans hW0 hW
  have hcl : s.vm.findClass cls = some ce.cls := by
    have h9 := hO.cls
    rw [hvm] at h9
    exact h9
  have hall : s.sameButNew ({ U with vm := s.vm } : State) locs mc ms := by
    subst hA
    obtain ⟨e1, e2⟩ := hsame
    rw [State.setFrames_setFrames] at e1
    have h2 : (T.setVm s.vm).sameButNew ({ U with vm := s.vm } : State) [] (0 + 1) (0 + 6) := ⟨e1, e2⟩
    have h3 := X.same.trans h2
    rw [List.append_nil] at h3
    exact h3.mono hc hs
  refine ⟨U, ?_, .threw T.heap.size, hrun, hend, Or.inr ⟨T.heap.size, rfl, cls, ce, locs, hx U hWs.alike f1 (fun q hq => f2 q hq (fun z hz => nomatch hz)), hce, hO.vm, hcl, hWs, hall, hf⟩⟩
  refine st1 _ ?_
  show Steps p.tables e below (T1.setTop { method := m, pc := pc + 3, locals := ls, stack := .ref T.heap.size :: rest, locked := none }) _
  jvm_step X₁.here [X₁.here.top, hexec, d3', Value.category]
  exact hsteps
/-- 'throw new E("text")': new; dup; ldc; invokespecial; athrow -/
theorem vx_throwS {cc : ByteArray} {pc : Nat} (hexec : p.tables.exec = Jvm.exec) (hb : c.code = cc) (hl : l.stackTraces = false) {own cls text : String} {names : List String} {ik is ic mc ms sa : Nat} {A : Nat → Prop}
    (hown : s.vm.findClass own = some m.cls) (hcls : Bundle.fit cls = true) (hnames : ∀ n ∈ names, Bundle.fit n = true)
    (hk : (Cond.classLink own ik cls).before args s = true) (hini : (Cond.initialized cls).before args s = true) (hstr : vk_R own is text sa s) (hat : ∀ w ∈ vx_atS own ic cls names, w.before args s = true)
    (hgood : ∀ w ∈ Cond.classLink own ik cls :: Cond.initialized cls :: vx_atS own ic cls names, vx_ot w = true)
    (hU : vx_Zq Bundle.tN "UNASSIGNED_STACK" Bundle.steD A s s.heap) (hN : vx_Zq Bundle.tN "SUPPRESSED_SENTINEL" Bundle.listD A s s.heap) (hS : va_S A s.heap H locs) (hsize : ls.size = c.maxLocals)
    (d0 : decode cc pc = .ok (.new ik, 3)) (d3 : decode cc (pc + 3) = .ok (.dup, 1)) (d4 : decode cc (pc + 4) = .ok (.ldc is, 2)) (d6 : decode cc (pc + 6) = .ok (.invokespecial ic, 3)) (d9 : decode cc (pc + 9) = .ok (.athrow, 1))
    (hout : ∀ x ∈ c.exceptionTable.toList, covers x (pc + 9) = false)
    (hRframes : names.length + 3 < R.frames) (hRlocals : (rest.map fun v => v.category).sum + (13 * (names.length + 1) + 43) ≤ R.locals) (hRcells : cells + 1 ≤ R.cells) (hRslots : slots + 6 ≤ R.slots) (hlocks : meth.locks = false)
    (hx : ∀ t : State, s.vm.Alike t.vm → H.size ≤ t.heap.size → (∀ q : Nat, q < H.size → t.heap[q]? = H[q]?) → XC cls s t)
    (hf : ∀ z ∈ locs, free z.base) (hc : cells + 1 ≤ mc) (hs : slots + 6 ≤ ms) :
    W p l e R s m args below meth c H locs cells slots (vx_MQ below Qc XC args s mc ms free) (F0 m pc ls rest) := by
  intro T hT X
  have htr : e.platform.stackTraces = false := (show e.platform.stackTraces = l.stackTraces by rw [X.admits.platform]).trans hl
  have Y := vx_rebase X (R' := { frames := R.frames, locals := R.locals, cells := 1, slots := 6 }) (Nat.le_refl _) (Nat.le_refl _) hRcells hRslots
  obtain ⟨s', hA⟩ : ∃ z, z = (T.setVm s.vm).setFrames (.invoking m args :: below) := ⟨_, rfl⟩
  rw [← hA] at Y
  have hvm : s'.vm = s.vm := by rw [hA]; rfl
  have hhp : s'.heap = H := by rw [hA]; exact hT
  have hW0 : s.WarmedH s'.vm := by rw [hvm]; exact State.WarmedH.refl s
  have hat' : ∀ w ∈ vx_atS own ic cls names, w.before args s' = true := fun w hw => vx_ot_at hW0 hvm.symm (hgood w (List.mem_cons_of_mem _ (List.mem_cons_of_mem _ hw))) (hat w hw)
  have hk' : (Cond.classLink own ik cls).before args s' = true := vx_ot_at hW0 hvm.symm (hgood _ List.mem_cons_self) hk
  have hini' : (Cond.initialized cls).before args s' = true := vx_ot_at hW0 hvm.symm (hgood _ (List.mem_cons_of_mem _ List.mem_cons_self)) hini
  have hU' : vx_Zq Bundle.tN "UNASSIGNED_STACK" Bundle.steD A s' s'.heap := by rw [hhp]; exact vx_Zq.moved hW0.alike (hU.kept hS.2.1)
  have hN' : vx_Zq Bundle.tN "SUPPRESSED_SENTINEL" Bundle.listD A s' s'.heap := by rw [hhp]; exact vx_Zq.moved hW0.alike (hN.kept hS.2.1)
  have h : ∀ w ∈ Bundle.ownAtoms own ic cls names, w.before args s' = true := vx_own hat' (vx_isRefq hU'.1) (vx_isRefq hN'.1) hU'.2.word hN'.2.word
  have hown' : s'.vm.findClass own = some m.cls := by rw [hvm]; exact hown
  have hins : (Cond.instantiable cls 6).before args s' = true := h _ (by simp [Bundle.ownAtoms])
  obtain ⟨vm₁, cX, kX, hfX, hkX, -, -, X₁, st1⟩ := Y.newCold hexec (own := own) (C := cls) (index := ik) (n := 6) hown' hk' hins hini'
    (g := F0 m pc ls rest) rfl (by rw [hb]; exact d0) (Nat.le_refl _) (Nat.le_refl _)
  generalize hT1 : (T.setVm vm₁).pushCell { cls := cX, slots := kX.instanceTypes.map defaultValue, vm := .none } = T1 at X₁ st1
  have hcat : (Value.ref T.heap.size).category = 1 := rfl
  have hcellA : T1.heap[T.heap.size]? = some (freshCell cX kX) := by rw [← hT1]; exact State.heap_pushCell_size _ _
  have d3' : decode c.code (pc + 3) = .ok (.dup, 1) := by rw [hb]; exact d3
  have d4' : decode c.code (pc + 4) = .ok (.ldc is, 2) := by rw [hb]; exact d4
  have hstr' : vk_R own is text sa s' := vk_R.warm hW0 hstr
  obtain ⟨U, hsteps, hrun, hend, hW, hsame, ce, hce, hO⟩ := X₁.ctorThrowS hexec htr (own := own) (cls := cls) (names := names) (ic := ic) hown' hcls hnames h (fun x hx => nomatch hx) hfX hkX hcellA (by rw [hhp, hT]; exact Nat.le_refl _) (msg := .ref sa) rfl
    (g := { method := m, pc := pc + 6, locals := ls, stack := .ref sa :: .ref T.heap.size :: .ref T.heap.size :: rest, locked := none }) rfl hsize rfl rfl (rest := rest) rfl
    (by rw [hb]; exact d6) (by rw [hb]; exact d9) hout hRframes (by simp only [List.map_cons, List.sum_cons, hcat]; omega) hlocks
  obtain ⟨f1, f2⟩ := vx_frame hsame
  rw [hhp] at f1 f2
  have hWs : s.WarmedH U.vm := State.WarmedH.trans hW0 hW
  have hcl : s.vm.findClass cls = some ce.cls := by
    have h9 := hO.cls
    rw [hvm] at h9
    exact h9
  have hall : s.sameButNew ({ U with vm := s.vm } : State) locs mc ms := by
    subst hA
    obtain ⟨e1, e2⟩ := hsame
    rw [State.setFrames_setFrames] at e1
    have h2 : (T.setVm s.vm).sameButNew ({ U with vm := s.vm } : State) [] (0 + 1) (0 + 6) := ⟨e1, e2⟩
    have h3 := X.same.trans h2
    rw [List.append_nil] at h3
    exact h3.mono hc hs
  refine ⟨U, ?_, .threw T.heap.size, hrun, hend, Or.inr ⟨T.heap.size, rfl, cls, ce, locs, hx U hWs.alike f1 (fun q hq => f2 q hq (fun z hz => nomatch hz)), hce, hO.vm, hcl, hWs, hall, hf⟩⟩
  refine st1 _ ?_
  show Steps p.tables e below (T1.setTop { method := m, pc := pc + 3, locals := ls, stack := .ref T.heap.size :: rest, locked := none }) _
  jvm_step X₁.here [X₁.here.top, hexec, d3', Value.category]
  exact X₁.ldcString hexec (own := own) (text := text) (index := is) (a := sa) hown' hstr'.1 hstr'.2
    (g := { method := m, pc := pc + 4, locals := ls, stack := .ref T.heap.size :: .ref T.heap.size :: rest, locked := none }) rfl d4' _ hsteps
end Ends
section Bodies
variable {l : Launch}
theorem vx_ofW {y : MethodName} {ws ws' : List Cond} {rm : Room} {Pc : Array Value → State → Prop} {Qc : Array Value → State → Outcome → State → Prop} {XC : String → State → State → Prop} {mc ms : Nat} {free : Addr → Prop} {cc : ByteArray} {maxL : Nat} {ret : Option FieldType}
    (hy : plainName y.cls = true) (hw : ws = Cond.code y cc maxL ret :: ws')
    (body : ∀ p e s m args below meth c s₁, BodyLoose p l y (headSpec ws rm) cc maxL ret e s m args below meth c s₁ → c.maxLocals = maxL → (∀ x ∈ c.exceptionTable.toList, False) → Pc args s →
      W p l e (headSpec ws rm).room s m args below meth c s.heap [] 0 0 (vx_MQ below Qc XC args s mc ms free) (entryFrame m args maxL)) : vx_Met l y ws rm Pc Qc XC mc ms free := by
  refine MetFree.of_bodyS (code := cc) (maxLocals := maxL) (ret := ret) hy ?_ ?_
  · intro args s m h hn
    obtain ⟨meth, c, h1, h2, h3, h4, h5, h6, -, -⟩ := Cond.code_spec hn (atoms_spec (ws := ws) h _ (by rw [hw]; exact List.mem_cons_self))
    exact ⟨meth, c, h1, h2, h3, h4, h5, h6⟩
  · intro p e s m args below meth c s₁ B hml hP _
    have hh0 : s₁.heap = s.heap := by rw [B.state]; rfl
    have ht : ∀ x ∈ c.exceptionTable.toList, False := by
      obtain ⟨meth9, c9, h1, h2, -, -, -, -, h7, -⟩ := Cond.code_spec B.named (atoms_spec (ws := ws) B.pre _ (by rw [hw]; exact List.mem_cons_self))
      cases Option.some.inj (h1.symm.trans B.method)
      cases Option.some.inj (h2.symm.trans (Stand.of_body B).code)
      intro x hx
      rw [Array.isEmpty_iff.mp h7] at hx
      cases hx
    obtain ⟨t, a1, o, b1, b2, b3⟩ := body p e s m args below meth c s₁ B hml ht hP s₁ hh0 (Stand.of_body B)
    exact ⟨t, o, a1, b1, b2, b3⟩
/-- the table of a body with handlers -/
theorem vx_table {p : Program} {x y : MethodName} {S : Spec} {cc bytes : ByteArray} {maxL maxL' : Nat} {ret ret' : Option FieldType} {e : Env} {s s₁ : State} {m : MethodId} {args : Array Value} {below : List Frame} {meth : Method} {c : Code} {hh : List (Nat × Nat × Nat × Nat)}
    (B : BodyLoose p l y S cc maxL ret e s m args below meth c s₁) (h : (Cond.codeWith y bytes maxL' ret' hh).before args s = true) : c.exceptionTable.toList = tableOf hh := by
  obtain ⟨m9, meth9, c9, hn9, h1, h2, -, -, h6, -⟩ := Cond.codeWith_spec h
  cases Option.some.inj (hn9.symm.trans B.named)
  cases Option.some.inj (h1.symm.trans B.method)
  cases Option.some.inj (h2.symm.trans (Stand.of_body B).code)
  rw [← h6, table_eq]
end Bodies
end VXA
/-! ===== END ===== -/
/-! ===== BEGIN a static call of a method with an exception table ===== -/
section VXS
variable {p : Program} {l : Launch} {e : Env} {R : Room} {s : State} {m : MethodId} {args : Array Value} {below : List Frame} {meth : Method} {c : Code} {T : State} {H : Heap} {locs : List Loc} {cells slots : Nat}
noncomputable abbrev vx_CSW (R : Room) (s : State) (args : Array Value) (own : String) (index : Nat) (y : MethodName) (bytes : ByteArray) (maxL : Nat) (ret : Option FieldType) (hh : List (Nat × Nat × Nat × Nat)) (ws : List Cond) (rm : Room) (mc ms n : Nat) : Prop :=
  (rm.cells = mc ∧ rm.slots = ms ∧ rm.frames + 1 ≤ R.frames ∧ 8 + (maxL + 11) + rm.locals ≤ R.locals ∧ (∀ w ∈ ws, ∀ (a' : Array Value) (U : State), s.WarmedH U.vm → w.before a' U = true) ∧ Cond.codeWith y bytes maxL ret hh ∈ ws) ∧
  (Cond.codeWith y bytes maxL ret hh).before args s = true ∧ (Cond.initialized y.cls).before args s = true ∧ (y.cls ≠ "java/lang/invoke/MethodHandle" ∧ y.cls ≠ "java/lang/invoke/VarHandle") ∧
  (∀ sig, parseMethodDescriptor y.desc = some sig → n = sig.parameters.length) ∧ (Cond.methodLink own index y).before args s = true ∧ (Cond.static y).before args s = true
theorem vx_cwSW {own : String} {index maxL mc ms : Nat} {y : MethodName} {bytes : ByteArray} {ret : Option FieldType} {hh : List (Nat × Nat × Nat × Nat)} {Ts ws ws' : List Cond} {rm : Room} (n : Nat) (ht : ∀ w ∈ Ts, w.before args s = true) (hT : GoodIn Ts (va_wsS own index y ws)) (hw : ws = Cond.codeWith y bytes maxL ret hh :: ws') (hrc : rm.cells = mc) (hrs : rm.slots = ms)
    (hd : y.cls ≠ "java/lang/invoke/MethodHandle" ∧ y.cls ≠ "java/lang/invoke/VarHandle" ∧ (parseMethodDescriptor y.desc).map (fun d => d.parameters.length) = some n) (hR : rm.frames + 1 ≤ R.frames ∧ 8 + (maxL + 11) + rm.locals ≤ R.locals) :
    vx_CSW R s args own index y bytes maxL ret hh ws rm mc ms n := by
  have ok : ∀ w ∈ va_wsS own index y ws, w.before args s = true := fun w h => ht w (hT w h).1
  have hG : GoodIn Ts ws := fun w h => hT w (by unfold va_wsS; exact List.mem_append_right _ h)
  have hc : Cond.codeWith y bytes maxL ret hh ∈ ws := by rw [hw]; exact List.mem_cons_self
  refine ⟨⟨hrc, hrs, hR.1, hR.2, pay_in ht hG, hc⟩, ht _ (hG _ hc).1, ok _ (by simp [va_wsS]), ⟨hd.1, hd.2.1⟩, fun sig h => ?_, ok _ (by simp [va_wsS]), ok _ (by simp [va_wsS])⟩
  have h2 := hd.2.2
  rw [h] at h2
  exact (Option.some.inj h2).symm
theorem vx_callSW (X : Stand p l e R s m args below meth c T locs cells slots) (hexec : p.tables.exec = Jvm.exec) {own : String} {index : Nat} {y : MethodName} {bytes : ByteArray} {maxL : Nat} {ret : Option FieldType} {hh : List (Nat × Nat × Nat × Nat)}
    (hown : s.vm.findClass own = some m.cls) (hlink : (Cond.methodLink own index y).before args s = true) (hstat : (Cond.static y).before args s = true) (hinit : (Cond.initialized y.cls).before args s = true)
    (hcode : (Cond.codeWith y bytes maxL ret hh).before args s = true) (hy : y.cls ≠ "java/lang/invoke/MethodHandle" ∧ y.cls ≠ "java/lang/invoke/VarHandle")
    {W9 : Nat} {Pre : Pt → Array Value → Prop} {Post : Pt → Array Value → Option Value → Pt → Prop} (hK : Back l R p e below s args y 3 W9 Pre Post)
    {g : JFrame} (hg : g.method = m) (hsize : g.locals.size = c.maxLocals) {argsL rest : List Value} (hlen : ∀ sig, parseMethodDescriptor y.desc = some sig → argsL.length = sig.parameters.length)
    (hstack : g.stack = argsL.reverse ++ rest) (hW : 2 * g.monitorRoom + (rest.map fun v => v.category).sum ≤ W9) (hdg : decode c.code g.pc = .ok (.invokestatic index, 3))
    (hpre : ∀ vm₁, s.WarmedH vm₁ → Pre ⟨T.setVm vm₁, locs, cells, slots⟩ argsL.toArray) :
    ∃ (v : Option Value) (vm₁ : Vm) (B : Pt), s.WarmedH vm₁ ∧ Stand p l e R s m args below meth c B.U B.locs B.cells B.slots ∧ Post ⟨T.setVm vm₁, locs, cells, slots⟩ argsL.toArray v B ∧
      ∀ target, Steps p.tables e below (B.U.setTop { g with pc := g.pc + 3, stack := v.toList ++ rest }) target → Steps p.tables e below (T.setTop g) target := by
  obtain ⟨mk, methM, cM, hnamed, hmethM, -, -, -, -, -, -, hsigM⟩ := Cond.codeWith_spec hcode
  have hstatic : methM.isStatic = true := Cond.static_spec hnamed hmethM hstat
  obtain ⟨kP, hkP, -⟩ := className_of_methodNamed hnamed
  have hinitP : kP.init = .initialized := Cond.initialized_spec (findClass_of_methodNamed hnamed) hkP hinit
  obtain ⟨vm₁, X₁, hstep₁⟩ := X.invokestatic hexec hown hlink hnamed hmethM hstatic hkP hinitP hy (g := g) hg (argsL := argsL) (rest := rest) (hlen _ hsigM) hstack hdg
  obtain ⟨v, B, X', hpost, hsteps⟩ := hK m meth c ⟨T.setVm vm₁, locs, cells, slots⟩ { g with stack := rest } (.invokestatic index) mk argsL.toArray X₁ hg hsize hdg hW (X₁.named hnamed) (hpre vm₁ X₁.warmed)
  exact ⟨v, vm₁, B, X₁.warmed, X', hpost, fun target h => hstep₁ _ fun acts => by rw [doInvoke_state]; exact hsteps.trans h⟩
/-- not caught here, past rows that name other classes: it goes on to the caller -/
theorem vx_outP {p : Program} {l : Launch} {e : Env} {R : Room} {s : State} {m : MethodId} {args : Array Value} {below : List Frame} {meth : Method} {c : Code} {H : Heap} {locs : List Loc} {cells slots : Nat} {free : Addr → Prop} {ls : Array Slot} {rest : List Value} {Qc : Array Value → State → Outcome → State → Prop} {XC : String → State → State → Prop}
    {pc : Nat} {own E : String} {ce : Cell} {q : Addr} {mc ms : Nat} (hown : s.vm.findClass own = some m.cls) (hlocks : meth.locks = false)
    (hpass : ∀ z ∈ c.exceptionTable.toList, covers z pc = false ∨ (z.catchType ≠ 0 ∧ ∃ nm : String, (Cond.classLink own z.catchType nm).before args s = true ∧ va_Nc E nm s)) (hcell : H[q]? = some ce) (hv : ce.vm = .none) (hcl : s.vm.findClass E = some ce.cls)
    (hx : ∀ t : State, t.heap = H → s.vm.Alike t.vm → XC E s t) (hf : ∀ z ∈ locs, free z.base) (hc : cells ≤ mc) (hs : slots ≤ ms) :
    vx_W p l e R s m args below meth c H locs cells slots (vx_MQ below Qc XC args s mc ms free) (F0 m pc ls rest) q := by
  intro T hT X
  have hpl : e.platform.magicAccessors = ({} : Platform).magicAccessors := by rw [X.admits.platform]
  obtain ⟨vm', hW', X', st⟩ := Stand.outThrough X hlocks q (g := F0 m pc ls rest) rfl rfl rfl (cell := ce) (by rw [hT]; exact hcell) (by rw [hv]; rfl)
    (by obtain ⟨k9, h9, -⟩ := Vm.findClass_spec hcl; exact ⟨k9, h9⟩) (fun z hz => by
      rcases hpass z hz with h | ⟨hz0, nm, hl1, hn1⟩
      · exact Or.inl h
      · obtain ⟨c6, hc6, hcl6⟩ := Cond.classLink_spec hown hl1 e.platform hpl
        obtain ⟨a8, b8, h1, h2, h3⟩ := hn1
        cases Option.some.inj (h1.symm.trans hcl)
        cases Option.some.inj (h2.symm.trans hc6)
        exact Or.inr ⟨hz0, _, hcl6, h3⟩)
  obtain ⟨g₀, hfr⟩ := X'.frames_eq
  have hcell9 : ((T.setVm vm').setFrames (.throwing q :: below)).heap[q]? = some ce := by
    show T.heap[q]? = some ce
    rw [hT]; exact hcell
  have hend : Ended ((T.setVm vm').setFrames (.throwing q :: below)) below (.threw q) := State.frames_setFrames _ (State.cur_lt_of_frames hfr)
  refine ⟨(T.setVm vm').setFrames (.throwing q :: below), ?_, .threw q, X'.here.running, hend, Or.inr ⟨q, rfl, E, ce, locs, hx _ hT (X'.ends _).1.alike, hcell9, hv, hcl, (X'.ends _).1, (X'.ends _).2.mono hc hs, hf⟩⟩
  rw [X.pushThrowing_eq]
  exact st
end VXS
/-! ===== END ===== -/
/-! ===== BEGIN methods with a table of their own: called by a name, returning or throwing ===== -/
section VXH
/-! vx_backW, vx_callVX, vx_callSX, vx_callVW, vx_runVW, vx_runVX, vx_runSX, vx_ofWH follow the same proofs as their sisters above (Free/Laws.lean, Shelf42/LK1.lean); vx_outP calls Shelf42/NT130.lean (outThrough). -/
section
variable {l : Launch} {R : Room} {p : Program} {e : Env} {below : List Frame} {s : State} {sargs : Array Value} {y : MethodName} {len W9 : Nat}
theorem vx_backW {ws : List Cond} {rm : Room} {Pc : Array Value → State → Prop} {Qc : Array Value → State → Outcome → State → Prop} {XC : String → State → State → Prop} {mc ms : Nat} {free : Addr → Prop} {bytes : ByteArray} {maxL : Nat} {ret : Option FieldType} {hh : List (Nat × Nat × Nat × Nat)}
    (hM : vx_Met l y ws rm Pc Qc XC mc ms free) (hblind : FrameBlind Pc) (hrc : rm.cells = mc) (hrs : rm.slots = ms)
    (hframes : rm.frames + 1 ≤ R.frames) (hlocals : W9 + (maxL + 11) + rm.locals ≤ R.locals)
    (hws : ∀ w ∈ ws, ∀ a' U, s.WarmedH U.vm → w.before a' U = true) (hcode : Cond.codeWith y bytes maxL ret hh ∈ ws) (hinit : ∀ a' U, s.WarmedH U.vm → (Cond.initialized y.cls).before a' U = true) :
    vx_Back l R p e below s sargs y len W9 (PreOf R mc ms Pc) (PostOf Qc mc ms free) (vx_Post XC mc ms free) := by
  intro m meth c A g ig mk a X hg hsize hdg hW hn hp
  have h1 : (headSpec ws rm).pre.before a A.U = true := atoms_intro fun w hw => hws w hw _ _ X.warmed
  have h2 : (Cond.codeWith y bytes maxL ret hh).before a A.U = true := hws _ hcode _ _ X.warmed
  have h3 : (Cond.initialized y.cls).before a A.U = true := hinit _ _ X.warmed
  have h4 : A.cells + (headSpec ws rm).room.cells ≤ R.cells := by rw [show (headSpec ws rm).room.cells = mc from hrc]; exact hp.1
  have h5 : A.slots + (headSpec ws rm).room.slots ≤ R.slots := by rw [show (headSpec ws rm).room.slots = ms from hrs]; exact hp.2.1
  have hPc : Pc a (A.U.calling g mk a) := hblind _ _ _ _ hp.2.2
  obtain ⟨U, Ls, c0, s0⟩ := A
  dsimp only [Pt.U, Pt.locs, Pt.cells, Pt.slots] at h1 h2 h3 h4 h5 X hn hPc ⊢
  obtain ⟨m9, methY, cY, hn9, hmY, hcY, -, hlY, -⟩ := Cond.codeWith_spec h2
  cases Option.some.inj (hn9.symm.trans hn)
  obtain ⟨kY, hkY, -⟩ := className_of_methodNamed hn
  have hinitY : kY.init = .initialized := Cond.initialized_spec (findClass_of_methodNamed hn) hkY h3
  have h : At U g.method c below := by rw [hg]; exact X.here
  have hlocals9 : W9 + (maxL + 11) + (headSpec ws rm).room.locals ≤ R.locals := hlocals
  have happ : (headSpec ws rm).appliesLoose y e.platform (U.calling g mk a) = true :=
    Spec.appliesLoose_calling (g := g) h hdg hn hkY hinitY
      (X.room_calling (g := g) (R' := (headSpec ws rm).room) hsize hmY hcY hframes (by rw [hlY]; omega) h4 h5) h1
  obtain ⟨mid, hmid⟩ := h.above
  have hfr : (U.setTop g).frames = (.java g :: mid) ++ below := by rw [State.frames_setTop' g h.top, hmid]; rfl
  obtain ⟨o, s₂, hsteps, -, hend, hq⟩ := Steps.callFree hM p X.admits X.cas X.clock (acts := []) hfr happ hPc trivial
  have hq' : vx_Q Qc XC mc ms free a (U.calling g mk a) o s₂ := hq
  rw [State.frames_setTop' g h.top] at hend
  obtain ⟨g₀, hg0⟩ := Option.isSome_iff_exists.mp h.top
  obtain ⟨r, hr⟩ := State.topJava?_eq_some.mp hg0
  have hr' : (({ U with heap := s₂.heap, slotsUsed := s₂.slotsUsed } : State).setVm s₂.vm).frames = .java g₀ :: r := hr
  rcases hq' with ⟨hqc, L, hfe, hL⟩ | ⟨q, rfl, E, ce, L, hx, hce, hcv, hcl, hW₂, hsm, hL⟩
  · obtain ⟨⟨v, rfl⟩, hW₂, e2, q2, q3, q4, q5, q6⟩ := id hfe
    have e3 : s₂ = ({ (U.calling g mk a).setFrames s₂.frames with heap := s₂.heap, slotsUsed := s₂.slotsUsed } : State).setVm s₂.vm := by
      have : s₂ = ({ s₂ with vm := (U.calling g mk a).vm } : State).setVm s₂.vm := rfl
      rw [e2] at this
      exact this
    obtain ⟨c₂, i₂, len₂, hc₂, hd₂, hf₂⟩ := hend
    have hW' : U.WarmedH s₂.vm := hW₂
    have hcc : c₂ = c := by
      have h1 : s₂.code? g.method = U.code? g.method := by
        rw [State.code?_eq, State.code?_eq, hW'.alike.method?]
      exact Option.some.inj (hc₂.symm.trans (h1.trans h.code))
    subst hcc
    have hlen : len₂ = len := by rw [hdg] at hd₂; cases hd₂; rfl
    subst hlen
    have hs₂ : s₂ = (({ U with heap := s₂.heap, slotsUsed := s₂.slotsUsed } : State).setVm s₂.vm).setTop { g with pc := g.pc + len₂, stack := v.toList ++ g.stack } := by
      refine e3.trans ?_
      rw [hf₂, State.calling_eq h.top, State.setFrames_setFrames, State.setTop_of_frames _ hr', hr]
      rfl
    have hsame : U.sameButNew ({ U with heap := s₂.heap, slotsUsed := s₂.slotsUsed } : State) L mc ms := by
      refine ⟨?_, q2, q3, q4, q5, q6⟩
      obtain ⟨t, ht, -⟩ := State.frames_cons hr
      show ({ U with heap := s₂.heap, slotsUsed := s₂.slotsUsed } : State) = { U.setFrames U.frames with heap := s₂.heap, slotsUsed := s₂.slotsUsed }
      rw [State.setFrames_self ht]
    subst hg
    refine Or.inl ⟨v, ⟨(({ U with heap := s₂.heap, slotsUsed := s₂.slotsUsed } : State).setVm s₂.vm), Ls ++ L, c0 + mc, s0 + ms⟩,
      ⟨X.admits, X.cas, X.clock, X.frames, X.room, X.hears, X.method, X.code, (X.here.setHeapUsed s₂.heap s₂.slotsUsed).setVm hW'.alike, X.tail, State.WarmedH.trans X.warmed hW', X.limits, X.bytes, X.same.trans (hsame.setVm s.vm)⟩,
      ⟨g, mk, s₂, L, rfl, rfl, hqc, rfl, hL, rfl, rfl⟩, ?_⟩
    show Steps p.tables e below _ ((({ U with heap := s₂.heap, slotsUsed := s₂.slotsUsed } : State).setVm s₂.vm).setTop { g with pc := g.pc + len₂, stack := v.toList ++ g.stack })
    rw [← hs₂]
    exact hsteps
  · obtain ⟨e2, q2, q3, q4, q5, q6⟩ := id hsm
    have e3 : s₂ = ({ (U.calling g mk a).setFrames s₂.frames with heap := s₂.heap, slotsUsed := s₂.slotsUsed } : State).setVm s₂.vm := by
      have : s₂ = ({ s₂ with vm := (U.calling g mk a).vm } : State).setVm s₂.vm := rfl
      rw [e2] at this
      exact this
    have hf₂ : s₂.frames = .throwing q :: .java g :: U.frames.tail := hend
    have hW' : U.WarmedH s₂.vm := hW₂
    have hs₂ : s₂ = ((({ U with heap := s₂.heap, slotsUsed := s₂.slotsUsed } : State).setVm s₂.vm).setTop g).pushFrame (.throwing q) := by
      refine e3.trans ?_
      rw [hf₂, State.calling_eq h.top, State.setFrames_setFrames, State.pushFrame, State.frames_setTop _ hr', State.setTop_of_frames _ hr', State.setFrames_setFrames, hr]
      rfl
    have hsame : U.sameButNew ({ U with heap := s₂.heap, slotsUsed := s₂.slotsUsed } : State) L mc ms := by
      refine ⟨?_, q2, q3, q4, q5, q6⟩
      obtain ⟨t, ht, -⟩ := State.frames_cons hr
      show ({ U with heap := s₂.heap, slotsUsed := s₂.slotsUsed } : State) = { U.setFrames U.frames with heap := s₂.heap, slotsUsed := s₂.slotsUsed }
      rw [State.setFrames_self ht]
    subst hg
    refine Or.inr ⟨q, ⟨(({ U with heap := s₂.heap, slotsUsed := s₂.slotsUsed } : State).setVm s₂.vm), Ls ++ L, c0 + mc, s0 + ms⟩,
      ⟨X.admits, X.cas, X.clock, X.frames, X.room, X.hears, X.method, X.code, (X.here.setHeapUsed s₂.heap s₂.slotsUsed).setVm hW'.alike, X.tail, State.WarmedH.trans X.warmed hW', X.limits, X.bytes, X.same.trans (hsame.setVm s.vm)⟩,
      ⟨g, mk, s₂, L, E, ce, rfl, rfl, hx, hce, hcv, hcl, rfl, hL, rfl, rfl⟩, ?_⟩
    show Steps p.tables e below _ (((({ U with heap := s₂.heap, slotsUsed := s₂.slotsUsed } : State).setVm s₂.vm).setTop g).pushFrame (.throwing q))
    rw [← hs₂]
    exact hsteps
end
variable {p : Program} {l : Launch} {e : Env} {R : Room} {s : State} {m : MethodId} {args : Array Value} {below : List Frame} {meth : Method} {c : Code} {T : State} {H : Heap} {locs : List Loc} {cells slots : Nat}
theorem vx_callVX (X : Stand p l e R s m args below meth c T locs cells slots) (hexec : p.tables.exec = Jvm.exec) {own C : String} {index : Nat} {y : MethodName} {bytes : ByteArray} {maxL : Nat} {ret : Option FieldType} {hh : List (Nat × Nat × Nat × Nat)}
    (hown : s.vm.findClass own = some m.cls) (hlink : (Cond.methodLink own index y).before args s = true) (hinst : (Cond.instanceMethod y).before args s = true) (hsel : (Cond.selects C y y).before args s = true)
    (hcode : (Cond.codeWith y bytes maxL ret hh).before args s = true) (hy : y.cls ≠ "java/lang/invoke/MethodHandle" ∧ y.cls ≠ "java/lang/invoke/VarHandle")
    {W9 : Nat} {Pre : Pt → Array Value → Prop} {Post : Pt → Array Value → Option Value → Pt → Prop} {PostX : Pt → Array Value → Addr → Pt → Prop} (hK : vx_Back l R p e below s args y 3 W9 Pre Post PostX)
    {b : Addr} {cellB : Cell} (hcell : T.heap[b]? = some cellB) (hobj : cellB.vm.isStatics = false) (hcls : s.vm.findClass C = some cellB.cls)
    {g : JFrame} (hg : g.method = m) (hsize : g.locals.size = c.maxLocals) {argsL rest : List Value} (hlen : ∀ sig, parseMethodDescriptor y.desc = some sig → argsL.length = sig.parameters.length)
    (hstack : g.stack = argsL.reverse ++ .ref b :: rest) (hW : 2 * g.monitorRoom + (rest.map fun v => v.category).sum ≤ W9) (hdg : decode c.code g.pc = .ok (.invokevirtual index, 3))
    (hpre : ∀ vm₁, s.WarmedH vm₁ → Pre ⟨T.setVm vm₁, locs, cells, slots⟩ (Value.ref b :: argsL).toArray) :
    (∃ (v : Option Value) (vm₁ : Vm) (B : Pt), s.WarmedH vm₁ ∧ Stand p l e R s m args below meth c B.U B.locs B.cells B.slots ∧ Post ⟨T.setVm vm₁, locs, cells, slots⟩ (Value.ref b :: argsL).toArray v B ∧
      ∀ target, Steps p.tables e below (B.U.setTop { g with pc := g.pc + 3, stack := v.toList ++ rest }) target → Steps p.tables e below (T.setTop g) target) ∨
    (∃ (q : Addr) (vm₁ : Vm) (B : Pt), s.WarmedH vm₁ ∧ Stand p l e R s m args below meth c B.U B.locs B.cells B.slots ∧ PostX ⟨T.setVm vm₁, locs, cells, slots⟩ (Value.ref b :: argsL).toArray q B ∧
      Steps p.tables e below (T.setTop g) ((B.U.setTop { g with stack := rest }).pushFrame (.throwing q))) := by
  obtain ⟨mk, methM, hnamed, hmethM, hstM, habM⟩ := Cond.instanceMethod_spec hinst
  obtain ⟨m8, methM', cM, hn8, hmethM', -, -, -, -, -, -, hsigM⟩ := Cond.codeWith_spec hcode
  cases Option.some.inj (hn8.symm.trans hnamed)
  cases hmethM.symm.trans hmethM'
  obtain ⟨c2, r2, m2, q1, q2, q3, q4, kP, hkP, hkPi⟩ := Cond.selects_spec hsel
  cases hcls.symm.trans q1
  cases (State.methodFound?_of_named hnamed hy).symm.trans q2
  cases hnamed.symm.trans q3
  have hselP : selectMethod e.platform s.vm cellB.cls mk = .method mk := by rw [Launch.admits_selectMethod X.admits]; exact q4
  obtain ⟨vm₁, X₁, hstep₁⟩ := X.invokevirtual hexec hown hlink hnamed hmethM hstM hkP hkPi hy (a := b) (cell := cellB) hcell
    (fun z h => by rw [h] at hobj; cases hobj) hselP hmethM habM hkP hkPi (g := g) hg (argsL := argsL) (rest := rest) (hlen _ hsigM) hstack hdg
  rcases hK m meth c ⟨T.setVm vm₁, locs, cells, slots⟩ { g with stack := rest } (.invokevirtual index) mk (Value.ref b :: argsL).toArray X₁ hg hsize hdg hW (X₁.named hnamed) (hpre vm₁ X₁.warmed) with ⟨v, B, X', hpost, hsteps⟩ | ⟨q, B, X', hpost, hsteps⟩
  · exact Or.inl ⟨v, vm₁, B, X₁.warmed, X', hpost, fun target h => hstep₁ _ fun acts => by rw [doInvoke_state]; exact hsteps.trans h⟩
  · exact Or.inr ⟨q, vm₁, B, X₁.warmed, X', hpost, hstep₁ _ fun acts => by rw [doInvoke_state]; exact hsteps⟩
theorem vx_callSX (X : Stand p l e R s m args below meth c T locs cells slots) (hexec : p.tables.exec = Jvm.exec) {own : String} {index : Nat} {y : MethodName} {bytes : ByteArray} {maxL : Nat} {ret : Option FieldType} {hh : List (Nat × Nat × Nat × Nat)}
    (hown : s.vm.findClass own = some m.cls) (hlink : (Cond.methodLink own index y).before args s = true) (hstat : (Cond.static y).before args s = true) (hinit : (Cond.initialized y.cls).before args s = true)
    (hcode : (Cond.codeWith y bytes maxL ret hh).before args s = true) (hy : y.cls ≠ "java/lang/invoke/MethodHandle" ∧ y.cls ≠ "java/lang/invoke/VarHandle")
    {W9 : Nat} {Pre : Pt → Array Value → Prop} {Post : Pt → Array Value → Option Value → Pt → Prop} {PostX : Pt → Array Value → Addr → Pt → Prop} (hK : vx_Back l R p e below s args y 3 W9 Pre Post PostX)
    {g : JFrame} (hg : g.method = m) (hsize : g.locals.size = c.maxLocals) {argsL rest : List Value} (hlen : ∀ sig, parseMethodDescriptor y.desc = some sig → argsL.length = sig.parameters.length)
    (hstack : g.stack = argsL.reverse ++ rest) (hW : 2 * g.monitorRoom + (rest.map fun v => v.category).sum ≤ W9) (hdg : decode c.code g.pc = .ok (.invokestatic index, 3))
    (hpre : ∀ vm₁, s.WarmedH vm₁ → Pre ⟨T.setVm vm₁, locs, cells, slots⟩ argsL.toArray) :
    (∃ (v : Option Value) (vm₁ : Vm) (B : Pt), s.WarmedH vm₁ ∧ Stand p l e R s m args below meth c B.U B.locs B.cells B.slots ∧ Post ⟨T.setVm vm₁, locs, cells, slots⟩ argsL.toArray v B ∧
      ∀ target, Steps p.tables e below (B.U.setTop { g with pc := g.pc + 3, stack := v.toList ++ rest }) target → Steps p.tables e below (T.setTop g) target) ∨
    (∃ (q : Addr) (vm₁ : Vm) (B : Pt), s.WarmedH vm₁ ∧ Stand p l e R s m args below meth c B.U B.locs B.cells B.slots ∧ PostX ⟨T.setVm vm₁, locs, cells, slots⟩ argsL.toArray q B ∧
      Steps p.tables e below (T.setTop g) ((B.U.setTop { g with stack := rest }).pushFrame (.throwing q))) := by
  obtain ⟨mk, methM, cM, hnamed, hmethM, -, -, -, -, -, -, hsigM⟩ := Cond.codeWith_spec hcode
  have hstatic : methM.isStatic = true := Cond.static_spec hnamed hmethM hstat
  obtain ⟨kP, hkP, -⟩ := className_of_methodNamed hnamed
  have hinitP : kP.init = .initialized := Cond.initialized_spec (findClass_of_methodNamed hnamed) hkP hinit
  obtain ⟨vm₁, X₁, hstep₁⟩ := X.invokestatic hexec hown hlink hnamed hmethM hstatic hkP hinitP hy (g := g) hg (argsL := argsL) (rest := rest) (hlen _ hsigM) hstack hdg
  rcases hK m meth c ⟨T.setVm vm₁, locs, cells, slots⟩ { g with stack := rest } (.invokestatic index) mk argsL.toArray X₁ hg hsize hdg hW (X₁.named hnamed) (hpre vm₁ X₁.warmed) with ⟨v, B, X', hpost, hsteps⟩ | ⟨q, B, X', hpost, hsteps⟩
  · exact Or.inl ⟨v, vm₁, B, X₁.warmed, X', hpost, fun target h => hstep₁ _ fun acts => by rw [doInvoke_state]; exact hsteps.trans h⟩
  · exact Or.inr ⟨q, vm₁, B, X₁.warmed, X', hpost, hstep₁ _ fun acts => by rw [doInvoke_state]; exact hsteps⟩
theorem vx_callVW (X : Stand p l e R s m args below meth c T locs cells slots) (hexec : p.tables.exec = Jvm.exec) {own C : String} {index : Nat} {y : MethodName} {bytes : ByteArray} {maxL : Nat} {ret : Option FieldType} {hh : List (Nat × Nat × Nat × Nat)}
    (hown : s.vm.findClass own = some m.cls) (hlink : (Cond.methodLink own index y).before args s = true) (hinst : (Cond.instanceMethod y).before args s = true) (hsel : (Cond.selects C y y).before args s = true)
    (hcode : (Cond.codeWith y bytes maxL ret hh).before args s = true) (hy : y.cls ≠ "java/lang/invoke/MethodHandle" ∧ y.cls ≠ "java/lang/invoke/VarHandle")
    {W9 : Nat} {Pre : Pt → Array Value → Prop} {Post : Pt → Array Value → Option Value → Pt → Prop} (hK : Back l R p e below s args y 3 W9 Pre Post)
    {b : Addr} {cellB : Cell} (hcell : T.heap[b]? = some cellB) (hobj : cellB.vm.isStatics = false) (hcls : s.vm.findClass C = some cellB.cls)
    {g : JFrame} (hg : g.method = m) (hsize : g.locals.size = c.maxLocals) {argsL rest : List Value} (hlen : ∀ sig, parseMethodDescriptor y.desc = some sig → argsL.length = sig.parameters.length)
    (hstack : g.stack = argsL.reverse ++ .ref b :: rest) (hW : 2 * g.monitorRoom + (rest.map fun v => v.category).sum ≤ W9) (hdg : decode c.code g.pc = .ok (.invokevirtual index, 3))
    (hpre : ∀ vm₁, s.WarmedH vm₁ → Pre ⟨T.setVm vm₁, locs, cells, slots⟩ (Value.ref b :: argsL).toArray) :
    ∃ (v : Option Value) (vm₁ : Vm) (B : Pt), s.WarmedH vm₁ ∧ Stand p l e R s m args below meth c B.U B.locs B.cells B.slots ∧ Post ⟨T.setVm vm₁, locs, cells, slots⟩ (Value.ref b :: argsL).toArray v B ∧
      ∀ target, Steps p.tables e below (B.U.setTop { g with pc := g.pc + 3, stack := v.toList ++ rest }) target → Steps p.tables e below (T.setTop g) target := by
  obtain ⟨mk, methM, hnamed, hmethM, hstM, habM⟩ := Cond.instanceMethod_spec hinst
  obtain ⟨m8, methM', cM, hn8, hmethM', -, -, -, -, -, -, hsigM⟩ := Cond.codeWith_spec hcode
  cases Option.some.inj (hn8.symm.trans hnamed)
  cases hmethM.symm.trans hmethM'
  obtain ⟨c2, r2, m2, q1, q2, q3, q4, kP, hkP, hkPi⟩ := Cond.selects_spec hsel
  cases hcls.symm.trans q1
  cases (State.methodFound?_of_named hnamed hy).symm.trans q2
  cases hnamed.symm.trans q3
  have hselP : selectMethod e.platform s.vm cellB.cls mk = .method mk := by rw [Launch.admits_selectMethod X.admits]; exact q4
  obtain ⟨vm₁, X₁, hstep₁⟩ := X.invokevirtual hexec hown hlink hnamed hmethM hstM hkP hkPi hy (a := b) (cell := cellB) hcell
    (fun z h => by rw [h] at hobj; cases hobj) hselP hmethM habM hkP hkPi (g := g) hg (argsL := argsL) (rest := rest) (hlen _ hsigM) hstack hdg
  obtain ⟨v, B, X', hpost, hsteps⟩ := hK m meth c ⟨T.setVm vm₁, locs, cells, slots⟩ { g with stack := rest } (.invokevirtual index) mk (Value.ref b :: argsL).toArray X₁ hg hsize hdg hW (X₁.named hnamed) (hpre vm₁ X₁.warmed)
  exact ⟨v, vm₁, B, X₁.warmed, X', hpost, fun target h => hstep₁ _ fun acts => by rw [doInvoke_state]; exact hsteps.trans h⟩
noncomputable abbrev vx_CVW (R : Room) (s : State) (args : Array Value) (own C : String) (index : Nat) (y : MethodName) (bytes : ByteArray) (maxL : Nat) (ret : Option FieldType) (hh : List (Nat × Nat × Nat × Nat)) (ws : List Cond) (rm : Room) (mc ms n : Nat) : Prop :=
  (rm.cells = mc ∧ rm.slots = ms ∧ rm.frames + 1 ≤ R.frames ∧ 8 + (maxL + 11) + rm.locals ≤ R.locals ∧ (∀ w ∈ ws, ∀ (a' : Array Value) (U : State), s.WarmedH U.vm → w.before a' U = true) ∧ Cond.codeWith y bytes maxL ret hh ∈ ws) ∧
  (Cond.codeWith y bytes maxL ret hh).before args s = true ∧ (Cond.initialized y.cls).before args s = true ∧ (y.cls ≠ "java/lang/invoke/MethodHandle" ∧ y.cls ≠ "java/lang/invoke/VarHandle") ∧
  (∀ sig, parseMethodDescriptor y.desc = some sig → n = sig.parameters.length) ∧ (Cond.methodLink own index y).before args s = true ∧ (Cond.instanceMethod y).before args s = true ∧ (Cond.selects C y y).before args s = true
theorem vx_runVW {y : MethodName} {bytes cc : ByteArray} {maxL nL mc ms n index : Nat} {ret : Option FieldType} {hh : List (Nat × Nat × Nat × Nat)} {ws : List Cond} {rm : Room} {Pc : Array Value → State → Prop} {Qc : Array Value → State → Outcome → State → Prop} {free : Addr → Prop} {Ts : List Cond} {own C : String} {b : Addr} {As rest : List Value} {g : JFrame}
    (S : CallFix p m c cc nL s args Ts own) (hM : Met l y ws rm Pc Qc mc ms free) (cw : vx_CVW R s args own C index y bytes maxL ret hh ws rm mc ms n) (hp : PreV s H C b Pc As)
    (hg : g.method = m) (hn : As.length = n) (hsize : g.locals.size = nL) (hstack : g.stack = As.reverse ++ .ref b :: rest) (hW : 2 * g.monitorRoom + (rest.map fun v => v.category).sum ≤ 8) (hdg : decode cc g.pc = .ok (.invokevirtual index, 3)) (hf : cells + mc ≤ R.cells ∧ slots + ms ≤ R.slots) :
    va_Run p l e R s m args below meth c H locs cells slots mc ms g rest (Qc (Value.ref b :: As).toArray) free := by
  obtain ⟨⟨hrc, hrs, hfr, hlo, hws, hcw⟩, hcode, hini, hy, hlen, hl, hin, hse⟩ := cw
  have hK : Back l R p e below s args y 3 8 (PreOf R mc ms Pc) (PostOf Qc mc ms free) := va_backW (hh := hh) (bytes := bytes) (maxL := maxL) (ret := ret) hM hp.1 hrc hrs hfr hlo hws hcw (fun a' U hW => word_at hW (Or.inl (by first | rfl | simp [Cond.onTables, Cond.keeps, Cond.steady])) hini)
  obtain ⟨hx, hb, hml, ho, -⟩ := S
  obtain ⟨-, ⟨cellB, hcB, hoB, hclB⟩, hPc⟩ := hp
  intro T hT X
  obtain ⟨v, vm₁, ⟨U', l2, c2, s2⟩, hW₁, X', ⟨g', mk, t, L, e1, e2, hq, h1, hL, h2, h3⟩, st⟩ := vx_callVW X hx (C := C) (hh := hh) (bytes := bytes) (maxL := maxL) (ret := ret) ho hl hin hse hcode hy hK (by rw [hT]; exact hcB) hoB hclB hg (hsize.trans hml.symm) (argsL := As) (rest := rest) (fun sig h => hn.trans (hlen sig h)) hstack hW (by rw [hb]; exact hdg)
    (fun vm₁ hW₁ => ⟨hf.1, hf.2, hPc (T.setVm vm₁) hT hW₁⟩)
  dsimp only [Pt.U, Pt.locs, Pt.cells, Pt.slots] at X' e1 e2 h1 h2 h3 st
  subst h1; subst h2; subst h3
  exact ⟨v, (T.setVm vm₁).calling g' mk (Value.ref b :: As).toArray, t, U', L, hT, X', hL, e1, e2, hq, st⟩
section
variable {y : MethodName} {bytes cc : ByteArray} {maxL nL mc ms n index : Nat} {ret : Option FieldType} {ws : List Cond} {rm : Room} {Pc : Array Value → State → Prop} {Qc : Array Value → State → Outcome → State → Prop} {XC : String → State → State → Prop} {free : Addr → Prop} {Ts : List Cond} {own C : String} {b : Addr} {As rest : List Value} {g : JFrame}
theorem vx_runVX {hh : List (Nat × Nat × Nat × Nat)} (S : CallFix p m c cc nL s args Ts own) (hM : vx_Met l y ws rm Pc Qc XC mc ms free) (cw : vx_CVW R s args own C index y bytes maxL ret hh ws rm mc ms n) (hp : PreV s H C b Pc As)
    (hg : g.method = m) (hn : As.length = n) (hsize : g.locals.size = nL) (hstack : g.stack = As.reverse ++ .ref b :: rest) (hW : 2 * g.monitorRoom + (rest.map fun v => v.category).sum ≤ 8) (hdg : decode cc g.pc = .ok (.invokevirtual index, 3)) (hf : cells + mc ≤ R.cells ∧ slots + ms ≤ R.slots) :
    vx_Run p l e R s m args below meth c H locs cells slots mc ms g rest (Qc (Value.ref b :: As).toArray) XC free := by
  obtain ⟨⟨hrc, hrs, hfr, hlo, hws, hcw⟩, hcode, hini, hy, hlen, hl, hin, hse⟩ := cw
  have hK : vx_Back l R p e below s args y 3 8 (PreOf R mc ms Pc) (PostOf Qc mc ms free) (vx_Post XC mc ms free) := vx_backW (hh := hh) (bytes := bytes) (maxL := maxL) (ret := ret) hM hp.1 hrc hrs hfr hlo hws hcw (fun a' U hW => word_at hW (Or.inl (by first | rfl | simp [Cond.onTables, Cond.keeps, Cond.steady])) hini)
  obtain ⟨hx, hb, hml, ho, -⟩ := S
  obtain ⟨-, ⟨cellB, hcB, hoB, hclB⟩, hPc⟩ := hp
  intro T hT X
  rcases vx_callVX X hx (C := C) (hh := hh) (bytes := bytes) (maxL := maxL) (ret := ret) ho hl hin hse hcode hy hK (by rw [hT]; exact hcB) hoB hclB hg (hsize.trans hml.symm) (argsL := As) (rest := rest) (fun sig h => hn.trans (hlen sig h)) hstack hW (by rw [hb]; exact hdg)
    (fun vm₁ hW₁ => ⟨hf.1, hf.2, hPc (T.setVm vm₁) hT hW₁⟩) with ⟨v, vm₁, ⟨U', l2, c2, s2⟩, hW₁, X', ⟨g', mk, t, L, e1, e2, hq, h1, hL, h2, h3⟩, st⟩ | ⟨q, vm₁, ⟨U', l2, c2, s2⟩, hW₁, X', ⟨g', mk, t, L, E, ce, e1, e2, hq, hce, hcv, hcl, h1, hL, h2, h3⟩, st⟩
  · dsimp only [Pt.U, Pt.locs, Pt.cells, Pt.slots] at X' e1 e2 h1 h2 h3 st
    subst h1; subst h2; subst h3
    exact Or.inl ⟨v, (T.setVm vm₁).calling g' mk (Value.ref b :: As).toArray, t, U', L, hT, X', hL, e1, e2, hq, st⟩
  · dsimp only [Pt.U, Pt.locs, Pt.cells, Pt.slots] at X' e1 e2 h1 h2 h3 st hcl
    subst h1; subst h2; subst h3
    exact Or.inr ⟨q, (T.setVm vm₁).calling g' mk (Value.ref b :: As).toArray, t, U', L, E, ce, hT, X', hL, e1, e2, hq, hce, hcv, vx_cls hW₁ hcl, st⟩
theorem vx_runSX {hh : List (Nat × Nat × Nat × Nat)} (S : CallFix p m c cc nL s args Ts own) (hM : vx_Met l y ws rm Pc Qc XC mc ms free) (cw : vx_CSW R s args own index y bytes maxL ret hh ws rm mc ms n) (hp : PreS s H Pc As)
    (hg : g.method = m) (hn : As.length = n) (hsize : g.locals.size = nL) (hstack : g.stack = As.reverse ++ rest) (hW : 2 * g.monitorRoom + (rest.map fun v => v.category).sum ≤ 8) (hdg : decode cc g.pc = .ok (.invokestatic index, 3)) (hf : cells + mc ≤ R.cells ∧ slots + ms ≤ R.slots) :
    vx_Run p l e R s m args below meth c H locs cells slots mc ms g rest (Qc As.toArray) XC free := by
  obtain ⟨⟨hrc, hrs, hfr, hlo, hws, hcw⟩, hcode, hini, hy, hlen, hl, hstt⟩ := cw
  have hK : vx_Back l R p e below s args y 3 8 (PreOf R mc ms Pc) (PostOf Qc mc ms free) (vx_Post XC mc ms free) := vx_backW (hh := hh) (bytes := bytes) (maxL := maxL) (ret := ret) hM hp.1 hrc hrs hfr hlo hws hcw (fun a' U hW => word_at hW (Or.inl (by first | rfl | simp [Cond.onTables, Cond.keeps, Cond.steady])) hini)
  obtain ⟨hx, hb, hml, ho, -⟩ := S
  intro T hT X
  rcases vx_callSX X hx (hh := hh) (bytes := bytes) (maxL := maxL) (ret := ret) ho hl hstt hini hcode hy hK hg (hsize.trans hml.symm) (argsL := As) (rest := rest) (fun sig h => hn.trans (hlen sig h)) hstack hW (by rw [hb]; exact hdg)
    (fun vm₁ hW₁ => ⟨hf.1, hf.2, hp.2 (T.setVm vm₁) hT hW₁⟩) with ⟨v, vm₁, ⟨U', l2, c2, s2⟩, hW₁, X', ⟨g', mk, t, L, e1, e2, hq, h1, hL, h2, h3⟩, st⟩ | ⟨q, vm₁, ⟨U', l2, c2, s2⟩, hW₁, X', ⟨g', mk, t, L, E, ce, e1, e2, hq, hce, hcv, hcl, h1, hL, h2, h3⟩, st⟩
  · dsimp only [Pt.U, Pt.locs, Pt.cells, Pt.slots] at X' e1 e2 h1 h2 h3 st
    subst h1; subst h2; subst h3
    exact Or.inl ⟨v, (T.setVm vm₁).calling g' mk As.toArray, t, U', L, hT, X', hL, e1, e2, hq, st⟩
  · dsimp only [Pt.U, Pt.locs, Pt.cells, Pt.slots] at X' e1 e2 h1 h2 h3 st hcl
    subst h1; subst h2; subst h3
    exact Or.inr ⟨q, (T.setVm vm₁).calling g' mk As.toArray, t, U', L, E, ce, hT, X', hL, e1, e2, hq, hce, hcv, vx_cls hW₁ hcl, st⟩
end
end VXH
theorem vx_ofWH {l : Launch} {y : MethodName} {ws ws' : List Cond} {rm : Room} {Pc : Array Value → State → Prop} {Qc : Array Value → State → Outcome → State → Prop} {XC : String → State → State → Prop} {mc ms : Nat} {free : Addr → Prop} {cc : ByteArray} {maxL : Nat} {ret : Option FieldType} {hh : List (Nat × Nat × Nat × Nat)}
    (hy : plainName y.cls = true) (hw : ws = Cond.codeWith y cc maxL ret hh :: ws')
    (body : ∀ p e s m args below meth c s₁, BodyLoose p l y (headSpec ws rm) cc maxL ret e s m args below meth c s₁ → c.maxLocals = maxL → Pc args s →
      W p l e (headSpec ws rm).room s m args below meth c s.heap [] 0 0 (vx_MQ below Qc XC args s mc ms free) (entryFrame m args maxL)) : vx_Met l y ws rm Pc Qc XC mc ms free := by
  refine MetFree.of_bodyS (code := cc) (maxLocals := maxL) (ret := ret) hy ?_ ?_
  · intro args s m h hn
    obtain ⟨m9, meth, c, hn9, h1, h2, h3, h4, -, h5, h6, -⟩ := Cond.codeWith_spec (atoms_spec (ws := ws) h _ (by rw [hw]; exact List.mem_cons_self))
    cases hn.symm.trans hn9
    exact ⟨meth, c, h1, h2, h3, h4, h5, h6⟩
  · intro p e s m args below meth c s₁ B hml hP _
    have hh0 : s₁.heap = s.heap := by rw [B.state]; rfl
    obtain ⟨t, a1, o, b1, b2, b3⟩ := body p e s m args below meth c s₁ B hml hP s₁ hh0 (Stand.of_body B)
    exact ⟨t, o, a1, b1, b2, b3⟩
/-! ===== END ===== -/
end
/-! ===== BEGIN printed: names, fields, word lists, decode rows ===== -/
noncomputable def RX0 : String := "BeardPass$Frontier"
noncomputable def TX0 : u_T := fun k => match k with
  | _ => ("BeardPass$Frontier", "land", "LBeardPass$Land;", true)
noncomputable def tyX0 : Nat → FieldType := fun k => match k with
  | _ => .object "BeardPass$Land"
noncomputable abbrev wsX00 : List Cond := u_ws RX0 TX0 1
theorem nmX0 : ∀ a, a < 1 → ∀ b, b < 1 → a ≠ b → (TX0 a).2.1 ≠ (TX0 b).2.1 := by decide +kernel
theorem tyX0_ok : ∀ k, k < 1 → parseFieldDescriptor (TX0 k).2.2.1 = some (tyX0 k) := by decide +kernel
noncomputable abbrev cX0_init : ByteArray := prog_2_method_1_code
noncomputable def yX0_init : MethodName := ⟨RX0, "<init>", "(LBeardPass$Land;)V"⟩
noncomputable abbrev cX0_passesAlone : ByteArray := prog_2_method_2_code
noncomputable def yX0_passesAlone : MethodName := ⟨RX0, "passesAlone", "(LBeardPass$Standing;III)Z"⟩
noncomputable abbrev cX0_opens : ByteArray := prog_2_method_3_code
noncomputable def yX0_opens : MethodName := ⟨RX0, "opens", "(LBeardPass$Standing;II)I"⟩
noncomputable abbrev cX0_voices : ByteArray := prog_2_method_4_code
noncomputable def yX0_voices : MethodName := ⟨RX0, "voices", "(LBeardPass$Standing;II)I"⟩
noncomputable abbrev cX0_lets : ByteArray := prog_2_method_5_code
noncomputable def yX0_lets : MethodName := ⟨RX0, "lets", "(LBeardPass$Standing;II)Z"⟩
noncomputable abbrev cX0_letThrough : ByteArray := prog_2_method_6_code
noncomputable def yX0_letThrough : MethodName := ⟨RX0, "letThrough", "(LBeardPass$Standing;I)I"⟩
noncomputable abbrev cX0_canGo : ByteArray := prog_2_method_7_code
noncomputable def yX0_canGo : MethodName := ⟨RX0, "canGo", "(LBeardPass$Standing;II)Z"⟩
noncomputable abbrev cX0_canForge : ByteArray := prog_2_method_8_code
noncomputable def yX0_canForge : MethodName := ⟨RX0, "canForge", "(LBeardPass$Standing;II)Z"⟩
noncomputable abbrev cX0_sell : ByteArray := prog_2_method_9_code
noncomputable def yX0_sell : MethodName := ⟨RX0, "sell", "(LBeardPass$Standing;II)V"⟩
noncomputable abbrev cX0_passWeek : ByteArray := prog_2_method_10_code
noncomputable def yX0_passWeek : MethodName := ⟨RX0, "passWeek", "(LBeardPass$Standing;)V"⟩
noncomputable def RX1 : String := "BeardPass$Journey"
noncomputable def TX1 : u_T := fun k => match k with
  | 0 => ("BeardPass$Journey", "deeds", "[I", true)
  | 1 => ("BeardPass$Journey", "doers", "[I", true)
  | 2 => ("BeardPass$Journey", "objects", "[I", true)
  | _ => ("BeardPass$Journey", "lines", "I", false)
noncomputable def tyX1 : Nat → FieldType := fun k => match k with
  | 0 => .array .int
  | 1 => .array .int
  | 2 => .array .int
  | _ => .int
noncomputable abbrev wsX10 : List Cond := u_ws RX1 TX1 4
theorem nmX1 : ∀ a, a < 4 → ∀ b, b < 4 → a ≠ b → (TX1 a).2.1 ≠ (TX1 b).2.1 := by decide +kernel
theorem tyX1_ok : ∀ k, k < 4 → parseFieldDescriptor (TX1 k).2.2.1 = some (tyX1 k) := by decide +kernel
noncomputable abbrev cX1_init : ByteArray := prog_3_method_1_code
noncomputable def yX1_init : MethodName := ⟨RX1, "<init>", "()V"⟩
noncomputable abbrev cX1_copy : ByteArray := prog_3_method_2_code
noncomputable def yX1_copy : MethodName := ⟨RX1, "copy", "(LBeardPass$Journey;)V"⟩
noncomputable abbrev cX1_read : ByteArray := prog_3_method_3_code
noncomputable def yX1_read : MethodName := ⟨RX1, "read", "(LBeardPass$Tape;LBeardPass$Land;)Z"⟩
noncomputable abbrev cX1_readLine : ByteArray := prog_3_method_4_code
noncomputable def yX1_readLine : MethodName := ⟨RX1, "readLine", "(LBeardPass$Tape;LBeardPass$Land;)Z"⟩
noncomputable abbrev cX1_readDoer : ByteArray := prog_3_method_5_code
noncomputable def yX1_readDoer : MethodName := ⟨RX1, "readDoer", "(LBeardPass$Tape;LBeardPass$Land;I)Z"⟩
noncomputable abbrev cX1_deedHere : ByteArray := prog_3_method_6_code
noncomputable def yX1_deedHere : MethodName := ⟨RX1, "deedHere", "(LBeardPass$Tape;)I"⟩
noncomputable abbrev cX1_goesTo : ByteArray := prog_3_method_7_code
noncomputable def yX1_goesTo : MethodName := ⟨RX1, "goesTo", "(I)I"⟩
noncomputable abbrev cX1_perform : ByteArray := prog_3_method_8_code
noncomputable def yX1_perform : MethodName := ⟨RX1, "perform", "(ILBeardPass$Frontier;LBeardPass$Standing;)Z"⟩
noncomputable def RX2 : String := "BeardPass$Land"
noncomputable def TX2 : u_T := fun k => match k with
  | 0 => ("BeardPass$Land", "asks", "[I", true)
  | 1 => ("BeardPass$Land", "roads", "[I", true)
  | 2 => ("BeardPass$Land", "townNames", "[J", true)
  | 3 => ("BeardPass$Land", "kinds", "[I", true)
  | 4 => ("BeardPass$Land", "homes", "[I", true)
  | 5 => ("BeardPass$Land", "beards", "[I", true)
  | 6 => ("BeardPass$Land", "purses", "[I", true)
  | 7 => ("BeardPass$Land", "personNames", "[J", true)
  | 8 => ("BeardPass$Land", "law", "LBeardPass$Law;", true)
  | 9 => ("BeardPass$Land", "towns", "I", false)
  | 10 => ("BeardPass$Land", "persons", "I", false)
  | 11 => ("BeardPass$Land", "grows", "I", false)
  | _ => ("BeardPass$Land", "inch", "I", false)
noncomputable def tyX2 : Nat → FieldType := fun k => match k with
  | 0 => .array .int
  | 1 => .array .int
  | 2 => .array .long
  | 3 => .array .int
  | 4 => .array .int
  | 5 => .array .int
  | 6 => .array .int
  | 7 => .array .long
  | 8 => .object "BeardPass$Law"
  | 9 => .int
  | 10 => .int
  | 11 => .int
  | _ => .int
noncomputable abbrev wsX20 : List Cond := u_ws RX2 TX2 13
theorem nmX2 : ∀ a, a < 13 → ∀ b, b < 13 → a ≠ b → (TX2 a).2.1 ≠ (TX2 b).2.1 := by decide +kernel
theorem tyX2_ok : ∀ k, k < 13 → parseFieldDescriptor (TX2 k).2.2.1 = some (tyX2 k) := by decide +kernel
noncomputable abbrev cX2_init : ByteArray := prog_4_method_1_code
noncomputable def yX2_init : MethodName := ⟨RX2, "<init>", "()V"⟩
noncomputable abbrev cX2_clear : ByteArray := prog_4_method_2_code
noncomputable def yX2_clear : MethodName := ⟨RX2, "clear", "()V"⟩
noncomputable abbrev cX2_copy : ByteArray := prog_4_method_3_code
noncomputable def yX2_copy : MethodName := ⟨RX2, "copy", "(LBeardPass$Land;)V"⟩
noncomputable abbrev cX2_townNamed : ByteArray := prog_4_method_4_code
noncomputable def yX2_townNamed : MethodName := ⟨RX2, "townNamed", "(J)I"⟩
noncomputable abbrev cX2_personNamed : ByteArray := prog_4_method_5_code
noncomputable def yX2_personNamed : MethodName := ⟨RX2, "personNamed", "(J)I"⟩
noncomputable abbrev cX2_allTowns : ByteArray := prog_4_method_6_code
noncomputable def yX2_allTowns : MethodName := ⟨RX2, "allTowns", "()I"⟩
noncomputable abbrev cX2_mostAsked : ByteArray := prog_4_method_7_code
noncomputable def yX2_mostAsked : MethodName := ⟨RX2, "mostAsked", "()I"⟩
noncomputable abbrev cX2_unreadLet : ByteArray := prog_4_method_8_code
noncomputable def yX2_unreadLet : MethodName := ⟨RX2, "unreadLet", "(II)I"⟩
noncomputable def RX3 : String := "BeardPass$LandReader"
noncomputable def TX3 : u_T := fun k => match k with
  | 0 => ("BeardPass$LandReader", "growsTold", "Z", false)
  | 1 => ("BeardPass$LandReader", "inchTold", "Z", false)
  | _ => ("BeardPass$LandReader", "readsTold", "Z", false)
noncomputable def tyX3 : Nat → FieldType := fun k => match k with
  | 0 => .boolean
  | 1 => .boolean
  | _ => .boolean
noncomputable abbrev wsX30 : List Cond := u_ws RX3 TX3 3
theorem nmX3 : ∀ a, a < 3 → ∀ b, b < 3 → a ≠ b → (TX3 a).2.1 ≠ (TX3 b).2.1 := by decide +kernel
theorem tyX3_ok : ∀ k, k < 3 → parseFieldDescriptor (TX3 k).2.2.1 = some (tyX3 k) := by decide +kernel
noncomputable abbrev cX3_init : ByteArray := prog_5_method_1_code
noncomputable def yX3_init : MethodName := ⟨RX3, "<init>", "()V"⟩
noncomputable abbrev cX3_read : ByteArray := prog_5_method_2_code
noncomputable def yX3_read : MethodName := ⟨RX3, "read", "(LBeardPass$Tape;LBeardPass$Land;)Z"⟩
noncomputable abbrev cX3_readLine : ByteArray := prog_5_method_3_code
noncomputable def yX3_readLine : MethodName := ⟨RX3, "readLine", "(LBeardPass$Tape;LBeardPass$Land;)Z"⟩
noncomputable abbrev cX3_readTown : ByteArray := prog_5_method_4_code
noncomputable def yX3_readTown : MethodName := ⟨RX3, "readTown", "(LBeardPass$Tape;LBeardPass$Land;)Z"⟩
noncomputable abbrev cX3_readRoad : ByteArray := prog_5_method_5_code
noncomputable def yX3_readRoad : MethodName := ⟨RX3, "readRoad", "(LBeardPass$Tape;LBeardPass$Land;)Z"⟩
noncomputable abbrev cX3_readPerson : ByteArray := prog_5_method_6_code
noncomputable def yX3_readPerson : MethodName := ⟨RX3, "readPerson", "(LBeardPass$Tape;LBeardPass$Land;)Z"⟩
noncomputable abbrev cX3_readGoods : ByteArray := prog_5_method_7_code
noncomputable def yX3_readGoods : MethodName := ⟨RX3, "readGoods", "(LBeardPass$Tape;LBeardPass$Land;I)Z"⟩
noncomputable abbrev cX3_kindHere : ByteArray := prog_5_method_8_code
noncomputable def yX3_kindHere : MethodName := ⟨RX3, "kindHere", "(LBeardPass$Tape;)I"⟩
noncomputable abbrev cX3_isNewName : ByteArray := prog_5_method_9_code
noncomputable def yX3_isNewName : MethodName := ⟨RX3, "isNewName", "(LBeardPass$Tape;LBeardPass$Land;)Z"⟩
noncomputable abbrev cX3_readGrows : ByteArray := prog_5_method_10_code
noncomputable def yX3_readGrows : MethodName := ⟨RX3, "readGrows", "(LBeardPass$Tape;LBeardPass$Land;)Z"⟩
noncomputable abbrev cX3_readInch : ByteArray := prog_5_method_11_code
noncomputable def yX3_readInch : MethodName := ⟨RX3, "readInch", "(LBeardPass$Tape;LBeardPass$Land;)Z"⟩
noncomputable abbrev cX3_beginReads : ByteArray := prog_5_method_12_code
noncomputable def yX3_beginReads : MethodName := ⟨RX3, "beginReads", "(LBeardPass$Tape;LBeardPass$Land;)Z"⟩
noncomputable def RX4 : String := "BeardPass$Law"
noncomputable def TX4 : u_T := fun k => match k with
  | 0 => ("BeardPass$Law", "code", "[I", true)
  | 1 => ("BeardPass$Law", "stack", "[I", true)
  | _ => ("BeardPass$Law", "size", "I", false)
noncomputable def tyX4 : Nat → FieldType := fun k => match k with
  | 0 => .array .int
  | 1 => .array .int
  | _ => .int
noncomputable abbrev wsX40 : List Cond := u_ws RX4 TX4 3
theorem nmX4 : ∀ a, a < 3 → ∀ b, b < 3 → a ≠ b → (TX4 a).2.1 ≠ (TX4 b).2.1 := by decide +kernel
theorem tyX4_ok : ∀ k, k < 3 → parseFieldDescriptor (TX4 k).2.2.1 = some (tyX4 k) := by decide +kernel
noncomputable abbrev cX4_init : ByteArray := prog_6_method_1_code
noncomputable def yX4_init : MethodName := ⟨RX4, "<init>", "()V"⟩
noncomputable abbrev cX4_beAsUntold : ByteArray := prog_6_method_2_code
noncomputable def yX4_beAsUntold : MethodName := ⟨RX4, "beAsUntold", "()V"⟩
noncomputable abbrev cX4_copy : ByteArray := prog_6_method_3_code
noncomputable def yX4_copy : MethodName := ⟨RX4, "copy", "(LBeardPass$Law;)V"⟩
noncomputable abbrev cX4_add : ByteArray := prog_6_method_4_code
noncomputable def yX4_add : MethodName := ⟨RX4, "add", "(I)V"⟩
noncomputable abbrev cX4_readWhole : ByteArray := prog_6_method_5_code
noncomputable def yX4_readWhole : MethodName := ⟨RX4, "readWhole", "(LBeardPass$Tape;I)Z"⟩
noncomputable abbrev cX4_readTest : ByteArray := prog_6_method_6_code
noncomputable def yX4_readTest : MethodName := ⟨RX4, "readTest", "(LBeardPass$Tape;I)Z"⟩
noncomputable abbrev cX4_readSum : ByteArray := prog_6_method_7_code
noncomputable def yX4_readSum : MethodName := ⟨RX4, "readSum", "(LBeardPass$Tape;I)Z"⟩
noncomputable abbrev cX4_readProduct : ByteArray := prog_6_method_8_code
noncomputable def yX4_readProduct : MethodName := ⟨RX4, "readProduct", "(LBeardPass$Tape;I)Z"⟩
noncomputable abbrev cX4_readPart : ByteArray := prog_6_method_9_code
noncomputable def yX4_readPart : MethodName := ⟨RX4, "readPart", "(LBeardPass$Tape;I)Z"⟩
noncomputable abbrev cX4_valueHere : ByteArray := prog_6_method_10_code
noncomputable def yX4_valueHere : MethodName := ⟨RX4, "valueHere", "(LBeardPass$Tape;)I"⟩
noncomputable abbrev cX4_passes : ByteArray := prog_6_method_11_code
noncomputable def yX4_passes : MethodName := ⟨RX4, "passes", "(IIII)Z"⟩
noncomputable abbrev cX4_valueOf : ByteArray := prog_6_method_12_code
noncomputable def yX4_valueOf : MethodName := ⟨RX4, "valueOf", "(IIIII)I"⟩
noncomputable abbrev cX4_join : ByteArray := prog_6_method_13_code
noncomputable def yX4_join : MethodName := ⟨RX4, "join", "(III)I"⟩
noncomputable def RX5 : String := "BeardPass$Mark"
noncomputable def TX5 : u_T := fun k => match k with
  | 0 => ("BeardPass$Mark", "standing", "LBeardPass$Standing;", true)
  | 1 => ("BeardPass$Mark", "plan", "LBeardPass$Journey;", true)
  | 2 => ("BeardPass$Mark", "sightings", "LBeardPass$Sightings;", true)
  | _ => ("BeardPass$Mark", "laid", "Z", false)
noncomputable def tyX5 : Nat → FieldType := fun k => match k with
  | 0 => .object "BeardPass$Standing"
  | 1 => .object "BeardPass$Journey"
  | 2 => .object "BeardPass$Sightings"
  | _ => .boolean
noncomputable abbrev wsX50 : List Cond := u_ws RX5 TX5 4
theorem nmX5 : ∀ a, a < 4 → ∀ b, b < 4 → a ≠ b → (TX5 a).2.1 ≠ (TX5 b).2.1 := by decide +kernel
theorem tyX5_ok : ∀ k, k < 4 → parseFieldDescriptor (TX5 k).2.2.1 = some (tyX5 k) := by decide +kernel
noncomputable abbrev cX5_init : ByteArray := prog_7_method_1_code
noncomputable def yX5_init : MethodName := ⟨RX5, "<init>", "()V"⟩
noncomputable abbrev cX5_lay : ByteArray := prog_7_method_2_code
noncomputable def yX5_lay : MethodName := ⟨RX5, "lay", "(LBeardPass$Standing;LBeardPass$Journey;LBeardPass$Sightings;)V"⟩
noncomputable def RX6 : String := "BeardPass$Sightings"
noncomputable def TX6 : u_T := fun k => match k with
  | 0 => ("BeardPass$Sightings", "possible", "I", false)
  | _ => ("BeardPass$Sightings", "many", "I", false)
noncomputable def tyX6 : Nat → FieldType := fun k => match k with
  | 0 => .int
  | _ => .int
noncomputable abbrev wsX60 : List Cond := u_ws RX6 TX6 2
theorem nmX6 : ∀ a, a < 2 → ∀ b, b < 2 → a ≠ b → (TX6 a).2.1 ≠ (TX6 b).2.1 := by decide +kernel
theorem tyX6_ok : ∀ k, k < 2 → parseFieldDescriptor (TX6 k).2.2.1 = some (tyX6 k) := by decide +kernel
noncomputable abbrev cX6_init : ByteArray := prog_8_method_1_code
noncomputable def yX6_init : MethodName := ⟨RX6, "<init>", "()V"⟩
noncomputable abbrev cX6_clear : ByteArray := prog_8_method_2_code
noncomputable def yX6_clear : MethodName := ⟨RX6, "clear", "()V"⟩
noncomputable abbrev cX6_copy : ByteArray := prog_8_method_3_code
noncomputable def yX6_copy : MethodName := ⟨RX6, "copy", "(LBeardPass$Sightings;)V"⟩
noncomputable abbrev cX6_add : ByteArray := prog_8_method_4_code
noncomputable def yX6_add : MethodName := ⟨RX6, "add", "(I)V"⟩
noncomputable def RX7 : String := "BeardPass$Sort"
noncomputable def RX8 : String := "BeardPass$Standing"
noncomputable def TX8 : u_T := fun k => match k with
  | 0 => ("BeardPass$Standing", "places", "[I", true)
  | 1 => ("BeardPass$Standing", "beards", "[I", true)
  | 2 => ("BeardPass$Standing", "forged", "[I", true)
  | 3 => ("BeardPass$Standing", "purses", "[I", true)
  | 4 => ("BeardPass$Standing", "been", "[I", true)
  | _ => ("BeardPass$Standing", "weeks", "I", false)
noncomputable def tyX8 : Nat → FieldType := fun k => match k with
  | 0 => .array .int
  | 1 => .array .int
  | 2 => .array .int
  | 3 => .array .int
  | 4 => .array .int
  | _ => .int
noncomputable abbrev wsX80 : List Cond := u_ws RX8 TX8 6
theorem nmX8 : ∀ a, a < 6 → ∀ b, b < 6 → a ≠ b → (TX8 a).2.1 ≠ (TX8 b).2.1 := by decide +kernel
theorem tyX8_ok : ∀ k, k < 6 → parseFieldDescriptor (TX8 k).2.2.1 = some (tyX8 k) := by decide +kernel
noncomputable abbrev cX8_init : ByteArray := prog_10_method_1_code
noncomputable def yX8_init : MethodName := ⟨RX8, "<init>", "()V"⟩
noncomputable abbrev cX8_begin : ByteArray := prog_10_method_2_code
noncomputable def yX8_begin : MethodName := ⟨RX8, "begin", "(LBeardPass$Land;)V"⟩
noncomputable abbrev cX8_copy : ByteArray := prog_10_method_3_code
noncomputable def yX8_copy : MethodName := ⟨RX8, "copy", "(LBeardPass$Standing;)V"⟩
noncomputable abbrev cX8_arrive : ByteArray := prog_10_method_4_code
noncomputable def yX8_arrive : MethodName := ⟨RX8, "arrive", "(II)V"⟩
noncomputable abbrev cX8_loseBeard : ByteArray := prog_10_method_5_code
noncomputable def yX8_loseBeard : MethodName := ⟨RX8, "loseBeard", "(I)V"⟩
noncomputable abbrev cX8_peopled : ByteArray := prog_10_method_6_code
noncomputable def yX8_peopled : MethodName := ⟨RX8, "peopled", "(I)I"⟩
noncomputable def RX9 : String := "BeardPass$Tape"
noncomputable def TX9 : u_T := fun k => match k with
  | 0 => ("BeardPass$Tape", "signs", "[C", true)
  | 1 => ("BeardPass$Tape", "length", "I", false)
  | 2 => ("BeardPass$Tape", "place", "I", false)
  | 3 => ("BeardPass$Tape", "next", "I", false)
  | 4 => ("BeardPass$Tape", "sort", "LBeardPass$Sort;", false)
  | 5 => ("BeardPass$Tape", "number", "I", false)
  | 6 => ("BeardPass$Tape", "word", "J", false)
  | _ => ("BeardPass$Tape", "fault", "I", false)
noncomputable def tyX9 : Nat → FieldType := fun k => match k with
  | 0 => .array .char
  | 1 => .int
  | 2 => .int
  | 3 => .int
  | 4 => .object "BeardPass$Sort"
  | 5 => .int
  | 6 => .long
  | _ => .int
noncomputable abbrev wsX90 : List Cond := u_ws RX9 TX9 8
theorem nmX9 : ∀ a, a < 8 → ∀ b, b < 8 → a ≠ b → (TX9 a).2.1 ≠ (TX9 b).2.1 := by decide +kernel
theorem tyX9_ok : ∀ k, k < 8 → parseFieldDescriptor (TX9 k).2.2.1 = some (tyX9 k) := by decide +kernel
noncomputable abbrev cX9_init : ByteArray := prog_11_method_1_code
noncomputable def yX9_init : MethodName := ⟨RX9, "<init>", "()V"⟩
noncomputable abbrev cX9_put : ByteArray := prog_11_method_2_code
noncomputable def yX9_put : MethodName := ⟨RX9, "put", "(J)V"⟩
noncomputable abbrev cX9_begin : ByteArray := prog_11_method_3_code
noncomputable def yX9_begin : MethodName := ⟨RX9, "begin", "()V"⟩
noncomputable abbrev cX9_step : ByteArray := prog_11_method_4_code
noncomputable def yX9_step : MethodName := ⟨RX9, "step", "()V"⟩
noncomputable abbrev cX9_stepOverWord : ByteArray := prog_11_method_5_code
noncomputable def yX9_stepOverWord : MethodName := ⟨RX9, "stepOverWord", "()V"⟩
noncomputable abbrev cX9_stepOverNumber : ByteArray := prog_11_method_6_code
noncomputable def yX9_stepOverNumber : MethodName := ⟨RX9, "stepOverNumber", "()V"⟩
noncomputable abbrev cX9_sortAs : ByteArray := prog_11_method_7_code
noncomputable def yX9_sortAs : MethodName := ⟨RX9, "sortAs", "(LBeardPass$Sort;)LBeardPass$Sort;"⟩
noncomputable abbrev cX9_spells : ByteArray := prog_11_method_8_code
noncomputable def yX9_spells : MethodName := ⟨RX9, "spells", "(Ljava/lang/String;)Z"⟩
noncomputable abbrev cX9_isLetter : ByteArray := prog_11_method_9_code
noncomputable def yX9_isLetter : MethodName := ⟨RX9, "isLetter", "(C)Z"⟩
noncomputable abbrev cX9_isDigit : ByteArray := prog_11_method_10_code
noncomputable def yX9_isDigit : MethodName := ⟨RX9, "isDigit", "(C)Z"⟩
noncomputable abbrev cX9_wrong : ByteArray := prog_11_method_11_code
noncomputable def yX9_wrong : MethodName := ⟨RX9, "wrong", "(I)Z"⟩
noncomputable abbrev cX9_take : ByteArray := prog_11_method_12_code
noncomputable def yX9_take : MethodName := ⟨RX9, "take", "(LBeardPass$Sort;)Z"⟩
noncomputable abbrev cX9_takeNumber : ByteArray := prog_11_method_13_code
noncomputable def yX9_takeNumber : MethodName := ⟨RX9, "takeNumber", "(II)I"⟩
noncomputable abbrev cX9_townHere : ByteArray := prog_11_method_14_code
noncomputable def yX9_townHere : MethodName := ⟨RX9, "townHere", "(LBeardPass$Land;)I"⟩
noncomputable abbrev cX9_personHere : ByteArray := prog_11_method_15_code
noncomputable def yX9_personHere : MethodName := ⟨RX9, "personHere", "(LBeardPass$Land;)I"⟩
noncomputable def RX10 : String := "BeardPass$Ways"
noncomputable def TX10 : u_T := fun k => match k with
  | 0 => ("BeardPass$Ways", "land", "LBeardPass$Land;", true)
  | 1 => ("BeardPass$Ways", "frontier", "LBeardPass$Frontier;", true)
  | 2 => ("BeardPass$Ways", "ahead", "LBeardPass$Standing;", true)
  | 3 => ("BeardPass$Ways", "standsAfter", "[I", true)
  | 4 => ("BeardPass$Ways", "steps", "[I", true)
  | 5 => ("BeardPass$Ways", "soonest", "[I", true)
  | _ => ("BeardPass$Ways", "latest", "[I", true)
noncomputable def tyX10 : Nat → FieldType := fun k => match k with
  | 0 => .object "BeardPass$Land"
  | 1 => .object "BeardPass$Frontier"
  | 2 => .object "BeardPass$Standing"
  | 3 => .array .int
  | 4 => .array .int
  | 5 => .array .int
  | _ => .array .int
noncomputable abbrev wsX100 : List Cond := u_ws RX10 TX10 7
theorem nmX10 : ∀ a, a < 7 → ∀ b, b < 7 → a ≠ b → (TX10 a).2.1 ≠ (TX10 b).2.1 := by decide +kernel
theorem tyX10_ok : ∀ k, k < 7 → parseFieldDescriptor (TX10 k).2.2.1 = some (tyX10 k) := by decide +kernel
noncomputable abbrev cX10_init : ByteArray := prog_12_method_1_code
noncomputable def yX10_init : MethodName := ⟨RX10, "<init>", "(LBeardPass$Land;LBeardPass$Frontier;)V"⟩
noncomputable abbrev cX10_lay : ByteArray := prog_12_method_2_code
noncomputable def yX10_lay : MethodName := ⟨RX10, "lay", "(LBeardPass$Standing;II)V"⟩
noncomputable abbrev cX10_widen : ByteArray := prog_12_method_3_code
noncomputable def yX10_widen : MethodName := ⟨RX10, "widen", "(I)I"⟩
noncomputable abbrev cX10_spread : ByteArray := prog_12_method_4_code
noncomputable def yX10_spread : MethodName := ⟨RX10, "spread", "(I)I"⟩
noncomputable abbrev cX10_reachOf : ByteArray := prog_12_method_5_code
noncomputable def yX10_reachOf : MethodName := ⟨RX10, "reachOf", "(LBeardPass$Standing;II)I"⟩
noncomputable abbrev cX10_distance : ByteArray := prog_12_method_6_code
noncomputable def yX10_distance : MethodName := ⟨RX10, "distance", "(II)I"⟩
noncomputable abbrev cX10_firstStep : ByteArray := prog_12_method_7_code
noncomputable def yX10_firstStep : MethodName := ⟨RX10, "firstStep", "(II)I"⟩
noncomputable abbrev cX10_linkedTo : ByteArray := prog_12_method_8_code
noncomputable def yX10_linkedTo : MethodName := ⟨RX10, "linkedTo", "(I)I"⟩
noncomputable abbrev cX10_findSoonest : ByteArray := prog_12_method_9_code
noncomputable def yX10_findSoonest : MethodName := ⟨RX10, "findSoonest", "(LBeardPass$Standing;II)V"⟩
noncomputable abbrev cX10_waitForSoonest : ByteArray := prog_12_method_10_code
noncomputable def yX10_waitForSoonest : MethodName := ⟨RX10, "waitForSoonest", "()V"⟩
noncomputable abbrev cX10_soonestRound : ByteArray := prog_12_method_11_code
noncomputable def yX10_soonestRound : MethodName := ⟨RX10, "soonestRound", "(LBeardPass$Standing;I)I"⟩
noncomputable abbrev cX10_wander : ByteArray := prog_12_method_12_code
noncomputable def yX10_wander : MethodName := ⟨RX10, "wander", "(I)V"⟩
noncomputable def RX11 : String := "BeardPass"
noncomputable def TX11 : u_T := fun k => match k with
  | 0 => ("BeardPass", "tape", "LBeardPass$Tape;", true)
  | 1 => ("BeardPass", "told", "LBeardPass$Land;", true)
  | 2 => ("BeardPass", "toldDraft", "LBeardPass$Land;", true)
  | 3 => ("BeardPass", "landReader", "LBeardPass$LandReader;", true)
  | 4 => ("BeardPass", "plan", "LBeardPass$Journey;", true)
  | 5 => ("BeardPass", "planDraft", "LBeardPass$Journey;", true)
  | 6 => ("BeardPass", "frontier", "LBeardPass$Frontier;", true)
  | 7 => ("BeardPass", "ways", "LBeardPass$Ways;", true)
  | 8 => ("BeardPass", "now", "LBeardPass$Standing;", true)
  | 9 => ("BeardPass", "trial", "LBeardPass$Standing;", true)
  | 10 => ("BeardPass", "sightings", "LBeardPass$Sightings;", true)
  | 11 => ("BeardPass", "past", "[LBeardPass$Standing;", true)
  | 12 => ("BeardPass", "marks", "[LBeardPass$Mark;", true)
  | 13 => ("BeardPass", "pastNext", "I", false)
  | _ => ("BeardPass", "pastCount", "I", false)
noncomputable def tyX11 : Nat → FieldType := fun k => match k with
  | 0 => .object "BeardPass$Tape"
  | 1 => .object "BeardPass$Land"
  | 2 => .object "BeardPass$Land"
  | 3 => .object "BeardPass$LandReader"
  | 4 => .object "BeardPass$Journey"
  | 5 => .object "BeardPass$Journey"
  | 6 => .object "BeardPass$Frontier"
  | 7 => .object "BeardPass$Ways"
  | 8 => .object "BeardPass$Standing"
  | 9 => .object "BeardPass$Standing"
  | 10 => .object "BeardPass$Sightings"
  | 11 => .array (.object "BeardPass$Standing")
  | 12 => .array (.object "BeardPass$Mark")
  | 13 => .int
  | _ => .int
noncomputable abbrev wsX110 : List Cond := u_ws RX11 TX11 15
theorem nmX11 : ∀ a, a < 15 → ∀ b, b < 15 → a ≠ b → (TX11 a).2.1 ≠ (TX11 b).2.1 := by decide +kernel
theorem tyX11_ok : ∀ k, k < 15 → parseFieldDescriptor (TX11 k).2.2.1 = some (tyX11 k) := by decide +kernel
noncomputable abbrev cX11_init : ByteArray := prog_1_method_1_code
noncomputable def yX11_init : MethodName := ⟨RX11, "<init>", "()V"⟩
noncomputable abbrev cX11_feed : ByteArray := prog_1_method_2_code
noncomputable def yX11_feed : MethodName := ⟨RX11, "feed", "(JJJ)I"⟩
noncomputable abbrev cX11_land : ByteArray := prog_1_method_3_code
noncomputable def yX11_land : MethodName := ⟨RX11, "land", "()I"⟩
noncomputable abbrev cX11_journey : ByteArray := prog_1_method_4_code
noncomputable def yX11_journey : MethodName := ⟨RX11, "journey", "()I"⟩
noncomputable abbrev cX11_person : ByteArray := prog_1_method_5_code
noncomputable def yX11_person : MethodName := ⟨RX11, "person", "(II)I"⟩
noncomputable abbrev cX11_town : ByteArray := prog_1_method_6_code
noncomputable def yX11_town : MethodName := ⟨RX11, "town", "(II)I"⟩
noncomputable abbrev cX11_count : ByteArray := prog_1_method_7_code
noncomputable def yX11_count : MethodName := ⟨RX11, "count", "(I)I"⟩
noncomputable abbrev cX11_sum : ByteArray := prog_1_method_8_code
noncomputable def yX11_sum : MethodName := ⟨RX11, "sum", "([I)I"⟩
noncomputable abbrev cX11_isPerson : ByteArray := prog_1_method_9_code
noncomputable def yX11_isPerson : MethodName := ⟨RX11, "isPerson", "(I)Z"⟩
noncomputable abbrev cX11_isTown : ByteArray := prog_1_method_10_code
noncomputable def yX11_isTown : MethodName := ⟨RX11, "isTown", "(I)Z"⟩
noncomputable abbrev cX11_go : ByteArray := prog_1_method_11_code
noncomputable def yX11_go : MethodName := ⟨RX11, "go", "(II)Z"⟩
noncomputable abbrev cX11_forge : ByteArray := prog_1_method_12_code
noncomputable def yX11_forge : MethodName := ⟨RX11, "forge", "(II)I"⟩
noncomputable abbrev cX11_shave : ByteArray := prog_1_method_13_code
noncomputable def yX11_shave : MethodName := ⟨RX11, "shave", "(I)Z"⟩
noncomputable abbrev cX11_week : ByteArray := prog_1_method_14_code
noncomputable def yX11_week : MethodName := ⟨RX11, "week", "()I"⟩
noncomputable abbrev cX11_undo : ByteArray := prog_1_method_15_code
noncomputable def yX11_undo : MethodName := ⟨RX11, "undo", "()Z"⟩
noncomputable abbrev cX11_remember : ByteArray := prog_1_method_16_code
noncomputable def yX11_remember : MethodName := ⟨RX11, "remember", "()V"⟩
noncomputable abbrev cX11_forgetPast : ByteArray := prog_1_method_17_code
noncomputable def yX11_forgetPast : MethodName := ⟨RX11, "forgetPast", "()V"⟩
noncomputable abbrev cX11_mark : ByteArray := prog_1_method_18_code
noncomputable def yX11_mark : MethodName := ⟨RX11, "mark", "(IZ)Z"⟩
noncomputable abbrev cX11_judged : ByteArray := prog_1_method_19_code
noncomputable def yX11_judged : MethodName := ⟨RX11, "judged", "(I)I"⟩
noncomputable abbrev cX11_reach : ByteArray := prog_1_method_20_code
noncomputable def yX11_reach : MethodName := ⟨RX11, "reach", "(I)I"⟩
noncomputable abbrev cX11_frontiers : ByteArray := prog_1_method_21_code
noncomputable def yX11_frontiers : MethodName := ⟨RX11, "frontiers", "(II)I"⟩
noncomputable abbrev cX11_guide : ByteArray := prog_1_method_22_code
noncomputable def yX11_guide : MethodName := ⟨RX11, "guide", "(II)I"⟩
noncomputable abbrev cX11_when : ByteArray := prog_1_method_23_code
noncomputable def yX11_when : MethodName := ⟨RX11, "when", "(II)I"⟩
noncomputable abbrev cX11_round : ByteArray := prog_1_method_24_code
noncomputable def yX11_round : MethodName := ⟨RX11, "round", "(I)I"⟩
noncomputable abbrev cX11_trapped : ByteArray := prog_1_method_25_code
noncomputable def yX11_trapped : MethodName := ⟨RX11, "trapped", "()I"⟩
noncomputable abbrev cX11_shaven : ByteArray := prog_1_method_26_code
noncomputable def yX11_shaven : MethodName := ⟨RX11, "shaven", "(I)I"⟩
noncomputable abbrev cX11_stricter : ByteArray := prog_1_method_27_code
noncomputable def yX11_stricter : MethodName := ⟨RX11, "stricter", "(II)I"⟩
noncomputable abbrev cX11_need : ByteArray := prog_1_method_28_code
noncomputable def yX11_need : MethodName := ⟨RX11, "need", "(II)I"⟩
noncomputable abbrev cX11_cheapest : ByteArray := prog_1_method_29_code
noncomputable def yX11_cheapest : MethodName := ⟨RX11, "cheapest", "(I)I"⟩
noncomputable abbrev cX11_debt : ByteArray := prog_1_method_30_code
noncomputable def yX11_debt : MethodName := ⟨RX11, "debt", "(II)I"⟩
noncomputable abbrev cX11_fewestInches : ByteArray := prog_1_method_31_code
noncomputable def yX11_fewestInches : MethodName := ⟨RX11, "fewestInches", "(II)I"⟩
noncomputable abbrev cX11_meeting : ByteArray := prog_1_method_32_code
noncomputable def yX11_meeting : MethodName := ⟨RX11, "meeting", "(I)I"⟩
noncomputable abbrev cX11_speakers : ByteArray := prog_1_method_33_code
noncomputable def yX11_speakers : MethodName := ⟨RX11, "speakers", "(II)I"⟩
noncomputable abbrev cX11_strict : ByteArray := prog_1_method_34_code
noncomputable def yX11_strict : MethodName := ⟨RX11, "strict", "()I"⟩
noncomputable abbrev cX11_alike : ByteArray := prog_1_method_35_code
noncomputable def yX11_alike : MethodName := ⟨RX11, "alike", "()I"⟩
noncomputable abbrev cX11_see : ByteArray := prog_1_method_36_code
noncomputable def yX11_see : MethodName := ⟨RX11, "see", "(IZ)Z"⟩
noncomputable abbrev cX11_lengths : ByteArray := prog_1_method_37_code
noncomputable def yX11_lengths : MethodName := ⟨RX11, "lengths", "(I)I"⟩
noncomputable abbrev cX11_ask : ByteArray := prog_1_method_38_code
noncomputable def yX11_ask : MethodName := ⟨RX11, "ask", "()I"⟩
noncomputable abbrev cX11_rests : ByteArray := prog_1_method_39_code
noncomputable def yX11_rests : MethodName := ⟨RX11, "rests", "(III)I"⟩
noncomputable abbrev cX11_isStake : ByteArray := prog_1_method_40_code
noncomputable def yX11_isStake : MethodName := ⟨RX11, "isStake", "(I)Z"⟩
noncomputable abbrev cX11_isAtRest : ByteArray := prog_1_method_41_code
noncomputable def yX11_isAtRest : MethodName := ⟨RX11, "isAtRest", "(III)Z"⟩
noncomputable abbrev cX11_guardGets : ByteArray := prog_1_method_42_code
noncomputable def yX11_guardGets : MethodName := ⟨RX11, "guardGets", "(III)I"⟩
noncomputable abbrev cX11_travellerGets : ByteArray := prog_1_method_43_code
noncomputable def yX11_travellerGets : MethodName := ⟨RX11, "travellerGets", "(III)I"⟩
noncomputable abbrev cX11_years : ByteArray := prog_1_method_44_code
noncomputable def yX11_years : MethodName := ⟨RX11, "years", "(III)I"⟩
noncomputable abbrev cX11_nextDraw : ByteArray := prog_1_method_45_code
noncomputable def yX11_nextDraw : MethodName := ⟨RX11, "nextDraw", "(J)J"⟩
noncomputable abbrev cX11_below : ByteArray := prog_1_method_46_code
noncomputable def yX11_below : MethodName := ⟨RX11, "below", "(JI)I"⟩
noncomputable abbrev cX11_has : ByteArray := prog_1_method_47_code
noncomputable def yX11_has : MethodName := ⟨RX11, "has", "(II)Z"⟩
noncomputable def RX12 : String := "BeardPassModel"
noncomputable def TX12 : u_T := fun k => match k with
  | 0 => ("BeardPassModel", "thrown", "I", false)
  | 1 => ("BeardPassModel", "taped", "I", false)
  | 2 => ("BeardPassModel", "tape", "[I", true)
  | 3 => ("BeardPassModel", "size", "I", false)
  | 4 => ("BeardPassModel", "place", "I", false)
  | 5 => ("BeardPassModel", "begin", "I", false)
  | 6 => ("BeardPassModel", "token", "I", false)
  | 7 => ("BeardPassModel", "word", "J", false)
  | 8 => ("BeardPassModel", "told", "I", false)
  | 9 => ("BeardPassModel", "wrong", "I", false)
  | 10 => ("BeardPassModel", "land", "[I", true)
  | 11 => ("BeardPassModel", "townName", "[J", true)
  | 12 => ("BeardPassModel", "personName", "[J", true)
  | 13 => ("BeardPassModel", "asks", "[I", true)
  | 14 => ("BeardPassModel", "roads", "[I", true)
  | 15 => ("BeardPassModel", "kind", "[I", true)
  | 16 => ("BeardPassModel", "atTold", "[I", true)
  | 17 => ("BeardPassModel", "beardTold", "[I", true)
  | 18 => ("BeardPassModel", "purseTold", "[I", true)
  | 19 => ("BeardPassModel", "lineFrom", "[I", true)
  | 20 => ("BeardPassModel", "lineTo", "[I", true)
  | 21 => ("BeardPassModel", "codes", "[I", true)
  | 22 => ("BeardPassModel", "code", "I", false)
  | 23 => ("BeardPassModel", "toldLines", "I", false)
  | 24 => ("BeardPassModel", "opened", "[I", true)
  | 25 => ("BeardPassModel", "compared", "[Z", true)
  | 26 => ("BeardPassModel", "kept", "[I", true)
  | 27 => ("BeardPassModel", "keptBy", "[I", true)
  | 28 => ("BeardPassModel", "ahead", "[I", true)
  | 29 => ("BeardPassModel", "against", "[I", true)
  | 30 => ("BeardPassModel", "sum", "[I", true)
  | 31 => ("BeardPassModel", "sumBy", "[I", true)
  | 32 => ("BeardPassModel", "term", "[I", true)
  | 33 => ("BeardPassModel", "termBy", "[I", true)
  | 34 => ("BeardPassModel", "byNot", "[I", true)
  | 35 => ("BeardPassModel", "valueOf", "[I", true)
  | 36 => ("BeardPassModel", "given", "I", false)
  | 37 => ("BeardPassModel", "fresh", "J", false)
  | 38 => ("BeardPassModel", "lines", "[I", true)
  | 39 => ("BeardPassModel", "lineWhat", "[I", true)
  | 40 => ("BeardPassModel", "lineA", "[I", true)
  | 41 => ("BeardPassModel", "lineB", "[I", true)
  | 42 => ("BeardPassModel", "seens", "[I", true)
  | 43 => ("BeardPassModel", "seenTown", "[I", true)
  | 44 => ("BeardPassModel", "seenLet", "[Z", true)
  | 45 => ("BeardPassModel", "s", "[I", true)
  | 46 => ("BeardPassModel", "aside", "[I", true)
  | 47 => ("BeardPassModel", "before", "[I", true)
  | 48 => ("BeardPassModel", "marked", "[I", true)
  | 49 => ("BeardPassModel", "undone", "[I", true)
  | 50 => ("BeardPassModel", "isLaid", "[Z", true)
  | 51 => ("BeardPassModel", "done", "I", false)
  | 52 => ("BeardPassModel", "moreAsked", "I", false)
  | 53 => ("BeardPassModel", "stands", "[Z", true)
  | 54 => ("BeardPassModel", "g", "J", false)
  | 55 => ("BeardPassModel", "gone", "I", false)
  | _ => ("BeardPassModel", "stopped", "I", false)
noncomputable def tyX12 : Nat → FieldType := fun k => match k with
  | 0 => .int
  | 1 => .int
  | 2 => .array .int
  | 3 => .int
  | 4 => .int
  | 5 => .int
  | 6 => .int
  | 7 => .long
  | 8 => .int
  | 9 => .int
  | 10 => .array .int
  | 11 => .array .long
  | 12 => .array .long
  | 13 => .array .int
  | 14 => .array .int
  | 15 => .array .int
  | 16 => .array .int
  | 17 => .array .int
  | 18 => .array .int
  | 19 => .array .int
  | 20 => .array .int
  | 21 => .array .int
  | 22 => .int
  | 23 => .int
  | 24 => .array .int
  | 25 => .array .boolean
  | 26 => .array .int
  | 27 => .array .int
  | 28 => .array .int
  | 29 => .array .int
  | 30 => .array .int
  | 31 => .array .int
  | 32 => .array .int
  | 33 => .array .int
  | 34 => .array .int
  | 35 => .array .int
  | 36 => .int
  | 37 => .long
  | 38 => .array .int
  | 39 => .array .int
  | 40 => .array .int
  | 41 => .array .int
  | 42 => .array .int
  | 43 => .array .int
  | 44 => .array .boolean
  | 45 => .array .int
  | 46 => .array .int
  | 47 => .array .int
  | 48 => .array .int
  | 49 => .array .int
  | 50 => .array .boolean
  | 51 => .int
  | 52 => .int
  | 53 => .array .boolean
  | 54 => .long
  | 55 => .int
  | _ => .int
noncomputable abbrev wsX120 : List Cond := u_ws RX12 TX12 57
theorem nmX12 : ∀ a, a < 57 → ∀ b, b < 57 → a ≠ b → (TX12 a).2.1 ≠ (TX12 b).2.1 := by decide +kernel
theorem tyX12_ok : ∀ k, k < 57 → parseFieldDescriptor (TX12 k).2.2.1 = some (tyX12 k) := by decide +kernel
noncomputable abbrev cX12_init : ByteArray := prog_14_method_1_code
noncomputable def yX12_init : MethodName := ⟨RX12, "<init>", "()V"⟩
noncomputable abbrev cX12_within : ByteArray := prog_14_method_3_code
noncomputable def yX12_within : MethodName := ⟨RX12, "within", "(III)Z"⟩
noncomputable abbrev cX12_bits : ByteArray := prog_14_method_4_code
noncomputable def yX12_bits : MethodName := ⟨RX12, "bits", "(I)I"⟩
noncomputable abbrev cX12_feed : ByteArray := prog_14_method_5_code
noncomputable def yX12_feed : MethodName := ⟨RX12, "feed", "(JJJ)I"⟩
noncomputable abbrev cX12_signAt : ByteArray := prog_14_method_6_code
noncomputable def yX12_signAt : MethodName := ⟨RX12, "signAt", "(I)I"⟩
noncomputable abbrev cX12_nextToken : ByteArray := prog_14_method_7_code
noncomputable def yX12_nextToken : MethodName := ⟨RX12, "nextToken", "()V"⟩
noncomputable abbrev cX12_isWord : ByteArray := prog_14_method_8_code
noncomputable def yX12_isWord : MethodName := ⟨RX12, "isWord", "(J)Z"⟩
noncomputable abbrev cX12_isSign : ByteArray := prog_14_method_9_code
noncomputable def yX12_isSign : MethodName := ⟨RX12, "isSign", "(I)Z"⟩
noncomputable abbrev cX12_fails : ByteArray := prog_14_method_10_code
noncomputable def yX12_fails : MethodName := ⟨RX12, "fails", "(I)Z"⟩
noncomputable abbrev cX12_puts : ByteArray := prog_14_method_11_code
noncomputable def yX12_puts : MethodName := ⟨RX12, "puts", "(I)V"⟩
noncomputable abbrev cX12_fact : ByteArray := prog_14_method_12_code
noncomputable def yX12_fact : MethodName := ⟨RX12, "fact", "()I"⟩
noncomputable abbrev cX12_reads : ByteArray := prog_14_method_13_code
noncomputable def yX12_reads : MethodName := ⟨RX12, "reads", "()Z"⟩
noncomputable abbrev cX12_opens : ByteArray := prog_14_method_14_code
noncomputable def yX12_opens : MethodName := ⟨RX12, "opens", "(I)V"⟩
noncomputable abbrev cX12_sums : ByteArray := prog_14_method_15_code
noncomputable def yX12_sums : MethodName := ⟨RX12, "sums", "(I)V"⟩
noncomputable abbrev cX12_tests : ByteArray := prog_14_method_16_code
noncomputable def yX12_tests : MethodName := ⟨RX12, "tests", "(I)V"⟩
noncomputable abbrev cX12_worked : ByteArray := prog_14_method_17_code
noncomputable def yX12_worked : MethodName := ⟨RX12, "worked", "(I)I"⟩
noncomputable abbrev cX12_isKept : ByteArray := prog_14_method_18_code
noncomputable def yX12_isKept : MethodName := ⟨RX12, "isKept", "()Z"⟩
noncomputable abbrev cX12_townNamed : ByteArray := prog_14_method_19_code
noncomputable def yX12_townNamed : MethodName := ⟨RX12, "townNamed", "(I)I"⟩
noncomputable abbrev cX12_personNamed : ByteArray := prog_14_method_20_code
noncomputable def yX12_personNamed : MethodName := ⟨RX12, "personNamed", "(I)I"⟩
noncomputable abbrev cX12_needsNumber : ByteArray := prog_14_method_21_code
noncomputable def yX12_needsNumber : MethodName := ⟨RX12, "needsNumber", "(II)Z"⟩
noncomputable abbrev cX12_needsWord : ByteArray := prog_14_method_22_code
noncomputable def yX12_needsWord : MethodName := ⟨RX12, "needsWord", "(J)Z"⟩
noncomputable abbrev cX12_needsBoth : ByteArray := prog_14_method_23_code
noncomputable def yX12_needsBoth : MethodName := ⟨RX12, "needsBoth", "(JII)Z"⟩
noncomputable abbrev cX12_closes : ByteArray := prog_14_method_24_code
noncomputable def yX12_closes : MethodName := ⟨RX12, "closes", "()Z"⟩
noncomputable abbrev cX12_needsNew : ByteArray := prog_14_method_25_code
noncomputable def yX12_needsNew : MethodName := ⟨RX12, "needsNew", "()Z"⟩
noncomputable abbrev cX12_needsTown : ByteArray := prog_14_method_26_code
noncomputable def yX12_needsTown : MethodName := ⟨RX12, "needsTown", "(I)Z"⟩
noncomputable abbrev cX12_needsPerson : ByteArray := prog_14_method_27_code
noncomputable def yX12_needsPerson : MethodName := ⟨RX12, "needsPerson", "()Z"⟩
noncomputable abbrev cX12_readsTown : ByteArray := prog_14_method_28_code
noncomputable def yX12_readsTown : MethodName := ⟨RX12, "readsTown", "()Z"⟩
noncomputable abbrev cX12_readsRoad : ByteArray := prog_14_method_29_code
noncomputable def yX12_readsRoad : MethodName := ⟨RX12, "readsRoad", "()Z"⟩
noncomputable abbrev cX12_readsPerson : ByteArray := prog_14_method_30_code
noncomputable def yX12_readsPerson : MethodName := ⟨RX12, "readsPerson", "()Z"⟩
noncomputable abbrev cX12_readsOne : ByteArray := prog_14_method_31_code
noncomputable def yX12_readsOne : MethodName := ⟨RX12, "readsOne", "(III)Z"⟩
noncomputable abbrev cX12_readsReads : ByteArray := prog_14_method_32_code
noncomputable def yX12_readsReads : MethodName := ⟨RX12, "readsReads", "()Z"⟩
noncomputable abbrev cX12_begins : ByteArray := prog_14_method_33_code
noncomputable def yX12_begins : MethodName := ⟨RX12, "begins", "()V"⟩
noncomputable abbrev cX12_readsAll : ByteArray := prog_14_method_34_code
noncomputable def yX12_readsAll : MethodName := ⟨RX12, "readsAll", "()Z"⟩
noncomputable abbrev cX12_shifts : ByteArray := prog_14_method_35_code
noncomputable def yX12_shifts : MethodName := ⟨RX12, "shifts", "([II)V"⟩
noncomputable abbrev cX12_shiftsNames : ByteArray := prog_14_method_36_code
noncomputable def yX12_shiftsNames : MethodName := ⟨RX12, "shiftsNames", "([J)V"⟩
noncomputable abbrev cX12_lays : ByteArray := prog_14_method_37_code
noncomputable def yX12_lays : MethodName := ⟨RX12, "lays", "()V"⟩
noncomputable abbrev cX12_copies : ByteArray := prog_14_method_38_code
noncomputable def yX12_copies : MethodName := ⟨RX12, "copies", "([II[II)V"⟩
noncomputable abbrev cX12_readsLine : ByteArray := prog_14_method_39_code
noncomputable def yX12_readsLine : MethodName := ⟨RX12, "readsLine", "()Z"⟩
noncomputable abbrev cX12_laysLines : ByteArray := prog_14_method_40_code
noncomputable def yX12_laysLines : MethodName := ⟨RX12, "laysLines", "(II)V"⟩
noncomputable abbrev cX12_laysSeen : ByteArray := prog_14_method_41_code
noncomputable def yX12_laysSeen : MethodName := ⟨RX12, "laysSeen", "(II)V"⟩
noncomputable abbrev cX12_fresh0 : ByteArray := prog_14_method_42_code
noncomputable def yX12_fresh0 : MethodName := ⟨RX12, "fresh0", "()V"⟩
noncomputable abbrev cX12_land : ByteArray := prog_14_method_43_code
noncomputable def yX12_land : MethodName := ⟨RX12, "land", "()I"⟩
noncomputable abbrev cX12_journey : ByteArray := prog_14_method_44_code
noncomputable def yX12_journey : MethodName := ⟨RX12, "journey", "()I"⟩
noncomputable abbrev cX12_isTown : ByteArray := prog_14_method_45_code
noncomputable def yX12_isTown : MethodName := ⟨RX12, "isTown", "(I)Z"⟩
noncomputable abbrev cX12_isPerson : ByteArray := prog_14_method_46_code
noncomputable def yX12_isPerson : MethodName := ⟨RX12, "isPerson", "(I)Z"⟩
noncomputable abbrev cX12_readsBeard : ByteArray := prog_14_method_47_code
noncomputable def yX12_readsBeard : MethodName := ⟨RX12, "readsBeard", "(III)Z"⟩
noncomputable abbrev cX12_letsHim : ByteArray := prog_14_method_48_code
noncomputable def yX12_letsHim : MethodName := ⟨RX12, "letsHim", "(II)Z"⟩
noncomputable abbrev cX12_speakersAt : ByteArray := prog_14_method_49_code
noncomputable def yX12_speakersAt : MethodName := ⟨RX12, "speakersAt", "(II)I"⟩
noncomputable abbrev cX12_lets : ByteArray := prog_14_method_50_code
noncomputable def yX12_lets : MethodName := ⟨RX12, "lets", "(III)Z"⟩
noncomputable abbrev cX12_canGo : ByteArray := prog_14_method_51_code
noncomputable def yX12_canGo : MethodName := ⟨RX12, "canGo", "(II)Z"⟩
noncomputable abbrev cX12_goes : ByteArray := prog_14_method_52_code
noncomputable def yX12_goes : MethodName := ⟨RX12, "goes", "(II)V"⟩
noncomputable abbrev cX12_canForge : ByteArray := prog_14_method_53_code
noncomputable def yX12_canForge : MethodName := ⟨RX12, "canForge", "(II)Z"⟩
noncomputable abbrev cX12_forges : ByteArray := prog_14_method_54_code
noncomputable def yX12_forges : MethodName := ⟨RX12, "forges", "(II)V"⟩
noncomputable abbrev cX12_shaves : ByteArray := prog_14_method_55_code
noncomputable def yX12_shaves : MethodName := ⟨RX12, "shaves", "(I)V"⟩
noncomputable abbrev cX12_passes : ByteArray := prog_14_method_56_code
noncomputable def yX12_passes : MethodName := ⟨RX12, "passes", "()V"⟩
noncomputable abbrev cX12_letThrough : ByteArray := prog_14_method_57_code
noncomputable def yX12_letThrough : MethodName := ⟨RX12, "letThrough", "(I)I"⟩
noncomputable abbrev cX12_allOf : ByteArray := prog_14_method_58_code
noncomputable def yX12_allOf : MethodName := ⟨RX12, "allOf", "(I)I"⟩
noncomputable abbrev cX12_peopled : ByteArray := prog_14_method_59_code
noncomputable def yX12_peopled : MethodName := ⟨RX12, "peopled", "()I"⟩
noncomputable abbrev cX12_person : ByteArray := prog_14_method_60_code
noncomputable def yX12_person : MethodName := ⟨RX12, "person", "(II)I"⟩
noncomputable abbrev cX12_town : ByteArray := prog_14_method_61_code
noncomputable def yX12_town : MethodName := ⟨RX12, "town", "(II)I"⟩
noncomputable abbrev cX12_keeps : ByteArray := prog_14_method_62_code
noncomputable def yX12_keeps : MethodName := ⟨RX12, "keeps", "()V"⟩
noncomputable abbrev cX12_go : ByteArray := prog_14_method_63_code
noncomputable def yX12_go : MethodName := ⟨RX12, "go", "(II)Z"⟩
noncomputable abbrev cX12_forge : ByteArray := prog_14_method_64_code
noncomputable def yX12_forge : MethodName := ⟨RX12, "forge", "(II)I"⟩
noncomputable abbrev cX12_shave : ByteArray := prog_14_method_65_code
noncomputable def yX12_shave : MethodName := ⟨RX12, "shave", "(I)Z"⟩
noncomputable abbrev cX12_week : ByteArray := prog_14_method_66_code
noncomputable def yX12_week : MethodName := ⟨RX12, "week", "()I"⟩
noncomputable abbrev cX12_undo : ByteArray := prog_14_method_67_code
noncomputable def yX12_undo : MethodName := ⟨RX12, "undo", "()Z"⟩
noncomputable abbrev cX12_mostAsked : ByteArray := prog_14_method_68_code
noncomputable def yX12_mostAsked : MethodName := ⟨RX12, "mostAsked", "()I"⟩
noncomputable abbrev cX12_follows : ByteArray := prog_14_method_69_code
noncomputable def yX12_follows : MethodName := ⟨RX12, "follows", "(I)Z"⟩
noncomputable abbrev cX12_judged : ByteArray := prog_14_method_70_code
noncomputable def yX12_judged : MethodName := ⟨RX12, "judged", "(I)I"⟩
noncomputable abbrev cX12_spreads : ByteArray := prog_14_method_71_code
noncomputable def yX12_spreads : MethodName := ⟨RX12, "spreads", "(II)I"⟩
noncomputable abbrev cX12_reachFrom : ByteArray := prog_14_method_72_code
noncomputable def yX12_reachFrom : MethodName := ⟨RX12, "reachFrom", "(II)I"⟩
noncomputable abbrev cX12_reach : ByteArray := prog_14_method_73_code
noncomputable def yX12_reach : MethodName := ⟨RX12, "reach", "(I)I"⟩
noncomputable abbrev cX12_farFrom : ByteArray := prog_14_method_74_code
noncomputable def yX12_farFrom : MethodName := ⟨RX12, "farFrom", "(III)I"⟩
noncomputable abbrev cX12_frontiers : ByteArray := prog_14_method_75_code
noncomputable def yX12_frontiers : MethodName := ⟨RX12, "frontiers", "(II)I"⟩
noncomputable abbrev cX12_guide : ByteArray := prog_14_method_76_code
noncomputable def yX12_guide : MethodName := ⟨RX12, "guide", "(II)I"⟩
noncomputable abbrev cX12_trapped : ByteArray := prog_14_method_77_code
noncomputable def yX12_trapped : MethodName := ⟨RX12, "trapped", "()I"⟩
noncomputable abbrev cX12_whenAt : ByteArray := prog_14_method_78_code
noncomputable def yX12_whenAt : MethodName := ⟨RX12, "whenAt", "(II)I"⟩
noncomputable abbrev cX12_when : ByteArray := prog_14_method_79_code
noncomputable def yX12_when : MethodName := ⟨RX12, "when", "(II)I"⟩
noncomputable abbrev cX12_roams : ByteArray := prog_14_method_80_code
noncomputable def yX12_roams : MethodName := ⟨RX12, "roams", "(I)Z"⟩
noncomputable abbrev cX12_round : ByteArray := prog_14_method_81_code
noncomputable def yX12_round : MethodName := ⟨RX12, "round", "(I)I"⟩
noncomputable abbrev cX12_needOf : ByteArray := prog_14_method_82_code
noncomputable def yX12_needOf : MethodName := ⟨RX12, "needOf", "(II)I"⟩
noncomputable abbrev cX12_need : ByteArray := prog_14_method_83_code
noncomputable def yX12_need : MethodName := ⟨RX12, "need", "(II)I"⟩
noncomputable abbrev cX12_cheapest : ByteArray := prog_14_method_84_code
noncomputable def yX12_cheapest : MethodName := ⟨RX12, "cheapest", "(I)I"⟩
noncomputable abbrev cX12_debt : ByteArray := prog_14_method_85_code
noncomputable def yX12_debt : MethodName := ⟨RX12, "debt", "(II)I"⟩
noncomputable abbrev cX12_shaven : ByteArray := prog_14_method_86_code
noncomputable def yX12_shaven : MethodName := ⟨RX12, "shaven", "(I)I"⟩
noncomputable abbrev cX12_meetsAt : ByteArray := prog_14_method_87_code
noncomputable def yX12_meetsAt : MethodName := ⟨RX12, "meetsAt", "(I)I"⟩
noncomputable abbrev cX12_meeting : ByteArray := prog_14_method_88_code
noncomputable def yX12_meeting : MethodName := ⟨RX12, "meeting", "(I)I"⟩
noncomputable abbrev cX12_speakers : ByteArray := prog_14_method_89_code
noncomputable def yX12_speakers : MethodName := ⟨RX12, "speakers", "(II)I"⟩
noncomputable abbrev cX12_strict : ByteArray := prog_14_method_90_code
noncomputable def yX12_strict : MethodName := ⟨RX12, "strict", "()I"⟩
noncomputable abbrev cX12_alike : ByteArray := prog_14_method_91_code
noncomputable def yX12_alike : MethodName := ⟨RX12, "alike", "()I"⟩
noncomputable abbrev cX12_see : ByteArray := prog_14_method_92_code
noncomputable def yX12_see : MethodName := ⟨RX12, "see", "(IZ)Z"⟩
noncomputable abbrev cX12_isAsSeen : ByteArray := prog_14_method_93_code
noncomputable def yX12_isAsSeen : MethodName := ⟨RX12, "isAsSeen", "(I)Z"⟩
noncomputable abbrev cX12_lengths : ByteArray := prog_14_method_94_code
noncomputable def yX12_lengths : MethodName := ⟨RX12, "lengths", "(I)I"⟩
noncomputable abbrev cX12_ask : ByteArray := prog_14_method_95_code
noncomputable def yX12_ask : MethodName := ⟨RX12, "ask", "()I"⟩
noncomputable abbrev cX12_stricter : ByteArray := prog_14_method_96_code
noncomputable def yX12_stricter : MethodName := ⟨RX12, "stricter", "(II)I"⟩
noncomputable abbrev cX12_guardGets : ByteArray := prog_14_method_97_code
noncomputable def yX12_guardGets : MethodName := ⟨RX12, "guardGets", "(IIII)I"⟩
noncomputable abbrev cX12_travellerGets : ByteArray := prog_14_method_98_code
noncomputable def yX12_travellerGets : MethodName := ⟨RX12, "travellerGets", "(IIII)I"⟩
noncomputable abbrev cX12_rests : ByteArray := prog_14_method_99_code
noncomputable def yX12_rests : MethodName := ⟨RX12, "rests", "(III)I"⟩
noncomputable abbrev cX12_draws : ByteArray := prog_14_method_100_code
noncomputable def yX12_draws : MethodName := ⟨RX12, "draws", "(I)I"⟩
noncomputable abbrev cX12_livesWeek : ByteArray := prog_14_method_101_code
noncomputable def yX12_livesWeek : MethodName := ⟨RX12, "livesWeek", "()V"⟩
noncomputable abbrev cX12_years : ByteArray := prog_14_method_102_code
noncomputable def yX12_years : MethodName := ⟨RX12, "years", "(III)I"⟩
noncomputable abbrev cX12_mark : ByteArray := prog_14_method_103_code
noncomputable def yX12_mark : MethodName := ⟨RX12, "mark", "(IZ)Z"⟩
noncomputable abbrev cX12_count : ByteArray := prog_14_method_104_code
noncomputable def yX12_count : MethodName := ⟨RX12, "count", "(I)I"⟩
noncomputable def RJ6 : String := "java/lang/Integer"
noncomputable abbrev cJ6_numberOfLeadingZeros_0f7a4 : ByteArray := prog_20_method_47_code
noncomputable def yJ6_numberOfLeadingZeros_0f7a4 : MethodName := ⟨RJ6, "numberOfLeadingZeros", "(I)I"⟩
noncomputable abbrev cJ6_numberOfTrailingZeros_0f7a4 : ByteArray := prog_20_method_48_code
noncomputable def yJ6_numberOfTrailingZeros_0f7a4 : MethodName := ⟨RJ6, "numberOfTrailingZeros", "(I)I"⟩
noncomputable abbrev cJ6_bitCount_0f7a4 : ByteArray := prog_20_method_49_code
noncomputable def yJ6_bitCount_0f7a4 : MethodName := ⟨RJ6, "bitCount", "(I)I"⟩
noncomputable def RJ0 : String := "java/lang/String"
noncomputable abbrev cJ0_length_8abf5 : ByteArray := prog_23_method_54_code
noncomputable def yJ0_length_8abf5 : MethodName := ⟨RJ0, "length", "()I"⟩
noncomputable abbrev cJ0_charAt_5068e : ByteArray := prog_23_method_56_code
noncomputable def yJ0_charAt_5068e : MethodName := ⟨RJ0, "charAt", "(I)C"⟩
noncomputable abbrev cJ0_coder_7d493 : ByteArray := prog_23_method_152_code
noncomputable def yJ0_coder_7d493 : MethodName := ⟨RJ0, "coder", "()B"⟩
noncomputable abbrev cJ0_isLatin1_aae02 : ByteArray := prog_23_method_154_code
noncomputable def yJ0_isLatin1_aae02 : MethodName := ⟨RJ0, "isLatin1", "()Z"⟩
noncomputable abbrev cJ0_checkIndex_df160 : ByteArray := prog_23_method_155_code
noncomputable def yJ0_checkIndex_df160 : MethodName := ⟨RJ0, "checkIndex", "(II)V"⟩
noncomputable def RJ1 : String := "java/lang/StringLatin1"
noncomputable abbrev cJ1_charAt_3b067 : ByteArray := prog_24_method_2_code
noncomputable def yJ1_charAt_3b067 : MethodName := ⟨RJ1, "charAt", "([BI)C"⟩
noncomputable def RJ2 : String := "java/lang/StringUTF16"
noncomputable abbrev cJ2_getChar_3b067 : ByteArray := prog_25_method_5_code
noncomputable def yJ2_getChar_3b067 : MethodName := ⟨RJ2, "getChar", "([BI)C"⟩
noncomputable abbrev cJ2_length_9d52b : ByteArray := prog_25_method_6_code
noncomputable def yJ2_length_9d52b : MethodName := ⟨RJ2, "length", "([B)I"⟩
noncomputable abbrev cJ2_charAt_3b067 : ByteArray := prog_25_method_83_code
noncomputable def yJ2_charAt_3b067 : MethodName := ⟨RJ2, "charAt", "([BI)C"⟩
noncomputable abbrev cJ2_checkIndex_2214a : ByteArray := prog_25_method_91_code
noncomputable def yJ2_checkIndex_2214a : MethodName := ⟨RJ2, "checkIndex", "(I[B)V"⟩
noncomputable def RJ7 : String := "java/util/Arrays"
noncomputable abbrev cJ7_fill_53178 : ByteArray := prog_30_method_103_code
noncomputable def yJ7_fill_53178 : MethodName := ⟨RJ7, "fill", "([II)V"⟩
noncomputable def RJ3 : String := "jdk/internal/util/Preconditions"
noncomputable abbrev cJ3_checkIndex_8e157 : ByteArray := prog_32_method_11_code
noncomputable def yJ3_checkIndex_8e157 : MethodName := ⟨RJ3, "checkIndex", "(IILjava/util/function/BiFunction;)I"⟩
noncomputable def RL : String := "BeardPassLaw"
noncomputable abbrev cL_rests : ByteArray := method_3_code
noncomputable def yL_rests : MethodName := ⟨RL, "rests", "(LBeardPass;III[J)I"⟩
noncomputable abbrev cL_law : ByteArray := code
noncomputable def wsX0_init : List Cond := .code yX0_init cX0_init 2 none :: ([.methodLink RX0 3 objectInit, .instanceMethod objectInit, .code objectInit ⟨#[0xb1]⟩ 1 none, .fieldLink RX0 9 "BeardPass$Frontier" "land" "LBeardPass$Land;"] ++ wsX00)
noncomputable def wsX1_init : List Cond := .code yX1_init cX1_init 1 none :: ([.methodLink RX1 3 objectInit, .instanceMethod objectInit, .code objectInit ⟨#[0xb1]⟩ 1 none, .arrayClass .int, .fieldLink RX1 9 "BeardPass$Journey" "deeds" "[I", .fieldLink RX1 15 "BeardPass$Journey" "doers" "[I", .fieldLink RX1 18 "BeardPass$Journey" "objects" "[I", .fieldLink RX1 21 "BeardPass$Journey" "lines" "I"] ++ wsX10)
noncomputable def wsX1_copy : List Cond := .code yX1_copy cX1_copy 2 none :: ([.fieldLink RX1 21 "BeardPass$Journey" "lines" "I", .fieldLink RX1 9 "BeardPass$Journey" "deeds" "[I", .methodLink RX1 25 arraycopyName, .native arraycopyName, .static arraycopyName, .initialized "java/lang/System", .fieldLink RX1 15 "BeardPass$Journey" "doers" "[I", .fieldLink RX1 18 "BeardPass$Journey" "objects" "[I"] ++ wsX10)
noncomputable def wsX4_init : List Cond := .code yX4_init cX4_init 1 none :: ([.methodLink RX4 3 objectInit, .instanceMethod objectInit, .code objectInit ⟨#[0xb1]⟩ 1 none, .arrayClass .int, .fieldLink RX4 9 "BeardPass$Law" "code" "[I", .fieldLink RX4 15 "BeardPass$Law" "stack" "[I", .fieldLink RX4 18 "BeardPass$Law" "size" "I"] ++ wsX40)
noncomputable def wsX4_add : List Cond := .code yX4_add cX4_add 2 none :: ([.fieldLink RX4 18 "BeardPass$Law" "size" "I", .fieldLink RX4 9 "BeardPass$Law" "code" "[I"] ++ wsX40)
noncomputable def wsX4_beAsUntold : List Cond := .code yX4_beAsUntold cX4_beAsUntold 1 none :: ([.fieldLink RX4 18 "BeardPass$Law" "size" "I", .methodLink RX4 22 yX4_add, .instanceMethod yX4_add, .selects RX4 yX4_add yX4_add, .initialized RX4, .code yX4_add cX4_add 2 none, .fieldLink RX4 9 "BeardPass$Law" "code" "[I"] ++ wsX40)
noncomputable def wsX2_init_r1 : List Cond := [Cond.methodLink RX2 3 objectInit, Cond.instanceMethod objectInit, Cond.code objectInit ⟨#[0xb1]⟩ 1 none, Cond.arrayClass .int, Cond.fieldLink RX2 9 "BeardPass$Land" "asks" "[I", Cond.fieldLink RX2 15 "BeardPass$Land" "roads" "[I", Cond.arrayClass .long, Cond.fieldLink RX2 18 "BeardPass$Land" "townNames" "[J", Cond.fieldLink RX2 22 "BeardPass$Land" "kinds" "[I", Cond.fieldLink RX2 25 "BeardPass$Land" "homes" "[I", Cond.fieldLink RX2 28 "BeardPass$Land" "beards" "[I", Cond.fieldLink RX2 31 "BeardPass$Land" "purses" "[I", Cond.fieldLink RX2 34 "BeardPass$Land" "personNames" "[J", Cond.classLink RX2 37 RX4, Cond.instantiable RX4 3, Cond.initialized RX4, Cond.fieldLink RX2 40 "BeardPass$Land" "law" "LBeardPass$Law;", Cond.fieldLink RX2 44 "BeardPass$Land" "towns" "I", Cond.fieldLink RX2 48 "BeardPass$Land" "persons" "I", Cond.fieldLink RX2 51 "BeardPass$Land" "grows" "I", Cond.fieldLink RX2 54 "BeardPass$Land" "inch" "I", Cond.instanceMethod yX4_init, Cond.code yX4_init cX4_init 1 none, Cond.methodLink RX4 3 objectInit]
noncomputable def wsX2_init_r2 : List Cond := [Cond.fieldLink RX4 9 "BeardPass$Law" "code" "[I", Cond.fieldLink RX4 15 "BeardPass$Law" "stack" "[I", Cond.fieldLink RX4 18 "BeardPass$Law" "size" "I", Cond.methodLink RX2 57 yX4_beAsUntold, Cond.instanceMethod yX4_beAsUntold, Cond.selects RX4 yX4_beAsUntold yX4_beAsUntold, Cond.code yX4_beAsUntold cX4_beAsUntold 1 none, Cond.methodLink RX4 22 yX4_add, Cond.instanceMethod yX4_add, Cond.selects RX4 yX4_add yX4_add, Cond.code yX4_add cX4_add 2 none]
noncomputable def wsX2_init : List Cond := .code yX2_init cX2_init 1 none :: ((wsX2_init_r1 ++ wsX2_init_r2) ++ wsX20 ++ wsX40)
noncomputable def wsJ7_fill_53178 : List Cond := .code yJ7_fill_53178 cJ7_fill_53178 4 none :: ([])
noncomputable def wsX4_copy : List Cond := .code yX4_copy cX4_copy 2 none :: ([.fieldLink RX4 18 "BeardPass$Law" "size" "I", .fieldLink RX4 9 "BeardPass$Law" "code" "[I", .methodLink RX4 26 arraycopyName, .native arraycopyName, .static arraycopyName, .initialized "java/lang/System"] ++ wsX40)
noncomputable def wsX2_copy_r1 : List Cond := [Cond.fieldLink RX2 44 "BeardPass$Land" "towns" "I", Cond.fieldLink RX2 48 "BeardPass$Land" "persons" "I", Cond.fieldLink RX2 51 "BeardPass$Land" "grows" "I", Cond.fieldLink RX2 54 "BeardPass$Land" "inch" "I", Cond.fieldLink RX2 9 "BeardPass$Land" "asks" "[I", Cond.methodLink RX2 66 arraycopyName, Cond.native arraycopyName, Cond.static arraycopyName, Cond.initialized "java/lang/System", Cond.fieldLink RX2 15 "BeardPass$Land" "roads" "[I", Cond.fieldLink RX2 18 "BeardPass$Land" "townNames" "[J", Cond.fieldLink RX2 22 "BeardPass$Land" "kinds" "[I", Cond.fieldLink RX2 25 "BeardPass$Land" "homes" "[I", Cond.fieldLink RX2 28 "BeardPass$Land" "beards" "[I", Cond.fieldLink RX2 31 "BeardPass$Land" "purses" "[I", Cond.fieldLink RX2 34 "BeardPass$Land" "personNames" "[J", Cond.fieldLink RX2 40 "BeardPass$Land" "law" "LBeardPass$Law;", Cond.methodLink RX2 72 yX4_copy, Cond.instanceMethod yX4_copy, Cond.selects RX4 yX4_copy yX4_copy, Cond.initialized RX4, Cond.code yX4_copy cX4_copy 2 none, Cond.fieldLink RX4 18 "BeardPass$Law" "size" "I", Cond.fieldLink RX4 9 "BeardPass$Law" "code" "[I"]
noncomputable def wsX2_copy_r2 : List Cond := [Cond.methodLink RX4 26 arraycopyName]
noncomputable def wsX2_copy : List Cond := .code yX2_copy cX2_copy 2 none :: ((wsX2_copy_r1 ++ wsX2_copy_r2) ++ wsX20 ++ wsX40)
noncomputable def wsX3_init : List Cond := .code yX3_init cX3_init 1 none :: ([.methodLink RX3 3 objectInit, .instanceMethod objectInit, .code objectInit ⟨#[0xb1]⟩ 1 none, .fieldLink RX3 9 "BeardPass$LandReader" "growsTold" "Z", .fieldLink RX3 15 "BeardPass$LandReader" "inchTold" "Z", .fieldLink RX3 18 "BeardPass$LandReader" "readsTold" "Z"] ++ wsX30)
noncomputable def wsX8_init : List Cond := .code yX8_init cX8_init 1 none :: ([.methodLink RX8 3 objectInit, .instanceMethod objectInit, .code objectInit ⟨#[0xb1]⟩ 1 none, .arrayClass .int, .fieldLink RX8 9 "BeardPass$Standing" "places" "[I", .fieldLink RX8 15 "BeardPass$Standing" "beards" "[I", .fieldLink RX8 18 "BeardPass$Standing" "forged" "[I", .fieldLink RX8 21 "BeardPass$Standing" "purses" "[I", .fieldLink RX8 24 "BeardPass$Standing" "been" "[I", .fieldLink RX8 27 "BeardPass$Standing" "weeks" "I"] ++ wsX80)
noncomputable def wsX6_init : List Cond := .code yX6_init cX6_init 1 none :: ([.methodLink RX6 3 objectInit, .instanceMethod objectInit, .code objectInit ⟨#[0xb1]⟩ 1 none, .constant RX6 9 (2147483647), .fieldLink RX6 10 "BeardPass$Sightings" "possible" "I", .fieldLink RX6 16 "BeardPass$Sightings" "many" "I"] ++ wsX60)
noncomputable def wsX5_init_r1 : List Cond := [Cond.methodLink RX5 1 objectInit, Cond.instanceMethod objectInit, Cond.code objectInit ⟨#[0xb1]⟩ 1 none, Cond.classLink RX5 7 RX8, Cond.instantiable RX8 6, Cond.initialized RX8, Cond.fieldLink RX5 10 "BeardPass$Mark" "standing" "LBeardPass$Standing;", Cond.classLink RX5 16 RX1, Cond.instantiable RX1 4, Cond.initialized RX1, Cond.fieldLink RX5 19 "BeardPass$Mark" "plan" "LBeardPass$Journey;", Cond.classLink RX5 23 RX6, Cond.instantiable RX6 2, Cond.initialized RX6, Cond.fieldLink RX5 26 "BeardPass$Mark" "sightings" "LBeardPass$Sightings;", Cond.fieldLink RX5 30 "BeardPass$Mark" "laid" "Z", Cond.instanceMethod yX8_init, Cond.code yX8_init cX8_init 1 none, Cond.methodLink RX8 3 objectInit, Cond.arrayClass .int, Cond.fieldLink RX8 9 "BeardPass$Standing" "places" "[I", Cond.fieldLink RX8 15 "BeardPass$Standing" "beards" "[I", Cond.fieldLink RX8 18 "BeardPass$Standing" "forged" "[I", Cond.fieldLink RX8 21 "BeardPass$Standing" "purses" "[I"]
noncomputable def wsX5_init_r2 : List Cond := [Cond.fieldLink RX8 24 "BeardPass$Standing" "been" "[I", Cond.fieldLink RX8 27 "BeardPass$Standing" "weeks" "I", Cond.instanceMethod yX1_init, Cond.code yX1_init cX1_init 1 none, Cond.methodLink RX1 3 objectInit, Cond.fieldLink RX1 9 "BeardPass$Journey" "deeds" "[I", Cond.fieldLink RX1 15 "BeardPass$Journey" "doers" "[I", Cond.fieldLink RX1 18 "BeardPass$Journey" "objects" "[I", Cond.fieldLink RX1 21 "BeardPass$Journey" "lines" "I", Cond.instanceMethod yX6_init, Cond.code yX6_init cX6_init 1 none, Cond.methodLink RX6 3 objectInit, Cond.constant RX6 9 (2147483647), Cond.fieldLink RX6 10 "BeardPass$Sightings" "possible" "I", Cond.fieldLink RX6 16 "BeardPass$Sightings" "many" "I"]
noncomputable def wsX5_init : List Cond := .code yX5_init cX5_init 1 none :: ((wsX5_init_r1 ++ wsX5_init_r2) ++ wsX80 ++ wsX50 ++ wsX10 ++ wsX60)
noncomputable def wsX8_copy : List Cond := .code yX8_copy cX8_copy 2 none :: ([.fieldLink RX8 27 "BeardPass$Standing" "weeks" "I", .fieldLink RX8 9 "BeardPass$Standing" "places" "[I", .methodLink RX8 41 arraycopyName, .native arraycopyName, .static arraycopyName, .initialized "java/lang/System", .fieldLink RX8 15 "BeardPass$Standing" "beards" "[I", .fieldLink RX8 18 "BeardPass$Standing" "forged" "[I", .fieldLink RX8 21 "BeardPass$Standing" "purses" "[I", .fieldLink RX8 24 "BeardPass$Standing" "been" "[I"] ++ wsX80)
noncomputable def wsX6_copy : List Cond := .code yX6_copy cX6_copy 2 none :: ([.fieldLink RX6 10 "BeardPass$Sightings" "possible" "I", .fieldLink RX6 16 "BeardPass$Sightings" "many" "I"] ++ wsX60)
noncomputable def wsX9_init : List Cond := .code yX9_init cX9_init 1 none :: ([.methodLink RX9 3 objectInit, .instanceMethod objectInit, .code objectInit ⟨#[0xb1]⟩ 1 none, .arrayClass .char, .fieldLink RX9 9 "BeardPass$Tape" "signs" "[C", .fieldLink RX9 15 "BeardPass$Tape" "length" "I", .fieldLink RX9 19 "BeardPass$Tape" "place" "I", .fieldLink RX9 22 "BeardPass$Tape" "next" "I", .fieldLink RX9 25 "BeardPass$Sort" "END" "LBeardPass$Sort;", .fieldLink RX9 31 "BeardPass$Tape" "sort" "LBeardPass$Sort;", .fieldLink RX9 34 "BeardPass$Tape" "number" "I", .fieldLink RX9 37 "BeardPass$Tape" "word" "J", .fieldLink RX9 41 "BeardPass$Tape" "fault" "I"] ++ wsX90)
noncomputable def wsX9_put : List Cond := .code yX9_put cX9_put 6 none :: ([.constantLong RX9 44 (255), .fieldLink RX9 15 "BeardPass$Tape" "length" "I", .fieldLink RX9 9 "BeardPass$Tape" "signs" "[C"] ++ wsX90)
noncomputable def wsX10_init : List Cond := .code yX10_init cX10_init 3 none :: ([.methodLink RX10 3 objectInit, .instanceMethod objectInit, .code objectInit ⟨#[0xb1]⟩ 1 none, .classLink RX10 9 RX8, .instantiable RX8 6, .initialized RX8, .fieldLink RX10 12 "BeardPass$Ways" "ahead" "LBeardPass$Standing;", .arrayClass .int, .fieldLink RX10 18 "BeardPass$Ways" "standsAfter" "[I", .fieldLink RX10 22 "BeardPass$Ways" "steps" "[I", .fieldLink RX10 25 "BeardPass$Ways" "soonest" "[I", .fieldLink RX10 28 "BeardPass$Ways" "latest" "[I", .fieldLink RX10 31 "BeardPass$Ways" "land" "LBeardPass$Land;", .fieldLink RX10 35 "BeardPass$Ways" "frontier" "LBeardPass$Frontier;", .instanceMethod yX8_init, .code yX8_init cX8_init 1 none, .methodLink RX8 3 objectInit, .fieldLink RX8 9 "BeardPass$Standing" "places" "[I", .fieldLink RX8 15 "BeardPass$Standing" "beards" "[I", .fieldLink RX8 18 "BeardPass$Standing" "forged" "[I", .fieldLink RX8 21 "BeardPass$Standing" "purses" "[I", .fieldLink RX8 24 "BeardPass$Standing" "been" "[I", .fieldLink RX8 27 "BeardPass$Standing" "weeks" "I"] ++ wsX80 ++ wsX100)
noncomputable def wsX11_init_r1 : List Cond := [Cond.methodLink RX11 1 objectInit, Cond.instanceMethod objectInit, Cond.code objectInit ⟨#[0xb1]⟩ 1 none, Cond.classLink RX11 7 RX9, Cond.instantiable RX9 8, Cond.initialized RX9, Cond.fieldLink RX11 10 "BeardPass" "tape" "LBeardPass$Tape;", Cond.classLink RX11 16 RX2, Cond.instantiable RX2 13, Cond.initialized RX2, Cond.fieldLink RX11 19 "BeardPass" "told" "LBeardPass$Land;", Cond.fieldLink RX11 23 "BeardPass" "toldDraft" "LBeardPass$Land;", Cond.classLink RX11 26 RX3, Cond.instantiable RX3 3, Cond.initialized RX3, Cond.fieldLink RX11 29 "BeardPass" "landReader" "LBeardPass$LandReader;", Cond.classLink RX11 33 RX1, Cond.instantiable RX1 4, Cond.initialized RX1, Cond.fieldLink RX11 36 "BeardPass" "plan" "LBeardPass$Journey;", Cond.fieldLink RX11 40 "BeardPass" "planDraft" "LBeardPass$Journey;", Cond.classLink RX11 43 RX0, Cond.instantiable RX0 1, Cond.initialized RX0]
noncomputable def wsX11_init_r2 : List Cond := [Cond.fieldLink RX11 48 "BeardPass" "frontier" "LBeardPass$Frontier;", Cond.classLink RX11 52 RX10, Cond.instantiable RX10 7, Cond.initialized RX10, Cond.fieldLink RX11 57 "BeardPass" "ways" "LBeardPass$Ways;", Cond.classLink RX11 61 RX8, Cond.instantiable RX8 6, Cond.initialized RX8, Cond.fieldLink RX11 64 "BeardPass" "now" "LBeardPass$Standing;", Cond.fieldLink RX11 68 "BeardPass" "trial" "LBeardPass$Standing;", Cond.classLink RX11 71 RX6, Cond.instantiable RX6 2, Cond.initialized RX6, Cond.fieldLink RX11 74 "BeardPass" "sightings" "LBeardPass$Sightings;", Cond.fieldLink RX11 78 "BeardPass" "past" "[LBeardPass$Standing;", Cond.classLink RX11 82 RX5, Cond.fieldLink RX11 84 "BeardPass" "marks" "[LBeardPass$Mark;", Cond.fieldLink RX11 88 "BeardPass" "pastNext" "I", Cond.fieldLink RX11 92 "BeardPass" "pastCount" "I", Cond.instantiable RX5 4, Cond.initialized RX5, Cond.instanceMethod yX9_init, Cond.code yX9_init cX9_init 1 none, Cond.methodLink RX9 3 objectInit]
noncomputable def wsX11_init_r3 : List Cond := [Cond.arrayClass .char, Cond.fieldLink RX9 9 "BeardPass$Tape" "signs" "[C", Cond.fieldLink RX9 15 "BeardPass$Tape" "length" "I", Cond.fieldLink RX9 19 "BeardPass$Tape" "place" "I", Cond.fieldLink RX9 22 "BeardPass$Tape" "next" "I", Cond.fieldLink RX9 25 "BeardPass$Sort" "END" "LBeardPass$Sort;", Cond.fieldLink RX9 31 "BeardPass$Tape" "sort" "LBeardPass$Sort;", Cond.fieldLink RX9 34 "BeardPass$Tape" "number" "I", Cond.fieldLink RX9 37 "BeardPass$Tape" "word" "J", Cond.fieldLink RX9 41 "BeardPass$Tape" "fault" "I", Cond.methodLink RX11 18 yX2_init, Cond.instanceMethod yX2_init, Cond.code yX2_init cX2_init 1 none, Cond.methodLink RX2 3 objectInit, Cond.arrayClass .int, Cond.fieldLink RX2 9 "BeardPass$Land" "asks" "[I", Cond.fieldLink RX2 15 "BeardPass$Land" "roads" "[I", Cond.arrayClass .long, Cond.fieldLink RX2 18 "BeardPass$Land" "townNames" "[J", Cond.fieldLink RX2 22 "BeardPass$Land" "kinds" "[I", Cond.fieldLink RX2 25 "BeardPass$Land" "homes" "[I", Cond.fieldLink RX2 28 "BeardPass$Land" "beards" "[I", Cond.fieldLink RX2 31 "BeardPass$Land" "purses" "[I", Cond.fieldLink RX2 34 "BeardPass$Land" "personNames" "[J"]
noncomputable def wsX11_init_r4 : List Cond := [Cond.classLink RX2 37 RX4, Cond.instantiable RX4 3, Cond.initialized RX4, Cond.fieldLink RX2 40 "BeardPass$Land" "law" "LBeardPass$Law;", Cond.fieldLink RX2 44 "BeardPass$Land" "towns" "I", Cond.fieldLink RX2 48 "BeardPass$Land" "persons" "I", Cond.fieldLink RX2 51 "BeardPass$Land" "grows" "I", Cond.fieldLink RX2 54 "BeardPass$Land" "inch" "I", Cond.instanceMethod yX4_init, Cond.code yX4_init cX4_init 1 none, Cond.methodLink RX4 3 objectInit, Cond.fieldLink RX4 9 "BeardPass$Law" "code" "[I", Cond.fieldLink RX4 15 "BeardPass$Law" "stack" "[I", Cond.fieldLink RX4 18 "BeardPass$Law" "size" "I", Cond.methodLink RX2 57 yX4_beAsUntold, Cond.instanceMethod yX4_beAsUntold, Cond.selects RX4 yX4_beAsUntold yX4_beAsUntold, Cond.code yX4_beAsUntold cX4_beAsUntold 1 none, Cond.methodLink RX4 22 yX4_add, Cond.instanceMethod yX4_add, Cond.selects RX4 yX4_add yX4_add, Cond.code yX4_add cX4_add 2 none, Cond.instanceMethod yX3_init, Cond.code yX3_init cX3_init 1 none]
noncomputable def wsX11_init_r5 : List Cond := [Cond.methodLink RX3 3 objectInit, Cond.fieldLink RX3 9 "BeardPass$LandReader" "growsTold" "Z", Cond.fieldLink RX3 15 "BeardPass$LandReader" "inchTold" "Z", Cond.fieldLink RX3 18 "BeardPass$LandReader" "readsTold" "Z", Cond.instanceMethod yX1_init, Cond.code yX1_init cX1_init 1 none, Cond.methodLink RX1 3 objectInit, Cond.fieldLink RX1 9 "BeardPass$Journey" "deeds" "[I", Cond.fieldLink RX1 15 "BeardPass$Journey" "doers" "[I", Cond.fieldLink RX1 18 "BeardPass$Journey" "objects" "[I", Cond.fieldLink RX1 21 "BeardPass$Journey" "lines" "I", Cond.methodLink RX11 45 yX0_init, Cond.instanceMethod yX0_init, Cond.code yX0_init cX0_init 2 none, Cond.methodLink RX0 3 objectInit, Cond.fieldLink RX0 9 "BeardPass$Frontier" "land" "LBeardPass$Land;", Cond.methodLink RX11 54 yX10_init, Cond.instanceMethod yX10_init, Cond.code yX10_init cX10_init 3 none, Cond.methodLink RX10 3 objectInit, Cond.classLink RX10 9 RX8, Cond.fieldLink RX10 12 "BeardPass$Ways" "ahead" "LBeardPass$Standing;", Cond.fieldLink RX10 18 "BeardPass$Ways" "standsAfter" "[I", Cond.fieldLink RX10 22 "BeardPass$Ways" "steps" "[I"]
noncomputable def wsX11_init_r6 : List Cond := [Cond.fieldLink RX10 25 "BeardPass$Ways" "soonest" "[I", Cond.fieldLink RX10 28 "BeardPass$Ways" "latest" "[I", Cond.fieldLink RX10 31 "BeardPass$Ways" "land" "LBeardPass$Land;", Cond.fieldLink RX10 35 "BeardPass$Ways" "frontier" "LBeardPass$Frontier;", Cond.instanceMethod yX8_init, Cond.code yX8_init cX8_init 1 none, Cond.methodLink RX8 3 objectInit, Cond.fieldLink RX8 9 "BeardPass$Standing" "places" "[I", Cond.fieldLink RX8 15 "BeardPass$Standing" "beards" "[I", Cond.fieldLink RX8 18 "BeardPass$Standing" "forged" "[I", Cond.fieldLink RX8 21 "BeardPass$Standing" "purses" "[I", Cond.fieldLink RX8 24 "BeardPass$Standing" "been" "[I", Cond.fieldLink RX8 27 "BeardPass$Standing" "weeks" "I", Cond.instanceMethod yX6_init, Cond.code yX6_init cX6_init 1 none, Cond.methodLink RX6 3 objectInit, Cond.constant RX6 9 (2147483647), Cond.fieldLink RX6 10 "BeardPass$Sightings" "possible" "I", Cond.fieldLink RX6 16 "BeardPass$Sightings" "many" "I", Cond.instanceMethod yX5_init, Cond.code yX5_init cX5_init 1 none, Cond.methodLink RX5 1 objectInit, Cond.classLink RX5 7 RX8, Cond.fieldLink RX5 10 "BeardPass$Mark" "standing" "LBeardPass$Standing;"]
noncomputable def wsX11_init_r7 : List Cond := [Cond.classLink RX5 16 RX1, Cond.fieldLink RX5 19 "BeardPass$Mark" "plan" "LBeardPass$Journey;", Cond.classLink RX5 23 RX6, Cond.fieldLink RX5 26 "BeardPass$Mark" "sightings" "LBeardPass$Sightings;", Cond.fieldLink RX5 30 "BeardPass$Mark" "laid" "Z"]
noncomputable def wsX11_init : List Cond := .code yX11_init cX11_init 2 none :: ((wsX11_init_r1 ++ (wsX11_init_r2 ++ (wsX11_init_r3 ++ (wsX11_init_r4 ++ (wsX11_init_r5 ++ (wsX11_init_r6 ++ wsX11_init_r7)))))) ++ wsX90 ++ wsX110 ++ wsX20 ++ wsX30 ++ wsX10 ++ wsX00 ++ wsX100 ++ wsX80 ++ wsX60 ++ wsX50 ++ wsX40)
noncomputable def wsX11_isStake : List Cond := .code yX11_isStake cX11_isStake 1 (some .boolean) :: ([])
noncomputable def wsX11_guardGets : List Cond := .code yX11_guardGets cX11_guardGets 3 (some .int) :: ([])
noncomputable def wsX11_travellerGets : List Cond := .code yX11_travellerGets cX11_travellerGets 3 (some .int) :: ([])
noncomputable def wsX11_isAtRest : List Cond := .code yX11_isAtRest cX11_isAtRest 3 (some .boolean) :: ([.methodLink RX11 341 yX11_guardGets, .static yX11_guardGets, .initialized RX11, .code yX11_guardGets cX11_guardGets 3 (some .int), .methodLink RX11 345 yX11_travellerGets, .static yX11_travellerGets, .code yX11_travellerGets cX11_travellerGets 3 (some .int)])
noncomputable def wsX12_init_r1 : List Cond := [Cond.methodLink RX12 1 objectInit, Cond.instanceMethod objectInit, Cond.code objectInit ⟨#[0xb1]⟩ 1 none, Cond.arrayClass .int, Cond.fieldLink RX12 7 "BeardPassModel" "tape" "[I", Cond.fieldLink RX12 13 "BeardPassModel" "land" "[I", Cond.arrayClass .long, Cond.fieldLink RX12 16 "BeardPassModel" "townName" "[J", Cond.fieldLink RX12 20 "BeardPassModel" "personName" "[J", Cond.fieldLink RX12 23 "BeardPassModel" "asks" "[I", Cond.fieldLink RX12 26 "BeardPassModel" "roads" "[I", Cond.fieldLink RX12 29 "BeardPassModel" "kind" "[I", Cond.fieldLink RX12 32 "BeardPassModel" "atTold" "[I", Cond.fieldLink RX12 35 "BeardPassModel" "beardTold" "[I", Cond.fieldLink RX12 38 "BeardPassModel" "purseTold" "[I", Cond.fieldLink RX12 41 "BeardPassModel" "lineFrom" "[I", Cond.fieldLink RX12 44 "BeardPassModel" "lineTo" "[I", Cond.fieldLink RX12 47 "BeardPassModel" "codes" "[I", Cond.fieldLink RX12 50 "BeardPassModel" "opened" "[I", Cond.arrayClass .boolean, Cond.fieldLink RX12 53 "BeardPassModel" "compared" "[Z", Cond.fieldLink RX12 57 "BeardPassModel" "kept" "[I", Cond.fieldLink RX12 60 "BeardPassModel" "keptBy" "[I", Cond.fieldLink RX12 63 "BeardPassModel" "ahead" "[I"]
noncomputable def wsX12_init_r2 : List Cond := [Cond.fieldLink RX12 66 "BeardPassModel" "against" "[I", Cond.fieldLink RX12 69 "BeardPassModel" "sum" "[I", Cond.fieldLink RX12 72 "BeardPassModel" "sumBy" "[I", Cond.fieldLink RX12 75 "BeardPassModel" "term" "[I", Cond.fieldLink RX12 78 "BeardPassModel" "termBy" "[I", Cond.fieldLink RX12 81 "BeardPassModel" "byNot" "[I", Cond.fieldLink RX12 84 "BeardPassModel" "valueOf" "[I", Cond.fieldLink RX12 87 "BeardPassModel" "lines" "[I", Cond.fieldLink RX12 90 "BeardPassModel" "lineWhat" "[I", Cond.fieldLink RX12 93 "BeardPassModel" "lineA" "[I", Cond.fieldLink RX12 96 "BeardPassModel" "lineB" "[I", Cond.fieldLink RX12 99 "BeardPassModel" "seens" "[I", Cond.fieldLink RX12 102 "BeardPassModel" "seenTown" "[I", Cond.fieldLink RX12 105 "BeardPassModel" "seenLet" "[Z", Cond.fieldLink RX12 108 "BeardPassModel" "s" "[I", Cond.fieldLink RX12 111 "BeardPassModel" "aside" "[I", Cond.fieldLink RX12 114 "BeardPassModel" "before" "[I", Cond.fieldLink RX12 117 "BeardPassModel" "marked" "[I", Cond.fieldLink RX12 120 "BeardPassModel" "undone" "[I", Cond.fieldLink RX12 123 "BeardPassModel" "isLaid" "[Z", Cond.fieldLink RX12 126 "BeardPassModel" "stands" "[Z"]
noncomputable def wsX12_init : List Cond := .code yX12_init cX12_init 1 none :: ((wsX12_init_r1 ++ wsX12_init_r2) ++ wsX120)
noncomputable def wsX12_within : List Cond := .code yX12_within cX12_within 3 (some .boolean) :: ([])
noncomputable def wsX12_feed : List Cond := .code yX12_feed cX12_feed 11 (some .int) :: ([.fieldLink RX12 129 "BeardPassModel" "thrown" "I", .constantLong RX12 133 (255), .fieldLink RX12 135 "BeardPassModel" "taped" "I", .fieldLink RX12 7 "BeardPassModel" "tape" "[I"] ++ wsX120)
noncomputable def wsX12_shifts : List Cond := .code yX12_shifts cX12_shifts 3 none :: ([])
noncomputable def wsX12_shiftsNames : List Cond := .code yX12_shiftsNames cX12_shiftsNames 2 none :: ([])
noncomputable def wsX12_copies : List Cond := .code yX12_copies cX12_copies 5 none :: ([])
noncomputable def wsX12_guardGets : List Cond := .code yX12_guardGets cX12_guardGets 4 (some .int) :: ([])
noncomputable def wsX12_travellerGets : List Cond := .code yX12_travellerGets cX12_travellerGets 4 (some .int) :: ([])
noncomputable def wsX12_rests : List Cond := .code yX12_rests cX12_rests 8 (some .int) :: ([.fieldLink RX12 129 "BeardPassModel" "thrown" "I", .methodLink RX12 252 yX12_within, .static yX12_within, .initialized RX12, .code yX12_within cX12_within 3 (some .boolean), .methodLink RX12 447 yX12_guardGets, .static yX12_guardGets, .code yX12_guardGets cX12_guardGets 4 (some .int), .methodLink RX12 451 yX12_travellerGets, .static yX12_travellerGets, .code yX12_travellerGets cX12_travellerGets 4 (some .int)] ++ wsX120)
noncomputable def wsL_law0_r1 : List Cond := [Cond.classLink RL 8 RX11, Cond.instantiable RX11 15, Cond.initialized RX11, Cond.classLink RL 16 RX12, Cond.instantiable RX12 57, Cond.initialized RX12, Cond.arrayClass .long, Cond.constantLong RL 19 (4294967295), Cond.methodLink RL 15 yX11_init, Cond.instanceMethod yX11_init, Cond.code yX11_init cX11_init 2 none, Cond.methodLink RX11 1 objectInit, Cond.instanceMethod objectInit, Cond.code objectInit ⟨#[0xb1]⟩ 1 none, Cond.classLink RX11 7 RX9, Cond.instantiable RX9 8, Cond.initialized RX9, Cond.fieldLink RX11 10 "BeardPass" "tape" "LBeardPass$Tape;", Cond.classLink RX11 16 RX2, Cond.instantiable RX2 13, Cond.initialized RX2, Cond.fieldLink RX11 19 "BeardPass" "told" "LBeardPass$Land;", Cond.fieldLink RX11 23 "BeardPass" "toldDraft" "LBeardPass$Land;", Cond.classLink RX11 26 RX3]
noncomputable def wsL_law0_r2 : List Cond := [Cond.instantiable RX3 3, Cond.initialized RX3, Cond.fieldLink RX11 29 "BeardPass" "landReader" "LBeardPass$LandReader;", Cond.classLink RX11 33 RX1, Cond.instantiable RX1 4, Cond.initialized RX1, Cond.fieldLink RX11 36 "BeardPass" "plan" "LBeardPass$Journey;", Cond.fieldLink RX11 40 "BeardPass" "planDraft" "LBeardPass$Journey;", Cond.classLink RX11 43 RX0, Cond.instantiable RX0 1, Cond.initialized RX0, Cond.fieldLink RX11 48 "BeardPass" "frontier" "LBeardPass$Frontier;", Cond.classLink RX11 52 RX10, Cond.instantiable RX10 7, Cond.initialized RX10, Cond.fieldLink RX11 57 "BeardPass" "ways" "LBeardPass$Ways;", Cond.classLink RX11 61 RX8, Cond.instantiable RX8 6, Cond.initialized RX8, Cond.fieldLink RX11 64 "BeardPass" "now" "LBeardPass$Standing;", Cond.fieldLink RX11 68 "BeardPass" "trial" "LBeardPass$Standing;", Cond.classLink RX11 71 RX6, Cond.instantiable RX6 2, Cond.initialized RX6]
noncomputable def wsL_law0_r3 : List Cond := [Cond.fieldLink RX11 74 "BeardPass" "sightings" "LBeardPass$Sightings;", Cond.fieldLink RX11 78 "BeardPass" "past" "[LBeardPass$Standing;", Cond.classLink RX11 82 RX5, Cond.fieldLink RX11 84 "BeardPass" "marks" "[LBeardPass$Mark;", Cond.fieldLink RX11 88 "BeardPass" "pastNext" "I", Cond.fieldLink RX11 92 "BeardPass" "pastCount" "I", Cond.instantiable RX5 4, Cond.initialized RX5, Cond.instanceMethod yX9_init, Cond.code yX9_init cX9_init 1 none, Cond.methodLink RX9 3 objectInit, Cond.arrayClass .char, Cond.fieldLink RX9 9 "BeardPass$Tape" "signs" "[C", Cond.fieldLink RX9 15 "BeardPass$Tape" "length" "I", Cond.fieldLink RX9 19 "BeardPass$Tape" "place" "I", Cond.fieldLink RX9 22 "BeardPass$Tape" "next" "I", Cond.fieldLink RX9 25 "BeardPass$Sort" "END" "LBeardPass$Sort;", Cond.fieldLink RX9 31 "BeardPass$Tape" "sort" "LBeardPass$Sort;", Cond.fieldLink RX9 34 "BeardPass$Tape" "number" "I", Cond.fieldLink RX9 37 "BeardPass$Tape" "word" "J", Cond.fieldLink RX9 41 "BeardPass$Tape" "fault" "I", Cond.methodLink RX11 18 yX2_init, Cond.instanceMethod yX2_init, Cond.code yX2_init cX2_init 1 none]
noncomputable def wsL_law0_r4 : List Cond := [Cond.methodLink RX2 3 objectInit, Cond.arrayClass .int, Cond.fieldLink RX2 9 "BeardPass$Land" "asks" "[I", Cond.fieldLink RX2 15 "BeardPass$Land" "roads" "[I", Cond.fieldLink RX2 18 "BeardPass$Land" "townNames" "[J", Cond.fieldLink RX2 22 "BeardPass$Land" "kinds" "[I", Cond.fieldLink RX2 25 "BeardPass$Land" "homes" "[I", Cond.fieldLink RX2 28 "BeardPass$Land" "beards" "[I", Cond.fieldLink RX2 31 "BeardPass$Land" "purses" "[I", Cond.fieldLink RX2 34 "BeardPass$Land" "personNames" "[J", Cond.classLink RX2 37 RX4, Cond.instantiable RX4 3, Cond.initialized RX4, Cond.fieldLink RX2 40 "BeardPass$Land" "law" "LBeardPass$Law;", Cond.fieldLink RX2 44 "BeardPass$Land" "towns" "I", Cond.fieldLink RX2 48 "BeardPass$Land" "persons" "I", Cond.fieldLink RX2 51 "BeardPass$Land" "grows" "I", Cond.fieldLink RX2 54 "BeardPass$Land" "inch" "I", Cond.instanceMethod yX4_init, Cond.code yX4_init cX4_init 1 none, Cond.methodLink RX4 3 objectInit, Cond.fieldLink RX4 9 "BeardPass$Law" "code" "[I", Cond.fieldLink RX4 15 "BeardPass$Law" "stack" "[I", Cond.fieldLink RX4 18 "BeardPass$Law" "size" "I"]
noncomputable def wsL_law0_r5 : List Cond := [Cond.methodLink RX2 57 yX4_beAsUntold, Cond.instanceMethod yX4_beAsUntold, Cond.selects RX4 yX4_beAsUntold yX4_beAsUntold, Cond.code yX4_beAsUntold cX4_beAsUntold 1 none, Cond.methodLink RX4 22 yX4_add, Cond.instanceMethod yX4_add, Cond.selects RX4 yX4_add yX4_add, Cond.code yX4_add cX4_add 2 none, Cond.instanceMethod yX3_init, Cond.code yX3_init cX3_init 1 none, Cond.methodLink RX3 3 objectInit, Cond.fieldLink RX3 9 "BeardPass$LandReader" "growsTold" "Z", Cond.fieldLink RX3 15 "BeardPass$LandReader" "inchTold" "Z", Cond.fieldLink RX3 18 "BeardPass$LandReader" "readsTold" "Z", Cond.instanceMethod yX1_init, Cond.code yX1_init cX1_init 1 none, Cond.methodLink RX1 3 objectInit, Cond.fieldLink RX1 9 "BeardPass$Journey" "deeds" "[I", Cond.fieldLink RX1 15 "BeardPass$Journey" "doers" "[I", Cond.fieldLink RX1 18 "BeardPass$Journey" "objects" "[I", Cond.fieldLink RX1 21 "BeardPass$Journey" "lines" "I", Cond.methodLink RX11 45 yX0_init, Cond.instanceMethod yX0_init, Cond.code yX0_init cX0_init 2 none]
noncomputable def wsL_law0_r6 : List Cond := [Cond.methodLink RX0 3 objectInit, Cond.fieldLink RX0 9 "BeardPass$Frontier" "land" "LBeardPass$Land;", Cond.methodLink RX11 54 yX10_init, Cond.instanceMethod yX10_init, Cond.code yX10_init cX10_init 3 none, Cond.methodLink RX10 3 objectInit, Cond.classLink RX10 9 RX8, Cond.fieldLink RX10 12 "BeardPass$Ways" "ahead" "LBeardPass$Standing;", Cond.fieldLink RX10 18 "BeardPass$Ways" "standsAfter" "[I", Cond.fieldLink RX10 22 "BeardPass$Ways" "steps" "[I", Cond.fieldLink RX10 25 "BeardPass$Ways" "soonest" "[I", Cond.fieldLink RX10 28 "BeardPass$Ways" "latest" "[I", Cond.fieldLink RX10 31 "BeardPass$Ways" "land" "LBeardPass$Land;", Cond.fieldLink RX10 35 "BeardPass$Ways" "frontier" "LBeardPass$Frontier;", Cond.instanceMethod yX8_init, Cond.code yX8_init cX8_init 1 none, Cond.methodLink RX8 3 objectInit, Cond.fieldLink RX8 9 "BeardPass$Standing" "places" "[I", Cond.fieldLink RX8 15 "BeardPass$Standing" "beards" "[I", Cond.fieldLink RX8 18 "BeardPass$Standing" "forged" "[I", Cond.fieldLink RX8 21 "BeardPass$Standing" "purses" "[I", Cond.fieldLink RX8 24 "BeardPass$Standing" "been" "[I", Cond.fieldLink RX8 27 "BeardPass$Standing" "weeks" "I", Cond.instanceMethod yX6_init]
noncomputable def wsL_law0_r7 : List Cond := [Cond.code yX6_init cX6_init 1 none, Cond.methodLink RX6 3 objectInit, Cond.constant RX6 9 (2147483647), Cond.fieldLink RX6 10 "BeardPass$Sightings" "possible" "I", Cond.fieldLink RX6 16 "BeardPass$Sightings" "many" "I", Cond.instanceMethod yX5_init, Cond.code yX5_init cX5_init 1 none, Cond.methodLink RX5 1 objectInit, Cond.classLink RX5 7 RX8, Cond.fieldLink RX5 10 "BeardPass$Mark" "standing" "LBeardPass$Standing;", Cond.classLink RX5 16 RX1, Cond.fieldLink RX5 19 "BeardPass$Mark" "plan" "LBeardPass$Journey;", Cond.classLink RX5 23 RX6, Cond.fieldLink RX5 26 "BeardPass$Mark" "sightings" "LBeardPass$Sightings;", Cond.fieldLink RX5 30 "BeardPass$Mark" "laid" "Z", Cond.methodLink RL 18 yX12_init, Cond.instanceMethod yX12_init, Cond.code yX12_init cX12_init 1 none, Cond.methodLink RX12 1 objectInit, Cond.fieldLink RX12 7 "BeardPassModel" "tape" "[I", Cond.fieldLink RX12 13 "BeardPassModel" "land" "[I", Cond.fieldLink RX12 16 "BeardPassModel" "townName" "[J", Cond.fieldLink RX12 20 "BeardPassModel" "personName" "[J", Cond.fieldLink RX12 23 "BeardPassModel" "asks" "[I"]
noncomputable def wsL_law0_r8 : List Cond := [Cond.fieldLink RX12 26 "BeardPassModel" "roads" "[I", Cond.fieldLink RX12 29 "BeardPassModel" "kind" "[I", Cond.fieldLink RX12 32 "BeardPassModel" "atTold" "[I", Cond.fieldLink RX12 35 "BeardPassModel" "beardTold" "[I", Cond.fieldLink RX12 38 "BeardPassModel" "purseTold" "[I", Cond.fieldLink RX12 41 "BeardPassModel" "lineFrom" "[I", Cond.fieldLink RX12 44 "BeardPassModel" "lineTo" "[I", Cond.fieldLink RX12 47 "BeardPassModel" "codes" "[I", Cond.fieldLink RX12 50 "BeardPassModel" "opened" "[I", Cond.arrayClass .boolean, Cond.fieldLink RX12 53 "BeardPassModel" "compared" "[Z", Cond.fieldLink RX12 57 "BeardPassModel" "kept" "[I", Cond.fieldLink RX12 60 "BeardPassModel" "keptBy" "[I", Cond.fieldLink RX12 63 "BeardPassModel" "ahead" "[I", Cond.fieldLink RX12 66 "BeardPassModel" "against" "[I", Cond.fieldLink RX12 69 "BeardPassModel" "sum" "[I", Cond.fieldLink RX12 72 "BeardPassModel" "sumBy" "[I", Cond.fieldLink RX12 75 "BeardPassModel" "term" "[I", Cond.fieldLink RX12 78 "BeardPassModel" "termBy" "[I", Cond.fieldLink RX12 81 "BeardPassModel" "byNot" "[I", Cond.fieldLink RX12 84 "BeardPassModel" "valueOf" "[I", Cond.fieldLink RX12 87 "BeardPassModel" "lines" "[I", Cond.fieldLink RX12 90 "BeardPassModel" "lineWhat" "[I", Cond.fieldLink RX12 93 "BeardPassModel" "lineA" "[I"]
noncomputable def wsL_law0_r9 : List Cond := [Cond.fieldLink RX12 96 "BeardPassModel" "lineB" "[I", Cond.fieldLink RX12 99 "BeardPassModel" "seens" "[I", Cond.fieldLink RX12 102 "BeardPassModel" "seenTown" "[I", Cond.fieldLink RX12 105 "BeardPassModel" "seenLet" "[Z", Cond.fieldLink RX12 108 "BeardPassModel" "s" "[I", Cond.fieldLink RX12 111 "BeardPassModel" "aside" "[I", Cond.fieldLink RX12 114 "BeardPassModel" "before" "[I", Cond.fieldLink RX12 117 "BeardPassModel" "marked" "[I", Cond.fieldLink RX12 120 "BeardPassModel" "undone" "[I", Cond.fieldLink RX12 123 "BeardPassModel" "isLaid" "[Z", Cond.fieldLink RX12 126 "BeardPassModel" "stands" "[Z", Cond.methodLink RL 21 yX11_feed, Cond.instanceMethod yX11_feed, Cond.selects RX11 yX11_feed yX11_feed, Cond.code yX11_feed cX11_feed 7 (some .int), Cond.fieldLink RX11 100 "BeardPass$Tape" "length" "I", Cond.methodLink RX11 96 yX9_put, Cond.instanceMethod yX9_put, Cond.selects RX9 yX9_put yX9_put, Cond.code yX9_put cX9_put 6 none, Cond.constantLong RX9 44 (255), Cond.methodLink RL 25 yX12_feed, Cond.instanceMethod yX12_feed, Cond.selects RX12 yX12_feed yX12_feed]
noncomputable def wsL_law0_r10 : List Cond := [Cond.code yX12_feed cX12_feed 11 (some .int), Cond.fieldLink RX12 129 "BeardPassModel" "thrown" "I", Cond.constantLong RX12 133 (255), Cond.fieldLink RX12 135 "BeardPassModel" "taped" "I", Cond.methodLink RL 26 yX11_land, Cond.instanceMethod yX11_land, Cond.selects RX11 yX11_land yX11_land, Cond.code yX11_land cX11_land 3 (some .int), Cond.fieldLink RX11 107 "BeardPass$Tape" "fault" "I", Cond.fieldLink RX11 116 "BeardPass$Journey" "lines" "I", Cond.fieldLink RX11 125 "BeardPass$Mark" "laid" "Z", Cond.methodLink RX11 103 yX3_read, Cond.instanceMethod yX3_read, Cond.selects RX3 yX3_read yX3_read, Cond.code yX3_read cX3_read 4 (some .boolean), Cond.fieldLink RX3 31 "BeardPass$Tape" "sort" "LBeardPass$Sort;", Cond.fieldLink RX3 35 "BeardPass$Sort" "END" "LBeardPass$Sort;", Cond.fieldLink RX3 44 "BeardPass$Sort" "STOP" "LBeardPass$Sort;", Cond.methodLink RX3 21 yX2_clear, Cond.instanceMethod yX2_clear, Cond.selects RX2 yX2_clear yX2_clear, Cond.code yX2_clear cX2_clear 1 none, Cond.methodLink RX2 60 yJ7_fill_53178, Cond.static yJ7_fill_53178]
noncomputable def wsL_law0_r11 : List Cond := [Cond.initialized RJ7, Cond.code yJ7_fill_53178 cJ7_fill_53178 4 none, Cond.methodLink RX3 26 yX9_begin, Cond.instanceMethod yX9_begin, Cond.selects RX9 yX9_begin yX9_begin, Cond.code yX9_begin cX9_begin 1 none, Cond.methodLink RX9 46 yX9_step, Cond.instanceMethod yX9_step, Cond.selects RX9 yX9_step yX9_step, Cond.code yX9_step cX9_step 1 none, Cond.fieldLink RX9 56 "BeardPass$Sort" "NO_TOKEN" "LBeardPass$Sort;", Cond.fieldLink RX9 59 "BeardPass$Sort" "NAME" "LBeardPass$Sort;", Cond.fieldLink RX9 72 "BeardPass$Sort" "NUMBER" "LBeardPass$Sort;", Cond.methodLink RX9 49 yX9_isLetter, Cond.static yX9_isLetter, Cond.code yX9_isLetter cX9_isLetter 1 (some .boolean), Cond.methodLink RX9 53 yX9_stepOverWord, Cond.instanceMethod yX9_stepOverWord, Cond.selects RX9 yX9_stepOverWord yX9_stepOverWord, Cond.code yX9_stepOverWord cX9_stepOverWord 1 none, Cond.methodLink RX9 62 yX9_sortAs, Cond.instanceMethod yX9_sortAs, Cond.selects RX9 yX9_sortAs yX9_sortAs, Cond.code yX9_sortAs cX9_sortAs 3 (some (.object "BeardPass$Sort"))]
noncomputable def wsL_law0_r12 : List Cond := [Cond.fieldLink RX9 79 "BeardPass$Sort" "text" "Ljava/lang/String;", Cond.methodLink RX9 83 yX9_spells, Cond.instanceMethod yX9_spells, Cond.selects RX9 yX9_spells yX9_spells, Cond.code yX9_spells cX9_spells 3 (some .boolean), Cond.methodLink RX9 87 yJ0_length_8abf5, Cond.instanceMethod yJ0_length_8abf5, Cond.selects RJ0 yJ0_length_8abf5 yJ0_length_8abf5, Cond.initialized RJ0, Cond.code yJ0_length_8abf5 cJ0_length_8abf5 1 (some .int), Cond.fieldLink RJ0 9 "java/lang/String" "value" "[B", Cond.methodLink RJ0 335 yJ0_coder_7d493, Cond.instanceMethod yJ0_coder_7d493, Cond.selects RJ0 yJ0_coder_7d493 yJ0_coder_7d493, Cond.code yJ0_coder_7d493 cJ0_coder_7d493 1 (some .byte), Cond.fieldLink RJ0 38 "java/lang/String" "COMPACT_STRINGS" "Z", Cond.fieldLink RJ0 15 "java/lang/String" "coder" "B", Cond.methodLink RX9 92 yJ0_charAt_5068e, Cond.instanceMethod yJ0_charAt_5068e, Cond.selects RJ0 yJ0_charAt_5068e yJ0_charAt_5068e, Cond.code yJ0_charAt_5068e cJ0_charAt_5068e 2 (some .char), Cond.methodLink RJ0 492 yJ0_isLatin1_aae02, Cond.instanceMethod yJ0_isLatin1_aae02, Cond.selects RJ0 yJ0_isLatin1_aae02 yJ0_isLatin1_aae02]
noncomputable def wsL_law0_r13 : List Cond := [Cond.code yJ0_isLatin1_aae02 cJ0_isLatin1_aae02 1 (some .boolean), Cond.methodLink RJ0 495 yJ1_charAt_3b067, Cond.static yJ1_charAt_3b067, Cond.initialized RJ1, Cond.code yJ1_charAt_3b067 cJ1_charAt_3b067 2 (some .char), Cond.methodLink RJ1 9 yJ0_checkIndex_df160, Cond.static yJ0_checkIndex_df160, Cond.code yJ0_checkIndex_df160 cJ0_checkIndex_df160 2 none, Cond.fieldLink RJ0 1053 "jdk/internal/util/Preconditions" "SIOOBE_FORMATTER" "Ljava/util/function/BiFunction;", Cond.methodLink RJ0 1059 yJ3_checkIndex_8e157, Cond.static yJ3_checkIndex_8e157, Cond.initialized RJ3, Cond.code yJ3_checkIndex_8e157 cJ3_checkIndex_8e157 3 (some .int), Cond.methodLink RJ0 498 yJ2_charAt_3b067, Cond.static yJ2_charAt_3b067, Cond.initialized RJ2, Cond.code yJ2_charAt_3b067 cJ2_charAt_3b067 2 (some .char), Cond.methodLink RJ2 67 yJ2_checkIndex_2214a, Cond.static yJ2_checkIndex_2214a, Cond.code yJ2_checkIndex_2214a cJ2_checkIndex_2214a 2 none, Cond.methodLink RJ2 48 yJ2_length_9d52b, Cond.static yJ2_length_9d52b, Cond.code yJ2_length_9d52b cJ2_length_9d52b 1 (some .int), Cond.methodLink RJ2 414 yJ0_checkIndex_df160]
noncomputable def wsL_law0_r14 : List Cond := [Cond.methodLink RJ2 71 yJ2_getChar_3b067, Cond.static yJ2_getChar_3b067, Cond.code yJ2_getChar_3b067 cJ2_getChar_3b067 2 (some .char), Cond.fieldLink RJ2 44 "java/lang/StringUTF16" "$assertionsDisabled" "Z", Cond.fieldLink RJ2 59 "java/lang/StringUTF16" "HI_BYTE_SHIFT" "I", Cond.fieldLink RJ2 63 "java/lang/StringUTF16" "LO_BYTE_SHIFT" "I", Cond.methodLink RX9 66 yX9_isDigit, Cond.static yX9_isDigit, Cond.code yX9_isDigit cX9_isDigit 1 (some .boolean), Cond.methodLink RX9 69 yX9_stepOverNumber, Cond.instanceMethod yX9_stepOverNumber, Cond.selects RX9 yX9_stepOverNumber yX9_stepOverNumber, Cond.code yX9_stepOverNumber cX9_stepOverNumber 1 none, Cond.methodLink RX3 40 yX3_readLine, Cond.instanceMethod yX3_readLine, Cond.selects RX3 yX3_readLine yX3_readLine, Cond.code yX3_readLine cX3_readLine 3 (some .boolean), Cond.fieldLink RX3 51 "BeardPass$Sort" "TOWN" "LBeardPass$Sort;", Cond.fieldLink RX3 57 "BeardPass$Sort" "ROAD" "LBeardPass$Sort;", Cond.fieldLink RX3 63 "BeardPass$Sort" "PERSON" "LBeardPass$Sort;", Cond.fieldLink RX3 69 "BeardPass$Land" "persons" "I", Cond.fieldLink RX3 77 "BeardPass$Sort" "GROWS" "LBeardPass$Sort;", Cond.fieldLink RX3 83 "BeardPass$Sort" "INCH" "LBeardPass$Sort;", Cond.fieldLink RX3 89 "BeardPass$Sort" "READS" "LBeardPass$Sort;"]
noncomputable def wsL_law0_r15 : List Cond := [Cond.fieldLink RX3 95 "BeardPass$Land" "law" "LBeardPass$Law;", Cond.methodLink RX3 54 yX3_readTown, Cond.instanceMethod yX3_readTown, Cond.selects RX3 yX3_readTown yX3_readTown, Cond.code yX3_readTown cX3_readTown 4 (some .boolean), Cond.fieldLink RX3 109 "BeardPass$Land" "towns" "I", Cond.fieldLink RX3 118 "BeardPass$Land" "townNames" "[J", Cond.fieldLink RX3 122 "BeardPass$Tape" "word" "J", Cond.fieldLink RX3 126 "BeardPass$Sort" "ASKS" "LBeardPass$Sort;", Cond.fieldLink RX3 129 "BeardPass$Land" "asks" "[I", Cond.methodLink RX3 105 yX9_wrong, Cond.instanceMethod yX9_wrong, Cond.selects RX9 yX9_wrong yX9_wrong, Cond.code yX9_wrong cX9_wrong 2 (some .boolean), Cond.methodLink RX3 112 yX9_step, Cond.methodLink RX3 115 yX3_isNewName, Cond.static yX3_isNewName, Cond.code yX3_isNewName cX3_isNewName 2 (some .boolean), Cond.fieldLink RX3 188 "BeardPass$Sort" "NAME" "LBeardPass$Sort;", Cond.methodLink RX3 191 yX2_townNamed, Cond.instanceMethod yX2_townNamed, Cond.selects RX2 yX2_townNamed yX2_townNamed, Cond.code yX2_townNamed cX2_townNamed 4 (some .int), Cond.methodLink RX3 195 yX2_personNamed]
noncomputable def wsL_law0_r16 : List Cond := [Cond.instanceMethod yX2_personNamed, Cond.selects RX2 yX2_personNamed yX2_personNamed, Cond.code yX2_personNamed cX2_personNamed 4 (some .int), Cond.methodLink RX3 47 yX9_take, Cond.instanceMethod yX9_take, Cond.selects RX9 yX9_take yX9_take, Cond.code yX9_take cX9_take 2 (some .boolean), Cond.methodLink RX9 96 yX9_wrong, Cond.methodLink RX3 133 yX9_takeNumber, Cond.instanceMethod yX9_takeNumber, Cond.selects RX9 yX9_takeNumber yX9_takeNumber, Cond.code yX9_takeNumber cX9_takeNumber 4 (some .int), Cond.methodLink RX3 60 yX3_readRoad, Cond.instanceMethod yX3_readRoad, Cond.selects RX3 yX3_readRoad yX3_readRoad, Cond.code yX3_readRoad cX3_readRoad 5 (some .boolean), Cond.fieldLink RX3 141 "BeardPass$Land" "roads" "[I", Cond.methodLink RX3 137 yX9_townHere, Cond.instanceMethod yX9_townHere, Cond.selects RX9 yX9_townHere yX9_townHere, Cond.code yX9_townHere cX9_townHere 3 (some .int), Cond.methodLink RX9 100 yX2_townNamed, Cond.static yX11_has, Cond.code yX11_has cX11_has 2 (some .boolean)]
noncomputable def wsL_law0_r17 : List Cond := [Cond.methodLink RX3 66 yX3_readPerson, Cond.instanceMethod yX3_readPerson, Cond.selects RX3 yX3_readPerson yX3_readPerson, Cond.code yX3_readPerson cX3_readPerson 4 (some .boolean), Cond.fieldLink RX3 148 "BeardPass$Land" "personNames" "[J", Cond.fieldLink RX3 151 "BeardPass$Land" "kinds" "[I", Cond.fieldLink RX3 158 "BeardPass$Sort" "AT" "LBeardPass$Sort;", Cond.fieldLink RX3 161 "BeardPass$Land" "homes" "[I", Cond.methodLink RX3 154 yX3_kindHere, Cond.static yX3_kindHere, Cond.code yX3_kindHere cX3_kindHere 1 (some .int), Cond.fieldLink RX3 176 "BeardPass$Sort" "PLAIN" "LBeardPass$Sort;", Cond.fieldLink RX3 179 "BeardPass$Sort" "SMOOTH" "LBeardPass$Sort;", Cond.fieldLink RX3 182 "BeardPass$Sort" "BISHOP" "LBeardPass$Sort;", Cond.fieldLink RX3 185 "BeardPass$Sort" "GREY" "LBeardPass$Sort;", Cond.methodLink RX3 73 yX3_readGoods, Cond.instanceMethod yX3_readGoods, Cond.selects RX3 yX3_readGoods yX3_readGoods, Cond.code yX3_readGoods cX3_readGoods 4 (some .boolean), Cond.fieldLink RX3 164 "BeardPass$Sort" "BEARD" "LBeardPass$Sort;", Cond.fieldLink RX3 167 "BeardPass$Land" "beards" "[I", Cond.fieldLink RX3 170 "BeardPass$Sort" "PURSE" "LBeardPass$Sort;", Cond.fieldLink RX3 173 "BeardPass$Land" "purses" "[I", Cond.methodLink RX3 80 yX3_readGrows]
noncomputable def wsL_law0_r18 : List Cond := [Cond.instanceMethod yX3_readGrows, Cond.selects RX3 yX3_readGrows yX3_readGrows, Cond.code yX3_readGrows cX3_readGrows 3 (some .boolean), Cond.fieldLink RX3 198 "BeardPass$Land" "grows" "I", Cond.methodLink RX3 86 yX3_readInch, Cond.instanceMethod yX3_readInch, Cond.selects RX3 yX3_readInch yX3_readInch, Cond.code yX3_readInch cX3_readInch 3 (some .boolean), Cond.fieldLink RX3 201 "BeardPass$Land" "inch" "I", Cond.methodLink RX3 92 yX3_beginReads, Cond.instanceMethod yX3_beginReads, Cond.selects RX3 yX3_beginReads yX3_beginReads, Cond.code yX3_beginReads cX3_beginReads 3 (some .boolean), Cond.fieldLink RX3 204 "BeardPass$Law" "size" "I", Cond.instanceMethod yX4_readWhole, Cond.selects RX4 yX4_readWhole yX4_readWhole, Cond.code yX4_readWhole cX4_readWhole 5 (some .boolean), Cond.fieldLink RX4 36 "BeardPass$Tape" "sort" "LBeardPass$Sort;", Cond.fieldLink RX4 42 "BeardPass$Sort" "AND" "LBeardPass$Sort;", Cond.fieldLink RX4 47 "BeardPass$Sort" "OR" "LBeardPass$Sort;", Cond.methodLink RX4 32 yX4_readTest, Cond.instanceMethod yX4_readTest, Cond.selects RX4 yX4_readTest yX4_readTest, Cond.methodLink RX4 50 yX9_step]
noncomputable def wsL_law0_r19 : List Cond := [Cond.code yX4_readPart cX4_readPart 6 (some .boolean), Cond.fieldLink RX4 77 "BeardPass$Sort" "OPEN" "LBeardPass$Sort;", Cond.fieldLink RX4 80 "BeardPass$Sort" "NOT" "LBeardPass$Sort;", Cond.fieldLink RX4 94 "BeardPass$Sort" "CLOSE" "LBeardPass$Sort;", Cond.methodLink RX4 83 yX4_valueHere, Cond.static yX4_valueHere, Cond.code yX4_valueHere cX4_valueHere 1 (some .int), Cond.fieldLink RX4 101 "BeardPass$Sort" "NUMBER" "LBeardPass$Sort;", Cond.fieldLink RX4 104 "BeardPass$Tape" "number" "I", Cond.fieldLink RX4 107 "BeardPass$Sort" "NAME" "LBeardPass$Sort;", Cond.methodLink RX4 112 yX9_spells, Cond.methodLink RX4 87 yX9_wrong, Cond.methodLink RX4 91 yX4_readWhole, Cond.methodLink RX4 97 yX9_take, Cond.methodLink RX4 71 yX4_readPart, Cond.instanceMethod yX4_readPart, Cond.selects RX4 yX4_readPart yX4_readPart, Cond.code yX4_readProduct cX4_readProduct 4 (some .boolean), Cond.fieldLink RX4 74 "BeardPass$Sort" "TIMES" "LBeardPass$Sort;", Cond.code yX4_readSum cX4_readSum 5 (some .boolean), Cond.fieldLink RX4 65 "BeardPass$Sort" "PLUS" "LBeardPass$Sort;", Cond.fieldLink RX4 68 "BeardPass$Sort" "MINUS" "LBeardPass$Sort;", Cond.methodLink RX4 62 yX4_readProduct, Cond.instanceMethod yX4_readProduct]
noncomputable def wsL_law0_r20 : List Cond := [Cond.selects RX4 yX4_readProduct yX4_readProduct, Cond.code yX4_readTest cX4_readTest 4 (some .boolean), Cond.fieldLink RX4 56 "BeardPass$Sort" "LESS" "LBeardPass$Sort;", Cond.fieldLink RX4 59 "BeardPass$Sort" "SAME" "LBeardPass$Sort;", Cond.methodLink RX4 53 yX4_readSum, Cond.instanceMethod yX4_readSum, Cond.selects RX4 yX4_readSum yX4_readSum, Cond.methodLink RX11 110 yX2_copy, Cond.instanceMethod yX2_copy, Cond.selects RX2 yX2_copy yX2_copy, Cond.code yX2_copy cX2_copy 2 none, Cond.methodLink RX2 66 arraycopyName, Cond.native arraycopyName, Cond.static arraycopyName, Cond.initialized "java/lang/System", Cond.methodLink RX2 72 yX4_copy, Cond.instanceMethod yX4_copy, Cond.selects RX4 yX4_copy yX4_copy, Cond.code yX4_copy cX4_copy 2 none, Cond.methodLink RX4 26 arraycopyName, Cond.methodLink RX11 113 yX8_begin, Cond.instanceMethod yX8_begin, Cond.selects RX8 yX8_begin yX8_begin, Cond.code yX8_begin cX8_begin 3 none]
noncomputable def wsL_law0_r21 : List Cond := [Cond.fieldLink RX8 31 "BeardPass$Land" "persons" "I", Cond.fieldLink RX8 36 "BeardPass$Land" "homes" "[I", Cond.fieldLink RX8 39 "BeardPass$Land" "beards" "[I", Cond.fieldLink RX8 40 "BeardPass$Land" "purses" "[I", Cond.methodLink RX11 119 yX6_clear, Cond.instanceMethod yX6_clear, Cond.selects RX6 yX6_clear yX6_clear, Cond.code yX6_clear cX6_clear 1 none, Cond.methodLink RX11 122 yX11_forgetPast, Cond.instanceMethod yX11_forgetPast, Cond.selects RX11 yX11_forgetPast yX11_forgetPast, Cond.code yX11_forgetPast cX11_forgetPast 1 none, Cond.methodLink RL 30 yX12_land, Cond.instanceMethod yX12_land, Cond.selects RX12 yX12_land yX12_land, Cond.code yX12_land cX12_land 2 (some .int), Cond.fieldLink RX12 165 "BeardPassModel" "wrong" "I", Cond.fieldLink RX12 336 "BeardPassModel" "done" "I", Cond.methodLink RX12 327 yX12_readsAll, Cond.instanceMethod yX12_readsAll, Cond.selects RX12 yX12_readsAll yX12_readsAll, Cond.code yX12_readsAll cX12_readsAll 2 (some .boolean), Cond.fieldLink RX12 292 "BeardPassModel" "toldLines" "I", Cond.fieldLink RX12 168 "BeardPassModel" "code" "I"]
noncomputable def wsL_law0_r22 : List Cond := [Cond.fieldLink RX12 154 "BeardPassModel" "token" "I", Cond.constantLong RX12 216 (405230), Cond.constantLong RX12 220 (365260), Cond.constantLong RX12 222 (232608281), Cond.constantLong RX12 230 (4085956), Cond.constantLong RX12 232 (187442), Cond.constantLong RX12 234 (9665209), Cond.methodLink RX12 298 yX12_begins, Cond.instanceMethod yX12_begins, Cond.selects RX12 yX12_begins yX12_begins, Cond.code yX12_begins cX12_begins 1 none, Cond.fieldLink RX12 138 "BeardPassModel" "size" "I", Cond.fieldLink RX12 141 "BeardPassModel" "place" "I", Cond.methodLink RX12 200 yX12_nextToken, Cond.instanceMethod yX12_nextToken, Cond.selects RX12 yX12_nextToken yX12_nextToken, Cond.code yX12_nextToken cX12_nextToken 2 none, Cond.fieldLink RX12 144 "BeardPassModel" "begin" "I", Cond.fieldLink RX12 147 "BeardPassModel" "word" "J", Cond.fieldLink RX12 151 "BeardPassModel" "told" "I", Cond.constantLong RX12 161 (27), Cond.constantLong RX12 163 (96), Cond.methodLink RX12 157 yX12_signAt, Cond.instanceMethod yX12_signAt]
noncomputable def wsL_law0_r23 : List Cond := [Cond.selects RX12 yX12_signAt yX12_signAt, Cond.code yX12_signAt cX12_signAt 2 (some .int), Cond.methodLink RX12 185 yX12_isWord, Cond.instanceMethod yX12_isWord, Cond.selects RX12 yX12_isWord yX12_isWord, Cond.code yX12_isWord cX12_isWord 3 (some .boolean), Cond.methodLink RX12 301 yX12_readsTown, Cond.instanceMethod yX12_readsTown, Cond.selects RX12 yX12_readsTown yX12_readsTown, Cond.code yX12_readsTown cX12_readsTown 2 (some .boolean), Cond.constantLong RX12 218 (33850), Cond.fieldLink RX12 256 "BeardPassModel" "given" "I", Cond.fieldLink RX12 276 "BeardPassModel" "fresh" "J", Cond.methodLink RX12 193 yX12_fails, Cond.instanceMethod yX12_fails, Cond.selects RX12 yX12_fails yX12_fails, Cond.code yX12_fails cX12_fails 2 (some .boolean), Cond.methodLink RX12 279 yX12_needsNew, Cond.instanceMethod yX12_needsNew, Cond.selects RX12 yX12_needsNew yX12_needsNew, Cond.code yX12_needsNew cX12_needsNew 1 (some .boolean), Cond.methodLink RX12 266 yX12_isKept, Cond.instanceMethod yX12_isKept, Cond.selects RX12 yX12_isKept yX12_isKept]
noncomputable def wsL_law0_r24 : List Cond := [Cond.code yX12_isKept cX12_isKept 1 (some .boolean), Cond.constantLong RX12 224 (47), Cond.constantLong RX12 226 (1162516), Cond.constantLong RX12 228 (8930039), Cond.constantLong RX12 236 (204), Cond.constantLong RX12 238 (3497207), Cond.constantLong RX12 240 (10256171), Cond.constantLong RX12 242 (456500), Cond.constantLong RX12 244 (8740238), Cond.constantLong RX12 246 (279844694), Cond.constantLong RX12 248 (33861013), Cond.constantLong RX12 250 (151063), Cond.constantLong RX12 183 (10631), Cond.constantLong RX12 203 (1111), Cond.constantLong RX12 205 (423), Cond.methodLink RX12 270 yX12_townNamed, Cond.instanceMethod yX12_townNamed, Cond.selects RX12 yX12_townNamed yX12_townNamed, Cond.code yX12_townNamed cX12_townNamed 3 (some .int), Cond.methodLink RX12 273 yX12_personNamed, Cond.instanceMethod yX12_personNamed, Cond.selects RX12 yX12_personNamed yX12_personNamed, Cond.code yX12_personNamed cX12_personNamed 3 (some .int), Cond.methodLink RX12 282 yX12_needsBoth]
noncomputable def wsL_law0_r25 : List Cond := [Cond.instanceMethod yX12_needsBoth, Cond.selects RX12 yX12_needsBoth yX12_needsBoth, Cond.code yX12_needsBoth cX12_needsBoth 5 (some .boolean), Cond.methodLink RX12 259 yX12_needsWord, Cond.instanceMethod yX12_needsWord, Cond.selects RX12 yX12_needsWord yX12_needsWord, Cond.code yX12_needsWord cX12_needsWord 3 (some .boolean), Cond.methodLink RX12 262 yX12_needsNumber, Cond.instanceMethod yX12_needsNumber, Cond.selects RX12 yX12_needsNumber yX12_needsNumber, Cond.code yX12_needsNumber cX12_needsNumber 3 (some .boolean), Cond.methodLink RX12 252 yX12_within, Cond.static yX12_within, Cond.code yX12_within cX12_within 3 (some .boolean), Cond.methodLink RX12 286 yX12_closes, Cond.instanceMethod yX12_closes, Cond.selects RX12 yX12_closes yX12_closes, Cond.code yX12_closes cX12_closes 1 (some .boolean), Cond.methodLink RX12 189 yX12_isSign, Cond.instanceMethod yX12_isSign, Cond.selects RX12 yX12_isSign yX12_isSign, Cond.code yX12_isSign cX12_isSign 2 (some .boolean), Cond.methodLink RX12 304 yX12_readsRoad, Cond.instanceMethod yX12_readsRoad]
noncomputable def wsL_law0_r26 : List Cond := [Cond.selects RX12 yX12_readsRoad yX12_readsRoad, Cond.code yX12_readsRoad cX12_readsRoad 2 (some .boolean), Cond.methodLink RX12 289 yX12_needsTown, Cond.instanceMethod yX12_needsTown, Cond.selects RX12 yX12_needsTown yX12_needsTown, Cond.code yX12_needsTown cX12_needsTown 2 (some .boolean), Cond.methodLink RX12 307 yX12_readsPerson, Cond.instanceMethod yX12_readsPerson, Cond.selects RX12 yX12_readsPerson yX12_readsPerson, Cond.code yX12_readsPerson cX12_readsPerson 4 (some .boolean), Cond.methodLink RX12 310 yX12_readsOne, Cond.instanceMethod yX12_readsOne, Cond.selects RX12 yX12_readsOne yX12_readsOne, Cond.code yX12_readsOne cX12_readsOne 4 (some .boolean), Cond.methodLink RX12 313 yX12_readsReads, Cond.instanceMethod yX12_readsReads, Cond.selects RX12 yX12_readsReads yX12_readsReads, Cond.code yX12_readsReads cX12_readsReads 1 (some .boolean), Cond.methodLink RX12 295 yX12_reads, Cond.instanceMethod yX12_reads, Cond.selects RX12 yX12_reads yX12_reads, Cond.code yX12_reads cX12_reads 6 (some .boolean), Cond.methodLink RX12 179 yX12_fact, Cond.instanceMethod yX12_fact]
noncomputable def wsL_law0_r27 : List Cond := [Cond.selects RX12 yX12_fact yX12_fact, Cond.code yX12_fact cX12_fact 1 (some .int), Cond.constantLong RX12 171 (247516), Cond.constantLong RX12 173 (3217595), Cond.constantLong RX12 175 (913576), Cond.constantLong RX12 177 (12325519), Cond.methodLink RX12 196 yX12_puts, Cond.instanceMethod yX12_puts, Cond.selects RX12 yX12_puts yX12_puts, Cond.code yX12_puts cX12_puts 2 none, Cond.methodLink RX12 330 yX12_lays, Cond.instanceMethod yX12_lays, Cond.selects RX12 yX12_lays yX12_lays, Cond.code yX12_lays cX12_lays 1 none, Cond.methodLink RX12 316 yX12_shifts, Cond.static yX12_shifts, Cond.code yX12_shifts cX12_shifts 3 none, Cond.methodLink RX12 320 yX12_shiftsNames, Cond.static yX12_shiftsNames, Cond.code yX12_shiftsNames cX12_shiftsNames 2 none, Cond.methodLink RX12 333 yX12_fresh0, Cond.instanceMethod yX12_fresh0, Cond.selects RX12 yX12_fresh0 yX12_fresh0, Cond.code yX12_fresh0 cX12_fresh0 2 none]
noncomputable def wsL_law0_r28 : List Cond := [Cond.methodLink RL 31 yX11_journey, Cond.instanceMethod yX11_journey, Cond.selects RX11 yX11_journey yX11_journey, Cond.code yX11_journey cX11_journey 2 (some .int), Cond.methodLink RX11 129 yX1_read, Cond.instanceMethod yX1_read, Cond.selects RX1 yX1_read yX1_read, Cond.code yX1_read cX1_read 4 (some .boolean), Cond.fieldLink RX1 36 "BeardPass$Tape" "sort" "LBeardPass$Sort;", Cond.fieldLink RX1 40 "BeardPass$Sort" "END" "LBeardPass$Sort;", Cond.fieldLink RX1 49 "BeardPass$Sort" "STOP" "LBeardPass$Sort;", Cond.methodLink RX1 31 yX9_begin, Cond.methodLink RX1 45 yX1_readLine, Cond.instanceMethod yX1_readLine, Cond.selects RX1 yX1_readLine yX1_readLine, Cond.code yX1_readLine cX1_readLine 5 (some .boolean), Cond.methodLink RX1 56 yX1_deedHere, Cond.static yX1_deedHere, Cond.code yX1_deedHere cX1_deedHere 1 (some .int), Cond.fieldLink RX1 82 "BeardPass$Sort" "GO" "LBeardPass$Sort;", Cond.fieldLink RX1 85 "BeardPass$Sort" "FORGE" "LBeardPass$Sort;", Cond.fieldLink RX1 88 "BeardPass$Sort" "SHAVE" "LBeardPass$Sort;", Cond.fieldLink RX1 91 "BeardPass$Sort" "WEEK" "LBeardPass$Sort;", Cond.methodLink RX1 60 yX9_wrong]
noncomputable def wsL_law0_r29 : List Cond := [Cond.methodLink RX1 64 yX9_step, Cond.methodLink RX1 67 yX1_readDoer, Cond.instanceMethod yX1_readDoer, Cond.selects RX1 yX1_readDoer yX1_readDoer, Cond.code yX1_readDoer cX1_readDoer 4 (some .boolean), Cond.methodLink RX1 71 yX9_personHere, Cond.instanceMethod yX9_personHere, Cond.selects RX9 yX9_personHere yX9_personHere, Cond.code yX9_personHere cX9_personHere 3 (some .int), Cond.methodLink RX9 106 yX2_personNamed, Cond.methodLink RX1 75 yX9_takeNumber, Cond.methodLink RX1 79 yX9_townHere, Cond.methodLink RX1 52 yX9_take, Cond.methodLink RX11 130 yX1_copy, Cond.instanceMethod yX1_copy, Cond.selects RX1 yX1_copy yX1_copy, Cond.code yX1_copy cX1_copy 2 none, Cond.methodLink RX1 25 arraycopyName, Cond.methodLink RL 34 yX12_journey, Cond.instanceMethod yX12_journey, Cond.selects RX12 yX12_journey yX12_journey, Cond.code yX12_journey cX12_journey 1 (some .int), Cond.methodLink RX12 339 yX12_readsLine, Cond.instanceMethod yX12_readsLine]
noncomputable def wsL_law0_r30 : List Cond := [Cond.selects RX12 yX12_readsLine yX12_readsLine, Cond.code yX12_readsLine cX12_readsLine 3 (some .boolean), Cond.methodLink RX12 324 yX12_needsPerson, Cond.instanceMethod yX12_needsPerson, Cond.selects RX12 yX12_needsPerson yX12_needsPerson, Cond.code yX12_needsPerson cX12_needsPerson 1 (some .boolean), Cond.methodLink RX12 342 yX12_laysLines, Cond.instanceMethod yX12_laysLines, Cond.selects RX12 yX12_laysLines yX12_laysLines, Cond.code yX12_laysLines cX12_laysLines 4 none, Cond.methodLink RL 35 yX11_person, Cond.instanceMethod yX11_person, Cond.selects RX11 yX11_person yX11_person, Cond.code yX11_person cX11_person 3 (some .int), Cond.fieldLink RX11 137 "BeardPass$Land" "kinds" "[I", Cond.fieldLink RX11 141 "BeardPass$Standing" "places" "[I", Cond.fieldLink RX11 144 "BeardPass$Standing" "beards" "[I", Cond.fieldLink RX11 147 "BeardPass$Standing" "forged" "[I", Cond.fieldLink RX11 150 "BeardPass$Standing" "purses" "[I", Cond.fieldLink RX11 153 "BeardPass$Standing" "been" "[I", Cond.methodLink RX11 133 yX11_isPerson, Cond.instanceMethod yX11_isPerson, Cond.selects RX11 yX11_isPerson yX11_isPerson, Cond.code yX11_isPerson cX11_isPerson 2 (some .boolean)]
noncomputable def wsL_law0_r31 : List Cond := [Cond.fieldLink RX11 172 "BeardPass$Land" "persons" "I", Cond.methodLink RL 39 yX12_person, Cond.instanceMethod yX12_person, Cond.selects RX12 yX12_person yX12_person, Cond.code yX12_person cX12_person 3 (some .int), Cond.methodLink RX12 370 yX12_isPerson, Cond.instanceMethod yX12_isPerson, Cond.selects RX12 yX12_isPerson yX12_isPerson, Cond.code yX12_isPerson cX12_isPerson 2 (some .boolean), Cond.methodLink RL 40 yX11_town, Cond.instanceMethod yX11_town, Cond.selects RX11 yX11_town yX11_town, Cond.code yX11_town cX11_town 3 (some .int), Cond.fieldLink RX11 159 "BeardPass$Land" "asks" "[I", Cond.fieldLink RX11 162 "BeardPass$Land" "roads" "[I", Cond.methodLink RX11 156 yX11_isTown, Cond.instanceMethod yX11_isTown, Cond.selects RX11 yX11_isTown yX11_isTown, Cond.code yX11_isTown cX11_isTown 2 (some .boolean), Cond.fieldLink RX11 169 "BeardPass$Land" "towns" "I", Cond.methodLink RX11 165 yX0_letThrough, Cond.instanceMethod yX0_letThrough, Cond.selects RX0 yX0_letThrough yX0_letThrough, Cond.code yX0_letThrough cX0_letThrough 5 (some .int)]
noncomputable def wsL_law0_r32 : List Cond := [Cond.fieldLink RX0 53 "BeardPass$Land" "persons" "I", Cond.methodLink RX0 63 yX0_lets, Cond.instanceMethod yX0_lets, Cond.selects RX0 yX0_lets yX0_lets, Cond.code yX0_lets cX0_lets 4 (some .boolean), Cond.fieldLink RX0 15 "BeardPass$Land" "kinds" "[I", Cond.fieldLink RX0 56 "BeardPass$Standing" "places" "[I", Cond.methodLink RX0 59 yX0_voices, Cond.instanceMethod yX0_voices, Cond.selects RX0 yX0_voices yX0_voices, Cond.code yX0_voices cX0_voices 6 (some .int), Cond.methodLink RX0 49 yX0_passesAlone, Cond.instanceMethod yX0_passesAlone, Cond.selects RX0 yX0_passesAlone yX0_passesAlone, Cond.code yX0_passesAlone cX0_passesAlone 8 (some .boolean), Cond.fieldLink RX0 21 "BeardPass$Land" "asks" "[I", Cond.fieldLink RX0 24 "BeardPass$Standing" "forged" "[I", Cond.fieldLink RX0 29 "BeardPass$Land" "law" "LBeardPass$Law;", Cond.fieldLink RX0 33 "BeardPass$Standing" "beards" "[I", Cond.fieldLink RX0 36 "BeardPass$Standing" "weeks" "I", Cond.methodLink RX0 40 yX4_passes, Cond.instanceMethod yX4_passes, Cond.selects RX4 yX4_passes yX4_passes, Cond.code yX4_passes cX4_passes 8 (some .boolean)]
noncomputable def wsL_law0_r33 : List Cond := [Cond.methodLink RX4 122 yX4_valueOf, Cond.static yX4_valueOf, Cond.code yX4_valueOf cX4_valueOf 5 (some .int), Cond.methodLink RX4 126 yX4_join, Cond.static yX4_join, Cond.code yX4_join cX4_join 3 (some .int), Cond.methodLink RL 43 yX12_town, Cond.instanceMethod yX12_town, Cond.selects RX12 yX12_town yX12_town, Cond.code yX12_town cX12_town 3 (some .int), Cond.methodLink RX12 373 yX12_isTown, Cond.instanceMethod yX12_isTown, Cond.selects RX12 yX12_isTown yX12_isTown, Cond.code yX12_isTown cX12_isTown 2 (some .boolean), Cond.methodLink RX12 376 yX12_letThrough, Cond.instanceMethod yX12_letThrough, Cond.selects RX12 yX12_letThrough yX12_letThrough, Cond.code yX12_letThrough cX12_letThrough 4 (some .int), Cond.methodLink RX12 362 yX12_lets, Cond.instanceMethod yX12_lets, Cond.selects RX12 yX12_lets yX12_lets, Cond.code yX12_lets cX12_lets 4 (some .boolean), Cond.methodLink RX12 358 yX12_speakersAt, Cond.instanceMethod yX12_speakersAt]
noncomputable def wsL_law0_r34 : List Cond := [Cond.selects RX12 yX12_speakersAt yX12_speakersAt, Cond.code yX12_speakersAt cX12_speakersAt 5 (some .int), Cond.methodLink RX12 355 yX12_letsHim, Cond.instanceMethod yX12_letsHim, Cond.selects RX12 yX12_letsHim yX12_letsHim, Cond.code yX12_letsHim cX12_letsHim 4 (some .boolean), Cond.fieldLink RX12 349 "BeardPassModel" "moreAsked" "I", Cond.methodLink RX12 352 yX12_readsBeard, Cond.instanceMethod yX12_readsBeard, Cond.selects RX12 yX12_readsBeard yX12_readsBeard, Cond.code yX12_readsBeard cX12_readsBeard 4 (some .boolean), Cond.methodLink RX12 346 yX12_worked, Cond.instanceMethod yX12_worked, Cond.selects RX12 yX12_worked yX12_worked, Cond.code yX12_worked cX12_worked 6 (some .int), Cond.methodLink RX12 210 yX12_opens, Cond.instanceMethod yX12_opens, Cond.selects RX12 yX12_opens yX12_opens, Cond.code yX12_opens cX12_opens 2 none, Cond.methodLink RX12 207 yX12_sums, Cond.instanceMethod yX12_sums, Cond.selects RX12 yX12_sums yX12_sums, Cond.code yX12_sums cX12_sums 2 none, Cond.methodLink RX12 213 yX12_tests]
noncomputable def wsL_law0_r35 : List Cond := [Cond.instanceMethod yX12_tests, Cond.selects RX12 yX12_tests yX12_tests, Cond.code yX12_tests cX12_tests 3 none, Cond.methodLink RL 44 yX11_go, Cond.instanceMethod yX11_go, Cond.selects RX11 yX11_go yX11_go, Cond.code yX11_go cX11_go 3 (some .boolean), Cond.methodLink RX11 195 yX0_canGo, Cond.instanceMethod yX0_canGo, Cond.selects RX0 yX0_canGo yX0_canGo, Cond.code yX0_canGo cX0_canGo 4 (some .boolean), Cond.fieldLink RX0 67 "BeardPass$Land" "roads" "[I", Cond.methodLink RX11 199 yX11_remember, Cond.instanceMethod yX11_remember, Cond.selects RX11 yX11_remember yX11_remember, Cond.code yX11_remember cX11_remember 1 none, Cond.methodLink RX11 223 Lib.Math.min.name, Cond.static Lib.Math.min.name, Cond.initialized "java/lang/Math", Cond.code Lib.Math.min.name Lib.Math.min.code 2 (some .int), Cond.methodLink RX11 221 yX8_copy, Cond.instanceMethod yX8_copy, Cond.selects RX8 yX8_copy yX8_copy, Cond.code yX8_copy cX8_copy 2 none]
noncomputable def wsL_law0_r36 : List Cond := [Cond.methodLink RX8 41 arraycopyName, Cond.methodLink RX11 202 yX8_arrive, Cond.instanceMethod yX8_arrive, Cond.selects RX8 yX8_arrive yX8_arrive, Cond.code yX8_arrive cX8_arrive 3 none, Cond.methodLink RL 48 yX12_go, Cond.instanceMethod yX12_go, Cond.selects RX12 yX12_go yX12_go, Cond.code yX12_go cX12_go 3 (some .boolean), Cond.methodLink RX12 383 yX12_canGo, Cond.instanceMethod yX12_canGo, Cond.selects RX12 yX12_canGo yX12_canGo, Cond.code yX12_canGo cX12_canGo 3 (some .boolean), Cond.methodLink RX12 386 yX12_keeps, Cond.instanceMethod yX12_keeps, Cond.selects RX12 yX12_keeps yX12_keeps, Cond.code yX12_keeps cX12_keeps 2 none, Cond.methodLink RX12 379 yX12_copies, Cond.static yX12_copies, Cond.code yX12_copies cX12_copies 5 none, Cond.methodLink RX12 389 yX12_goes, Cond.instanceMethod yX12_goes, Cond.selects RX12 yX12_goes yX12_goes, Cond.code yX12_goes cX12_goes 3 none]
noncomputable def wsL_law0_r37 : List Cond := [Cond.methodLink RL 49 yX11_forge, Cond.instanceMethod yX11_forge, Cond.selects RX11 yX11_forge yX11_forge, Cond.code yX11_forge cX11_forge 3 (some .int), Cond.methodLink RX11 206 yX0_canForge, Cond.instanceMethod yX0_canForge, Cond.selects RX0 yX0_canForge yX0_canForge, Cond.code yX0_canForge cX0_canForge 4 (some .boolean), Cond.fieldLink RX0 74 "BeardPass$Land" "inch" "I", Cond.fieldLink RX0 77 "BeardPass$Standing" "purses" "[I", Cond.methodLink RX11 209 yX0_sell, Cond.instanceMethod yX0_sell, Cond.selects RX0 yX0_sell yX0_sell, Cond.code yX0_sell cX0_sell 4 none, Cond.methodLink RL 52 yX12_forge, Cond.instanceMethod yX12_forge, Cond.selects RX12 yX12_forge yX12_forge, Cond.code yX12_forge cX12_forge 3 (some .int), Cond.methodLink RX12 392 yX12_canForge, Cond.instanceMethod yX12_canForge, Cond.selects RX12 yX12_canForge yX12_canForge, Cond.code yX12_canForge cX12_canForge 3 (some .boolean), Cond.methodLink RX12 395 yX12_forges, Cond.instanceMethod yX12_forges]
noncomputable def wsL_law0_r38 : List Cond := [Cond.selects RX12 yX12_forges yX12_forges, Cond.code yX12_forges cX12_forges 3 none, Cond.methodLink RL 53 yX11_shave, Cond.instanceMethod yX11_shave, Cond.selects RX11 yX11_shave yX11_shave, Cond.code yX11_shave cX11_shave 2 (some .boolean), Cond.methodLink RX11 213 yX8_loseBeard, Cond.instanceMethod yX8_loseBeard, Cond.selects RX8 yX8_loseBeard yX8_loseBeard, Cond.code yX8_loseBeard cX8_loseBeard 2 none, Cond.methodLink RL 57 yX12_shave, Cond.instanceMethod yX12_shave, Cond.selects RX12 yX12_shave yX12_shave, Cond.code yX12_shave cX12_shave 2 (some .boolean), Cond.methodLink RX12 398 yX12_shaves, Cond.instanceMethod yX12_shaves, Cond.selects RX12 yX12_shaves yX12_shaves, Cond.code yX12_shaves cX12_shaves 2 none, Cond.methodLink RL 58 yX11_week, Cond.instanceMethod yX11_week, Cond.selects RX11 yX11_week yX11_week, Cond.code yX11_week cX11_week 1 (some .int), Cond.fieldLink RX11 181 "BeardPass$Standing" "weeks" "I", Cond.methodLink RX11 217 yX0_passWeek]
noncomputable def wsL_law0_r39 : List Cond := [Cond.instanceMethod yX0_passWeek, Cond.selects RX0 yX0_passWeek yX0_passWeek, Cond.code yX0_passWeek cX0_passWeek 4 none, Cond.fieldLink RX0 80 "BeardPass$Land" "grows" "I", Cond.methodLink RX0 83 Lib.Math.min.name, Cond.methodLink RL 61 yX12_week, Cond.instanceMethod yX12_week, Cond.selects RX12 yX12_week yX12_week, Cond.code yX12_week cX12_week 1 (some .int), Cond.methodLink RX12 401 yX12_passes, Cond.instanceMethod yX12_passes, Cond.selects RX12 yX12_passes yX12_passes, Cond.code yX12_passes cX12_passes 2 none, Cond.methodLink RX12 365 Lib.Math.min.name, Cond.methodLink RL 62 yX11_undo, Cond.instanceMethod yX11_undo, Cond.selects RX11 yX11_undo yX11_undo, Cond.code yX11_undo cX11_undo 1 (some .boolean), Cond.methodLink RL 66 yX12_undo, Cond.instanceMethod yX12_undo, Cond.selects RX12 yX12_undo yX12_undo, Cond.code yX12_undo cX12_undo 1 (some .boolean), Cond.methodLink RL 67 yX11_judged, Cond.instanceMethod yX11_judged]
noncomputable def wsL_law0_r40 : List Cond := [Cond.selects RX11 yX11_judged yX11_judged, Cond.code yX11_judged cX11_judged 6 (some .int), Cond.fieldLink RX11 252 "BeardPass$Land" "purses" "[I", Cond.methodLink RX11 241 yX2_mostAsked, Cond.instanceMethod yX2_mostAsked, Cond.selects RX2 yX2_mostAsked yX2_mostAsked, Cond.code yX2_mostAsked cX2_mostAsked 3 (some .int), Cond.methodLink RX2 76 Lib.Math.max.name, Cond.static Lib.Math.max.name, Cond.code Lib.Math.max.name Lib.Math.max.code 2 (some .int), Cond.methodLink RX11 245 yX1_perform, Cond.instanceMethod yX1_perform, Cond.selects RX1 yX1_perform yX1_perform, Cond.code yX1_perform cX1_perform 6 (some .boolean), Cond.methodLink RX1 94 yX0_passWeek, Cond.methodLink RX1 100 yX8_loseBeard, Cond.methodLink RX1 106 yX0_canGo, Cond.methodLink RX1 110 yX8_arrive, Cond.methodLink RX1 114 yX0_canForge, Cond.methodLink RX1 117 yX0_sell, Cond.methodLink RX11 249 yX1_goesTo, Cond.instanceMethod yX1_goesTo, Cond.selects RX1 yX1_goesTo yX1_goesTo, Cond.code yX1_goesTo cX1_goesTo 2 (some .int)]
noncomputable def wsL_law0_r41 : List Cond := [Cond.methodLink RX11 188 yX11_sum, Cond.instanceMethod yX11_sum, Cond.selects RX11 yX11_sum yX11_sum, Cond.code yX11_sum cX11_sum 4 (some .int), Cond.methodLink RL 71 yX12_judged, Cond.instanceMethod yX12_judged, Cond.selects RX12 yX12_judged yX12_judged, Cond.code yX12_judged cX12_judged 7 (some .int), Cond.methodLink RX12 407 yX12_allOf, Cond.instanceMethod yX12_allOf, Cond.selects RX12 yX12_allOf yX12_allOf, Cond.code yX12_allOf cX12_allOf 4 (some .int), Cond.methodLink RX12 410 yX12_follows, Cond.instanceMethod yX12_follows, Cond.selects RX12 yX12_follows yX12_follows, Cond.code yX12_follows cX12_follows 4 (some .boolean), Cond.methodLink RX12 413 yX12_mostAsked, Cond.instanceMethod yX12_mostAsked, Cond.selects RX12 yX12_mostAsked yX12_mostAsked, Cond.code yX12_mostAsked cX12_mostAsked 3 (some .int), Cond.methodLink RX12 404 Lib.Math.max.name, Cond.methodLink RL 72 yX11_reach, Cond.instanceMethod yX11_reach, Cond.selects RX11 yX11_reach yX11_reach]
noncomputable def wsL_law0_r42 : List Cond := [Cond.code yX11_reach cX11_reach 2 (some .int), Cond.methodLink RX11 253 yX10_reachOf, Cond.instanceMethod yX10_reachOf, Cond.selects RX10 yX10_reachOf yX10_reachOf, Cond.code yX10_reachOf cX10_reachOf 4 (some .int), Cond.fieldLink RX10 66 "BeardPass$Standing" "places" "[I", Cond.methodLink RX10 77 yX10_lay, Cond.instanceMethod yX10_lay, Cond.selects RX10 yX10_lay yX10_lay, Cond.code yX10_lay cX10_lay 6 none, Cond.fieldLink RX10 45 "BeardPass$Land" "kinds" "[I", Cond.fieldLink RX10 56 "BeardPass$Land" "towns" "I", Cond.fieldLink RX10 60 "BeardPass$Land" "roads" "[I", Cond.fieldLink RX10 63 "BeardPass$Land" "persons" "I", Cond.methodLink RX10 39 yJ7_fill_53178, Cond.methodLink RX10 50 yX0_opens, Cond.instanceMethod yX0_opens, Cond.selects RX0 yX0_opens yX0_opens, Cond.code yX0_opens cX0_opens 6 (some .int), Cond.fieldLink RX0 46 "BeardPass$Land" "towns" "I", Cond.methodLink RX10 81 yX10_spread, Cond.instanceMethod yX10_spread, Cond.selects RX10 yX10_spread yX10_spread, Cond.code yX10_spread cX10_spread 4 (some .int)]
noncomputable def wsL_law0_r43 : List Cond := [Cond.methodLink RX10 73 yX10_widen, Cond.instanceMethod yX10_widen, Cond.selects RX10 yX10_widen yX10_widen, Cond.code yX10_widen cX10_widen 4 (some .int), Cond.methodLink RL 75 yX12_reach, Cond.instanceMethod yX12_reach, Cond.selects RX12 yX12_reach yX12_reach, Cond.code yX12_reach cX12_reach 2 (some .int), Cond.methodLink RX12 419 yX12_reachFrom, Cond.instanceMethod yX12_reachFrom, Cond.selects RX12 yX12_reachFrom yX12_reachFrom, Cond.code yX12_reachFrom cX12_reachFrom 5 (some .int), Cond.methodLink RX12 416 yX12_spreads, Cond.instanceMethod yX12_spreads, Cond.selects RX12 yX12_spreads yX12_spreads, Cond.code yX12_spreads cX12_spreads 6 (some .int), Cond.methodLink RL 76 yX11_frontiers, Cond.instanceMethod yX11_frontiers, Cond.selects RX11 yX11_frontiers yX11_frontiers, Cond.code yX11_frontiers cX11_frontiers 3 (some .int), Cond.methodLink RX11 257 yX10_lay, Cond.methodLink RX11 259 yX10_distance, Cond.instanceMethod yX10_distance, Cond.selects RX10 yX10_distance yX10_distance]
noncomputable def wsL_law0_r44 : List Cond := [Cond.code yX10_distance cX10_distance 5 (some .int), Cond.methodLink RL 79 yX12_frontiers, Cond.instanceMethod yX12_frontiers, Cond.selects RX12 yX12_frontiers yX12_frontiers, Cond.code yX12_frontiers cX12_frontiers 3 (some .int), Cond.methodLink RX12 422 yX12_farFrom, Cond.instanceMethod yX12_farFrom, Cond.selects RX12 yX12_farFrom yX12_farFrom, Cond.code yX12_farFrom cX12_farFrom 6 (some .int), Cond.methodLink RL 80 yX11_when, Cond.instanceMethod yX11_when, Cond.selects RX11 yX11_when yX11_when, Cond.code yX11_when cX11_when 3 (some .int), Cond.fieldLink RX11 268 "BeardPass$Ways" "soonest" "[I", Cond.methodLink RX11 265 yX10_findSoonest, Cond.instanceMethod yX10_findSoonest, Cond.selects RX10 yX10_findSoonest yX10_findSoonest, Cond.code yX10_findSoonest cX10_findSoonest 8 none, Cond.methodLink RX10 94 yX10_linkedTo, Cond.instanceMethod yX10_linkedTo, Cond.selects RX10 yX10_linkedTo yX10_linkedTo, Cond.code yX10_linkedTo cX10_linkedTo 2 (some .int), Cond.methodLink RX10 88 arraycopyName, Cond.methodLink RX10 97 yX8_copy]
noncomputable def wsL_law0_r45 : List Cond := [Cond.methodLink RX10 101 yX0_passWeek, Cond.methodLink RL 83 yX12_when, Cond.instanceMethod yX12_when, Cond.selects RX12 yX12_when yX12_when, Cond.code yX12_when cX12_when 3 (some .int), Cond.methodLink RX12 426 yX12_whenAt, Cond.instanceMethod yX12_whenAt, Cond.selects RX12 yX12_whenAt yX12_whenAt, Cond.code yX12_whenAt cX12_whenAt 5 (some .int), Cond.methodLink RL 84 yX11_round, Cond.instanceMethod yX11_round, Cond.selects RX11 yX11_round yX11_round, Cond.code yX11_round cX11_round 2 (some .int), Cond.methodLink RX11 271 yX10_soonestRound, Cond.instanceMethod yX10_soonestRound, Cond.selects RX10 yX10_soonestRound yX10_soonestRound, Cond.code yX10_soonestRound cX10_soonestRound 7 (some .int), Cond.fieldLink RX10 113 "BeardPass$Standing" "been" "[I", Cond.methodLink RX10 109 yX2_allTowns, Cond.instanceMethod yX2_allTowns, Cond.selects RX2 yX2_allTowns yX2_allTowns, Cond.code yX2_allTowns cX2_allTowns 1 (some .int), Cond.methodLink RX10 116 yX10_wander, Cond.instanceMethod yX10_wander]
noncomputable def wsL_law0_r46 : List Cond := [Cond.selects RX10 yX10_wander yX10_wander, Cond.code yX10_wander cX10_wander 5 none, Cond.methodLink RL 87 yX12_round, Cond.instanceMethod yX12_round, Cond.selects RX12 yX12_round yX12_round, Cond.code yX12_round cX12_round 3 (some .int), Cond.methodLink RX12 429 yX12_roams, Cond.instanceMethod yX12_roams, Cond.selects RX12 yX12_roams yX12_roams, Cond.code yX12_roams cX12_roams 9 (some .boolean), Cond.methodLink RL 88 yX11_need, Cond.instanceMethod yX11_need, Cond.selects RX11 yX11_need yX11_need, Cond.code yX11_need cX11_need 3 (some .int), Cond.methodLink RX11 281 yX11_fewestInches, Cond.instanceMethod yX11_fewestInches, Cond.selects RX11 yX11_fewestInches yX11_fewestInches, Cond.code yX11_fewestInches cX11_fewestInches 5 (some .int), Cond.methodLink RX11 277 yX11_has, Cond.methodLink RL 91 yX12_need, Cond.instanceMethod yX12_need, Cond.selects RX12 yX12_need yX12_need, Cond.code yX12_need cX12_need 3 (some .int), Cond.methodLink RX12 432 yX12_needOf]
noncomputable def wsL_law0_r47 : List Cond := [Cond.instanceMethod yX12_needOf, Cond.selects RX12 yX12_needOf yX12_needOf, Cond.code yX12_needOf cX12_needOf 6 (some .int), Cond.methodLink RL 92 yX11_guide, Cond.instanceMethod yX11_guide, Cond.selects RX11 yX11_guide yX11_guide, Cond.code yX11_guide cX11_guide 3 (some .int), Cond.methodLink RX11 262 yX10_firstStep, Cond.instanceMethod yX10_firstStep, Cond.selects RX10 yX10_firstStep yX10_firstStep, Cond.code yX10_firstStep cX10_firstStep 5 (some .int), Cond.methodLink RX10 84 yX10_distance, Cond.methodLink RL 95 yX12_guide, Cond.instanceMethod yX12_guide, Cond.selects RX12 yX12_guide yX12_guide, Cond.code yX12_guide cX12_guide 6 (some .int), Cond.methodLink RL 96 yX11_cheapest, Cond.instanceMethod yX11_cheapest, Cond.selects RX11 yX11_cheapest yX11_cheapest, Cond.code yX11_cheapest cX11_cheapest 6 (some .int), Cond.methodLink RL 99 yX12_cheapest, Cond.instanceMethod yX12_cheapest, Cond.selects RX12 yX12_cheapest yX12_cheapest, Cond.code yX12_cheapest cX12_cheapest 6 (some .int)]
noncomputable def wsL_law0_r48 : List Cond := [Cond.methodLink RL 100 yX11_debt, Cond.instanceMethod yX11_debt, Cond.selects RX11 yX11_debt yX11_debt, Cond.code yX11_debt cX11_debt 4 (some .int), Cond.fieldLink RX11 178 "BeardPass$Land" "inch" "I", Cond.methodLink RX11 284 Lib.Math.max.name, Cond.methodLink RL 103 yX12_debt, Cond.instanceMethod yX12_debt, Cond.selects RX12 yX12_debt yX12_debt, Cond.code yX12_debt cX12_debt 4 (some .int), Cond.methodLink RL 104 yX11_trapped, Cond.instanceMethod yX11_trapped, Cond.selects RX11 yX11_trapped yX11_trapped, Cond.code yX11_trapped cX11_trapped 3 (some .int), Cond.fieldLink RX11 274 "BeardPass$Ways" "steps" "[I", Cond.methodLink RL 107 yX12_trapped, Cond.instanceMethod yX12_trapped, Cond.selects RX12 yX12_trapped yX12_trapped, Cond.code yX12_trapped cX12_trapped 5 (some .int), Cond.methodLink RL 108 yX11_shaven, Cond.instanceMethod yX11_shaven, Cond.selects RX11 yX11_shaven yX11_shaven, Cond.code yX11_shaven cX11_shaven 2 (some .int), Cond.methodLink RL 111 yX12_shaven]
noncomputable def wsL_law0_r49 : List Cond := [Cond.instanceMethod yX12_shaven, Cond.selects RX12 yX12_shaven yX12_shaven, Cond.code yX12_shaven cX12_shaven 3 (some .int), Cond.methodLink RL 112 yX11_meeting, Cond.instanceMethod yX11_meeting, Cond.selects RX11 yX11_meeting yX11_meeting, Cond.code yX11_meeting cX11_meeting 5 (some .int), Cond.fieldLink RX11 287 "BeardPass$Ways" "latest" "[I", Cond.methodLink RX11 290 yJ7_fill_53178, Cond.methodLink RX11 296 yX2_allTowns, Cond.methodLink RX11 299 yX10_waitForSoonest, Cond.instanceMethod yX10_waitForSoonest, Cond.selects RX10 yX10_waitForSoonest yX10_waitForSoonest, Cond.code yX10_waitForSoonest cX10_waitForSoonest 3 none, Cond.methodLink RX10 104 Lib.Math.max.name, Cond.methodLink RL 115 yX12_meeting, Cond.instanceMethod yX12_meeting, Cond.selects RX12 yX12_meeting yX12_meeting, Cond.code yX12_meeting cX12_meeting 6 (some .int), Cond.methodLink RX12 435 yX12_meetsAt, Cond.instanceMethod yX12_meetsAt, Cond.selects RX12 yX12_meetsAt yX12_meetsAt, Cond.code yX12_meetsAt cX12_meetsAt 5 (some .int), Cond.methodLink RL 116 yX11_speakers]
noncomputable def wsL_law0_r50 : List Cond := [Cond.instanceMethod yX11_speakers, Cond.selects RX11 yX11_speakers yX11_speakers, Cond.code yX11_speakers cX11_speakers 3 (some .int), Cond.methodLink RX11 302 yX0_voices, Cond.methodLink RL 119 yX12_speakers, Cond.instanceMethod yX12_speakers, Cond.selects RX12 yX12_speakers yX12_speakers, Cond.code yX12_speakers cX12_speakers 3 (some .int), Cond.methodLink RL 120 yX11_strict, Cond.instanceMethod yX11_strict, Cond.selects RX11 yX11_strict yX11_strict, Cond.code yX11_strict cX11_strict 5 (some .int), Cond.methodLink RX11 305 yJ6_bitCount_0f7a4, Cond.static yJ6_bitCount_0f7a4, Cond.initialized RJ6, Cond.code yJ6_bitCount_0f7a4 cJ6_bitCount_0f7a4 1 (some .int), Cond.constant RJ6 265 (1431655765), Cond.constant RJ6 266 (858993459), Cond.constant RJ6 267 (252645135), Cond.methodLink RL 123 yX12_strict, Cond.instanceMethod yX12_strict, Cond.selects RX12 yX12_strict yX12_strict, Cond.code yX12_strict cX12_strict 3 (some .int), Cond.methodLink RX12 438 yX12_bits]
noncomputable def wsL_law0_r51 : List Cond := [Cond.static yX12_bits, Cond.code yX12_bits cX12_bits 3 (some .int), Cond.methodLink RL 124 yX11_alike, Cond.instanceMethod yX11_alike, Cond.selects RX11 yX11_alike yX11_alike, Cond.code yX11_alike cX11_alike 5 (some .int), Cond.methodLink RL 127 yX12_alike, Cond.instanceMethod yX12_alike, Cond.selects RX12 yX12_alike yX12_alike, Cond.code yX12_alike cX12_alike 4 (some .int), Cond.methodLink RL 128 yX11_see, Cond.instanceMethod yX11_see, Cond.selects RX11 yX11_see yX11_see, Cond.code yX11_see cX11_see 4 (some .boolean), Cond.fieldLink RX11 192 "BeardPass$Sightings" "many" "I", Cond.methodLink RX11 310 yX2_unreadLet, Cond.instanceMethod yX2_unreadLet, Cond.selects RX2 yX2_unreadLet yX2_unreadLet, Cond.code yX2_unreadLet cX2_unreadLet 5 (some .int), Cond.methodLink RX2 82 yX4_passes, Cond.methodLink RX11 313 yX6_add, Cond.instanceMethod yX6_add, Cond.selects RX6 yX6_add yX6_add, Cond.code yX6_add cX6_add 2 none]
noncomputable def wsL_law0_r52 : List Cond := [Cond.methodLink RL 132 yX12_see, Cond.instanceMethod yX12_see, Cond.selects RX12 yX12_see yX12_see, Cond.code yX12_see cX12_see 3 (some .boolean), Cond.methodLink RL 133 yX11_lengths, Cond.instanceMethod yX11_lengths, Cond.selects RX11 yX11_lengths yX11_lengths, Cond.code yX11_lengths cX11_lengths 3 (some .int), Cond.fieldLink RX11 316 "BeardPass$Sightings" "possible" "I", Cond.methodLink RX11 319 yJ6_numberOfTrailingZeros_0f7a4, Cond.static yJ6_numberOfTrailingZeros_0f7a4, Cond.code yJ6_numberOfTrailingZeros_0f7a4 cJ6_numberOfTrailingZeros_0f7a4 2 (some .int), Cond.constant RJ6 264 (65536), Cond.methodLink RX11 322 yJ6_numberOfLeadingZeros_0f7a4, Cond.static yJ6_numberOfLeadingZeros_0f7a4, Cond.code yJ6_numberOfLeadingZeros_0f7a4 cJ6_numberOfLeadingZeros_0f7a4 2 (some .int), Cond.methodLink RL 136 yX12_lengths, Cond.instanceMethod yX12_lengths, Cond.selects RX12 yX12_lengths yX12_lengths, Cond.code yX12_lengths cX12_lengths 6 (some .int), Cond.methodLink RX12 441 yX12_isAsSeen, Cond.instanceMethod yX12_isAsSeen, Cond.selects RX12 yX12_isAsSeen yX12_isAsSeen, Cond.code yX12_isAsSeen cX12_isAsSeen 3 (some .boolean)]
noncomputable def wsL_law0_r53 : List Cond := [Cond.methodLink RL 137 yX11_ask, Cond.instanceMethod yX11_ask, Cond.selects RX11 yX11_ask yX11_ask, Cond.code yX11_ask cX11_ask 8 (some .int), Cond.methodLink RL 140 yX12_ask, Cond.instanceMethod yX12_ask, Cond.selects RX12 yX12_ask yX12_ask, Cond.code yX12_ask cX12_ask 7 (some .int), Cond.methodLink RX12 444 yX12_lengths, Cond.methodLink RL 141 yX11_stricter, Cond.instanceMethod yX11_stricter, Cond.selects RX11 yX11_stricter yX11_stricter, Cond.code yX11_stricter cX11_stricter 5 (some .int), Cond.methodLink RL 144 yX12_stricter, Cond.instanceMethod yX12_stricter, Cond.selects RX12 yX12_stricter yX12_stricter, Cond.code yX12_stricter cX12_stricter 5 (some .int), Cond.methodLink RL 145 yL_rests, Cond.static yL_rests, Cond.initialized RL, Cond.codeWith yL_rests cL_rests 6 (some .int) [(0, 12, 15, 13)], Cond.classLink RL 13 "java/util/NoSuchElementException", Cond.methodLink RL 7 yX11_rests, Cond.instanceMethod yX11_rests]
noncomputable def wsL_law0_r54 : List Cond := [Cond.selects RX11 yX11_rests yX11_rests, Cond.code yX11_rests cX11_rests 6 (some .int), Cond.classLink RX11 328 "java/util/NoSuchElementException", Cond.initialized "java/util/NoSuchElementException", Cond.methodLink RX11 325 yX11_isStake, Cond.static yX11_isStake, Cond.code yX11_isStake cX11_isStake 1 (some .boolean), Cond.methodLink RX11 335 yX11_isAtRest, Cond.static yX11_isAtRest, Cond.code yX11_isAtRest cX11_isAtRest 3 (some .boolean), Cond.methodLink RX11 341 yX11_guardGets, Cond.static yX11_guardGets, Cond.code yX11_guardGets cX11_guardGets 3 (some .int), Cond.methodLink RX11 345 yX11_travellerGets, Cond.static yX11_travellerGets, Cond.code yX11_travellerGets cX11_travellerGets 3 (some .int), Cond.methodLink RL 150 yX12_rests, Cond.instanceMethod yX12_rests, Cond.selects RX12 yX12_rests yX12_rests, Cond.code yX12_rests cX12_rests 8 (some .int), Cond.methodLink RX12 447 yX12_guardGets, Cond.static yX12_guardGets, Cond.code yX12_guardGets cX12_guardGets 4 (some .int), Cond.methodLink RX12 451 yX12_travellerGets]
noncomputable def wsL_law0_r55 : List Cond := [Cond.static yX12_travellerGets, Cond.code yX12_travellerGets cX12_travellerGets 4 (some .int), Cond.methodLink RL 151 yX11_years, Cond.instanceMethod yX11_years, Cond.selects RX11 yX11_years yX11_years, Cond.code yX11_years cX11_years 11 (some .int), Cond.methodLink RX11 348 yX11_nextDraw, Cond.static yX11_nextDraw, Cond.code yX11_nextDraw cX11_nextDraw 2 (some .long), Cond.constantLong RX11 356 (1103515245), Cond.constantLong RX11 358 (12345), Cond.constantLong RX11 360 (2147483648), Cond.methodLink RX11 352 yX11_below, Cond.static yX11_below, Cond.code yX11_below cX11_below 3 (some .int), Cond.constantLong RX11 362 (65536), Cond.methodLink RX11 184 yX8_peopled, Cond.instanceMethod yX8_peopled, Cond.selects RX8 yX8_peopled yX8_peopled, Cond.code yX8_peopled cX8_peopled 4 (some .int), Cond.methodLink RL 154 yX12_years, Cond.instanceMethod yX12_years, Cond.selects RX12 yX12_years yX12_years, Cond.code yX12_years cX12_years 5 (some .int)]
noncomputable def wsL_law0_r56 : List Cond := [Cond.fieldLink RX12 454 "BeardPassModel" "g" "J", Cond.fieldLink RX12 468 "BeardPassModel" "gone" "I", Cond.fieldLink RX12 471 "BeardPassModel" "stopped" "I", Cond.methodLink RX12 474 yX12_livesWeek, Cond.instanceMethod yX12_livesWeek, Cond.selects RX12 yX12_livesWeek yX12_livesWeek, Cond.code yX12_livesWeek cX12_livesWeek 3 none, Cond.methodLink RX12 465 yX12_draws, Cond.instanceMethod yX12_draws, Cond.selects RX12 yX12_draws yX12_draws, Cond.code yX12_draws cX12_draws 2 (some .int), Cond.constantLong RX12 457 (1103515245), Cond.constantLong RX12 459 (12345), Cond.constantLong RX12 461 (2147483648), Cond.constantLong RX12 463 (65536), Cond.methodLink RX12 477 yX12_peopled, Cond.instanceMethod yX12_peopled, Cond.selects RX12 yX12_peopled yX12_peopled, Cond.code yX12_peopled cX12_peopled 3 (some .int), Cond.methodLink RL 155 yX11_mark, Cond.instanceMethod yX11_mark, Cond.selects RX11 yX11_mark yX11_mark, Cond.code yX11_mark cX11_mark 4 (some .boolean), Cond.fieldLink RX11 233 "BeardPass$Mark" "standing" "LBeardPass$Standing;"]
noncomputable def wsL_law0_r57 : List Cond := [Cond.fieldLink RX11 236 "BeardPass$Mark" "plan" "LBeardPass$Journey;", Cond.fieldLink RX11 237 "BeardPass$Mark" "sightings" "LBeardPass$Sightings;", Cond.methodLink RX11 229 yX5_lay, Cond.instanceMethod yX5_lay, Cond.selects RX5 yX5_lay yX5_lay, Cond.code yX5_lay cX5_lay 4 none, Cond.methodLink RX5 34 yX8_copy, Cond.methodLink RX5 38 yX1_copy, Cond.methodLink RX5 41 yX6_copy, Cond.instanceMethod yX6_copy, Cond.selects RX6 yX6_copy yX6_copy, Cond.code yX6_copy cX6_copy 2 none, Cond.methodLink RX11 238 yX6_copy, Cond.methodLink RL 158 yX12_mark, Cond.instanceMethod yX12_mark, Cond.selects RX12 yX12_mark yX12_mark, Cond.code yX12_mark cX12_mark 5 (some .boolean), Cond.methodLink RX12 480 yX12_laysSeen, Cond.instanceMethod yX12_laysSeen, Cond.selects RX12 yX12_laysSeen yX12_laysSeen, Cond.code yX12_laysSeen cX12_laysSeen 4 none, Cond.methodLink RL 159 yX11_count, Cond.instanceMethod yX11_count, Cond.selects RX11 yX11_count yX11_count]
noncomputable def wsL_law0_r58 : List Cond := [Cond.code yX11_count cX11_count 2 (some .int), Cond.fieldLink RX11 175 "BeardPass$Land" "grows" "I", Cond.methodLink RL 162 yX12_count, Cond.instanceMethod yX12_count, Cond.selects RX12 yX12_count yX12_count, Cond.code yX12_count cX12_count 2 (some .int)]
noncomputable def wsL_law0 : List Cond := (wsL_law0_r1 ++ (wsL_law0_r2 ++ (wsL_law0_r3 ++ (wsL_law0_r4 ++ (wsL_law0_r5 ++ (wsL_law0_r6 ++ (wsL_law0_r7 ++ (wsL_law0_r8 ++ (wsL_law0_r9 ++ (wsL_law0_r10 ++ (wsL_law0_r11 ++ (wsL_law0_r12 ++ (wsL_law0_r13 ++ (wsL_law0_r14 ++ (wsL_law0_r15 ++ (wsL_law0_r16 ++ (wsL_law0_r17 ++ (wsL_law0_r18 ++ (wsL_law0_r19 ++ (wsL_law0_r20 ++ (wsL_law0_r21 ++ (wsL_law0_r22 ++ (wsL_law0_r23 ++ (wsL_law0_r24 ++ (wsL_law0_r25 ++ (wsL_law0_r26 ++ (wsL_law0_r27 ++ (wsL_law0_r28 ++ (wsL_law0_r29 ++ (wsL_law0_r30 ++ (wsL_law0_r31 ++ (wsL_law0_r32 ++ (wsL_law0_r33 ++ (wsL_law0_r34 ++ (wsL_law0_r35 ++ (wsL_law0_r36 ++ (wsL_law0_r37 ++ (wsL_law0_r38 ++ (wsL_law0_r39 ++ (wsL_law0_r40 ++ (wsL_law0_r41 ++ (wsL_law0_r42 ++ (wsL_law0_r43 ++ (wsL_law0_r44 ++ (wsL_law0_r45 ++ (wsL_law0_r46 ++ (wsL_law0_r47 ++ (wsL_law0_r48 ++ (wsL_law0_r49 ++ (wsL_law0_r50 ++ (wsL_law0_r51 ++ (wsL_law0_r52 ++ (wsL_law0_r53 ++ (wsL_law0_r54 ++ (wsL_law0_r55 ++ (wsL_law0_r56 ++ (wsL_law0_r57 ++ wsL_law0_r58))))))))))))))))))))))))))))))))))))))))))))))))))))))))) ++ wsX110 ++ wsX120 ++ wsX90 ++ wsX20 ++ wsX30 ++ wsX10 ++ wsX00 ++ wsX100 ++ wsX80 ++ wsX60 ++ wsX50 ++ wsX40 ++ ([] : List Cond)
/-! ===== decode rows by chunks ===== -/
theorem zdr : ∀ (l : List UInt8) (p : Nat) {b : UInt8} {r : List UInt8}, l.drop p = b :: r → l.drop (p + 1) = r
  | [], 0, _, _, h => nomatch h
  | [], _ + 1, _, _, h => nomatch h
  | _ :: _, 0, _, _, h => (List.cons.inj h).2
  | _ :: l, p + 1, _, _, h => zdr l p h
theorem zgt : ∀ (l : List UInt8) (p : Nat) {b : UInt8} {r : List UInt8}, l.drop p = b :: r → l[p]? = some b
  | [], 0, _, _, h => nomatch h
  | [], _ + 1, _, _, h => nomatch h
  | _ :: _, 0, _, _, h => congrArg some (List.cons.inj h).1
  | _ :: l, p + 1, _, _, h => zgt l p h
theorem zu1 {c : ByteArray} {p : Nat} {b : UInt8} {r : List UInt8} (h : c.data.toList.drop p = b :: r) : Reader.runAt (Reader.u1 : Decoder Nat) c p = .ok (b.toNat, p + 1) := by
  obtain ⟨hp, hb⟩ := List.getElem?_eq_some_iff.mp (zgt _ _ h)
  have hp2 : p < c.size := hp
  have hb2 : c[p]'hp2 = b := hb
  show (dite (p < c.size) (fun h => ((do set (p + 1); pure (c[p]'h).toNat) : Reader DecodeError Nat)) (fun _ => throw (HasTruncated.truncated p))) c p = _
  rw [dif_pos hp2]
  show Except.ok ((c[p]'hp2).toNat, p + 1) = _
  rw [hb2]
theorem zrb {α β : Type} {x : Decoder α} {f : α → Decoder β} {c : ByteArray} {p q : Nat} {a : α} (h : Reader.runAt x c p = .ok (a, q)) : Reader.runAt (x >>= f) c p = Reader.runAt (f a) c q := by
  show (Reader.runAt x c p >>= fun w => Reader.runAt (f w.1) c w.2) = _
  rw [h]
  rfl
theorem zrm {α β : Type} {x : Decoder α} {f : α → β} {c : ByteArray} {p q : Nat} {a : α} (h : Reader.runAt x c p = .ok (a, q)) : Reader.runAt (f <$> x) c p = .ok (f a, q) := by
  show (Reader.runAt x c p >>= fun w => pure (f w.1, w.2)) = _
  rw [h]
  rfl
theorem zu2 {c : ByteArray} {p : Nat} {x y : UInt8} {r : List UInt8} (h : c.data.toList.drop p = x :: y :: r) : Reader.runAt (Reader.u2 : Decoder Nat) c p = .ok (x.toNat * 256 + y.toNat, p + 2) := by
  show Reader.runAt (Reader.u1 >>= fun hi => (Reader.u1 >>= fun lo => pure (hi * 256 + lo) : Decoder Nat)) c p = _
  rw [zrb (zu1 h), zrb (zu1 (zdr _ _ h))]
  rfl
theorem zs1 {c : ByteArray} {p : Nat} {x : UInt8} {r : List UInt8} (h : c.data.toList.drop p = x :: r) : Reader.runAt (Reader.s1 : Decoder Int) c p = .ok (Reader.signed 8 x.toNat, p + 1) := zrm (zu1 h)
theorem zs2 {c : ByteArray} {p : Nat} {x y : UInt8} {r : List UInt8} (h : c.data.toList.drop p = x :: y :: r) : Reader.runAt (Reader.s2 : Decoder Int) c p = .ok (Reader.signed 16 (x.toNat * 256 + y.toNat), p + 2) := zrm (zu2 h)
theorem zdk {c : ByteArray} {p k : Nat} {i : Instr} (h : Reader.runAt (Decoder.instr p) c p = .ok (i, p + k)) : decode c p = .ok (i, k) := by
  unfold decode
  rw [h]
  show Except.ok (i, p + k - p) = _
  rw [Nat.add_sub_cancel_left]
theorem zo2 {c : ByteArray} {p : Nat} {b : UInt8} {r : List UInt8} (h : c.data.toList.drop p = b :: r) (hb : b.toNat = 2) : Reader.runAt (Decoder.instr p) c p = .ok (.iconst (-1), p + 1) := by
  refine (zrb (x := Reader.u1) (zu1 h)).trans ?_
  rw [hb]
  rfl
theorem zo3 {c : ByteArray} {p : Nat} {b : UInt8} {r : List UInt8} (h : c.data.toList.drop p = b :: r) (hb : b.toNat = 3) : Reader.runAt (Decoder.instr p) c p = .ok (.iconst 0, p + 1) := by
  refine (zrb (x := Reader.u1) (zu1 h)).trans ?_
  rw [hb]
  rfl
theorem zo4 {c : ByteArray} {p : Nat} {b : UInt8} {r : List UInt8} (h : c.data.toList.drop p = b :: r) (hb : b.toNat = 4) : Reader.runAt (Decoder.instr p) c p = .ok (.iconst 1, p + 1) := by
  refine (zrb (x := Reader.u1) (zu1 h)).trans ?_
  rw [hb]
  rfl
theorem zo5 {c : ByteArray} {p : Nat} {b : UInt8} {r : List UInt8} (h : c.data.toList.drop p = b :: r) (hb : b.toNat = 5) : Reader.runAt (Decoder.instr p) c p = .ok (.iconst 2, p + 1) := by
  refine (zrb (x := Reader.u1) (zu1 h)).trans ?_
  rw [hb]
  rfl
theorem zo6 {c : ByteArray} {p : Nat} {b : UInt8} {r : List UInt8} (h : c.data.toList.drop p = b :: r) (hb : b.toNat = 6) : Reader.runAt (Decoder.instr p) c p = .ok (.iconst 3, p + 1) := by
  refine (zrb (x := Reader.u1) (zu1 h)).trans ?_
  rw [hb]
  rfl
theorem zo7 {c : ByteArray} {p : Nat} {b : UInt8} {r : List UInt8} (h : c.data.toList.drop p = b :: r) (hb : b.toNat = 7) : Reader.runAt (Decoder.instr p) c p = .ok (.iconst 4, p + 1) := by
  refine (zrb (x := Reader.u1) (zu1 h)).trans ?_
  rw [hb]
  rfl
theorem zo8 {c : ByteArray} {p : Nat} {b : UInt8} {r : List UInt8} (h : c.data.toList.drop p = b :: r) (hb : b.toNat = 8) : Reader.runAt (Decoder.instr p) c p = .ok (.iconst 5, p + 1) := by
  refine (zrb (x := Reader.u1) (zu1 h)).trans ?_
  rw [hb]
  rfl
theorem zo9 {c : ByteArray} {p : Nat} {b : UInt8} {r : List UInt8} (h : c.data.toList.drop p = b :: r) (hb : b.toNat = 9) : Reader.runAt (Decoder.instr p) c p = .ok (.lconst 0, p + 1) := by
  refine (zrb (x := Reader.u1) (zu1 h)).trans ?_
  rw [hb]
  rfl
theorem zo10 {c : ByteArray} {p : Nat} {b : UInt8} {r : List UInt8} (h : c.data.toList.drop p = b :: r) (hb : b.toNat = 10) : Reader.runAt (Decoder.instr p) c p = .ok (.lconst 1, p + 1) := by
  refine (zrb (x := Reader.u1) (zu1 h)).trans ?_
  rw [hb]
  rfl
theorem zo26 {c : ByteArray} {p : Nat} {b : UInt8} {r : List UInt8} (h : c.data.toList.drop p = b :: r) (hb : b.toNat = 26) : Reader.runAt (Decoder.instr p) c p = .ok (.iload_n 0, p + 1) := by
  refine (zrb (x := Reader.u1) (zu1 h)).trans ?_
  rw [hb]
  rfl
theorem zo27 {c : ByteArray} {p : Nat} {b : UInt8} {r : List UInt8} (h : c.data.toList.drop p = b :: r) (hb : b.toNat = 27) : Reader.runAt (Decoder.instr p) c p = .ok (.iload_n 1, p + 1) := by
  refine (zrb (x := Reader.u1) (zu1 h)).trans ?_
  rw [hb]
  rfl
theorem zo28 {c : ByteArray} {p : Nat} {b : UInt8} {r : List UInt8} (h : c.data.toList.drop p = b :: r) (hb : b.toNat = 28) : Reader.runAt (Decoder.instr p) c p = .ok (.iload_n 2, p + 1) := by
  refine (zrb (x := Reader.u1) (zu1 h)).trans ?_
  rw [hb]
  rfl
theorem zo29 {c : ByteArray} {p : Nat} {b : UInt8} {r : List UInt8} (h : c.data.toList.drop p = b :: r) (hb : b.toNat = 29) : Reader.runAt (Decoder.instr p) c p = .ok (.iload_n 3, p + 1) := by
  refine (zrb (x := Reader.u1) (zu1 h)).trans ?_
  rw [hb]
  rfl
theorem zo30 {c : ByteArray} {p : Nat} {b : UInt8} {r : List UInt8} (h : c.data.toList.drop p = b :: r) (hb : b.toNat = 30) : Reader.runAt (Decoder.instr p) c p = .ok (.lload_n 0, p + 1) := by
  refine (zrb (x := Reader.u1) (zu1 h)).trans ?_
  rw [hb]
  rfl
theorem zo31 {c : ByteArray} {p : Nat} {b : UInt8} {r : List UInt8} (h : c.data.toList.drop p = b :: r) (hb : b.toNat = 31) : Reader.runAt (Decoder.instr p) c p = .ok (.lload_n 1, p + 1) := by
  refine (zrb (x := Reader.u1) (zu1 h)).trans ?_
  rw [hb]
  rfl
theorem zo32 {c : ByteArray} {p : Nat} {b : UInt8} {r : List UInt8} (h : c.data.toList.drop p = b :: r) (hb : b.toNat = 32) : Reader.runAt (Decoder.instr p) c p = .ok (.lload_n 2, p + 1) := by
  refine (zrb (x := Reader.u1) (zu1 h)).trans ?_
  rw [hb]
  rfl
theorem zo33 {c : ByteArray} {p : Nat} {b : UInt8} {r : List UInt8} (h : c.data.toList.drop p = b :: r) (hb : b.toNat = 33) : Reader.runAt (Decoder.instr p) c p = .ok (.lload_n 3, p + 1) := by
  refine (zrb (x := Reader.u1) (zu1 h)).trans ?_
  rw [hb]
  rfl
theorem zo42 {c : ByteArray} {p : Nat} {b : UInt8} {r : List UInt8} (h : c.data.toList.drop p = b :: r) (hb : b.toNat = 42) : Reader.runAt (Decoder.instr p) c p = .ok (.aload_n 0, p + 1) := by
  refine (zrb (x := Reader.u1) (zu1 h)).trans ?_
  rw [hb]
  rfl
theorem zo43 {c : ByteArray} {p : Nat} {b : UInt8} {r : List UInt8} (h : c.data.toList.drop p = b :: r) (hb : b.toNat = 43) : Reader.runAt (Decoder.instr p) c p = .ok (.aload_n 1, p + 1) := by
  refine (zrb (x := Reader.u1) (zu1 h)).trans ?_
  rw [hb]
  rfl
theorem zo44 {c : ByteArray} {p : Nat} {b : UInt8} {r : List UInt8} (h : c.data.toList.drop p = b :: r) (hb : b.toNat = 44) : Reader.runAt (Decoder.instr p) c p = .ok (.aload_n 2, p + 1) := by
  refine (zrb (x := Reader.u1) (zu1 h)).trans ?_
  rw [hb]
  rfl
theorem zo45 {c : ByteArray} {p : Nat} {b : UInt8} {r : List UInt8} (h : c.data.toList.drop p = b :: r) (hb : b.toNat = 45) : Reader.runAt (Decoder.instr p) c p = .ok (.aload_n 3, p + 1) := by
  refine (zrb (x := Reader.u1) (zu1 h)).trans ?_
  rw [hb]
  rfl
theorem zo46 {c : ByteArray} {p : Nat} {b : UInt8} {r : List UInt8} (h : c.data.toList.drop p = b :: r) (hb : b.toNat = 46) : Reader.runAt (Decoder.instr p) c p = .ok (.iaload, p + 1) := by
  refine (zrb (x := Reader.u1) (zu1 h)).trans ?_
  rw [hb]
  rfl
theorem zo47 {c : ByteArray} {p : Nat} {b : UInt8} {r : List UInt8} (h : c.data.toList.drop p = b :: r) (hb : b.toNat = 47) : Reader.runAt (Decoder.instr p) c p = .ok (.laload, p + 1) := by
  refine (zrb (x := Reader.u1) (zu1 h)).trans ?_
  rw [hb]
  rfl
theorem zo50 {c : ByteArray} {p : Nat} {b : UInt8} {r : List UInt8} (h : c.data.toList.drop p = b :: r) (hb : b.toNat = 50) : Reader.runAt (Decoder.instr p) c p = .ok (.aaload, p + 1) := by
  refine (zrb (x := Reader.u1) (zu1 h)).trans ?_
  rw [hb]
  rfl
theorem zo51 {c : ByteArray} {p : Nat} {b : UInt8} {r : List UInt8} (h : c.data.toList.drop p = b :: r) (hb : b.toNat = 51) : Reader.runAt (Decoder.instr p) c p = .ok (.baload, p + 1) := by
  refine (zrb (x := Reader.u1) (zu1 h)).trans ?_
  rw [hb]
  rfl
theorem zo52 {c : ByteArray} {p : Nat} {b : UInt8} {r : List UInt8} (h : c.data.toList.drop p = b :: r) (hb : b.toNat = 52) : Reader.runAt (Decoder.instr p) c p = .ok (.caload, p + 1) := by
  refine (zrb (x := Reader.u1) (zu1 h)).trans ?_
  rw [hb]
  rfl
theorem zo59 {c : ByteArray} {p : Nat} {b : UInt8} {r : List UInt8} (h : c.data.toList.drop p = b :: r) (hb : b.toNat = 59) : Reader.runAt (Decoder.instr p) c p = .ok (.istore_n 0, p + 1) := by
  refine (zrb (x := Reader.u1) (zu1 h)).trans ?_
  rw [hb]
  rfl
theorem zo60 {c : ByteArray} {p : Nat} {b : UInt8} {r : List UInt8} (h : c.data.toList.drop p = b :: r) (hb : b.toNat = 60) : Reader.runAt (Decoder.instr p) c p = .ok (.istore_n 1, p + 1) := by
  refine (zrb (x := Reader.u1) (zu1 h)).trans ?_
  rw [hb]
  rfl
theorem zo61 {c : ByteArray} {p : Nat} {b : UInt8} {r : List UInt8} (h : c.data.toList.drop p = b :: r) (hb : b.toNat = 61) : Reader.runAt (Decoder.instr p) c p = .ok (.istore_n 2, p + 1) := by
  refine (zrb (x := Reader.u1) (zu1 h)).trans ?_
  rw [hb]
  rfl
theorem zo62 {c : ByteArray} {p : Nat} {b : UInt8} {r : List UInt8} (h : c.data.toList.drop p = b :: r) (hb : b.toNat = 62) : Reader.runAt (Decoder.instr p) c p = .ok (.istore_n 3, p + 1) := by
  refine (zrb (x := Reader.u1) (zu1 h)).trans ?_
  rw [hb]
  rfl
theorem zo63 {c : ByteArray} {p : Nat} {b : UInt8} {r : List UInt8} (h : c.data.toList.drop p = b :: r) (hb : b.toNat = 63) : Reader.runAt (Decoder.instr p) c p = .ok (.lstore_n 0, p + 1) := by
  refine (zrb (x := Reader.u1) (zu1 h)).trans ?_
  rw [hb]
  rfl
theorem zo64 {c : ByteArray} {p : Nat} {b : UInt8} {r : List UInt8} (h : c.data.toList.drop p = b :: r) (hb : b.toNat = 64) : Reader.runAt (Decoder.instr p) c p = .ok (.lstore_n 1, p + 1) := by
  refine (zrb (x := Reader.u1) (zu1 h)).trans ?_
  rw [hb]
  rfl
theorem zo65 {c : ByteArray} {p : Nat} {b : UInt8} {r : List UInt8} (h : c.data.toList.drop p = b :: r) (hb : b.toNat = 65) : Reader.runAt (Decoder.instr p) c p = .ok (.lstore_n 2, p + 1) := by
  refine (zrb (x := Reader.u1) (zu1 h)).trans ?_
  rw [hb]
  rfl
theorem zo66 {c : ByteArray} {p : Nat} {b : UInt8} {r : List UInt8} (h : c.data.toList.drop p = b :: r) (hb : b.toNat = 66) : Reader.runAt (Decoder.instr p) c p = .ok (.lstore_n 3, p + 1) := by
  refine (zrb (x := Reader.u1) (zu1 h)).trans ?_
  rw [hb]
  rfl
theorem zo75 {c : ByteArray} {p : Nat} {b : UInt8} {r : List UInt8} (h : c.data.toList.drop p = b :: r) (hb : b.toNat = 75) : Reader.runAt (Decoder.instr p) c p = .ok (.astore_n 0, p + 1) := by
  refine (zrb (x := Reader.u1) (zu1 h)).trans ?_
  rw [hb]
  rfl
theorem zo76 {c : ByteArray} {p : Nat} {b : UInt8} {r : List UInt8} (h : c.data.toList.drop p = b :: r) (hb : b.toNat = 76) : Reader.runAt (Decoder.instr p) c p = .ok (.astore_n 1, p + 1) := by
  refine (zrb (x := Reader.u1) (zu1 h)).trans ?_
  rw [hb]
  rfl
theorem zo77 {c : ByteArray} {p : Nat} {b : UInt8} {r : List UInt8} (h : c.data.toList.drop p = b :: r) (hb : b.toNat = 77) : Reader.runAt (Decoder.instr p) c p = .ok (.astore_n 2, p + 1) := by
  refine (zrb (x := Reader.u1) (zu1 h)).trans ?_
  rw [hb]
  rfl
theorem zo78 {c : ByteArray} {p : Nat} {b : UInt8} {r : List UInt8} (h : c.data.toList.drop p = b :: r) (hb : b.toNat = 78) : Reader.runAt (Decoder.instr p) c p = .ok (.astore_n 3, p + 1) := by
  refine (zrb (x := Reader.u1) (zu1 h)).trans ?_
  rw [hb]
  rfl
theorem zo79 {c : ByteArray} {p : Nat} {b : UInt8} {r : List UInt8} (h : c.data.toList.drop p = b :: r) (hb : b.toNat = 79) : Reader.runAt (Decoder.instr p) c p = .ok (.iastore, p + 1) := by
  refine (zrb (x := Reader.u1) (zu1 h)).trans ?_
  rw [hb]
  rfl
theorem zo80 {c : ByteArray} {p : Nat} {b : UInt8} {r : List UInt8} (h : c.data.toList.drop p = b :: r) (hb : b.toNat = 80) : Reader.runAt (Decoder.instr p) c p = .ok (.lastore, p + 1) := by
  refine (zrb (x := Reader.u1) (zu1 h)).trans ?_
  rw [hb]
  rfl
theorem zo83 {c : ByteArray} {p : Nat} {b : UInt8} {r : List UInt8} (h : c.data.toList.drop p = b :: r) (hb : b.toNat = 83) : Reader.runAt (Decoder.instr p) c p = .ok (.aastore, p + 1) := by
  refine (zrb (x := Reader.u1) (zu1 h)).trans ?_
  rw [hb]
  rfl
theorem zo84 {c : ByteArray} {p : Nat} {b : UInt8} {r : List UInt8} (h : c.data.toList.drop p = b :: r) (hb : b.toNat = 84) : Reader.runAt (Decoder.instr p) c p = .ok (.bastore, p + 1) := by
  refine (zrb (x := Reader.u1) (zu1 h)).trans ?_
  rw [hb]
  rfl
theorem zo85 {c : ByteArray} {p : Nat} {b : UInt8} {r : List UInt8} (h : c.data.toList.drop p = b :: r) (hb : b.toNat = 85) : Reader.runAt (Decoder.instr p) c p = .ok (.castore, p + 1) := by
  refine (zrb (x := Reader.u1) (zu1 h)).trans ?_
  rw [hb]
  rfl
theorem zo87 {c : ByteArray} {p : Nat} {b : UInt8} {r : List UInt8} (h : c.data.toList.drop p = b :: r) (hb : b.toNat = 87) : Reader.runAt (Decoder.instr p) c p = .ok (.pop, p + 1) := by
  refine (zrb (x := Reader.u1) (zu1 h)).trans ?_
  rw [hb]
  rfl
theorem zo89 {c : ByteArray} {p : Nat} {b : UInt8} {r : List UInt8} (h : c.data.toList.drop p = b :: r) (hb : b.toNat = 89) : Reader.runAt (Decoder.instr p) c p = .ok (.dup, p + 1) := by
  refine (zrb (x := Reader.u1) (zu1 h)).trans ?_
  rw [hb]
  rfl
theorem zo92 {c : ByteArray} {p : Nat} {b : UInt8} {r : List UInt8} (h : c.data.toList.drop p = b :: r) (hb : b.toNat = 92) : Reader.runAt (Decoder.instr p) c p = .ok (.dup2, p + 1) := by
  refine (zrb (x := Reader.u1) (zu1 h)).trans ?_
  rw [hb]
  rfl
theorem zo96 {c : ByteArray} {p : Nat} {b : UInt8} {r : List UInt8} (h : c.data.toList.drop p = b :: r) (hb : b.toNat = 96) : Reader.runAt (Decoder.instr p) c p = .ok (.iadd, p + 1) := by
  refine (zrb (x := Reader.u1) (zu1 h)).trans ?_
  rw [hb]
  rfl
theorem zo97 {c : ByteArray} {p : Nat} {b : UInt8} {r : List UInt8} (h : c.data.toList.drop p = b :: r) (hb : b.toNat = 97) : Reader.runAt (Decoder.instr p) c p = .ok (.ladd, p + 1) := by
  refine (zrb (x := Reader.u1) (zu1 h)).trans ?_
  rw [hb]
  rfl
theorem zo100 {c : ByteArray} {p : Nat} {b : UInt8} {r : List UInt8} (h : c.data.toList.drop p = b :: r) (hb : b.toNat = 100) : Reader.runAt (Decoder.instr p) c p = .ok (.isub, p + 1) := by
  refine (zrb (x := Reader.u1) (zu1 h)).trans ?_
  rw [hb]
  rfl
theorem zo101 {c : ByteArray} {p : Nat} {b : UInt8} {r : List UInt8} (h : c.data.toList.drop p = b :: r) (hb : b.toNat = 101) : Reader.runAt (Decoder.instr p) c p = .ok (.lsub, p + 1) := by
  refine (zrb (x := Reader.u1) (zu1 h)).trans ?_
  rw [hb]
  rfl
theorem zo104 {c : ByteArray} {p : Nat} {b : UInt8} {r : List UInt8} (h : c.data.toList.drop p = b :: r) (hb : b.toNat = 104) : Reader.runAt (Decoder.instr p) c p = .ok (.imul, p + 1) := by
  refine (zrb (x := Reader.u1) (zu1 h)).trans ?_
  rw [hb]
  rfl
theorem zo105 {c : ByteArray} {p : Nat} {b : UInt8} {r : List UInt8} (h : c.data.toList.drop p = b :: r) (hb : b.toNat = 105) : Reader.runAt (Decoder.instr p) c p = .ok (.lmul, p + 1) := by
  refine (zrb (x := Reader.u1) (zu1 h)).trans ?_
  rw [hb]
  rfl
theorem zo108 {c : ByteArray} {p : Nat} {b : UInt8} {r : List UInt8} (h : c.data.toList.drop p = b :: r) (hb : b.toNat = 108) : Reader.runAt (Decoder.instr p) c p = .ok (.idiv, p + 1) := by
  refine (zrb (x := Reader.u1) (zu1 h)).trans ?_
  rw [hb]
  rfl
theorem zo109 {c : ByteArray} {p : Nat} {b : UInt8} {r : List UInt8} (h : c.data.toList.drop p = b :: r) (hb : b.toNat = 109) : Reader.runAt (Decoder.instr p) c p = .ok (.ldiv, p + 1) := by
  refine (zrb (x := Reader.u1) (zu1 h)).trans ?_
  rw [hb]
  rfl
theorem zo112 {c : ByteArray} {p : Nat} {b : UInt8} {r : List UInt8} (h : c.data.toList.drop p = b :: r) (hb : b.toNat = 112) : Reader.runAt (Decoder.instr p) c p = .ok (.irem, p + 1) := by
  refine (zrb (x := Reader.u1) (zu1 h)).trans ?_
  rw [hb]
  rfl
theorem zo113 {c : ByteArray} {p : Nat} {b : UInt8} {r : List UInt8} (h : c.data.toList.drop p = b :: r) (hb : b.toNat = 113) : Reader.runAt (Decoder.instr p) c p = .ok (.lrem, p + 1) := by
  refine (zrb (x := Reader.u1) (zu1 h)).trans ?_
  rw [hb]
  rfl
theorem zo116 {c : ByteArray} {p : Nat} {b : UInt8} {r : List UInt8} (h : c.data.toList.drop p = b :: r) (hb : b.toNat = 116) : Reader.runAt (Decoder.instr p) c p = .ok (.ineg, p + 1) := by
  refine (zrb (x := Reader.u1) (zu1 h)).trans ?_
  rw [hb]
  rfl
theorem zo120 {c : ByteArray} {p : Nat} {b : UInt8} {r : List UInt8} (h : c.data.toList.drop p = b :: r) (hb : b.toNat = 120) : Reader.runAt (Decoder.instr p) c p = .ok (.ishl, p + 1) := by
  refine (zrb (x := Reader.u1) (zu1 h)).trans ?_
  rw [hb]
  rfl
theorem zo121 {c : ByteArray} {p : Nat} {b : UInt8} {r : List UInt8} (h : c.data.toList.drop p = b :: r) (hb : b.toNat = 121) : Reader.runAt (Decoder.instr p) c p = .ok (.lshl, p + 1) := by
  refine (zrb (x := Reader.u1) (zu1 h)).trans ?_
  rw [hb]
  rfl
theorem zo122 {c : ByteArray} {p : Nat} {b : UInt8} {r : List UInt8} (h : c.data.toList.drop p = b :: r) (hb : b.toNat = 122) : Reader.runAt (Decoder.instr p) c p = .ok (.ishr, p + 1) := by
  refine (zrb (x := Reader.u1) (zu1 h)).trans ?_
  rw [hb]
  rfl
theorem zo123 {c : ByteArray} {p : Nat} {b : UInt8} {r : List UInt8} (h : c.data.toList.drop p = b :: r) (hb : b.toNat = 123) : Reader.runAt (Decoder.instr p) c p = .ok (.lshr, p + 1) := by
  refine (zrb (x := Reader.u1) (zu1 h)).trans ?_
  rw [hb]
  rfl
theorem zo124 {c : ByteArray} {p : Nat} {b : UInt8} {r : List UInt8} (h : c.data.toList.drop p = b :: r) (hb : b.toNat = 124) : Reader.runAt (Decoder.instr p) c p = .ok (.iushr, p + 1) := by
  refine (zrb (x := Reader.u1) (zu1 h)).trans ?_
  rw [hb]
  rfl
theorem zo125 {c : ByteArray} {p : Nat} {b : UInt8} {r : List UInt8} (h : c.data.toList.drop p = b :: r) (hb : b.toNat = 125) : Reader.runAt (Decoder.instr p) c p = .ok (.lushr, p + 1) := by
  refine (zrb (x := Reader.u1) (zu1 h)).trans ?_
  rw [hb]
  rfl
theorem zo126 {c : ByteArray} {p : Nat} {b : UInt8} {r : List UInt8} (h : c.data.toList.drop p = b :: r) (hb : b.toNat = 126) : Reader.runAt (Decoder.instr p) c p = .ok (.iand, p + 1) := by
  refine (zrb (x := Reader.u1) (zu1 h)).trans ?_
  rw [hb]
  rfl
theorem zo127 {c : ByteArray} {p : Nat} {b : UInt8} {r : List UInt8} (h : c.data.toList.drop p = b :: r) (hb : b.toNat = 127) : Reader.runAt (Decoder.instr p) c p = .ok (.land, p + 1) := by
  refine (zrb (x := Reader.u1) (zu1 h)).trans ?_
  rw [hb]
  rfl
theorem zo128 {c : ByteArray} {p : Nat} {b : UInt8} {r : List UInt8} (h : c.data.toList.drop p = b :: r) (hb : b.toNat = 128) : Reader.runAt (Decoder.instr p) c p = .ok (.ior, p + 1) := by
  refine (zrb (x := Reader.u1) (zu1 h)).trans ?_
  rw [hb]
  rfl
theorem zo129 {c : ByteArray} {p : Nat} {b : UInt8} {r : List UInt8} (h : c.data.toList.drop p = b :: r) (hb : b.toNat = 129) : Reader.runAt (Decoder.instr p) c p = .ok (.lor, p + 1) := by
  refine (zrb (x := Reader.u1) (zu1 h)).trans ?_
  rw [hb]
  rfl
theorem zo130 {c : ByteArray} {p : Nat} {b : UInt8} {r : List UInt8} (h : c.data.toList.drop p = b :: r) (hb : b.toNat = 130) : Reader.runAt (Decoder.instr p) c p = .ok (.ixor, p + 1) := by
  refine (zrb (x := Reader.u1) (zu1 h)).trans ?_
  rw [hb]
  rfl
theorem zo131 {c : ByteArray} {p : Nat} {b : UInt8} {r : List UInt8} (h : c.data.toList.drop p = b :: r) (hb : b.toNat = 131) : Reader.runAt (Decoder.instr p) c p = .ok (.lxor, p + 1) := by
  refine (zrb (x := Reader.u1) (zu1 h)).trans ?_
  rw [hb]
  rfl
theorem zo133 {c : ByteArray} {p : Nat} {b : UInt8} {r : List UInt8} (h : c.data.toList.drop p = b :: r) (hb : b.toNat = 133) : Reader.runAt (Decoder.instr p) c p = .ok (.i2l, p + 1) := by
  refine (zrb (x := Reader.u1) (zu1 h)).trans ?_
  rw [hb]
  rfl
theorem zo136 {c : ByteArray} {p : Nat} {b : UInt8} {r : List UInt8} (h : c.data.toList.drop p = b :: r) (hb : b.toNat = 136) : Reader.runAt (Decoder.instr p) c p = .ok (.l2i, p + 1) := by
  refine (zrb (x := Reader.u1) (zu1 h)).trans ?_
  rw [hb]
  rfl
theorem zo146 {c : ByteArray} {p : Nat} {b : UInt8} {r : List UInt8} (h : c.data.toList.drop p = b :: r) (hb : b.toNat = 146) : Reader.runAt (Decoder.instr p) c p = .ok (.i2c, p + 1) := by
  refine (zrb (x := Reader.u1) (zu1 h)).trans ?_
  rw [hb]
  rfl
theorem zo148 {c : ByteArray} {p : Nat} {b : UInt8} {r : List UInt8} (h : c.data.toList.drop p = b :: r) (hb : b.toNat = 148) : Reader.runAt (Decoder.instr p) c p = .ok (.lcmp, p + 1) := by
  refine (zrb (x := Reader.u1) (zu1 h)).trans ?_
  rw [hb]
  rfl
theorem zo172 {c : ByteArray} {p : Nat} {b : UInt8} {r : List UInt8} (h : c.data.toList.drop p = b :: r) (hb : b.toNat = 172) : Reader.runAt (Decoder.instr p) c p = .ok (.ireturn, p + 1) := by
  refine (zrb (x := Reader.u1) (zu1 h)).trans ?_
  rw [hb]
  rfl
theorem zo173 {c : ByteArray} {p : Nat} {b : UInt8} {r : List UInt8} (h : c.data.toList.drop p = b :: r) (hb : b.toNat = 173) : Reader.runAt (Decoder.instr p) c p = .ok (.lreturn, p + 1) := by
  refine (zrb (x := Reader.u1) (zu1 h)).trans ?_
  rw [hb]
  rfl
theorem zo176 {c : ByteArray} {p : Nat} {b : UInt8} {r : List UInt8} (h : c.data.toList.drop p = b :: r) (hb : b.toNat = 176) : Reader.runAt (Decoder.instr p) c p = .ok (.areturn, p + 1) := by
  refine (zrb (x := Reader.u1) (zu1 h)).trans ?_
  rw [hb]
  rfl
theorem zo177 {c : ByteArray} {p : Nat} {b : UInt8} {r : List UInt8} (h : c.data.toList.drop p = b :: r) (hb : b.toNat = 177) : Reader.runAt (Decoder.instr p) c p = .ok (.return_, p + 1) := by
  refine (zrb (x := Reader.u1) (zu1 h)).trans ?_
  rw [hb]
  rfl
theorem zo190 {c : ByteArray} {p : Nat} {b : UInt8} {r : List UInt8} (h : c.data.toList.drop p = b :: r) (hb : b.toNat = 190) : Reader.runAt (Decoder.instr p) c p = .ok (.arraylength, p + 1) := by
  refine (zrb (x := Reader.u1) (zu1 h)).trans ?_
  rw [hb]
  rfl
theorem zo191 {c : ByteArray} {p : Nat} {b : UInt8} {r : List UInt8} (h : c.data.toList.drop p = b :: r) (hb : b.toNat = 191) : Reader.runAt (Decoder.instr p) c p = .ok (.athrow, p + 1) := by
  refine (zrb (x := Reader.u1) (zu1 h)).trans ?_
  rw [hb]
  rfl
theorem zo18 {c : ByteArray} {p : Nat} {b x : UInt8} {r : List UInt8} (h : c.data.toList.drop p = b :: x :: r) (hb : b.toNat = 18) : Reader.runAt (Decoder.instr p) c p = .ok (.ldc x.toNat, p + 2) := by
  refine (zrb (x := Reader.u1) (zu1 h)).trans ?_
  rw [hb]
  show Reader.runAt (Reader.u1 >>= fun v => pure (Instr.ldc v) : Decoder Instr) c (p + 1) = _
  exact (zrb (zu1 (zdr _ _ h))).trans rfl
theorem zo21 {c : ByteArray} {p : Nat} {b x : UInt8} {r : List UInt8} (h : c.data.toList.drop p = b :: x :: r) (hb : b.toNat = 21) : Reader.runAt (Decoder.instr p) c p = .ok (.iload x.toNat, p + 2) := by
  refine (zrb (x := Reader.u1) (zu1 h)).trans ?_
  rw [hb]
  show Reader.runAt (Reader.u1 >>= fun v => pure (Instr.iload v) : Decoder Instr) c (p + 1) = _
  exact (zrb (zu1 (zdr _ _ h))).trans rfl
theorem zo22 {c : ByteArray} {p : Nat} {b x : UInt8} {r : List UInt8} (h : c.data.toList.drop p = b :: x :: r) (hb : b.toNat = 22) : Reader.runAt (Decoder.instr p) c p = .ok (.lload x.toNat, p + 2) := by
  refine (zrb (x := Reader.u1) (zu1 h)).trans ?_
  rw [hb]
  show Reader.runAt (Reader.u1 >>= fun v => pure (Instr.lload v) : Decoder Instr) c (p + 1) = _
  exact (zrb (zu1 (zdr _ _ h))).trans rfl
theorem zo25 {c : ByteArray} {p : Nat} {b x : UInt8} {r : List UInt8} (h : c.data.toList.drop p = b :: x :: r) (hb : b.toNat = 25) : Reader.runAt (Decoder.instr p) c p = .ok (.aload x.toNat, p + 2) := by
  refine (zrb (x := Reader.u1) (zu1 h)).trans ?_
  rw [hb]
  show Reader.runAt (Reader.u1 >>= fun v => pure (Instr.aload v) : Decoder Instr) c (p + 1) = _
  exact (zrb (zu1 (zdr _ _ h))).trans rfl
theorem zo54 {c : ByteArray} {p : Nat} {b x : UInt8} {r : List UInt8} (h : c.data.toList.drop p = b :: x :: r) (hb : b.toNat = 54) : Reader.runAt (Decoder.instr p) c p = .ok (.istore x.toNat, p + 2) := by
  refine (zrb (x := Reader.u1) (zu1 h)).trans ?_
  rw [hb]
  show Reader.runAt (Reader.u1 >>= fun v => pure (Instr.istore v) : Decoder Instr) c (p + 1) = _
  exact (zrb (zu1 (zdr _ _ h))).trans rfl
theorem zo55 {c : ByteArray} {p : Nat} {b x : UInt8} {r : List UInt8} (h : c.data.toList.drop p = b :: x :: r) (hb : b.toNat = 55) : Reader.runAt (Decoder.instr p) c p = .ok (.lstore x.toNat, p + 2) := by
  refine (zrb (x := Reader.u1) (zu1 h)).trans ?_
  rw [hb]
  show Reader.runAt (Reader.u1 >>= fun v => pure (Instr.lstore v) : Decoder Instr) c (p + 1) = _
  exact (zrb (zu1 (zdr _ _ h))).trans rfl
theorem zo58 {c : ByteArray} {p : Nat} {b x : UInt8} {r : List UInt8} (h : c.data.toList.drop p = b :: x :: r) (hb : b.toNat = 58) : Reader.runAt (Decoder.instr p) c p = .ok (.astore x.toNat, p + 2) := by
  refine (zrb (x := Reader.u1) (zu1 h)).trans ?_
  rw [hb]
  show Reader.runAt (Reader.u1 >>= fun v => pure (Instr.astore v) : Decoder Instr) c (p + 1) = _
  exact (zrb (zu1 (zdr _ _ h))).trans rfl
theorem zo19 {c : ByteArray} {p : Nat} {b x y : UInt8} {r : List UInt8} (h : c.data.toList.drop p = b :: x :: y :: r) (hb : b.toNat = 19) : Reader.runAt (Decoder.instr p) c p = .ok (.ldc_w (x.toNat * 256 + y.toNat), p + 3) := by
  refine (zrb (x := Reader.u1) (zu1 h)).trans ?_
  rw [hb]
  show Reader.runAt (Reader.u2 >>= fun v => pure (Instr.ldc_w v) : Decoder Instr) c (p + 1) = _
  exact (zrb (zu2 (zdr _ _ h))).trans rfl
theorem zo20 {c : ByteArray} {p : Nat} {b x y : UInt8} {r : List UInt8} (h : c.data.toList.drop p = b :: x :: y :: r) (hb : b.toNat = 20) : Reader.runAt (Decoder.instr p) c p = .ok (.ldc2_w (x.toNat * 256 + y.toNat), p + 3) := by
  refine (zrb (x := Reader.u1) (zu1 h)).trans ?_
  rw [hb]
  show Reader.runAt (Reader.u2 >>= fun v => pure (Instr.ldc2_w v) : Decoder Instr) c (p + 1) = _
  exact (zrb (zu2 (zdr _ _ h))).trans rfl
theorem zo178 {c : ByteArray} {p : Nat} {b x y : UInt8} {r : List UInt8} (h : c.data.toList.drop p = b :: x :: y :: r) (hb : b.toNat = 178) : Reader.runAt (Decoder.instr p) c p = .ok (.getstatic (x.toNat * 256 + y.toNat), p + 3) := by
  refine (zrb (x := Reader.u1) (zu1 h)).trans ?_
  rw [hb]
  show Reader.runAt (Reader.u2 >>= fun v => pure (Instr.getstatic v) : Decoder Instr) c (p + 1) = _
  exact (zrb (zu2 (zdr _ _ h))).trans rfl
theorem zo179 {c : ByteArray} {p : Nat} {b x y : UInt8} {r : List UInt8} (h : c.data.toList.drop p = b :: x :: y :: r) (hb : b.toNat = 179) : Reader.runAt (Decoder.instr p) c p = .ok (.putstatic (x.toNat * 256 + y.toNat), p + 3) := by
  refine (zrb (x := Reader.u1) (zu1 h)).trans ?_
  rw [hb]
  show Reader.runAt (Reader.u2 >>= fun v => pure (Instr.putstatic v) : Decoder Instr) c (p + 1) = _
  exact (zrb (zu2 (zdr _ _ h))).trans rfl
theorem zo180 {c : ByteArray} {p : Nat} {b x y : UInt8} {r : List UInt8} (h : c.data.toList.drop p = b :: x :: y :: r) (hb : b.toNat = 180) : Reader.runAt (Decoder.instr p) c p = .ok (.getfield (x.toNat * 256 + y.toNat), p + 3) := by
  refine (zrb (x := Reader.u1) (zu1 h)).trans ?_
  rw [hb]
  show Reader.runAt (Reader.u2 >>= fun v => pure (Instr.getfield v) : Decoder Instr) c (p + 1) = _
  exact (zrb (zu2 (zdr _ _ h))).trans rfl
theorem zo181 {c : ByteArray} {p : Nat} {b x y : UInt8} {r : List UInt8} (h : c.data.toList.drop p = b :: x :: y :: r) (hb : b.toNat = 181) : Reader.runAt (Decoder.instr p) c p = .ok (.putfield (x.toNat * 256 + y.toNat), p + 3) := by
  refine (zrb (x := Reader.u1) (zu1 h)).trans ?_
  rw [hb]
  show Reader.runAt (Reader.u2 >>= fun v => pure (Instr.putfield v) : Decoder Instr) c (p + 1) = _
  exact (zrb (zu2 (zdr _ _ h))).trans rfl
theorem zo182 {c : ByteArray} {p : Nat} {b x y : UInt8} {r : List UInt8} (h : c.data.toList.drop p = b :: x :: y :: r) (hb : b.toNat = 182) : Reader.runAt (Decoder.instr p) c p = .ok (.invokevirtual (x.toNat * 256 + y.toNat), p + 3) := by
  refine (zrb (x := Reader.u1) (zu1 h)).trans ?_
  rw [hb]
  show Reader.runAt (Reader.u2 >>= fun v => pure (Instr.invokevirtual v) : Decoder Instr) c (p + 1) = _
  exact (zrb (zu2 (zdr _ _ h))).trans rfl
theorem zo183 {c : ByteArray} {p : Nat} {b x y : UInt8} {r : List UInt8} (h : c.data.toList.drop p = b :: x :: y :: r) (hb : b.toNat = 183) : Reader.runAt (Decoder.instr p) c p = .ok (.invokespecial (x.toNat * 256 + y.toNat), p + 3) := by
  refine (zrb (x := Reader.u1) (zu1 h)).trans ?_
  rw [hb]
  show Reader.runAt (Reader.u2 >>= fun v => pure (Instr.invokespecial v) : Decoder Instr) c (p + 1) = _
  exact (zrb (zu2 (zdr _ _ h))).trans rfl
theorem zo184 {c : ByteArray} {p : Nat} {b x y : UInt8} {r : List UInt8} (h : c.data.toList.drop p = b :: x :: y :: r) (hb : b.toNat = 184) : Reader.runAt (Decoder.instr p) c p = .ok (.invokestatic (x.toNat * 256 + y.toNat), p + 3) := by
  refine (zrb (x := Reader.u1) (zu1 h)).trans ?_
  rw [hb]
  show Reader.runAt (Reader.u2 >>= fun v => pure (Instr.invokestatic v) : Decoder Instr) c (p + 1) = _
  exact (zrb (zu2 (zdr _ _ h))).trans rfl
theorem zo187 {c : ByteArray} {p : Nat} {b x y : UInt8} {r : List UInt8} (h : c.data.toList.drop p = b :: x :: y :: r) (hb : b.toNat = 187) : Reader.runAt (Decoder.instr p) c p = .ok (.new (x.toNat * 256 + y.toNat), p + 3) := by
  refine (zrb (x := Reader.u1) (zu1 h)).trans ?_
  rw [hb]
  show Reader.runAt (Reader.u2 >>= fun v => pure (Instr.new v) : Decoder Instr) c (p + 1) = _
  exact (zrb (zu2 (zdr _ _ h))).trans rfl
theorem zo189 {c : ByteArray} {p : Nat} {b x y : UInt8} {r : List UInt8} (h : c.data.toList.drop p = b :: x :: y :: r) (hb : b.toNat = 189) : Reader.runAt (Decoder.instr p) c p = .ok (.anewarray (x.toNat * 256 + y.toNat), p + 3) := by
  refine (zrb (x := Reader.u1) (zu1 h)).trans ?_
  rw [hb]
  show Reader.runAt (Reader.u2 >>= fun v => pure (Instr.anewarray v) : Decoder Instr) c (p + 1) = _
  exact (zrb (zu2 (zdr _ _ h))).trans rfl
theorem zo192 {c : ByteArray} {p : Nat} {b x y : UInt8} {r : List UInt8} (h : c.data.toList.drop p = b :: x :: y :: r) (hb : b.toNat = 192) : Reader.runAt (Decoder.instr p) c p = .ok (.checkcast (x.toNat * 256 + y.toNat), p + 3) := by
  refine (zrb (x := Reader.u1) (zu1 h)).trans ?_
  rw [hb]
  show Reader.runAt (Reader.u2 >>= fun v => pure (Instr.checkcast v) : Decoder Instr) c (p + 1) = _
  exact (zrb (zu2 (zdr _ _ h))).trans rfl
theorem zo193 {c : ByteArray} {p : Nat} {b x y : UInt8} {r : List UInt8} (h : c.data.toList.drop p = b :: x :: y :: r) (hb : b.toNat = 193) : Reader.runAt (Decoder.instr p) c p = .ok (.instanceof (x.toNat * 256 + y.toNat), p + 3) := by
  refine (zrb (x := Reader.u1) (zu1 h)).trans ?_
  rw [hb]
  show Reader.runAt (Reader.u2 >>= fun v => pure (Instr.instanceof v) : Decoder Instr) c (p + 1) = _
  exact (zrb (zu2 (zdr _ _ h))).trans rfl
theorem zo167 {c : ByteArray} {p : Nat} {b x y : UInt8} {r : List UInt8} (h : c.data.toList.drop p = b :: x :: y :: r) (hb : b.toNat = 167) : Reader.runAt (Decoder.instr p) c p = .ok (.goto (Reader.signed 16 (x.toNat * 256 + y.toNat)), p + 3) := by
  refine (zrb (x := Reader.u1) (zu1 h)).trans ?_
  rw [hb]
  show Reader.runAt (Reader.s2 >>= fun v => pure (Instr.goto v) : Decoder Instr) c (p + 1) = _
  exact (zrb (zs2 (zdr _ _ h))).trans rfl
theorem zo17 {c : ByteArray} {p : Nat} {b x y : UInt8} {r : List UInt8} (h : c.data.toList.drop p = b :: x :: y :: r) (hb : b.toNat = 17) : Reader.runAt (Decoder.instr p) c p = .ok (.sipush (Reader.signed 16 (x.toNat * 256 + y.toNat)), p + 3) := by
  refine (zrb (x := Reader.u1) (zu1 h)).trans ?_
  rw [hb]
  show Reader.runAt (Reader.s2 >>= fun v => pure (Instr.sipush v) : Decoder Instr) c (p + 1) = _
  exact (zrb (zs2 (zdr _ _ h))).trans rfl
theorem zo198 {c : ByteArray} {p : Nat} {b x y : UInt8} {r : List UInt8} (h : c.data.toList.drop p = b :: x :: y :: r) (hb : b.toNat = 198) : Reader.runAt (Decoder.instr p) c p = .ok (.ifnull (Reader.signed 16 (x.toNat * 256 + y.toNat)), p + 3) := by
  refine (zrb (x := Reader.u1) (zu1 h)).trans ?_
  rw [hb]
  show Reader.runAt (Reader.s2 >>= fun v => pure (Instr.ifnull v) : Decoder Instr) c (p + 1) = _
  exact (zrb (zs2 (zdr _ _ h))).trans rfl
theorem zo199 {c : ByteArray} {p : Nat} {b x y : UInt8} {r : List UInt8} (h : c.data.toList.drop p = b :: x :: y :: r) (hb : b.toNat = 199) : Reader.runAt (Decoder.instr p) c p = .ok (.ifnonnull (Reader.signed 16 (x.toNat * 256 + y.toNat)), p + 3) := by
  refine (zrb (x := Reader.u1) (zu1 h)).trans ?_
  rw [hb]
  show Reader.runAt (Reader.s2 >>= fun v => pure (Instr.ifnonnull v) : Decoder Instr) c (p + 1) = _
  exact (zrb (zs2 (zdr _ _ h))).trans rfl
theorem zo153 {c : ByteArray} {p : Nat} {b x y : UInt8} {r : List UInt8} (h : c.data.toList.drop p = b :: x :: y :: r) (hb : b.toNat = 153) : Reader.runAt (Decoder.instr p) c p = .ok (.ifCond .eq (Reader.signed 16 (x.toNat * 256 + y.toNat)), p + 3) := by
  refine (zrb (x := Reader.u1) (zu1 h)).trans ?_
  rw [hb]
  show Reader.runAt (Reader.s2 >>= fun v => pure (Instr.ifCond .eq v) : Decoder Instr) c (p + 1) = _
  exact (zrb (zs2 (zdr _ _ h))).trans rfl
theorem zo159 {c : ByteArray} {p : Nat} {b x y : UInt8} {r : List UInt8} (h : c.data.toList.drop p = b :: x :: y :: r) (hb : b.toNat = 159) : Reader.runAt (Decoder.instr p) c p = .ok (.if_icmp .eq (Reader.signed 16 (x.toNat * 256 + y.toNat)), p + 3) := by
  refine (zrb (x := Reader.u1) (zu1 h)).trans ?_
  rw [hb]
  show Reader.runAt (Reader.s2 >>= fun v => pure (Instr.if_icmp .eq v) : Decoder Instr) c (p + 1) = _
  exact (zrb (zs2 (zdr _ _ h))).trans rfl
theorem zo154 {c : ByteArray} {p : Nat} {b x y : UInt8} {r : List UInt8} (h : c.data.toList.drop p = b :: x :: y :: r) (hb : b.toNat = 154) : Reader.runAt (Decoder.instr p) c p = .ok (.ifCond .ne (Reader.signed 16 (x.toNat * 256 + y.toNat)), p + 3) := by
  refine (zrb (x := Reader.u1) (zu1 h)).trans ?_
  rw [hb]
  show Reader.runAt (Reader.s2 >>= fun v => pure (Instr.ifCond .ne v) : Decoder Instr) c (p + 1) = _
  exact (zrb (zs2 (zdr _ _ h))).trans rfl
theorem zo160 {c : ByteArray} {p : Nat} {b x y : UInt8} {r : List UInt8} (h : c.data.toList.drop p = b :: x :: y :: r) (hb : b.toNat = 160) : Reader.runAt (Decoder.instr p) c p = .ok (.if_icmp .ne (Reader.signed 16 (x.toNat * 256 + y.toNat)), p + 3) := by
  refine (zrb (x := Reader.u1) (zu1 h)).trans ?_
  rw [hb]
  show Reader.runAt (Reader.s2 >>= fun v => pure (Instr.if_icmp .ne v) : Decoder Instr) c (p + 1) = _
  exact (zrb (zs2 (zdr _ _ h))).trans rfl
theorem zo155 {c : ByteArray} {p : Nat} {b x y : UInt8} {r : List UInt8} (h : c.data.toList.drop p = b :: x :: y :: r) (hb : b.toNat = 155) : Reader.runAt (Decoder.instr p) c p = .ok (.ifCond .lt (Reader.signed 16 (x.toNat * 256 + y.toNat)), p + 3) := by
  refine (zrb (x := Reader.u1) (zu1 h)).trans ?_
  rw [hb]
  show Reader.runAt (Reader.s2 >>= fun v => pure (Instr.ifCond .lt v) : Decoder Instr) c (p + 1) = _
  exact (zrb (zs2 (zdr _ _ h))).trans rfl
theorem zo161 {c : ByteArray} {p : Nat} {b x y : UInt8} {r : List UInt8} (h : c.data.toList.drop p = b :: x :: y :: r) (hb : b.toNat = 161) : Reader.runAt (Decoder.instr p) c p = .ok (.if_icmp .lt (Reader.signed 16 (x.toNat * 256 + y.toNat)), p + 3) := by
  refine (zrb (x := Reader.u1) (zu1 h)).trans ?_
  rw [hb]
  show Reader.runAt (Reader.s2 >>= fun v => pure (Instr.if_icmp .lt v) : Decoder Instr) c (p + 1) = _
  exact (zrb (zs2 (zdr _ _ h))).trans rfl
theorem zo156 {c : ByteArray} {p : Nat} {b x y : UInt8} {r : List UInt8} (h : c.data.toList.drop p = b :: x :: y :: r) (hb : b.toNat = 156) : Reader.runAt (Decoder.instr p) c p = .ok (.ifCond .ge (Reader.signed 16 (x.toNat * 256 + y.toNat)), p + 3) := by
  refine (zrb (x := Reader.u1) (zu1 h)).trans ?_
  rw [hb]
  show Reader.runAt (Reader.s2 >>= fun v => pure (Instr.ifCond .ge v) : Decoder Instr) c (p + 1) = _
  exact (zrb (zs2 (zdr _ _ h))).trans rfl
theorem zo162 {c : ByteArray} {p : Nat} {b x y : UInt8} {r : List UInt8} (h : c.data.toList.drop p = b :: x :: y :: r) (hb : b.toNat = 162) : Reader.runAt (Decoder.instr p) c p = .ok (.if_icmp .ge (Reader.signed 16 (x.toNat * 256 + y.toNat)), p + 3) := by
  refine (zrb (x := Reader.u1) (zu1 h)).trans ?_
  rw [hb]
  show Reader.runAt (Reader.s2 >>= fun v => pure (Instr.if_icmp .ge v) : Decoder Instr) c (p + 1) = _
  exact (zrb (zs2 (zdr _ _ h))).trans rfl
theorem zo157 {c : ByteArray} {p : Nat} {b x y : UInt8} {r : List UInt8} (h : c.data.toList.drop p = b :: x :: y :: r) (hb : b.toNat = 157) : Reader.runAt (Decoder.instr p) c p = .ok (.ifCond .gt (Reader.signed 16 (x.toNat * 256 + y.toNat)), p + 3) := by
  refine (zrb (x := Reader.u1) (zu1 h)).trans ?_
  rw [hb]
  show Reader.runAt (Reader.s2 >>= fun v => pure (Instr.ifCond .gt v) : Decoder Instr) c (p + 1) = _
  exact (zrb (zs2 (zdr _ _ h))).trans rfl
theorem zo163 {c : ByteArray} {p : Nat} {b x y : UInt8} {r : List UInt8} (h : c.data.toList.drop p = b :: x :: y :: r) (hb : b.toNat = 163) : Reader.runAt (Decoder.instr p) c p = .ok (.if_icmp .gt (Reader.signed 16 (x.toNat * 256 + y.toNat)), p + 3) := by
  refine (zrb (x := Reader.u1) (zu1 h)).trans ?_
  rw [hb]
  show Reader.runAt (Reader.s2 >>= fun v => pure (Instr.if_icmp .gt v) : Decoder Instr) c (p + 1) = _
  exact (zrb (zs2 (zdr _ _ h))).trans rfl
theorem zo158 {c : ByteArray} {p : Nat} {b x y : UInt8} {r : List UInt8} (h : c.data.toList.drop p = b :: x :: y :: r) (hb : b.toNat = 158) : Reader.runAt (Decoder.instr p) c p = .ok (.ifCond .le (Reader.signed 16 (x.toNat * 256 + y.toNat)), p + 3) := by
  refine (zrb (x := Reader.u1) (zu1 h)).trans ?_
  rw [hb]
  show Reader.runAt (Reader.s2 >>= fun v => pure (Instr.ifCond .le v) : Decoder Instr) c (p + 1) = _
  exact (zrb (zs2 (zdr _ _ h))).trans rfl
theorem zo164 {c : ByteArray} {p : Nat} {b x y : UInt8} {r : List UInt8} (h : c.data.toList.drop p = b :: x :: y :: r) (hb : b.toNat = 164) : Reader.runAt (Decoder.instr p) c p = .ok (.if_icmp .le (Reader.signed 16 (x.toNat * 256 + y.toNat)), p + 3) := by
  refine (zrb (x := Reader.u1) (zu1 h)).trans ?_
  rw [hb]
  show Reader.runAt (Reader.s2 >>= fun v => pure (Instr.if_icmp .le v) : Decoder Instr) c (p + 1) = _
  exact (zrb (zs2 (zdr _ _ h))).trans rfl
theorem zo165 {c : ByteArray} {p : Nat} {b x y : UInt8} {r : List UInt8} (h : c.data.toList.drop p = b :: x :: y :: r) (hb : b.toNat = 165) : Reader.runAt (Decoder.instr p) c p = .ok (.if_acmp .eq (Reader.signed 16 (x.toNat * 256 + y.toNat)), p + 3) := by
  refine (zrb (x := Reader.u1) (zu1 h)).trans ?_
  rw [hb]
  show Reader.runAt (Reader.s2 >>= fun v => pure (Instr.if_acmp .eq v) : Decoder Instr) c (p + 1) = _
  exact (zrb (zs2 (zdr _ _ h))).trans rfl
theorem zo166 {c : ByteArray} {p : Nat} {b x y : UInt8} {r : List UInt8} (h : c.data.toList.drop p = b :: x :: y :: r) (hb : b.toNat = 166) : Reader.runAt (Decoder.instr p) c p = .ok (.if_acmp .ne (Reader.signed 16 (x.toNat * 256 + y.toNat)), p + 3) := by
  refine (zrb (x := Reader.u1) (zu1 h)).trans ?_
  rw [hb]
  show Reader.runAt (Reader.s2 >>= fun v => pure (Instr.if_acmp .ne v) : Decoder Instr) c (p + 1) = _
  exact (zrb (zs2 (zdr _ _ h))).trans rfl
theorem zo16 {c : ByteArray} {p : Nat} {b x : UInt8} {r : List UInt8} (h : c.data.toList.drop p = b :: x :: r) (hb : b.toNat = 16) : Reader.runAt (Decoder.instr p) c p = .ok (.bipush (Reader.signed 8 x.toNat), p + 2) := by
  refine (zrb (x := Reader.u1) (zu1 h)).trans ?_
  rw [hb]
  show Reader.runAt (Reader.s1 >>= fun v => pure (Instr.bipush v) : Decoder Instr) c (p + 1) = _
  exact (zrb (zs1 (zdr _ _ h))).trans rfl
theorem zo132 {c : ByteArray} {p : Nat} {b x y : UInt8} {r : List UInt8} (h : c.data.toList.drop p = b :: x :: y :: r) (hb : b.toNat = 132) : Reader.runAt (Decoder.instr p) c p = .ok (.iinc x.toNat (Reader.signed 8 y.toNat), p + 3) := by
  refine (zrb (x := Reader.u1) (zu1 h)).trans ?_
  rw [hb]
  show Reader.runAt (Reader.u1 >>= fun v => (Reader.s1 >>= fun w => pure (Instr.iinc v w)) : Decoder Instr) c (p + 1) = _
  exact (zrb (zu1 (zdr _ _ h))).trans ((zrb (zs1 (zdr _ _ (zdr _ _ h)))).trans rfl)
noncomputable def zm0 (o n : Nat) : List UInt8 → Bool
  | b :: _ => Nat.beq b.toNat o && Nat.beq n 1
  | [] => false
noncomputable def zm1 (o n v : Nat) : List UInt8 → Bool
  | b :: x :: _ => Nat.beq b.toNat o && (Nat.beq n 2 && Nat.beq x.toNat v)
  | _ => false
noncomputable def zm2 (o n v : Nat) : List UInt8 → Bool
  | b :: x :: y :: _ => Nat.beq b.toNat o && (Nat.beq n 3 && Nat.beq (x.toNat * 256 + y.toNat) v)
  | _ => false
noncomputable def zm3 (o n : Nat) (v : Int) : List UInt8 → Bool
  | b :: x :: _ => Nat.beq b.toNat o && (Nat.beq n 2 && decide (Reader.signed 8 x.toNat = v))
  | _ => false
noncomputable def zm4 (o n : Nat) (v : Int) : List UInt8 → Bool
  | b :: x :: y :: _ => Nat.beq b.toNat o && (Nat.beq n 3 && decide (Reader.signed 16 (x.toNat * 256 + y.toNat) = v))
  | _ => false
noncomputable def zm5 (n v : Nat) (w : Int) : List UInt8 → Bool
  | b :: x :: y :: _ => Nat.beq b.toNat 132 && (Nat.beq n 3 && (Nat.beq x.toNat v && decide (Reader.signed 8 y.toNat = w)))
  | _ => false
theorem zan {a b : Bool} (h : (a && b) = true) : a = true ∧ b = true := by
  cases a
  · exact absurd h Bool.false_ne_true
  · exact ⟨rfl, h⟩
theorem zk0 {o n : Nat} {i : Instr} {c : ByteArray} {p : Nat} (hop : ∀ {b : UInt8} {r : List UInt8}, c.data.toList.drop p = b :: r → b.toNat = o → Reader.runAt (Decoder.instr p) c p = .ok (i, p + 1)) (h : zm0 o n (c.data.toList.drop p) = true) : decode c p = .ok (i, n) := by
  generalize hl : c.data.toList.drop p = l at h
  match l, hl, h with
  | b :: r, hl, h =>
    obtain ⟨h1, h2⟩ := zan h
    rw [Nat.eq_of_beq_eq_true h2]
    exact zdk (hop hl (Nat.eq_of_beq_eq_true h1))
theorem zk1 {o n v : Nat} {i : Nat → Instr} {c : ByteArray} {p : Nat} (hop : ∀ {b x : UInt8} {r : List UInt8}, c.data.toList.drop p = b :: x :: r → b.toNat = o → Reader.runAt (Decoder.instr p) c p = .ok (i x.toNat, p + 2)) (h : zm1 o n v (c.data.toList.drop p) = true) : decode c p = .ok (i v, n) := by
  generalize hl : c.data.toList.drop p = l at h
  match l, hl, h with
  | b :: x :: r, hl, h =>
    obtain ⟨h1, h2⟩ := zan h
    obtain ⟨h2, h3⟩ := zan h2
    rw [Nat.eq_of_beq_eq_true h2, ← Nat.eq_of_beq_eq_true h3]
    exact zdk (hop hl (Nat.eq_of_beq_eq_true h1))
theorem zk2 {o n v : Nat} {i : Nat → Instr} {c : ByteArray} {p : Nat} (hop : ∀ {b x y : UInt8} {r : List UInt8}, c.data.toList.drop p = b :: x :: y :: r → b.toNat = o → Reader.runAt (Decoder.instr p) c p = .ok (i (x.toNat * 256 + y.toNat), p + 3)) (h : zm2 o n v (c.data.toList.drop p) = true) : decode c p = .ok (i v, n) := by
  generalize hl : c.data.toList.drop p = l at h
  match l, hl, h with
  | b :: x :: y :: r, hl, h =>
    obtain ⟨h1, h2⟩ := zan h
    obtain ⟨h2, h3⟩ := zan h2
    rw [Nat.eq_of_beq_eq_true h2, ← Nat.eq_of_beq_eq_true h3]
    exact zdk (hop hl (Nat.eq_of_beq_eq_true h1))
theorem zk3 {o n : Nat} {v : Int} {i : Int → Instr} {c : ByteArray} {p : Nat} (hop : ∀ {b x : UInt8} {r : List UInt8}, c.data.toList.drop p = b :: x :: r → b.toNat = o → Reader.runAt (Decoder.instr p) c p = .ok (i (Reader.signed 8 x.toNat), p + 2)) (h : zm3 o n v (c.data.toList.drop p) = true) : decode c p = .ok (i v, n) := by
  generalize hl : c.data.toList.drop p = l at h
  match l, hl, h with
  | b :: x :: r, hl, h =>
    obtain ⟨h1, h2⟩ := zan h
    obtain ⟨h2, h3⟩ := zan h2
    rw [Nat.eq_of_beq_eq_true h2, ← of_decide_eq_true h3]
    exact zdk (hop hl (Nat.eq_of_beq_eq_true h1))
theorem zk4 {o n : Nat} {v : Int} {i : Int → Instr} {c : ByteArray} {p : Nat} (hop : ∀ {b x y : UInt8} {r : List UInt8}, c.data.toList.drop p = b :: x :: y :: r → b.toNat = o → Reader.runAt (Decoder.instr p) c p = .ok (i (Reader.signed 16 (x.toNat * 256 + y.toNat)), p + 3)) (h : zm4 o n v (c.data.toList.drop p) = true) : decode c p = .ok (i v, n) := by
  generalize hl : c.data.toList.drop p = l at h
  match l, hl, h with
  | b :: x :: y :: r, hl, h =>
    obtain ⟨h1, h2⟩ := zan h
    obtain ⟨h2, h3⟩ := zan h2
    rw [Nat.eq_of_beq_eq_true h2, ← of_decide_eq_true h3]
    exact zdk (hop hl (Nat.eq_of_beq_eq_true h1))
theorem zk5 {n v : Nat} {w : Int} {c : ByteArray} {p : Nat} (h : zm5 n v w (c.data.toList.drop p) = true) : decode c p = .ok (.iinc v w, n) := by
  generalize hl : c.data.toList.drop p = l at h
  match l, hl, h with
  | b :: x :: y :: r, hl, h =>
    obtain ⟨h1, h2⟩ := zan h
    obtain ⟨h2, h3⟩ := zan h2
    obtain ⟨h3, h4⟩ := zan h3
    rw [Nat.eq_of_beq_eq_true h2, ← Nat.eq_of_beq_eq_true h3, ← of_decide_eq_true h4]
    exact zdk (zo132 hl (Nat.eq_of_beq_eq_true h1))
noncomputable def zcd : Jvm.ClassFile.Cond → Nat
  | .eq => 0
  | .ne => 1
  | .lt => 2
  | .ge => 3
  | .gt => 4
  | .le => 5
noncomputable def zca : Jvm.ClassFile.ACond → Nat
  | .eq => 0
  | .ne => 1
noncomputable def zM (i : Instr) (n : Nat) (l : List UInt8) : Bool := match i with
  | .iload_n k => zm0 (26 + k.val) n l
  | .lload_n k => zm0 (30 + k.val) n l
  | .aload_n k => zm0 (42 + k.val) n l
  | .istore_n k => zm0 (59 + k.val) n l
  | .lstore_n k => zm0 (63 + k.val) n l
  | .astore_n k => zm0 (75 + k.val) n l
  | .lconst k => zm0 (9 + k.val) n l
  | .iconst v => decide (-1 ≤ v ∧ v ≤ 5) && zm0 (v + 3).toNat n l
  | .iaload => zm0 46 n l
  | .laload => zm0 47 n l
  | .aaload => zm0 50 n l
  | .baload => zm0 51 n l
  | .caload => zm0 52 n l
  | .iastore => zm0 79 n l
  | .lastore => zm0 80 n l
  | .aastore => zm0 83 n l
  | .bastore => zm0 84 n l
  | .castore => zm0 85 n l
  | .pop => zm0 87 n l
  | .dup => zm0 89 n l
  | .dup2 => zm0 92 n l
  | .iadd => zm0 96 n l
  | .ladd => zm0 97 n l
  | .isub => zm0 100 n l
  | .lsub => zm0 101 n l
  | .imul => zm0 104 n l
  | .lmul => zm0 105 n l
  | .idiv => zm0 108 n l
  | .ldiv => zm0 109 n l
  | .irem => zm0 112 n l
  | .lrem => zm0 113 n l
  | .ineg => zm0 116 n l
  | .ishl => zm0 120 n l
  | .lshl => zm0 121 n l
  | .ishr => zm0 122 n l
  | .lshr => zm0 123 n l
  | .iushr => zm0 124 n l
  | .lushr => zm0 125 n l
  | .iand => zm0 126 n l
  | .land => zm0 127 n l
  | .ior => zm0 128 n l
  | .lor => zm0 129 n l
  | .ixor => zm0 130 n l
  | .lxor => zm0 131 n l
  | .i2l => zm0 133 n l
  | .l2i => zm0 136 n l
  | .i2c => zm0 146 n l
  | .lcmp => zm0 148 n l
  | .ireturn => zm0 172 n l
  | .lreturn => zm0 173 n l
  | .areturn => zm0 176 n l
  | .return_ => zm0 177 n l
  | .arraylength => zm0 190 n l
  | .athrow => zm0 191 n l
  | .ldc v => zm1 18 n v l
  | .iload v => zm1 21 n v l
  | .lload v => zm1 22 n v l
  | .aload v => zm1 25 n v l
  | .istore v => zm1 54 n v l
  | .lstore v => zm1 55 n v l
  | .astore v => zm1 58 n v l
  | .ldc_w v => zm2 19 n v l
  | .ldc2_w v => zm2 20 n v l
  | .getstatic v => zm2 178 n v l
  | .putstatic v => zm2 179 n v l
  | .getfield v => zm2 180 n v l
  | .putfield v => zm2 181 n v l
  | .invokevirtual v => zm2 182 n v l
  | .invokespecial v => zm2 183 n v l
  | .invokestatic v => zm2 184 n v l
  | .new v => zm2 187 n v l
  | .anewarray v => zm2 189 n v l
  | .checkcast v => zm2 192 n v l
  | .instanceof v => zm2 193 n v l
  | .bipush v => zm3 16 n v l
  | .goto v => zm4 167 n v l
  | .sipush v => zm4 17 n v l
  | .ifnull v => zm4 198 n v l
  | .ifnonnull v => zm4 199 n v l
  | .ifCond k v => zm4 (153 + zcd k) n v l
  | .if_icmp k v => zm4 (159 + zcd k) n v l
  | .if_acmp k v => zm4 (165 + zca k) n v l
  | .iinc v w => zm5 n v w l
  | _ => false
set_option maxRecDepth 20000 in
theorem zMk {c : ByteArray} {p n : Nat} (i : Instr) : zM i n (c.data.toList.drop p) = true → decode c p = .ok (i, n) := by
  cases i with
  | iload_n k =>
    intro h
    match k, h with
    | ⟨0, _⟩, h => exact zk0 zo26 h
    | ⟨1, _⟩, h => exact zk0 zo27 h
    | ⟨2, _⟩, h => exact zk0 zo28 h
    | ⟨3, _⟩, h => exact zk0 zo29 h
    | ⟨j + 4, hj⟩, _ => omega
  | lload_n k =>
    intro h
    match k, h with
    | ⟨0, _⟩, h => exact zk0 zo30 h
    | ⟨1, _⟩, h => exact zk0 zo31 h
    | ⟨2, _⟩, h => exact zk0 zo32 h
    | ⟨3, _⟩, h => exact zk0 zo33 h
    | ⟨j + 4, hj⟩, _ => omega
  | aload_n k =>
    intro h
    match k, h with
    | ⟨0, _⟩, h => exact zk0 zo42 h
    | ⟨1, _⟩, h => exact zk0 zo43 h
    | ⟨2, _⟩, h => exact zk0 zo44 h
    | ⟨3, _⟩, h => exact zk0 zo45 h
    | ⟨j + 4, hj⟩, _ => omega
  | istore_n k =>
    intro h
    match k, h with
    | ⟨0, _⟩, h => exact zk0 zo59 h
    | ⟨1, _⟩, h => exact zk0 zo60 h
    | ⟨2, _⟩, h => exact zk0 zo61 h
    | ⟨3, _⟩, h => exact zk0 zo62 h
    | ⟨j + 4, hj⟩, _ => omega
  | lstore_n k =>
    intro h
    match k, h with
    | ⟨0, _⟩, h => exact zk0 zo63 h
    | ⟨1, _⟩, h => exact zk0 zo64 h
    | ⟨2, _⟩, h => exact zk0 zo65 h
    | ⟨3, _⟩, h => exact zk0 zo66 h
    | ⟨j + 4, hj⟩, _ => omega
  | astore_n k =>
    intro h
    match k, h with
    | ⟨0, _⟩, h => exact zk0 zo75 h
    | ⟨1, _⟩, h => exact zk0 zo76 h
    | ⟨2, _⟩, h => exact zk0 zo77 h
    | ⟨3, _⟩, h => exact zk0 zo78 h
    | ⟨j + 4, hj⟩, _ => omega
  | lconst k =>
    intro h
    match k, h with
    | ⟨0, _⟩, h => exact zk0 zo9 h
    | ⟨1, _⟩, h => exact zk0 zo10 h
    | ⟨j + 2, hj⟩, _ => omega
  | iconst v =>
    intro h
    obtain ⟨h1, h2⟩ := zan h
    have h3 := of_decide_eq_true h1
    rcases (show v = -1 ∨ v = 0 ∨ v = 1 ∨ v = 2 ∨ v = 3 ∨ v = 4 ∨ v = 5 by omega) with rfl | rfl | rfl | rfl | rfl | rfl | rfl
    · exact zk0 zo2 h2
    · exact zk0 zo3 h2
    · exact zk0 zo4 h2
    · exact zk0 zo5 h2
    · exact zk0 zo6 h2
    · exact zk0 zo7 h2
    · exact zk0 zo8 h2
  | iaload => exact zk0 zo46
  | laload => exact zk0 zo47
  | aaload => exact zk0 zo50
  | baload => exact zk0 zo51
  | caload => exact zk0 zo52
  | iastore => exact zk0 zo79
  | lastore => exact zk0 zo80
  | aastore => exact zk0 zo83
  | bastore => exact zk0 zo84
  | castore => exact zk0 zo85
  | pop => exact zk0 zo87
  | dup => exact zk0 zo89
  | dup2 => exact zk0 zo92
  | iadd => exact zk0 zo96
  | ladd => exact zk0 zo97
  | isub => exact zk0 zo100
  | lsub => exact zk0 zo101
  | imul => exact zk0 zo104
  | lmul => exact zk0 zo105
  | idiv => exact zk0 zo108
  | ldiv => exact zk0 zo109
  | irem => exact zk0 zo112
  | lrem => exact zk0 zo113
  | ineg => exact zk0 zo116
  | ishl => exact zk0 zo120
  | lshl => exact zk0 zo121
  | ishr => exact zk0 zo122
  | lshr => exact zk0 zo123
  | iushr => exact zk0 zo124
  | lushr => exact zk0 zo125
  | iand => exact zk0 zo126
  | land => exact zk0 zo127
  | ior => exact zk0 zo128
  | lor => exact zk0 zo129
  | ixor => exact zk0 zo130
  | lxor => exact zk0 zo131
  | i2l => exact zk0 zo133
  | l2i => exact zk0 zo136
  | i2c => exact zk0 zo146
  | lcmp => exact zk0 zo148
  | ireturn => exact zk0 zo172
  | lreturn => exact zk0 zo173
  | areturn => exact zk0 zo176
  | return_ => exact zk0 zo177
  | arraylength => exact zk0 zo190
  | athrow => exact zk0 zo191
  | ldc v => exact zk1 (i := fun v => .ldc v) zo18
  | iload v => exact zk1 (i := fun v => .iload v) zo21
  | lload v => exact zk1 (i := fun v => .lload v) zo22
  | aload v => exact zk1 (i := fun v => .aload v) zo25
  | istore v => exact zk1 (i := fun v => .istore v) zo54
  | lstore v => exact zk1 (i := fun v => .lstore v) zo55
  | astore v => exact zk1 (i := fun v => .astore v) zo58
  | ldc_w v => exact zk2 (i := fun v => .ldc_w v) zo19
  | ldc2_w v => exact zk2 (i := fun v => .ldc2_w v) zo20
  | getstatic v => exact zk2 (i := fun v => .getstatic v) zo178
  | putstatic v => exact zk2 (i := fun v => .putstatic v) zo179
  | getfield v => exact zk2 (i := fun v => .getfield v) zo180
  | putfield v => exact zk2 (i := fun v => .putfield v) zo181
  | invokevirtual v => exact zk2 (i := fun v => .invokevirtual v) zo182
  | invokespecial v => exact zk2 (i := fun v => .invokespecial v) zo183
  | invokestatic v => exact zk2 (i := fun v => .invokestatic v) zo184
  | new v => exact zk2 (i := fun v => .new v) zo187
  | anewarray v => exact zk2 (i := fun v => .anewarray v) zo189
  | checkcast v => exact zk2 (i := fun v => .checkcast v) zo192
  | instanceof v => exact zk2 (i := fun v => .instanceof v) zo193
  | bipush v => exact zk3 (i := fun v => .bipush v) zo16
  | goto v => exact zk4 (i := fun v => .goto v) zo167
  | sipush v => exact zk4 (i := fun v => .sipush v) zo17
  | ifnull v => exact zk4 (i := fun v => .ifnull v) zo198
  | ifnonnull v => exact zk4 (i := fun v => .ifnonnull v) zo199
  | ifCond k v =>
    cases k with
    | eq => exact zk4 (i := fun v => .ifCond .eq v) zo153
    | ne => exact zk4 (i := fun v => .ifCond .ne v) zo154
    | lt => exact zk4 (i := fun v => .ifCond .lt v) zo155
    | ge => exact zk4 (i := fun v => .ifCond .ge v) zo156
    | gt => exact zk4 (i := fun v => .ifCond .gt v) zo157
    | le => exact zk4 (i := fun v => .ifCond .le v) zo158
  | if_icmp k v =>
    cases k with
    | eq => exact zk4 (i := fun v => .if_icmp .eq v) zo159
    | ne => exact zk4 (i := fun v => .if_icmp .ne v) zo160
    | lt => exact zk4 (i := fun v => .if_icmp .lt v) zo161
    | ge => exact zk4 (i := fun v => .if_icmp .ge v) zo162
    | gt => exact zk4 (i := fun v => .if_icmp .gt v) zo163
    | le => exact zk4 (i := fun v => .if_icmp .le v) zo164
  | if_acmp k v =>
    cases k with
    | eq => exact zk4 (i := fun v => .if_acmp .eq v) zo165
    | ne => exact zk4 (i := fun v => .if_acmp .ne v) zo166
  | iinc v w => exact zk5
  | _ => exact fun h => absurd h Bool.false_ne_true
noncomputable def zCk : List (Nat × Instr × Nat) → Nat → List UInt8 → Bool
  | [], _, _ => true
  | q :: r, p, l => Nat.beq q.1 p && (zM q.2.1 q.2.2 l && zCk r (p + q.2.2) (l.drop q.2.2))
noncomputable def zCj (c : ByteArray) : List (Nat × Instr × Nat) → Prop
  | [] => True
  | q :: r => decode c q.1 = .ok q.2 ∧ zCj c r
theorem zdd : ∀ (l : List UInt8) (p n : Nat), (l.drop p).drop n = l.drop (p + n)
  | [], p, n => by rw [List.drop_nil, List.drop_nil, List.drop_nil]
  | _ :: _, 0, n => by rw [Nat.zero_add]; rfl
  | a :: l, p + 1, n => by rw [Nat.add_right_comm]; exact zdd l p n
theorem zCo {c : ByteArray} : ∀ (L : List (Nat × Instr × Nat)) (p : Nat), zCk L p (c.data.toList.drop p) = true → zCj c L
  | [], _, _ => trivial
  | q :: r, p, h => by
    obtain ⟨h1, h2⟩ := zan h
    obtain ⟨h2, h3⟩ := zan h2
    have e := Nat.eq_of_beq_eq_true h1
    rw [zdd] at h3
    exact ⟨by rw [e]; exact zMk _ h2, zCo r _ h3⟩
theorem zc1 {c : ByteArray} {p n : Nat} {i : Instr} {r : List (Nat × Instr × Nat)} (h : zCj c ((p, i, n) :: r)) : decode c p = .ok (i, n) := h.1
theorem zc2 {c : ByteArray} {q : Nat × Instr × Nat} {r : List (Nat × Instr × Nat)} (h : zCj c (q :: r)) : zCj c r := h.2
theorem zg03_0_0 : zCj cX0_init [(0, .aload_n 0, 1), (1, .invokespecial 3, 3), (4, .aload_n 0, 1), (5, .aload_n 1, 1), (6, .putfield 9, 3), (9, .return_, 1)] := zCo _ 0 (by decide +kernel)
theorem dX0_init_0 : decode cX0_init 0 = .ok (.aload_n 0, 1) := zc1 zg03_0_0
theorem dX0_init_1 : decode cX0_init 1 = .ok (.invokespecial 3, 3) := zc1 (zc2 zg03_0_0)
theorem dX0_init_4 : decode cX0_init 4 = .ok (.aload_n 0, 1) := zc1 (zc2 (zc2 zg03_0_0))
theorem dX0_init_5 : decode cX0_init 5 = .ok (.aload_n 1, 1) := zc1 (zc2 (zc2 (zc2 zg03_0_0)))
theorem dX0_init_6 : decode cX0_init 6 = .ok (.putfield 9, 3) := zc1 (zc2 (zc2 (zc2 (zc2 zg03_0_0))))
theorem dX0_init_9 : decode cX0_init 9 = .ok (.return_, 1) := zc1 (zc2 (zc2 (zc2 (zc2 (zc2 zg03_0_0)))))
theorem zg03_0_1 : zCj cX1_init [(0, .aload_n 0, 1), (1, .invokespecial 3, 3), (4, .aload_n 0, 1), (5, .bipush 40, 2)] := zCo _ 0 (by decide +kernel)
theorem dX1_init_0 : decode cX1_init 0 = .ok (.aload_n 0, 1) := zc1 zg03_0_1
theorem dX1_init_1 : decode cX1_init 1 = .ok (.invokespecial 3, 3) := zc1 (zc2 zg03_0_1)
theorem dX1_init_4 : decode cX1_init 4 = .ok (.aload_n 0, 1) := zc1 (zc2 (zc2 zg03_0_1))
theorem dX1_init_5 : decode cX1_init 5 = .ok (.bipush 40, 2) := zc1 (zc2 (zc2 (zc2 zg03_0_1)))
theorem dX1_init_7 : decode cX1_init 7 = .ok (.newarray .int, 2) := by decide +kernel
theorem zg03_0_2 : zCj cX1_init [(9, .putfield 9, 3), (12, .aload_n 0, 1), (13, .bipush 40, 2)] := zCo _ 9 (by decide +kernel)
theorem dX1_init_9 : decode cX1_init 9 = .ok (.putfield 9, 3) := zc1 zg03_0_2
theorem dX1_init_12 : decode cX1_init 12 = .ok (.aload_n 0, 1) := zc1 (zc2 zg03_0_2)
theorem dX1_init_13 : decode cX1_init 13 = .ok (.bipush 40, 2) := zc1 (zc2 (zc2 zg03_0_2))
theorem dX1_init_15 : decode cX1_init 15 = .ok (.newarray .int, 2) := by decide +kernel
theorem zg03_0_3 : zCj cX1_init [(17, .putfield 15, 3), (20, .aload_n 0, 1), (21, .bipush 40, 2)] := zCo _ 17 (by decide +kernel)
theorem dX1_init_17 : decode cX1_init 17 = .ok (.putfield 15, 3) := zc1 zg03_0_3
theorem dX1_init_20 : decode cX1_init 20 = .ok (.aload_n 0, 1) := zc1 (zc2 zg03_0_3)
theorem dX1_init_21 : decode cX1_init 21 = .ok (.bipush 40, 2) := zc1 (zc2 (zc2 zg03_0_3))
theorem dX1_init_23 : decode cX1_init 23 = .ok (.newarray .int, 2) := by decide +kernel
theorem zg03_0_4 : zCj cX1_init [(25, .putfield 18, 3), (28, .aload_n 0, 1), (29, .iconst 0, 1), (30, .putfield 21, 3), (33, .return_, 1)] := zCo _ 25 (by decide +kernel)
theorem dX1_init_25 : decode cX1_init 25 = .ok (.putfield 18, 3) := zc1 zg03_0_4
theorem dX1_init_28 : decode cX1_init 28 = .ok (.aload_n 0, 1) := zc1 (zc2 zg03_0_4)
theorem dX1_init_29 : decode cX1_init 29 = .ok (.iconst 0, 1) := zc1 (zc2 (zc2 zg03_0_4))
theorem dX1_init_30 : decode cX1_init 30 = .ok (.putfield 21, 3) := zc1 (zc2 (zc2 (zc2 zg03_0_4)))
theorem dX1_init_33 : decode cX1_init 33 = .ok (.return_, 1) := zc1 (zc2 (zc2 (zc2 (zc2 zg03_0_4))))
set_option maxRecDepth 20000 in
theorem ggX2_init_X4_init : GoodIn wsX2_init wsX4_init := goodIn_r _ [23, 24, 2, 3, 4, 25, 26, 27, 49, 50, 51] (by decide +kernel) (by decide +kernel)
set_option maxRecDepth 20000 in
theorem gX2_init_X4_init_n39 : GoodIn wsX2_init (wsX4_init) := ggX2_init_X4_init
set_option maxRecDepth 20000 in
theorem ggX2_init_X4_beAsUntold : GoodIn wsX2_init wsX4_beAsUntold := goodIn_r _ [31, 27, 32, 33, 34, 16, 35, 25, 49, 50, 51] (by decide +kernel) (by decide +kernel)
set_option maxRecDepth 20000 in
theorem gX2_init_X4_beAsUntold : GoodIn wsX2_init (wsV RX2 57 RX4 yX4_beAsUntold wsX4_beAsUntold) := goodIn_app (goodIn_of _ (by decide +kernel)) ggX2_init_X4_beAsUntold
theorem zg03_0_5 : zCj cX2_init [(0, .aload_n 0, 1), (1, .invokespecial 3, 3), (4, .aload_n 0, 1), (5, .bipush 6, 2)] := zCo _ 0 (by decide +kernel)
theorem dX2_init_0 : decode cX2_init 0 = .ok (.aload_n 0, 1) := zc1 zg03_0_5
theorem dX2_init_1 : decode cX2_init 1 = .ok (.invokespecial 3, 3) := zc1 (zc2 zg03_0_5)
theorem dX2_init_4 : decode cX2_init 4 = .ok (.aload_n 0, 1) := zc1 (zc2 (zc2 zg03_0_5))
theorem dX2_init_5 : decode cX2_init 5 = .ok (.bipush 6, 2) := zc1 (zc2 (zc2 (zc2 zg03_0_5)))
theorem dX2_init_7 : decode cX2_init 7 = .ok (.newarray .int, 2) := by decide +kernel
theorem zg03_0_6 : zCj cX2_init [(9, .putfield 9, 3), (12, .aload_n 0, 1), (13, .bipush 6, 2)] := zCo _ 9 (by decide +kernel)
theorem dX2_init_9 : decode cX2_init 9 = .ok (.putfield 9, 3) := zc1 zg03_0_6
theorem dX2_init_12 : decode cX2_init 12 = .ok (.aload_n 0, 1) := zc1 (zc2 zg03_0_6)
theorem dX2_init_13 : decode cX2_init 13 = .ok (.bipush 6, 2) := zc1 (zc2 (zc2 zg03_0_6))
theorem dX2_init_15 : decode cX2_init 15 = .ok (.newarray .int, 2) := by decide +kernel
theorem zg03_0_7 : zCj cX2_init [(17, .putfield 15, 3), (20, .aload_n 0, 1), (21, .bipush 6, 2)] := zCo _ 17 (by decide +kernel)
theorem dX2_init_17 : decode cX2_init 17 = .ok (.putfield 15, 3) := zc1 zg03_0_7
theorem dX2_init_20 : decode cX2_init 20 = .ok (.aload_n 0, 1) := zc1 (zc2 zg03_0_7)
theorem dX2_init_21 : decode cX2_init 21 = .ok (.bipush 6, 2) := zc1 (zc2 (zc2 zg03_0_7))
theorem dX2_init_23 : decode cX2_init 23 = .ok (.newarray .long, 2) := by decide +kernel
theorem zg03_0_8 : zCj cX2_init [(25, .putfield 18, 3), (28, .aload_n 0, 1), (29, .bipush 6, 2)] := zCo _ 25 (by decide +kernel)
theorem dX2_init_25 : decode cX2_init 25 = .ok (.putfield 18, 3) := zc1 zg03_0_8
theorem dX2_init_28 : decode cX2_init 28 = .ok (.aload_n 0, 1) := zc1 (zc2 zg03_0_8)
theorem dX2_init_29 : decode cX2_init 29 = .ok (.bipush 6, 2) := zc1 (zc2 (zc2 zg03_0_8))
theorem dX2_init_31 : decode cX2_init 31 = .ok (.newarray .int, 2) := by decide +kernel
theorem zg03_0_9 : zCj cX2_init [(33, .putfield 22, 3), (36, .aload_n 0, 1), (37, .bipush 6, 2)] := zCo _ 33 (by decide +kernel)
theorem dX2_init_33 : decode cX2_init 33 = .ok (.putfield 22, 3) := zc1 zg03_0_9
theorem dX2_init_36 : decode cX2_init 36 = .ok (.aload_n 0, 1) := zc1 (zc2 zg03_0_9)
theorem dX2_init_37 : decode cX2_init 37 = .ok (.bipush 6, 2) := zc1 (zc2 (zc2 zg03_0_9))
theorem dX2_init_39 : decode cX2_init 39 = .ok (.newarray .int, 2) := by decide +kernel
theorem zg03_0_10 : zCj cX2_init [(41, .putfield 25, 3), (44, .aload_n 0, 1), (45, .bipush 6, 2)] := zCo _ 41 (by decide +kernel)
theorem dX2_init_41 : decode cX2_init 41 = .ok (.putfield 25, 3) := zc1 zg03_0_10
theorem dX2_init_44 : decode cX2_init 44 = .ok (.aload_n 0, 1) := zc1 (zc2 zg03_0_10)
theorem dX2_init_45 : decode cX2_init 45 = .ok (.bipush 6, 2) := zc1 (zc2 (zc2 zg03_0_10))
theorem dX2_init_47 : decode cX2_init 47 = .ok (.newarray .int, 2) := by decide +kernel
theorem zg03_0_11 : zCj cX2_init [(49, .putfield 28, 3), (52, .aload_n 0, 1), (53, .bipush 6, 2)] := zCo _ 49 (by decide +kernel)
theorem dX2_init_49 : decode cX2_init 49 = .ok (.putfield 28, 3) := zc1 zg03_0_11
theorem dX2_init_52 : decode cX2_init 52 = .ok (.aload_n 0, 1) := zc1 (zc2 zg03_0_11)
theorem dX2_init_53 : decode cX2_init 53 = .ok (.bipush 6, 2) := zc1 (zc2 (zc2 zg03_0_11))
theorem dX2_init_55 : decode cX2_init 55 = .ok (.newarray .int, 2) := by decide +kernel
theorem zg03_0_12 : zCj cX2_init [(57, .putfield 31, 3), (60, .aload_n 0, 1), (61, .bipush 6, 2)] := zCo _ 57 (by decide +kernel)
theorem dX2_init_57 : decode cX2_init 57 = .ok (.putfield 31, 3) := zc1 zg03_0_12
theorem dX2_init_60 : decode cX2_init 60 = .ok (.aload_n 0, 1) := zc1 (zc2 zg03_0_12)
theorem dX2_init_61 : decode cX2_init 61 = .ok (.bipush 6, 2) := zc1 (zc2 (zc2 zg03_0_12))
theorem dX2_init_63 : decode cX2_init 63 = .ok (.newarray .long, 2) := by decide +kernel
theorem zg03_0_13 : zCj cX2_init [(65, .putfield 34, 3), (68, .aload_n 0, 1), (69, .new 37, 3), (72, .dup, 1), (73, .invokespecial 39, 3), (76, .putfield 40, 3), (79, .aload_n 0, 1), (80, .iconst 0, 1), (81, .putfield 44, 3), (84, .aload_n 0, 1)] := zCo _ 65 (by decide +kernel)
theorem dX2_init_65 : decode cX2_init 65 = .ok (.putfield 34, 3) := zc1 zg03_0_13
theorem dX2_init_68 : decode cX2_init 68 = .ok (.aload_n 0, 1) := zc1 (zc2 zg03_0_13)
theorem dX2_init_69 : decode cX2_init 69 = .ok (.new 37, 3) := zc1 (zc2 (zc2 zg03_0_13))
theorem dX2_init_72 : decode cX2_init 72 = .ok (.dup, 1) := zc1 (zc2 (zc2 (zc2 zg03_0_13)))
theorem dX2_init_73 : decode cX2_init 73 = .ok (.invokespecial 39, 3) := zc1 (zc2 (zc2 (zc2 (zc2 zg03_0_13))))
theorem dX2_init_76 : decode cX2_init 76 = .ok (.putfield 40, 3) := zc1 (zc2 (zc2 (zc2 (zc2 (zc2 zg03_0_13)))))
theorem dX2_init_79 : decode cX2_init 79 = .ok (.aload_n 0, 1) := zc1 (zc2 (zc2 (zc2 (zc2 (zc2 (zc2 zg03_0_13))))))
theorem dX2_init_80 : decode cX2_init 80 = .ok (.iconst 0, 1) := zc1 (zc2 (zc2 (zc2 (zc2 (zc2 (zc2 (zc2 zg03_0_13)))))))
theorem dX2_init_81 : decode cX2_init 81 = .ok (.putfield 44, 3) := zc1 (zc2 (zc2 (zc2 (zc2 (zc2 (zc2 (zc2 (zc2 zg03_0_13))))))))
theorem dX2_init_84 : decode cX2_init 84 = .ok (.aload_n 0, 1) := zc1 (zc2 (zc2 (zc2 (zc2 (zc2 (zc2 (zc2 (zc2 (zc2 zg03_0_13)))))))))
theorem zg03_0_14 : zCj cX2_init [(85, .iconst 0, 1), (86, .putfield 48, 3), (89, .aload_n 0, 1), (90, .iconst 1, 1), (91, .putfield 51, 3), (94, .aload_n 0, 1), (95, .iconst 2, 1), (96, .putfield 54, 3), (99, .aload_n 0, 1), (100, .getfield 40, 3)] := zCo _ 85 (by decide +kernel)
theorem dX2_init_85 : decode cX2_init 85 = .ok (.iconst 0, 1) := zc1 zg03_0_14
theorem dX2_init_86 : decode cX2_init 86 = .ok (.putfield 48, 3) := zc1 (zc2 zg03_0_14)
theorem dX2_init_89 : decode cX2_init 89 = .ok (.aload_n 0, 1) := zc1 (zc2 (zc2 zg03_0_14))
theorem dX2_init_90 : decode cX2_init 90 = .ok (.iconst 1, 1) := zc1 (zc2 (zc2 (zc2 zg03_0_14)))
theorem dX2_init_91 : decode cX2_init 91 = .ok (.putfield 51, 3) := zc1 (zc2 (zc2 (zc2 (zc2 zg03_0_14))))
theorem dX2_init_94 : decode cX2_init 94 = .ok (.aload_n 0, 1) := zc1 (zc2 (zc2 (zc2 (zc2 (zc2 zg03_0_14)))))
theorem dX2_init_95 : decode cX2_init 95 = .ok (.iconst 2, 1) := zc1 (zc2 (zc2 (zc2 (zc2 (zc2 (zc2 zg03_0_14))))))
theorem dX2_init_96 : decode cX2_init 96 = .ok (.putfield 54, 3) := zc1 (zc2 (zc2 (zc2 (zc2 (zc2 (zc2 (zc2 zg03_0_14)))))))
theorem dX2_init_99 : decode cX2_init 99 = .ok (.aload_n 0, 1) := zc1 (zc2 (zc2 (zc2 (zc2 (zc2 (zc2 (zc2 (zc2 zg03_0_14))))))))
theorem dX2_init_100 : decode cX2_init 100 = .ok (.getfield 40, 3) := zc1 (zc2 (zc2 (zc2 (zc2 (zc2 (zc2 (zc2 (zc2 (zc2 zg03_0_14)))))))))
theorem zg03_0_15 : zCj cX2_init [(103, .invokevirtual 57, 3), (106, .return_, 1)] := zCo _ 103 (by decide +kernel)
theorem dX2_init_103 : decode cX2_init 103 = .ok (.invokevirtual 57, 3) := zc1 zg03_0_15
theorem dX2_init_106 : decode cX2_init 106 = .ok (.return_, 1) := zc1 (zc2 zg03_0_15)
theorem zg03_0_16 : zCj cX3_init [(0, .aload_n 0, 1), (1, .invokespecial 3, 3), (4, .aload_n 0, 1), (5, .iconst 0, 1), (6, .putfield 9, 3), (9, .aload_n 0, 1), (10, .iconst 0, 1), (11, .putfield 15, 3), (14, .aload_n 0, 1), (15, .iconst 0, 1)] := zCo _ 0 (by decide +kernel)
theorem dX3_init_0 : decode cX3_init 0 = .ok (.aload_n 0, 1) := zc1 zg03_0_16
theorem dX3_init_1 : decode cX3_init 1 = .ok (.invokespecial 3, 3) := zc1 (zc2 zg03_0_16)
theorem dX3_init_4 : decode cX3_init 4 = .ok (.aload_n 0, 1) := zc1 (zc2 (zc2 zg03_0_16))
theorem dX3_init_5 : decode cX3_init 5 = .ok (.iconst 0, 1) := zc1 (zc2 (zc2 (zc2 zg03_0_16)))
theorem dX3_init_6 : decode cX3_init 6 = .ok (.putfield 9, 3) := zc1 (zc2 (zc2 (zc2 (zc2 zg03_0_16))))
theorem dX3_init_9 : decode cX3_init 9 = .ok (.aload_n 0, 1) := zc1 (zc2 (zc2 (zc2 (zc2 (zc2 zg03_0_16)))))
theorem dX3_init_10 : decode cX3_init 10 = .ok (.iconst 0, 1) := zc1 (zc2 (zc2 (zc2 (zc2 (zc2 (zc2 zg03_0_16))))))
theorem dX3_init_11 : decode cX3_init 11 = .ok (.putfield 15, 3) := zc1 (zc2 (zc2 (zc2 (zc2 (zc2 (zc2 (zc2 zg03_0_16)))))))
theorem dX3_init_14 : decode cX3_init 14 = .ok (.aload_n 0, 1) := zc1 (zc2 (zc2 (zc2 (zc2 (zc2 (zc2 (zc2 (zc2 zg03_0_16))))))))
theorem dX3_init_15 : decode cX3_init 15 = .ok (.iconst 0, 1) := zc1 (zc2 (zc2 (zc2 (zc2 (zc2 (zc2 (zc2 (zc2 (zc2 zg03_0_16)))))))))
theorem zg03_0_17 : zCj cX3_init [(16, .putfield 18, 3), (19, .return_, 1)] := zCo _ 16 (by decide +kernel)
theorem dX3_init_16 : decode cX3_init 16 = .ok (.putfield 18, 3) := zc1 zg03_0_17
theorem dX3_init_19 : decode cX3_init 19 = .ok (.return_, 1) := zc1 (zc2 zg03_0_17)
theorem zg03_0_18 : zCj cX4_init [(0, .aload_n 0, 1), (1, .invokespecial 3, 3), (4, .aload_n 0, 1), (5, .sipush 1000, 3)] := zCo _ 0 (by decide +kernel)
theorem dX4_init_0 : decode cX4_init 0 = .ok (.aload_n 0, 1) := zc1 zg03_0_18
theorem dX4_init_1 : decode cX4_init 1 = .ok (.invokespecial 3, 3) := zc1 (zc2 zg03_0_18)
theorem dX4_init_4 : decode cX4_init 4 = .ok (.aload_n 0, 1) := zc1 (zc2 (zc2 zg03_0_18))
theorem dX4_init_5 : decode cX4_init 5 = .ok (.sipush 1000, 3) := zc1 (zc2 (zc2 (zc2 zg03_0_18)))
theorem dX4_init_8 : decode cX4_init 8 = .ok (.newarray .int, 2) := by decide +kernel
theorem zg03_0_19 : zCj cX4_init [(10, .putfield 9, 3), (13, .aload_n 0, 1), (14, .bipush 32, 2)] := zCo _ 10 (by decide +kernel)
theorem dX4_init_10 : decode cX4_init 10 = .ok (.putfield 9, 3) := zc1 zg03_0_19
theorem dX4_init_13 : decode cX4_init 13 = .ok (.aload_n 0, 1) := zc1 (zc2 zg03_0_19)
theorem dX4_init_14 : decode cX4_init 14 = .ok (.bipush 32, 2) := zc1 (zc2 (zc2 zg03_0_19))
theorem dX4_init_16 : decode cX4_init 16 = .ok (.newarray .int, 2) := by decide +kernel
theorem zg03_0_20 : zCj cX4_init [(18, .putfield 15, 3), (21, .aload_n 0, 1), (22, .iconst 0, 1), (23, .putfield 18, 3), (26, .return_, 1)] := zCo _ 18 (by decide +kernel)
theorem dX4_init_18 : decode cX4_init 18 = .ok (.putfield 15, 3) := zc1 zg03_0_20
theorem dX4_init_21 : decode cX4_init 21 = .ok (.aload_n 0, 1) := zc1 (zc2 zg03_0_20)
theorem dX4_init_22 : decode cX4_init 22 = .ok (.iconst 0, 1) := zc1 (zc2 (zc2 zg03_0_20))
theorem dX4_init_23 : decode cX4_init 23 = .ok (.putfield 18, 3) := zc1 (zc2 (zc2 (zc2 zg03_0_20)))
theorem dX4_init_26 : decode cX4_init 26 = .ok (.return_, 1) := zc1 (zc2 (zc2 (zc2 (zc2 zg03_0_20))))
set_option maxRecDepth 20000 in
theorem ggX4_beAsUntold_X4_add : GoodIn wsX4_beAsUntold wsX4_add := goodIn_r _ [6, 1, 7, 8, 9, 10] (by decide +kernel) (by decide +kernel)
set_option maxRecDepth 20000 in
theorem gX4_beAsUntold_X4_add : GoodIn wsX4_beAsUntold (wsV RX4 22 RX4 yX4_add wsX4_add) := goodIn_app (goodIn_of _ (by decide +kernel)) ggX4_beAsUntold_X4_add
theorem zg03_0_21 : zCj cX4_beAsUntold [(0, .aload_n 0, 1), (1, .iconst 0, 1), (2, .putfield 18, 3), (5, .aload_n 0, 1), (6, .iconst (-1), 1), (7, .invokevirtual 22, 3), (10, .aload_n 0, 1), (11, .bipush (-3), 2), (13, .invokevirtual 22, 3), (16, .aload_n 0, 1)] := zCo _ 0 (by decide +kernel)
theorem dX4_beAsUntold_0 : decode cX4_beAsUntold 0 = .ok (.aload_n 0, 1) := zc1 zg03_0_21
theorem dX4_beAsUntold_1 : decode cX4_beAsUntold 1 = .ok (.iconst 0, 1) := zc1 (zc2 zg03_0_21)
theorem dX4_beAsUntold_2 : decode cX4_beAsUntold 2 = .ok (.putfield 18, 3) := zc1 (zc2 (zc2 zg03_0_21))
theorem dX4_beAsUntold_5 : decode cX4_beAsUntold 5 = .ok (.aload_n 0, 1) := zc1 (zc2 (zc2 (zc2 zg03_0_21)))
theorem dX4_beAsUntold_6 : decode cX4_beAsUntold 6 = .ok (.iconst (-1), 1) := zc1 (zc2 (zc2 (zc2 (zc2 zg03_0_21))))
theorem dX4_beAsUntold_7 : decode cX4_beAsUntold 7 = .ok (.invokevirtual 22, 3) := zc1 (zc2 (zc2 (zc2 (zc2 (zc2 zg03_0_21)))))
theorem dX4_beAsUntold_10 : decode cX4_beAsUntold 10 = .ok (.aload_n 0, 1) := zc1 (zc2 (zc2 (zc2 (zc2 (zc2 (zc2 zg03_0_21))))))
theorem dX4_beAsUntold_11 : decode cX4_beAsUntold 11 = .ok (.bipush (-3), 2) := zc1 (zc2 (zc2 (zc2 (zc2 (zc2 (zc2 (zc2 zg03_0_21)))))))
theorem dX4_beAsUntold_13 : decode cX4_beAsUntold 13 = .ok (.invokevirtual 22, 3) := zc1 (zc2 (zc2 (zc2 (zc2 (zc2 (zc2 (zc2 (zc2 zg03_0_21))))))))
theorem dX4_beAsUntold_16 : decode cX4_beAsUntold 16 = .ok (.aload_n 0, 1) := zc1 (zc2 (zc2 (zc2 (zc2 (zc2 (zc2 (zc2 (zc2 (zc2 zg03_0_21)))))))))
theorem zg03_0_22 : zCj cX4_beAsUntold [(17, .bipush (-8), 2), (19, .invokevirtual 22, 3), (22, .aload_n 0, 1), (23, .bipush (-5), 2), (25, .invokevirtual 22, 3), (28, .return_, 1)] := zCo _ 17 (by decide +kernel)
theorem dX4_beAsUntold_17 : decode cX4_beAsUntold 17 = .ok (.bipush (-8), 2) := zc1 zg03_0_22
theorem dX4_beAsUntold_19 : decode cX4_beAsUntold 19 = .ok (.invokevirtual 22, 3) := zc1 (zc2 zg03_0_22)
theorem dX4_beAsUntold_22 : decode cX4_beAsUntold 22 = .ok (.aload_n 0, 1) := zc1 (zc2 (zc2 zg03_0_22))
theorem dX4_beAsUntold_23 : decode cX4_beAsUntold 23 = .ok (.bipush (-5), 2) := zc1 (zc2 (zc2 (zc2 zg03_0_22)))
theorem dX4_beAsUntold_25 : decode cX4_beAsUntold 25 = .ok (.invokevirtual 22, 3) := zc1 (zc2 (zc2 (zc2 (zc2 zg03_0_22))))
theorem dX4_beAsUntold_28 : decode cX4_beAsUntold 28 = .ok (.return_, 1) := zc1 (zc2 (zc2 (zc2 (zc2 (zc2 zg03_0_22)))))
theorem zg03_0_23 : zCj cX4_add [(0, .aload_n 0, 1), (1, .getfield 18, 3), (4, .aload_n 0, 1), (5, .getfield 9, 3), (8, .arraylength, 1), (9, .if_icmp .ge 23, 3), (12, .aload_n 0, 1), (13, .getfield 9, 3), (16, .aload_n 0, 1), (17, .getfield 18, 3)] := zCo _ 0 (by decide +kernel)
theorem dX4_add_0 : decode cX4_add 0 = .ok (.aload_n 0, 1) := zc1 zg03_0_23
theorem dX4_add_1 : decode cX4_add 1 = .ok (.getfield 18, 3) := zc1 (zc2 zg03_0_23)
theorem dX4_add_4 : decode cX4_add 4 = .ok (.aload_n 0, 1) := zc1 (zc2 (zc2 zg03_0_23))
theorem dX4_add_5 : decode cX4_add 5 = .ok (.getfield 9, 3) := zc1 (zc2 (zc2 (zc2 zg03_0_23)))
theorem dX4_add_8 : decode cX4_add 8 = .ok (.arraylength, 1) := zc1 (zc2 (zc2 (zc2 (zc2 zg03_0_23))))
theorem dX4_add_9 : decode cX4_add 9 = .ok (.if_icmp .ge 23, 3) := zc1 (zc2 (zc2 (zc2 (zc2 (zc2 zg03_0_23)))))
theorem dX4_add_12 : decode cX4_add 12 = .ok (.aload_n 0, 1) := zc1 (zc2 (zc2 (zc2 (zc2 (zc2 (zc2 zg03_0_23))))))
theorem dX4_add_13 : decode cX4_add 13 = .ok (.getfield 9, 3) := zc1 (zc2 (zc2 (zc2 (zc2 (zc2 (zc2 (zc2 zg03_0_23)))))))
theorem dX4_add_16 : decode cX4_add 16 = .ok (.aload_n 0, 1) := zc1 (zc2 (zc2 (zc2 (zc2 (zc2 (zc2 (zc2 (zc2 zg03_0_23))))))))
theorem dX4_add_17 : decode cX4_add 17 = .ok (.getfield 18, 3) := zc1 (zc2 (zc2 (zc2 (zc2 (zc2 (zc2 (zc2 (zc2 (zc2 zg03_0_23)))))))))
theorem zg03_0_24 : zCj cX4_add [(20, .iload_n 1, 1), (21, .iastore, 1), (22, .aload_n 0, 1), (23, .dup, 1), (24, .getfield 18, 3), (27, .iconst 1, 1), (28, .iadd, 1), (29, .putfield 18, 3), (32, .return_, 1)] := zCo _ 20 (by decide +kernel)
theorem dX4_add_20 : decode cX4_add 20 = .ok (.iload_n 1, 1) := zc1 zg03_0_24
theorem dX4_add_21 : decode cX4_add 21 = .ok (.iastore, 1) := zc1 (zc2 zg03_0_24)
theorem dX4_add_22 : decode cX4_add 22 = .ok (.aload_n 0, 1) := zc1 (zc2 (zc2 zg03_0_24))
theorem dX4_add_23 : decode cX4_add 23 = .ok (.dup, 1) := zc1 (zc2 (zc2 (zc2 zg03_0_24)))
theorem dX4_add_24 : decode cX4_add 24 = .ok (.getfield 18, 3) := zc1 (zc2 (zc2 (zc2 (zc2 zg03_0_24))))
theorem dX4_add_27 : decode cX4_add 27 = .ok (.iconst 1, 1) := zc1 (zc2 (zc2 (zc2 (zc2 (zc2 zg03_0_24)))))
theorem dX4_add_28 : decode cX4_add 28 = .ok (.iadd, 1) := zc1 (zc2 (zc2 (zc2 (zc2 (zc2 (zc2 zg03_0_24))))))
theorem dX4_add_29 : decode cX4_add 29 = .ok (.putfield 18, 3) := zc1 (zc2 (zc2 (zc2 (zc2 (zc2 (zc2 (zc2 zg03_0_24)))))))
theorem dX4_add_32 : decode cX4_add 32 = .ok (.return_, 1) := zc1 (zc2 (zc2 (zc2 (zc2 (zc2 (zc2 (zc2 (zc2 zg03_0_24))))))))
set_option maxRecDepth 20000 in
theorem ggX5_init_X8_init : GoodIn wsX5_init wsX8_init := goodIn_r _ [18, 19, 2, 3, 20, 21, 22, 23, 24, 25, 26, 40, 41, 42, 43, 44, 45] (by decide +kernel) (by decide +kernel)
set_option maxRecDepth 20000 in
theorem gX5_init_X8_init_n9 : GoodIn wsX5_init (wsX8_init) := ggX5_init_X8_init
set_option maxRecDepth 20000 in
theorem ggX5_init_X1_init : GoodIn wsX5_init wsX1_init := goodIn_r _ [28, 29, 2, 3, 20, 30, 31, 32, 33, 50, 51, 52, 53] (by decide +kernel) (by decide +kernel)
set_option maxRecDepth 20000 in
theorem gX5_init_X1_init_n18 : GoodIn wsX5_init (wsX1_init) := ggX5_init_X1_init
set_option maxRecDepth 20000 in
theorem ggX5_init_X6_init : GoodIn wsX5_init wsX6_init := goodIn_r _ [35, 36, 2, 3, 37, 38, 39, 54, 55] (by decide +kernel) (by decide +kernel)
set_option maxRecDepth 20000 in
theorem gX5_init_X6_init_n25 : GoodIn wsX5_init (wsX6_init) := ggX5_init_X6_init
theorem zg03_0_25 : zCj cX5_init [(0, .aload_n 0, 1), (1, .invokespecial 1, 3), (4, .aload_n 0, 1), (5, .new 7, 3), (8, .dup, 1), (9, .invokespecial 9, 3), (12, .putfield 10, 3), (15, .aload_n 0, 1), (16, .new 16, 3), (19, .dup, 1)] := zCo _ 0 (by decide +kernel)
theorem dX5_init_0 : decode cX5_init 0 = .ok (.aload_n 0, 1) := zc1 zg03_0_25
theorem dX5_init_1 : decode cX5_init 1 = .ok (.invokespecial 1, 3) := zc1 (zc2 zg03_0_25)
theorem dX5_init_4 : decode cX5_init 4 = .ok (.aload_n 0, 1) := zc1 (zc2 (zc2 zg03_0_25))
theorem dX5_init_5 : decode cX5_init 5 = .ok (.new 7, 3) := zc1 (zc2 (zc2 (zc2 zg03_0_25)))
theorem dX5_init_8 : decode cX5_init 8 = .ok (.dup, 1) := zc1 (zc2 (zc2 (zc2 (zc2 zg03_0_25))))
theorem dX5_init_9 : decode cX5_init 9 = .ok (.invokespecial 9, 3) := zc1 (zc2 (zc2 (zc2 (zc2 (zc2 zg03_0_25)))))
theorem dX5_init_12 : decode cX5_init 12 = .ok (.putfield 10, 3) := zc1 (zc2 (zc2 (zc2 (zc2 (zc2 (zc2 zg03_0_25))))))
theorem dX5_init_15 : decode cX5_init 15 = .ok (.aload_n 0, 1) := zc1 (zc2 (zc2 (zc2 (zc2 (zc2 (zc2 (zc2 zg03_0_25)))))))
theorem dX5_init_16 : decode cX5_init 16 = .ok (.new 16, 3) := zc1 (zc2 (zc2 (zc2 (zc2 (zc2 (zc2 (zc2 (zc2 zg03_0_25))))))))
theorem dX5_init_19 : decode cX5_init 19 = .ok (.dup, 1) := zc1 (zc2 (zc2 (zc2 (zc2 (zc2 (zc2 (zc2 (zc2 (zc2 zg03_0_25)))))))))
theorem zg03_0_26 : zCj cX5_init [(20, .invokespecial 18, 3), (23, .putfield 19, 3), (26, .aload_n 0, 1), (27, .new 23, 3), (30, .dup, 1), (31, .invokespecial 25, 3), (34, .putfield 26, 3), (37, .aload_n 0, 1), (38, .iconst 0, 1), (39, .putfield 30, 3)] := zCo _ 20 (by decide +kernel)
theorem dX5_init_20 : decode cX5_init 20 = .ok (.invokespecial 18, 3) := zc1 zg03_0_26
theorem dX5_init_23 : decode cX5_init 23 = .ok (.putfield 19, 3) := zc1 (zc2 zg03_0_26)
theorem dX5_init_26 : decode cX5_init 26 = .ok (.aload_n 0, 1) := zc1 (zc2 (zc2 zg03_0_26))
theorem dX5_init_27 : decode cX5_init 27 = .ok (.new 23, 3) := zc1 (zc2 (zc2 (zc2 zg03_0_26)))
theorem dX5_init_30 : decode cX5_init 30 = .ok (.dup, 1) := zc1 (zc2 (zc2 (zc2 (zc2 zg03_0_26))))
theorem dX5_init_31 : decode cX5_init 31 = .ok (.invokespecial 25, 3) := zc1 (zc2 (zc2 (zc2 (zc2 (zc2 zg03_0_26)))))
theorem dX5_init_34 : decode cX5_init 34 = .ok (.putfield 26, 3) := zc1 (zc2 (zc2 (zc2 (zc2 (zc2 (zc2 zg03_0_26))))))
theorem dX5_init_37 : decode cX5_init 37 = .ok (.aload_n 0, 1) := zc1 (zc2 (zc2 (zc2 (zc2 (zc2 (zc2 (zc2 zg03_0_26)))))))
theorem dX5_init_38 : decode cX5_init 38 = .ok (.iconst 0, 1) := zc1 (zc2 (zc2 (zc2 (zc2 (zc2 (zc2 (zc2 (zc2 zg03_0_26))))))))
theorem dX5_init_39 : decode cX5_init 39 = .ok (.putfield 30, 3) := zc1 (zc2 (zc2 (zc2 (zc2 (zc2 (zc2 (zc2 (zc2 (zc2 zg03_0_26)))))))))
theorem dX5_init_42 : decode cX5_init 42 = .ok (.return_, 1) := by decide +kernel
theorem zg03_0_27 : zCj cX6_init [(0, .aload_n 0, 1), (1, .invokespecial 3, 3), (4, .aload_n 0, 1), (5, .ldc 9, 2), (7, .putfield 10, 3), (10, .aload_n 0, 1), (11, .iconst 0, 1), (12, .putfield 16, 3), (15, .return_, 1)] := zCo _ 0 (by decide +kernel)
theorem dX6_init_0 : decode cX6_init 0 = .ok (.aload_n 0, 1) := zc1 zg03_0_27
theorem dX6_init_1 : decode cX6_init 1 = .ok (.invokespecial 3, 3) := zc1 (zc2 zg03_0_27)
theorem dX6_init_4 : decode cX6_init 4 = .ok (.aload_n 0, 1) := zc1 (zc2 (zc2 zg03_0_27))
theorem dX6_init_5 : decode cX6_init 5 = .ok (.ldc 9, 2) := zc1 (zc2 (zc2 (zc2 zg03_0_27)))
theorem dX6_init_7 : decode cX6_init 7 = .ok (.putfield 10, 3) := zc1 (zc2 (zc2 (zc2 (zc2 zg03_0_27))))
theorem dX6_init_10 : decode cX6_init 10 = .ok (.aload_n 0, 1) := zc1 (zc2 (zc2 (zc2 (zc2 (zc2 zg03_0_27)))))
theorem dX6_init_11 : decode cX6_init 11 = .ok (.iconst 0, 1) := zc1 (zc2 (zc2 (zc2 (zc2 (zc2 (zc2 zg03_0_27))))))
theorem dX6_init_12 : decode cX6_init 12 = .ok (.putfield 16, 3) := zc1 (zc2 (zc2 (zc2 (zc2 (zc2 (zc2 (zc2 zg03_0_27)))))))
theorem dX6_init_15 : decode cX6_init 15 = .ok (.return_, 1) := zc1 (zc2 (zc2 (zc2 (zc2 (zc2 (zc2 (zc2 (zc2 zg03_0_27))))))))
theorem zg03_0_28 : zCj cX8_init [(0, .aload_n 0, 1), (1, .invokespecial 3, 3), (4, .aload_n 0, 1), (5, .bipush 6, 2)] := zCo _ 0 (by decide +kernel)
theorem dX8_init_0 : decode cX8_init 0 = .ok (.aload_n 0, 1) := zc1 zg03_0_28
theorem dX8_init_1 : decode cX8_init 1 = .ok (.invokespecial 3, 3) := zc1 (zc2 zg03_0_28)
theorem dX8_init_4 : decode cX8_init 4 = .ok (.aload_n 0, 1) := zc1 (zc2 (zc2 zg03_0_28))
theorem dX8_init_5 : decode cX8_init 5 = .ok (.bipush 6, 2) := zc1 (zc2 (zc2 (zc2 zg03_0_28)))
theorem dX8_init_7 : decode cX8_init 7 = .ok (.newarray .int, 2) := by decide +kernel
theorem zg03_0_29 : zCj cX8_init [(9, .putfield 9, 3), (12, .aload_n 0, 1), (13, .bipush 6, 2)] := zCo _ 9 (by decide +kernel)
theorem dX8_init_9 : decode cX8_init 9 = .ok (.putfield 9, 3) := zc1 zg03_0_29
theorem dX8_init_12 : decode cX8_init 12 = .ok (.aload_n 0, 1) := zc1 (zc2 zg03_0_29)
theorem dX8_init_13 : decode cX8_init 13 = .ok (.bipush 6, 2) := zc1 (zc2 (zc2 zg03_0_29))
theorem dX8_init_15 : decode cX8_init 15 = .ok (.newarray .int, 2) := by decide +kernel
theorem zg03_0_30 : zCj cX8_init [(17, .putfield 15, 3), (20, .aload_n 0, 1), (21, .bipush 6, 2)] := zCo _ 17 (by decide +kernel)
theorem dX8_init_17 : decode cX8_init 17 = .ok (.putfield 15, 3) := zc1 zg03_0_30
theorem dX8_init_20 : decode cX8_init 20 = .ok (.aload_n 0, 1) := zc1 (zc2 zg03_0_30)
theorem dX8_init_21 : decode cX8_init 21 = .ok (.bipush 6, 2) := zc1 (zc2 (zc2 zg03_0_30))
theorem dX8_init_23 : decode cX8_init 23 = .ok (.newarray .int, 2) := by decide +kernel
theorem zg03_0_31 : zCj cX8_init [(25, .putfield 18, 3), (28, .aload_n 0, 1), (29, .bipush 6, 2)] := zCo _ 25 (by decide +kernel)
theorem dX8_init_25 : decode cX8_init 25 = .ok (.putfield 18, 3) := zc1 zg03_0_31
theorem dX8_init_28 : decode cX8_init 28 = .ok (.aload_n 0, 1) := zc1 (zc2 zg03_0_31)
theorem dX8_init_29 : decode cX8_init 29 = .ok (.bipush 6, 2) := zc1 (zc2 (zc2 zg03_0_31))
theorem dX8_init_31 : decode cX8_init 31 = .ok (.newarray .int, 2) := by decide +kernel
theorem zg03_0_32 : zCj cX8_init [(33, .putfield 21, 3), (36, .aload_n 0, 1), (37, .bipush 6, 2)] := zCo _ 33 (by decide +kernel)
theorem dX8_init_33 : decode cX8_init 33 = .ok (.putfield 21, 3) := zc1 zg03_0_32
theorem dX8_init_36 : decode cX8_init 36 = .ok (.aload_n 0, 1) := zc1 (zc2 zg03_0_32)
theorem dX8_init_37 : decode cX8_init 37 = .ok (.bipush 6, 2) := zc1 (zc2 (zc2 zg03_0_32))
theorem dX8_init_39 : decode cX8_init 39 = .ok (.newarray .int, 2) := by decide +kernel
theorem zg03_0_33 : zCj cX8_init [(41, .putfield 24, 3), (44, .aload_n 0, 1), (45, .iconst 0, 1), (46, .putfield 27, 3), (49, .return_, 1)] := zCo _ 41 (by decide +kernel)
theorem dX8_init_41 : decode cX8_init 41 = .ok (.putfield 24, 3) := zc1 zg03_0_33
theorem dX8_init_44 : decode cX8_init 44 = .ok (.aload_n 0, 1) := zc1 (zc2 zg03_0_33)
theorem dX8_init_45 : decode cX8_init 45 = .ok (.iconst 0, 1) := zc1 (zc2 (zc2 zg03_0_33))
theorem dX8_init_46 : decode cX8_init 46 = .ok (.putfield 27, 3) := zc1 (zc2 (zc2 (zc2 zg03_0_33)))
theorem dX8_init_49 : decode cX8_init 49 = .ok (.return_, 1) := zc1 (zc2 (zc2 (zc2 (zc2 zg03_0_33))))
theorem zg03_0_34 : zCj cX9_init [(0, .aload_n 0, 1), (1, .invokespecial 3, 3), (4, .aload_n 0, 1), (5, .sipush 1000, 3)] := zCo _ 0 (by decide +kernel)
theorem dX9_init_0 : decode cX9_init 0 = .ok (.aload_n 0, 1) := zc1 zg03_0_34
theorem dX9_init_1 : decode cX9_init 1 = .ok (.invokespecial 3, 3) := zc1 (zc2 zg03_0_34)
theorem dX9_init_4 : decode cX9_init 4 = .ok (.aload_n 0, 1) := zc1 (zc2 (zc2 zg03_0_34))
theorem dX9_init_5 : decode cX9_init 5 = .ok (.sipush 1000, 3) := zc1 (zc2 (zc2 (zc2 zg03_0_34)))
theorem dX9_init_8 : decode cX9_init 8 = .ok (.newarray .char, 2) := by decide +kernel
theorem zg03_0_35 : zCj cX9_init [(10, .putfield 9, 3), (13, .aload_n 0, 1), (14, .iconst 0, 1), (15, .putfield 15, 3), (18, .aload_n 0, 1), (19, .iconst 0, 1), (20, .putfield 19, 3), (23, .aload_n 0, 1), (24, .iconst 0, 1), (25, .putfield 22, 3)] := zCo _ 10 (by decide +kernel)
theorem dX9_init_10 : decode cX9_init 10 = .ok (.putfield 9, 3) := zc1 zg03_0_35
theorem dX9_init_13 : decode cX9_init 13 = .ok (.aload_n 0, 1) := zc1 (zc2 zg03_0_35)
theorem dX9_init_14 : decode cX9_init 14 = .ok (.iconst 0, 1) := zc1 (zc2 (zc2 zg03_0_35))
theorem dX9_init_15 : decode cX9_init 15 = .ok (.putfield 15, 3) := zc1 (zc2 (zc2 (zc2 zg03_0_35)))
theorem dX9_init_18 : decode cX9_init 18 = .ok (.aload_n 0, 1) := zc1 (zc2 (zc2 (zc2 (zc2 zg03_0_35))))
theorem dX9_init_19 : decode cX9_init 19 = .ok (.iconst 0, 1) := zc1 (zc2 (zc2 (zc2 (zc2 (zc2 zg03_0_35)))))
theorem dX9_init_20 : decode cX9_init 20 = .ok (.putfield 19, 3) := zc1 (zc2 (zc2 (zc2 (zc2 (zc2 (zc2 zg03_0_35))))))
theorem dX9_init_23 : decode cX9_init 23 = .ok (.aload_n 0, 1) := zc1 (zc2 (zc2 (zc2 (zc2 (zc2 (zc2 (zc2 zg03_0_35)))))))
theorem dX9_init_24 : decode cX9_init 24 = .ok (.iconst 0, 1) := zc1 (zc2 (zc2 (zc2 (zc2 (zc2 (zc2 (zc2 (zc2 zg03_0_35))))))))
theorem dX9_init_25 : decode cX9_init 25 = .ok (.putfield 22, 3) := zc1 (zc2 (zc2 (zc2 (zc2 (zc2 (zc2 (zc2 (zc2 (zc2 zg03_0_35)))))))))
theorem zg03_0_36 : zCj cX9_init [(28, .aload_n 0, 1), (29, .getstatic 25, 3), (32, .putfield 31, 3), (35, .aload_n 0, 1), (36, .iconst 0, 1), (37, .putfield 34, 3), (40, .aload_n 0, 1), (41, .lconst 0, 1), (42, .putfield 37, 3), (45, .aload_n 0, 1)] := zCo _ 28 (by decide +kernel)
theorem dX9_init_28 : decode cX9_init 28 = .ok (.aload_n 0, 1) := zc1 zg03_0_36
theorem dX9_init_29 : decode cX9_init 29 = .ok (.getstatic 25, 3) := zc1 (zc2 zg03_0_36)
theorem dX9_init_32 : decode cX9_init 32 = .ok (.putfield 31, 3) := zc1 (zc2 (zc2 zg03_0_36))
theorem dX9_init_35 : decode cX9_init 35 = .ok (.aload_n 0, 1) := zc1 (zc2 (zc2 (zc2 zg03_0_36)))
theorem dX9_init_36 : decode cX9_init 36 = .ok (.iconst 0, 1) := zc1 (zc2 (zc2 (zc2 (zc2 zg03_0_36))))
theorem dX9_init_37 : decode cX9_init 37 = .ok (.putfield 34, 3) := zc1 (zc2 (zc2 (zc2 (zc2 (zc2 zg03_0_36)))))
theorem dX9_init_40 : decode cX9_init 40 = .ok (.aload_n 0, 1) := zc1 (zc2 (zc2 (zc2 (zc2 (zc2 (zc2 zg03_0_36))))))
theorem dX9_init_41 : decode cX9_init 41 = .ok (.lconst 0, 1) := zc1 (zc2 (zc2 (zc2 (zc2 (zc2 (zc2 (zc2 zg03_0_36)))))))
theorem dX9_init_42 : decode cX9_init 42 = .ok (.putfield 37, 3) := zc1 (zc2 (zc2 (zc2 (zc2 (zc2 (zc2 (zc2 (zc2 zg03_0_36))))))))
theorem dX9_init_45 : decode cX9_init 45 = .ok (.aload_n 0, 1) := zc1 (zc2 (zc2 (zc2 (zc2 (zc2 (zc2 (zc2 (zc2 (zc2 zg03_0_36)))))))))
theorem zg03_0_37 : zCj cX9_init [(46, .iconst 0, 1), (47, .putfield 41, 3), (50, .return_, 1)] := zCo _ 46 (by decide +kernel)
theorem dX9_init_46 : decode cX9_init 46 = .ok (.iconst 0, 1) := zc1 zg03_0_37
theorem dX9_init_47 : decode cX9_init 47 = .ok (.putfield 41, 3) := zc1 (zc2 zg03_0_37)
theorem dX9_init_50 : decode cX9_init 50 = .ok (.return_, 1) := zc1 (zc2 (zc2 zg03_0_37))
set_option maxRecDepth 20000 in
theorem ggX10_init_X8_init : GoodIn wsX10_init wsX8_init := goodIn_r _ [16, 17, 2, 3, 8, 18, 19, 20, 21, 22, 23, 24, 25, 26, 27, 28, 29] (by decide +kernel) (by decide +kernel)
set_option maxRecDepth 20000 in
theorem gX10_init_X8_init_n11 : GoodIn wsX10_init (wsX8_init) := ggX10_init_X8_init
theorem zg03_0_38 : zCj cX10_init [(0, .aload_n 0, 1), (1, .invokespecial 3, 3), (4, .aload_n 0, 1), (5, .new 9, 3), (8, .dup, 1), (9, .invokespecial 11, 3), (12, .putfield 12, 3), (15, .aload_n 0, 1), (16, .bipush 64, 2)] := zCo _ 0 (by decide +kernel)
theorem dX10_init_0 : decode cX10_init 0 = .ok (.aload_n 0, 1) := zc1 zg03_0_38
theorem dX10_init_1 : decode cX10_init 1 = .ok (.invokespecial 3, 3) := zc1 (zc2 zg03_0_38)
theorem dX10_init_4 : decode cX10_init 4 = .ok (.aload_n 0, 1) := zc1 (zc2 (zc2 zg03_0_38))
theorem dX10_init_5 : decode cX10_init 5 = .ok (.new 9, 3) := zc1 (zc2 (zc2 (zc2 zg03_0_38)))
theorem dX10_init_8 : decode cX10_init 8 = .ok (.dup, 1) := zc1 (zc2 (zc2 (zc2 (zc2 zg03_0_38))))
theorem dX10_init_9 : decode cX10_init 9 = .ok (.invokespecial 11, 3) := zc1 (zc2 (zc2 (zc2 (zc2 (zc2 zg03_0_38)))))
theorem dX10_init_12 : decode cX10_init 12 = .ok (.putfield 12, 3) := zc1 (zc2 (zc2 (zc2 (zc2 (zc2 (zc2 zg03_0_38))))))
theorem dX10_init_15 : decode cX10_init 15 = .ok (.aload_n 0, 1) := zc1 (zc2 (zc2 (zc2 (zc2 (zc2 (zc2 (zc2 zg03_0_38)))))))
theorem dX10_init_16 : decode cX10_init 16 = .ok (.bipush 64, 2) := zc1 (zc2 (zc2 (zc2 (zc2 (zc2 (zc2 (zc2 (zc2 zg03_0_38))))))))
theorem dX10_init_18 : decode cX10_init 18 = .ok (.newarray .int, 2) := by decide +kernel
theorem zg03_0_39 : zCj cX10_init [(20, .putfield 18, 3), (23, .aload_n 0, 1), (24, .bipush 6, 2)] := zCo _ 20 (by decide +kernel)
theorem dX10_init_20 : decode cX10_init 20 = .ok (.putfield 18, 3) := zc1 zg03_0_39
theorem dX10_init_23 : decode cX10_init 23 = .ok (.aload_n 0, 1) := zc1 (zc2 zg03_0_39)
theorem dX10_init_24 : decode cX10_init 24 = .ok (.bipush 6, 2) := zc1 (zc2 (zc2 zg03_0_39))
theorem dX10_init_26 : decode cX10_init 26 = .ok (.newarray .int, 2) := by decide +kernel
theorem zg03_0_40 : zCj cX10_init [(28, .putfield 22, 3), (31, .aload_n 0, 1), (32, .bipush 6, 2)] := zCo _ 28 (by decide +kernel)
theorem dX10_init_28 : decode cX10_init 28 = .ok (.putfield 22, 3) := zc1 zg03_0_40
theorem dX10_init_31 : decode cX10_init 31 = .ok (.aload_n 0, 1) := zc1 (zc2 zg03_0_40)
theorem dX10_init_32 : decode cX10_init 32 = .ok (.bipush 6, 2) := zc1 (zc2 (zc2 zg03_0_40))
theorem dX10_init_34 : decode cX10_init 34 = .ok (.newarray .int, 2) := by decide +kernel
theorem zg03_0_41 : zCj cX10_init [(36, .putfield 25, 3), (39, .aload_n 0, 1), (40, .bipush 6, 2)] := zCo _ 36 (by decide +kernel)
theorem dX10_init_36 : decode cX10_init 36 = .ok (.putfield 25, 3) := zc1 zg03_0_41
theorem dX10_init_39 : decode cX10_init 39 = .ok (.aload_n 0, 1) := zc1 (zc2 zg03_0_41)
theorem dX10_init_40 : decode cX10_init 40 = .ok (.bipush 6, 2) := zc1 (zc2 (zc2 zg03_0_41))
theorem dX10_init_42 : decode cX10_init 42 = .ok (.newarray .int, 2) := by decide +kernel
theorem zg03_0_42 : zCj cX10_init [(44, .putfield 28, 3), (47, .aload_n 0, 1), (48, .aload_n 1, 1), (49, .putfield 31, 3), (52, .aload_n 0, 1), (53, .aload_n 2, 1), (54, .putfield 35, 3), (57, .return_, 1)] := zCo _ 44 (by decide +kernel)
theorem dX10_init_44 : decode cX10_init 44 = .ok (.putfield 28, 3) := zc1 zg03_0_42
theorem dX10_init_47 : decode cX10_init 47 = .ok (.aload_n 0, 1) := zc1 (zc2 zg03_0_42)
theorem dX10_init_48 : decode cX10_init 48 = .ok (.aload_n 1, 1) := zc1 (zc2 (zc2 zg03_0_42))
theorem dX10_init_49 : decode cX10_init 49 = .ok (.putfield 31, 3) := zc1 (zc2 (zc2 (zc2 zg03_0_42)))
theorem dX10_init_52 : decode cX10_init 52 = .ok (.aload_n 0, 1) := zc1 (zc2 (zc2 (zc2 (zc2 zg03_0_42))))
theorem dX10_init_53 : decode cX10_init 53 = .ok (.aload_n 2, 1) := zc1 (zc2 (zc2 (zc2 (zc2 (zc2 zg03_0_42)))))
theorem dX10_init_54 : decode cX10_init 54 = .ok (.putfield 35, 3) := zc1 (zc2 (zc2 (zc2 (zc2 (zc2 (zc2 zg03_0_42))))))
theorem dX10_init_57 : decode cX10_init 57 = .ok (.return_, 1) := zc1 (zc2 (zc2 (zc2 (zc2 (zc2 (zc2 (zc2 zg03_0_42)))))))
noncomputable abbrev vwCl : List vw_C := [(RX0, TX0, 1), (RX1, TX1, 4), (RX2, TX2, 13), (RX3, TX3, 3), (RX4, TX4, 3), (RX5, TX5, 4), (RX6, TX6, 2), (RX8, TX8, 6), (RX9, TX9, 8), (RX10, TX10, 7), (RX11, TX11, 15), (RX12, TX12, 57)]
