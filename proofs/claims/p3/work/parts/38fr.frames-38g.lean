/-! ===== which rows the reference's own functions leave as they were ===== -/
theorem zc_vqQ {α β : Type} (o : α × zRq) (K : α → zRq → β) : zc_vq o K = K o.1 o.2 := (Eq.refl (zc_vq o K)).trans (Eq.refl _)
theorem fzif1 {M : List Nat} {r : zRr} {c : Prop} [Decidable c] {a b : zRr} (ha : c → zFr M r a) (hb : ¬ c → zFr M r b) : zFr M r (zif c a b) := by
  rw [zifQ]
  by_cases h : c
  · rw [if_pos h]; exact ha h
  · rw [if_neg h]; exact hb h
theorem fzifn1 {M : List Nat} {r : zRr} {c : Prop} [Decidable c] {a b : zRr} (ha : ¬ c → zFr M r a) (hb : c → zFr M r b) : zFr M r (zifn c a b) := by
  rw [zifnQ]
  by_cases h : c
  · rw [if_pos h]; exact hb h
  · rw [if_neg h]; exact ha h
theorem fzlet1 {α : Type} {M : List Nat} {r : zRr} {x : α} {K : α → zRr} (h : zFr M r (K x)) : zFr M r (zlet x K) := h
theorem fzc1 {α : Type} {M : List Nat} {r : zRr} {o : α × zRr} {K : α → zRr → zRr} (h : zFr M r (K o.1 o.2)) : zFr M r (zc_vr o K) := h
theorem fzq1 {α : Type} {M : List Nat} {r : zRr} {o : α × zRq} {K : α → zRq → zRr} (h : zFr M r (K o.1 o.2)) : zFr M r (zc_vq o K) := h
theorem fzif2 {M : List Nat} {r : zRr} {c : Prop} [Decidable c] {a b : Int32 × zRr} (ha : c → zFr M r a.2) (hb : ¬ c → zFr M r b.2) : zFr M r (zif c a b).2 := by
  rw [zifQ]
  by_cases h : c
  · rw [if_pos h]; exact ha h
  · rw [if_neg h]; exact hb h
theorem fzifn2 {M : List Nat} {r : zRr} {c : Prop} [Decidable c] {a b : Int32 × zRr} (ha : ¬ c → zFr M r a.2) (hb : c → zFr M r b.2) : zFr M r (zifn c a b).2 := by
  rw [zifnQ]
  by_cases h : c
  · rw [if_pos h]; exact hb h
  · rw [if_neg h]; exact ha h
theorem fzlet2 {α : Type} {M : List Nat} {r : zRr} {x : α} {K : α → Int32 × zRr} (h : zFr M r (K x).2) : zFr M r (zlet x K).2 := h
theorem fzc2 {α : Type} {M : List Nat} {r : zRr} {o : α × zRr} {K : α → zRr → Int32 × zRr} (h : zFr M r (K o.1 o.2).2) : zFr M r (zc_vr o K).2 := h
theorem fzq2 {α : Type} {M : List Nat} {r : zRr} {o : α × zRq} {K : α → zRq → Int32 × zRr} (h : zFr M r (K o.1 o.2).2) : zFr M r (zc_vq o K).2 := h
theorem fzif3 {M : List Nat} {r : zRr} {c : Prop} [Decidable c] {a b : zRr × zRq} (ha : c → zFr M r a.1) (hb : ¬ c → zFr M r b.1) : zFr M r (zif c a b).1 := by
  rw [zifQ]
  by_cases h : c
  · rw [if_pos h]; exact ha h
  · rw [if_neg h]; exact hb h
theorem fzifn3 {M : List Nat} {r : zRr} {c : Prop} [Decidable c] {a b : zRr × zRq} (ha : ¬ c → zFr M r a.1) (hb : c → zFr M r b.1) : zFr M r (zifn c a b).1 := by
  rw [zifnQ]
  by_cases h : c
  · rw [if_pos h]; exact hb h
  · rw [if_neg h]; exact ha h
theorem fzlet3 {α : Type} {M : List Nat} {r : zRr} {x : α} {K : α → zRr × zRq} (h : zFr M r (K x).1) : zFr M r (zlet x K).1 := h
theorem fzc3 {α : Type} {M : List Nat} {r : zRr} {o : α × zRr} {K : α → zRr → zRr × zRq} (h : zFr M r (K o.1 o.2).1) : zFr M r (zc_vr o K).1 := h
theorem fzq3 {α : Type} {M : List Nat} {r : zRr} {o : α × zRq} {K : α → zRq → zRr × zRq} (h : zFr M r (K o.1 o.2).1) : zFr M r (zc_vq o K).1 := h
theorem fm_opens {a1 : Int32} {r : zRr} {q : zRq}  : zFr [15, 16, 17, 18, 19, 20, 21, 22, 23, 24] r (Gm_opens a1 r q) := by
  unfold Gm_opens
  repeat (first | with_reducible exact zFr.refl | with_reducible refine fzif1 (fun h => ?_) (fun h => ?_) | with_reducible refine fzifn1 (fun h => ?_) (fun h => ?_) | with_reducible refine fzlet1 ?_ | with_reducible refine fzc1 ?_ | with_reducible refine fzq1 ?_ | with_reducible refine zFr.set ?_ ?_ | decide)
theorem fm_sums_45 {a1 : Int32} {r : zRr} {w45_s0 : Int32}  : zFr [15, 16, 17, 18, 19, 20, 21, 22, 23, 24] r (Gm_sums_45 a1 r w45_s0) := by
  unfold Gm_sums_45
  repeat (first | with_reducible exact zFr.refl | with_reducible refine fzif1 (fun h => ?_) (fun h => ?_) | with_reducible refine fzifn1 (fun h => ?_) (fun h => ?_) | with_reducible refine fzlet1 ?_ | with_reducible refine fzc1 ?_ | with_reducible refine fzq1 ?_ | with_reducible refine zFr.set ?_ ?_ | decide)
theorem fm_sums {a1 : Int32} {r : zRr} {q : zRq}  : zFr [15, 16, 17, 18, 19, 20, 21, 22, 23, 24] r (Gm_sums a1 r q) := by
  unfold Gm_sums
  repeat (first | with_reducible exact zFr.refl | with_reducible refine fzif1 (fun h => ?_) (fun h => ?_) | with_reducible refine fzifn1 (fun h => ?_) (fun h => ?_) | with_reducible refine fzlet1 ?_ | with_reducible refine fzc1 ?_ | with_reducible refine fzq1 ?_ | with_reducible refine zFr.set ?_ ?_ | with_reducible refine zFr.tr ?_ (fm_sums_45) ?_ | decide)
theorem fm_tests_136 {a1 : Int32} {w136_2 : Int32} {rw136 : zRr}  : zFr [15, 16, 17, 18, 19, 20, 21, 22, 23, 24] rw136 (Gm_tests_136 a1 w136_2 rw136) := by
  unfold Gm_tests_136
  repeat (first | with_reducible exact zFr.refl | with_reducible refine fzif1 (fun h => ?_) (fun h => ?_) | with_reducible refine fzifn1 (fun h => ?_) (fun h => ?_) | with_reducible refine fzlet1 ?_ | with_reducible refine fzc1 ?_ | with_reducible refine fzq1 ?_ | with_reducible refine zFr.set ?_ ?_ | decide)
theorem fm_tests_135 {a1 : Int32} {w135_s0 : Int32} {rw135 : zRr}  : zFr [15, 16, 17, 18, 19, 20, 21, 22, 23, 24] rw135 (Gm_tests_135 a1 w135_s0 rw135) := by
  unfold Gm_tests_135
  repeat (first | with_reducible exact zFr.refl | with_reducible refine fzif1 (fun h => ?_) (fun h => ?_) | with_reducible refine fzifn1 (fun h => ?_) (fun h => ?_) | with_reducible refine fzlet1 ?_ | with_reducible refine fzc1 ?_ | with_reducible refine fzq1 ?_ | with_reducible refine zFr.set ?_ ?_ | with_reducible refine zFr.tr ?_ (fm_tests_136) ?_ | decide)
theorem fm_tests_130 {a1 : Int32} {rw130 : zRr}  : zFr [15, 16, 17, 18, 19, 20, 21, 22, 23, 24] rw130 (Gm_tests_130 a1 rw130) := by
  unfold Gm_tests_130
  repeat (first | with_reducible exact zFr.refl | with_reducible refine fzif1 (fun h => ?_) (fun h => ?_) | with_reducible refine fzifn1 (fun h => ?_) (fun h => ?_) | with_reducible refine fzlet1 ?_ | with_reducible refine fzc1 ?_ | with_reducible refine fzq1 ?_ | with_reducible refine zFr.set ?_ ?_ | with_reducible refine zFr.tr ?_ (fm_tests_135) ?_ | decide)
theorem fm_tests_106 {a1 : Int32} {w106_2 : Int32} {rw106 : zRr}  : zFr [15, 16, 17, 18, 19, 20, 21, 22, 23, 24] rw106 (Gm_tests_106 a1 w106_2 rw106) := by
  unfold Gm_tests_106
  repeat (first | with_reducible exact zFr.refl | with_reducible refine fzif1 (fun h => ?_) (fun h => ?_) | with_reducible refine fzifn1 (fun h => ?_) (fun h => ?_) | with_reducible refine fzlet1 ?_ | with_reducible refine fzc1 ?_ | with_reducible refine fzq1 ?_ | with_reducible refine zFr.set ?_ ?_ | with_reducible refine zFr.tr ?_ (fm_tests_136) ?_ | with_reducible refine zFr.tr ?_ (fm_tests_130) ?_ | with_reducible refine zFr.tr ?_ (fm_tests_135) ?_ | decide)
theorem fm_tests_105 {a1 : Int32} {w105_s0 : Int32} {rw105 : zRr}  : zFr [15, 16, 17, 18, 19, 20, 21, 22, 23, 24] rw105 (Gm_tests_105 a1 w105_s0 rw105) := by
  unfold Gm_tests_105
  repeat (first | with_reducible exact zFr.refl | with_reducible refine fzif1 (fun h => ?_) (fun h => ?_) | with_reducible refine fzifn1 (fun h => ?_) (fun h => ?_) | with_reducible refine fzlet1 ?_ | with_reducible refine fzc1 ?_ | with_reducible refine fzq1 ?_ | with_reducible refine zFr.set ?_ ?_ | with_reducible refine zFr.tr ?_ (fm_tests_106) ?_ | decide)
theorem fm_tests_104 {a1 : Int32} {rw104 : zRr}  : zFr [15, 16, 17, 18, 19, 20, 21, 22, 23, 24] rw104 (Gm_tests_104 a1 rw104) := by
  unfold Gm_tests_104
  repeat (first | with_reducible exact zFr.refl | with_reducible refine fzif1 (fun h => ?_) (fun h => ?_) | with_reducible refine fzifn1 (fun h => ?_) (fun h => ?_) | with_reducible refine fzlet1 ?_ | with_reducible refine fzc1 ?_ | with_reducible refine fzq1 ?_ | with_reducible refine zFr.set ?_ ?_ | with_reducible refine zFr.tr ?_ (fm_tests_105) ?_ | decide)
theorem fm_tests_76 {a1 : Int32} {w76_2 : Int32} {rw76 : zRr}  : zFr [15, 16, 17, 18, 19, 20, 21, 22, 23, 24] rw76 (Gm_tests_76 a1 w76_2 rw76) := by
  unfold Gm_tests_76
  repeat (first | with_reducible exact zFr.refl | with_reducible refine fzif1 (fun h => ?_) (fun h => ?_) | with_reducible refine fzifn1 (fun h => ?_) (fun h => ?_) | with_reducible refine fzlet1 ?_ | with_reducible refine fzc1 ?_ | with_reducible refine fzq1 ?_ | with_reducible refine zFr.set ?_ ?_ | with_reducible refine zFr.tr ?_ (fm_tests_106) ?_ | with_reducible refine zFr.tr ?_ (fm_tests_104) ?_ | with_reducible refine zFr.tr ?_ (fm_tests_105) ?_ | decide)
theorem fm_tests_75 {a1 : Int32} {w75_s0 : Int32} {rw75 : zRr}  : zFr [15, 16, 17, 18, 19, 20, 21, 22, 23, 24] rw75 (Gm_tests_75 a1 w75_s0 rw75) := by
  unfold Gm_tests_75
  repeat (first | with_reducible exact zFr.refl | with_reducible refine fzif1 (fun h => ?_) (fun h => ?_) | with_reducible refine fzifn1 (fun h => ?_) (fun h => ?_) | with_reducible refine fzlet1 ?_ | with_reducible refine fzc1 ?_ | with_reducible refine fzq1 ?_ | with_reducible refine zFr.set ?_ ?_ | with_reducible refine zFr.tr ?_ (fm_tests_76) ?_ | decide)
theorem fm_tests_44 {a1 : Int32} {w44_2 : Int32} {rw44 : zRr}  : zFr [15, 16, 17, 18, 19, 20, 21, 22, 23, 24] rw44 (Gm_tests_44 a1 w44_2 rw44) := by
  unfold Gm_tests_44
  repeat (first | with_reducible exact zFr.refl | with_reducible refine fzif1 (fun h => ?_) (fun h => ?_) | with_reducible refine fzifn1 (fun h => ?_) (fun h => ?_) | with_reducible refine fzlet1 ?_ | with_reducible refine fzc1 ?_ | with_reducible refine fzq1 ?_ | with_reducible refine zFr.set ?_ ?_ | with_reducible refine zFr.tr ?_ (fm_tests_76) ?_ | with_reducible refine zFr.tr ?_ (fm_tests_75) ?_ | decide)
theorem fm_tests_43 {a1 : Int32} {w43_s0 : Int32} {rw43 : zRr}  : zFr [15, 16, 17, 18, 19, 20, 21, 22, 23, 24] rw43 (Gm_tests_43 a1 w43_s0 rw43) := by
  unfold Gm_tests_43
  repeat (first | with_reducible exact zFr.refl | with_reducible refine fzif1 (fun h => ?_) (fun h => ?_) | with_reducible refine fzifn1 (fun h => ?_) (fun h => ?_) | with_reducible refine fzlet1 ?_ | with_reducible refine fzc1 ?_ | with_reducible refine fzq1 ?_ | with_reducible refine zFr.set ?_ ?_ | with_reducible refine zFr.tr ?_ (fm_tests_44) ?_ | decide)
theorem fm_tests {a1 : Int32} {r : zRr} {q : zRq}  : zFr [15, 16, 17, 18, 19, 20, 21, 22, 23, 24] r (Gm_tests a1 r q) := by
  unfold Gm_tests
  repeat (first | with_reducible exact zFr.refl | with_reducible refine fzif1 (fun h => ?_) (fun h => ?_) | with_reducible refine fzifn1 (fun h => ?_) (fun h => ?_) | with_reducible refine fzlet1 ?_ | with_reducible refine fzc1 ?_ | with_reducible refine fzq1 ?_ | with_reducible refine zFr.set ?_ ?_ | with_reducible refine zFr.tr ?_ (fm_sums) ?_ | with_reducible refine zFr.tr ?_ (fm_tests_44) ?_ | with_reducible refine zFr.tr ?_ (fm_tests_43) ?_ | decide)
theorem fm_worked_329 {w14_3 : Int32} {ih14 : Int32 → Int32 → zRr → (Int32 × zRr)} {w329_2 : Int32} {rw329 : zRr} (hih14 : ∀ (x0 : Int32) (x1 : Int32) (x2 : zRr), zFr [15, 16, 17, 18, 19, 20, 21, 22, 23, 24] x2 (ih14 x0 x1 x2).2) : zFr [15, 16, 17, 18, 19, 20, 21, 22, 23, 24] rw329 (Gm_worked_329 w14_3 ih14 w329_2 rw329).2 := by
  unfold Gm_worked_329
  repeat (first | with_reducible exact zFr.refl | with_reducible refine fzif2 (fun h => ?_) (fun h => ?_) | with_reducible refine fzifn2 (fun h => ?_) (fun h => ?_) | with_reducible refine fzlet2 ?_ | with_reducible refine fzc2 ?_ | with_reducible refine fzq2 ?_ | with_reducible refine zFr.set ?_ ?_ | with_reducible refine zFr.tr ?_ (hih14 _ _ _) ?_ | decide)
theorem fm_worked_328 {w14_3 : Int32} {ih14 : Int32 → Int32 → zRr → (Int32 × zRr)} {w328_2 : Int32} {w328_s0 : Int32} {w328_s1 : Int32} {rw328 : zRr} (hih14 : ∀ (x0 : Int32) (x1 : Int32) (x2 : zRr), zFr [15, 16, 17, 18, 19, 20, 21, 22, 23, 24] x2 (ih14 x0 x1 x2).2) : zFr [15, 16, 17, 18, 19, 20, 21, 22, 23, 24] rw328 (Gm_worked_328 w14_3 ih14 w328_2 w328_s0 w328_s1 rw328).2 := by
  unfold Gm_worked_328
  repeat (first | with_reducible exact zFr.refl | with_reducible refine fzif2 (fun h => ?_) (fun h => ?_) | with_reducible refine fzifn2 (fun h => ?_) (fun h => ?_) | with_reducible refine fzlet2 ?_ | with_reducible refine fzc2 ?_ | with_reducible refine fzq2 ?_ | with_reducible refine zFr.set ?_ ?_ | with_reducible refine zFr.tr ?_ (hih14 _ _ _) ?_ | with_reducible refine zFr.tr ?_ (fm_worked_329 (hih14)) ?_ | decide)
theorem fm_worked_300 {w14_3 : Int32} {ih14 : Int32 → Int32 → zRr → (Int32 × zRr)} {w300_2 : Int32} {w300_5 : Int32} {rw300 : zRr} (hih14 : ∀ (x0 : Int32) (x1 : Int32) (x2 : zRr), zFr [15, 16, 17, 18, 19, 20, 21, 22, 23, 24] x2 (ih14 x0 x1 x2).2) : zFr [15, 16, 17, 18, 19, 20, 21, 22, 23, 24] rw300 (Gm_worked_300 w14_3 ih14 w300_2 w300_5 rw300).2 := by
  unfold Gm_worked_300
  repeat (first | with_reducible exact zFr.refl | with_reducible refine fzif2 (fun h => ?_) (fun h => ?_) | with_reducible refine fzifn2 (fun h => ?_) (fun h => ?_) | with_reducible refine fzlet2 ?_ | with_reducible refine fzc2 ?_ | with_reducible refine fzq2 ?_ | with_reducible refine zFr.set ?_ ?_ | with_reducible refine zFr.tr ?_ (hih14 _ _ _) ?_ | with_reducible refine zFr.tr ?_ (fm_worked_328 (hih14)) ?_ | decide)
theorem fm_worked_292 {w268_2 : Int32} {rw268 : zRr} {ih268 : Int32 → Int32 → zRr → (Int32 × zRr)} {w292_s0 : Int32} (hih268 : ∀ (x0 : Int32) (x1 : Int32) (x2 : zRr), zFr [15, 16, 17, 18, 19, 20, 21, 22, 23, 24] x2 (ih268 x0 x1 x2).2) : zFr [15, 16, 17, 18, 19, 20, 21, 22, 23, 24] rw268 (Gm_worked_292 w268_2 rw268 ih268 w292_s0).2 := by
  unfold Gm_worked_292
  repeat (first | with_reducible exact zFr.refl | with_reducible refine fzif2 (fun h => ?_) (fun h => ?_) | with_reducible refine fzifn2 (fun h => ?_) (fun h => ?_) | with_reducible refine fzlet2 ?_ | with_reducible refine fzc2 ?_ | with_reducible refine fzq2 ?_ | with_reducible refine zFr.set ?_ ?_ | with_reducible refine zFr.tr ?_ (hih268 _ _ _) ?_ | decide)
theorem fm_worked_268 {w14_3 : Int32} {ih14 : Int32 → Int32 → zRr → (Int32 × zRr)} (hih14 : ∀ (x0 : Int32) (x1 : Int32) (x2 : zRr), zFr [15, 16, 17, 18, 19, 20, 21, 22, 23, 24] x2 (ih14 x0 x1 x2).2) : ∀ (n : Nat) (w268_2 : Int32) (w268_5 : Int32) (rw268 : zRr), zFr [15, 16, 17, 18, 19, 20, 21, 22, 23, 24] rw268 (Gm_worked_268 w14_3 ih14 n w268_2 w268_5 rw268).2 := by
  intro n
  induction n with
  | zero => intro w268_2 w268_5 rw268; exact zFr.refl
  | succ n ih =>
    intro w268_2 w268_5 rw268
    have e0 : Gm_worked_268 w14_3 ih14 (n + 1) w268_2 w268_5 rw268 = Bm_worked_268 w14_3 ih14 (Gm_worked_268 w14_3 ih14 n) w268_2 w268_5 rw268 := rfl
    rw [e0]
    unfold Bm_worked_268
    repeat (first | with_reducible exact zFr.refl | with_reducible refine fzif2 (fun h => ?_) (fun h => ?_) | with_reducible refine fzifn2 (fun h => ?_) (fun h => ?_) | with_reducible refine fzlet2 ?_ | with_reducible refine fzc2 ?_ | with_reducible refine fzq2 ?_ | with_reducible refine zFr.set ?_ ?_ | with_reducible refine zFr.tr ?_ (ih _ _ _) ?_ | with_reducible refine zFr.tr ?_ (hih14 _ _ _) ?_ | with_reducible refine zFr.tr ?_ (fm_worked_300 (hih14)) ?_ | with_reducible refine zFr.tr ?_ (fm_worked_292 (ih)) ?_ | decide)
theorem fm_worked_14 {q : zRq}  : ∀ (n : Nat) (w14_2 : Int32) (w14_3 : Int32) (rw14 : zRr), zFr [15, 16, 17, 18, 19, 20, 21, 22, 23, 24] rw14 (Gm_worked_14 q n w14_2 w14_3 rw14).2 := by
  intro n
  induction n with
  | zero => intro w14_2 w14_3 rw14; exact zFr.refl
  | succ n ih =>
    intro w14_2 w14_3 rw14
    have e0 : Gm_worked_14 q (n + 1) w14_2 w14_3 rw14 = Bm_worked_14 q (Gm_worked_14 q n) w14_2 w14_3 rw14 := rfl
    rw [e0]
    unfold Bm_worked_14
    unfold Gm_worked_329
    simp only [zletQ, zifQ, zifnQ]
    generalize rw14 12 (zn w14_3) = x
    have T : ∀ w, zFr [15, 16, 17, 18, 19, 20, 21, 22, 23, 24] rw14 (Gm_tests w rw14 q) := fun w => fm_tests
    have U : ∀ w, zFr [15, 16, 17, 18, 19, 20, 21, 22, 23, 24] rw14 (Gm_sums w rw14 q) := fun w => fm_sums
    have P : ∀ a b r1, zFr [15, 16, 17, 18, 19, 20, 21, 22, 23, 24] rw14 r1 → zFr [15, 16, 17, 18, 19, 20, 21, 22, 23, 24] rw14 (Gm_worked_14 q n a b r1).2 := fun a b r1 h => h.tr (ih a b r1) (by decide)
    have Q : ∀ w v r1, zFr [15, 16, 17, 18, 19, 20, 21, 22, 23, 24] rw14 r1 → zFr [15, 16, 17, 18, 19, 20, 21, 22, 23, 24] rw14 (Gm_worked_268 w14_3 (Gm_worked_14 q n) 6 w v r1).2 := fun w v r1 h => h.tr (fm_worked_268 ih 6 w v r1) (by decide)
    by_cases c0 : rw14 11 0 ≤ w14_3
    · rw [if_pos c0]; exact T _
    rw [if_neg c0]
    by_cases c28 : x = 28
    · rw [if_pos c28, if_neg (show ¬ x = 30 by rw [c28]; decide)]; exact P _ _ _ ((zFr.refl.set rfl).tr fm_opens (by decide))
    rw [if_neg c28]
    by_cases c30 : x = 30
    · rw [if_pos c30, if_pos c30]; exact P _ _ _ ((zFr.refl.set rfl).tr fm_opens (by decide))
    rw [if_neg c30]
    by_cases c20 : x = 20
    · rw [if_pos c20]; exact P _ _ _ ((U _).set rfl)
    rw [if_neg c20]
    by_cases c21 : x = 21
    · rw [if_pos c21]; exact P _ _ _ ((U _).set rfl)
    rw [if_neg c21]
    by_cases c22 : x = 22
    · rw [if_pos c22]; exact P _ _ _ (zFr.refl.set rfl)
    rw [if_neg c22]
    by_cases c24 : x = 24
    · rw [if_pos c24]; exact P _ _ _ (((((U _).set rfl).set rfl).set rfl).set rfl)
    rw [if_neg c24]
    by_cases c25 : x = 25
    · rw [if_pos c25]; exact P _ _ _ (((((U _).set rfl).set rfl).set rfl).set rfl)
    rw [if_neg c25]
    by_cases c26 : x = 26
    · rw [if_pos c26]; exact P _ _ _ ((T _).set rfl)
    rw [if_neg c26]
    by_cases c27 : x = 27
    · rw [if_pos c27]; exact P _ _ _ ((T _).set rfl)
    rw [if_neg c27]
    by_cases c29 : x = 29
    · rw [if_pos (show x < 100 by rw [c29]; decide), if_pos (show 20 ≤ x by rw [c29]; decide), if_pos c29]; exact Q _ _ _ (T _)
    by_cases c100 : x < 100
    · rw [if_pos c100]
      by_cases cc : 20 ≤ x
      · rw [if_pos cc, if_neg c29]; exact Q _ _ _ zFr.refl
      · rw [if_neg cc, if_neg c29]; exact Q _ _ _ zFr.refl
    · rw [if_neg c100, if_neg c29]; exact Q _ _ _ zFr.refl
theorem fm_worked {r : zRr} {q : zRq}  : zFr [15, 16, 17, 18, 19, 20, 21, 22, 23, 24] r (Gm_worked r q).2 := by
  unfold Gm_worked
  rw [zletQ]
  exact fm_opens.tr (fm_worked_14 1001 _ _ _) (by decide)
theorem fm_readsBeard {a1 : Int32} {a2 : Int32} {a3 : Int32} {r : zRr} {q : zRq}  : zFr [15, 16, 17, 18, 19, 20, 21, 22, 23, 24] r (Gm_readsBeard a1 a2 a3 r q).2 := by
  unfold Gm_readsBeard
  repeat (first | with_reducible exact zFr.refl | with_reducible refine fzif2 (fun h => ?_) (fun h => ?_) | with_reducible refine fzifn2 (fun h => ?_) (fun h => ?_) | with_reducible refine fzlet2 ?_ | with_reducible refine fzc2 ?_ | with_reducible refine fzq2 ?_ | with_reducible refine zFr.set ?_ ?_ | with_reducible refine zFr.tr ?_ (fm_worked) ?_ | decide)
theorem fm_letsHim_70 {r : zRr} {q : zRq} {w70_s0 : Int32} {w70_s1 : Int32} {w70_s2 : Int32}  : zFr [15, 16, 17, 18, 19, 20, 21, 22, 23, 24] r (Gm_letsHim_70 r q w70_s0 w70_s1 w70_s2).2 := by
  unfold Gm_letsHim_70
  repeat (first | with_reducible exact zFr.refl | with_reducible refine fzif2 (fun h => ?_) (fun h => ?_) | with_reducible refine fzifn2 (fun h => ?_) (fun h => ?_) | with_reducible refine fzlet2 ?_ | with_reducible refine fzc2 ?_ | with_reducible refine fzq2 ?_ | with_reducible refine zFr.set ?_ ?_ | with_reducible refine zFr.tr ?_ (fm_readsBeard) ?_ | decide)
theorem fm_letsHim {a1 : Int32} {a2 : Int32} {r : zRr} {q : zRq}  : zFr [15, 16, 17, 18, 19, 20, 21, 22, 23, 24] r (Gm_letsHim a1 a2 r q).2 := by
  unfold Gm_letsHim
  repeat (first | with_reducible exact zFr.refl | with_reducible refine fzif2 (fun h => ?_) (fun h => ?_) | with_reducible refine fzifn2 (fun h => ?_) (fun h => ?_) | with_reducible refine fzlet2 ?_ | with_reducible refine fzc2 ?_ | with_reducible refine fzq2 ?_ | with_reducible refine zFr.set ?_ ?_ | with_reducible refine zFr.tr ?_ (fm_letsHim_70) ?_ | decide)
theorem fm_speakersAt_59 {w5_3 : Int32} {w5_4 : Int32} {ih5 : Int32 → Int32 → zRr → (Int32 × zRr)} {w59_s0 : Int32} {rw59 : zRr} (hih5 : ∀ (x0 : Int32) (x1 : Int32) (x2 : zRr), zFr [15, 16, 17, 18, 19, 20, 21, 22, 23, 24] x2 (ih5 x0 x1 x2).2) : zFr [15, 16, 17, 18, 19, 20, 21, 22, 23, 24] rw59 (Gm_speakersAt_59 w5_3 w5_4 ih5 w59_s0 rw59).2 := by
  unfold Gm_speakersAt_59
  repeat (first | with_reducible exact zFr.refl | with_reducible refine fzif2 (fun h => ?_) (fun h => ?_) | with_reducible refine fzifn2 (fun h => ?_) (fun h => ?_) | with_reducible refine fzlet2 ?_ | with_reducible refine fzc2 ?_ | with_reducible refine fzq2 ?_ | with_reducible refine zFr.set ?_ ?_ | with_reducible refine zFr.tr ?_ (hih5 _ _ _) ?_ | decide)
theorem fm_speakersAt_58 {w5_3 : Int32} {w5_4 : Int32} {ih5 : Int32 → Int32 → zRr → (Int32 × zRr)} {rw58 : zRr} (hih5 : ∀ (x0 : Int32) (x1 : Int32) (x2 : zRr), zFr [15, 16, 17, 18, 19, 20, 21, 22, 23, 24] x2 (ih5 x0 x1 x2).2) : zFr [15, 16, 17, 18, 19, 20, 21, 22, 23, 24] rw58 (Gm_speakersAt_58 w5_3 w5_4 ih5 rw58).2 := by
  unfold Gm_speakersAt_58
  repeat (first | with_reducible exact zFr.refl | with_reducible refine fzif2 (fun h => ?_) (fun h => ?_) | with_reducible refine fzifn2 (fun h => ?_) (fun h => ?_) | with_reducible refine fzlet2 ?_ | with_reducible refine fzc2 ?_ | with_reducible refine fzq2 ?_ | with_reducible refine zFr.set ?_ ?_ | with_reducible refine zFr.tr ?_ (hih5 _ _ _) ?_ | with_reducible refine zFr.tr ?_ (fm_speakersAt_59 (hih5)) ?_ | decide)
theorem fm_speakersAt_5 {a1 : Int32} {a2 : Int32} {q : zRq}  : ∀ (n : Nat) (w5_3 : Int32) (w5_4 : Int32) (rw5 : zRr), zFr [15, 16, 17, 18, 19, 20, 21, 22, 23, 24] rw5 (Gm_speakersAt_5 a1 a2 q n w5_3 w5_4 rw5).2 := by
  intro n
  induction n with
  | zero => intro w5_3 w5_4 rw5; exact zFr.refl
  | succ n ih =>
    intro w5_3 w5_4 rw5
    have e0 : Gm_speakersAt_5 a1 a2 q (n + 1) w5_3 w5_4 rw5 = Bm_speakersAt_5 a1 a2 q (Gm_speakersAt_5 a1 a2 q n) w5_3 w5_4 rw5 := rfl
    rw [e0]
    unfold Bm_speakersAt_5
    repeat (first | with_reducible exact zFr.refl | with_reducible refine fzif2 (fun h => ?_) (fun h => ?_) | with_reducible refine fzifn2 (fun h => ?_) (fun h => ?_) | with_reducible refine fzlet2 ?_ | with_reducible refine fzc2 ?_ | with_reducible refine fzq2 ?_ | with_reducible refine zFr.set ?_ ?_ | with_reducible refine zFr.tr ?_ (ih _ _ _) ?_ | with_reducible refine zFr.tr ?_ (fm_speakersAt_58 (ih)) ?_ | with_reducible refine zFr.tr ?_ (fm_letsHim) ?_ | with_reducible refine zFr.tr ?_ (fm_speakersAt_59 (ih)) ?_ | decide)
theorem fm_speakersAt {a1 : Int32} {a2 : Int32} {r : zRr} {q : zRq}  : zFr [15, 16, 17, 18, 19, 20, 21, 22, 23, 24] r (Gm_speakersAt a1 a2 r q).2 := by
  unfold Gm_speakersAt
  repeat (first | with_reducible exact zFr.refl | with_reducible refine fzif2 (fun h => ?_) (fun h => ?_) | with_reducible refine fzifn2 (fun h => ?_) (fun h => ?_) | with_reducible refine fzlet2 ?_ | with_reducible refine fzc2 ?_ | with_reducible refine fzq2 ?_ | with_reducible refine zFr.set ?_ ?_ | with_reducible refine zFr.tr ?_ (fm_speakersAt_5 _ _ _ _) ?_ | decide)
theorem fm_lets {a1 : Int32} {a2 : Int32} {a3 : Int32} {r : zRr} {q : zRq}  : zFr [15, 16, 17, 18, 19, 20, 21, 22, 23, 24] r (Gm_lets a1 a2 a3 r q).2 := by
  unfold Gm_lets
  repeat (first | with_reducible exact zFr.refl | with_reducible refine fzif2 (fun h => ?_) (fun h => ?_) | with_reducible refine fzifn2 (fun h => ?_) (fun h => ?_) | with_reducible refine fzlet2 ?_ | with_reducible refine fzc2 ?_ | with_reducible refine fzq2 ?_ | with_reducible refine zFr.set ?_ ?_ | with_reducible refine zFr.tr ?_ (fm_letsHim) ?_ | with_reducible refine zFr.tr ?_ (fm_speakersAt) ?_ | decide)
theorem fm_canGo {a1 : Int32} {a2 : Int32} {r : zRr} {q : zRq}  : zFr [15, 16, 17, 18, 19, 20, 21, 22, 23, 24] r (Gm_canGo a1 a2 r q).2 := by
  unfold Gm_canGo
  repeat (first | with_reducible exact zFr.refl | with_reducible refine fzif2 (fun h => ?_) (fun h => ?_) | with_reducible refine fzifn2 (fun h => ?_) (fun h => ?_) | with_reducible refine fzlet2 ?_ | with_reducible refine fzc2 ?_ | with_reducible refine fzq2 ?_ | with_reducible refine zFr.set ?_ ?_ | with_reducible refine zFr.tr ?_ (fm_lets) ?_ | decide)
theorem fm_goes {a1 : Int32} {a2 : Int32} {r : zRr} {q : zRq}  : zFr [32] r (Gm_goes a1 a2 r q) := by
  unfold Gm_goes
  repeat (first | with_reducible exact zFr.refl | with_reducible refine fzif1 (fun h => ?_) (fun h => ?_) | with_reducible refine fzifn1 (fun h => ?_) (fun h => ?_) | with_reducible refine fzlet1 ?_ | with_reducible refine fzc1 ?_ | with_reducible refine fzq1 ?_ | with_reducible refine zFr.set ?_ ?_ | decide)
theorem fm_forges {a1 : Int32} {a2 : Int32} {r : zRr} {q : zRq}  : zFr [32] r (Gm_forges a1 a2 r q) := by
  unfold Gm_forges
  repeat (first | with_reducible exact zFr.refl | with_reducible refine fzif1 (fun h => ?_) (fun h => ?_) | with_reducible refine fzifn1 (fun h => ?_) (fun h => ?_) | with_reducible refine fzlet1 ?_ | with_reducible refine fzc1 ?_ | with_reducible refine fzq1 ?_ | with_reducible refine zFr.set ?_ ?_ | decide)
theorem fm_shaves {a1 : Int32} {r : zRr} {q : zRq}  : zFr [32] r (Gm_shaves a1 r q) := by
  unfold Gm_shaves
  repeat (first | with_reducible exact zFr.refl | with_reducible refine fzif1 (fun h => ?_) (fun h => ?_) | with_reducible refine fzifn1 (fun h => ?_) (fun h => ?_) | with_reducible refine fzlet1 ?_ | with_reducible refine fzc1 ?_ | with_reducible refine fzq1 ?_ | with_reducible refine zFr.set ?_ ?_ | decide)
theorem fm_passes_52 {w2_1 : Int32} {ih2 : Int32 → zRr → zRr} {rw52 : zRr} (hih2 : ∀ (x0 : Int32) (x1 : zRr), zFr [32] x1 (ih2 x0 x1)) : zFr [32] rw52 (Gm_passes_52 w2_1 ih2 rw52) := by
  unfold Gm_passes_52
  repeat (first | with_reducible exact zFr.refl | with_reducible refine fzif1 (fun h => ?_) (fun h => ?_) | with_reducible refine fzifn1 (fun h => ?_) (fun h => ?_) | with_reducible refine fzlet1 ?_ | with_reducible refine fzc1 ?_ | with_reducible refine fzq1 ?_ | with_reducible refine zFr.set ?_ ?_ | with_reducible refine zFr.tr ?_ (hih2 _ _) ?_ | decide)
theorem fm_passes_2   : ∀ (n : Nat) (w2_1 : Int32) (rw2 : zRr), zFr [32] rw2 (Gm_passes_2 n w2_1 rw2) := by
  intro n
  induction n with
  | zero => intro w2_1 rw2; exact zFr.refl
  | succ n ih =>
    intro w2_1 rw2
    have e0 : Gm_passes_2 (n + 1) w2_1 rw2 = Bm_passes_2 (Gm_passes_2 n) w2_1 rw2 := rfl
    rw [e0]
    unfold Bm_passes_2
    repeat (first | with_reducible exact zFr.refl | with_reducible refine fzif1 (fun h => ?_) (fun h => ?_) | with_reducible refine fzifn1 (fun h => ?_) (fun h => ?_) | with_reducible refine fzlet1 ?_ | with_reducible refine fzc1 ?_ | with_reducible refine fzq1 ?_ | with_reducible refine zFr.set ?_ ?_ | with_reducible refine zFr.tr ?_ (ih _ _) ?_ | with_reducible refine zFr.tr ?_ (fm_passes_52 (ih)) ?_ | decide)
theorem fm_passes {r : zRr} {q : zRq}  : zFr [32] r (Gm_passes r q) := by
  unfold Gm_passes
  repeat (first | with_reducible exact zFr.refl | with_reducible refine fzif1 (fun h => ?_) (fun h => ?_) | with_reducible refine fzifn1 (fun h => ?_) (fun h => ?_) | with_reducible refine fzlet1 ?_ | with_reducible refine fzc1 ?_ | with_reducible refine fzq1 ?_ | with_reducible refine zFr.set ?_ ?_ | with_reducible refine zFr.tr ?_ (fm_passes_2 _ _ _) ?_ | decide)
theorem fm_spreads_87 {w5_4 : Int32} {ih5 : Int32 → Int32 → zRr → (Int32 × zRr)} {w87_3 : Int32} {rw87 : zRr} (hih5 : ∀ (x0 : Int32) (x1 : Int32) (x2 : zRr), zFr [15, 16, 17, 18, 19, 20, 21, 22, 23, 24] x2 (ih5 x0 x1 x2).2) : zFr [15, 16, 17, 18, 19, 20, 21, 22, 23, 24] rw87 (Gm_spreads_87 w5_4 ih5 w87_3 rw87).2 := by
  unfold Gm_spreads_87
  repeat (first | with_reducible exact zFr.refl | with_reducible refine fzif2 (fun h => ?_) (fun h => ?_) | with_reducible refine fzifn2 (fun h => ?_) (fun h => ?_) | with_reducible refine fzlet2 ?_ | with_reducible refine fzc2 ?_ | with_reducible refine fzq2 ?_ | with_reducible refine zFr.set ?_ ?_ | with_reducible refine zFr.tr ?_ (hih5 _ _ _) ?_ | decide)
theorem fm_spreads_79 {w31_3 : Int32} {w31_5 : Int32} {ih31 : Int32 → Int32 → zRr → (Int32 × zRr)} {w79_s0 : Int32} {rw79 : zRr} (hih31 : ∀ (x0 : Int32) (x1 : Int32) (x2 : zRr), zFr [15, 16, 17, 18, 19, 20, 21, 22, 23, 24] x2 (ih31 x0 x1 x2).2) : zFr [15, 16, 17, 18, 19, 20, 21, 22, 23, 24] rw79 (Gm_spreads_79 w31_3 w31_5 ih31 w79_s0 rw79).2 := by
  unfold Gm_spreads_79
  repeat (first | with_reducible exact zFr.refl | with_reducible refine fzif2 (fun h => ?_) (fun h => ?_) | with_reducible refine fzifn2 (fun h => ?_) (fun h => ?_) | with_reducible refine fzlet2 ?_ | with_reducible refine fzc2 ?_ | with_reducible refine fzq2 ?_ | with_reducible refine zFr.set ?_ ?_ | with_reducible refine zFr.tr ?_ (hih31 _ _ _) ?_ | decide)
theorem fm_spreads_78 {w31_3 : Int32} {w31_5 : Int32} {ih31 : Int32 → Int32 → zRr → (Int32 × zRr)} {rw78 : zRr} (hih31 : ∀ (x0 : Int32) (x1 : Int32) (x2 : zRr), zFr [15, 16, 17, 18, 19, 20, 21, 22, 23, 24] x2 (ih31 x0 x1 x2).2) : zFr [15, 16, 17, 18, 19, 20, 21, 22, 23, 24] rw78 (Gm_spreads_78 w31_3 w31_5 ih31 rw78).2 := by
  unfold Gm_spreads_78
  repeat (first | with_reducible exact zFr.refl | with_reducible refine fzif2 (fun h => ?_) (fun h => ?_) | with_reducible refine fzifn2 (fun h => ?_) (fun h => ?_) | with_reducible refine fzlet2 ?_ | with_reducible refine fzc2 ?_ | with_reducible refine fzq2 ?_ | with_reducible refine zFr.set ?_ ?_ | with_reducible refine zFr.tr ?_ (hih31 _ _ _) ?_ | with_reducible refine zFr.tr ?_ (fm_spreads_79 (hih31)) ?_ | decide)
theorem fm_spreads_31 {a1 : Int32} {q : zRq} {w5_4 : Int32} {ih5 : Int32 → Int32 → zRr → (Int32 × zRr)} (hih5 : ∀ (x0 : Int32) (x1 : Int32) (x2 : zRr), zFr [15, 16, 17, 18, 19, 20, 21, 22, 23, 24] x2 (ih5 x0 x1 x2).2) : ∀ (n : Nat) (w31_3 : Int32) (w31_5 : Int32) (rw31 : zRr), zFr [15, 16, 17, 18, 19, 20, 21, 22, 23, 24] rw31 (Gm_spreads_31 a1 q w5_4 ih5 n w31_3 w31_5 rw31).2 := by
  intro n
  induction n with
  | zero => intro w31_3 w31_5 rw31; exact zFr.refl
  | succ n ih =>
    intro w31_3 w31_5 rw31
    have e0 : Gm_spreads_31 a1 q w5_4 ih5 (n + 1) w31_3 w31_5 rw31 = Bm_spreads_31 a1 q w5_4 ih5 (Gm_spreads_31 a1 q w5_4 ih5 n) w31_3 w31_5 rw31 := rfl
    rw [e0]
    unfold Bm_spreads_31
    repeat (first | with_reducible exact zFr.refl | with_reducible refine fzif2 (fun h => ?_) (fun h => ?_) | with_reducible refine fzifn2 (fun h => ?_) (fun h => ?_) | with_reducible refine fzlet2 ?_ | with_reducible refine fzc2 ?_ | with_reducible refine fzq2 ?_ | with_reducible refine zFr.set ?_ ?_ | with_reducible refine zFr.tr ?_ (ih _ _ _) ?_ | with_reducible refine zFr.tr ?_ (hih5 _ _ _) ?_ | with_reducible refine zFr.tr ?_ (fm_spreads_87 (hih5)) ?_ | with_reducible refine zFr.tr ?_ (fm_spreads_78 (ih)) ?_ | with_reducible refine zFr.tr ?_ (fm_lets) ?_ | with_reducible refine zFr.tr ?_ (fm_spreads_79 (ih)) ?_ | decide)
theorem fm_spreads_5 {a1 : Int32} {a2 : Int32} {q : zRq}  : ∀ (n : Nat) (w5_3 : Int32) (w5_4 : Int32) (rw5 : zRr), zFr [15, 16, 17, 18, 19, 20, 21, 22, 23, 24] rw5 (Gm_spreads_5 a1 a2 q n w5_3 w5_4 rw5).2 := by
  intro n
  induction n with
  | zero => intro w5_3 w5_4 rw5; exact zFr.refl
  | succ n ih =>
    intro w5_3 w5_4 rw5
    have e0 : Gm_spreads_5 a1 a2 q (n + 1) w5_3 w5_4 rw5 = Bm_spreads_5 a1 a2 q (Gm_spreads_5 a1 a2 q n) w5_3 w5_4 rw5 := rfl
    rw [e0]
    unfold Bm_spreads_5
    repeat (first | with_reducible exact zFr.refl | with_reducible refine fzif2 (fun h => ?_) (fun h => ?_) | with_reducible refine fzifn2 (fun h => ?_) (fun h => ?_) | with_reducible refine fzlet2 ?_ | with_reducible refine fzc2 ?_ | with_reducible refine fzq2 ?_ | with_reducible refine zFr.set ?_ ?_ | with_reducible refine zFr.tr ?_ (ih _ _ _) ?_ | with_reducible refine zFr.tr ?_ (fm_spreads_31 (ih) _ _ _ _) ?_ | with_reducible refine zFr.tr ?_ (fm_spreads_87 (ih)) ?_ | decide)
theorem fm_spreads {a1 : Int32} {a2 : Int32} {r : zRr} {q : zRq}  : zFr [15, 16, 17, 18, 19, 20, 21, 22, 23, 24] r (Gm_spreads a1 a2 r q).2 := by
  unfold Gm_spreads
  repeat (first | with_reducible exact zFr.refl | with_reducible refine fzif2 (fun h => ?_) (fun h => ?_) | with_reducible refine fzifn2 (fun h => ?_) (fun h => ?_) | with_reducible refine fzlet2 ?_ | with_reducible refine fzc2 ?_ | with_reducible refine fzq2 ?_ | with_reducible refine zFr.set ?_ ?_ | with_reducible refine zFr.tr ?_ (fm_spreads_5 _ _ _ _) ?_ | decide)
theorem fm_reachFrom_5 {a1 : Int32} {q : zRq}  : ∀ (n : Nat) (w5_3 : Int32) (w5_4 : Int32) (rw5 : zRr), zFr [15, 16, 17, 18, 19, 20, 21, 22, 23, 24] rw5 (Gm_reachFrom_5 a1 q n w5_3 w5_4 rw5).2 := by
  intro n
  induction n with
  | zero => intro w5_3 w5_4 rw5; exact zFr.refl
  | succ n ih =>
    intro w5_3 w5_4 rw5
    have e0 : Gm_reachFrom_5 a1 q (n + 1) w5_3 w5_4 rw5 = Bm_reachFrom_5 a1 q (Gm_reachFrom_5 a1 q n) w5_3 w5_4 rw5 := rfl
    rw [e0]
    unfold Bm_reachFrom_5
    repeat (first | with_reducible exact zFr.refl | with_reducible refine fzif2 (fun h => ?_) (fun h => ?_) | with_reducible refine fzifn2 (fun h => ?_) (fun h => ?_) | with_reducible refine fzlet2 ?_ | with_reducible refine fzc2 ?_ | with_reducible refine fzq2 ?_ | with_reducible refine zFr.set ?_ ?_ | with_reducible refine zFr.tr ?_ (ih _ _ _) ?_ | with_reducible refine zFr.tr ?_ (fm_spreads) ?_ | decide)
theorem fm_reachFrom {a1 : Int32} {a2 : Int32} {r : zRr} {q : zRq}  : zFr [15, 16, 17, 18, 19, 20, 21, 22, 23, 24] r (Gm_reachFrom a1 a2 r q).2 := by
  unfold Gm_reachFrom
  exact fm_reachFrom_5 64 _ _ _
theorem fm_follows {a1 : Int32} {r : zRr} {q : zRq}  : zFr [15, 16, 17, 18, 19, 20, 21, 22, 23, 24, 32] r (Gm_follows a1 r q).2 := by
  unfold Gm_follows
  simp only [zletQ, zifnQ, zc_vrQ]
  split
  · split
    · exact fm_canGo.up (by decide)
    · exact (fm_canGo.up (by decide)).tr (fm_goes (q := q)) (by decide)
  · split
    · split
      · exact zFr.refl
      · exact (fm_forges (q := q)).up (by decide)
    · split
      · exact (fm_shaves (q := q)).up (by decide)
      · exact (fm_passes (q := q)).up (by decide)
theorem fm_roams_162 {w25_5 : Int32} {ih25 : Int32 → Int32 → Int32 → zRr → (Int32 × zRr)} {w162_3 : Int32} {w162_4 : Int32} {rw162 : zRr} (hih25 : ∀ (x0 : Int32) (x1 : Int32) (x2 : Int32) (x3 : zRr), zFr [15, 16, 17, 18, 19, 20, 21, 22, 23, 24, 38] x3 (ih25 x0 x1 x2 x3).2) : zFr [15, 16, 17, 18, 19, 20, 21, 22, 23, 24, 38] rw162 (Gm_roams_162 w25_5 ih25 w162_3 w162_4 rw162).2 := by
  unfold Gm_roams_162
  repeat (first | with_reducible exact zFr.refl | with_reducible refine fzif2 (fun h => ?_) (fun h => ?_) | with_reducible refine fzifn2 (fun h => ?_) (fun h => ?_) | with_reducible refine fzlet2 ?_ | with_reducible refine fzc2 ?_ | with_reducible refine fzq2 ?_ | with_reducible refine zFr.set ?_ ?_ | with_reducible refine zFr.tr ?_ (hih25 _ _ _ _) ?_ | decide)
theorem fm_roams_156 {w77_4 : Int32} {w77_6 : Int32} {w77_7 : Int32} {ih77 : Int32 → Int32 → Int32 → Int32 → zRr → (Int32 × zRr)} {w156_3 : Int32} {rw156 : zRr} (hih77 : ∀ (x0 : Int32) (x1 : Int32) (x2 : Int32) (x3 : Int32) (x4 : zRr), zFr [15, 16, 17, 18, 19, 20, 21, 22, 23, 24, 38] x4 (ih77 x0 x1 x2 x3 x4).2) : zFr [15, 16, 17, 18, 19, 20, 21, 22, 23, 24, 38] rw156 (Gm_roams_156 w77_4 w77_6 w77_7 ih77 w156_3 rw156).2 := by
  unfold Gm_roams_156
  repeat (first | with_reducible exact zFr.refl | with_reducible refine fzif2 (fun h => ?_) (fun h => ?_) | with_reducible refine fzifn2 (fun h => ?_) (fun h => ?_) | with_reducible refine fzlet2 ?_ | with_reducible refine fzc2 ?_ | with_reducible refine fzq2 ?_ | with_reducible refine zFr.set ?_ ?_ | with_reducible refine zFr.tr ?_ (hih77 _ _ _ _ _) ?_ | decide)
theorem fm_roams_77 {a1 : Int32} {q : zRq} {w25_5 : Int32} {ih25 : Int32 → Int32 → Int32 → zRr → (Int32 × zRr)} (hih25 : ∀ (x0 : Int32) (x1 : Int32) (x2 : Int32) (x3 : zRr), zFr [15, 16, 17, 18, 19, 20, 21, 22, 23, 24, 38] x3 (ih25 x0 x1 x2 x3).2) : ∀ (n : Nat) (w77_3 : Int32) (w77_4 : Int32) (w77_6 : Int32) (w77_7 : Int32) (rw77 : zRr), zFr [15, 16, 17, 18, 19, 20, 21, 22, 23, 24, 38] rw77 (Gm_roams_77 a1 q w25_5 ih25 n w77_3 w77_4 w77_6 w77_7 rw77).2 := by
  intro n
  induction n with
  | zero => intro w77_3 w77_4 w77_6 w77_7 rw77; exact zFr.refl
  | succ n ih =>
    intro w77_3 w77_4 w77_6 w77_7 rw77
    have e0 : Gm_roams_77 a1 q w25_5 ih25 (n + 1) w77_3 w77_4 w77_6 w77_7 rw77 = Bm_roams_77 a1 q w25_5 ih25 (Gm_roams_77 a1 q w25_5 ih25 n) w77_3 w77_4 w77_6 w77_7 rw77 := rfl
    rw [e0]
    unfold Bm_roams_77
    repeat (first | with_reducible exact zFr.refl | with_reducible refine fzif2 (fun h => ?_) (fun h => ?_) | with_reducible refine fzifn2 (fun h => ?_) (fun h => ?_) | with_reducible refine fzlet2 ?_ | with_reducible refine fzc2 ?_ | with_reducible refine fzq2 ?_ | with_reducible refine zFr.set ?_ ?_ | with_reducible refine zFr.tr ?_ (ih _ _ _ _ _) ?_ | with_reducible refine zFr.tr ?_ (hih25 _ _ _ _) ?_ | with_reducible refine zFr.tr ?_ (fm_roams_162 (hih25)) ?_ | with_reducible refine zFr.tr ?_ (fm_roams_156 (ih)) ?_ | with_reducible refine zFr.tr ?_ (fm_lets) ?_ | decide)
theorem fm_roams_72 {a1 : Int32} {q : zRq} {w25_3 : Int32} {w25_5 : Int32} {rw25 : zRr} {ih25 : Int32 → Int32 → Int32 → zRr → (Int32 × zRr)} {w72_6 : Int32} {w72_s0 : Int32} (hih25 : ∀ (x0 : Int32) (x1 : Int32) (x2 : Int32) (x3 : zRr), zFr [15, 16, 17, 18, 19, 20, 21, 22, 23, 24, 38] x3 (ih25 x0 x1 x2 x3).2) : zFr [15, 16, 17, 18, 19, 20, 21, 22, 23, 24, 38] rw25 (Gm_roams_72 a1 q w25_3 w25_5 rw25 ih25 w72_6 w72_s0).2 := by
  unfold Gm_roams_72
  repeat (first | with_reducible exact zFr.refl | with_reducible refine fzif2 (fun h => ?_) (fun h => ?_) | with_reducible refine fzifn2 (fun h => ?_) (fun h => ?_) | with_reducible refine fzlet2 ?_ | with_reducible refine fzc2 ?_ | with_reducible refine fzq2 ?_ | with_reducible refine zFr.set ?_ ?_ | with_reducible refine zFr.tr ?_ (hih25 _ _ _ _) ?_ | with_reducible refine zFr.tr ?_ (fm_roams_77 (hih25) _ _ _ _ _ _) ?_ | decide)
theorem fm_roams_67 {a1 : Int32} {q : zRq} {w25_3 : Int32} {w25_5 : Int32} {rw25 : zRr} {ih25 : Int32 → Int32 → Int32 → zRr → (Int32 × zRr)} {w67_6 : Int32} (hih25 : ∀ (x0 : Int32) (x1 : Int32) (x2 : Int32) (x3 : zRr), zFr [15, 16, 17, 18, 19, 20, 21, 22, 23, 24, 38] x3 (ih25 x0 x1 x2 x3).2) : zFr [15, 16, 17, 18, 19, 20, 21, 22, 23, 24, 38] rw25 (Gm_roams_67 a1 q w25_3 w25_5 rw25 ih25 w67_6).2 := by
  unfold Gm_roams_67
  repeat (first | with_reducible exact zFr.refl | with_reducible refine fzif2 (fun h => ?_) (fun h => ?_) | with_reducible refine fzifn2 (fun h => ?_) (fun h => ?_) | with_reducible refine fzlet2 ?_ | with_reducible refine fzc2 ?_ | with_reducible refine fzq2 ?_ | with_reducible refine zFr.set ?_ ?_ | with_reducible refine zFr.tr ?_ (hih25 _ _ _ _) ?_ | with_reducible refine zFr.tr ?_ (fm_roams_72 (hih25)) ?_ | decide)
theorem fm_roams_25 {a1 : Int32} {q : zRq} {w16_2 : Int32} {ih16 : Int32 → Int32 → Int32 → zRr → (Int32 × zRr)} (hih16 : ∀ (x0 : Int32) (x1 : Int32) (x2 : Int32) (x3 : zRr), zFr [15, 16, 17, 18, 19, 20, 21, 22, 23, 24, 38] x3 (ih16 x0 x1 x2 x3).2) : ∀ (n : Nat) (w25_3 : Int32) (w25_4 : Int32) (w25_5 : Int32) (rw25 : zRr), zFr [15, 16, 17, 18, 19, 20, 21, 22, 23, 24, 38] rw25 (Gm_roams_25 a1 q w16_2 ih16 n w25_3 w25_4 w25_5 rw25).2 := by
  intro n
  induction n with
  | zero => intro w25_3 w25_4 w25_5 rw25; exact zFr.refl
  | succ n ih =>
    intro w25_3 w25_4 w25_5 rw25
    have e0 : Gm_roams_25 a1 q w16_2 ih16 (n + 1) w25_3 w25_4 w25_5 rw25 = Bm_roams_25 a1 q w16_2 ih16 (Gm_roams_25 a1 q w16_2 ih16 n) w25_3 w25_4 w25_5 rw25 := rfl
    rw [e0]
    unfold Bm_roams_25
    simp only [zletQ, zifQ, zifnQ]
    split
    · exact hih16 _ _ _ _
    · split
      · exact fm_roams_162 ih
      · split
        · split
          · exact fm_roams_67 ih
          · exact fm_roams_72 ih
        · exact fm_roams_67 ih
theorem fm_roams_16 {a1 : Int32} {q : zRq}  : ∀ (n : Nat) (w16_2 : Int32) (w16_3 : Int32) (w16_4 : Int32) (rw16 : zRr), zFr [15, 16, 17, 18, 19, 20, 21, 22, 23, 24, 38] rw16 (Gm_roams_16 a1 q n w16_2 w16_3 w16_4 rw16).2 := by
  intro n
  induction n with
  | zero => intro w16_2 w16_3 w16_4 rw16; exact zFr.refl
  | succ n ih =>
    intro w16_2 w16_3 w16_4 rw16
    have e0 : Gm_roams_16 a1 q (n + 1) w16_2 w16_3 w16_4 rw16 = Bm_roams_16 a1 q (Gm_roams_16 a1 q n) w16_2 w16_3 w16_4 rw16 := rfl
    rw [e0]
    unfold Bm_roams_16
    exact fzif2 (fun _ => zFr.refl) (fun _ => fm_roams_25 ih 385 _ _ _ _)
theorem fm_roams {a1 : Int32} {r : zRr} {q : zRq}  : zFr [15, 16, 17, 18, 19, 20, 21, 22, 23, 24, 38] r (Gm_roams a1 r q).2 := by
  unfold Gm_roams
  rw [zletQ, zletQ, zletQ]
  exact fm_roams_16 386 _ _ _ _
theorem fm_livesWeek_96 {w2_1 : Int32} {ih2 : Int32 → zRr → zRq → (zRr × zRq)} {rw96 : zRr} {qw96 : zRq} (hih2 : ∀ (x0 : Int32) (x1 : zRr) (x2 : zRq), zFr [15, 16, 17, 18, 19, 20, 21, 22, 23, 24, 32, 155, 156] x1 (ih2 x0 x1 x2).1) : zFr [15, 16, 17, 18, 19, 20, 21, 22, 23, 24, 32, 155, 156] rw96 (Gm_livesWeek_96 w2_1 ih2 rw96 qw96).1 := by
  unfold Gm_livesWeek_96
  repeat (first | with_reducible exact zFr.refl | with_reducible refine fzif3 (fun h => ?_) (fun h => ?_) | with_reducible refine fzifn3 (fun h => ?_) (fun h => ?_) | with_reducible refine fzlet3 ?_ | with_reducible refine fzc3 ?_ | with_reducible refine fzq3 ?_ | with_reducible refine zFr.set ?_ ?_ | with_reducible refine zFr.tr ?_ (hih2 _ _ _) ?_ | decide)
theorem fm_livesWeek_82 {w2_1 : Int32} {ih2 : Int32 → zRr → zRq → (zRr × zRq)} {rw82 : zRr} {qw82 : zRq} (hih2 : ∀ (x0 : Int32) (x1 : zRr) (x2 : zRq), zFr [15, 16, 17, 18, 19, 20, 21, 22, 23, 24, 32, 155, 156] x1 (ih2 x0 x1 x2).1) : zFr [15, 16, 17, 18, 19, 20, 21, 22, 23, 24, 32, 155, 156] rw82 (Gm_livesWeek_82 w2_1 ih2 rw82 qw82).1 := by
  unfold Gm_livesWeek_82
  rw [zc_vqQ]
  generalize Gm_draws20 rw82 qw82 = o
  simp only [zifnQ, zletQ]
  split
  · exact ((fm_shaves (q := o.2)).up (by decide)).tr (fm_livesWeek_96 hih2) (by decide)
  · exact fm_livesWeek_96 hih2
theorem fm_livesWeek_2   : ∀ (n : Nat) (w2_1 : Int32) (rw2 : zRr) (qw2 : zRq), zFr [15, 16, 17, 18, 19, 20, 21, 22, 23, 24, 32, 155, 156] rw2 (Gm_livesWeek_2 n w2_1 rw2 qw2).1 := by
  intro n
  induction n with
  | zero => intro w2_1 rw2 qw2; exact zFr.refl
  | succ n ih =>
    intro w2_1 rw2 qw2
    have e0 : Gm_livesWeek_2 (n + 1) w2_1 rw2 qw2 = Bm_livesWeek_2 (Gm_livesWeek_2 n) w2_1 rw2 qw2 := rfl
    rw [e0]
    unfold Bm_livesWeek_2
    simp only [zletQ, zifQ, zifnQ]
    split
    · exact (fm_passes (q := qw2)).up (by decide)
    · rw [zc_vqQ]
      generalize Gm_draws (rw2 1 0) rw2 qw2 = o
      split
      · rw [zc_vrQ]
        have f := (fm_canGo (a1 := w2_1) (a2 := o.1) (r := rw2) (q := o.2)).up (M := [15, 16, 17, 18, 19, 20, 21, 22, 23, 24, 32, 155, 156]) (by decide)
        generalize Gm_canGo w2_1 o.1 rw2 o.2 = oc at f ⊢
        split
        · exact (f.set rfl).tr (fm_livesWeek_82 ih) (by decide)
        · exact ((f.tr (fm_goes (q := o.2)) (by decide)).set rfl).tr (fm_livesWeek_82 ih) (by decide)
      · exact fm_livesWeek_82 ih
theorem fm_livesWeek {r : zRr} {q : zRq}  : zFr [15, 16, 17, 18, 19, 20, 21, 22, 23, 24, 32, 155, 156] r (Gm_livesWeek r q).1 := by
  unfold Gm_livesWeek
  repeat (first | with_reducible exact zFr.refl | with_reducible refine fzif3 (fun h => ?_) (fun h => ?_) | with_reducible refine fzifn3 (fun h => ?_) (fun h => ?_) | with_reducible refine fzlet3 ?_ | with_reducible refine fzc3 ?_ | with_reducible refine fzq3 ?_ | with_reducible refine zFr.set ?_ ?_ | with_reducible refine zFr.tr ?_ (fm_livesWeek_2 _ _ _ _) ?_ | decide)
section
/-! ===== what a law comes to: by its tree ===== -/
theorem xopens {w : Nat} {r : zRr} {q : zRq} (hw : w ≤ 5) : xLv w r (Gm_opens (nI w) r q) ∧ Gm_opens (nI w) r q 16 w = 0 ∧ Gm_opens (nI w) r q 18 w = 0 ∧ Gm_opens (nI w) r q 19 w = 0 ∧ Gm_opens (nI w) r q 20 w = 20 ∧ Gm_opens (nI w) r q 22 w = 0 ∧ Gm_opens (nI w) r q 23 = r 23 := by
  unfold Gm_opens
  simp only [zletQ, xzn (show w < 2 ^ 31 by omega)]
  refine ⟨((((xLv.refl.set (by decide) (Nat.le_refl _)).set (by decide) (Nat.le_refl _)).set (by decide) (Nat.le_refl _)).set (by decide) (Nat.le_refl _)).set (by decide) (Nat.le_refl _), ?_, ?_, ?_, ?_, ?_, ?_⟩
  · rw [zset_ne (by decide), zset_ne (by decide), zset_ne (by decide), zset_ne (by decide), zset_eq, pk_us]
  · rw [zset_ne (by decide), zset_ne (by decide), zset_ne (by decide), zset_eq, pk_us]
  · rw [zset_ne (by decide), zset_ne (by decide), zset_eq, pk_us]
  · rw [zset_ne (by decide), zset_eq, pk_us]
  · rw [zset_eq, pk_us]
  · rw [zset_ne (by decide), zset_ne (by decide), zset_ne (by decide), zset_ne (by decide), zset_ne (by decide)]
noncomputable def xM0 (q : zRq) (M d : Nat) (P : Nat → Int32) (F : List Int32) (v : Int32) : Prop := ∀ (n w p : Nat) (rm : zRr), rm 11 0 = nI M → xAt (rm 12) M p F → xPar P rm → w + d ≤ 5 → ∃ rm1, xLv (w + 1) rm rm1 ∧ Gm_worked_14 q (n + F.length) (nI w) (nI p) rm = xPop (nI (p + F.length - 1)) (Gm_worked_14 q n) w v rm1
/-- what is wanted before, what holds then: a PRODUCT, a SUM, a TEST, an E -/
noncomputable def xPre (lev w : Nat) (r : zRr) : Prop := r 22 w = 0 ∧ (2 ≤ lev → r 19 w = 0 ∧ r 20 w = 20) ∧ (3 ≤ lev → r 18 w = 0) ∧ (4 ≤ lev → r 16 w = 0)
noncomputable def xVl (lev w : Nat) (r : zRr) : Int32 := if lev = 1 then r 21 w else if lev = 2 then xSv w r else if lev = 3 then xTv w r else xWv w r
noncomputable def xKp (lev w : Nat) (r r1 : zRr) : Prop := r1 23 w = r 23 w ∧ (lev ≤ 3 → r1 15 w = r 15 w ∧ r1 16 w = r 16 w) ∧ (lev ≤ 2 → r1 17 w = r 17 w ∧ r1 18 w = r 18 w) ∧ (lev ≤ 1 → r1 19 w = r 19 w ∧ r1 20 w = r 20 w)
noncomputable def xMl (q : zRq) (M d : Nat) (P : Nat → Int32) (lev : Nat) (F : List Int32) (v : Int32) : Prop := ∀ (n w p : Nat) (rm : zRr), rm 11 0 = nI M → xAt (rm 12) M p F → xPar P rm → w + d ≤ 5 → xBs w rm → xPre lev w rm → ∃ rm1, xLv w rm rm1 ∧ xKp lev w rm rm1 ∧ xVl lev w rm1 = v ∧ Gm_worked_14 q (n + F.length) (nI w) (nI p) rm = Gm_worked_14 q n (nI w) (nI (p + F.length)) rm1
section XTR
variable {q : zRq} {M d : Nat} {P : Nat → Int32} {F : List Int32} {v : Int32}
/-- a PART is a PRODUCT -/
theorem xM0.up (hM : M ≤ 1000) (hF : 1 ≤ F.length) (h : xM0 q M d P F v) : xMl q M d P 1 F v := by
  intro n w p rm h11 hA hP hw hB hpre
  obtain ⟨rm1, l1, e1⟩ := h n w p rm h11 hA hP hw
  have hB1 : w = 0 ∨ ¬ rm1 23 w = 1 := by rw [l1.2 23 w (by omega)]; exact hB
  have hlen := hA.1
  refine ⟨zset rm1 21 (upd (rm1 21) w v), (l1.lo (by omega)).set (by decide) (Nat.le_refl _), ⟨?_, fun _ => ⟨?_, ?_⟩, fun _ => ⟨?_, ?_⟩, fun _ => ⟨?_, ?_⟩⟩, ?_, ?_⟩
  · rw [zset_ne (by decide)]; exact l1.2 23 w (by omega)
  · rw [zset_ne (by decide)]; exact l1.2 15 w (by omega)
  · rw [zset_ne (by decide)]; exact l1.2 16 w (by omega)
  · rw [zset_ne (by decide)]; exact l1.2 17 w (by omega)
  · rw [zset_ne (by decide)]; exact l1.2 18 w (by omega)
  · rw [zset_ne (by decide)]; exact l1.2 19 w (by omega)
  · rw [zset_ne (by decide)]; exact l1.2 20 w (by omega)
  · unfold xVl; rw [if_pos rfl, zset_eq, pk_us]
  · rw [e1, xPop.base hB1]
    have e22 : rm1 22 w = 0 := (l1.2 22 w (by omega)).trans hpre.1
    unfold Gm_worked_300 Gm_worked_328 Gm_worked_329
    simp only [zifnQ, zletQ, xzn (show w < 2 ^ 31 by omega), if_pos e22, nI_1, show p + F.length - 1 + 1 = p + F.length by omega]
/-- a level higher -/
theorem xMl.up {lev : Nat} (hl : 1 ≤ lev ∧ lev ≤ 3) (h : xMl q M d P lev F v) : xMl q M d P (lev + 1) F v := by
  intro n w p rm h11 hA hP hw hB hpre
  obtain ⟨p1, p2, p3, p4⟩ := hpre
  obtain ⟨rm1, l1, ⟨k1, k2, k3, k4⟩, hv, e1⟩ := h n w p rm h11 hA hP hw hB ⟨p1, fun _ => p2 (by omega), fun _ => p3 (by omega), fun _ => p4 (by omega)⟩
  refine ⟨rm1, l1, ⟨k1, fun _ => k2 (by omega), fun _ => k3 (by omega), fun _ => k4 (by omega)⟩, ?_, e1⟩
  rcases (show lev = 1 ∨ lev = 2 ∨ lev = 3 by omega) with rfl | rfl | rfl
  · unfold xVl at hv ⊢
    rw [if_pos rfl] at hv
    rw [if_neg (by decide), if_pos rfl]
    unfold xSv
    rw [(k4 (by omega)).2, (k4 (by omega)).1, (p2 (by omega)).2, (p2 (by omega)).1, if_neg (by decide), Int32.zero_add]
    exact hv
  · unfold xVl at hv ⊢
    rw [if_neg (by decide), if_pos rfl] at hv
    rw [if_neg (by decide), if_neg (by decide), if_pos rfl]
    unfold xTv
    rw [(k3 (by omega)).2, p3 (by omega), if_neg (by decide), if_neg (by decide)]
    exact hv
  · unfold xVl at hv ⊢
    rw [if_neg (by decide), if_neg (by decide), if_pos rfl] at hv
    rw [if_neg (by decide), if_neg (by decide), if_neg (by decide)]
    unfold xWv
    rw [(k2 (by omega)).2, p4 (by omega), if_neg (by decide), if_neg (by decide)]
    exact hv
end XTR
section XBN
variable {q : zRq} {M d : Nat} {P : Nat → Int32} {F1 F2 : List Int32} {v1 v2 : Int32}
/-- * -/
theorem xMl.prod (hM : M ≤ 1000) (hF : 1 ≤ F2.length) (h1 : xMl q M d P 1 F1 v1) (h2 : xM0 q M d P F2 v2) : xMl q M d P 1 (F1 ++ 22 :: F2) (v1 * v2) := by
  intro n w p rm h11 hA hP hw hB hpre
  obtain ⟨hA1, hA2⟩ := hA.app
  have hA2 : xAt (rm 12) M (p + F1.length) ([22] ++ F2) := hA2
  obtain ⟨hA3, hA4⟩ := hA2.app
  have hA4 : xAt (rm 12) M (p + F1.length + 1) F2 := hA4
  obtain ⟨q1, q2⟩ := hA3.one
  have hlen := hA4.1
  obtain ⟨rm1, l1, ⟨k1, k2, k3, k4⟩, hv1, e1⟩ := h1 (n + F2.length + 1) w p rm h11 hA1 hP hw hB hpre
  have r11 : rm1 11 0 = nI M := by rw [l1.1 11 (by decide)]; exact h11
  have r12 : rm1 12 = rm 12 := l1.1 12 (by decide)
  have r24 : rm1 24 = rm 24 := l1.1 24 (by decide)
  have e2 := xtk22 (q := q) (n := n + F2.length) hM (show w ≤ 5 by omega) r11 q1 (by rw [r12]; exact q2)
  have l2 : xLv w rm1 (zset rm1 22 (upd (rm1 22) w 22)) := xLv.refl.set (by decide) (Nat.le_refl _)
  obtain ⟨rm2, l3, e3⟩ := h2 n w (p + F1.length + 1) (zset rm1 22 (upd (rm1 22) w 22)) r11 (by rw [show zset rm1 22 (upd (rm1 22) w 22) 12 = rm 12 from r12]; exact hA4) (fun k g1 g2 => by rw [show zset rm1 22 (upd (rm1 22) w 22) 24 = rm 24 from r24]; exact hP k g1 g2) hw
  have s : ∀ a, ¬ a = 22 → rm2 a w = rm1 a w := fun a ha => by rw [l3.2 a w (by omega), zset_ne ha]
  have hB2 : w = 0 ∨ ¬ rm2 23 w = 1 := by rw [s 23 (by decide), k1]; exact hB
  have e21 : rm1 21 w = v1 := by
    unfold xVl at hv1; rw [if_pos rfl] at hv1; exact hv1
  refine ⟨zset rm2 21 (upd (rm2 21) w (rm2 21 w * v2)), ((l1.tr l2).tr (l3.lo (by omega))).set (by decide) (Nat.le_refl _), ⟨?_, fun _ => ⟨?_, ?_⟩, fun _ => ⟨?_, ?_⟩, fun _ => ⟨?_, ?_⟩⟩, ?_, ?_⟩
  · rw [zset_ne (by decide), s 23 (by decide)]; exact k1
  · rw [zset_ne (by decide), s 15 (by decide)]; exact (k2 (by omega)).1
  · rw [zset_ne (by decide), s 16 (by decide)]; exact (k2 (by omega)).2
  · rw [zset_ne (by decide), s 17 (by decide)]; exact (k3 (by omega)).1
  · rw [zset_ne (by decide), s 18 (by decide)]; exact (k3 (by omega)).2
  · rw [zset_ne (by decide), s 19 (by decide)]; exact (k4 (by omega)).1
  · rw [zset_ne (by decide), s 20 (by decide)]; exact (k4 (by omega)).2
  · unfold xVl; rw [if_pos rfl, zset_eq, pk_us, s 21 (by decide), e21]
  · have e22 : ¬ rm2 22 w = 0 := by
      rw [l3.2 22 w (by omega), zset_eq, pk_us]; decide
    rw [List.length_append, show n + (F1.length + (22 :: F2).length) = n + F2.length + 1 + F1.length by show n + (F1.length + (F2.length + 1)) = _; omega, e1, e2, e3, xPop.base hB2]
    unfold Gm_worked_300 Gm_worked_328 Gm_worked_329
    simp only [zifnQ, zletQ, xzn (show w < 2 ^ 31 by omega), if_neg e22, nI_1, show p + F1.length + 1 + F2.length - 1 + 1 = p + (F1.length + (22 :: F2).length) by show _ = p + (F1.length + (F2.length + 1)); omega]
/-- + and - -/
theorem xMl.sum (hM : M ≤ 1000) {x : Int32} (hx : x = 20 ∨ x = 21) (h1 : xMl q M d P 2 F1 v1) (h2 : xMl q M d P 1 F2 v2) : xMl q M d P 2 (F1 ++ x :: F2) (if x = 21 then v1 - v2 else v1 + v2) := by
  intro n w p rm h11 hA hP hw hB hpre
  obtain ⟨hA1, hA2⟩ := hA.app
  have hA2 : xAt (rm 12) M (p + F1.length) ([x] ++ F2) := hA2
  obtain ⟨hA3, hA4⟩ := hA2.app
  have hA4 : xAt (rm 12) M (p + F1.length + 1) F2 := hA4
  obtain ⟨q1, q2⟩ := hA3.one
  obtain ⟨rm1, l1, ⟨k1, k2, k3, _⟩, hv1, e1⟩ := h1 (n + F2.length + 1) w p rm h11 hA1 hP hw hB hpre
  have r11 : rm1 11 0 = nI M := by rw [l1.1 11 (by decide)]; exact h11
  have r12 : rm1 12 = rm 12 := l1.1 12 (by decide)
  have r24 : rm1 24 = rm 24 := l1.1 24 (by decide)
  have hv1 : xSv w rm1 = v1 := by
    unfold xVl at hv1; rw [if_neg (by decide), if_pos rfl] at hv1; exact hv1
  obtain ⟨s1, s2, s3, s4⟩ := xsumsF (r := rm1) (q := q) (show w ≤ 5 by omega)
  have e2 : Gm_worked_14 q (n + F2.length + 1) (nI w) (nI (p + F1.length)) rm1 = Gm_worked_14 q (n + F2.length) (nI w) (nI (p + F1.length + 1)) (zset (Gm_sums (nI w) rm1 q) 20 (upd (Gm_sums (nI w) rm1 q 20) w x)) := by
    rcases hx with rfl | rfl
    · exact xtk20 hM (by omega) r11 q1 (by rw [r12]; exact q2)
    · exact xtk21 hM (by omega) r11 q1 (by rw [r12]; exact q2)
  generalize Gm_sums (nI w) rm1 q = u at s1 s2 s3 s4 e2
  have l2 : xLv w rm1 (zset u 20 (upd (u 20) w x)) := s1.set (by decide) (Nat.le_refl _)
  have t : ∀ a, ¬ a = 19 → ¬ a = 20 → ¬ a = 22 → zset u 20 (upd (u 20) w x) a = rm1 a := fun a a1 a2 a3 => by rw [zset_ne a2, s4 a a1 a3]
  obtain ⟨rm2, l3, ⟨j1, j2, j3, j4⟩, hv2, e3⟩ := h2 n w (p + F1.length + 1) (zset u 20 (upd (u 20) w x)) (by rw [t 11 (by decide) (by decide) (by decide)]; exact r11) (by rw [t 12 (by decide) (by decide) (by decide), r12]; exact hA4) (fun k g1 g2 => by rw [t 24 (by decide) (by decide) (by decide), r24]; exact hP k g1 g2) hw (by unfold xBs; rw [t 23 (by decide) (by decide) (by decide), k1]; exact hB) ⟨by rw [zset_ne (by decide)]; exact s3, fun h => absurd h (by decide), fun h => absurd h (by decide), fun h => absurd h (by decide)⟩
  have hv2 : rm2 21 w = v2 := by
    unfold xVl at hv2; rw [if_pos rfl] at hv2; exact hv2
  refine ⟨rm2, (l1.tr l2).tr l3, ⟨?_, fun _ => ⟨?_, ?_⟩, fun _ => ⟨?_, ?_⟩, fun h => absurd h (by decide)⟩, ?_, ?_⟩
  · rw [j1, t 23 (by decide) (by decide) (by decide)]; exact k1
  · rw [(j2 (by omega)).1, t 15 (by decide) (by decide) (by decide)]; exact (k2 (by omega)).1
  · rw [(j2 (by omega)).2, t 16 (by decide) (by decide) (by decide)]; exact (k2 (by omega)).2
  · rw [(j3 (by omega)).1, t 17 (by decide) (by decide) (by decide)]; exact (k3 (by omega)).1
  · rw [(j3 (by omega)).2, t 18 (by decide) (by decide) (by decide)]; exact (k3 (by omega)).2
  · unfold xVl
    rw [if_neg (by decide), if_pos rfl]
    unfold xSv
    rw [(j4 (by omega)).2, (j4 (by omega)).1, zset_eq, pk_us, zset_ne (by decide), s2, hv1, hv2]
  · rw [List.length_append, show n + (F1.length + (x :: F2).length) = n + F2.length + 1 + F1.length by show n + (F1.length + (F2.length + 1)) = _; omega, e1, e2, e3, show p + F1.length + 1 + F2.length = p + (F1.length + (x :: F2).length) by show _ = p + (F1.length + (F2.length + 1)); omega]
end XBN
section XBT
variable {q : zRq} {M d : Nat} {P : Nat → Int32} {F1 F2 : List Int32} {v1 v2 : Int32}
/-- < and = -/
theorem xMl.test (hM : M ≤ 1000) {x : Int32} (hx : x = 24 ∨ x = 25) (h1 : xMl q M d P 2 F1 v1) (h2 : xMl q M d P 2 F2 v2) : xMl q M d P 3 (F1 ++ x :: F2) (if x = 24 then (if v2 ≤ v1 then 0 else 1) else if v1 = v2 then 1 else 0) := by
  intro n w p rm h11 hA hP hw hB hpre
  obtain ⟨p1, p2, p3, p4⟩ := hpre
  obtain ⟨hA1, hA2⟩ := hA.app
  have hA2 : xAt (rm 12) M (p + F1.length) ([x] ++ F2) := hA2
  obtain ⟨hA3, hA4⟩ := hA2.app
  have hA4 : xAt (rm 12) M (p + F1.length + 1) F2 := hA4
  obtain ⟨q1, q2⟩ := hA3.one
  obtain ⟨rm1, l1, ⟨k1, k2, k3, _⟩, hv1, e1⟩ := h1 (n + F2.length + 1) w p rm h11 hA1 hP hw hB ⟨p1, fun _ => p2 (by omega), fun h => absurd h (by decide), fun h => absurd h (by decide)⟩
  have r11 : rm1 11 0 = nI M := by rw [l1.1 11 (by decide)]; exact h11
  have r12 : rm1 12 = rm 12 := l1.1 12 (by decide)
  have r24 : rm1 24 = rm 24 := l1.1 24 (by decide)
  have hv1 : xSv w rm1 = v1 := by
    unfold xVl at hv1; rw [if_neg (by decide), if_pos rfl] at hv1; exact hv1
  obtain ⟨s1, s2, s3, s4⟩ := xsumsF (r := rm1) (q := q) (show w ≤ 5 by omega)
  obtain ⟨ua, hua, e2⟩ : ∃ ua, ua = xs (xs (xs (xs (Gm_sums (nI w) rm1 q) 17 w (Gm_sums (nI w) rm1 q 19 w)) 18 w x) 19 w 0) 20 w 20 ∧ Gm_worked_14 q (n + F2.length + 1) (nI w) (nI (p + F1.length)) rm1 = Gm_worked_14 q (n + F2.length) (nI w) (nI (p + F1.length + 1)) ua := by
    refine ⟨_, rfl, ?_⟩
    rcases hx with rfl | rfl
    · exact xtk24 hM (by omega) r11 q1 (by rw [r12]; exact q2)
    · exact xtk25 hM (by omega) r11 q1 (by rw [r12]; exact q2)
  generalize Gm_sums (nI w) rm1 q = u at s1 s2 s3 s4 hua
  have l2 : xLv w rm1 ua := by
    rw [hua]
    exact (((s1.set (a := 17) (by decide) (Nat.le_refl _)).set (a := 18) (by decide) (Nat.le_refl _)).set (a := 19) (by decide) (Nat.le_refl _)).set (a := 20) (by decide) (Nat.le_refl _)
  have t : ∀ a, ¬ a = 17 → ¬ a = 18 → ¬ a = 19 → ¬ a = 20 → ua a = u a := fun a a1 a2 a3 a4 => by
    rw [hua]; unfold xs; rw [zset_ne a4, zset_ne a3, zset_ne a2, zset_ne a1]
  have u17 : ua 17 w = v1 := by
    rw [hua]; unfold xs
    rw [zset_ne (by decide), zset_ne (by decide), zset_ne (by decide), zset_eq, pk_us, s2]; exact hv1
  have u18 : ua 18 w = x := by
    rw [hua]; unfold xs
    rw [zset_ne (by decide), zset_ne (by decide), zset_eq, pk_us]
  have u19 : ua 19 w = 0 := by
    rw [hua]; unfold xs
    rw [zset_ne (by decide), zset_eq, pk_us]
  have u20 : ua 20 w = 20 := by
    rw [hua]; unfold xs
    rw [zset_eq, pk_us]
  have u22 : ua 22 w = 0 := by rw [t 22 (by decide) (by decide) (by decide) (by decide)]; exact s3
  have uo : ∀ a, ¬ a = 17 → ¬ a = 18 → ¬ a = 19 → ¬ a = 20 → ¬ a = 22 → ua a = rm1 a := fun a a1 a2 a3 a4 a5 => by rw [t a a1 a2 a3 a4, s4 a a3 a5]
  obtain ⟨rm2, l3, ⟨j1, j2, j3, _⟩, hv2, e3⟩ := h2 n w (p + F1.length + 1) ua (by rw [uo 11 (by decide) (by decide) (by decide) (by decide) (by decide)]; exact r11) (by rw [uo 12 (by decide) (by decide) (by decide) (by decide) (by decide), r12]; exact hA4) (fun k g1 g2 => by rw [uo 24 (by decide) (by decide) (by decide) (by decide) (by decide), r24]; exact hP k g1 g2) hw (by unfold xBs; rw [uo 23 (by decide) (by decide) (by decide) (by decide) (by decide), k1]; exact hB) ⟨u22, fun _ => ⟨u19, u20⟩, fun h => absurd h (by decide), fun h => absurd h (by decide)⟩
  have hv2 : xSv w rm2 = v2 := by
    unfold xVl at hv2; rw [if_neg (by decide), if_pos rfl] at hv2; exact hv2
  refine ⟨rm2, (l1.tr l2).tr l3, ⟨?_, fun _ => ⟨?_, ?_⟩, fun h => absurd h (by decide), fun h => absurd h (by decide)⟩, ?_, ?_⟩
  · rw [j1, uo 23 (by decide) (by decide) (by decide) (by decide) (by decide)]; exact k1
  · rw [(j2 (by omega)).1, uo 15 (by decide) (by decide) (by decide) (by decide) (by decide)]; exact (k2 (by omega)).1
  · rw [(j2 (by omega)).2, uo 16 (by decide) (by decide) (by decide) (by decide) (by decide)]; exact (k2 (by omega)).2
  · unfold xVl
    rw [if_neg (by decide), if_neg (by decide), if_pos rfl]
    unfold xTv
    rw [(j3 (by omega)).2, (j3 (by omega)).1, u18, u17, hv2]
    rcases hx with rfl | rfl
    · rw [if_pos rfl, if_pos rfl]
    · rw [if_neg (show ¬ (25 : Int32) = 24 by decide), if_pos (show (25 : Int32) = 25 from rfl), if_neg (show ¬ (25 : Int32) = 24 by decide)]
  · rw [List.length_append, show n + (F1.length + (x :: F2).length) = n + F2.length + 1 + F1.length by show n + (F1.length + (F2.length + 1)) = _; omega, e1, e2, e3, show p + F1.length + 1 + F2.length = p + (F1.length + (x :: F2).length) by show _ = p + (F1.length + (F2.length + 1)); omega]
/-- and, or -/
theorem xMl.join (hM : M ≤ 1000) {x : Int32} (hx : x = 26 ∨ x = 27) (h1 : xMl q M d P 4 F1 v1) (h2 : xMl q M d P 3 F2 v2) : xMl q M d P 4 (F1 ++ x :: F2) (if x = 26 then (if v1 = 0 then 0 else if v2 = 0 then 0 else 1) else if v1 = 0 then (if v2 = 0 then 0 else 1) else 1) := by
  intro n w p rm h11 hA hP hw hB hpre
  obtain ⟨hA1, hA2⟩ := hA.app
  have hA2 : xAt (rm 12) M (p + F1.length) ([x] ++ F2) := hA2
  obtain ⟨hA3, hA4⟩ := hA2.app
  have hA4 : xAt (rm 12) M (p + F1.length + 1) F2 := hA4
  obtain ⟨q1, q2⟩ := hA3.one
  obtain ⟨rm1, l1, ⟨k1, _, _, _⟩, hv1, e1⟩ := h1 (n + F2.length + 1) w p rm h11 hA1 hP hw hB hpre
  have r11 : rm1 11 0 = nI M := by rw [l1.1 11 (by decide)]; exact h11
  have r12 : rm1 12 = rm 12 := l1.1 12 (by decide)
  have r24 : rm1 24 = rm 24 := l1.1 24 (by decide)
  have hv1 : xWv w rm1 = v1 := by
    unfold xVl at hv1; rw [if_neg (by decide), if_neg (by decide), if_neg (by decide)] at hv1; exact hv1
  obtain ⟨s1, s15, s18, s19, s20, s22, s16, s23⟩ := xtests (r := rm1) (q := q) (show w ≤ 5 by omega)
  have e2 : Gm_worked_14 q (n + F2.length + 1) (nI w) (nI (p + F1.length)) rm1 = Gm_worked_14 q (n + F2.length) (nI w) (nI (p + F1.length + 1)) (zset (Gm_tests (nI w) rm1 q) 16 (upd (Gm_tests (nI w) rm1 q 16) w x)) := by
    rcases hx with rfl | rfl
    · exact xtk26 hM (by omega) r11 q1 (by rw [r12]; exact q2)
    · exact xtk27 hM (by omega) r11 q1 (by rw [r12]; exact q2)
  generalize Gm_tests (nI w) rm1 q = u at s1 s15 s18 s19 s20 s22 s16 s23 e2
  have l2 : xLv w rm1 (zset u 16 (upd (u 16) w x)) := s1.set (by decide) (Nat.le_refl _)
  have t : ∀ a, [15, 16, 17, 18, 19, 20, 21, 22, 23].contains a = false → zset u 16 (upd (u 16) w x) a = rm1 a := fun a ha => l2.1 a ha
  obtain ⟨rm2, l3, ⟨j1, j2, _, _⟩, hv2, e3⟩ := h2 n w (p + F1.length + 1) (zset u 16 (upd (u 16) w x)) (by rw [t 11 (by decide)]; exact r11) (by rw [t 12 (by decide), r12]; exact hA4) (fun k g1 g2 => by rw [t 24 (by decide), r24]; exact hP k g1 g2) hw (by unfold xBs; rw [zset_ne (by decide), s23, k1]; exact hB) ⟨by rw [zset_ne (by decide)]; exact s22, fun _ => ⟨by rw [zset_ne (by decide)]; exact s19, by rw [zset_ne (by decide)]; exact s20⟩, fun _ => by rw [zset_ne (by decide)]; exact s18, fun h => absurd h (by decide)⟩
  have hv2 : xTv w rm2 = v2 := by
    unfold xVl at hv2; rw [if_neg (by decide), if_neg (by decide), if_pos rfl] at hv2; exact hv2
  refine ⟨rm2, (l1.tr l2).tr l3, ⟨?_, fun h => absurd h (by decide), fun h => absurd h (by decide), fun h => absurd h (by decide)⟩, ?_, ?_⟩
  · rw [j1, zset_ne (by decide), s23]; exact k1
  · unfold xVl
    rw [if_neg (by decide), if_neg (by decide), if_neg (by decide)]
    unfold xWv
    rw [(j2 (by omega)).2, (j2 (by omega)).1, zset_eq, pk_us, zset_ne (by decide), s15, hv1, hv2]
    rcases hx with rfl | rfl
    · rw [if_pos rfl, if_pos rfl]
    · rw [if_neg (show ¬ (27 : Int32) = 26 by decide), if_pos (show (27 : Int32) = 27 from rfl), if_neg (show ¬ (27 : Int32) = 26 by decide)]
  · rw [List.length_append, show n + (F1.length + (x :: F2).length) = n + F2.length + 1 + F1.length by show n + (F1.length + (F2.length + 1)) = _; omega, e1, e2, e3, show p + F1.length + 1 + F2.length = p + (F1.length + (x :: F2).length) by show _ = p + (F1.length + (F2.length + 1)); omega]
end XBT
end
