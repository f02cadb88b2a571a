/-! ===== which rows the reference's own functions leave as they were ===== -/
theorem zc_vqQ {α β : Type} (o : α × zRq) (K : α → zRq → β) : zc_vq o K = K o.1 o.2 := (Eq.refl (zc_vq o K)).trans (Eq.refl _)
theorem fzif1 {M : List Nat} {r : zRr} {c : Prop} [Decidable c] {a b : zRr} (ha : c → zFr M r a) (hb : ¬ c → zFr M r b) : zFr M r (zif c a b) := by
  rw [zifQ]
  by_cases h : c
  · rw [if_pos h]; exact ha h
  · rw [if_neg h]; exact hb h
theorem fzifn1 {M : List Nat} {r : zRr} {c : Prop} [Decidable c] {a b : zRr} (ha : ¬ c → zFr M r a) (hb : c → zFr M r b) : zFr M r (zifn c a b) := by
  rw [zifnQ]
  by_cases h : c
  · rw [if_pos h]; exact hb h
  · rw [if_neg h]; exact ha h
theorem fzlet1 {α : Type} {M : List Nat} {r : zRr} {x : α} {K : α → zRr} (h : zFr M r (K x)) : zFr M r (zlet x K) := h
theorem fzc1 {α : Type} {M : List Nat} {r : zRr} {o : α × zRr} {K : α → zRr → zRr} (h : zFr M r (K o.1 o.2)) : zFr M r (zc_vr o K) := h
theorem fzq1 {α : Type} {M : List Nat} {r : zRr} {o : α × zRq} {K : α → zRq → zRr} (h : zFr M r (K o.1 o.2)) : zFr M r (zc_vq o K) := h
theorem fzif2 {M : List Nat} {r : zRr} {c : Prop} [Decidable c] {a b : Int32 × zRr} (ha : c → zFr M r a.2) (hb : ¬ c → zFr M r b.2) : zFr M r (zif c a b).2 := by
  rw [zifQ]
  by_cases h : c
  · rw [if_pos h]; exact ha h
  · rw [if_neg h]; exact hb h
theorem fzifn2 {M : List Nat} {r : zRr} {c : Prop} [Decidable c] {a b : Int32 × zRr} (ha : ¬ c → zFr M r a.2) (hb : c → zFr M r b.2) : zFr M r (zifn c a b).2 := by
  rw [zifnQ]
  by_cases h : c
  · rw [if_pos h]; exact hb h
  · rw [if_neg h]; exact ha h
theorem fzlet2 {α : Type} {M : List Nat} {r : zRr} {x : α} {K : α → Int32 × zRr} (h : zFr M r (K x).2) : zFr M r (zlet x K).2 := h
theorem fzc2 {α : Type} {M : List Nat} {r : zRr} {o : α × zRr} {K : α → zRr → Int32 × zRr} (h : zFr M r (K o.1 o.2).2) : zFr M r (zc_vr o K).2 := h
theorem fzq2 {α : Type} {M : List Nat} {r : zRr} {o : α × zRq} {K : α → zRq → Int32 × zRr} (h : zFr M r (K o.1 o.2).2) : zFr M r (zc_vq o K).2 := h
theorem fzif3 {M : List Nat} {r : zRr} {c : Prop} [Decidable c] {a b : zRr × zRq} (ha : c → zFr M r a.1) (hb : ¬ c → zFr M r b.1) : zFr M r (zif c a b).1 := by
  rw [zifQ]
  by_cases h : c
  · rw [if_pos h]; exact ha h
  · rw [if_neg h]; exact hb h
theorem fzifn3 {M : List Nat} {r : zRr} {c : Prop} [Decidable c] {a b : zRr × zRq} (ha : ¬ c → zFr M r a.1) (hb : c → zFr M r b.1) : zFr M r (zifn c a b).1 := by
  rw [zifnQ]
  by_cases h : c
  · rw [if_pos h]; exact hb h
  · rw [if_neg h]; exact ha h
theorem fzlet3 {α : Type} {M : List Nat} {r : zRr} {x : α} {K : α → zRr × zRq} (h : zFr M r (K x).1) : zFr M r (zlet x K).1 := h
theorem fzc3 {α : Type} {M : List Nat} {r : zRr} {o : α × zRr} {K : α → zRr → zRr × zRq} (h : zFr M r (K o.1 o.2).1) : zFr M r (zc_vr o K).1 := h
theorem fzq3 {α : Type} {M : List Nat} {r : zRr} {o : α × zRq} {K : α → zRq → zRr × zRq} (h : zFr M r (K o.1 o.2).1) : zFr M r (zc_vq o K).1 := h
theorem fm_opens {a1 : Int32} {r : zRr} {q : zRq}  : zFr [15, 16, 17, 18, 19, 20, 21, 22, 23, 24] r (Gm_opens a1 r q) := by
  unfold Gm_opens
  repeat (first | with_reducible exact zFr.refl | with_reducible refine fzif1 (fun h => ?_) (fun h => ?_) | with_reducible refine fzifn1 (fun h => ?_) (fun h => ?_) | with_reducible refine fzlet1 ?_ | with_reducible refine fzc1 ?_ | with_reducible refine fzq1 ?_ | with_reducible refine zFr.set ?_ ?_ | decide)
theorem fm_sums_45 {a1 : Int32} {r : zRr} {w45_s0 : Int32}  : zFr [15, 16, 17, 18, 19, 20, 21, 22, 23, 24] r (Gm_sums_45 a1 r w45_s0) := by
  unfold Gm_sums_45
  repeat (first | with_reducible exact zFr.refl | with_reducible refine fzif1 (fun h => ?_) (fun h => ?_) | with_reducible refine fzifn1 (fun h => ?_) (fun h => ?_) | with_reducible refine fzlet1 ?_ | with_reducible refine fzc1 ?_ | with_reducible refine fzq1 ?_ | with_reducible refine zFr.set ?_ ?_ | decide)
theorem fm_sums {a1 : Int32} {r : zRr} {q : zRq}  : zFr [15, 16, 17, 18, 19, 20, 21, 22, 23, 24] r (Gm_sums a1 r q) := by
  unfold Gm_sums
  repeat (first | with_reducible exact zFr.refl | with_reducible refine fzif1 (fun h => ?_) (fun h => ?_) | with_reducible refine fzifn1 (fun h => ?_) (fun h => ?_) | with_reducible refine fzlet1 ?_ | with_reducible refine fzc1 ?_ | with_reducible refine fzq1 ?_ | with_reducible refine zFr.set ?_ ?_ | with_reducible refine zFr.tr ?_ (fm_sums_45) ?_ | decide)
theorem fm_tests_136 {a1 : Int32} {w136_2 : Int32} {rw136 : zRr}  : zFr [15, 16, 17, 18, 19, 20, 21, 22, 23, 24] rw136 (Gm_tests_136 a1 w136_2 rw136) := by
  unfold Gm_tests_136
  repeat (first | with_reducible exact zFr.refl | with_reducible refine fzif1 (fun h => ?_) (fun h => ?_) | with_reducible refine fzifn1 (fun h => ?_) (fun h => ?_) | with_reducible refine fzlet1 ?_ | with_reducible refine fzc1 ?_ | with_reducible refine fzq1 ?_ | with_reducible refine zFr.set ?_ ?_ | decide)
theorem fm_tests_135 {a1 : Int32} {w135_s0 : Int32} {rw135 : zRr}  : zFr [15, 16, 17, 18, 19, 20, 21, 22, 23, 24] rw135 (Gm_tests_135 a1 w135_s0 rw135) := by
  unfold Gm_tests_135
  repeat (first | with_reducible exact zFr.refl | with_reducible refine fzif1 (fun h => ?_) (fun h => ?_) | with_reducible refine fzifn1 (fun h => ?_) (fun h => ?_) | with_reducible refine fzlet1 ?_ | with_reducible refine fzc1 ?_ | with_reducible refine fzq1 ?_ | with_reducible refine zFr.set ?_ ?_ | with_reducible refine zFr.tr ?_ (fm_tests_136) ?_ | decide)
theorem fm_tests_130 {a1 : Int32} {rw130 : zRr}  : zFr [15, 16, 17, 18, 19, 20, 21, 22, 23, 24] rw130 (Gm_tests_130 a1 rw130) := by
  unfold Gm_tests_130
  repeat (first | with_reducible exact zFr.refl | with_reducible refine fzif1 (fun h => ?_) (fun h => ?_) | with_reducible refine fzifn1 (fun h => ?_) (fun h => ?_) | with_reducible refine fzlet1 ?_ | with_reducible refine fzc1 ?_ | with_reducible refine fzq1 ?_ | with_reducible refine zFr.set ?_ ?_ | with_reducible refine zFr.tr ?_ (fm_tests_135) ?_ | decide)
theorem fm_tests_106 {a1 : Int32} {w106_2 : Int32} {rw106 : zRr}  : zFr [15, 16, 17, 18, 19, 20, 21, 22, 23, 24] rw106 (Gm_tests_106 a1 w106_2 rw106) := by
  unfold Gm_tests_106
  repeat (first | with_reducible exact zFr.refl | with_reducible refine fzif1 (fun h => ?_) (fun h => ?_) | with_reducible refine fzifn1 (fun h => ?_) (fun h => ?_) | with_reducible refine fzlet1 ?_ | with_reducible refine fzc1 ?_ | with_reducible refine fzq1 ?_ | with_reducible refine zFr.set ?_ ?_ | with_reducible refine zFr.tr ?_ (fm_tests_136) ?_ | with_reducible refine zFr.tr ?_ (fm_tests_130) ?_ | with_reducible refine zFr.tr ?_ (fm_tests_135) ?_ | decide)
theorem fm_tests_105 {a1 : Int32} {w105_s0 : Int32} {rw105 : zRr}  : zFr [15, 16, 17, 18, 19, 20, 21, 22, 23, 24] rw105 (Gm_tests_105 a1 w105_s0 rw105) := by
  unfold Gm_tests_105
  repeat (first | with_reducible exact zFr.refl | with_reducible refine fzif1 (fun h => ?_) (fun h => ?_) | with_reducible refine fzifn1 (fun h => ?_) (fun h => ?_) | with_reducible refine fzlet1 ?_ | with_reducible refine fzc1 ?_ | with_reducible refine fzq1 ?_ | with_reducible refine zFr.set ?_ ?_ | with_reducible refine zFr.tr ?_ (fm_tests_106) ?_ | decide)
theorem fm_tests_104 {a1 : Int32} {rw104 : zRr}  : zFr [15, 16, 17, 18, 19, 20, 21, 22, 23, 24] rw104 (Gm_tests_104 a1 rw104) := by
  unfold Gm_tests_104
  repeat (first | with_reducible exact zFr.refl | with_reducible refine fzif1 (fun h => ?_) (fun h => ?_) | with_reducible refine fzifn1 (fun h => ?_) (fun h => ?_) | with_reducible refine fzlet1 ?_ | with_reducible refine fzc1 ?_ | with_reducible refine fzq1 ?_ | with_reducible refine zFr.set ?_ ?_ | with_reducible refine zFr.tr ?_ (fm_tests_105) ?_ | decide)
theorem fm_tests_76 {a1 : Int32} {w76_2 : Int32} {rw76 : zRr}  : zFr [15, 16, 17, 18, 19, 20, 21, 22, 23, 24] rw76 (Gm_tests_76 a1 w76_2 rw76) := by
  unfold Gm_tests_76
  repeat (first | with_reducible exact zFr.refl | with_reducible refine fzif1 (fun h => ?_) (fun h => ?_) | with_reducible refine fzifn1 (fun h => ?_) (fun h => ?_) | with_reducible refine fzlet1 ?_ | with_reducible refine fzc1 ?_ | with_reducible refine fzq1 ?_ | with_reducible refine zFr.set ?_ ?_ | with_reducible refine zFr.tr ?_ (fm_tests_106) ?_ | with_reducible refine zFr.tr ?_ (fm_tests_104) ?_ | with_reducible refine zFr.tr ?_ (fm_tests_105) ?_ | decide)
theorem fm_tests_75 {a1 : Int32} {w75_s0 : Int32} {rw75 : zRr}  : zFr [15, 16, 17, 18, 19, 20, 21, 22, 23, 24] rw75 (Gm_tests_75 a1 w75_s0 rw75) := by
  unfold Gm_tests_75
  repeat (first | with_reducible exact zFr.refl | with_reducible refine fzif1 (fun h => ?_) (fun h => ?_) | with_reducible refine fzifn1 (fun h => ?_) (fun h => ?_) | with_reducible refine fzlet1 ?_ | with_reducible refine fzc1 ?_ | with_reducible refine fzq1 ?_ | with_reducible refine zFr.set ?_ ?_ | with_reducible refine zFr.tr ?_ (fm_tests_76) ?_ | decide)
theorem fm_tests_44 {a1 : Int32} {w44_2 : Int32} {rw44 : zRr}  : zFr [15, 16, 17, 18, 19, 20, 21, 22, 23, 24] rw44 (Gm_tests_44 a1 w44_2 rw44) := by
  unfold Gm_tests_44
  repeat (first | with_reducible exact zFr.refl | with_reducible refine fzif1 (fun h => ?_) (fun h => ?_) | with_reducible refine fzifn1 (fun h => ?_) (fun h => ?_) | with_reducible refine fzlet1 ?_ | with_reducible refine fzc1 ?_ | with_reducible refine fzq1 ?_ | with_reducible refine zFr.set ?_ ?_ | with_reducible refine zFr.tr ?_ (fm_tests_76) ?_ | with_reducible refine zFr.tr ?_ (fm_tests_75) ?_ | decide)
theorem fm_tests_43 {a1 : Int32} {w43_s0 : Int32} {rw43 : zRr}  : zFr [15, 16, 17, 18, 19, 20, 21, 22, 23, 24] rw43 (Gm_tests_43 a1 w43_s0 rw43) := by
  unfold Gm_tests_43
  repeat (first | with_reducible exact zFr.refl | with_reducible refine fzif1 (fun h => ?_) (fun h => ?_) | with_reducible refine fzifn1 (fun h => ?_) (fun h => ?_) | with_reducible refine fzlet1 ?_ | with_reducible refine fzc1 ?_ | with_reducible refine fzq1 ?_ | with_reducible refine zFr.set ?_ ?_ | with_reducible refine zFr.tr ?_ (fm_tests_44) ?_ | decide)
theorem fm_tests {a1 : Int32} {r : zRr} {q : zRq}  : zFr [15, 16, 17, 18, 19, 20, 21, 22, 23, 24] r (Gm_tests a1 r q) := by
  unfold Gm_tests
  repeat (first | with_reducible exact zFr.refl | with_reducible refine fzif1 (fun h => ?_) (fun h => ?_) | with_reducible refine fzifn1 (fun h => ?_) (fun h => ?_) | with_reducible refine fzlet1 ?_ | with_reducible refine fzc1 ?_ | with_reducible refine fzq1 ?_ | with_reducible refine zFr.set ?_ ?_ | with_reducible refine zFr.tr ?_ (fm_sums) ?_ | with_reducible refine zFr.tr ?_ (fm_tests_44) ?_ | with_reducible refine zFr.tr ?_ (fm_tests_43) ?_ | decide)
theorem fm_worked_329 {w14_3 : Int32} {ih14 : Int32 → Int32 → zRr → (Int32 × zRr)} {w329_2 : Int32} {rw329 : zRr} (hih14 : ∀ (x0 : Int32) (x1 : Int32) (x2 : zRr), zFr [15, 16, 17, 18, 19, 20, 21, 22, 23, 24] x2 (ih14 x0 x1 x2).2) : zFr [15, 16, 17, 18, 19, 20, 21, 22, 23, 24] rw329 (Gm_worked_329 w14_3 ih14 w329_2 rw329).2 := by
  unfold Gm_worked_329
  repeat (first | with_reducible exact zFr.refl | with_reducible refine fzif2 (fun h => ?_) (fun h => ?_) | with_reducible refine fzifn2 (fun h => ?_) (fun h => ?_) | with_reducible refine fzlet2 ?_ | with_reducible refine fzc2 ?_ | with_reducible refine fzq2 ?_ | with_reducible refine zFr.set ?_ ?_ | with_reducible refine zFr.tr ?_ (hih14 _ _ _) ?_ | decide)
theorem fm_worked_328 {w14_3 : Int32} {ih14 : Int32 → Int32 → zRr → (Int32 × zRr)} {w328_2 : Int32} {w328_s0 : Int32} {w328_s1 : Int32} {rw328 : zRr} (hih14 : ∀ (x0 : Int32) (x1 : Int32) (x2 : zRr), zFr [15, 16, 17, 18, 19, 20, 21, 22, 23, 24] x2 (ih14 x0 x1 x2).2) : zFr [15, 16, 17, 18, 19, 20, 21, 22, 23, 24] rw328 (Gm_worked_328 w14_3 ih14 w328_2 w328_s0 w328_s1 rw328).2 := by
  unfold Gm_worked_328
  repeat (first | with_reducible exact zFr.refl | with_reducible refine fzif2 (fun h => ?_) (fun h => ?_) | with_reducible refine fzifn2 (fun h => ?_) (fun h => ?_) | with_reducible refine fzlet2 ?_ | with_reducible refine fzc2 ?_ | with_reducible refine fzq2 ?_ | with_reducible refine zFr.set ?_ ?_ | with_reducible refine zFr.tr ?_ (hih14 _ _ _) ?_ | with_reducible refine zFr.tr ?_ (fm_worked_329 (hih14)) ?_ | decide)
theorem fm_worked_300 {w14_3 : Int32} {ih14 : Int32 → Int32 → zRr → (Int32 × zRr)} {w300_2 : Int32} {w300_5 : Int32} {rw300 : zRr} (hih14 : ∀ (x0 : Int32) (x1 : Int32) (x2 : zRr), zFr [15, 16, 17, 18, 19, 20, 21, 22, 23, 24] x2 (ih14 x0 x1 x2).2) : zFr [15, 16, 17, 18, 19, 20, 21, 22, 23, 24] rw300 (Gm_worked_300 w14_3 ih14 w300_2 w300_5 rw300).2 := by
  unfold Gm_worked_300
  repeat (first | with_reducible exact zFr.refl | with_reducible refine fzif2 (fun h => ?_) (fun h => ?_) | with_reducible refine fzifn2 (fun h => ?_) (fun h => ?_) | with_reducible refine fzlet2 ?_ | with_reducible refine fzc2 ?_ | with_reducible refine fzq2 ?_ | with_reducible refine zFr.set ?_ ?_ | with_reducible refine zFr.tr ?_ (hih14 _ _ _) ?_ | with_reducible refine zFr.tr ?_ (fm_worked_328 (hih14)) ?_ | decide)
theorem fm_worked_292 {w268_2 : Int32} {rw268 : zRr} {ih268 : Int32 → Int32 → zRr → (Int32 × zRr)} {w292_s0 : Int32} (hih268 : ∀ (x0 : Int32) (x1 : Int32) (x2 : zRr), zFr [15, 16, 17, 18, 19, 20, 21, 22, 23, 24] x2 (ih268 x0 x1 x2).2) : zFr [15, 16, 17, 18, 19, 20, 21, 22, 23, 24] rw268 (Gm_worked_292 w268_2 rw268 ih268 w292_s0).2 := by
  unfold Gm_worked_292
  repeat (first | with_reducible exact zFr.refl | with_reducible refine fzif2 (fun h => ?_) (fun h => ?_) | with_reducible refine fzifn2 (fun h => ?_) (fun h => ?_) | with_reducible refine fzlet2 ?_ | with_reducible refine fzc2 ?_ | with_reducible refine fzq2 ?_ | with_reducible refine zFr.set ?_ ?_ | with_reducible refine zFr.tr ?_ (hih268 _ _ _) ?_ | decide)
theorem fm_worked_268 {w14_3 : Int32} {ih14 : Int32 → Int32 → zRr → (Int32 × zRr)} (hih14 : ∀ (x0 : Int32) (x1 : Int32) (x2 : zRr), zFr [15, 16, 17, 18, 19, 20, 21, 22, 23, 24] x2 (ih14 x0 x1 x2).2) : ∀ (n : Nat) (w268_2 : Int32) (w268_5 : Int32) (rw268 : zRr), zFr [15, 16, 17, 18, 19, 20, 21, 22, 23, 24] rw268 (Gm_worked_268 w14_3 ih14 n w268_2 w268_5 rw268).2 := by
  intro n
  induction n with
  | zero => intro w268_2 w268_5 rw268; exact zFr.refl
  | succ n ih =>
    intro w268_2 w268_5 rw268
    have e0 : Gm_worked_268 w14_3 ih14 (n + 1) w268_2 w268_5 rw268 = Bm_worked_268 w14_3 ih14 (Gm_worked_268 w14_3 ih14 n) w268_2 w268_5 rw268 := rfl
    rw [e0]
    unfold Bm_worked_268
    repeat (first | with_reducible exact zFr.refl | with_reducible refine fzif2 (fun h => ?_) (fun h => ?_) | with_reducible refine fzifn2 (fun h => ?_) (fun h => ?_) | with_reducible refine fzlet2 ?_ | with_reducible refine fzc2 ?_ | with_reducible refine fzq2 ?_ | with_reducible refine zFr.set ?_ ?_ | with_reducible refine zFr.tr ?_ (ih _ _ _) ?_ | with_reducible refine zFr.tr ?_ (hih14 _ _ _) ?_ | with_reducible refine zFr.tr ?_ (fm_worked_300 (hih14)) ?_ | with_reducible refine zFr.tr ?_ (fm_worked_292 (ih)) ?_ | decide)
theorem fm_worked_14 {q : zRq}  : ∀ (n : Nat) (w14_2 : Int32) (w14_3 : Int32) (rw14 : zRr), zFr [15, 16, 17, 18, 19, 20, 21, 22, 23, 24] rw14 (Gm_worked_14 q n w14_2 w14_3 rw14).2 := by
  intro n
  induction n with
  | zero => intro w14_2 w14_3 rw14; exact zFr.refl
  | succ n ih =>
    intro w14_2 w14_3 rw14
    have e0 : Gm_worked_14 q (n + 1) w14_2 w14_3 rw14 = Bm_worked_14 q (Gm_worked_14 q n) w14_2 w14_3 rw14 := rfl
    rw [e0]
    unfold Bm_worked_14
    unfold Gm_worked_329
    simp only [zletQ, zifQ, zifnQ]
    generalize rw14 12 (zn w14_3) = x
    have T : ∀ w, zFr [15, 16, 17, 18, 19, 20, 21, 22, 23, 24] rw14 (Gm_tests w rw14 q) := fun w => fm_tests
    have U : ∀ w, zFr [15, 16, 17, 18, 19, 20, 21, 22, 23, 24] rw14 (Gm_sums w rw14 q) := fun w => fm_sums
    have P : ∀ a b r1, zFr [15, 16, 17, 18, 19, 20, 21, 22, 23, 24] rw14 r1 → zFr [15, 16, 17, 18, 19, 20, 21, 22, 23, 24] rw14 (Gm_worked_14 q n a b r1).2 := fun a b r1 h => h.tr (ih a b r1) (by decide)
    have Q : ∀ w v r1, zFr [15, 16, 17, 18, 19, 20, 21, 22, 23, 24] rw14 r1 → zFr [15, 16, 17, 18, 19, 20, 21, 22, 23, 24] rw14 (Gm_worked_268 w14_3 (Gm_worked_14 q n) 6 w v r1).2 := fun w v r1 h => h.tr (fm_worked_268 ih 6 w v r1) (by decide)
    by_cases c0 : rw14 11 0 ≤ w14_3
    · rw [if_pos c0]; exact T _
    rw [if_neg c0]
    by_cases c28 : x = 28
    · rw [if_pos c28, if_neg (show ¬ x = 30 by rw [c28]; decide)]; exact P _ _ _ ((zFr.refl.set rfl).tr fm_opens (by decide))
    rw [if_neg c28]
    by_cases c30 : x = 30
    · rw [if_pos c30, if_pos c30]; exact P _ _ _ ((zFr.refl.set rfl).tr fm_opens (by decide))
    rw [if_neg c30]
    by_cases c20 : x = 20
    · rw [if_pos c20]; exact P _ _ _ ((U _).set rfl)
    rw [if_neg c20]
    by_cases c21 : x = 21
    · rw [if_pos c21]; exact P _ _ _ ((U _).set rfl)
    rw [if_neg c21]
    by_cases c22 : x = 22
    · rw [if_pos c22]; exact P _ _ _ (zFr.refl.set rfl)
    rw [if_neg c22]
    by_cases c24 : x = 24
    · rw [if_pos c24]; exact P _ _ _ (((((U _).set rfl).set rfl).set rfl).set rfl)
    rw [if_neg c24]
    by_cases c25 : x = 25
    · rw [if_pos c25]; exact P _ _ _ (((((U _).set rfl).set rfl).set rfl).set rfl)
    rw [if_neg c25]
    by_cases c26 : x = 26
    · rw [if_pos c26]; exact P _ _ _ ((T _).set rfl)
    rw [if_neg c26]
    by_cases c27 : x = 27
    · rw [if_pos c27]; exact P _ _ _ ((T _).set rfl)
    rw [if_neg c27]
    by_cases c29 : x = 29
    · rw [if_pos (show x < 100 by rw [c29]; decide), if_pos (show 20 ≤ x by rw [c29]; decide), if_pos c29]; exact Q _ _ _ (T _)
    by_cases c100 : x < 100
    · rw [if_pos c100]
      by_cases cc : 20 ≤ x
      · rw [if_pos cc, if_neg c29]; exact Q _ _ _ zFr.refl
      · rw [if_neg cc, if_neg c29]; exact Q _ _ _ zFr.refl
    · rw [if_neg c100, if_neg c29]; exact Q _ _ _ zFr.refl
theorem fm_worked {r : zRr} {q : zRq}  : zFr [15, 16, 17, 18, 19, 20, 21, 22, 23, 24] r (Gm_worked r q).2 := by
  unfold Gm_worked
  rw [zletQ]
  exact fm_opens.tr (fm_worked_14 1001 _ _ _) (by decide)
theorem fm_readsBeard {a1 : Int32} {a2 : Int32} {a3 : Int32} {r : zRr} {q : zRq}  : zFr [15, 16, 17, 18, 19, 20, 21, 22, 23, 24] r (Gm_readsBeard a1 a2 a3 r q).2 := by
  unfold Gm_readsBeard
  repeat (first | with_reducible exact zFr.refl | with_reducible refine fzif2 (fun h => ?_) (fun h => ?_) | with_reducible refine fzifn2 (fun h => ?_) (fun h => ?_) | with_reducible refine fzlet2 ?_ | with_reducible refine fzc2 ?_ | with_reducible refine fzq2 ?_ | with_reducible refine zFr.set ?_ ?_ | with_reducible refine zFr.tr ?_ (fm_worked) ?_ | decide)
theorem fm_letsHim_70 {r : zRr} {q : zRq} {w70_s0 : Int32} {w70_s1 : Int32} {w70_s2 : Int32}  : zFr [15, 16, 17, 18, 19, 20, 21, 22, 23, 24] r (Gm_letsHim_70 r q w70_s0 w70_s1 w70_s2).2 := by
  unfold Gm_letsHim_70
  repeat (first | with_reducible exact zFr.refl | with_reducible refine fzif2 (fun h => ?_) (fun h => ?_) | with_reducible refine fzifn2 (fun h => ?_) (fun h => ?_) | with_reducible refine fzlet2 ?_ | with_reducible refine fzc2 ?_ | with_reducible refine fzq2 ?_ | with_reducible refine zFr.set ?_ ?_ | with_reducible refine zFr.tr ?_ (fm_readsBeard) ?_ | decide)
theorem fm_letsHim {a1 : Int32} {a2 : Int32} {r : zRr} {q : zRq}  : zFr [15, 16, 17, 18, 19, 20, 21, 22, 23, 24] r (Gm_letsHim a1 a2 r q).2 := by
  unfold Gm_letsHim
  repeat (first | with_reducible exact zFr.refl | with_reducible refine fzif2 (fun h => ?_) (fun h => ?_) | with_reducible refine fzifn2 (fun h => ?_) (fun h => ?_) | with_reducible refine fzlet2 ?_ | with_reducible refine fzc2 ?_ | with_reducible refine fzq2 ?_ | with_reducible refine zFr.set ?_ ?_ | with_reducible refine zFr.tr ?_ (fm_letsHim_70) ?_ | decide)
theorem fm_speakersAt_59 {w5_3 : Int32} {w5_4 : Int32} {ih5 : Int32 → Int32 → zRr → (Int32 × zRr)} {w59_s0 : Int32} {rw59 : zRr} (hih5 : ∀ (x0 : Int32) (x1 : Int32) (x2 : zRr), zFr [15, 16, 17, 18, 19, 20, 21, 22, 23, 24] x2 (ih5 x0 x1 x2).2) : zFr [15, 16, 17, 18, 19, 20, 21, 22, 23, 24] rw59 (Gm_speakersAt_59 w5_3 w5_4 ih5 w59_s0 rw59).2 := by
  unfold Gm_speakersAt_59
  repeat (first | with_reducible exact zFr.refl | with_reducible refine fzif2 (fun h => ?_) (fun h => ?_) | with_reducible refine fzifn2 (fun h => ?_) (fun h => ?_) | with_reducible refine fzlet2 ?_ | with_reducible refine fzc2 ?_ | with_reducible refine fzq2 ?_ | with_reducible refine zFr.set ?_ ?_ | with_reducible refine zFr.tr ?_ (hih5 _ _ _) ?_ | decide)
theorem fm_speakersAt_58 {w5_3 : Int32} {w5_4 : Int32} {ih5 : Int32 → Int32 → zRr → (Int32 × zRr)} {rw58 : zRr} (hih5 : ∀ (x0 : Int32) (x1 : Int32) (x2 : zRr), zFr [15, 16, 17, 18, 19, 20, 21, 22, 23, 24] x2 (ih5 x0 x1 x2).2) : zFr [15, 16, 17, 18, 19, 20, 21, 22, 23, 24] rw58 (Gm_speakersAt_58 w5_3 w5_4 ih5 rw58).2 := by
  unfold Gm_speakersAt_58
  repeat (first | with_reducible exact zFr.refl | with_reducible refine fzif2 (fun h => ?_) (fun h => ?_) | with_reducible refine fzifn2 (fun h => ?_) (fun h => ?_) | with_reducible refine fzlet2 ?_ | with_reducible refine fzc2 ?_ | with_reducible refine fzq2 ?_ | with_reducible refine zFr.set ?_ ?_ | with_reducible refine zFr.tr ?_ (hih5 _ _ _) ?_ | with_reducible refine zFr.tr ?_ (fm_speakersAt_59 (hih5)) ?_ | decide)
theorem fm_speakersAt_5 {a1 : Int32} {a2 : Int32} {q : zRq}  : ∀ (n : Nat) (w5_3 : Int32) (w5_4 : Int32) (rw5 : zRr), zFr [15, 16, 17, 18, 19, 20, 21, 22, 23, 24] rw5 (Gm_speakersAt_5 a1 a2 q n w5_3 w5_4 rw5).2 := by
  intro n
  induction n with
  | zero => intro w5_3 w5_4 rw5; exact zFr.refl
  | succ n ih =>
    intro w5_3 w5_4 rw5
    have e0 : Gm_speakersAt_5 a1 a2 q (n + 1) w5_3 w5_4 rw5 = Bm_speakersAt_5 a1 a2 q (Gm_speakersAt_5 a1 a2 q n) w5_3 w5_4 rw5 := rfl
    rw [e0]
    unfold Bm_speakersAt_5
    repeat (first | with_reducible exact zFr.refl | with_reducible refine fzif2 (fun h => ?_) (fun h => ?_) | with_reducible refine fzifn2 (fun h => ?_) (fun h => ?_) | with_reducible refine fzlet2 ?_ | with_reducible refine fzc2 ?_ | with_reducible refine fzq2 ?_ | with_reducible refine zFr.set ?_ ?_ | with_reducible refine zFr.tr ?_ (ih _ _ _) ?_ | with_reducible refine zFr.tr ?_ (fm_speakersAt_58 (ih)) ?_ | with_reducible refine zFr.tr ?_ (fm_letsHim) ?_ | with_reducible refine zFr.tr ?_ (fm_speakersAt_59 (ih)) ?_ | decide)
theorem fm_speakersAt {a1 : Int32} {a2 : Int32} {r : zRr} {q : zRq}  : zFr [15, 16, 17, 18, 19, 20, 21, 22, 23, 24] r (Gm_speakersAt a1 a2 r q).2 := by
  unfold Gm_speakersAt
  repeat (first | with_reducible exact zFr.refl | with_reducible refine fzif2 (fun h => ?_) (fun h => ?_) | with_reducible refine fzifn2 (fun h => ?_) (fun h => ?_) | with_reducible refine fzlet2 ?_ | with_reducible refine fzc2 ?_ | with_reducible refine fzq2 ?_ | with_reducible refine zFr.set ?_ ?_ | with_reducible refine zFr.tr ?_ (fm_speakersAt_5 _ _ _ _) ?_ | decide)
theorem fm_lets {a1 : Int32} {a2 : Int32} {a3 : Int32} {r : zRr} {q : zRq}  : zFr [15, 16, 17, 18, 19, 20, 21, 22, 23, 24] r (Gm_lets a1 a2 a3 r q).2 := by
  unfold Gm_lets
  repeat (first | with_reducible exact zFr.refl | with_reducible refine fzif2 (fun h => ?_) (fun h => ?_) | with_reducible refine fzifn2 (fun h => ?_) (fun h => ?_) | with_reducible refine fzlet2 ?_ | with_reducible refine fzc2 ?_ | with_reducible refine fzq2 ?_ | with_reducible refine zFr.set ?_ ?_ | with_reducible refine zFr.tr ?_ (fm_letsHim) ?_ | with_reducible refine zFr.tr ?_ (fm_speakersAt) ?_ | decide)
theorem fm_canGo {a1 : Int32} {a2 : Int32} {r : zRr} {q : zRq}  : zFr [15, 16, 17, 18, 19, 20, 21, 22, 23, 24] r (Gm_canGo a1 a2 r q).2 := by
  unfold Gm_canGo
  repeat (first | with_reducible exact zFr.refl | with_reducible refine fzif2 (fun h => ?_) (fun h => ?_) | with_reducible refine fzifn2 (fun h => ?_) (fun h => ?_) | with_reducible refine fzlet2 ?_ | with_reducible refine fzc2 ?_ | with_reducible refine fzq2 ?_ | with_reducible refine zFr.set ?_ ?_ | with_reducible refine zFr.tr ?_ (fm_lets) ?_ | decide)
theorem fm_goes {a1 : Int32} {a2 : Int32} {r : zRr} {q : zRq}  : zFr [32] r (Gm_goes a1 a2 r q) := by
  unfold Gm_goes
  repeat (first | with_reducible exact zFr.refl | with_reducible refine fzif1 (fun h => ?_) (fun h => ?_) | with_reducible refine fzifn1 (fun h => ?_) (fun h => ?_) | with_reducible refine fzlet1 ?_ | with_reducible refine fzc1 ?_ | with_reducible refine fzq1 ?_ | with_reducible refine zFr.set ?_ ?_ | decide)
theorem fm_forges {a1 : Int32} {a2 : Int32} {r : zRr} {q : zRq}  : zFr [32] r (Gm_forges a1 a2 r q) := by
  unfold Gm_forges
  repeat (first | with_reducible exact zFr.refl | with_reducible refine fzif1 (fun h => ?_) (fun h => ?_) | with_reducible refine fzifn1 (fun h => ?_) (fun h => ?_) | with_reducible refine fzlet1 ?_ | with_reducible refine fzc1 ?_ | with_reducible refine fzq1 ?_ | with_reducible refine zFr.set ?_ ?_ | decide)
theorem fm_shaves {a1 : Int32} {r : zRr} {q : zRq}  : zFr [32] r (Gm_shaves a1 r q) := by
  unfold Gm_shaves
  repeat (first | with_reducible exact zFr.refl | with_reducible refine fzif1 (fun h => ?_) (fun h => ?_) | with_reducible refine fzifn1 (fun h => ?_) (fun h => ?_) | with_reducible refine fzlet1 ?_ | with_reducible refine fzc1 ?_ | with_reducible refine fzq1 ?_ | with_reducible refine zFr.set ?_ ?_ | decide)
theorem fm_passes_52 {w2_1 : Int32} {ih2 : Int32 → zRr → zRr} {rw52 : zRr} (hih2 : ∀ (x0 : Int32) (x1 : zRr), zFr [32] x1 (ih2 x0 x1)) : zFr [32] rw52 (Gm_passes_52 w2_1 ih2 rw52) := by
  unfold Gm_passes_52
  repeat (first | with_reducible exact zFr.refl | with_reducible refine fzif1 (fun h => ?_) (fun h => ?_) | with_reducible refine fzifn1 (fun h => ?_) (fun h => ?_) | with_reducible refine fzlet1 ?_ | with_reducible refine fzc1 ?_ | with_reducible refine fzq1 ?_ | with_reducible refine zFr.set ?_ ?_ | with_reducible refine zFr.tr ?_ (hih2 _ _) ?_ | decide)
theorem fm_passes_2   : ∀ (n : Nat) (w2_1 : Int32) (rw2 : zRr), zFr [32] rw2 (Gm_passes_2 n w2_1 rw2) := by
  intro n
  induction n with
  | zero => intro w2_1 rw2; exact zFr.refl
  | succ n ih =>
    intro w2_1 rw2
    have e0 : Gm_passes_2 (n + 1) w2_1 rw2 = Bm_passes_2 (Gm_passes_2 n) w2_1 rw2 := rfl
    rw [e0]
    unfold Bm_passes_2
    repeat (first | with_reducible exact zFr.refl | with_reducible refine fzif1 (fun h => ?_) (fun h => ?_) | with_reducible refine fzifn1 (fun h => ?_) (fun h => ?_) | with_reducible refine fzlet1 ?_ | with_reducible refine fzc1 ?_ | with_reducible refine fzq1 ?_ | with_reducible refine zFr.set ?_ ?_ | with_reducible refine zFr.tr ?_ (ih _ _) ?_ | with_reducible refine zFr.tr ?_ (fm_passes_52 (ih)) ?_ | decide)
theorem fm_passes {r : zRr} {q : zRq}  : zFr [32] r (Gm_passes r q) := by
  unfold Gm_passes
  repeat (first | with_reducible exact zFr.refl | with_reducible refine fzif1 (fun h => ?_) (fun h => ?_) | with_reducible refine fzifn1 (fun h => ?_) (fun h => ?_) | with_reducible refine fzlet1 ?_ | with_reducible refine fzc1 ?_ | with_reducible refine fzq1 ?_ | with_reducible refine zFr.set ?_ ?_ | with_reducible refine zFr.tr ?_ (fm_passes_2 _ _ _) ?_ | decide)
theorem fm_spreads_87 {w5_4 : Int32} {ih5 : Int32 → Int32 → zRr → (Int32 × zRr)} {w87_3 : Int32} {rw87 : zRr} (hih5 : ∀ (x0 : Int32) (x1 : Int32) (x2 : zRr), zFr [15, 16, 17, 18, 19, 20, 21, 22, 23, 24] x2 (ih5 x0 x1 x2).2) : zFr [15, 16, 17, 18, 19, 20, 21, 22, 23, 24] rw87 (Gm_spreads_87 w5_4 ih5 w87_3 rw87).2 := by
  unfold Gm_spreads_87
  repeat (first | with_reducible exact zFr.refl | with_reducible refine fzif2 (fun h => ?_) (fun h => ?_) | with_reducible refine fzifn2 (fun h => ?_) (fun h => ?_) | with_reducible refine fzlet2 ?_ | with_reducible refine fzc2 ?_ | with_reducible refine fzq2 ?_ | with_reducible refine zFr.set ?_ ?_ | with_reducible refine zFr.tr ?_ (hih5 _ _ _) ?_ | decide)
theorem fm_spreads_79 {w31_3 : Int32} {w31_5 : Int32} {ih31 : Int32 → Int32 → zRr → (Int32 × zRr)} {w79_s0 : Int32} {rw79 : zRr} (hih31 : ∀ (x0 : Int32) (x1 : Int32) (x2 : zRr), zFr [15, 16, 17, 18, 19, 20, 21, 22, 23, 24] x2 (ih31 x0 x1 x2).2) : zFr [15, 16, 17, 18, 19, 20, 21, 22, 23, 24] rw79 (Gm_spreads_79 w31_3 w31_5 ih31 w79_s0 rw79).2 := by
  unfold Gm_spreads_79
  repeat (first | with_reducible exact zFr.refl | with_reducible refine fzif2 (fun h => ?_) (fun h => ?_) | with_reducible refine fzifn2 (fun h => ?_) (fun h => ?_) | with_reducible refine fzlet2 ?_ | with_reducible refine fzc2 ?_ | with_reducible refine fzq2 ?_ | with_reducible refine zFr.set ?_ ?_ | with_reducible refine zFr.tr ?_ (hih31 _ _ _) ?_ | decide)
theorem fm_spreads_78 {w31_3 : Int32} {w31_5 : Int32} {ih31 : Int32 → Int32 → zRr → (Int32 × zRr)} {rw78 : zRr} (hih31 : ∀ (x0 : Int32) (x1 : Int32) (x2 : zRr), zFr [15, 16, 17, 18, 19, 20, 21, 22, 23, 24] x2 (ih31 x0 x1 x2).2) : zFr [15, 16, 17, 18, 19, 20, 21, 22, 23, 24] rw78 (Gm_spreads_78 w31_3 w31_5 ih31 rw78).2 := by
  unfold Gm_spreads_78
  repeat (first | with_reducible exact zFr.refl | with_reducible refine fzif2 (fun h => ?_) (fun h => ?_) | with_reducible refine fzifn2 (fun h => ?_) (fun h => ?_) | with_reducible refine fzlet2 ?_ | with_reducible refine fzc2 ?_ | with_reducible refine fzq2 ?_ | with_reducible refine zFr.set ?_ ?_ | with_reducible refine zFr.tr ?_ (hih31 _ _ _) ?_ | with_reducible refine zFr.tr ?_ (fm_spreads_79 (hih31)) ?_ | decide)
theorem fm_spreads_31 {a1 : Int32} {q : zRq} {w5_4 : Int32} {ih5 : Int32 → Int32 → zRr → (Int32 × zRr)} (hih5 : ∀ (x0 : Int32) (x1 : Int32) (x2 : zRr), zFr [15, 16, 17, 18, 19, 20, 21, 22, 23, 24] x2 (ih5 x0 x1 x2).2) : ∀ (n : Nat) (w31_3 : Int32) (w31_5 : Int32) (rw31 : zRr), zFr [15, 16, 17, 18, 19, 20, 21, 22, 23, 24] rw31 (Gm_spreads_31 a1 q w5_4 ih5 n w31_3 w31_5 rw31).2 := by
  intro n
  induction n with
  | zero => intro w31_3 w31_5 rw31; exact zFr.refl
  | succ n ih =>
    intro w31_3 w31_5 rw31
    have e0 : Gm_spreads_31 a1 q w5_4 ih5 (n + 1) w31_3 w31_5 rw31 = Bm_spreads_31 a1 q w5_4 ih5 (Gm_spreads_31 a1 q w5_4 ih5 n) w31_3 w31_5 rw31 := rfl
    rw [e0]
    unfold Bm_spreads_31
    repeat (first | with_reducible exact zFr.refl | with_reducible refine fzif2 (fun h => ?_) (fun h => ?_) | with_reducible refine fzifn2 (fun h => ?_) (fun h => ?_) | with_reducible refine fzlet2 ?_ | with_reducible refine fzc2 ?_ | with_reducible refine fzq2 ?_ | with_reducible refine zFr.set ?_ ?_ | with_reducible refine zFr.tr ?_ (ih _ _ _) ?_ | with_reducible refine zFr.tr ?_ (hih5 _ _ _) ?_ | with_reducible refine zFr.tr ?_ (fm_spreads_87 (hih5)) ?_ | with_reducible refine zFr.tr ?_ (fm_spreads_78 (ih)) ?_ | with_reducible refine zFr.tr ?_ (fm_lets) ?_ | with_reducible refine zFr.tr ?_ (fm_spreads_79 (ih)) ?_ | decide)
theorem fm_spreads_5 {a1 : Int32} {a2 : Int32} {q : zRq}  : ∀ (n : Nat) (w5_3 : Int32) (w5_4 : Int32) (rw5 : zRr), zFr [15, 16, 17, 18, 19, 20, 21, 22, 23, 24] rw5 (Gm_spreads_5 a1 a2 q n w5_3 w5_4 rw5).2 := by
  intro n
  induction n with
  | zero => intro w5_3 w5_4 rw5; exact zFr.refl
  | succ n ih =>
    intro w5_3 w5_4 rw5
    have e0 : Gm_spreads_5 a1 a2 q (n + 1) w5_3 w5_4 rw5 = Bm_spreads_5 a1 a2 q (Gm_spreads_5 a1 a2 q n) w5_3 w5_4 rw5 := rfl
    rw [e0]
    unfold Bm_spreads_5
    repeat (first | with_reducible exact zFr.refl | with_reducible refine fzif2 (fun h => ?_) (fun h => ?_) | with_reducible refine fzifn2 (fun h => ?_) (fun h => ?_) | with_reducible refine fzlet2 ?_ | with_reducible refine fzc2 ?_ | with_reducible refine fzq2 ?_ | with_reducible refine zFr.set ?_ ?_ | with_reducible refine zFr.tr ?_ (ih _ _ _) ?_ | with_reducible refine zFr.tr ?_ (fm_spreads_31 (ih) _ _ _ _) ?_ | with_reducible refine zFr.tr ?_ (fm_spreads_87 (ih)) ?_ | decide)
theorem fm_spreads {a1 : Int32} {a2 : Int32} {r : zRr} {q : zRq}  : zFr [15, 16, 17, 18, 19, 20, 21, 22, 23, 24] r (Gm_spreads a1 a2 r q).2 := by
  unfold Gm_spreads
  repeat (first | with_reducible exact zFr.refl | with_reducible refine fzif2 (fun h => ?_) (fun h => ?_) | with_reducible refine fzifn2 (fun h => ?_) (fun h => ?_) | with_reducible refine fzlet2 ?_ | with_reducible refine fzc2 ?_ | with_reducible refine fzq2 ?_ | with_reducible refine zFr.set ?_ ?_ | with_reducible refine zFr.tr ?_ (fm_spreads_5 _ _ _ _) ?_ | decide)
theorem fm_reachFrom_5 {a1 : Int32} {q : zRq}  : ∀ (n : Nat) (w5_3 : Int32) (w5_4 : Int32) (rw5 : zRr), zFr [15, 16, 17, 18, 19, 20, 21, 22, 23, 24] rw5 (Gm_reachFrom_5 a1 q n w5_3 w5_4 rw5).2 := by
  intro n
  induction n with
  | zero => intro w5_3 w5_4 rw5; exact zFr.refl
  | succ n ih =>
    intro w5_3 w5_4 rw5
    have e0 : Gm_reachFrom_5 a1 q (n + 1) w5_3 w5_4 rw5 = Bm_reachFrom_5 a1 q (Gm_reachFrom_5 a1 q n) w5_3 w5_4 rw5 := rfl
    rw [e0]
    unfold Bm_reachFrom_5
    repeat (first | with_reducible exact zFr.refl | with_reducible refine fzif2 (fun h => ?_) (fun h => ?_) | with_reducible refine fzifn2 (fun h => ?_) (fun h => ?_) | with_reducible refine fzlet2 ?_ | with_reducible refine fzc2 ?_ | with_reducible refine fzq2 ?_ | with_reducible refine zFr.set ?_ ?_ | with_reducible refine zFr.tr ?_ (ih _ _ _) ?_ | with_reducible refine zFr.tr ?_ (fm_spreads) ?_ | decide)
theorem fm_reachFrom {a1 : Int32} {a2 : Int32} {r : zRr} {q : zRq}  : zFr [15, 16, 17, 18, 19, 20, 21, 22, 23, 24] r (Gm_reachFrom a1 a2 r q).2 := by
  unfold Gm_reachFrom
  exact fm_reachFrom_5 64 _ _ _
theorem fm_follows {a1 : Int32} {r : zRr} {q : zRq}  : zFr [15, 16, 17, 18, 19, 20, 21, 22, 23, 24, 32] r (Gm_follows a1 r q).2 := by
  unfold Gm_follows
  simp only [zletQ, zifnQ, zc_vrQ]
  split
  · split
    · exact fm_canGo.up (by decide)
    · exact (fm_canGo.up (by decide)).tr (fm_goes (q := q)) (by decide)
  · split
    · split
      · exact zFr.refl
      · exact (fm_forges (q := q)).up (by decide)
    · split
      · exact (fm_shaves (q := q)).up (by decide)
      · exact (fm_passes (q := q)).up (by decide)
theorem fm_roams_162 {w25_5 : Int32} {ih25 : Int32 → Int32 → Int32 → zRr → (Int32 × zRr)} {w162_3 : Int32} {w162_4 : Int32} {rw162 : zRr} (hih25 : ∀ (x0 : Int32) (x1 : Int32) (x2 : Int32) (x3 : zRr), zFr [15, 16, 17, 18, 19, 20, 21, 22, 23, 24, 38] x3 (ih25 x0 x1 x2 x3).2) : zFr [15, 16, 17, 18, 19, 20, 21, 22, 23, 24, 38] rw162 (Gm_roams_162 w25_5 ih25 w162_3 w162_4 rw162).2 := by
  unfold Gm_roams_162
  repeat (first | with_reducible exact zFr.refl | with_reducible refine fzif2 (fun h => ?_) (fun h => ?_) | with_reducible refine fzifn2 (fun h => ?_) (fun h => ?_) | with_reducible refine fzlet2 ?_ | with_reducible refine fzc2 ?_ | with_reducible refine fzq2 ?_ | with_reducible refine zFr.set ?_ ?_ | with_reducible refine zFr.tr ?_ (hih25 _ _ _ _) ?_ | decide)
theorem fm_roams_156 {w77_4 : Int32} {w77_6 : Int32} {w77_7 : Int32} {ih77 : Int32 → Int32 → Int32 → Int32 → zRr → (Int32 × zRr)} {w156_3 : Int32} {rw156 : zRr} (hih77 : ∀ (x0 : Int32) (x1 : Int32) (x2 : Int32) (x3 : Int32) (x4 : zRr), zFr [15, 16, 17, 18, 19, 20, 21, 22, 23, 24, 38] x4 (ih77 x0 x1 x2 x3 x4).2) : zFr [15, 16, 17, 18, 19, 20, 21, 22, 23, 24, 38] rw156 (Gm_roams_156 w77_4 w77_6 w77_7 ih77 w156_3 rw156).2 := by
  unfold Gm_roams_156
  repeat (first | with_reducible exact zFr.refl | with_reducible refine fzif2 (fun h => ?_) (fun h => ?_) | with_reducible refine fzifn2 (fun h => ?_) (fun h => ?_) | with_reducible refine fzlet2 ?_ | with_reducible refine fzc2 ?_ | with_reducible refine fzq2 ?_ | with_reducible refine zFr.set ?_ ?_ | with_reducible refine zFr.tr ?_ (hih77 _ _ _ _ _) ?_ | decide)
theorem fm_roams_77 {a1 : Int32} {q : zRq} {w25_5 : Int32} {ih25 : Int32 → Int32 → Int32 → zRr → (Int32 × zRr)} (hih25 : ∀ (x0 : Int32) (x1 : Int32) (x2 : Int32) (x3 : zRr), zFr [15, 16, 17, 18, 19, 20, 21, 22, 23, 24, 38] x3 (ih25 x0 x1 x2 x3).2) : ∀ (n : Nat) (w77_3 : Int32) (w77_4 : Int32) (w77_6 : Int32) (w77_7 : Int32) (rw77 : zRr), zFr [15, 16, 17, 18, 19, 20, 21, 22, 23, 24, 38] rw77 (Gm_roams_77 a1 q w25_5 ih25 n w77_3 w77_4 w77_6 w77_7 rw77).2 := by
  intro n
  induction n with
  | zero => intro w77_3 w77_4 w77_6 w77_7 rw77; exact zFr.refl
  | succ n ih =>
    intro w77_3 w77_4 w77_6 w77_7 rw77
    have e0 : Gm_roams_77 a1 q w25_5 ih25 (n + 1) w77_3 w77_4 w77_6 w77_7 rw77 = Bm_roams_77 a1 q w25_5 ih25 (Gm_roams_77 a1 q w25_5 ih25 n) w77_3 w77_4 w77_6 w77_7 rw77 := rfl
    rw [e0]
    unfold Bm_roams_77
    repeat (first | with_reducible exact zFr.refl | with_reducible refine fzif2 (fun h => ?_) (fun h => ?_) | with_reducible refine fzifn2 (fun h => ?_) (fun h => ?_) | with_reducible refine fzlet2 ?_ | with_reducible refine fzc2 ?_ | with_reducible refine fzq2 ?_ | with_reducible refine zFr.set ?_ ?_ | with_reducible refine zFr.tr ?_ (ih _ _ _ _ _) ?_ | with_reducible refine zFr.tr ?_ (hih25 _ _ _ _) ?_ | with_reducible refine zFr.tr ?_ (fm_roams_162 (hih25)) ?_ | with_reducible refine zFr.tr ?_ (fm_roams_156 (ih)) ?_ | with_reducible refine zFr.tr ?_ (fm_lets) ?_ | decide)
theorem fm_roams_72 {a1 : Int32} {q : zRq} {w25_3 : Int32} {w25_5 : Int32} {rw25 : zRr} {ih25 : Int32 → Int32 → Int32 → zRr → (Int32 × zRr)} {w72_6 : Int32} {w72_s0 : Int32} (hih25 : ∀ (x0 : Int32) (x1 : Int32) (x2 : Int32) (x3 : zRr), zFr [15, 16, 17, 18, 19, 20, 21, 22, 23, 24, 38] x3 (ih25 x0 x1 x2 x3).2) : zFr [15, 16, 17, 18, 19, 20, 21, 22, 23, 24, 38] rw25 (Gm_roams_72 a1 q w25_3 w25_5 rw25 ih25 w72_6 w72_s0).2 := by
  unfold Gm_roams_72
  repeat (first | with_reducible exact zFr.refl | with_reducible refine fzif2 (fun h => ?_) (fun h => ?_) | with_reducible refine fzifn2 (fun h => ?_) (fun h => ?_) | with_reducible refine fzlet2 ?_ | with_reducible refine fzc2 ?_ | with_reducible refine fzq2 ?_ | with_reducible refine zFr.set ?_ ?_ | with_reducible refine zFr.tr ?_ (hih25 _ _ _ _) ?_ | with_reducible refine zFr.tr ?_ (fm_roams_77 (hih25) _ _ _ _ _ _) ?_ | decide)
theorem fm_roams_67 {a1 : Int32} {q : zRq} {w25_3 : Int32} {w25_5 : Int32} {rw25 : zRr} {ih25 : Int32 → Int32 → Int32 → zRr → (Int32 × zRr)} {w67_6 : Int32} (hih25 : ∀ (x0 : Int32) (x1 : Int32) (x2 : Int32) (x3 : zRr), zFr [15, 16, 17, 18, 19, 20, 21, 22, 23, 24, 38] x3 (ih25 x0 x1 x2 x3).2) : zFr [15, 16, 17, 18, 19, 20, 21, 22, 23, 24, 38] rw25 (Gm_roams_67 a1 q w25_3 w25_5 rw25 ih25 w67_6).2 := by
  unfold Gm_roams_67
  repeat (first | with_reducible exact zFr.refl | with_reducible refine fzif2 (fun h => ?_) (fun h => ?_) | with_reducible refine fzifn2 (fun h => ?_) (fun h => ?_) | with_reducible refine fzlet2 ?_ | with_reducible refine fzc2 ?_ | with_reducible refine fzq2 ?_ | with_reducible refine zFr.set ?_ ?_ | with_reducible refine zFr.tr ?_ (hih25 _ _ _ _) ?_ | with_reducible refine zFr.tr ?_ (fm_roams_72 (hih25)) ?_ | decide)
theorem fm_roams_25 {a1 : Int32} {q : zRq} {w16_2 : Int32} {ih16 : Int32 → Int32 → Int32 → zRr → (Int32 × zRr)} (hih16 : ∀ (x0 : Int32) (x1 : Int32) (x2 : Int32) (x3 : zRr), zFr [15, 16, 17, 18, 19, 20, 21, 22, 23, 24, 38] x3 (ih16 x0 x1 x2 x3).2) : ∀ (n : Nat) (w25_3 : Int32) (w25_4 : Int32) (w25_5 : Int32) (rw25 : zRr), zFr [15, 16, 17, 18, 19, 20, 21, 22, 23, 24, 38] rw25 (Gm_roams_25 a1 q w16_2 ih16 n w25_3 w25_4 w25_5 rw25).2 := by
  intro n
  induction n with
  | zero => intro w25_3 w25_4 w25_5 rw25; exact zFr.refl
  | succ n ih =>
    intro w25_3 w25_4 w25_5 rw25
    have e0 : Gm_roams_25 a1 q w16_2 ih16 (n + 1) w25_3 w25_4 w25_5 rw25 = Bm_roams_25 a1 q w16_2 ih16 (Gm_roams_25 a1 q w16_2 ih16 n) w25_3 w25_4 w25_5 rw25 := rfl
    rw [e0]
    unfold Bm_roams_25
    simp only [zletQ, zifQ, zifnQ]
    split
    · exact hih16 _ _ _ _
    · split
      · exact fm_roams_162 ih
      · split
        · split
          · exact fm_roams_67 ih
          · exact fm_roams_72 ih
        · exact fm_roams_67 ih
theorem fm_roams_16 {a1 : Int32} {q : zRq}  : ∀ (n : Nat) (w16_2 : Int32) (w16_3 : Int32) (w16_4 : Int32) (rw16 : zRr), zFr [15, 16, 17, 18, 19, 20, 21, 22, 23, 24, 38] rw16 (Gm_roams_16 a1 q n w16_2 w16_3 w16_4 rw16).2 := by
  intro n
  induction n with
  | zero => intro w16_2 w16_3 w16_4 rw16; exact zFr.refl
  | succ n ih =>
    intro w16_2 w16_3 w16_4 rw16
    have e0 : Gm_roams_16 a1 q (n + 1) w16_2 w16_3 w16_4 rw16 = Bm_roams_16 a1 q (Gm_roams_16 a1 q n) w16_2 w16_3 w16_4 rw16 := rfl
    rw [e0]
    unfold Bm_roams_16
    exact fzif2 (fun _ => zFr.refl) (fun _ => fm_roams_25 ih 385 _ _ _ _)
theorem fm_roams {a1 : Int32} {r : zRr} {q : zRq}  : zFr [15, 16, 17, 18, 19, 20, 21, 22, 23, 24, 38] r (Gm_roams a1 r q).2 := by
  unfold Gm_roams
  rw [zletQ, zletQ, zletQ]
  exact fm_roams_16 386 _ _ _ _
theorem fm_livesWeek_96 {w2_1 : Int32} {ih2 : Int32 → zRr → zRq → (zRr × zRq)} {rw96 : zRr} {qw96 : zRq} (hih2 : ∀ (x0 : Int32) (x1 : zRr) (x2 : zRq), zFr [15, 16, 17, 18, 19, 20, 21, 22, 23, 24, 32, 155, 156] x1 (ih2 x0 x1 x2).1) : zFr [15, 16, 17, 18, 19, 20, 21, 22, 23, 24, 32, 155, 156] rw96 (Gm_livesWeek_96 w2_1 ih2 rw96 qw96).1 := by
  unfold Gm_livesWeek_96
  repeat (first | with_reducible exact zFr.refl | with_reducible refine fzif3 (fun h => ?_) (fun h => ?_) | with_reducible refine fzifn3 (fun h => ?_) (fun h => ?_) | with_reducible refine fzlet3 ?_ | with_reducible refine fzc3 ?_ | with_reducible refine fzq3 ?_ | with_reducible refine zFr.set ?_ ?_ | with_reducible refine zFr.tr ?_ (hih2 _ _ _) ?_ | decide)
theorem fm_livesWeek_82 {w2_1 : Int32} {ih2 : Int32 → zRr → zRq → (zRr × zRq)} {rw82 : zRr} {qw82 : zRq} (hih2 : ∀ (x0 : Int32) (x1 : zRr) (x2 : zRq), zFr [15, 16, 17, 18, 19, 20, 21, 22, 23, 24, 32, 155, 156] x1 (ih2 x0 x1 x2).1) : zFr [15, 16, 17, 18, 19, 20, 21, 22, 23, 24, 32, 155, 156] rw82 (Gm_livesWeek_82 w2_1 ih2 rw82 qw82).1 := by
  unfold Gm_livesWeek_82
  rw [zc_vqQ]
  generalize Gm_draws20 rw82 qw82 = o
  simp only [zifnQ, zletQ]
  split
  · exact ((fm_shaves (q := o.2)).up (by decide)).tr (fm_livesWeek_96 hih2) (by decide)
  · exact fm_livesWeek_96 hih2
theorem fm_livesWeek_2   : ∀ (n : Nat) (w2_1 : Int32) (rw2 : zRr) (qw2 : zRq), zFr [15, 16, 17, 18, 19, 20, 21, 22, 23, 24, 32, 155, 156] rw2 (Gm_livesWeek_2 n w2_1 rw2 qw2).1 := by
  intro n
  induction n with
  | zero => intro w2_1 rw2 qw2; exact zFr.refl
  | succ n ih =>
    intro w2_1 rw2 qw2
    have e0 : Gm_livesWeek_2 (n + 1) w2_1 rw2 qw2 = Bm_livesWeek_2 (Gm_livesWeek_2 n) w2_1 rw2 qw2 := rfl
    rw [e0]
    unfold Bm_livesWeek_2
    simp only [zletQ, zifQ, zifnQ]
    split
    · exact (fm_passes (q := qw2)).up (by decide)
    · rw [zc_vqQ]
      generalize Gm_draws (rw2 1 0) rw2 qw2 = o
      split
      · rw [zc_vrQ]
        have f := (fm_canGo (a1 := w2_1) (a2 := o.1) (r := rw2) (q := o.2)).up (M := [15, 16, 17, 18, 19, 20, 21, 22, 23, 24, 32, 155, 156]) (by decide)
        generalize Gm_canGo w2_1 o.1 rw2 o.2 = oc at f ⊢
        split
        · exact (f.set rfl).tr (fm_livesWeek_82 ih) (by decide)
        · exact ((f.tr (fm_goes (q := o.2)) (by decide)).set rfl).tr (fm_livesWeek_82 ih) (by decide)
      · exact fm_livesWeek_82 ih
theorem fm_livesWeek {r : zRr} {q : zRq}  : zFr [15, 16, 17, 18, 19, 20, 21, 22, 23, 24, 32, 155, 156] r (Gm_livesWeek r q).1 := by
  unfold Gm_livesWeek
  repeat (first | with_reducible exact zFr.refl | with_reducible refine fzif3 (fun h => ?_) (fun h => ?_) | with_reducible refine fzifn3 (fun h => ?_) (fun h => ?_) | with_reducible refine fzlet3 ?_ | with_reducible refine fzc3 ?_ | with_reducible refine fzq3 ?_ | with_reducible refine zFr.set ?_ ?_ | with_reducible refine zFr.tr ?_ (fm_livesWeek_2 _ _ _ _) ?_ | decide)
