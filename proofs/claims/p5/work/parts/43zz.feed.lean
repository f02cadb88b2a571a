theorem lR.feed {r r1 : zRr} {q : zRq} {rm : zRr} {qm : zRq} {a b c : Int64} {B : Int} (hM : mJ B rm) (hJ : kJ r1) (h : lR r q rm qm) (f : zFr [196, 197] r r1) (h2 : kTp r1 = ztp c 8 (ztp b 8 (ztp a 8 (kTp r)))) : lR r1 q (mfd rm a b c) qm := by
  have g : zFr [0, 100, 101] rm (mfd rm a b c) := ((zFr.refl.set rfl).set rfl).set rfl
  have kf : ∀ a, a ≠ 196 → a ≠ 197 → r1 a = r a := fun a a1 a2 => f a (by
    cases e : [196, 197].contains a with
    | false => rfl
    | true =>
      have := List.contains_iff_mem.mp e
      simp only [List.mem_cons, List.not_mem_nil, or_false] at this
      omega)
  obtain ⟨g1, ⟨t, p, g2⟩, g3, g4⟩ := h
  exact ⟨lfeed2 hM hJ g1 h2, ⟨t, p, g2.fr (fun a ha => kf a (by omega) (by omega)) (fun i _ => by rw [g 32 rfl]) (by rw [g 152 rfl]; exact g2.2.2.2.2.2) g (by decide)⟩, g3.fr (fun k hk => kf _ (by omega) (by omega)) (g 37 rfl), g4.fr (fun k hk => kf _ (by omega) (by omega)) (g 29 rfl)⟩
