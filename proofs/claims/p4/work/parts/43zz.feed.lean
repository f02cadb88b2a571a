theorem lR.feed {r r1 : zRr} {q : zRq} {rm : zRr} {qm : zRq} {a b c : Int64} {B : Int} (hM : mJ B rm) (hJ : kJ r1) (h : lR r q rm qm) (f : zFr [196, 197] r r1) (h2 : kTp r1 = ztp c 8 (ztp b 8 (ztp a 8 (kTp r)))) : lR r1 q (mfd rm a b c) qm := by
  refine ⟨lfeed2 hM hJ h.1 h2, h.2.fr (xKk.of f rfl (by decide)) (xLow.of_ (M := [0, 100, 101]) ?_ rfl (by decide))⟩
  exact ((zFr.refl.set rfl).set rfl).set rfl
