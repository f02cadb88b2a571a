/-! ===== what holds between two calls: the tapes alike, the same LAND told ===== -/
def lR (r : zRr) (q : zRq) (rm : zRr) (qm : zRq) : Prop := lT r rm ∧ lD r q rm qm
section LR
variable {r r1 : zRr} {q : zRq} {rm rm1 : zRr} {qm : zRq}
theorem lR.k (h : lR r q rm qm) (f : zFt r r1) : lR r1 q rm qm :=
  ⟨h.1.k ⟨f 196 rfl, f 197 rfl⟩, h.2.fr ⟨fun a h1 h2 => f a (zK3_in h1 h2), rfl, rfl⟩ xLow.refl⟩
theorem lR.m {M : List Nat} (h : lR r q rm qm) (f : zFr M rm rm1) (h0 : M.contains 0 = false) (h1 : M.contains 101 = false) (h2 : ([1, 4, 5, 6, 7, 8, 9, 10, 11, 12].all fun k => !M.contains k) = true) : lR r q rm1 qm :=
  ⟨h.1.m (f 0 h0) (f 101 h1), h.2.fr ⟨fun _ _ _ => rfl, rfl, rfl⟩ (xLow.of_ f rfl h2)⟩
theorem lR.land {B : Int} {u um : Int32 × zRr × zRq} (e : u = Gk_land r q) (em : um = Gm_land rm qm) (hM : mJ B rm) (h : lR r q rm qm) (z : u.2.1 196 1 = 0) (zm : um.2.1 101 0 = 0) : u.1 = um.1 ∧ lR u.2.1 u.2.2 um.2.1 um.2.2 := by
  obtain ⟨h1, t, p, h2⟩ := h
  have hp := h1.p hM
  refine ⟨by rw [e, em]; exact xLandA hp, lT.z z zm, ?_⟩
  rw [e, em]
  exact xLand hp h2
theorem lR.jour {B : Int} {u um : Int32 × zRr × zRq} (e : u = Gk_journey r q) (em : um = Gm_journey rm qm) (hM : mJ B rm) (h : lR r q rm qm) (z : u.2.1 196 1 = 0) (zm : um.2.1 101 0 = 0) : u.1 = um.1 ∧ lR u.2.1 u.2.2 um.2.1 um.2.2 := by
  obtain ⟨h1, t, p, h2⟩ := h
  have k := xJour (h1.p hM) h2
  refine ⟨by rw [e, em]; exact k.1, lT.z z zm, t, p, ?_⟩
  rw [e, em]
  exact k.2
end LR
