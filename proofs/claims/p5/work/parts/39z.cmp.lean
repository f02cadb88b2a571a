/-! ===== the comparisons ===== -/
section LC
variable {r : zRr} {q : zRq} {rm : zRr} {qm : zRq} {a b : Int32}
theorem lR.cPerson {u : Int32} {um : Int32 × zRr} (e : u = Gk_person a b r q) (em : um = Gm_person a b rm qm) (_ : mJ 20 rm) (_ : kJ r) (h : lR r q rm qm) : u = um.1 := by
  obtain ⟨_, ⟨t, p, h2⟩, _⟩ := h
  rw [e, em]; exact xPersonW h2
theorem lR.cTown {u um : Int32 × zRr} (e : u = Gk_town a b r q) (em : um = Gm_town a b rm qm) (_ : mJ 20 rm) (_ : kJ r) (h : lR r q rm qm) : u.1 = um.1 := by
  obtain ⟨_, ⟨t, p, h2⟩, _⟩ := h
  rw [e, em]; exact xTownW h2
theorem lR.cSpeakers {u um : Int32 × zRr} (e : u = Gk_speakers a b r q) (em : um = Gm_speakers a b rm qm) (_ : mJ 20 rm) (_ : kJ r) (h : lR r q rm qm) : u.1 = um.1 := by
  obtain ⟨_, ⟨t, p, h2⟩, _⟩ := h
  rw [e, em]; exact xSpeakW h2
theorem lR.cCount {u : Int32} {um : Int32 × zRr} (e : u = Gk_count a r q) (em : um = Gm_count a rm qm) (_ : mJ 20 rm) (_ : kJ r) (h : lR r q rm qm) : u = um.1 := by
  obtain ⟨h1, ⟨t, p, h2⟩, _, h4⟩ := h
  rw [e, em]; exact xCountW h2 h4 h1.1
end LC
