/-! ===== the comparisons ===== -/
section LC
variable {r : zRr} {q : zRq} {rm : zRr} {qm : zRq} {a b : Int32}
theorem lR.cPerson {u : Int32} {um : Int32 × zRr} (e : u = Gk_person a b r q) (em : um = Gm_person a b rm qm) (_ : mJ 20 rm) (_ : kJ r) (h : lR r q rm qm) : u = um.1 := by
  obtain ⟨_, ⟨t, p, h2⟩, _⟩ := h
  rw [e, em]; exact xPersonW h2
theorem lR.cTown {u um : Int32 × zRr} (e : u = Gk_town a b r q) (em : um = Gm_town a b rm qm) (_ : mJ 20 rm) (_ : kJ r) (h : lR r q rm qm) : u.1 = um.1 := by
  obtain ⟨_, ⟨t, p, h2⟩, _⟩ := h
  rw [e, em]; exact xTownW h2
theorem lR.cSpeakers {u um : Int32 × zRr} (e : u = Gk_speakers a b r q) (em : um = Gm_speakers a b rm qm) (_ : mJ 20 rm) (_ : kJ r) (h : lR r q rm qm) : u.1 = um.1 := by
  obtain ⟨_, ⟨t, p, h2⟩, _⟩ := h
  rw [e, em]; exact xSpeakW h2
theorem lR.cCount {u : Int32} {um : Int32 × zRr} (e : u = Gk_count a r q) (em : um = Gm_count a rm qm) (_ : mJ 20 rm) (_ : kJ r) (h : lR r q rm qm) : u = um.1 := by
  obtain ⟨h1, ⟨t, p, h2⟩, _, h4⟩ := h
  rw [e, em]; exact xCountW h2 h4 h1.1
theorem lR.cReach {u um : Int32 × zRr} (e : u = Gk_reach a r q) (em : um = Gm_reach a rm qm) (_ : mJ 20 rm) (_ : kJ r) (h : lR r q rm qm) : u.1 = um.1 := by
  obtain ⟨_, ⟨t, p, h2⟩, _⟩ := h
  rw [e, em]; exact xReachW h2
theorem lR.cShaven {u um : Int32 × zRr} (e : u = Gk_shaven a r q) (em : um = Gm_shaven a rm qm) (_ : mJ 20 rm) (_ : kJ r) (h : lR r q rm qm) : u.1 = um.1 := by
  obtain ⟨_, ⟨t, p, h2⟩, _⟩ := h
  rw [e, em]; exact xShavenW h2
theorem lR.cStricter {u um : Int32 × zRr} (e : u = Gk_stricter a b r q) (em : um = Gm_stricter a b rm qm) (_ : mJ 20 rm) (_ : kJ r) (h : lR r q rm qm) : u.1 = um.1 := by
  obtain ⟨_, ⟨t, p, h2⟩, _⟩ := h
  rw [e, em]; exact xStricterW h2
theorem lR.cFrontiers {u um : Int32 × zRr} (e : u = Gk_frontiers a b r q) (em : um = Gm_frontiers a b rm qm) (_ : mJ 20 rm) (_ : kJ r) (h : lR r q rm qm) : u.1 = um.1 := by
  obtain ⟨_, ⟨t, p, h2⟩, _⟩ := h
  rw [e, em]; exact xFrontW h2
theorem lR.cTrapped {u um : Int32 × zRr} (e : u = Gk_trapped r q) (em : um = Gm_trapped rm qm) (_ : mJ 20 rm) (_ : kJ r) (h : lR r q rm qm) : u.1 = um.1 := by
  obtain ⟨_, ⟨t, p, h2⟩, _⟩ := h
  rw [e, em]; exact xTrapW h2
theorem lR.cStrict {u um : Int32 × zRr} (e : u = Gk_strict r q) (em : um = Gm_strict rm qm) (_ : mJ 20 rm) (_ : kJ r) (h : lR r q rm qm) : u.1 = um.1 := by
  obtain ⟨_, ⟨t, p, h2⟩, _⟩ := h
  rw [e, em]; exact xStrictW h2
theorem lR.cAlike {u um : Int32 × zRr} (e : u = Gk_alike r q) (em : um = Gm_alike rm qm) (_ : mJ 20 rm) (_ : kJ r) (h : lR r q rm qm) : u.1 = um.1 := by
  obtain ⟨_, ⟨t, p, h2⟩, _⟩ := h
  rw [e, em]; exact xAlikeW h2
theorem lR.cNeed {u um : Int32 × zRr} (e : u = Gk_need a b r q) (em : um = Gm_need a b rm qm) (hM : mJ 20 rm) (_ : kJ r) (h : lR r q rm qm) : u.1 = um.1 := by
  obtain ⟨_, ⟨t, p, h2⟩, _⟩ := h
  rw [e, em]; exact xNeedW h2 hM.fo
theorem lR.cDebt {u um : Int32 × zRr} (e : u = Gk_debt a b r q) (em : um = Gm_debt a b rm qm) (hM : mJ 20 rm) (_ : kJ r) (h : lR r q rm qm) : u.1 = um.1 := by
  obtain ⟨_, ⟨t, p, h2⟩, _⟩ := h
  rw [e, em]; exact xDebtW h2 hM.fo
theorem lR.cCheapest {u um : Int32 × zRr} (e : u = Gk_cheapest a r q) (em : um = Gm_cheapest a rm qm) (hM : mJ 20 rm) (_ : kJ r) (h : lR r q rm qm) : u.1 = um.1 := by
  obtain ⟨_, ⟨t, p, h2⟩, _⟩ := h
  rw [e, em]; exact xCheapW h2 hM.fo
theorem lR.cWhen {u um : Int32 × zRr} (e : u = Gk_when a b r q) (em : um = Gm_when a b rm qm) (_ : mJ 20 rm) (_ : kJ r) (h : lR r q rm qm) : u.1 = um.1 := by
  obtain ⟨_, ⟨t, p, h2⟩, _⟩ := h
  rw [e, em]; exact xWhenW h2
theorem lR.cGuide {u um : Int32 × zRr} (e : u = Gk_guide a b r q) (em : um = Gm_guide a b rm qm) (_ : mJ 20 rm) (_ : kJ r) (h : lR r q rm qm) : u.1 = um.1 := by
  obtain ⟨_, ⟨t, p, h2⟩, _⟩ := h
  rw [e, em]; exact xGuideW h2
theorem lR.cMeeting {u um : Int32 × zRr} (e : u = Gk_meeting a r q) (em : um = Gm_meeting a rm qm) (_ : mJ 20 rm) (_ : kJ r) (h : lR r q rm qm) : u.1 = um.1 := by
  obtain ⟨_, ⟨t, p, h2⟩, _⟩ := h
  rw [e, em]; exact xMeetW h2
theorem lR.cJudged {u um : Int32 × zRr} (e : u = Gk_judged a r q) (em : um = Gm_judged a rm qm) (_ : mJ 20 rm) (_ : kJ r) (h : lR r q rm qm) : u.1 = um.1 := by
  obtain ⟨_, ⟨t, p, h2⟩, _⟩ := h
  rw [e, em]; exact xJudgedW h2
end LC
