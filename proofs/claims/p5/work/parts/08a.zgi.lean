theorem zgi {big : List Cond} (ws : List Cond) (n : Nat) (h1 : GoodIn big (ws.take n)) (h2 : GoodIn big (ws.drop n)) : GoodIn big ws := by
  intro w hw
  rw [← List.take_append_drop n ws] at hw
  rcases List.mem_append.mp hw with h | h
  · exact h1 w h
  · exact h2 w h
