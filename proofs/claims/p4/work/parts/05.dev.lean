def zfl (f : Nat → Int32) (v : Int32) (i : Nat) : Nat → Int32 := fun j => if j < i then v else f j
def zsf (f : Nat → Int32) (n i : Nat) : Nat → Int32 := fun j => if j < i then f (n + j) else f j
def zsL (f : Nat → Int64) (n i : Nat) : Nat → Int64 := fun j => if j < i then f (n + j) else f j
def zcp (f g : Nat → Int32) (a b i : Nat) : Nat → Int32 := fun j => if b ≤ j ∧ j < b + i then f (a + (j - b)) else g j
