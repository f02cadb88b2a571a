def zfl (f : Nat → Int32) (v : Int32) (i : Nat) : Nat → Int32 := fun j => if j < i then v else f j
def zsf (f : Nat → Int32) (n i : Nat) : Nat → Int32 := fun j => if j < i then f (n + j) else f j
def zsL (f : Nat → Int64) (n i : Nat) : Nat → Int64 := fun j => if j < i then f (n + j) else f j
