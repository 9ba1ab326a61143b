def stv (h : Nat → Int32) : Option Nat → Int32
  | none => -2
  | some m => if h m = -1 then -2 else h m
section STV
variable {h h' : Nat → Int32} {o : Option Nat} {m n : Nat}
end STV
theorem m1_of {x : Int32} (h : x.toInt = -1) : x = -1 := Int32.toInt_inj.mp h
theorem m1_to {x : Int32} (h : x = -1) : x.toInt = -1 := by subst h; rfl



