def wyX (x y u v : Int32) : Int32 := (if 0 ≤ (x - u) then (x - u) else 0 - (x - u)) + (if 0 ≤ (y - v) then (y - v) else 0 - (y - v))
/-- the k-th gives nothing and one of the n is no further than v, with b at least -/
def BP (W : Int32 → Int32 → Int32 → Int32 → Int32) (u x y f g h : Nat → Int32) (n : Nat) (v b : Int32) (k : Nat) : Prop := u k = 0 ∧ ∃ j : Nat, j < n ∧ b.toInt ≤ (h j).toInt ∧ (W (x k) (y k) (f j) (g j)).toInt ≤ v.toInt
/-- the bits of those of which P holds -/
def BSB (P : Nat → Prop) : Nat → Int32 → Prop
  | 0, r => r = 0
  | n + 1, r => ∃ x : Int32, BSB P n x ∧ ((P n ∧ r = x ||| (1 <<< ((nI n) &&& 31))) ∨ (¬ P n ∧ r = x))
