/-- the sum of p over the first n -/
def sg (p : Nat → Int32) : Nat → Int32
  | 0 => 0
  | n + 1 => sg p n + p n
theorem sg_eq {p q : Nat → Int32} : ∀ n : Nat, (∀ i : Nat, i < n → p i = q i) → sg p n = sg q n
  | 0, _ => rfl
  | n + 1, h => by show sg p n + p n = sg q n + q n; rw [sg_eq n (fun i hi => h i (by omega)), h n (by omega)]
/-- 1: f of the i-th is v, and on the day g of it dg is below b -/
def ltx (f g dg : Nat → Int32) (v b : Int32) (i : Nat) : Int32 := if f i = v ∧ (atM dg 400 (g i)).toInt < b.toInt then 1 else 0
section LTX
variable {f g dg : Nat → Int32} {v b : Int32} {i a : Nat}
end LTX



