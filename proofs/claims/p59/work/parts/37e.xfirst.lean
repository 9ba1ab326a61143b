/-- the first day from d on that is not below b; -2: none -/
def FST (f : Nat → Int32) (d : Nat) (b r : Int32) : Prop := (∃ m : Nat, d ≤ m ∧ m < 400 ∧ (∀ j : Nat, d ≤ j → j < m → (f j).toInt < b.toInt) ∧ b.toInt ≤ (f m).toInt ∧ r = nI m) ∨ ((∀ j : Nat, d ≤ j → j < 400 → (f j).toInt < b.toInt) ∧ r = -2)
theorem atM_i {f : Nat → Int32} {n i : Nat} (h : i < n) (hn : n < 2 ^ 31) : atM f n (nI i) = f i := by
  unfold atM
  rw [nI_toInt (by omega), if_pos ⟨by omega, by omega⟩, nI_clamp (by omega)]



