/-- the first day from d on that is not below b; -2: none -/
def FST (f : Nat → Int32) (d : Nat) (b r : Int32) : Prop := (∃ m : Nat, d ≤ m ∧ m < 400 ∧ (∀ j : Nat, d ≤ j → j < m → (f j).toInt < b.toInt) ∧ b.toInt ≤ (f m).toInt ∧ r = nI m) ∨ ((∀ j : Nat, d ≤ j → j < 400 → (f j).toInt < b.toInt) ∧ r = -2)
theorem FST.un {f : Nat → Int32} {d : Nat} {b r r2 : Int32} (h : FST f d b r) (h2 : FST f d b r2) : r = r2 := by
  rcases h with ⟨m, a1, a2, a3, a4, a5⟩ | ⟨a1, a2⟩ <;> rcases h2 with ⟨n, b1, b2, b3, b4, b5⟩ | ⟨b1, b2⟩
  · rcases Nat.lt_trichotomy m n with q | q | q
    · have := b3 m a1 q; omega
    · rw [a5, b5, q]
    · have := a3 n b1 q; omega
  · have := b1 m a1 a2; omega
  · have := a1 n b1 b2; omega
  · rw [a2, b2]
theorem atM_i {f : Nat → Int32} {n i : Nat} (h : i < n) (hn : n < 2 ^ 31) : atM f n (nI i) = f i := by
  unfold atM
  rw [nI_toInt (by omega), if_pos ⟨by omega, by omega⟩, nI_clamp (by omega)]



