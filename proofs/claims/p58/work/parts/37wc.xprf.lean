/-- the first below n of which P holds -/
def TWF (P : Nat → Prop) (n : Nat) (r : Int32) : Prop := (∃ p : Nat, p < n ∧ P p ∧ (∀ q : Nat, q < p → ¬ P q) ∧ r = nI p) ∨ ((∀ q : Nat, q < n → ¬ P q) ∧ r = -1)
theorem TWF.un {P Q : Nat → Prop} {n : Nat} {r r2 : Int32} (e : ∀ k : Nat, k < n → (P k ↔ Q k)) (a : TWF P n r) (b : TWF Q n r2) : r = r2 := by
  rcases a with ⟨p, a1, a2, a3, a4⟩ | ⟨a1, a2⟩ <;> rcases b with ⟨q, b1, b2, b3, b4⟩ | ⟨b1, b2⟩
  · rcases Nat.lt_trichotomy p q with w | w | w
    · exact absurd ((e p a1).mp a2) (b3 p w)
    · rw [a4, b4, w]
    · exact absurd ((e q b1).mpr b2) (a3 q w)
  · exact absurd ((e p a1).mp a2) (b1 p a1)
  · exact absurd ((e q b1).mpr b2) (a1 q b1)
  · rw [a2, b2]
theorem mxN {f : Nat → Int32} {s : Int32} (h : ∀ i : Nat, i < 20 → ∃ a : Nat, a ≤ 400 ∧ f i = nI a) : ∀ n : Nat, n ≤ 20 → mxI f s n = nI (mixN f s n)
  | 0, _ => rfl
  | n + 1, hn => by
    have ih := mxN (s := s) h n (by omega)
    obtain ⟨a, ha, e⟩ := h n (by omega)
    by_cases q : (s >>> (nI n &&& 31)) &&& 1 = 0
    · rw [mixN_0 q, ← ih]
      exact (mxI_k q rfl).symm
    · rw [mixN_1 q e (by omega), ← nI_add, ← ih, ← e]
      exact (mxI_s q rfl rfl).symm
section TXLR
variable {ad : Nat → Nat → Nat} {cn c3 : Nat → Nat} {Fn F3 : Nat → Nat → Int32} {j : Nat}
/-- a batch's sums, as the reference has them -/
theorem TXL.mx (h : TXL ad cn Fn F3) (e : ∀ i : Nat, i < cn 11 → Fn 122 i = F3 10 i) (hj : j < cn 12) : ∀ n : Nat, n ≤ 20 → mxI (Fn 122) (Fn 144 j) n = mxI (F3 10) (F3 64 j) n := by
  obtain ⟨-, -, hs⟩ := h
  obtain ⟨⟨a, -⟩, -, c⟩ := hs j hj
  intro n hn
  rw [← a]
  exact mxI_cg n (fun i hi w => e i (c i (by omega) w))
end TXLR



