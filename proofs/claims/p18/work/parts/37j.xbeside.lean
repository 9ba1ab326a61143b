def wyX (x y u v : Int32) : Int32 := (if 0 ≤ (x - u) then (x - u) else 0 - (x - u)) + (if 0 ≤ (y - v) then (y - v) else 0 - (y - v))
/-- the k-th gives nothing and one of the n is no further than v, with b at least -/
def BP (W : Int32 → Int32 → Int32 → Int32 → Int32) (u x y f g h : Nat → Int32) (n : Nat) (v b : Int32) (k : Nat) : Prop := u k = 0 ∧ ∃ j : Nat, j < n ∧ b.toInt ≤ (h j).toInt ∧ (W (x k) (y k) (f j) (g j)).toInt ≤ v.toInt
/-- the bits of those of which P holds -/
def BSB (P : Nat → Prop) : Nat → Int32 → Prop
  | 0, r => r = 0
  | n + 1, r => ∃ x : Int32, BSB P n x ∧ ((P n ∧ r = x ||| (1 <<< ((nI n) &&& 31))) ∨ (¬ P n ∧ r = x))
theorem BSB.un {P Q : Nat → Prop} : ∀ {n : Nat} {r r2 : Int32}, (∀ k : Nat, k < n → (P k ↔ Q k)) → BSB P n r → BSB Q n r2 → r = r2
  | 0, _, _, _, h, h2 => Eq.trans h (Eq.symm h2)
  | n + 1, r, r2, e, ⟨x, a, b⟩, ⟨y, a2, b2⟩ => by
    have exy := BSB.un (fun k hk => e k (by omega)) a a2
    have en := e n (by omega)
    subst exy
    rcases b with ⟨p, b⟩ | ⟨p, b⟩ <;> rcases b2 with ⟨q, b2⟩ | ⟨q, b2⟩
    · rw [b, b2]
    · exact absurd (en.mp p) q
    · exact absurd (en.mpr q) p
    · rw [b, b2]
