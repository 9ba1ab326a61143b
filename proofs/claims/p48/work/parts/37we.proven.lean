/-- how many below n have P -/
def CNT (P : Nat → Prop) : Nat → Int32 → Prop
  | 0, r => r = 0
  | n + 1, r => ∃ x : Int32, CNT P n x ∧ ((P n ∧ r = x + 1) ∨ (¬ P n ∧ r = x))
theorem CNT.un {P Q : Nat → Prop} : ∀ {n : Nat} {r r2 : Int32}, (∀ k : Nat, k < n → (P k ↔ Q k)) → CNT P n r → CNT Q n r2 → r = r2
  | 0, _, _, _, h, h2 => Eq.trans h (Eq.symm h2)
  | n + 1, r, r2, e, ⟨x, a, b⟩, ⟨y, a2, b2⟩ => by
    have exy := CNT.un (fun k hk => e k (by omega)) a a2
    have en := e n (by omega)
    subst exy
    rcases b with ⟨p, b⟩ | ⟨p, b⟩ <;> rcases b2 with ⟨q, b2⟩ | ⟨q, b2⟩
    · rw [b, b2]
    · exact absurd (en.mp p) q
    · exact absurd (en.mpr q) p
    · rw [b, b2]
theorem CNT.skip {P : Nat → Prop} {n : Nat} {x : Int32} : ∀ m : Nat, (∀ l : Nat, n ≤ l → l < n + m → ¬ P l) → CNT P n x → CNT P (n + m) x
  | 0, _, h => h
  | m + 1, a, h => ⟨x, CNT.skip m (fun l h1 h2 => a l h1 (by omega)) h, Or.inr ⟨a (n + m) (by omega) (by omega), rfl⟩⟩
theorem CNT.fill {P : Nat → Prop} {n : Nat} {x : Int32} : ∀ m : Nat, (∀ l : Nat, n ≤ l → l < n + m → P l) → CNT P n x → CNT P (n + m) (x + nI m)
  | 0, _, h => by
    rw [show nI 0 = 0 from rfl, Int32.add_zero]
    exact h
  | m + 1, a, h => ⟨x + nI m, CNT.fill m (fun l h1 h2 => a l h1 (by omega)) h, Or.inl ⟨a (n + m) (by omega) (by omega), by
      rw [Int32.add_assoc]
      exact congrArg (x + ·) (nI_add m 1).symm⟩⟩
/-- how many below n say yes -/
def rmN (q : Nat → Bool) : Nat → Nat
  | 0 => 0
  | n + 1 => rmN q n + (if q n = true then 1 else 0)
/-- a litre that one of the n proofs asked for has -/
def COV (A : Nat → Prop) (f t : Nat → Int32) (n l : Nat) : Prop := ∃ p : Nat, p < n ∧ A p ∧ (f p).toInt ≤ (l : Int) ∧ (l : Int) < (t p).toInt
/-- the asked ones that end behind a litre -/
def askB (A : Nat → Prop) [DecidablePred A] (t : Nat → Int32) (l : Nat) (p : Nat) : Bool := decide (A p ∧ (l : Int) < (t p).toInt)
section PVS
variable {A : Nat → Prop} {f t : Nat → Int32} {n l p a b : Nat} {x : Int32}
end PVS
theorem nI_max9 {a b : Nat} (ha : a < 2 ^ 31) (hb : b < 2 ^ 31) : (if nI a < nI b then nI b else nI a) = nI (max a b) := by
  by_cases q : nI a < nI b
  · have w := Int32.lt_iff_toInt_lt.mp q
    rw [nI_toInt ha, nI_toInt hb] at w
    rw [if_pos q, show max a b = b by omega]
  · have w : (nI b).toInt ≤ (nI a).toInt := Int.not_lt.mp (fun e => q (Int32.lt_iff_toInt_lt.mpr e))
    rw [nI_toInt ha, nI_toInt hb] at w
    rw [if_neg q, show max a b = a by omega]



