/-- who comes at v: bits of those whose f and g are not above it -/
def cmb (f g : Nat → Int32) (v : Int32) : Nat → Int32
  | 0 => 0
  | n + 1 => if (f n).toInt ≤ v.toInt ∧ (g n).toInt ≤ v.toInt then cmb f g v n ||| (1 <<< ((nI n) &&& 31)) else cmb f g v n
def cmN (f g : Nat → Int32) (v : Int32) : Nat → Nat
  | 0 => 0
  | n + 1 => if (f n).toInt ≤ v.toInt ∧ (g n).toInt ≤ v.toInt then cmN f g v n + 2 ^ n else cmN f g v n
theorem bit_nI {m i : Nat} (hm : m < 1024) (hi : i < 10) : (nI m >>> ((nI i) &&& 31)) &&& 1 = nI (m / 2 ^ i % 2) := by
  first
    | (have h1 : ∀ i : Fin 10, (nI i.val &&& 31 : Int32).toBitVec.smod 32 = BitVec.ofNat 32 i.val := by decide +kernel
       have h2 : nI m >>> ((nI i) &&& 31) = nI (m / 2 ^ i) := by
         have l1 : m / 2 ^ i < 1024 := Nat.lt_of_le_of_lt (Nat.div_le_self _ _) hm
         apply Int32.toInt_inj.mp
         rw [nI_toInt (by omega)]
         show ((nI m).toBitVec.sshiftRight' ((nI i &&& 31 : Int32).toBitVec.smod 32)).toInt = _
         rw [h1 ⟨i, hi⟩]
         show ((nI m).toBitVec.sshiftRight (BitVec.ofNat 32 i).toNat).toInt = _
         rw [BitVec.toInt_sshiftRight, BitVec.toNat_ofNat, Nat.mod_eq_of_lt (show i < 2 ^ 32 by omega)]
         show (nI m).toInt >>> i = _
         rw [nI_toInt (by omega), Int.shiftRight_eq_div_pow]
         rfl
       have h3 : ∀ x : Nat, x < 1024 → nI x &&& 1 = nI (x % 2) := by decide +kernel
       rw [h2]
       exact h3 _ (Nat.lt_of_le_of_lt (Nat.div_le_self _ _) hm))
    | (have h := (by decide +kernel : ∀ i : Nat, i < 10 → ∀ m : Nat, m < 1024 → (nI m >>> ((nI i) &&& 31)) &&& 1 = nI (m / 2 ^ i % 2))
       exact h i hi m hm)
/-- what the i-th gives at price v, told d -/
def wof (f g h : Nat → Int32) (v d : Int32) (i : Nat) : Int32 := if (f i).toInt ≤ v.toInt ∧ (g i).toInt ≤ v.toInt then h i * (d - v) else 0
/-- the first of the prices that are worth most; v: 0 the price, 1 its worth, else who comes -/
def OFS (W C : Nat → Int32) (v r : Int32) : Prop := ∃ h : Nat, h ≤ 200 ∧ (∀ j : Nat, j ≤ 200 → (W j).toInt ≤ (W h).toInt) ∧ (∀ j : Nat, j < h → (W j).toInt < (W h).toInt) ∧ ((v.toInt = 0 ∧ r = nI h) ∨ (v.toInt = 1 ∧ r = W h) ∨ (v.toInt ≠ 0 ∧ v.toInt ≠ 1 ∧ r = C h))
theorem OFS.un {W C W2 C2 : Nat → Int32} {v r r2 : Int32} (eW : W = W2) (eC : C = C2) (a : OFS W C v r) (b : OFS W2 C2 v r2) : r = r2 := by
  subst eW eC
  obtain ⟨h, h1, h2, h3, h4⟩ := a
  obtain ⟨k, k1, k2, k3, k4⟩ := b
  have e : h = k := by
    rcases Nat.lt_trichotomy h k with q | q | q
    · have := k3 h q; have := h2 k k1; omega
    · exact q
    · have := h3 k q; have := k2 h h1; omega
  subst e
  rcases h4 with ⟨a1, a2⟩ | ⟨a1, a2⟩ | ⟨a1, a1', a2⟩ <;> rcases k4 with ⟨b1, b2⟩ | ⟨b1, b2⟩ | ⟨b1, b1', b2⟩ <;> first | (rw [a2, b2]; done) | (exfalso; omega)



