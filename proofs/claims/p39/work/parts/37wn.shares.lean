/-- the lorry that goes to stop i by the number s, of m stops and L lorries -/
def DG (L m s i : Nat) : Nat := s / L ^ (m - 1 - i) % L
theorem DGq {L m s q j : Nat} (h : q = s / L ^ (m - (j + 1))) (hj : j < m) : q / L = s / L ^ (m - j) := by
  rw [h, Nat.div_div_eq_div_mul, show m - j = m - (j + 1) + 1 by omega, Nat.pow_succ]
theorem DGd {L m s q j : Nat} (h : q = s / L ^ (m - (j + 1))) : q % L = DG L m s j := by
  unfold DG
  rw [h, show m - 1 - j = m - (j + 1) by omega]
/-- the set of the stops from k on, below m, that P takes -/
def BS (P : Nat → Bool) (k m S : Nat) : Prop := ∀ b : Nat, S.testBit b = (decide (k ≤ b) && decide (b < m) && P b)
section BSS
variable {P Q : Nat → Bool} {k m S T b : Nat}
theorem BS.e0 : BS P m m 0 := fun b => by
  rw [Nat.zero_testBit]
  by_cases h : m ≤ b
  · rw [decide_eq_false (show ¬ b < m by omega), Bool.and_false, Bool.false_and]
  · rw [decide_eq_false h, Bool.false_and, Bool.false_and]
theorem BS.ky (p : BS P (k + 1) m S) (hk : k < m) (h : P k = true) : BS P k m (S ||| 2 ^ k) := fun b => by
  rw [Nat.testBit_or, Nat.testBit_two_pow, p b]
  by_cases e : k = b
  · subst e
    rw [decide_eq_true (rfl : k = k), h, decide_eq_true (Nat.le_refl k), decide_eq_true hk, Bool.or_true]
    rfl
  · rw [decide_eq_false e, Bool.or_false, show decide (k + 1 ≤ b) = decide (k ≤ b) from decide_eq_decide.mpr ⟨fun _ => by omega, fun _ => by omega⟩]
theorem BS.kn (p : BS P (k + 1) m S) (h : P k = false) : BS P k m S := fun b => by
  rw [p b]
  by_cases e : k = b
  · subst e
    rw [h, Bool.and_false, Bool.and_false]
  · rw [show decide (k + 1 ≤ b) = decide (k ≤ b) from decide_eq_decide.mpr ⟨fun _ => by omega, fun _ => by omega⟩]
theorem BS.uy (p : BS P 0 k S) (h : P k = true) : BS P 0 (k + 1) (S ||| 2 ^ k) := fun b => by
  rw [Nat.testBit_or, Nat.testBit_two_pow, p b, decide_eq_true (Nat.zero_le b), Bool.true_and, Bool.true_and]
  by_cases e : k = b
  · subst e
    rw [decide_eq_true (rfl : k = k), h, decide_eq_true (Nat.lt_succ_self k), Bool.or_true]
    rfl
  · rw [decide_eq_false e, Bool.or_false, show decide (b < k) = decide (b < k + 1) from decide_eq_decide.mpr ⟨fun _ => by omega, fun _ => by omega⟩]
theorem BS.uz (p : BS P 0 k S) (h : P k = false) : BS P 0 (k + 1) S := fun b => by
  rw [p b, decide_eq_true (Nat.zero_le b), Bool.true_and, Bool.true_and]
  by_cases e : k = b
  · subst e
    rw [h, Bool.and_false, Bool.and_false]
  · rw [show decide (b < k) = decide (b < k + 1) from decide_eq_decide.mpr ⟨fun _ => by omega, fun _ => by omega⟩]
theorem BS.un (e : ∀ b : Nat, k ≤ b → b < m → P b = Q b) (p : BS P k m S) (q : BS Q k m T) : S = T := Nat.eq_of_testBit_eq (fun b => by
  rw [p b, q b]
  by_cases h1 : k ≤ b
  · by_cases h2 : b < m
    · rw [e b h1 h2]
    · rw [decide_eq_false h2, Bool.and_false, Bool.false_and, Bool.false_and]
  · rw [decide_eq_false h1, Bool.false_and, Bool.false_and, Bool.false_and])
theorem BS.lt (p : BS P k m S) : S < 2 ^ m := Nat.lt_pow_two_of_testBit S (fun i hi => by
  rw [p i, decide_eq_false (show ¬ i < m by omega), Bool.and_false, Bool.false_and])
theorem BS.le63 (p : BS P k m S) (hm : m ≤ 6) : S ≤ 63 := by
  have h := p.lt
  have h2 : 2 ^ m ≤ 2 ^ 6 := Nat.pow_le_pow_right (by decide) hm
  omega
theorem BS.bit (p : BS P 0 m S) (hb : b < m) : S.testBit b = P b := by
  rw [p b, decide_eq_true (Nat.zero_le b), decide_eq_true hb]
  rfl
end BSS
theorem orW {l a : Nat} (hl : l ≤ 63) (ha : a ≤ 5) : nI l ||| (1 <<< (nI a &&& 31)) = nI (l ||| 2 ^ a) := by
  have : ∀ l : Fin 64, ∀ a : Fin 6, nI l.val ||| (1 <<< (nI a.val &&& 31)) = nI (l.val ||| 2 ^ a.val) := by decide +kernel
  exact this ⟨l, by omega⟩ ⟨a, by omega⟩
theorem or63 {l a : Nat} (hl : l ≤ 63) (ha : a ≤ 5) : l ||| 2 ^ a ≤ 63 := by
  have : ∀ l : Fin 64, ∀ a : Fin 6, l.val ||| 2 ^ a.val ≤ 63 := by decide +kernel
  exact this ⟨l, by omega⟩ ⟨a, by omega⟩
/-- what a set's stops hold together -/
def SFw (f : Nat → Int32) (S : Nat) : Nat → Int32
  | 0 => 0
  | i + 1 => SFw f S i + (if S.testBit i = true then f i else 0)
section SFS
variable {f g : Nat → Int32} {S i : Nat}
theorem SFw_1 (h : S.testBit i = true) : SFw f S i + f i = SFw f S (i + 1) := by
  show _ = SFw f S i + (if S.testBit i = true then f i else 0)
  rw [if_pos h]
theorem SFw_0 (h : S.testBit i = false) : SFw f S i + 0 = SFw f S (i + 1) := by
  show _ = SFw f S i + (if S.testBit i = true then f i else 0)
  rw [h]
  rfl
theorem SFw_eq : ∀ m : Nat, (∀ i : Nat, i < m → f i = g i) → SFw f S m = SFw g S m
  | 0, _ => rfl
  | m + 1, h => by
    show SFw f S m + _ = SFw g S m + _
    rw [SFw_eq m (fun i hi => h i (Nat.lt_succ_of_lt hi)), h m (Nat.lt_succ_self m)]
end SFS
/-- a lorry can't have its share: it is off, or holds too little -/
def LRB (m : Nat) (F : Nat → Int32) (O : Nat → Prop) (T : Nat → Int32) (D : Nat → Nat) (j : Nat) : Prop := ∃ S : Nat, BS (fun i => D i == j) 0 m S ∧ ¬ S = 0 ∧ (O j ∨ (T j).toInt < (SFw F S m).toInt)
/-- what the first lorries drive together -/
def SHL (m : Nat) (R : Nat → Int32 → Prop) (D : Nat → Nat) : Nat → Int32 → Prop
  | 0, x => x = 0
  | j + 1, x => ∃ (x0 y : Int32) (S : Nat), SHL m R D j x0 ∧ BS (fun i => D i == j) 0 m S ∧ R S y ∧ x = x0 + y
/-- what the shares drive: -1 where they can't be -/
def VSH (L m : Nat) (F : Nat → Int32) (O : Nat → Prop) (T : Nat → Int32) (R : Nat → Int32 → Prop) (D : Nat → Nat) (r : Int32) : Prop := ((∃ j : Nat, j < L ∧ LRB m F O T D j) ∧ r = -1) ∨ ((∀ j : Nat, j < L → ¬ LRB m F O T D j) ∧ SHL m R D L r)
section VSS
variable {L m S j : Nat} {F F2 T T2 : Nat → Int32} {O O2 : Nat → Prop} {R R2 : Nat → Int32 → Prop} {D D2 : Nat → Nat} {r r2 : Int32}
theorem LRB.no0 (hS : BS (fun i => D i == j) 0 m S) (h0 : S = 0) : ¬ LRB m F O T D j := by
  rintro ⟨S2, h2, h3, -⟩
  obtain rfl : S2 = S := h2.un (fun _ _ _ => rfl) hS
  exact h3 h0
theorem LRB.no (hS : BS (fun i => D i == j) 0 m S) (ho : ¬ O j) (ht : (SFw F S m).toInt ≤ (T j).toInt) : ¬ LRB m F O T D j := by
  rintro ⟨S2, h2, h3, h4⟩
  obtain rfl : S2 = S := h2.un (fun _ _ _ => rfl) hS
  rcases h4 with h4 | h4
  · exact ho h4
  · omega
theorem LRB.cg (hD : ∀ i : Nat, i < m → D i = D2 i) (hF : ∀ i : Nat, i < m → F i = F2 i) (hO : O j → O2 j) (hT : T j = T2 j) (h : LRB m F O T D j) : LRB m F2 O2 T2 D2 j := by
  obtain ⟨S, h1, h2, h3⟩ := h
  refine ⟨S, fun b => ?_, h2, ?_⟩
  · rw [h1 b]
    by_cases hb : b < m
    · show (decide (0 ≤ b) && decide (b < m) && (D b == j)) = (decide (0 ≤ b) && decide (b < m) && (D2 b == j))
      rw [hD b hb]
    · rw [decide_eq_false hb, Bool.and_false, Bool.false_and, Bool.false_and]
  · rw [← hT, ← SFw_eq m hF]
    exact h3.imp hO id
theorem SHL.un (hD : ∀ i : Nat, i < m → D i = D2 i) (hR : ∀ (S : Nat) (x y : Int32), S < 2 ^ m → R S x → R2 S y → x = y) : ∀ (j : Nat) (x y : Int32), SHL m R D j x → SHL m R2 D2 j y → x = y
  | 0, x, y, p, q => (show x = 0 from p).trans (show y = 0 from q).symm
  | j + 1, x, y, p, q => by
    obtain ⟨x0, u, S, p1, p2, p3, p4⟩ := p
    obtain ⟨y0, v, S2, q1, q2, q3, q4⟩ := q
    obtain rfl : S2 = S := (p2.un (fun b _ hb => by rw [hD b hb]) q2).symm
    rw [p4, q4, SHL.un hD hR j x0 y0 p1 q1, hR S2 u v p2.lt p3 q3]
theorem VSH.un (hD : ∀ i : Nat, i < m → D i = D2 i) (hF : ∀ i : Nat, i < m → F i = F2 i) (hO : ∀ j : Nat, j < L → (O j ↔ O2 j)) (hT : ∀ j : Nat, j < L → T j = T2 j) (hR : ∀ (S : Nat) (x y : Int32), S < 2 ^ m → R S x → R2 S y → x = y) (p : VSH L m F O T R D r) (q : VSH L m F2 O2 T2 R2 D2 r2) : r = r2 := by
  rcases p with ⟨⟨j, hj, p⟩, e⟩ | ⟨p, p2⟩ <;> rcases q with ⟨⟨i, hi, q⟩, f⟩ | ⟨q, q2⟩
  · rw [e, f]
  · exact absurd (p.cg hD hF (hO j hj).mp (hT j hj)) (q j hj)
  · exact absurd (q.cg (fun i hi => (hD i hi).symm) (fun i hi => (hF i hi).symm) (hO i hi).mpr (hT i hi).symm) (p i hi)
  · exact SHL.un hD hR L r r2 p2 q2
end VSS
/-- the first of the least among the first n: its number (or -1) and what it drives -/
def BSP (V : Nat → Int32 → Prop) (n : Nat) (b y : Int32) : Prop := (b = -1 ∧ ∀ t : Nat, t < n → V t (-1)) ∨ ∃ s : Nat, s < n ∧ b = nI s ∧ V s y ∧ ¬ y = -1 ∧ (∀ t : Nat, t < n → ∃ z : Int32, V t z ∧ (z = -1 ∨ y.toInt ≤ z.toInt)) ∧ ∀ t : Nat, t < s → ∃ z : Int32, V t z ∧ (z = -1 ∨ y.toInt < z.toInt)
section BSPS
variable {V W : Nat → Int32 → Prop} {n : Nat} {b y z b2 y2 : Int32}
theorem BSP.e0 : BSP V 0 (-1) y := Or.inl ⟨rfl, fun t ht => absurd ht (Nat.not_lt_zero t)⟩
/-- one more that can't be, or isn't less -/
theorem BSP.ke (h : BSP V n b y) (hv : V n z) (hz : z = -1 ∨ (¬ b = -1 ∧ y.toInt ≤ z.toInt)) : BSP V (n + 1) b y := by
  rcases h with ⟨h1, h2⟩ | ⟨s, h1, h2, h3, h4, h5, h6⟩
  · rcases hz with rfl | hz
    · exact Or.inl ⟨h1, fun t ht => if e : t = n then by rw [e]; exact hv else h2 t (by omega)⟩
    · exact absurd h1 hz.1
  · exact Or.inr ⟨s, Nat.lt_succ_of_lt h1, h2, h3, h4, (fun t ht => if e : t = n then ⟨z, by rw [e]; exact hv, hz.imp id (fun q => q.2)⟩ else h5 t (by omega)), h6⟩
/-- one more, the first or less -/
theorem BSP.nw (h : BSP V n b y) (hn : n < 2 ^ 31) (hv : V n z) (hz : ¬ z = -1) (hb : b = -1 ∨ z.toInt < y.toInt) : BSP V (n + 1) (nI n) z := by
  have h9 : ∀ t : Nat, t < n → ∃ w : Int32, V t w ∧ (w = -1 ∨ z.toInt < w.toInt) := fun t ht => by
    rcases h with ⟨h1, h2⟩ | ⟨s, h1, h2, h3, h4, h5, h6⟩
    · exact ⟨-1, h2 t ht, Or.inl rfl⟩
    · rcases hb with hb | hb
      · have q := congrArg Int32.toInt (h2.symm.trans hb)
        rw [nI_toInt (by omega)] at q
        have e : (-1 : Int32).toInt = -1 := rfl
        omega
      · obtain ⟨w, hw, q⟩ := h5 t ht
        exact ⟨w, hw, q.imp id (fun q => by omega)⟩
  refine Or.inr ⟨n, Nat.lt_succ_self n, rfl, hv, hz, fun t ht => ?_, h9⟩
  by_cases e : t = n
  · exact ⟨z, by rw [e]; exact hv, Or.inr (Int.le_refl _)⟩
  · obtain ⟨w, hw, q⟩ := h9 t (by omega)
    exact ⟨w, hw, q.imp id (fun q => by omega)⟩
theorem BSP.un (hn : n < 2 ^ 31) (hu : ∀ (t : Nat) (u v : Int32), t < n → V t u → W t v → u = v) (p : BSP V n b y) (q : BSP W n b2 y2) : b = b2 ∧ (¬ b = -1 → y = y2) := by
  rcases p with ⟨h1, h2⟩ | ⟨s, h1, h2, h3, h4, h5, h6⟩ <;> rcases q with ⟨k1, k2⟩ | ⟨t, k1, k2, k3, k4, k5, k6⟩
  · exact ⟨h1.trans k1.symm, fun w => absurd h1 w⟩
  · exact absurd (hu t _ _ k1 (h2 t k1) k3).symm k4
  · exact absurd (hu s _ _ h1 h3 (k2 s h1)) h4
  · have e : s = t := by
      rcases Nat.lt_trichotomy s t with q | q | q
      · exfalso
        obtain ⟨z, hz, c⟩ := k6 s q
        rw [← hu s _ _ h1 h3 hz] at c
        obtain ⟨w, hw, d⟩ := h5 t k1
        rw [hu t _ _ k1 hw k3] at d
        rcases c with c | c
        · exact h4 c
        · rcases d with d | d
          · exact k4 d
          · omega
      · exact q
      · exfalso
        obtain ⟨z, hz, c⟩ := h6 t q
        rw [hu t _ _ k1 hz k3] at c
        obtain ⟨w, hw, d⟩ := k5 s h1
        rw [← hu s _ _ h1 h3 hw] at d
        rcases c with c | c
        · exact k4 c
        · rcases d with d | d
          · exact h4 d
          · omega
    subst e
    exact ⟨h2.trans k2.symm, fun _ => hu s _ _ h1 h3 k3⟩
end BSPS
section VSM
variable {L m : Nat} {F F2 T T2 : Nat → Int32} {O O2 : Nat → Prop} {R R2 : Nat → Int32 → Prop} {D : Nat → Nat} {r : Int32} {V W : Nat → Int32 → Prop} {n : Nat} {b y : Int32}
theorem SHL.mo (hR : ∀ (S : Nat) (x : Int32), S < 2 ^ m → R S x → R2 S x) : ∀ (j : Nat) (x : Int32), SHL m R D j x → SHL m R2 D j x
  | 0, x, p => p
  | j + 1, x, p => by
    obtain ⟨x0, u, S, p1, p2, p3, p4⟩ := p
    exact ⟨x0, u, S, SHL.mo hR j x0 p1, p2, hR S u p2.lt p3, p4⟩
theorem VSH.cg (hF : ∀ i : Nat, i < m → F i = F2 i) (hO : ∀ j : Nat, j < L → (O j ↔ O2 j)) (hT : ∀ j : Nat, j < L → T j = T2 j) (hR : ∀ (S : Nat) (x : Int32), S < 2 ^ m → R S x → R2 S x) (p : VSH L m F O T R D r) : VSH L m F2 O2 T2 R2 D r := by
  rcases p with ⟨⟨j, hj, p⟩, e⟩ | ⟨p, p2⟩
  · exact Or.inl ⟨⟨j, hj, p.cg (fun _ _ => rfl) hF (hO j hj).mp (hT j hj)⟩, e⟩
  · exact Or.inr ⟨fun j hj q => p j hj (q.cg (fun _ _ => rfl) (fun i hi => (hF i hi).symm) (hO j hj).mpr (hT j hj).symm), SHL.mo hR L r p2⟩
theorem BSP.mo (h : ∀ (t : Nat) (z : Int32), t < n → V t z → W t z) (p : BSP V n b y) : BSP W n b y := by
  rcases p with ⟨h1, h2⟩ | ⟨s, h1, h2, h3, h4, h5, h6⟩
  · exact Or.inl ⟨h1, fun t ht => h t _ ht (h2 t ht)⟩
  · refine Or.inr ⟨s, h1, h2, h s _ h1 h3, h4, fun t ht => ?_, fun t ht => ?_⟩
    · obtain ⟨z, hz, q⟩ := h5 t ht
      exact ⟨z, h t z ht hz, q⟩
    · obtain ⟨z, hz, q⟩ := h6 t ht
      exact ⟨z, h t z (by omega) hz, q⟩
theorem pw0 {s : Nat} (h : s < L ^ m) : m = 0 ∨ 0 < L := by
  by_cases e : m = 0
  · exact Or.inl e
  · by_cases q : L = 0
    · rw [q, Nat.zero_pow (by omega)] at h
      exact absurd h (Nat.not_lt_zero s)
    · exact Or.inr (by omega)
end VSM
/-- what is told of the best shares: what they drive, or the lorry of a kitchen -/
def SHG (L : Nat) (D : Nat → Nat → Nat) (l : List Nat) (v r b y : Int32) : Prop := (b = -1 ∧ r = -2) ∨ (¬ b = -1 ∧ v = -1 ∧ r = y) ∨ (¬ b = -1 ∧ ¬ v = -1 ∧ ∃ s : Nat, s < L ^ l.length ∧ b = nI s ∧ ((∃ i : Nat, i < l.length ∧ v = nI (l.getD i 0) ∧ r = nI (D s i)) ∨ ((∀ i : Nat, i < l.length → ¬ v = nI (l.getD i 0)) ∧ r = -1)))
theorem SHG.un {L : Nat} {D : Nat → Nat → Nat} {l : List Nat} {v r r2 b y y2 : Int32} (hl : ∀ i : Nat, i < l.length → l.getD i 0 < 2 ^ 31) (hs : ∀ i j : Nat, i < j → j < l.length → l.getD i 0 < l.getD j 0) (hL : L ^ l.length < 2 ^ 31) (hy : ¬ b = -1 → y = y2) (p : SHG L D l v r b y) (q : SHG L D l v r2 b y2) : r = r2 := by
  rcases p with ⟨h1, h2⟩ | ⟨h1, h2, h3⟩ | ⟨h1, h2, s, h3, h4, h5⟩ <;> rcases q with ⟨k1, k2⟩ | ⟨k1, k2, k3⟩ | ⟨k1, k2, t, k3, k4, k5⟩
  · rw [h2, k2]
  · exact absurd h1 k1
  · exact absurd h1 k1
  · exact absurd k1 h1
  · rw [h3, k3, hy h1]
  · exact absurd h2 k2
  · exact absurd k1 h1
  · exact absurd k2 h2
  · have est : s = t := nIw_inj (by omega) (by omega) (h4.symm.trans k4)
    subst est
    rcases h5 with ⟨i, hi, ei, er⟩ | ⟨hn, er⟩ <;> rcases k5 with ⟨j, hj, ej, er2⟩ | ⟨hn2, er2⟩
    · have q := nIw_inj (hl i hi) (hl j hj) (ei.symm.trans ej)
      have e : i = j := by
        rcases Nat.lt_trichotomy i j with c | c | c
        · have := hs i j c hj
          omega
        · exact c
        · have := hs j i c hi
          omega
      rw [er, er2, e]
    · exact absurd ei (hn2 i hi)
    · exact absurd ej (hn j hj)
    · rw [er, er2]
/-- the litres of a set with one stop more -/
theorem SFw_lo {f : Nat → Int32} {S k : Nat} : ∀ i : Nat, i ≤ k → SFw f (S ||| 2 ^ k) i = SFw f S i
  | 0, _ => rfl
  | i + 1, h => by
    show SFw f (S ||| 2 ^ k) i + (if (S ||| 2 ^ k).testBit i = true then f i else 0) = SFw f S i + (if S.testBit i = true then f i else 0)
    rw [SFw_lo i (by omega), Nat.testBit_or, Nat.testBit_two_pow, decide_eq_false (show ¬ k = i by omega), Bool.or_false]
theorem SFw_up {f : Nat → Int32} {S k : Nat} : SFw f (S ||| 2 ^ k) (k + 1) = SFw f S k + f k := by
  show SFw f (S ||| 2 ^ k) k + (if (S ||| 2 ^ k).testBit k = true then f k else 0) = _
  rw [SFw_lo k (Nat.le_refl k), Nat.testBit_or, Nat.testBit_two_pow, decide_eq_true (rfl : k = k), Bool.or_true, if_pos rfl]



set_option maxRecDepth 100000 in
set_option maxHeartbeats 4000000 in
theorem q_EstopsOf (l : Launch) (D : va_G) (cI cB cZ : ClassId) (zz qq vv : Nat) (bt : Nat → Int32) (g : Nat → Nat) (ad : Nat → Nat → Nat) (cn : Nat → Nat) (In : Nat → Int32) (Fn : Nat → Nat → Int32) (s0 l0 : Nat) (hB : CBX cn) (h4 : cn 4 ≤ 6) (hs0 : s0 ≤ 2000) (hl0 : l0 < cn 1) : Met l yX11_stopsOf (CWS yX11_stopsOf cX11_stopsOf 6 (some .int)) (RM 0 0 0) (PBrx [.ref (g 0), .int (nI s0), .int (nI l0)] D cI cB cZ zz qq vv bt (wX cI (D.1 99) zz g ad cn In Fn)) (vp_Si (fun r => ∃ S : Nat, BS (fun i => DG (cn 1) (cn 4) s0 i == l0) 0 (cn 4) S ∧ r = nI S)) 0 0 (fun _ => False) := by
  refine en_rx rfl pn_RX11 (Nat.le_of_ble_eq_true rfl) (fun p e s m below meth c hx hb hml hown S hr hlocks hnm hP hK hXS hS ls hl => ?_)
  have hl : lv_has ls 6 [(0, .ref (g 0)), (1, .int (nI s0)), (2, .int (nI l0))] := hl
  have hb_cn : Hid (CBX cn) := hB
  replace hB : CBXh cn := hB
  refine lv_iconst (v := 0) hx hb (oc_3 0 shX11_stopsOf_0) kic_0 ?_
  refine lv_istore_n (lv' := [(3, .int 0), (0, .ref (g 0)), (1, .int (nI s0)), (2, .int (nI l0))]) hx hb (oc_62 1 (aq_1 shX11_stopsOf_0)) rfl hl (ltb rfl) rfl (fun ls hl => ?_)
  refine lv_iload_n hx hb (oc_27 2 (aq_2 shX11_stopsOf_0)) rfl (lvA2 hl) ?_
  refine lv_istore (lv' := [(4, .int (nI s0)), (3, .int 0), (0, .ref (g 0)), (1, .int (nI s0)), (2, .int (nI l0))]) hx hb (oc_54 3 (aq_3 shX11_stopsOf_0) ub_4) hl (ltb rfl) rfl (fun ls hl => ?_)
  refine lv_aload_n hx hb (oc_42 5 (aq_5 shX11_stopsOf_0)) rfl (lvA2 hl) ?_
  refine gf_RX11_54 S hK hP 0 xo_0 (v := .ref (g 9)) rfl (oc_180 6 (aq_6 shX11_stopsOf_0) uw_0_54) ?_
  refine gf_RX11_267 S hK hP 17 xo_17 (v := .int (nI (cn 4))) rfl (oc_180 9 (aq_9 shX11_stopsOf_0) uw_1_11) ?_
  refine lv_iconst (v := 1) hx hb (oc_4 12 (aq_12 shX11_stopsOf_0)) kic_1 ?_
  refine lv_isub hx hb (oc_100 13 (aq_13 shX11_stopsOf_0)) ?_
  refine lv_topi (fun y_1 ey_1 => ?_)
  obtain rfl : y_1 = (nI (cn 4) + (-1)) := ey_1.trans (Int32.sub_eq_add_neg ..)
  refine lv_istore (lv' := [(5, .int (nI (cn 4) + (-1))), (4, .int (nI s0)), (3, .int 0), (0, .ref (g 0)), (1, .int (nI s0)), (2, .int (nI l0))]) hx hb (oc_54 14 (aq_14 shX11_stopsOf_0) ub_5) hl (ltb rfl) rfl (fun ls hl => ?_)
  have lp_16 : ∀ (n : Nat) (t16 : Nat) (q16 : Nat) (k16 : Nat) , k16 < n → ((k16 ≤ cn 4 ∧ q16 = s0 / cn 1 ^ (cn 4 - k16) ∧ BS (fun i => DG (cn 1) (cn 4) s0 i == l0) k16 (cn 4) t16 ∧ t16 ≤ 63 ∧ q16 ≤ s0)) → ∀ ls : Array Slot, lv_has ls 6 [(5, .int (nI k16 + (-1))), (4, .int (nI q16)), (3, .int (nI t16)), (0, .ref (g 0)), (1, .int (nI s0)), (2, .int (nI l0))] → W p l e (RM 0 0 0) s m ([.ref (g 0), .int (nI s0), .int (nI l0)]).toArray below meth c s.heap [] 0 0 (MQ below (vp_Si (fun r => ∃ S : Nat, BS (fun i => DG (cn 1) (cn 4) s0 i == l0) 0 (cn 4) S ∧ r = nI S)) ([.ref (g 0), .int (nI s0), .int (nI l0)]).toArray s 0 0 (fun _ => False)) (F0 m 16 ls []) := by
    intro n16
    induction n16 with
    | zero => intros; (first | omega | (have zz0 := Hid.u hb_cn; omega))
    | succ n16 ih16 =>
      intro t16 q16 k16 hmu16 hinv16 ls hl
      have hx16_0 := hinv16
      rcases k16 with _ | j16
      ·
        rw [show nI 0 + (-1) = (-1 : Int32) by decide] at hl
        have hl : lv_has ls 6 [(5, .int (-1)), (4, .int (nI q16)), (3, .int (nI t16)), (0, .ref (g 0)), (1, .int (nI s0)), (2, .int (nI l0))] := hl
        refine lv_iload hx hb dX11_stopsOf_16 (lvA0 hl) ?_
        refine lv_if_lt (tgt := 65) hx hb dX11_stopsOf_18 rfl (fun _ => ?_) (fun h => absurd h cq_lt_m1_0)
        refine lv_iload_n hx hb (oc_29 65 (aq_16 shX11_stopsOf_49)) rfl (lvA2 hl) ?_
        exact W.iret (v := (nI t16)) hx hb hr (fun t ht hW => ⟨(nI t16), rfl, ⟨t16, hx16_0.2.2.1, rfl⟩, ht⟩) (fun _ h => absurd h List.not_mem_nil) (oc_172 66 (aq_17 shX11_stopsOf_49))
      ·
        rw [nI_m1] at hl
        have hl : lv_has ls 6 [(5, .int (nI j16)), (4, .int (nI q16)), (3, .int (nI t16)), (0, .ref (g 0)), (1, .int (nI s0)), (2, .int (nI l0))] := hl
        refine lv_iload hx hb dX11_stopsOf_16 (lvA0 hl) ?_
        have : (nI j16).toInt = ((j16 : Nat) : Int) := nI_toInt (by (first | omega | (have zz0 := Hid.u hb_cn; omega)))
        refine lv_if_lt (tgt := 65) hx hb dX11_stopsOf_18 rfl (fun c_2 => False.elim (by have tc_2 : ((nI j16).toInt : Int) < 0 := Int32.lt_iff_toInt_lt.mp c_2; (first | omega | (have zz0 := Hid.u hb_cn; omega)))) (fun c_2 => ?_)
        have tc_2 : (0 : Int) ≤ (nI j16).toInt := Int32.le_iff_toInt_le.mp (Int32.not_lt.mp c_2)
        refine lv_aload_n hx hb (oc_42 21 (aq_21 shX11_stopsOf_0)) rfl (lvA3 hl) ?_
        refine gf_RX11_311 S hK hP 0 xo_0 (v := .int (nI (cn 1))) rfl (oc_180 22 (aq_22 shX11_stopsOf_0) uw_1_55) ?_
        have : (nI (cn 1)).toInt = (((cn 1) : Nat) : Int) := nI_toInt (by (first | omega | (have zz0 := Hid.u hb_cn; omega)))
        refine lv_if_le (tgt := 65) hx hb (oc_158 25 shX11_stopsOf_25 sgw_0_40) rfl (fun c_3 => ?_) (fun c_3 => ?_)
        ·
          have tc_3 : ((nI (cn 1)).toInt : Int) ≤ 0 := Int32.le_iff_toInt_le.mp c_3
          exfalso; (first | omega | (have zz0 := Hid.u hb_cn; omega))
        ·
          have tc_3 : (0 : Int) < (nI (cn 1)).toInt := Int32.lt_iff_toInt_lt.mp (Int32.not_le.mp c_3)
          have hm16 : q16 % cn 1 < cn 1 := Nat.mod_lt _ (by (first | omega | (have zz0 := Hid.u hb_cn; omega)))
          refine lv_iload_n hx hb (oc_29 28 (aq_3 shX11_stopsOf_25)) rfl (lvA2 hl) ?_
          refine lv_iload hx hb (oc_21 29 (aq_4 shX11_stopsOf_25) ub_4) (lvA1 hl) ?_
          refine lv_aload_n hx hb (oc_42 31 (aq_6 shX11_stopsOf_25)) rfl (lvA3 hl) ?_
          refine gf_RX11_311 S hK hP 0 xo_0 (v := .int (nI (cn 1))) rfl (oc_180 32 (aq_7 shX11_stopsOf_25) uw_1_55) ?_
          refine lv_irem hx hb (oc_112 35 (aq_10 shX11_stopsOf_25)) (nI_nz (by (first | omega | (have zz0 := Hid.u hb_cn; omega))) (by (first | omega | (have zz0 := Hid.u hb_cn; omega)))) ?_
          refine lv_topi (fun y_4 ey_4 => ?_)
          obtain rfl : y_4 = (nI (q16 % cn 1)) := ey_4.trans (nI_rem (by (first | omega | (have zz0 := Hid.u hb_cn; omega))) (by (first | omega | (have zz0 := Hid.u hb_cn; omega))))
          refine lv_iload_n hx hb (oc_28 36 (aq_11 shX11_stopsOf_25)) rfl (lvA5 hl) ?_
          have : (nI (q16 % cn 1)).toInt = (((q16 % cn 1) : Nat) : Int) := nI_toInt (by (first | omega | (have zz0 := Hid.u hb_cn; omega)))
          have : (nI l0).toInt = ((l0 : Nat) : Int) := nI_toInt (by (first | omega | (have zz0 := Hid.u hb_cn; omega)))
          refine lv_icmp_ne (tgt := 47) hx hb (oc_160 37 (aq_12 shX11_stopsOf_25) sgw_0_10) rfl (fun c_5 => ?_) (fun c_5 => ?_)
          ·
            have tc_5 : ((nI (q16 % cn 1)).toInt : Int) ≠ (nI l0).toInt := fun q => c_5 (Int32.toInt_inj.mp q)
            refine lv_iconst (v := 0) hx hb (oc_3 47 (aq_22 shX11_stopsOf_25)) kic_0 ?_
            refine lv_ior hx hb dX11_stopsOf_48 ?_
            refine lv_topi (fun y_6 ey_6 => ?_)
            obtain rfl : y_6 = (nI t16) := ey_6.trans Int32.or_zero
            refine lv_istore_n (lv' := [(3, .int (nI t16)), (5, .int (nI j16)), (4, .int (nI q16)), (0, .ref (g 0)), (1, .int (nI s0)), (2, .int (nI l0))]) hx hb dX11_stopsOf_49 rfl hl (ltb rfl) rfl (fun ls hl => ?_)
            refine lv_iload hx hb dX11_stopsOf_50 (lvA2 hl) ?_
            refine lv_aload_n hx hb dX11_stopsOf_52 rfl (lvA3 hl) ?_
            refine gf_RX11_311 S hK hP 0 xo_0 (v := .int (nI (cn 1))) rfl dX11_stopsOf_53 ?_
            refine lv_idiv hx hb dX11_stopsOf_56 (nI_nz (by (first | omega | (have zz0 := Hid.u hb_cn; omega))) (by (first | omega | (have zz0 := Hid.u hb_cn; omega)))) ?_
            refine lv_topi (fun y_7 ey_7 => ?_)
            obtain rfl : y_7 = (nI (q16 / cn 1)) := ey_7.trans (nI_div (by (first | omega | (have zz0 := Hid.u hb_cn; omega))) (by (first | omega | (have zz0 := Hid.u hb_cn; omega))))
            refine lv_istore (lv' := [(4, .int (nI (q16 / cn 1))), (3, .int (nI t16)), (5, .int (nI j16)), (0, .ref (g 0)), (1, .int (nI s0)), (2, .int (nI l0))]) hx hb dX11_stopsOf_57 hl (ltb rfl) rfl (fun ls hl => ?_)
            refine lv_iinc (v := ((nI j16) + (-1))) (lv' := [(5, .int ((nI j16) + (-1))), (4, .int (nI (q16 / cn 1))), (3, .int (nI t16)), (0, .ref (g 0)), (1, .int (nI s0)), (2, .int (nI l0))]) hx hb dX11_stopsOf_59 hl (k := 2) rfl rfl (ltb rfl) rfl (fun ls hl => ?_)
            refine lv_goto (tgt := 16) hx hb dX11_stopsOf_62 rfl ?_
            exact ih16 t16 (q16 / cn 1) j16 (by (first | omega | (have zz0 := Hid.u hb_cn; omega))) ⟨(by (first | omega | (have zz0 := Hid.u hb_cn; omega))), (DGq hx16_0.2.1 (by (first | omega | (have zz0 := Hid.u hb_cn; omega)))), (hx16_0.2.2.1.kn (beq_false_of_ne (fun w9 => by have q9 := (DGd hx16_0.2.1); (first | omega | (have zz0 := Hid.u hb_cn; omega))))), hx16_0.2.2.2.1, Nat.le_trans (Nat.div_le_self _ _) hx16_0.2.2.2.2⟩ ls (lv_sub hl [0, 1, 2, 3, 4, 5] rfl)
          ·
            have tc_5 : ((nI (q16 % cn 1)).toInt : Int) = (nI l0).toInt := congrArg Int32.toInt c_5
            refine lv_iconst (v := 1) hx hb (oc_4 40 (aq_15 shX11_stopsOf_25)) kic_1 ?_
            refine lv_iload hx hb (oc_21 41 (aq_16 shX11_stopsOf_25) ub_5) (lvA0 hl) ?_
            refine lv_ishl hx hb (oc_120 43 (aq_18 shX11_stopsOf_25)) ?_
            refine lv_goto (tgt := 48) hx hb (oc_167 44 (aq_19 shX11_stopsOf_25) sgw_0_4) rfl ?_
            refine lv_ior hx hb dX11_stopsOf_48 ?_
            refine lv_topi (fun y_8 ey_8 => ?_)
            obtain rfl : y_8 = (nI (t16 ||| 2 ^ j16)) := ey_8.trans (orW hx16_0.2.2.2.1 (by (first | omega | (have zz0 := Hid.u hb_cn; omega))))
            refine lv_istore_n (lv' := [(3, .int (nI (t16 ||| 2 ^ j16))), (5, .int (nI j16)), (4, .int (nI q16)), (0, .ref (g 0)), (1, .int (nI s0)), (2, .int (nI l0))]) hx hb dX11_stopsOf_49 rfl hl (ltb rfl) rfl (fun ls hl => ?_)
            refine lv_iload hx hb dX11_stopsOf_50 (lvA2 hl) ?_
            refine lv_aload_n hx hb dX11_stopsOf_52 rfl (lvA3 hl) ?_
            refine gf_RX11_311 S hK hP 0 xo_0 (v := .int (nI (cn 1))) rfl dX11_stopsOf_53 ?_
            refine lv_idiv hx hb dX11_stopsOf_56 (nI_nz (by (first | omega | (have zz0 := Hid.u hb_cn; omega))) (by (first | omega | (have zz0 := Hid.u hb_cn; omega)))) ?_
            refine lv_topi (fun y_9 ey_9 => ?_)
            obtain rfl : y_9 = (nI (q16 / cn 1)) := ey_9.trans (nI_div (by (first | omega | (have zz0 := Hid.u hb_cn; omega))) (by (first | omega | (have zz0 := Hid.u hb_cn; omega))))
            refine lv_istore (lv' := [(4, .int (nI (q16 / cn 1))), (3, .int (nI (t16 ||| 2 ^ j16))), (5, .int (nI j16)), (0, .ref (g 0)), (1, .int (nI s0)), (2, .int (nI l0))]) hx hb dX11_stopsOf_57 hl (ltb rfl) rfl (fun ls hl => ?_)
            refine lv_iinc (v := ((nI j16) + (-1))) (lv' := [(5, .int ((nI j16) + (-1))), (4, .int (nI (q16 / cn 1))), (3, .int (nI (t16 ||| 2 ^ j16))), (0, .ref (g 0)), (1, .int (nI s0)), (2, .int (nI l0))]) hx hb dX11_stopsOf_59 hl (k := 2) rfl rfl (ltb rfl) rfl (fun ls hl => ?_)
            refine lv_goto (tgt := 16) hx hb dX11_stopsOf_62 rfl ?_
            exact ih16 (t16 ||| 2 ^ j16) (q16 / cn 1) j16 (by (first | omega | (have zz0 := Hid.u hb_cn; omega))) ⟨(by (first | omega | (have zz0 := Hid.u hb_cn; omega))), (DGq hx16_0.2.1 (by (first | omega | (have zz0 := Hid.u hb_cn; omega)))), (hx16_0.2.2.1.ky (by (first | omega | (have zz0 := Hid.u hb_cn; omega))) (beq_iff_eq.mpr ((DGd hx16_0.2.1).symm.trans (by (first | omega | (have zz0 := Hid.u hb_cn; omega)))))), (or63 hx16_0.2.2.2.1 (by (first | omega | (have zz0 := Hid.u hb_cn; omega)))), Nat.le_trans (Nat.div_le_self _ _) hx16_0.2.2.2.2⟩ ls (lv_sub hl [0, 1, 2, 3, 4, 5] rfl)
  exact lp_16 _ 0 s0 (cn 4) (Nat.lt_succ_self _) ⟨Nat.le_refl _, (by rw [Nat.sub_self, Nat.pow_zero, Nat.div_one]), BS.e0, (by decide), Nat.le_refl _⟩ ls (lv_sub hl [0, 1, 2, 3, 4, 5] rfl)
set_option maxRecDepth 100000 in
set_option maxHeartbeats 4000000 in
theorem q_EfillOf (l : Launch) (D : va_G) (cI cB cZ : ClassId) (zz qq vv : Nat) (bt : Nat → Int32) (g : Nat → Nat) (ad : Nat → Nat → Nat) (cn : Nat → Nat) (In : Nat → Int32) (Fn : Nat → Nat → Int32) (s0 : Nat) (hB : CBX cn) (h4 : cn 4 ≤ 8) (hs0 : s0 ≤ 255) : Met l yX10_fillOf (CWS yX10_fillOf cX10_fillOf 4 (some .int)) (RM 1 0 0) (PBrx [.ref (g 9), .int (nI s0)] D cI cB cZ zz qq vv bt (wX cI (D.1 99) zz g ad cn In Fn)) (vp_Si (fun r => r = SFw (Fn 31) s0 (cn 4))) 0 0 (fun _ => False) := by
  refine en_rx rfl pn_RX10 (Nat.le_of_ble_eq_true rfl) (fun p e s m below meth c hx hb hml hown S hr hlocks hnm hP hK hXS hS ls hl => ?_)
  have hl : lv_has ls 4 [(0, .ref (g 9)), (1, .int (nI s0))] := hl
  have hb_cn : Hid (CBX cn) := hB
  replace hB : CBXh cn := hB
  refine lv_iconst (v := 0) hx hb (oc_3 0 shX10_fillOf_0) kic_0 ?_
  refine lv_istore_n (lv' := [(2, .int 0), (0, .ref (g 9)), (1, .int (nI s0))]) hx hb (oc_61 1 (aq_1 shX10_fillOf_0)) rfl hl (ltb rfl) rfl (fun ls hl => ?_)
  refine lv_iconst (v := 0) hx hb (oc_3 2 (aq_2 shX10_fillOf_0)) kic_0 ?_
  refine lv_istore_n (lv' := [(3, .int 0), (2, .int 0), (0, .ref (g 9)), (1, .int (nI s0))]) hx hb (oc_62 3 (aq_3 shX10_fillOf_0)) rfl hl (ltb rfl) rfl (fun ls hl => ?_)
  have lp_4 : ∀ (n : Nat) (i4 : Nat) (x4_2 : Int32) , cn 4 - i4 < n → (i4 ≤ cn 4 ∧ (x4_2 = SFw (Fn 31) s0 i4)) → ∀ ls : Array Slot, lv_has ls 4 [(3, .int (nI i4)), (2, .int x4_2), (0, .ref (g 9)), (1, .int (nI s0))] → W p l e (RM 1 0 0) s m ([.ref (g 9), .int (nI s0)]).toArray below meth c s.heap [] 0 0 (MQ below (vp_Si (fun r => r = SFw (Fn 31) s0 (cn 4))) ([.ref (g 9), .int (nI s0)]).toArray s 0 0 (fun _ => False)) (F0 m 4 ls []) := by
    intro n4
    induction n4 with
    | zero => intros; (first | omega | (have zz0 := Hid.u hb_cn; omega))
    | succ n4 ih4 =>
      intro i4 x4_2 hmu4 hinv4 ls hl
      obtain ⟨hr4, hx4_0⟩ := hinv4
      have ti4 : (nI i4).toInt = (i4 : Int) := nI_toInt (by (first | omega | (have zz0 := Hid.u hb_cn; omega)))
      refine lv_iload_n hx hb (oc_29 4 (aq_4 shX10_fillOf_0)) rfl (lvA0 hl) ?_
      refine lv_aload_n hx hb (oc_42 5 (aq_5 shX10_fillOf_0)) rfl (lvA2 hl) ?_
      refine gf_RX10_36 S hK hP 17 xo_17 (v := .int (nI (cn 4))) rfl (oc_180 6 (aq_6 shX10_fillOf_0) uw_0_36) ?_
      have : (nI (cn 4)).toInt = (((cn 4) : Nat) : Int) := nI_toInt (by (first | omega | (have zz0 := Hid.u hb_cn; omega)))
      refine lv_icmp_ge (tgt := 41) hx hb (oc_162 9 (aq_9 shX10_fillOf_0) sgw_0_32) rfl (fun c_1 => ?_) (fun c_1 => ?_)
      ·
        have tc_1 : ((nI (cn 4)).toInt : Int) ≤ (nI i4).toInt := Int32.le_iff_toInt_le.mp c_1
        refine lv_iload_n hx hb (oc_28 41 (aq_16 shX10_fillOf_25)) rfl (lvA1 hl) ?_
        exact W.iret (v := x4_2) hx hb hr (fun t ht hW => ⟨x4_2, rfl, (by have e9 : i4 = cn 4 := (by (first | omega | (have zz0 := Hid.u hb_cn; omega))); rw [← e9]; exact hx4_0), ht⟩) (fun _ h => absurd h List.not_mem_nil) (oc_172 42 (aq_17 shX10_fillOf_25))
      ·
        have tc_1 : ((nI i4).toInt : Int) < (nI (cn 4)).toInt := Int32.lt_iff_toInt_lt.mp (Int32.not_le.mp c_1)
        refine lv_iload_n hx hb (oc_28 12 (aq_12 shX10_fillOf_0)) rfl (lvA1 hl) ?_
        refine lv_iload_n hx hb (oc_27 13 (aq_13 shX10_fillOf_0)) rfl (lvA3 hl) ?_
        refine lv_iload_n hx hb (oc_29 14 (aq_14 shX10_fillOf_0)) rfl (lvA0 hl) ?_
        refine lv_ishr hx hb (oc_122 15 (aq_15 shX10_fillOf_0)) ?_
        refine lv_iconst (v := 1) hx hb (oc_4 16 (aq_16 shX10_fillOf_0)) kic_1 ?_
        refine lv_iand hx hb (oc_126 17 (aq_17 shX10_fillOf_0)) ?_
        refine lv_if_eq (tgt := 32) hx hb (oc_153 18 (aq_18 shX10_fillOf_0) sgw_0_14) rfl (fun c_2 => ?_) (fun c_2 => ?_)
        ·
          have tc_2 : ((((nI s0) >>> ((nI i4) &&& 31)) &&& 1).toInt : Int) = 0 := congrArg Int32.toInt c_2
          refine lv_iconst (v := 0) hx hb (oc_3 32 (aq_7 shX10_fillOf_25)) kic_0 ?_
          refine lv_iadd hx hb dX10_fillOf_33 ?_
          refine lv_istore_n (lv' := [(2, .int (x4_2 + 0)), (3, .int (nI i4)), (0, .ref (g 9)), (1, .int (nI s0))]) hx hb dX10_fillOf_34 rfl hl (ltb rfl) rfl (fun ls hl => ?_)
          refine lv_iinc (v := (nI (i4 + 1))) (lv' := [(3, .int (nI (i4 + 1))), (2, .int (x4_2 + 0)), (0, .ref (g 9)), (1, .int (nI s0))]) hx hb dX10_fillOf_35 hl (k := 1) rfl (nI_1 _) (ltb rfl) rfl (fun ls hl => ?_)
          refine lv_goto (tgt := 4) hx hb dX10_fillOf_38 rfl ?_
          exact ih4 (i4 + 1) (x4_2 + 0) (by (first | omega | (have zz0 := Hid.u hb_cn; omega))) ⟨(by (first | omega | (have zz0 := Hid.u hb_cn; omega))), (by rw [hx4_0]; exact SFw_0 ((bitw (by (first | omega | (have zz0 := Hid.u hb_cn; omega))) (by (first | omega | (have zz0 := Hid.u hb_cn; omega)))).mp (by first | assumption | exact Int32.toInt_inj.mp (by assumption))))⟩ ls (lv_sub hl [0, 1, 2, 3] rfl)
        ·
          have tc_2 : ((((nI s0) >>> ((nI i4) &&& 31)) &&& 1).toInt : Int) ≠ 0 := fun q => c_2 (Int32.toInt_inj.mp q)
          refine lv_aload_n hx hb (oc_42 21 (aq_21 shX10_fillOf_0)) rfl (lvA2 hl) ?_
          refine gf_RX10_15 S hK hP 17 xo_17 (v := .ref (g 31)) rfl (oc_180 22 (aq_22 shX10_fillOf_0) uw_0_15) ?_
          refine lv_iload_n hx hb (oc_29 25 shX10_fillOf_25) rfl (lvA0 hl) ?_
          refine vp_callSi (runS_r (As := [.ref (g 31), .int (nI i4)]) (rest := [.int x4_2]) S (q_l_at l D cI cB cZ (g 31) 8 (Fn 31) (nI i4) (by (first | omega | (have zz0 := Hid.u hb_cn; omega)))) kS_RX10_54 hK hP [19] (one_is xo_19) ⟨Nat.le_of_ble_eq_true rfl, Nat.le_of_ble_eq_true rfl⟩ ⟨Nat.le_of_ble_eq_true rfl, Nat.le_of_ble_eq_true rfl⟩ rfl hl.1 rfl (Nat.le_of_ble_eq_true rfl) (oc_184 26 (aq_1 shX10_fillOf_25) uw_0_54)) (fun r_3 h_4 => ?_)
          obtain rfl : r_3 = (Fn 31 i4) := h_4.trans (atM_n (by (first | omega | (have zz0 := Hid.u hb_cn; omega))) (by decide))
          refine lv_goto (tgt := 33) hx hb (oc_167 29 (aq_4 shX10_fillOf_25) sgw_0_4) rfl ?_
          refine lv_iadd hx hb dX10_fillOf_33 ?_
          refine lv_istore_n (lv' := [(2, .int (x4_2 + (Fn 31 i4))), (3, .int (nI i4)), (0, .ref (g 9)), (1, .int (nI s0))]) hx hb dX10_fillOf_34 rfl hl (ltb rfl) rfl (fun ls hl => ?_)
          refine lv_iinc (v := (nI (i4 + 1))) (lv' := [(3, .int (nI (i4 + 1))), (2, .int (x4_2 + (Fn 31 i4))), (0, .ref (g 9)), (1, .int (nI s0))]) hx hb dX10_fillOf_35 hl (k := 1) rfl (nI_1 _) (ltb rfl) rfl (fun ls hl => ?_)
          refine lv_goto (tgt := 4) hx hb dX10_fillOf_38 rfl ?_
          exact ih4 (i4 + 1) (x4_2 + (Fn 31 i4)) (by (first | omega | (have zz0 := Hid.u hb_cn; omega))) ⟨(by (first | omega | (have zz0 := Hid.u hb_cn; omega))), (by rw [hx4_0]; exact SFw_1 (bit_n1 (by (first | omega | (have zz0 := Hid.u hb_cn; omega))) (by (first | omega | (have zz0 := Hid.u hb_cn; omega))) (by first | assumption | exact fun q => absurd (congrArg Int32.toInt q) (by assumption))))⟩ ls (lv_sub hl [0, 1, 2, 3] rfl)
  exact lp_4 _ 0 0 (Nat.lt_succ_self _) ⟨(by (first | omega | (have zz0 := Hid.u hb_cn; omega))), rfl⟩ ls (lv_sub hl [0, 1, 2, 3] rfl)
set_option maxRecDepth 100000 in
set_option maxHeartbeats 4000000 in
theorem q_EsharedLength (l : Launch) (D : va_G) (cI cB cZ : ClassId) (zz qq vv : Nat) (bt : Nat → Int32) (g : Nat → Nat) (ad : Nat → Nat → Nat) (cn : Nat → Nat) (In : Nat → Int32) (Fn : Nat → Nat → Int32) (s0 d0 : Nat) (hB : CBX cn) (h4 : cn 4 ≤ 6) (hs0 : s0 ≤ 2000) (hd : d0 < 400) : Met l yX11_sharedLength (CWS yX11_sharedLength cX11_sharedLength 6 (some .int)) (RM 2 0 0) (PBrx [.ref (g 0), .int (nI s0), .int (nI d0)] D cI cB cZ zz qq vv bt (wX cI (D.1 99) zz g ad cn In Fn)) (vp_Si (fun r => VSH (cn 1) (cn 4) (Fn 31) (fun j => ¬ Fn 28 (j * 400 + d0) = 0) (Fn 27) (fun S y => y = Fn 35 S) (DG (cn 1) (cn 4) s0) r)) 0 0 (fun _ => False) := by
  refine en_rx rfl pn_RX11 (Nat.le_of_ble_eq_true rfl) (fun p e s m below meth c hx hb hml hown S hr hlocks hnm hP hK hXS hS ls hl => ?_)
  have hl : lv_has ls 6 [(0, .ref (g 0)), (1, .int (nI s0)), (2, .int (nI d0))] := hl
  have hb_cn : Hid (CBX cn) := hB
  replace hB : CBXh cn := hB
  refine lv_iconst (v := 0) hx hb (oc_3 0 shX11_sharedLength_0) kic_0 ?_
  refine lv_istore_n (lv' := [(3, .int 0), (0, .ref (g 0)), (1, .int (nI s0)), (2, .int (nI d0))]) hx hb (oc_62 1 (aq_1 shX11_sharedLength_0)) rfl hl (ltb rfl) rfl (fun ls hl => ?_)
  refine lv_iconst (v := 0) hx hb (oc_3 2 (aq_2 shX11_sharedLength_0)) kic_0 ?_
  refine lv_istore (lv' := [(4, .int 0), (3, .int 0), (0, .ref (g 0)), (1, .int (nI s0)), (2, .int (nI d0))]) hx hb (oc_54 3 (aq_3 shX11_sharedLength_0) ub_4) hl (ltb rfl) rfl (fun ls hl => ?_)
  have lp_5 : ∀ (n : Nat) (i5 : Nat) (x5_3 : Int32) , cn 1 - i5 < n → (i5 ≤ cn 1 ∧ (SHL (cn 4) (fun S y => y = Fn 35 S) (DG (cn 1) (cn 4) s0) i5 x5_3) ∧ (∀ j : Nat, j < i5 → ¬ LRB (cn 4) (Fn 31) (fun j => ¬ Fn 28 (j * 400 + d0) = 0) (Fn 27) (DG (cn 1) (cn 4) s0) j)) → ∀ ls : Array Slot, lv_has ls 6 [(4, .int (nI i5)), (3, .int x5_3), (0, .ref (g 0)), (1, .int (nI s0)), (2, .int (nI d0))] → W p l e (RM 2 0 0) s m ([.ref (g 0), .int (nI s0), .int (nI d0)]).toArray below meth c s.heap [] 0 0 (MQ below (vp_Si (fun r => VSH (cn 1) (cn 4) (Fn 31) (fun j => ¬ Fn 28 (j * 400 + d0) = 0) (Fn 27) (fun S y => y = Fn 35 S) (DG (cn 1) (cn 4) s0) r)) ([.ref (g 0), .int (nI s0), .int (nI d0)]).toArray s 0 0 (fun _ => False)) (F0 m 5 ls []) := by
    intro n5
    induction n5 with
    | zero => intros; (first | omega | (have zz0 := Hid.u hb_cn; omega))
    | succ n5 ih5 =>
      intro i5 x5_3 hmu5 hinv5 ls hl
      obtain ⟨hr5, hx5_0, hx5_1⟩ := hinv5
      have ti5 : (nI i5).toInt = (i5 : Int) := nI_toInt (by (first | omega | (have zz0 := Hid.u hb_cn; omega)))
      refine lv_iload hx hb (oc_21 5 (aq_5 shX11_sharedLength_0) ub_4) (lvA0 hl) ?_
      refine lv_aload_n hx hb (oc_42 7 (aq_7 shX11_sharedLength_0)) rfl (lvA2 hl) ?_
      refine gf_RX11_311 S hK hP 0 xo_0 (v := .int (nI (cn 1))) rfl (oc_180 8 (aq_8 shX11_sharedLength_0) uw_1_55) ?_
      have : (nI (cn 1)).toInt = (((cn 1) : Nat) : Int) := nI_toInt (by (first | omega | (have zz0 := Hid.u hb_cn; omega)))
      refine lv_icmp_ge (tgt := 82) hx hb (oc_162 11 (aq_11 shX11_sharedLength_0) sgw_0_71) rfl (fun c_1 => ?_) (fun c_1 => ?_)
      ·
        have tc_1 : ((nI (cn 1)).toInt : Int) ≤ (nI i5).toInt := Int32.le_iff_toInt_le.mp c_1
        refine lv_iload_n hx hb (oc_29 82 (aq_7 shX11_sharedLength_75)) rfl (lvA1 hl) ?_
        exact W.iret (v := x5_3) hx hb hr (fun t ht hW => ⟨x5_3, rfl, (Or.inr (by have e9 : i5 = cn 1 := (by (first | omega | (have zz0 := Hid.u hb_cn; omega))); rw [e9] at hx5_0 hx5_1; exact ⟨hx5_1, hx5_0⟩)), ht⟩) (fun _ h => absurd h List.not_mem_nil) (oc_172 83 (aq_8 shX11_sharedLength_75))
      ·
        have tc_1 : ((nI i5).toInt : Int) < (nI (cn 1)).toInt := Int32.lt_iff_toInt_lt.mp (Int32.not_le.mp c_1)
        refine lv_aload_n hx hb (oc_42 14 (aq_14 shX11_sharedLength_0)) rfl (lvA2 hl) ?_
        refine lv_iload_n hx hb (oc_27 15 (aq_15 shX11_sharedLength_0)) rfl (lvA3 hl) ?_
        refine lv_iload hx hb (oc_21 16 (aq_16 shX11_sharedLength_0) ub_4) (lvA0 hl) ?_
        refine vp_callSi (runV_rxa (As := [.int (nI s0), .int (nI i5)]) (rest := []) S (q_EstopsOf l D cI cB cZ zz qq vv bt g ad cn In Fn s0 i5 hB (by (first | omega | (have zz0 := Hid.u hb_cn; omega))) (by (first | omega | (have zz0 := Hid.u hb_cn; omega))) (by (first | omega | (have zz0 := Hid.u hb_cn; omega)))) kV_RX11_333 hK hXS hS hP 0 xo_0 rfl rfl ⟨Nat.le_of_ble_eq_true rfl, Nat.le_of_ble_eq_true rfl⟩ ⟨Nat.le_of_ble_eq_true rfl, Nat.le_of_ble_eq_true rfl⟩ rfl hl.1 rfl (Nat.le_of_ble_eq_true rfl) (oc_182 18 (aq_18 shX11_sharedLength_0) uw_1_77)) (fun r_2 h_3 => ?_)
        obtain ⟨S9, hS9, rfl⟩ := h_3
        have hS8 := hS9.le63 h4
        have tS9 : (nI S9).toInt = (S9 : Int) := nI_toInt (by (first | omega | (have zz0 := Hid.u hb_cn; omega)))
        refine lv_istore (lv' := [(5, .int (nI S9)), (4, .int (nI i5)), (3, .int x5_3), (0, .ref (g 0)), (1, .int (nI s0)), (2, .int (nI d0))]) hx hb (oc_54 21 (aq_21 shX11_sharedLength_0) ub_5) hl (ltb rfl) rfl (fun ls hl => ?_)
        refine lv_iload hx hb (oc_21 23 (aq_23 shX11_sharedLength_0) ub_5) (lvA0 hl) ?_
        have : (nI S9).toInt = ((S9 : Nat) : Int) := nI_toInt (by (first | omega | (have zz0 := Hid.u hb_cn; omega)))
        refine lv_if_eq (tgt := 64) hx hb (oc_153 25 shX11_sharedLength_25 sgw_0_39) rfl (fun c_4 => ?_) (fun c_4 => ?_)
        ·
          have tc_4 : ((nI S9).toInt : Int) = 0 := congrArg Int32.toInt c_4
          refine lv_iload_n hx hb dX11_sharedLength_64 rfl (lvA2 hl) ?_
          refine lv_aload_n hx hb dX11_sharedLength_65 rfl (lvA3 hl) ?_
          refine gf_RX11_54 S hK hP 0 xo_0 (v := .ref (g 9)) rfl dX11_sharedLength_66 ?_
          refine lv_iload hx hb dX11_sharedLength_69 (lvA0 hl) ?_
          refine vp_callSi (runV_rxa (As := [.int (nI S9)]) (rest := [.int x5_3]) S (q_ElengthOf l D cI cB cZ zz qq vv bt g ad cn In Fn (nI S9) hB) kV_RX11_339 hK hXS hS hP 17 xo_17 rfl rfl ⟨Nat.le_of_ble_eq_true rfl, Nat.le_of_ble_eq_true rfl⟩ ⟨Nat.le_of_ble_eq_true rfl, Nat.le_of_ble_eq_true rfl⟩ rfl hl.1 rfl (Nat.le_of_ble_eq_true rfl) dX11_sharedLength_71) (fun r_5 h_6 => ?_)
          obtain rfl : r_5 = (Fn 35 S9) := h_6.trans (atM_n (by (first | omega | (have zz0 := Hid.u hb_cn; omega))) (by decide))
          refine lv_iadd hx hb dX11_sharedLength_74 ?_
          refine lv_istore_n (lv' := [(3, .int (x5_3 + (Fn 35 S9))), (5, .int (nI S9)), (4, .int (nI i5)), (0, .ref (g 0)), (1, .int (nI s0)), (2, .int (nI d0))]) hx hb dX11_sharedLength_75 rfl hl (ltb rfl) rfl (fun ls hl => ?_)
          refine lv_iinc (v := (nI (i5 + 1))) (lv' := [(4, .int (nI (i5 + 1))), (3, .int (x5_3 + (Fn 35 S9))), (5, .int (nI S9)), (0, .ref (g 0)), (1, .int (nI s0)), (2, .int (nI d0))]) hx hb dX11_sharedLength_76 hl (k := 2) rfl (nI_1 _) (ltb rfl) rfl (fun ls hl => ?_)
          refine lv_goto (tgt := 5) hx hb dX11_sharedLength_79 rfl ?_
          exact ih5 (i5 + 1) (x5_3 + (Fn 35 S9)) (by (first | omega | (have zz0 := Hid.u hb_cn; omega))) ⟨(by (first | omega | (have zz0 := Hid.u hb_cn; omega))), ⟨x5_3, Fn 35 S9, S9, hx5_0, hS9, rfl, rfl⟩, (fun j hj => if q9 : j = i5 then (by rw [q9]; first | exact LRB.no0 hS9 (by (first | omega | (have zz0 := Hid.u hb_cn; omega))) | exact LRB.no hS9 (fun w9 => w9 hq9) (by (first | omega | (have zz0 := Hid.u hb_cn; omega)))) else hx5_1 j (by (first | omega | (have zz0 := Hid.u hb_cn; omega))))⟩ ls (lv_sub hl [0, 1, 3, 4, 5] rfl)
        ·
          have tc_4 : ((nI S9).toInt : Int) ≠ 0 := fun q => c_4 (Int32.toInt_inj.mp q)
          refine lv_aload_n hx hb (oc_42 28 (aq_3 shX11_sharedLength_25)) rfl (lvA3 hl) ?_
          refine lv_iload hx hb (oc_21 29 (aq_4 shX11_sharedLength_25) ub_4) (lvA1 hl) ?_
          refine lv_iload_n hx hb (oc_28 31 (aq_6 shX11_sharedLength_25)) rfl (lvA5 hl) ?_
          refine vp_callSi (runV_rxa (As := [.int (nI i5), .int (nI d0)]) (rest := []) S (q_EisOff l D cI cB cZ zz qq vv bt g ad cn In Fn i5 d0 hB (by (first | omega | (have zz0 := Hid.u hb_cn; omega))) (by (first | omega | (have zz0 := Hid.u hb_cn; omega)))) kV_RX11_317 hK hXS hS hP 0 xo_0 rfl rfl ⟨Nat.le_of_ble_eq_true rfl, Nat.le_of_ble_eq_true rfl⟩ ⟨Nat.le_of_ble_eq_true rfl, Nat.le_of_ble_eq_true rfl⟩ rfl hl.1 rfl (Nat.le_of_ble_eq_true rfl) (oc_182 32 (aq_7 shX11_sharedLength_25) uw_1_61)) (fun r_7 h_8 => ?_)
          rcases h_8 with ⟨rfl, hq9⟩ | ⟨rfl, hq9⟩
          ·
            refine lv_if_ne (tgt := 62) hx hb (oc_154 35 (aq_10 shX11_sharedLength_25) sgw_0_27) rfl (fun _ => ?_) (fun h => absurd h cq_eq_1_0)
            refine lv_iconst (v := (-1)) hx hb dX11_sharedLength_62 kic_m1 ?_
            exact W.iret (v := (-1)) hx hb hr (fun t ht hW => ⟨(-1), rfl, (Or.inl ⟨⟨i5, by (first | omega | (have zz0 := Hid.u hb_cn; omega)), S9, hS9, by (first | omega | (have zz0 := Hid.u hb_cn; omega)), (by first | exact Or.inl hq9 | exact Or.inr (by (first | omega | (have zz0 := Hid.u hb_cn; omega))))⟩, rfl⟩), ht⟩) (fun _ h => absurd h List.not_mem_nil) dX11_sharedLength_63
          ·
            refine lv_if_ne (tgt := 62) hx hb (oc_154 35 (aq_10 shX11_sharedLength_25) sgw_0_27) rfl (fun h => absurd h cq_eq_0_0) (fun _ => ?_)
            refine lv_aload_n hx hb (oc_42 38 (aq_13 shX11_sharedLength_25)) rfl (lvA3 hl) ?_
            refine gf_RX11_54 S hK hP 0 xo_0 (v := .ref (g 9)) rfl (oc_180 39 (aq_14 shX11_sharedLength_25) uw_0_54) ?_
            refine lv_iload hx hb (oc_21 42 (aq_17 shX11_sharedLength_25) ub_5) (lvA0 hl) ?_
            refine vp_callSi (runV_rxa (As := [.int (nI S9)]) (rest := []) S (q_EfillOf l D cI cB cZ zz qq vv bt g ad cn In Fn S9 hB (by (first | omega | (have zz0 := Hid.u hb_cn; omega))) (by (first | omega | (have zz0 := Hid.u hb_cn; omega)))) kV_RX11_336 hK hXS hS hP 17 xo_17 rfl rfl ⟨Nat.le_of_ble_eq_true rfl, Nat.le_of_ble_eq_true rfl⟩ ⟨Nat.le_of_ble_eq_true rfl, Nat.le_of_ble_eq_true rfl⟩ rfl hl.1 rfl (Nat.le_of_ble_eq_true rfl) (oc_182 44 (aq_19 shX11_sharedLength_25) uw_1_80)) (fun r_9 h_10 => ?_)
            subst h_10
            refine lv_aload_n hx hb (oc_42 47 (aq_22 shX11_sharedLength_25)) rfl (lvA3 hl) ?_
            refine gf_RX11_47 S hK hP 0 xo_0 (v := .ref (g 8)) rfl (oc_180 48 (aq_23 shX11_sharedLength_25) uw_0_47) ?_
            refine gf_RX11_314 S hK hP 6 xo_6 (v := .ref (g 27)) rfl (oc_180 51 shX11_sharedLength_51 uw_1_58) ?_
            refine lv_iload hx hb (oc_21 54 (aq_3 shX11_sharedLength_51) ub_4) (lvA1 hl) ?_
            refine vp_callSi (runS_r (As := [.ref (g 27), .int (nI i5)]) (rest := [.int (SFw ((Fn 31)) S9 ((cn 4)))]) S (q_l_at l D cI cB cZ (g 27) 3 (Fn 27) (nI i5) (by (first | omega | (have zz0 := Hid.u hb_cn; omega)))) kS_RX11_192 hK hP [14] (one_is xo_14) ⟨Nat.le_of_ble_eq_true rfl, Nat.le_of_ble_eq_true rfl⟩ ⟨Nat.le_of_ble_eq_true rfl, Nat.le_of_ble_eq_true rfl⟩ rfl hl.1 rfl (Nat.le_of_ble_eq_true rfl) (oc_184 56 (aq_5 shX11_sharedLength_51) uw_0_192)) (fun r_11 h_12 => ?_)
            obtain rfl : r_11 = (Fn 27 i5) := h_12.trans (atM_n (by (first | omega | (have zz0 := Hid.u hb_cn; omega))) (by decide))
            refine lv_icmp_le (tgt := 64) hx hb (oc_164 59 (aq_8 shX11_sharedLength_51) sgw_0_5) rfl (fun c_13 => ?_) (fun c_13 => ?_)
            ·
              have tc_13 : ((SFw ((Fn 31)) S9 ((cn 4))).toInt : Int) ≤ (Fn 27 i5).toInt := Int32.le_iff_toInt_le.mp c_13
              refine lv_iload_n hx hb dX11_sharedLength_64 rfl (lvA2 hl) ?_
              refine lv_aload_n hx hb dX11_sharedLength_65 rfl (lvA3 hl) ?_
              refine gf_RX11_54 S hK hP 0 xo_0 (v := .ref (g 9)) rfl dX11_sharedLength_66 ?_
              refine lv_iload hx hb dX11_sharedLength_69 (lvA0 hl) ?_
              refine vp_callSi (runV_rxa (As := [.int (nI S9)]) (rest := [.int x5_3]) S (q_ElengthOf l D cI cB cZ zz qq vv bt g ad cn In Fn (nI S9) hB) kV_RX11_339 hK hXS hS hP 17 xo_17 rfl rfl ⟨Nat.le_of_ble_eq_true rfl, Nat.le_of_ble_eq_true rfl⟩ ⟨Nat.le_of_ble_eq_true rfl, Nat.le_of_ble_eq_true rfl⟩ rfl hl.1 rfl (Nat.le_of_ble_eq_true rfl) dX11_sharedLength_71) (fun r_14 h_15 => ?_)
              obtain rfl : r_14 = (Fn 35 S9) := h_15.trans (atM_n (by (first | omega | (have zz0 := Hid.u hb_cn; omega))) (by decide))
              refine lv_iadd hx hb dX11_sharedLength_74 ?_
              refine lv_istore_n (lv' := [(3, .int (x5_3 + (Fn 35 S9))), (5, .int (nI S9)), (4, .int (nI i5)), (0, .ref (g 0)), (1, .int (nI s0)), (2, .int (nI d0))]) hx hb dX11_sharedLength_75 rfl hl (ltb rfl) rfl (fun ls hl => ?_)
              refine lv_iinc (v := (nI (i5 + 1))) (lv' := [(4, .int (nI (i5 + 1))), (3, .int (x5_3 + (Fn 35 S9))), (5, .int (nI S9)), (0, .ref (g 0)), (1, .int (nI s0)), (2, .int (nI d0))]) hx hb dX11_sharedLength_76 hl (k := 2) rfl (nI_1 _) (ltb rfl) rfl (fun ls hl => ?_)
              refine lv_goto (tgt := 5) hx hb dX11_sharedLength_79 rfl ?_
              exact ih5 (i5 + 1) (x5_3 + (Fn 35 S9)) (by (first | omega | (have zz0 := Hid.u hb_cn; omega))) ⟨(by (first | omega | (have zz0 := Hid.u hb_cn; omega))), ⟨x5_3, Fn 35 S9, S9, hx5_0, hS9, rfl, rfl⟩, (fun j hj => if q9 : j = i5 then (by rw [q9]; first | exact LRB.no0 hS9 (by (first | omega | (have zz0 := Hid.u hb_cn; omega))) | exact LRB.no hS9 (fun w9 => w9 hq9) (by (first | omega | (have zz0 := Hid.u hb_cn; omega)))) else hx5_1 j (by (first | omega | (have zz0 := Hid.u hb_cn; omega))))⟩ ls (lv_sub hl [0, 1, 3, 4, 5] rfl)
            ·
              have tc_13 : ((Fn 27 i5).toInt : Int) < (SFw ((Fn 31)) S9 ((cn 4))).toInt := Int32.lt_iff_toInt_lt.mp (Int32.not_le.mp c_13)
              refine lv_iconst (v := (-1)) hx hb dX11_sharedLength_62 kic_m1 ?_
              exact W.iret (v := (-1)) hx hb hr (fun t ht hW => ⟨(-1), rfl, (Or.inl ⟨⟨i5, by (first | omega | (have zz0 := Hid.u hb_cn; omega)), S9, hS9, by (first | omega | (have zz0 := Hid.u hb_cn; omega)), (by first | exact Or.inl hq9 | exact Or.inr (by (first | omega | (have zz0 := Hid.u hb_cn; omega))))⟩, rfl⟩), ht⟩) (fun _ h => absurd h List.not_mem_nil) dX11_sharedLength_63
  exact lp_5 _ 0 0 (Nat.lt_succ_self _) ⟨(by (first | omega | (have zz0 := Hid.u hb_cn; omega))), rfl, (fun j hj => absurd hj (Nat.not_lt_zero j))⟩ ls (lv_sub hl [0, 1, 2, 3, 4] rfl)
set_option maxRecDepth 100000 in
set_option maxHeartbeats 4000000 in
theorem q_EbestShares (l : Launch) (D : va_G) (cI cB cZ : ClassId) (zz qq vv : Nat) (bt : Nat → Int32) (g : Nat → Nat) (ad : Nat → Nat → Nat) (cn : Nat → Nat) (In : Nat → Int32) (Fn : Nat → Nat → Int32) (d0 : Nat) (hB : CBX cn) (h4 : cn 4 ≤ 6) (hd : d0 < 400) : Met l yX11_bestShares (CWS yX11_bestShares cX11_bestShares 7 (some .int)) (RM 3 0 0) (PBrx [.ref (g 0), .int (nI d0)] D cI cB cZ zz qq vv bt (wX cI (D.1 99) zz g ad cn In Fn)) (vp_Si (fun r => ∃ y : Int32, BSP (fun (t : Nat) (z : Int32) => VSH (cn 1) (cn 4) (Fn 31) (fun j => ¬ Fn 28 (j * 400 + d0) = 0) (Fn 27) (fun S y => y = Fn 35 S) (DG (cn 1) (cn 4) t) z) (cn 1 ^ cn 4) r y)) 0 0 (fun _ => False) := by
  refine en_rx rfl pn_RX11 (Nat.le_of_ble_eq_true rfl) (fun p e s m below meth c hx hb hml hown S hr hlocks hnm hP hK hXS hS ls hl => ?_)
  have hl : lv_has ls 7 [(0, .ref (g 0)), (1, .int (nI d0))] := hl
  have hb_cn : Hid (CBX cn) := hB
  replace hB : CBXh cn := hB
  refine lv_iconst (v := 1) hx hb (oc_4 0 shX11_bestShares_0) kic_1 ?_
  refine lv_istore_n (lv' := [(2, .int 1), (0, .ref (g 0)), (1, .int (nI d0))]) hx hb (oc_61 1 (aq_1 shX11_bestShares_0)) rfl hl (ltb rfl) rfl (fun ls hl => ?_)
  refine lv_iconst (v := 0) hx hb (oc_3 2 (aq_2 shX11_bestShares_0)) kic_0 ?_
  refine lv_istore_n (lv' := [(3, .int 0), (2, .int 1), (0, .ref (g 0)), (1, .int (nI d0))]) hx hb (oc_62 3 (aq_3 shX11_bestShares_0)) rfl hl (ltb rfl) rfl (fun ls hl => ?_)
  have lp_4 : ∀ (n : Nat) (i4 : Nat) (w4 : Nat) , cn 4 - i4 < n → (i4 ≤ cn 4 ∧ (w4 = cn 1 ^ i4 ∧ w4 ≤ 3 ^ i4)) → ∀ ls : Array Slot, lv_has ls 7 [(3, .int (nI i4)), (2, .int (nI w4)), (0, .ref (g 0)), (1, .int (nI d0))] → W p l e (RM 3 0 0) s m ([.ref (g 0), .int (nI d0)]).toArray below meth c s.heap [] 0 0 (MQ below (vp_Si (fun r => ∃ y : Int32, BSP (fun (t : Nat) (z : Int32) => VSH (cn 1) (cn 4) (Fn 31) (fun j => ¬ Fn 28 (j * 400 + d0) = 0) (Fn 27) (fun S y => y = Fn 35 S) (DG (cn 1) (cn 4) t) z) (cn 1 ^ cn 4) r y)) ([.ref (g 0), .int (nI d0)]).toArray s 0 0 (fun _ => False)) (F0 m 4 ls []) := by
    intro n4
    induction n4 with
    | zero => intros; (first | omega | (have zz0 := Hid.u hb_cn; omega))
    | succ n4 ih4 =>
      intro i4 w4 hmu4 hinv4 ls hl
      obtain ⟨hr4, hx4_0⟩ := hinv4
      have ti4 : (nI i4).toInt = (i4 : Int) := nI_toInt (by (first | omega | (have zz0 := Hid.u hb_cn; omega)))
      refine lv_iload_n hx hb (oc_29 4 (aq_4 shX11_bestShares_0)) rfl (lvA0 hl) ?_
      refine lv_aload_n hx hb (oc_42 5 (aq_5 shX11_bestShares_0)) rfl (lvA2 hl) ?_
      refine gf_RX11_54 S hK hP 0 xo_0 (v := .ref (g 9)) rfl (oc_180 6 (aq_6 shX11_bestShares_0) uw_0_54) ?_
      refine gf_RX11_267 S hK hP 17 xo_17 (v := .int (nI (cn 4))) rfl (oc_180 9 (aq_9 shX11_bestShares_0) uw_1_11) ?_
      have : (nI (cn 4)).toInt = (((cn 4) : Nat) : Int) := nI_toInt (by (first | omega | (have zz0 := Hid.u hb_cn; omega)))
      refine lv_icmp_ge (tgt := 28) hx hb (oc_162 12 (aq_12 shX11_bestShares_0) sgw_0_16) rfl (fun c_1 => ?_) (fun c_1 => ?_)
      ·
        have tc_1 : ((nI (cn 4)).toInt : Int) ≤ (nI i4).toInt := Int32.le_iff_toInt_le.mp c_1
        have e9a : i4 = cn 4 := by (first | omega | (have zz0 := Hid.u hb_cn; omega))
        have hw4 : w4 = cn 1 ^ cn 4 := by rw [← e9a]; exact hx4_0.1
        have hw3 : w4 ≤ 729 := Nat.le_trans hx4_0.2 (show 3 ^ i4 ≤ 3 ^ 6 from Nat.pow_le_pow_right (by (first | omega | (have zz0 := Hid.u hb_cn; omega))) (by (first | omega | (have zz0 := Hid.u hb_cn; omega))))
        refine lv_iconst (v := (-1)) hx hb (oc_2 28 (aq_3 shX11_bestShares_25)) kic_m1 ?_
        refine lv_istore_n (lv' := [(3, .int (-1)), (2, .int (nI w4)), (0, .ref (g 0)), (1, .int (nI d0))]) hx hb (oc_62 29 (aq_4 shX11_bestShares_25)) rfl hl (ltb rfl) rfl (fun ls hl => ?_)
        refine lv_iconst (v := 0) hx hb (oc_3 30 (aq_5 shX11_bestShares_25)) kic_0 ?_
        refine lv_istore (lv' := [(4, .int 0), (3, .int (-1)), (2, .int (nI w4)), (0, .ref (g 0)), (1, .int (nI d0))]) hx hb (oc_54 31 (aq_6 shX11_bestShares_25) ub_4) hl (ltb rfl) rfl (fun ls hl => ?_)
        refine lv_iconst (v := 0) hx hb (oc_3 33 (aq_8 shX11_bestShares_25)) kic_0 ?_
        refine lv_istore (lv' := [(5, .int 0), (4, .int 0), (3, .int (-1)), (2, .int (nI w4)), (0, .ref (g 0)), (1, .int (nI d0))]) hx hb (oc_54 34 (aq_9 shX11_bestShares_25) ub_5) hl (ltb rfl) rfl (fun ls hl => ?_)
        have lp_36 : ∀ (n : Nat) (i36 : Nat) (x36_3 : Int32) (x36_4 : Int32) , w4 - i36 < n → (i36 ≤ w4 ∧ (BSP (fun (t : Nat) (z : Int32) => VSH (cn 1) (cn 4) (Fn 31) (fun j => ¬ Fn 28 (j * 400 + d0) = 0) (Fn 27) (fun S y => y = Fn 35 S) (DG (cn 1) (cn 4) t) z) i36 x36_3 x36_4)) → ∀ ls : Array Slot, lv_has ls 7 [(5, .int (nI i36)), (4, .int x36_4), (3, .int x36_3), (2, .int (nI w4)), (0, .ref (g 0)), (1, .int (nI d0))] → W p l e (RM 3 0 0) s m ([.ref (g 0), .int (nI d0)]).toArray below meth c s.heap [] 0 0 (MQ below (vp_Si (fun r => ∃ y : Int32, BSP (fun (t : Nat) (z : Int32) => VSH (cn 1) (cn 4) (Fn 31) (fun j => ¬ Fn 28 (j * 400 + d0) = 0) (Fn 27) (fun S y => y = Fn 35 S) (DG (cn 1) (cn 4) t) z) (cn 1 ^ cn 4) r y)) ([.ref (g 0), .int (nI d0)]).toArray s 0 0 (fun _ => False)) (F0 m 36 ls []) := by
          intro n36
          induction n36 with
          | zero => intros; (first | omega | (have zz0 := Hid.u hb_cn; omega))
          | succ n36 ih36 =>
            intro i36 x36_3 x36_4 hmu36 hinv36 ls hl
            obtain ⟨hr36, hx36_0⟩ := hinv36
            have ti36 : (nI i36).toInt = (i36 : Int) := nI_toInt (by (first | omega | (have zz0 := Hid.u hb_cn; omega)))
            refine lv_iload hx hb (oc_21 36 (aq_11 shX11_bestShares_25) ub_5) (lvA0 hl) ?_
            refine lv_iload_n hx hb (oc_28 38 (aq_13 shX11_bestShares_25)) rfl (lvA3 hl) ?_
            have : (nI w4).toInt = ((w4 : Nat) : Int) := nI_toInt (by (first | omega | (have zz0 := Hid.u hb_cn; omega)))
            refine lv_icmp_ge (tgt := 82) hx hb (oc_162 39 (aq_14 shX11_bestShares_25) sgw_0_43) rfl (fun c_2 => ?_) (fun c_2 => ?_)
            ·
              have tc_2 : ((nI w4).toInt : Int) ≤ (nI i36).toInt := Int32.le_iff_toInt_le.mp c_2
              refine lv_iload_n hx hb (oc_29 82 (aq_8 shX11_bestShares_74)) rfl (lvA2 hl) ?_
              exact W.iret (v := x36_3) hx hb hr (fun t ht hW => ⟨x36_3, rfl, (by have e9 : i36 = w4 := (by (first | omega | (have zz0 := Hid.u hb_cn; omega))); rw [e9, hw4] at hx36_0; exact ⟨x36_4, hx36_0⟩), ht⟩) (fun _ h => absurd h List.not_mem_nil) (oc_172 83 (aq_9 shX11_bestShares_74))
            ·
              have tc_2 : ((nI i36).toInt : Int) < (nI w4).toInt := Int32.lt_iff_toInt_lt.mp (Int32.not_le.mp c_2)
              refine lv_aload_n hx hb (oc_42 42 (aq_17 shX11_bestShares_25)) rfl (lvA4 hl) ?_
              refine lv_iload hx hb (oc_21 43 (aq_18 shX11_bestShares_25) ub_5) (lvA0 hl) ?_
              refine lv_iload_n hx hb (oc_27 45 (aq_20 shX11_bestShares_25)) rfl (lvA5 hl) ?_
              refine vp_callSi (runV_rxa (As := [.int (nI i36), .int (nI d0)]) (rest := []) S (q_EsharedLength l D cI cB cZ zz qq vv bt g ad cn In Fn i36 d0 hB (by (first | omega | (have zz0 := Hid.u hb_cn; omega))) (by (first | omega | (have zz0 := Hid.u hb_cn; omega))) (by (first | omega | (have zz0 := Hid.u hb_cn; omega)))) kV_RX11_327 hK hXS hS hP 0 xo_0 rfl rfl ⟨Nat.le_of_ble_eq_true rfl, Nat.le_of_ble_eq_true rfl⟩ ⟨Nat.le_of_ble_eq_true rfl, Nat.le_of_ble_eq_true rfl⟩ rfl hl.1 rfl (Nat.le_of_ble_eq_true rfl) (oc_182 46 (aq_21 shX11_bestShares_25) uw_1_71)) (fun r_3 h_4 => ?_)
              refine lv_istore (lv' := [(6, .int r_3), (5, .int (nI i36)), (4, .int x36_4), (3, .int x36_3), (2, .int (nI w4)), (0, .ref (g 0)), (1, .int (nI d0))]) hx hb (oc_54 49 shX11_bestShares_49 ub_6) hl (ltb rfl) rfl (fun ls hl => ?_)
              refine lv_iload hx hb (oc_21 51 (aq_2 shX11_bestShares_49) ub_6) (lvA0 hl) ?_
              refine lv_iconst (v := (-1)) hx hb (oc_2 53 (aq_4 shX11_bestShares_49)) kic_m1 ?_
              refine lv_icmp_eq (tgt := 76) hx hb (oc_159 54 (aq_5 shX11_bestShares_49) sgw_0_22) rfl (fun c_5 => ?_) (fun c_5 => ?_)
              ·
                have tc_5 : (r_3.toInt : Int) = (-1) := congrArg Int32.toInt c_5
                refine lv_iinc (v := (nI (i36 + 1))) (lv' := [(5, .int (nI (i36 + 1))), (6, .int r_3), (4, .int x36_4), (3, .int x36_3), (2, .int (nI w4)), (0, .ref (g 0)), (1, .int (nI d0))]) hx hb dX11_bestShares_76 hl (k := 1) rfl (nI_1 _) (ltb rfl) rfl (fun ls hl => ?_)
                refine lv_goto (tgt := 36) hx hb dX11_bestShares_79 rfl ?_
                exact ih36 (i36 + 1) x36_3 x36_4 (by (first | omega | (have zz0 := Hid.u hb_cn; omega))) ⟨(by (first | omega | (have zz0 := Hid.u hb_cn; omega))), (BSP.ke hx36_0 h_4 (Or.inl (by first | assumption | exact Int32.toInt_inj.mp (by assumption))))⟩ ls (lv_sub hl [0, 2, 3, 4, 5, 6] rfl)
              ·
                have tc_5 : (r_3.toInt : Int) ≠ (-1) := fun q => c_5 (Int32.toInt_inj.mp q)
                refine lv_iload_n hx hb (oc_29 57 (aq_8 shX11_bestShares_49)) rfl (lvA3 hl) ?_
                refine lv_iconst (v := (-1)) hx hb (oc_2 58 (aq_9 shX11_bestShares_49)) kic_m1 ?_
                refine lv_icmp_eq (tgt := 69) hx hb (oc_159 59 (aq_10 shX11_bestShares_49) sgw_0_10) rfl (fun c_6 => ?_) (fun c_6 => ?_)
                ·
                  have tc_6 : (x36_3.toInt : Int) = (-1) := congrArg Int32.toInt c_6
                  refine lv_iload hx hb dX11_bestShares_69 (lvA1 hl) ?_
                  refine lv_istore_n (lv' := [(3, .int (nI i36)), (6, .int r_3), (5, .int (nI i36)), (4, .int x36_4), (2, .int (nI w4)), (0, .ref (g 0)), (1, .int (nI d0))]) hx hb dX11_bestShares_71 rfl hl (ltb rfl) rfl (fun ls hl => ?_)
                  refine lv_iload hx hb dX11_bestShares_72 (lvA1 hl) ?_
                  refine lv_istore (lv' := [(4, .int r_3), (3, .int (nI i36)), (6, .int r_3), (5, .int (nI i36)), (2, .int (nI w4)), (0, .ref (g 0)), (1, .int (nI d0))]) hx hb dX11_bestShares_74 hl (ltb rfl) rfl (fun ls hl => ?_)
                  refine lv_iinc (v := (nI (i36 + 1))) (lv' := [(5, .int (nI (i36 + 1))), (4, .int r_3), (3, .int (nI i36)), (6, .int r_3), (2, .int (nI w4)), (0, .ref (g 0)), (1, .int (nI d0))]) hx hb dX11_bestShares_76 hl (k := 3) rfl (nI_1 _) (ltb rfl) rfl (fun ls hl => ?_)
                  refine lv_goto (tgt := 36) hx hb dX11_bestShares_79 rfl ?_
                  exact ih36 (i36 + 1) (nI i36) r_3 (by (first | omega | (have zz0 := Hid.u hb_cn; omega))) ⟨(by (first | omega | (have zz0 := Hid.u hb_cn; omega))), (BSP.nw hx36_0 (by (first | omega | (have zz0 := Hid.u hb_cn; omega))) h_4 (by first | assumption | exact fun q => absurd (congrArg Int32.toInt q) (by assumption)) (Or.inl (by first | assumption | exact Int32.toInt_inj.mp (by assumption))))⟩ ls (lv_sub hl [0, 1, 2, 4, 5, 6] rfl)
                ·
                  have tc_6 : (x36_3.toInt : Int) ≠ (-1) := fun q => c_6 (Int32.toInt_inj.mp q)
                  refine lv_iload hx hb (oc_21 62 (aq_13 shX11_bestShares_49) ub_6) (lvA0 hl) ?_
                  refine lv_iload hx hb (oc_21 64 (aq_15 shX11_bestShares_49) ub_4) (lvA2 hl) ?_
                  refine lv_icmp_ge (tgt := 76) hx hb (oc_162 66 (aq_17 shX11_bestShares_49) sgw_0_10) rfl (fun c_7 => ?_) (fun c_7 => ?_)
                  ·
                    have tc_7 : (x36_4.toInt : Int) ≤ r_3.toInt := Int32.le_iff_toInt_le.mp c_7
                    refine lv_iinc (v := (nI (i36 + 1))) (lv' := [(5, .int (nI (i36 + 1))), (6, .int r_3), (4, .int x36_4), (3, .int x36_3), (2, .int (nI w4)), (0, .ref (g 0)), (1, .int (nI d0))]) hx hb dX11_bestShares_76 hl (k := 1) rfl (nI_1 _) (ltb rfl) rfl (fun ls hl => ?_)
                    refine lv_goto (tgt := 36) hx hb dX11_bestShares_79 rfl ?_
                    exact ih36 (i36 + 1) x36_3 x36_4 (by (first | omega | (have zz0 := Hid.u hb_cn; omega))) ⟨(by (first | omega | (have zz0 := Hid.u hb_cn; omega))), (BSP.ke hx36_0 h_4 (Or.inr ⟨(by first | assumption | exact fun q => absurd (congrArg Int32.toInt q) (by assumption)), by (first | omega | (have zz0 := Hid.u hb_cn; omega))⟩))⟩ ls (lv_sub hl [0, 2, 3, 4, 5, 6] rfl)
                  ·
                    have tc_7 : (r_3.toInt : Int) < x36_4.toInt := Int32.lt_iff_toInt_lt.mp (Int32.not_le.mp c_7)
                    refine lv_iload hx hb dX11_bestShares_69 (lvA1 hl) ?_
                    refine lv_istore_n (lv' := [(3, .int (nI i36)), (6, .int r_3), (5, .int (nI i36)), (4, .int x36_4), (2, .int (nI w4)), (0, .ref (g 0)), (1, .int (nI d0))]) hx hb dX11_bestShares_71 rfl hl (ltb rfl) rfl (fun ls hl => ?_)
                    refine lv_iload hx hb dX11_bestShares_72 (lvA1 hl) ?_
                    refine lv_istore (lv' := [(4, .int r_3), (3, .int (nI i36)), (6, .int r_3), (5, .int (nI i36)), (2, .int (nI w4)), (0, .ref (g 0)), (1, .int (nI d0))]) hx hb dX11_bestShares_74 hl (ltb rfl) rfl (fun ls hl => ?_)
                    refine lv_iinc (v := (nI (i36 + 1))) (lv' := [(5, .int (nI (i36 + 1))), (4, .int r_3), (3, .int (nI i36)), (6, .int r_3), (2, .int (nI w4)), (0, .ref (g 0)), (1, .int (nI d0))]) hx hb dX11_bestShares_76 hl (k := 3) rfl (nI_1 _) (ltb rfl) rfl (fun ls hl => ?_)
                    refine lv_goto (tgt := 36) hx hb dX11_bestShares_79 rfl ?_
                    exact ih36 (i36 + 1) (nI i36) r_3 (by (first | omega | (have zz0 := Hid.u hb_cn; omega))) ⟨(by (first | omega | (have zz0 := Hid.u hb_cn; omega))), (BSP.nw hx36_0 (by (first | omega | (have zz0 := Hid.u hb_cn; omega))) h_4 (by first | assumption | exact fun q => absurd (congrArg Int32.toInt q) (by assumption)) (Or.inr (by (first | omega | (have zz0 := Hid.u hb_cn; omega)))))⟩ ls (lv_sub hl [0, 1, 2, 4, 5, 6] rfl)
        exact lp_36 _ 0 (-1) 0 (Nat.lt_succ_self _) ⟨(by (first | omega | (have zz0 := Hid.u hb_cn; omega))), BSP.e0⟩ ls (lv_sub hl [0, 1, 2, 3, 4, 5] rfl)
      ·
        have tc_1 : ((nI i4).toInt : Int) < (nI (cn 4)).toInt := Int32.lt_iff_toInt_lt.mp (Int32.not_le.mp c_1)
        refine lv_iload_n hx hb (oc_28 15 (aq_15 shX11_bestShares_0)) rfl (lvA1 hl) ?_
        refine lv_aload_n hx hb (oc_42 16 (aq_16 shX11_bestShares_0)) rfl (lvA2 hl) ?_
        refine gf_RX11_311 S hK hP 0 xo_0 (v := .int (nI (cn 1))) rfl (oc_180 17 (aq_17 shX11_bestShares_0) uw_1_55) ?_
        refine lv_imul hx hb (oc_104 20 (aq_20 shX11_bestShares_0)) ?_
        refine lv_topi (fun y_8 ey_8 => ?_)
        obtain rfl : y_8 = (nI (w4 * cn 1)) := ey_8.trans (pk_mul w4 (cn 1))
        refine lv_istore_n (lv' := [(2, .int (nI (w4 * cn 1))), (3, .int (nI i4)), (0, .ref (g 0)), (1, .int (nI d0))]) hx hb (oc_61 21 (aq_21 shX11_bestShares_0)) rfl hl (ltb rfl) rfl (fun ls hl => ?_)
        refine lv_iinc (v := (nI (i4 + 1))) (lv' := [(3, .int (nI (i4 + 1))), (2, .int (nI (w4 * cn 1))), (0, .ref (g 0)), (1, .int (nI d0))]) hx hb (oc_132 22 (aq_22 shX11_bestShares_0) ub_3 sgb_1) hl (k := 1) rfl (nI_1 _) (ltb rfl) rfl (fun ls hl => ?_)
        refine lv_goto (tgt := 4) hx hb (oc_167 25 shX11_bestShares_25 sgw_255_235) rfl ?_
        exact ih4 (i4 + 1) (w4 * cn 1) (by (first | omega | (have zz0 := Hid.u hb_cn; omega))) ⟨(by (first | omega | (have zz0 := Hid.u hb_cn; omega))), ⟨(by rw [Nat.pow_succ, ← hx4_0.1]), (w3m hx4_0.2 (by (first | omega | (have zz0 := Hid.u hb_cn; omega))))⟩⟩ ls (lv_sub hl [0, 1, 2, 3] rfl)
  exact lp_4 _ 0 1 (Nat.lt_succ_self _) ⟨(by (first | omega | (have zz0 := Hid.u hb_cn; omega))), ⟨rfl, Nat.le_refl _⟩⟩ ls (lv_sub hl [0, 1, 2, 3] rfl)
set_option maxRecDepth 100000 in
set_option maxHeartbeats 4000000 in
theorem q_ElorryOf (l : Launch) (D : va_G) (cI cB cZ : ClassId) (zz qq vv : Nat) (bt : Nat → Int32) (g : Nat → Nat) (ad : Nat → Nat → Nat) (cn : Nat → Nat) (In : Nat → Int32) (Fn : Nat → Nat → Int32) (s0 : Nat) (v1 : Int32) (l0 : List Nat) (hB : CBX cn) (h4 : cn 4 ≤ 6) (hs0 : s0 ≤ 2000) (hl : cn 4 = l0.length) (h30 : RWF (Fn 30) nI l0) (h1 : cn 4 = 0 ∨ 0 < cn 1) (hk0 : ∀ a : Nat, a < l0.length → l0.getD a 0 < 2 ^ 31) : Met l yX11_lorryOf (CWS yX11_lorryOf cX11_lorryOf 5 (some .int)) (RM 1 0 0) (PBrx [.ref (g 0), .int (nI s0), .int v1] D cI cB cZ zz qq vv bt (wX cI (D.1 99) zz g ad cn In Fn)) (vp_Si (fun r => (∃ i : Nat, i < cn 4 ∧ v1 = nI (l0.getD i 0) ∧ r = nI (DG (cn 1) (cn 4) s0 i)) ∨ ((∀ i : Nat, i < cn 4 → ¬ v1 = nI (l0.getD i 0)) ∧ r = -1))) 0 0 (fun _ => False) := by
  refine en_rx rfl pn_RX11 (Nat.le_of_ble_eq_true rfl) (fun p e s m below meth c hx hb hml hown S hr hlocks hnm hP hK hXS hS ls hl => ?_)
  have hl : lv_has ls 5 [(0, .ref (g 0)), (1, .int (nI s0)), (2, .int v1)] := hl
  have hb_cn : Hid (CBX cn) := hB
  replace hB : CBXh cn := hB
  refine lv_iload_n hx hb (oc_27 0 shX11_lorryOf_0) rfl (lvA1 hl) ?_
  refine lv_istore_n (lv' := [(3, .int (nI s0)), (0, .ref (g 0)), (1, .int (nI s0)), (2, .int v1)]) hx hb (oc_62 1 (aq_1 shX11_lorryOf_0)) rfl hl (ltb rfl) rfl (fun ls hl => ?_)
  refine lv_aload_n hx hb (oc_42 2 (aq_2 shX11_lorryOf_0)) rfl (lvA1 hl) ?_
  refine gf_RX11_54 S hK hP 0 xo_0 (v := .ref (g 9)) rfl (oc_180 3 (aq_3 shX11_lorryOf_0) uw_0_54) ?_
  refine gf_RX11_267 S hK hP 17 xo_17 (v := .int (nI (cn 4))) rfl (oc_180 6 (aq_6 shX11_lorryOf_0) uw_1_11) ?_
  refine lv_iconst (v := 1) hx hb (oc_4 9 (aq_9 shX11_lorryOf_0)) kic_1 ?_
  refine lv_isub hx hb (oc_100 10 (aq_10 shX11_lorryOf_0)) ?_
  refine lv_topi (fun y_1 ey_1 => ?_)
  obtain rfl : y_1 = (nI (cn 4) + (-1)) := ey_1.trans (Int32.sub_eq_add_neg ..)
  refine lv_istore (lv' := [(4, .int (nI (cn 4) + (-1))), (3, .int (nI s0)), (0, .ref (g 0)), (1, .int (nI s0)), (2, .int v1)]) hx hb (oc_54 11 (aq_11 shX11_lorryOf_0) ub_4) hl (ltb rfl) rfl (fun ls hl => ?_)
  have lp_13 : ∀ (n : Nat) (q13 : Nat) (k13 : Nat) , k13 < n → ((k13 ≤ cn 4 ∧ q13 = s0 / cn 1 ^ (cn 4 - k13) ∧ (∀ i : Nat, k13 ≤ i → i < cn 4 → ¬ v1 = nI (l0.getD i 0)) ∧ q13 ≤ s0)) → ∀ ls : Array Slot, lv_has ls 5 [(4, .int (nI k13 + (-1))), (3, .int (nI q13)), (0, .ref (g 0)), (1, .int (nI s0)), (2, .int v1)] → W p l e (RM 1 0 0) s m ([.ref (g 0), .int (nI s0), .int v1]).toArray below meth c s.heap [] 0 0 (MQ below (vp_Si (fun r => (∃ i : Nat, i < cn 4 ∧ v1 = nI (l0.getD i 0) ∧ r = nI (DG (cn 1) (cn 4) s0 i)) ∨ ((∀ i : Nat, i < cn 4 → ¬ v1 = nI (l0.getD i 0)) ∧ r = -1))) ([.ref (g 0), .int (nI s0), .int v1]).toArray s 0 0 (fun _ => False)) (F0 m 13 ls []) := by
    intro n13
    induction n13 with
    | zero => intros; (first | omega | (have zz0 := Hid.u hb_cn; omega))
    | succ n13 ih13 =>
      intro q13 k13 hmu13 hinv13 ls hl
      have hx13_0 := hinv13
      rcases k13 with _ | j13
      ·
        rw [show nI 0 + (-1) = (-1 : Int32) by decide] at hl
        have hl : lv_has ls 5 [(4, .int (-1)), (3, .int (nI q13)), (0, .ref (g 0)), (1, .int (nI s0)), (2, .int v1)] := hl
        refine lv_iload hx hb dX11_lorryOf_13 (lvA0 hl) ?_
        refine lv_if_lt (tgt := 61) hx hb dX11_lorryOf_15 rfl (fun _ => ?_) (fun h => absurd h cq_lt_m1_0)
        refine lv_iconst (v := (-1)) hx hb (oc_2 61 (aq_12 shX11_lorryOf_49)) kic_m1 ?_
        exact W.iret (v := (-1)) hx hb hr (fun t ht hW => ⟨(-1), rfl, (Or.inr ⟨fun i hi => hx13_0.2.2.1 i (Nat.zero_le i) hi, rfl⟩), ht⟩) (fun _ h => absurd h List.not_mem_nil) (oc_172 62 (aq_13 shX11_lorryOf_49))
      ·
        rw [nI_m1] at hl
        have hl : lv_has ls 5 [(4, .int (nI j13)), (3, .int (nI q13)), (0, .ref (g 0)), (1, .int (nI s0)), (2, .int v1)] := hl
        refine lv_iload hx hb dX11_lorryOf_13 (lvA0 hl) ?_
        have : (nI j13).toInt = ((j13 : Nat) : Int) := nI_toInt (by (first | omega | (have zz0 := Hid.u hb_cn; omega)))
        refine lv_if_lt (tgt := 61) hx hb dX11_lorryOf_15 rfl (fun c_2 => False.elim (by have tc_2 : ((nI j13).toInt : Int) < 0 := Int32.lt_iff_toInt_lt.mp c_2; (first | omega | (have zz0 := Hid.u hb_cn; omega)))) (fun c_2 => ?_)
        have tc_2 : (0 : Int) ≤ (nI j13).toInt := Int32.le_iff_toInt_le.mp (Int32.not_lt.mp c_2)
        refine lv_aload_n hx hb (oc_42 18 (aq_18 shX11_lorryOf_0)) rfl (lvA2 hl) ?_
        refine gf_RX11_311 S hK hP 0 xo_0 (v := .int (nI (cn 1))) rfl (oc_180 19 (aq_19 shX11_lorryOf_0) uw_1_55) ?_
        have : (nI (cn 1)).toInt = (((cn 1) : Nat) : Int) := nI_toInt (by (first | omega | (have zz0 := Hid.u hb_cn; omega)))
        refine lv_if_le (tgt := 61) hx hb (oc_158 22 (aq_22 shX11_lorryOf_0) sgw_0_39) rfl (fun c_3 => ?_) (fun c_3 => ?_)
        ·
          have tc_3 : ((nI (cn 1)).toInt : Int) ≤ 0 := Int32.le_iff_toInt_le.mp c_3
          exfalso; (first | omega | (have zz0 := Hid.u hb_cn; omega))
        ·
          have tc_3 : (0 : Int) < (nI (cn 1)).toInt := Int32.lt_iff_toInt_lt.mp (Int32.not_le.mp c_3)
          refine lv_aload_n hx hb (oc_42 25 shX11_lorryOf_25) rfl (lvA2 hl) ?_
          refine gf_RX11_54 S hK hP 0 xo_0 (v := .ref (g 9)) rfl (oc_180 26 (aq_1 shX11_lorryOf_25) uw_0_54) ?_
          refine gf_RX11_306 S hK hP 17 xo_17 (v := .ref (g 30)) rfl (oc_180 29 (aq_4 shX11_lorryOf_25) uw_1_50) ?_
          refine lv_iload hx hb (oc_21 32 (aq_7 shX11_lorryOf_25) ub_4) (lvA0 hl) ?_
          refine vp_callSi (runS_r (As := [.ref (g 30), .int (nI j13)]) (rest := []) S (q_l_at l D cI cB cZ (g 30) 8 (Fn 30) (nI j13) (by (first | omega | (have zz0 := Hid.u hb_cn; omega)))) kS_RX11_192 hK hP [18] (one_is xo_18) ⟨Nat.le_of_ble_eq_true rfl, Nat.le_of_ble_eq_true rfl⟩ ⟨Nat.le_of_ble_eq_true rfl, Nat.le_of_ble_eq_true rfl⟩ rfl hl.1 rfl (Nat.le_of_ble_eq_true rfl) (oc_184 34 (aq_9 shX11_lorryOf_25) uw_0_192)) (fun r_4 h_5 => ?_)
          have hg9 := hk0 j13 (by (first | omega | (have zz0 := Hid.u hb_cn; omega)))
          obtain rfl : r_4 = (nI (l0.getD j13 0)) := h_5.trans ((atM_n (by (first | omega | (have zz0 := Hid.u hb_cn; omega))) (by decide)).trans (h30.at (by (first | omega | (have zz0 := Hid.u hb_cn; omega)))))
          refine lv_iload_n hx hb (oc_28 37 (aq_12 shX11_lorryOf_25)) rfl (lvA4 hl) ?_
          have : (nI (l0.getD j13 0)).toInt = (((l0.getD j13 0) : Nat) : Int) := nI_toInt (by (first | omega | (have zz0 := Hid.u hb_cn; omega)))
          refine lv_icmp_ne (tgt := 48) hx hb (oc_160 38 (aq_13 shX11_lorryOf_25) sgw_0_10) rfl (fun c_6 => ?_) (fun c_6 => ?_)
          ·
            have tc_6 : ((nI (l0.getD j13 0)).toInt : Int) ≠ v1.toInt := fun q => c_6 (Int32.toInt_inj.mp q)
            refine lv_iload_n hx hb (oc_29 48 (aq_23 shX11_lorryOf_25)) rfl (lvA1 hl) ?_
            refine lv_aload_n hx hb (oc_42 49 shX11_lorryOf_49) rfl (lvA2 hl) ?_
            refine gf_RX11_311 S hK hP 0 xo_0 (v := .int (nI (cn 1))) rfl (oc_180 50 (aq_1 shX11_lorryOf_49) uw_1_55) ?_
            refine lv_idiv hx hb (oc_108 53 (aq_4 shX11_lorryOf_49)) (nI_nz (by (first | omega | (have zz0 := Hid.u hb_cn; omega))) (by (first | omega | (have zz0 := Hid.u hb_cn; omega)))) ?_
            refine lv_topi (fun y_7 ey_7 => ?_)
            obtain rfl : y_7 = (nI (q13 / cn 1)) := ey_7.trans (nI_div (by (first | omega | (have zz0 := Hid.u hb_cn; omega))) (by (first | omega | (have zz0 := Hid.u hb_cn; omega))))
            refine lv_istore_n (lv' := [(3, .int (nI (q13 / cn 1))), (4, .int (nI j13)), (0, .ref (g 0)), (1, .int (nI s0)), (2, .int v1)]) hx hb (oc_62 54 (aq_5 shX11_lorryOf_49)) rfl hl (ltb rfl) rfl (fun ls hl => ?_)
            refine lv_iinc (v := ((nI j13) + (-1))) (lv' := [(4, .int ((nI j13) + (-1))), (3, .int (nI (q13 / cn 1))), (0, .ref (g 0)), (1, .int (nI s0)), (2, .int v1)]) hx hb (oc_132 55 (aq_6 shX11_lorryOf_49) ub_4 sgb_255) hl (k := 1) rfl rfl (ltb rfl) rfl (fun ls hl => ?_)
            refine lv_goto (tgt := 13) hx hb (oc_167 58 (aq_9 shX11_lorryOf_49) sgw_255_211) rfl ?_
            exact ih13 (q13 / cn 1) j13 (by (first | omega | (have zz0 := Hid.u hb_cn; omega))) ⟨(by (first | omega | (have zz0 := Hid.u hb_cn; omega))), (DGq hx13_0.2.1 (by (first | omega | (have zz0 := Hid.u hb_cn; omega)))), (fun i h1 h2 => if q9 : i = j13 then (by rw [q9]; exact fun w9 => (show ¬ nI (l0.getD j13 0) = v1 from (by first | assumption | exact fun q => absurd (congrArg Int32.toInt q) (by assumption))) w9.symm) else hx13_0.2.2.1 i (by (first | omega | (have zz0 := Hid.u hb_cn; omega))) h2), Nat.le_trans (Nat.div_le_self _ _) hx13_0.2.2.2⟩ ls (lv_sub hl [0, 1, 2, 3, 4] rfl)
          ·
            have tc_6 : ((nI (l0.getD j13 0)).toInt : Int) = v1.toInt := congrArg Int32.toInt c_6
            have hm13 : q13 % cn 1 < cn 1 := Nat.mod_lt _ (by (first | omega | (have zz0 := Hid.u hb_cn; omega)))
            refine lv_iload_n hx hb (oc_29 41 (aq_16 shX11_lorryOf_25)) rfl (lvA1 hl) ?_
            refine lv_aload_n hx hb (oc_42 42 (aq_17 shX11_lorryOf_25)) rfl (lvA2 hl) ?_
            refine gf_RX11_311 S hK hP 0 xo_0 (v := .int (nI (cn 1))) rfl (oc_180 43 (aq_18 shX11_lorryOf_25) uw_1_55) ?_
            refine lv_irem hx hb (oc_112 46 (aq_21 shX11_lorryOf_25)) (nI_nz (by (first | omega | (have zz0 := Hid.u hb_cn; omega))) (by (first | omega | (have zz0 := Hid.u hb_cn; omega)))) ?_
            refine lv_topi (fun y_8 ey_8 => ?_)
            obtain rfl : y_8 = (nI (q13 % cn 1)) := ey_8.trans (nI_rem (by (first | omega | (have zz0 := Hid.u hb_cn; omega))) (by (first | omega | (have zz0 := Hid.u hb_cn; omega))))
            exact W.iret (v := (nI (q13 % cn 1))) hx hb hr (fun t ht hW => ⟨(nI (q13 % cn 1)), rfl, (Or.inl ⟨j13, by (first | omega | (have zz0 := Hid.u hb_cn; omega)), (show nI (l0.getD j13 0) = v1 from (by first | assumption | exact Int32.toInt_inj.mp (by assumption))).symm, congrArg nI (DGd hx13_0.2.1)⟩), ht⟩) (fun _ h => absurd h List.not_mem_nil) (oc_172 47 (aq_22 shX11_lorryOf_25))
  exact lp_13 _ s0 (cn 4) (Nat.lt_succ_self _) ⟨Nat.le_refl _, (by rw [Nat.sub_self, Nat.pow_zero, Nat.div_one]), (fun i h1 h2 => by (first | omega | (have zz0 := Hid.u hb_cn; omega))), Nat.le_refl _⟩ ls (lv_sub hl [0, 1, 2, 3, 4] rfl)
set_option maxRecDepth 100000 in
set_option maxHeartbeats 4000000 in
theorem q_Eshared (l : Launch) (D : va_G) (cI cB cZ : ClassId) (zz qq vv : Nat) (bt : Nat → Int32) (g : Nat → Nat) (ad : Nat → Nat → Nat) (cn : Nat → Nat) (In : Nat → Int32) (Fn : Nat → Nat → Int32) (v0 v1 v2 : Int32) (sz : Nat) (hB : CBX cn) (hxy : ∀ k : Nat, k < cn 10 → XYB (Fn 100 k) (Fn 101 k)) : Met l yX11_shared (CWS yX11_shared cX11_shared 6 (some .int)) (RM 7 0 0) (PBx [.ref (g 0), .int v0, .int v1, .int v2] D cI cB cZ zz qq vv bt (wX cI (D.1 99) zz g ad cn In Fn) sz) (va_Qi (fun (r : Int32) (u : (Nat → Nat) × (Nat → Int32) × (Nat → Nat → Int32)) => (fun r c2 I2 F2 => Fr [4] [] [30, 31, 32, 33, 34, 35, 105] cn In Fn c2 I2 F2 ∧ CBX c2 ∧ ((¬ ((0 ≤ v0.toInt ∧ v0.toInt ≤ 399) ∧ (1 ≤ v1.toInt ∧ v1.toInt ≤ 400) ∧ (v2.toInt = -1 ∨ (0 ≤ v2.toInt ∧ v2.toInt < (cn 10 : Int)))) ∧ r = -1) ∨ (((0 ≤ v0.toInt ∧ v0.toInt ≤ 399) ∧ (1 ≤ v1.toInt ∧ v1.toInt ≤ 400) ∧ (v2.toInt = -1 ∨ (0 ≤ v2.toInt ∧ v2.toInt < (cn 10 : Int)))) ∧ (∃ k : Nat, k < cn 10 ∧ v0.toInt < (Fn 104 k).toInt) ∧ r = -2) ∨ (((0 ≤ v0.toInt ∧ v0.toInt ≤ 399) ∧ (1 ≤ v1.toInt ∧ v1.toInt ≤ 400) ∧ (v2.toInt = -1 ∨ (0 ≤ v2.toInt ∧ v2.toInt < (cn 10 : Int)))) ∧ (∀ k : Nat, k < cn 10 → (Fn 104 k).toInt ≤ v0.toInt) ∧ ((∃ l : List Nat, AL (fun k9 => v1.toInt ≤ ((if (Fn 102 k9 * (v0 - (Fn 104) k9)) < Fn 103 k9 then Fn 102 k9 * (v0 - (Fn 104) k9) else Fn 103 k9)).toInt) (cn 10) l ∧ 6 < l.length ∧ r = -2) ∨ ∃ (l : List Nat) (T : Nat → Int32) (b y : Int32), AL (fun k9 => v1.toInt ≤ ((if (Fn 102 k9 * (v0 - (Fn 104) k9)) < Fn 103 k9 then Fn 102 k9 * (v0 - (Fn 104) k9) else Fn 103 k9)).toInt) (cn 10) l ∧ l.length ≤ 6 ∧ TBL (fun a b => wyX (Fn 100 (l.getD a 0)) (Fn 101 (l.getD a 0)) (Fn 100 (l.getD b 0)) (Fn 101 (l.getD b 0))) (fun a => Fn 100 (l.getD a 0) + Fn 101 (l.getD a 0)) l.length T (2 ^ l.length) ∧ BSP (fun (t : Nat) (z : Int32) => VSH (cn 1) l.length (fun i => (if (Fn 102 (l.getD i 0) * (v0 - (Fn 104) (l.getD i 0))) < Fn 103 (l.getD i 0) then Fn 102 (l.getD i 0) * (v0 - (Fn 104) (l.getD i 0)) else Fn 103 (l.getD i 0))) (fun j => ¬ Fn 28 (j * 400 + v0.toInt.toNat) = 0) (Fn 27) (RND (fun a => Fn 100 (l.getD a 0) + Fn 101 (l.getD a 0)) l.length T) (DG (cn 1) l.length t) z) (cn 1 ^ l.length) b y ∧ SHG (cn 1) (DG (cn 1) l.length) l v2 r b y)))) r u.1 u.2.1 u.2.2) (fun (u : (Nat → Nat) × (Nat → Int32) × (Nat → Nat → Int32)) (t : State) => va_P D vwCl (wX cI (D.1 99) zz g ad u.1 u.2.1 u.2.2) t.heap ∧ va_D (va_A (wX cI (D.1 99) zz g ad cn In Fn) sz) (wX cI (D.1 99) zz g ad u.1 u.2.1 u.2.2)) (va_A (wX cI (D.1 99) zz g ad cn In Fn) sz)) 0 0 (va_A (wX cI (D.1 99) zz g ad cn In Fn) sz) := by
  refine en_x (fun A => (va_Qi (fun (r : Int32) (u : (Nat → Nat) × (Nat → Int32) × (Nat → Nat → Int32)) => (fun (r : Int32) (c2 : Nat → Nat) (I2 : Nat → Int32) (F2 : Nat → Nat → Int32) => Fr [4] [] [30, 31, 32, 33, 34, 35, 105] cn In Fn c2 I2 F2 ∧ CBX c2 ∧ ((¬ ((0 ≤ v0.toInt ∧ v0.toInt ≤ 399) ∧ (1 ≤ v1.toInt ∧ v1.toInt ≤ 400) ∧ (v2.toInt = -1 ∨ (0 ≤ v2.toInt ∧ v2.toInt < (cn 10 : Int)))) ∧ r = -1) ∨ (((0 ≤ v0.toInt ∧ v0.toInt ≤ 399) ∧ (1 ≤ v1.toInt ∧ v1.toInt ≤ 400) ∧ (v2.toInt = -1 ∨ (0 ≤ v2.toInt ∧ v2.toInt < (cn 10 : Int)))) ∧ (∃ k : Nat, k < cn 10 ∧ v0.toInt < (Fn 104 k).toInt) ∧ r = -2) ∨ (((0 ≤ v0.toInt ∧ v0.toInt ≤ 399) ∧ (1 ≤ v1.toInt ∧ v1.toInt ≤ 400) ∧ (v2.toInt = -1 ∨ (0 ≤ v2.toInt ∧ v2.toInt < (cn 10 : Int)))) ∧ (∀ k : Nat, k < cn 10 → (Fn 104 k).toInt ≤ v0.toInt) ∧ ((∃ l : List Nat, AL (fun k9 => v1.toInt ≤ ((if (Fn 102 k9 * (v0 - (Fn 104) k9)) < Fn 103 k9 then Fn 102 k9 * (v0 - (Fn 104) k9) else Fn 103 k9)).toInt) (cn 10) l ∧ 6 < l.length ∧ r = -2) ∨ ∃ (l : List Nat) (T : Nat → Int32) (b y : Int32), AL (fun k9 => v1.toInt ≤ ((if (Fn 102 k9 * (v0 - (Fn 104) k9)) < Fn 103 k9 then Fn 102 k9 * (v0 - (Fn 104) k9) else Fn 103 k9)).toInt) (cn 10) l ∧ l.length ≤ 6 ∧ TBL (fun a b => wyX (Fn 100 (l.getD a 0)) (Fn 101 (l.getD a 0)) (Fn 100 (l.getD b 0)) (Fn 101 (l.getD b 0))) (fun a => Fn 100 (l.getD a 0) + Fn 101 (l.getD a 0)) l.length T (2 ^ l.length) ∧ BSP (fun (t : Nat) (z : Int32) => VSH (cn 1) l.length (fun i => (if (Fn 102 (l.getD i 0) * (v0 - (Fn 104) (l.getD i 0))) < Fn 103 (l.getD i 0) then Fn 102 (l.getD i 0) * (v0 - (Fn 104) (l.getD i 0)) else Fn 103 (l.getD i 0))) (fun j => ¬ Fn 28 (j * 400 + v0.toInt.toNat) = 0) (Fn 27) (RND (fun a => Fn 100 (l.getD a 0) + Fn 101 (l.getD a 0)) l.length T) (DG (cn 1) l.length t) z) (cn 1 ^ l.length) b y ∧ SHG (cn 1) (DG (cn 1) l.length) l v2 r b y)))) r u.1 u.2.1 u.2.2) (fun (u : (Nat → Nat) × (Nat → Int32) × (Nat → Nat → Int32)) (t : State) => va_P D vwCl (wX cI (D.1 99) zz g ad u.1 u.2.1 u.2.2) t.heap ∧ va_D A (wX cI (D.1 99) zz g ad u.1 u.2.1 u.2.2)) A)) rfl rfl pn_RX11 (Nat.le_of_ble_eq_true rfl) (fun p e s m below meth c A hx hb hml hown S hr hlocks hnm hA hP hK hD hXS hS ls hl => ?_)
  have hl : lv_has ls 6 [(0, .ref (g 0)), (1, .int v0), (2, .int v1), (3, .int v2)] := hl
  have hb_cn : Hid (CBX cn) := hB
  replace hB : CBXh cn := hB
  refine lv_iload_n hx hb (oc_29 0 shX11_shared_0) rfl (lvA3 hl) ?_
  refine lv_iconst (v := (-1)) hx hb (oc_2 1 (aq_1 shX11_shared_0)) kic_m1 ?_
  refine lv_icmp_eq (tgt := 13) hx hb (oc_159 2 (aq_2 shX11_shared_0) sgw_0_11) rfl (fun c_1 => ?_) (fun c_1 => ?_)
  ·
    have tc_1 : (v2.toInt : Int) = (-1) := congrArg Int32.toInt c_1
    refine lv_iconst (v := 1) hx hb dX11_shared_13 kic_1 ?_
    refine lv_goto (tgt := 18) hx hb dX11_shared_14 rfl ?_
    refine lv_istore (lv' := [(4, .int 1), (0, .ref (g 0)), (1, .int v0), (2, .int v1), (3, .int v2)]) hx hb dX11_shared_18 hl (ltb rfl) rfl (fun ls hl => ?_)
    refine lv_iload_n hx hb dX11_shared_20 rfl (lvA2 hl) ?_
    refine vp_callSi (runS_r (As := [.int v0]) (rest := []) S (q_l_isDay l D cI cB cZ v0) kS_RX11_99 hK hP [] rfl ⟨Nat.le_of_ble_eq_true rfl, Nat.le_of_ble_eq_true rfl⟩ ⟨Nat.le_of_ble_eq_true rfl, Nat.le_of_ble_eq_true rfl⟩ rfl hl.1 rfl (Nat.le_of_ble_eq_true rfl) dX11_shared_21) (fun r_2 h_3 => ?_)
    rcases h_3 with ⟨rfl, h_3⟩ | ⟨rfl, h_3⟩
    ·
      have h_3 : 0 ≤ v0.toInt ∧ v0.toInt ≤ 399 := h_3
      refine lv_if_eq (tgt := 43) hx hb dX11_shared_24 rfl (fun h => absurd h cq_eq_1_0) (fun _ => ?_)
      obtain ⟨d0, hd0, rfl⟩ := nI_of (x := v0) (fun q => by have := Int32.lt_iff_toInt_lt.mp q; have e : (0 : Int32).toInt = 0 := rfl; (first | exact hC9 | exact hc6 | exact hl6 | omega | (have zz0 := Hid.u hb_cn; omega)))
      have td0 : (nI d0).toInt = (d0 : Int) := nI_toInt hd0
      have zd0 : (nI d0).toInt.toNat = d0 := by (first | exact hC9 | exact hc6 | exact hl6 | omega | (have zz0 := Hid.u hb_cn; omega))
      refine lv_iload_n hx hb dX11_shared_27 rfl (lvA3 hl) ?_
      refine lv_iconst (v := 1) hx hb dX11_shared_28 kic_1 ?_
      refine lv_sipush (v := 400) hx hb dX11_shared_29 (by decide) ?_
      refine vp_callSi (runS_r (As := [.int v1, .int 1, .int 400]) (rest := []) S (q_l_within l D cI cB cZ v1 1 400) kS_RX11_80 hK hP [] rfl ⟨Nat.le_of_ble_eq_true rfl, Nat.le_of_ble_eq_true rfl⟩ ⟨Nat.le_of_ble_eq_true rfl, Nat.le_of_ble_eq_true rfl⟩ rfl hl.1 rfl (Nat.le_of_ble_eq_true rfl) dX11_shared_32) (fun r_4 h_5 => ?_)
      rcases h_5 with ⟨rfl, h_5⟩ | ⟨rfl, h_5⟩
      ·
        have h_5 : 1 ≤ v1.toInt ∧ v1.toInt ≤ 400 := h_5
        refine lv_if_eq (tgt := 43) hx hb dX11_shared_35 rfl (fun h => absurd h cq_eq_1_0) (fun _ => ?_)
        refine lv_iload hx hb dX11_shared_38 (lvA0 hl) ?_
        refine lv_if_ne (tgt := 45) hx hb dX11_shared_40 rfl (fun _ => ?_) (fun h => absurd h cq_eq_1_0)
        have hC9 : (0 ≤ (nI d0).toInt ∧ (nI d0).toInt ≤ 399) ∧ (1 ≤ v1.toInt ∧ v1.toInt ≤ 400) ∧ (v2.toInt = -1 ∨ (0 ≤ v2.toInt ∧ v2.toInt < (cn 10 : Int))) := by (first | exact hC9 | exact hc6 | exact hl6 | omega | (have zz0 := Hid.u hb_cn; omega))
        refine lv_aload_n hx hb dX11_shared_45 rfl (lvA1 hl) ?_
        refine lv_iload_n hx hb dX11_shared_46 rfl (lvA2 hl) ?_
        have hFc := free_all hD hS hA
        refine va_calli (runV_xa (As := [.int (nI d0)]) (rest := []) S (q_EstartTrial l D cI cB cZ zz qq vv bt g ad cn In Fn (nI d0) s.heap.size hB) kV_RX11_276 hK hXS hS hFc hP hD 0 xo_0 rfl rfl ⟨Nat.le_of_ble_eq_true rfl, Nat.le_of_ble_eq_true rfl⟩ ⟨Nat.le_of_ble_eq_true rfl, Nat.le_of_ble_eq_true rfl⟩ rfl hl.1 rfl (Nat.le_of_ble_eq_true rfl) dX11_shared_47) hS (fun q _ h => hFc q h) hFc (fun r_6 u t H1 locs ht hvm wh_7 hB1 hz1 hk1 hS => ?_)
        obtain ⟨cn7, In7, Fn7⟩ := u
        obtain ⟨hP1, hD1⟩ := hB1
        rw [ht] at hP1
        have hP : va_P D vwCl (wX cI (D.1 99) zz g ad cn7 In7 Fn7) H1 := hP1
        have hD : va_D A (wX cI (D.1 99) zz g ad cn7 In7 Fn7) := hD1.weaken (fun _ _ _ h => hFc _ h)
        generalize H1 = H at hP hS ⊢
        have vh_7 : (fun r c2 I2 F2 => Fr [] [] [105] cn In Fn c2 I2 F2 ∧ CBX c2 ∧ ((∀ k : Nat, k < (cn 10) → F2 105 k = (Fn 104) k) ∧ ((r = 1 ∧ ∀ k : Nat, k < (cn 10) → ((Fn 104) k).toInt ≤ (nI d0).toInt) ∨ (r = 0 ∧ ∃ k : Nat, k < (cn 10) ∧ (nI d0).toInt < ((Fn 104) k).toInt)))) r_6 cn7 In7 Fn7 := wh_7
        obtain ⟨hfc7, hIn7, h_7⟩ := vh_7
        obtain rfl : cn = cn7 := (funext (fun k => hfc7.1 k List.not_mem_nil)).symm
        obtain rfl : In = In7 := (funext (fun k => hfc7.2.1 k List.not_mem_nil)).symm
        have hf7 : Fr [4] [] [30, 31, 32, 33, 34, 35, 105] cn In Fn cn In Fn7 := Fr.mo (Fr.tr (Fr.rf (cn := cn) (In := In) (Fn := Fn)) hfc7) (sbl rfl) (sbl rfl) (sbl rfl)
        replace hIn7 : CBXh cn := hIn7
        have hst9 := Hid.i h_7
        clear h_7
        refine lv_if_eq (tgt := 64) hx hb dX11_shared_50 rfl (fun c_8 => ?_) (fun c_8 => ?_)
        ·
          have tc_8 : (r_6.toInt : Int) = 0 := congrArg Int32.toInt c_8
          refine lv_bipush (v := (-2)) hx hb dX11_shared_64 kbc_m2 ?_
          exact W.iret (v := (-2)) hx hb hr (fun t ht hW => ⟨⟨(-2), (cn, In, Fn7), rfl, ⟨(Fr.mo hf7 (sbl rfl) (sbl rfl) (sbl rfl)), hIn7, (by show (¬ ((0 ≤ (nI d0).toInt ∧ (nI d0).toInt ≤ 399) ∧ (1 ≤ v1.toInt ∧ v1.toInt ≤ 400) ∧ (v2.toInt = -1 ∨ (0 ≤ v2.toInt ∧ v2.toInt < (cn 10 : Int)))) ∧ (-2) = -1) ∨ (((0 ≤ (nI d0).toInt ∧ (nI d0).toInt ≤ 399) ∧ (1 ≤ v1.toInt ∧ v1.toInt ≤ 400) ∧ (v2.toInt = -1 ∨ (0 ≤ v2.toInt ∧ v2.toInt < (cn 10 : Int)))) ∧ (∃ k : Nat, k < cn 10 ∧ (nI d0).toInt < (Fn 104 k).toInt) ∧ (-2) = -2) ∨ (((0 ≤ (nI d0).toInt ∧ (nI d0).toInt ≤ 399) ∧ (1 ≤ v1.toInt ∧ v1.toInt ≤ 400) ∧ (v2.toInt = -1 ∨ (0 ≤ v2.toInt ∧ v2.toInt < (cn 10 : Int)))) ∧ (∀ k : Nat, k < cn 10 → (Fn 104 k).toInt ≤ (nI d0).toInt) ∧ ((∃ l : List Nat, AL (fun k9 => v1.toInt ≤ ((if (Fn 102 k9 * ((nI d0) - (Fn 104) k9)) < Fn 103 k9 then Fn 102 k9 * ((nI d0) - (Fn 104) k9) else Fn 103 k9)).toInt) (cn 10) l ∧ 6 < l.length ∧ (-2) = -2) ∨ ∃ (l : List Nat) (T : Nat → Int32) (b y : Int32), AL (fun k9 => v1.toInt ≤ ((if (Fn 102 k9 * ((nI d0) - (Fn 104) k9)) < Fn 103 k9 then Fn 102 k9 * ((nI d0) - (Fn 104) k9) else Fn 103 k9)).toInt) (cn 10) l ∧ l.length ≤ 6 ∧ TBL (fun a b => wyX (Fn 100 (l.getD a 0)) (Fn 101 (l.getD a 0)) (Fn 100 (l.getD b 0)) (Fn 101 (l.getD b 0))) (fun a => Fn 100 (l.getD a 0) + Fn 101 (l.getD a 0)) l.length T (2 ^ l.length) ∧ BSP (fun (t : Nat) (z : Int32) => VSH (cn 1) l.length (fun i => (if (Fn 102 (l.getD i 0) * ((nI d0) - (Fn 104) (l.getD i 0))) < Fn 103 (l.getD i 0) then Fn 102 (l.getD i 0) * ((nI d0) - (Fn 104) (l.getD i 0)) else Fn 103 (l.getD i 0))) (fun j => ¬ Fn 28 (j * 400 + (nI d0).toInt.toNat) = 0) (Fn 27) (RND (fun a => Fn 100 (l.getD a 0) + Fn 101 (l.getD a 0)) l.length T) (DG (cn 1) l.length t) z) (cn 1 ^ l.length) b y ∧ SHG (cn 1) (DG (cn 1) l.length) l v2 (-2) b y)); exact (Or.inr (Or.inl ⟨hC9, (Hid.u hst9).2.elim (fun w => absurd (show (1 : Int32) = 0 from w.1.symm.trans (by first | assumption | exact Int32.toInt_inj.mp (by assumption))) (by decide)) (fun w => w.2), rfl⟩)))⟩, by rw [ht]; exact hP, hD⟩, hS.F ht⟩) hS.2.2 dX11_shared_66
        ·
          have tc_8 : (r_6.toInt : Int) ≠ 0 := fun q => c_8 (Int32.toInt_inj.mp q)
          have e100 : Fn7 100 = Fn 100 := hfc7.2.2 100 (nml rfl)
          have e101 : Fn7 101 = Fn 101 := hfc7.2.2 101 (nml rfl)
          have e102 : Fn7 102 = Fn 102 := hfc7.2.2 102 (nml rfl)
          have e103 : Fn7 103 = Fn 103 := hfc7.2.2 103 (nml rfl)
          have e104 : Fn7 104 = Fn 104 := hfc7.2.2 104 (nml rfl)
          have e27 : Fn7 27 = Fn 27 := hfc7.2.2 27 (nml rfl)
          have e28 : Fn7 28 = Fn 28 := hfc7.2.2 28 (nml rfl)
          refine lv_aload_n hx hb dX11_shared_53 rfl (lvA1 hl) ?_
          refine lv_iload_n hx hb dX11_shared_54 rfl (lvA2 hl) ?_
          refine lv_iload_n hx hb dX11_shared_55 rfl (lvA3 hl) ?_
          refine lv_bipush (v := 6) hx hb dX11_shared_56 kbc_6 ?_
          have hFc := free_all hD hS hA
          refine va_calli (runV_xa (As := [.int (nI d0), .int v1, .int 6]) (rest := []) S (q_EgatherStops l D cI cB cZ zz qq vv bt g ad cn In Fn7 (nI d0) v1 6 H.size hIn7 (by decide) (fun k hk => by rw [e100, e101]; exact hxy k (by (first | exact hC9 | exact hc6 | exact hl6 | omega | (have zz0 := Hid.u hb_cn; omega))))) kV_RX11_279 hK hXS hS hFc hP hD 0 xo_0 rfl rfl ⟨Nat.le_of_ble_eq_true rfl, Nat.le_of_ble_eq_true rfl⟩ ⟨Nat.le_of_ble_eq_true rfl, Nat.le_of_ble_eq_true rfl⟩ rfl hl.1 rfl (Nat.le_of_ble_eq_true rfl) dX11_shared_58) hS (fun q _ h => hFc q h) hFc (fun r_9 u t H1 locs ht hvm wh_10 hB1 hz1 hk1 hS => ?_)
          obtain ⟨cn10, In10, Fn10⟩ := u
          obtain ⟨hP1, hD1⟩ := hB1
          rw [ht] at hP1
          have hP : va_P D vwCl (wX cI (D.1 99) zz g ad cn10 In10 Fn10) H1 := hP1
          have hD : va_D A (wX cI (D.1 99) zz g ad cn10 In10 Fn10) := hD1.weaken (fun _ _ _ h => hFc _ h)
          generalize H1 = H at hP hS ⊢
          have vh_10 : (fun r c2 I2 F2 => Fr [4] [] [30, 31, 32, 33, 34, 35] cn In Fn7 c2 I2 F2 ∧ CBX c2 ∧ ((r = 0 ∧ ∃ l : List Nat, AL (fun k9 => v1.toInt ≤ ((if ((Fn7 102) k9 * ((nI d0) - ((Fn7 105)) k9)) < (Fn7 103) k9 then (Fn7 102) k9 * ((nI d0) - ((Fn7 105)) k9) else (Fn7 103) k9)).toInt) ((cn 10)) l ∧ Int32.toInt 6 < (l.length : Int)) ∨ (r = 1 ∧ ∃ l : List Nat, AL (fun k9 => v1.toInt ≤ ((if ((Fn7 102) k9 * ((nI d0) - ((Fn7 105)) k9)) < (Fn7 103) k9 then (Fn7 102) k9 * ((nI d0) - ((Fn7 105)) k9) else (Fn7 103) k9)).toInt) ((cn 10)) l ∧ (l.length : Int) ≤ Int32.toInt 6 ∧ l.length ≤ 8 ∧ c2 4 = l.length ∧ RWF (F2 30) nI l ∧ RWF (F2 31) (fun k9 => (if ((Fn7 102) k9 * ((nI d0) - ((Fn7 105)) k9)) < (Fn7 103) k9 then (Fn7 102) k9 * ((nI d0) - ((Fn7 105)) k9) else (Fn7 103) k9)) l ∧ TBL (fun a b => wyX ((Fn7 100) (l.getD a 0)) ((Fn7 101) (l.getD a 0)) ((Fn7 100) (l.getD b 0)) ((Fn7 101) (l.getD b 0))) (fun a => (Fn7 100) (l.getD a 0) + (Fn7 101) (l.getD a 0)) l.length (F2 34) (2 ^ l.length) ∧ ∀ S : Nat, S < 2 ^ l.length → RND (fun a => (Fn7 100) (l.getD a 0) + (Fn7 101) (l.getD a 0)) l.length (F2 34) S (F2 35 S)))) r_9 cn10 In10 Fn10 := wh_10
          obtain ⟨hfc10, hIn10, h_10⟩ := vh_10
          obtain rfl : In = In10 := (funext (fun k => hfc10.2.1 k List.not_mem_nil)).symm
          have hf10 : Fr [4] [] [30, 31, 32, 33, 34, 35, 105] cn In Fn cn10 In Fn10 := Fr.mo (Fr.tr hf7 hfc10) (sbl rfl) (sbl rfl) (sbl rfl)
          have hb_cn10 : Hid (CBX cn10) := hIn10
          replace hIn10 : CBXh cn10 := hIn10
          have : cn10 6 = (cn 6) := hfc10.1 6 (nml rfl)
          have : cn10 31 = (cn 31) := hfc10.1 31 (nml rfl)
          have : cn10 32 = (cn 32) := hfc10.1 32 (nml rfl)
          have hq_cn10 : Hid (cn10 0 = (cn 0) ∧ cn10 1 = (cn 1) ∧ cn10 2 = (cn 2) ∧ cn10 3 = (cn 3) ∧ cn10 5 = (cn 5) ∧ cn10 10 = (cn 10) ∧ cn10 11 = (cn 11) ∧ cn10 12 = (cn 12) ∧ cn10 13 = (cn 13) ∧ cn10 14 = (cn 14) ∧ cn10 15 = (cn 15) ∧ cn10 20 = (cn 20) ∧ cn10 21 = (cn 21) ∧ cn10 22 = (cn 22) ∧ cn10 23 = (cn 23) ∧ cn10 24 = (cn 24) ∧ cn10 25 = (cn 25)) := Hid.i (p := cn10 0 = (cn 0) ∧ cn10 1 = (cn 1) ∧ cn10 2 = (cn 2) ∧ cn10 3 = (cn 3) ∧ cn10 5 = (cn 5) ∧ cn10 10 = (cn 10) ∧ cn10 11 = (cn 11) ∧ cn10 12 = (cn 12) ∧ cn10 13 = (cn 13) ∧ cn10 14 = (cn 14) ∧ cn10 15 = (cn 15) ∧ cn10 20 = (cn 20) ∧ cn10 21 = (cn 21) ∧ cn10 22 = (cn 22) ∧ cn10 23 = (cn 23) ∧ cn10 24 = (cn 24) ∧ cn10 25 = (cn 25)) ⟨hfc10.1 0 (nml rfl), hfc10.1 1 (nml rfl), hfc10.1 2 (nml rfl), hfc10.1 3 (nml rfl), hfc10.1 5 (nml rfl), hfc10.1 10 (nml rfl), hfc10.1 11 (nml rfl), hfc10.1 12 (nml rfl), hfc10.1 13 (nml rfl), hfc10.1 14 (nml rfl), hfc10.1 15 (nml rfl), hfc10.1 20 (nml rfl), hfc10.1 21 (nml rfl), hfc10.1 22 (nml rfl), hfc10.1 23 (nml rfl), hfc10.1 24 (nml rfl), hfc10.1 25 (nml rfl)⟩
          refine lv_if_ne (tgt := 67) hx hb dX11_shared_61 rfl (fun c_11 => ?_) (fun c_11 => ?_)
          ·
            have tc_11 : (r_9.toInt : Int) ≠ 0 := fun q => c_11 (Int32.toInt_inj.mp q)
            obtain ⟨l9, hal, hlv, hl8, hc4, r30, r31, htb, hrd⟩ := (h_10.resolve_left (fun w => (show ¬ r_9 = 0 from (by first | assumption | exact fun q => absurd (congrArg Int32.toInt q) (by assumption))) w.1)).2
            clear h_10
            have e6 : (6 : Int32).toInt = 6 := rfl
            rw [e100, e101] at htb hrd
            have hl6 : l9.length ≤ 6 := by (first | exact hC9 | exact hc6 | exact hl6 | omega | (have zz0 := Hid.u hb_cn; have zz1 := Hid.u hb_cn10; have zz2 := Hid.u hq_cn10; omega))
            have hc6 : cn10 4 ≤ 6 := by (first | exact hC9 | exact hc6 | exact hl6 | omega | (have zz0 := Hid.u hb_cn; have zz1 := Hid.u hb_cn10; have zz2 := Hid.u hq_cn10; omega))
            have hal9 := AL.cg _ _ (fun z hz => by show v1.toInt ≤ ((if (Fn7 102 z * ((nI d0) - (Fn7 105) z)) < Fn7 103 z then Fn7 102 z * ((nI d0) - (Fn7 105) z) else Fn7 103 z)).toInt ↔ v1.toInt ≤ ((if (Fn 102 z * ((nI d0) - (Fn 104) z)) < Fn 103 z then Fn 102 z * ((nI d0) - (Fn 104) z) else Fn 103 z)).toInt; rw [e102, e103, (Hid.u hst9).1 z hz]) hal
            have e1c : cn10 1 = cn 1 := hfc10.1 1 (nml rfl)
            have g27 : Fn10 27 = Fn 27 := (hfc10.2.2 27 (nml rfl)).trans e27
            have g28 : Fn10 28 = Fn 28 := (hfc10.2.2 28 (nml rfl)).trans e28
            refine lv_aload_n hx hb dX11_shared_67 rfl (lvA1 hl) ?_
            refine lv_iload_n hx hb dX11_shared_68 rfl (lvA2 hl) ?_
            refine vp_callSi (runV_rxa (As := [.int (nI d0)]) (rest := []) S (q_EbestShares l D cI cB cZ zz qq vv bt g ad cn10 In Fn10 d0 hIn10 (by (first | exact hC9 | exact hc6 | exact hl6 | omega | (have zz0 := Hid.u hb_cn; have zz1 := Hid.u hb_cn10; have zz2 := Hid.u hq_cn10; omega))) (by (first | exact hC9 | exact hc6 | exact hl6 | omega | (have zz0 := Hid.u hb_cn; have zz1 := Hid.u hb_cn10; have zz2 := Hid.u hq_cn10; omega)))) kV_RX11_324 hK hXS hS hP 0 xo_0 rfl rfl ⟨Nat.le_of_ble_eq_true rfl, Nat.le_of_ble_eq_true rfl⟩ ⟨Nat.le_of_ble_eq_true rfl, Nat.le_of_ble_eq_true rfl⟩ rfl hl.1 rfl (Nat.le_of_ble_eq_true rfl) dX11_shared_69) (fun r_12 h_13 => ?_)
            obtain ⟨y9, hb9⟩ := h_13
            rw [e1c] at hb9
            refine lv_istore (lv' := [(5, .int r_12), (4, .int 1), (0, .ref (g 0)), (1, .int (nI d0)), (2, .int v1), (3, .int v2)]) hx hb dX11_shared_72 hl (ltb rfl) rfl (fun ls hl => ?_)
            refine lv_iload hx hb dX11_shared_74 (lvA0 hl) ?_
            refine lv_iconst (v := (-1)) hx hb dX11_shared_76 kic_m1 ?_
            refine lv_icmp_ne (tgt := 83) hx hb dX11_shared_77 rfl (fun c_14 => ?_) (fun c_14 => ?_)
            ·
              have tc_14 : (r_12.toInt : Int) ≠ (-1) := fun q => c_14 (Int32.toInt_inj.mp q)
              obtain ⟨s9, hs1, rfl, hs3, hs4, hs5, hs6⟩ := hb9.resolve_left (fun w => (show ¬ r_12 = -1 from (by first | assumption | exact fun q => absurd (congrArg Int32.toInt q) (by assumption))) w.1)
              have hb9 : BSP (fun (t : Nat) (z : Int32) => VSH (cn 1) (cn10 4) (Fn10 31) (fun j => ¬ Fn10 28 (j * 400 + d0) = 0) (Fn10 27) (fun S y => y = Fn10 35 S) (DG (cn 1) (cn10 4) t) z) (cn 1 ^ cn10 4) (nI s9) y9 := Or.inr ⟨s9, hs1, rfl, hs3, hs4, hs5, hs6⟩
              have hp9 := pw0 hs1
              have hp8 : cn 1 ^ cn10 4 ≤ 3 ^ 6 := Nat.le_trans (Nat.pow_le_pow_left (by (first | exact hC9 | exact hc6 | exact hl6 | omega | (have zz0 := Hid.u hb_cn; have zz1 := Hid.u hb_cn10; have zz2 := Hid.u hq_cn10; omega))) _) (Nat.pow_le_pow_right (by decide) (by (first | exact hC9 | exact hc6 | exact hl6 | omega | (have zz0 := Hid.u hb_cn; have zz1 := Hid.u hb_cn10; have zz2 := Hid.u hq_cn10; omega))))
              have hp7 : s9 ≤ 2000 := by (first | exact hC9 | exact hc6 | exact hl6 | omega | (have zz0 := Hid.u hb_cn; have zz1 := Hid.u hb_cn10; have zz2 := Hid.u hq_cn10; omega))
              refine lv_iload_n hx hb dX11_shared_83 rfl (lvA5 hl) ?_
              refine lv_iconst (v := (-1)) hx hb dX11_shared_84 kic_m1 ?_
              refine lv_icmp_ne (tgt := 98) hx hb dX11_shared_85 rfl (fun c_15 => False.elim (by have tc_15 : (v2.toInt : Int) ≠ (-1) := fun q => c_15 (Int32.toInt_inj.mp q); (first | exact hC9 | exact hc6 | exact hl6 | omega | (have zz0 := Hid.u hb_cn; have zz1 := Hid.u hb_cn10; have zz2 := Hid.u hq_cn10; omega)))) (fun c_15 => ?_)
              have tc_15 : (v2.toInt : Int) = (-1) := congrArg Int32.toInt c_15
              refine lv_aload_n hx hb dX11_shared_88 rfl (lvA2 hl) ?_
              refine lv_iload hx hb dX11_shared_89 (lvA0 hl) ?_
              refine lv_iload_n hx hb dX11_shared_91 rfl (lvA3 hl) ?_
              refine vp_callSi (runV_rxa (As := [.int (nI s9), .int (nI d0)]) (rest := []) S (q_EsharedLength l D cI cB cZ zz qq vv bt g ad cn10 In Fn10 s9 d0 hIn10 (by (first | exact hC9 | exact hc6 | exact hl6 | omega | (have zz0 := Hid.u hb_cn; have zz1 := Hid.u hb_cn10; have zz2 := Hid.u hq_cn10; omega))) (by (first | exact hC9 | exact hc6 | exact hl6 | omega | (have zz0 := Hid.u hb_cn; have zz1 := Hid.u hb_cn10; have zz2 := Hid.u hq_cn10; omega))) (by (first | exact hC9 | exact hc6 | exact hl6 | omega | (have zz0 := Hid.u hb_cn; have zz1 := Hid.u hb_cn10; have zz2 := Hid.u hq_cn10; omega)))) kV_RX11_327 hK hXS hS hP 0 xo_0 rfl rfl ⟨Nat.le_of_ble_eq_true rfl, Nat.le_of_ble_eq_true rfl⟩ ⟨Nat.le_of_ble_eq_true rfl, Nat.le_of_ble_eq_true rfl⟩ rfl hl.1 rfl (Nat.le_of_ble_eq_true rfl) dX11_shared_92) (fun r_16 h_17 => ?_)
              rw [e1c] at h_17
              refine lv_goto (tgt := 105) hx hb dX11_shared_95 rfl ?_
              exact W.iret (v := r_16) hx hb hr (fun t ht hW => ⟨⟨r_16, (cn10, In, Fn10), rfl, ⟨(Fr.mo hf10 (sbl rfl) (sbl rfl) (sbl rfl)), hIn10, (by show (¬ ((0 ≤ (nI d0).toInt ∧ (nI d0).toInt ≤ 399) ∧ (1 ≤ v1.toInt ∧ v1.toInt ≤ 400) ∧ (v2.toInt = -1 ∨ (0 ≤ v2.toInt ∧ v2.toInt < (cn 10 : Int)))) ∧ r_16 = -1) ∨ (((0 ≤ (nI d0).toInt ∧ (nI d0).toInt ≤ 399) ∧ (1 ≤ v1.toInt ∧ v1.toInt ≤ 400) ∧ (v2.toInt = -1 ∨ (0 ≤ v2.toInt ∧ v2.toInt < (cn 10 : Int)))) ∧ (∃ k : Nat, k < cn 10 ∧ (nI d0).toInt < (Fn 104 k).toInt) ∧ r_16 = -2) ∨ (((0 ≤ (nI d0).toInt ∧ (nI d0).toInt ≤ 399) ∧ (1 ≤ v1.toInt ∧ v1.toInt ≤ 400) ∧ (v2.toInt = -1 ∨ (0 ≤ v2.toInt ∧ v2.toInt < (cn 10 : Int)))) ∧ (∀ k : Nat, k < cn 10 → (Fn 104 k).toInt ≤ (nI d0).toInt) ∧ ((∃ l : List Nat, AL (fun k9 => v1.toInt ≤ ((if (Fn 102 k9 * ((nI d0) - (Fn 104) k9)) < Fn 103 k9 then Fn 102 k9 * ((nI d0) - (Fn 104) k9) else Fn 103 k9)).toInt) (cn 10) l ∧ 6 < l.length ∧ r_16 = -2) ∨ ∃ (l : List Nat) (T : Nat → Int32) (b y : Int32), AL (fun k9 => v1.toInt ≤ ((if (Fn 102 k9 * ((nI d0) - (Fn 104) k9)) < Fn 103 k9 then Fn 102 k9 * ((nI d0) - (Fn 104) k9) else Fn 103 k9)).toInt) (cn 10) l ∧ l.length ≤ 6 ∧ TBL (fun a b => wyX (Fn 100 (l.getD a 0)) (Fn 101 (l.getD a 0)) (Fn 100 (l.getD b 0)) (Fn 101 (l.getD b 0))) (fun a => Fn 100 (l.getD a 0) + Fn 101 (l.getD a 0)) l.length T (2 ^ l.length) ∧ BSP (fun (t : Nat) (z : Int32) => VSH (cn 1) l.length (fun i => (if (Fn 102 (l.getD i 0) * ((nI d0) - (Fn 104) (l.getD i 0))) < Fn 103 (l.getD i 0) then Fn 102 (l.getD i 0) * ((nI d0) - (Fn 104) (l.getD i 0)) else Fn 103 (l.getD i 0))) (fun j => ¬ Fn 28 (j * 400 + (nI d0).toInt.toNat) = 0) (Fn 27) (RND (fun a => Fn 100 (l.getD a 0) + Fn 101 (l.getD a 0)) l.length T) (DG (cn 1) l.length t) z) (cn 1 ^ l.length) b y ∧ SHG (cn 1) (DG (cn 1) l.length) l v2 r_16 b y)); have hb8 := hb9; rw [hc4] at hb8; exact (Or.inr (Or.inr ⟨hC9, ((Hid.u hst9).2.elim (fun w => w.2) (fun w => absurd w.1 (show ¬ r_6 = 0 from (by first | assumption | exact fun q => absurd (congrArg Int32.toInt q) (by assumption))))), Or.inr ⟨l9, _, (nI s9), y9, hal9, hl6, htb, (by rw [zd0]; exact (BSP.mo (fun t z ht hz => VSH.cg (fun i hi => (r31.at hi).trans (by show (if (Fn7 102 (l9.getD i 0) * ((nI d0) - (Fn7 105) (l9.getD i 0))) < Fn7 103 (l9.getD i 0) then Fn7 102 (l9.getD i 0) * ((nI d0) - (Fn7 105) (l9.getD i 0)) else Fn7 103 (l9.getD i 0)) = (if (Fn 102 (l9.getD i 0) * ((nI d0) - (Fn 104) (l9.getD i 0))) < Fn 103 (l9.getD i 0) then Fn 102 (l9.getD i 0) * ((nI d0) - (Fn 104) (l9.getD i 0)) else Fn 103 (l9.getD i 0)); rw [e102, e103, (Hid.u hst9).1 _ (hal.ge hi).1])) (fun j hj => by rw [g28]) (fun j hj => by rw [g27]) (fun S x hS hx => by rw [show x = Fn10 35 S from hx]; exact hrd S hS) hz) hb8)), Or.inr (Or.inl ⟨(fun w9 => by have q9 := congrArg Int32.toInt w9; rw [nI_toInt (by (first | exact hC9 | exact hc6 | exact hl6 | omega | (have zz0 := Hid.u hb_cn; have zz1 := Hid.u hb_cn10; have zz2 := Hid.u hq_cn10; omega)))] at q9; have q8 : (-1 : Int32).toInt = -1 := rfl; (first | exact hC9 | exact hc6 | exact hl6 | omega | (have zz0 := Hid.u hb_cn; have zz1 := Hid.u hb_cn10; have zz2 := Hid.u hq_cn10; omega))), (by first | assumption | exact Int32.toInt_inj.mp (by assumption)), VSH.un (fun _ _ => rfl) (fun _ _ => rfl) (fun _ _ => Iff.rfl) (fun _ _ => rfl) (fun _ _ _ _ p9 q9 => p9.trans q9.symm) h_17 hs3⟩)⟩⟩)))⟩, by rw [ht]; exact hP, hD⟩, hS.F ht⟩) hS.2.2 dX11_shared_105
            ·
              have tc_14 : (r_12.toInt : Int) = (-1) := congrArg Int32.toInt c_14
              refine lv_bipush (v := (-2)) hx hb dX11_shared_80 kbc_m2 ?_
              exact W.iret (v := (-2)) hx hb hr (fun t ht hW => ⟨⟨(-2), (cn10, In, Fn10), rfl, ⟨(Fr.mo hf10 (sbl rfl) (sbl rfl) (sbl rfl)), hIn10, (by show (¬ ((0 ≤ (nI d0).toInt ∧ (nI d0).toInt ≤ 399) ∧ (1 ≤ v1.toInt ∧ v1.toInt ≤ 400) ∧ (v2.toInt = -1 ∨ (0 ≤ v2.toInt ∧ v2.toInt < (cn 10 : Int)))) ∧ (-2) = -1) ∨ (((0 ≤ (nI d0).toInt ∧ (nI d0).toInt ≤ 399) ∧ (1 ≤ v1.toInt ∧ v1.toInt ≤ 400) ∧ (v2.toInt = -1 ∨ (0 ≤ v2.toInt ∧ v2.toInt < (cn 10 : Int)))) ∧ (∃ k : Nat, k < cn 10 ∧ (nI d0).toInt < (Fn 104 k).toInt) ∧ (-2) = -2) ∨ (((0 ≤ (nI d0).toInt ∧ (nI d0).toInt ≤ 399) ∧ (1 ≤ v1.toInt ∧ v1.toInt ≤ 400) ∧ (v2.toInt = -1 ∨ (0 ≤ v2.toInt ∧ v2.toInt < (cn 10 : Int)))) ∧ (∀ k : Nat, k < cn 10 → (Fn 104 k).toInt ≤ (nI d0).toInt) ∧ ((∃ l : List Nat, AL (fun k9 => v1.toInt ≤ ((if (Fn 102 k9 * ((nI d0) - (Fn 104) k9)) < Fn 103 k9 then Fn 102 k9 * ((nI d0) - (Fn 104) k9) else Fn 103 k9)).toInt) (cn 10) l ∧ 6 < l.length ∧ (-2) = -2) ∨ ∃ (l : List Nat) (T : Nat → Int32) (b y : Int32), AL (fun k9 => v1.toInt ≤ ((if (Fn 102 k9 * ((nI d0) - (Fn 104) k9)) < Fn 103 k9 then Fn 102 k9 * ((nI d0) - (Fn 104) k9) else Fn 103 k9)).toInt) (cn 10) l ∧ l.length ≤ 6 ∧ TBL (fun a b => wyX (Fn 100 (l.getD a 0)) (Fn 101 (l.getD a 0)) (Fn 100 (l.getD b 0)) (Fn 101 (l.getD b 0))) (fun a => Fn 100 (l.getD a 0) + Fn 101 (l.getD a 0)) l.length T (2 ^ l.length) ∧ BSP (fun (t : Nat) (z : Int32) => VSH (cn 1) l.length (fun i => (if (Fn 102 (l.getD i 0) * ((nI d0) - (Fn 104) (l.getD i 0))) < Fn 103 (l.getD i 0) then Fn 102 (l.getD i 0) * ((nI d0) - (Fn 104) (l.getD i 0)) else Fn 103 (l.getD i 0))) (fun j => ¬ Fn 28 (j * 400 + (nI d0).toInt.toNat) = 0) (Fn 27) (RND (fun a => Fn 100 (l.getD a 0) + Fn 101 (l.getD a 0)) l.length T) (DG (cn 1) l.length t) z) (cn 1 ^ l.length) b y ∧ SHG (cn 1) (DG (cn 1) l.length) l v2 (-2) b y)); have hb8 := hb9; rw [hc4] at hb8; exact (Or.inr (Or.inr ⟨hC9, ((Hid.u hst9).2.elim (fun w => w.2) (fun w => absurd w.1 (show ¬ r_6 = 0 from (by first | assumption | exact fun q => absurd (congrArg Int32.toInt q) (by assumption))))), Or.inr ⟨l9, _, r_12, y9, hal9, hl6, htb, (by rw [zd0]; exact (BSP.mo (fun t z ht hz => VSH.cg (fun i hi => (r31.at hi).trans (by show (if (Fn7 102 (l9.getD i 0) * ((nI d0) - (Fn7 105) (l9.getD i 0))) < Fn7 103 (l9.getD i 0) then Fn7 102 (l9.getD i 0) * ((nI d0) - (Fn7 105) (l9.getD i 0)) else Fn7 103 (l9.getD i 0)) = (if (Fn 102 (l9.getD i 0) * ((nI d0) - (Fn 104) (l9.getD i 0))) < Fn 103 (l9.getD i 0) then Fn 102 (l9.getD i 0) * ((nI d0) - (Fn 104) (l9.getD i 0)) else Fn 103 (l9.getD i 0)); rw [e102, e103, (Hid.u hst9).1 _ (hal.ge hi).1])) (fun j hj => by rw [g28]) (fun j hj => by rw [g27]) (fun S x hS hx => by rw [show x = Fn10 35 S from hx]; exact hrd S hS) hz) hb8)), Or.inl ⟨(by first | assumption | exact Int32.toInt_inj.mp (by assumption)), rfl⟩⟩⟩)))⟩, by rw [ht]; exact hP, hD⟩, hS.F ht⟩) hS.2.2 dX11_shared_82
          ·
            have tc_11 : (r_9.toInt : Int) = 0 := congrArg Int32.toInt c_11
            refine lv_bipush (v := (-2)) hx hb dX11_shared_64 kbc_m2 ?_
            exact W.iret (v := (-2)) hx hb hr (fun t ht hW => ⟨⟨(-2), (cn10, In, Fn10), rfl, ⟨(Fr.mo hf10 (sbl rfl) (sbl rfl) (sbl rfl)), hIn10, (by show (¬ ((0 ≤ (nI d0).toInt ∧ (nI d0).toInt ≤ 399) ∧ (1 ≤ v1.toInt ∧ v1.toInt ≤ 400) ∧ (v2.toInt = -1 ∨ (0 ≤ v2.toInt ∧ v2.toInt < (cn 10 : Int)))) ∧ (-2) = -1) ∨ (((0 ≤ (nI d0).toInt ∧ (nI d0).toInt ≤ 399) ∧ (1 ≤ v1.toInt ∧ v1.toInt ≤ 400) ∧ (v2.toInt = -1 ∨ (0 ≤ v2.toInt ∧ v2.toInt < (cn 10 : Int)))) ∧ (∃ k : Nat, k < cn 10 ∧ (nI d0).toInt < (Fn 104 k).toInt) ∧ (-2) = -2) ∨ (((0 ≤ (nI d0).toInt ∧ (nI d0).toInt ≤ 399) ∧ (1 ≤ v1.toInt ∧ v1.toInt ≤ 400) ∧ (v2.toInt = -1 ∨ (0 ≤ v2.toInt ∧ v2.toInt < (cn 10 : Int)))) ∧ (∀ k : Nat, k < cn 10 → (Fn 104 k).toInt ≤ (nI d0).toInt) ∧ ((∃ l : List Nat, AL (fun k9 => v1.toInt ≤ ((if (Fn 102 k9 * ((nI d0) - (Fn 104) k9)) < Fn 103 k9 then Fn 102 k9 * ((nI d0) - (Fn 104) k9) else Fn 103 k9)).toInt) (cn 10) l ∧ 6 < l.length ∧ (-2) = -2) ∨ ∃ (l : List Nat) (T : Nat → Int32) (b y : Int32), AL (fun k9 => v1.toInt ≤ ((if (Fn 102 k9 * ((nI d0) - (Fn 104) k9)) < Fn 103 k9 then Fn 102 k9 * ((nI d0) - (Fn 104) k9) else Fn 103 k9)).toInt) (cn 10) l ∧ l.length ≤ 6 ∧ TBL (fun a b => wyX (Fn 100 (l.getD a 0)) (Fn 101 (l.getD a 0)) (Fn 100 (l.getD b 0)) (Fn 101 (l.getD b 0))) (fun a => Fn 100 (l.getD a 0) + Fn 101 (l.getD a 0)) l.length T (2 ^ l.length) ∧ BSP (fun (t : Nat) (z : Int32) => VSH (cn 1) l.length (fun i => (if (Fn 102 (l.getD i 0) * ((nI d0) - (Fn 104) (l.getD i 0))) < Fn 103 (l.getD i 0) then Fn 102 (l.getD i 0) * ((nI d0) - (Fn 104) (l.getD i 0)) else Fn 103 (l.getD i 0))) (fun j => ¬ Fn 28 (j * 400 + (nI d0).toInt.toNat) = 0) (Fn 27) (RND (fun a => Fn 100 (l.getD a 0) + Fn 101 (l.getD a 0)) l.length T) (DG (cn 1) l.length t) z) (cn 1 ^ l.length) b y ∧ SHG (cn 1) (DG (cn 1) l.length) l v2 (-2) b y)); obtain ⟨l9, hal, hlv⟩ := h_10.elim (fun w => w.2) (fun w => absurd (show (1 : Int32) = 0 from w.1.symm.trans (by first | assumption | exact Int32.toInt_inj.mp (by assumption))) (by decide)); have e6 : (6 : Int32).toInt = 6 := rfl; exact (Or.inr (Or.inr ⟨hC9, ((Hid.u hst9).2.elim (fun w => w.2) (fun w => absurd w.1 (show ¬ r_6 = 0 from (by first | assumption | exact fun q => absurd (congrArg Int32.toInt q) (by assumption))))), Or.inl ⟨l9, AL.cg _ _ (fun z hz => by show v1.toInt ≤ ((if (Fn7 102 z * ((nI d0) - (Fn7 105) z)) < Fn7 103 z then Fn7 102 z * ((nI d0) - (Fn7 105) z) else Fn7 103 z)).toInt ↔ v1.toInt ≤ ((if (Fn 102 z * ((nI d0) - (Fn 104) z)) < Fn 103 z then Fn 102 z * ((nI d0) - (Fn 104) z) else Fn 103 z)).toInt; rw [e102, e103, (Hid.u hst9).1 z hz]) hal, by (first | exact hC9 | exact hc6 | exact hl6 | omega | (have zz0 := Hid.u hb_cn; have zz1 := Hid.u hb_cn10; have zz2 := Hid.u hq_cn10; omega)), rfl⟩⟩)))⟩, by rw [ht]; exact hP, hD⟩, hS.F ht⟩) hS.2.2 dX11_shared_66
      ·
        have h_5 : ¬ (1 ≤ v1.toInt ∧ v1.toInt ≤ 400) := h_5
        refine lv_if_eq (tgt := 43) hx hb dX11_shared_35 rfl (fun _ => ?_) (fun h => absurd h cq_eq_0_0)
        refine lv_iconst (v := (-1)) hx hb dX11_shared_43 kic_m1 ?_
        exact W.iret (v := (-1)) hx hb hr (fun t ht hW => ⟨⟨(-1), (cn, In, Fn), rfl, ⟨(Fr.mo Fr.rf (sbl rfl) (sbl rfl) (sbl rfl)), hB, (by show (¬ ((0 ≤ (nI d0).toInt ∧ (nI d0).toInt ≤ 399) ∧ (1 ≤ v1.toInt ∧ v1.toInt ≤ 400) ∧ (v2.toInt = -1 ∨ (0 ≤ v2.toInt ∧ v2.toInt < (cn 10 : Int)))) ∧ (-1) = -1) ∨ (((0 ≤ (nI d0).toInt ∧ (nI d0).toInt ≤ 399) ∧ (1 ≤ v1.toInt ∧ v1.toInt ≤ 400) ∧ (v2.toInt = -1 ∨ (0 ≤ v2.toInt ∧ v2.toInt < (cn 10 : Int)))) ∧ (∃ k : Nat, k < cn 10 ∧ (nI d0).toInt < (Fn 104 k).toInt) ∧ (-1) = -2) ∨ (((0 ≤ (nI d0).toInt ∧ (nI d0).toInt ≤ 399) ∧ (1 ≤ v1.toInt ∧ v1.toInt ≤ 400) ∧ (v2.toInt = -1 ∨ (0 ≤ v2.toInt ∧ v2.toInt < (cn 10 : Int)))) ∧ (∀ k : Nat, k < cn 10 → (Fn 104 k).toInt ≤ (nI d0).toInt) ∧ ((∃ l : List Nat, AL (fun k9 => v1.toInt ≤ ((if (Fn 102 k9 * ((nI d0) - (Fn 104) k9)) < Fn 103 k9 then Fn 102 k9 * ((nI d0) - (Fn 104) k9) else Fn 103 k9)).toInt) (cn 10) l ∧ 6 < l.length ∧ (-1) = -2) ∨ ∃ (l : List Nat) (T : Nat → Int32) (b y : Int32), AL (fun k9 => v1.toInt ≤ ((if (Fn 102 k9 * ((nI d0) - (Fn 104) k9)) < Fn 103 k9 then Fn 102 k9 * ((nI d0) - (Fn 104) k9) else Fn 103 k9)).toInt) (cn 10) l ∧ l.length ≤ 6 ∧ TBL (fun a b => wyX (Fn 100 (l.getD a 0)) (Fn 101 (l.getD a 0)) (Fn 100 (l.getD b 0)) (Fn 101 (l.getD b 0))) (fun a => Fn 100 (l.getD a 0) + Fn 101 (l.getD a 0)) l.length T (2 ^ l.length) ∧ BSP (fun (t : Nat) (z : Int32) => VSH (cn 1) l.length (fun i => (if (Fn 102 (l.getD i 0) * ((nI d0) - (Fn 104) (l.getD i 0))) < Fn 103 (l.getD i 0) then Fn 102 (l.getD i 0) * ((nI d0) - (Fn 104) (l.getD i 0)) else Fn 103 (l.getD i 0))) (fun j => ¬ Fn 28 (j * 400 + (nI d0).toInt.toNat) = 0) (Fn 27) (RND (fun a => Fn 100 (l.getD a 0) + Fn 101 (l.getD a 0)) l.length T) (DG (cn 1) l.length t) z) (cn 1 ^ l.length) b y ∧ SHG (cn 1) (DG (cn 1) l.length) l v2 (-1) b y)); exact (Or.inl ⟨by (first | exact hC9 | exact hc6 | exact hl6 | omega | (have zz0 := Hid.u hb_cn; omega)), rfl⟩))⟩, by rw [ht]; exact hP, hD⟩, hS.F ht⟩) hS.2.2 dX11_shared_44
    ·
      have h_3 : ¬ (0 ≤ v0.toInt ∧ v0.toInt ≤ 399) := h_3
      refine lv_if_eq (tgt := 43) hx hb dX11_shared_24 rfl (fun _ => ?_) (fun h => absurd h cq_eq_0_0)
      refine lv_iconst (v := (-1)) hx hb dX11_shared_43 kic_m1 ?_
      exact W.iret (v := (-1)) hx hb hr (fun t ht hW => ⟨⟨(-1), (cn, In, Fn), rfl, ⟨(Fr.mo Fr.rf (sbl rfl) (sbl rfl) (sbl rfl)), hB, (by show (¬ ((0 ≤ v0.toInt ∧ v0.toInt ≤ 399) ∧ (1 ≤ v1.toInt ∧ v1.toInt ≤ 400) ∧ (v2.toInt = -1 ∨ (0 ≤ v2.toInt ∧ v2.toInt < (cn 10 : Int)))) ∧ (-1) = -1) ∨ (((0 ≤ v0.toInt ∧ v0.toInt ≤ 399) ∧ (1 ≤ v1.toInt ∧ v1.toInt ≤ 400) ∧ (v2.toInt = -1 ∨ (0 ≤ v2.toInt ∧ v2.toInt < (cn 10 : Int)))) ∧ (∃ k : Nat, k < cn 10 ∧ v0.toInt < (Fn 104 k).toInt) ∧ (-1) = -2) ∨ (((0 ≤ v0.toInt ∧ v0.toInt ≤ 399) ∧ (1 ≤ v1.toInt ∧ v1.toInt ≤ 400) ∧ (v2.toInt = -1 ∨ (0 ≤ v2.toInt ∧ v2.toInt < (cn 10 : Int)))) ∧ (∀ k : Nat, k < cn 10 → (Fn 104 k).toInt ≤ v0.toInt) ∧ ((∃ l : List Nat, AL (fun k9 => v1.toInt ≤ ((if (Fn 102 k9 * (v0 - (Fn 104) k9)) < Fn 103 k9 then Fn 102 k9 * (v0 - (Fn 104) k9) else Fn 103 k9)).toInt) (cn 10) l ∧ 6 < l.length ∧ (-1) = -2) ∨ ∃ (l : List Nat) (T : Nat → Int32) (b y : Int32), AL (fun k9 => v1.toInt ≤ ((if (Fn 102 k9 * (v0 - (Fn 104) k9)) < Fn 103 k9 then Fn 102 k9 * (v0 - (Fn 104) k9) else Fn 103 k9)).toInt) (cn 10) l ∧ l.length ≤ 6 ∧ TBL (fun a b => wyX (Fn 100 (l.getD a 0)) (Fn 101 (l.getD a 0)) (Fn 100 (l.getD b 0)) (Fn 101 (l.getD b 0))) (fun a => Fn 100 (l.getD a 0) + Fn 101 (l.getD a 0)) l.length T (2 ^ l.length) ∧ BSP (fun (t : Nat) (z : Int32) => VSH (cn 1) l.length (fun i => (if (Fn 102 (l.getD i 0) * (v0 - (Fn 104) (l.getD i 0))) < Fn 103 (l.getD i 0) then Fn 102 (l.getD i 0) * (v0 - (Fn 104) (l.getD i 0)) else Fn 103 (l.getD i 0))) (fun j => ¬ Fn 28 (j * 400 + v0.toInt.toNat) = 0) (Fn 27) (RND (fun a => Fn 100 (l.getD a 0) + Fn 101 (l.getD a 0)) l.length T) (DG (cn 1) l.length t) z) (cn 1 ^ l.length) b y ∧ SHG (cn 1) (DG (cn 1) l.length) l v2 (-1) b y)); exact (Or.inl ⟨by (first | exact hC9 | exact hc6 | exact hl6 | omega | (have zz0 := Hid.u hb_cn; omega)), rfl⟩))⟩, by rw [ht]; exact hP, hD⟩, hS.F ht⟩) hS.2.2 dX11_shared_44
  ·
    have tc_1 : (v2.toInt : Int) ≠ (-1) := fun q => c_1 (Int32.toInt_inj.mp q)
    refine lv_aload_n hx hb (oc_42 5 (aq_5 shX11_shared_0)) rfl (lvA0 hl) ?_
    refine lv_iload_n hx hb (oc_29 6 (aq_6 shX11_shared_0)) rfl (lvA3 hl) ?_
    refine va_csq (runV_rxa (As := [.int v2]) (rest := []) S (q_XkitchenAt l D cI cB cZ zz qq vv bt g ad cn In Fn v2 hB) kV_RX11_114 hK hXS hS hP 0 xo_0 rfl rfl ⟨Nat.le_of_ble_eq_true rfl, Nat.le_of_ble_eq_true rfl⟩ ⟨Nat.le_of_ble_eq_true rfl, Nat.le_of_ble_eq_true rfl⟩ rfl hl.1 rfl (Nat.le_of_ble_eq_true rfl) (oc_182 7 (aq_7 shX11_shared_0) uw_0_114)) (fun r_18 h_19 => ?_)
    rcases h_19 with ⟨mr_18, er_18, hr_18, rfl⟩ | ⟨hr_18, rfl⟩
    ·
      refine lv_ifnull hx hb dX11_shared_10 ?_
      refine lv_iconst (v := 1) hx hb dX11_shared_13 kic_1 ?_
      refine lv_goto (tgt := 18) hx hb dX11_shared_14 rfl ?_
      refine lv_istore (lv' := [(4, .int 1), (0, .ref (g 0)), (1, .int v0), (2, .int v1), (3, .int v2)]) hx hb dX11_shared_18 hl (ltb rfl) rfl (fun ls hl => ?_)
      refine lv_iload_n hx hb dX11_shared_20 rfl (lvA2 hl) ?_
      refine vp_callSi (runS_r (As := [.int v0]) (rest := []) S (q_l_isDay l D cI cB cZ v0) kS_RX11_99 hK hP [] rfl ⟨Nat.le_of_ble_eq_true rfl, Nat.le_of_ble_eq_true rfl⟩ ⟨Nat.le_of_ble_eq_true rfl, Nat.le_of_ble_eq_true rfl⟩ rfl hl.1 rfl (Nat.le_of_ble_eq_true rfl) dX11_shared_21) (fun r_20 h_21 => ?_)
      rcases h_21 with ⟨rfl, h_21⟩ | ⟨rfl, h_21⟩
      ·
        have h_21 : 0 ≤ v0.toInt ∧ v0.toInt ≤ 399 := h_21
        refine lv_if_eq (tgt := 43) hx hb dX11_shared_24 rfl (fun h => absurd h cq_eq_1_0) (fun _ => ?_)
        obtain ⟨d0, hd0, rfl⟩ := nI_of (x := v0) (fun q => by have := Int32.lt_iff_toInt_lt.mp q; have e : (0 : Int32).toInt = 0 := rfl; (first | exact hC9 | exact hc6 | exact hl6 | omega | (have zz0 := Hid.u hb_cn; omega)))
        have td0 : (nI d0).toInt = (d0 : Int) := nI_toInt hd0
        have zd0 : (nI d0).toInt.toNat = d0 := by (first | exact hC9 | exact hc6 | exact hl6 | omega | (have zz0 := Hid.u hb_cn; omega))
        refine lv_iload_n hx hb dX11_shared_27 rfl (lvA3 hl) ?_
        refine lv_iconst (v := 1) hx hb dX11_shared_28 kic_1 ?_
        refine lv_sipush (v := 400) hx hb dX11_shared_29 (by decide) ?_
        refine vp_callSi (runS_r (As := [.int v1, .int 1, .int 400]) (rest := []) S (q_l_within l D cI cB cZ v1 1 400) kS_RX11_80 hK hP [] rfl ⟨Nat.le_of_ble_eq_true rfl, Nat.le_of_ble_eq_true rfl⟩ ⟨Nat.le_of_ble_eq_true rfl, Nat.le_of_ble_eq_true rfl⟩ rfl hl.1 rfl (Nat.le_of_ble_eq_true rfl) dX11_shared_32) (fun r_22 h_23 => ?_)
        rcases h_23 with ⟨rfl, h_23⟩ | ⟨rfl, h_23⟩
        ·
          have h_23 : 1 ≤ v1.toInt ∧ v1.toInt ≤ 400 := h_23
          refine lv_if_eq (tgt := 43) hx hb dX11_shared_35 rfl (fun h => absurd h cq_eq_1_0) (fun _ => ?_)
          refine lv_iload hx hb dX11_shared_38 (lvA0 hl) ?_
          refine lv_if_ne (tgt := 45) hx hb dX11_shared_40 rfl (fun _ => ?_) (fun h => absurd h cq_eq_1_0)
          have hC9 : (0 ≤ (nI d0).toInt ∧ (nI d0).toInt ≤ 399) ∧ (1 ≤ v1.toInt ∧ v1.toInt ≤ 400) ∧ (v2.toInt = -1 ∨ (0 ≤ v2.toInt ∧ v2.toInt < (cn 10 : Int))) := by (first | exact hC9 | exact hc6 | exact hl6 | omega | (have zz0 := Hid.u hb_cn; omega))
          refine lv_aload_n hx hb dX11_shared_45 rfl (lvA1 hl) ?_
          refine lv_iload_n hx hb dX11_shared_46 rfl (lvA2 hl) ?_
          have hFc := free_all hD hS hA
          refine va_calli (runV_xa (As := [.int (nI d0)]) (rest := []) S (q_EstartTrial l D cI cB cZ zz qq vv bt g ad cn In Fn (nI d0) s.heap.size hB) kV_RX11_276 hK hXS hS hFc hP hD 0 xo_0 rfl rfl ⟨Nat.le_of_ble_eq_true rfl, Nat.le_of_ble_eq_true rfl⟩ ⟨Nat.le_of_ble_eq_true rfl, Nat.le_of_ble_eq_true rfl⟩ rfl hl.1 rfl (Nat.le_of_ble_eq_true rfl) dX11_shared_47) hS (fun q _ h => hFc q h) hFc (fun r_24 u t H1 locs ht hvm wh_25 hB1 hz1 hk1 hS => ?_)
          obtain ⟨cn25, In25, Fn25⟩ := u
          obtain ⟨hP1, hD1⟩ := hB1
          rw [ht] at hP1
          have hP : va_P D vwCl (wX cI (D.1 99) zz g ad cn25 In25 Fn25) H1 := hP1
          have hD : va_D A (wX cI (D.1 99) zz g ad cn25 In25 Fn25) := hD1.weaken (fun _ _ _ h => hFc _ h)
          generalize H1 = H at hP hS ⊢
          have vh_25 : (fun r c2 I2 F2 => Fr [] [] [105] cn In Fn c2 I2 F2 ∧ CBX c2 ∧ ((∀ k : Nat, k < (cn 10) → F2 105 k = (Fn 104) k) ∧ ((r = 1 ∧ ∀ k : Nat, k < (cn 10) → ((Fn 104) k).toInt ≤ (nI d0).toInt) ∨ (r = 0 ∧ ∃ k : Nat, k < (cn 10) ∧ (nI d0).toInt < ((Fn 104) k).toInt)))) r_24 cn25 In25 Fn25 := wh_25
          obtain ⟨hfc25, hIn25, h_25⟩ := vh_25
          obtain rfl : cn = cn25 := (funext (fun k => hfc25.1 k List.not_mem_nil)).symm
          obtain rfl : In = In25 := (funext (fun k => hfc25.2.1 k List.not_mem_nil)).symm
          have hf25 : Fr [4] [] [30, 31, 32, 33, 34, 35, 105] cn In Fn cn In Fn25 := Fr.mo (Fr.tr (Fr.rf (cn := cn) (In := In) (Fn := Fn)) hfc25) (sbl rfl) (sbl rfl) (sbl rfl)
          replace hIn25 : CBXh cn := hIn25
          have hst9 := Hid.i h_25
          clear h_25
          refine lv_if_eq (tgt := 64) hx hb dX11_shared_50 rfl (fun c_26 => ?_) (fun c_26 => ?_)
          ·
            have tc_26 : (r_24.toInt : Int) = 0 := congrArg Int32.toInt c_26
            refine lv_bipush (v := (-2)) hx hb dX11_shared_64 kbc_m2 ?_
            exact W.iret (v := (-2)) hx hb hr (fun t ht hW => ⟨⟨(-2), (cn, In, Fn25), rfl, ⟨(Fr.mo hf25 (sbl rfl) (sbl rfl) (sbl rfl)), hIn25, (by show (¬ ((0 ≤ (nI d0).toInt ∧ (nI d0).toInt ≤ 399) ∧ (1 ≤ v1.toInt ∧ v1.toInt ≤ 400) ∧ (v2.toInt = -1 ∨ (0 ≤ v2.toInt ∧ v2.toInt < (cn 10 : Int)))) ∧ (-2) = -1) ∨ (((0 ≤ (nI d0).toInt ∧ (nI d0).toInt ≤ 399) ∧ (1 ≤ v1.toInt ∧ v1.toInt ≤ 400) ∧ (v2.toInt = -1 ∨ (0 ≤ v2.toInt ∧ v2.toInt < (cn 10 : Int)))) ∧ (∃ k : Nat, k < cn 10 ∧ (nI d0).toInt < (Fn 104 k).toInt) ∧ (-2) = -2) ∨ (((0 ≤ (nI d0).toInt ∧ (nI d0).toInt ≤ 399) ∧ (1 ≤ v1.toInt ∧ v1.toInt ≤ 400) ∧ (v2.toInt = -1 ∨ (0 ≤ v2.toInt ∧ v2.toInt < (cn 10 : Int)))) ∧ (∀ k : Nat, k < cn 10 → (Fn 104 k).toInt ≤ (nI d0).toInt) ∧ ((∃ l : List Nat, AL (fun k9 => v1.toInt ≤ ((if (Fn 102 k9 * ((nI d0) - (Fn 104) k9)) < Fn 103 k9 then Fn 102 k9 * ((nI d0) - (Fn 104) k9) else Fn 103 k9)).toInt) (cn 10) l ∧ 6 < l.length ∧ (-2) = -2) ∨ ∃ (l : List Nat) (T : Nat → Int32) (b y : Int32), AL (fun k9 => v1.toInt ≤ ((if (Fn 102 k9 * ((nI d0) - (Fn 104) k9)) < Fn 103 k9 then Fn 102 k9 * ((nI d0) - (Fn 104) k9) else Fn 103 k9)).toInt) (cn 10) l ∧ l.length ≤ 6 ∧ TBL (fun a b => wyX (Fn 100 (l.getD a 0)) (Fn 101 (l.getD a 0)) (Fn 100 (l.getD b 0)) (Fn 101 (l.getD b 0))) (fun a => Fn 100 (l.getD a 0) + Fn 101 (l.getD a 0)) l.length T (2 ^ l.length) ∧ BSP (fun (t : Nat) (z : Int32) => VSH (cn 1) l.length (fun i => (if (Fn 102 (l.getD i 0) * ((nI d0) - (Fn 104) (l.getD i 0))) < Fn 103 (l.getD i 0) then Fn 102 (l.getD i 0) * ((nI d0) - (Fn 104) (l.getD i 0)) else Fn 103 (l.getD i 0))) (fun j => ¬ Fn 28 (j * 400 + (nI d0).toInt.toNat) = 0) (Fn 27) (RND (fun a => Fn 100 (l.getD a 0) + Fn 101 (l.getD a 0)) l.length T) (DG (cn 1) l.length t) z) (cn 1 ^ l.length) b y ∧ SHG (cn 1) (DG (cn 1) l.length) l v2 (-2) b y)); exact (Or.inr (Or.inl ⟨hC9, (Hid.u hst9).2.elim (fun w => absurd (show (1 : Int32) = 0 from w.1.symm.trans (by first | assumption | exact Int32.toInt_inj.mp (by assumption))) (by decide)) (fun w => w.2), rfl⟩)))⟩, by rw [ht]; exact hP, hD⟩, hS.F ht⟩) hS.2.2 dX11_shared_66
          ·
            have tc_26 : (r_24.toInt : Int) ≠ 0 := fun q => c_26 (Int32.toInt_inj.mp q)
            have e100 : Fn25 100 = Fn 100 := hfc25.2.2 100 (nml rfl)
            have e101 : Fn25 101 = Fn 101 := hfc25.2.2 101 (nml rfl)
            have e102 : Fn25 102 = Fn 102 := hfc25.2.2 102 (nml rfl)
            have e103 : Fn25 103 = Fn 103 := hfc25.2.2 103 (nml rfl)
            have e104 : Fn25 104 = Fn 104 := hfc25.2.2 104 (nml rfl)
            have e27 : Fn25 27 = Fn 27 := hfc25.2.2 27 (nml rfl)
            have e28 : Fn25 28 = Fn 28 := hfc25.2.2 28 (nml rfl)
            refine lv_aload_n hx hb dX11_shared_53 rfl (lvA1 hl) ?_
            refine lv_iload_n hx hb dX11_shared_54 rfl (lvA2 hl) ?_
            refine lv_iload_n hx hb dX11_shared_55 rfl (lvA3 hl) ?_
            refine lv_bipush (v := 6) hx hb dX11_shared_56 kbc_6 ?_
            have hFc := free_all hD hS hA
            refine va_calli (runV_xa (As := [.int (nI d0), .int v1, .int 6]) (rest := []) S (q_EgatherStops l D cI cB cZ zz qq vv bt g ad cn In Fn25 (nI d0) v1 6 H.size hIn25 (by decide) (fun k hk => by rw [e100, e101]; exact hxy k (by (first | exact hC9 | exact hc6 | exact hl6 | omega | (have zz0 := Hid.u hb_cn; omega))))) kV_RX11_279 hK hXS hS hFc hP hD 0 xo_0 rfl rfl ⟨Nat.le_of_ble_eq_true rfl, Nat.le_of_ble_eq_true rfl⟩ ⟨Nat.le_of_ble_eq_true rfl, Nat.le_of_ble_eq_true rfl⟩ rfl hl.1 rfl (Nat.le_of_ble_eq_true rfl) dX11_shared_58) hS (fun q _ h => hFc q h) hFc (fun r_27 u t H1 locs ht hvm wh_28 hB1 hz1 hk1 hS => ?_)
            obtain ⟨cn28, In28, Fn28⟩ := u
            obtain ⟨hP1, hD1⟩ := hB1
            rw [ht] at hP1
            have hP : va_P D vwCl (wX cI (D.1 99) zz g ad cn28 In28 Fn28) H1 := hP1
            have hD : va_D A (wX cI (D.1 99) zz g ad cn28 In28 Fn28) := hD1.weaken (fun _ _ _ h => hFc _ h)
            generalize H1 = H at hP hS ⊢
            have vh_28 : (fun r c2 I2 F2 => Fr [4] [] [30, 31, 32, 33, 34, 35] cn In Fn25 c2 I2 F2 ∧ CBX c2 ∧ ((r = 0 ∧ ∃ l : List Nat, AL (fun k9 => v1.toInt ≤ ((if ((Fn25 102) k9 * ((nI d0) - ((Fn25 105)) k9)) < (Fn25 103) k9 then (Fn25 102) k9 * ((nI d0) - ((Fn25 105)) k9) else (Fn25 103) k9)).toInt) ((cn 10)) l ∧ Int32.toInt 6 < (l.length : Int)) ∨ (r = 1 ∧ ∃ l : List Nat, AL (fun k9 => v1.toInt ≤ ((if ((Fn25 102) k9 * ((nI d0) - ((Fn25 105)) k9)) < (Fn25 103) k9 then (Fn25 102) k9 * ((nI d0) - ((Fn25 105)) k9) else (Fn25 103) k9)).toInt) ((cn 10)) l ∧ (l.length : Int) ≤ Int32.toInt 6 ∧ l.length ≤ 8 ∧ c2 4 = l.length ∧ RWF (F2 30) nI l ∧ RWF (F2 31) (fun k9 => (if ((Fn25 102) k9 * ((nI d0) - ((Fn25 105)) k9)) < (Fn25 103) k9 then (Fn25 102) k9 * ((nI d0) - ((Fn25 105)) k9) else (Fn25 103) k9)) l ∧ TBL (fun a b => wyX ((Fn25 100) (l.getD a 0)) ((Fn25 101) (l.getD a 0)) ((Fn25 100) (l.getD b 0)) ((Fn25 101) (l.getD b 0))) (fun a => (Fn25 100) (l.getD a 0) + (Fn25 101) (l.getD a 0)) l.length (F2 34) (2 ^ l.length) ∧ ∀ S : Nat, S < 2 ^ l.length → RND (fun a => (Fn25 100) (l.getD a 0) + (Fn25 101) (l.getD a 0)) l.length (F2 34) S (F2 35 S)))) r_27 cn28 In28 Fn28 := wh_28
            obtain ⟨hfc28, hIn28, h_28⟩ := vh_28
            obtain rfl : In = In28 := (funext (fun k => hfc28.2.1 k List.not_mem_nil)).symm
            have hf28 : Fr [4] [] [30, 31, 32, 33, 34, 35, 105] cn In Fn cn28 In Fn28 := Fr.mo (Fr.tr hf25 hfc28) (sbl rfl) (sbl rfl) (sbl rfl)
            have hb_cn28 : Hid (CBX cn28) := hIn28
            replace hIn28 : CBXh cn28 := hIn28
            have : cn28 6 = (cn 6) := hfc28.1 6 (nml rfl)
            have : cn28 31 = (cn 31) := hfc28.1 31 (nml rfl)
            have : cn28 32 = (cn 32) := hfc28.1 32 (nml rfl)
            have hq_cn28 : Hid (cn28 0 = (cn 0) ∧ cn28 1 = (cn 1) ∧ cn28 2 = (cn 2) ∧ cn28 3 = (cn 3) ∧ cn28 5 = (cn 5) ∧ cn28 10 = (cn 10) ∧ cn28 11 = (cn 11) ∧ cn28 12 = (cn 12) ∧ cn28 13 = (cn 13) ∧ cn28 14 = (cn 14) ∧ cn28 15 = (cn 15) ∧ cn28 20 = (cn 20) ∧ cn28 21 = (cn 21) ∧ cn28 22 = (cn 22) ∧ cn28 23 = (cn 23) ∧ cn28 24 = (cn 24) ∧ cn28 25 = (cn 25)) := Hid.i (p := cn28 0 = (cn 0) ∧ cn28 1 = (cn 1) ∧ cn28 2 = (cn 2) ∧ cn28 3 = (cn 3) ∧ cn28 5 = (cn 5) ∧ cn28 10 = (cn 10) ∧ cn28 11 = (cn 11) ∧ cn28 12 = (cn 12) ∧ cn28 13 = (cn 13) ∧ cn28 14 = (cn 14) ∧ cn28 15 = (cn 15) ∧ cn28 20 = (cn 20) ∧ cn28 21 = (cn 21) ∧ cn28 22 = (cn 22) ∧ cn28 23 = (cn 23) ∧ cn28 24 = (cn 24) ∧ cn28 25 = (cn 25)) ⟨hfc28.1 0 (nml rfl), hfc28.1 1 (nml rfl), hfc28.1 2 (nml rfl), hfc28.1 3 (nml rfl), hfc28.1 5 (nml rfl), hfc28.1 10 (nml rfl), hfc28.1 11 (nml rfl), hfc28.1 12 (nml rfl), hfc28.1 13 (nml rfl), hfc28.1 14 (nml rfl), hfc28.1 15 (nml rfl), hfc28.1 20 (nml rfl), hfc28.1 21 (nml rfl), hfc28.1 22 (nml rfl), hfc28.1 23 (nml rfl), hfc28.1 24 (nml rfl), hfc28.1 25 (nml rfl)⟩
            refine lv_if_ne (tgt := 67) hx hb dX11_shared_61 rfl (fun c_29 => ?_) (fun c_29 => ?_)
            ·
              have tc_29 : (r_27.toInt : Int) ≠ 0 := fun q => c_29 (Int32.toInt_inj.mp q)
              obtain ⟨l9, hal, hlv, hl8, hc4, r30, r31, htb, hrd⟩ := (h_28.resolve_left (fun w => (show ¬ r_27 = 0 from (by first | assumption | exact fun q => absurd (congrArg Int32.toInt q) (by assumption))) w.1)).2
              clear h_28
              have e6 : (6 : Int32).toInt = 6 := rfl
              rw [e100, e101] at htb hrd
              have hl6 : l9.length ≤ 6 := by (first | exact hC9 | exact hc6 | exact hl6 | omega | (have zz0 := Hid.u hb_cn; have zz1 := Hid.u hb_cn28; have zz2 := Hid.u hq_cn28; omega))
              have hc6 : cn28 4 ≤ 6 := by (first | exact hC9 | exact hc6 | exact hl6 | omega | (have zz0 := Hid.u hb_cn; have zz1 := Hid.u hb_cn28; have zz2 := Hid.u hq_cn28; omega))
              have hal9 := AL.cg _ _ (fun z hz => by show v1.toInt ≤ ((if (Fn25 102 z * ((nI d0) - (Fn25 105) z)) < Fn25 103 z then Fn25 102 z * ((nI d0) - (Fn25 105) z) else Fn25 103 z)).toInt ↔ v1.toInt ≤ ((if (Fn 102 z * ((nI d0) - (Fn 104) z)) < Fn 103 z then Fn 102 z * ((nI d0) - (Fn 104) z) else Fn 103 z)).toInt; rw [e102, e103, (Hid.u hst9).1 z hz]) hal
              have e1c : cn28 1 = cn 1 := hfc28.1 1 (nml rfl)
              have g27 : Fn28 27 = Fn 27 := (hfc28.2.2 27 (nml rfl)).trans e27
              have g28 : Fn28 28 = Fn 28 := (hfc28.2.2 28 (nml rfl)).trans e28
              refine lv_aload_n hx hb dX11_shared_67 rfl (lvA1 hl) ?_
              refine lv_iload_n hx hb dX11_shared_68 rfl (lvA2 hl) ?_
              refine vp_callSi (runV_rxa (As := [.int (nI d0)]) (rest := []) S (q_EbestShares l D cI cB cZ zz qq vv bt g ad cn28 In Fn28 d0 hIn28 (by (first | exact hC9 | exact hc6 | exact hl6 | omega | (have zz0 := Hid.u hb_cn; have zz1 := Hid.u hb_cn28; have zz2 := Hid.u hq_cn28; omega))) (by (first | exact hC9 | exact hc6 | exact hl6 | omega | (have zz0 := Hid.u hb_cn; have zz1 := Hid.u hb_cn28; have zz2 := Hid.u hq_cn28; omega)))) kV_RX11_324 hK hXS hS hP 0 xo_0 rfl rfl ⟨Nat.le_of_ble_eq_true rfl, Nat.le_of_ble_eq_true rfl⟩ ⟨Nat.le_of_ble_eq_true rfl, Nat.le_of_ble_eq_true rfl⟩ rfl hl.1 rfl (Nat.le_of_ble_eq_true rfl) dX11_shared_69) (fun r_30 h_31 => ?_)
              obtain ⟨y9, hb9⟩ := h_31
              rw [e1c] at hb9
              refine lv_istore (lv' := [(5, .int r_30), (4, .int 1), (0, .ref (g 0)), (1, .int (nI d0)), (2, .int v1), (3, .int v2)]) hx hb dX11_shared_72 hl (ltb rfl) rfl (fun ls hl => ?_)
              refine lv_iload hx hb dX11_shared_74 (lvA0 hl) ?_
              refine lv_iconst (v := (-1)) hx hb dX11_shared_76 kic_m1 ?_
              refine lv_icmp_ne (tgt := 83) hx hb dX11_shared_77 rfl (fun c_32 => ?_) (fun c_32 => ?_)
              ·
                have tc_32 : (r_30.toInt : Int) ≠ (-1) := fun q => c_32 (Int32.toInt_inj.mp q)
                obtain ⟨s9, hs1, rfl, hs3, hs4, hs5, hs6⟩ := hb9.resolve_left (fun w => (show ¬ r_30 = -1 from (by first | assumption | exact fun q => absurd (congrArg Int32.toInt q) (by assumption))) w.1)
                have hb9 : BSP (fun (t : Nat) (z : Int32) => VSH (cn 1) (cn28 4) (Fn28 31) (fun j => ¬ Fn28 28 (j * 400 + d0) = 0) (Fn28 27) (fun S y => y = Fn28 35 S) (DG (cn 1) (cn28 4) t) z) (cn 1 ^ cn28 4) (nI s9) y9 := Or.inr ⟨s9, hs1, rfl, hs3, hs4, hs5, hs6⟩
                have hp9 := pw0 hs1
                have hp8 : cn 1 ^ cn28 4 ≤ 3 ^ 6 := Nat.le_trans (Nat.pow_le_pow_left (by (first | exact hC9 | exact hc6 | exact hl6 | omega | (have zz0 := Hid.u hb_cn; have zz1 := Hid.u hb_cn28; have zz2 := Hid.u hq_cn28; omega))) _) (Nat.pow_le_pow_right (by decide) (by (first | exact hC9 | exact hc6 | exact hl6 | omega | (have zz0 := Hid.u hb_cn; have zz1 := Hid.u hb_cn28; have zz2 := Hid.u hq_cn28; omega))))
                have hp7 : s9 ≤ 2000 := by (first | exact hC9 | exact hc6 | exact hl6 | omega | (have zz0 := Hid.u hb_cn; have zz1 := Hid.u hb_cn28; have zz2 := Hid.u hq_cn28; omega))
                refine lv_iload_n hx hb dX11_shared_83 rfl (lvA5 hl) ?_
                refine lv_iconst (v := (-1)) hx hb dX11_shared_84 kic_m1 ?_
                refine lv_icmp_ne (tgt := 98) hx hb dX11_shared_85 rfl (fun c_33 => ?_) (fun c_33 => ?_)
                ·
                  have tc_33 : (v2.toInt : Int) ≠ (-1) := fun q => c_33 (Int32.toInt_inj.mp q)
                  refine lv_aload_n hx hb (oc_42 98 shX11_shared_98) rfl (lvA2 hl) ?_
                  refine lv_iload hx hb (oc_21 99 (aq_1 shX11_shared_98) ub_5) (lvA0 hl) ?_
                  refine lv_iload_n hx hb (oc_29 101 (aq_3 shX11_shared_98)) rfl (lvA5 hl) ?_
                  refine vp_callSi (runV_rxa (As := [.int (nI s9), .int v2]) (rest := []) S (q_ElorryOf l D cI cB cZ zz qq vv bt g ad cn28 In Fn28 s9 v2 l9 hIn28 (by (first | exact hC9 | exact hc6 | exact hl6 | omega | (have zz0 := Hid.u hb_cn; have zz1 := Hid.u hb_cn28; have zz2 := Hid.u hq_cn28; omega))) (by (first | exact hC9 | exact hc6 | exact hl6 | omega | (have zz0 := Hid.u hb_cn; have zz1 := Hid.u hb_cn28; have zz2 := Hid.u hq_cn28; omega))) (by (first | exact hC9 | exact hc6 | exact hl6 | omega | (have zz0 := Hid.u hb_cn; have zz1 := Hid.u hb_cn28; have zz2 := Hid.u hq_cn28; omega))) r30 (by (first | exact hC9 | exact hc6 | exact hl6 | omega | (have zz0 := Hid.u hb_cn; have zz1 := Hid.u hb_cn28; have zz2 := Hid.u hq_cn28; omega))) (fun a ha => by have := (hal.ge ha).1; (first | exact hC9 | exact hc6 | exact hl6 | omega | (have zz0 := Hid.u hb_cn; have zz1 := Hid.u hb_cn28; have zz2 := Hid.u hq_cn28; omega)))) kV_RX11_330 hK hXS hS hP 0 xo_0 rfl rfl ⟨Nat.le_of_ble_eq_true rfl, Nat.le_of_ble_eq_true rfl⟩ ⟨Nat.le_of_ble_eq_true rfl, Nat.le_of_ble_eq_true rfl⟩ rfl hl.1 rfl (Nat.le_of_ble_eq_true rfl) (oc_182 102 (aq_4 shX11_shared_98) uw_1_74)) (fun r_34 h_35 => ?_)
                  rw [e1c] at h_35
                  exact W.iret (v := r_34) hx hb hr (fun t ht hW => ⟨⟨r_34, (cn28, In, Fn28), rfl, ⟨(Fr.mo hf28 (sbl rfl) (sbl rfl) (sbl rfl)), hIn28, (by show (¬ ((0 ≤ (nI d0).toInt ∧ (nI d0).toInt ≤ 399) ∧ (1 ≤ v1.toInt ∧ v1.toInt ≤ 400) ∧ (v2.toInt = -1 ∨ (0 ≤ v2.toInt ∧ v2.toInt < (cn 10 : Int)))) ∧ r_34 = -1) ∨ (((0 ≤ (nI d0).toInt ∧ (nI d0).toInt ≤ 399) ∧ (1 ≤ v1.toInt ∧ v1.toInt ≤ 400) ∧ (v2.toInt = -1 ∨ (0 ≤ v2.toInt ∧ v2.toInt < (cn 10 : Int)))) ∧ (∃ k : Nat, k < cn 10 ∧ (nI d0).toInt < (Fn 104 k).toInt) ∧ r_34 = -2) ∨ (((0 ≤ (nI d0).toInt ∧ (nI d0).toInt ≤ 399) ∧ (1 ≤ v1.toInt ∧ v1.toInt ≤ 400) ∧ (v2.toInt = -1 ∨ (0 ≤ v2.toInt ∧ v2.toInt < (cn 10 : Int)))) ∧ (∀ k : Nat, k < cn 10 → (Fn 104 k).toInt ≤ (nI d0).toInt) ∧ ((∃ l : List Nat, AL (fun k9 => v1.toInt ≤ ((if (Fn 102 k9 * ((nI d0) - (Fn 104) k9)) < Fn 103 k9 then Fn 102 k9 * ((nI d0) - (Fn 104) k9) else Fn 103 k9)).toInt) (cn 10) l ∧ 6 < l.length ∧ r_34 = -2) ∨ ∃ (l : List Nat) (T : Nat → Int32) (b y : Int32), AL (fun k9 => v1.toInt ≤ ((if (Fn 102 k9 * ((nI d0) - (Fn 104) k9)) < Fn 103 k9 then Fn 102 k9 * ((nI d0) - (Fn 104) k9) else Fn 103 k9)).toInt) (cn 10) l ∧ l.length ≤ 6 ∧ TBL (fun a b => wyX (Fn 100 (l.getD a 0)) (Fn 101 (l.getD a 0)) (Fn 100 (l.getD b 0)) (Fn 101 (l.getD b 0))) (fun a => Fn 100 (l.getD a 0) + Fn 101 (l.getD a 0)) l.length T (2 ^ l.length) ∧ BSP (fun (t : Nat) (z : Int32) => VSH (cn 1) l.length (fun i => (if (Fn 102 (l.getD i 0) * ((nI d0) - (Fn 104) (l.getD i 0))) < Fn 103 (l.getD i 0) then Fn 102 (l.getD i 0) * ((nI d0) - (Fn 104) (l.getD i 0)) else Fn 103 (l.getD i 0))) (fun j => ¬ Fn 28 (j * 400 + (nI d0).toInt.toNat) = 0) (Fn 27) (RND (fun a => Fn 100 (l.getD a 0) + Fn 101 (l.getD a 0)) l.length T) (DG (cn 1) l.length t) z) (cn 1 ^ l.length) b y ∧ SHG (cn 1) (DG (cn 1) l.length) l v2 r_34 b y)); have hb8 := hb9; rw [hc4] at hb8; exact (Or.inr (Or.inr ⟨hC9, ((Hid.u hst9).2.elim (fun w => w.2) (fun w => absurd w.1 (show ¬ r_24 = 0 from (by first | assumption | exact fun q => absurd (congrArg Int32.toInt q) (by assumption))))), Or.inr ⟨l9, _, (nI s9), y9, hal9, hl6, htb, (by rw [zd0]; exact (BSP.mo (fun t z ht hz => VSH.cg (fun i hi => (r31.at hi).trans (by show (if (Fn25 102 (l9.getD i 0) * ((nI d0) - (Fn25 105) (l9.getD i 0))) < Fn25 103 (l9.getD i 0) then Fn25 102 (l9.getD i 0) * ((nI d0) - (Fn25 105) (l9.getD i 0)) else Fn25 103 (l9.getD i 0)) = (if (Fn 102 (l9.getD i 0) * ((nI d0) - (Fn 104) (l9.getD i 0))) < Fn 103 (l9.getD i 0) then Fn 102 (l9.getD i 0) * ((nI d0) - (Fn 104) (l9.getD i 0)) else Fn 103 (l9.getD i 0)); rw [e102, e103, (Hid.u hst9).1 _ (hal.ge hi).1])) (fun j hj => by rw [g28]) (fun j hj => by rw [g27]) (fun S x hS hx => by rw [show x = Fn28 35 S from hx]; exact hrd S hS) hz) hb8)), Or.inr (Or.inr ⟨(fun w9 => by have q9 := congrArg Int32.toInt w9; rw [nI_toInt (by (first | exact hC9 | exact hc6 | exact hl6 | omega | (have zz0 := Hid.u hb_cn; have zz1 := Hid.u hb_cn28; have zz2 := Hid.u hq_cn28; omega)))] at q9; have q8 : (-1 : Int32).toInt = -1 := rfl; (first | exact hC9 | exact hc6 | exact hl6 | omega | (have zz0 := Hid.u hb_cn; have zz1 := Hid.u hb_cn28; have zz2 := Hid.u hq_cn28; omega))), (by first | assumption | exact fun q => absurd (congrArg Int32.toInt q) (by assumption)), s9, (by rw [← hc4]; exact hs1), rfl, (by rw [← hc4]; exact h_35)⟩)⟩⟩)))⟩, by rw [ht]; exact hP, hD⟩, hS.F ht⟩) hS.2.2 dX11_shared_105
                ·
                  have tc_33 : (v2.toInt : Int) = (-1) := congrArg Int32.toInt c_33
                  refine lv_aload_n hx hb dX11_shared_88 rfl (lvA2 hl) ?_
                  refine lv_iload hx hb dX11_shared_89 (lvA0 hl) ?_
                  refine lv_iload_n hx hb dX11_shared_91 rfl (lvA3 hl) ?_
                  refine vp_callSi (runV_rxa (As := [.int (nI s9), .int (nI d0)]) (rest := []) S (q_EsharedLength l D cI cB cZ zz qq vv bt g ad cn28 In Fn28 s9 d0 hIn28 (by (first | exact hC9 | exact hc6 | exact hl6 | omega | (have zz0 := Hid.u hb_cn; have zz1 := Hid.u hb_cn28; have zz2 := Hid.u hq_cn28; omega))) (by (first | exact hC9 | exact hc6 | exact hl6 | omega | (have zz0 := Hid.u hb_cn; have zz1 := Hid.u hb_cn28; have zz2 := Hid.u hq_cn28; omega))) (by (first | exact hC9 | exact hc6 | exact hl6 | omega | (have zz0 := Hid.u hb_cn; have zz1 := Hid.u hb_cn28; have zz2 := Hid.u hq_cn28; omega)))) kV_RX11_327 hK hXS hS hP 0 xo_0 rfl rfl ⟨Nat.le_of_ble_eq_true rfl, Nat.le_of_ble_eq_true rfl⟩ ⟨Nat.le_of_ble_eq_true rfl, Nat.le_of_ble_eq_true rfl⟩ rfl hl.1 rfl (Nat.le_of_ble_eq_true rfl) dX11_shared_92) (fun r_36 h_37 => ?_)
                  rw [e1c] at h_37
                  refine lv_goto (tgt := 105) hx hb dX11_shared_95 rfl ?_
                  exact W.iret (v := r_36) hx hb hr (fun t ht hW => ⟨⟨r_36, (cn28, In, Fn28), rfl, ⟨(Fr.mo hf28 (sbl rfl) (sbl rfl) (sbl rfl)), hIn28, (by show (¬ ((0 ≤ (nI d0).toInt ∧ (nI d0).toInt ≤ 399) ∧ (1 ≤ v1.toInt ∧ v1.toInt ≤ 400) ∧ (v2.toInt = -1 ∨ (0 ≤ v2.toInt ∧ v2.toInt < (cn 10 : Int)))) ∧ r_36 = -1) ∨ (((0 ≤ (nI d0).toInt ∧ (nI d0).toInt ≤ 399) ∧ (1 ≤ v1.toInt ∧ v1.toInt ≤ 400) ∧ (v2.toInt = -1 ∨ (0 ≤ v2.toInt ∧ v2.toInt < (cn 10 : Int)))) ∧ (∃ k : Nat, k < cn 10 ∧ (nI d0).toInt < (Fn 104 k).toInt) ∧ r_36 = -2) ∨ (((0 ≤ (nI d0).toInt ∧ (nI d0).toInt ≤ 399) ∧ (1 ≤ v1.toInt ∧ v1.toInt ≤ 400) ∧ (v2.toInt = -1 ∨ (0 ≤ v2.toInt ∧ v2.toInt < (cn 10 : Int)))) ∧ (∀ k : Nat, k < cn 10 → (Fn 104 k).toInt ≤ (nI d0).toInt) ∧ ((∃ l : List Nat, AL (fun k9 => v1.toInt ≤ ((if (Fn 102 k9 * ((nI d0) - (Fn 104) k9)) < Fn 103 k9 then Fn 102 k9 * ((nI d0) - (Fn 104) k9) else Fn 103 k9)).toInt) (cn 10) l ∧ 6 < l.length ∧ r_36 = -2) ∨ ∃ (l : List Nat) (T : Nat → Int32) (b y : Int32), AL (fun k9 => v1.toInt ≤ ((if (Fn 102 k9 * ((nI d0) - (Fn 104) k9)) < Fn 103 k9 then Fn 102 k9 * ((nI d0) - (Fn 104) k9) else Fn 103 k9)).toInt) (cn 10) l ∧ l.length ≤ 6 ∧ TBL (fun a b => wyX (Fn 100 (l.getD a 0)) (Fn 101 (l.getD a 0)) (Fn 100 (l.getD b 0)) (Fn 101 (l.getD b 0))) (fun a => Fn 100 (l.getD a 0) + Fn 101 (l.getD a 0)) l.length T (2 ^ l.length) ∧ BSP (fun (t : Nat) (z : Int32) => VSH (cn 1) l.length (fun i => (if (Fn 102 (l.getD i 0) * ((nI d0) - (Fn 104) (l.getD i 0))) < Fn 103 (l.getD i 0) then Fn 102 (l.getD i 0) * ((nI d0) - (Fn 104) (l.getD i 0)) else Fn 103 (l.getD i 0))) (fun j => ¬ Fn 28 (j * 400 + (nI d0).toInt.toNat) = 0) (Fn 27) (RND (fun a => Fn 100 (l.getD a 0) + Fn 101 (l.getD a 0)) l.length T) (DG (cn 1) l.length t) z) (cn 1 ^ l.length) b y ∧ SHG (cn 1) (DG (cn 1) l.length) l v2 r_36 b y)); have hb8 := hb9; rw [hc4] at hb8; exact (Or.inr (Or.inr ⟨hC9, ((Hid.u hst9).2.elim (fun w => w.2) (fun w => absurd w.1 (show ¬ r_24 = 0 from (by first | assumption | exact fun q => absurd (congrArg Int32.toInt q) (by assumption))))), Or.inr ⟨l9, _, (nI s9), y9, hal9, hl6, htb, (by rw [zd0]; exact (BSP.mo (fun t z ht hz => VSH.cg (fun i hi => (r31.at hi).trans (by show (if (Fn25 102 (l9.getD i 0) * ((nI d0) - (Fn25 105) (l9.getD i 0))) < Fn25 103 (l9.getD i 0) then Fn25 102 (l9.getD i 0) * ((nI d0) - (Fn25 105) (l9.getD i 0)) else Fn25 103 (l9.getD i 0)) = (if (Fn 102 (l9.getD i 0) * ((nI d0) - (Fn 104) (l9.getD i 0))) < Fn 103 (l9.getD i 0) then Fn 102 (l9.getD i 0) * ((nI d0) - (Fn 104) (l9.getD i 0)) else Fn 103 (l9.getD i 0)); rw [e102, e103, (Hid.u hst9).1 _ (hal.ge hi).1])) (fun j hj => by rw [g28]) (fun j hj => by rw [g27]) (fun S x hS hx => by rw [show x = Fn28 35 S from hx]; exact hrd S hS) hz) hb8)), Or.inr (Or.inl ⟨(fun w9 => by have q9 := congrArg Int32.toInt w9; rw [nI_toInt (by (first | exact hC9 | exact hc6 | exact hl6 | omega | (have zz0 := Hid.u hb_cn; have zz1 := Hid.u hb_cn28; have zz2 := Hid.u hq_cn28; omega)))] at q9; have q8 : (-1 : Int32).toInt = -1 := rfl; (first | exact hC9 | exact hc6 | exact hl6 | omega | (have zz0 := Hid.u hb_cn; have zz1 := Hid.u hb_cn28; have zz2 := Hid.u hq_cn28; omega))), (by first | assumption | exact Int32.toInt_inj.mp (by assumption)), VSH.un (fun _ _ => rfl) (fun _ _ => rfl) (fun _ _ => Iff.rfl) (fun _ _ => rfl) (fun _ _ _ _ p9 q9 => p9.trans q9.symm) h_37 hs3⟩)⟩⟩)))⟩, by rw [ht]; exact hP, hD⟩, hS.F ht⟩) hS.2.2 dX11_shared_105
              ·
                have tc_32 : (r_30.toInt : Int) = (-1) := congrArg Int32.toInt c_32
                refine lv_bipush (v := (-2)) hx hb dX11_shared_80 kbc_m2 ?_
                exact W.iret (v := (-2)) hx hb hr (fun t ht hW => ⟨⟨(-2), (cn28, In, Fn28), rfl, ⟨(Fr.mo hf28 (sbl rfl) (sbl rfl) (sbl rfl)), hIn28, (by show (¬ ((0 ≤ (nI d0).toInt ∧ (nI d0).toInt ≤ 399) ∧ (1 ≤ v1.toInt ∧ v1.toInt ≤ 400) ∧ (v2.toInt = -1 ∨ (0 ≤ v2.toInt ∧ v2.toInt < (cn 10 : Int)))) ∧ (-2) = -1) ∨ (((0 ≤ (nI d0).toInt ∧ (nI d0).toInt ≤ 399) ∧ (1 ≤ v1.toInt ∧ v1.toInt ≤ 400) ∧ (v2.toInt = -1 ∨ (0 ≤ v2.toInt ∧ v2.toInt < (cn 10 : Int)))) ∧ (∃ k : Nat, k < cn 10 ∧ (nI d0).toInt < (Fn 104 k).toInt) ∧ (-2) = -2) ∨ (((0 ≤ (nI d0).toInt ∧ (nI d0).toInt ≤ 399) ∧ (1 ≤ v1.toInt ∧ v1.toInt ≤ 400) ∧ (v2.toInt = -1 ∨ (0 ≤ v2.toInt ∧ v2.toInt < (cn 10 : Int)))) ∧ (∀ k : Nat, k < cn 10 → (Fn 104 k).toInt ≤ (nI d0).toInt) ∧ ((∃ l : List Nat, AL (fun k9 => v1.toInt ≤ ((if (Fn 102 k9 * ((nI d0) - (Fn 104) k9)) < Fn 103 k9 then Fn 102 k9 * ((nI d0) - (Fn 104) k9) else Fn 103 k9)).toInt) (cn 10) l ∧ 6 < l.length ∧ (-2) = -2) ∨ ∃ (l : List Nat) (T : Nat → Int32) (b y : Int32), AL (fun k9 => v1.toInt ≤ ((if (Fn 102 k9 * ((nI d0) - (Fn 104) k9)) < Fn 103 k9 then Fn 102 k9 * ((nI d0) - (Fn 104) k9) else Fn 103 k9)).toInt) (cn 10) l ∧ l.length ≤ 6 ∧ TBL (fun a b => wyX (Fn 100 (l.getD a 0)) (Fn 101 (l.getD a 0)) (Fn 100 (l.getD b 0)) (Fn 101 (l.getD b 0))) (fun a => Fn 100 (l.getD a 0) + Fn 101 (l.getD a 0)) l.length T (2 ^ l.length) ∧ BSP (fun (t : Nat) (z : Int32) => VSH (cn 1) l.length (fun i => (if (Fn 102 (l.getD i 0) * ((nI d0) - (Fn 104) (l.getD i 0))) < Fn 103 (l.getD i 0) then Fn 102 (l.getD i 0) * ((nI d0) - (Fn 104) (l.getD i 0)) else Fn 103 (l.getD i 0))) (fun j => ¬ Fn 28 (j * 400 + (nI d0).toInt.toNat) = 0) (Fn 27) (RND (fun a => Fn 100 (l.getD a 0) + Fn 101 (l.getD a 0)) l.length T) (DG (cn 1) l.length t) z) (cn 1 ^ l.length) b y ∧ SHG (cn 1) (DG (cn 1) l.length) l v2 (-2) b y)); have hb8 := hb9; rw [hc4] at hb8; exact (Or.inr (Or.inr ⟨hC9, ((Hid.u hst9).2.elim (fun w => w.2) (fun w => absurd w.1 (show ¬ r_24 = 0 from (by first | assumption | exact fun q => absurd (congrArg Int32.toInt q) (by assumption))))), Or.inr ⟨l9, _, r_30, y9, hal9, hl6, htb, (by rw [zd0]; exact (BSP.mo (fun t z ht hz => VSH.cg (fun i hi => (r31.at hi).trans (by show (if (Fn25 102 (l9.getD i 0) * ((nI d0) - (Fn25 105) (l9.getD i 0))) < Fn25 103 (l9.getD i 0) then Fn25 102 (l9.getD i 0) * ((nI d0) - (Fn25 105) (l9.getD i 0)) else Fn25 103 (l9.getD i 0)) = (if (Fn 102 (l9.getD i 0) * ((nI d0) - (Fn 104) (l9.getD i 0))) < Fn 103 (l9.getD i 0) then Fn 102 (l9.getD i 0) * ((nI d0) - (Fn 104) (l9.getD i 0)) else Fn 103 (l9.getD i 0)); rw [e102, e103, (Hid.u hst9).1 _ (hal.ge hi).1])) (fun j hj => by rw [g28]) (fun j hj => by rw [g27]) (fun S x hS hx => by rw [show x = Fn28 35 S from hx]; exact hrd S hS) hz) hb8)), Or.inl ⟨(by first | assumption | exact Int32.toInt_inj.mp (by assumption)), rfl⟩⟩⟩)))⟩, by rw [ht]; exact hP, hD⟩, hS.F ht⟩) hS.2.2 dX11_shared_82
            ·
              have tc_29 : (r_27.toInt : Int) = 0 := congrArg Int32.toInt c_29
              refine lv_bipush (v := (-2)) hx hb dX11_shared_64 kbc_m2 ?_
              exact W.iret (v := (-2)) hx hb hr (fun t ht hW => ⟨⟨(-2), (cn28, In, Fn28), rfl, ⟨(Fr.mo hf28 (sbl rfl) (sbl rfl) (sbl rfl)), hIn28, (by show (¬ ((0 ≤ (nI d0).toInt ∧ (nI d0).toInt ≤ 399) ∧ (1 ≤ v1.toInt ∧ v1.toInt ≤ 400) ∧ (v2.toInt = -1 ∨ (0 ≤ v2.toInt ∧ v2.toInt < (cn 10 : Int)))) ∧ (-2) = -1) ∨ (((0 ≤ (nI d0).toInt ∧ (nI d0).toInt ≤ 399) ∧ (1 ≤ v1.toInt ∧ v1.toInt ≤ 400) ∧ (v2.toInt = -1 ∨ (0 ≤ v2.toInt ∧ v2.toInt < (cn 10 : Int)))) ∧ (∃ k : Nat, k < cn 10 ∧ (nI d0).toInt < (Fn 104 k).toInt) ∧ (-2) = -2) ∨ (((0 ≤ (nI d0).toInt ∧ (nI d0).toInt ≤ 399) ∧ (1 ≤ v1.toInt ∧ v1.toInt ≤ 400) ∧ (v2.toInt = -1 ∨ (0 ≤ v2.toInt ∧ v2.toInt < (cn 10 : Int)))) ∧ (∀ k : Nat, k < cn 10 → (Fn 104 k).toInt ≤ (nI d0).toInt) ∧ ((∃ l : List Nat, AL (fun k9 => v1.toInt ≤ ((if (Fn 102 k9 * ((nI d0) - (Fn 104) k9)) < Fn 103 k9 then Fn 102 k9 * ((nI d0) - (Fn 104) k9) else Fn 103 k9)).toInt) (cn 10) l ∧ 6 < l.length ∧ (-2) = -2) ∨ ∃ (l : List Nat) (T : Nat → Int32) (b y : Int32), AL (fun k9 => v1.toInt ≤ ((if (Fn 102 k9 * ((nI d0) - (Fn 104) k9)) < Fn 103 k9 then Fn 102 k9 * ((nI d0) - (Fn 104) k9) else Fn 103 k9)).toInt) (cn 10) l ∧ l.length ≤ 6 ∧ TBL (fun a b => wyX (Fn 100 (l.getD a 0)) (Fn 101 (l.getD a 0)) (Fn 100 (l.getD b 0)) (Fn 101 (l.getD b 0))) (fun a => Fn 100 (l.getD a 0) + Fn 101 (l.getD a 0)) l.length T (2 ^ l.length) ∧ BSP (fun (t : Nat) (z : Int32) => VSH (cn 1) l.length (fun i => (if (Fn 102 (l.getD i 0) * ((nI d0) - (Fn 104) (l.getD i 0))) < Fn 103 (l.getD i 0) then Fn 102 (l.getD i 0) * ((nI d0) - (Fn 104) (l.getD i 0)) else Fn 103 (l.getD i 0))) (fun j => ¬ Fn 28 (j * 400 + (nI d0).toInt.toNat) = 0) (Fn 27) (RND (fun a => Fn 100 (l.getD a 0) + Fn 101 (l.getD a 0)) l.length T) (DG (cn 1) l.length t) z) (cn 1 ^ l.length) b y ∧ SHG (cn 1) (DG (cn 1) l.length) l v2 (-2) b y)); obtain ⟨l9, hal, hlv⟩ := h_28.elim (fun w => w.2) (fun w => absurd (show (1 : Int32) = 0 from w.1.symm.trans (by first | assumption | exact Int32.toInt_inj.mp (by assumption))) (by decide)); have e6 : (6 : Int32).toInt = 6 := rfl; exact (Or.inr (Or.inr ⟨hC9, ((Hid.u hst9).2.elim (fun w => w.2) (fun w => absurd w.1 (show ¬ r_24 = 0 from (by first | assumption | exact fun q => absurd (congrArg Int32.toInt q) (by assumption))))), Or.inl ⟨l9, AL.cg _ _ (fun z hz => by show v1.toInt ≤ ((if (Fn25 102 z * ((nI d0) - (Fn25 105) z)) < Fn25 103 z then Fn25 102 z * ((nI d0) - (Fn25 105) z) else Fn25 103 z)).toInt ↔ v1.toInt ≤ ((if (Fn 102 z * ((nI d0) - (Fn 104) z)) < Fn 103 z then Fn 102 z * ((nI d0) - (Fn 104) z) else Fn 103 z)).toInt; rw [e102, e103, (Hid.u hst9).1 z hz]) hal, by (first | exact hC9 | exact hc6 | exact hl6 | omega | (have zz0 := Hid.u hb_cn; have zz1 := Hid.u hb_cn28; have zz2 := Hid.u hq_cn28; omega)), rfl⟩⟩)))⟩, by rw [ht]; exact hP, hD⟩, hS.F ht⟩) hS.2.2 dX11_shared_66
        ·
          have h_23 : ¬ (1 ≤ v1.toInt ∧ v1.toInt ≤ 400) := h_23
          refine lv_if_eq (tgt := 43) hx hb dX11_shared_35 rfl (fun _ => ?_) (fun h => absurd h cq_eq_0_0)
          refine lv_iconst (v := (-1)) hx hb dX11_shared_43 kic_m1 ?_
          exact W.iret (v := (-1)) hx hb hr (fun t ht hW => ⟨⟨(-1), (cn, In, Fn), rfl, ⟨(Fr.mo Fr.rf (sbl rfl) (sbl rfl) (sbl rfl)), hB, (by show (¬ ((0 ≤ (nI d0).toInt ∧ (nI d0).toInt ≤ 399) ∧ (1 ≤ v1.toInt ∧ v1.toInt ≤ 400) ∧ (v2.toInt = -1 ∨ (0 ≤ v2.toInt ∧ v2.toInt < (cn 10 : Int)))) ∧ (-1) = -1) ∨ (((0 ≤ (nI d0).toInt ∧ (nI d0).toInt ≤ 399) ∧ (1 ≤ v1.toInt ∧ v1.toInt ≤ 400) ∧ (v2.toInt = -1 ∨ (0 ≤ v2.toInt ∧ v2.toInt < (cn 10 : Int)))) ∧ (∃ k : Nat, k < cn 10 ∧ (nI d0).toInt < (Fn 104 k).toInt) ∧ (-1) = -2) ∨ (((0 ≤ (nI d0).toInt ∧ (nI d0).toInt ≤ 399) ∧ (1 ≤ v1.toInt ∧ v1.toInt ≤ 400) ∧ (v2.toInt = -1 ∨ (0 ≤ v2.toInt ∧ v2.toInt < (cn 10 : Int)))) ∧ (∀ k : Nat, k < cn 10 → (Fn 104 k).toInt ≤ (nI d0).toInt) ∧ ((∃ l : List Nat, AL (fun k9 => v1.toInt ≤ ((if (Fn 102 k9 * ((nI d0) - (Fn 104) k9)) < Fn 103 k9 then Fn 102 k9 * ((nI d0) - (Fn 104) k9) else Fn 103 k9)).toInt) (cn 10) l ∧ 6 < l.length ∧ (-1) = -2) ∨ ∃ (l : List Nat) (T : Nat → Int32) (b y : Int32), AL (fun k9 => v1.toInt ≤ ((if (Fn 102 k9 * ((nI d0) - (Fn 104) k9)) < Fn 103 k9 then Fn 102 k9 * ((nI d0) - (Fn 104) k9) else Fn 103 k9)).toInt) (cn 10) l ∧ l.length ≤ 6 ∧ TBL (fun a b => wyX (Fn 100 (l.getD a 0)) (Fn 101 (l.getD a 0)) (Fn 100 (l.getD b 0)) (Fn 101 (l.getD b 0))) (fun a => Fn 100 (l.getD a 0) + Fn 101 (l.getD a 0)) l.length T (2 ^ l.length) ∧ BSP (fun (t : Nat) (z : Int32) => VSH (cn 1) l.length (fun i => (if (Fn 102 (l.getD i 0) * ((nI d0) - (Fn 104) (l.getD i 0))) < Fn 103 (l.getD i 0) then Fn 102 (l.getD i 0) * ((nI d0) - (Fn 104) (l.getD i 0)) else Fn 103 (l.getD i 0))) (fun j => ¬ Fn 28 (j * 400 + (nI d0).toInt.toNat) = 0) (Fn 27) (RND (fun a => Fn 100 (l.getD a 0) + Fn 101 (l.getD a 0)) l.length T) (DG (cn 1) l.length t) z) (cn 1 ^ l.length) b y ∧ SHG (cn 1) (DG (cn 1) l.length) l v2 (-1) b y)); exact (Or.inl ⟨by (first | exact hC9 | exact hc6 | exact hl6 | omega | (have zz0 := Hid.u hb_cn; omega)), rfl⟩))⟩, by rw [ht]; exact hP, hD⟩, hS.F ht⟩) hS.2.2 dX11_shared_44
      ·
        have h_21 : ¬ (0 ≤ v0.toInt ∧ v0.toInt ≤ 399) := h_21
        refine lv_if_eq (tgt := 43) hx hb dX11_shared_24 rfl (fun _ => ?_) (fun h => absurd h cq_eq_0_0)
        refine lv_iconst (v := (-1)) hx hb dX11_shared_43 kic_m1 ?_
        exact W.iret (v := (-1)) hx hb hr (fun t ht hW => ⟨⟨(-1), (cn, In, Fn), rfl, ⟨(Fr.mo Fr.rf (sbl rfl) (sbl rfl) (sbl rfl)), hB, (by show (¬ ((0 ≤ v0.toInt ∧ v0.toInt ≤ 399) ∧ (1 ≤ v1.toInt ∧ v1.toInt ≤ 400) ∧ (v2.toInt = -1 ∨ (0 ≤ v2.toInt ∧ v2.toInt < (cn 10 : Int)))) ∧ (-1) = -1) ∨ (((0 ≤ v0.toInt ∧ v0.toInt ≤ 399) ∧ (1 ≤ v1.toInt ∧ v1.toInt ≤ 400) ∧ (v2.toInt = -1 ∨ (0 ≤ v2.toInt ∧ v2.toInt < (cn 10 : Int)))) ∧ (∃ k : Nat, k < cn 10 ∧ v0.toInt < (Fn 104 k).toInt) ∧ (-1) = -2) ∨ (((0 ≤ v0.toInt ∧ v0.toInt ≤ 399) ∧ (1 ≤ v1.toInt ∧ v1.toInt ≤ 400) ∧ (v2.toInt = -1 ∨ (0 ≤ v2.toInt ∧ v2.toInt < (cn 10 : Int)))) ∧ (∀ k : Nat, k < cn 10 → (Fn 104 k).toInt ≤ v0.toInt) ∧ ((∃ l : List Nat, AL (fun k9 => v1.toInt ≤ ((if (Fn 102 k9 * (v0 - (Fn 104) k9)) < Fn 103 k9 then Fn 102 k9 * (v0 - (Fn 104) k9) else Fn 103 k9)).toInt) (cn 10) l ∧ 6 < l.length ∧ (-1) = -2) ∨ ∃ (l : List Nat) (T : Nat → Int32) (b y : Int32), AL (fun k9 => v1.toInt ≤ ((if (Fn 102 k9 * (v0 - (Fn 104) k9)) < Fn 103 k9 then Fn 102 k9 * (v0 - (Fn 104) k9) else Fn 103 k9)).toInt) (cn 10) l ∧ l.length ≤ 6 ∧ TBL (fun a b => wyX (Fn 100 (l.getD a 0)) (Fn 101 (l.getD a 0)) (Fn 100 (l.getD b 0)) (Fn 101 (l.getD b 0))) (fun a => Fn 100 (l.getD a 0) + Fn 101 (l.getD a 0)) l.length T (2 ^ l.length) ∧ BSP (fun (t : Nat) (z : Int32) => VSH (cn 1) l.length (fun i => (if (Fn 102 (l.getD i 0) * (v0 - (Fn 104) (l.getD i 0))) < Fn 103 (l.getD i 0) then Fn 102 (l.getD i 0) * (v0 - (Fn 104) (l.getD i 0)) else Fn 103 (l.getD i 0))) (fun j => ¬ Fn 28 (j * 400 + v0.toInt.toNat) = 0) (Fn 27) (RND (fun a => Fn 100 (l.getD a 0) + Fn 101 (l.getD a 0)) l.length T) (DG (cn 1) l.length t) z) (cn 1 ^ l.length) b y ∧ SHG (cn 1) (DG (cn 1) l.length) l v2 (-1) b y)); exact (Or.inl ⟨by (first | exact hC9 | exact hc6 | exact hl6 | omega | (have zz0 := Hid.u hb_cn; omega)), rfl⟩))⟩, by rw [ht]; exact hP, hD⟩, hS.F ht⟩) hS.2.2 dX11_shared_44
    ·
      refine lv_ifnullN (tgt := 17) hx hb dX11_shared_10 rfl ?_
      refine lv_iconst (v := 0) hx hb (oc_3 17 (aq_17 shX11_shared_0)) kic_0 ?_
      refine lv_istore (lv' := [(4, .int 0), (0, .ref (g 0)), (1, .int v0), (2, .int v1), (3, .int v2)]) hx hb dX11_shared_18 hl (ltb rfl) rfl (fun ls hl => ?_)
      refine lv_iload_n hx hb dX11_shared_20 rfl (lvA2 hl) ?_
      refine vp_callSi (runS_r (As := [.int v0]) (rest := []) S (q_l_isDay l D cI cB cZ v0) kS_RX11_99 hK hP [] rfl ⟨Nat.le_of_ble_eq_true rfl, Nat.le_of_ble_eq_true rfl⟩ ⟨Nat.le_of_ble_eq_true rfl, Nat.le_of_ble_eq_true rfl⟩ rfl hl.1 rfl (Nat.le_of_ble_eq_true rfl) dX11_shared_21) (fun r_38 h_39 => ?_)
      rcases h_39 with ⟨rfl, h_39⟩ | ⟨rfl, h_39⟩
      ·
        have h_39 : 0 ≤ v0.toInt ∧ v0.toInt ≤ 399 := h_39
        refine lv_if_eq (tgt := 43) hx hb dX11_shared_24 rfl (fun h => absurd h cq_eq_1_0) (fun _ => ?_)
        obtain ⟨d0, hd0, rfl⟩ := nI_of (x := v0) (fun q => by have := Int32.lt_iff_toInt_lt.mp q; have e : (0 : Int32).toInt = 0 := rfl; (first | exact hC9 | exact hc6 | exact hl6 | omega | (have zz0 := Hid.u hb_cn; omega)))
        have td0 : (nI d0).toInt = (d0 : Int) := nI_toInt hd0
        have zd0 : (nI d0).toInt.toNat = d0 := by (first | exact hC9 | exact hc6 | exact hl6 | omega | (have zz0 := Hid.u hb_cn; omega))
        refine lv_iload_n hx hb dX11_shared_27 rfl (lvA3 hl) ?_
        refine lv_iconst (v := 1) hx hb dX11_shared_28 kic_1 ?_
        refine lv_sipush (v := 400) hx hb dX11_shared_29 (by decide) ?_
        refine vp_callSi (runS_r (As := [.int v1, .int 1, .int 400]) (rest := []) S (q_l_within l D cI cB cZ v1 1 400) kS_RX11_80 hK hP [] rfl ⟨Nat.le_of_ble_eq_true rfl, Nat.le_of_ble_eq_true rfl⟩ ⟨Nat.le_of_ble_eq_true rfl, Nat.le_of_ble_eq_true rfl⟩ rfl hl.1 rfl (Nat.le_of_ble_eq_true rfl) dX11_shared_32) (fun r_40 h_41 => ?_)
        rcases h_41 with ⟨rfl, h_41⟩ | ⟨rfl, h_41⟩
        ·
          have h_41 : 1 ≤ v1.toInt ∧ v1.toInt ≤ 400 := h_41
          refine lv_if_eq (tgt := 43) hx hb dX11_shared_35 rfl (fun h => absurd h cq_eq_1_0) (fun _ => ?_)
          refine lv_iload hx hb dX11_shared_38 (lvA0 hl) ?_
          refine lv_if_ne (tgt := 45) hx hb dX11_shared_40 rfl (fun h => absurd h cq_eq_0_0) (fun _ => ?_)
          refine lv_iconst (v := (-1)) hx hb dX11_shared_43 kic_m1 ?_
          exact W.iret (v := (-1)) hx hb hr (fun t ht hW => ⟨⟨(-1), (cn, In, Fn), rfl, ⟨(Fr.mo Fr.rf (sbl rfl) (sbl rfl) (sbl rfl)), hB, (by show (¬ ((0 ≤ (nI d0).toInt ∧ (nI d0).toInt ≤ 399) ∧ (1 ≤ v1.toInt ∧ v1.toInt ≤ 400) ∧ (v2.toInt = -1 ∨ (0 ≤ v2.toInt ∧ v2.toInt < (cn 10 : Int)))) ∧ (-1) = -1) ∨ (((0 ≤ (nI d0).toInt ∧ (nI d0).toInt ≤ 399) ∧ (1 ≤ v1.toInt ∧ v1.toInt ≤ 400) ∧ (v2.toInt = -1 ∨ (0 ≤ v2.toInt ∧ v2.toInt < (cn 10 : Int)))) ∧ (∃ k : Nat, k < cn 10 ∧ (nI d0).toInt < (Fn 104 k).toInt) ∧ (-1) = -2) ∨ (((0 ≤ (nI d0).toInt ∧ (nI d0).toInt ≤ 399) ∧ (1 ≤ v1.toInt ∧ v1.toInt ≤ 400) ∧ (v2.toInt = -1 ∨ (0 ≤ v2.toInt ∧ v2.toInt < (cn 10 : Int)))) ∧ (∀ k : Nat, k < cn 10 → (Fn 104 k).toInt ≤ (nI d0).toInt) ∧ ((∃ l : List Nat, AL (fun k9 => v1.toInt ≤ ((if (Fn 102 k9 * ((nI d0) - (Fn 104) k9)) < Fn 103 k9 then Fn 102 k9 * ((nI d0) - (Fn 104) k9) else Fn 103 k9)).toInt) (cn 10) l ∧ 6 < l.length ∧ (-1) = -2) ∨ ∃ (l : List Nat) (T : Nat → Int32) (b y : Int32), AL (fun k9 => v1.toInt ≤ ((if (Fn 102 k9 * ((nI d0) - (Fn 104) k9)) < Fn 103 k9 then Fn 102 k9 * ((nI d0) - (Fn 104) k9) else Fn 103 k9)).toInt) (cn 10) l ∧ l.length ≤ 6 ∧ TBL (fun a b => wyX (Fn 100 (l.getD a 0)) (Fn 101 (l.getD a 0)) (Fn 100 (l.getD b 0)) (Fn 101 (l.getD b 0))) (fun a => Fn 100 (l.getD a 0) + Fn 101 (l.getD a 0)) l.length T (2 ^ l.length) ∧ BSP (fun (t : Nat) (z : Int32) => VSH (cn 1) l.length (fun i => (if (Fn 102 (l.getD i 0) * ((nI d0) - (Fn 104) (l.getD i 0))) < Fn 103 (l.getD i 0) then Fn 102 (l.getD i 0) * ((nI d0) - (Fn 104) (l.getD i 0)) else Fn 103 (l.getD i 0))) (fun j => ¬ Fn 28 (j * 400 + (nI d0).toInt.toNat) = 0) (Fn 27) (RND (fun a => Fn 100 (l.getD a 0) + Fn 101 (l.getD a 0)) l.length T) (DG (cn 1) l.length t) z) (cn 1 ^ l.length) b y ∧ SHG (cn 1) (DG (cn 1) l.length) l v2 (-1) b y)); exact (Or.inl ⟨by (first | exact hC9 | exact hc6 | exact hl6 | omega | (have zz0 := Hid.u hb_cn; omega)), rfl⟩))⟩, by rw [ht]; exact hP, hD⟩, hS.F ht⟩) hS.2.2 dX11_shared_44
        ·
          have h_41 : ¬ (1 ≤ v1.toInt ∧ v1.toInt ≤ 400) := h_41
          refine lv_if_eq (tgt := 43) hx hb dX11_shared_35 rfl (fun _ => ?_) (fun h => absurd h cq_eq_0_0)
          refine lv_iconst (v := (-1)) hx hb dX11_shared_43 kic_m1 ?_
          exact W.iret (v := (-1)) hx hb hr (fun t ht hW => ⟨⟨(-1), (cn, In, Fn), rfl, ⟨(Fr.mo Fr.rf (sbl rfl) (sbl rfl) (sbl rfl)), hB, (by show (¬ ((0 ≤ (nI d0).toInt ∧ (nI d0).toInt ≤ 399) ∧ (1 ≤ v1.toInt ∧ v1.toInt ≤ 400) ∧ (v2.toInt = -1 ∨ (0 ≤ v2.toInt ∧ v2.toInt < (cn 10 : Int)))) ∧ (-1) = -1) ∨ (((0 ≤ (nI d0).toInt ∧ (nI d0).toInt ≤ 399) ∧ (1 ≤ v1.toInt ∧ v1.toInt ≤ 400) ∧ (v2.toInt = -1 ∨ (0 ≤ v2.toInt ∧ v2.toInt < (cn 10 : Int)))) ∧ (∃ k : Nat, k < cn 10 ∧ (nI d0).toInt < (Fn 104 k).toInt) ∧ (-1) = -2) ∨ (((0 ≤ (nI d0).toInt ∧ (nI d0).toInt ≤ 399) ∧ (1 ≤ v1.toInt ∧ v1.toInt ≤ 400) ∧ (v2.toInt = -1 ∨ (0 ≤ v2.toInt ∧ v2.toInt < (cn 10 : Int)))) ∧ (∀ k : Nat, k < cn 10 → (Fn 104 k).toInt ≤ (nI d0).toInt) ∧ ((∃ l : List Nat, AL (fun k9 => v1.toInt ≤ ((if (Fn 102 k9 * ((nI d0) - (Fn 104) k9)) < Fn 103 k9 then Fn 102 k9 * ((nI d0) - (Fn 104) k9) else Fn 103 k9)).toInt) (cn 10) l ∧ 6 < l.length ∧ (-1) = -2) ∨ ∃ (l : List Nat) (T : Nat → Int32) (b y : Int32), AL (fun k9 => v1.toInt ≤ ((if (Fn 102 k9 * ((nI d0) - (Fn 104) k9)) < Fn 103 k9 then Fn 102 k9 * ((nI d0) - (Fn 104) k9) else Fn 103 k9)).toInt) (cn 10) l ∧ l.length ≤ 6 ∧ TBL (fun a b => wyX (Fn 100 (l.getD a 0)) (Fn 101 (l.getD a 0)) (Fn 100 (l.getD b 0)) (Fn 101 (l.getD b 0))) (fun a => Fn 100 (l.getD a 0) + Fn 101 (l.getD a 0)) l.length T (2 ^ l.length) ∧ BSP (fun (t : Nat) (z : Int32) => VSH (cn 1) l.length (fun i => (if (Fn 102 (l.getD i 0) * ((nI d0) - (Fn 104) (l.getD i 0))) < Fn 103 (l.getD i 0) then Fn 102 (l.getD i 0) * ((nI d0) - (Fn 104) (l.getD i 0)) else Fn 103 (l.getD i 0))) (fun j => ¬ Fn 28 (j * 400 + (nI d0).toInt.toNat) = 0) (Fn 27) (RND (fun a => Fn 100 (l.getD a 0) + Fn 101 (l.getD a 0)) l.length T) (DG (cn 1) l.length t) z) (cn 1 ^ l.length) b y ∧ SHG (cn 1) (DG (cn 1) l.length) l v2 (-1) b y)); exact (Or.inl ⟨by (first | exact hC9 | exact hc6 | exact hl6 | omega | (have zz0 := Hid.u hb_cn; omega)), rfl⟩))⟩, by rw [ht]; exact hP, hD⟩, hS.F ht⟩) hS.2.2 dX11_shared_44
      ·
        have h_39 : ¬ (0 ≤ v0.toInt ∧ v0.toInt ≤ 399) := h_39
        refine lv_if_eq (tgt := 43) hx hb dX11_shared_24 rfl (fun _ => ?_) (fun h => absurd h cq_eq_0_0)
        refine lv_iconst (v := (-1)) hx hb dX11_shared_43 kic_m1 ?_
        exact W.iret (v := (-1)) hx hb hr (fun t ht hW => ⟨⟨(-1), (cn, In, Fn), rfl, ⟨(Fr.mo Fr.rf (sbl rfl) (sbl rfl) (sbl rfl)), hB, (by show (¬ ((0 ≤ v0.toInt ∧ v0.toInt ≤ 399) ∧ (1 ≤ v1.toInt ∧ v1.toInt ≤ 400) ∧ (v2.toInt = -1 ∨ (0 ≤ v2.toInt ∧ v2.toInt < (cn 10 : Int)))) ∧ (-1) = -1) ∨ (((0 ≤ v0.toInt ∧ v0.toInt ≤ 399) ∧ (1 ≤ v1.toInt ∧ v1.toInt ≤ 400) ∧ (v2.toInt = -1 ∨ (0 ≤ v2.toInt ∧ v2.toInt < (cn 10 : Int)))) ∧ (∃ k : Nat, k < cn 10 ∧ v0.toInt < (Fn 104 k).toInt) ∧ (-1) = -2) ∨ (((0 ≤ v0.toInt ∧ v0.toInt ≤ 399) ∧ (1 ≤ v1.toInt ∧ v1.toInt ≤ 400) ∧ (v2.toInt = -1 ∨ (0 ≤ v2.toInt ∧ v2.toInt < (cn 10 : Int)))) ∧ (∀ k : Nat, k < cn 10 → (Fn 104 k).toInt ≤ v0.toInt) ∧ ((∃ l : List Nat, AL (fun k9 => v1.toInt ≤ ((if (Fn 102 k9 * (v0 - (Fn 104) k9)) < Fn 103 k9 then Fn 102 k9 * (v0 - (Fn 104) k9) else Fn 103 k9)).toInt) (cn 10) l ∧ 6 < l.length ∧ (-1) = -2) ∨ ∃ (l : List Nat) (T : Nat → Int32) (b y : Int32), AL (fun k9 => v1.toInt ≤ ((if (Fn 102 k9 * (v0 - (Fn 104) k9)) < Fn 103 k9 then Fn 102 k9 * (v0 - (Fn 104) k9) else Fn 103 k9)).toInt) (cn 10) l ∧ l.length ≤ 6 ∧ TBL (fun a b => wyX (Fn 100 (l.getD a 0)) (Fn 101 (l.getD a 0)) (Fn 100 (l.getD b 0)) (Fn 101 (l.getD b 0))) (fun a => Fn 100 (l.getD a 0) + Fn 101 (l.getD a 0)) l.length T (2 ^ l.length) ∧ BSP (fun (t : Nat) (z : Int32) => VSH (cn 1) l.length (fun i => (if (Fn 102 (l.getD i 0) * (v0 - (Fn 104) (l.getD i 0))) < Fn 103 (l.getD i 0) then Fn 102 (l.getD i 0) * (v0 - (Fn 104) (l.getD i 0)) else Fn 103 (l.getD i 0))) (fun j => ¬ Fn 28 (j * 400 + v0.toInt.toNat) = 0) (Fn 27) (RND (fun a => Fn 100 (l.getD a 0) + Fn 101 (l.getD a 0)) l.length T) (DG (cn 1) l.length t) z) (cn 1 ^ l.length) b y ∧ SHG (cn 1) (DG (cn 1) l.length) l v2 (-1) b y)); exact (Or.inl ⟨by (first | exact hC9 | exact hc6 | exact hl6 | omega | (have zz0 := Hid.u hb_cn; omega)), rfl⟩))⟩, by rw [ht]; exact hP, hD⟩, hS.F ht⟩) hS.2.2 dX11_shared_44
