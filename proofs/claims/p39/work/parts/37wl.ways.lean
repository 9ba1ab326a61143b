/-- all numbers below m of which P is true, in their order -/
def AL (P : Nat → Prop) : Nat → List Nat → Prop
  | 0, l => l = []
  | m + 1, l => ∃ l0 : List Nat, AL P m l0 ∧ ((P m ∧ l = l0 ++ [m]) ∨ (¬ P m ∧ l = l0))
/-- a row that holds what g says of the list's numbers -/
def RWF (f g : Nat → Int32) (l : List Nat) : Prop := ∀ k z : Nat, l[k]? = some z → f k = g z
section ALS
variable {P Q : Nat → Prop} {m k z : Nat} {l l2 : List Nat} {f g : Nat → Int32} {x : Int32}
theorem AL.yx (h : AL P m l) (hp : P m) : AL P (m + 1) (l ++ [m]) := ⟨l, h, Or.inl ⟨hp, rfl⟩⟩
theorem AL.nx (h : AL P m l) (hp : ¬ P m) : AL P (m + 1) l := ⟨l, h, Or.inr ⟨hp, rfl⟩⟩
theorem AL.el : ∀ (m : Nat) (l : List Nat), AL P m l → ∀ k z : Nat, l[k]? = some z → z < m ∧ P z
  | 0, l, h, k, z, hz => by
    rw [show l = [] from h, List.getElem?_nil] at hz
    cases hz
  | m + 1, l, h, k, z, hz => by
    obtain ⟨l0, h0, h | h⟩ := h
    · rw [h.2] at hz
      rcases Nat.lt_or_ge k l0.length with q | q
      · rw [List.getElem?_append_left q] at hz
        have := AL.el m l0 h0 k z hz
        exact ⟨Nat.lt_succ_of_lt this.1, this.2⟩
      · rw [List.getElem?_append_right q] at hz
        have e1 : k - l0.length < 1 := (List.getElem?_eq_some_iff.mp hz).1
        rw [show k - l0.length = 0 by omega] at hz
        obtain rfl : m = z := Option.some.inj hz
        exact ⟨Nat.lt_succ_self _, h.1⟩
    · rw [h.2] at hz
      have := AL.el m l0 h0 k z hz
      exact ⟨Nat.lt_succ_of_lt this.1, this.2⟩
theorem AL.mem : ∀ (m : Nat) (l : List Nat), AL P m l → ∀ z : Nat, z ∈ l ↔ z < m ∧ P z
  | 0, l, h, z => by
    rw [show l = [] from h]
    exact ⟨fun w => absurd w List.not_mem_nil, fun w => absurd w.1 (Nat.not_lt_zero z)⟩
  | m + 1, l, h, z => by
    obtain ⟨l0, h0, h | h⟩ := h
    · rw [h.2, List.mem_append, AL.mem m l0 h0 z, List.mem_singleton]
      constructor
      · rintro (w | w)
        · exact ⟨Nat.lt_succ_of_lt w.1, w.2⟩
        · rw [w]
          exact ⟨Nat.lt_succ_self m, h.1⟩
      · intro w
        by_cases q : z = m
        · exact Or.inr q
        · exact Or.inl ⟨by omega, w.2⟩
    · rw [h.2, AL.mem m l0 h0 z]
      constructor
      · exact fun w => ⟨Nat.lt_succ_of_lt w.1, w.2⟩
      · intro w
        have q : ¬ z = m := fun q => h.1 (q ▸ w.2)
        exact ⟨by omega, w.2⟩
theorem AL.un : ∀ (m : Nat) (l l2 : List Nat), (∀ z : Nat, z < m → (P z ↔ Q z)) → AL P m l → AL Q m l2 → l = l2
  | 0, l, l2, _, h, h2 => (show l = [] from h).trans (show l2 = [] from h2).symm
  | m + 1, l, l2, e, h, h2 => by
    obtain ⟨l0, h0, h⟩ := h
    obtain ⟨l3, h3, h2⟩ := h2
    obtain rfl : l3 = l0 := (AL.un m l0 l3 (fun z hz => e z (Nat.lt_succ_of_lt hz)) h0 h3).symm
    have e9 := e m (Nat.lt_succ_self m)
    rcases h with ⟨a2, a3⟩ | ⟨a1, a3⟩ <;> rcases h2 with ⟨b2, b3⟩ | ⟨b1, b3⟩
    · rw [a3, b3]
    · exact absurd (e9.mp a2) b1
    · exact absurd (e9.mpr b2) a1
    · rw [a3, b3]
theorem RWF.nil : RWF f g [] := fun k z h => by
  rw [List.getElem?_nil] at h
  cases h
theorem RWF.put (h : RWF f g l) (e : x = g z) : RWF (upd f l.length x) g (l ++ [z]) := fun k y hk => by
  rcases Nat.lt_trichotomy k l.length with q | q | q
  · rw [List.getElem?_append_left q] at hk
    rw [show upd f l.length x k = f k from if_neg (by omega)]
    exact h k y hk
  · subst q
    rw [List.getElem?_append_right (Nat.le_refl _), Nat.sub_self] at hk
    obtain rfl : z = y := Option.some.inj hk
    rw [upd_self]
    exact e
  · have := (List.getElem?_eq_some_iff.mp hk).1
    rw [List.length_append] at this
    have : k < l.length + 1 := this
    omega
theorem RWF.at (h : RWF f g l) (hk : k < l.length) : f k = g (l.getD k 0) := by
  have e : l[k]? = some l[k] := List.getElem?_eq_getElem hk
  rw [List.getD_eq_getElem?_getD, e]
  exact h k _ e
theorem AL.ge (h : AL P m l) (hk : k < l.length) : l.getD k 0 < m ∧ P (l.getD k 0) := by
  have e : l[k]? = some l[k] := List.getElem?_eq_getElem hk
  rw [List.getD_eq_getElem?_getD, e]
  exact AL.el m l h k _ e
end ALS
/-- the least of what g says of a set's numbers below m -/
def MNR (S m : Nat) (g : Nat → Int32) (r : Int32) : Prop := (∃ b : Nat, b < m ∧ S.testBit b = true ∧ r = g b) ∧ ∀ b : Nat, b < m → S.testBit b = true → r.toInt ≤ (g b).toInt
/-- the least so far: none yet is told by n -/
def PMN (n : Int32) (S m : Nat) (g : Nat → Int32) (r : Int32) : Prop := (r = n ∧ ∀ b : Nat, b < m → S.testBit b = false) ∨ MNR S m g r
section MNS
variable {S m i a b s : Nat} {g h : Nat → Int32} {n r x y : Int32}
theorem MNR.un (e : ∀ b : Nat, b < m → S.testBit b = true → g b = h b) (p : MNR S m g x) (q : MNR S m h y) : x = y := by
  obtain ⟨⟨b, hb, tb, eb⟩, p2⟩ := p
  obtain ⟨⟨c, hc, tc, ec⟩, q2⟩ := q
  have u := p2 c hc tc
  have v := q2 b hb tb
  rw [e c hc tc, ← ec] at u
  rw [← e b hb tb, ← eb] at v
  exact Int32.toInt_inj.mp (by omega)
theorem MNR.cg (e : ∀ b : Nat, b < m → S.testBit b = true → g b = h b) (p : MNR S m g x) : MNR S m h x := by
  obtain ⟨⟨b, hb, tb, eb⟩, p2⟩ := p
  exact ⟨⟨b, hb, tb, eb.trans (e b hb tb)⟩, fun c hc tc => by rw [← e c hc tc]; exact p2 c hc tc⟩
theorem PMN.z : PMN n S 0 g n := Or.inl ⟨rfl, fun b hb => absurd hb (Nat.not_lt_zero b)⟩
theorem PMN.no (p : PMN n S i g x) (hb : S.testBit i = false) : PMN n S (i + 1) g x := by
  rcases p with ⟨p, q⟩ | ⟨⟨c, hc, tc, ec⟩, p⟩
  · exact Or.inl ⟨p, fun b h => if e : b = i then (by rw [e]; exact hb) else q b (by omega)⟩
  · exact Or.inr ⟨⟨c, Nat.lt_succ_of_lt hc, tc, ec⟩, fun b h tb => if e : b = i then (by rw [e, hb] at tb; cases tb) else p b (by omega) tb⟩
/-- one more, and it is less (or the first) -/
theorem PMN.put (p : PMN n S i g x) (hb : S.testBit i = true) (hl : x = n ∨ (g i).toInt ≤ x.toInt) (hn : ∀ b : Nat, b < i → S.testBit b = true → ¬ g b = n) : PMN n S (i + 1) g (g i) := by
  refine Or.inr ⟨⟨i, Nat.lt_succ_self i, hb, rfl⟩, fun b h tb => ?_⟩
  by_cases e : b = i
  · rw [e]
    exact Int.le_refl _
  · rcases p with ⟨p, q⟩ | ⟨⟨c, hc, tc, ec⟩, p⟩
    · have w := q b (by omega)
      rw [tb] at w
      cases w
    · rcases hl with hl | hl
      · exact absurd (ec.symm.trans hl) (hn c hc tc)
      · have w := p b (by omega) tb
        omega
/-- one more, and it is not less -/
theorem PMN.ge (p : PMN n S i g x) (hl : x.toInt ≤ (g i).toInt) (hx : ¬ x = n ∨ (n.toInt < x.toInt ∨ (g i).toInt < n.toInt)) : PMN n S (i + 1) g x := by
  rcases p with ⟨p, q⟩ | ⟨⟨c, hc, tc, ec⟩, p⟩
  · rcases hx with hx | hx | hx
    · exact absurd p hx
    · rw [p] at hx
      exact absurd hx (by omega)
    · rw [p] at hl
      exact absurd hx (by omega)
  · exact Or.inr ⟨⟨c, Nat.lt_succ_of_lt hc, tc, ec⟩, fun b h tb => if e : b = i then (by rw [e]; exact hl) else p b (by omega) tb⟩
theorem MNR.bd (p : MNR S m g r) (h0 : ∀ b : Nat, b < m → S.testBit b = true → 0 ≤ (g b).toInt ∧ (g b).toInt ≤ s) : 0 ≤ r.toInt ∧ r.toInt ≤ s := by
  obtain ⟨⟨b, hb, tb, eb⟩, -⟩ := p
  rw [eb]
  exact h0 b hb tb
end MNS
/-- the ways from each of the list's places through a set of them and home: told for all sets below s -/
def TBR (w : Nat → Nat → Int32) (dep : Nat → Int32) (m : Nat) (T : Nat → Int32) (S a : Nat) : Prop := ((∀ b : Nat, b < m → S.testBit b = false) ∧ T (8 * S + a) = dep a) ∨ MNR S m (fun b => w a b + T (8 * clr S b + b)) (T (8 * S + a))
def TBL (w : Nat → Nat → Int32) (dep : Nat → Int32) (m : Nat) (T : Nat → Int32) (s : Nat) : Prop := ∀ S : Nat, S < s → ∀ a : Nat, a < m → S.testBit a = false → TBR w dep m T S a
/-- the way out, through a set and home -/
def RND (dep : Nat → Int32) (m : Nat) (T : Nat → Int32) (S : Nat) (r : Int32) : Prop := ((∀ b : Nat, b < m → S.testBit b = false) ∧ r = 0) ∨ MNR S m (fun b => dep b + T (8 * clr S b + b)) r
section TBS
variable {w w2 : Nat → Nat → Int32} {dep dep2 T T2 : Nat → Int32} {m s S a b : Nat} {r r2 : Int32}
theorem clr_lt (h : S.testBit b = true) : clr S b < S := by
  unfold clr
  rw [if_pos h]
  have p : 0 < 2 ^ b := Nat.two_pow_pos b
  have q : 2 ^ b ≤ S := Nat.ge_two_pow_of_testBit h
  omega
theorem clr_z (hS : S ≤ 255) (hb : b ≤ 7) : (clr S b).testBit b = false := by
  rw [clr_bit hS hb hb, beq_self_eq_true, Bool.not_true, Bool.and_false]
theorem TBL.un (hs : s ≤ 256) (hm : m ≤ 8) (hw : ∀ a b : Nat, a < m → b < m → w a b = w2 a b) (hd : ∀ a : Nat, a < m → dep a = dep2 a) (p : TBL w dep m T s) (q : TBL w2 dep2 m T2 s) : ∀ n S : Nat, S < n → S < s → ∀ a : Nat, a < m → S.testBit a = false → T (8 * S + a) = T2 (8 * S + a)
  | 0, S, h, _, _, _, _ => absurd h (Nat.not_lt_zero S)
  | n + 1, S, h, hS, a, ha, ta => by
    rcases p S hS a ha ta with ⟨p1, p2⟩ | p1 <;> rcases q S hS a ha ta with ⟨q1, q2⟩ | q1
    · rw [p2, q2, hd a ha]
    · obtain ⟨⟨b, hb, tb, -⟩, -⟩ := q1
      rw [p1 b hb] at tb
      cases tb
    · obtain ⟨⟨b, hb, tb, -⟩, -⟩ := p1
      rw [q1 b hb] at tb
      cases tb
    · refine MNR.un (fun b hb tb => ?_) p1 q1
      have c := clr_lt tb
      show w a b + T (8 * clr S b + b) = w2 a b + T2 (8 * clr S b + b)
      rw [hw a b ha hb, TBL.un hs hm hw hd p q n (clr S b) (by omega) (by omega) b hb (clr_z (by omega) (by omega))]
theorem RND.un (hS : S < 256) (hm : m ≤ 8) (hd : ∀ a : Nat, a < m → dep a = dep2 a) (hT : ∀ U : Nat, U < S → ∀ a : Nat, a < m → U.testBit a = false → T (8 * U + a) = T2 (8 * U + a)) (p : RND dep m T S r) (q : RND dep2 m T2 S r2) : r = r2 := by
  rcases p with ⟨p1, p2⟩ | p1 <;> rcases q with ⟨q1, q2⟩ | q1
  · rw [p2, q2]
  · obtain ⟨⟨b, hb, tb, -⟩, -⟩ := q1
    rw [p1 b hb] at tb
    cases tb
  · obtain ⟨⟨b, hb, tb, -⟩, -⟩ := p1
    rw [q1 b hb] at tb
    cases tb
  · refine MNR.un (fun b hb tb => ?_) p1 q1
    show dep b + T (8 * clr S b + b) = dep2 b + T2 (8 * clr S b + b)
    rw [hd b hb, hT (clr S b) (clr_lt tb) b hb (clr_z (by omega) (by omega))]
/-- a table is not touched by what is written behind -/
theorem TBR.cg (hm : m ≤ 8) (p : TBR w dep m T S a) (e : T2 (8 * S + a) = T (8 * S + a)) (h : ∀ j : Nat, j < 8 * S → T2 j = T j) : TBR w dep m T2 S a := by
  rcases p with ⟨p1, p2⟩ | p1
  · exact Or.inl ⟨p1, e.trans p2⟩
  · refine Or.inr ?_
    rw [e]
    refine p1.cg (fun b hb tb => ?_)
    have c := clr_lt tb
    show w a b + T (8 * clr S b + b) = w a b + T2 (8 * clr S b + b)
    rw [h (8 * clr S b + b) (by omega)]
theorem TBL.cg (hm : m ≤ 8) (p : TBL w dep m T s) (h : ∀ j : Nat, j < 8 * s → T2 j = T j) : TBL w dep m T2 s := fun S hS a ha ta => (p S hS a ha ta).cg hm (h _ (by omega)) (fun j hj => h j (by omega))
theorem RND.cg (hm : m ≤ 8) (p : RND dep m T S r) (h : ∀ j : Nat, j < 8 * S → T2 j = T j) : RND dep m T2 S r := by
  rcases p with p | p
  · exact Or.inl p
  · refine Or.inr (p.cg (fun b hb tb => ?_))
    have c := clr_lt tb
    show dep b + T (8 * clr S b + b) = dep b + T2 (8 * clr S b + b)
    rw [h (8 * clr S b + b) (by omega)]
theorem i32_add {x y : Int32} (h0 : 0 ≤ x.toInt) (h1 : x.toInt ≤ 1000000) (h2 : 0 ≤ y.toInt) (h3 : y.toInt ≤ 1000000) : (x + y).toInt = x.toInt + y.toInt := by
  rw [Int32.toInt_add]
  exact Int.bmod_eq_of_le (by show -(2 ^ 31 : Int) ≤ x.toInt + y.toInt; omega) (by show x.toInt + y.toInt < (2 ^ 31 : Int); omega)
/-- how long a way is at most -/
theorem TBL.bd (hs : s ≤ 256) (hm : m ≤ 8) (hw : ∀ a b : Nat, a < m → b < m → 0 ≤ (w a b).toInt ∧ (w a b).toInt ≤ 198) (hd : ∀ a : Nat, a < m → 0 ≤ (dep a).toInt ∧ (dep a).toInt ≤ 198) (p : TBL w dep m T s) : ∀ n S : Nat, S < n → S < s → ∀ a : Nat, a < m → S.testBit a = false → 0 ≤ (T (8 * S + a)).toInt ∧ (T (8 * S + a)).toInt ≤ 200 * ((S : Int) + 1)
  | 0, S, h, _, _, _, _ => absurd h (Nat.not_lt_zero S)
  | n + 1, S, h, hS, a, ha, ta => by
    rcases p S hS a ha ta with ⟨-, p2⟩ | ⟨⟨b, hb, tb, eb⟩, -⟩
    · rw [p2]
      have := hd a ha
      omega
    · have c := clr_lt tb
      have i := TBL.bd hs hm hw hd p n (clr S b) (by omega) (by omega) b hb (clr_z (by omega) (by omega))
      have j := hw a b ha hb
      rw [eb]
      show 0 ≤ (w a b + T (8 * clr S b + b)).toInt ∧ (w a b + T (8 * clr S b + b)).toInt ≤ 200 * ((S : Int) + 1)
      rw [i32_add (by omega) (by omega) (by omega) (by omega)]
      omega
end TBS
section WYS
variable {S m a b n s : Nat} {g f h : Nat → Int32} {x y u v r : Int32}
theorem ng1 (h0 : 0 ≤ x.toInt) : ¬ x = -1 := fun w => by
  rw [w] at h0
  exact absurd h0 (by decide)
theorem bitw {c i : Nat} (hc : c ≤ 255) (hi : i ≤ 7) : (nI c >>> (nI i &&& 31)) &&& 1 = 0 ↔ c.testBit i = false := by
  rcases bitc hc hi with ⟨p, q⟩ | ⟨p, q⟩
  · exact ⟨fun _ => p, fun _ => q⟩
  · rw [p, q]
    exact ⟨fun w => absurd w (by decide), fun w => Bool.noConfusion w⟩
theorem bit_n1 {c i : Nat} (hc : c ≤ 255) (hi : i ≤ 7) (q : ¬ (nI c >>> (nI i &&& 31)) &&& 1 = 0) : c.testBit i = true := by
  cases e : c.testBit i with
  | true => rfl
  | false => exact absurd ((bitw hc hi).mpr e) q
theorem putW {f : Nat → Int32} {n i : Nat} {x : Int32} (hi : i < n) (hn : n < 2 ^ 31) : putM f n (nI i) x = upd f i x := by
  unfold putM
  rw [nI_toInt (by omega), if_pos ⟨by omega, by omega⟩, nI_clamp (by omega)]
theorem nIw_inj {a b : Nat} (ha : a < 2 ^ 31) (hb : b < 2 ^ 31) (h : nI a = nI b) : a = b := by
  have := congrArg Int32.toInt h
  rw [nI_toInt ha, nI_toInt hb] at this
  omega
theorem PMN.f1 (p : PMN (-1) S m g x) (hx : x = -1) (hg : ∀ b : Nat, b < m → S.testBit b = true → ¬ g b = -1) : ∀ b : Nat, b < m → S.testBit b = false := by
  rcases p with p | ⟨⟨c, hc, tc, ec⟩, -⟩
  · exact p.2
  · exact absurd (ec.symm.trans hx) (hg c hc tc)
theorem PMN.f2 {k : Int32} (p : PMN k S m g x) (hx : ¬ x = k) : MNR S m g x := p.elim (fun q => absurd q.1 hx) id
theorem atM_n (ha : a < n) (hn : n < 2 ^ 31) : atM f n (nI a) = f a := by
  unfold atM
  rw [nI_toInt (by omega), if_pos ⟨by omega, by omega⟩, nI_clamp (by omega)]
theorem atM_m : atM f n (-1) = 0 := if_neg (fun w => absurd w.1 (by decide))
theorem wy_n (ha : a < 8) (hb : b < 8) : wyX (atM f 8 (nI a)) (atM g 8 (nI a)) (atM f 8 (nI b)) (atM g 8 (nI b)) = wyX (f a) (g a) (f b) (g b) := by
  rw [atM_n ha (by decide), atM_n ha (by decide), atM_n hb (by decide), atM_n hb (by decide)]
theorem ab_1 (h1 : 0 ≤ u.toInt) (h2 : u.toInt ≤ 99) : (if 0 ≤ (0 - u) then (0 - u) else 0 - (0 - u)) = u := by
  have z : (0 : Int32).toInt = 0 := rfl
  rw [ab_eq (x := 0) (by rw [z]; omega) (by rw [z]; omega) h1 h2]
  by_cases q : (0 : Int32) < u
  · rw [if_pos q, Int32.sub_zero]
  · have e : u = 0 := Int32.toInt_inj.mp (by
      have w : ¬ (0 : Int32).toInt < u.toInt := fun w => q (Int32.lt_iff_toInt_lt.mpr w)
      rw [z] at w
      rw [z]
      omega)
    rw [if_neg q, e]
    rfl
theorem ab_2 (h1 : 0 ≤ u.toInt) (h2 : u.toInt ≤ 99) : (if 0 ≤ (u - 0) then (u - 0) else 0 - (u - 0)) = u := by
  have z : (0 : Int32).toInt = 0 := rfl
  rw [Int32.sub_zero, if_pos (Int32.le_iff_toInt_le.mpr (by rw [z]; exact h1))]
theorem sb_i (h1 : 0 ≤ x.toInt) (h2 : x.toInt ≤ 99) (h3 : 0 ≤ u.toInt) (h4 : u.toInt ≤ 99) : (x - u).toInt = x.toInt - u.toInt := by
  rw [Int32.toInt_sub]
  exact Int.bmod_eq_of_le (by show -(2 ^ 31 : Int) ≤ x.toInt - u.toInt; omega) (by show x.toInt - u.toInt < (2 ^ 31 : Int); omega)
theorem ab_b (h1 : 0 ≤ x.toInt) (h2 : x.toInt ≤ 99) (h3 : 0 ≤ u.toInt) (h4 : u.toInt ≤ 99) : 0 ≤ (if 0 ≤ (x - u) then (x - u) else 0 - (x - u)).toInt ∧ (if 0 ≤ (x - u) then (x - u) else 0 - (x - u)).toInt ≤ 99 := by
  rw [ab_eq h1 h2 h3 h4]
  by_cases q : x < u
  · have := Int32.lt_iff_toInt_lt.mp q
    rw [if_pos q, sb_i h3 h4 h1 h2]
    omega
  · have : ¬ x.toInt < u.toInt := fun w => q (Int32.lt_iff_toInt_lt.mpr w)
    rw [if_neg q, sb_i h1 h2 h3 h4]
    omega
/-- a place of the town -/
def XYB (x y : Int32) : Prop := (0 ≤ x.toInt ∧ x.toInt ≤ 99) ∧ 0 ≤ y.toInt ∧ y.toInt ≤ 99
theorem wy_b (p : XYB x y) (q : XYB u v) : 0 ≤ (wyX x y u v).toInt ∧ (wyX x y u v).toInt ≤ 198 := by
  have i := ab_b p.1.1 p.1.2 q.1.1 q.1.2
  have j := ab_b p.2.1 p.2.2 q.2.1 q.2.2
  unfold wyX
  rw [i32_add i.1 (by omega) j.1 (by omega)]
  omega
theorem wy_h (p : XYB x y) : wyX x y 0 0 = x + y := by
  unfold wyX
  rw [ab_2 p.1.1 p.1.2, ab_2 p.2.1 p.2.2]
theorem wy_o (p : XYB x y) : wyX 0 0 x y = x + y := by
  unfold wyX
  rw [ab_1 p.1.1 p.1.2, ab_1 p.2.1 p.2.2]
theorem dp_b (p : XYB x y) : 0 ≤ (x + y).toInt ∧ (x + y).toInt ≤ 198 := by
  rw [i32_add p.1.1 (by have := p.1.2; omega) p.2.1 (by have := p.2.2; omega)]
  have := p.1
  have := p.2
  omega
theorem wy_00 : wyX 0 0 0 0 = 0 := by decide
theorem wy_ap (p : XYB x y) (q : XYB u v) : wyX x y u v = apM x y u v := by
  unfold wyX apM
  rw [ab_eq p.1.1 p.1.2 q.1.1 q.1.2, ab_eq p.2.1 p.2.2 q.2.1 q.2.2]
end WYS
section TBT
variable {w w2 : Nat → Nat → Int32} {dep dep2 T T2 : Nat → Int32} {m s S a b c : Nat} {r r2 x : Int32}
theorem upd_n {f : Nat → Int32} {k j : Nat} {v : Int32} (q : ¬ j = k) : upd f k v j = f j := if_neg q
theorem TBR.put (hm : m ≤ 8) (ha : a < 8) (h : ((∀ b : Nat, b < m → S.testBit b = false) ∧ r = dep a) ∨ MNR S m (fun b => w a b + T (8 * clr S b + b)) r) : TBR w dep m (upd T (8 * S + a) r) S a := by
  unfold TBR
  rw [upd_self]
  rcases h with h | h
  · exact Or.inl h
  · refine Or.inr (h.cg (fun b hb tb => ?_))
    have := clr_lt tb
    show w a b + T (8 * clr S b + b) = w a b + upd T (8 * S + a) r (8 * clr S b + b)
    rw [upd_n (by omega)]
theorem TBL.put (hm : m ≤ 8) (p : TBL w dep m T s) : TBL w dep m (upd T (8 * s + a) r) s := p.cg hm (fun j hj => upd_n (by omega))
theorem TBR.oth (hm : m ≤ 8) (p : TBR w dep m T S b) (q : ¬ b = a) : TBR w dep m (upd T (8 * S + a) r) S b := p.cg hm (upd_n (by omega)) (fun j hj => upd_n (by omega))
theorem RND.put (hm : m ≤ 8) (hS : S < s) (p : RND dep m T S x) : RND dep m (upd T (8 * s + a) r) S x := p.cg hm (fun j hj => upd_n (by omega))
theorem TBL.sc (p : TBL w dep m T s) (q : ∀ a : Nat, a < m → s.testBit a = false → TBR w dep m T s a) : TBL w dep m T (s + 1) := fun S hS a ha ta => if e : S = s then (by subst e; exact q a ha ta) else p S (by omega) a ha ta
theorem TBL.z : TBL w dep m T 0 := fun S hS => absurd hS (Nat.not_lt_zero S)
/-- what one more step adds to the ways told -/
theorem TBL.g (hs : s ≤ 255) (hm : m ≤ 8) (hw : ∀ a b : Nat, a < m → b < m → 0 ≤ (w a b).toInt ∧ (w a b).toInt ≤ 198) (hd : ∀ a : Nat, a < m → 0 ≤ (dep a).toInt ∧ (dep a).toInt ≤ 198) (p : TBL w dep m T s) (hx : 0 ≤ x.toInt ∧ x.toInt ≤ 198) (hb : b < m) (tb : s.testBit b = true) : 0 ≤ (x + T (8 * clr s b + b)).toInt ∧ (x + T (8 * clr s b + b)).toInt < 1000000 := by
  have c9 := clr_lt tb
  have i := TBL.bd (by omega) hm hw hd p (clr s b + 1) (clr s b) (Nat.lt_succ_self _) c9 b hb (clr_z hs (by omega))
  rw [i32_add hx.1 (by omega) i.1 (by omega)]
  omega
theorem TBL.cw (hw : ∀ a b : Nat, a < m → b < m → w a b = w2 a b) (hd : ∀ a : Nat, a < m → dep a = dep2 a) (p : TBL w dep m T s) : TBL w2 dep2 m T s := fun S hS a ha ta => by
  rcases p S hS a ha ta with ⟨p1, p2⟩ | p1
  · exact Or.inl ⟨p1, p2.trans (hd a ha)⟩
  · exact Or.inr (p1.cg (fun b hb tb => by
      show w a b + T (8 * clr S b + b) = w2 a b + T (8 * clr S b + b)
      rw [hw a b ha hb]))
theorem RND.cw (hd : ∀ a : Nat, a < m → dep a = dep2 a) (p : RND dep m T S r) : RND dep2 m T S r := by
  rcases p with p | p
  · exact Or.inl p
  · exact Or.inr (p.cg (fun b hb tb => by
      show dep b + T (8 * clr S b + b) = dep2 b + T (8 * clr S b + b)
      rw [hd b hb]))
end TBT
section ALM
variable {P : Nat → Prop} {m k z i : Nat} {l : List Nat}
theorem AL.mo : ∀ (d m : Nat) (l : List Nat), AL P m l → ∃ l2 : List Nat, AL P (m + d) l2 ∧ l.length ≤ l2.length
  | 0, m, l, h => ⟨l, h, Nat.le_refl _⟩
  | d + 1, m, l, h => by
    obtain ⟨l2, h2, hl⟩ := AL.mo d m l h
    by_cases q : P (m + d)
    · refine ⟨l2 ++ [m + d], AL.yx h2 q, ?_⟩
      rw [List.length_append]
      exact Nat.le_succ_of_le hl
    · exact ⟨l2, AL.nx h2 q, hl⟩
/-- too many, when there is one more -/
theorem AL.too (h : AL P i l) (hp : P i) (hi : i < m) : ∃ l2 : List Nat, AL P m l2 ∧ l.length < l2.length := by
  obtain ⟨l2, h2, hl⟩ := AL.mo (m - (i + 1)) (i + 1) _ (AL.yx h hp)
  rw [show i + 1 + (m - (i + 1)) = m by omega] at h2
  rw [List.length_append] at hl
  exact ⟨l2, h2, hl⟩
end ALM
section SHS
variable {f g f0 g0 T : Nat → Int32} {S m a : Nat} {r : Int32}
theorem SHX_n (ef : f = f0) (eg : g = g0) (hm : m ≤ 8) (ha : a < m) (hxy : XYB (f0 a) (g0 a)) (h : ((∀ b : Nat, b < m → S.testBit b = false) ∧ r = wyX (atM f 8 (nI a)) (atM g 8 (nI a)) (atM f 8 (-1)) (atM g 8 (-1))) ∨ MNR S m (fun b => wyX (atM f 8 (nI a)) (atM g 8 (nI a)) (atM f 8 (nI b)) (atM g 8 (nI b)) + T (8 * clr S b + b)) r) : ((∀ b : Nat, b < m → S.testBit b = false) ∧ r = f0 a + g0 a) ∨ MNR S m (fun b => wyX (f0 a) (g0 a) (f0 b) (g0 b) + T (8 * clr S b + b)) r := by
  subst ef
  subst eg
  rcases h with ⟨p, q⟩ | p
  · refine Or.inl ⟨p, q.trans ?_⟩
    rw [atM_n (by omega) (by decide), atM_n (by omega) (by decide), atM_m, atM_m]
    exact wy_h hxy
  · refine Or.inr (p.cg (fun b hb tb => ?_))
    show wyX (atM f 8 (nI a)) (atM g 8 (nI a)) (atM f 8 (nI b)) (atM g 8 (nI b)) + _ = wyX (f a) (g a) (f b) (g b) + _
    rw [wy_n (by omega) (by omega)]
theorem SHX_o (ef : f = f0) (eg : g = g0) (hm : m ≤ 8) (hxy : ∀ a : Nat, a < m → XYB (f0 a) (g0 a)) (h : ((∀ b : Nat, b < m → S.testBit b = false) ∧ r = wyX (atM f 8 (-1)) (atM g 8 (-1)) (atM f 8 (-1)) (atM g 8 (-1))) ∨ MNR S m (fun b => wyX (atM f 8 (-1)) (atM g 8 (-1)) (atM f 8 (nI b)) (atM g 8 (nI b)) + T (8 * clr S b + b)) r) : RND (fun a => f0 a + g0 a) m T S r := by
  subst ef
  subst eg
  rcases h with ⟨p, q⟩ | p
  · refine Or.inl ⟨p, q.trans ?_⟩
    rw [atM_m, atM_m]
    exact wy_00
  · refine Or.inr (p.cg (fun b hb tb => ?_))
    show wyX (atM f 8 (-1)) (atM g 8 (-1)) (atM f 8 (nI b)) (atM g 8 (nI b)) + _ = f b + g b + _
    rw [atM_m, atM_m, atM_n (by omega) (by decide), atM_n (by omega) (by decide), wy_o (hxy b hb)]
theorem getD_mem {l : List Nat} {k : Nat} : k ∈ l ↔ ∃ j : Nat, j < l.length ∧ l.getD j 0 = k := by
  constructor
  · intro h
    obtain ⟨j, hj, e⟩ := List.getElem_of_mem h
    exact ⟨j, hj, by rw [List.getD_eq_getElem?_getD, List.getElem?_eq_getElem hj]; exact e⟩
  · rintro ⟨j, hj, e⟩
    rw [List.getD_eq_getElem?_getD, List.getElem?_eq_getElem hj] at e
    have e : l[j] = k := e
    rw [← e]
    exact List.getElem_mem hj
end SHS
/-- the whole round of a list of kitchens -/
def RTW (w : List Nat → Nat → Nat → Int32) (dep : List Nat → Nat → Int32) (l : List Nat) (x : Int32) : Prop := ∃ T : Nat → Int32, TBL (w l) (dep l) l.length T (2 ^ l.length) ∧ RND (dep l) l.length T (2 ^ l.length - 1) x
theorem RTW.un {w w2 : List Nat → Nat → Nat → Int32} {dep dep2 : List Nat → Nat → Int32} {l : List Nat} {x y : Int32} (hl : l.length ≤ 8) (hw : ∀ a b : Nat, a < l.length → b < l.length → w l a b = w2 l a b) (hd : ∀ a : Nat, a < l.length → dep l a = dep2 l a) (p : RTW w dep l x) (q : RTW w2 dep2 l y) : x = y := by
  obtain ⟨T, p1, p2⟩ := p
  obtain ⟨T2, q1, q2⟩ := q
  have h9 := full_le hl
  exact RND.un (by omega) hl hd (fun U hU a ha ta => TBL.un h9.2 hl hw hd p1 q1 (U + 1) U (Nat.lt_succ_self U) (by omega) a ha ta) p2 q2
/-- j nights from the day d0 on: when each was emptied last, and the sums of the ways, the litres, the kitchens -/
def NGS (K : Nat) (L : Int) (FL : Int32 → (Nat → Int32) → Nat → Int32) (RT : List Nat → Int32 → Prop) (d0 : Nat) (t0 : Nat → Int32) : Nat → (Nat → Int32) → Int32 → Int32 → Int32 → Prop
  | 0, t, a, b, c => (∀ k : Nat, k < K → t k = t0 k) ∧ a = 0 ∧ b = 0 ∧ c = 0
  | j + 1, t, a, b, c => ∃ (u : Nat → Int32) (a0 b0 c0 x : Int32) (l : List Nat), NGS K L FL RT d0 t0 j u a0 b0 c0 ∧ AL (fun k => L ≤ (FL (nI (d0 + j)) u k).toInt) K l ∧ l.length ≤ 8 ∧ RT l x ∧ ((∀ k : Nat, k ∈ l → t k = nI (d0 + j)) ∧ ∀ k : Nat, k < K → ¬ k ∈ l → t k = u k) ∧ a = a0 + x ∧ b = b0 + sg (fun i => FL (nI (d0 + j)) u (l.getD i 0)) l.length ∧ c = c0 + nI l.length
/-- on one of the nights there are too many -/
def NGF (K : Nat) (L : Int) (FL : Int32 → (Nat → Int32) → Nat → Int32) (RT : List Nat → Int32 → Prop) (d0 : Nat) (t0 : Nat → Int32) (n : Nat) : Prop := ∃ (j : Nat) (u : Nat → Int32) (a b c : Int32) (l : List Nat), j < n ∧ NGS K L FL RT d0 t0 j u a b c ∧ AL (fun k => L ≤ (FL (nI (d0 + j)) u k).toInt) K l ∧ 8 < l.length
section NGSS
variable {K d0 n : Nat} {L : Int} {FL FM : Int32 → (Nat → Int32) → Nat → Int32} {RT RU : List Nat → Int32 → Prop} {t0 s0 t s : Nat → Int32} {a b c a2 b2 c2 : Int32}
theorem NGS.un (hf : ∀ (d : Int32) (u v : Nat → Int32), (∀ k : Nat, k < K → u k = v k) → ∀ k : Nat, k < K → FL d u k = FM d v k) (hr : ∀ (l : List Nat) (x y : Int32), l.length ≤ 8 → (∀ k : Nat, k ∈ l → k < K) → RT l x → RU l y → x = y) (h0 : ∀ k : Nat, k < K → t0 k = s0 k) : ∀ (j : Nat) (t s : Nat → Int32) (a b c a2 b2 c2 : Int32), NGS K L FL RT d0 t0 j t a b c → NGS K L FM RU d0 s0 j s a2 b2 c2 → (∀ k : Nat, k < K → t k = s k) ∧ a = a2 ∧ b = b2 ∧ c = c2
  | 0, t, s, a, b, c, a2, b2, c2, p, q => ⟨fun k hk => by rw [p.1 k hk, q.1 k hk, h0 k hk], p.2.1.trans q.2.1.symm, p.2.2.1.trans q.2.2.1.symm, p.2.2.2.trans q.2.2.2.symm⟩
  | j + 1, t, s, a, b, c, a2, b2, c2, p, q => by
    obtain ⟨u, a0, b0, c0, x, l, p1, p2, p3, p4, ⟨p5, p6⟩, pa, pb, pc⟩ := p
    obtain ⟨v, a3, b3, c3, y, l2, q1, q2, q3, q4, ⟨q5, q6⟩, qa, qb, qc⟩ := q
    obtain ⟨eu, ea, eb, ec⟩ := NGS.un hf hr h0 j u v a0 b0 c0 a3 b3 c3 p1 q1
    obtain rfl : l2 = l := (AL.un K l l2 (fun z hz => by
      show L ≤ (FL (nI (d0 + j)) u z).toInt ↔ L ≤ (FM (nI (d0 + j)) v z).toInt
      rw [hf _ u v eu z hz]) p2 q2).symm
    have hK : ∀ k : Nat, k ∈ l2 → k < K := fun k hk => ((AL.mem K l2 p2 k).mp hk).1
    refine ⟨fun k hk => ?_, ?_, ?_, ?_⟩
    · by_cases m : k ∈ l2
      · rw [p5 k m, q5 k m]
      · rw [p6 k hk m, q6 k hk m, eu k hk]
    · rw [pa, qa, ea, hr l2 x y p3 hK p4 q4]
    · rw [pb, qb, eb]
      refine congrArg (fun z => b3 + z) (sg_eq _ (fun i hi => ?_))
      exact hf _ u v eu _ (p2.ge hi).1
    · rw [pc, qc, ec]
theorem NGS.sub : ∀ (n j : Nat) (t : Nat → Int32) (a b c : Int32), j < n → NGS K L FL RT d0 t0 n t a b c → ∃ (u : Nat → Int32) (a0 b0 c0 : Int32) (l : List Nat), NGS K L FL RT d0 t0 j u a0 b0 c0 ∧ AL (fun k => L ≤ (FL (nI (d0 + j)) u k).toInt) K l ∧ l.length ≤ 8
  | 0, j, _, _, _, _, h, _ => absurd h (Nat.not_lt_zero j)
  | n + 1, j, t, a, b, c, h, p => by
    obtain ⟨u, a0, b0, c0, x, l, p1, p2, p3, -⟩ := p
    by_cases e : j = n
    · subst e
      exact ⟨u, a0, b0, c0, l, p1, p2, p3⟩
    · exact NGS.sub n j u a0 b0 c0 (by omega) p1
/-- too many on a night, or through all of them: not both -/
theorem NGF.no (hf : ∀ (d : Int32) (u v : Nat → Int32), (∀ k : Nat, k < K → u k = v k) → ∀ k : Nat, k < K → FL d u k = FM d v k) (hr : ∀ (l : List Nat) (x y : Int32), l.length ≤ 8 → (∀ k : Nat, k ∈ l → k < K) → RT l x → RU l y → x = y) (h0 : ∀ k : Nat, k < K → t0 k = s0 k) (p : NGF K L FL RT d0 t0 n) (q : NGS K L FM RU d0 s0 n s a b c) : False := by
  obtain ⟨j, u, a0, b0, c0, l, hj, p1, p2, p3⟩ := p
  obtain ⟨v, a3, b3, c3, l2, q1, q2, q3⟩ := NGS.sub n j s a b c hj q
  obtain ⟨eu, -⟩ := NGS.un hf hr h0 j u v a0 b0 c0 a3 b3 c3 p1 q1
  have e : l = l2 := AL.un K l l2 (fun z hz => by
    show L ≤ (FL (nI (d0 + j)) u z).toInt ↔ L ≤ (FM (nI (d0 + j)) v z).toInt
    rw [hf _ u v eu z hz]) p2 q2
  rw [e] at p3
  omega
end NGSS
/-- which of the three sums is asked -/
def SEL (v r a b c : Int32) : Prop := (v.toInt = 0 ∧ r = a) ∨ (v.toInt = 1 ∧ r = b) ∨ (v.toInt = 2 ∧ r = c)
theorem AL.cg {P Q : Nat → Prop} : ∀ (m : Nat) (l : List Nat), (∀ z : Nat, z < m → (P z ↔ Q z)) → AL P m l → AL Q m l
  | 0, l, _, h => h
  | m + 1, l, e, h => by
    obtain ⟨l0, h0, h⟩ := h
    refine ⟨l0, AL.cg m l0 (fun z hz => e z (Nat.lt_succ_of_lt hz)) h0, ?_⟩
    have e9 := e m (Nat.lt_succ_self m)
    rcases h with ⟨a, b⟩ | ⟨a, b⟩
    · exact Or.inl ⟨e9.mp a, b⟩
    · exact Or.inr ⟨fun w => a (e9.mpr w), b⟩
/-- the list's numbers rise -/
theorem AL.so {P : Nat → Prop} : ∀ (m : Nat) (l : List Nat), AL P m l → ∀ i j : Nat, i < j → j < l.length → l.getD i 0 < l.getD j 0
  | 0, l, h, i, j, _, hj => by
    rw [show l = [] from h] at hj
    exact absurd hj (Nat.not_lt_zero j)
  | m + 1, l, h, i, j, hi, hj => by
    obtain ⟨l0, h0, h | h⟩ := h
    · rw [h.2] at hj ⊢
      rw [List.length_append] at hj
      have hj : j < l0.length + 1 := hj
      have ei : (l0 ++ [m]).getD i 0 = l0.getD i 0 := by
        rw [List.getD_eq_getElem?_getD, List.getElem?_append_left (by omega), ← List.getD_eq_getElem?_getD]
      rw [ei]
      by_cases q : j < l0.length
      · rw [show (l0 ++ [m]).getD j 0 = l0.getD j 0 by
          rw [List.getD_eq_getElem?_getD, List.getElem?_append_left q, ← List.getD_eq_getElem?_getD]]
        exact AL.so m l0 h0 i j hi q
      · rw [show (l0 ++ [m]).getD j 0 = m by
          rw [List.getD_eq_getElem?_getD, List.getElem?_append_right (by omega), show j - l0.length = 0 by omega]
          rfl]
        exact (h0.ge (show i < l0.length by omega)).1
    · rw [h.2] at hj ⊢
      exact AL.so m l0 h0 i j hi hj
/-- a set that isn't empty: its least is told -/
theorem PMN.f3 {n r : Int32} {S m : Nat} {g : Nat → Int32} (h0 : ¬ S = 0) (hS : S < 2 ^ m) (p : PMN n S m g r) : MNR S m g r := p.elim (fun q => absurd (Nat.eq_of_testBit_eq (fun i => by
  rw [Nat.zero_testBit]
  by_cases hi : i < m
  · exact q.2 i hi
  · exact Nat.testBit_lt_two_pow (Nat.lt_of_lt_of_le hS (Nat.pow_le_pow_right (by decide) (by omega))))) h0) id
section NGT
variable {K d0 j : Nat} {L : Int} {FL : Int32 → (Nat → Int32) → Nat → Int32} {RT : List Nat → Int32 → Prop} {t0 t f2 : Nat → Int32} {a b c x y : Int32} {l : List Nat} {P : Nat → Prop}
end NGT
section SELS
variable {v r r2 a b c x y w z : Int32}
theorem SEL.un (h : SEL v r a b c) (q : SEL v r2 a b c) : r = r2 := by
  rcases h with ⟨h, e⟩ | ⟨h, e⟩ | ⟨h, e⟩ <;> rcases q with ⟨q, f⟩ | ⟨q, f⟩ | ⟨q, f⟩
  · rw [e, f]
  · omega
  · omega
  · omega
  · rw [e, f]
  · omega
  · omega
  · omega
  · rw [e, f]
end SELS



set_option maxRecDepth 100000 in
set_option maxHeartbeats 4000000 in
theorem q_Ebetween (l : Launch) (D : va_G) (cI cB cZ : ClassId) (zz qq vv : Nat) (bt : Nat → Int32) (g : Nat → Nat) (ad : Nat → Nat → Nat) (cn : Nat → Nat) (In : Nat → Int32) (Fn : Nat → Nat → Int32) (v0 v1 : Int32) (hB : CBX cn) : Met l yX10_between (CWS yX10_between cX10_between 3 (some .int)) (RM 2 0 0) (PBrx [.ref (g 9), .int v0, .int v1] D cI cB cZ zz qq vv bt (wX cI (D.1 99) zz g ad cn In Fn)) (vp_Si (fun r => r = wyX (atM (Fn 32) 8 v0) (atM (Fn 33) 8 v0) (atM (Fn 32) 8 v1) (atM (Fn 33) 8 v1))) 0 0 (fun _ => False) := by
  refine en_rx rfl pn_RX10 (Nat.le_of_ble_eq_true rfl) (fun p e s m below meth c hx hb hml hown S hr hlocks hnm hP hK hXS hS ls hl => ?_)
  have hl : lv_has ls 3 [(0, .ref (g 9)), (1, .int v0), (2, .int v1)] := hl
  have hb_cn : Hid (CBX cn) := hB
  replace hB : CBXh cn := hB
  refine lv_aload_n hx hb (oc_42 0 shX10_between_0) rfl (lvA0 hl) ?_
  refine gf_RX10_18 S hK hP 17 xo_17 (v := .ref (g 32)) rfl (oc_180 1 (aq_1 shX10_between_0) uw_0_18) ?_
  refine lv_iload_n hx hb (oc_27 4 (aq_4 shX10_between_0)) rfl (lvA1 hl) ?_
  refine vp_callSi (runS_r (As := [.ref (g 32), .int v0]) (rest := []) S (q_l_at l D cI cB cZ (g 32) 8 (Fn 32) v0 (by (first | omega | (have zz0 := Hid.u hb_cn; omega)))) kS_RX10_54 hK hP [20] (one_is xo_20) ⟨Nat.le_of_ble_eq_true rfl, Nat.le_of_ble_eq_true rfl⟩ ⟨Nat.le_of_ble_eq_true rfl, Nat.le_of_ble_eq_true rfl⟩ rfl hl.1 rfl (Nat.le_of_ble_eq_true rfl) (oc_184 5 (aq_5 shX10_between_0) uw_0_54)) (fun r_1 h_2 => ?_)
  subst h_2
  refine lv_aload_n hx hb (oc_42 8 (aq_8 shX10_between_0)) rfl (lvA0 hl) ?_
  refine gf_RX10_21 S hK hP 17 xo_17 (v := .ref (g 33)) rfl (oc_180 9 (aq_9 shX10_between_0) uw_0_21) ?_
  refine lv_iload_n hx hb (oc_27 12 (aq_12 shX10_between_0)) rfl (lvA1 hl) ?_
  refine vp_callSi (runS_r (As := [.ref (g 33), .int v0]) (rest := [.int (atM (Fn 32) 8 v0)]) S (q_l_at l D cI cB cZ (g 33) 8 (Fn 33) v0 (by (first | omega | (have zz0 := Hid.u hb_cn; omega)))) kS_RX10_54 hK hP [21] (one_is xo_21) ⟨Nat.le_of_ble_eq_true rfl, Nat.le_of_ble_eq_true rfl⟩ ⟨Nat.le_of_ble_eq_true rfl, Nat.le_of_ble_eq_true rfl⟩ rfl hl.1 rfl (Nat.le_of_ble_eq_true rfl) (oc_184 13 (aq_13 shX10_between_0) uw_0_54)) (fun r_3 h_4 => ?_)
  subst h_4
  refine lv_aload_n hx hb (oc_42 16 (aq_16 shX10_between_0)) rfl (lvA0 hl) ?_
  refine gf_RX10_18 S hK hP 17 xo_17 (v := .ref (g 32)) rfl (oc_180 17 (aq_17 shX10_between_0) uw_0_18) ?_
  refine lv_iload_n hx hb (oc_28 20 (aq_20 shX10_between_0)) rfl (lvA2 hl) ?_
  refine vp_callSi (runS_r (As := [.ref (g 32), .int v1]) (rest := [.int (atM (Fn 33) 8 v0), .int (atM (Fn 32) 8 v0)]) S (q_l_at l D cI cB cZ (g 32) 8 (Fn 32) v1 (by (first | omega | (have zz0 := Hid.u hb_cn; omega)))) kS_RX10_54 hK hP [20] (one_is xo_20) ⟨Nat.le_of_ble_eq_true rfl, Nat.le_of_ble_eq_true rfl⟩ ⟨Nat.le_of_ble_eq_true rfl, Nat.le_of_ble_eq_true rfl⟩ rfl hl.1 rfl (Nat.le_of_ble_eq_true rfl) (oc_184 21 (aq_21 shX10_between_0) uw_0_54)) (fun r_5 h_6 => ?_)
  subst h_6
  refine lv_aload_n hx hb (oc_42 24 shX10_between_24) rfl (lvA0 hl) ?_
  refine gf_RX10_21 S hK hP 17 xo_17 (v := .ref (g 33)) rfl (oc_180 25 (aq_1 shX10_between_24) uw_0_21) ?_
  refine lv_iload_n hx hb (oc_28 28 (aq_4 shX10_between_24)) rfl (lvA2 hl) ?_
  refine vp_callSi (runS_r (As := [.ref (g 33), .int v1]) (rest := [.int (atM (Fn 32) 8 v1), .int (atM (Fn 33) 8 v0), .int (atM (Fn 32) 8 v0)]) S (q_l_at l D cI cB cZ (g 33) 8 (Fn 33) v1 (by (first | omega | (have zz0 := Hid.u hb_cn; omega)))) kS_RX10_54 hK hP [21] (one_is xo_21) ⟨Nat.le_of_ble_eq_true rfl, Nat.le_of_ble_eq_true rfl⟩ ⟨Nat.le_of_ble_eq_true rfl, Nat.le_of_ble_eq_true rfl⟩ rfl hl.1 rfl (Nat.le_of_ble_eq_true rfl) (oc_184 29 (aq_5 shX10_between_24) uw_0_54)) (fun r_7 h_8 => ?_)
  subst h_8
  refine vp_callSi (runS_r (As := [.int (atM (Fn 32) 8 v0), .int (atM (Fn 33) 8 v0), .int (atM (Fn 32) 8 v1), .int (atM (Fn 33) 8 v1)]) (rest := []) S (q_Eway l D cI cB cZ (atM (Fn 32) 8 v0) (atM (Fn 33) 8 v0) (atM (Fn 32) 8 v1) (atM (Fn 33) 8 v1) ) kS_RX10_58 hK hP [] rfl ⟨Nat.le_of_ble_eq_true rfl, Nat.le_of_ble_eq_true rfl⟩ ⟨Nat.le_of_ble_eq_true rfl, Nat.le_of_ble_eq_true rfl⟩ rfl hl.1 rfl (Nat.le_of_ble_eq_true rfl) (oc_184 32 (aq_8 shX10_between_24) uw_0_58)) (fun r_9 h_10 => ?_)
  subst h_10
  exact W.iret (v := ((wyX (atM (Fn 32) 8 v0) (atM (Fn 33) 8 v0) (atM (Fn 32) 8 v1) (atM (Fn 33) 8 v1)))) hx hb hr (fun t ht hW => ⟨((wyX (atM (Fn 32) 8 v0) (atM (Fn 33) 8 v0) (atM (Fn 32) 8 v1) (atM (Fn 33) 8 v1))), rfl, rfl, ht⟩) (fun _ h => absurd h List.not_mem_nil) (oc_172 35 (aq_11 shX10_between_24))
set_option maxRecDepth 100000 in
set_option maxHeartbeats 4000000 in
theorem q_Ethrough (l : Launch) (D : va_G) (cI cB cZ : ClassId) (zz qq vv : Nat) (bt : Nat → Int32) (g : Nat → Nat) (ad : Nat → Nat → Nat) (cn : Nat → Nat) (In : Nat → Int32) (Fn : Nat → Nat → Int32) (v0 : Int32) (b0 s0 : Nat) (hB : CBX cn) (hb0 : b0 ≤ 7) (hs0 : s0 ≤ 255) : Met l yX10_through (CWS yX10_through cX10_through 5 (some .int)) (RM 3 0 0) (PBrx [.ref (g 9), .int v0, .int (nI b0), .int (nI s0)] D cI cB cZ zz qq vv bt (wX cI (D.1 99) zz g ad cn In Fn)) (vp_Si (fun r => r = (wyX (atM (Fn 32) 8 v0) (atM (Fn 33) 8 v0) (atM (Fn 32) 8 (nI b0)) (atM (Fn 33) 8 (nI b0))) + Fn 34 (8 * clr s0 b0 + b0))) 0 0 (fun _ => False) := by
  refine en_rx rfl pn_RX10 (Nat.le_of_ble_eq_true rfl) (fun p e s m below meth c hx hb hml hown S hr hlocks hnm hP hK hXS hS ls hl => ?_)
  have hl : lv_has ls 5 [(0, .ref (g 9)), (1, .int v0), (2, .int (nI b0)), (3, .int (nI s0))] := hl
  have hb_cn : Hid (CBX cn) := hB
  replace hB : CBXh cn := hB
  refine lv_iload_n hx hb (oc_29 0 shX10_through_0) rfl (lvA3 hl) ?_
  refine lv_iconst (v := 1) hx hb (oc_4 1 (aq_1 shX10_through_0)) kic_1 ?_
  refine lv_iload_n hx hb (oc_28 2 (aq_2 shX10_through_0)) rfl (lvA2 hl) ?_
  refine lv_ishl hx hb (oc_120 3 (aq_3 shX10_through_0)) ?_
  refine lv_iconst (v := (-1)) hx hb (oc_2 4 (aq_4 shX10_through_0)) kic_m1 ?_
  refine lv_ixor hx hb (oc_130 5 (aq_5 shX10_through_0)) ?_
  refine lv_iand hx hb (oc_126 6 (aq_6 shX10_through_0)) ?_
  refine lv_topi (fun y_1 ey_1 => ?_)
  obtain rfl : y_1 = (nI (clr s0 b0)) := ey_1.trans (clrI (by (first | omega | (have zz0 := Hid.u hb_cn; omega))) (by (first | omega | (have zz0 := Hid.u hb_cn; omega))))
  have hcl := clr_le (l := s0) (a := b0)
  refine lv_istore (lv' := [(4, .int (nI (clr s0 b0))), (0, .ref (g 9)), (1, .int v0), (2, .int (nI b0)), (3, .int (nI s0))]) hx hb (oc_54 7 (aq_7 shX10_through_0) ub_4) hl (ltb rfl) rfl (fun ls hl => ?_)
  refine lv_aload_n hx hb (oc_42 9 (aq_9 shX10_through_0)) rfl (lvA1 hl) ?_
  refine lv_iload_n hx hb (oc_27 10 (aq_10 shX10_through_0)) rfl (lvA2 hl) ?_
  refine lv_iload_n hx hb (oc_28 11 (aq_11 shX10_through_0)) rfl (lvA3 hl) ?_
  refine vp_callSi (runV_rxa (As := [.int v0, .int (nI b0)]) (rest := []) S (q_Ebetween l D cI cB cZ zz qq vv bt g ad cn In Fn v0 (nI b0) hB) kV_RX10_66 hK hXS hS hP 17 xo_17 rfl rfl ⟨Nat.le_of_ble_eq_true rfl, Nat.le_of_ble_eq_true rfl⟩ ⟨Nat.le_of_ble_eq_true rfl, Nat.le_of_ble_eq_true rfl⟩ rfl hl.1 rfl (Nat.le_of_ble_eq_true rfl) (oc_182 12 (aq_12 shX10_through_0) uw_0_66)) (fun r_2 h_3 => ?_)
  subst h_3
  refine lv_aload_n hx hb (oc_42 15 (aq_15 shX10_through_0)) rfl (lvA1 hl) ?_
  refine gf_RX10_24 S hK hP 17 xo_17 (v := .ref (g 34)) rfl (oc_180 16 (aq_16 shX10_through_0) uw_0_24) ?_
  refine lv_iload hx hb (oc_21 19 (aq_19 shX10_through_0) ub_4) (lvA0 hl) ?_
  refine lv_bipush (v := 8) hx hb (oc_16 21 (aq_21 shX10_through_0) sgb_8) kbc_8 ?_
  refine lv_imul hx hb (oc_104 23 (aq_23 shX10_through_0)) ?_
  refine lv_topi (fun y_4 ey_4 => ?_)
  obtain rfl : y_4 = (nI (8 * clr s0 b0)) := ey_4.trans ((pk_mul (clr s0 b0) 8).trans (congrArg nI (Nat.mul_comm _ _)))
  refine lv_iload_n hx hb (oc_28 24 shX10_through_24) rfl (lvA3 hl) ?_
  refine lv_iadd hx hb (oc_96 25 (aq_1 shX10_through_24)) ?_
  refine lv_topi (fun y_5 ey_5 => ?_)
  obtain rfl : y_5 = (nI ((8 * clr s0 b0) + b0)) := ey_5.trans (nI_add (8 * clr s0 b0) b0)
  refine vp_callSi (runS_r (As := [.ref (g 34), .int (nI ((8 * clr s0 b0) + b0))]) (rest := [.int ((wyX (atM ((Fn 32)) 8 v0) (atM ((Fn 33)) 8 v0) (atM ((Fn 32)) 8 (nI b0)) (atM ((Fn 33)) 8 (nI b0))))]) S (q_l_at l D cI cB cZ (g 34) 2048 (Fn 34) (nI ((8 * clr s0 b0) + b0)) (by (first | omega | (have zz0 := Hid.u hb_cn; omega)))) kS_RX10_54 hK hP [22] (one_is xo_22) ⟨Nat.le_of_ble_eq_true rfl, Nat.le_of_ble_eq_true rfl⟩ ⟨Nat.le_of_ble_eq_true rfl, Nat.le_of_ble_eq_true rfl⟩ rfl hl.1 rfl (Nat.le_of_ble_eq_true rfl) (oc_184 26 (aq_2 shX10_through_24) uw_0_54)) (fun r_6 h_7 => ?_)
  obtain rfl : r_6 = (Fn 34 (8 * clr s0 b0 + b0)) := h_7.trans (atM_n (by (first | omega | (have zz0 := Hid.u hb_cn; omega))) (by decide))
  refine lv_iadd hx hb (oc_96 29 (aq_5 shX10_through_24)) ?_
  exact W.iret (v := (((wyX (atM ((Fn 32)) 8 v0) (atM ((Fn 33)) 8 v0) (atM ((Fn 32)) 8 (nI b0)) (atM ((Fn 33)) 8 (nI b0)))) + (Fn 34 (8 * clr s0 b0 + b0)))) hx hb hr (fun t ht hW => ⟨(((wyX (atM ((Fn 32)) 8 v0) (atM ((Fn 33)) 8 v0) (atM ((Fn 32)) 8 (nI b0)) (atM ((Fn 33)) 8 (nI b0)))) + (Fn 34 (8 * clr s0 b0 + b0))), rfl, rfl, ht⟩) (fun _ h => absurd h List.not_mem_nil) (oc_172 30 (aq_6 shX10_through_24))
set_option maxRecDepth 100000 in
set_option maxHeartbeats 4000000 in
theorem q_Eshortest (l : Launch) (D : va_G) (cI cB cZ : ClassId) (zz qq vv : Nat) (bt : Nat → Int32) (g : Nat → Nat) (ad : Nat → Nat → Nat) (cn : Nat → Nat) (In : Nat → Int32) (Fn : Nat → Nat → Int32) (v0 : Int32) (s0 : Nat) (hB : CBX cn) (h4 : cn 4 ≤ 8) (hs0 : s0 ≤ 255) (hg : ∀ b : Nat, b < cn 4 → s0.testBit b = true → 0 ≤ ((wyX (atM (Fn 32) 8 v0) (atM (Fn 33) 8 v0) (atM (Fn 32) 8 (nI b)) (atM (Fn 33) 8 (nI b))) + Fn 34 (8 * clr s0 b + b)).toInt) : Met l yX10_shortest (CWS yX10_shortest cX10_shortest 6 (some .int)) (RM 4 0 0) (PBrx [.ref (g 9), .int v0, .int (nI s0)] D cI cB cZ zz qq vv bt (wX cI (D.1 99) zz g ad cn In Fn)) (vp_Si (fun r => ((∀ b : Nat, b < cn 4 → s0.testBit b = false) ∧ r = wyX (atM (Fn 32) 8 v0) (atM (Fn 33) 8 v0) (atM (Fn 32) 8 (-1)) (atM (Fn 33) 8 (-1))) ∨ MNR s0 (cn 4) (fun b => (wyX (atM (Fn 32) 8 v0) (atM (Fn 33) 8 v0) (atM (Fn 32) 8 (nI b)) (atM (Fn 33) 8 (nI b))) + Fn 34 (8 * clr s0 b + b)) r)) 0 0 (fun _ => False) := by
  refine en_rx rfl pn_RX10 (Nat.le_of_ble_eq_true rfl) (fun p e s m below meth c hx hb hml hown S hr hlocks hnm hP hK hXS hS ls hl => ?_)
  have hl : lv_has ls 6 [(0, .ref (g 9)), (1, .int v0), (2, .int (nI s0))] := hl
  have hb_cn : Hid (CBX cn) := hB
  replace hB : CBXh cn := hB
  refine lv_iconst (v := (-1)) hx hb (oc_2 0 shX10_shortest_0) kic_m1 ?_
  refine lv_istore_n (lv' := [(3, .int (-1)), (0, .ref (g 9)), (1, .int v0), (2, .int (nI s0))]) hx hb (oc_62 1 (aq_1 shX10_shortest_0)) rfl hl (ltb rfl) rfl (fun ls hl => ?_)
  refine lv_iconst (v := 0) hx hb (oc_3 2 (aq_2 shX10_shortest_0)) kic_0 ?_
  refine lv_istore (lv' := [(4, .int 0), (3, .int (-1)), (0, .ref (g 9)), (1, .int v0), (2, .int (nI s0))]) hx hb (oc_54 3 (aq_3 shX10_shortest_0) ub_4) hl (ltb rfl) rfl (fun ls hl => ?_)
  have lp_5 : ∀ (n : Nat) (i5 : Nat) (x5_3 : Int32) , cn 4 - i5 < n → (i5 ≤ cn 4 ∧ (PMN (-1) s0 i5 (fun b => (wyX (atM (Fn 32) 8 v0) (atM (Fn 33) 8 v0) (atM (Fn 32) 8 (nI b)) (atM (Fn 33) 8 (nI b))) + Fn 34 (8 * clr s0 b + b)) x5_3)) → ∀ ls : Array Slot, lv_has ls 6 [(4, .int (nI i5)), (3, .int x5_3), (0, .ref (g 9)), (1, .int v0), (2, .int (nI s0))] → W p l e (RM 4 0 0) s m ([.ref (g 9), .int v0, .int (nI s0)]).toArray below meth c s.heap [] 0 0 (MQ below (vp_Si (fun r => ((∀ b : Nat, b < cn 4 → s0.testBit b = false) ∧ r = wyX (atM (Fn 32) 8 v0) (atM (Fn 33) 8 v0) (atM (Fn 32) 8 (-1)) (atM (Fn 33) 8 (-1))) ∨ MNR s0 (cn 4) (fun b => (wyX (atM (Fn 32) 8 v0) (atM (Fn 33) 8 v0) (atM (Fn 32) 8 (nI b)) (atM (Fn 33) 8 (nI b))) + Fn 34 (8 * clr s0 b + b)) r)) ([.ref (g 9), .int v0, .int (nI s0)]).toArray s 0 0 (fun _ => False)) (F0 m 5 ls []) := by
    intro n5
    induction n5 with
    | zero => intros; (first | omega | (have zz0 := Hid.u hb_cn; omega))
    | succ n5 ih5 =>
      intro i5 x5_3 hmu5 hinv5 ls hl
      obtain ⟨hr5, hx5_0⟩ := hinv5
      have ti5 : (nI i5).toInt = (i5 : Int) := nI_toInt (by (first | omega | (have zz0 := Hid.u hb_cn; omega)))
      refine lv_iload hx hb (oc_21 5 (aq_5 shX10_shortest_0) ub_4) (lvA0 hl) ?_
      refine lv_aload_n hx hb (oc_42 7 (aq_7 shX10_shortest_0)) rfl (lvA2 hl) ?_
      refine gf_RX10_36 S hK hP 17 xo_17 (v := .int (nI (cn 4))) rfl (oc_180 8 (aq_8 shX10_shortest_0) uw_0_36) ?_
      have : (nI (cn 4)).toInt = (((cn 4) : Nat) : Int) := nI_toInt (by (first | omega | (have zz0 := Hid.u hb_cn; omega)))
      refine lv_icmp_ge (tgt := 57) hx hb (oc_162 11 (aq_11 shX10_shortest_0) sgw_0_46) rfl (fun c_1 => ?_) (fun c_1 => ?_)
      ·
        have tc_1 : ((nI (cn 4)).toInt : Int) ≤ (nI i5).toInt := Int32.le_iff_toInt_le.mp c_1
        refine lv_iload_n hx hb (oc_29 57 (aq_8 shX10_shortest_49)) rfl (lvA1 hl) ?_
        refine lv_iconst (v := (-1)) hx hb (oc_2 58 (aq_9 shX10_shortest_49)) kic_m1 ?_
        refine lv_icmp_ne (tgt := 71) hx hb (oc_160 59 (aq_10 shX10_shortest_49) sgw_0_12) rfl (fun c_2 => ?_) (fun c_2 => ?_)
        ·
          have tc_2 : (x5_3.toInt : Int) ≠ (-1) := fun q => c_2 (Int32.toInt_inj.mp q)
          refine lv_iload_n hx hb (oc_29 71 (aq_22 shX10_shortest_49)) rfl (lvA1 hl) ?_
          exact W.iret (v := x5_3) hx hb hr (fun t ht hW => ⟨x5_3, rfl, (Or.inr (by have e9 : i5 = cn 4 := (by (first | omega | (have zz0 := Hid.u hb_cn; omega))); rw [← e9]; exact PMN.f2 hx5_0 (by first | assumption | exact fun q => absurd (congrArg Int32.toInt q) (by assumption)))), ht⟩) (fun _ h => absurd h List.not_mem_nil) dX10_shortest_72
        ·
          have tc_2 : (x5_3.toInt : Int) = (-1) := congrArg Int32.toInt c_2
          refine lv_aload_n hx hb (oc_42 62 (aq_13 shX10_shortest_49)) rfl (lvA2 hl) ?_
          refine lv_iload_n hx hb (oc_27 63 (aq_14 shX10_shortest_49)) rfl (lvA3 hl) ?_
          refine lv_iconst (v := (-1)) hx hb (oc_2 64 (aq_15 shX10_shortest_49)) kic_m1 ?_
          refine vp_callSi (runV_rxa (As := [.int v0, .int (-1)]) (rest := []) S (q_Ebetween l D cI cB cZ zz qq vv bt g ad cn In Fn v0 (-1) hB) kV_RX10_66 hK hXS hS hP 17 xo_17 rfl rfl ⟨Nat.le_of_ble_eq_true rfl, Nat.le_of_ble_eq_true rfl⟩ ⟨Nat.le_of_ble_eq_true rfl, Nat.le_of_ble_eq_true rfl⟩ rfl hl.1 rfl (Nat.le_of_ble_eq_true rfl) (oc_182 65 (aq_16 shX10_shortest_49) uw_0_66)) (fun r_3 h_4 => ?_)
          subst h_4
          refine lv_goto (tgt := 72) hx hb (oc_167 68 (aq_19 shX10_shortest_49) sgw_0_4) rfl ?_
          exact W.iret (v := ((wyX (atM ((Fn 32)) 8 v0) (atM ((Fn 33)) 8 v0) (atM ((Fn 32)) 8 (-1)) (atM ((Fn 33)) 8 (-1))))) hx hb hr (fun t ht hW => ⟨((wyX (atM ((Fn 32)) 8 v0) (atM ((Fn 33)) 8 v0) (atM ((Fn 32)) 8 (-1)) (atM ((Fn 33)) 8 (-1)))), rfl, (Or.inl ⟨(by have e9 : i5 = cn 4 := (by (first | omega | (have zz0 := Hid.u hb_cn; omega))); rw [← e9]; exact PMN.f1 hx5_0 (by first | assumption | exact Int32.toInt_inj.mp (by assumption)) (fun b9 h9 t9 => ng1 (hg b9 (by (first | omega | (have zz0 := Hid.u hb_cn; omega))) t9))), rfl⟩), ht⟩) (fun _ h => absurd h List.not_mem_nil) dX10_shortest_72
      ·
        have tc_1 : ((nI i5).toInt : Int) < (nI (cn 4)).toInt := Int32.lt_iff_toInt_lt.mp (Int32.not_le.mp c_1)
        refine lv_iload_n hx hb (oc_28 14 (aq_14 shX10_shortest_0)) rfl (lvA4 hl) ?_
        refine lv_iload hx hb (oc_21 15 (aq_15 shX10_shortest_0) ub_4) (lvA0 hl) ?_
        refine lv_ishr hx hb (oc_122 17 (aq_17 shX10_shortest_0)) ?_
        refine lv_iconst (v := 1) hx hb (oc_4 18 (aq_18 shX10_shortest_0)) kic_1 ?_
        refine lv_iand hx hb (oc_126 19 (aq_19 shX10_shortest_0)) ?_
        refine lv_if_eq (tgt := 51) hx hb (oc_153 20 (aq_20 shX10_shortest_0) sgw_0_31) rfl (fun c_5 => ?_) (fun c_5 => ?_)
        ·
          have tc_5 : ((((nI s0) >>> ((nI i5) &&& 31)) &&& 1).toInt : Int) = 0 := congrArg Int32.toInt c_5
          refine lv_iinc (v := (nI (i5 + 1))) (lv' := [(4, .int (nI (i5 + 1))), (3, .int x5_3), (0, .ref (g 9)), (1, .int v0), (2, .int (nI s0))]) hx hb dX10_shortest_51 hl (k := 0) rfl (nI_1 _) (ltb rfl) rfl (fun ls hl => ?_)
          refine lv_goto (tgt := 5) hx hb dX10_shortest_54 rfl ?_
          exact ih5 (i5 + 1) x5_3 (by (first | omega | (have zz0 := Hid.u hb_cn; omega))) ⟨(by (first | omega | (have zz0 := Hid.u hb_cn; omega))), (PMN.no hx5_0 ((bitw (by (first | omega | (have zz0 := Hid.u hb_cn; omega))) (by (first | omega | (have zz0 := Hid.u hb_cn; omega)))).mp (by first | assumption | exact Int32.toInt_inj.mp (by assumption))))⟩ ls (lv_sub hl [0, 1, 2, 3, 4] rfl)
        ·
          have tc_5 : ((((nI s0) >>> ((nI i5) &&& 31)) &&& 1).toInt : Int) ≠ 0 := fun q => c_5 (Int32.toInt_inj.mp q)
          refine lv_aload_n hx hb (oc_42 23 (aq_23 shX10_shortest_0)) rfl (lvA2 hl) ?_
          refine lv_iload_n hx hb (oc_27 24 shX10_shortest_24) rfl (lvA3 hl) ?_
          refine lv_iload hx hb (oc_21 25 (aq_1 shX10_shortest_24) ub_4) (lvA0 hl) ?_
          refine lv_iload_n hx hb (oc_28 27 (aq_3 shX10_shortest_24)) rfl (lvA4 hl) ?_
          refine vp_callSi (runV_rxa (As := [.int v0, .int (nI i5), .int (nI s0)]) (rest := []) S (q_Ethrough l D cI cB cZ zz qq vv bt g ad cn In Fn v0 i5 s0 hB (by (first | omega | (have zz0 := Hid.u hb_cn; omega))) (by (first | omega | (have zz0 := Hid.u hb_cn; omega)))) kV_RX10_69 hK hXS hS hP 17 xo_17 rfl rfl ⟨Nat.le_of_ble_eq_true rfl, Nat.le_of_ble_eq_true rfl⟩ ⟨Nat.le_of_ble_eq_true rfl, Nat.le_of_ble_eq_true rfl⟩ rfl hl.1 rfl (Nat.le_of_ble_eq_true rfl) (oc_182 28 (aq_4 shX10_shortest_24) uw_0_69)) (fun r_6 h_7 => ?_)
          subst h_7
          refine lv_istore (lv' := [(5, .int (((wyX (atM ((Fn 32)) 8 v0) (atM ((Fn 33)) 8 v0) (atM ((Fn 32)) 8 (nI i5)) (atM ((Fn 33)) 8 (nI i5))) + (Fn 34) (8 * clr s0 i5 + i5)))), (4, .int (nI i5)), (3, .int x5_3), (0, .ref (g 9)), (1, .int v0), (2, .int (nI s0))]) hx hb (oc_54 31 (aq_7 shX10_shortest_24) ub_5) hl (ltb rfl) rfl (fun ls hl => ?_)
          refine lv_iload_n hx hb (oc_29 33 (aq_9 shX10_shortest_24)) rfl (lvA2 hl) ?_
          refine lv_iconst (v := (-1)) hx hb (oc_2 34 (aq_10 shX10_shortest_24)) kic_m1 ?_
          refine lv_icmp_eq (tgt := 44) hx hb (oc_159 35 (aq_11 shX10_shortest_24) sgw_0_9) rfl (fun c_8 => ?_) (fun c_8 => ?_)
          ·
            have tc_8 : (x5_3.toInt : Int) = (-1) := congrArg Int32.toInt c_8
            refine lv_iload hx hb dX10_shortest_44 (lvA0 hl) ?_
            refine lv_goto (tgt := 50) hx hb dX10_shortest_46 rfl ?_
            refine lv_istore_n (lv' := [(3, .int (((wyX (atM ((Fn 32)) 8 v0) (atM ((Fn 33)) 8 v0) (atM ((Fn 32)) 8 (nI i5)) (atM ((Fn 33)) 8 (nI i5))) + (Fn 34) (8 * clr s0 i5 + i5)))), (5, .int (((wyX (atM ((Fn 32)) 8 v0) (atM ((Fn 33)) 8 v0) (atM ((Fn 32)) 8 (nI i5)) (atM ((Fn 33)) 8 (nI i5))) + (Fn 34) (8 * clr s0 i5 + i5)))), (4, .int (nI i5)), (0, .ref (g 9)), (1, .int v0), (2, .int (nI s0))]) hx hb dX10_shortest_50 rfl hl (ltb rfl) rfl (fun ls hl => ?_)
            refine lv_iinc (v := (nI (i5 + 1))) (lv' := [(4, .int (nI (i5 + 1))), (3, .int (((wyX (atM ((Fn 32)) 8 v0) (atM ((Fn 33)) 8 v0) (atM ((Fn 32)) 8 (nI i5)) (atM ((Fn 33)) 8 (nI i5))) + (Fn 34) (8 * clr s0 i5 + i5)))), (5, .int (((wyX (atM ((Fn 32)) 8 v0) (atM ((Fn 33)) 8 v0) (atM ((Fn 32)) 8 (nI i5)) (atM ((Fn 33)) 8 (nI i5))) + (Fn 34) (8 * clr s0 i5 + i5)))), (0, .ref (g 9)), (1, .int v0), (2, .int (nI s0))]) hx hb dX10_shortest_51 hl (k := 2) rfl (nI_1 _) (ltb rfl) rfl (fun ls hl => ?_)
            refine lv_goto (tgt := 5) hx hb dX10_shortest_54 rfl ?_
            exact ih5 (i5 + 1) (((wyX (atM ((Fn 32)) 8 v0) (atM ((Fn 33)) 8 v0) (atM ((Fn 32)) 8 (nI i5)) (atM ((Fn 33)) 8 (nI i5))) + (Fn 34) (8 * clr s0 i5 + i5))) (by (first | omega | (have zz0 := Hid.u hb_cn; omega))) ⟨(by (first | omega | (have zz0 := Hid.u hb_cn; omega))), (PMN.put hx5_0 (bit_n1 (by (first | omega | (have zz0 := Hid.u hb_cn; omega))) (by (first | omega | (have zz0 := Hid.u hb_cn; omega))) (by first | assumption | exact fun q => absurd (congrArg Int32.toInt q) (by assumption))) (Or.inl (by first | assumption | exact Int32.toInt_inj.mp (by assumption))) (fun b9 h9 t9 => ng1 (hg b9 (by (first | omega | (have zz0 := Hid.u hb_cn; omega))) t9)))⟩ ls (lv_sub hl [0, 1, 3, 4, 5] rfl)
          ·
            have tc_8 : (x5_3.toInt : Int) ≠ (-1) := fun q => c_8 (Int32.toInt_inj.mp q)
            refine lv_iload hx hb (oc_21 38 (aq_14 shX10_shortest_24) ub_5) (lvA0 hl) ?_
            refine lv_iload_n hx hb (oc_29 40 (aq_16 shX10_shortest_24)) rfl (lvA2 hl) ?_
            refine lv_icmp_ge (tgt := 49) hx hb (oc_162 41 (aq_17 shX10_shortest_24) sgw_0_8) rfl (fun c_9 => ?_) (fun c_9 => ?_)
            ·
              have tc_9 : (x5_3.toInt : Int) ≤ (((wyX (atM ((Fn 32)) 8 v0) (atM ((Fn 33)) 8 v0) (atM ((Fn 32)) 8 (nI i5)) (atM ((Fn 33)) 8 (nI i5))) + (Fn 34) (8 * clr s0 i5 + i5))).toInt := Int32.le_iff_toInt_le.mp c_9
              refine lv_iload_n hx hb (oc_29 49 shX10_shortest_49) rfl (lvA2 hl) ?_
              refine lv_istore_n (lv' := [(3, .int x5_3), (5, .int (((wyX (atM ((Fn 32)) 8 v0) (atM ((Fn 33)) 8 v0) (atM ((Fn 32)) 8 (nI i5)) (atM ((Fn 33)) 8 (nI i5))) + (Fn 34) (8 * clr s0 i5 + i5)))), (4, .int (nI i5)), (0, .ref (g 9)), (1, .int v0), (2, .int (nI s0))]) hx hb dX10_shortest_50 rfl hl (ltb rfl) rfl (fun ls hl => ?_)
              refine lv_iinc (v := (nI (i5 + 1))) (lv' := [(4, .int (nI (i5 + 1))), (3, .int x5_3), (5, .int (((wyX (atM ((Fn 32)) 8 v0) (atM ((Fn 33)) 8 v0) (atM ((Fn 32)) 8 (nI i5)) (atM ((Fn 33)) 8 (nI i5))) + (Fn 34) (8 * clr s0 i5 + i5)))), (0, .ref (g 9)), (1, .int v0), (2, .int (nI s0))]) hx hb dX10_shortest_51 hl (k := 2) rfl (nI_1 _) (ltb rfl) rfl (fun ls hl => ?_)
              refine lv_goto (tgt := 5) hx hb dX10_shortest_54 rfl ?_
              exact ih5 (i5 + 1) x5_3 (by (first | omega | (have zz0 := Hid.u hb_cn; omega))) ⟨(by (first | omega | (have zz0 := Hid.u hb_cn; omega))), (PMN.ge hx5_0 (by (first | omega | (have zz0 := Hid.u hb_cn; omega))) (Or.inl (by first | assumption | exact fun q => absurd (congrArg Int32.toInt q) (by assumption))))⟩ ls (lv_sub hl [0, 1, 3, 4, 5] rfl)
            ·
              have tc_9 : ((((wyX (atM ((Fn 32)) 8 v0) (atM ((Fn 33)) 8 v0) (atM ((Fn 32)) 8 (nI i5)) (atM ((Fn 33)) 8 (nI i5))) + (Fn 34) (8 * clr s0 i5 + i5))).toInt : Int) < x5_3.toInt := Int32.lt_iff_toInt_lt.mp (Int32.not_le.mp c_9)
              refine lv_iload hx hb dX10_shortest_44 (lvA0 hl) ?_
              refine lv_goto (tgt := 50) hx hb dX10_shortest_46 rfl ?_
              refine lv_istore_n (lv' := [(3, .int (((wyX (atM ((Fn 32)) 8 v0) (atM ((Fn 33)) 8 v0) (atM ((Fn 32)) 8 (nI i5)) (atM ((Fn 33)) 8 (nI i5))) + (Fn 34) (8 * clr s0 i5 + i5)))), (5, .int (((wyX (atM ((Fn 32)) 8 v0) (atM ((Fn 33)) 8 v0) (atM ((Fn 32)) 8 (nI i5)) (atM ((Fn 33)) 8 (nI i5))) + (Fn 34) (8 * clr s0 i5 + i5)))), (4, .int (nI i5)), (0, .ref (g 9)), (1, .int v0), (2, .int (nI s0))]) hx hb dX10_shortest_50 rfl hl (ltb rfl) rfl (fun ls hl => ?_)
              refine lv_iinc (v := (nI (i5 + 1))) (lv' := [(4, .int (nI (i5 + 1))), (3, .int (((wyX (atM ((Fn 32)) 8 v0) (atM ((Fn 33)) 8 v0) (atM ((Fn 32)) 8 (nI i5)) (atM ((Fn 33)) 8 (nI i5))) + (Fn 34) (8 * clr s0 i5 + i5)))), (5, .int (((wyX (atM ((Fn 32)) 8 v0) (atM ((Fn 33)) 8 v0) (atM ((Fn 32)) 8 (nI i5)) (atM ((Fn 33)) 8 (nI i5))) + (Fn 34) (8 * clr s0 i5 + i5)))), (0, .ref (g 9)), (1, .int v0), (2, .int (nI s0))]) hx hb dX10_shortest_51 hl (k := 2) rfl (nI_1 _) (ltb rfl) rfl (fun ls hl => ?_)
              refine lv_goto (tgt := 5) hx hb dX10_shortest_54 rfl ?_
              exact ih5 (i5 + 1) (((wyX (atM ((Fn 32)) 8 v0) (atM ((Fn 33)) 8 v0) (atM ((Fn 32)) 8 (nI i5)) (atM ((Fn 33)) 8 (nI i5))) + (Fn 34) (8 * clr s0 i5 + i5))) (by (first | omega | (have zz0 := Hid.u hb_cn; omega))) ⟨(by (first | omega | (have zz0 := Hid.u hb_cn; omega))), (PMN.put hx5_0 (bit_n1 (by (first | omega | (have zz0 := Hid.u hb_cn; omega))) (by (first | omega | (have zz0 := Hid.u hb_cn; omega))) (by first | assumption | exact fun q => absurd (congrArg Int32.toInt q) (by assumption))) (Or.inr (by (first | omega | (have zz0 := Hid.u hb_cn; omega)))) (fun b9 h9 t9 => ng1 (hg b9 (by (first | omega | (have zz0 := Hid.u hb_cn; omega))) t9)))⟩ ls (lv_sub hl [0, 1, 3, 4, 5] rfl)
  exact lp_5 _ 0 (-1) (Nat.lt_succ_self _) ⟨(by (first | omega | (have zz0 := Hid.u hb_cn; omega))), PMN.z⟩ ls (lv_sub hl [0, 1, 2, 3, 4] rfl)
set_option maxRecDepth 100000 in
set_option maxHeartbeats 4000000 in
theorem q_Esolve (l : Launch) (D : va_G) (cI cB cZ : ClassId) (zz qq vv : Nat) (bt : Nat → Int32) (g : Nat → Nat) (ad : Nat → Nat → Nat) (cn : Nat → Nat) (In : Nat → Int32) (Fn : Nat → Nat → Int32)  (sz : Nat) (hB : CBX cn) (h4 : cn 4 ≤ 8) (hxy : ∀ a : Nat, a < cn 4 → XYB (Fn 32 a) (Fn 33 a)) : Met l yX10_solve (CWS yX10_solve cX10_solve 3 none) (RM 5 0 0) (PBx [.ref (g 9)] D cI cB cZ zz qq vv bt (wX cI (D.1 99) zz g ad cn In Fn) sz) (va_Qv (fun (u : (Nat → Nat) × (Nat → Int32) × (Nat → Nat → Int32)) => (fun c2 I2 F2 => Fr [] [] [34, 35] cn In Fn c2 I2 F2 ∧ CBX c2 ∧ (TBL (fun a b => wyX (Fn 32 a) (Fn 33 a) (Fn 32 b) (Fn 33 b)) (fun a => Fn 32 a + Fn 33 a) (cn 4) (F2 34) (2 ^ cn 4) ∧ ∀ S : Nat, S < 2 ^ cn 4 → RND (fun a => Fn 32 a + Fn 33 a) (cn 4) (F2 34) S (F2 35 S))) u.1 u.2.1 u.2.2) (fun (u : (Nat → Nat) × (Nat → Int32) × (Nat → Nat → Int32)) (t : State) => va_P D vwCl (wX cI (D.1 99) zz g ad u.1 u.2.1 u.2.2) t.heap ∧ va_D (va_A (wX cI (D.1 99) zz g ad cn In Fn) sz) (wX cI (D.1 99) zz g ad u.1 u.2.1 u.2.2)) (va_A (wX cI (D.1 99) zz g ad cn In Fn) sz)) 0 0 (va_A (wX cI (D.1 99) zz g ad cn In Fn) sz) := by
  refine en_x (fun A => (va_Qv (fun (u : (Nat → Nat) × (Nat → Int32) × (Nat → Nat → Int32)) => (fun (c2 : Nat → Nat) (I2 : Nat → Int32) (F2 : Nat → Nat → Int32) => Fr [] [] [34, 35] cn In Fn c2 I2 F2 ∧ CBX c2 ∧ (TBL (fun a b => wyX (Fn 32 a) (Fn 33 a) (Fn 32 b) (Fn 33 b)) (fun a => Fn 32 a + Fn 33 a) (cn 4) (F2 34) (2 ^ cn 4) ∧ ∀ S : Nat, S < 2 ^ cn 4 → RND (fun a => Fn 32 a + Fn 33 a) (cn 4) (F2 34) S (F2 35 S))) u.1 u.2.1 u.2.2) (fun (u : (Nat → Nat) × (Nat → Int32) × (Nat → Nat → Int32)) (t : State) => va_P D vwCl (wX cI (D.1 99) zz g ad u.1 u.2.1 u.2.2) t.heap ∧ va_D A (wX cI (D.1 99) zz g ad u.1 u.2.1 u.2.2)) A)) rfl rfl pn_RX10 (Nat.le_of_ble_eq_true rfl) (fun p e s m below meth c A hx hb hml hown S hr hlocks hnm hA hP hK hD hXS hS ls hl => ?_)
  have hl : lv_has ls 3 [(0, .ref (g 9))] := hl
  have hb_cn : Hid (CBX cn) := hB
  replace hB : CBXh cn := hB
  have h2p := full_le (m := cn 4) h4
  have hw9 : ∀ a b : Nat, a < cn 4 → b < cn 4 → 0 ≤ ((fun a b => wyX (Fn 32 a) (Fn 33 a) (Fn 32 b) (Fn 33 b)) a b).toInt ∧ ((fun a b => wyX (Fn 32 a) (Fn 33 a) (Fn 32 b) (Fn 33 b)) a b).toInt ≤ 198 := fun a b ha hb => wy_b (hxy a ha) (hxy b hb)
  have hd9 : ∀ a : Nat, a < cn 4 → 0 ≤ ((fun a => Fn 32 a + Fn 33 a) a).toInt ∧ ((fun a => Fn 32 a + Fn 33 a) a).toInt ≤ 198 := fun a ha => dp_b (hxy a ha)
  refine lv_iconst (v := 0) hx hb (oc_3 0 shX10_solve_0) kic_0 ?_
  refine lv_istore_n (lv' := [(1, .int 0), (0, .ref (g 9))]) hx hb (oc_60 1 (aq_1 shX10_solve_0)) rfl hl (ltb rfl) rfl (fun ls hl => ?_)
  have lp_2 : ∀ (n : Nat) (i2 : Nat) (Fw : Nat → Nat → Int32) (H : Heap) (locs : List Loc) , 2 ^ cn 4 - i2 < n → (i2 ≤ 2 ^ cn 4 ∧ Fr [] [] [34, 35] cn In Fn cn In Fw ∧ CBX cn ∧ (TBL (fun a b => wyX (Fn 32 a) (Fn 33 a) (Fn 32 b) (Fn 33 b)) (fun a => Fn 32 a + Fn 33 a) (cn 4) (Fw 34) i2) ∧ (∀ S : Nat, S < i2 → RND (fun a => Fn 32 a + Fn 33 a) (cn 4) (Fw 34) S (Fw 35 S))) → va_P D vwCl (wX cI (D.1 99) zz g ad cn In Fw) H → va_D A (wX cI (D.1 99) zz g ad cn In Fw) → va_S A s.heap H locs → ∀ ls : Array Slot, lv_has ls 3 [(1, .int (nI i2)), (0, .ref (g 9))] → W p l e (RM 5 0 0) s m ([.ref (g 9)]).toArray below meth c H locs 0 0 (MQ below (va_Qv (fun (u : (Nat → Nat) × (Nat → Int32) × (Nat → Nat → Int32)) => (fun c2 I2 F2 => Fr [] [] [34, 35] cn In Fn c2 I2 F2 ∧ CBX c2 ∧ (TBL (fun a b => wyX (Fn 32 a) (Fn 33 a) (Fn 32 b) (Fn 33 b)) (fun a => Fn 32 a + Fn 33 a) (cn 4) (F2 34) (2 ^ cn 4) ∧ ∀ S : Nat, S < 2 ^ cn 4 → RND (fun a => Fn 32 a + Fn 33 a) (cn 4) (F2 34) S (F2 35 S))) u.1 u.2.1 u.2.2) (fun (u : (Nat → Nat) × (Nat → Int32) × (Nat → Nat → Int32)) (t : State) => va_P D vwCl (wX cI (D.1 99) zz g ad u.1 u.2.1 u.2.2) t.heap ∧ va_D A (wX cI (D.1 99) zz g ad u.1 u.2.1 u.2.2)) A) ([.ref (g 9)]).toArray s 0 0 A) (F0 m 2 ls []) := by
    intro n2
    induction n2 with
    | zero => intros; (first | omega | (have zz0 := Hid.u hb_cn; omega))
    | succ n2 ih2 =>
      intro i2 Fw H locs hmu2 hinv2 hP hD hS ls hl
      obtain ⟨hr2, hfr2, hI2, hx2_0, hx2_1⟩ := hinv2
      have ti2 : (nI i2).toInt = (i2 : Int) := nI_toInt (by (first | omega | (have zz0 := Hid.u hb_cn; omega)))
      replace hI2 : CBXh cn := hI2
      refine lv_iload_n hx hb (oc_27 2 (aq_2 shX10_solve_0)) rfl (lvA0 hl) ?_
      refine lv_iconst (v := 1) hx hb (oc_4 3 (aq_3 shX10_solve_0)) kic_1 ?_
      refine lv_aload_n hx hb (oc_42 4 (aq_4 shX10_solve_0)) rfl (lvA1 hl) ?_
      refine gf_RX10_36 S hK hP 17 xo_17 (v := .int (nI (cn 4))) rfl (oc_180 5 (aq_5 shX10_solve_0) uw_0_36) ?_
      refine lv_ishl hx hb (oc_120 8 (aq_8 shX10_solve_0)) ?_
      refine lv_topi (fun y_1 ey_1 => ?_)
      obtain rfl : y_1 = (nI (2 ^ cn 4)) := ey_1.trans (sh1 (by (first | omega | (have zz0 := Hid.u hb_cn; omega))))
      have h2q : (nI (2 ^ cn 4)).toInt = ((2 ^ cn 4 : Nat) : Int) := nI_toInt (by (first | omega | (have zz0 := Hid.u hb_cn; omega)))
      have : (nI (2 ^ cn 4)).toInt = (((2 ^ cn 4) : Nat) : Int) := nI_toInt (by (first | omega | (have zz0 := Hid.u hb_cn; omega)))
      refine lv_icmp_ge (tgt := 75) hx hb (oc_162 9 (aq_9 shX10_solve_0) sgw_0_66) rfl (fun c_2 => ?_) (fun c_2 => ?_)
      ·
        have tc_2 : ((nI (2 ^ cn 4)).toInt : Int) ≤ (nI i2).toInt := Int32.le_iff_toInt_le.mp c_2
        exact W.vret hx hb hr (fun t ht hW => ⟨⟨(cn, In, Fw), rfl, ⟨(Fr.mo hfr2 (sbl rfl) (sbl rfl) (sbl rfl)), hI2, (by show TBL (fun a b => wyX (Fn 32 a) (Fn 33 a) (Fn 32 b) (Fn 33 b)) (fun a => Fn 32 a + Fn 33 a) (cn 4) (Fw 34) (2 ^ cn 4) ∧ ∀ S : Nat, S < 2 ^ cn 4 → RND (fun a => Fn 32 a + Fn 33 a) (cn 4) (Fw 34) S (Fw 35 S); have e9 : i2 = 2 ^ cn 4 := (by (first | omega | (have zz0 := Hid.u hb_cn; omega))); rw [← e9]; exact ⟨hx2_0, hx2_1⟩)⟩, by rw [ht]; exact hP, hD⟩, hS.F ht⟩) hS.2.2 (oc_177 75 shX10_solve_75)
      ·
        have tc_2 : ((nI i2).toInt : Int) < (nI (2 ^ cn 4)).toInt := Int32.lt_iff_toInt_lt.mp (Int32.not_le.mp c_2)
        refine lv_iconst (v := 0) hx hb (oc_3 12 (aq_12 shX10_solve_0)) kic_0 ?_
        refine lv_istore_n (lv' := [(2, .int 0), (1, .int (nI i2)), (0, .ref (g 9))]) hx hb (oc_61 13 (aq_13 shX10_solve_0)) rfl hl (ltb rfl) rfl (fun ls hl => ?_)
        have lp_14 : ∀ (n : Nat) (i14 : Nat) (F14 : Nat → Nat → Int32) (H : Heap) (locs : List Loc) , cn 4 - i14 < n → (i14 ≤ cn 4 ∧ Fr [] [] [34, 35] cn In Fn cn In F14 ∧ CBX cn ∧ (TBL (fun a b => wyX (Fn 32 a) (Fn 33 a) (Fn 32 b) (Fn 33 b)) (fun a => Fn 32 a + Fn 33 a) (cn 4) (F14 34) i2) ∧ (∀ S : Nat, S < i2 → RND (fun a => Fn 32 a + Fn 33 a) (cn 4) (F14 34) S (F14 35 S)) ∧ (∀ a : Nat, a < i14 → i2.testBit a = false → TBR (fun a b => wyX (Fn 32 a) (Fn 33 a) (Fn 32 b) (Fn 33 b)) (fun a => Fn 32 a + Fn 33 a) (cn 4) (F14 34) i2 a)) → va_P D vwCl (wX cI (D.1 99) zz g ad cn In F14) H → va_D A (wX cI (D.1 99) zz g ad cn In F14) → va_S A s.heap H locs → ∀ ls : Array Slot, lv_has ls 3 [(2, .int (nI i14)), (1, .int (nI i2)), (0, .ref (g 9))] → W p l e (RM 5 0 0) s m ([.ref (g 9)]).toArray below meth c H locs 0 0 (MQ below (va_Qv (fun (u : (Nat → Nat) × (Nat → Int32) × (Nat → Nat → Int32)) => (fun c2 I2 F2 => Fr [] [] [34, 35] cn In Fn c2 I2 F2 ∧ CBX c2 ∧ (TBL (fun a b => wyX (Fn 32 a) (Fn 33 a) (Fn 32 b) (Fn 33 b)) (fun a => Fn 32 a + Fn 33 a) (cn 4) (F2 34) (2 ^ cn 4) ∧ ∀ S : Nat, S < 2 ^ cn 4 → RND (fun a => Fn 32 a + Fn 33 a) (cn 4) (F2 34) S (F2 35 S))) u.1 u.2.1 u.2.2) (fun (u : (Nat → Nat) × (Nat → Int32) × (Nat → Nat → Int32)) (t : State) => va_P D vwCl (wX cI (D.1 99) zz g ad u.1 u.2.1 u.2.2) t.heap ∧ va_D A (wX cI (D.1 99) zz g ad u.1 u.2.1 u.2.2)) A) ([.ref (g 9)]).toArray s 0 0 A) (F0 m 14 ls []) := by
          intro n14
          induction n14 with
          | zero => intros; (first | omega | (have zz0 := Hid.u hb_cn; omega))
          | succ n14 ih14 =>
            intro i14 F14 H locs hmu14 hinv14 hP hD hS ls hl
            obtain ⟨hr14, hfr14, hI14, hx14_0, hx14_1, hx14_2⟩ := hinv14
            have ti14 : (nI i14).toInt = (i14 : Int) := nI_toInt (by (first | omega | (have zz0 := Hid.u hb_cn; omega)))
            replace hI14 : CBXh cn := hI14
            have e32 : F14 32 = Fn 32 := hfr14.2.2 32 (nml rfl)
            have e33 : F14 33 = Fn 33 := hfr14.2.2 33 (nml rfl)
            refine lv_iload_n hx hb (oc_28 14 (aq_14 shX10_solve_0)) rfl (lvA0 hl) ?_
            refine lv_aload_n hx hb (oc_42 15 (aq_15 shX10_solve_0)) rfl (lvA2 hl) ?_
            refine gf_RX10_36 S hK hP 17 xo_17 (v := .int (nI (cn 4))) rfl (oc_180 16 (aq_16 shX10_solve_0) uw_0_36) ?_
            have : (nI (cn 4)).toInt = (((cn 4) : Nat) : Int) := nI_toInt (by (first | omega | (have zz0 := Hid.u hb_cn; omega)))
            refine lv_icmp_ge (tgt := 55) hx hb (oc_162 19 (aq_19 shX10_solve_0) sgw_0_36) rfl (fun c_3 => ?_) (fun c_3 => ?_)
            ·
              have tc_3 : ((nI (cn 4)).toInt : Int) ≤ (nI i14).toInt := Int32.le_iff_toInt_le.mp c_3
              refine lv_aload_n hx hb (oc_42 55 (aq_6 shX10_solve_49)) rfl (lvA2 hl) ?_
              refine gf_RX10_27 S hK hP 17 xo_17 (v := .ref (g 35)) rfl (oc_180 56 (aq_7 shX10_solve_49) uw_0_27) ?_
              refine lv_iload_n hx hb (oc_27 59 (aq_10 shX10_solve_49)) rfl (lvA1 hl) ?_
              refine lv_aload_n hx hb (oc_42 60 (aq_11 shX10_solve_49)) rfl (lvA2 hl) ?_
              refine lv_iconst (v := (-1)) hx hb (oc_2 61 (aq_12 shX10_solve_49)) kic_m1 ?_
              refine lv_iload_n hx hb (oc_27 62 (aq_13 shX10_solve_49)) rfl (lvA1 hl) ?_
              refine vp_callSi (runV_rxa (As := [.int (-1), .int (nI i2)]) (rest := [.int (nI i2), .ref (g 35)]) S (q_Eshortest l D cI cB cZ zz qq vv bt g ad cn In F14 (-1) i2 hI14 (by (first | omega | (have zz0 := Hid.u hb_cn; omega))) (by (first | omega | (have zz0 := Hid.u hb_cn; omega))) (fun b hb tb => by rw [e32, e33, atM_m, atM_m, atM_n (by (first | omega | (have zz0 := Hid.u hb_cn; omega))) (by decide), atM_n (by (first | omega | (have zz0 := Hid.u hb_cn; omega))) (by decide), wy_o (hxy b hb)]; exact (TBL.g (by (first | omega | (have zz0 := Hid.u hb_cn; omega))) (by (first | omega | (have zz0 := Hid.u hb_cn; omega))) hw9 hd9 hx14_0 (dp_b (hxy b hb)) hb tb).1)) kV_RX10_62 hK hXS hS hP 17 xo_17 rfl rfl ⟨Nat.le_of_ble_eq_true rfl, Nat.le_of_ble_eq_true rfl⟩ ⟨Nat.le_of_ble_eq_true rfl, Nat.le_of_ble_eq_true rfl⟩ rfl hl.1 rfl (Nat.le_of_ble_eq_true rfl) (oc_182 63 (aq_14 shX10_solve_49) uw_0_62)) (fun r_4 h_5 => ?_)
              have hrd_r_4 := SHX_o e32 e33 (by (first | omega | (have zz0 := Hid.u hb_cn; omega))) hxy h_5
              have hFc := va_free (wc := [((g 35), .inl (cI, 256, .inl (F14 35)))]) hD hS hA [23] (one_im xo_23)
              refine va_callv (runS_w (As := [.ref (g 35), .int (nI i2), .int r_4]) (rest := []) S (q_l_put l D cI cB cZ (g 35) 256 (F14 35) (nI i2) r_4 H.size (by (first | omega | (have zz0 := Hid.u hb_cn; omega)))) kS_RX10_40 hK hP hD [23] (one_is xo_23) (one_im xo_23) rfl ⟨Nat.le_of_ble_eq_true rfl, Nat.le_of_ble_eq_true rfl⟩ ⟨Nat.le_of_ble_eq_true rfl, Nat.le_of_ble_eq_true rfl⟩ rfl hl.1 rfl (Nat.le_of_ble_eq_true rfl) (oc_184 66 (aq_17 shX10_solve_49) uw_0_40)) hS (fun q _ h => hFc q h) hFc (fun u_8 t H1 locs ht hvm h_7 hB1 hz1 hk1 hS => ?_)
              obtain ⟨hP1, hD1⟩ := hB1
              rw [ht] at hP1
              obtain ⟨hP, hD⟩ := wset1 hP hD xo_23 hk1 hP1
              obtain rfl : u_8 = (putM (F14 35) 256 (nI i2) r_4) := h_7
              generalize H1 = H at hP hS ⊢
              have hP : va_P D vwCl (wX cI (D.1 99) zz g ad cn In (va_up F14 35 (putM (F14 35) 256 (nI i2) r_4))) H := va_P_eq xsa_23 hP
              have hD : va_D A (wX cI (D.1 99) zz g ad cn In (va_up F14 35 (putM (F14 35) 256 (nI i2) r_4))) := va_D_eq xsa_23 hD
              refine lv_iinc (v := (nI (i2 + 1))) (lv' := [(1, .int (nI (i2 + 1))), (2, .int (nI i14)), (0, .ref (g 9))]) hx hb (oc_132 69 (aq_20 shX10_solve_49) ub_1 sgb_1) hl (k := 1) rfl (nI_1 _) (ltb rfl) rfl (fun ls hl => ?_)
              refine lv_goto (tgt := 2) hx hb (oc_167 72 (aq_23 shX10_solve_49) sgw_255_186) rfl ?_
              exact ih2 (i2 + 1) (va_up F14 35 (putM (F14 35) 256 (nI i2) r_4)) _ _ (by (first | omega | (have zz0 := Hid.u hb_cn; omega))) ⟨(by (first | omega | (have zz0 := Hid.u hb_cn; omega))), (Fr.mo (Fr.f 35 hfr14) (sbl rfl) (sbl rfl) (sbl rfl)), hI14, (TBL.sc hx14_0 (fun a ha ta => hx14_2 a (by (first | omega | (have zz0 := Hid.u hb_cn; omega))) ta)), (by intro S hS; show RND (fun a => Fn 32 a + Fn 33 a) (cn 4) (F14 34) S (putM (F14 35) 256 (nI i2) r_4 S); rw [putW (f := F14 35) (n := 256) (i := i2) (by (first | omega | (have zz0 := Hid.u hb_cn; omega))) (by decide)]; exact (if q9 : S = i2 then (by rw [q9, upd_self]; exact hrd_r_4) else (by rw [upd_n q9]; exact hx14_1 S (by (first | omega | (have zz0 := Hid.u hb_cn; omega))))))⟩ hP hD hS ls (lv_sub hl [0, 2] rfl)
            ·
              have tc_3 : ((nI i14).toInt : Int) < (nI (cn 4)).toInt := Int32.lt_iff_toInt_lt.mp (Int32.not_le.mp c_3)
              refine lv_iload_n hx hb (oc_27 22 (aq_22 shX10_solve_0)) rfl (lvA1 hl) ?_
              refine lv_iload_n hx hb (oc_28 23 (aq_23 shX10_solve_0)) rfl (lvA0 hl) ?_
              refine lv_ishr hx hb (oc_122 24 shX10_solve_24) ?_
              refine lv_iconst (v := 1) hx hb (oc_4 25 (aq_1 shX10_solve_24)) kic_1 ?_
              refine lv_iand hx hb (oc_126 26 (aq_2 shX10_solve_24)) ?_
              refine lv_if_ne (tgt := 49) hx hb (oc_154 27 (aq_3 shX10_solve_24) sgw_0_22) rfl (fun c_9 => ?_) (fun c_9 => ?_)
              ·
                have tc_9 : ((((nI i2) >>> ((nI i14) &&& 31)) &&& 1).toInt : Int) ≠ 0 := fun q => c_9 (Int32.toInt_inj.mp q)
                refine lv_iinc (v := (nI (i14 + 1))) (lv' := [(2, .int (nI (i14 + 1))), (1, .int (nI i2)), (0, .ref (g 9))]) hx hb dX10_solve_49 hl (k := 0) rfl (nI_1 _) (ltb rfl) rfl (fun ls hl => ?_)
                refine lv_goto (tgt := 14) hx hb dX10_solve_52 rfl ?_
                exact ih14 (i14 + 1) F14 _ _ (by (first | omega | (have zz0 := Hid.u hb_cn; omega))) ⟨(by (first | omega | (have zz0 := Hid.u hb_cn; omega))), (Fr.mo hfr14 (sbl rfl) (sbl rfl) (sbl rfl)), hI14, hx14_0, hx14_1, (fun a ha ta => if q9 : a = i14 then absurd ta (by rw [q9, bit_n1 (by (first | omega | (have zz0 := Hid.u hb_cn; omega))) (by (first | omega | (have zz0 := Hid.u hb_cn; omega))) (by first | assumption | exact fun q => absurd (congrArg Int32.toInt q) (by assumption))]; decide) else hx14_2 a (by (first | omega | (have zz0 := Hid.u hb_cn; omega))) ta)⟩ hP hD hS ls (lv_sub hl [0, 1, 2] rfl)
              ·
                have tc_9 : ((((nI i2) >>> ((nI i14) &&& 31)) &&& 1).toInt : Int) = 0 := congrArg Int32.toInt c_9
                refine lv_aload_n hx hb (oc_42 30 (aq_6 shX10_solve_24)) rfl (lvA2 hl) ?_
                refine gf_RX10_24 S hK hP 17 xo_17 (v := .ref (g 34)) rfl (oc_180 31 (aq_7 shX10_solve_24) uw_0_24) ?_
                refine lv_iload_n hx hb (oc_27 34 (aq_10 shX10_solve_24)) rfl (lvA1 hl) ?_
                refine lv_bipush (v := 8) hx hb (oc_16 35 (aq_11 shX10_solve_24) sgb_8) kbc_8 ?_
                refine lv_imul hx hb (oc_104 37 (aq_13 shX10_solve_24)) ?_
                refine lv_topi (fun y_10 ey_10 => ?_)
                obtain rfl : y_10 = (nI (8 * i2)) := ey_10.trans ((pk_mul i2 8).trans (congrArg nI (Nat.mul_comm _ _)))
                refine lv_iload_n hx hb (oc_28 38 (aq_14 shX10_solve_24)) rfl (lvA0 hl) ?_
                refine lv_iadd hx hb (oc_96 39 (aq_15 shX10_solve_24)) ?_
                refine lv_topi (fun y_11 ey_11 => ?_)
                obtain rfl : y_11 = (nI ((8 * i2) + i14)) := ey_11.trans (nI_add (8 * i2) i14)
                refine lv_aload_n hx hb (oc_42 40 (aq_16 shX10_solve_24)) rfl (lvA2 hl) ?_
                refine lv_iload_n hx hb (oc_28 41 (aq_17 shX10_solve_24)) rfl (lvA0 hl) ?_
                refine lv_iload_n hx hb (oc_27 42 (aq_18 shX10_solve_24)) rfl (lvA1 hl) ?_
                refine vp_callSi (runV_rxa (As := [.int (nI i14), .int (nI i2)]) (rest := [.int (nI ((8 * i2) + i14)), .ref (g 34)]) S (q_Eshortest l D cI cB cZ zz qq vv bt g ad cn In F14 (nI i14) i2 hI14 (by (first | omega | (have zz0 := Hid.u hb_cn; omega))) (by (first | omega | (have zz0 := Hid.u hb_cn; omega))) (fun b hb tb => by rw [e32, e33, wy_n (by (first | omega | (have zz0 := Hid.u hb_cn; omega))) (by (first | omega | (have zz0 := Hid.u hb_cn; omega)))]; exact (TBL.g (by (first | omega | (have zz0 := Hid.u hb_cn; omega))) (by (first | omega | (have zz0 := Hid.u hb_cn; omega))) hw9 hd9 hx14_0 (wy_b (hxy i14 (by (first | omega | (have zz0 := Hid.u hb_cn; omega)))) (hxy b hb)) hb tb).1)) kV_RX10_62 hK hXS hS hP 17 xo_17 rfl rfl ⟨Nat.le_of_ble_eq_true rfl, Nat.le_of_ble_eq_true rfl⟩ ⟨Nat.le_of_ble_eq_true rfl, Nat.le_of_ble_eq_true rfl⟩ rfl hl.1 rfl (Nat.le_of_ble_eq_true rfl) (oc_182 43 (aq_19 shX10_solve_24) uw_0_62)) (fun r_12 h_13 => ?_)
                have hsn_r_12 := SHX_n e32 e33 (by (first | omega | (have zz0 := Hid.u hb_cn; omega))) (by (first | omega | (have zz0 := Hid.u hb_cn; omega))) (hxy i14 (by (first | omega | (have zz0 := Hid.u hb_cn; omega)))) h_13
                have hFc := va_free (wc := [((g 34), .inl (cI, 2048, .inl (F14 34)))]) hD hS hA [22] (one_im xo_22)
                refine va_callv (runS_w (As := [.ref (g 34), .int (nI ((8 * i2) + i14)), .int r_12]) (rest := []) S (q_l_put l D cI cB cZ (g 34) 2048 (F14 34) (nI ((8 * i2) + i14)) r_12 H.size (by (first | omega | (have zz0 := Hid.u hb_cn; omega)))) kS_RX10_40 hK hP hD [22] (one_is xo_22) (one_im xo_22) rfl ⟨Nat.le_of_ble_eq_true rfl, Nat.le_of_ble_eq_true rfl⟩ ⟨Nat.le_of_ble_eq_true rfl, Nat.le_of_ble_eq_true rfl⟩ rfl hl.1 rfl (Nat.le_of_ble_eq_true rfl) (oc_184 46 (aq_22 shX10_solve_24) uw_0_40)) hS (fun q _ h => hFc q h) hFc (fun u_16 t H1 locs ht hvm h_15 hB1 hz1 hk1 hS => ?_)
                obtain ⟨hP1, hD1⟩ := hB1
                rw [ht] at hP1
                obtain ⟨hP, hD⟩ := wset1 hP hD xo_22 hk1 hP1
                obtain rfl : u_16 = (putM (F14 34) 2048 (nI ((8 * i2) + i14)) r_12) := h_15
                generalize H1 = H at hP hS ⊢
                have hP : va_P D vwCl (wX cI (D.1 99) zz g ad cn In (va_up F14 34 (putM (F14 34) 2048 (nI ((8 * i2) + i14)) r_12))) H := va_P_eq xsa_22 hP
                have hD : va_D A (wX cI (D.1 99) zz g ad cn In (va_up F14 34 (putM (F14 34) 2048 (nI ((8 * i2) + i14)) r_12))) := va_D_eq xsa_22 hD
                refine lv_iinc (v := (nI (i14 + 1))) (lv' := [(2, .int (nI (i14 + 1))), (1, .int (nI i2)), (0, .ref (g 9))]) hx hb dX10_solve_49 hl (k := 0) rfl (nI_1 _) (ltb rfl) rfl (fun ls hl => ?_)
                refine lv_goto (tgt := 14) hx hb dX10_solve_52 rfl ?_
                exact ih14 (i14 + 1) (va_up F14 34 (putM (F14 34) 2048 (nI ((8 * i2) + i14)) r_12)) _ _ (by (first | omega | (have zz0 := Hid.u hb_cn; omega))) ⟨(by (first | omega | (have zz0 := Hid.u hb_cn; omega))), (Fr.mo (Fr.f 34 hfr14) (sbl rfl) (sbl rfl) (sbl rfl)), hI14, (by show TBL (fun a b => wyX (Fn 32 a) (Fn 33 a) (Fn 32 b) (Fn 33 b)) (fun a => Fn 32 a + Fn 33 a) (cn 4) (putM (F14 34) 2048 (nI (8 * i2 + i14)) r_12) i2; rw [(putW (f := F14 34) (n := 2048) (i := 8 * i2 + i14) (x := r_12) (by (first | omega | (have zz0 := Hid.u hb_cn; omega))) (by decide))]; exact TBL.put (by (first | omega | (have zz0 := Hid.u hb_cn; omega))) hx14_0), (by intro S hS; show RND (fun a => Fn 32 a + Fn 33 a) (cn 4) (putM (F14 34) 2048 (nI (8 * i2 + i14)) r_12) S (F14 35 S); rw [(putW (f := F14 34) (n := 2048) (i := 8 * i2 + i14) (x := r_12) (by (first | omega | (have zz0 := Hid.u hb_cn; omega))) (by decide))]; exact RND.put (by (first | omega | (have zz0 := Hid.u hb_cn; omega))) hS (hx14_1 S hS)), (by intro a ha ta; show TBR (fun a b => wyX (Fn 32 a) (Fn 33 a) (Fn 32 b) (Fn 33 b)) (fun a => Fn 32 a + Fn 33 a) (cn 4) (putM (F14 34) 2048 (nI (8 * i2 + i14)) r_12) i2 a; rw [(putW (f := F14 34) (n := 2048) (i := 8 * i2 + i14) (x := r_12) (by (first | omega | (have zz0 := Hid.u hb_cn; omega))) (by decide))]; exact (if q9 : a = i14 then (by rw [q9]; exact TBR.put (by (first | omega | (have zz0 := Hid.u hb_cn; omega))) (by (first | omega | (have zz0 := Hid.u hb_cn; omega))) hsn_r_12) else TBR.oth (by (first | omega | (have zz0 := Hid.u hb_cn; omega))) (hx14_2 a (by (first | omega | (have zz0 := Hid.u hb_cn; omega))) ta) q9))⟩ hP hD hS ls (lv_sub hl [0, 1, 2] rfl)
        exact lp_14 _ 0 Fw _ _ (Nat.lt_succ_self _) ⟨(by (first | omega | (have zz0 := Hid.u hb_cn; omega))), (Fr.mo hfr2 (sbl rfl) (sbl rfl) (sbl rfl)), hI2, hx2_0, hx2_1, (fun a ha => absurd ha (Nat.not_lt_zero a))⟩ hP hD hS ls (lv_sub hl [0, 1, 2] rfl)
  exact lp_2 _ 0 Fn _ _ (Nat.lt_succ_self _) ⟨(by (first | omega | (have zz0 := Hid.u hb_cn; omega))), (Fr.mo Fr.rf (sbl rfl) (sbl rfl) (sbl rfl)), hB, TBL.z, (fun S hS => absurd hS (Nat.not_lt_zero S))⟩ hP hD hS ls (lv_sub hl [0, 1] rfl)
set_option maxRecDepth 100000 in
set_option maxHeartbeats 4000000 in
theorem q_ElengthOf (l : Launch) (D : va_G) (cI cB cZ : ClassId) (zz qq vv : Nat) (bt : Nat → Int32) (g : Nat → Nat) (ad : Nat → Nat → Nat) (cn : Nat → Nat) (In : Nat → Int32) (Fn : Nat → Nat → Int32) (v0 : Int32) (hB : CBX cn) : Met l yX10_lengthOf (CWS yX10_lengthOf cX10_lengthOf 2 (some .int)) (RM 1 0 0) (PBrx [.ref (g 9), .int v0] D cI cB cZ zz qq vv bt (wX cI (D.1 99) zz g ad cn In Fn)) (vp_Si (fun r => r = atM (Fn 35) 256 v0)) 0 0 (fun _ => False) := by
  refine en_rx rfl pn_RX10 (Nat.le_of_ble_eq_true rfl) (fun p e s m below meth c hx hb hml hown S hr hlocks hnm hP hK hXS hS ls hl => ?_)
  have hl : lv_has ls 2 [(0, .ref (g 9)), (1, .int v0)] := hl
  have hb_cn : Hid (CBX cn) := hB
  replace hB : CBXh cn := hB
  refine lv_aload_n hx hb (oc_42 0 shX10_lengthOf_0) rfl (lvA0 hl) ?_
  refine gf_RX10_27 S hK hP 17 xo_17 (v := .ref (g 35)) rfl (oc_180 1 (aq_1 shX10_lengthOf_0) uw_0_27) ?_
  refine lv_iload_n hx hb (oc_27 4 (aq_4 shX10_lengthOf_0)) rfl (lvA1 hl) ?_
  refine vp_callSi (runS_r (As := [.ref (g 35), .int v0]) (rest := []) S (q_l_at l D cI cB cZ (g 35) 256 (Fn 35) v0 (by (first | omega | (have zz0 := Hid.u hb_cn; omega)))) kS_RX10_54 hK hP [23] (one_is xo_23) ⟨Nat.le_of_ble_eq_true rfl, Nat.le_of_ble_eq_true rfl⟩ ⟨Nat.le_of_ble_eq_true rfl, Nat.le_of_ble_eq_true rfl⟩ rfl hl.1 rfl (Nat.le_of_ble_eq_true rfl) (oc_184 5 (aq_5 shX10_lengthOf_0) uw_0_54)) (fun r_1 h_2 => ?_)
  subst h_2
  exact W.iret (v := (atM (Fn 35) 256 v0)) hx hb hr (fun t ht hW => ⟨(atM (Fn 35) 256 v0), rfl, rfl, ht⟩) (fun _ h => absurd h List.not_mem_nil) (oc_172 8 (aq_8 shX10_lengthOf_0))
set_option maxRecDepth 100000 in
set_option maxHeartbeats 4000000 in
theorem q_Ewadd (l : Launch) (D : va_G) (cI cB cZ : ClassId) (zz qq vv : Nat) (bt : Nat → Int32) (g : Nat → Nat) (ad : Nat → Nat → Nat) (cn : Nat → Nat) (In : Nat → Int32) (Fn : Nat → Nat → Int32) (v0 : Int32) (k0 : Nat) (v2 : Int32) (sz : Nat) (hB : CBX cn) (hk : k0 < cn 10) (h4 : cn 4 < 8) : Met l yX10_add (CWS yX10_add cX10_add 4 none) (RM 1 0 0) (PBx [.ref (g 9), .int v0, .ref (ad 10 k0), .int v2] D cI cB cZ zz qq vv bt (wX cI (D.1 99) zz g ad cn In Fn) sz) (va_Qv (fun (u : (Nat → Nat) × (Nat → Int32) × (Nat → Nat → Int32)) => (fun c2 I2 F2 => Fr [4] [] [30, 31, 32, 33] cn In Fn c2 I2 F2 ∧ CBX c2 ∧ (c2 4 = cn 4 + 1 ∧ F2 30 = upd (Fn 30) (cn 4) v0 ∧ F2 31 = upd (Fn 31) (cn 4) v2 ∧ F2 32 = upd (Fn 32) (cn 4) (Fn 100 k0) ∧ F2 33 = upd (Fn 33) (cn 4) (Fn 101 k0))) u.1 u.2.1 u.2.2) (fun (u : (Nat → Nat) × (Nat → Int32) × (Nat → Nat → Int32)) (t : State) => va_P D vwCl (wX cI (D.1 99) zz g ad u.1 u.2.1 u.2.2) t.heap ∧ va_D (va_A (wX cI (D.1 99) zz g ad cn In Fn) sz) (wX cI (D.1 99) zz g ad u.1 u.2.1 u.2.2)) (va_A (wX cI (D.1 99) zz g ad cn In Fn) sz)) 0 0 (va_A (wX cI (D.1 99) zz g ad cn In Fn) sz) := by
  refine en_x (fun A => (va_Qv (fun (u : (Nat → Nat) × (Nat → Int32) × (Nat → Nat → Int32)) => (fun (c2 : Nat → Nat) (I2 : Nat → Int32) (F2 : Nat → Nat → Int32) => Fr [4] [] [30, 31, 32, 33] cn In Fn c2 I2 F2 ∧ CBX c2 ∧ (c2 4 = cn 4 + 1 ∧ F2 30 = upd (Fn 30) (cn 4) v0 ∧ F2 31 = upd (Fn 31) (cn 4) v2 ∧ F2 32 = upd (Fn 32) (cn 4) (Fn 100 k0) ∧ F2 33 = upd (Fn 33) (cn 4) (Fn 101 k0))) u.1 u.2.1 u.2.2) (fun (u : (Nat → Nat) × (Nat → Int32) × (Nat → Nat → Int32)) (t : State) => va_P D vwCl (wX cI (D.1 99) zz g ad u.1 u.2.1 u.2.2) t.heap ∧ va_D A (wX cI (D.1 99) zz g ad u.1 u.2.1 u.2.2)) A)) rfl rfl pn_RX10 (Nat.le_of_ble_eq_true rfl) (fun p e s m below meth c A hx hb hml hown S hr hlocks hnm hA hP hK hD hXS hS ls hl => ?_)
  have hl : lv_has ls 4 [(0, .ref (g 9)), (1, .int v0), (2, .ref (ad 10 k0)), (3, .int v2)] := hl
  have hb_cn : Hid (CBX cn) := hB
  replace hB : CBXh cn := hB
  refine lv_aload_n hx hb (oc_42 0 shX10_add_0) rfl (lvA0 hl) ?_
  refine gf_RX10_9 S hK hP 17 xo_17 (v := .ref (g 30)) rfl (oc_180 1 (aq_1 shX10_add_0) uw_0_9) ?_
  refine lv_aload_n hx hb (oc_42 4 (aq_4 shX10_add_0)) rfl (lvA0 hl) ?_
  refine gf_RX10_36 S hK hP 17 xo_17 (v := .int (nI (cn 4))) rfl (oc_180 5 (aq_5 shX10_add_0) uw_0_36) ?_
  refine lv_iload_n hx hb (oc_27 8 (aq_8 shX10_add_0)) rfl (lvA1 hl) ?_
  have hFc := va_free (wc := [((g 30), .inl (cI, 8, .inl (Fn 30)))]) hD hS hA [18] (one_im xo_18)
  refine va_callv (runS_w (As := [.ref (g 30), .int (nI (cn 4)), .int v0]) (rest := []) S (q_l_put l D cI cB cZ (g 30) 8 (Fn 30) (nI (cn 4)) v0 s.heap.size (by (first | omega | (have zz0 := Hid.u hb_cn; omega)))) kS_RX10_40 hK hP hD [18] (one_is xo_18) (one_im xo_18) rfl ⟨Nat.le_of_ble_eq_true rfl, Nat.le_of_ble_eq_true rfl⟩ ⟨Nat.le_of_ble_eq_true rfl, Nat.le_of_ble_eq_true rfl⟩ rfl hl.1 rfl (Nat.le_of_ble_eq_true rfl) (oc_184 9 (aq_9 shX10_add_0) uw_0_40)) hS (fun q _ h => hFc q h) hFc (fun u_3 t H1 locs ht hvm h_2 hB1 hz1 hk1 hS => ?_)
  obtain ⟨hP1, hD1⟩ := hB1
  rw [ht] at hP1
  obtain ⟨hP, hD⟩ := wset1 hP hD xo_18 hk1 hP1
  obtain rfl : u_3 = (putM (Fn 30) 8 (nI (cn 4)) v0) := h_2
  generalize H1 = H at hP hS ⊢
  have hP : va_P D vwCl (wX cI (D.1 99) zz g ad cn In (va_up Fn 30 (putM (Fn 30) 8 (nI (cn 4)) v0))) H := va_P_eq xsa_18 hP
  have hD : va_D A (wX cI (D.1 99) zz g ad cn In (va_up Fn 30 (putM (Fn 30) 8 (nI (cn 4)) v0))) := va_D_eq xsa_18 hD
  refine lv_aload_n hx hb (oc_42 12 (aq_12 shX10_add_0)) rfl (lvA0 hl) ?_
  refine gf_RX10_15 S hK hP 17 xo_17 (v := .ref (g 31)) rfl (oc_180 13 (aq_13 shX10_add_0) uw_0_15) ?_
  refine lv_aload_n hx hb (oc_42 16 (aq_16 shX10_add_0)) rfl (lvA0 hl) ?_
  refine gf_RX10_36 S hK hP 17 xo_17 (v := .int (nI (cn 4))) rfl (oc_180 17 (aq_17 shX10_add_0) uw_0_36) ?_
  refine lv_iload_n hx hb (oc_29 20 (aq_20 shX10_add_0)) rfl (lvA3 hl) ?_
  have hFc := va_free (wc := [((g 31), .inl (cI, 8, .inl (Fn 31)))]) hD hS hA [19] (one_im xo_19)
  refine va_callv (runS_w (As := [.ref (g 31), .int (nI (cn 4)), .int v2]) (rest := []) S (q_l_put l D cI cB cZ (g 31) 8 (Fn 31) (nI (cn 4)) v2 H.size (by (first | omega | (have zz0 := Hid.u hb_cn; omega)))) kS_RX10_40 hK hP hD [19] (one_is xo_19) (one_im xo_19) rfl ⟨Nat.le_of_ble_eq_true rfl, Nat.le_of_ble_eq_true rfl⟩ ⟨Nat.le_of_ble_eq_true rfl, Nat.le_of_ble_eq_true rfl⟩ rfl hl.1 rfl (Nat.le_of_ble_eq_true rfl) (oc_184 21 (aq_21 shX10_add_0) uw_0_40)) hS (fun q _ h => hFc q h) hFc (fun u_6 t H1 locs ht hvm h_5 hB1 hz1 hk1 hS => ?_)
  obtain ⟨hP1, hD1⟩ := hB1
  rw [ht] at hP1
  obtain ⟨hP, hD⟩ := wset1 hP hD xo_19 hk1 hP1
  obtain rfl : u_6 = (putM (Fn 31) 8 (nI (cn 4)) v2) := h_5
  generalize H1 = H at hP hS ⊢
  have hP : va_P D vwCl (wX cI (D.1 99) zz g ad cn In (va_up (va_up Fn 30 (putM (Fn 30) 8 (nI (cn 4)) v0)) 31 (putM (Fn 31) 8 (nI (cn 4)) v2))) H := va_P_eq xsa_19 hP
  have hD : va_D A (wX cI (D.1 99) zz g ad cn In (va_up (va_up Fn 30 (putM (Fn 30) 8 (nI (cn 4)) v0)) 31 (putM (Fn 31) 8 (nI (cn 4)) v2))) := va_D_eq xsa_19 hD
  refine lv_aload_n hx hb (oc_42 24 shX10_add_24) rfl (lvA0 hl) ?_
  refine gf_RX10_18 S hK hP 17 xo_17 (v := .ref (g 32)) rfl (oc_180 25 (aq_1 shX10_add_24) uw_0_18) ?_
  refine lv_aload_n hx hb (oc_42 28 (aq_4 shX10_add_24)) rfl (lvA0 hl) ?_
  refine gf_RX10_36 S hK hP 17 xo_17 (v := .int (nI (cn 4))) rfl (oc_180 29 (aq_5 shX10_add_24) uw_0_36) ?_
  refine lv_aload_n hx hb (oc_44 32 (aq_8 shX10_add_24)) rfl (lvA2 hl) ?_
  refine gf_RX10_46 S hK hP _ (xf_0 hk) (v := .int ((Fn 100) k0)) rfl (oc_180 33 (aq_9 shX10_add_24) uw_0_46) ?_
  have hFc := va_free (wc := [((g 32), .inl (cI, 8, .inl (Fn 32)))]) hD hS hA [20] (one_im xo_20)
  refine va_callv (runS_w (As := [.ref (g 32), .int (nI (cn 4)), .int ((Fn 100) k0)]) (rest := []) S (q_l_put l D cI cB cZ (g 32) 8 (Fn 32) (nI (cn 4)) ((Fn 100) k0) H.size (by (first | omega | (have zz0 := Hid.u hb_cn; omega)))) kS_RX10_40 hK hP hD [20] (one_is xo_20) (one_im xo_20) rfl ⟨Nat.le_of_ble_eq_true rfl, Nat.le_of_ble_eq_true rfl⟩ ⟨Nat.le_of_ble_eq_true rfl, Nat.le_of_ble_eq_true rfl⟩ rfl hl.1 rfl (Nat.le_of_ble_eq_true rfl) (oc_184 36 (aq_12 shX10_add_24) uw_0_40)) hS (fun q _ h => hFc q h) hFc (fun u_9 t H1 locs ht hvm h_8 hB1 hz1 hk1 hS => ?_)
  obtain ⟨hP1, hD1⟩ := hB1
  rw [ht] at hP1
  obtain ⟨hP, hD⟩ := wset1 hP hD xo_20 hk1 hP1
  obtain rfl : u_9 = (putM (Fn 32) 8 (nI (cn 4)) ((Fn 100) k0)) := h_8
  generalize H1 = H at hP hS ⊢
  have hP : va_P D vwCl (wX cI (D.1 99) zz g ad cn In (va_up (va_up (va_up Fn 30 (putM (Fn 30) 8 (nI (cn 4)) v0)) 31 (putM (Fn 31) 8 (nI (cn 4)) v2)) 32 (putM (Fn 32) 8 (nI (cn 4)) ((Fn 100) k0)))) H := va_P_eq xsa_20 hP
  have hD : va_D A (wX cI (D.1 99) zz g ad cn In (va_up (va_up (va_up Fn 30 (putM (Fn 30) 8 (nI (cn 4)) v0)) 31 (putM (Fn 31) 8 (nI (cn 4)) v2)) 32 (putM (Fn 32) 8 (nI (cn 4)) ((Fn 100) k0)))) := va_D_eq xsa_20 hD
  refine lv_aload_n hx hb (oc_42 39 (aq_15 shX10_add_24)) rfl (lvA0 hl) ?_
  refine gf_RX10_21 S hK hP 17 xo_17 (v := .ref (g 33)) rfl (oc_180 40 (aq_16 shX10_add_24) uw_0_21) ?_
  refine lv_aload_n hx hb (oc_42 43 (aq_19 shX10_add_24)) rfl (lvA0 hl) ?_
  refine gf_RX10_36 S hK hP 17 xo_17 (v := .int (nI (cn 4))) rfl (oc_180 44 (aq_20 shX10_add_24) uw_0_36) ?_
  refine lv_aload_n hx hb (oc_44 47 (aq_23 shX10_add_24)) rfl (lvA2 hl) ?_
  refine gf_RX10_51 S hK hP _ (xf_0 hk) (v := .int ((Fn 101) k0)) rfl (oc_180 48 shX10_add_48 uw_0_51) ?_
  have hFc := va_free (wc := [((g 33), .inl (cI, 8, .inl (Fn 33)))]) hD hS hA [21] (one_im xo_21)
  refine va_callv (runS_w (As := [.ref (g 33), .int (nI (cn 4)), .int ((Fn 101) k0)]) (rest := []) S (q_l_put l D cI cB cZ (g 33) 8 (Fn 33) (nI (cn 4)) ((Fn 101) k0) H.size (by (first | omega | (have zz0 := Hid.u hb_cn; omega)))) kS_RX10_40 hK hP hD [21] (one_is xo_21) (one_im xo_21) rfl ⟨Nat.le_of_ble_eq_true rfl, Nat.le_of_ble_eq_true rfl⟩ ⟨Nat.le_of_ble_eq_true rfl, Nat.le_of_ble_eq_true rfl⟩ rfl hl.1 rfl (Nat.le_of_ble_eq_true rfl) (oc_184 51 (aq_3 shX10_add_48) uw_0_40)) hS (fun q _ h => hFc q h) hFc (fun u_12 t H1 locs ht hvm h_11 hB1 hz1 hk1 hS => ?_)
  obtain ⟨hP1, hD1⟩ := hB1
  rw [ht] at hP1
  obtain ⟨hP, hD⟩ := wset1 hP hD xo_21 hk1 hP1
  obtain rfl : u_12 = (putM (Fn 33) 8 (nI (cn 4)) ((Fn 101) k0)) := h_11
  generalize H1 = H at hP hS ⊢
  have hP : va_P D vwCl (wX cI (D.1 99) zz g ad cn In (va_up (va_up (va_up (va_up Fn 30 (putM (Fn 30) 8 (nI (cn 4)) v0)) 31 (putM (Fn 31) 8 (nI (cn 4)) v2)) 32 (putM (Fn 32) 8 (nI (cn 4)) ((Fn 100) k0))) 33 (putM (Fn 33) 8 (nI (cn 4)) ((Fn 101) k0)))) H := va_P_eq xsa_21 hP
  have hD : va_D A (wX cI (D.1 99) zz g ad cn In (va_up (va_up (va_up (va_up Fn 30 (putM (Fn 30) 8 (nI (cn 4)) v0)) 31 (putM (Fn 31) 8 (nI (cn 4)) v2)) 32 (putM (Fn 32) 8 (nI (cn 4)) ((Fn 100) k0))) 33 (putM (Fn 33) 8 (nI (cn 4)) ((Fn 101) k0)))) := va_D_eq xsa_21 hD
  refine lv_aload_n hx hb (oc_42 54 (aq_6 shX10_add_48)) rfl (lvA0 hl) ?_
  refine lv_dup hx hb (oc_89 55 (aq_7 shX10_add_48)) rfl ?_
  refine gf_RX10_36 S hK hP 17 xo_17 (v := .int (nI (cn 4))) rfl (oc_180 56 (aq_8 shX10_add_48) uw_0_36) ?_
  refine lv_iconst (v := 1) hx hb (oc_4 59 (aq_11 shX10_add_48)) kic_1 ?_
  refine lv_iadd hx hb (oc_96 60 (aq_12 shX10_add_48)) ?_
  refine lv_topi (fun y_13 ey_13 => ?_)
  obtain rfl : y_13 = (nI ((cn 4) + 1)) := ey_13.trans (nI_add (cn 4) 1)
  refine pf_RX10_36 S hK hP hD hS 17 xo_17 (v := .int (nI ((cn 4) + 1))) (Nat.le_of_ble_eq_true rfl) rfl rfl (oc_181 61 (aq_13 shX10_add_48) uw_0_36) (fun H locs hP hD hS => ?_)
  have hP : va_P D vwCl (wX cI (D.1 99) zz g ad (va_up cn 4 ((cn 4) + 1)) In (va_up (va_up (va_up (va_up Fn 30 (putM (Fn 30) 8 (nI (cn 4)) v0)) 31 (putM (Fn 31) 8 (nI (cn 4)) v2)) 32 (putM (Fn 32) 8 (nI (cn 4)) ((Fn 100) k0))) 33 (putM (Fn 33) 8 (nI (cn 4)) ((Fn 101) k0)))) H := va_P_eq (xsf_17_6) hP
  have hD : va_D A (wX cI (D.1 99) zz g ad (va_up cn 4 ((cn 4) + 1)) In (va_up (va_up (va_up (va_up Fn 30 (putM (Fn 30) 8 (nI (cn 4)) v0)) 31 (putM (Fn 31) 8 (nI (cn 4)) v2)) 32 (putM (Fn 32) 8 (nI (cn 4)) ((Fn 100) k0))) 33 (putM (Fn 33) 8 (nI (cn 4)) ((Fn 101) k0)))) := va_D_eq (xsf_17_6) hD
  exact W.vret hx hb hr (fun t ht hW => ⟨⟨((va_up cn 4 ((cn 4) + 1)), In, (va_up (va_up (va_up (va_up Fn 30 (putM (Fn 30) 8 (nI (cn 4)) v0)) 31 (putM (Fn 31) 8 (nI (cn 4)) v2)) 32 (putM (Fn 32) 8 (nI (cn 4)) ((Fn 100) k0))) 33 (putM (Fn 33) 8 (nI (cn 4)) ((Fn 101) k0)))), rfl, ⟨(Fr.mo (Fr.f 33 (Fr.f 32 (Fr.f 31 (Fr.f 30 (Fr.c 4 Fr.rf))))) (sbl rfl) (sbl rfl) (sbl rfl)), (CBX.u4 (v := ((cn 4) + 1)) hB (show ((cn 4) + 1) ≤ 8 by (first | omega | (have zz0 := Hid.u hb_cn; omega)))), (by show (va_up cn 4 ((cn 4) + 1)) 4 = cn 4 + 1 ∧ (va_up (va_up (va_up (va_up Fn 30 (putM (Fn 30) 8 (nI (cn 4)) v0)) 31 (putM (Fn 31) 8 (nI (cn 4)) v2)) 32 (putM (Fn 32) 8 (nI (cn 4)) ((Fn 100) k0))) 33 (putM (Fn 33) 8 (nI (cn 4)) ((Fn 101) k0))) 30 = upd (Fn 30) (cn 4) v0 ∧ (va_up (va_up (va_up (va_up Fn 30 (putM (Fn 30) 8 (nI (cn 4)) v0)) 31 (putM (Fn 31) 8 (nI (cn 4)) v2)) 32 (putM (Fn 32) 8 (nI (cn 4)) ((Fn 100) k0))) 33 (putM (Fn 33) 8 (nI (cn 4)) ((Fn 101) k0))) 31 = upd (Fn 31) (cn 4) v2 ∧ (va_up (va_up (va_up (va_up Fn 30 (putM (Fn 30) 8 (nI (cn 4)) v0)) 31 (putM (Fn 31) 8 (nI (cn 4)) v2)) 32 (putM (Fn 32) 8 (nI (cn 4)) ((Fn 100) k0))) 33 (putM (Fn 33) 8 (nI (cn 4)) ((Fn 101) k0))) 32 = upd (Fn 32) (cn 4) (Fn 100 k0) ∧ (va_up (va_up (va_up (va_up Fn 30 (putM (Fn 30) 8 (nI (cn 4)) v0)) 31 (putM (Fn 31) 8 (nI (cn 4)) v2)) 32 (putM (Fn 32) 8 (nI (cn 4)) ((Fn 100) k0))) 33 (putM (Fn 33) 8 (nI (cn 4)) ((Fn 101) k0))) 33 = upd (Fn 33) (cn 4) (Fn 101 k0); exact ⟨rfl, putW h4 (by decide), putW h4 (by decide), putW h4 (by decide), putW h4 (by decide)⟩)⟩, by rw [ht]; exact hP, hD⟩, hS.F ht⟩) hS.2.2 (oc_177 64 (aq_16 shX10_add_48))
set_option maxRecDepth 100000 in
set_option maxHeartbeats 4000000 in
theorem q_EgatherStops (l : Launch) (D : va_G) (cI cB cZ : ClassId) (zz qq vv : Nat) (bt : Nat → Int32) (g : Nat → Nat) (ad : Nat → Nat → Nat) (cn : Nat → Nat) (In : Nat → Int32) (Fn : Nat → Nat → Int32) (v0 v1 v2 : Int32) (sz : Nat) (hB : CBX cn) (hm : 0 ≤ v2.toInt ∧ v2.toInt ≤ 8) (hxy : ∀ k : Nat, k < cn 10 → XYB (Fn 100 k) (Fn 101 k)) : Met l yX11_gatherStops (CWS yX11_gatherStops cX11_gatherStops 7 (some .boolean)) (RM 6 0 0) (PBx [.ref (g 0), .int v0, .int v1, .int v2] D cI cB cZ zz qq vv bt (wX cI (D.1 99) zz g ad cn In Fn) sz) (va_Qi (fun (r : Int32) (u : (Nat → Nat) × (Nat → Int32) × (Nat → Nat → Int32)) => (fun r c2 I2 F2 => Fr [4] [] [30, 31, 32, 33, 34, 35] cn In Fn c2 I2 F2 ∧ CBX c2 ∧ ((r = 0 ∧ ∃ l : List Nat, AL (fun k9 => v1.toInt ≤ ((if (Fn 102 k9 * (v0 - (Fn 105) k9)) < Fn 103 k9 then Fn 102 k9 * (v0 - (Fn 105) k9) else Fn 103 k9)).toInt) (cn 10) l ∧ Int32.toInt v2 < (l.length : Int)) ∨ (r = 1 ∧ ∃ l : List Nat, AL (fun k9 => v1.toInt ≤ ((if (Fn 102 k9 * (v0 - (Fn 105) k9)) < Fn 103 k9 then Fn 102 k9 * (v0 - (Fn 105) k9) else Fn 103 k9)).toInt) (cn 10) l ∧ (l.length : Int) ≤ Int32.toInt v2 ∧ l.length ≤ 8 ∧ c2 4 = l.length ∧ RWF (F2 30) nI l ∧ RWF (F2 31) (fun k9 => (if (Fn 102 k9 * (v0 - (Fn 105) k9)) < Fn 103 k9 then Fn 102 k9 * (v0 - (Fn 105) k9) else Fn 103 k9)) l ∧ TBL (fun a b => wyX (Fn 100 (l.getD a 0)) (Fn 101 (l.getD a 0)) (Fn 100 (l.getD b 0)) (Fn 101 (l.getD b 0))) (fun a => Fn 100 (l.getD a 0) + Fn 101 (l.getD a 0)) l.length (F2 34) (2 ^ l.length) ∧ ∀ S : Nat, S < 2 ^ l.length → RND (fun a => Fn 100 (l.getD a 0) + Fn 101 (l.getD a 0)) l.length (F2 34) S (F2 35 S)))) r u.1 u.2.1 u.2.2) (fun (u : (Nat → Nat) × (Nat → Int32) × (Nat → Nat → Int32)) (t : State) => va_P D vwCl (wX cI (D.1 99) zz g ad u.1 u.2.1 u.2.2) t.heap ∧ va_D (va_A (wX cI (D.1 99) zz g ad cn In Fn) sz) (wX cI (D.1 99) zz g ad u.1 u.2.1 u.2.2)) (va_A (wX cI (D.1 99) zz g ad cn In Fn) sz)) 0 0 (va_A (wX cI (D.1 99) zz g ad cn In Fn) sz) := by
  refine en_x (fun A => (va_Qi (fun (r : Int32) (u : (Nat → Nat) × (Nat → Int32) × (Nat → Nat → Int32)) => (fun (r : Int32) (c2 : Nat → Nat) (I2 : Nat → Int32) (F2 : Nat → Nat → Int32) => Fr [4] [] [30, 31, 32, 33, 34, 35] cn In Fn c2 I2 F2 ∧ CBX c2 ∧ ((r = 0 ∧ ∃ l : List Nat, AL (fun k9 => v1.toInt ≤ ((if (Fn 102 k9 * (v0 - (Fn 105) k9)) < Fn 103 k9 then Fn 102 k9 * (v0 - (Fn 105) k9) else Fn 103 k9)).toInt) (cn 10) l ∧ Int32.toInt v2 < (l.length : Int)) ∨ (r = 1 ∧ ∃ l : List Nat, AL (fun k9 => v1.toInt ≤ ((if (Fn 102 k9 * (v0 - (Fn 105) k9)) < Fn 103 k9 then Fn 102 k9 * (v0 - (Fn 105) k9) else Fn 103 k9)).toInt) (cn 10) l ∧ (l.length : Int) ≤ Int32.toInt v2 ∧ l.length ≤ 8 ∧ c2 4 = l.length ∧ RWF (F2 30) nI l ∧ RWF (F2 31) (fun k9 => (if (Fn 102 k9 * (v0 - (Fn 105) k9)) < Fn 103 k9 then Fn 102 k9 * (v0 - (Fn 105) k9) else Fn 103 k9)) l ∧ TBL (fun a b => wyX (Fn 100 (l.getD a 0)) (Fn 101 (l.getD a 0)) (Fn 100 (l.getD b 0)) (Fn 101 (l.getD b 0))) (fun a => Fn 100 (l.getD a 0) + Fn 101 (l.getD a 0)) l.length (F2 34) (2 ^ l.length) ∧ ∀ S : Nat, S < 2 ^ l.length → RND (fun a => Fn 100 (l.getD a 0) + Fn 101 (l.getD a 0)) l.length (F2 34) S (F2 35 S)))) r u.1 u.2.1 u.2.2) (fun (u : (Nat → Nat) × (Nat → Int32) × (Nat → Nat → Int32)) (t : State) => va_P D vwCl (wX cI (D.1 99) zz g ad u.1 u.2.1 u.2.2) t.heap ∧ va_D A (wX cI (D.1 99) zz g ad u.1 u.2.1 u.2.2)) A)) rfl rfl pn_RX11 (Nat.le_of_ble_eq_true rfl) (fun p e s m below meth c A hx hb hml hown S hr hlocks hnm hA hP hK hD hXS hS ls hl => ?_)
  have hl : lv_has ls 7 [(0, .ref (g 0)), (1, .int v0), (2, .int v1), (3, .int v2)] := hl
  have hb_cn : Hid (CBX cn) := hB
  replace hB : CBXh cn := hB
  refine lv_aload_n hx hb (oc_42 0 shX11_gatherStops_0) rfl (lvA0 hl) ?_
  refine gf_RX11_54 S hK hP 0 xo_0 (v := .ref (g 9)) rfl (oc_180 1 (aq_1 shX11_gatherStops_0) uw_0_54) ?_
  have hFc := free_all hD hS hA
  refine va_callv (runV_xa (As := []) (rest := []) S (q_Xwclear l D cI cB cZ zz qq vv bt g ad cn In Fn  s.heap.size hB) kV_RX11_266 hK hXS hS hFc hP hD 17 xo_17 rfl rfl ⟨Nat.le_of_ble_eq_true rfl, Nat.le_of_ble_eq_true rfl⟩ ⟨Nat.le_of_ble_eq_true rfl, Nat.le_of_ble_eq_true rfl⟩ rfl hl.1 rfl (Nat.le_of_ble_eq_true rfl) (oc_182 4 (aq_4 shX11_gatherStops_0) uw_1_10)) hS (fun q _ h => hFc q h) hFc (fun u t H1 locs ht hvm wh_2 hB1 hz1 hk1 hS => ?_)
  obtain ⟨cn2, In2, Fn2⟩ := u
  obtain ⟨hP1, hD1⟩ := hB1
  rw [ht] at hP1
  have vh_2 : (fun c2 I2 F2 => (∀ k : Nat, k ∉ [] → I2 k = In k) ∧ (((True) ∧ (va_up cn 4 0) = c2 ∧ Fn = F2))) cn2 In2 Fn2 := wh_2
  obtain ⟨hI2_, vh_2⟩ := vh_2
  obtain ⟨h_2, rfl, rfl⟩ := vh_2
  obtain rfl : In = In2 := (funext (fun k => hI2_ k List.not_mem_nil)).symm
  have hP : va_P D vwCl (wX cI (D.1 99) zz g ad (va_up cn 4 0) In Fn) H1 := hP1
  have hD : va_D A (wX cI (D.1 99) zz g ad (va_up cn 4 0) In Fn) := hD1.weaken (fun _ _ _ h => hFc _ h)
  generalize H1 = H at hP hS ⊢
  refine lv_iconst (v := 0) hx hb (oc_3 7 (aq_7 shX11_gatherStops_0)) kic_0 ?_
  refine lv_istore (lv' := [(4, .int 0), (0, .ref (g 0)), (1, .int v0), (2, .int v1), (3, .int v2)]) hx hb (oc_54 8 (aq_8 shX11_gatherStops_0) ub_4) hl (ltb rfl) rfl (fun ls hl => ?_)
  have lp_10 : ∀ (n : Nat) (i10 : Nat) (c10 : Nat → Nat) (F10 : Nat → Nat → Int32) (H : Heap) (locs : List Loc) , cn 10 - i10 < n → (i10 ≤ cn 10 ∧ Fr [4] [] [30, 31, 32, 33, 34, 35] cn In Fn c10 In F10 ∧ CBX c10 ∧ (∃ l : List Nat, AL (fun k9 => v1.toInt ≤ ((if (Fn 102 k9 * (v0 - (Fn 105) k9)) < Fn 103 k9 then Fn 102 k9 * (v0 - (Fn 105) k9) else Fn 103 k9)).toInt) i10 l ∧ c10 4 = l.length ∧ RWF (F10 30) nI l ∧ RWF (F10 31) (fun k9 => (if (Fn 102 k9 * (v0 - (Fn 105) k9)) < Fn 103 k9 then Fn 102 k9 * (v0 - (Fn 105) k9) else Fn 103 k9)) l ∧ RWF (F10 32) (Fn 100) l ∧ RWF (F10 33) (Fn 101) l ∧ l.length ≤ 8 ∧ (l.length : Int) ≤ v2.toInt)) → va_P D vwCl (wX cI (D.1 99) zz g ad c10 In F10) H → va_D A (wX cI (D.1 99) zz g ad c10 In F10) → va_S A s.heap H locs → ∀ ls : Array Slot, lv_has ls 7 [(4, .int (nI i10)), (0, .ref (g 0)), (1, .int v0), (2, .int v1), (3, .int v2)] → W p l e (RM 6 0 0) s m ([.ref (g 0), .int v0, .int v1, .int v2]).toArray below meth c H locs 0 0 (MQ below (va_Qi (fun (r : Int32) (u : (Nat → Nat) × (Nat → Int32) × (Nat → Nat → Int32)) => (fun r c2 I2 F2 => Fr [4] [] [30, 31, 32, 33, 34, 35] cn In Fn c2 I2 F2 ∧ CBX c2 ∧ ((r = 0 ∧ ∃ l : List Nat, AL (fun k9 => v1.toInt ≤ ((if (Fn 102 k9 * (v0 - (Fn 105) k9)) < Fn 103 k9 then Fn 102 k9 * (v0 - (Fn 105) k9) else Fn 103 k9)).toInt) (cn 10) l ∧ Int32.toInt v2 < (l.length : Int)) ∨ (r = 1 ∧ ∃ l : List Nat, AL (fun k9 => v1.toInt ≤ ((if (Fn 102 k9 * (v0 - (Fn 105) k9)) < Fn 103 k9 then Fn 102 k9 * (v0 - (Fn 105) k9) else Fn 103 k9)).toInt) (cn 10) l ∧ (l.length : Int) ≤ Int32.toInt v2 ∧ l.length ≤ 8 ∧ c2 4 = l.length ∧ RWF (F2 30) nI l ∧ RWF (F2 31) (fun k9 => (if (Fn 102 k9 * (v0 - (Fn 105) k9)) < Fn 103 k9 then Fn 102 k9 * (v0 - (Fn 105) k9) else Fn 103 k9)) l ∧ TBL (fun a b => wyX (Fn 100 (l.getD a 0)) (Fn 101 (l.getD a 0)) (Fn 100 (l.getD b 0)) (Fn 101 (l.getD b 0))) (fun a => Fn 100 (l.getD a 0) + Fn 101 (l.getD a 0)) l.length (F2 34) (2 ^ l.length) ∧ ∀ S : Nat, S < 2 ^ l.length → RND (fun a => Fn 100 (l.getD a 0) + Fn 101 (l.getD a 0)) l.length (F2 34) S (F2 35 S)))) r u.1 u.2.1 u.2.2) (fun (u : (Nat → Nat) × (Nat → Int32) × (Nat → Nat → Int32)) (t : State) => va_P D vwCl (wX cI (D.1 99) zz g ad u.1 u.2.1 u.2.2) t.heap ∧ va_D A (wX cI (D.1 99) zz g ad u.1 u.2.1 u.2.2)) A) ([.ref (g 0), .int v0, .int v1, .int v2]).toArray s 0 0 A) (F0 m 10 ls []) := by
    intro n10
    induction n10 with
    | zero => intros; (first | omega | (have zz0 := Hid.u hb_cn; omega))
    | succ n10 ih10 =>
      intro i10 c10 F10 H locs hmu10 hinv10 hP hD hS ls hl
      obtain ⟨hr10, hfr10, hI10, hx10_0⟩ := hinv10
      have ti10 : (nI i10).toInt = (i10 : Int) := nI_toInt (by (first | omega | (have zz0 := Hid.u hb_cn; omega)))
      have hb_c10 : Hid (CBX c10) := hI10
      replace hI10 : CBXh c10 := hI10
      have : c10 6 = cn 6 := hfr10.1 6 (nml rfl)
      have : c10 31 = cn 31 := hfr10.1 31 (nml rfl)
      have : c10 32 = cn 32 := hfr10.1 32 (nml rfl)
      have hq_c10 := Hid.i (frq_4_0_1_2_3_5_10_11_12_13_14_15_20_21_22_23_24_25 hfr10)
      obtain ⟨l9, hal9, hc9, r30, r31, r32, r33, hl8, hlv⟩ := hx10_0
      refine lv_iload hx hb (oc_21 10 (aq_10 shX11_gatherStops_0) ub_4) (lvA0 hl) ?_
      refine lv_aload_n hx hb (oc_42 12 (aq_12 shX11_gatherStops_0)) rfl (lvA1 hl) ?_
      refine gf_RX11_61 S hK hP 0 xo_0 (v := .ref (g 10)) rfl (oc_180 13 (aq_13 shX11_gatherStops_0) uw_0_61) ?_
      refine vp_callSi (runV_r (As := []) (rest := [.int (nI i10)]) S (q_l_size l D cI cB cZ (g 10) (if (c10 10) = 0 then zz else ad 2 0) (In 10) (nI (c10 10))) kV_RX11_84 hK hP [24] (one_is xo_24) 24 xo_24 rfl rfl ⟨Nat.le_of_ble_eq_true rfl, Nat.le_of_ble_eq_true rfl⟩ ⟨Nat.le_of_ble_eq_true rfl, Nat.le_of_ble_eq_true rfl⟩ rfl hl.1 rfl (Nat.le_of_ble_eq_true rfl) (oc_182 16 (aq_16 shX11_gatherStops_0) uw_0_84)) (fun r_3 h_4 => ?_)
      subst h_4
      have : (nI (c10 10)).toInt = (((c10 10) : Nat) : Int) := nI_toInt (by (first | omega | (have zz0 := Hid.u hb_c10; have zz1 := Hid.u hb_cn; have zz2 := Hid.u hq_c10; omega)))
      refine lv_icmp_ge (tgt := 90) hx hb (oc_162 19 (aq_19 shX11_gatherStops_0) sgw_0_71) rfl (fun c_5 => ?_) (fun c_5 => ?_)
      ·
        have tc_5 : ((nI (c10 10)).toInt : Int) ≤ (nI i10).toInt := Int32.le_iff_toInt_le.mp c_5
        refine lv_aload_n hx hb (oc_42 90 (aq_15 shX11_gatherStops_75)) rfl (lvA1 hl) ?_
        refine gf_RX11_54 S hK hP 0 xo_0 (v := .ref (g 9)) rfl (oc_180 91 (aq_16 shX11_gatherStops_75) uw_0_54) ?_
        have hFc := free_all hD hS hA
        refine va_callv (runV_xa (As := []) (rest := []) S (q_Esolve l D cI cB cZ zz qq vv bt g ad c10 In F10  H.size hI10 (by (first | omega | (have zz0 := Hid.u hb_c10; have zz1 := Hid.u hb_cn; have zz2 := Hid.u hq_c10; omega))) (fun a ha => by rw [r32.at (by (first | omega | (have zz0 := Hid.u hb_c10; have zz1 := Hid.u hb_cn; have zz2 := Hid.u hq_c10; omega))), r33.at (by (first | omega | (have zz0 := Hid.u hb_c10; have zz1 := Hid.u hb_cn; have zz2 := Hid.u hq_c10; omega)))]; exact hxy _ (by have := (hal9.ge (show a < l9.length by (first | omega | (have zz0 := Hid.u hb_c10; have zz1 := Hid.u hb_cn; have zz2 := Hid.u hq_c10; omega)))).1; (first | omega | (have zz0 := Hid.u hb_c10; have zz1 := Hid.u hb_cn; have zz2 := Hid.u hq_c10; omega))))) kV_RX11_273 hK hXS hS hFc hP hD 17 xo_17 rfl rfl ⟨Nat.le_of_ble_eq_true rfl, Nat.le_of_ble_eq_true rfl⟩ ⟨Nat.le_of_ble_eq_true rfl, Nat.le_of_ble_eq_true rfl⟩ rfl hl.1 rfl (Nat.le_of_ble_eq_true rfl) (oc_182 94 (aq_19 shX11_gatherStops_75) uw_1_17)) hS (fun q _ h => hFc q h) hFc (fun u t H1 locs ht hvm wh_7 hB1 hz1 hk1 hS => ?_)
        obtain ⟨cn7, In7, Fn7⟩ := u
        obtain ⟨hP1, hD1⟩ := hB1
        rw [ht] at hP1
        have hP : va_P D vwCl (wX cI (D.1 99) zz g ad cn7 In7 Fn7) H1 := hP1
        have hD : va_D A (wX cI (D.1 99) zz g ad cn7 In7 Fn7) := hD1.weaken (fun _ _ _ h => hFc _ h)
        generalize H1 = H at hP hS ⊢
        have vh_7 : (fun c2 I2 F2 => Fr [] [] [34, 35] c10 In F10 c2 I2 F2 ∧ CBX c2 ∧ (TBL (fun a b => wyX ((F10 32) a) ((F10 33) a) ((F10 32) b) ((F10 33) b)) (fun a => (F10 32) a + (F10 33) a) ((c10 4)) (F2 34) (2 ^ (c10 4)) ∧ ∀ S : Nat, S < 2 ^ (c10 4) → RND (fun a => (F10 32) a + (F10 33) a) ((c10 4)) (F2 34) S (F2 35 S))) cn7 In7 Fn7 := wh_7
        obtain ⟨hfc7, hIn7, h_7⟩ := vh_7
        obtain rfl : c10 = cn7 := (funext (fun k => hfc7.1 k List.not_mem_nil)).symm
        obtain rfl : In = In7 := (funext (fun k => hfc7.2.1 k List.not_mem_nil)).symm
        have hf7 : Fr [4] [] [30, 31, 32, 33, 34, 35] cn In Fn c10 In Fn7 := Fr.mo (Fr.tr hfr10 hfc7) (sbl rfl) (sbl rfl) (sbl rfl)
        replace hIn7 : CBXh c10 := hIn7
        refine lv_iconst (v := 1) hx hb (oc_4 97 (aq_22 shX11_gatherStops_75)) kic_1 ?_
        exact W.zret (v := 1) hx hb hr rfl (fun t ht hW => ⟨⟨1, (c10, In, Fn7), rfl, ⟨(Fr.mo hf7 (sbl rfl) (sbl rfl) (sbl rfl)), hIn7, (by show (1 = 0 ∧ ∃ l : List Nat, AL (fun k9 => v1.toInt ≤ ((if (Fn 102 k9 * (v0 - (Fn 105) k9)) < Fn 103 k9 then Fn 102 k9 * (v0 - (Fn 105) k9) else Fn 103 k9)).toInt) (cn 10) l ∧ Int32.toInt v2 < (l.length : Int)) ∨ (1 = 1 ∧ ∃ l : List Nat, AL (fun k9 => v1.toInt ≤ ((if (Fn 102 k9 * (v0 - (Fn 105) k9)) < Fn 103 k9 then Fn 102 k9 * (v0 - (Fn 105) k9) else Fn 103 k9)).toInt) (cn 10) l ∧ (l.length : Int) ≤ Int32.toInt v2 ∧ l.length ≤ 8 ∧ c10 4 = l.length ∧ RWF (Fn7 30) nI l ∧ RWF (Fn7 31) (fun k9 => (if (Fn 102 k9 * (v0 - (Fn 105) k9)) < Fn 103 k9 then Fn 102 k9 * (v0 - (Fn 105) k9) else Fn 103 k9)) l ∧ TBL (fun a b => wyX (Fn 100 (l.getD a 0)) (Fn 101 (l.getD a 0)) (Fn 100 (l.getD b 0)) (Fn 101 (l.getD b 0))) (fun a => Fn 100 (l.getD a 0) + Fn 101 (l.getD a 0)) l.length (Fn7 34) (2 ^ l.length) ∧ ∀ S : Nat, S < 2 ^ l.length → RND (fun a => Fn 100 (l.getD a 0) + Fn 101 (l.getD a 0)) l.length (Fn7 34) S (Fn7 35 S)); have e9 : i10 = cn 10 := (by (first | omega | (have zz0 := Hid.u hb_c10; have zz1 := Hid.u hb_cn; have zz2 := Hid.u hq_c10; omega))); have ht9 := TBL.cw (w2 := (fun a b => wyX (Fn 100 (l9.getD a 0)) (Fn 101 (l9.getD a 0)) (Fn 100 (l9.getD b 0)) (Fn 101 (l9.getD b 0)))) (dep2 := (fun a => Fn 100 (l9.getD a 0) + Fn 101 (l9.getD a 0))) (fun a b ha hb => by show wyX (F10 32 a) (F10 33 a) (F10 32 b) (F10 33 b) = _; rw [r32.at (by (first | omega | (have zz0 := Hid.u hb_c10; have zz1 := Hid.u hb_cn; have zz2 := Hid.u hq_c10; omega))), r33.at (by (first | omega | (have zz0 := Hid.u hb_c10; have zz1 := Hid.u hb_cn; have zz2 := Hid.u hq_c10; omega))), r32.at (show b < l9.length by (first | omega | (have zz0 := Hid.u hb_c10; have zz1 := Hid.u hb_cn; have zz2 := Hid.u hq_c10; omega))), r33.at (show b < l9.length by (first | omega | (have zz0 := Hid.u hb_c10; have zz1 := Hid.u hb_cn; have zz2 := Hid.u hq_c10; omega)))]) (fun a ha => by show F10 32 a + F10 33 a = _; rw [r32.at (by (first | omega | (have zz0 := Hid.u hb_c10; have zz1 := Hid.u hb_cn; have zz2 := Hid.u hq_c10; omega))), r33.at (by (first | omega | (have zz0 := Hid.u hb_c10; have zz1 := Hid.u hb_cn; have zz2 := Hid.u hq_c10; omega)))]) h_7.1; have hr9 : ∀ S : Nat, S < 2 ^ c10 4 → RND (fun a => Fn 100 (l9.getD a 0) + Fn 101 (l9.getD a 0)) (c10 4) (Fn7 34) S (Fn7 35 S) := fun S hS => RND.cw (dep2 := (fun a => Fn 100 (l9.getD a 0) + Fn 101 (l9.getD a 0))) (fun a ha => by show F10 32 a + F10 33 a = _; rw [r32.at (by (first | omega | (have zz0 := Hid.u hb_c10; have zz1 := Hid.u hb_cn; have zz2 := Hid.u hq_c10; omega))), r33.at (by (first | omega | (have zz0 := Hid.u hb_c10; have zz1 := Hid.u hb_cn; have zz2 := Hid.u hq_c10; omega)))]) (h_7.2 S hS); rw [hc9] at ht9 hr9; exact Or.inr ⟨rfl, l9, (by rw [← e9]; exact hal9), hlv, hl8, hc9, (by rw [(hfc7.2.2 30 (nml rfl))]; exact r30), (by rw [(hfc7.2.2 31 (nml rfl))]; exact r31), ht9, hr9⟩)⟩, by rw [ht]; exact hP, hD⟩, hS.F ht⟩) hS.2.2 (oc_172 98 (aq_23 shX11_gatherStops_75))
      ·
        have tc_5 : ((nI i10).toInt : Int) < (nI (c10 10)).toInt := Int32.lt_iff_toInt_lt.mp (Int32.not_le.mp c_5)
        refine lv_aload_n hx hb (oc_42 22 (aq_22 shX11_gatherStops_0)) rfl (lvA1 hl) ?_
        refine gf_RX11_61 S hK hP 0 xo_0 (v := .ref (g 10)) rfl (oc_180 23 (aq_23 shX11_gatherStops_0) uw_0_61) ?_
        refine lv_iload hx hb (oc_21 26 shX11_gatherStops_26 ub_4) (lvA0 hl) ?_
        refine va_csq (runV_rx (As := [.int (nI i10)]) (rest := []) S (q_l_get l D cI cB cZ zz qq vv bt (g 10) (ad 2 0) (c10 20) (c10 10) i10 (ad 10 i10) (In 10) (fun i => if i < (c10 10) then some (ad 10 i) else none) (by (first | omega | (have zz0 := Hid.u hb_c10; have zz1 := Hid.u hb_cn; have zz2 := Hid.u hq_c10; omega))) (if_pos (by (first | omega | (have zz0 := Hid.u hb_c10; have zz1 := Hid.u hb_cn; have zz2 := Hid.u hq_c10; omega)))) (by (first | omega | (have zz0 := Hid.u hb_c10; have zz1 := Hid.u hb_cn; have zz2 := Hid.u hq_c10; omega))) (by (first | omega | (have zz0 := Hid.u hb_c10; have zz1 := Hid.u hb_cn; have zz2 := Hid.u hq_c10; omega)))) kV_RX11_87 hK hXS hS hP _ (two_is (xl_0 (by (first | omega | (have zz0 := Hid.u hb_c10; have zz1 := Hid.u hb_cn; have zz2 := Hid.u hq_c10; omega)))) (xf_13 (k := 0) (by (first | omega | (have zz0 := Hid.u hb_c10; have zz1 := Hid.u hb_cn; have zz2 := Hid.u hq_c10; omega))))) (va_recv hK.1 hP (ci := 0) rfl xo_24) ⟨Nat.le_of_ble_eq_true rfl, Nat.le_of_ble_eq_true rfl⟩ ⟨Nat.le_of_ble_eq_true rfl, Nat.le_of_ble_eq_true rfl⟩ rfl hl.1 rfl (Nat.le_of_ble_eq_true rfl) (oc_182 28 (aq_2 shX11_gatherStops_26) uw_0_87)) (fun r_8 h_9 => ?_)
        subst h_9
        have kf_1 : i10 < c10 10 := by (first | omega | (have zz0 := Hid.u hb_c10; have zz1 := Hid.u hb_cn; have zz2 := Hid.u hq_c10; omega))
        refine va_castS hx hb hown (S.2.2.2.2 _ (wk2_5 3 rfl rfl)) (xclass hK.1 (ci := 2) rfl) (va_recv hK.1 hP (ci := 2) rfl (xf_0 kf_1)) (oc_192 31 (aq_5 shX11_gatherStops_26) uw_0_91) ?_
        refine lv_astore (lv' := [(5, .ref (ad 10 i10)), (4, .int (nI i10)), (0, .ref (g 0)), (1, .int v0), (2, .int v1), (3, .int v2)]) hx hb (oc_58 34 (aq_8 shX11_gatherStops_26) ub_5) hl (ltb rfl) rfl (fun ls hl => ?_)
        refine lv_aload hx hb (oc_25 36 (aq_10 shX11_gatherStops_26) ub_5) (lvA0 hl) ?_
        refine lv_iload_n hx hb (oc_27 38 (aq_12 shX11_gatherStops_26)) rfl (lvA3 hl) ?_
        refine lv_aload hx hb (oc_25 39 (aq_13 shX11_gatherStops_26) ub_5) (lvA0 hl) ?_
        refine gf_RX11_263 S hK hP _ (xf_0 kf_1) (v := .int ((F10 105) i10)) rfl (oc_180 41 (aq_15 shX11_gatherStops_26) uw_1_7) ?_
        refine vp_callSi (runV_rxa (As := [.int v0, .int ((F10 105) i10)]) (rest := []) S (q_XfillOn l D cI cB cZ zz qq vv bt g ad c10 In F10 i10 v0 ((F10 105) i10) hI10 (by (first | omega | (have zz0 := Hid.u hb_c10; have zz1 := Hid.u hb_cn; have zz2 := Hid.u hq_c10; omega)))) kV_RX11_121 hK hXS hS hP _ (xf_0 kf_1) rfl rfl ⟨Nat.le_of_ble_eq_true rfl, Nat.le_of_ble_eq_true rfl⟩ ⟨Nat.le_of_ble_eq_true rfl, Nat.le_of_ble_eq_true rfl⟩ rfl hl.1 rfl (Nat.le_of_ble_eq_true rfl) (oc_182 44 (aq_18 shX11_gatherStops_26) uw_0_121)) (fun r_10 h_11 => ?_)
        obtain rfl : r_10 = (if (Fn 102 i10 * (v0 - (Fn 105) i10)) < Fn 103 i10 then Fn 102 i10 * (v0 - (Fn 105) i10) else Fn 103 i10) := h_11.trans (by rw [hfr10.2.2 102 (nml rfl), hfr10.2.2 103 (nml rfl), hfr10.2.2 105 (nml rfl)])
        refine lv_istore (lv' := [(6, .int (if (Fn 102 i10 * (v0 - (Fn 105) i10)) < Fn 103 i10 then Fn 102 i10 * (v0 - (Fn 105) i10) else Fn 103 i10)), (5, .ref (ad 10 i10)), (4, .int (nI i10)), (0, .ref (g 0)), (1, .int v0), (2, .int v1), (3, .int v2)]) hx hb (oc_54 47 (aq_21 shX11_gatherStops_26) ub_6) hl (ltb rfl) rfl (fun ls hl => ?_)
        refine lv_iload hx hb (oc_21 49 (aq_23 shX11_gatherStops_26) ub_6) (lvA0 hl) ?_
        refine lv_iload_n hx hb (oc_28 51 shX11_gatherStops_51) rfl (lvA5 hl) ?_
        refine lv_icmp_ge (tgt := 58) hx hb (oc_162 52 (aq_1 shX11_gatherStops_51) sgw_0_6) rfl (fun c_12 => ?_) (fun c_12 => ?_)
        ·
          have tc_12 : (v1.toInt : Int) ≤ (if (Fn 102 i10 * (v0 - (Fn 105) i10)) < Fn 103 i10 then Fn 102 i10 * (v0 - (Fn 105) i10) else Fn 103 i10).toInt := Int32.le_iff_toInt_le.mp c_12
          refine lv_aload_n hx hb (oc_42 58 (aq_7 shX11_gatherStops_51)) rfl (lvA3 hl) ?_
          refine gf_RX11_54 S hK hP 0 xo_0 (v := .ref (g 9)) rfl (oc_180 59 (aq_8 shX11_gatherStops_51) uw_0_54) ?_
          refine gf_RX11_267 S hK hP 17 xo_17 (v := .int (nI (c10 4))) rfl (oc_180 62 (aq_11 shX11_gatherStops_51) uw_1_11) ?_
          refine lv_iload_n hx hb (oc_29 65 (aq_14 shX11_gatherStops_51)) rfl (lvA6 hl) ?_
          have tc4 : (nI (c10 4)).toInt = ((c10 4 : Nat) : Int) := nI_toInt (by (first | omega | (have zz0 := Hid.u hb_c10; have zz1 := Hid.u hb_cn; have zz2 := Hid.u hq_c10; omega)))
          have : (nI (c10 4)).toInt = (((c10 4) : Nat) : Int) := nI_toInt (by (first | omega | (have zz0 := Hid.u hb_c10; have zz1 := Hid.u hb_cn; have zz2 := Hid.u hq_c10; omega)))
          refine lv_icmp_lt (tgt := 71) hx hb (oc_161 66 (aq_15 shX11_gatherStops_51) sgw_0_5) rfl (fun c_13 => ?_) (fun c_13 => ?_)
          ·
            have tc_13 : ((nI (c10 4)).toInt : Int) < v2.toInt := Int32.lt_iff_toInt_lt.mp c_13
            refine lv_aload_n hx hb (oc_42 71 (aq_20 shX11_gatherStops_51)) rfl (lvA3 hl) ?_
            refine gf_RX11_54 S hK hP 0 xo_0 (v := .ref (g 9)) rfl (oc_180 72 (aq_21 shX11_gatherStops_51) uw_0_54) ?_
            refine lv_iload hx hb (oc_21 75 shX11_gatherStops_75 ub_4) (lvA2 hl) ?_
            refine lv_aload hx hb (oc_25 77 (aq_2 shX11_gatherStops_75) ub_5) (lvA1 hl) ?_
            refine lv_iload hx hb (oc_21 79 (aq_4 shX11_gatherStops_75) ub_6) (lvA0 hl) ?_
            have hFc := free_all hD hS hA
            refine va_callv (runV_xa (As := [.int (nI i10), .ref (ad 10 i10), .int (if (Fn 102 i10 * (v0 - (Fn 105) i10)) < Fn 103 i10 then Fn 102 i10 * (v0 - (Fn 105) i10) else Fn 103 i10)]) (rest := []) S (q_Ewadd l D cI cB cZ zz qq vv bt g ad c10 In F10 (nI i10) i10 (if (Fn 102 i10 * (v0 - (Fn 105) i10)) < Fn 103 i10 then Fn 102 i10 * (v0 - (Fn 105) i10) else Fn 103 i10) H.size hI10 (by (first | omega | (have zz0 := Hid.u hb_c10; have zz1 := Hid.u hb_cn; have zz2 := Hid.u hq_c10; omega))) (by (first | omega | (have zz0 := Hid.u hb_c10; have zz1 := Hid.u hb_cn; have zz2 := Hid.u hq_c10; omega)))) kV_RX11_270 hK hXS hS hFc hP hD 17 xo_17 rfl rfl ⟨Nat.le_of_ble_eq_true rfl, Nat.le_of_ble_eq_true rfl⟩ ⟨Nat.le_of_ble_eq_true rfl, Nat.le_of_ble_eq_true rfl⟩ rfl hl.1 rfl (Nat.le_of_ble_eq_true rfl) (oc_182 81 (aq_6 shX11_gatherStops_75) uw_1_14)) hS (fun q _ h => hFc q h) hFc (fun u t H1 locs ht hvm wh_15 hB1 hz1 hk1 hS => ?_)
            obtain ⟨cn15, In15, Fn15⟩ := u
            obtain ⟨hP1, hD1⟩ := hB1
            rw [ht] at hP1
            have hP : va_P D vwCl (wX cI (D.1 99) zz g ad cn15 In15 Fn15) H1 := hP1
            have hD : va_D A (wX cI (D.1 99) zz g ad cn15 In15 Fn15) := hD1.weaken (fun _ _ _ h => hFc _ h)
            generalize H1 = H at hP hS ⊢
            have vh_15 : (fun c2 I2 F2 => Fr [4] [] [30, 31, 32, 33] c10 In F10 c2 I2 F2 ∧ CBX c2 ∧ (c2 4 = (c10 4) + 1 ∧ F2 30 = upd ((F10 30)) ((c10 4)) (nI i10) ∧ F2 31 = upd ((F10 31)) ((c10 4)) (if (Fn 102 i10 * (v0 - (Fn 105) i10)) < Fn 103 i10 then Fn 102 i10 * (v0 - (Fn 105) i10) else Fn 103 i10) ∧ F2 32 = upd ((F10 32)) ((c10 4)) ((F10 100) i10) ∧ F2 33 = upd ((F10 33)) ((c10 4)) ((F10 101) i10))) cn15 In15 Fn15 := wh_15
            obtain ⟨hfc15, hIn15, h_15⟩ := vh_15
            obtain rfl : In = In15 := (funext (fun k => hfc15.2.1 k List.not_mem_nil)).symm
            have hf15 : Fr [4] [] [30, 31, 32, 33, 34, 35] cn In Fn cn15 In Fn15 := Fr.mo (Fr.tr hfr10 hfc15) (sbl rfl) (sbl rfl) (sbl rfl)
            have hb_cn15 : Hid (CBX cn15) := hIn15
            replace hIn15 : CBXh cn15 := hIn15
            have : cn15 6 = (c10 6) := hfc15.1 6 (nml rfl)
            have : cn15 31 = (c10 31) := hfc15.1 31 (nml rfl)
            have : cn15 32 = (c10 32) := hfc15.1 32 (nml rfl)
            have hq_cn15 : Hid (cn15 0 = (c10 0) ∧ cn15 1 = (c10 1) ∧ cn15 2 = (c10 2) ∧ cn15 3 = (c10 3) ∧ cn15 5 = (c10 5) ∧ cn15 10 = (c10 10) ∧ cn15 11 = (c10 11) ∧ cn15 12 = (c10 12) ∧ cn15 13 = (c10 13) ∧ cn15 14 = (c10 14) ∧ cn15 15 = (c10 15) ∧ cn15 20 = (c10 20) ∧ cn15 21 = (c10 21) ∧ cn15 22 = (c10 22) ∧ cn15 23 = (c10 23) ∧ cn15 24 = (c10 24) ∧ cn15 25 = (c10 25)) := Hid.i (p := cn15 0 = (c10 0) ∧ cn15 1 = (c10 1) ∧ cn15 2 = (c10 2) ∧ cn15 3 = (c10 3) ∧ cn15 5 = (c10 5) ∧ cn15 10 = (c10 10) ∧ cn15 11 = (c10 11) ∧ cn15 12 = (c10 12) ∧ cn15 13 = (c10 13) ∧ cn15 14 = (c10 14) ∧ cn15 15 = (c10 15) ∧ cn15 20 = (c10 20) ∧ cn15 21 = (c10 21) ∧ cn15 22 = (c10 22) ∧ cn15 23 = (c10 23) ∧ cn15 24 = (c10 24) ∧ cn15 25 = (c10 25)) ⟨hfc15.1 0 (nml rfl), hfc15.1 1 (nml rfl), hfc15.1 2 (nml rfl), hfc15.1 3 (nml rfl), hfc15.1 5 (nml rfl), hfc15.1 10 (nml rfl), hfc15.1 11 (nml rfl), hfc15.1 12 (nml rfl), hfc15.1 13 (nml rfl), hfc15.1 14 (nml rfl), hfc15.1 15 (nml rfl), hfc15.1 20 (nml rfl), hfc15.1 21 (nml rfl), hfc15.1 22 (nml rfl), hfc15.1 23 (nml rfl), hfc15.1 24 (nml rfl), hfc15.1 25 (nml rfl)⟩
            refine lv_iinc (v := (nI (i10 + 1))) (lv' := [(4, .int (nI (i10 + 1))), (6, .int (if (Fn 102 i10 * (v0 - (Fn 105) i10)) < Fn 103 i10 then Fn 102 i10 * (v0 - (Fn 105) i10) else Fn 103 i10)), (5, .ref (ad 10 i10)), (0, .ref (g 0)), (1, .int v0), (2, .int v1), (3, .int v2)]) hx hb dX11_gatherStops_84 hl (k := 2) rfl (nI_1 _) (ltb rfl) rfl (fun ls hl => ?_)
            refine lv_goto (tgt := 10) hx hb dX11_gatherStops_87 rfl ?_
            exact ih10 (i10 + 1) cn15 Fn15 _ _ (by (first | omega | (have zz0 := Hid.u hb_c10; have zz1 := Hid.u hb_cn; have zz2 := Hid.u hb_cn15; have zz3 := Hid.u hq_c10; have zz4 := Hid.u hq_cn15; omega))) ⟨(by (first | omega | (have zz0 := Hid.u hb_c10; have zz1 := Hid.u hb_cn; have zz2 := Hid.u hb_cn15; have zz3 := Hid.u hq_c10; have zz4 := Hid.u hq_cn15; omega))), (Fr.mo hf15 (sbl rfl) (sbl rfl) (sbl rfl)), hIn15, ⟨l9 ++ [i10], AL.yx hal9 (show v1.toInt ≤ ((if (Fn 102 i10 * (v0 - (Fn 105) i10)) < Fn 103 i10 then Fn 102 i10 * (v0 - (Fn 105) i10) else Fn 103 i10)).toInt by (first | omega | (have zz0 := Hid.u hb_c10; have zz1 := Hid.u hb_cn; have zz2 := Hid.u hb_cn15; have zz3 := Hid.u hq_c10; have zz4 := Hid.u hq_cn15; omega))), (by rw [h_15.1, hc9, List.length_append]; rfl), (by rw [h_15.2.1, hc9]; exact r30.put rfl), (by rw [h_15.2.2.1, hc9]; exact r31.put rfl), (by rw [h_15.2.2.2.1, hc9]; exact r32.put (congrFun (hfr10.2.2 100 (nml rfl)) i10)), (by rw [h_15.2.2.2.2, hc9]; exact r33.put (congrFun (hfr10.2.2 101 (nml rfl)) i10)), (by rw [List.length_append]; show l9.length + 1 ≤ 8; (first | omega | (have zz0 := Hid.u hb_c10; have zz1 := Hid.u hb_cn; have zz2 := Hid.u hb_cn15; have zz3 := Hid.u hq_c10; have zz4 := Hid.u hq_cn15; omega))), (by rw [List.length_append]; show ((l9.length + 1 : Nat) : Int) ≤ v2.toInt; (first | omega | (have zz0 := Hid.u hb_c10; have zz1 := Hid.u hb_cn; have zz2 := Hid.u hb_cn15; have zz3 := Hid.u hq_c10; have zz4 := Hid.u hq_cn15; omega)))⟩⟩ hP hD hS ls (lv_sub hl [0, 3, 4, 5, 6] rfl)
          ·
            have tc_13 : (v2.toInt : Int) ≤ (nI (c10 4)).toInt := Int32.le_iff_toInt_le.mp (Int32.not_lt.mp c_13)
            refine lv_iconst (v := 0) hx hb (oc_3 69 (aq_18 shX11_gatherStops_51)) kic_0 ?_
            exact W.zret (v := 0) hx hb hr rfl (fun t ht hW => ⟨⟨0, (c10, In, F10), rfl, ⟨(Fr.mo hfr10 (sbl rfl) (sbl rfl) (sbl rfl)), hI10, (by show (0 = 0 ∧ ∃ l : List Nat, AL (fun k9 => v1.toInt ≤ ((if (Fn 102 k9 * (v0 - (Fn 105) k9)) < Fn 103 k9 then Fn 102 k9 * (v0 - (Fn 105) k9) else Fn 103 k9)).toInt) (cn 10) l ∧ Int32.toInt v2 < (l.length : Int)) ∨ (0 = 1 ∧ ∃ l : List Nat, AL (fun k9 => v1.toInt ≤ ((if (Fn 102 k9 * (v0 - (Fn 105) k9)) < Fn 103 k9 then Fn 102 k9 * (v0 - (Fn 105) k9) else Fn 103 k9)).toInt) (cn 10) l ∧ (l.length : Int) ≤ Int32.toInt v2 ∧ l.length ≤ 8 ∧ c10 4 = l.length ∧ RWF (F10 30) nI l ∧ RWF (F10 31) (fun k9 => (if (Fn 102 k9 * (v0 - (Fn 105) k9)) < Fn 103 k9 then Fn 102 k9 * (v0 - (Fn 105) k9) else Fn 103 k9)) l ∧ TBL (fun a b => wyX (Fn 100 (l.getD a 0)) (Fn 101 (l.getD a 0)) (Fn 100 (l.getD b 0)) (Fn 101 (l.getD b 0))) (fun a => Fn 100 (l.getD a 0) + Fn 101 (l.getD a 0)) l.length (F10 34) (2 ^ l.length) ∧ ∀ S : Nat, S < 2 ^ l.length → RND (fun a => Fn 100 (l.getD a 0) + Fn 101 (l.getD a 0)) l.length (F10 34) S (F10 35 S)); exact Or.inl ⟨rfl, by obtain ⟨l2, h2, h3⟩ := AL.too hal9 (show v1.toInt ≤ ((if (Fn 102 i10 * (v0 - (Fn 105) i10)) < Fn 103 i10 then Fn 102 i10 * (v0 - (Fn 105) i10) else Fn 103 i10)).toInt by (first | omega | (have zz0 := Hid.u hb_c10; have zz1 := Hid.u hb_cn; have zz2 := Hid.u hq_c10; omega))) (show i10 < cn 10 by (first | omega | (have zz0 := Hid.u hb_c10; have zz1 := Hid.u hb_cn; have zz2 := Hid.u hq_c10; omega))); exact ⟨l2, h2, by (first | omega | (have zz0 := Hid.u hb_c10; have zz1 := Hid.u hb_cn; have zz2 := Hid.u hq_c10; omega))⟩⟩)⟩, by rw [ht]; exact hP, hD⟩, hS.F ht⟩) hS.2.2 (oc_172 70 (aq_19 shX11_gatherStops_51))
        ·
          have tc_12 : ((if (Fn 102 i10 * (v0 - (Fn 105) i10)) < Fn 103 i10 then Fn 102 i10 * (v0 - (Fn 105) i10) else Fn 103 i10).toInt : Int) < v1.toInt := Int32.lt_iff_toInt_lt.mp (Int32.not_le.mp c_12)
          refine lv_goto (tgt := 84) hx hb (oc_167 55 (aq_4 shX11_gatherStops_51) sgw_0_29) rfl ?_
          refine lv_iinc (v := (nI (i10 + 1))) (lv' := [(4, .int (nI (i10 + 1))), (6, .int (if (Fn 102 i10 * (v0 - (Fn 105) i10)) < Fn 103 i10 then Fn 102 i10 * (v0 - (Fn 105) i10) else Fn 103 i10)), (5, .ref (ad 10 i10)), (0, .ref (g 0)), (1, .int v0), (2, .int v1), (3, .int v2)]) hx hb dX11_gatherStops_84 hl (k := 2) rfl (nI_1 _) (ltb rfl) rfl (fun ls hl => ?_)
          refine lv_goto (tgt := 10) hx hb dX11_gatherStops_87 rfl ?_
          exact ih10 (i10 + 1) c10 F10 _ _ (by (first | omega | (have zz0 := Hid.u hb_c10; have zz1 := Hid.u hb_cn; have zz2 := Hid.u hq_c10; omega))) ⟨(by (first | omega | (have zz0 := Hid.u hb_c10; have zz1 := Hid.u hb_cn; have zz2 := Hid.u hq_c10; omega))), (Fr.mo hfr10 (sbl rfl) (sbl rfl) (sbl rfl)), hI10, ⟨l9, AL.nx hal9 (fun w9 => by have q9 : v1.toInt ≤ ((if (Fn 102 i10 * (v0 - (Fn 105) i10)) < Fn 103 i10 then Fn 102 i10 * (v0 - (Fn 105) i10) else Fn 103 i10)).toInt := w9; (first | omega | (have zz0 := Hid.u hb_c10; have zz1 := Hid.u hb_cn; have zz2 := Hid.u hq_c10; omega))), hc9, r30, r31, r32, r33, hl8, hlv⟩⟩ hP hD hS ls (lv_sub hl [0, 3, 4, 5, 6] rfl)
  exact lp_10 _ 0 (va_up cn 4 0) Fn _ _ (Nat.lt_succ_self _) ⟨(by (first | omega | (have zz0 := Hid.u hb_cn; omega))), (Fr.mo (Fr.c 4 Fr.rf) (sbl rfl) (sbl rfl) (sbl rfl)), (CBX.u4 (v := 0) hB (show 0 ≤ 8 by (first | omega | (have zz0 := Hid.u hb_cn; omega)))), ⟨[], rfl, rfl, RWF.nil, RWF.nil, RWF.nil, RWF.nil, (by decide), hm.1⟩⟩ hP hD hS ls (lv_sub hl [0, 1, 2, 3, 4] rfl)
set_option maxRecDepth 100000 in
set_option maxHeartbeats 4000000 in
theorem q_EstartTrial (l : Launch) (D : va_G) (cI cB cZ : ClassId) (zz qq vv : Nat) (bt : Nat → Int32) (g : Nat → Nat) (ad : Nat → Nat → Nat) (cn : Nat → Nat) (In : Nat → Int32) (Fn : Nat → Nat → Int32) (v0 : Int32) (sz : Nat) (hB : CBX cn) : Met l yX11_startTrial (CWS yX11_startTrial cX11_startTrial 5 (some .boolean)) (RM 3 0 0) (PBx [.ref (g 0), .int v0] D cI cB cZ zz qq vv bt (wX cI (D.1 99) zz g ad cn In Fn) sz) (va_Qi (fun (r : Int32) (u : (Nat → Nat) × (Nat → Int32) × (Nat → Nat → Int32)) => (fun r c2 I2 F2 => Fr [] [] [105] cn In Fn c2 I2 F2 ∧ CBX c2 ∧ ((∀ k : Nat, k < cn 10 → F2 105 k = Fn 104 k) ∧ ((r = 1 ∧ ∀ k : Nat, k < cn 10 → (Fn 104 k).toInt ≤ v0.toInt) ∨ (r = 0 ∧ ∃ k : Nat, k < cn 10 ∧ v0.toInt < (Fn 104 k).toInt)))) r u.1 u.2.1 u.2.2) (fun (u : (Nat → Nat) × (Nat → Int32) × (Nat → Nat → Int32)) (t : State) => va_P D vwCl (wX cI (D.1 99) zz g ad u.1 u.2.1 u.2.2) t.heap ∧ va_D (va_A (wX cI (D.1 99) zz g ad cn In Fn) sz) (wX cI (D.1 99) zz g ad u.1 u.2.1 u.2.2)) (va_A (wX cI (D.1 99) zz g ad cn In Fn) sz)) 0 0 (va_A (wX cI (D.1 99) zz g ad cn In Fn) sz) := by
  refine en_x (fun A => (va_Qi (fun (r : Int32) (u : (Nat → Nat) × (Nat → Int32) × (Nat → Nat → Int32)) => (fun (r : Int32) (c2 : Nat → Nat) (I2 : Nat → Int32) (F2 : Nat → Nat → Int32) => Fr [] [] [105] cn In Fn c2 I2 F2 ∧ CBX c2 ∧ ((∀ k : Nat, k < cn 10 → F2 105 k = Fn 104 k) ∧ ((r = 1 ∧ ∀ k : Nat, k < cn 10 → (Fn 104 k).toInt ≤ v0.toInt) ∨ (r = 0 ∧ ∃ k : Nat, k < cn 10 ∧ v0.toInt < (Fn 104 k).toInt)))) r u.1 u.2.1 u.2.2) (fun (u : (Nat → Nat) × (Nat → Int32) × (Nat → Nat → Int32)) (t : State) => va_P D vwCl (wX cI (D.1 99) zz g ad u.1 u.2.1 u.2.2) t.heap ∧ va_D A (wX cI (D.1 99) zz g ad u.1 u.2.1 u.2.2)) A)) rfl rfl pn_RX11 (Nat.le_of_ble_eq_true rfl) (fun p e s m below meth c A hx hb hml hown S hr hlocks hnm hA hP hK hD hXS hS ls hl => ?_)
  have hl : lv_has ls 5 [(0, .ref (g 0)), (1, .int v0)] := hl
  have hb_cn : Hid (CBX cn) := hB
  replace hB : CBXh cn := hB
  refine lv_iconst (v := 0) hx hb (oc_3 0 shX11_startTrial_0) kic_0 ?_
  refine lv_istore_n (lv' := [(2, .int 0), (0, .ref (g 0)), (1, .int v0)]) hx hb (oc_61 1 (aq_1 shX11_startTrial_0)) rfl hl (ltb rfl) rfl (fun ls hl => ?_)
  refine lv_iconst (v := 0) hx hb (oc_3 2 (aq_2 shX11_startTrial_0)) kic_0 ?_
  refine lv_istore_n (lv' := [(3, .int 0), (2, .int 0), (0, .ref (g 0)), (1, .int v0)]) hx hb (oc_62 3 (aq_3 shX11_startTrial_0)) rfl hl (ltb rfl) rfl (fun ls hl => ?_)
  have lp_4 : ∀ (n : Nat) (i4 : Nat) (x4_2 : Int32) (F4 : Nat → Nat → Int32) (H : Heap) (locs : List Loc) , cn 10 - i4 < n → (i4 ≤ cn 10 ∧ Fr [] [] [105] cn In Fn cn In F4 ∧ CBX cn ∧ (∀ k : Nat, k < i4 → F4 105 k = Fn 104 k) ∧ ((x4_2 = 0 ∧ ∀ k : Nat, k < i4 → (Fn 104 k).toInt ≤ v0.toInt) ∨ (¬ x4_2 = 0 ∧ ∃ k : Nat, k < i4 ∧ v0.toInt < (Fn 104 k).toInt))) → va_P D vwCl (wX cI (D.1 99) zz g ad cn In F4) H → va_D A (wX cI (D.1 99) zz g ad cn In F4) → va_S A s.heap H locs → ∀ ls : Array Slot, lv_has ls 5 [(3, .int (nI i4)), (2, .int x4_2), (0, .ref (g 0)), (1, .int v0)] → W p l e (RM 3 0 0) s m ([.ref (g 0), .int v0]).toArray below meth c H locs 0 0 (MQ below (va_Qi (fun (r : Int32) (u : (Nat → Nat) × (Nat → Int32) × (Nat → Nat → Int32)) => (fun r c2 I2 F2 => Fr [] [] [105] cn In Fn c2 I2 F2 ∧ CBX c2 ∧ ((∀ k : Nat, k < cn 10 → F2 105 k = Fn 104 k) ∧ ((r = 1 ∧ ∀ k : Nat, k < cn 10 → (Fn 104 k).toInt ≤ v0.toInt) ∨ (r = 0 ∧ ∃ k : Nat, k < cn 10 ∧ v0.toInt < (Fn 104 k).toInt)))) r u.1 u.2.1 u.2.2) (fun (u : (Nat → Nat) × (Nat → Int32) × (Nat → Nat → Int32)) (t : State) => va_P D vwCl (wX cI (D.1 99) zz g ad u.1 u.2.1 u.2.2) t.heap ∧ va_D A (wX cI (D.1 99) zz g ad u.1 u.2.1 u.2.2)) A) ([.ref (g 0), .int v0]).toArray s 0 0 A) (F0 m 4 ls []) := by
    intro n4
    induction n4 with
    | zero => intros; (first | omega | (have zz0 := Hid.u hb_cn; omega))
    | succ n4 ih4 =>
      intro i4 x4_2 F4 H locs hmu4 hinv4 hP hD hS ls hl
      obtain ⟨hr4, hfr4, hI4, hx4_0, hx4_1⟩ := hinv4
      have ti4 : (nI i4).toInt = (i4 : Int) := nI_toInt (by (first | omega | (have zz0 := Hid.u hb_cn; omega)))
      replace hI4 : CBXh cn := hI4
      have e104 := congrFun (hfr4.2.2 104 (nml rfl)) i4
      refine lv_iload_n hx hb (oc_29 4 (aq_4 shX11_startTrial_0)) rfl (lvA0 hl) ?_
      refine lv_aload_n hx hb (oc_42 5 (aq_5 shX11_startTrial_0)) rfl (lvA2 hl) ?_
      refine gf_RX11_61 S hK hP 0 xo_0 (v := .ref (g 10)) rfl (oc_180 6 (aq_6 shX11_startTrial_0) uw_0_61) ?_
      refine vp_callSi (runV_r (As := []) (rest := [.int (nI i4)]) S (q_l_size l D cI cB cZ (g 10) (if (cn 10) = 0 then zz else ad 2 0) (In 10) (nI (cn 10))) kV_RX11_84 hK hP [24] (one_is xo_24) 24 xo_24 rfl rfl ⟨Nat.le_of_ble_eq_true rfl, Nat.le_of_ble_eq_true rfl⟩ ⟨Nat.le_of_ble_eq_true rfl, Nat.le_of_ble_eq_true rfl⟩ rfl hl.1 rfl (Nat.le_of_ble_eq_true rfl) (oc_182 9 (aq_9 shX11_startTrial_0) uw_0_84)) (fun r_1 h_2 => ?_)
      subst h_2
      have : (nI (cn 10)).toInt = (((cn 10) : Nat) : Int) := nI_toInt (by (first | omega | (have zz0 := Hid.u hb_cn; omega)))
      refine lv_icmp_ge (tgt := 63) hx hb (oc_162 12 (aq_12 shX11_startTrial_0) sgw_0_51) rfl (fun c_3 => ?_) (fun c_3 => ?_)
      ·
        have tc_3 : ((nI (cn 10)).toInt : Int) ≤ (nI i4).toInt := Int32.le_iff_toInt_le.mp c_3
        refine lv_iload_n hx hb (oc_28 63 (aq_12 shX11_startTrial_51)) rfl (lvA1 hl) ?_
        refine lv_if_ne (tgt := 71) hx hb (oc_154 64 (aq_13 shX11_startTrial_51) sgw_0_7) rfl (fun c_4 => ?_) (fun c_4 => ?_)
        ·
          have tc_4 : (x4_2.toInt : Int) ≠ 0 := fun q => c_4 (Int32.toInt_inj.mp q)
          refine lv_iconst (v := 0) hx hb (oc_3 71 (aq_20 shX11_startTrial_51)) kic_0 ?_
          exact W.zret (v := 0) hx hb hr rfl (fun t ht hW => ⟨⟨0, (cn, In, F4), rfl, ⟨(Fr.mo hfr4 (sbl rfl) (sbl rfl) (sbl rfl)), hI4, (by show (∀ k : Nat, k < cn 10 → F4 105 k = Fn 104 k) ∧ ((0 = 1 ∧ ∀ k : Nat, k < cn 10 → (Fn 104 k).toInt ≤ v0.toInt) ∨ (0 = 0 ∧ ∃ k : Nat, k < cn 10 ∧ v0.toInt < (Fn 104 k).toInt)); have e9 : i4 = cn 10 := (by (first | omega | (have zz0 := Hid.u hb_cn; omega))); rw [← e9]; exact ⟨hx4_0, Or.inr ⟨rfl, (hx4_1.resolve_left (fun w9 => (show ¬ x4_2 = 0 from (by first | assumption | exact fun q => absurd (congrArg Int32.toInt q) (by assumption))) w9.1)).2⟩⟩)⟩, by rw [ht]; exact hP, hD⟩, hS.F ht⟩) hS.2.2 dX11_startTrial_72
        ·
          have tc_4 : (x4_2.toInt : Int) = 0 := congrArg Int32.toInt c_4
          refine lv_iconst (v := 1) hx hb (oc_4 67 (aq_16 shX11_startTrial_51)) kic_1 ?_
          refine lv_goto (tgt := 72) hx hb (oc_167 68 (aq_17 shX11_startTrial_51) sgw_0_4) rfl ?_
          exact W.zret (v := 1) hx hb hr rfl (fun t ht hW => ⟨⟨1, (cn, In, F4), rfl, ⟨(Fr.mo hfr4 (sbl rfl) (sbl rfl) (sbl rfl)), hI4, (by show (∀ k : Nat, k < cn 10 → F4 105 k = Fn 104 k) ∧ ((1 = 1 ∧ ∀ k : Nat, k < cn 10 → (Fn 104 k).toInt ≤ v0.toInt) ∨ (1 = 0 ∧ ∃ k : Nat, k < cn 10 ∧ v0.toInt < (Fn 104 k).toInt)); have e9 : i4 = cn 10 := (by (first | omega | (have zz0 := Hid.u hb_cn; omega))); rw [← e9]; exact ⟨hx4_0, Or.inl ⟨rfl, (hx4_1.resolve_right (fun w9 => w9.1 (by first | assumption | exact Int32.toInt_inj.mp (by assumption)))).2⟩⟩)⟩, by rw [ht]; exact hP, hD⟩, hS.F ht⟩) hS.2.2 dX11_startTrial_72
      ·
        have tc_3 : ((nI i4).toInt : Int) < (nI (cn 10)).toInt := Int32.lt_iff_toInt_lt.mp (Int32.not_le.mp c_3)
        refine lv_aload_n hx hb (oc_42 15 (aq_15 shX11_startTrial_0)) rfl (lvA2 hl) ?_
        refine gf_RX11_61 S hK hP 0 xo_0 (v := .ref (g 10)) rfl (oc_180 16 (aq_16 shX11_startTrial_0) uw_0_61) ?_
        refine lv_iload_n hx hb (oc_29 19 (aq_19 shX11_startTrial_0)) rfl (lvA0 hl) ?_
        refine va_csq (runV_rx (As := [.int (nI i4)]) (rest := []) S (q_l_get l D cI cB cZ zz qq vv bt (g 10) (ad 2 0) (cn 20) (cn 10) i4 (ad 10 i4) (In 10) (fun i => if i < (cn 10) then some (ad 10 i) else none) (by (first | omega | (have zz0 := Hid.u hb_cn; omega))) (if_pos (by (first | omega | (have zz0 := Hid.u hb_cn; omega)))) (by (first | omega | (have zz0 := Hid.u hb_cn; omega))) (by (first | omega | (have zz0 := Hid.u hb_cn; omega)))) kV_RX11_87 hK hXS hS hP _ (two_is (xl_0 (by (first | omega | (have zz0 := Hid.u hb_cn; omega)))) (xf_13 (k := 0) (by (first | omega | (have zz0 := Hid.u hb_cn; omega))))) (va_recv hK.1 hP (ci := 0) rfl xo_24) ⟨Nat.le_of_ble_eq_true rfl, Nat.le_of_ble_eq_true rfl⟩ ⟨Nat.le_of_ble_eq_true rfl, Nat.le_of_ble_eq_true rfl⟩ rfl hl.1 rfl (Nat.le_of_ble_eq_true rfl) (oc_182 20 (aq_20 shX11_startTrial_0) uw_0_87)) (fun r_5 h_6 => ?_)
        subst h_6
        have kf_1 : i4 < cn 10 := by (first | omega | (have zz0 := Hid.u hb_cn; omega))
        refine va_castS hx hb hown (S.2.2.2.2 _ (wk2_5 3 rfl rfl)) (xclass hK.1 (ci := 2) rfl) (va_recv hK.1 hP (ci := 2) rfl (xf_0 kf_1)) (oc_192 23 (aq_23 shX11_startTrial_0) uw_0_91) ?_
        refine lv_astore (lv' := [(4, .ref (ad 10 i4)), (3, .int (nI i4)), (2, .int x4_2), (0, .ref (g 0)), (1, .int v0)]) hx hb (oc_58 26 shX11_startTrial_26 ub_4) hl (ltb rfl) rfl (fun ls hl => ?_)
        refine lv_aload hx hb (oc_25 28 (aq_2 shX11_startTrial_26) ub_4) (lvA0 hl) ?_
        refine lv_aload hx hb (oc_25 30 (aq_4 shX11_startTrial_26) ub_4) (lvA0 hl) ?_
        refine gf_RX11_118 S hK hP _ (xf_0 kf_1) (v := .int ((F4 104) i4)) rfl (oc_180 32 (aq_6 shX11_startTrial_26) uw_0_118) ?_
        refine pf_RX11_263 S hK hP hD hS _ (xf_0 kf_1) (v := .int ((F4 104) i4)) (Nat.le_of_ble_eq_true rfl) rfl rfl (oc_181 35 (aq_9 shX11_startTrial_26) uw_1_7) (fun H locs hP hD hS => ?_)
        have hP : va_P D vwCl (wX cI (D.1 99) zz g ad cn In (va_up F4 105 (upd (F4 105) i4 ((F4 104) i4)))) H := va_P_eq (xs_105 (by (first | omega | (have zz0 := Hid.u hb_cn; omega)))) hP
        have hD : va_D A (wX cI (D.1 99) zz g ad cn In (va_up F4 105 (upd (F4 105) i4 ((F4 104) i4)))) := va_D_eq (xs_105 (by (first | omega | (have zz0 := Hid.u hb_cn; omega)))) hD
        refine lv_iload_n hx hb (oc_28 38 (aq_12 shX11_startTrial_26)) rfl (lvA2 hl) ?_
        refine lv_if_ne (tgt := 51) hx hb (oc_154 39 (aq_13 shX11_startTrial_26) sgw_0_12) rfl (fun c_7 => ?_) (fun c_7 => ?_)
        ·
          have tc_7 : (x4_2.toInt : Int) ≠ 0 := fun q => c_7 (Int32.toInt_inj.mp q)
          refine lv_iconst (v := 1) hx hb dX11_startTrial_51 kic_1 ?_
          refine lv_goto (tgt := 56) hx hb dX11_startTrial_52 rfl ?_
          refine lv_istore_n (lv' := [(2, .int 1), (4, .ref (ad 10 i4)), (3, .int (nI i4)), (0, .ref (g 0)), (1, .int v0)]) hx hb dX11_startTrial_56 rfl hl (ltb rfl) rfl (fun ls hl => ?_)
          refine lv_iinc (v := (nI (i4 + 1))) (lv' := [(3, .int (nI (i4 + 1))), (2, .int 1), (4, .ref (ad 10 i4)), (0, .ref (g 0)), (1, .int v0)]) hx hb dX11_startTrial_57 hl (k := 2) rfl (nI_1 _) (ltb rfl) rfl (fun ls hl => ?_)
          refine lv_goto (tgt := 4) hx hb dX11_startTrial_60 rfl ?_
          exact ih4 (i4 + 1) 1 (va_up F4 105 (upd (F4 105) i4 ((F4 104) i4))) _ _ (by (first | omega | (have zz0 := Hid.u hb_cn; omega))) ⟨(by (first | omega | (have zz0 := Hid.u hb_cn; omega))), (Fr.mo (Fr.f 105 hfr4) (sbl rfl) (sbl rfl) (sbl rfl)), hI4, (fun k hk => if q9 : k = i4 then (by rw [q9]; show upd (F4 105) i4 ((F4 104) i4) i4 = _; rw [upd_self, e104]) else (by show upd (F4 105) i4 ((F4 104) i4) k = _; rw [upd_n q9]; exact hx4_0 k (by (first | omega | (have zz0 := Hid.u hb_cn; omega))))), (Or.inr ⟨by decide, (hx4_1.resolve_left (fun w9 => (show ¬ x4_2 = 0 from (by first | assumption | exact fun q => absurd (congrArg Int32.toInt q) (by assumption))) w9.1)).2.elim (fun k w9 => ⟨k, by have := w9.1; (first | omega | (have zz0 := Hid.u hb_cn; omega)), w9.2⟩)⟩)⟩ hP hD hS ls (lv_sub hl [0, 1, 3, 4] rfl)
        ·
          have tc_7 : (x4_2.toInt : Int) = 0 := congrArg Int32.toInt c_7
          refine lv_aload hx hb (oc_25 42 (aq_16 shX11_startTrial_26) ub_4) (lvA0 hl) ?_
          refine gf_RX11_118 S hK hP _ (xf_0 kf_1) (v := .int ((F4 104) i4)) rfl (oc_180 44 (aq_18 shX11_startTrial_26) uw_0_118) ?_
          refine lv_iload_n hx hb (oc_27 47 (aq_21 shX11_startTrial_26)) rfl (lvA4 hl) ?_
          refine lv_icmp_le (tgt := 55) hx hb (oc_164 48 (aq_22 shX11_startTrial_26) sgw_0_7) rfl (fun c_8 => ?_) (fun c_8 => ?_)
          ·
            have tc_8 : (((F4 104) i4).toInt : Int) ≤ v0.toInt := Int32.le_iff_toInt_le.mp c_8
            refine lv_iconst (v := 0) hx hb (oc_3 55 (aq_4 shX11_startTrial_51)) kic_0 ?_
            refine lv_istore_n (lv' := [(2, .int 0), (4, .ref (ad 10 i4)), (3, .int (nI i4)), (0, .ref (g 0)), (1, .int v0)]) hx hb dX11_startTrial_56 rfl hl (ltb rfl) rfl (fun ls hl => ?_)
            refine lv_iinc (v := (nI (i4 + 1))) (lv' := [(3, .int (nI (i4 + 1))), (2, .int 0), (4, .ref (ad 10 i4)), (0, .ref (g 0)), (1, .int v0)]) hx hb dX11_startTrial_57 hl (k := 2) rfl (nI_1 _) (ltb rfl) rfl (fun ls hl => ?_)
            refine lv_goto (tgt := 4) hx hb dX11_startTrial_60 rfl ?_
            exact ih4 (i4 + 1) 0 (va_up F4 105 (upd (F4 105) i4 ((F4 104) i4))) _ _ (by (first | omega | (have zz0 := Hid.u hb_cn; omega))) ⟨(by (first | omega | (have zz0 := Hid.u hb_cn; omega))), (Fr.mo (Fr.f 105 hfr4) (sbl rfl) (sbl rfl) (sbl rfl)), hI4, (fun k hk => if q9 : k = i4 then (by rw [q9]; show upd (F4 105) i4 ((F4 104) i4) i4 = _; rw [upd_self, e104]) else (by show upd (F4 105) i4 ((F4 104) i4) k = _; rw [upd_n q9]; exact hx4_0 k (by (first | omega | (have zz0 := Hid.u hb_cn; omega))))), (Or.inl ⟨rfl, fun k hk => if q9 : k = i4 then (by rw [q9, ← e104]; (first | omega | (have zz0 := Hid.u hb_cn; omega))) else (hx4_1.resolve_right (fun w9 => w9.1 (by first | assumption | exact Int32.toInt_inj.mp (by assumption)))).2 k (by (first | omega | (have zz0 := Hid.u hb_cn; omega)))⟩)⟩ hP hD hS ls (lv_sub hl [0, 1, 3, 4] rfl)
          ·
            have tc_8 : (v0.toInt : Int) < ((F4 104) i4).toInt := Int32.lt_iff_toInt_lt.mp (Int32.not_le.mp c_8)
            refine lv_iconst (v := 1) hx hb dX11_startTrial_51 kic_1 ?_
            refine lv_goto (tgt := 56) hx hb dX11_startTrial_52 rfl ?_
            refine lv_istore_n (lv' := [(2, .int 1), (4, .ref (ad 10 i4)), (3, .int (nI i4)), (0, .ref (g 0)), (1, .int v0)]) hx hb dX11_startTrial_56 rfl hl (ltb rfl) rfl (fun ls hl => ?_)
            refine lv_iinc (v := (nI (i4 + 1))) (lv' := [(3, .int (nI (i4 + 1))), (2, .int 1), (4, .ref (ad 10 i4)), (0, .ref (g 0)), (1, .int v0)]) hx hb dX11_startTrial_57 hl (k := 2) rfl (nI_1 _) (ltb rfl) rfl (fun ls hl => ?_)
            refine lv_goto (tgt := 4) hx hb dX11_startTrial_60 rfl ?_
            exact ih4 (i4 + 1) 1 (va_up F4 105 (upd (F4 105) i4 ((F4 104) i4))) _ _ (by (first | omega | (have zz0 := Hid.u hb_cn; omega))) ⟨(by (first | omega | (have zz0 := Hid.u hb_cn; omega))), (Fr.mo (Fr.f 105 hfr4) (sbl rfl) (sbl rfl) (sbl rfl)), hI4, (fun k hk => if q9 : k = i4 then (by rw [q9]; show upd (F4 105) i4 ((F4 104) i4) i4 = _; rw [upd_self, e104]) else (by show upd (F4 105) i4 ((F4 104) i4) k = _; rw [upd_n q9]; exact hx4_0 k (by (first | omega | (have zz0 := Hid.u hb_cn; omega))))), (Or.inr ⟨by decide, i4, by (first | omega | (have zz0 := Hid.u hb_cn; omega)), by rw [← e104]; (first | omega | (have zz0 := Hid.u hb_cn; omega))⟩)⟩ hP hD hS ls (lv_sub hl [0, 1, 3, 4] rfl)
  exact lp_4 _ 0 0 Fn _ _ (Nat.lt_succ_self _) ⟨(by (first | omega | (have zz0 := Hid.u hb_cn; omega))), (Fr.mo Fr.rf (sbl rfl) (sbl rfl) (sbl rfl)), hB, (fun k hk => absurd hk (Nat.not_lt_zero k)), (Or.inl ⟨rfl, fun k hk => absurd hk (Nat.not_lt_zero k)⟩)⟩ hP hD hS ls (lv_sub hl [0, 1, 2, 3] rfl)
