/-- two numbers next to one another: where a bit is alike, all above are -/
theorem tb_c : ∀ (i j c : Nat), 1 ≤ c → c.testBit i = (c - 1).testBit i → i ≤ j → c.testBit j = (c - 1).testBit j
  | 0, j, c, h, e, _ => by
    rw [Nat.testBit_zero, Nat.testBit_zero] at e
    have w := decide_eq_decide.mp e
    exfalso
    omega
  | i + 1, 0, c, h, e, l => absurd l (Nat.not_succ_le_zero i)
  | i + 1, j + 1, c, h, e, l => by
    rw [Nat.testBit_succ, Nat.testBit_succ] at e
    rw [Nat.testBit_succ, Nat.testBit_succ]
    rcases Nat.mod_two_eq_zero_or_one c with p | p
    · have e1 : (c - 1) / 2 = c / 2 - 1 := by omega
      rw [e1] at e
      rw [e1]
      exact tb_c i j (c / 2) (by omega) e (by omega)
    · rw [show (c - 1) / 2 = c / 2 by omega]
section BITS9
variable {x s : Int32} {a c i j k n z : Nat}
theorem nI_b (hi : i < 32) : (nI a).toBitVec.getLsbD i = a.testBit i := by
  show (BitVec.ofNat 32 a).getLsbD i = _
  rw [BitVec.getLsbD_ofNat, decide_eq_true hi, Bool.true_and]
theorem bit_iff (hn : n < 32) : (x >>> (nI n &&& 31)) &&& 1 = 0 ↔ x.toBitVec.getLsbD n = false := by
  rcases bit_c (x := x) hn with ⟨p, q⟩ | ⟨p, q⟩
  · rw [p, q]
    exact ⟨fun _ => rfl, fun _ => rfl⟩
  · rw [p, q]
    exact ⟨fun w => absurd w (by decide), fun w => Bool.noConfusion w⟩
theorem bit_nIt (hn : n < 32) : (nI a >>> (nI n &&& 31)) &&& 1 = 0 ↔ a.testBit n = false := by
  rw [bit_iff hn, nI_b hn]
/-- what changes from one choice to the next -/
theorem chg_b (hc : 1 ≤ c) (hn : n < 32) : ((nI c ^^^ (nI c - 1)) >>> (nI n &&& 31)) &&& 1 = 0 ↔ c.testBit n = (c - 1).testBit n := by
  rw [bit_iff hn, Int32.toBitVec_xor, BitVec.getLsbD_xor, show nI c - 1 = nI (c - 1) from nI_sub (b := 1) hc, nI_b hn, nI_b hn]
  cases c.testBit n <;> cases (c - 1).testBit n <;> decide
theorem shl_b (hz : z < 32) (hi : i < 32) : ((1 : Int32) <<< (nI z &&& 31)).toBitVec.getLsbD i = decide (i = z) := by
  rw [shl_bv hz, BitVec.getLsbD_shiftLeft, decide_eq_true hi, Bool.true_and]
  by_cases e : i < z
  · rw [decide_eq_true e, decide_eq_false (show ¬ i = z by omega)]
    rfl
  · rw [decide_eq_false e, BitVec.getLsbD_one]
    by_cases q : i = z
    · subst q
      rw [Nat.sub_self, show decide (i = i) = true from decide_eq_true rfl]
      rfl
    · rw [decide_eq_false q, decide_eq_false (show ¬ i - z = 0 by omega)]
      rfl
theorem xb_b (hz : z < 32) (hi : i < 32) : (x ^^^ 1 <<< (nI z &&& 31)).toBitVec.getLsbD i = (x.toBitVec.getLsbD i ^^ decide (i = z)) := by
  rw [Int32.toBitVec_xor, BitVec.getLsbD_xor, shl_b hz hi]
theorem xb_n (hz : z < 32) (hi : i < 32) (q : ¬ i = z) : ((x ^^^ 1 <<< (nI z &&& 31)) >>> (nI i &&& 31)) &&& 1 = 0 ↔ (x >>> (nI i &&& 31)) &&& 1 = 0 := by
  rw [bit_iff hi, bit_iff hi, xb_b hz hi, decide_eq_false q, Bool.xor_false]
theorem xb_z (hz : z < 32) : ((x ^^^ 1 <<< (nI z &&& 31)) >>> (nI z &&& 31)) &&& 1 = 0 ↔ ¬ (x >>> (nI z &&& 31)) &&& 1 = 0 := by
  rw [bit_iff hz, bit_iff hz, xb_b hz hz, decide_eq_true rfl]
  cases x.toBitVec.getLsbD z <;> decide
theorem or_xb (hz : z < 32) (h : (x >>> (nI z &&& 31)) &&& 1 = 0) : x ||| 1 <<< (nI z &&& 31) = x ^^^ 1 <<< (nI z &&& 31) := by
  have h9 := (bit_iff hz).mp h
  apply Int32.toBitVec_inj.mp
  apply BitVec.eq_of_getLsbD_eq
  intro i hi
  rw [xb_b hz hi, Int32.toBitVec_or, BitVec.getLsbD_or, shl_b hz hi]
  by_cases q : i = z
  · subst q
    rw [h9, show decide (i = i) = true from decide_eq_true rfl]
    rfl
  · rw [decide_eq_false q, Bool.or_false, Bool.xor_false]
end BITS9
/-- the set of the numbers in a row that are chosen -/
def SXB (f : Nat → Int32) (b : Nat → Bool) : Nat → Int32
  | 0 => 0
  | n + 1 => if b n = true then SXB f b n ^^^ 1 <<< (f n &&& 31) else SXB f b n
section SXBS
variable {f g : Nat → Int32} {b d : Nat → Bool} {m n j i c z : Nat} {s sg : Int32}
theorem SXB_cg : ∀ n : Nat, (∀ k : Nat, k < n → f k = g k ∧ b k = d k) → SXB f b n = SXB g d n
  | 0, _ => rfl
  | n + 1, h => by
    have ih := SXB_cg n (fun k hk => h k (Nat.lt_succ_of_lt hk))
    have h9 := h n (Nat.lt_succ_self n)
    show (if b n = true then SXB f b n ^^^ 1 <<< (f n &&& 31) else SXB f b n) = if d n = true then SXB g d n ^^^ 1 <<< (g n &&& 31) else SXB g d n
    rw [ih, h9.1, h9.2]
theorem SXB_0 : ∀ n : Nat, (∀ k : Nat, k < n → b k = false) → SXB f b n = 0
  | 0, _ => rfl
  | n + 1, h => by
    show (if b n = true then SXB f b n ^^^ 1 <<< (f n &&& 31) else SXB f b n) = 0
    rw [if_neg (by rw [h n (Nat.lt_succ_self n)]; exact Bool.false_ne_true), SXB_0 n (fun k hk => h k (Nat.lt_succ_of_lt hk))]
theorem xor_rc (x y w : Int32) : x ^^^ y ^^^ w = x ^^^ w ^^^ y := by
  rw [Int32.xor_assoc, Int32.xor_comm y w, ← Int32.xor_assoc]
theorem xor_c (x y : Int32) : x ^^^ y ^^^ y = x := by
  rw [Int32.xor_assoc, Int32.xor_self, Int32.xor_zero]
/-- one of them more, or less -/
theorem SXB_t (hd : d j = !b j) (hn : ∀ k : Nat, ¬ k = j → d k = b k) : ∀ n : Nat, j < n → SXB f d n = SXB f b n ^^^ 1 <<< (f j &&& 31)
  | 0, h => absurd h (Nat.not_lt_zero j)
  | n + 1, h => by
    show (if d n = true then SXB f d n ^^^ 1 <<< (f n &&& 31) else SXB f d n) = (if b n = true then SXB f b n ^^^ 1 <<< (f n &&& 31) else SXB f b n) ^^^ 1 <<< (f j &&& 31)
    by_cases q : n = j
    · subst q
      have e : SXB f d n = SXB f b n := SXB_cg n (fun k hk => ⟨rfl, hn k (by omega)⟩)
      rw [e, hd]
      cases b n with
      | false => rfl
      | true =>
        show SXB f b n = SXB f b n ^^^ 1 <<< (f n &&& 31) ^^^ 1 <<< (f n &&& 31)
        exact (xor_c _ _).symm
    · rw [SXB_t hd hn n (by omega), hn n q]
      by_cases w : b n = true
      · rw [if_pos w, if_pos w]
        exact xor_rc _ _ _
      · rw [if_neg w, if_neg w]
/-- what is in the set was chosen -/
theorem SXB_b (hi : i < 32) : ∀ n : Nat, (∀ k : Nat, k < n → ∃ z : Nat, z < 20 ∧ f k = nI z) → (SXB f b n).toBitVec.getLsbD i = true → ∃ k : Nat, k < n ∧ b k = true ∧ f k = nI i
  | 0, _, h => by
    have e : (SXB f b 0).toBitVec.getLsbD i = false := by
      show (0#32).getLsbD i = false
      exact BitVec.getLsbD_zero
    rw [e] at h
    cases h
  | n + 1, hf, h => by
    obtain ⟨z, hz, ez⟩ := hf n (Nat.lt_succ_self n)
    have ih := SXB_b hi n (fun k hk => hf k (Nat.lt_succ_of_lt hk))
    have h : (if b n = true then SXB f b n ^^^ 1 <<< (f n &&& 31) else SXB f b n).toBitVec.getLsbD i = true := h
    by_cases w : b n = true
    · rw [if_pos w, ez, xb_b (by omega) hi] at h
      by_cases q : i = z
      · exact ⟨n, Nat.lt_succ_self n, w, by rw [ez, q]⟩
      · rw [decide_eq_false q, Bool.xor_false] at h
        obtain ⟨k, hk, h2⟩ := ih h
        exact ⟨k, Nat.lt_succ_of_lt hk, h2⟩
    · rw [if_neg w] at h
      obtain ⟨k, hk, h2⟩ := ih h
      exact ⟨k, Nat.lt_succ_of_lt hk, h2⟩
theorem SXB_in (hf : ∀ k : Nat, k < n → ∃ z : Nat, z < 20 ∧ f k = nI z) (hi : i < 32) (h : ¬ (SXB f b n >>> (nI i &&& 31)) &&& 1 = 0) : ∃ k : Nat, k < n ∧ f k = nI i := by
  have h9 : (SXB f b n).toBitVec.getLsbD i = true := by
    cases e : (SXB f b n).toBitVec.getLsbD i with
    | true => rfl
    | false => exact absurd ((bit_iff hi).mpr e) h
  obtain ⟨k, hk, -, ek⟩ := SXB_b hi n hf h9
  exact ⟨k, hk, ek⟩
/-- one more, by or -/
theorem SXB_or (hf : ∀ k : Nat, k ≤ n → ∃ z : Nat, z < 20 ∧ f k = nI z) (hm : ∀ k : Nat, k < n → ¬ f k = f n) (hb : b n = true) : SXB f b n ||| 1 <<< (f n &&& 31) = SXB f b (n + 1) := by
  obtain ⟨z, hz, ez⟩ := hf n (Nat.le_refl n)
  have h0 : (SXB f b n >>> (nI z &&& 31)) &&& 1 = 0 := by
    refine Classical.byContradiction (fun w => ?_)
    obtain ⟨k, hk, ek⟩ := SXB_in (fun k hk => hf k (by omega)) (by omega) w
    exact hm k hk (ek.trans ez.symm)
  show _ = if b n = true then SXB f b n ^^^ 1 <<< (f n &&& 31) else SXB f b n
  rw [if_pos hb, ez]
  exact or_xb (by omega) h0
theorem SXB_no (hb : b n = false) : SXB f b n = SXB f b (n + 1) := by
  show _ = if b n = true then SXB f b n ^^^ 1 <<< (f n &&& 31) else SXB f b n
  rw [if_neg (by rw [hb]; exact Bool.false_ne_true)]
/-- sums over a set with one of its numbers in or out -/
theorem mxI_f (hz : z < 32) (hs : (sg = -1 ∧ ¬ (s >>> (nI z &&& 31)) &&& 1 = 0) ∨ (sg = 1 ∧ (s >>> (nI z &&& 31)) &&& 1 = 0)) : ∀ n : Nat, n ≤ 32 → mxI f (s ^^^ 1 <<< (nI z &&& 31)) n = if z < n then mxI f s n + sg * f z else mxI f s n
  | 0, _ => by
    rw [if_neg (Nat.not_lt_zero z)]
    rfl
  | n + 1, hn => by
    have ih := mxI_f hz hs n (by omega)
    show (if ((s ^^^ 1 <<< (nI z &&& 31)) >>> (nI n &&& 31)) &&& 1 = 0 then mxI f (s ^^^ 1 <<< (nI z &&& 31)) n else mxI f (s ^^^ 1 <<< (nI z &&& 31)) n + f n) = _
    by_cases q : n = z
    · subst q
      rw [if_pos (Nat.lt_succ_self n), ih, if_neg (Nat.lt_irrefl n)]
      show _ = (if (s >>> (nI n &&& 31)) &&& 1 = 0 then mxI f s n else mxI f s n + f n) + sg * f n
      rcases hs with ⟨rfl, h⟩ | ⟨rfl, h⟩
      · rw [if_pos ((xb_z hz).mpr h), if_neg h, show (-1 : Int32) = -(1 : Int32) by decide, Int32.neg_mul, Int32.one_mul, Int32.add_assoc, Int32.add_right_neg, Int32.add_zero]
      · rw [if_neg (fun w => (xb_z hz).mp w h), if_pos h, Int32.one_mul]
    · show _ = if z < n + 1 then (if (s >>> (nI n &&& 31)) &&& 1 = 0 then mxI f s n else mxI f s n + f n) + sg * f z else if (s >>> (nI n &&& 31)) &&& 1 = 0 then mxI f s n else mxI f s n + f n
      rw [ih]
      by_cases l : z < n
      · rw [if_pos l, if_pos (show z < n + 1 by omega)]
        by_cases w : (s >>> (nI n &&& 31)) &&& 1 = 0
        · rw [if_pos ((xb_n hz (by omega) q).mpr w), if_pos w]
        · rw [if_neg (fun u => w ((xb_n hz (by omega) q).mp u)), if_neg w, Int32.add_assoc, Int32.add_comm (sg * f z), ← Int32.add_assoc]
      · rw [if_neg l, if_neg (show ¬ z < n + 1 by omega)]
        by_cases w : (s >>> (nI n &&& 31)) &&& 1 = 0
        · rw [if_pos ((xb_n hz (by omega) q).mpr w), if_pos w]
        · rw [if_neg (fun u => w ((xb_n hz (by omega) q).mp u)), if_neg w]
theorem mxI_20 (hz : z < 20) (hs : (sg = -1 ∧ ¬ (s >>> (nI z &&& 31)) &&& 1 = 0) ∨ (sg = 1 ∧ (s >>> (nI z &&& 31)) &&& 1 = 0)) : mxI f (s ^^^ 1 <<< (nI z &&& 31)) 20 = mxI f s 20 + sg * f z := by
  rw [mxI_f (by omega) hs 20 (by decide), if_pos hz]
theorem mxI_00 : ∀ n : Nat, n ≤ 32 → mxI f 0 n = 0
  | 0, _ => rfl
  | n + 1, h => by
    have e : ((0 : Int32) >>> (nI n &&& 31)) &&& 1 = 0 := (bit_iff (by omega)).mpr (by show (0#32).getLsbD n = false; exact BitVec.getLsbD_zero)
    show (if ((0 : Int32) >>> (nI n &&& 31)) &&& 1 = 0 then mxI f 0 n else mxI f 0 n + f n) = 0
    rw [if_pos e]
    exact mxI_00 n (by omega)
end SXBS
/-- the first twelve numbers below m of which P is true, in their order -/
def GL (P : Nat → Prop) : Nat → List Nat → Prop
  | 0, l => l = []
  | m + 1, l => ∃ l0 : List Nat, GL P m l0 ∧ ((l0.length < 12 ∧ P m ∧ l = l0 ++ [m]) ∨ (¬ (l0.length < 12 ∧ P m) ∧ l = l0))
/-- a row of numbers -/
def RWL (f : Nat → Int32) (l : List Nat) : Prop := ∀ k z : Nat, l[k]? = some z → f k = nI z
section GLS
variable {P Q : Nat → Prop} {m n k : Nat} {l l2 : List Nat} {f : Nat → Int32}
theorem GL.yx (h : GL P m l) (hl : l.length < 12) (hp : P m) : GL P (m + 1) (l ++ [m]) := ⟨l, h, Or.inl ⟨hl, hp, rfl⟩⟩
theorem GL.nx (h : GL P m l) (hn : ¬ (l.length < 12 ∧ P m)) : GL P (m + 1) l := ⟨l, h, Or.inr ⟨hn, rfl⟩⟩
theorem GL.len : ∀ (m : Nat) (l : List Nat), GL P m l → l.length ≤ 12
  | 0, l, h => by
    rw [show l = [] from h]
    exact Nat.zero_le 12
  | m + 1, l, h => by
    obtain ⟨l0, h0, h | h⟩ := h
    · rw [h.2.2, List.length_append]
      have := h.1
      show l0.length + 1 ≤ 12
      omega
    · rw [h.2]
      exact GL.len m l0 h0
theorem GL.el : ∀ (m : Nat) (l : List Nat), GL P m l → ∀ k z : Nat, l[k]? = some z → z < m ∧ P z
  | 0, l, h, k, z, hz => by
    rw [show l = [] from h, List.getElem?_nil] at hz
    cases hz
  | m + 1, l, h, k, z, hz => by
    obtain ⟨l0, h0, h | h⟩ := h
    · rw [h.2.2] at hz
      rcases Nat.lt_or_ge k l0.length with q | q
      · rw [List.getElem?_append_left q] at hz
        have := GL.el m l0 h0 k z hz
        exact ⟨Nat.lt_succ_of_lt this.1, this.2⟩
      · rw [List.getElem?_append_right q] at hz
        have e := (List.getElem?_eq_some_iff.mp hz)
        obtain ⟨e1, e2⟩ := e
        have e1 : k - l0.length < 1 := e1
        rw [show k - l0.length = 0 by omega] at hz
        obtain rfl : m = z := Option.some.inj hz
        exact ⟨Nat.lt_succ_self _, h.2.1⟩
    · rw [h.2] at hz
      have := GL.el m l0 h0 k z hz
      exact ⟨Nat.lt_succ_of_lt this.1, this.2⟩
theorem GL.mo : ∀ (m : Nat) (l : List Nat), GL P m l → ∀ j k y z : Nat, j < k → l[j]? = some y → l[k]? = some z → y < z
  | 0, l, h, j, k, y, z, _, hy, _ => by
    rw [show l = [] from h, List.getElem?_nil] at hy
    cases hy
  | m + 1, l, h, j, k, y, z, hjk, hy, hz => by
    obtain ⟨l0, h0, h | h⟩ := h
    · rw [h.2.2] at hy hz
      have hk := (List.getElem?_eq_some_iff.mp hz).1
      rw [List.length_append] at hk
      have hk : k < l0.length + 1 := hk
      have hj : j < l0.length := by omega
      rw [List.getElem?_append_left hj] at hy
      rcases Nat.lt_or_ge k l0.length with q | q
      · rw [List.getElem?_append_left q] at hz
        exact GL.mo m l0 h0 j k y z hjk hy hz
      · rw [List.getElem?_append_right q, show k - l0.length = 0 by omega] at hz
        obtain rfl : m = z := Option.some.inj hz
        exact (GL.el m l0 h0 j y hy).1
    · rw [h.2] at hy hz
      exact GL.mo m l0 h0 j k y z hjk hy hz
theorem GL.un : ∀ (m : Nat) (l l2 : List Nat), (∀ z : Nat, z < m → (P z ↔ Q z)) → GL P m l → GL Q m l2 → l = l2
  | 0, l, l2, _, h, h2 => (show l = [] from h).trans (show l2 = [] from h2).symm
  | m + 1, l, l2, e, h, h2 => by
    obtain ⟨l0, h0, h⟩ := h
    obtain ⟨l3, h3, h2⟩ := h2
    obtain rfl : l3 = l0 := (GL.un m l0 l3 (fun z hz => e z (Nat.lt_succ_of_lt hz)) h0 h3).symm
    have e9 := e m (Nat.lt_succ_self m)
    rcases h with ⟨a1, a2, a3⟩ | ⟨a1, a3⟩ <;> rcases h2 with ⟨b1, b2, b3⟩ | ⟨b1, b3⟩
    · rw [a3, b3]
    · exact absurd ⟨a1, e9.mp a2⟩ b1
    · exact absurd ⟨b1, e9.mpr b2⟩ a1
    · rw [a3, b3]
theorem GL.full (h : GL P m l) (hl : ¬ l.length < 12) : ∀ d : Nat, GL P (m + d) l
  | 0 => h
  | d + 1 => GL.nx (GL.full h hl d) (fun w => hl w.1)
theorem GL.fin (h : GL P m l) (hm : m ≤ 20) (he : m = 20 ∨ ¬ l.length < 12) : GL P 20 l := by
  rcases he with rfl | he
  · exact h
  · have := GL.full h he (20 - m)
    rw [show m + (20 - m) = 20 by omega] at this
    exact this
theorem RWL.nil : RWL f [] := fun k z h => by
  rw [List.getElem?_nil] at h
  cases h
theorem RWL.put {z : Nat} (h : RWL f l) : RWL (upd f l.length (nI z)) (l ++ [z]) := fun k y hk => by
  rcases Nat.lt_trichotomy k l.length with q | q | q
  · rw [List.getElem?_append_left q] at hk
    rw [show upd f l.length (nI z) k = f k from if_neg (by omega)]
    exact h k y hk
  · subst q
    rw [List.getElem?_append_right (Nat.le_refl _), Nat.sub_self] at hk
    obtain rfl : z = y := Option.some.inj hk
    exact if_pos rfl
  · have := (List.getElem?_eq_some_iff.mp hk).1
    rw [List.length_append] at this
    have : k < l.length + 1 := this
    omega
theorem putM_p {f : Nat → Int32} {n i : Nat} {x : Int32} (hi : i < n) (hn : n < 2 ^ 31) : putM f n (nI i) x = upd f i x := by
  unfold putM
  rw [nI_toInt (by omega), if_pos ⟨by omega, by omega⟩, nI_clamp (by omega)]
/-- what the row holds -/
theorem GL.row (h : GL P 20 l) (hr : RWL f l) : ∀ k : Nat, k < l.length → ∃ z : Nat, z < 20 ∧ P z ∧ f k = nI z := fun k hk => by
  have e : l[k]? = some l[k] := List.getElem?_eq_getElem hk
  have h9 := GL.el 20 l h k _ e
  exact ⟨_, h9.1, h9.2, hr k _ e⟩
theorem GL.dis (h : GL P 20 l) (hr : RWL f l) : ∀ j k : Nat, j < k → k < l.length → ¬ f j = f k := fun j k hjk hk w => by
  have ej : l[j]? = some l[j] := List.getElem?_eq_getElem (by omega)
  have ek : l[k]? = some l[k] := List.getElem?_eq_getElem hk
  have h9 := GL.mo 20 l h j k _ _ hjk ej ek
  have hz := (GL.el 20 l h k _ ek).1
  rw [hr j _ ej, hr k _ ek] at w
  have t := congrArg Int32.toInt w
  rw [nI_toInt (by omega), nI_toInt (by omega)] at t
  omega
theorem RWL.eq {g : Nat → Int32} (h : RWL f l) (h2 : RWL g l) : ∀ k : Nat, k < l.length → f k = g k := fun k hk => by
  have e : l[k]? = some l[k] := List.getElem?_eq_getElem hk
  rw [h k _ e, h2 k _ e]
end GLS
/-- a set is better than the best so far: it is the first, or holds more, or as much in fewer -/
def BTR (fl : Nat → Int32) (s b : Int32) : Prop := b = 0 ∨ (mxI fl b 20).toInt < (mxI fl s 20).toInt ∨ (mxI fl s 20 = mxI fl b 20 ∧ (mxI (fun _ => 1) s 20).toInt < (mxI (fun _ => 1) b 20).toInt)
/-- the best of the first c choices -/
def BLR (S : Nat → Int32) (B : Int32 → Int32 → Prop) (W : Int32 → Prop) : Nat → Int32 → Prop
  | 0, b => b = 0
  | c + 1, b => ∃ b0 : Int32, BLR S B W c b0 ∧ ((B (S (c + 1)) b0 ∧ W (S (c + 1)) ∧ b = S (c + 1)) ∨ (¬ (B (S (c + 1)) b0 ∧ W (S (c + 1))) ∧ b = b0))
section BLRS
variable {S S2 : Nat → Int32} {B B2 : Int32 → Int32 → Prop} {W W2 : Int32 → Prop} {b b2 r : Int32} {c : Nat}
theorem BLR.y (h : BLR S B W c b) (hb : B (S (c + 1)) b) (hw : W (S (c + 1))) : BLR S B W (c + 1) (S (c + 1)) := ⟨b, h, Or.inl ⟨hb, hw, rfl⟩⟩
theorem BLR.n (h : BLR S B W c b) (hn : ¬ (B (S (c + 1)) b ∧ W (S (c + 1)))) : BLR S B W (c + 1) b := ⟨b, h, Or.inr ⟨hn, rfl⟩⟩
theorem BLR.or : ∀ (c : Nat) (b : Int32), BLR S B W c b → b = 0 ∨ ∃ d : Nat, 1 ≤ d ∧ d ≤ c ∧ b = S d
  | 0, b, h => Or.inl h
  | c + 1, b, h => by
    obtain ⟨b0, h0, h | h⟩ := h
    · exact Or.inr ⟨c + 1, by omega, Nat.le_refl _, h.2.2⟩
    · rw [h.2]
      rcases BLR.or c b0 h0 with q | ⟨d, d1, d2, q⟩
      · exact Or.inl q
      · exact Or.inr ⟨d, d1, Nat.le_succ_of_le d2, q⟩
theorem BLR.un : ∀ (c : Nat) (b b2 : Int32), (∀ d : Nat, 1 ≤ d → d ≤ c → S d = S2 d) → (∀ d : Nat, 1 ≤ d → d ≤ c → ∀ b : Int32, (b = 0 ∨ ∃ e : Nat, 1 ≤ e ∧ e ≤ c ∧ b = S e) → (B (S d) b ↔ B2 (S d) b)) → (∀ d : Nat, 1 ≤ d → d ≤ c → (W (S d) ↔ W2 (S d))) → BLR S B W c b → BLR S2 B2 W2 c b2 → b = b2
  | 0, b, b2, _, _, _, h, h2 => (show b = 0 from h).trans (show b2 = 0 from h2).symm
  | c + 1, b, b2, eS, eB, eW, h, h2 => by
    obtain ⟨b0, h0, h⟩ := h
    obtain ⟨b3, h3, h2⟩ := h2
    obtain rfl : b3 = b0 := (BLR.un c b0 b3 (fun d a1 a2 => eS d a1 (by omega)) (fun d a1 a2 b q => eB d a1 (by omega) b (q.elim Or.inl (fun ⟨e, e1, e2, e3⟩ => Or.inr ⟨e, e1, by omega, e3⟩))) (fun d a1 a2 => eW d a1 (by omega)) h0 h3).symm
    have q := BLR.or c b3 h0
    have f1 := eB (c + 1) (by omega) (Nat.le_refl _) b3 (q.elim Or.inl (fun ⟨e, e1, e2, e3⟩ => Or.inr ⟨e, e1, by omega, e3⟩))
    have f2 := eW (c + 1) (by omega) (Nat.le_refl _)
    have f3 := eS (c + 1) (by omega) (Nat.le_refl _)
    rw [← f3] at h2
    rcases h with ⟨a1, a2, a3⟩ | ⟨a1, a3⟩ <;> rcases h2 with ⟨d1, d2, d3⟩ | ⟨d1, d3⟩
    · rw [a3, d3]
    · exact absurd ⟨f1.mp a1, f2.mp a2⟩ d1
    · exact absurd ⟨f1.mpr d1, f2.mpr d2⟩ a1
    · rw [a3, d3]
theorem BTR.cg {fl gl : Nat → Int32} {s b : Int32} (h1 : mxI fl s 20 = mxI gl s 20) (h2 : mxI fl b 20 = mxI gl b 20) : BTR fl s b ↔ BTR gl s b := by
  unfold BTR
  rw [h1, h2]
/-- letters that differ only where they are told anew -/
theorem cut_4 {G K : Nat → Int32} {q f a n : Int32} (h : ∀ j : Nat, 3 ≤ j → j ≤ 9 → G j = K j) : cut (upd (upd (upd (upd G 0 q) 1 f) 2 a) 10 n) = cut (upd (upd (upd (upd K 0 q) 1 f) 2 a) 10 n) := funext fun i => by
  unfold cut
  by_cases l : i < 11
  · rw [if_pos l, if_pos l]
    rcases (by omega : i = 0 ∨ i = 1 ∨ i = 2 ∨ i = 10 ∨ (3 ≤ i ∧ i ≤ 9)) with rfl | rfl | rfl | rfl | w9
    · rfl
    · rfl
    · rfl
    · rfl
    · have u : ∀ (F : Nat → Int32), upd (upd (upd (upd F 0 q) 1 f) 2 a) 10 n i = F i := fun F => by
        unfold upd
        rw [if_neg (by omega), if_neg (by omega), if_neg (by omega), if_neg (by omega)]
      rw [u, u]
      exact h i w9.1 w9.2
  · rw [if_neg l, if_neg l]
end BLRS
section FLIPS
variable {f G : Nat → Int32} {t : Nat → Bool} {x s sg a b m k : Int32} {c i n z j : Nat}
theorem SXB_s : SXB f (fun j => (c - 1).testBit j) n = SXB f (fun j => (c - 1).testBit j ^^ decide (j < 0)) n := SXB_cg n (fun k _ => ⟨rfl, by
  show (c - 1).testBit k = ((c - 1).testBit k ^^ decide (k < 0))
  rw [decide_eq_false (Nat.not_lt_zero k), Bool.xor_false]⟩)
theorem SXB_st (h : x = SXB f (fun j => t j ^^ decide (j < i)) n) (hi : i < n) (ez : f i = nI z) : x ^^^ 1 <<< (nI z &&& 31) = SXB f (fun j => t j ^^ decide (j < i + 1)) n := by
  rw [h, ← ez]
  refine (SXB_t (j := i) ?_ (fun k hk => ?_) n hi).symm
  · show (t i ^^ decide (i < i + 1)) = !(t i ^^ decide (i < i))
    rw [decide_eq_true (Nat.lt_succ_self i), decide_eq_false (Nat.lt_irrefl i)]
    cases t i <;> rfl
  · show (t k ^^ decide (k < i + 1)) = (t k ^^ decide (k < i))
    rw [show decide (k < i + 1) = decide (k < i) from decide_eq_decide.mpr (by omega)]
theorem SXB_e (h : x = SXB f (fun j => (c - 1).testBit j ^^ decide (j < i)) n) (hlt : ∀ j : Nat, j < i → ¬ c.testBit j = (c - 1).testBit j) (he : ∀ j : Nat, j < n → i ≤ j → c.testBit j = (c - 1).testBit j) : x = SXB f (fun j => c.testBit j) n := h.trans (SXB_cg n (fun k hk => ⟨rfl, by
  show ((c - 1).testBit k ^^ decide (k < i)) = c.testBit k
  by_cases q : k < i
  · rw [decide_eq_true q]
    have := hlt k q
    revert this
    cases c.testBit k <;> cases (c - 1).testBit k <;> decide
  · rw [decide_eq_false q, Bool.xor_false]
    exact (he k hk (by omega)).symm⟩))
theorem chg_lt (hc : 1 ≤ c) (hn : c < 2 ^ n) (h : ¬ c.testBit i = (c - 1).testBit i) : i < n := by
  refine Classical.byContradiction (fun q => h ?_)
  have p : 2 ^ n ≤ 2 ^ i := Nat.pow_le_pow_right (by decide) (by omega)
  rw [Nat.testBit_lt_two_pow (by omega), Nat.testBit_lt_two_pow (by omega)]
theorem mxI_20m {g : Nat → Int32} (e : x = mxI g s 20) (eg : g z = a * b) (hz : z < 20) (hs : (sg = -1 ∧ ¬ (s >>> (nI z &&& 31)) &&& 1 = 0) ∨ (sg = 1 ∧ (s >>> (nI z &&& 31)) &&& 1 = 0)) : x + sg * a * b = mxI g (s ^^^ 1 <<< (nI z &&& 31)) 20 := by
  rw [mxI_20 hz hs, e, eg, Int32.mul_assoc]
theorem mxI_20l {g : Nat → Int32} (e : x = mxI g s 20) (eg : g z = a) (hz : z < 20) (hs : (sg = -1 ∧ ¬ (s >>> (nI z &&& 31)) &&& 1 = 0) ∨ (sg = 1 ∧ (s >>> (nI z &&& 31)) &&& 1 = 0)) : x + sg * a = mxI g (s ^^^ 1 <<< (nI z &&& 31)) 20 := by
  rw [mxI_20 hz hs, e, eg]
theorem mxI_201 (e : x = mxI (fun _ => 1) s 20) (hz : z < 20) (hs : (sg = -1 ∧ ¬ (s >>> (nI z &&& 31)) &&& 1 = 0) ∨ (sg = 1 ∧ (s >>> (nI z &&& 31)) &&& 1 = 0)) : x + sg = mxI (fun _ => 1) (s ^^^ 1 <<< (nI z &&& 31)) 20 := by
  rw [mxI_20 hz hs, e, Int32.mul_one]
theorem upd_4 {q f1 a1 n1 : Int32} (h3 : 3 ≤ j) (h9 : j ≤ 9) : upd (upd (upd (upd G 0 q) 1 f1) 2 a1) 10 n1 j = G j := by
  unfold upd
  rw [if_neg (by omega), if_neg (by omega), if_neg (by omega), if_neg (by omega)]
theorem BTR_w {fl : Nat → Int32} (hx : b = 0 ∨ (m = mxI fl b 20 ∧ k = mxI (fun _ => 1) b 20)) (h : b = 0 ∨ m.toInt < (mxI fl s 20).toInt ∨ ((mxI fl s 20).toInt = m.toInt ∧ (mxI (fun _ => 1) s 20).toInt < k.toInt)) : BTR fl s b := by
  rcases hx with hx | ⟨rfl, rfl⟩
  · exact Or.inl hx
  · rcases h with h | h | h
    · exact Or.inl h
    · exact Or.inr (Or.inl h)
    · exact Or.inr (Or.inr ⟨Int32.toInt_inj.mp h.1, h.2⟩)
theorem BTR_n {fl : Nat → Int32} (hx : b = 0 ∨ (m = mxI fl b 20 ∧ k = mxI (fun _ => 1) b 20)) (h : ¬ b = 0 ∧ ¬ m.toInt < (mxI fl s 20).toInt ∧ ¬ ((mxI fl s 20).toInt = m.toInt ∧ (mxI (fun _ => 1) s 20).toInt < k.toInt)) : ¬ BTR fl s b := by
  rcases hx with hx | ⟨rfl, rfl⟩
  · exact absurd hx h.1
  · rintro (w | w | w)
    · exact h.1 w
    · exact h.2.1 w
    · exact h.2.2 ⟨congrArg Int32.toInt w.1, w.2⟩
theorem BLR.ys {S : Nat → Int32} {B : Int32 → Int32 → Prop} {W : Int32 → Prop} (hi : 1 ≤ i) (h : BLR S B W (i - 1) b) (hb : B (S i) b) (hw : W (S i)) : BLR S B W (i + 1 - 1) (S i) := by
  obtain ⟨c, rfl⟩ : ∃ c : Nat, i = c + 1 := ⟨i - 1, by omega⟩
  exact BLR.y h hb hw
theorem BLR.ns {S : Nat → Int32} {B : Int32 → Int32 → Prop} {W : Int32 → Prop} (hi : 1 ≤ i) (h : BLR S B W (i - 1) b) (hn : ¬ (B (S i) b ∧ W (S i))) : BLR S B W (i + 1 - 1) b := by
  obtain ⟨c, rfl⟩ : ∃ c : Nat, i = c + 1 := ⟨i - 1, by omega⟩
  exact BLR.n h hn
end FLIPS
theorem bit_1t {a n : Nat} (hn : n < 32) (h : (nI a >>> (nI n &&& 31)) &&& 1 = 1) : a.testBit n = true := by
  cases e : a.testBit n with
  | true => rfl
  | false =>
    rw [(bit_nIt hn).mpr e] at h
    exact absurd h (by decide)
theorem bit_1f {a n : Nat} (hn : n < 32) (h : ¬ (nI a >>> (nI n &&& 31)) &&& 1 = 1) : a.testBit n = false := by
  rcases bit_c (x := nI a) hn with ⟨p, _⟩ | ⟨_, q⟩
  · rw [nI_b hn] at p
    exact p
  · exact absurd q h



set_option maxRecDepth 100000 in
set_option maxHeartbeats 4000000 in
theorem q_WgatherB (l : Launch) (D : va_G) (cI cB cZ : ClassId) (zz qq vv : Nat) (bt : Nat → Int32) (g : Nat → Nat) (ad : Nat → Nat → Nat) (cn : Nat → Nat) (In : Nat → Int32) (Fn : Nat → Nat → Int32) (ro : Nat) (f : Nat → Int32) (sz : Nat) (hB : CBX cn) : Met l yX11_gatherBlendable (CWS yX11_gatherBlendable cX11_gatherBlendable 4 (some .int)) (RM 4 0 0) (PBx [.ref (g 0), .ref ro] D cI cB cZ zz qq vv bt ((wX cI (D.1 99) zz g ad cn In Fn) ++ ([(ro, .inl (cI, 12, .inl f))] : va_W)) sz) (va_Qi (fun (r : Int32) (u : (Nat → Nat → Nat) × (Nat → Nat) × (Nat → Int32) × (Nat → Nat → Int32) × va_W) => (fun r a2 c2 I2 F2 W2 => ad = a2 ∧ cn = c2 ∧ In = I2 ∧ Fn = F2 ∧ ∃ (l : List Nat) (f2 : Nat → Int32), r = nI l.length ∧ GL (fun k9 => k9 < cn 11 ∧ Fn 129 k9 = 0 ∧ (Fn 125 k9).toInt ≤ (cn 0 : Int)) 20 l ∧ RWL f2 l ∧ W2 = ([(ro, .inl (cI, 12, .inl f2))] : va_W)) r u.1 u.2.1 u.2.2.1 u.2.2.2.1 u.2.2.2.2) (fun (u : (Nat → Nat → Nat) × (Nat → Nat) × (Nat → Int32) × (Nat → Nat → Int32) × va_W) (t : State) => va_P D vwCl (wX cI (D.1 99) zz g u.1 u.2.1 u.2.2.1 u.2.2.2.1 ++ u.2.2.2.2) t.heap ∧ va_D (va_A ((wX cI (D.1 99) zz g ad cn In Fn) ++ ([(ro, .inl (cI, 12, .inl f))] : va_W)) sz) (wX cI (D.1 99) zz g u.1 u.2.1 u.2.2.1 u.2.2.2.1 ++ u.2.2.2.2)) (va_A ((wX cI (D.1 99) zz g ad cn In Fn) ++ ([(ro, .inl (cI, 12, .inl f))] : va_W)) sz)) 0 0 (va_A ((wX cI (D.1 99) zz g ad cn In Fn) ++ ([(ro, .inl (cI, 12, .inl f))] : va_W)) sz) := by
  refine en_x (fun A => (va_Qi (fun (r : Int32) (u : (Nat → Nat → Nat) × (Nat → Nat) × (Nat → Int32) × (Nat → Nat → Int32) × va_W) => (fun (r : Int32) (a2 : Nat → Nat → Nat) (c2 : Nat → Nat) (I2 : Nat → Int32) (F2 : Nat → Nat → Int32) (W2 : va_W) => ad = a2 ∧ cn = c2 ∧ In = I2 ∧ Fn = F2 ∧ ∃ (l : List Nat) (f2 : Nat → Int32), r = nI l.length ∧ GL (fun k9 => k9 < cn 11 ∧ Fn 129 k9 = 0 ∧ (Fn 125 k9).toInt ≤ (cn 0 : Int)) 20 l ∧ RWL f2 l ∧ W2 = ([(ro, .inl (cI, 12, .inl f2))] : va_W)) r u.1 u.2.1 u.2.2.1 u.2.2.2.1 u.2.2.2.2) (fun (u : (Nat → Nat → Nat) × (Nat → Nat) × (Nat → Int32) × (Nat → Nat → Int32) × va_W) (t : State) => va_P D vwCl (wX cI (D.1 99) zz g u.1 u.2.1 u.2.2.1 u.2.2.2.1 ++ u.2.2.2.2) t.heap ∧ va_D A (wX cI (D.1 99) zz g u.1 u.2.1 u.2.2.1 u.2.2.2.1 ++ u.2.2.2.2)) A)) rfl rfl pn_RX11 (Nat.le_of_ble_eq_true rfl) (fun p e s m below meth c A hx hb hml hown S hr hlocks hnm hA hP hK hD hXS hS ls hl => ?_)
  have hl : lv_has ls 4 [(0, .ref (g 0)), (1, .ref ro)] := hl
  refine lv_iconst (v := 0) hx hb (oc_3 0 shX11_gatherBlendable_0) kic_0 ?_
  refine lv_istore_n (lv' := [(2, .int 0), (0, .ref (g 0)), (1, .ref ro)]) hx hb (oc_61 1 (aq_1 shX11_gatherBlendable_0)) rfl hl (ltb rfl) rfl (fun ls hl => ?_)
  refine lv_iconst (v := 0) hx hb (oc_3 2 (aq_2 shX11_gatherBlendable_0)) kic_0 ?_
  refine lv_istore_n (lv' := [(3, .int 0), (2, .int 0), (0, .ref (g 0)), (1, .ref ro)]) hx hb (oc_62 3 (aq_3 shX11_gatherBlendable_0)) rfl hl (ltb rfl) rfl (fun ls hl => ?_)
  have lp_4 : ∀ (n : Nat) (i4 : Nat) (n2 : Nat) (b4_0f : Nat → Int32) (H : Heap) (locs : List Loc) , 20 - i4 < n → (i4 ≤ 20 ∧ Fr [] [] [] cn In Fn cn In Fn ∧ (n2 ≤ 12) ∧ (∃ l : List Nat, GL (fun k9 => k9 < cn 11 ∧ Fn 129 k9 = 0 ∧ (Fn 125 k9).toInt ≤ (cn 0 : Int)) i4 l ∧ n2 = l.length ∧ RWL b4_0f l)) → va_P D vwCl ((wX cI (D.1 99) zz g ad cn In Fn) ++ ([(ro, .inl (cI, 12, .inl b4_0f))] : va_W)) H → va_D A ((wX cI (D.1 99) zz g ad cn In Fn) ++ ([(ro, .inl (cI, 12, .inl b4_0f))] : va_W)) → va_S A s.heap H locs → ∀ ls : Array Slot, lv_has ls 4 [(3, .int (nI i4)), (2, .int (nI n2)), (0, .ref (g 0)), (1, .ref ro)] → W p l e (RM 4 0 0) s m ([.ref (g 0), .ref ro]).toArray below meth c H locs 0 0 (MQ below (va_Qi (fun (r : Int32) (u : (Nat → Nat → Nat) × (Nat → Nat) × (Nat → Int32) × (Nat → Nat → Int32) × va_W) => (fun r a2 c2 I2 F2 W2 => ad = a2 ∧ cn = c2 ∧ In = I2 ∧ Fn = F2 ∧ ∃ (l : List Nat) (f2 : Nat → Int32), r = nI l.length ∧ GL (fun k9 => k9 < cn 11 ∧ Fn 129 k9 = 0 ∧ (Fn 125 k9).toInt ≤ (cn 0 : Int)) 20 l ∧ RWL f2 l ∧ W2 = ([(ro, .inl (cI, 12, .inl f2))] : va_W)) r u.1 u.2.1 u.2.2.1 u.2.2.2.1 u.2.2.2.2) (fun (u : (Nat → Nat → Nat) × (Nat → Nat) × (Nat → Int32) × (Nat → Nat → Int32) × va_W) (t : State) => va_P D vwCl (wX cI (D.1 99) zz g u.1 u.2.1 u.2.2.1 u.2.2.2.1 ++ u.2.2.2.2) t.heap ∧ va_D A (wX cI (D.1 99) zz g u.1 u.2.1 u.2.2.1 u.2.2.2.1 ++ u.2.2.2.2)) A) ([.ref (g 0), .ref ro]).toArray s 0 0 A) (F0 m 4 ls []) := by
    intro n4
    induction n4 with
    | zero => intros; omega
    | succ n4 ih4 =>
      intro i4 n2 b4_0f  H locs hmu4 hinv4 hP hD hS ls hl
      obtain ⟨hr4, hfr4, hx4_0, hx4_1⟩ := hinv4
      have ti4 : (nI i4).toInt = (i4 : Int) := nI_toInt (by omega)
      have tn2 : (nI n2).toInt = (n2 : Int) := nI_toInt (by omega)
      obtain ⟨l9, hg9, hn9, hr9⟩ := hx4_1
      refine lv_iload_n hx hb (oc_29 4 (aq_4 shX11_gatherBlendable_0)) rfl (lvA0 hl) ?_
      refine lv_bipush (v := 20) hx hb (oc_16 5 (aq_5 shX11_gatherBlendable_0) sgb_20) kbc_20 ?_
      refine lv_icmp_ge (tgt := 43) hx hb (oc_162 7 (aq_7 shX11_gatherBlendable_0) sgw_0_36) rfl (fun c_1 => ?_) (fun c_1 => ?_)
      ·
        have tc_1 : (20 : Int) ≤ (nI i4).toInt := Int32.le_iff_toInt_le.mp c_1
        refine lv_iload_n hx hb dX11_gatherBlendable_43 rfl (lvA1 hl) ?_
        exact W.iret (v := (nI n2)) hx hb hr (fun t ht hW => ⟨⟨(nI n2), (ad, cn, In, Fn, ([(ro, .inl (cI, 12, .inl b4_0f))] : va_W)), rfl, ⟨rfl, rfl, rfl, rfl, l9, b4_0f, congrArg nI hn9, GL.fin hg9 (by omega) (by omega), hr9, rfl⟩, by rw [ht]; exact hP, hD⟩, hS.F ht⟩) hS.2.2 dX11_gatherBlendable_44
      ·
        have tc_1 : ((nI i4).toInt : Int) < 20 := Int32.lt_iff_toInt_lt.mp (Int32.not_le.mp c_1)
        refine lv_iload_n hx hb (oc_28 10 (aq_10 shX11_gatherBlendable_0)) rfl (lvA1 hl) ?_
        refine lv_aload_n hx hb (oc_43 11 (aq_11 shX11_gatherBlendable_0)) rfl (lvA3 hl) ?_
        refine va_alen hx hb hK.1 hP _ 0 (exr (m := 0) rfl) rfl (v := 12) rfl (oc_190 12 (aq_12 shX11_gatherBlendable_0)) ?_
        have : (nI n2).toInt = ((n2 : Nat) : Int) := nI_toInt (by omega)
        refine lv_icmp_ge (tgt := 43) hx hb (oc_162 13 (aq_13 shX11_gatherBlendable_0) sgw_0_30) rfl (fun c_2 => ?_) (fun c_2 => ?_)
        ·
          have tc_2 : (12 : Int) ≤ (nI n2).toInt := Int32.le_iff_toInt_le.mp c_2
          refine lv_iload_n hx hb dX11_gatherBlendable_43 rfl (lvA1 hl) ?_
          exact W.iret (v := (nI n2)) hx hb hr (fun t ht hW => ⟨⟨(nI n2), (ad, cn, In, Fn, ([(ro, .inl (cI, 12, .inl b4_0f))] : va_W)), rfl, ⟨rfl, rfl, rfl, rfl, l9, b4_0f, congrArg nI hn9, GL.fin hg9 (by omega) (by omega), hr9, rfl⟩, by rw [ht]; exact hP, hD⟩, hS.F ht⟩) hS.2.2 dX11_gatherBlendable_44
        ·
          have tc_2 : ((nI n2).toInt : Int) < 12 := Int32.lt_iff_toInt_lt.mp (Int32.not_le.mp c_2)
          refine lv_aload_n hx hb (oc_42 16 (aq_16 shX11_gatherBlendable_0)) rfl (lvA2 hl) ?_
          refine lv_aload_n hx hb (oc_42 17 (aq_17 shX11_gatherBlendable_0)) rfl (lvA2 hl) ?_
          refine lv_iload_n hx hb (oc_29 18 (aq_18 shX11_gatherBlendable_0)) rfl (lvA0 hl) ?_
          refine va_csq (runV_rxa (As := [.int (nI i4)]) (rest := [.ref (g 0)]) S (q_XloadAt l D cI cB cZ zz qq vv bt g ad cn In Fn (nI i4) hB) kV_RX11_148 hK hXS hS (exP hP) 0 xo_0 rfl rfl ⟨Nat.le_of_ble_eq_true rfl, Nat.le_of_ble_eq_true rfl⟩ ⟨Nat.le_of_ble_eq_true rfl, Nat.le_of_ble_eq_true rfl⟩ rfl hl.1 rfl (Nat.le_of_ble_eq_true rfl) (oc_182 19 (aq_19 shX11_gatherBlendable_0) uw_0_148)) (fun r_3 h_4 => ?_)
          rcases h_4 with ⟨m9, em9, hm9, rfl⟩ | ⟨hm9, rfl⟩
          ·
            obtain rfl : i4 = m9 := (by omega)
            refine vp_callSi (runV_rxa (As := [.ref (ad 11 i4)]) (rest := []) S (q_WcanLoad l D cI cB cZ zz qq vv bt g ad cn In Fn i4 hB (by omega)) kV_RX11_354 hK hXS hS (exP hP) 0 xo_0 rfl rfl ⟨Nat.le_of_ble_eq_true rfl, Nat.le_of_ble_eq_true rfl⟩ ⟨Nat.le_of_ble_eq_true rfl, Nat.le_of_ble_eq_true rfl⟩ rfl hl.1 rfl (Nat.le_of_ble_eq_true rfl) dX11_gatherBlendable_22) (fun r_5 h_6 => ?_)
            rcases h_6 with ⟨rfl, h_6⟩ | ⟨rfl, h_6⟩
            ·
              refine lv_if_eq (tgt := 37) hx hb dX11_gatherBlendable_25 rfl (fun h => absurd h cq_eq_1_0) (fun _ => ?_)
              refine lv_aload_n hx hb (oc_43 28 (aq_3 shX11_gatherBlendable_25)) rfl (lvA3 hl) ?_
              refine lv_iload_n hx hb (oc_28 29 (aq_4 shX11_gatherBlendable_25)) rfl (lvA1 hl) ?_
              refine lv_iload_n hx hb (oc_29 30 (aq_5 shX11_gatherBlendable_25)) rfl (lvA0 hl) ?_
              have hFc := va_free (wc := [(ro, .inl (cI, 12, .inl b4_0f))]) hD hS hA [_] (one_im (exr (m := 0) rfl))
              refine va_callv (runS_w (As := [.ref ro, .int (nI n2), .int (nI i4)]) (rest := []) S (q_l_put l D cI cB cZ ro 12 b4_0f (nI n2) (nI i4) H.size (by omega)) kS_RX11_184 hK hP hD [_] (one_is (exr (m := 0) rfl)) (one_im (exr (m := 0) rfl)) rfl ⟨Nat.le_of_ble_eq_true rfl, Nat.le_of_ble_eq_true rfl⟩ ⟨Nat.le_of_ble_eq_true rfl, Nat.le_of_ble_eq_true rfl⟩ rfl hl.1 rfl (Nat.le_of_ble_eq_true rfl) (oc_184 31 (aq_6 shX11_gatherBlendable_25) uw_0_184)) hS (fun q _ h => hFc q h) hFc (fun u_7 t H1 locs ht hvm h_8 hB1 hz1 hk1 hS => ?_)
              obtain ⟨hP1, hD1⟩ := hB1
              rw [ht] at hP1
              obtain ⟨hP, hD⟩ := wset1 hP hD (exr (m := 0) rfl) hk1 hP1
              generalize H1 = H at hP hS ⊢
              have hP : va_P D vwCl ((wX cI (D.1 99) zz g ad cn In Fn) ++ ([(ro, .inl (cI, 12, .inl u_7))] : va_W)) H := va_P_eq (exs_r rfl) hP
              have hD : va_D A ((wX cI (D.1 99) zz g ad cn In Fn) ++ ([(ro, .inl (cI, 12, .inl u_7))] : va_W)) := va_D_eq (exs_r rfl) hD
              refine lv_iinc (v := (nI (n2 + 1))) (lv' := [(2, .int (nI (n2 + 1))), (3, .int (nI i4)), (0, .ref (g 0)), (1, .ref ro)]) hx hb (oc_132 34 (aq_9 shX11_gatherBlendable_25) ub_2 sgb_1) hl (k := 1) rfl (nI_1 _) (ltb rfl) rfl (fun ls hl => ?_)
              refine lv_iinc (v := (nI (i4 + 1))) (lv' := [(3, .int (nI (i4 + 1))), (2, .int (nI (n2 + 1))), (0, .ref (g 0)), (1, .ref ro)]) hx hb dX11_gatherBlendable_37 hl (k := 1) rfl (nI_1 _) (ltb rfl) rfl (fun ls hl => ?_)
              refine lv_goto (tgt := 4) hx hb dX11_gatherBlendable_40 rfl ?_
              exact ih4 (i4 + 1) (n2 + 1) u_7  _ _ (by omega) ⟨(by omega), (Fr.mo hfr4 (sbl rfl) (sbl rfl) (sbl rfl)), (by omega), ⟨l9 ++ [i4], GL.yx hg9 (by omega) ⟨by omega, h_6⟩, (by rw [List.length_append]; show n2 + 1 = l9.length + 1; omega), (by rw [h_8, putM_p (by omega) (by decide), hn9]; exact RWL.put hr9)⟩⟩ hP hD hS ls (lv_sub hl [0, 1, 2, 3] rfl)
            ·
              refine lv_if_eq (tgt := 37) hx hb dX11_gatherBlendable_25 rfl (fun _ => ?_) (fun h => absurd h cq_eq_0_0)
              refine lv_iinc (v := (nI (i4 + 1))) (lv' := [(3, .int (nI (i4 + 1))), (2, .int (nI n2)), (0, .ref (g 0)), (1, .ref ro)]) hx hb dX11_gatherBlendable_37 hl (k := 0) rfl (nI_1 _) (ltb rfl) rfl (fun ls hl => ?_)
              refine lv_goto (tgt := 4) hx hb dX11_gatherBlendable_40 rfl ?_
              exact ih4 (i4 + 1) n2 b4_0f  _ _ (by omega) ⟨(by omega), (Fr.mo hfr4 (sbl rfl) (sbl rfl) (sbl rfl)), (by omega), ⟨l9, GL.nx hg9 (fun w9 => h_6 w9.2.2), hn9, hr9⟩⟩ hP hD hS ls (lv_sub hl [0, 1, 2, 3] rfl)
          ·
            refine vp_callSi (runV_rxa (As := [.null]) (rest := []) S (q_XcanNull l D cI cB cZ zz qq vv bt g ad cn In Fn  hB) kV_RX11_354 hK hXS hS (exP hP) 0 xo_0 rfl rfl ⟨Nat.le_of_ble_eq_true rfl, Nat.le_of_ble_eq_true rfl⟩ ⟨Nat.le_of_ble_eq_true rfl, Nat.le_of_ble_eq_true rfl⟩ rfl hl.1 rfl (Nat.le_of_ble_eq_true rfl) dX11_gatherBlendable_22) (fun r_9 h_10 => ?_)
            subst h_10
            refine lv_if_eq (tgt := 37) hx hb dX11_gatherBlendable_25 rfl (fun _ => ?_) (fun h => absurd h cq_eq_0_0)
            refine lv_iinc (v := (nI (i4 + 1))) (lv' := [(3, .int (nI (i4 + 1))), (2, .int (nI n2)), (0, .ref (g 0)), (1, .ref ro)]) hx hb dX11_gatherBlendable_37 hl (k := 0) rfl (nI_1 _) (ltb rfl) rfl (fun ls hl => ?_)
            refine lv_goto (tgt := 4) hx hb dX11_gatherBlendable_40 rfl ?_
            exact ih4 (i4 + 1) n2 b4_0f  _ _ (by omega) ⟨(by omega), (Fr.mo hfr4 (sbl rfl) (sbl rfl) (sbl rfl)), (by omega), ⟨l9, GL.nx hg9 (fun w9 => by have q8 := w9.2.1; omega), hn9, hr9⟩⟩ hP hD hS ls (lv_sub hl [0, 1, 2, 3] rfl)
  exact lp_4 _ 0 0 f  _ _ (Nat.lt_succ_self _) ⟨(by omega), (Fr.mo Fr.rf (sbl rfl) (sbl rfl) (sbl rfl)), (by omega), ⟨[], rfl, rfl, RWL.nil⟩⟩ hP hD hS ls (lv_sub hl [0, 1, 2, 3] rfl)
set_option maxRecDepth 100000 in
set_option maxHeartbeats 4000000 in
theorem q_WflipTo (l : Launch) (D : va_G) (cI cB cZ : ClassId) (zz qq vv : Nat) (bt : Nat → Int32) (g : Nat → Nat) (ad : Nat → Nat → Nat) (cn : Nat → Nat) (In : Nat → Int32) (Fn : Nat → Nat → Int32) (bo w : Nat) (x1 x2 x3 x4 x5 x6 x7 : Int32) (ro : Nat) (f : Nat → Int32) (c0 n0 : Nat) (fl fw fa : Nat → Int32) (ws : va_W) (sz : Nat) (hB : CBX cn) (hc : 1 ≤ c0 ∧ c0 < 2 ^ n0 ∧ n0 ≤ 12) (hf : ∀ k : Nat, k < n0 → ∃ z : Nat, z < 20 ∧ z < cn 11 ∧ f k = nI z) (hx4 : x4 = SXB f (fun j => (c0 - 1).testBit j) n0) (hxx : x1 = (mxI (fun i => fl i * fw i) x4 20) ∧ x2 = (mxI (fun i => fl i * fa i) x4 20) ∧ x5 = (mxI (fun _ => 1) x4 20) ∧ x6 = (mxI fl x4 20)) (h122 : Fn 122 = fl) (h123 : Fn 123 = fw) (h124 : Fn 124 = fa) : Met l yX11_flipTo (CWS yX11_flipTo cX11_flipTo 7 none) (RM 5 0 0) (PBx [.ref (g 0), .ref bo, .int (nI c0), .ref ro] D cI cB cZ zz qq vv bt ((wX cI (D.1 99) zz g ad cn In Fn) ++ (([(bo, .inr (1, [.ref w, .int x1, .int x2, .int x3, .int x4, .int x5, .int x6, .int x7])), (ro, .inl (cI, 12, .inl f))] : va_W) ++ ws)) sz) (va_Qv (fun (u : (Nat → Nat → Nat) × (Nat → Nat) × (Nat → Int32) × (Nat → Nat → Int32) × va_W) => (fun a2 c2 I2 F2 W2 => ad = a2 ∧ cn = c2 ∧ In = I2 ∧ Fn = F2 ∧ W2 = (([(bo, .inr (1, [.ref w, .int (mxI (fun i => fl i * fw i) (SXB f (fun j => c0.testBit j) n0) 20), .int (mxI (fun i => fl i * fa i) (SXB f (fun j => c0.testBit j) n0) 20), .int x3, .int (SXB f (fun j => c0.testBit j) n0), .int (mxI (fun _ => 1) (SXB f (fun j => c0.testBit j) n0) 20), .int (mxI fl (SXB f (fun j => c0.testBit j) n0) 20), .int x7])), (ro, .inl (cI, 12, .inl f))] : va_W) ++ ws)) u.1 u.2.1 u.2.2.1 u.2.2.2.1 u.2.2.2.2) (fun (u : (Nat → Nat → Nat) × (Nat → Nat) × (Nat → Int32) × (Nat → Nat → Int32) × va_W) (t : State) => va_P D vwCl (wX cI (D.1 99) zz g u.1 u.2.1 u.2.2.1 u.2.2.2.1 ++ u.2.2.2.2) t.heap ∧ va_D (va_A ((wX cI (D.1 99) zz g ad cn In Fn) ++ (([(bo, .inr (1, [.ref w, .int x1, .int x2, .int x3, .int x4, .int x5, .int x6, .int x7])), (ro, .inl (cI, 12, .inl f))] : va_W) ++ ws)) sz) (wX cI (D.1 99) zz g u.1 u.2.1 u.2.2.1 u.2.2.2.1 ++ u.2.2.2.2)) (va_A ((wX cI (D.1 99) zz g ad cn In Fn) ++ (([(bo, .inr (1, [.ref w, .int x1, .int x2, .int x3, .int x4, .int x5, .int x6, .int x7])), (ro, .inl (cI, 12, .inl f))] : va_W) ++ ws)) sz)) 0 0 (va_A ((wX cI (D.1 99) zz g ad cn In Fn) ++ (([(bo, .inr (1, [.ref w, .int x1, .int x2, .int x3, .int x4, .int x5, .int x6, .int x7])), (ro, .inl (cI, 12, .inl f))] : va_W) ++ ws)) sz) := by
  refine en_x (fun A => (va_Qv (fun (u : (Nat → Nat → Nat) × (Nat → Nat) × (Nat → Int32) × (Nat → Nat → Int32) × va_W) => (fun (a2 : Nat → Nat → Nat) (c2 : Nat → Nat) (I2 : Nat → Int32) (F2 : Nat → Nat → Int32) (W2 : va_W) => ad = a2 ∧ cn = c2 ∧ In = I2 ∧ Fn = F2 ∧ W2 = (([(bo, .inr (1, [.ref w, .int (mxI (fun i => fl i * fw i) (SXB f (fun j => c0.testBit j) n0) 20), .int (mxI (fun i => fl i * fa i) (SXB f (fun j => c0.testBit j) n0) 20), .int x3, .int (SXB f (fun j => c0.testBit j) n0), .int (mxI (fun _ => 1) (SXB f (fun j => c0.testBit j) n0) 20), .int (mxI fl (SXB f (fun j => c0.testBit j) n0) 20), .int x7])), (ro, .inl (cI, 12, .inl f))] : va_W) ++ ws)) u.1 u.2.1 u.2.2.1 u.2.2.2.1 u.2.2.2.2) (fun (u : (Nat → Nat → Nat) × (Nat → Nat) × (Nat → Int32) × (Nat → Nat → Int32) × va_W) (t : State) => va_P D vwCl (wX cI (D.1 99) zz g u.1 u.2.1 u.2.2.1 u.2.2.2.1 ++ u.2.2.2.2) t.heap ∧ va_D A (wX cI (D.1 99) zz g u.1 u.2.1 u.2.2.1 u.2.2.2.1 ++ u.2.2.2.2)) A)) rfl rfl pn_RX11 (Nat.le_of_ble_eq_true rfl) (fun p e s m below meth c A hx hb hml hown S hr hlocks hnm hA hP hK hD hXS hS ls hl => ?_)
  have hl : lv_has ls 7 [(0, .ref (g 0)), (1, .ref bo), (2, .int (nI c0)), (3, .ref ro)] := hl
  refine lv_iload_n hx hb (oc_28 0 shX11_flipTo_0) rfl (lvA2 hl) ?_
  refine lv_iload_n hx hb (oc_28 1 (aq_1 shX11_flipTo_0)) rfl (lvA2 hl) ?_
  refine lv_iconst (v := 1) hx hb (oc_4 2 (aq_2 shX11_flipTo_0)) kic_1 ?_
  refine lv_isub hx hb (oc_100 3 (aq_3 shX11_flipTo_0)) ?_
  refine lv_ixor hx hb (oc_130 4 (aq_4 shX11_flipTo_0)) ?_
  refine lv_istore (lv' := [(4, .int ((nI c0) ^^^ ((nI c0) - 1))), (0, .ref (g 0)), (1, .ref bo), (2, .int (nI c0)), (3, .ref ro)]) hx hb (oc_54 5 (aq_5 shX11_flipTo_0) ub_4) hl (ltb rfl) rfl (fun ls hl => ?_)
  refine lv_iconst (v := 0) hx hb (oc_3 7 (aq_7 shX11_flipTo_0)) kic_0 ?_
  refine lv_istore (lv' := [(5, .int 0), (4, .int ((nI c0) ^^^ ((nI c0) - 1))), (0, .ref (g 0)), (1, .ref bo), (2, .int (nI c0)), (3, .ref ro)]) hx hb (oc_54 8 (aq_8 shX11_flipTo_0) ub_5) hl (ltb rfl) rfl (fun ls hl => ?_)
  have lp_10 : ∀ (n : Nat) (i10 : Nat) (b10_01 : Int32) (b10_02 : Int32) (b10_04 : Int32) (b10_05 : Int32) (b10_06 : Int32) (H : Heap) (locs : List Loc) , 12 - i10 < n → (i10 ≤ 12 ∧ Fr [] [] [] cn In Fn cn In Fn ∧ (b10_04 = SXB f (fun j => (c0 - 1).testBit j ^^ decide (j < i10)) n0) ∧ (b10_01 = (mxI (fun i => fl i * fw i) b10_04 20) ∧ b10_02 = (mxI (fun i => fl i * fa i) b10_04 20) ∧ b10_05 = (mxI (fun _ => 1) b10_04 20) ∧ b10_06 = (mxI fl b10_04 20)) ∧ (∀ j : Nat, j < i10 → ¬ c0.testBit j = (c0 - 1).testBit j)) → va_P D vwCl ((wX cI (D.1 99) zz g ad cn In Fn) ++ (([(bo, .inr (1, [.ref w, .int b10_01, .int b10_02, .int x3, .int b10_04, .int b10_05, .int b10_06, .int x7])), (ro, .inl (cI, 12, .inl f))] : va_W) ++ ws)) H → va_D A ((wX cI (D.1 99) zz g ad cn In Fn) ++ (([(bo, .inr (1, [.ref w, .int b10_01, .int b10_02, .int x3, .int b10_04, .int b10_05, .int b10_06, .int x7])), (ro, .inl (cI, 12, .inl f))] : va_W) ++ ws)) → va_S A s.heap H locs → ∀ ls : Array Slot, lv_has ls 7 [(5, .int (nI i10)), (4, .int ((nI c0) ^^^ ((nI c0) - 1))), (0, .ref (g 0)), (1, .ref bo), (2, .int (nI c0)), (3, .ref ro)] → W p l e (RM 5 0 0) s m ([.ref (g 0), .ref bo, .int (nI c0), .ref ro]).toArray below meth c H locs 0 0 (MQ below (va_Qv (fun (u : (Nat → Nat → Nat) × (Nat → Nat) × (Nat → Int32) × (Nat → Nat → Int32) × va_W) => (fun a2 c2 I2 F2 W2 => ad = a2 ∧ cn = c2 ∧ In = I2 ∧ Fn = F2 ∧ W2 = (([(bo, .inr (1, [.ref w, .int (mxI (fun i => fl i * fw i) (SXB f (fun j => c0.testBit j) n0) 20), .int (mxI (fun i => fl i * fa i) (SXB f (fun j => c0.testBit j) n0) 20), .int x3, .int (SXB f (fun j => c0.testBit j) n0), .int (mxI (fun _ => 1) (SXB f (fun j => c0.testBit j) n0) 20), .int (mxI fl (SXB f (fun j => c0.testBit j) n0) 20), .int x7])), (ro, .inl (cI, 12, .inl f))] : va_W) ++ ws)) u.1 u.2.1 u.2.2.1 u.2.2.2.1 u.2.2.2.2) (fun (u : (Nat → Nat → Nat) × (Nat → Nat) × (Nat → Int32) × (Nat → Nat → Int32) × va_W) (t : State) => va_P D vwCl (wX cI (D.1 99) zz g u.1 u.2.1 u.2.2.1 u.2.2.2.1 ++ u.2.2.2.2) t.heap ∧ va_D A (wX cI (D.1 99) zz g u.1 u.2.1 u.2.2.1 u.2.2.2.1 ++ u.2.2.2.2)) A) ([.ref (g 0), .ref bo, .int (nI c0), .ref ro]).toArray s 0 0 A) (F0 m 10 ls []) := by
    intro n10
    induction n10 with
    | zero => intros; omega
    | succ n10 ih10 =>
      intro i10 b10_01 b10_02 b10_04 b10_05 b10_06  H locs hmu10 hinv10 hP hD hS ls hl
      obtain ⟨hr10, hfr10, hx10_0, hx10_1, hx10_2⟩ := hinv10
      have ti10 : (nI i10).toInt = (i10 : Int) := nI_toInt (by omega)
      refine lv_iload hx hb (oc_21 10 (aq_10 shX11_flipTo_0) ub_5) (lvA0 hl) ?_
      refine lv_aload_n hx hb (oc_45 12 (aq_12 shX11_flipTo_0)) rfl (lvA5 hl) ?_
      refine va_alen hx hb hK.1 hP _ 0 (exr (m := 1) rfl) rfl (v := 12) rfl (oc_190 13 (aq_13 shX11_flipTo_0)) ?_
      refine lv_icmp_ge (tgt := 58) hx hb (oc_162 14 (aq_14 shX11_flipTo_0) sgw_0_44) rfl (fun c_1 => ?_) (fun c_1 => ?_)
      ·
        have tc_1 : (12 : Int) ≤ (nI i10).toInt := Int32.le_iff_toInt_le.mp c_1
        have hS9 := SXB_e hx10_0 hx10_2 (fun j hj hij => absurd hij (by omega))
        rw [hx10_1.1, hx10_1.2.1, hx10_1.2.2.1, hx10_1.2.2.2, hS9] at hP hD
        exact W.vret hx hb hr (fun t ht hW => ⟨⟨(ad, cn, In, Fn, (([(bo, .inr (1, [.ref w, .int (mxI (fun i => fl i * fw i) (SXB f (fun j => c0.testBit j) n0) 20), .int (mxI (fun i => fl i * fa i) (SXB f (fun j => c0.testBit j) n0) 20), .int x3, .int (SXB f (fun j => c0.testBit j) n0), .int (mxI (fun _ => 1) (SXB f (fun j => c0.testBit j) n0) 20), .int (mxI fl (SXB f (fun j => c0.testBit j) n0) 20), .int x7])), (ro, .inl (cI, 12, .inl f))] : va_W) ++ ws)), rfl, ⟨rfl, rfl, rfl, rfl, rfl⟩, by rw [ht]; exact hP, hD⟩, hS.F ht⟩) hS.2.2 dX11_flipTo_58
      ·
        have tc_1 : ((nI i10).toInt : Int) < 12 := Int32.lt_iff_toInt_lt.mp (Int32.not_le.mp c_1)
        refine lv_iload hx hb (oc_21 17 (aq_17 shX11_flipTo_0) ub_4) (lvA1 hl) ?_
        refine lv_iload hx hb (oc_21 19 (aq_19 shX11_flipTo_0) ub_5) (lvA0 hl) ?_
        refine lv_ishr hx hb (oc_122 21 (aq_21 shX11_flipTo_0)) ?_
        refine lv_iconst (v := 1) hx hb (oc_4 22 (aq_22 shX11_flipTo_0)) kic_1 ?_
        refine lv_iand hx hb (oc_126 23 (aq_23 shX11_flipTo_0)) ?_
        refine lv_if_eq (tgt := 58) hx hb (oc_153 24 shX11_flipTo_24 sgw_0_34) rfl (fun c_2 => ?_) (fun c_2 => ?_)
        ·
          have tc_2 : (((((nI c0) ^^^ ((nI c0) - 1)) >>> ((nI i10) &&& 31)) &&& 1).toInt : Int) = 0 := congrArg Int32.toInt c_2
          have hS9 := SXB_e hx10_0 hx10_2 (fun j hj hij => tb_c i10 j c0 hc.1 ((chg_b hc.1 (by omega)).mp (by first | assumption | exact Int32.toInt_inj.mp (by assumption))) hij)
          rw [hx10_1.1, hx10_1.2.1, hx10_1.2.2.1, hx10_1.2.2.2, hS9] at hP hD
          exact W.vret hx hb hr (fun t ht hW => ⟨⟨(ad, cn, In, Fn, (([(bo, .inr (1, [.ref w, .int (mxI (fun i => fl i * fw i) (SXB f (fun j => c0.testBit j) n0) 20), .int (mxI (fun i => fl i * fa i) (SXB f (fun j => c0.testBit j) n0) 20), .int x3, .int (SXB f (fun j => c0.testBit j) n0), .int (mxI (fun _ => 1) (SXB f (fun j => c0.testBit j) n0) 20), .int (mxI fl (SXB f (fun j => c0.testBit j) n0) 20), .int x7])), (ro, .inl (cI, 12, .inl f))] : va_W) ++ ws)), rfl, ⟨rfl, rfl, rfl, rfl, rfl⟩, by rw [ht]; exact hP, hD⟩, hS.F ht⟩) hS.2.2 dX11_flipTo_58
        ·
          have tc_2 : (((((nI c0) ^^^ ((nI c0) - 1)) >>> ((nI i10) &&& 31)) &&& 1).toInt : Int) ≠ 0 := fun q => c_2 (Int32.toInt_inj.mp q)
          refine lv_aload_n hx hb (oc_42 27 (aq_3 shX11_flipTo_24)) rfl (lvA2 hl) ?_
          refine lv_aload_n hx hb (oc_45 28 (aq_4 shX11_flipTo_24)) rfl (lvA5 hl) ?_
          refine lv_iload hx hb (oc_21 29 (aq_5 shX11_flipTo_24) ub_5) (lvA0 hl) ?_
          refine va_iald hx hb hK.1 hP _ 0 (exr (m := 1) rfl) rfl (vp_in_nI (by omega) (ltb rfl)) (oc_46 31 (aq_7 shX11_flipTo_24)) ?_
          refine lv_topi (fun y_3 ey_3 => ?_)
          obtain rfl : y_3 = (f i10) := ey_3.trans (congrArg f (nI_clamp (by omega)))
          have hch9 : ¬ c0.testBit i10 = (c0 - 1).testBit i10 := fun w9 => absurd ((chg_b hc.1 (by omega)).mpr w9) (by first | assumption | exact fun q => absurd (congrArg Int32.toInt q) (by assumption))
          have hin9 : i10 < n0 := chg_lt hc.1 hc.2.1 hch9
          obtain ⟨z9, hz20, hz11, ez9⟩ := hf i10 hin9
          have tz9 : (nI z9).toInt = (z9 : Int) := nI_toInt (by omega)
          refine lv_topi (fun y_4 ey_4 => ?_)
          obtain rfl : y_4 = (nI z9) := ey_4.trans ez9
          refine va_csq (runV_rxa (As := [.int (nI z9)]) (rest := []) S (q_XloadAt l D cI cB cZ zz qq vv bt g ad cn In Fn (nI z9) hB) kV_RX11_148 hK hXS hS (exP hP) 0 xo_0 rfl rfl ⟨Nat.le_of_ble_eq_true rfl, Nat.le_of_ble_eq_true rfl⟩ ⟨Nat.le_of_ble_eq_true rfl, Nat.le_of_ble_eq_true rfl⟩ rfl hl.1 rfl (Nat.le_of_ble_eq_true rfl) (oc_182 32 (aq_8 shX11_flipTo_24) uw_0_148)) (fun r_5 h_6 => ?_)
          rcases h_6 with ⟨m9, em9, hm9, rfl⟩ | ⟨hm9, rfl⟩
          ·
            obtain rfl : z9 = m9 := (by omega)
            refine lv_astore (lv' := [(6, .ref (ad 11 z9)), (5, .int (nI i10)), (4, .int ((nI c0) ^^^ ((nI c0) - 1))), (0, .ref (g 0)), (1, .ref bo), (2, .int (nI c0)), (3, .ref ro)]) hx hb (oc_58 35 (aq_11 shX11_flipTo_24) ub_6) hl (ltb rfl) rfl (fun ls hl => ?_)
            refine lv_aload hx hb (oc_25 37 (aq_13 shX11_flipTo_24) ub_6) (lvA0 hl) ?_
            refine lv_ifnull hx hb (oc_198 39 (aq_15 shX11_flipTo_24) sgw_0_13) ?_
            refine lv_aload_n hx hb (oc_43 42 (aq_18 shX11_flipTo_24)) rfl (lvA4 hl) ?_
            refine lv_aload_n hx hb (oc_45 43 (aq_19 shX11_flipTo_24)) rfl (lvA6 hl) ?_
            refine lv_iload hx hb (oc_21 44 (aq_20 shX11_flipTo_24) ub_5) (lvA1 hl) ?_
            refine va_iald hx hb hK.1 hP _ 0 (exr (m := 1) rfl) rfl (vp_in_nI (by omega) (ltb rfl)) (oc_46 46 (aq_22 shX11_flipTo_24)) ?_
            refine lv_topi (fun y_7 ey_7 => ?_)
            obtain rfl : y_7 = (f i10) := ey_7.trans (congrArg f (nI_clamp (by omega)))
            refine lv_topi (fun y_8 ey_8 => ?_)
            obtain rfl : y_8 = (nI z9) := ey_8.trans ez9
            refine lv_aload hx hb (oc_25 47 (aq_23 shX11_flipTo_24) ub_6) (lvA0 hl) ?_
            have hFc := free_all hD hS hA
            refine va_callv (runV_xa (As := [.int (nI z9), .ref (ad 11 z9)]) (rest := []) S (q_Eflip l D cI cB cZ zz qq vv bt g ad cn In Fn bo w b10_01 b10_02 x3 b10_04 b10_05 b10_06 x7 (nI z9) z9 (([(ro, .inl (cI, 12, .inl f))] : va_W) ++ ws) H.size hB (by omega)) kV_RX11_358 hK hXS hS hFc hP hD _ (exr (m := 0) rfl) rfl rfl ⟨Nat.le_of_ble_eq_true rfl, Nat.le_of_ble_eq_true rfl⟩ ⟨Nat.le_of_ble_eq_true rfl, Nat.le_of_ble_eq_true rfl⟩ rfl hl.1 rfl (Nat.le_of_ble_eq_true rfl) (oc_182 49 shX11_flipTo_49 uw_1_102)) hS (fun q _ h => hFc q h) hFc (fun u8 t H1 locs ht hvm h8 hB1 hz1 hk1 hS => ?_)
            obtain ⟨hP1, hD1⟩ := hB1
            rw [ht] at hP1
            obtain ⟨a8, c8, I8, F8, W8⟩ := u8
            obtain ⟨rfl, rfl, rfl, rfl, sg8, hsg8, rfl⟩ := h8
            have hP : va_P D vwCl ((wX cI (D.1 99) zz g ad cn In Fn) ++ (([(bo, .inr (1, [.ref w, .int (b10_01 + sg8 * ((Fn 122) z9) * ((Fn 123) z9)), .int (b10_02 + sg8 * ((Fn 122) z9) * ((Fn 124) z9)), .int x3, .int (b10_04 ^^^ 1 <<< ((nI z9) &&& 31)), .int (b10_05 + sg8), .int (b10_06 + sg8 * ((Fn 122) z9)), .int x7])), (ro, .inl (cI, 12, .inl f))] : va_W) ++ ws)) H1 := hP1
            have hD : va_D A ((wX cI (D.1 99) zz g ad cn In Fn) ++ (([(bo, .inr (1, [.ref w, .int (b10_01 + sg8 * ((Fn 122) z9) * ((Fn 123) z9)), .int (b10_02 + sg8 * ((Fn 122) z9) * ((Fn 124) z9)), .int x3, .int (b10_04 ^^^ 1 <<< ((nI z9) &&& 31)), .int (b10_05 + sg8), .int (b10_06 + sg8 * ((Fn 122) z9)), .int x7])), (ro, .inl (cI, 12, .inl f))] : va_W) ++ ws)) := hD1.weaken (fun _ _ _ h => hFc _ h)
            generalize H1 = H at hP hS ⊢
            refine lv_iinc (v := (nI (i10 + 1))) (lv' := [(5, .int (nI (i10 + 1))), (6, .ref (ad 11 z9)), (4, .int ((nI c0) ^^^ ((nI c0) - 1))), (0, .ref (g 0)), (1, .ref bo), (2, .int (nI c0)), (3, .ref ro)]) hx hb (oc_132 52 (aq_3 shX11_flipTo_49) ub_5 sgb_1) hl (k := 1) rfl (nI_1 _) (ltb rfl) rfl (fun ls hl => ?_)
            refine lv_goto (tgt := 10) hx hb (oc_167 55 (aq_6 shX11_flipTo_49) sgw_255_211) rfl ?_
            exact ih10 (i10 + 1) (b10_01 + sg8 * ((Fn 122) z9) * ((Fn 123) z9)) (b10_02 + sg8 * ((Fn 122) z9) * ((Fn 124) z9)) (b10_04 ^^^ 1 <<< ((nI z9) &&& 31)) (b10_05 + sg8) (b10_06 + sg8 * ((Fn 122) z9))  _ _ (by omega) ⟨(by omega), (Fr.mo hfr10 (sbl rfl) (sbl rfl) (sbl rfl)), (SXB_st hx10_0 hin9 ez9), ⟨mxI_20m hx10_1.1 (by rw [h122, h123]) hz20 hsg8, mxI_20m hx10_1.2.1 (by rw [h122, h124]) hz20 hsg8, mxI_201 hx10_1.2.2.1 hz20 hsg8, mxI_20l hx10_1.2.2.2 (by rw [h122]) hz20 hsg8⟩, (fun j hj => if q9 : j < i10 then hx10_2 j q9 else (by rw [show j = i10 by omega]; exact hch9))⟩ hP hD hS ls (lv_sub hl [0, 2, 3, 4, 5, 6] rfl)
          ·
            exfalso; omega
  exact lp_10 _ 0 x1 x2 x4 x5 x6  _ _ (Nat.lt_succ_self _) ⟨(by omega), (Fr.mo Fr.rf (sbl rfl) (sbl rfl) (sbl rfl)), (hx4.trans SXB_s), hxx, (fun j hj => absurd hj (Nat.not_lt_zero j))⟩ hP hD hS ls (lv_sub hl [0, 1, 2, 3, 4, 5] rfl)
set_option maxRecDepth 100000 in
set_option maxHeartbeats 4000000 in
theorem q_Wbroken7 (l : Launch) (D : va_G) (cI cB cZ : ClassId) (zz qq vv : Nat) (bt : Nat → Int32) (g : Nat → Nat) (ad : Nat → Nat → Nat) (cn : Nat → Nat) (In : Nat → Int32) (Fn : Nat → Nat → Int32) (bo w : Nat) (x1 x2 x3 x4 x5 x6 x7 : Int32) (o : OutT) (cl : ClsT) (ws : va_W) (sz : Nat) (hB : CBX cn) (hT : (∀ k : Nat, k < cn 10 → ad 3 k < cn 6) ∧ ad 4 0 < cn 6 ∧ ad 4 1 < cn 6) (hbt : BTL bt) (hX : XTy (ad 4 0) Fn 108 o cl) : Met l yX11_brokenClause (CWS yX11_brokenClause cX11_brokenClause 2 (some .int)) (RM 5 0 0) (PBx [.ref (g 0), .ref bo] D cI cB cZ zz qq vv bt ((wX cI (D.1 99) zz g ad cn In Fn) ++ (([(bo, .inr (1, [.ref w, .int x1, .int x2, .int x3, .int x4, .int x5, .int x6, .int x7]))] : va_W) ++ ws)) sz) (va_Qi (fun (r : Int32) (u : (Nat → Nat → Nat) × (Nat → Nat) × (Nat → Int32) × (Nat → Nat → Int32)) => (fun r a2 c2 I2 F2 => ad = a2 ∧ cn = c2 ∧ In = I2 ∧ (∀ k, k ∉ [7, 196, 197, 305] → F2 k = Fn k) ∧ FTX o (cut (upd (upd (upd (upd (Fn 7) 0 x6) 1 (if x6 = 0 then 0 else x1 / x6)) 2 (if x6 = 0 then 0 else x2 / x6)) 10 x5)) cl 0 r ∧ F2 7 = (upd (upd (upd (upd (Fn 7) 0 x6) 1 (if x6 = 0 then 0 else x1 / x6)) 2 (if x6 = 0 then 0 else x2 / x6)) 10 x5)) r u.1 u.2.1 u.2.2.1 u.2.2.2) (fun (u : (Nat → Nat → Nat) × (Nat → Nat) × (Nat → Int32) × (Nat → Nat → Int32)) (t : State) => va_P D vwCl ((wX cI (D.1 99) zz g u.1 u.2.1 u.2.2.1 u.2.2.2) ++ (([(bo, .inr (1, [.ref w, .int x1, .int x2, .int x3, .int x4, .int x5, .int x6, .int x7]))] : va_W) ++ ws)) t.heap ∧ va_D (va_A ((wX cI (D.1 99) zz g ad cn In Fn) ++ (([(bo, .inr (1, [.ref w, .int x1, .int x2, .int x3, .int x4, .int x5, .int x6, .int x7]))] : va_W) ++ ws)) sz) ((wX cI (D.1 99) zz g u.1 u.2.1 u.2.2.1 u.2.2.2) ++ (([(bo, .inr (1, [.ref w, .int x1, .int x2, .int x3, .int x4, .int x5, .int x6, .int x7]))] : va_W) ++ ws))) (va_A ((wX cI (D.1 99) zz g ad cn In Fn) ++ (([(bo, .inr (1, [.ref w, .int x1, .int x2, .int x3, .int x4, .int x5, .int x6, .int x7]))] : va_W) ++ ws)) sz)) 0 0 (va_A ((wX cI (D.1 99) zz g ad cn In Fn) ++ (([(bo, .inr (1, [.ref w, .int x1, .int x2, .int x3, .int x4, .int x5, .int x6, .int x7]))] : va_W) ++ ws)) sz) := by
  refine en_x (fun A => (va_Qi (fun (r : Int32) (u : (Nat → Nat → Nat) × (Nat → Nat) × (Nat → Int32) × (Nat → Nat → Int32)) => (fun (r : Int32) (a2 : Nat → Nat → Nat) (c2 : Nat → Nat) (I2 : Nat → Int32) (F2 : Nat → Nat → Int32) => ad = a2 ∧ cn = c2 ∧ In = I2 ∧ (∀ k, k ∉ [7, 196, 197, 305] → F2 k = Fn k) ∧ FTX o (cut (upd (upd (upd (upd (Fn 7) 0 x6) 1 (if x6 = 0 then 0 else x1 / x6)) 2 (if x6 = 0 then 0 else x2 / x6)) 10 x5)) cl 0 r ∧ F2 7 = (upd (upd (upd (upd (Fn 7) 0 x6) 1 (if x6 = 0 then 0 else x1 / x6)) 2 (if x6 = 0 then 0 else x2 / x6)) 10 x5)) r u.1 u.2.1 u.2.2.1 u.2.2.2) (fun (u : (Nat → Nat → Nat) × (Nat → Nat) × (Nat → Int32) × (Nat → Nat → Int32)) (t : State) => va_P D vwCl ((wX cI (D.1 99) zz g u.1 u.2.1 u.2.2.1 u.2.2.2) ++ (([(bo, .inr (1, [.ref w, .int x1, .int x2, .int x3, .int x4, .int x5, .int x6, .int x7]))] : va_W) ++ ws)) t.heap ∧ va_D A ((wX cI (D.1 99) zz g u.1 u.2.1 u.2.2.1 u.2.2.2) ++ (([(bo, .inr (1, [.ref w, .int x1, .int x2, .int x3, .int x4, .int x5, .int x6, .int x7]))] : va_W) ++ ws))) A)) rfl rfl pn_RX11 (Nat.le_of_ble_eq_true rfl) (fun p e s m below meth c A hx hb hml hown S hr hlocks hnm hA hP hK hD hXS hS ls hl => ?_)
  have hl : lv_has ls 2 [(0, .ref (g 0)), (1, .ref bo)] := hl
  refine lv_aload_n hx hb (oc_42 0 shX11_brokenClause_0) rfl (lvA0 hl) ?_
  refine lv_bipush (v := 113) hx hb (oc_16 1 (aq_1 shX11_brokenClause_0) sgb_113) kbc_113 ?_
  refine lv_aload_n hx hb (oc_43 3 (aq_3 shX11_brokenClause_0)) rfl (lvA1 hl) ?_
  refine gf_RX11_342 S hK hP _ (exr (m := 0) rfl) (v := .int x6) rfl (oc_180 4 (aq_4 shX11_brokenClause_0) uw_1_86) ?_
  have hFc := free_all (exD hD) hS hA
  refine va_callv (runV_xa (As := [.int 113, .int x6]) (rest := []) S (q_Wletter l D cI cB cZ zz qq vv bt g ad cn In Fn 113 x6 0 s.heap.size hB hbt (by decide) (by decide)) kV_RX11_188 hK hXS hS hFc (exP hP) (exD hD) 0 xo_0 rfl rfl ⟨Nat.le_of_ble_eq_true rfl, Nat.le_of_ble_eq_true rfl⟩ ⟨Nat.le_of_ble_eq_true rfl, Nat.le_of_ble_eq_true rfl⟩ rfl hl.1 rfl (Nat.le_of_ble_eq_true rfl) (oc_182 7 (aq_7 shX11_brokenClause_0) uw_0_188)) hS (fun q _ h => hFc q h) hFc (fun u t H1 locs ht hvm wh_2 hB1 hz1 hk1 hS => ?_)
  obtain ⟨cn2, In2, Fn2⟩ := u
  obtain ⟨hP1, hD1⟩ := hB1
  rw [ht] at hP1
  obtain ⟨hP, hD⟩ := exjoinL hP hD hk1 hFc hP1 hD1
  have hP : va_P D vwCl ((wX cI (D.1 99) zz g ad cn2 In2 Fn2) ++ (([(bo, .inr (1, [.ref w, .int x1, .int x2, .int x3, .int x4, .int x5, .int x6, .int x7]))] : va_W) ++ ws)) H1 := hP
  have hD : va_D A ((wX cI (D.1 99) zz g ad cn2 In2 Fn2) ++ (([(bo, .inr (1, [.ref w, .int x1, .int x2, .int x3, .int x4, .int x5, .int x6, .int x7]))] : va_W) ++ ws)) := hD
  generalize H1 = H at hP hS ⊢
  have vh_2 : (fun c2 I2 F2 => Fr [] [] [7] cn In Fn c2 I2 F2 ∧ CBX c2 ∧ (F2 7 = upd ((Fn 7)) 0 x6)) cn2 In2 Fn2 := wh_2
  obtain ⟨hfc2, hIn2, h_2⟩ := vh_2
  obtain rfl : cn = cn2 := (funext (fun k => hfc2.1 k List.not_mem_nil)).symm
  obtain rfl : In = In2 := (funext (fun k => hfc2.2.1 k List.not_mem_nil)).symm
  have hf2 : Fr [] [] [7, 196, 197, 305] cn In Fn cn In Fn2 := Fr.mo (Fr.tr (Fr.rf (cn := cn) (In := In) (Fn := Fn)) hfc2) (sbl rfl) (sbl rfl) (sbl rfl)
  refine lv_aload_n hx hb (oc_42 10 (aq_10 shX11_brokenClause_0)) rfl (lvA0 hl) ?_
  refine lv_bipush (v := 102) hx hb (oc_16 11 (aq_11 shX11_brokenClause_0) sgb_102) kbc_102 ?_
  refine lv_aload_n hx hb (oc_43 13 (aq_13 shX11_brokenClause_0)) rfl (lvA1 hl) ?_
  refine vp_callSi (runV_r (As := []) (rest := [.int 102, .ref (g 0)]) S (q_l_water l D cI cB cZ bo w x1 x2 x3 x4 x5 x6 x7) kV_RX11_343 hK hP _ (one_is (exr (m := 0) rfl)) _ (exr (m := 0) rfl) rfl rfl ⟨Nat.le_of_ble_eq_true rfl, Nat.le_of_ble_eq_true rfl⟩ ⟨Nat.le_of_ble_eq_true rfl, Nat.le_of_ble_eq_true rfl⟩ rfl hl.1 rfl (Nat.le_of_ble_eq_true rfl) (oc_182 14 (aq_14 shX11_brokenClause_0) uw_1_87)) (fun r_3 h_4 => ?_)
  subst h_4
  have hFc := free_all (exD hD) hS hA
  refine va_callv (runV_xa (As := [.int 102, .int (if x6 = 0 then 0 else x1 / x6)]) (rest := []) S (q_Wletter l D cI cB cZ zz qq vv bt g ad cn In Fn2 102 (if x6 = 0 then 0 else x1 / x6) 1 H.size hIn2 hbt (by decide) (by decide)) kV_RX11_188 hK hXS hS hFc (exP hP) (exD hD) 0 xo_0 rfl rfl ⟨Nat.le_of_ble_eq_true rfl, Nat.le_of_ble_eq_true rfl⟩ ⟨Nat.le_of_ble_eq_true rfl, Nat.le_of_ble_eq_true rfl⟩ rfl hl.1 rfl (Nat.le_of_ble_eq_true rfl) (oc_182 17 (aq_17 shX11_brokenClause_0) uw_0_188)) hS (fun q _ h => hFc q h) hFc (fun u t H1 locs ht hvm wh_6 hB1 hz1 hk1 hS => ?_)
  obtain ⟨cn6, In6, Fn6⟩ := u
  obtain ⟨hP1, hD1⟩ := hB1
  rw [ht] at hP1
  obtain ⟨hP, hD⟩ := exjoinL hP hD hk1 hFc hP1 hD1
  have hP : va_P D vwCl ((wX cI (D.1 99) zz g ad cn6 In6 Fn6) ++ (([(bo, .inr (1, [.ref w, .int x1, .int x2, .int x3, .int x4, .int x5, .int x6, .int x7]))] : va_W) ++ ws)) H1 := hP
  have hD : va_D A ((wX cI (D.1 99) zz g ad cn6 In6 Fn6) ++ (([(bo, .inr (1, [.ref w, .int x1, .int x2, .int x3, .int x4, .int x5, .int x6, .int x7]))] : va_W) ++ ws)) := hD
  generalize H1 = H at hP hS ⊢
  have vh_6 : (fun c2 I2 F2 => Fr [] [] [7] cn In Fn2 c2 I2 F2 ∧ CBX c2 ∧ (F2 7 = upd ((Fn2 7)) 1 (if x6 = 0 then 0 else x1 / x6))) cn6 In6 Fn6 := wh_6
  obtain ⟨hfc6, hIn6, h_6⟩ := vh_6
  obtain rfl : cn = cn6 := (funext (fun k => hfc6.1 k List.not_mem_nil)).symm
  obtain rfl : In = In6 := (funext (fun k => hfc6.2.1 k List.not_mem_nil)).symm
  have hf6 : Fr [] [] [7, 196, 197, 305] cn In Fn cn In Fn6 := Fr.mo (Fr.tr hf2 hfc6) (sbl rfl) (sbl rfl) (sbl rfl)
  rw [h_2] at h_6
  refine lv_aload_n hx hb (oc_42 20 (aq_20 shX11_brokenClause_0)) rfl (lvA0 hl) ?_
  refine lv_bipush (v := 97) hx hb (oc_16 21 (aq_21 shX11_brokenClause_0) sgb_97) kbc_97 ?_
  refine lv_aload_n hx hb (oc_43 23 (aq_23 shX11_brokenClause_0)) rfl (lvA1 hl) ?_
  refine vp_callSi (runV_r (As := []) (rest := [.int 97, .ref (g 0)]) S (q_l_acid l D cI cB cZ bo w x1 x2 x3 x4 x5 x6 x7) kV_RX11_345 hK hP _ (one_is (exr (m := 0) rfl)) _ (exr (m := 0) rfl) rfl rfl ⟨Nat.le_of_ble_eq_true rfl, Nat.le_of_ble_eq_true rfl⟩ ⟨Nat.le_of_ble_eq_true rfl, Nat.le_of_ble_eq_true rfl⟩ rfl hl.1 rfl (Nat.le_of_ble_eq_true rfl) (oc_182 24 shX11_brokenClause_24 uw_1_89)) (fun r_7 h_8 => ?_)
  subst h_8
  have hFc := free_all (exD hD) hS hA
  refine va_callv (runV_xa (As := [.int 97, .int (if x6 = 0 then 0 else x2 / x6)]) (rest := []) S (q_Wletter l D cI cB cZ zz qq vv bt g ad cn In Fn6 97 (if x6 = 0 then 0 else x2 / x6) 2 H.size hIn6 hbt (by decide) (by decide)) kV_RX11_188 hK hXS hS hFc (exP hP) (exD hD) 0 xo_0 rfl rfl ⟨Nat.le_of_ble_eq_true rfl, Nat.le_of_ble_eq_true rfl⟩ ⟨Nat.le_of_ble_eq_true rfl, Nat.le_of_ble_eq_true rfl⟩ rfl hl.1 rfl (Nat.le_of_ble_eq_true rfl) (oc_182 27 (aq_3 shX11_brokenClause_24) uw_0_188)) hS (fun q _ h => hFc q h) hFc (fun u t H1 locs ht hvm wh_10 hB1 hz1 hk1 hS => ?_)
  obtain ⟨cn10, In10, Fn10⟩ := u
  obtain ⟨hP1, hD1⟩ := hB1
  rw [ht] at hP1
  obtain ⟨hP, hD⟩ := exjoinL hP hD hk1 hFc hP1 hD1
  have hP : va_P D vwCl ((wX cI (D.1 99) zz g ad cn10 In10 Fn10) ++ (([(bo, .inr (1, [.ref w, .int x1, .int x2, .int x3, .int x4, .int x5, .int x6, .int x7]))] : va_W) ++ ws)) H1 := hP
  have hD : va_D A ((wX cI (D.1 99) zz g ad cn10 In10 Fn10) ++ (([(bo, .inr (1, [.ref w, .int x1, .int x2, .int x3, .int x4, .int x5, .int x6, .int x7]))] : va_W) ++ ws)) := hD
  generalize H1 = H at hP hS ⊢
  have vh_10 : (fun c2 I2 F2 => Fr [] [] [7] cn In Fn6 c2 I2 F2 ∧ CBX c2 ∧ (F2 7 = upd ((Fn6 7)) 2 (if x6 = 0 then 0 else x2 / x6))) cn10 In10 Fn10 := wh_10
  obtain ⟨hfc10, hIn10, h_10⟩ := vh_10
  obtain rfl : cn = cn10 := (funext (fun k => hfc10.1 k List.not_mem_nil)).symm
  obtain rfl : In = In10 := (funext (fun k => hfc10.2.1 k List.not_mem_nil)).symm
  have hf10 : Fr [] [] [7, 196, 197, 305] cn In Fn cn In Fn10 := Fr.mo (Fr.tr hf6 hfc10) (sbl rfl) (sbl rfl) (sbl rfl)
  rw [h_6] at h_10
  refine lv_aload_n hx hb (oc_42 30 (aq_6 shX11_brokenClause_24)) rfl (lvA0 hl) ?_
  refine lv_bipush (v := 110) hx hb (oc_16 31 (aq_7 shX11_brokenClause_24) sgb_110) kbc_110 ?_
  refine lv_aload_n hx hb (oc_43 33 (aq_9 shX11_brokenClause_24)) rfl (lvA1 hl) ?_
  refine gf_RX11_347 S hK hP _ (exr (m := 0) rfl) (v := .int x5) rfl (oc_180 34 (aq_10 shX11_brokenClause_24) uw_1_91) ?_
  have hFc := free_all (exD hD) hS hA
  refine va_callv (runV_xa (As := [.int 110, .int x5]) (rest := []) S (q_Wletter l D cI cB cZ zz qq vv bt g ad cn In Fn10 110 x5 10 H.size hIn10 hbt (by decide) (by decide)) kV_RX11_188 hK hXS hS hFc (exP hP) (exD hD) 0 xo_0 rfl rfl ⟨Nat.le_of_ble_eq_true rfl, Nat.le_of_ble_eq_true rfl⟩ ⟨Nat.le_of_ble_eq_true rfl, Nat.le_of_ble_eq_true rfl⟩ rfl hl.1 rfl (Nat.le_of_ble_eq_true rfl) (oc_182 37 (aq_13 shX11_brokenClause_24) uw_0_188)) hS (fun q _ h => hFc q h) hFc (fun u t H1 locs ht hvm wh_12 hB1 hz1 hk1 hS => ?_)
  obtain ⟨cn12, In12, Fn12⟩ := u
  obtain ⟨hP1, hD1⟩ := hB1
  rw [ht] at hP1
  obtain ⟨hP, hD⟩ := exjoinL hP hD hk1 hFc hP1 hD1
  have hP : va_P D vwCl ((wX cI (D.1 99) zz g ad cn12 In12 Fn12) ++ (([(bo, .inr (1, [.ref w, .int x1, .int x2, .int x3, .int x4, .int x5, .int x6, .int x7]))] : va_W) ++ ws)) H1 := hP
  have hD : va_D A ((wX cI (D.1 99) zz g ad cn12 In12 Fn12) ++ (([(bo, .inr (1, [.ref w, .int x1, .int x2, .int x3, .int x4, .int x5, .int x6, .int x7]))] : va_W) ++ ws)) := hD
  generalize H1 = H at hP hS ⊢
  have vh_12 : (fun c2 I2 F2 => Fr [] [] [7] cn In Fn10 c2 I2 F2 ∧ CBX c2 ∧ (F2 7 = upd ((Fn10 7)) 10 x5)) cn12 In12 Fn12 := wh_12
  obtain ⟨hfc12, hIn12, h_12⟩ := vh_12
  obtain rfl : cn = cn12 := (funext (fun k => hfc12.1 k List.not_mem_nil)).symm
  obtain rfl : In = In12 := (funext (fun k => hfc12.2.1 k List.not_mem_nil)).symm
  have hf12 : Fr [] [] [7, 196, 197, 305] cn In Fn cn In Fn12 := Fr.mo (Fr.tr hf10 hfc12) (sbl rfl) (sbl rfl) (sbl rfl)
  rw [h_10] at h_12
  refine lv_aload_n hx hb (oc_42 40 (aq_16 shX11_brokenClause_24)) rfl (lvA0 hl) ?_
  refine gf_RX11_12 S hK hP _ (exl xo_0) (v := .ref (ad 5 (ad 4 0))) rfl (oc_180 41 (aq_17 shX11_brokenClause_24) uw_0_12) ?_
  refine lv_iconst (v := 0) hx hb (oc_3 44 (aq_20 shX11_brokenClause_24)) kic_0 ?_
  refine lv_aload_n hx hb (oc_42 45 (aq_21 shX11_brokenClause_24)) rfl (lvA0 hl) ?_
  refine gf_RX11_40 S hK hP _ (exl xo_0) (v := .ref (g 7)) rfl (oc_180 46 (aq_22 shX11_brokenClause_24) uw_0_40) ?_
  have hFc := free_all (exD hD) hS hA
  refine va_calli (runV_xa (As := [.int 0, .ref (g 7)]) (rest := []) S (q_WfirstThat l D cI cB cZ zz qq vv bt g ad cn In Fn12 (ad 4 0) 0 108 o cl H.size hIn12 hT.2.1 (hX.cg (hf12.2.2 195 (nml rfl)) (hf12.2.2 301 (nml rfl)) (hf12.2.2 198 (nml rfl)) (hf12.2.2 302 (nml rfl)) (hf12.2.2 303 (nml rfl)) (hf12.2.2 304 (nml rfl)) (hf12.2.2 199 (nml rfl)))) kV_RX11_218 hK hXS hS hFc (exP hP) (exD hD) _ (xf_7 hT.2.1) rfl rfl ⟨Nat.le_of_ble_eq_true rfl, Nat.le_of_ble_eq_true rfl⟩ ⟨Nat.le_of_ble_eq_true rfl, Nat.le_of_ble_eq_true rfl⟩ rfl hl.1 rfl (Nat.le_of_ble_eq_true rfl) (oc_182 49 shX11_brokenClause_49 uw_0_218)) hS (fun q _ h => hFc q h) hFc (fun r_13 u t H1 locs ht hvm wh_14 hB1 hz1 hk1 hS => ?_)
  obtain ⟨cn14, In14, Fn14⟩ := u
  obtain ⟨hP1, hD1⟩ := hB1
  rw [ht] at hP1
  obtain ⟨hP, hD⟩ := exjoinL hP hD hk1 hFc hP1 hD1
  have hP : va_P D vwCl ((wX cI (D.1 99) zz g ad cn14 In14 Fn14) ++ (([(bo, .inr (1, [.ref w, .int x1, .int x2, .int x3, .int x4, .int x5, .int x6, .int x7]))] : va_W) ++ ws)) H1 := hP
  have hD : va_D A ((wX cI (D.1 99) zz g ad cn14 In14 Fn14) ++ (([(bo, .inr (1, [.ref w, .int x1, .int x2, .int x3, .int x4, .int x5, .int x6, .int x7]))] : va_W) ++ ws)) := hD
  generalize H1 = H at hP hS ⊢
  have vh_14 : (fun r c2 I2 F2 => Fr [] [] [196, 197, 305] cn In Fn12 c2 I2 F2 ∧ CBX c2 ∧ (FTX o (cut ((Fn12 7))) cl 0 r)) r_13 cn14 In14 Fn14 := wh_14
  obtain ⟨hfc14, hIn14, h_14⟩ := vh_14
  obtain rfl : cn = cn14 := (funext (fun k => hfc14.1 k List.not_mem_nil)).symm
  obtain rfl : In = In14 := (funext (fun k => hfc14.2.1 k List.not_mem_nil)).symm
  have hf14 : Fr [] [] [7, 196, 197, 305] cn In Fn cn In Fn14 := Fr.mo (Fr.tr hf12 hfc14) (sbl rfl) (sbl rfl) (sbl rfl)
  rw [h_12] at h_14
  exact W.iret (v := r_13) hx hb hr (fun t ht hW => ⟨⟨r_13, (ad, cn, In, Fn14), rfl, ⟨rfl, rfl, rfl, (show Fr [] [] [7, 196, 197, 305] cn In Fn cn In Fn14 from (Fr.mo hf14 (sbl rfl) (sbl rfl) (sbl rfl))).2.2, h_14, (hfc14.2.2 7 (nml rfl)).trans h_12⟩, by rw [ht]; exact hP, hD⟩, hS.F ht⟩) hS.2.2 (oc_172 52 (aq_3 shX11_brokenClause_49))
set_option maxRecDepth 100000 in
set_option maxHeartbeats 4000000 in
theorem q_Vblend (l : Launch) (D : va_G) (cI cB cZ : ClassId) (zz qq vv : Nat) (bt : Nat → Int32) (g : Nat → Nat) (ad : Nat → Nat → Nat) (cn : Nat → Nat) (In : Nat → Int32) (Fn : Nat → Nat → Int32) (o : OutT) (cl : ClsT) (sz : Nat) (hB : CBX cn) (hT : (∀ k : Nat, k < cn 10 → ad 3 k < cn 6) ∧ ad 4 0 < cn 6 ∧ ad 4 1 < cn 6) (hbt : BTL bt) (hX : XTy (ad 4 0) Fn 108 o cl) : Met l yX11_blend (CWS yX11_blend cX11_blend 9 (some .int)) (RM 7 3 32) (PBx [.ref (g 0)] D cI cB cZ zz qq vv bt (wX cI (D.1 99) zz g ad cn In Fn) sz) (va_Qi (fun (r : Int32) (u : (Nat → Nat → Nat) × (Nat → Nat) × (Nat → Int32) × (Nat → Nat → Int32)) => (fun r a2 c2 I2 F2 => ad = a2 ∧ cn = c2 ∧ In = I2 ∧ (∀ k, k ∉ [7, 196, 197, 305] → F2 k = Fn k) ∧ ∃ (l : List Nat) (f : Nat → Int32), GL (fun k9 => k9 < cn 11 ∧ Fn 129 k9 = 0 ∧ (Fn 125 k9).toInt ≤ (cn 0 : Int)) 20 l ∧ RWL f l ∧ BLR (fun c => SXB f (fun j => c.testBit j) l.length) (BTR (Fn 122)) (fun s9 => FTX o (cut (mxL (Fn 122) (Fn 123) (Fn 124) (Fn 20) s9 (cn 0))) cl 0 (-1)) (2 ^ l.length - 1) r) r u.1 u.2.1 u.2.2.1 u.2.2.2) (fun (u : (Nat → Nat → Nat) × (Nat → Nat) × (Nat → Int32) × (Nat → Nat → Int32)) (t : State) => va_P D vwCl (wX cI (D.1 99) zz g u.1 u.2.1 u.2.2.1 u.2.2.2) t.heap ∧ va_D (va_A (wX cI (D.1 99) zz g ad cn In Fn) sz) (wX cI (D.1 99) zz g u.1 u.2.1 u.2.2.1 u.2.2.2)) (va_A (wX cI (D.1 99) zz g ad cn In Fn) sz)) 3 32 (va_A (wX cI (D.1 99) zz g ad cn In Fn) sz) := by
  refine en_x (fun A => (va_Qi (fun (r : Int32) (u : (Nat → Nat → Nat) × (Nat → Nat) × (Nat → Int32) × (Nat → Nat → Int32)) => (fun (r : Int32) (a2 : Nat → Nat → Nat) (c2 : Nat → Nat) (I2 : Nat → Int32) (F2 : Nat → Nat → Int32) => ad = a2 ∧ cn = c2 ∧ In = I2 ∧ (∀ k, k ∉ [7, 196, 197, 305] → F2 k = Fn k) ∧ ∃ (l : List Nat) (f : Nat → Int32), GL (fun k9 => k9 < cn 11 ∧ Fn 129 k9 = 0 ∧ (Fn 125 k9).toInt ≤ (cn 0 : Int)) 20 l ∧ RWL f l ∧ BLR (fun c => SXB f (fun j => c.testBit j) l.length) (BTR (Fn 122)) (fun s9 => FTX o (cut (mxL (Fn 122) (Fn 123) (Fn 124) (Fn 20) s9 (cn 0))) cl 0 (-1)) (2 ^ l.length - 1) r) r u.1 u.2.1 u.2.2.1 u.2.2.2) (fun (u : (Nat → Nat → Nat) × (Nat → Nat) × (Nat → Int32) × (Nat → Nat → Int32)) (t : State) => va_P D vwCl (wX cI (D.1 99) zz g u.1 u.2.1 u.2.2.1 u.2.2.2) t.heap ∧ va_D A (wX cI (D.1 99) zz g u.1 u.2.1 u.2.2.1 u.2.2.2)) A)) rfl rfl pn_RX11 (Nat.le_of_ble_eq_true rfl) (fun p e s m below meth c A hx hb hml hown S hr hlocks hnm hA hP hK hD hXS hS ls hl => ?_)
  have hl : lv_has ls 9 [(0, .ref (g 0))] := hl
  refine lv_bipush (v := 12) hx hb (oc_16 0 shX11_blend_0 sgb_12) kbc_12 ?_
  refine newa_int S hK hP hD hS hA (N' := 12) (by decide) (by decide) (Nat.le_of_ble_eq_true rfl) (Nat.le_of_ble_eq_true rfl) (Nat.le_of_ble_eq_true rfl) (oc_188_10 2 (aq_2 shX11_blend_0)) (fun q2 H hP hD hS => ?_)
  have hP : va_P D vwCl ((wX cI (D.1 99) zz g ad cn In Fn) ++ ([(q2, .inl (cI, 12, .inl (fun _ => 0)))] : va_W)) H := hP
  have hD : va_D A ((wX cI (D.1 99) zz g ad cn In Fn) ++ ([(q2, .inl (cI, 12, .inl (fun _ => 0)))] : va_W)) := hD
  refine lv_astore_n (lv' := [(1, .ref q2), (0, .ref (g 0))]) hx hb (oc_76 4 (aq_4 shX11_blend_0)) rfl hl (ltb rfl) rfl (fun ls hl => ?_)
  refine lv_aload_n hx hb (oc_42 5 (aq_5 shX11_blend_0)) rfl (lvA1 hl) ?_
  refine lv_aload_n hx hb (oc_43 6 (aq_6 shX11_blend_0)) rfl (lvA0 hl) ?_
  have hFc := free_all hD hS hA
  refine va_calli (runV_xa (As := [.ref q2]) (rest := []) S (q_WgatherB l D cI cB cZ zz qq vv bt g ad cn In Fn q2 (fun _ => 0) H.size hB) kV_RX11_391 hK hXS hS hFc hP hD _ (exl xo_0) rfl rfl ⟨Nat.le_of_ble_eq_true rfl, Nat.le_of_ble_eq_true rfl⟩ ⟨Nat.le_of_ble_eq_true rfl, Nat.le_of_ble_eq_true rfl⟩ rfl hl.1 rfl (Nat.le_of_ble_eq_true rfl) (oc_182 7 (aq_7 shX11_blend_0) uw_1_135)) hS (fun q _ h => hFc q h) hFc (fun r0 u0 t H1 locs ht hvm h0 hB1 hz1 hk1 hS => ?_)
  obtain ⟨hP1, hD1⟩ := hB1
  rw [ht] at hP1
  obtain ⟨a0, c0, I0, F0, W0⟩ := u0
  obtain ⟨rfl, rfl, rfl, rfl, lg9, fg9, hr0, hgg9, hwg9, rfl⟩ := h0
  subst hr0
  have hl12 := GL.len 20 lg9 hgg9
  have h2p := p2b (n := lg9.length) (by omega)
  have hP : va_P D vwCl ((wX cI (D.1 99) zz g ad cn In Fn) ++ ([(q2, .inl (cI, 12, .inl fg9))] : va_W)) H1 := hP1
  have hD : va_D A ((wX cI (D.1 99) zz g ad cn In Fn) ++ ([(q2, .inl (cI, 12, .inl fg9))] : va_W)) := hD1.weaken (fun _ _ _ h => hFc _ h)
  generalize H1 = H at hP hS ⊢
  refine lv_istore_n (lv' := [(2, .int (nI lg9.length)), (1, .ref q2), (0, .ref (g 0))]) hx hb (oc_61 10 (aq_10 shX11_blend_0)) rfl hl (ltb rfl) rfl (fun ls hl => ?_)
  refine lv_aload_n hx hb (oc_42 11 (aq_11 shX11_blend_0)) rfl (lvA2 hl) ?_
  have hFc := free_all (exD hD) hS hA
  refine va_callv (runV_xa (As := []) (rest := []) S (q_WlettersOfLaw l D cI cB cZ zz qq vv bt g ad cn In Fn  H.size hB hbt) kV_RX11_367 hK hXS hS hFc (exP hP) (exD hD) 0 xo_0 rfl rfl ⟨Nat.le_of_ble_eq_true rfl, Nat.le_of_ble_eq_true rfl⟩ ⟨Nat.le_of_ble_eq_true rfl, Nat.le_of_ble_eq_true rfl⟩ rfl hl.1 rfl (Nat.le_of_ble_eq_true rfl) (oc_182 12 (aq_12 shX11_blend_0) uw_1_111)) hS (fun q _ h => hFc q h) hFc (fun u t H1 locs ht hvm wh_3 hB1 hz1 hk1 hS => ?_)
  obtain ⟨cn3, In3, Fn3⟩ := u
  obtain ⟨hP1, hD1⟩ := hB1
  rw [ht] at hP1
  obtain ⟨hP, hD⟩ := exjoinL hP hD hk1 hFc hP1 hD1
  have hP : va_P D vwCl ((wX cI (D.1 99) zz g ad cn3 In3 Fn3) ++ ([(q2, .inl (cI, 12, .inl fg9))] : va_W)) H1 := hP
  have hD : va_D A ((wX cI (D.1 99) zz g ad cn3 In3 Fn3) ++ ([(q2, .inl (cI, 12, .inl fg9))] : va_W)) := hD
  generalize H1 = H at hP hS ⊢
  have vh_3 : (fun c2 I2 F2 => Fr [] [] [7] cn In Fn c2 I2 F2 ∧ CBX c2 ∧ (F2 7 = upd (upd (upd (upd (upd (upd (upd ((Fn 7)) 3 (nI ((cn 0)))) 4 (nI ((nI ((cn 0))).toInt.toNat / 7))) 5 (nI ((nI ((cn 0))).toInt.toNat % 7))) 9 ((Fn 20) ((nI ((cn 0))).toInt.toNat / 7))) 6 0) 7 0) 8 0)) cn3 In3 Fn3 := wh_3
  obtain ⟨hfc3, hIn3, h_3⟩ := vh_3
  obtain rfl : cn = cn3 := (funext (fun k => hfc3.1 k List.not_mem_nil)).symm
  obtain rfl : In = In3 := (funext (fun k => hfc3.2.1 k List.not_mem_nil)).symm
  have hf3 : Fr [] [] [7, 196, 197, 305] cn In Fn cn In Fn3 := Fr.mo (Fr.tr (Fr.rf (cn := cn) (In := In) (Fn := Fn)) hfc3) (sbl rfl) (sbl rfl) (sbl rfl)
  refine va_new (ci := 1) (fs := [.null, .int 0, .int 0, .int 0, .int 0, .int 0, .int 0, .int 0]) (C := RX0) (T := TX0) (N := 8) hx hb S.2.2.2.2 hin_RX0 tyX0 tyX0_ok hown (S.2.2.2.2 _ (wk4_17 7 rfl rfl)) (S.2.2.2.2 _ (wk4_17 8 rfl rfl)) (S.2.2.2.2 _ (wk1_1 11 rfl rfl)) hK.1 hP hD hS hA rfl (by decide +kernel) (Nat.le_of_ble_eq_true rfl) (Nat.le_of_ble_eq_true rfl) (oc_187 15 (aq_15 shX11_blend_0) uw_0_95) (fun q15 H hP hD hS => ?_)
  rw [List.append_assoc] at hP hD
  have hP : va_P D vwCl ((wX cI (D.1 99) zz g ad cn In Fn3) ++ ([(q2, .inl (cI, 12, .inl fg9)), (q15, .inr (1, [.null, .int 0, .int 0, .int 0, .int 0, .int 0, .int 0, .int 0]))] : va_W)) H := hP
  have hD : va_D A ((wX cI (D.1 99) zz g ad cn In Fn3) ++ ([(q2, .inl (cI, 12, .inl fg9)), (q15, .inr (1, [.null, .int 0, .int 0, .int 0, .int 0, .int 0, .int 0, .int 0]))] : va_W)) := hD
  refine lv_dup hx hb (oc_89 18 (aq_18 shX11_blend_0)) rfl ?_
  have hP : va_P D vwCl (((wX cI (D.1 99) zz g ad cn In Fn3) ++ ([(q2, .inl (cI, 12, .inl fg9))] : va_W)) ++ ([(q15, .inr (1, [.null, .int 0, .int 0, .int 0, .int 0, .int 0, .int 0, .int 0]))] : va_W)) H := va_P_eq (List.append_assoc _ _ _).symm hP
  have hD : va_D A (((wX cI (D.1 99) zz g ad cn In Fn3) ++ ([(q2, .inl (cI, 12, .inl fg9))] : va_W)) ++ ([(q15, .inr (1, [.null, .int 0, .int 0, .int 0, .int 0, .int 0, .int 0, .int 0]))] : va_W)) := va_D_eq (List.append_assoc _ _ _).symm hD
  have hFc := va_free (wc := [(q15, .inr (1, [.null, .int 0, .int 0, .int 0, .int 0, .int 0, .int 0, .int 0]))]) hD hS hA [_] (one_im (exr (m := 0) rfl))
  refine va_callv (runIN_w (As := []) (rest := [.ref q15]) S (q_l_Batch l D cI cB cZ q15 H.size) hK.2.2.2 ⟨⟨wk4_17 10 rfl rfl, wk1_1 11 rfl rfl, wk4_17 11 rfl rfl⟩, rfl, by decide, by decide, by decide +kernel⟩ hK hP hD [_] (one_is (exr (m := 0) rfl)) (one_im (exr (m := 0) rfl)) rfl ⟨Nat.le_of_ble_eq_true rfl, Nat.le_of_ble_eq_true rfl⟩ ⟨Nat.le_of_ble_eq_true rfl, Nat.le_of_ble_eq_true rfl⟩ rfl hl.1 rfl (Nat.le_of_ble_eq_true rfl) (oc_183 19 (aq_19 shX11_blend_0) uw_1_97)) hS (fun q _ h => hFc q h) hFc (fun u_4 t H1 locs ht hvm h_5 hB1 hz1 hk1 hS => ?_)
  obtain ⟨hP1, hD1⟩ := hB1
  rw [ht] at hP1
  obtain ⟨hP, hD⟩ := exjoin hP hD hk1 hFc hP1 hD1
  generalize H1 = H at hP hS ⊢
  rw [List.append_assoc] at hP hD
  have hP : va_P D vwCl ((wX cI (D.1 99) zz g ad cn In Fn3) ++ ([(q2, .inl (cI, 12, .inl fg9)), (q15, .inr (1, [.ref u_4, .int 0, .int 0, .int 0, .int 0, .int 0, .int 0, .int 0])), (u_4, .inl (cI, 12, .inl (fun _ => 0)))] : va_W)) H := hP
  have hD : va_D A ((wX cI (D.1 99) zz g ad cn In Fn3) ++ ([(q2, .inl (cI, 12, .inl fg9)), (q15, .inr (1, [.ref u_4, .int 0, .int 0, .int 0, .int 0, .int 0, .int 0, .int 0])), (u_4, .inl (cI, 12, .inl (fun _ => 0)))] : va_W)) := hD
  have hP : va_P D vwCl ((wX cI (D.1 99) zz g ad cn In Fn3) ++ ([(q15, .inr (1, [.ref u_4, .int 0, .int 0, .int 0, .int 0, .int 0, .int 0, .int 0])), (q2, .inl (cI, 12, .inl fg9)), (u_4, .inl (cI, 12, .inl (fun _ => 0)))] : va_W)) H := va_P_perm (List.Perm.append_left _ (List.Perm.swap _ _ _)) hP
  have hD : va_D A ((wX cI (D.1 99) zz g ad cn In Fn3) ++ ([(q15, .inr (1, [.ref u_4, .int 0, .int 0, .int 0, .int 0, .int 0, .int 0, .int 0])), (q2, .inl (cI, 12, .inl fg9)), (u_4, .inl (cI, 12, .inl (fun _ => 0)))] : va_W)) := va_D_perm (List.Perm.append_left _ (List.Perm.swap _ _ _)) hD
  refine lv_astore_n (lv' := [(3, .ref q15), (2, .int (nI lg9.length)), (1, .ref q2), (0, .ref (g 0))]) hx hb (oc_78 22 (aq_22 shX11_blend_0)) rfl hl (ltb rfl) rfl (fun ls hl => ?_)
  refine lv_iconst (v := 0) hx hb (oc_3 23 (aq_23 shX11_blend_0)) kic_0 ?_
  refine lv_istore (lv' := [(4, .int 0), (3, .ref q15), (2, .int (nI lg9.length)), (1, .ref q2), (0, .ref (g 0))]) hx hb (oc_54 24 shX11_blend_24 ub_4) hl (ltb rfl) rfl (fun ls hl => ?_)
  refine lv_iconst (v := 0) hx hb (oc_3 26 (aq_2 shX11_blend_24)) kic_0 ?_
  refine lv_istore (lv' := [(5, .int 0), (4, .int 0), (3, .ref q15), (2, .int (nI lg9.length)), (1, .ref q2), (0, .ref (g 0))]) hx hb (oc_54 27 (aq_3 shX11_blend_24) ub_5) hl (ltb rfl) rfl (fun ls hl => ?_)
  refine lv_iconst (v := 0) hx hb (oc_3 29 (aq_5 shX11_blend_24)) kic_0 ?_
  refine lv_istore (lv' := [(6, .int 0), (5, .int 0), (4, .int 0), (3, .ref q15), (2, .int (nI lg9.length)), (1, .ref q2), (0, .ref (g 0))]) hx hb (oc_54 30 (aq_6 shX11_blend_24) ub_6) hl (ltb rfl) rfl (fun ls hl => ?_)
  refine lv_iconst (v := 1) hx hb (oc_4 32 (aq_8 shX11_blend_24)) kic_1 ?_
  refine lv_istore (lv' := [(7, .int 1), (6, .int 0), (5, .int 0), (4, .int 0), (3, .ref q15), (2, .int (nI lg9.length)), (1, .ref q2), (0, .ref (g 0))]) hx hb (oc_54 33 (aq_9 shX11_blend_24) ub_7) hl (ltb rfl) rfl (fun ls hl => ?_)
  have lp_35 : ∀ (n : Nat) (i35 : Nat) (x35_4 : Int32) (x35_5 : Int32) (x35_6 : Int32) (b35_01 : Int32) (b35_02 : Int32) (b35_04 : Int32) (b35_05 : Int32) (b35_06 : Int32) (F35 : Nat → Nat → Int32) (H : Heap) (locs : List Loc) , 2 ^ lg9.length - i35 < n → ((1 ≤ i35 ∧ i35 ≤ 2 ^ lg9.length) ∧ Fr [] [] [7, 196, 197, 305] cn In Fn cn In F35 ∧ (b35_04 = SXB fg9 (fun j => (i35 - 1).testBit j) lg9.length) ∧ (b35_01 = (mxI (fun i => Fn 122 i * Fn 123 i) b35_04 20) ∧ b35_02 = (mxI (fun i => Fn 122 i * Fn 124 i) b35_04 20) ∧ b35_05 = (mxI (fun _ => 1) b35_04 20) ∧ b35_06 = (mxI (Fn 122) b35_04 20)) ∧ (∀ j : Nat, 3 ≤ j → j ≤ 9 → F35 7 j = (upd (upd (upd (upd (upd (upd (upd (Fn 7) 3 (nI (cn 0))) 4 (nI ((nI (cn 0)).toInt.toNat / 7))) 5 (nI ((nI (cn 0)).toInt.toNat % 7))) 9 (Fn 20 ((nI (cn 0)).toInt.toNat / 7))) 6 0) 7 0) 8 0) j) ∧ (BLR (fun c => SXB fg9 (fun j => c.testBit j) lg9.length) (BTR (Fn 122)) (fun s9 => FTX o (cut (mxL (Fn 122) (Fn 123) (Fn 124) (Fn 20) s9 (cn 0))) cl 0 (-1)) (i35 - 1) x35_4) ∧ (x35_4 = 0 ∨ (x35_5 = (mxI (Fn 122) x35_4 20) ∧ x35_6 = (mxI (fun _ => 1) x35_4 20)))) → va_P D vwCl ((wX cI (D.1 99) zz g ad cn In F35) ++ ([(q15, .inr (1, [.ref u_4, .int b35_01, .int b35_02, .int 0, .int b35_04, .int b35_05, .int b35_06, .int 0])), (q2, .inl (cI, 12, .inl fg9)), (u_4, .inl (cI, 12, .inl (fun _ => 0)))] : va_W)) H → va_D A ((wX cI (D.1 99) zz g ad cn In F35) ++ ([(q15, .inr (1, [.ref u_4, .int b35_01, .int b35_02, .int 0, .int b35_04, .int b35_05, .int b35_06, .int 0])), (q2, .inl (cI, 12, .inl fg9)), (u_4, .inl (cI, 12, .inl (fun _ => 0)))] : va_W)) → va_S A s.heap H locs → ∀ ls : Array Slot, lv_has ls 9 [(7, .int (nI i35)), (6, .int x35_6), (5, .int x35_5), (4, .int x35_4), (3, .ref q15), (2, .int (nI lg9.length)), (1, .ref q2), (0, .ref (g 0))] → W p l e (RM 7 3 32) s m ([.ref (g 0)]).toArray below meth c H locs 3 32 (MQ below (va_Qi (fun (r : Int32) (u : (Nat → Nat → Nat) × (Nat → Nat) × (Nat → Int32) × (Nat → Nat → Int32)) => (fun r a2 c2 I2 F2 => ad = a2 ∧ cn = c2 ∧ In = I2 ∧ (∀ k, k ∉ [7, 196, 197, 305] → F2 k = Fn k) ∧ ∃ (l : List Nat) (f : Nat → Int32), GL (fun k9 => k9 < cn 11 ∧ Fn 129 k9 = 0 ∧ (Fn 125 k9).toInt ≤ (cn 0 : Int)) 20 l ∧ RWL f l ∧ BLR (fun c => SXB f (fun j => c.testBit j) l.length) (BTR (Fn 122)) (fun s9 => FTX o (cut (mxL (Fn 122) (Fn 123) (Fn 124) (Fn 20) s9 (cn 0))) cl 0 (-1)) (2 ^ l.length - 1) r) r u.1 u.2.1 u.2.2.1 u.2.2.2) (fun (u : (Nat → Nat → Nat) × (Nat → Nat) × (Nat → Int32) × (Nat → Nat → Int32)) (t : State) => va_P D vwCl (wX cI (D.1 99) zz g u.1 u.2.1 u.2.2.1 u.2.2.2) t.heap ∧ va_D A (wX cI (D.1 99) zz g u.1 u.2.1 u.2.2.1 u.2.2.2)) A) ([.ref (g 0)]).toArray s 3 32 A) (F0 m 35 ls []) := by
    intro n35
    induction n35 with
    | zero => intros; omega
    | succ n35 ih35 =>
      intro i35 x35_4 x35_5 x35_6 b35_01 b35_02 b35_04 b35_05 b35_06 F35 H locs hmu35 hinv35 hP hD hS ls hl
      obtain ⟨hr35, hfr35, hx35_0, hx35_1, hx35_2, hx35_3, hx35_4⟩ := hinv35
      have ti35 : (nI i35).toInt = (i35 : Int) := nI_toInt (by omega)
      refine lv_iload hx hb (oc_21 35 (aq_11 shX11_blend_24) ub_7) (lvA0 hl) ?_
      refine lv_iconst (v := 1) hx hb (oc_4 37 (aq_13 shX11_blend_24)) kic_1 ?_
      refine lv_iload_n hx hb (oc_28 38 (aq_14 shX11_blend_24)) rfl (lvA5 hl) ?_
      refine lv_ishl hx hb (oc_120 39 (aq_15 shX11_blend_24)) ?_
      refine lv_topi (fun y_6 ey_6 => ?_)
      obtain rfl : y_6 = (nI (2 ^ lg9.length)) := ey_6.trans (sh1 (by omega))
      have t2p : (nI (2 ^ lg9.length)).toInt = ((2 ^ lg9.length : Nat) : Int) := nI_toInt (by omega)
      have : (nI (2 ^ lg9.length)).toInt = (((2 ^ lg9.length) : Nat) : Int) := nI_toInt (by omega)
      refine lv_icmp_ge (tgt := 128) hx hb (oc_162 40 (aq_16 shX11_blend_24) sgw_0_88) rfl (fun c_7 => ?_) (fun c_7 => ?_)
      ·
        have tc_7 : ((nI (2 ^ lg9.length)).toInt : Int) ≤ (nI i35).toInt := Int32.le_iff_toInt_le.mp c_7
        refine lv_iload hx hb (oc_21 128 (aq_3 shX11_blend_125) ub_4) (lvA3 hl) ?_
        have hP := exP hP
        have hD := exD hD
        exact W.iret (v := x35_4) hx hb hr (fun t ht hW => ⟨⟨x35_4, (ad, cn, In, F35), rfl, ⟨rfl, rfl, rfl, (show Fr [] [] [7, 196, 197, 305] cn In Fn cn In F35 from (Fr.mo hfr35 (sbl rfl) (sbl rfl) (sbl rfl))).2.2, lg9, fg9, hgg9, hwg9, (by have e9 : i35 = 2 ^ lg9.length := (by omega); rw [← e9]; exact hx35_3)⟩, by rw [ht]; exact hP, hD⟩, hS.F ht⟩) hS.2.2 (oc_172 130 (aq_5 shX11_blend_125))
      ·
        have tc_7 : ((nI i35).toInt : Int) < (nI (2 ^ lg9.length)).toInt := Int32.lt_iff_toInt_lt.mp (Int32.not_le.mp c_7)
        refine lv_aload_n hx hb (oc_42 43 (aq_19 shX11_blend_24)) rfl (lvA7 hl) ?_
        refine lv_aload_n hx hb (oc_45 44 (aq_20 shX11_blend_24)) rfl (lvA4 hl) ?_
        refine lv_iload hx hb (oc_21 45 (aq_21 shX11_blend_24) ub_7) (lvA0 hl) ?_
        refine lv_aload_n hx hb (oc_43 47 (aq_23 shX11_blend_24)) rfl (lvA6 hl) ?_
        have hFc := free_all hD hS hA
        refine va_callv (runV_xa (As := [.ref q15, .int (nI i35), .ref q2]) (rest := []) S (q_WflipTo l D cI cB cZ zz qq vv bt g ad cn In F35 q15 u_4 b35_01 b35_02 0 b35_04 b35_05 b35_06 0 q2 fg9 i35 lg9.length (Fn 122) (Fn 123) (Fn 124) (([(u_4, .inl (cI, 12, .inl (fun _ => 0)))] : va_W)) H.size hIn3 ⟨by omega, by omega, by omega⟩ (fun k hk => by obtain ⟨z, h1, h2, h3⟩ := hgg9.row hwg9 k hk; exact ⟨z, h1, h2.1, h3⟩) hx35_0 hx35_1 (hfr35.2.2 122 (nml rfl)) (hfr35.2.2 123 (nml rfl)) (hfr35.2.2 124 (nml rfl))) kV_RX11_395 hK hXS hS hFc hP hD _ (exl xo_0) rfl rfl ⟨Nat.le_of_ble_eq_true rfl, Nat.le_of_ble_eq_true rfl⟩ ⟨Nat.le_of_ble_eq_true rfl, Nat.le_of_ble_eq_true rfl⟩ rfl hl.1 rfl (Nat.le_of_ble_eq_true rfl) (oc_182 48 shX11_blend_48 uw_1_139)) hS (fun q _ h => hFc q h) hFc (fun u7 t H1 locs ht hvm h7 hB1 hz1 hk1 hS => ?_)
        obtain ⟨hP1, hD1⟩ := hB1
        rw [ht] at hP1
        obtain ⟨a7, c7, I7, F7, W7⟩ := u7
        obtain ⟨rfl, rfl, rfl, rfl, rfl⟩ := h7
        have hP : va_P D vwCl ((wX cI (D.1 99) zz g ad cn In F35) ++ ([(q15, .inr (1, [.ref u_4, .int (mxI (fun i => Fn 122 i * Fn 123 i) (SXB fg9 (fun j => i35.testBit j) lg9.length) 20), .int (mxI (fun i => Fn 122 i * Fn 124 i) (SXB fg9 (fun j => i35.testBit j) lg9.length) 20), .int 0, .int (SXB fg9 (fun j => i35.testBit j) lg9.length), .int (mxI (fun _ => 1) (SXB fg9 (fun j => i35.testBit j) lg9.length) 20), .int (mxI (Fn 122) (SXB fg9 (fun j => i35.testBit j) lg9.length) 20), .int 0])), (q2, .inl (cI, 12, .inl fg9)), (u_4, .inl (cI, 12, .inl (fun _ => 0)))] : va_W)) H1 := hP1
        have hD : va_D A ((wX cI (D.1 99) zz g ad cn In F35) ++ ([(q15, .inr (1, [.ref u_4, .int (mxI (fun i => Fn 122 i * Fn 123 i) (SXB fg9 (fun j => i35.testBit j) lg9.length) 20), .int (mxI (fun i => Fn 122 i * Fn 124 i) (SXB fg9 (fun j => i35.testBit j) lg9.length) 20), .int 0, .int (SXB fg9 (fun j => i35.testBit j) lg9.length), .int (mxI (fun _ => 1) (SXB fg9 (fun j => i35.testBit j) lg9.length) 20), .int (mxI (Fn 122) (SXB fg9 (fun j => i35.testBit j) lg9.length) 20), .int 0])), (q2, .inl (cI, 12, .inl fg9)), (u_4, .inl (cI, 12, .inl (fun _ => 0)))] : va_W)) := hD1.weaken (fun _ _ _ h => hFc _ h)
        generalize H1 = H at hP hS ⊢
        refine lv_iload hx hb (oc_21 51 (aq_3 shX11_blend_48) ub_4) (lvA3 hl) ?_
        refine lv_if_eq (tgt := 83) hx hb (oc_153 53 (aq_5 shX11_blend_48) sgw_0_30) rfl (fun c_9 => ?_) (fun c_9 => ?_)
        ·
          have tc_9 : (x35_4.toInt : Int) = 0 := congrArg Int32.toInt c_9
          refine lv_iconst (v := 1) hx hb dX11_blend_83 kic_1 ?_
          refine lv_goto (tgt := 88) hx hb dX11_blend_84 rfl ?_
          refine lv_istore (lv' := [(8, .int 1), (7, .int (nI i35)), (6, .int x35_6), (5, .int x35_5), (4, .int x35_4), (3, .ref q15), (2, .int (nI lg9.length)), (1, .ref q2), (0, .ref (g 0))]) hx hb dX11_blend_88 hl (ltb rfl) rfl (fun ls hl => ?_)
          refine lv_iload hx hb dX11_blend_90 (lvA0 hl) ?_
          refine lv_if_eq (tgt := 122) hx hb dX11_blend_92 rfl (fun h => absurd h cq_eq_1_0) (fun _ => ?_)
          refine lv_aload_n hx hb dX11_blend_95 rfl (lvA8 hl) ?_
          refine lv_aload_n hx hb dX11_blend_96 rfl (lvA5 hl) ?_
          have hFc := free_all hD hS hA
          refine va_calli (runV_xa (As := [.ref q15]) (rest := []) S (q_Wbroken7 l D cI cB cZ zz qq vv bt g ad cn In F35 q15 u_4 (mxI (fun i => Fn 122 i * Fn 123 i) (SXB fg9 (fun j => i35.testBit j) lg9.length) 20) (mxI (fun i => Fn 122 i * Fn 124 i) (SXB fg9 (fun j => i35.testBit j) lg9.length) 20) 0 (SXB fg9 (fun j => i35.testBit j) lg9.length) (mxI (fun _ => 1) (SXB fg9 (fun j => i35.testBit j) lg9.length) 20) (mxI (Fn 122) (SXB fg9 (fun j => i35.testBit j) lg9.length) 20) 0 o cl (([(q2, .inl (cI, 12, .inl fg9)), (u_4, .inl (cI, 12, .inl (fun _ => 0)))] : va_W)) H.size hIn3 hT hbt (hX.cg (hfr35.2.2 195 (nml rfl)) (hfr35.2.2 301 (nml rfl)) (hfr35.2.2 198 (nml rfl)) (hfr35.2.2 302 (nml rfl)) (hfr35.2.2 303 (nml rfl)) (hfr35.2.2 304 (nml rfl)) (hfr35.2.2 199 (nml rfl)))) kV_RX11_370 hK hXS hS hFc hP hD _ (exl xo_0) rfl rfl ⟨Nat.le_of_ble_eq_true rfl, Nat.le_of_ble_eq_true rfl⟩ ⟨Nat.le_of_ble_eq_true rfl, Nat.le_of_ble_eq_true rfl⟩ rfl hl.1 rfl (Nat.le_of_ble_eq_true rfl) dX11_blend_97) hS (fun q _ h => hFc q h) hFc (fun r9 u9 t H1 locs ht hvm h9 hB1 hz1 hk1 hS => ?_)
          obtain ⟨hP1, hD1⟩ := hB1
          rw [ht] at hP1
          obtain ⟨a9, c9, I9, F9⟩ := u9
          obtain ⟨rfl, rfl, rfl, h9, hft9, e7_9⟩ := h9
          have hf9 : Fr [] [] [7, 196, 197, 305] cn In Fn cn In F9 := Fr.mo (Fr.tr hfr35 (show Fr [] [] [7, 196, 197, 305] cn In F35 cn In F9 from ⟨fun _ _ => rfl, fun _ _ => rfl, h9⟩)) (sbl rfl) (sbl rfl) (sbl rfl)
          have e7_9 : F9 7 = _ := e7_9
          have hP : va_P D vwCl ((wX cI (D.1 99) zz g ad cn In F9) ++ ([(q15, .inr (1, [.ref u_4, .int (mxI (fun i => Fn 122 i * Fn 123 i) (SXB fg9 (fun j => i35.testBit j) lg9.length) 20), .int (mxI (fun i => Fn 122 i * Fn 124 i) (SXB fg9 (fun j => i35.testBit j) lg9.length) 20), .int 0, .int (SXB fg9 (fun j => i35.testBit j) lg9.length), .int (mxI (fun _ => 1) (SXB fg9 (fun j => i35.testBit j) lg9.length) 20), .int (mxI (Fn 122) (SXB fg9 (fun j => i35.testBit j) lg9.length) 20), .int 0])), (q2, .inl (cI, 12, .inl fg9)), (u_4, .inl (cI, 12, .inl (fun _ => 0)))] : va_W)) H1 := hP1
          have hD : va_D A ((wX cI (D.1 99) zz g ad cn In F9) ++ ([(q15, .inr (1, [.ref u_4, .int (mxI (fun i => Fn 122 i * Fn 123 i) (SXB fg9 (fun j => i35.testBit j) lg9.length) 20), .int (mxI (fun i => Fn 122 i * Fn 124 i) (SXB fg9 (fun j => i35.testBit j) lg9.length) 20), .int 0, .int (SXB fg9 (fun j => i35.testBit j) lg9.length), .int (mxI (fun _ => 1) (SXB fg9 (fun j => i35.testBit j) lg9.length) 20), .int (mxI (Fn 122) (SXB fg9 (fun j => i35.testBit j) lg9.length) 20), .int 0])), (q2, .inl (cI, 12, .inl fg9)), (u_4, .inl (cI, 12, .inl (fun _ => 0)))] : va_W)) := hD1.weaken (fun _ _ _ h => hFc _ h)
          generalize H1 = H at hP hS ⊢
          refine lv_iconst (v := (-1)) hx hb dX11_blend_100 kic_m1 ?_
          refine lv_icmp_ne (tgt := 122) hx hb dX11_blend_101 rfl (fun c_11 => ?_) (fun c_11 => ?_)
          ·
            have tc_11 : (r9.toInt : Int) ≠ (-1) := fun q => c_11 (Int32.toInt_inj.mp q)
            refine lv_iinc (v := (nI (i35 + 1))) (lv' := [(7, .int (nI (i35 + 1))), (8, .int 1), (6, .int x35_6), (5, .int x35_5), (4, .int x35_4), (3, .ref q15), (2, .int (nI lg9.length)), (1, .ref q2), (0, .ref (g 0))]) hx hb dX11_blend_122 hl (k := 1) rfl (nI_1 _) (ltb rfl) rfl (fun ls hl => ?_)
            refine lv_goto (tgt := 35) hx hb dX11_blend_125 rfl ?_
            exact ih35 (i35 + 1) x35_4 x35_5 x35_6 (mxI (fun i => Fn 122 i * Fn 123 i) (SXB fg9 (fun j => i35.testBit j) lg9.length) 20) (mxI (fun i => Fn 122 i * Fn 124 i) (SXB fg9 (fun j => i35.testBit j) lg9.length) 20) (SXB fg9 (fun j => i35.testBit j) lg9.length) (mxI (fun _ => 1) (SXB fg9 (fun j => i35.testBit j) lg9.length) 20) (mxI (Fn 122) (SXB fg9 (fun j => i35.testBit j) lg9.length) 20) F9 _ _ (by omega) ⟨(by omega), (Fr.mo hf9 (sbl rfl) (sbl rfl) (sbl rfl)), rfl, ⟨rfl, rfl, rfl, rfl⟩, (fun j h3 h9 => by rw [e7_9, upd_4 h3 h9]; exact hx35_2 j h3 h9), (BLR.ns (by omega) hx35_3 (fun w9 => (show ¬ r9 = -1 from (by first | assumption | exact fun q => absurd (congrArg Int32.toInt q) (by assumption))) (FTX.un (show FTX o (cut (mxL (Fn 122) (Fn 123) (Fn 124) (Fn 20) (SXB fg9 (fun j => i35.testBit j) lg9.length) (cn 0))) cl 0 r9 from (by have q9 := hft9; rw [cut_4 hx35_2, lfb_of (d := cn 0) (by omega), show (nI (cn 0)).toInt.toNat = cn 0 from nI_tn (by omega)] at q9; exact q9)) w9.2))), hx35_4⟩ hP hD hS ls (lv_sub hl [0, 2, 3, 4, 5, 6, 7, 8] rfl)
          ·
            have tc_11 : (r9.toInt : Int) = (-1) := congrArg Int32.toInt c_11
            refine lv_aload_n hx hb dX11_blend_104 rfl (lvA5 hl) ?_
            refine gf_RX11_388 S hK hP _ (exr (m := 0) rfl) (v := .int (SXB fg9 (fun j => i35.testBit j) lg9.length)) rfl dX11_blend_105 ?_
            refine lv_istore (lv' := [(4, .int (SXB fg9 (fun j => i35.testBit j) lg9.length)), (8, .int 1), (7, .int (nI i35)), (6, .int x35_6), (5, .int x35_5), (3, .ref q15), (2, .int (nI lg9.length)), (1, .ref q2), (0, .ref (g 0))]) hx hb dX11_blend_108 hl (ltb rfl) rfl (fun ls hl => ?_)
            refine lv_aload_n hx hb dX11_blend_110 rfl (lvA5 hl) ?_
            refine gf_RX11_342 S hK hP _ (exr (m := 0) rfl) (v := .int (mxI (Fn 122) (SXB fg9 (fun j => i35.testBit j) lg9.length) 20)) rfl dX11_blend_111 ?_
            refine lv_istore (lv' := [(5, .int (mxI (Fn 122) (SXB fg9 (fun j => i35.testBit j) lg9.length) 20)), (4, .int (SXB fg9 (fun j => i35.testBit j) lg9.length)), (8, .int 1), (7, .int (nI i35)), (6, .int x35_6), (3, .ref q15), (2, .int (nI lg9.length)), (1, .ref q2), (0, .ref (g 0))]) hx hb dX11_blend_114 hl (ltb rfl) rfl (fun ls hl => ?_)
            refine lv_aload_n hx hb dX11_blend_116 rfl (lvA5 hl) ?_
            refine gf_RX11_347 S hK hP _ (exr (m := 0) rfl) (v := .int (mxI (fun _ => 1) (SXB fg9 (fun j => i35.testBit j) lg9.length) 20)) rfl dX11_blend_117 ?_
            refine lv_istore (lv' := [(6, .int (mxI (fun _ => 1) (SXB fg9 (fun j => i35.testBit j) lg9.length) 20)), (5, .int (mxI (Fn 122) (SXB fg9 (fun j => i35.testBit j) lg9.length) 20)), (4, .int (SXB fg9 (fun j => i35.testBit j) lg9.length)), (8, .int 1), (7, .int (nI i35)), (3, .ref q15), (2, .int (nI lg9.length)), (1, .ref q2), (0, .ref (g 0))]) hx hb dX11_blend_120 hl (ltb rfl) rfl (fun ls hl => ?_)
            refine lv_iinc (v := (nI (i35 + 1))) (lv' := [(7, .int (nI (i35 + 1))), (6, .int (mxI (fun _ => 1) (SXB fg9 (fun j => i35.testBit j) lg9.length) 20)), (5, .int (mxI (Fn 122) (SXB fg9 (fun j => i35.testBit j) lg9.length) 20)), (4, .int (SXB fg9 (fun j => i35.testBit j) lg9.length)), (8, .int 1), (3, .ref q15), (2, .int (nI lg9.length)), (1, .ref q2), (0, .ref (g 0))]) hx hb dX11_blend_122 hl (k := 4) rfl (nI_1 _) (ltb rfl) rfl (fun ls hl => ?_)
            refine lv_goto (tgt := 35) hx hb dX11_blend_125 rfl ?_
            exact ih35 (i35 + 1) (SXB fg9 (fun j => i35.testBit j) lg9.length) (mxI (Fn 122) (SXB fg9 (fun j => i35.testBit j) lg9.length) 20) (mxI (fun _ => 1) (SXB fg9 (fun j => i35.testBit j) lg9.length) 20) (mxI (fun i => Fn 122 i * Fn 123 i) (SXB fg9 (fun j => i35.testBit j) lg9.length) 20) (mxI (fun i => Fn 122 i * Fn 124 i) (SXB fg9 (fun j => i35.testBit j) lg9.length) 20) (SXB fg9 (fun j => i35.testBit j) lg9.length) (mxI (fun _ => 1) (SXB fg9 (fun j => i35.testBit j) lg9.length) 20) (mxI (Fn 122) (SXB fg9 (fun j => i35.testBit j) lg9.length) 20) F9 _ _ (by omega) ⟨(by omega), (Fr.mo hf9 (sbl rfl) (sbl rfl) (sbl rfl)), rfl, ⟨rfl, rfl, rfl, rfl⟩, (fun j h3 h9 => by rw [e7_9, upd_4 h3 h9]; exact hx35_2 j h3 h9), (BLR.ys (S := (fun c => SXB fg9 (fun j => c.testBit j) lg9.length)) (by omega) hx35_3 (BTR_w hx35_4 (Or.inl (by first | assumption | exact Int32.toInt_inj.mp (by assumption)))) (show FTX o (cut (mxL (Fn 122) (Fn 123) (Fn 124) (Fn 20) (SXB fg9 (fun j => i35.testBit j) lg9.length) (cn 0))) cl 0 (-1) from (by rw [← show r9 = -1 from (by first | assumption | exact Int32.toInt_inj.mp (by assumption))]; exact (by have q9 := hft9; rw [cut_4 hx35_2, lfb_of (d := cn 0) (by omega), show (nI (cn 0)).toInt.toNat = cn 0 from nI_tn (by omega)] at q9; exact q9)))), (Or.inr ⟨rfl, rfl⟩)⟩ hP hD hS ls (lv_sub hl [0, 1, 2, 3, 5, 6, 7, 8] rfl)
        ·
          have tc_9 : (x35_4.toInt : Int) ≠ 0 := fun q => c_9 (Int32.toInt_inj.mp q)
          refine lv_aload_n hx hb (oc_45 56 (aq_8 shX11_blend_48)) rfl (lvA4 hl) ?_
          refine gf_RX11_342 S hK hP _ (exr (m := 0) rfl) (v := .int (mxI (Fn 122) (SXB fg9 (fun j => i35.testBit j) lg9.length) 20)) rfl (oc_180 57 (aq_9 shX11_blend_48) uw_1_86) ?_
          refine lv_iload hx hb (oc_21 60 (aq_12 shX11_blend_48) ub_5) (lvA2 hl) ?_
          refine lv_icmp_gt (tgt := 83) hx hb (oc_163 62 (aq_14 shX11_blend_48) sgw_0_21) rfl (fun c_12 => ?_) (fun c_12 => ?_)
          ·
            have tc_12 : (x35_5.toInt : Int) < (mxI (Fn 122) (SXB fg9 (fun j => i35.testBit j) lg9.length) 20).toInt := Int32.lt_iff_toInt_lt.mp c_12
            refine lv_iconst (v := 1) hx hb dX11_blend_83 kic_1 ?_
            refine lv_goto (tgt := 88) hx hb dX11_blend_84 rfl ?_
            refine lv_istore (lv' := [(8, .int 1), (7, .int (nI i35)), (6, .int x35_6), (5, .int x35_5), (4, .int x35_4), (3, .ref q15), (2, .int (nI lg9.length)), (1, .ref q2), (0, .ref (g 0))]) hx hb dX11_blend_88 hl (ltb rfl) rfl (fun ls hl => ?_)
            refine lv_iload hx hb dX11_blend_90 (lvA0 hl) ?_
            refine lv_if_eq (tgt := 122) hx hb dX11_blend_92 rfl (fun h => absurd h cq_eq_1_0) (fun _ => ?_)
            refine lv_aload_n hx hb dX11_blend_95 rfl (lvA8 hl) ?_
            refine lv_aload_n hx hb dX11_blend_96 rfl (lvA5 hl) ?_
            have hFc := free_all hD hS hA
            refine va_calli (runV_xa (As := [.ref q15]) (rest := []) S (q_Wbroken7 l D cI cB cZ zz qq vv bt g ad cn In F35 q15 u_4 (mxI (fun i => Fn 122 i * Fn 123 i) (SXB fg9 (fun j => i35.testBit j) lg9.length) 20) (mxI (fun i => Fn 122 i * Fn 124 i) (SXB fg9 (fun j => i35.testBit j) lg9.length) 20) 0 (SXB fg9 (fun j => i35.testBit j) lg9.length) (mxI (fun _ => 1) (SXB fg9 (fun j => i35.testBit j) lg9.length) 20) (mxI (Fn 122) (SXB fg9 (fun j => i35.testBit j) lg9.length) 20) 0 o cl (([(q2, .inl (cI, 12, .inl fg9)), (u_4, .inl (cI, 12, .inl (fun _ => 0)))] : va_W)) H.size hIn3 hT hbt (hX.cg (hfr35.2.2 195 (nml rfl)) (hfr35.2.2 301 (nml rfl)) (hfr35.2.2 198 (nml rfl)) (hfr35.2.2 302 (nml rfl)) (hfr35.2.2 303 (nml rfl)) (hfr35.2.2 304 (nml rfl)) (hfr35.2.2 199 (nml rfl)))) kV_RX11_370 hK hXS hS hFc hP hD _ (exl xo_0) rfl rfl ⟨Nat.le_of_ble_eq_true rfl, Nat.le_of_ble_eq_true rfl⟩ ⟨Nat.le_of_ble_eq_true rfl, Nat.le_of_ble_eq_true rfl⟩ rfl hl.1 rfl (Nat.le_of_ble_eq_true rfl) dX11_blend_97) hS (fun q _ h => hFc q h) hFc (fun r12 u12 t H1 locs ht hvm h12 hB1 hz1 hk1 hS => ?_)
            obtain ⟨hP1, hD1⟩ := hB1
            rw [ht] at hP1
            obtain ⟨a12, c12, I12, F12⟩ := u12
            obtain ⟨rfl, rfl, rfl, h12, hft12, e7_12⟩ := h12
            have hf12 : Fr [] [] [7, 196, 197, 305] cn In Fn cn In F12 := Fr.mo (Fr.tr hfr35 (show Fr [] [] [7, 196, 197, 305] cn In F35 cn In F12 from ⟨fun _ _ => rfl, fun _ _ => rfl, h12⟩)) (sbl rfl) (sbl rfl) (sbl rfl)
            have e7_12 : F12 7 = _ := e7_12
            have hP : va_P D vwCl ((wX cI (D.1 99) zz g ad cn In F12) ++ ([(q15, .inr (1, [.ref u_4, .int (mxI (fun i => Fn 122 i * Fn 123 i) (SXB fg9 (fun j => i35.testBit j) lg9.length) 20), .int (mxI (fun i => Fn 122 i * Fn 124 i) (SXB fg9 (fun j => i35.testBit j) lg9.length) 20), .int 0, .int (SXB fg9 (fun j => i35.testBit j) lg9.length), .int (mxI (fun _ => 1) (SXB fg9 (fun j => i35.testBit j) lg9.length) 20), .int (mxI (Fn 122) (SXB fg9 (fun j => i35.testBit j) lg9.length) 20), .int 0])), (q2, .inl (cI, 12, .inl fg9)), (u_4, .inl (cI, 12, .inl (fun _ => 0)))] : va_W)) H1 := hP1
            have hD : va_D A ((wX cI (D.1 99) zz g ad cn In F12) ++ ([(q15, .inr (1, [.ref u_4, .int (mxI (fun i => Fn 122 i * Fn 123 i) (SXB fg9 (fun j => i35.testBit j) lg9.length) 20), .int (mxI (fun i => Fn 122 i * Fn 124 i) (SXB fg9 (fun j => i35.testBit j) lg9.length) 20), .int 0, .int (SXB fg9 (fun j => i35.testBit j) lg9.length), .int (mxI (fun _ => 1) (SXB fg9 (fun j => i35.testBit j) lg9.length) 20), .int (mxI (Fn 122) (SXB fg9 (fun j => i35.testBit j) lg9.length) 20), .int 0])), (q2, .inl (cI, 12, .inl fg9)), (u_4, .inl (cI, 12, .inl (fun _ => 0)))] : va_W)) := hD1.weaken (fun _ _ _ h => hFc _ h)
            generalize H1 = H at hP hS ⊢
            refine lv_iconst (v := (-1)) hx hb dX11_blend_100 kic_m1 ?_
            refine lv_icmp_ne (tgt := 122) hx hb dX11_blend_101 rfl (fun c_14 => ?_) (fun c_14 => ?_)
            ·
              have tc_14 : (r12.toInt : Int) ≠ (-1) := fun q => c_14 (Int32.toInt_inj.mp q)
              refine lv_iinc (v := (nI (i35 + 1))) (lv' := [(7, .int (nI (i35 + 1))), (8, .int 1), (6, .int x35_6), (5, .int x35_5), (4, .int x35_4), (3, .ref q15), (2, .int (nI lg9.length)), (1, .ref q2), (0, .ref (g 0))]) hx hb dX11_blend_122 hl (k := 1) rfl (nI_1 _) (ltb rfl) rfl (fun ls hl => ?_)
              refine lv_goto (tgt := 35) hx hb dX11_blend_125 rfl ?_
              exact ih35 (i35 + 1) x35_4 x35_5 x35_6 (mxI (fun i => Fn 122 i * Fn 123 i) (SXB fg9 (fun j => i35.testBit j) lg9.length) 20) (mxI (fun i => Fn 122 i * Fn 124 i) (SXB fg9 (fun j => i35.testBit j) lg9.length) 20) (SXB fg9 (fun j => i35.testBit j) lg9.length) (mxI (fun _ => 1) (SXB fg9 (fun j => i35.testBit j) lg9.length) 20) (mxI (Fn 122) (SXB fg9 (fun j => i35.testBit j) lg9.length) 20) F12 _ _ (by omega) ⟨(by omega), (Fr.mo hf12 (sbl rfl) (sbl rfl) (sbl rfl)), rfl, ⟨rfl, rfl, rfl, rfl⟩, (fun j h3 h9 => by rw [e7_12, upd_4 h3 h9]; exact hx35_2 j h3 h9), (BLR.ns (by omega) hx35_3 (fun w9 => (show ¬ r12 = -1 from (by first | assumption | exact fun q => absurd (congrArg Int32.toInt q) (by assumption))) (FTX.un (show FTX o (cut (mxL (Fn 122) (Fn 123) (Fn 124) (Fn 20) (SXB fg9 (fun j => i35.testBit j) lg9.length) (cn 0))) cl 0 r12 from (by have q9 := hft12; rw [cut_4 hx35_2, lfb_of (d := cn 0) (by omega), show (nI (cn 0)).toInt.toNat = cn 0 from nI_tn (by omega)] at q9; exact q9)) w9.2))), hx35_4⟩ hP hD hS ls (lv_sub hl [0, 2, 3, 4, 5, 6, 7, 8] rfl)
            ·
              have tc_14 : (r12.toInt : Int) = (-1) := congrArg Int32.toInt c_14
              refine lv_aload_n hx hb dX11_blend_104 rfl (lvA5 hl) ?_
              refine gf_RX11_388 S hK hP _ (exr (m := 0) rfl) (v := .int (SXB fg9 (fun j => i35.testBit j) lg9.length)) rfl dX11_blend_105 ?_
              refine lv_istore (lv' := [(4, .int (SXB fg9 (fun j => i35.testBit j) lg9.length)), (8, .int 1), (7, .int (nI i35)), (6, .int x35_6), (5, .int x35_5), (3, .ref q15), (2, .int (nI lg9.length)), (1, .ref q2), (0, .ref (g 0))]) hx hb dX11_blend_108 hl (ltb rfl) rfl (fun ls hl => ?_)
              refine lv_aload_n hx hb dX11_blend_110 rfl (lvA5 hl) ?_
              refine gf_RX11_342 S hK hP _ (exr (m := 0) rfl) (v := .int (mxI (Fn 122) (SXB fg9 (fun j => i35.testBit j) lg9.length) 20)) rfl dX11_blend_111 ?_
              refine lv_istore (lv' := [(5, .int (mxI (Fn 122) (SXB fg9 (fun j => i35.testBit j) lg9.length) 20)), (4, .int (SXB fg9 (fun j => i35.testBit j) lg9.length)), (8, .int 1), (7, .int (nI i35)), (6, .int x35_6), (3, .ref q15), (2, .int (nI lg9.length)), (1, .ref q2), (0, .ref (g 0))]) hx hb dX11_blend_114 hl (ltb rfl) rfl (fun ls hl => ?_)
              refine lv_aload_n hx hb dX11_blend_116 rfl (lvA5 hl) ?_
              refine gf_RX11_347 S hK hP _ (exr (m := 0) rfl) (v := .int (mxI (fun _ => 1) (SXB fg9 (fun j => i35.testBit j) lg9.length) 20)) rfl dX11_blend_117 ?_
              refine lv_istore (lv' := [(6, .int (mxI (fun _ => 1) (SXB fg9 (fun j => i35.testBit j) lg9.length) 20)), (5, .int (mxI (Fn 122) (SXB fg9 (fun j => i35.testBit j) lg9.length) 20)), (4, .int (SXB fg9 (fun j => i35.testBit j) lg9.length)), (8, .int 1), (7, .int (nI i35)), (3, .ref q15), (2, .int (nI lg9.length)), (1, .ref q2), (0, .ref (g 0))]) hx hb dX11_blend_120 hl (ltb rfl) rfl (fun ls hl => ?_)
              refine lv_iinc (v := (nI (i35 + 1))) (lv' := [(7, .int (nI (i35 + 1))), (6, .int (mxI (fun _ => 1) (SXB fg9 (fun j => i35.testBit j) lg9.length) 20)), (5, .int (mxI (Fn 122) (SXB fg9 (fun j => i35.testBit j) lg9.length) 20)), (4, .int (SXB fg9 (fun j => i35.testBit j) lg9.length)), (8, .int 1), (3, .ref q15), (2, .int (nI lg9.length)), (1, .ref q2), (0, .ref (g 0))]) hx hb dX11_blend_122 hl (k := 4) rfl (nI_1 _) (ltb rfl) rfl (fun ls hl => ?_)
              refine lv_goto (tgt := 35) hx hb dX11_blend_125 rfl ?_
              exact ih35 (i35 + 1) (SXB fg9 (fun j => i35.testBit j) lg9.length) (mxI (Fn 122) (SXB fg9 (fun j => i35.testBit j) lg9.length) 20) (mxI (fun _ => 1) (SXB fg9 (fun j => i35.testBit j) lg9.length) 20) (mxI (fun i => Fn 122 i * Fn 123 i) (SXB fg9 (fun j => i35.testBit j) lg9.length) 20) (mxI (fun i => Fn 122 i * Fn 124 i) (SXB fg9 (fun j => i35.testBit j) lg9.length) 20) (SXB fg9 (fun j => i35.testBit j) lg9.length) (mxI (fun _ => 1) (SXB fg9 (fun j => i35.testBit j) lg9.length) 20) (mxI (Fn 122) (SXB fg9 (fun j => i35.testBit j) lg9.length) 20) F12 _ _ (by omega) ⟨(by omega), (Fr.mo hf12 (sbl rfl) (sbl rfl) (sbl rfl)), rfl, ⟨rfl, rfl, rfl, rfl⟩, (fun j h3 h9 => by rw [e7_12, upd_4 h3 h9]; exact hx35_2 j h3 h9), (BLR.ys (S := (fun c => SXB fg9 (fun j => c.testBit j) lg9.length)) (by omega) hx35_3 (BTR_w hx35_4 (Or.inr (Or.inl (by omega)))) (show FTX o (cut (mxL (Fn 122) (Fn 123) (Fn 124) (Fn 20) (SXB fg9 (fun j => i35.testBit j) lg9.length) (cn 0))) cl 0 (-1) from (by rw [← show r12 = -1 from (by first | assumption | exact Int32.toInt_inj.mp (by assumption))]; exact (by have q9 := hft12; rw [cut_4 hx35_2, lfb_of (d := cn 0) (by omega), show (nI (cn 0)).toInt.toNat = cn 0 from nI_tn (by omega)] at q9; exact q9)))), (Or.inr ⟨rfl, rfl⟩)⟩ hP hD hS ls (lv_sub hl [0, 1, 2, 3, 5, 6, 7, 8] rfl)
          ·
            have tc_12 : ((mxI (Fn 122) (SXB fg9 (fun j => i35.testBit j) lg9.length) 20).toInt : Int) ≤ x35_5.toInt := Int32.le_iff_toInt_le.mp (Int32.not_lt.mp c_12)
            refine lv_aload_n hx hb (oc_45 65 (aq_17 shX11_blend_48)) rfl (lvA4 hl) ?_
            refine gf_RX11_342 S hK hP _ (exr (m := 0) rfl) (v := .int (mxI (Fn 122) (SXB fg9 (fun j => i35.testBit j) lg9.length) 20)) rfl (oc_180 66 (aq_18 shX11_blend_48) uw_1_86) ?_
            refine lv_iload hx hb (oc_21 69 (aq_21 shX11_blend_48) ub_5) (lvA2 hl) ?_
            refine lv_icmp_ne (tgt := 87) hx hb (oc_160 71 (aq_23 shX11_blend_48) sgw_0_16) rfl (fun c_15 => ?_) (fun c_15 => ?_)
            ·
              have tc_15 : ((mxI (Fn 122) (SXB fg9 (fun j => i35.testBit j) lg9.length) 20).toInt : Int) ≠ x35_5.toInt := fun q => c_15 (Int32.toInt_inj.mp q)
              refine lv_iconst (v := 0) hx hb dX11_blend_87 kic_0 ?_
              refine lv_istore (lv' := [(8, .int 0), (7, .int (nI i35)), (6, .int x35_6), (5, .int x35_5), (4, .int x35_4), (3, .ref q15), (2, .int (nI lg9.length)), (1, .ref q2), (0, .ref (g 0))]) hx hb dX11_blend_88 hl (ltb rfl) rfl (fun ls hl => ?_)
              refine lv_iload hx hb dX11_blend_90 (lvA0 hl) ?_
              refine lv_if_eq (tgt := 122) hx hb dX11_blend_92 rfl (fun _ => ?_) (fun h => absurd h cq_eq_0_0)
              refine lv_iinc (v := (nI (i35 + 1))) (lv' := [(7, .int (nI (i35 + 1))), (8, .int 0), (6, .int x35_6), (5, .int x35_5), (4, .int x35_4), (3, .ref q15), (2, .int (nI lg9.length)), (1, .ref q2), (0, .ref (g 0))]) hx hb dX11_blend_122 hl (k := 1) rfl (nI_1 _) (ltb rfl) rfl (fun ls hl => ?_)
              refine lv_goto (tgt := 35) hx hb dX11_blend_125 rfl ?_
              exact ih35 (i35 + 1) x35_4 x35_5 x35_6 (mxI (fun i => Fn 122 i * Fn 123 i) (SXB fg9 (fun j => i35.testBit j) lg9.length) 20) (mxI (fun i => Fn 122 i * Fn 124 i) (SXB fg9 (fun j => i35.testBit j) lg9.length) 20) (SXB fg9 (fun j => i35.testBit j) lg9.length) (mxI (fun _ => 1) (SXB fg9 (fun j => i35.testBit j) lg9.length) 20) (mxI (Fn 122) (SXB fg9 (fun j => i35.testBit j) lg9.length) 20) F35 _ _ (by omega) ⟨(by omega), (Fr.mo hfr35 (sbl rfl) (sbl rfl) (sbl rfl)), rfl, ⟨rfl, rfl, rfl, rfl⟩, hx35_2, (BLR.ns (by omega) hx35_3 (fun w9 => BTR_n hx35_4 ⟨(by first | assumption | exact fun q => absurd (congrArg Int32.toInt q) (by assumption)), by omega, by omega⟩ w9.1)), hx35_4⟩ hP hD hS ls (lv_sub hl [0, 2, 3, 4, 5, 6, 7, 8] rfl)
            ·
              have tc_15 : ((mxI (Fn 122) (SXB fg9 (fun j => i35.testBit j) lg9.length) 20).toInt : Int) = x35_5.toInt := congrArg Int32.toInt c_15
              refine lv_aload_n hx hb (oc_45 74 shX11_blend_74) rfl (lvA4 hl) ?_
              refine gf_RX11_347 S hK hP _ (exr (m := 0) rfl) (v := .int (mxI (fun _ => 1) (SXB fg9 (fun j => i35.testBit j) lg9.length) 20)) rfl (oc_180 75 (aq_1 shX11_blend_74) uw_1_91) ?_
              refine lv_iload hx hb (oc_21 78 (aq_4 shX11_blend_74) ub_6) (lvA1 hl) ?_
              refine lv_icmp_ge (tgt := 87) hx hb (oc_162 80 (aq_6 shX11_blend_74) sgw_0_7) rfl (fun c_16 => ?_) (fun c_16 => ?_)
              ·
                have tc_16 : (x35_6.toInt : Int) ≤ (mxI (fun _ => 1) (SXB fg9 (fun j => i35.testBit j) lg9.length) 20).toInt := Int32.le_iff_toInt_le.mp c_16
                refine lv_iconst (v := 0) hx hb dX11_blend_87 kic_0 ?_
                refine lv_istore (lv' := [(8, .int 0), (7, .int (nI i35)), (6, .int x35_6), (5, .int x35_5), (4, .int x35_4), (3, .ref q15), (2, .int (nI lg9.length)), (1, .ref q2), (0, .ref (g 0))]) hx hb dX11_blend_88 hl (ltb rfl) rfl (fun ls hl => ?_)
                refine lv_iload hx hb dX11_blend_90 (lvA0 hl) ?_
                refine lv_if_eq (tgt := 122) hx hb dX11_blend_92 rfl (fun _ => ?_) (fun h => absurd h cq_eq_0_0)
                refine lv_iinc (v := (nI (i35 + 1))) (lv' := [(7, .int (nI (i35 + 1))), (8, .int 0), (6, .int x35_6), (5, .int x35_5), (4, .int x35_4), (3, .ref q15), (2, .int (nI lg9.length)), (1, .ref q2), (0, .ref (g 0))]) hx hb dX11_blend_122 hl (k := 1) rfl (nI_1 _) (ltb rfl) rfl (fun ls hl => ?_)
                refine lv_goto (tgt := 35) hx hb dX11_blend_125 rfl ?_
                exact ih35 (i35 + 1) x35_4 x35_5 x35_6 (mxI (fun i => Fn 122 i * Fn 123 i) (SXB fg9 (fun j => i35.testBit j) lg9.length) 20) (mxI (fun i => Fn 122 i * Fn 124 i) (SXB fg9 (fun j => i35.testBit j) lg9.length) 20) (SXB fg9 (fun j => i35.testBit j) lg9.length) (mxI (fun _ => 1) (SXB fg9 (fun j => i35.testBit j) lg9.length) 20) (mxI (Fn 122) (SXB fg9 (fun j => i35.testBit j) lg9.length) 20) F35 _ _ (by omega) ⟨(by omega), (Fr.mo hfr35 (sbl rfl) (sbl rfl) (sbl rfl)), rfl, ⟨rfl, rfl, rfl, rfl⟩, hx35_2, (BLR.ns (by omega) hx35_3 (fun w9 => BTR_n hx35_4 ⟨(by first | assumption | exact fun q => absurd (congrArg Int32.toInt q) (by assumption)), by omega, by omega⟩ w9.1)), hx35_4⟩ hP hD hS ls (lv_sub hl [0, 2, 3, 4, 5, 6, 7, 8] rfl)
              ·
                have tc_16 : ((mxI (fun _ => 1) (SXB fg9 (fun j => i35.testBit j) lg9.length) 20).toInt : Int) < x35_6.toInt := Int32.lt_iff_toInt_lt.mp (Int32.not_le.mp c_16)
                refine lv_iconst (v := 1) hx hb dX11_blend_83 kic_1 ?_
                refine lv_goto (tgt := 88) hx hb dX11_blend_84 rfl ?_
                refine lv_istore (lv' := [(8, .int 1), (7, .int (nI i35)), (6, .int x35_6), (5, .int x35_5), (4, .int x35_4), (3, .ref q15), (2, .int (nI lg9.length)), (1, .ref q2), (0, .ref (g 0))]) hx hb dX11_blend_88 hl (ltb rfl) rfl (fun ls hl => ?_)
                refine lv_iload hx hb dX11_blend_90 (lvA0 hl) ?_
                refine lv_if_eq (tgt := 122) hx hb dX11_blend_92 rfl (fun h => absurd h cq_eq_1_0) (fun _ => ?_)
                refine lv_aload_n hx hb dX11_blend_95 rfl (lvA8 hl) ?_
                refine lv_aload_n hx hb dX11_blend_96 rfl (lvA5 hl) ?_
                have hFc := free_all hD hS hA
                refine va_calli (runV_xa (As := [.ref q15]) (rest := []) S (q_Wbroken7 l D cI cB cZ zz qq vv bt g ad cn In F35 q15 u_4 (mxI (fun i => Fn 122 i * Fn 123 i) (SXB fg9 (fun j => i35.testBit j) lg9.length) 20) (mxI (fun i => Fn 122 i * Fn 124 i) (SXB fg9 (fun j => i35.testBit j) lg9.length) 20) 0 (SXB fg9 (fun j => i35.testBit j) lg9.length) (mxI (fun _ => 1) (SXB fg9 (fun j => i35.testBit j) lg9.length) 20) (mxI (Fn 122) (SXB fg9 (fun j => i35.testBit j) lg9.length) 20) 0 o cl (([(q2, .inl (cI, 12, .inl fg9)), (u_4, .inl (cI, 12, .inl (fun _ => 0)))] : va_W)) H.size hIn3 hT hbt (hX.cg (hfr35.2.2 195 (nml rfl)) (hfr35.2.2 301 (nml rfl)) (hfr35.2.2 198 (nml rfl)) (hfr35.2.2 302 (nml rfl)) (hfr35.2.2 303 (nml rfl)) (hfr35.2.2 304 (nml rfl)) (hfr35.2.2 199 (nml rfl)))) kV_RX11_370 hK hXS hS hFc hP hD _ (exl xo_0) rfl rfl ⟨Nat.le_of_ble_eq_true rfl, Nat.le_of_ble_eq_true rfl⟩ ⟨Nat.le_of_ble_eq_true rfl, Nat.le_of_ble_eq_true rfl⟩ rfl hl.1 rfl (Nat.le_of_ble_eq_true rfl) dX11_blend_97) hS (fun q _ h => hFc q h) hFc (fun r16 u16 t H1 locs ht hvm h16 hB1 hz1 hk1 hS => ?_)
                obtain ⟨hP1, hD1⟩ := hB1
                rw [ht] at hP1
                obtain ⟨a16, c16, I16, F16⟩ := u16
                obtain ⟨rfl, rfl, rfl, h16, hft16, e7_16⟩ := h16
                have hf16 : Fr [] [] [7, 196, 197, 305] cn In Fn cn In F16 := Fr.mo (Fr.tr hfr35 (show Fr [] [] [7, 196, 197, 305] cn In F35 cn In F16 from ⟨fun _ _ => rfl, fun _ _ => rfl, h16⟩)) (sbl rfl) (sbl rfl) (sbl rfl)
                have e7_16 : F16 7 = _ := e7_16
                have hP : va_P D vwCl ((wX cI (D.1 99) zz g ad cn In F16) ++ ([(q15, .inr (1, [.ref u_4, .int (mxI (fun i => Fn 122 i * Fn 123 i) (SXB fg9 (fun j => i35.testBit j) lg9.length) 20), .int (mxI (fun i => Fn 122 i * Fn 124 i) (SXB fg9 (fun j => i35.testBit j) lg9.length) 20), .int 0, .int (SXB fg9 (fun j => i35.testBit j) lg9.length), .int (mxI (fun _ => 1) (SXB fg9 (fun j => i35.testBit j) lg9.length) 20), .int (mxI (Fn 122) (SXB fg9 (fun j => i35.testBit j) lg9.length) 20), .int 0])), (q2, .inl (cI, 12, .inl fg9)), (u_4, .inl (cI, 12, .inl (fun _ => 0)))] : va_W)) H1 := hP1
                have hD : va_D A ((wX cI (D.1 99) zz g ad cn In F16) ++ ([(q15, .inr (1, [.ref u_4, .int (mxI (fun i => Fn 122 i * Fn 123 i) (SXB fg9 (fun j => i35.testBit j) lg9.length) 20), .int (mxI (fun i => Fn 122 i * Fn 124 i) (SXB fg9 (fun j => i35.testBit j) lg9.length) 20), .int 0, .int (SXB fg9 (fun j => i35.testBit j) lg9.length), .int (mxI (fun _ => 1) (SXB fg9 (fun j => i35.testBit j) lg9.length) 20), .int (mxI (Fn 122) (SXB fg9 (fun j => i35.testBit j) lg9.length) 20), .int 0])), (q2, .inl (cI, 12, .inl fg9)), (u_4, .inl (cI, 12, .inl (fun _ => 0)))] : va_W)) := hD1.weaken (fun _ _ _ h => hFc _ h)
                generalize H1 = H at hP hS ⊢
                refine lv_iconst (v := (-1)) hx hb dX11_blend_100 kic_m1 ?_
                refine lv_icmp_ne (tgt := 122) hx hb dX11_blend_101 rfl (fun c_18 => ?_) (fun c_18 => ?_)
                ·
                  have tc_18 : (r16.toInt : Int) ≠ (-1) := fun q => c_18 (Int32.toInt_inj.mp q)
                  refine lv_iinc (v := (nI (i35 + 1))) (lv' := [(7, .int (nI (i35 + 1))), (8, .int 1), (6, .int x35_6), (5, .int x35_5), (4, .int x35_4), (3, .ref q15), (2, .int (nI lg9.length)), (1, .ref q2), (0, .ref (g 0))]) hx hb dX11_blend_122 hl (k := 1) rfl (nI_1 _) (ltb rfl) rfl (fun ls hl => ?_)
                  refine lv_goto (tgt := 35) hx hb dX11_blend_125 rfl ?_
                  exact ih35 (i35 + 1) x35_4 x35_5 x35_6 (mxI (fun i => Fn 122 i * Fn 123 i) (SXB fg9 (fun j => i35.testBit j) lg9.length) 20) (mxI (fun i => Fn 122 i * Fn 124 i) (SXB fg9 (fun j => i35.testBit j) lg9.length) 20) (SXB fg9 (fun j => i35.testBit j) lg9.length) (mxI (fun _ => 1) (SXB fg9 (fun j => i35.testBit j) lg9.length) 20) (mxI (Fn 122) (SXB fg9 (fun j => i35.testBit j) lg9.length) 20) F16 _ _ (by omega) ⟨(by omega), (Fr.mo hf16 (sbl rfl) (sbl rfl) (sbl rfl)), rfl, ⟨rfl, rfl, rfl, rfl⟩, (fun j h3 h9 => by rw [e7_16, upd_4 h3 h9]; exact hx35_2 j h3 h9), (BLR.ns (by omega) hx35_3 (fun w9 => (show ¬ r16 = -1 from (by first | assumption | exact fun q => absurd (congrArg Int32.toInt q) (by assumption))) (FTX.un (show FTX o (cut (mxL (Fn 122) (Fn 123) (Fn 124) (Fn 20) (SXB fg9 (fun j => i35.testBit j) lg9.length) (cn 0))) cl 0 r16 from (by have q9 := hft16; rw [cut_4 hx35_2, lfb_of (d := cn 0) (by omega), show (nI (cn 0)).toInt.toNat = cn 0 from nI_tn (by omega)] at q9; exact q9)) w9.2))), hx35_4⟩ hP hD hS ls (lv_sub hl [0, 2, 3, 4, 5, 6, 7, 8] rfl)
                ·
                  have tc_18 : (r16.toInt : Int) = (-1) := congrArg Int32.toInt c_18
                  refine lv_aload_n hx hb dX11_blend_104 rfl (lvA5 hl) ?_
                  refine gf_RX11_388 S hK hP _ (exr (m := 0) rfl) (v := .int (SXB fg9 (fun j => i35.testBit j) lg9.length)) rfl dX11_blend_105 ?_
                  refine lv_istore (lv' := [(4, .int (SXB fg9 (fun j => i35.testBit j) lg9.length)), (8, .int 1), (7, .int (nI i35)), (6, .int x35_6), (5, .int x35_5), (3, .ref q15), (2, .int (nI lg9.length)), (1, .ref q2), (0, .ref (g 0))]) hx hb dX11_blend_108 hl (ltb rfl) rfl (fun ls hl => ?_)
                  refine lv_aload_n hx hb dX11_blend_110 rfl (lvA5 hl) ?_
                  refine gf_RX11_342 S hK hP _ (exr (m := 0) rfl) (v := .int (mxI (Fn 122) (SXB fg9 (fun j => i35.testBit j) lg9.length) 20)) rfl dX11_blend_111 ?_
                  refine lv_istore (lv' := [(5, .int (mxI (Fn 122) (SXB fg9 (fun j => i35.testBit j) lg9.length) 20)), (4, .int (SXB fg9 (fun j => i35.testBit j) lg9.length)), (8, .int 1), (7, .int (nI i35)), (6, .int x35_6), (3, .ref q15), (2, .int (nI lg9.length)), (1, .ref q2), (0, .ref (g 0))]) hx hb dX11_blend_114 hl (ltb rfl) rfl (fun ls hl => ?_)
                  refine lv_aload_n hx hb dX11_blend_116 rfl (lvA5 hl) ?_
                  refine gf_RX11_347 S hK hP _ (exr (m := 0) rfl) (v := .int (mxI (fun _ => 1) (SXB fg9 (fun j => i35.testBit j) lg9.length) 20)) rfl dX11_blend_117 ?_
                  refine lv_istore (lv' := [(6, .int (mxI (fun _ => 1) (SXB fg9 (fun j => i35.testBit j) lg9.length) 20)), (5, .int (mxI (Fn 122) (SXB fg9 (fun j => i35.testBit j) lg9.length) 20)), (4, .int (SXB fg9 (fun j => i35.testBit j) lg9.length)), (8, .int 1), (7, .int (nI i35)), (3, .ref q15), (2, .int (nI lg9.length)), (1, .ref q2), (0, .ref (g 0))]) hx hb dX11_blend_120 hl (ltb rfl) rfl (fun ls hl => ?_)
                  refine lv_iinc (v := (nI (i35 + 1))) (lv' := [(7, .int (nI (i35 + 1))), (6, .int (mxI (fun _ => 1) (SXB fg9 (fun j => i35.testBit j) lg9.length) 20)), (5, .int (mxI (Fn 122) (SXB fg9 (fun j => i35.testBit j) lg9.length) 20)), (4, .int (SXB fg9 (fun j => i35.testBit j) lg9.length)), (8, .int 1), (3, .ref q15), (2, .int (nI lg9.length)), (1, .ref q2), (0, .ref (g 0))]) hx hb dX11_blend_122 hl (k := 4) rfl (nI_1 _) (ltb rfl) rfl (fun ls hl => ?_)
                  refine lv_goto (tgt := 35) hx hb dX11_blend_125 rfl ?_
                  exact ih35 (i35 + 1) (SXB fg9 (fun j => i35.testBit j) lg9.length) (mxI (Fn 122) (SXB fg9 (fun j => i35.testBit j) lg9.length) 20) (mxI (fun _ => 1) (SXB fg9 (fun j => i35.testBit j) lg9.length) 20) (mxI (fun i => Fn 122 i * Fn 123 i) (SXB fg9 (fun j => i35.testBit j) lg9.length) 20) (mxI (fun i => Fn 122 i * Fn 124 i) (SXB fg9 (fun j => i35.testBit j) lg9.length) 20) (SXB fg9 (fun j => i35.testBit j) lg9.length) (mxI (fun _ => 1) (SXB fg9 (fun j => i35.testBit j) lg9.length) 20) (mxI (Fn 122) (SXB fg9 (fun j => i35.testBit j) lg9.length) 20) F16 _ _ (by omega) ⟨(by omega), (Fr.mo hf16 (sbl rfl) (sbl rfl) (sbl rfl)), rfl, ⟨rfl, rfl, rfl, rfl⟩, (fun j h3 h9 => by rw [e7_16, upd_4 h3 h9]; exact hx35_2 j h3 h9), (BLR.ys (S := (fun c => SXB fg9 (fun j => c.testBit j) lg9.length)) (by omega) hx35_3 (BTR_w hx35_4 (Or.inr (Or.inr ⟨by omega, by omega⟩))) (show FTX o (cut (mxL (Fn 122) (Fn 123) (Fn 124) (Fn 20) (SXB fg9 (fun j => i35.testBit j) lg9.length) (cn 0))) cl 0 (-1) from (by rw [← show r16 = -1 from (by first | assumption | exact Int32.toInt_inj.mp (by assumption))]; exact (by have q9 := hft16; rw [cut_4 hx35_2, lfb_of (d := cn 0) (by omega), show (nI (cn 0)).toInt.toNat = cn 0 from nI_tn (by omega)] at q9; exact q9)))), (Or.inr ⟨rfl, rfl⟩)⟩ hP hD hS ls (lv_sub hl [0, 1, 2, 3, 5, 6, 7, 8] rfl)
  exact lp_35 _ 1 0 0 0 0 0 0 0 0 Fn3 _ _ (Nat.lt_succ_self _) ⟨(by omega), (Fr.mo hf3 (sbl rfl) (sbl rfl) (sbl rfl)), (SXB_0 _ (fun k _ => Nat.zero_testBit k)).symm, ⟨(mxI_00 20 (by decide)).symm, (mxI_00 20 (by decide)).symm, (mxI_00 20 (by decide)).symm, (mxI_00 20 (by decide)).symm⟩, (fun j _ _ => congrFun h_3 j), (show (0 : Int32) = 0 from rfl), (Or.inl rfl)⟩ hP hD hS ls (lv_sub hl [0, 1, 2, 3, 4, 5, 6, 7] rfl)
set_option maxRecDepth 100000 in
set_option maxHeartbeats 4000000 in
theorem q_whyNot7 (l : Launch) (D : va_G) (cI cB cZ : ClassId) (g : Nat → Nat) (cn : Nat → Nat) (In : Nat → Int32) (Fn : Nat → Nat → Int32) (v0 : Int32) (o : OutT) (cl : ClsT) (sz : Nat) (hI : IM cn Fn) (hM : MTx Fn 10 o cl) (hG : CLG 108 o cl) (hL : o.length ≤ 160 ∧ cl.length ≤ 12) : Met l yX12_whyNot (CWS yX12_whyNot cX12_whyNot 3 (some .int)) (RM 2 0 0) (PBw [.ref (g 100), .int v0] D cI cB cZ (wM cI cB cZ g cn In Fn) sz) (va_Qi (fun (r : Int32) (u : (Nat → Nat) × (Nat → Int32) × (Nat → Nat → Int32)) => (fun r c2 I2 F2 => Fr [] [71, 72, 73] [37, 38] cn In Fn c2 I2 F2 ∧ IM c2 F2 ∧ ((FTX o (cut (mxL (Fn 10) (Fn 11) (Fn 12) (Fn 39) v0 (cn 0))) cl 0 r) ∧ I2 71 = mxI (Fn 10) v0 20)) r u.1 u.2.1 u.2.2) (fun (u : (Nat → Nat) × (Nat → Int32) × (Nat → Nat → Int32)) (t : State) => va_P D vwCl (wM cI cB cZ g u.1 u.2.1 u.2.2) t.heap ∧ va_D (va_A (wM cI cB cZ g cn In Fn) sz) (wM cI cB cZ g u.1 u.2.1 u.2.2)) (va_A (wM cI cB cZ g cn In Fn) sz)) 0 0 (va_A (wM cI cB cZ g cn In Fn) sz) := by
  refine en_w (fun A => (va_Qi (fun (r : Int32) (u : (Nat → Nat) × (Nat → Int32) × (Nat → Nat → Int32)) => (fun (r : Int32) (c2 : Nat → Nat) (I2 : Nat → Int32) (F2 : Nat → Nat → Int32) => Fr [] [71, 72, 73] [37, 38] cn In Fn c2 I2 F2 ∧ IM c2 F2 ∧ ((FTX o (cut (mxL (Fn 10) (Fn 11) (Fn 12) (Fn 39) v0 (cn 0))) cl 0 r) ∧ I2 71 = mxI (Fn 10) v0 20)) r u.1 u.2.1 u.2.2) (fun (u : (Nat → Nat) × (Nat → Int32) × (Nat → Nat → Int32)) (t : State) => va_P D vwCl (wM cI cB cZ g u.1 u.2.1 u.2.2) t.heap ∧ va_D A (wM cI cB cZ g u.1 u.2.1 u.2.2)) A)) rfl rfl pn_RX12 (Nat.le_of_ble_eq_true rfl) (fun p e s m below meth c A hx hb hml hown S hr hlocks hnm hA hP hK hD hS ls hl => ?_)
  have hl : lv_has ls 3 [(0, .ref (g 100)), (1, .int v0)] := hl
  have hi_cn : Hid (CB cn) := hI.b
  refine lv_aload_n hx hb (oc_42 0 shX12_whyNot_0) rfl (lvA0 hl) ?_
  refine lv_iload_n hx hb (oc_27 1 (aq_1 shX12_whyNot_0)) rfl (lvA1 hl) ?_
  have hFc := free_all hD hS hA
  refine va_callv (runV_a (As := [.int v0]) (rest := []) S (q_mixes9 l D cI cB cZ g cn In Fn v0 s.heap.size hI) kV_RX12_428 hK hP hD 0 rfl rfl rfl ⟨Nat.le_of_ble_eq_true rfl, Nat.le_of_ble_eq_true rfl⟩ ⟨Nat.le_of_ble_eq_true rfl, Nat.le_of_ble_eq_true rfl⟩ rfl hl.1 rfl (Nat.le_of_ble_eq_true rfl) (oc_182 2 (aq_2 shX12_whyNot_0) uw_1_172)) hS (fun q _ h => hFc q h) hFc (fun u t H1 locs ht hvm wh_2 hB hz1 hk1 hS => ?_)
  obtain ⟨cn2, In2, Fn2⟩ := u
  obtain ⟨hP1, hD1⟩ := hB
  rw [ht] at hP1
  have hP : va_P D vwCl (wM cI cB cZ g cn2 In2 Fn2) H1 := hP1
  have hD : va_D A (wM cI cB cZ g cn2 In2 Fn2) := hD1.weaken (fun _ _ _ h => hFc _ h)
  generalize H1 = H at hP hS ⊢
  have vh_2 : (fun c2 I2 F2 => Fr [] [71, 72, 73] [] cn In Fn c2 I2 F2 ∧ IM c2 F2 ∧ (I2 71 = mxI ((Fn 10)) v0 20 ∧ I2 72 = (if mxI ((Fn 10)) v0 20 = 0 then 0 else mxI (fun i => (Fn 10) i * (Fn 11) i) v0 20 / mxI ((Fn 10)) v0 20) ∧ I2 73 = (if mxI ((Fn 10)) v0 20 = 0 then 0 else mxI (fun i => (Fn 10) i * (Fn 12) i) v0 20 / mxI ((Fn 10)) v0 20))) cn2 In2 Fn2 := wh_2
  obtain ⟨hfc2, hIn2, h_2⟩ := vh_2
  obtain rfl : cn = cn2 := (funext (fun k => hfc2.1 k List.not_mem_nil)).symm
  obtain rfl : Fn = Fn2 := (funext (fun k => hfc2.2.2 k List.not_mem_nil)).symm
  have hf2 : Fr [] [71, 72, 73] [37, 38] cn In Fn cn In2 Fn := Fr.mo (Fr.tr (Fr.rf (cn := cn) (In := In) (Fn := Fn)) hfc2) (sbl rfl) (sbl rfl) (sbl rfl)
  have hi_cn : Hid (CB cn) := hIn2.b
  obtain ⟨hx71, hx72, hx73⟩ := h_2
  refine lv_aload_n hx hb (oc_42 5 (aq_5 shX12_whyNot_0)) rfl (lvA0 hl) ?_
  refine gM_89 S hK hP (v := .ref (g 38)) rfl (oc_180 6 (aq_6 shX12_whyNot_0) uw_0_89) ?_
  refine lv_iconst (v := 0) hx hb (oc_3 9 (aq_9 shX12_whyNot_0)) kic_0 ?_
  refine lv_aload_n hx hb (oc_42 10 (aq_10 shX12_whyNot_0)) rfl (lvA0 hl) ?_
  refine gM_419 S hK hP (v := .int (In2 71)) rfl (oc_180 11 (aq_11 shX12_whyNot_0) uw_1_163) ?_
  refine stM_38 hx hb hK hP hD hS (Fn2 := (va_up Fn 38 (upd (Fn 38) 0 (In2 71)))) (by unfold vp_in; decide) (by decide) rfl (oc_79 14 (aq_14 shX12_whyNot_0)) (fun H locs hP hD hS => ?_)
  refine lv_aload_n hx hb (oc_42 15 (aq_15 shX12_whyNot_0)) rfl (lvA0 hl) ?_
  refine gM_89 S hK hP (v := .ref (g 38)) rfl (oc_180 16 (aq_16 shX12_whyNot_0) uw_0_89) ?_
  refine lv_iconst (v := 1) hx hb (oc_4 19 (aq_19 shX12_whyNot_0)) kic_1 ?_
  refine lv_aload_n hx hb (oc_42 20 (aq_20 shX12_whyNot_0)) rfl (lvA0 hl) ?_
  refine gM_422 S hK hP (v := .int (In2 72)) rfl (oc_180 21 (aq_21 shX12_whyNot_0) uw_1_166) ?_
  refine stM_38 hx hb hK hP hD hS (Fn2 := (va_up Fn 38 (upd (upd (Fn 38) 0 (In2 71)) 1 (In2 72)))) (by unfold vp_in; decide) (by decide) (bx_uu _ _ _ _) (oc_79 24 shX12_whyNot_24) (fun H locs hP hD hS => ?_)
  refine lv_aload_n hx hb (oc_42 25 (aq_1 shX12_whyNot_24)) rfl (lvA0 hl) ?_
  refine gM_89 S hK hP (v := .ref (g 38)) rfl (oc_180 26 (aq_2 shX12_whyNot_24) uw_0_89) ?_
  refine lv_iconst (v := 2) hx hb (oc_5 29 (aq_5 shX12_whyNot_24)) kic_2 ?_
  refine lv_aload_n hx hb (oc_42 30 (aq_6 shX12_whyNot_24)) rfl (lvA0 hl) ?_
  refine gM_425 S hK hP (v := .int (In2 73)) rfl (oc_180 31 (aq_7 shX12_whyNot_24) uw_1_169) ?_
  refine stM_38 hx hb hK hP hD hS (Fn2 := (va_up Fn 38 (upd (upd (upd (Fn 38) 0 (In2 71)) 1 (In2 72)) 2 (In2 73)))) (by unfold vp_in; decide) (by decide) (bx_uu _ _ _ _) (oc_79 34 (aq_10 shX12_whyNot_24)) (fun H locs hP hD hS => ?_)
  refine lv_aload_n hx hb (oc_42 35 (aq_11 shX12_whyNot_24)) rfl (lvA0 hl) ?_
  refine gM_89 S hK hP (v := .ref (g 38)) rfl (oc_180 36 (aq_12 shX12_whyNot_24) uw_0_89) ?_
  refine lv_iconst (v := 3) hx hb (oc_6 39 (aq_15 shX12_whyNot_24)) kic_3 ?_
  refine lv_aload_n hx hb (oc_42 40 (aq_16 shX12_whyNot_24)) rfl (lvA0 hl) ?_
  refine gM_211 S hK hP (v := .int (nI (cn 0))) rfl (oc_180 41 (aq_17 shX12_whyNot_24) uw_0_211) ?_
  refine stM_38 hx hb hK hP hD hS (Fn2 := (va_up Fn 38 (upd (upd (upd (upd (Fn 38) 0 (In2 71)) 1 (In2 72)) 2 (In2 73)) 3 (nI (cn 0))))) (by unfold vp_in; decide) (by decide) (bx_uu _ _ _ _) (oc_79 44 (aq_20 shX12_whyNot_24)) (fun H locs hP hD hS => ?_)
  refine lv_aload_n hx hb (oc_42 45 (aq_21 shX12_whyNot_24)) rfl (lvA0 hl) ?_
  refine gM_89 S hK hP (v := .ref (g 38)) rfl (oc_180 46 (aq_22 shX12_whyNot_24) uw_0_89) ?_
  refine lv_iconst (v := 4) hx hb (oc_7 49 shX12_whyNot_49) kic_4 ?_
  refine lv_aload_n hx hb (oc_42 50 (aq_1 shX12_whyNot_49)) rfl (lvA0 hl) ?_
  refine gM_211 S hK hP (v := .int (nI (cn 0))) rfl (oc_180 51 (aq_2 shX12_whyNot_49) uw_0_211) ?_
  refine lv_bipush (v := 7) hx hb (oc_16 54 (aq_5 shX12_whyNot_49) sgb_7) kbc_7 ?_
  refine lv_idiv hx hb (oc_108 56 (aq_7 shX12_whyNot_49)) (by decide) ?_
  refine lv_topi (fun y_3 ey_3 => ?_)
  obtain rfl : y_3 = (nI ((cn 0) / 7)) := ey_3.trans (nI_div (by (first | omega | (have zz0 := Hid.u hi_cn; omega))) (by decide))
  refine stM_38 hx hb hK hP hD hS (Fn2 := (va_up Fn 38 (upd (upd (upd (upd (upd (Fn 38) 0 (In2 71)) 1 (In2 72)) 2 (In2 73)) 3 (nI (cn 0))) 4 (nI ((cn 0) / 7))))) (by unfold vp_in; decide) (by decide) (bx_uu _ _ _ _) (oc_79 57 (aq_8 shX12_whyNot_49)) (fun H locs hP hD hS => ?_)
  refine lv_aload_n hx hb (oc_42 58 (aq_9 shX12_whyNot_49)) rfl (lvA0 hl) ?_
  refine gM_89 S hK hP (v := .ref (g 38)) rfl (oc_180 59 (aq_10 shX12_whyNot_49) uw_0_89) ?_
  refine lv_iconst (v := 5) hx hb (oc_8 62 (aq_13 shX12_whyNot_49)) kic_5 ?_
  refine lv_aload_n hx hb (oc_42 63 (aq_14 shX12_whyNot_49)) rfl (lvA0 hl) ?_
  refine gM_211 S hK hP (v := .int (nI (cn 0))) rfl (oc_180 64 (aq_15 shX12_whyNot_49) uw_0_211) ?_
  refine lv_bipush (v := 7) hx hb (oc_16 67 (aq_18 shX12_whyNot_49) sgb_7) kbc_7 ?_
  refine lv_irem hx hb (oc_112 69 (aq_20 shX12_whyNot_49)) (by decide) ?_
  refine lv_topi (fun y_4 ey_4 => ?_)
  obtain rfl : y_4 = (nI ((cn 0) % 7)) := ey_4.trans (nI_rem (by (first | omega | (have zz0 := Hid.u hi_cn; omega))) (by decide))
  refine stM_38 hx hb hK hP hD hS (Fn2 := (va_up Fn 38 (upd (upd (upd (upd (upd (upd (Fn 38) 0 (In2 71)) 1 (In2 72)) 2 (In2 73)) 3 (nI (cn 0))) 4 (nI ((cn 0) / 7))) 5 (nI ((cn 0) % 7))))) (by unfold vp_in; decide) (by decide) (bx_uu _ _ _ _) (oc_79 70 (aq_21 shX12_whyNot_49)) (fun H locs hP hD hS => ?_)
  refine lv_aload_n hx hb (oc_42 71 (aq_22 shX12_whyNot_49)) rfl (lvA0 hl) ?_
  refine gM_89 S hK hP (v := .ref (g 38)) rfl (oc_180 72 (aq_23 shX12_whyNot_49) uw_0_89) ?_
  refine lv_bipush (v := 6) hx hb (oc_16 75 shX12_whyNot_75 sgb_6) kbc_6 ?_
  refine lv_iconst (v := 0) hx hb (oc_3 77 (aq_2 shX12_whyNot_75)) kic_0 ?_
  refine stM_38 hx hb hK hP hD hS (Fn2 := (va_up Fn 38 (upd (upd (upd (upd (upd (upd (upd (Fn 38) 0 (In2 71)) 1 (In2 72)) 2 (In2 73)) 3 (nI (cn 0))) 4 (nI ((cn 0) / 7))) 5 (nI ((cn 0) % 7))) 6 0))) (by unfold vp_in; decide) (by decide) (bx_uu _ _ _ _) (oc_79 78 (aq_3 shX12_whyNot_75)) (fun H locs hP hD hS => ?_)
  refine lv_aload_n hx hb (oc_42 79 (aq_4 shX12_whyNot_75)) rfl (lvA0 hl) ?_
  refine gM_89 S hK hP (v := .ref (g 38)) rfl (oc_180 80 (aq_5 shX12_whyNot_75) uw_0_89) ?_
  refine lv_bipush (v := 7) hx hb (oc_16 83 (aq_8 shX12_whyNot_75) sgb_7) kbc_7 ?_
  refine lv_iconst (v := 0) hx hb (oc_3 85 (aq_10 shX12_whyNot_75)) kic_0 ?_
  refine stM_38 hx hb hK hP hD hS (Fn2 := (va_up Fn 38 (upd (upd (upd (upd (upd (upd (upd (upd (Fn 38) 0 (In2 71)) 1 (In2 72)) 2 (In2 73)) 3 (nI (cn 0))) 4 (nI ((cn 0) / 7))) 5 (nI ((cn 0) % 7))) 6 0) 7 0))) (by unfold vp_in; decide) (by decide) (bx_uu _ _ _ _) (oc_79 86 (aq_11 shX12_whyNot_75)) (fun H locs hP hD hS => ?_)
  refine lv_aload_n hx hb (oc_42 87 (aq_12 shX12_whyNot_75)) rfl (lvA0 hl) ?_
  refine gM_89 S hK hP (v := .ref (g 38)) rfl (oc_180 88 (aq_13 shX12_whyNot_75) uw_0_89) ?_
  refine lv_bipush (v := 8) hx hb (oc_16 91 (aq_16 shX12_whyNot_75) sgb_8) kbc_8 ?_
  refine lv_iconst (v := 0) hx hb (oc_3 93 (aq_18 shX12_whyNot_75)) kic_0 ?_
  refine stM_38 hx hb hK hP hD hS (Fn2 := (va_up Fn 38 (upd (upd (upd (upd (upd (upd (upd (upd (upd (Fn 38) 0 (In2 71)) 1 (In2 72)) 2 (In2 73)) 3 (nI (cn 0))) 4 (nI ((cn 0) / 7))) 5 (nI ((cn 0) % 7))) 6 0) 7 0) 8 0))) (by unfold vp_in; decide) (by decide) (bx_uu _ _ _ _) (oc_79 94 (aq_19 shX12_whyNot_75)) (fun H locs hP hD hS => ?_)
  refine lv_aload_n hx hb (oc_42 95 (aq_20 shX12_whyNot_75)) rfl (lvA0 hl) ?_
  refine gM_89 S hK hP (v := .ref (g 38)) rfl (oc_180 96 (aq_21 shX12_whyNot_75) uw_0_89) ?_
  refine lv_bipush (v := 9) hx hb (oc_16 99 shX12_whyNot_99 sgb_9) kbc_9 ?_
  refine lv_aload_n hx hb (oc_42 101 (aq_2 shX12_whyNot_99)) rfl (lvA0 hl) ?_
  refine gM_92 S hK hP (v := .ref (g 39)) rfl (oc_180 102 (aq_3 shX12_whyNot_99) uw_0_92) ?_
  refine lv_aload_n hx hb (oc_42 105 (aq_6 shX12_whyNot_99)) rfl (lvA0 hl) ?_
  refine gM_211 S hK hP (v := .int (nI (cn 0))) rfl (oc_180 106 (aq_7 shX12_whyNot_99) uw_0_211) ?_
  refine lv_bipush (v := 7) hx hb (oc_16 109 (aq_10 shX12_whyNot_99) sgb_7) kbc_7 ?_
  refine lv_idiv hx hb (oc_108 111 (aq_12 shX12_whyNot_99)) (by decide) ?_
  refine lv_topi (fun y_5 ey_5 => ?_)
  obtain rfl : y_5 = (nI ((cn 0) / 7)) := ey_5.trans (nI_div (by (first | omega | (have zz0 := Hid.u hi_cn; omega))) (by decide))
  have kb_1 : ((cn 0) / 7) < 58 := by (first | omega | (have zz0 := Hid.u hi_cn; omega))
  refine ldM_39 hx hb hK hP (x := ((Fn 39) ((cn 0) / 7))) (vp_in_nI kb_1 (ltb rfl)) (nI_clamp (Nat.lt_trans kb_1 (ltb rfl))) rfl (oc_46 112 (aq_13 shX12_whyNot_99)) ?_
  refine stM_38 hx hb hK hP hD hS (Fn2 := (va_up Fn 38 (upd (upd (upd (upd (upd (upd (upd (upd (upd (upd (Fn 38) 0 (In2 71)) 1 (In2 72)) 2 (In2 73)) 3 (nI (cn 0))) 4 (nI ((cn 0) / 7))) 5 (nI ((cn 0) % 7))) 6 0) 7 0) 8 0) 9 ((Fn 39) ((cn 0) / 7))))) (by unfold vp_in; decide) (by decide) (bx_uu _ _ _ _) (oc_79 113 (aq_14 shX12_whyNot_99)) (fun H locs hP hD hS => ?_)
  refine lv_aload_n hx hb (oc_42 114 (aq_15 shX12_whyNot_99)) rfl (lvA0 hl) ?_
  refine gM_89 S hK hP (v := .ref (g 38)) rfl (oc_180 115 (aq_16 shX12_whyNot_99) uw_0_89) ?_
  refine lv_bipush (v := 10) hx hb (oc_16 118 (aq_19 shX12_whyNot_99) sgb_10) kbc_10 ?_
  refine lv_iload_n hx hb (oc_27 120 (aq_21 shX12_whyNot_99)) rfl (lvA1 hl) ?_
  refine vp_callSi (runS_r (As := [.int v0]) (rest := [.int 10, .ref (g 38)]) S (q_bits9 l D cI cB cZ v0 ) kS_RX12_431 hK hP [] rfl ⟨Nat.le_of_ble_eq_true rfl, Nat.le_of_ble_eq_true rfl⟩ ⟨Nat.le_of_ble_eq_true rfl, Nat.le_of_ble_eq_true rfl⟩ rfl hl.1 rfl (Nat.le_of_ble_eq_true rfl) (oc_184 121 (aq_22 shX12_whyNot_99) uw_1_175)) (fun r_6 h_7 => ?_)
  obtain rfl : r_6 = (mxI (fun _ => 1) v0 20) := h_7
  refine stM_38 hx hb hK hP hD hS (Fn2 := (va_up Fn 38 (upd (upd (upd (upd (upd (upd (upd (upd (upd (upd (upd (Fn 38) 0 (In2 71)) 1 (In2 72)) 2 (In2 73)) 3 (nI (cn 0))) 4 (nI ((cn 0) / 7))) 5 (nI ((cn 0) % 7))) 6 0) 7 0) 8 0) 9 ((Fn 39) ((cn 0) / 7))) 10 (mxI (fun _ => 1) v0 20)))) (by unfold vp_in; decide) (by decide) (bx_uu _ _ _ _) (oc_79 124 shX12_whyNot_124) (fun H locs hP hD hS => ?_)
  have hft : cut (upd (upd (upd (upd (upd (upd (upd (upd (upd (upd (upd (Fn 38) 0 (In2 71)) 1 (In2 72)) 2 (In2 73)) 3 (nI (cn 0))) 4 (nI ((cn 0) / 7))) 5 (nI ((cn 0) % 7))) 6 0) 7 0) 8 0) 9 ((Fn 39) ((cn 0) / 7))) 10 (mxI (fun _ => 1) v0 20)) = cut (mxL (Fn 10) (Fn 11) (Fn 12) (Fn 39) v0 (cn 0)) := by rw [hx71, hx72, hx73]; exact lfb_mo (by (first | omega | (have zz0 := Hid.u hi_cn; omega)))
  refine lv_bipush (v := 120) hx hb (oc_16 125 (aq_1 shX12_whyNot_124) sgb_120) kbc_120 ?_
  refine lv_istore_n (lv' := [(2, .int 120), (0, .ref (g 100)), (1, .int v0)]) hx hb (oc_61 127 (aq_3 shX12_whyNot_124)) rfl hl (ltb rfl) rfl (fun ls hl => ?_)
  have lp_128 : ∀ (n : Nat) (i128 : Nat) (F128 : Nat → Nat → Int32) (H : Heap) (locs : List Loc) , 120 + cl.length - i128 < n → ((120 ≤ i128 ∧ i128 ≤ 120 + cl.length) ∧ Fr [] [71, 72, 73] [37, 38] cn In Fn cn In2 F128 ∧ IM cn F128 ∧ (∀ (i : Nat) (w : Nat × Nat × Nat), 120 + i < i128 → cl[i]? = some w → ¬ b01 (MV o (cut (mxL (Fn 10) (Fn 11) (Fn 12) (Fn 39) v0 (cn 0))) w.2.1 w.2.2) = 0) ∧ (cut (F128 38) = cut (mxL (Fn 10) (Fn 11) (Fn 12) (Fn 39) v0 (cn 0)))) → va_P D vwCl (wM cI cB cZ g cn In2 F128) H → va_D A (wM cI cB cZ g cn In2 F128) → va_S A s.heap H locs → ∀ ls : Array Slot, lv_has ls 3 [(2, .int (nI i128)), (0, .ref (g 100)), (1, .int v0)] → W p l e (RM 2 0 0) s m ([.ref (g 100), .int v0]).toArray below meth c H locs 0 0 (MQ below (va_Qi (fun (r : Int32) (u : (Nat → Nat) × (Nat → Int32) × (Nat → Nat → Int32)) => (fun r c2 I2 F2 => Fr [] [71, 72, 73] [37, 38] cn In Fn c2 I2 F2 ∧ IM c2 F2 ∧ ((FTX o (cut (mxL (Fn 10) (Fn 11) (Fn 12) (Fn 39) v0 (cn 0))) cl 0 r) ∧ I2 71 = mxI (Fn 10) v0 20)) r u.1 u.2.1 u.2.2) (fun (u : (Nat → Nat) × (Nat → Int32) × (Nat → Nat → Int32)) (t : State) => va_P D vwCl (wM cI cB cZ g u.1 u.2.1 u.2.2) t.heap ∧ va_D A (wM cI cB cZ g u.1 u.2.1 u.2.2)) A) ([.ref (g 100), .int v0]).toArray s 0 0 A) (F0 m 128 ls []) := by
    intro n128
    induction n128 with
    | zero => intros; (first | omega | (have zz0 := Hid.u hi_cn; omega))
    | succ n128 ih128 =>
      intro i128 F128 H locs hmu128 hinv128 hP hD hS ls hl
      obtain ⟨hr128, hfr128, hI128, hx128_0, hx128_1⟩ := hinv128
      have ti128 : (nI i128).toInt = (i128 : Int) := nI_toInt (by (first | omega | (have zz0 := Hid.u hi_cn; omega)))
      have hi_cn : Hid (CB cn) := hI128.b
      refine lv_iload_n hx hb (oc_28 128 (aq_4 shX12_whyNot_124)) rfl (lvA0 hl) ?_
      refine lv_bipush (v := 120) hx hb (oc_16 129 (aq_5 shX12_whyNot_124) sgb_120) kbc_120 ?_
      refine lv_aload_n hx hb (oc_42 131 (aq_7 shX12_whyNot_124)) rfl (lvA1 hl) ?_
      refine gM_74 S hK hP (v := .ref (g 33)) rfl (oc_180 132 (aq_8 shX12_whyNot_124) uw_0_74) ?_
      refine lv_bipush (v := 10) hx hb (oc_16 135 (aq_11 shX12_whyNot_124) sgb_10) kbc_10 ?_
      refine ldM_33 hx hb hK hP (x := ((F128 33) 10)) (by unfold vp_in; decide) (by decide) rfl (oc_46 137 (aq_13 shX12_whyNot_124)) ?_
      refine lv_topi (fun y_8 ey_8 => ?_)
      obtain rfl : y_8 = (nI cl.length) := ey_8.trans ((congrFun (hfr128.2.2 33 (nml rfl)) 10).trans hM.1)
      refine lv_iadd hx hb (oc_96 138 (aq_14 shX12_whyNot_124)) ?_
      refine lv_topi (fun y_9 ey_9 => ?_)
      obtain rfl : y_9 = (nI (120 + cl.length)) := ey_9.trans (nI_add 120 cl.length)
      have : (nI (120 + cl.length)).toInt = (((120 + cl.length) : Nat) : Int) := nI_toInt (by (first | omega | (have zz0 := Hid.u hi_cn; omega)))
      refine lv_icmp_ge (tgt := 173) hx hb (oc_162 139 (aq_15 shX12_whyNot_124) sgw_0_34) rfl (fun c_10 => ?_) (fun c_10 => ?_)
      ·
        have tc_10 : ((nI (120 + cl.length)).toInt : Int) ≤ (nI i128).toInt := Int32.le_iff_toInt_le.mp c_10
        refine lv_iconst (v := (-1)) hx hb (oc_2 173 shX12_whyNot_173) kic_m1 ?_
        exact W.iret (v := (-1)) hx hb hr (fun t ht hW => ⟨⟨(-1), (cn, In2, F128), rfl, ⟨(Fr.mo hfr128 (sbl rfl) (sbl rfl) (sbl rfl)), hI128, (by show (FTX o (cut (mxL (Fn 10) (Fn 11) (Fn 12) (Fn 39) v0 (cn 0))) cl 0 (-1)) ∧ In2 71 = mxI (Fn 10) v0 20; refine ⟨?_, hx71⟩; exact Or.inr ⟨fun i w hw => hx128_0 i w (by have := (List.getElem?_eq_some_iff.mp hw).1; (first | omega | (have zz0 := Hid.u hi_cn; omega))) hw, rfl⟩)⟩, by rw [ht]; exact hP, hD⟩, hS.F ht⟩) hS.2.2 (oc_172 174 (aq_1 shX12_whyNot_173))
      ·
        have tc_10 : ((nI i128).toInt : Int) < (nI (120 + cl.length)).toInt := Int32.lt_iff_toInt_lt.mp (Int32.not_le.mp c_10)
        obtain ⟨z9, hz9⟩ : ∃ z : Nat × Nat × Nat, cl[i128 - 120]? = some z := ⟨_, List.getElem?_eq_getElem (by (first | omega | (have zz0 := Hid.u hi_cn; omega)))⟩
        obtain ⟨hc34, hc35, hc36⟩ := hM.clp (F2 := F128) (k := i128) (by exact hz9) (by (first | omega | (have zz0 := Hid.u hi_cn; omega))) (hfr128.2.2 34 (nml rfl)) (hfr128.2.2 35 (nml rfl)) (hfr128.2.2 36 (nml rfl))
        refine lv_aload_n hx hb (oc_42 142 (aq_18 shX12_whyNot_124)) rfl (lvA1 hl) ?_
        refine lv_aload_n hx hb (oc_42 143 (aq_19 shX12_whyNot_124)) rfl (lvA1 hl) ?_
        refine gM_80 S hK hP (v := .ref (g 35)) rfl (oc_180 144 (aq_20 shX12_whyNot_124) uw_0_80) ?_
        refine lv_iload_n hx hb (oc_28 147 (aq_23 shX12_whyNot_124)) rfl (lvA0 hl) ?_
        have kb_2 : i128 < 132 := by (first | omega | (have zz0 := Hid.u hi_cn; omega))
        refine ldM_35 hx hb hK hP (x := ((F128 35) i128)) (vp_in_nI kb_2 (ltb rfl)) (nI_clamp (Nat.lt_trans kb_2 (ltb rfl))) rfl (oc_46 148 shX12_whyNot_148) ?_
        refine lv_topi (fun y_11 ey_11 => ?_)
        obtain rfl : y_11 = (nI (180 * 10 + z9.2.1)) := ey_11.trans hc35
        refine lv_aload_n hx hb (oc_42 149 (aq_1 shX12_whyNot_148)) rfl (lvA1 hl) ?_
        refine gM_83 S hK hP (v := .ref (g 36)) rfl (oc_180 150 (aq_2 shX12_whyNot_148) uw_0_83) ?_
        refine lv_iload_n hx hb (oc_28 153 (aq_5 shX12_whyNot_148)) rfl (lvA0 hl) ?_
        refine ldM_36 hx hb hK hP (x := ((F128 36) i128)) (vp_in_nI kb_2 (ltb rfl)) (nI_clamp (Nat.lt_trans kb_2 (ltb rfl))) rfl (oc_46 154 (aq_6 shX12_whyNot_148)) ?_
        refine lv_topi (fun y_12 ey_12 => ?_)
        obtain rfl : y_12 = (nI (180 * 10 + z9.2.2)) := ey_12.trans hc36
        have hFc := free_all hD hS hA
        refine va_calli (runV_a (As := [.int (nI (180 * 10 + z9.2.1)), .int (nI (180 * 10 + z9.2.2))]) (rest := []) S (q_comesTo9 l D cI cB cZ g cn In2 F128 10 z9.2.1 z9.2.2 (180 * 10 + z9.2.1) (180 * 10 + z9.2.2) o cl true H.size hI128 (hM.cf (hfr128.2.2 32 (nml rfl)) (hfr128.2.2 33 (nml rfl)) (hfr128.2.2 34 (nml rfl)) (hfr128.2.2 35 (nml rfl)) (hfr128.2.2 36 (nml rfl))) (hG _ (List.mem_of_getElem? hz9)).2 (by decide) hL.1 ⟨rfl, rfl⟩) kV_RX12_331 hK hP hD 0 rfl rfl rfl ⟨Nat.le_of_ble_eq_true rfl, Nat.le_of_ble_eq_true rfl⟩ ⟨Nat.le_of_ble_eq_true rfl, Nat.le_of_ble_eq_true rfl⟩ rfl hl.1 rfl (Nat.le_of_ble_eq_true rfl) (oc_182 155 (aq_7 shX12_whyNot_148) uw_1_75)) hS (fun q _ h => hFc q h) hFc (fun r_13 u t H1 locs ht hvm wh_14 hB hz1 hk1 hS => ?_)
        obtain ⟨cn14, In14, Fn14⟩ := u
        obtain ⟨hP1, hD1⟩ := hB
        rw [ht] at hP1
        have hP : va_P D vwCl (wM cI cB cZ g cn14 In14 Fn14) H1 := hP1
        have hD : va_D A (wM cI cB cZ g cn14 In14 Fn14) := hD1.weaken (fun _ _ _ h => hFc _ h)
        generalize H1 = H at hP hS ⊢
        have vh_14 : (fun r c2 I2 F2 => Fr [] [] [37] cn In2 F128 c2 I2 F2 ∧ IM c2 F2 ∧ (r = MV o (cut ((F128 38))) z9.2.1 z9.2.2 ∧ (true = true → r = 0 ∨ r = 1))) r_13 cn14 In14 Fn14 := wh_14
        obtain ⟨hfc14, hIn14, h_14⟩ := vh_14
        obtain rfl : cn = cn14 := (funext (fun k => hfc14.1 k List.not_mem_nil)).symm
        obtain rfl : In2 = In14 := (funext (fun k => hfc14.2.1 k List.not_mem_nil)).symm
        have hf14 : Fr [] [71, 72, 73] [37, 38] cn In Fn cn In2 Fn14 := Fr.mo (Fr.tr hfr128 hfc14) (sbl rfl) (sbl rfl) (sbl rfl)
        have hi_cn : Hid (CB cn) := hIn14.b
        have hm1 := h_14.1
        rw [hx128_1] at hm1
        have hm01 := h_14.2 rfl
        refine lv_iconst (v := 1) hx hb (oc_4 158 (aq_10 shX12_whyNot_148)) kic_1 ?_
        refine lv_icmp_eq (tgt := 167) hx hb (oc_159 159 (aq_11 shX12_whyNot_148) sgw_0_8) rfl (fun c_15 => ?_) (fun c_15 => ?_)
        ·
          have tc_15 : (r_13.toInt : Int) = 1 := congrArg Int32.toInt c_15
          refine lv_iinc (v := (nI (i128 + 1))) (lv' := [(2, .int (nI (i128 + 1))), (0, .ref (g 100)), (1, .int v0)]) hx hb (oc_132 167 (aq_19 shX12_whyNot_148) ub_2 sgb_1) hl (k := 0) rfl (nI_1 _) (ltb rfl) rfl (fun ls hl => ?_)
          refine lv_goto (tgt := 128) hx hb (oc_167 170 (aq_22 shX12_whyNot_148) sgw_255_214) rfl ?_
          exact ih128 (i128 + 1) Fn14 _ _ (by (first | omega | (have zz0 := Hid.u hi_cn; omega))) ⟨(by (first | omega | (have zz0 := Hid.u hi_cn; omega))), (Fr.mo hf14 (sbl rfl) (sbl rfl) (sbl rfl)), hIn14, (fun i w hi hw => if q : 120 + i < i128 then hx128_0 i w q hw else (by obtain rfl : i = i128 - 120 := (by (first | omega | (have zz0 := Hid.u hi_cn; omega))); rw [hz9] at hw; obtain rfl : z9 = w := Option.some.inj hw; rw [← hm1, show r_13 = 1 from (by first | assumption | exact Int32.toInt_inj.mp (by assumption))]; decide)), (by rw [show Fn14 38 = F128 38 from hfc14.2.2 38 (nml rfl)]; exact hx128_1)⟩ hP hD hS ls (lv_sub hl [0, 1, 2] rfl)
        ·
          have tc_15 : (r_13.toInt : Int) ≠ 1 := fun q => c_15 (Int32.toInt_inj.mp q)
          refine lv_iload_n hx hb (oc_28 162 (aq_14 shX12_whyNot_148)) rfl (lvA0 hl) ?_
          refine lv_bipush (v := 120) hx hb (oc_16 163 (aq_15 shX12_whyNot_148) sgb_120) kbc_120 ?_
          refine lv_isub hx hb (oc_100 165 (aq_17 shX12_whyNot_148)) ?_
          refine lv_topi (fun y_16 ey_16 => ?_)
          obtain rfl : y_16 = (nI (i128 - 120)) := ey_16.trans (nI_sub (b := 120) (by (first | omega | (have zz0 := Hid.u hi_cn; omega))))
          exact W.iret (v := (nI (i128 - 120))) hx hb hr (fun t ht hW => ⟨⟨(nI (i128 - 120)), (cn, In2, Fn14), rfl, ⟨(Fr.mo hf14 (sbl rfl) (sbl rfl) (sbl rfl)), hIn14, (by show (FTX o (cut (mxL (Fn 10) (Fn 11) (Fn 12) (Fn 39) v0 (cn 0))) cl 0 (nI (i128 - 120))) ∧ In2 71 = mxI (Fn 10) v0 20; refine ⟨?_, hx71⟩; exact Or.inl ⟨i128 - 120, z9, hz9, (by rw [← hm1, hm01.resolve_right (by first | assumption | exact fun q => absurd (congrArg Int32.toInt q) (by assumption))]; rfl), fun i w hi hw => hx128_0 i w (by (first | omega | (have zz0 := Hid.u hi_cn; omega))) hw, rfl⟩)⟩, by rw [ht]; exact hP, hD⟩, hS.F ht⟩) hS.2.2 (oc_172 166 (aq_18 shX12_whyNot_148))
  exact lp_128 _ 120 (va_up Fn 38 (upd (upd (upd (upd (upd (upd (upd (upd (upd (upd (upd (Fn 38) 0 (In2 71)) 1 (In2 72)) 2 (In2 73)) 3 (nI (cn 0))) 4 (nI ((cn 0) / 7))) 5 (nI ((cn 0) % 7))) 6 0) 7 0) 8 0) 9 ((Fn 39) ((cn 0) / 7))) 10 (mxI (fun _ => 1) v0 20))) _ _ (Nat.lt_succ_self _) ⟨(by (first | omega | (have zz0 := Hid.u hi_cn; omega))), (Fr.mo (Fr.f 38 hf2) (sbl rfl) (sbl rfl) (sbl rfl)), (IM.fr (In := In2) hIn2 (Fr.f 38 Fr.rf) (by decide) (by decide)), (fun i w hi hw => by (first | omega | (have zz0 := Hid.u hi_cn; omega))), hft⟩ hP hD hS ls (lv_sub hl [0, 1, 2] rfl)
set_option maxRecDepth 100000 in
set_option maxHeartbeats 4000000 in
theorem q_blend9 (l : Launch) (D : va_G) (cI cB cZ : ClassId) (g : Nat → Nat) (cn : Nat → Nat) (In : Nat → Int32) (Fn : Nat → Nat → Int32) (o : OutT) (cl : ClsT) (sz : Nat) (hI : IM cn Fn) (hM : MTx Fn 10 o cl) (hG : CLG 108 o cl) (hL : o.length ≤ 160 ∧ cl.length ≤ 12) : Met l yX12_blend (CWS yX12_blend cX12_blend 7 (some .int)) (RM 3 0 0) (PBw [.ref (g 100)] D cI cB cZ (wM cI cB cZ g cn In Fn) sz) (va_Qi (fun (r : Int32) (u : (Nat → Nat) × (Nat → Int32) × (Nat → Nat → Int32)) => (fun r c2 I2 F2 => Fr [] [71, 72, 73] [37, 38, 74] cn In Fn c2 I2 F2 ∧ IM c2 F2 ∧ (∃ (l : List Nat) (f : Nat → Int32), GL (fun k9 => k9 < cn 2 ∧ Fn 15 k9 = -1 ∧ (Fn 13 k9).toInt ≤ (cn 0 : Int)) 20 l ∧ RWL f l ∧ BLR (fun c => SXB f (fun j => c.testBit j) l.length) (BTR (Fn 10)) (fun s9 => FTX o (cut (mxL (Fn 10) (Fn 11) (Fn 12) (Fn 39) s9 (cn 0))) cl 0 (-1)) (2 ^ l.length - 1) r)) r u.1 u.2.1 u.2.2) (fun (u : (Nat → Nat) × (Nat → Int32) × (Nat → Nat → Int32)) (t : State) => va_P D vwCl (wM cI cB cZ g u.1 u.2.1 u.2.2) t.heap ∧ va_D (va_A (wM cI cB cZ g cn In Fn) sz) (wM cI cB cZ g u.1 u.2.1 u.2.2)) (va_A (wM cI cB cZ g cn In Fn) sz)) 0 0 (va_A (wM cI cB cZ g cn In Fn) sz) := by
  refine en_w (fun A => (va_Qi (fun (r : Int32) (u : (Nat → Nat) × (Nat → Int32) × (Nat → Nat → Int32)) => (fun (r : Int32) (c2 : Nat → Nat) (I2 : Nat → Int32) (F2 : Nat → Nat → Int32) => Fr [] [71, 72, 73] [37, 38, 74] cn In Fn c2 I2 F2 ∧ IM c2 F2 ∧ (∃ (l : List Nat) (f : Nat → Int32), GL (fun k9 => k9 < cn 2 ∧ Fn 15 k9 = -1 ∧ (Fn 13 k9).toInt ≤ (cn 0 : Int)) 20 l ∧ RWL f l ∧ BLR (fun c => SXB f (fun j => c.testBit j) l.length) (BTR (Fn 10)) (fun s9 => FTX o (cut (mxL (Fn 10) (Fn 11) (Fn 12) (Fn 39) s9 (cn 0))) cl 0 (-1)) (2 ^ l.length - 1) r)) r u.1 u.2.1 u.2.2) (fun (u : (Nat → Nat) × (Nat → Int32) × (Nat → Nat → Int32)) (t : State) => va_P D vwCl (wM cI cB cZ g u.1 u.2.1 u.2.2) t.heap ∧ va_D A (wM cI cB cZ g u.1 u.2.1 u.2.2)) A)) rfl rfl pn_RX12 (Nat.le_of_ble_eq_true rfl) (fun p e s m below meth c A hx hb hml hown S hr hlocks hnm hA hP hK hD hS ls hl => ?_)
  have hl : lv_has ls 7 [(0, .ref (g 100))] := hl
  have hi_cn : Hid (CB cn) := hI.b
  refine lv_iconst (v := 0) hx hb (oc_3 0 shX12_blend_0) kic_0 ?_
  refine lv_istore_n (lv' := [(1, .int 0), (0, .ref (g 100))]) hx hb (oc_60 1 (aq_1 shX12_blend_0)) rfl hl (ltb rfl) rfl (fun ls hl => ?_)
  refine lv_iconst (v := 0) hx hb (oc_3 2 (aq_2 shX12_blend_0)) kic_0 ?_
  refine lv_istore_n (lv' := [(2, .int 0), (1, .int 0), (0, .ref (g 100))]) hx hb (oc_61 3 (aq_3 shX12_blend_0)) rfl hl (ltb rfl) rfl (fun ls hl => ?_)
  have lp_4 : ∀ (n : Nat) (i4 : Nat) (n4 : Nat) (F4 : Nat → Nat → Int32) (H : Heap) (locs : List Loc) , 20 - i4 < n → (i4 ≤ 20 ∧ Fr [] [71, 72, 73] [37, 38, 74] cn In Fn cn In F4 ∧ IM cn F4 ∧ (n4 ≤ i4 ∧ n4 ≤ 12) ∧ (∃ l : List Nat, GL (fun k9 => k9 < cn 2 ∧ Fn 15 k9 = -1 ∧ (Fn 13 k9).toInt ≤ (cn 0 : Int)) i4 l ∧ n4 = l.length ∧ RWL (F4 74) l)) → va_P D vwCl (wM cI cB cZ g cn In F4) H → va_D A (wM cI cB cZ g cn In F4) → va_S A s.heap H locs → ∀ ls : Array Slot, lv_has ls 7 [(2, .int (nI i4)), (1, .int (nI n4)), (0, .ref (g 100))] → W p l e (RM 3 0 0) s m ([.ref (g 100)]).toArray below meth c H locs 0 0 (MQ below (va_Qi (fun (r : Int32) (u : (Nat → Nat) × (Nat → Int32) × (Nat → Nat → Int32)) => (fun r c2 I2 F2 => Fr [] [71, 72, 73] [37, 38, 74] cn In Fn c2 I2 F2 ∧ IM c2 F2 ∧ (∃ (l : List Nat) (f : Nat → Int32), GL (fun k9 => k9 < cn 2 ∧ Fn 15 k9 = -1 ∧ (Fn 13 k9).toInt ≤ (cn 0 : Int)) 20 l ∧ RWL f l ∧ BLR (fun c => SXB f (fun j => c.testBit j) l.length) (BTR (Fn 10)) (fun s9 => FTX o (cut (mxL (Fn 10) (Fn 11) (Fn 12) (Fn 39) s9 (cn 0))) cl 0 (-1)) (2 ^ l.length - 1) r)) r u.1 u.2.1 u.2.2) (fun (u : (Nat → Nat) × (Nat → Int32) × (Nat → Nat → Int32)) (t : State) => va_P D vwCl (wM cI cB cZ g u.1 u.2.1 u.2.2) t.heap ∧ va_D A (wM cI cB cZ g u.1 u.2.1 u.2.2)) A) ([.ref (g 100)]).toArray s 0 0 A) (F0 m 4 ls []) := by
    intro n4
    induction n4 with
    | zero => intros; (first | omega | (have zz0 := Hid.u hi_cn; omega))
    | succ n4 ih4 =>
      intro i4 n4 F4 H locs hmu4 hinv4 hP hD hS ls hl
      obtain ⟨hr4, hfr4, hI4, hx4_0, hx4_1⟩ := hinv4
      have ti4 : (nI i4).toInt = (i4 : Int) := nI_toInt (by (first | omega | (have zz0 := Hid.u hi_cn; omega)))
      have hi_cn : Hid (CB cn) := hI4.b
      obtain ⟨l9, hg9, hn9, hr9⟩ := hx4_1
      refine lv_iload_n hx hb (oc_28 4 (aq_4 shX12_blend_0)) rfl (lvA0 hl) ?_
      refine lv_bipush (v := 20) hx hb (oc_16 5 (aq_5 shX12_blend_0) sgb_20) kbc_20 ?_
      refine lv_icmp_ge (tgt := 44) hx hb (oc_162 7 (aq_7 shX12_blend_0) sgw_0_37) rfl (fun c_1 => ?_) (fun c_1 => ?_)
      ·
        have tc_1 : (20 : Int) ≤ (nI i4).toInt := Int32.le_iff_toInt_le.mp c_1
        have hg8 := GL.fin hg9 (by (first | omega | (have zz0 := Hid.u hi_cn; omega))) (by (first | omega | (have zz0 := Hid.u hi_cn; omega)))
        have h2p := p2b (n := n4) (by (first | omega | (have zz0 := Hid.u hi_cn; omega)))
        have h2q : (nI (2 ^ n4)).toInt = ((2 ^ n4 : Nat) : Int) := nI_toInt (by (first | omega | (have zz0 := Hid.u hi_cn; omega)))
        have hrow9 : ∀ k : Nat, k < n4 → ∃ z : Nat, z < 20 ∧ F4 74 k = nI z := fun k hk => by obtain ⟨z, h1, -, h3⟩ := hg8.row hr9 k (by (first | omega | (have zz0 := Hid.u hi_cn; omega))); exact ⟨z, h1, h3⟩
        have hdis9 : ∀ j k : Nat, j < k → k < n4 → ¬ F4 74 j = F4 74 k := fun j k hjk hk => hg8.dis hr9 j k hjk (by (first | omega | (have zz0 := Hid.u hi_cn; omega)))
        refine lv_iconst (v := 0) hx hb dX12_blend_44 kic_0 ?_
        refine lv_istore_n (lv' := [(2, .int 0), (1, .int (nI n4)), (0, .ref (g 100))]) hx hb dX12_blend_45 rfl hl (ltb rfl) rfl (fun ls hl => ?_)
        refine lv_iconst (v := 0) hx hb dX12_blend_46 kic_0 ?_
        refine lv_istore_n (lv' := [(3, .int 0), (2, .int 0), (1, .int (nI n4)), (0, .ref (g 100))]) hx hb dX12_blend_47 rfl hl (ltb rfl) rfl (fun ls hl => ?_)
        refine lv_iconst (v := 1) hx hb dX12_blend_48 kic_1 ?_
        refine lv_istore (lv' := [(4, .int 1), (3, .int 0), (2, .int 0), (1, .int (nI n4)), (0, .ref (g 100))]) hx hb dX12_blend_49 hl (ltb rfl) rfl (fun ls hl => ?_)
        have lp_51 : ∀ (n : Nat) (i51 : Nat) (x51_2 : Int32) (x51_3 : Int32) (I51 : Nat → Int32) (F51 : Nat → Nat → Int32) (H : Heap) (locs : List Loc) , 2 ^ n4 - i51 < n → ((1 ≤ i51 ∧ i51 ≤ 2 ^ n4) ∧ Fr [] [71, 72, 73] [37, 38, 74] cn In Fn cn I51 F51 ∧ IM cn F51 ∧ (F51 74 = F4 74) ∧ (BLR (fun c => SXB (F4 74) (fun j => c.testBit j) n4) (BTR (Fn 10)) (fun s9 => FTX o (cut (mxL (Fn 10) (Fn 11) (Fn 12) (Fn 39) s9 (cn 0))) cl 0 (-1)) (i51 - 1) x51_2) ∧ (x51_2 = 0 ∨ x51_3 = mxI (Fn 10) x51_2 20)) → va_P D vwCl (wM cI cB cZ g cn I51 F51) H → va_D A (wM cI cB cZ g cn I51 F51) → va_S A s.heap H locs → ∀ ls : Array Slot, lv_has ls 7 [(4, .int (nI i51)), (3, .int x51_3), (2, .int x51_2), (1, .int (nI n4)), (0, .ref (g 100))] → W p l e (RM 3 0 0) s m ([.ref (g 100)]).toArray below meth c H locs 0 0 (MQ below (va_Qi (fun (r : Int32) (u : (Nat → Nat) × (Nat → Int32) × (Nat → Nat → Int32)) => (fun r c2 I2 F2 => Fr [] [71, 72, 73] [37, 38, 74] cn In Fn c2 I2 F2 ∧ IM c2 F2 ∧ (∃ (l : List Nat) (f : Nat → Int32), GL (fun k9 => k9 < cn 2 ∧ Fn 15 k9 = -1 ∧ (Fn 13 k9).toInt ≤ (cn 0 : Int)) 20 l ∧ RWL f l ∧ BLR (fun c => SXB f (fun j => c.testBit j) l.length) (BTR (Fn 10)) (fun s9 => FTX o (cut (mxL (Fn 10) (Fn 11) (Fn 12) (Fn 39) s9 (cn 0))) cl 0 (-1)) (2 ^ l.length - 1) r)) r u.1 u.2.1 u.2.2) (fun (u : (Nat → Nat) × (Nat → Int32) × (Nat → Nat → Int32)) (t : State) => va_P D vwCl (wM cI cB cZ g u.1 u.2.1 u.2.2) t.heap ∧ va_D A (wM cI cB cZ g u.1 u.2.1 u.2.2)) A) ([.ref (g 100)]).toArray s 0 0 A) (F0 m 51 ls []) := by
          intro n51
          induction n51 with
          | zero => intros; (first | omega | (have zz0 := Hid.u hi_cn; omega))
          | succ n51 ih51 =>
            intro i51 x51_2 x51_3 I51 F51 H locs hmu51 hinv51 hP hD hS ls hl
            obtain ⟨hr51, hfr51, hI51, hx51_0, hx51_1, hx51_2⟩ := hinv51
            have ti51 : (nI i51).toInt = (i51 : Int) := nI_toInt (by (first | omega | (have zz0 := Hid.u hi_cn; omega)))
            have hi_cn : Hid (CB cn) := hI51.b
            refine lv_iload hx hb dX12_blend_51 (lvA0 hl) ?_
            refine lv_iconst (v := 1) hx hb dX12_blend_53 kic_1 ?_
            refine lv_iload_n hx hb dX12_blend_54 rfl (lvA3 hl) ?_
            refine lv_ishl hx hb dX12_blend_55 ?_
            refine lv_topi (fun y_2 ey_2 => ?_)
            obtain rfl : y_2 = (nI (2 ^ n4)) := ey_2.trans (sh1 (by (first | omega | (have zz0 := Hid.u hi_cn; omega))))
            have : (nI (2 ^ n4)).toInt = (((2 ^ n4) : Nat) : Int) := nI_toInt (by (first | omega | (have zz0 := Hid.u hi_cn; omega)))
            refine lv_icmp_ge (tgt := 166) hx hb dX12_blend_56 rfl (fun c_3 => ?_) (fun c_3 => ?_)
            ·
              have tc_3 : ((nI (2 ^ n4)).toInt : Int) ≤ (nI i51).toInt := Int32.le_iff_toInt_le.mp c_3
              refine lv_iload_n hx hb dX12_blend_166 rfl (lvA2 hl) ?_
              exact W.iret (v := x51_2) hx hb hr (fun t ht hW => ⟨⟨x51_2, (cn, I51, F51), rfl, ⟨(Fr.mo hfr51 (sbl rfl) (sbl rfl) (sbl rfl)), hI51, (by show ∃ (l : List Nat) (f : Nat → Int32), GL (fun k9 => k9 < cn 2 ∧ Fn 15 k9 = -1 ∧ (Fn 13 k9).toInt ≤ (cn 0 : Int)) 20 l ∧ RWL f l ∧ BLR (fun c => SXB f (fun j => c.testBit j) l.length) (BTR (Fn 10)) (fun s9 => FTX o (cut (mxL (Fn 10) (Fn 11) (Fn 12) (Fn 39) s9 (cn 0))) cl 0 (-1)) (2 ^ l.length - 1) x51_2; exact ⟨l9, F4 74, hg8, hr9, (by rw [← hn9]; have e9 : i51 = 2 ^ n4 := (by (first | omega | (have zz0 := Hid.u hi_cn; omega))); rw [← e9]; exact hx51_1)⟩)⟩, by rw [ht]; exact hP, hD⟩, hS.F ht⟩) hS.2.2 dX12_blend_167
            ·
              have tc_3 : ((nI i51).toInt : Int) < (nI (2 ^ n4)).toInt := Int32.lt_iff_toInt_lt.mp (Int32.not_le.mp c_3)
              refine lv_iconst (v := 0) hx hb dX12_blend_59 kic_0 ?_
              refine lv_istore (lv' := [(5, .int 0), (4, .int (nI i51)), (3, .int x51_3), (2, .int x51_2), (1, .int (nI n4)), (0, .ref (g 100))]) hx hb dX12_blend_60 hl (ltb rfl) rfl (fun ls hl => ?_)
              refine lv_iconst (v := 0) hx hb dX12_blend_62 kic_0 ?_
              refine lv_istore (lv' := [(6, .int 0), (5, .int 0), (4, .int (nI i51)), (3, .int x51_3), (2, .int x51_2), (1, .int (nI n4)), (0, .ref (g 100))]) hx hb dX12_blend_63 hl (ltb rfl) rfl (fun ls hl => ?_)
              have lp_65 : ∀ (n : Nat) (i65 : Nat) (x65_5 : Int32) , n4 - i65 < n → (i65 ≤ n4 ∧ (x65_5 = SXB (F4 74) (fun j => i51.testBit j) i65)) → ∀ ls : Array Slot, lv_has ls 7 [(6, .int (nI i65)), (5, .int x65_5), (4, .int (nI i51)), (3, .int x51_3), (2, .int x51_2), (1, .int (nI n4)), (0, .ref (g 100))] → W p l e (RM 3 0 0) s m ([.ref (g 100)]).toArray below meth c H locs 0 0 (MQ below (va_Qi (fun (r : Int32) (u : (Nat → Nat) × (Nat → Int32) × (Nat → Nat → Int32)) => (fun r c2 I2 F2 => Fr [] [71, 72, 73] [37, 38, 74] cn In Fn c2 I2 F2 ∧ IM c2 F2 ∧ (∃ (l : List Nat) (f : Nat → Int32), GL (fun k9 => k9 < cn 2 ∧ Fn 15 k9 = -1 ∧ (Fn 13 k9).toInt ≤ (cn 0 : Int)) 20 l ∧ RWL f l ∧ BLR (fun c => SXB f (fun j => c.testBit j) l.length) (BTR (Fn 10)) (fun s9 => FTX o (cut (mxL (Fn 10) (Fn 11) (Fn 12) (Fn 39) s9 (cn 0))) cl 0 (-1)) (2 ^ l.length - 1) r)) r u.1 u.2.1 u.2.2) (fun (u : (Nat → Nat) × (Nat → Int32) × (Nat → Nat → Int32)) (t : State) => va_P D vwCl (wM cI cB cZ g u.1 u.2.1 u.2.2) t.heap ∧ va_D A (wM cI cB cZ g u.1 u.2.1 u.2.2)) A) ([.ref (g 100)]).toArray s 0 0 A) (F0 m 65 ls []) := by
                intro n65
                induction n65 with
                | zero => intros; (first | omega | (have zz0 := Hid.u hi_cn; omega))
                | succ n65 ih65 =>
                  intro i65 x65_5 hmu65 hinv65 ls hl
                  obtain ⟨hr65, hx65_0⟩ := hinv65
                  have ti65 : (nI i65).toInt = (i65 : Int) := nI_toInt (by (first | omega | (have zz0 := Hid.u hi_cn; omega)))
                  refine lv_iload hx hb dX12_blend_65 (lvA0 hl) ?_
                  refine lv_iload_n hx hb dX12_blend_67 rfl (lvA5 hl) ?_
                  have : (nI n4).toInt = ((n4 : Nat) : Int) := nI_toInt (by (first | omega | (have zz0 := Hid.u hi_cn; omega)))
                  refine lv_icmp_ge (tgt := 107) hx hb dX12_blend_68 rfl (fun c_4 => ?_) (fun c_4 => ?_)
                  ·
                    have tc_4 : ((nI n4).toInt : Int) ≤ (nI i65).toInt := Int32.le_iff_toInt_le.mp c_4
                    have e65 : x65_5 = (SXB (F4 74) (fun j => i51.testBit j) n4) := by have e9 : i65 = n4 := (by (first | omega | (have zz0 := Hid.u hi_cn; omega))); rw [← e9]; exact hx65_0
                    subst e65
                    refine lv_aload_n hx hb dX12_blend_107 rfl (lvA6 hl) ?_
                    refine lv_iload hx hb dX12_blend_108 (lvA1 hl) ?_
                    have hFc := free_all hD hS hA
                    refine va_calli (runV_a (As := [.int (SXB (F4 74) (fun j => i51.testBit j) n4)]) (rest := []) S (q_whyNot7 l D cI cB cZ g cn I51 F51 (SXB (F4 74) (fun j => i51.testBit j) n4) o cl H.size hI51 (hM.cf (hfr51.2.2 32 (nml rfl)) (hfr51.2.2 33 (nml rfl)) (hfr51.2.2 34 (nml rfl)) (hfr51.2.2 35 (nml rfl)) (hfr51.2.2 36 (nml rfl))) hG hL) kV_RX12_441 hK hP hD 0 rfl rfl rfl ⟨Nat.le_of_ble_eq_true rfl, Nat.le_of_ble_eq_true rfl⟩ ⟨Nat.le_of_ble_eq_true rfl, Nat.le_of_ble_eq_true rfl⟩ rfl hl.1 rfl (Nat.le_of_ble_eq_true rfl) dX12_blend_110) hS (fun q _ h => hFc q h) hFc (fun r_5 u t H1 locs ht hvm wh_6 hB hz1 hk1 hS => ?_)
                    obtain ⟨cn6, In6, Fn6⟩ := u
                    obtain ⟨hP1, hD1⟩ := hB
                    rw [ht] at hP1
                    have hP : va_P D vwCl (wM cI cB cZ g cn6 In6 Fn6) H1 := hP1
                    have hD : va_D A (wM cI cB cZ g cn6 In6 Fn6) := hD1.weaken (fun _ _ _ h => hFc _ h)
                    generalize H1 = H at hP hS ⊢
                    have vh_6 : (fun r c2 I2 F2 => Fr [] [71, 72, 73] [37, 38] cn I51 F51 c2 I2 F2 ∧ IM c2 F2 ∧ ((FTX o (cut (mxL ((F51 10)) ((F51 11)) ((F51 12)) ((F51 39)) (SXB (F4 74) (fun j => i51.testBit j) n4) ((cn 0)))) cl 0 r) ∧ I2 71 = mxI ((F51 10)) (SXB (F4 74) (fun j => i51.testBit j) n4) 20)) r_5 cn6 In6 Fn6 := wh_6
                    obtain ⟨hfc6, hIn6, h_6⟩ := vh_6
                    obtain rfl : cn = cn6 := (funext (fun k => hfc6.1 k List.not_mem_nil)).symm
                    have hf6 : Fr [] [71, 72, 73] [37, 38, 74] cn In Fn cn In6 Fn6 := Fr.mo (Fr.tr hfr51 hfc6) (sbl rfl) (sbl rfl) (sbl rfl)
                    have hi_cn : Hid (CB cn) := hIn6.b
                    rw [hfr51.2.2 10 (nml rfl), hfr51.2.2 11 (nml rfl), hfr51.2.2 12 (nml rfl), hfr51.2.2 39 (nml rfl)] at h_6
                    have tm9 : (In6 71).toInt = (mxI (Fn 10) (SXB (F4 74) (fun j => i51.testBit j) n4) 20).toInt := congrArg Int32.toInt h_6.2
                    refine lv_iconst (v := (-1)) hx hb dX12_blend_113 kic_m1 ?_
                    refine lv_icmp_ne (tgt := 160) hx hb dX12_blend_114 rfl (fun c_7 => ?_) (fun c_7 => ?_)
                    ·
                      have tc_7 : (r_5.toInt : Int) ≠ (-1) := fun q => c_7 (Int32.toInt_inj.mp q)
                      refine lv_iinc (v := (nI (i51 + 1))) (lv' := [(4, .int (nI (i51 + 1))), (6, .int (nI i65)), (5, .int (SXB (F4 74) (fun j => i51.testBit j) n4)), (3, .int x51_3), (2, .int x51_2), (1, .int (nI n4)), (0, .ref (g 100))]) hx hb dX12_blend_160 hl (k := 2) rfl (nI_1 _) (ltb rfl) rfl (fun ls hl => ?_)
                      refine lv_goto (tgt := 51) hx hb dX12_blend_163 rfl ?_
                      exact ih51 (i51 + 1) x51_2 x51_3 In6 Fn6 _ _ (by (first | omega | (have zz0 := Hid.u hi_cn; omega))) ⟨(by (first | omega | (have zz0 := Hid.u hi_cn; omega))), (Fr.mo hf6 (sbl rfl) (sbl rfl) (sbl rfl)), hIn6, ((hfc6.2.2 74 (nml rfl)).trans hx51_0), (BLR.ns (by (first | omega | (have zz0 := Hid.u hi_cn; omega))) hx51_1 (fun w9 => (show ¬ r_5 = -1 from (by first | assumption | exact fun q => absurd (congrArg Int32.toInt q) (by assumption))) (FTX.un h_6.1 w9.2))), hx51_2⟩ hP hD hS ls (lv_sub hl [0, 3, 4, 5, 6] rfl)
                    ·
                      have tc_7 : (r_5.toInt : Int) = (-1) := congrArg Int32.toInt c_7
                      refine lv_iload_n hx hb dX12_blend_117 rfl (lvA4 hl) ?_
                      refine lv_if_eq (tgt := 152) hx hb dX12_blend_118 rfl (fun c_8 => ?_) (fun c_8 => ?_)
                      ·
                        have tc_8 : (x51_2.toInt : Int) = 0 := congrArg Int32.toInt c_8
                        refine lv_iload hx hb dX12_blend_152 (lvA1 hl) ?_
                        refine lv_istore_n (lv' := [(2, .int (SXB (F4 74) (fun j => i51.testBit j) n4)), (6, .int (nI i65)), (5, .int (SXB (F4 74) (fun j => i51.testBit j) n4)), (4, .int (nI i51)), (3, .int x51_3), (1, .int (nI n4)), (0, .ref (g 100))]) hx hb dX12_blend_154 rfl hl (ltb rfl) rfl (fun ls hl => ?_)
                        refine lv_aload_n hx hb dX12_blend_155 rfl (lvA6 hl) ?_
                        refine gM_419 S hK hP (v := .int (In6 71)) rfl dX12_blend_156 ?_
                        refine lv_istore_n (lv' := [(3, .int (In6 71)), (2, .int (SXB (F4 74) (fun j => i51.testBit j) n4)), (6, .int (nI i65)), (5, .int (SXB (F4 74) (fun j => i51.testBit j) n4)), (4, .int (nI i51)), (1, .int (nI n4)), (0, .ref (g 100))]) hx hb dX12_blend_159 rfl hl (ltb rfl) rfl (fun ls hl => ?_)
                        refine lv_iinc (v := (nI (i51 + 1))) (lv' := [(4, .int (nI (i51 + 1))), (3, .int (In6 71)), (2, .int (SXB (F4 74) (fun j => i51.testBit j) n4)), (6, .int (nI i65)), (5, .int (SXB (F4 74) (fun j => i51.testBit j) n4)), (1, .int (nI n4)), (0, .ref (g 100))]) hx hb dX12_blend_160 hl (k := 4) rfl (nI_1 _) (ltb rfl) rfl (fun ls hl => ?_)
                        refine lv_goto (tgt := 51) hx hb dX12_blend_163 rfl ?_
                        exact ih51 (i51 + 1) (SXB (F4 74) (fun j => i51.testBit j) n4) (In6 71) In6 Fn6 _ _ (by (first | omega | (have zz0 := Hid.u hi_cn; omega))) ⟨(by (first | omega | (have zz0 := Hid.u hi_cn; omega))), (Fr.mo hf6 (sbl rfl) (sbl rfl) (sbl rfl)), hIn6, ((hfc6.2.2 74 (nml rfl)).trans hx51_0), (BLR.ys (S := (fun c => SXB (F4 74) (fun j => c.testBit j) n4)) (by (first | omega | (have zz0 := Hid.u hi_cn; omega))) hx51_1 (BTR_w (hx51_2.elim Or.inl (fun q9 => Or.inr ⟨q9, rfl⟩)) (Or.inl (by first | assumption | exact Int32.toInt_inj.mp (by assumption)))) (by have q9 := h_6.1; rw [show r_5 = -1 from (by first | assumption | exact Int32.toInt_inj.mp (by assumption))] at q9; exact q9)), (Or.inr h_6.2)⟩ hP hD hS ls (lv_sub hl [0, 1, 2, 5, 6] rfl)
                      ·
                        have tc_8 : (x51_2.toInt : Int) ≠ 0 := fun q => c_8 (Int32.toInt_inj.mp q)
                        refine lv_aload_n hx hb dX12_blend_121 rfl (lvA6 hl) ?_
                        refine gM_419 S hK hP (v := .int (In6 71)) rfl dX12_blend_122 ?_
                        refine lv_iload_n hx hb dX12_blend_125 rfl (lvA3 hl) ?_
                        refine lv_icmp_lt (tgt := 160) hx hb dX12_blend_126 rfl (fun c_9 => ?_) (fun c_9 => ?_)
                        ·
                          have tc_9 : ((In6 71).toInt : Int) < x51_3.toInt := Int32.lt_iff_toInt_lt.mp c_9
                          refine lv_iinc (v := (nI (i51 + 1))) (lv' := [(4, .int (nI (i51 + 1))), (6, .int (nI i65)), (5, .int (SXB (F4 74) (fun j => i51.testBit j) n4)), (3, .int x51_3), (2, .int x51_2), (1, .int (nI n4)), (0, .ref (g 100))]) hx hb dX12_blend_160 hl (k := 2) rfl (nI_1 _) (ltb rfl) rfl (fun ls hl => ?_)
                          refine lv_goto (tgt := 51) hx hb dX12_blend_163 rfl ?_
                          exact ih51 (i51 + 1) x51_2 x51_3 In6 Fn6 _ _ (by (first | omega | (have zz0 := Hid.u hi_cn; omega))) ⟨(by (first | omega | (have zz0 := Hid.u hi_cn; omega))), (Fr.mo hf6 (sbl rfl) (sbl rfl) (sbl rfl)), hIn6, ((hfc6.2.2 74 (nml rfl)).trans hx51_0), (BLR.ns (by (first | omega | (have zz0 := Hid.u hi_cn; omega))) hx51_1 (fun w9 => BTR_n (hx51_2.elim Or.inl (fun q9 => Or.inr ⟨q9, rfl⟩)) ⟨(by first | assumption | exact fun q => absurd (congrArg Int32.toInt q) (by assumption)), by (first | omega | (have zz0 := Hid.u hi_cn; omega)), by (first | omega | (have zz0 := Hid.u hi_cn; omega))⟩ w9.1)), hx51_2⟩ hP hD hS ls (lv_sub hl [0, 3, 4, 5, 6] rfl)
                        ·
                          have tc_9 : (x51_3.toInt : Int) ≤ (In6 71).toInt := Int32.le_iff_toInt_le.mp (Int32.not_lt.mp c_9)
                          refine lv_aload_n hx hb dX12_blend_129 rfl (lvA6 hl) ?_
                          refine gM_419 S hK hP (v := .int (In6 71)) rfl dX12_blend_130 ?_
                          refine lv_iload_n hx hb dX12_blend_133 rfl (lvA3 hl) ?_
                          refine lv_icmp_ne (tgt := 152) hx hb dX12_blend_134 rfl (fun c_10 => ?_) (fun c_10 => ?_)
                          ·
                            have tc_10 : ((In6 71).toInt : Int) ≠ x51_3.toInt := fun q => c_10 (Int32.toInt_inj.mp q)
                            refine lv_iload hx hb dX12_blend_152 (lvA1 hl) ?_
                            refine lv_istore_n (lv' := [(2, .int (SXB (F4 74) (fun j => i51.testBit j) n4)), (6, .int (nI i65)), (5, .int (SXB (F4 74) (fun j => i51.testBit j) n4)), (4, .int (nI i51)), (3, .int x51_3), (1, .int (nI n4)), (0, .ref (g 100))]) hx hb dX12_blend_154 rfl hl (ltb rfl) rfl (fun ls hl => ?_)
                            refine lv_aload_n hx hb dX12_blend_155 rfl (lvA6 hl) ?_
                            refine gM_419 S hK hP (v := .int (In6 71)) rfl dX12_blend_156 ?_
                            refine lv_istore_n (lv' := [(3, .int (In6 71)), (2, .int (SXB (F4 74) (fun j => i51.testBit j) n4)), (6, .int (nI i65)), (5, .int (SXB (F4 74) (fun j => i51.testBit j) n4)), (4, .int (nI i51)), (1, .int (nI n4)), (0, .ref (g 100))]) hx hb dX12_blend_159 rfl hl (ltb rfl) rfl (fun ls hl => ?_)
                            refine lv_iinc (v := (nI (i51 + 1))) (lv' := [(4, .int (nI (i51 + 1))), (3, .int (In6 71)), (2, .int (SXB (F4 74) (fun j => i51.testBit j) n4)), (6, .int (nI i65)), (5, .int (SXB (F4 74) (fun j => i51.testBit j) n4)), (1, .int (nI n4)), (0, .ref (g 100))]) hx hb dX12_blend_160 hl (k := 4) rfl (nI_1 _) (ltb rfl) rfl (fun ls hl => ?_)
                            refine lv_goto (tgt := 51) hx hb dX12_blend_163 rfl ?_
                            exact ih51 (i51 + 1) (SXB (F4 74) (fun j => i51.testBit j) n4) (In6 71) In6 Fn6 _ _ (by (first | omega | (have zz0 := Hid.u hi_cn; omega))) ⟨(by (first | omega | (have zz0 := Hid.u hi_cn; omega))), (Fr.mo hf6 (sbl rfl) (sbl rfl) (sbl rfl)), hIn6, ((hfc6.2.2 74 (nml rfl)).trans hx51_0), (BLR.ys (S := (fun c => SXB (F4 74) (fun j => c.testBit j) n4)) (by (first | omega | (have zz0 := Hid.u hi_cn; omega))) hx51_1 (BTR_w (hx51_2.elim Or.inl (fun q9 => Or.inr ⟨q9, rfl⟩)) (Or.inr (Or.inl (by (first | omega | (have zz0 := Hid.u hi_cn; omega)))))) (by have q9 := h_6.1; rw [show r_5 = -1 from (by first | assumption | exact Int32.toInt_inj.mp (by assumption))] at q9; exact q9)), (Or.inr h_6.2)⟩ hP hD hS ls (lv_sub hl [0, 1, 2, 5, 6] rfl)
                          ·
                            have tc_10 : ((In6 71).toInt : Int) = x51_3.toInt := congrArg Int32.toInt c_10
                            refine lv_iload hx hb dX12_blend_137 (lvA1 hl) ?_
                            refine vp_callSi (runS_r (As := [.int (SXB (F4 74) (fun j => i51.testBit j) n4)]) (rest := []) S (q_bits9 l D cI cB cZ (SXB (F4 74) (fun j => i51.testBit j) n4) ) kS_RX12_431 hK hP [] rfl ⟨Nat.le_of_ble_eq_true rfl, Nat.le_of_ble_eq_true rfl⟩ ⟨Nat.le_of_ble_eq_true rfl, Nat.le_of_ble_eq_true rfl⟩ rfl hl.1 rfl (Nat.le_of_ble_eq_true rfl) dX12_blend_139) (fun r_11 h_12 => ?_)
                            obtain rfl : r_11 = (mxI (fun _ => 1) (SXB (F4 74) (fun j => i51.testBit j) n4) 20) := h_12
                            refine lv_iload_n hx hb dX12_blend_142 rfl (lvA4 hl) ?_
                            refine vp_callSi (runS_r (As := [.int x51_2]) (rest := [.int (mxI (fun _ => 1) (SXB (F4 74) (fun j => i51.testBit j) n4) 20)]) S (q_bits9 l D cI cB cZ x51_2 ) kS_RX12_431 hK hP [] rfl ⟨Nat.le_of_ble_eq_true rfl, Nat.le_of_ble_eq_true rfl⟩ ⟨Nat.le_of_ble_eq_true rfl, Nat.le_of_ble_eq_true rfl⟩ rfl hl.1 rfl (Nat.le_of_ble_eq_true rfl) dX12_blend_143) (fun r_13 h_14 => ?_)
                            obtain rfl : r_13 = (mxI (fun _ => 1) x51_2 20) := h_14
                            refine lv_icmp_lt (tgt := 152) hx hb dX12_blend_146 rfl (fun c_15 => ?_) (fun c_15 => ?_)
                            ·
                              have tc_15 : ((mxI (fun _ => 1) (SXB (F4 74) (fun j => i51.testBit j) n4) 20).toInt : Int) < (mxI (fun _ => 1) x51_2 20).toInt := Int32.lt_iff_toInt_lt.mp c_15
                              refine lv_iload hx hb dX12_blend_152 (lvA1 hl) ?_
                              refine lv_istore_n (lv' := [(2, .int (SXB (F4 74) (fun j => i51.testBit j) n4)), (6, .int (nI i65)), (5, .int (SXB (F4 74) (fun j => i51.testBit j) n4)), (4, .int (nI i51)), (3, .int x51_3), (1, .int (nI n4)), (0, .ref (g 100))]) hx hb dX12_blend_154 rfl hl (ltb rfl) rfl (fun ls hl => ?_)
                              refine lv_aload_n hx hb dX12_blend_155 rfl (lvA6 hl) ?_
                              refine gM_419 S hK hP (v := .int (In6 71)) rfl dX12_blend_156 ?_
                              refine lv_istore_n (lv' := [(3, .int (In6 71)), (2, .int (SXB (F4 74) (fun j => i51.testBit j) n4)), (6, .int (nI i65)), (5, .int (SXB (F4 74) (fun j => i51.testBit j) n4)), (4, .int (nI i51)), (1, .int (nI n4)), (0, .ref (g 100))]) hx hb dX12_blend_159 rfl hl (ltb rfl) rfl (fun ls hl => ?_)
                              refine lv_iinc (v := (nI (i51 + 1))) (lv' := [(4, .int (nI (i51 + 1))), (3, .int (In6 71)), (2, .int (SXB (F4 74) (fun j => i51.testBit j) n4)), (6, .int (nI i65)), (5, .int (SXB (F4 74) (fun j => i51.testBit j) n4)), (1, .int (nI n4)), (0, .ref (g 100))]) hx hb dX12_blend_160 hl (k := 4) rfl (nI_1 _) (ltb rfl) rfl (fun ls hl => ?_)
                              refine lv_goto (tgt := 51) hx hb dX12_blend_163 rfl ?_
                              exact ih51 (i51 + 1) (SXB (F4 74) (fun j => i51.testBit j) n4) (In6 71) In6 Fn6 _ _ (by (first | omega | (have zz0 := Hid.u hi_cn; omega))) ⟨(by (first | omega | (have zz0 := Hid.u hi_cn; omega))), (Fr.mo hf6 (sbl rfl) (sbl rfl) (sbl rfl)), hIn6, ((hfc6.2.2 74 (nml rfl)).trans hx51_0), (BLR.ys (S := (fun c => SXB (F4 74) (fun j => c.testBit j) n4)) (by (first | omega | (have zz0 := Hid.u hi_cn; omega))) hx51_1 (BTR_w (hx51_2.elim Or.inl (fun q9 => Or.inr ⟨q9, rfl⟩)) (Or.inr (Or.inr ⟨by (first | omega | (have zz0 := Hid.u hi_cn; omega)), by (first | omega | (have zz0 := Hid.u hi_cn; omega))⟩))) (by have q9 := h_6.1; rw [show r_5 = -1 from (by first | assumption | exact Int32.toInt_inj.mp (by assumption))] at q9; exact q9)), (Or.inr h_6.2)⟩ hP hD hS ls (lv_sub hl [0, 1, 2, 5, 6] rfl)
                            ·
                              have tc_15 : ((mxI (fun _ => 1) x51_2 20).toInt : Int) ≤ (mxI (fun _ => 1) (SXB (F4 74) (fun j => i51.testBit j) n4) 20).toInt := Int32.le_iff_toInt_le.mp (Int32.not_lt.mp c_15)
                              refine lv_goto (tgt := 160) hx hb dX12_blend_149 rfl ?_
                              refine lv_iinc (v := (nI (i51 + 1))) (lv' := [(4, .int (nI (i51 + 1))), (6, .int (nI i65)), (5, .int (SXB (F4 74) (fun j => i51.testBit j) n4)), (3, .int x51_3), (2, .int x51_2), (1, .int (nI n4)), (0, .ref (g 100))]) hx hb dX12_blend_160 hl (k := 2) rfl (nI_1 _) (ltb rfl) rfl (fun ls hl => ?_)
                              refine lv_goto (tgt := 51) hx hb dX12_blend_163 rfl ?_
                              exact ih51 (i51 + 1) x51_2 x51_3 In6 Fn6 _ _ (by (first | omega | (have zz0 := Hid.u hi_cn; omega))) ⟨(by (first | omega | (have zz0 := Hid.u hi_cn; omega))), (Fr.mo hf6 (sbl rfl) (sbl rfl) (sbl rfl)), hIn6, ((hfc6.2.2 74 (nml rfl)).trans hx51_0), (BLR.ns (by (first | omega | (have zz0 := Hid.u hi_cn; omega))) hx51_1 (fun w9 => BTR_n (hx51_2.elim Or.inl (fun q9 => Or.inr ⟨q9, rfl⟩)) ⟨(by first | assumption | exact fun q => absurd (congrArg Int32.toInt q) (by assumption)), by (first | omega | (have zz0 := Hid.u hi_cn; omega)), by (first | omega | (have zz0 := Hid.u hi_cn; omega))⟩ w9.1)), hx51_2⟩ hP hD hS ls (lv_sub hl [0, 3, 4, 5, 6] rfl)
                  ·
                    have tc_4 : ((nI i65).toInt : Int) < (nI n4).toInt := Int32.lt_iff_toInt_lt.mp (Int32.not_le.mp c_4)
                    refine lv_iload hx hb dX12_blend_71 (lvA2 hl) ?_
                    refine lv_iload hx hb dX12_blend_73 (lvA0 hl) ?_
                    refine lv_ishr hx hb dX12_blend_75 ?_
                    refine lv_iconst (v := 1) hx hb dX12_blend_76 kic_1 ?_
                    refine lv_iand hx hb dX12_blend_77 ?_
                    refine lv_iconst (v := 1) hx hb dX12_blend_78 kic_1 ?_
                    refine lv_icmp_ne (tgt := 97) hx hb dX12_blend_79 rfl (fun c_16 => ?_) (fun c_16 => ?_)
                    ·
                      have tc_16 : ((((nI i51) >>> ((nI i65) &&& 31)) &&& 1).toInt : Int) ≠ 1 := fun q => c_16 (Int32.toInt_inj.mp q)
                      refine lv_iload hx hb dX12_blend_97 (lvA1 hl) ?_
                      refine lv_istore (lv' := [(5, .int x65_5), (6, .int (nI i65)), (4, .int (nI i51)), (3, .int x51_3), (2, .int x51_2), (1, .int (nI n4)), (0, .ref (g 100))]) hx hb dX12_blend_99 hl (ltb rfl) rfl (fun ls hl => ?_)
                      refine lv_iinc (v := (nI (i65 + 1))) (lv' := [(6, .int (nI (i65 + 1))), (5, .int x65_5), (4, .int (nI i51)), (3, .int x51_3), (2, .int x51_2), (1, .int (nI n4)), (0, .ref (g 100))]) hx hb dX12_blend_101 hl (k := 1) rfl (nI_1 _) (ltb rfl) rfl (fun ls hl => ?_)
                      refine lv_goto (tgt := 65) hx hb dX12_blend_104 rfl ?_
                      exact ih65 (i65 + 1) x65_5 (by (first | omega | (have zz0 := Hid.u hi_cn; omega))) ⟨(by (first | omega | (have zz0 := Hid.u hi_cn; omega))), (hx65_0.trans (SXB_no (bit_1f (by (first | omega | (have zz0 := Hid.u hi_cn; omega))) (by first | assumption | exact fun q => absurd (congrArg Int32.toInt q) (by assumption)))))⟩ ls (lv_sub hl [0, 1, 2, 3, 4, 5, 6] rfl)
                    ·
                      have tc_16 : ((((nI i51) >>> ((nI i65) &&& 31)) &&& 1).toInt : Int) = 1 := congrArg Int32.toInt c_16
                      refine lv_iload hx hb dX12_blend_82 (lvA1 hl) ?_
                      refine lv_iconst (v := 1) hx hb dX12_blend_84 kic_1 ?_
                      refine lv_aload_n hx hb dX12_blend_85 rfl (lvA6 hl) ?_
                      refine gM_159 S hK hP (v := .ref (g 74)) rfl dX12_blend_86 ?_
                      refine lv_iload hx hb dX12_blend_89 (lvA0 hl) ?_
                      have kb_1 : i65 < 12 := by (first | omega | (have zz0 := Hid.u hi_cn; omega))
                      refine ldM_74 hx hb hK hP (x := ((F51 74) i65)) (vp_in_nI kb_1 (ltb rfl)) (nI_clamp (Nat.lt_trans kb_1 (ltb rfl))) rfl dX12_blend_91 ?_
                      refine lv_topi (fun y_17 ey_17 => ?_)
                      obtain rfl : y_17 = ((F4 74) i65) := ey_17.trans (congrFun hx51_0 i65)
                      refine lv_ishl hx hb dX12_blend_92 ?_
                      refine lv_ior hx hb dX12_blend_93 ?_
                      refine lv_goto (tgt := 99) hx hb dX12_blend_94 rfl ?_
                      refine lv_istore (lv' := [(5, .int (x65_5 ||| (1 <<< (((F4 74) i65) &&& 31)))), (6, .int (nI i65)), (4, .int (nI i51)), (3, .int x51_3), (2, .int x51_2), (1, .int (nI n4)), (0, .ref (g 100))]) hx hb dX12_blend_99 hl (ltb rfl) rfl (fun ls hl => ?_)
                      refine lv_iinc (v := (nI (i65 + 1))) (lv' := [(6, .int (nI (i65 + 1))), (5, .int (x65_5 ||| (1 <<< (((F4 74) i65) &&& 31)))), (4, .int (nI i51)), (3, .int x51_3), (2, .int x51_2), (1, .int (nI n4)), (0, .ref (g 100))]) hx hb dX12_blend_101 hl (k := 1) rfl (nI_1 _) (ltb rfl) rfl (fun ls hl => ?_)
                      refine lv_goto (tgt := 65) hx hb dX12_blend_104 rfl ?_
                      exact ih65 (i65 + 1) (x65_5 ||| (1 <<< (((F4 74) i65) &&& 31))) (by (first | omega | (have zz0 := Hid.u hi_cn; omega))) ⟨(by (first | omega | (have zz0 := Hid.u hi_cn; omega))), (by rw [hx65_0]; exact SXB_or (fun k hk => hrow9 k (by (first | omega | (have zz0 := Hid.u hi_cn; omega)))) (fun k hk => hdis9 k i65 hk (by (first | omega | (have zz0 := Hid.u hi_cn; omega)))) (bit_1t (by (first | omega | (have zz0 := Hid.u hi_cn; omega))) (by first | assumption | exact Int32.toInt_inj.mp (by assumption))))⟩ ls (lv_sub hl [0, 1, 2, 3, 4, 5, 6] rfl)
              exact lp_65 _ 0 0 (Nat.lt_succ_self _) ⟨(by (first | omega | (have zz0 := Hid.u hi_cn; omega))), rfl⟩ ls (lv_sub hl [0, 1, 2, 3, 4, 5, 6] rfl)
        exact lp_51 _ 1 0 0 In F4 _ _ (Nat.lt_succ_self _) ⟨(by (first | omega | (have zz0 := Hid.u hi_cn; omega))), (Fr.mo hfr4 (sbl rfl) (sbl rfl) (sbl rfl)), hI4, rfl, (show (0 : Int32) = 0 from rfl), (Or.inl rfl)⟩ hP hD hS ls (lv_sub hl [0, 1, 2, 3, 4] rfl)
      ·
        have tc_1 : ((nI i4).toInt : Int) < 20 := Int32.lt_iff_toInt_lt.mp (Int32.not_le.mp c_1)
        refine lv_iload_n hx hb (oc_27 10 (aq_10 shX12_blend_0)) rfl (lvA1 hl) ?_
        refine lv_bipush (v := 12) hx hb (oc_16 11 (aq_11 shX12_blend_0) sgb_12) kbc_12 ?_
        have : (nI n4).toInt = ((n4 : Nat) : Int) := nI_toInt (by (first | omega | (have zz0 := Hid.u hi_cn; omega)))
        refine lv_icmp_ge (tgt := 44) hx hb (oc_162 13 (aq_13 shX12_blend_0) sgw_0_31) rfl (fun c_18 => ?_) (fun c_18 => ?_)
        ·
          have tc_18 : (12 : Int) ≤ (nI n4).toInt := Int32.le_iff_toInt_le.mp c_18
          have hg8 := GL.fin hg9 (by (first | omega | (have zz0 := Hid.u hi_cn; omega))) (by (first | omega | (have zz0 := Hid.u hi_cn; omega)))
          have h2p := p2b (n := n4) (by (first | omega | (have zz0 := Hid.u hi_cn; omega)))
          have h2q : (nI (2 ^ n4)).toInt = ((2 ^ n4 : Nat) : Int) := nI_toInt (by (first | omega | (have zz0 := Hid.u hi_cn; omega)))
          have hrow9 : ∀ k : Nat, k < n4 → ∃ z : Nat, z < 20 ∧ F4 74 k = nI z := fun k hk => by obtain ⟨z, h1, -, h3⟩ := hg8.row hr9 k (by (first | omega | (have zz0 := Hid.u hi_cn; omega))); exact ⟨z, h1, h3⟩
          have hdis9 : ∀ j k : Nat, j < k → k < n4 → ¬ F4 74 j = F4 74 k := fun j k hjk hk => hg8.dis hr9 j k hjk (by (first | omega | (have zz0 := Hid.u hi_cn; omega)))
          refine lv_iconst (v := 0) hx hb dX12_blend_44 kic_0 ?_
          refine lv_istore_n (lv' := [(2, .int 0), (1, .int (nI n4)), (0, .ref (g 100))]) hx hb dX12_blend_45 rfl hl (ltb rfl) rfl (fun ls hl => ?_)
          refine lv_iconst (v := 0) hx hb dX12_blend_46 kic_0 ?_
          refine lv_istore_n (lv' := [(3, .int 0), (2, .int 0), (1, .int (nI n4)), (0, .ref (g 100))]) hx hb dX12_blend_47 rfl hl (ltb rfl) rfl (fun ls hl => ?_)
          refine lv_iconst (v := 1) hx hb dX12_blend_48 kic_1 ?_
          refine lv_istore (lv' := [(4, .int 1), (3, .int 0), (2, .int 0), (1, .int (nI n4)), (0, .ref (g 100))]) hx hb dX12_blend_49 hl (ltb rfl) rfl (fun ls hl => ?_)
          have lp_51 : ∀ (n : Nat) (i51 : Nat) (x51_2 : Int32) (x51_3 : Int32) (I51 : Nat → Int32) (F51 : Nat → Nat → Int32) (H : Heap) (locs : List Loc) , 2 ^ n4 - i51 < n → ((1 ≤ i51 ∧ i51 ≤ 2 ^ n4) ∧ Fr [] [71, 72, 73] [37, 38, 74] cn In Fn cn I51 F51 ∧ IM cn F51 ∧ (F51 74 = F4 74) ∧ (BLR (fun c => SXB (F4 74) (fun j => c.testBit j) n4) (BTR (Fn 10)) (fun s9 => FTX o (cut (mxL (Fn 10) (Fn 11) (Fn 12) (Fn 39) s9 (cn 0))) cl 0 (-1)) (i51 - 1) x51_2) ∧ (x51_2 = 0 ∨ x51_3 = mxI (Fn 10) x51_2 20)) → va_P D vwCl (wM cI cB cZ g cn I51 F51) H → va_D A (wM cI cB cZ g cn I51 F51) → va_S A s.heap H locs → ∀ ls : Array Slot, lv_has ls 7 [(4, .int (nI i51)), (3, .int x51_3), (2, .int x51_2), (1, .int (nI n4)), (0, .ref (g 100))] → W p l e (RM 3 0 0) s m ([.ref (g 100)]).toArray below meth c H locs 0 0 (MQ below (va_Qi (fun (r : Int32) (u : (Nat → Nat) × (Nat → Int32) × (Nat → Nat → Int32)) => (fun r c2 I2 F2 => Fr [] [71, 72, 73] [37, 38, 74] cn In Fn c2 I2 F2 ∧ IM c2 F2 ∧ (∃ (l : List Nat) (f : Nat → Int32), GL (fun k9 => k9 < cn 2 ∧ Fn 15 k9 = -1 ∧ (Fn 13 k9).toInt ≤ (cn 0 : Int)) 20 l ∧ RWL f l ∧ BLR (fun c => SXB f (fun j => c.testBit j) l.length) (BTR (Fn 10)) (fun s9 => FTX o (cut (mxL (Fn 10) (Fn 11) (Fn 12) (Fn 39) s9 (cn 0))) cl 0 (-1)) (2 ^ l.length - 1) r)) r u.1 u.2.1 u.2.2) (fun (u : (Nat → Nat) × (Nat → Int32) × (Nat → Nat → Int32)) (t : State) => va_P D vwCl (wM cI cB cZ g u.1 u.2.1 u.2.2) t.heap ∧ va_D A (wM cI cB cZ g u.1 u.2.1 u.2.2)) A) ([.ref (g 100)]).toArray s 0 0 A) (F0 m 51 ls []) := by
            intro n51
            induction n51 with
            | zero => intros; (first | omega | (have zz0 := Hid.u hi_cn; omega))
            | succ n51 ih51 =>
              intro i51 x51_2 x51_3 I51 F51 H locs hmu51 hinv51 hP hD hS ls hl
              obtain ⟨hr51, hfr51, hI51, hx51_0, hx51_1, hx51_2⟩ := hinv51
              have ti51 : (nI i51).toInt = (i51 : Int) := nI_toInt (by (first | omega | (have zz0 := Hid.u hi_cn; omega)))
              have hi_cn : Hid (CB cn) := hI51.b
              refine lv_iload hx hb dX12_blend_51 (lvA0 hl) ?_
              refine lv_iconst (v := 1) hx hb dX12_blend_53 kic_1 ?_
              refine lv_iload_n hx hb dX12_blend_54 rfl (lvA3 hl) ?_
              refine lv_ishl hx hb dX12_blend_55 ?_
              refine lv_topi (fun y_19 ey_19 => ?_)
              obtain rfl : y_19 = (nI (2 ^ n4)) := ey_19.trans (sh1 (by (first | omega | (have zz0 := Hid.u hi_cn; omega))))
              have : (nI (2 ^ n4)).toInt = (((2 ^ n4) : Nat) : Int) := nI_toInt (by (first | omega | (have zz0 := Hid.u hi_cn; omega)))
              refine lv_icmp_ge (tgt := 166) hx hb dX12_blend_56 rfl (fun c_20 => ?_) (fun c_20 => ?_)
              ·
                have tc_20 : ((nI (2 ^ n4)).toInt : Int) ≤ (nI i51).toInt := Int32.le_iff_toInt_le.mp c_20
                refine lv_iload_n hx hb dX12_blend_166 rfl (lvA2 hl) ?_
                exact W.iret (v := x51_2) hx hb hr (fun t ht hW => ⟨⟨x51_2, (cn, I51, F51), rfl, ⟨(Fr.mo hfr51 (sbl rfl) (sbl rfl) (sbl rfl)), hI51, (by show ∃ (l : List Nat) (f : Nat → Int32), GL (fun k9 => k9 < cn 2 ∧ Fn 15 k9 = -1 ∧ (Fn 13 k9).toInt ≤ (cn 0 : Int)) 20 l ∧ RWL f l ∧ BLR (fun c => SXB f (fun j => c.testBit j) l.length) (BTR (Fn 10)) (fun s9 => FTX o (cut (mxL (Fn 10) (Fn 11) (Fn 12) (Fn 39) s9 (cn 0))) cl 0 (-1)) (2 ^ l.length - 1) x51_2; exact ⟨l9, F4 74, hg8, hr9, (by rw [← hn9]; have e9 : i51 = 2 ^ n4 := (by (first | omega | (have zz0 := Hid.u hi_cn; omega))); rw [← e9]; exact hx51_1)⟩)⟩, by rw [ht]; exact hP, hD⟩, hS.F ht⟩) hS.2.2 dX12_blend_167
              ·
                have tc_20 : ((nI i51).toInt : Int) < (nI (2 ^ n4)).toInt := Int32.lt_iff_toInt_lt.mp (Int32.not_le.mp c_20)
                refine lv_iconst (v := 0) hx hb dX12_blend_59 kic_0 ?_
                refine lv_istore (lv' := [(5, .int 0), (4, .int (nI i51)), (3, .int x51_3), (2, .int x51_2), (1, .int (nI n4)), (0, .ref (g 100))]) hx hb dX12_blend_60 hl (ltb rfl) rfl (fun ls hl => ?_)
                refine lv_iconst (v := 0) hx hb dX12_blend_62 kic_0 ?_
                refine lv_istore (lv' := [(6, .int 0), (5, .int 0), (4, .int (nI i51)), (3, .int x51_3), (2, .int x51_2), (1, .int (nI n4)), (0, .ref (g 100))]) hx hb dX12_blend_63 hl (ltb rfl) rfl (fun ls hl => ?_)
                have lp_65 : ∀ (n : Nat) (i65 : Nat) (x65_5 : Int32) , n4 - i65 < n → (i65 ≤ n4 ∧ (x65_5 = SXB (F4 74) (fun j => i51.testBit j) i65)) → ∀ ls : Array Slot, lv_has ls 7 [(6, .int (nI i65)), (5, .int x65_5), (4, .int (nI i51)), (3, .int x51_3), (2, .int x51_2), (1, .int (nI n4)), (0, .ref (g 100))] → W p l e (RM 3 0 0) s m ([.ref (g 100)]).toArray below meth c H locs 0 0 (MQ below (va_Qi (fun (r : Int32) (u : (Nat → Nat) × (Nat → Int32) × (Nat → Nat → Int32)) => (fun r c2 I2 F2 => Fr [] [71, 72, 73] [37, 38, 74] cn In Fn c2 I2 F2 ∧ IM c2 F2 ∧ (∃ (l : List Nat) (f : Nat → Int32), GL (fun k9 => k9 < cn 2 ∧ Fn 15 k9 = -1 ∧ (Fn 13 k9).toInt ≤ (cn 0 : Int)) 20 l ∧ RWL f l ∧ BLR (fun c => SXB f (fun j => c.testBit j) l.length) (BTR (Fn 10)) (fun s9 => FTX o (cut (mxL (Fn 10) (Fn 11) (Fn 12) (Fn 39) s9 (cn 0))) cl 0 (-1)) (2 ^ l.length - 1) r)) r u.1 u.2.1 u.2.2) (fun (u : (Nat → Nat) × (Nat → Int32) × (Nat → Nat → Int32)) (t : State) => va_P D vwCl (wM cI cB cZ g u.1 u.2.1 u.2.2) t.heap ∧ va_D A (wM cI cB cZ g u.1 u.2.1 u.2.2)) A) ([.ref (g 100)]).toArray s 0 0 A) (F0 m 65 ls []) := by
                  intro n65
                  induction n65 with
                  | zero => intros; (first | omega | (have zz0 := Hid.u hi_cn; omega))
                  | succ n65 ih65 =>
                    intro i65 x65_5 hmu65 hinv65 ls hl
                    obtain ⟨hr65, hx65_0⟩ := hinv65
                    have ti65 : (nI i65).toInt = (i65 : Int) := nI_toInt (by (first | omega | (have zz0 := Hid.u hi_cn; omega)))
                    refine lv_iload hx hb dX12_blend_65 (lvA0 hl) ?_
                    refine lv_iload_n hx hb dX12_blend_67 rfl (lvA5 hl) ?_
                    refine lv_icmp_ge (tgt := 107) hx hb dX12_blend_68 rfl (fun c_21 => ?_) (fun c_21 => ?_)
                    ·
                      have tc_21 : ((nI n4).toInt : Int) ≤ (nI i65).toInt := Int32.le_iff_toInt_le.mp c_21
                      have e65 : x65_5 = (SXB (F4 74) (fun j => i51.testBit j) n4) := by have e9 : i65 = n4 := (by (first | omega | (have zz0 := Hid.u hi_cn; omega))); rw [← e9]; exact hx65_0
                      subst e65
                      refine lv_aload_n hx hb dX12_blend_107 rfl (lvA6 hl) ?_
                      refine lv_iload hx hb dX12_blend_108 (lvA1 hl) ?_
                      have hFc := free_all hD hS hA
                      refine va_calli (runV_a (As := [.int (SXB (F4 74) (fun j => i51.testBit j) n4)]) (rest := []) S (q_whyNot7 l D cI cB cZ g cn I51 F51 (SXB (F4 74) (fun j => i51.testBit j) n4) o cl H.size hI51 (hM.cf (hfr51.2.2 32 (nml rfl)) (hfr51.2.2 33 (nml rfl)) (hfr51.2.2 34 (nml rfl)) (hfr51.2.2 35 (nml rfl)) (hfr51.2.2 36 (nml rfl))) hG hL) kV_RX12_441 hK hP hD 0 rfl rfl rfl ⟨Nat.le_of_ble_eq_true rfl, Nat.le_of_ble_eq_true rfl⟩ ⟨Nat.le_of_ble_eq_true rfl, Nat.le_of_ble_eq_true rfl⟩ rfl hl.1 rfl (Nat.le_of_ble_eq_true rfl) dX12_blend_110) hS (fun q _ h => hFc q h) hFc (fun r_22 u t H1 locs ht hvm wh_23 hB hz1 hk1 hS => ?_)
                      obtain ⟨cn23, In23, Fn23⟩ := u
                      obtain ⟨hP1, hD1⟩ := hB
                      rw [ht] at hP1
                      have hP : va_P D vwCl (wM cI cB cZ g cn23 In23 Fn23) H1 := hP1
                      have hD : va_D A (wM cI cB cZ g cn23 In23 Fn23) := hD1.weaken (fun _ _ _ h => hFc _ h)
                      generalize H1 = H at hP hS ⊢
                      have vh_23 : (fun r c2 I2 F2 => Fr [] [71, 72, 73] [37, 38] cn I51 F51 c2 I2 F2 ∧ IM c2 F2 ∧ ((FTX o (cut (mxL ((F51 10)) ((F51 11)) ((F51 12)) ((F51 39)) (SXB (F4 74) (fun j => i51.testBit j) n4) ((cn 0)))) cl 0 r) ∧ I2 71 = mxI ((F51 10)) (SXB (F4 74) (fun j => i51.testBit j) n4) 20)) r_22 cn23 In23 Fn23 := wh_23
                      obtain ⟨hfc23, hIn23, h_23⟩ := vh_23
                      obtain rfl : cn = cn23 := (funext (fun k => hfc23.1 k List.not_mem_nil)).symm
                      have hf23 : Fr [] [71, 72, 73] [37, 38, 74] cn In Fn cn In23 Fn23 := Fr.mo (Fr.tr hfr51 hfc23) (sbl rfl) (sbl rfl) (sbl rfl)
                      have hi_cn : Hid (CB cn) := hIn23.b
                      rw [hfr51.2.2 10 (nml rfl), hfr51.2.2 11 (nml rfl), hfr51.2.2 12 (nml rfl), hfr51.2.2 39 (nml rfl)] at h_23
                      have tm9 : (In23 71).toInt = (mxI (Fn 10) (SXB (F4 74) (fun j => i51.testBit j) n4) 20).toInt := congrArg Int32.toInt h_23.2
                      refine lv_iconst (v := (-1)) hx hb dX12_blend_113 kic_m1 ?_
                      refine lv_icmp_ne (tgt := 160) hx hb dX12_blend_114 rfl (fun c_24 => ?_) (fun c_24 => ?_)
                      ·
                        have tc_24 : (r_22.toInt : Int) ≠ (-1) := fun q => c_24 (Int32.toInt_inj.mp q)
                        refine lv_iinc (v := (nI (i51 + 1))) (lv' := [(4, .int (nI (i51 + 1))), (6, .int (nI i65)), (5, .int (SXB (F4 74) (fun j => i51.testBit j) n4)), (3, .int x51_3), (2, .int x51_2), (1, .int (nI n4)), (0, .ref (g 100))]) hx hb dX12_blend_160 hl (k := 2) rfl (nI_1 _) (ltb rfl) rfl (fun ls hl => ?_)
                        refine lv_goto (tgt := 51) hx hb dX12_blend_163 rfl ?_
                        exact ih51 (i51 + 1) x51_2 x51_3 In23 Fn23 _ _ (by (first | omega | (have zz0 := Hid.u hi_cn; omega))) ⟨(by (first | omega | (have zz0 := Hid.u hi_cn; omega))), (Fr.mo hf23 (sbl rfl) (sbl rfl) (sbl rfl)), hIn23, ((hfc23.2.2 74 (nml rfl)).trans hx51_0), (BLR.ns (by (first | omega | (have zz0 := Hid.u hi_cn; omega))) hx51_1 (fun w9 => (show ¬ r_22 = -1 from (by first | assumption | exact fun q => absurd (congrArg Int32.toInt q) (by assumption))) (FTX.un h_23.1 w9.2))), hx51_2⟩ hP hD hS ls (lv_sub hl [0, 3, 4, 5, 6] rfl)
                      ·
                        have tc_24 : (r_22.toInt : Int) = (-1) := congrArg Int32.toInt c_24
                        refine lv_iload_n hx hb dX12_blend_117 rfl (lvA4 hl) ?_
                        refine lv_if_eq (tgt := 152) hx hb dX12_blend_118 rfl (fun c_25 => ?_) (fun c_25 => ?_)
                        ·
                          have tc_25 : (x51_2.toInt : Int) = 0 := congrArg Int32.toInt c_25
                          refine lv_iload hx hb dX12_blend_152 (lvA1 hl) ?_
                          refine lv_istore_n (lv' := [(2, .int (SXB (F4 74) (fun j => i51.testBit j) n4)), (6, .int (nI i65)), (5, .int (SXB (F4 74) (fun j => i51.testBit j) n4)), (4, .int (nI i51)), (3, .int x51_3), (1, .int (nI n4)), (0, .ref (g 100))]) hx hb dX12_blend_154 rfl hl (ltb rfl) rfl (fun ls hl => ?_)
                          refine lv_aload_n hx hb dX12_blend_155 rfl (lvA6 hl) ?_
                          refine gM_419 S hK hP (v := .int (In23 71)) rfl dX12_blend_156 ?_
                          refine lv_istore_n (lv' := [(3, .int (In23 71)), (2, .int (SXB (F4 74) (fun j => i51.testBit j) n4)), (6, .int (nI i65)), (5, .int (SXB (F4 74) (fun j => i51.testBit j) n4)), (4, .int (nI i51)), (1, .int (nI n4)), (0, .ref (g 100))]) hx hb dX12_blend_159 rfl hl (ltb rfl) rfl (fun ls hl => ?_)
                          refine lv_iinc (v := (nI (i51 + 1))) (lv' := [(4, .int (nI (i51 + 1))), (3, .int (In23 71)), (2, .int (SXB (F4 74) (fun j => i51.testBit j) n4)), (6, .int (nI i65)), (5, .int (SXB (F4 74) (fun j => i51.testBit j) n4)), (1, .int (nI n4)), (0, .ref (g 100))]) hx hb dX12_blend_160 hl (k := 4) rfl (nI_1 _) (ltb rfl) rfl (fun ls hl => ?_)
                          refine lv_goto (tgt := 51) hx hb dX12_blend_163 rfl ?_
                          exact ih51 (i51 + 1) (SXB (F4 74) (fun j => i51.testBit j) n4) (In23 71) In23 Fn23 _ _ (by (first | omega | (have zz0 := Hid.u hi_cn; omega))) ⟨(by (first | omega | (have zz0 := Hid.u hi_cn; omega))), (Fr.mo hf23 (sbl rfl) (sbl rfl) (sbl rfl)), hIn23, ((hfc23.2.2 74 (nml rfl)).trans hx51_0), (BLR.ys (S := (fun c => SXB (F4 74) (fun j => c.testBit j) n4)) (by (first | omega | (have zz0 := Hid.u hi_cn; omega))) hx51_1 (BTR_w (hx51_2.elim Or.inl (fun q9 => Or.inr ⟨q9, rfl⟩)) (Or.inl (by first | assumption | exact Int32.toInt_inj.mp (by assumption)))) (by have q9 := h_23.1; rw [show r_22 = -1 from (by first | assumption | exact Int32.toInt_inj.mp (by assumption))] at q9; exact q9)), (Or.inr h_23.2)⟩ hP hD hS ls (lv_sub hl [0, 1, 2, 5, 6] rfl)
                        ·
                          have tc_25 : (x51_2.toInt : Int) ≠ 0 := fun q => c_25 (Int32.toInt_inj.mp q)
                          refine lv_aload_n hx hb dX12_blend_121 rfl (lvA6 hl) ?_
                          refine gM_419 S hK hP (v := .int (In23 71)) rfl dX12_blend_122 ?_
                          refine lv_iload_n hx hb dX12_blend_125 rfl (lvA3 hl) ?_
                          refine lv_icmp_lt (tgt := 160) hx hb dX12_blend_126 rfl (fun c_26 => ?_) (fun c_26 => ?_)
                          ·
                            have tc_26 : ((In23 71).toInt : Int) < x51_3.toInt := Int32.lt_iff_toInt_lt.mp c_26
                            refine lv_iinc (v := (nI (i51 + 1))) (lv' := [(4, .int (nI (i51 + 1))), (6, .int (nI i65)), (5, .int (SXB (F4 74) (fun j => i51.testBit j) n4)), (3, .int x51_3), (2, .int x51_2), (1, .int (nI n4)), (0, .ref (g 100))]) hx hb dX12_blend_160 hl (k := 2) rfl (nI_1 _) (ltb rfl) rfl (fun ls hl => ?_)
                            refine lv_goto (tgt := 51) hx hb dX12_blend_163 rfl ?_
                            exact ih51 (i51 + 1) x51_2 x51_3 In23 Fn23 _ _ (by (first | omega | (have zz0 := Hid.u hi_cn; omega))) ⟨(by (first | omega | (have zz0 := Hid.u hi_cn; omega))), (Fr.mo hf23 (sbl rfl) (sbl rfl) (sbl rfl)), hIn23, ((hfc23.2.2 74 (nml rfl)).trans hx51_0), (BLR.ns (by (first | omega | (have zz0 := Hid.u hi_cn; omega))) hx51_1 (fun w9 => BTR_n (hx51_2.elim Or.inl (fun q9 => Or.inr ⟨q9, rfl⟩)) ⟨(by first | assumption | exact fun q => absurd (congrArg Int32.toInt q) (by assumption)), by (first | omega | (have zz0 := Hid.u hi_cn; omega)), by (first | omega | (have zz0 := Hid.u hi_cn; omega))⟩ w9.1)), hx51_2⟩ hP hD hS ls (lv_sub hl [0, 3, 4, 5, 6] rfl)
                          ·
                            have tc_26 : (x51_3.toInt : Int) ≤ (In23 71).toInt := Int32.le_iff_toInt_le.mp (Int32.not_lt.mp c_26)
                            refine lv_aload_n hx hb dX12_blend_129 rfl (lvA6 hl) ?_
                            refine gM_419 S hK hP (v := .int (In23 71)) rfl dX12_blend_130 ?_
                            refine lv_iload_n hx hb dX12_blend_133 rfl (lvA3 hl) ?_
                            refine lv_icmp_ne (tgt := 152) hx hb dX12_blend_134 rfl (fun c_27 => ?_) (fun c_27 => ?_)
                            ·
                              have tc_27 : ((In23 71).toInt : Int) ≠ x51_3.toInt := fun q => c_27 (Int32.toInt_inj.mp q)
                              refine lv_iload hx hb dX12_blend_152 (lvA1 hl) ?_
                              refine lv_istore_n (lv' := [(2, .int (SXB (F4 74) (fun j => i51.testBit j) n4)), (6, .int (nI i65)), (5, .int (SXB (F4 74) (fun j => i51.testBit j) n4)), (4, .int (nI i51)), (3, .int x51_3), (1, .int (nI n4)), (0, .ref (g 100))]) hx hb dX12_blend_154 rfl hl (ltb rfl) rfl (fun ls hl => ?_)
                              refine lv_aload_n hx hb dX12_blend_155 rfl (lvA6 hl) ?_
                              refine gM_419 S hK hP (v := .int (In23 71)) rfl dX12_blend_156 ?_
                              refine lv_istore_n (lv' := [(3, .int (In23 71)), (2, .int (SXB (F4 74) (fun j => i51.testBit j) n4)), (6, .int (nI i65)), (5, .int (SXB (F4 74) (fun j => i51.testBit j) n4)), (4, .int (nI i51)), (1, .int (nI n4)), (0, .ref (g 100))]) hx hb dX12_blend_159 rfl hl (ltb rfl) rfl (fun ls hl => ?_)
                              refine lv_iinc (v := (nI (i51 + 1))) (lv' := [(4, .int (nI (i51 + 1))), (3, .int (In23 71)), (2, .int (SXB (F4 74) (fun j => i51.testBit j) n4)), (6, .int (nI i65)), (5, .int (SXB (F4 74) (fun j => i51.testBit j) n4)), (1, .int (nI n4)), (0, .ref (g 100))]) hx hb dX12_blend_160 hl (k := 4) rfl (nI_1 _) (ltb rfl) rfl (fun ls hl => ?_)
                              refine lv_goto (tgt := 51) hx hb dX12_blend_163 rfl ?_
                              exact ih51 (i51 + 1) (SXB (F4 74) (fun j => i51.testBit j) n4) (In23 71) In23 Fn23 _ _ (by (first | omega | (have zz0 := Hid.u hi_cn; omega))) ⟨(by (first | omega | (have zz0 := Hid.u hi_cn; omega))), (Fr.mo hf23 (sbl rfl) (sbl rfl) (sbl rfl)), hIn23, ((hfc23.2.2 74 (nml rfl)).trans hx51_0), (BLR.ys (S := (fun c => SXB (F4 74) (fun j => c.testBit j) n4)) (by (first | omega | (have zz0 := Hid.u hi_cn; omega))) hx51_1 (BTR_w (hx51_2.elim Or.inl (fun q9 => Or.inr ⟨q9, rfl⟩)) (Or.inr (Or.inl (by (first | omega | (have zz0 := Hid.u hi_cn; omega)))))) (by have q9 := h_23.1; rw [show r_22 = -1 from (by first | assumption | exact Int32.toInt_inj.mp (by assumption))] at q9; exact q9)), (Or.inr h_23.2)⟩ hP hD hS ls (lv_sub hl [0, 1, 2, 5, 6] rfl)
                            ·
                              have tc_27 : ((In23 71).toInt : Int) = x51_3.toInt := congrArg Int32.toInt c_27
                              refine lv_iload hx hb dX12_blend_137 (lvA1 hl) ?_
                              refine vp_callSi (runS_r (As := [.int (SXB (F4 74) (fun j => i51.testBit j) n4)]) (rest := []) S (q_bits9 l D cI cB cZ (SXB (F4 74) (fun j => i51.testBit j) n4) ) kS_RX12_431 hK hP [] rfl ⟨Nat.le_of_ble_eq_true rfl, Nat.le_of_ble_eq_true rfl⟩ ⟨Nat.le_of_ble_eq_true rfl, Nat.le_of_ble_eq_true rfl⟩ rfl hl.1 rfl (Nat.le_of_ble_eq_true rfl) dX12_blend_139) (fun r_28 h_29 => ?_)
                              obtain rfl : r_28 = (mxI (fun _ => 1) (SXB (F4 74) (fun j => i51.testBit j) n4) 20) := h_29
                              refine lv_iload_n hx hb dX12_blend_142 rfl (lvA4 hl) ?_
                              refine vp_callSi (runS_r (As := [.int x51_2]) (rest := [.int (mxI (fun _ => 1) (SXB (F4 74) (fun j => i51.testBit j) n4) 20)]) S (q_bits9 l D cI cB cZ x51_2 ) kS_RX12_431 hK hP [] rfl ⟨Nat.le_of_ble_eq_true rfl, Nat.le_of_ble_eq_true rfl⟩ ⟨Nat.le_of_ble_eq_true rfl, Nat.le_of_ble_eq_true rfl⟩ rfl hl.1 rfl (Nat.le_of_ble_eq_true rfl) dX12_blend_143) (fun r_30 h_31 => ?_)
                              obtain rfl : r_30 = (mxI (fun _ => 1) x51_2 20) := h_31
                              refine lv_icmp_lt (tgt := 152) hx hb dX12_blend_146 rfl (fun c_32 => ?_) (fun c_32 => ?_)
                              ·
                                have tc_32 : ((mxI (fun _ => 1) (SXB (F4 74) (fun j => i51.testBit j) n4) 20).toInt : Int) < (mxI (fun _ => 1) x51_2 20).toInt := Int32.lt_iff_toInt_lt.mp c_32
                                refine lv_iload hx hb dX12_blend_152 (lvA1 hl) ?_
                                refine lv_istore_n (lv' := [(2, .int (SXB (F4 74) (fun j => i51.testBit j) n4)), (6, .int (nI i65)), (5, .int (SXB (F4 74) (fun j => i51.testBit j) n4)), (4, .int (nI i51)), (3, .int x51_3), (1, .int (nI n4)), (0, .ref (g 100))]) hx hb dX12_blend_154 rfl hl (ltb rfl) rfl (fun ls hl => ?_)
                                refine lv_aload_n hx hb dX12_blend_155 rfl (lvA6 hl) ?_
                                refine gM_419 S hK hP (v := .int (In23 71)) rfl dX12_blend_156 ?_
                                refine lv_istore_n (lv' := [(3, .int (In23 71)), (2, .int (SXB (F4 74) (fun j => i51.testBit j) n4)), (6, .int (nI i65)), (5, .int (SXB (F4 74) (fun j => i51.testBit j) n4)), (4, .int (nI i51)), (1, .int (nI n4)), (0, .ref (g 100))]) hx hb dX12_blend_159 rfl hl (ltb rfl) rfl (fun ls hl => ?_)
                                refine lv_iinc (v := (nI (i51 + 1))) (lv' := [(4, .int (nI (i51 + 1))), (3, .int (In23 71)), (2, .int (SXB (F4 74) (fun j => i51.testBit j) n4)), (6, .int (nI i65)), (5, .int (SXB (F4 74) (fun j => i51.testBit j) n4)), (1, .int (nI n4)), (0, .ref (g 100))]) hx hb dX12_blend_160 hl (k := 4) rfl (nI_1 _) (ltb rfl) rfl (fun ls hl => ?_)
                                refine lv_goto (tgt := 51) hx hb dX12_blend_163 rfl ?_
                                exact ih51 (i51 + 1) (SXB (F4 74) (fun j => i51.testBit j) n4) (In23 71) In23 Fn23 _ _ (by (first | omega | (have zz0 := Hid.u hi_cn; omega))) ⟨(by (first | omega | (have zz0 := Hid.u hi_cn; omega))), (Fr.mo hf23 (sbl rfl) (sbl rfl) (sbl rfl)), hIn23, ((hfc23.2.2 74 (nml rfl)).trans hx51_0), (BLR.ys (S := (fun c => SXB (F4 74) (fun j => c.testBit j) n4)) (by (first | omega | (have zz0 := Hid.u hi_cn; omega))) hx51_1 (BTR_w (hx51_2.elim Or.inl (fun q9 => Or.inr ⟨q9, rfl⟩)) (Or.inr (Or.inr ⟨by (first | omega | (have zz0 := Hid.u hi_cn; omega)), by (first | omega | (have zz0 := Hid.u hi_cn; omega))⟩))) (by have q9 := h_23.1; rw [show r_22 = -1 from (by first | assumption | exact Int32.toInt_inj.mp (by assumption))] at q9; exact q9)), (Or.inr h_23.2)⟩ hP hD hS ls (lv_sub hl [0, 1, 2, 5, 6] rfl)
                              ·
                                have tc_32 : ((mxI (fun _ => 1) x51_2 20).toInt : Int) ≤ (mxI (fun _ => 1) (SXB (F4 74) (fun j => i51.testBit j) n4) 20).toInt := Int32.le_iff_toInt_le.mp (Int32.not_lt.mp c_32)
                                refine lv_goto (tgt := 160) hx hb dX12_blend_149 rfl ?_
                                refine lv_iinc (v := (nI (i51 + 1))) (lv' := [(4, .int (nI (i51 + 1))), (6, .int (nI i65)), (5, .int (SXB (F4 74) (fun j => i51.testBit j) n4)), (3, .int x51_3), (2, .int x51_2), (1, .int (nI n4)), (0, .ref (g 100))]) hx hb dX12_blend_160 hl (k := 2) rfl (nI_1 _) (ltb rfl) rfl (fun ls hl => ?_)
                                refine lv_goto (tgt := 51) hx hb dX12_blend_163 rfl ?_
                                exact ih51 (i51 + 1) x51_2 x51_3 In23 Fn23 _ _ (by (first | omega | (have zz0 := Hid.u hi_cn; omega))) ⟨(by (first | omega | (have zz0 := Hid.u hi_cn; omega))), (Fr.mo hf23 (sbl rfl) (sbl rfl) (sbl rfl)), hIn23, ((hfc23.2.2 74 (nml rfl)).trans hx51_0), (BLR.ns (by (first | omega | (have zz0 := Hid.u hi_cn; omega))) hx51_1 (fun w9 => BTR_n (hx51_2.elim Or.inl (fun q9 => Or.inr ⟨q9, rfl⟩)) ⟨(by first | assumption | exact fun q => absurd (congrArg Int32.toInt q) (by assumption)), by (first | omega | (have zz0 := Hid.u hi_cn; omega)), by (first | omega | (have zz0 := Hid.u hi_cn; omega))⟩ w9.1)), hx51_2⟩ hP hD hS ls (lv_sub hl [0, 3, 4, 5, 6] rfl)
                    ·
                      have tc_21 : ((nI i65).toInt : Int) < (nI n4).toInt := Int32.lt_iff_toInt_lt.mp (Int32.not_le.mp c_21)
                      refine lv_iload hx hb dX12_blend_71 (lvA2 hl) ?_
                      refine lv_iload hx hb dX12_blend_73 (lvA0 hl) ?_
                      refine lv_ishr hx hb dX12_blend_75 ?_
                      refine lv_iconst (v := 1) hx hb dX12_blend_76 kic_1 ?_
                      refine lv_iand hx hb dX12_blend_77 ?_
                      refine lv_iconst (v := 1) hx hb dX12_blend_78 kic_1 ?_
                      refine lv_icmp_ne (tgt := 97) hx hb dX12_blend_79 rfl (fun c_33 => ?_) (fun c_33 => ?_)
                      ·
                        have tc_33 : ((((nI i51) >>> ((nI i65) &&& 31)) &&& 1).toInt : Int) ≠ 1 := fun q => c_33 (Int32.toInt_inj.mp q)
                        refine lv_iload hx hb dX12_blend_97 (lvA1 hl) ?_
                        refine lv_istore (lv' := [(5, .int x65_5), (6, .int (nI i65)), (4, .int (nI i51)), (3, .int x51_3), (2, .int x51_2), (1, .int (nI n4)), (0, .ref (g 100))]) hx hb dX12_blend_99 hl (ltb rfl) rfl (fun ls hl => ?_)
                        refine lv_iinc (v := (nI (i65 + 1))) (lv' := [(6, .int (nI (i65 + 1))), (5, .int x65_5), (4, .int (nI i51)), (3, .int x51_3), (2, .int x51_2), (1, .int (nI n4)), (0, .ref (g 100))]) hx hb dX12_blend_101 hl (k := 1) rfl (nI_1 _) (ltb rfl) rfl (fun ls hl => ?_)
                        refine lv_goto (tgt := 65) hx hb dX12_blend_104 rfl ?_
                        exact ih65 (i65 + 1) x65_5 (by (first | omega | (have zz0 := Hid.u hi_cn; omega))) ⟨(by (first | omega | (have zz0 := Hid.u hi_cn; omega))), (hx65_0.trans (SXB_no (bit_1f (by (first | omega | (have zz0 := Hid.u hi_cn; omega))) (by first | assumption | exact fun q => absurd (congrArg Int32.toInt q) (by assumption)))))⟩ ls (lv_sub hl [0, 1, 2, 3, 4, 5, 6] rfl)
                      ·
                        have tc_33 : ((((nI i51) >>> ((nI i65) &&& 31)) &&& 1).toInt : Int) = 1 := congrArg Int32.toInt c_33
                        refine lv_iload hx hb dX12_blend_82 (lvA1 hl) ?_
                        refine lv_iconst (v := 1) hx hb dX12_blend_84 kic_1 ?_
                        refine lv_aload_n hx hb dX12_blend_85 rfl (lvA6 hl) ?_
                        refine gM_159 S hK hP (v := .ref (g 74)) rfl dX12_blend_86 ?_
                        refine lv_iload hx hb dX12_blend_89 (lvA0 hl) ?_
                        have kb_2 : i65 < 12 := by (first | omega | (have zz0 := Hid.u hi_cn; omega))
                        refine ldM_74 hx hb hK hP (x := ((F51 74) i65)) (vp_in_nI kb_2 (ltb rfl)) (nI_clamp (Nat.lt_trans kb_2 (ltb rfl))) rfl dX12_blend_91 ?_
                        refine lv_topi (fun y_34 ey_34 => ?_)
                        obtain rfl : y_34 = ((F4 74) i65) := ey_34.trans (congrFun hx51_0 i65)
                        refine lv_ishl hx hb dX12_blend_92 ?_
                        refine lv_ior hx hb dX12_blend_93 ?_
                        refine lv_goto (tgt := 99) hx hb dX12_blend_94 rfl ?_
                        refine lv_istore (lv' := [(5, .int (x65_5 ||| (1 <<< (((F4 74) i65) &&& 31)))), (6, .int (nI i65)), (4, .int (nI i51)), (3, .int x51_3), (2, .int x51_2), (1, .int (nI n4)), (0, .ref (g 100))]) hx hb dX12_blend_99 hl (ltb rfl) rfl (fun ls hl => ?_)
                        refine lv_iinc (v := (nI (i65 + 1))) (lv' := [(6, .int (nI (i65 + 1))), (5, .int (x65_5 ||| (1 <<< (((F4 74) i65) &&& 31)))), (4, .int (nI i51)), (3, .int x51_3), (2, .int x51_2), (1, .int (nI n4)), (0, .ref (g 100))]) hx hb dX12_blend_101 hl (k := 1) rfl (nI_1 _) (ltb rfl) rfl (fun ls hl => ?_)
                        refine lv_goto (tgt := 65) hx hb dX12_blend_104 rfl ?_
                        exact ih65 (i65 + 1) (x65_5 ||| (1 <<< (((F4 74) i65) &&& 31))) (by (first | omega | (have zz0 := Hid.u hi_cn; omega))) ⟨(by (first | omega | (have zz0 := Hid.u hi_cn; omega))), (by rw [hx65_0]; exact SXB_or (fun k hk => hrow9 k (by (first | omega | (have zz0 := Hid.u hi_cn; omega)))) (fun k hk => hdis9 k i65 hk (by (first | omega | (have zz0 := Hid.u hi_cn; omega)))) (bit_1t (by (first | omega | (have zz0 := Hid.u hi_cn; omega))) (by first | assumption | exact Int32.toInt_inj.mp (by assumption))))⟩ ls (lv_sub hl [0, 1, 2, 3, 4, 5, 6] rfl)
                exact lp_65 _ 0 0 (Nat.lt_succ_self _) ⟨(by (first | omega | (have zz0 := Hid.u hi_cn; omega))), rfl⟩ ls (lv_sub hl [0, 1, 2, 3, 4, 5, 6] rfl)
          exact lp_51 _ 1 0 0 In F4 _ _ (Nat.lt_succ_self _) ⟨(by (first | omega | (have zz0 := Hid.u hi_cn; omega))), (Fr.mo hfr4 (sbl rfl) (sbl rfl) (sbl rfl)), hI4, rfl, (show (0 : Int32) = 0 from rfl), (Or.inl rfl)⟩ hP hD hS ls (lv_sub hl [0, 1, 2, 3, 4] rfl)
        ·
          have tc_18 : ((nI n4).toInt : Int) < 12 := Int32.lt_iff_toInt_lt.mp (Int32.not_le.mp c_18)
          refine lv_aload_n hx hb (oc_42 16 (aq_16 shX12_blend_0)) rfl (lvA2 hl) ?_
          refine lv_iload_n hx hb (oc_28 17 (aq_17 shX12_blend_0)) rfl (lvA0 hl) ?_
          refine vp_callSi (runV_ra (As := [.int (nI i4)]) (rest := []) S (q_isFree9 l D cI cB cZ g cn In F4 (nI i4) hI4) kV_RX12_438 hK hP 0 rfl rfl rfl ⟨Nat.le_of_ble_eq_true rfl, Nat.le_of_ble_eq_true rfl⟩ ⟨Nat.le_of_ble_eq_true rfl, Nat.le_of_ble_eq_true rfl⟩ rfl hl.1 rfl (Nat.le_of_ble_eq_true rfl) (oc_182 18 (aq_18 shX12_blend_0) uw_1_182)) (fun r_35 h_36 => ?_)
          rcases h_36 with ⟨rfl, h_36⟩ | ⟨rfl, h_36⟩
          ·
            rw [show (nI i4).toInt.toNat = i4 from nI_tn (by (first | omega | (have zz0 := Hid.u hi_cn; omega))), hfr4.2.2 15 (nml rfl), hfr4.2.2 13 (nml rfl)] at h_36
            refine lv_if_ne (tgt := 27) hx hb dX12_blend_21 rfl (fun _ => ?_) (fun h => absurd h cq_eq_1_0)
            refine lv_aload_n hx hb (oc_42 27 (aq_3 shX12_blend_24)) rfl (lvA2 hl) ?_
            refine gM_159 S hK hP (v := .ref (g 74)) rfl (oc_180 28 (aq_4 shX12_blend_24) uw_0_159) ?_
            refine lv_iload_n hx hb (oc_27 31 (aq_7 shX12_blend_24)) rfl (lvA1 hl) ?_
            refine lv_iload_n hx hb (oc_28 32 (aq_8 shX12_blend_24)) rfl (lvA0 hl) ?_
            have kb_3 : n4 < 12 := by (first | omega | (have zz0 := Hid.u hi_cn; omega))
            refine stM_74 hx hb hK hP hD hS (Fn2 := (va_up F4 74 (upd (F4 74) n4 (nI i4)))) (vp_in_nI kb_3 (ltb rfl)) (nI_clamp (Nat.lt_trans kb_3 (ltb rfl))) rfl (oc_79 33 (aq_9 shX12_blend_24)) (fun H locs hP hD hS => ?_)
            refine lv_iload_n hx hb (oc_27 34 (aq_10 shX12_blend_24)) rfl (lvA1 hl) ?_
            refine lv_iconst (v := 1) hx hb (oc_4 35 (aq_11 shX12_blend_24)) kic_1 ?_
            refine lv_iadd hx hb (oc_96 36 (aq_12 shX12_blend_24)) ?_
            refine lv_topi (fun y_37 ey_37 => ?_)
            obtain rfl : y_37 = (nI (n4 + 1)) := ey_37.trans (nI_add n4 1)
            refine lv_istore_n (lv' := [(1, .int (nI (n4 + 1))), (2, .int (nI i4)), (0, .ref (g 100))]) hx hb (oc_60 37 (aq_13 shX12_blend_24)) rfl hl (ltb rfl) rfl (fun ls hl => ?_)
            refine lv_iinc (v := (nI (i4 + 1))) (lv' := [(2, .int (nI (i4 + 1))), (1, .int (nI (n4 + 1))), (0, .ref (g 100))]) hx hb dX12_blend_38 hl (k := 1) rfl (nI_1 _) (ltb rfl) rfl (fun ls hl => ?_)
            refine lv_goto (tgt := 4) hx hb dX12_blend_41 rfl ?_
            exact ih4 (i4 + 1) (n4 + 1) (va_up F4 74 (upd (F4 74) n4 (nI i4))) _ _ (by (first | omega | (have zz0 := Hid.u hi_cn; omega))) ⟨(by (first | omega | (have zz0 := Hid.u hi_cn; omega))), (Fr.mo (Fr.f 74 hfr4) (sbl rfl) (sbl rfl) (sbl rfl)), (IM.fr (In := In) hI4 (Fr.f 74 Fr.rf) (by decide) (by decide)), ⟨by (first | omega | (have zz0 := Hid.u hi_cn; omega)), by (first | omega | (have zz0 := Hid.u hi_cn; omega))⟩, ⟨l9 ++ [i4], GL.yx hg9 (by (first | omega | (have zz0 := Hid.u hi_cn; omega))) ⟨by (first | omega | (have zz0 := Hid.u hi_cn; omega)), h_36.2.2⟩, (by rw [List.length_append]; show n4 + 1 = l9.length + 1; (first | omega | (have zz0 := Hid.u hi_cn; omega))), (by show RWL (upd (F4 74) n4 (nI i4)) _; rw [hn9]; exact RWL.put hr9)⟩⟩ hP hD hS ls (lv_sub hl [0, 1, 2] rfl)
          ·
            rw [show (nI i4).toInt.toNat = i4 from nI_tn (by (first | omega | (have zz0 := Hid.u hi_cn; omega))), hfr4.2.2 15 (nml rfl), hfr4.2.2 13 (nml rfl)] at h_36
            refine lv_if_ne (tgt := 27) hx hb dX12_blend_21 rfl (fun h => absurd h cq_eq_0_0) (fun _ => ?_)
            refine lv_goto (tgt := 38) hx hb (oc_167 24 shX12_blend_24 sgw_0_14) rfl ?_
            refine lv_iinc (v := (nI (i4 + 1))) (lv' := [(2, .int (nI (i4 + 1))), (1, .int (nI n4)), (0, .ref (g 100))]) hx hb dX12_blend_38 hl (k := 0) rfl (nI_1 _) (ltb rfl) rfl (fun ls hl => ?_)
            refine lv_goto (tgt := 4) hx hb dX12_blend_41 rfl ?_
            exact ih4 (i4 + 1) n4 F4 _ _ (by (first | omega | (have zz0 := Hid.u hi_cn; omega))) ⟨(by (first | omega | (have zz0 := Hid.u hi_cn; omega))), (Fr.mo hfr4 (sbl rfl) (sbl rfl) (sbl rfl)), hI4, ⟨by (first | omega | (have zz0 := Hid.u hi_cn; omega)), by (first | omega | (have zz0 := Hid.u hi_cn; omega))⟩, ⟨l9, GL.nx hg9 (fun w9 => h_36 ⟨by (first | omega | (have zz0 := Hid.u hi_cn; omega)), by have q8 := w9.2.1; (first | omega | (have zz0 := Hid.u hi_cn; omega)), w9.2.2⟩), hn9, hr9⟩⟩ hP hD hS ls (lv_sub hl [0, 1, 2] rfl)
  exact lp_4 _ 0 0 Fn _ _ (Nat.lt_succ_self _) ⟨(by (first | omega | (have zz0 := Hid.u hi_cn; omega))), (Fr.mo Fr.rf (sbl rfl) (sbl rfl) (sbl rfl)), hI, ⟨Nat.le_refl _, by (first | omega | (have zz0 := Hid.u hi_cn; omega))⟩, ⟨[], rfl, rfl, RWL.nil⟩⟩ hP hD hS ls (lv_sub hl [0, 1, 2] rfl)
