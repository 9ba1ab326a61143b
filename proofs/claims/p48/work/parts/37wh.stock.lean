/-- what is left of x behind n that go out -/
def dnI (f : Nat → Int32) (x : Int32) : Nat → Int32
  | 0 => x
  | n + 1 => dnI f x n - f n
theorem dnI_s {f : Nat → Int32} {x : Int32} : ∀ n : Nat, dnI f x n + sumI f n = x
  | 0 => Int32.add_zero x
  | n + 1 => by
    have ih := dnI_s (f := f) (x := x) n
    show dnI f x n - f n + (sumI f n + f n) = x
    rw [Int32.add_comm (sumI f n) (f n), ← Int32.add_assoc, Int32.sub_add_cancel]
    exact ih
theorem add_rc {a b c : Int32} (h : a + c = b + c) : a = b := by
  have t := congrArg (fun z => z - c) h
  have e : ∀ z : Int32, z + c - c = z := fun z => Int32.add_sub_cancel z c
  have t2 : a + c - c = b + c - c := t
  rw [e, e] at t2
  exact t2
/-- the first day on which there is less; -2 where there is none -/
def BLW (P : Nat → Prop) (n : Nat) (r : Int32) : Prop := (∃ p : Nat, p < n ∧ P p ∧ (∀ q : Nat, q < p → ¬ P q) ∧ r = nI p) ∨ ((∀ q : Nat, q < n → ¬ P q) ∧ r = -2)
theorem BLW.un {P Q : Nat → Prop} {n : Nat} {r r2 : Int32} (e : ∀ k : Nat, k < n → (P k ↔ Q k)) (a : BLW P n r) (b : BLW Q n r2) : r = r2 := by
  rcases a with ⟨p, a1, a2, a3, a4⟩ | ⟨a1, a2⟩ <;> rcases b with ⟨q, b1, b2, b3, b4⟩ | ⟨b1, b2⟩
  · rcases Nat.lt_trichotomy p q with w | w | w
    · exact absurd ((e p a1).mp a2) (b3 p w)
    · rw [a4, b4, w]
    · exact absurd ((e q b1).mpr b2) (a3 q w)
  · exact absurd ((e p a1).mp a2) (b1 p a1)
  · exact absurd ((e q b1).mpr b2) (a1 q b1)
  · rw [a2, b2]
/-- until a day: loads, spills, batches -/
def ldF (D L : Nat → Int32) (d : Nat) : Nat → Int32 := fun i => if (D i).toInt ≤ (d : Int) then L i else 0
def btF (D S L : Nat → Int32) (d : Nat) : Nat → Int32 := fun j => if (D j).toInt ≤ (d : Int) then nI (mixN L (S j) 20) else 0
/-- the stock on a day as the reference reckons it -/
def stkM (n s b : Nat) (lD lL sD sL bD bS : Nat → Int32) (d : Nat) : Int32 := dnI (btF bD bS lL d) (dnI (ldF sD sL d) (sumI (ldF lD lL d) n) s) b
/-- and as the class keeps it: days' changes -/
def STQ (C : Nat → Int32) (n s b : Nat) (lD lL sD sL bD bS : Nat → Int32) : Prop := ∀ d : Nat, d < 400 → sumI C (d + 1) + sumI (btF bD bS lL d) b + sumI (ldF sD sL d) s = sumI (ldF lD lL d) n
section STQS
variable {C : Nat → Int32} {n s b d : Nat} {lD lL sD sL bD bS : Nat → Int32}
theorem STQ.eq (h : STQ C n s b lD lL sD sL bD bS) (hd : d < 400) : sumI C (d + 1) = stkM n s b lD lL sD sL bD bS d := by
  have h1 := h d hd
  have h2 := dnI_s (f := btF bD bS lL d) (x := dnI (ldF sD sL d) (sumI (ldF lD lL d) n) s) b
  have h3 := dnI_s (f := ldF sD sL d) (x := sumI (ldF lD lL d) n) s
  unfold stkM
  apply add_rc (c := sumI (btF bD bS lL d) b)
  apply add_rc (c := sumI (ldF sD sL d) s)
  rw [h1, h2, h3]
theorem sumI_up {f : Nat → Int32} {k : Nat} {x : Int32} : ∀ m : Nat, sumI (upd f k (f k + x)) m = sumI f m + (if k < m then x else 0)
  | 0 => by
    rw [if_neg (Nat.not_lt_zero k)]
    exact (Int32.add_zero _).symm
  | m + 1 => by
    have ih := sumI_up (f := f) (k := k) (x := x) m
    show sumI (upd f k (f k + x)) m + upd f k (f k + x) m = sumI f m + f m + (if k < m + 1 then x else 0)
    rw [ih]
    by_cases q : m = k
    · subst q
      rw [upd_self, if_neg (Nat.lt_irrefl _), if_pos (Nat.lt_succ_self _), Int32.add_zero, Int32.add_assoc]
    · rw [show upd f k (f k + x) m = f m from if_neg q]
      by_cases l : k < m
      · rw [if_pos l, if_pos (by omega), Int32.add_assoc, Int32.add_comm x, ← Int32.add_assoc]
      · rw [if_neg l, if_neg (by omega), Int32.add_zero, Int32.add_zero]
theorem sumI_bt {D S L : Nat → Int32} {v w : Int32} : sumI (btF (upd D n v) (upd S n w) L d) (n + 1) = sumI (btF D S L d) n + (if v.toInt ≤ (d : Int) then nI (mixN L w 20) else 0) := by
  show sumI (btF (upd D n v) (upd S n w) L d) n + btF (upd D n v) (upd S n w) L d n = _
  have e : sumI (btF (upd D n v) (upd S n w) L d) n = sumI (btF D S L d) n := sumI_cg n (fun i hi => by
    unfold btF
    rw [upd_nq (by omega), upd_nq (by omega)])
  rw [e]
  unfold btF
  rw [upd_self, upd_self]
/-- a batch more -/
theorem STQ.bt {v u : Int32} {k : Nat} (h : STQ C n s b lD lL sD sL bD bS) (hv : v.toInt = (k : Int)) : STQ (upd C k (C k + -(nI (mixN lL u 20)))) n s (b + 1) lD lL sD sL (upd bD b v) (upd bS b u) := fun d hd => by
  rw [sumI_up, sumI_bt, ← h d hd]
  by_cases q : k < d + 1
  · rw [if_pos q, if_pos (by omega), ← Int32.sub_eq_add_neg]
    rw [← Int32.add_assoc, Int32.add_assoc (sumI C (d + 1) - nI (mixN lL u 20)), Int32.add_comm (sumI (btF bD bS lL d) b) (nI (mixN lL u 20)), ← Int32.add_assoc, Int32.sub_add_cancel]
  · rw [if_neg q, if_neg (by omega), Int32.add_zero, Int32.add_zero]
end STQS
theorem mixN_c9 {f g : Nat → Int32} {s : Int32} : ∀ n : Nat, (∀ i : Nat, i < n → ¬ (s >>> (nI i &&& 31)) &&& 1 = 0 → f i = g i) → mixN f s n = mixN g s n
  | 0, _ => rfl
  | n + 1, h => by
    have ih := mixN_c9 n (fun i hi hb => h i (Nat.lt_succ_of_lt hi) hb)
    by_cases q : (s >>> (nI n &&& 31)) &&& 1 = 0
    · rw [mixN_0 q, mixN_0 q, ih]
    · unfold mixN
      rw [if_neg q, if_neg q, ih, h n (Nat.lt_succ_self n) q]
theorem STQ.start {lD lL sD sL bD bS : Nat → Int32} : STQ (fun _ => 0) 0 0 0 lD lL sD sL bD bS := fun d _ => by
  rw [sumI_0 (f := fun _ => (0 : Int32)) (d + 1) (fun _ _ => rfl)]
  rfl



