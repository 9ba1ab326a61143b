def dgF (i : Nat) : Nat → Int32 := fun j => if j < i then 15 else 0
theorem dgF_0 : dgF 0 = fun _ => 0 := by funext j; simp [dgF]
theorem dgF_s (i : Nat) : upd (dgF i) i 15 = dgF (i + 1) := by
  funext j
  unfold upd dgF
  by_cases q : j = i
  · subst q; rw [if_pos rfl, if_pos (by omega)]
  · rw [if_neg q]
    by_cases z : j < i
    · rw [if_pos z, if_pos (by omega)]
    · rw [if_neg z, if_neg (by omega)]
def adS (u : Nat → Nat) : Nat → Nat → Nat := fun i k => if i = 4 then (if k = 2 then u 41 else k) else if i = 5 then u (50 + k) else if i = 6 then u 41 else u (70 + 2 * (i - 60) + k)
def cnS : Nat → Nat := fun k => if k = 6 then 2 else 0
def FnS : Nat → Nat → Int32 := fun j => if j = 22 then dgF 400 else fun _ => 0
theorem gA0 {st k : Nat} : gA (fun _ => 0) st k = fun _ => 0 := by
  funext i; unfold gA; split <;> rfl
