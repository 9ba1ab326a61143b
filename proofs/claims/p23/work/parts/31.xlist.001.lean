theorem max1 : ∀ h : Nat, h < 101 → (if (1 : Int32) < nI h then nI h else 1) = nI (max 1 h) := by decide +kernel
section GL
variable {D : va_G} {cl : List vw_C} {A : Nat → Prop} {ws W : va_W} {H : Heap} {n a b c L E O : Nat × va_E} {i j m : Nat}
theorem g_rot : ((([a, b, c] : va_W) ++ ws) ++ [n]).Perm (([n, a, b, c] : va_W) ++ ws) := List.perm_append_comm (l₁ := ([a, b, c] : va_W) ++ ws) (l₂ := [n])
theorem g_dropP (hP : va_P D cl (([n, L, E, O] : va_W) ++ ws) H) : va_P D cl (([L, n, O] : va_W) ++ ws) H := va_P_mem.mpr (fun q hq => va_P_mem.mp hP q (by
  simp only [List.cons_append, List.nil_append, List.mem_cons] at hq ⊢
  rcases hq with h | h | h | h
  · exact Or.inr (Or.inl h)
  · exact Or.inl h
  · exact Or.inr (Or.inr (Or.inr (Or.inl h)))
  · exact Or.inr (Or.inr (Or.inr (Or.inr h)))))
theorem g_dropD (hD : va_D A (([n, L, E, O] : va_W) ++ ws)) : va_D A (([L, n, O] : va_W) ++ ws) := by
  have p : (([n, L, E, O] : va_W) ++ ws).Perm (E :: (([L, n, O] : va_W) ++ ws)) := by
    show (n :: L :: E :: O :: ws).Perm (E :: L :: n :: O :: ws)
    refine (List.Perm.swap L n _).trans ?_
    refine (List.Perm.cons L (List.Perm.swap E n _)).trans ?_
    exact List.Perm.swap E L _
  have h := va_D_mem.mp (va_D_perm p hD)
  exact va_D_mem.mpr ⟨(List.nodup_cons.mp h.1).2, fun q hq => h.2 q (List.mem_cons_of_mem _ hq)⟩
theorem set_out {α : Type} {v : α} : ∀ {V : List α} {i : Nat}, i < V.length → (V.set i v).Perm (v :: V.eraseIdx i)
  | [], i, h => absurd h (Nat.not_lt_zero i)
  | x :: r, 0, _ => List.Perm.refl _
  | x :: r, i + 1, h => by
    show (x :: r.set i v).Perm (v :: x :: r.eraseIdx i)
    exact (List.Perm.cons x (set_out (Nat.lt_of_succ_lt_succ h))).trans (List.Perm.swap v x _)
theorem set_era {α : Type} {v : α} : ∀ {V : List α} {i m : Nat}, i ≠ m → (V.set i v).eraseIdx m = (V.eraseIdx m).set (if i < m then i else i - 1) v
  | [], i, m, _ => by simp
  | x :: r, 0, 0, h => absurd rfl h
  | x :: r, 0, m + 1, _ => by simp
  | x :: r, i + 1, 0, _ => by simp
  | x :: r, i + 1, m + 1, h => by
    have h2 : i ≠ m := fun q => h (by rw [q])
    by_cases q : i < m
    · have := set_era (v := v) (V := r) h2
      rw [if_pos q] at this
      rw [if_pos (by omega)]
      simp [this]
    · have := set_era (v := v) (V := r) h2
      rw [if_neg q] at this
      rw [if_neg (by omega)]
      have e : i + 1 - 1 = (i - 1) + 1 := by omega
      rw [e]
      simp [this]
/-- three cells of a world and the rest -/
theorem pick3 (li : i < W.length) (lj : j < W.length) (lm : m < W.length) (hij : i ≠ j) (him : i ≠ m) (hjm : j ≠ m) : ∃ ws : va_W, ∀ a b c : Nat × va_E, (((W.set i a).set j b).set m c).Perm (([a, b, c] : va_W) ++ ws) := by
  let i1 := if i < m then i else i - 1
  let j1 := if j < m then j else j - 1
  let i2 := if i1 < j1 then i1 else i1 - 1
  have h1 : i1 ≠ j1 := by show (if i < m then i else i - 1) ≠ (if j < m then j else j - 1); split <;> split <;> omega
  have l1 : i1 < W.length - 1 := by show (if i < m then i else i - 1) < _; split <;> omega
  have l2 : j1 < W.length - 1 := by show (if j < m then j else j - 1) < _; split <;> omega
  have l3 : i2 < W.length - 2 := by show (if i1 < j1 then i1 else i1 - 1) < _; split <;> omega
  refine ⟨((W.eraseIdx m).eraseIdx j1).eraseIdx i2, fun a b c => ?_⟩
  have p1 := set_out (v := c) (V := (W.set i a).set j b) (i := m) (by simpa using lm)
  rw [set_era hjm, set_era him] at p1
  have p2 := set_out (v := b) (V := (W.eraseIdx m).set i1 a) (i := j1) (by simp [List.length_eraseIdx, lm]; omega)
  rw [set_era h1] at p2
  have p3 := set_out (v := a) (V := (W.eraseIdx m).eraseIdx j1) (i := i2) (by simp [List.length_eraseIdx, lm]; rw [if_pos l2]; omega)
  refine p1.trans ((List.Perm.cons c (p2.trans (List.Perm.cons b p3))).trans ?_)
  show (c :: b :: a :: _).Perm (a :: b :: c :: _)
  exact ((List.Perm.swap b c _).trans (List.Perm.cons b (List.Perm.swap a c _))).trans (List.Perm.swap a b _)
theorem pickG (hi : W[i]? = some L) (hj : W[j]? = some E) (hm : W[m]? = some O) (hij : i ≠ j) (him : i ≠ m) (hjm : j ≠ m) : ∃ ws : va_W, W.Perm (([L, E, O] : va_W) ++ ws) ∧ ∀ L' E' : Nat × va_E, ((W.set i L').set j E').Perm (([L', E', O] : va_W) ++ ws) := by
  obtain ⟨li, ei⟩ := List.getElem?_eq_some_iff.mp hi
  obtain ⟨lj, ej⟩ := List.getElem?_eq_some_iff.mp hj
  obtain ⟨lm, em⟩ := List.getElem?_eq_some_iff.mp hm
  obtain ⟨ws, h⟩ := pick3 li lj lm hij him hjm
  have same : ∀ (V : va_W) (k : Nat) (x : Nat × va_E), V[k]? = some x → V.set k x = V := fun V k x q => by
    obtain ⟨lk, ek⟩ := List.getElem?_eq_some_iff.mp q
    rw [← ek]; exact List.set_getElem_self lk
  refine ⟨ws, ?_, fun L' E' => ?_⟩
  · have := h L E O
    rw [same W i L hi, same W j E hj, same W m O hm] at this
    exact this
  · have := h L' E' O
    rw [same _ m O (by rw [List.getElem?_set_ne (fun q => hjm q), List.getElem?_set_ne (fun q => him q)]; exact hm)] at this
    exact this
theorem g_mem {l k : List Value} {x z y ci c0 c1 : Nat} {f : Nat → Option Nat} (h : ((y, .inr (ci, l)) : Nat × va_E) ∈ (([(x, .inr (0, k)), (z, .inl (c0, c1, .inr (.inr (.inr (.inr f))))), O] : va_W) ++ ws)) (hc : ci ≠ 0) : ((y, .inr (ci, l)) : Nat × va_E) ∈ O :: ws := by
  rcases List.mem_cons.mp h with h | h
  · have h := congrArg Prod.snd h
    simp only [Sum.inr.injEq, Prod.mk.injEq] at h
    exact absurd h.1 hc
  · rcases List.mem_cons.mp h with h | h
    · have h := congrArg Prod.snd h
      simp only [reduceCtorEq] at h
    · exact h
theorem cpy_rf {o : Nat → Nat} {n : Nat} : va_cpy (fun i => if i < n then some (o i) else none) (fun _ => none) 0 0 n = (fun i => if i < n then some (o i) else none) := by
  funext i
  unfold va_cpy
  by_cases q : i < n
  · rw [if_pos ⟨Nat.zero_le _, by omega⟩, show 0 + (i - 0) = i by omega]
  · rw [if_neg (fun w => q (by omega)), if_neg q]
end GL
