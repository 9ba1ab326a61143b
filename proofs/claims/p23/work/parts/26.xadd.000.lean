/-- families alike at their own places -/
def famE {α : Type} : List (Nat × (Nat → α)) → List (Nat × (Nat → α)) → Prop
  | [], [] => True
  | p :: r, q :: s => (p.1 = q.1 ∧ ∀ k : Nat, k < p.1 → p.2 k = q.2 k) ∧ famE r s
  | _, _ => False
theorem famW_cg {α : Type} : ∀ {fs fs' : List (Nat × (Nat → α))}, famE fs fs' → famW fs = famW fs'
  | [], [], _ => rfl
  | _ :: _, _ :: _, h => by
    rw [famW, famW, famW_cg h.2, ← h.1.1, fam_cg h.1.2]
theorem famW_push {α : Type} {n : Nat} {f : Nat → α} : ∀ {fs : List (Nat × (Nat → α))} {i : Nat}, fs[i]? = some (n + 1, f) → (famW fs).Perm (famW (fs.set i (n, f)) ++ [f n])
  | [], i, h => by simp at h
  | q :: r, 0, h => by
    simp at h; subst h
    show (fam (n + 1) f ++ famW r).Perm ((fam n f ++ famW r) ++ [f n])
    rw [fam_succ, List.append_assoc, List.append_assoc]
    exact List.Perm.append_left _ List.perm_append_comm
  | q :: r, i + 1, h => by
    simp at h
    show (fam q.1 q.2 ++ famW r).Perm ((fam q.1 q.2 ++ famW (r.set i (n, f))) ++ [f n])
    rw [List.append_assoc]
    exact List.Perm.append_left _ (famW_push h)
theorem va_P_mem {D : va_G} {cl : List vw_C} {ws : va_W} {H : Heap} : va_P D cl ws H ↔ ∀ q : Nat × va_E, q ∈ ws → va_at D cl q H :=
  ⟨fun h q hq => by obtain ⟨k, hk⟩ := List.mem_iff_getElem?.mp hq; exact h k q hk, fun h k q hk => h q (List.mem_iff_getElem?.mpr ⟨k, hk⟩)⟩
theorem va_P_perm {D : va_G} {cl : List vw_C} {w1 w2 : va_W} {H : Heap} (p : w1.Perm w2) (h : va_P D cl w1 H) : va_P D cl w2 H := va_P_mem.mpr (fun q hq => va_P_mem.mp h q (p.mem_iff.mpr hq))
theorem va_D_mem {A : Nat → Prop} {ws : va_W} : va_D A ws ↔ (ws.map Prod.fst).Nodup ∧ ∀ q : Nat × va_E, q ∈ ws → A q.1 := by
  constructor
  · intro h
    refine ⟨List.pairwise_iff_getElem.mpr (fun i j hi hj hij he => ?_), fun q hq => by obtain ⟨k, hk⟩ := List.mem_iff_getElem?.mp hq; exact h.2 k q hk⟩
    rw [List.length_map] at hi hj
    rw [List.getElem_map, List.getElem_map] at he
    have := h.1 i j _ _ (List.getElem?_eq_getElem hi) (List.getElem?_eq_getElem hj) he
    omega
  · intro ⟨h, h2⟩
    refine ⟨fun i j p q hi hj e => ?_, fun k q hk => h2 q (List.mem_iff_getElem?.mpr ⟨k, hk⟩)⟩
    have h := List.pairwise_iff_getElem.mp h
    obtain ⟨li, ei⟩ := List.getElem?_eq_some_iff.mp hi
    obtain ⟨lj, ej⟩ := List.getElem?_eq_some_iff.mp hj
    rcases Nat.lt_trichotomy i j with c | c | c
    · exact absurd (by rw [List.getElem_map, List.getElem_map, ei, ej, e]) (h i j (by rw [List.length_map]; exact li) (by rw [List.length_map]; exact lj) c)
    · exact c
    · exact absurd (by rw [List.getElem_map, List.getElem_map, ei, ej, e]) (h j i (by rw [List.length_map]; exact lj) (by rw [List.length_map]; exact li) c)
theorem va_D_perm {A : Nat → Prop} {w1 w2 : va_W} (p : w1.Perm w2) (h : va_D A w1) : va_D A w2 := by
  obtain ⟨a, b⟩ := va_D_mem.mp h
  exact va_D_mem.mpr ⟨(p.map Prod.fst).nodup_iff.mp a, fun q hq => b q (p.mem_iff.mpr hq)⟩
/-- cells that stand behind a world, changed by a callee -/
theorem exjoin {A0 : Nat → Prop} {D : va_G} {cl : List vw_C} {X ex nw : va_W} {H H1 : Heap} (hP : va_P D cl (X ++ ex) H) (hD : va_D A0 (X ++ ex)) (hk : ∀ q : Nat, q < H.size → ¬ va_A ex H.size q → H1[q]? = H[q]?) (hF : ∀ q, va_A ex H.size q → A0 q) (hP1 : va_P D cl nw H1) (hD1 : va_D (va_A ex H.size) nw) : va_P D cl (X ++ nw) H1 ∧ va_D A0 (X ++ nw) := by
  have hX : ∀ (k : Nat) (q : Nat × va_E), X[k]? = some q → (X ++ ex)[k]? = some q := fun k q h => by rw [List.getElem?_append_left (List.getElem?_eq_some_iff.mp h).1]; exact h
  have hE : ∀ (k : Nat) (q : Nat × va_E), ex[k]? = some q → (X ++ ex)[X.length + k]? = some q := fun k q h => by rw [List.getElem?_append_right (by omega), show X.length + k - X.length = k by omega]; exact h
  have apart : ∀ (k : Nat) (q : Nat × va_E), X[k]? = some q → q.1 < H.size ∧ ¬ va_A ex H.size q.1 := by
    intro k q h
    have hl := (hP k q (hX k q h)).lt
    refine ⟨hl, fun w => ?_⟩
    rcases w with ⟨j, e, w⟩ | w
    · have := hD.1 k (X.length + j) q (q.1, e) (hX k q h) (hE j _ w) rfl
      have := (List.getElem?_eq_some_iff.mp h).1
      omega
    · omega
  refine ⟨va_P.app (fun k q h => ?_) hP1, va_D.app ⟨fun i j p q hi hj e => hD.1 i j p q (hX i p hi) (hX j q hj) e, fun k q h => hD.2 k q (hX k q h)⟩ (hD1.weaken (fun k q _ h => hF q.1 h)) (fun i j x y hx hy hxy => ?_)⟩
  · obtain ⟨g1, g2⟩ := apart k q h
    exact (hP k q (hX k q h)).kept (hk q.1 g1 g2)
  · exact (apart i x hx).2 (by rw [hxy]; exact hD1.2 j y hy)
section EXC
variable {D : va_G} {cl : List vw_C} {A0 : Nat → Prop} {X X' ex ex' : va_W} {H H1 : Heap} {i m : Nat} {c c0 : Nat × va_E}
theorem exl (h : X[i]? = some c) : (X ++ ex)[i]? = some c := by rw [List.getElem?_append_left (List.getElem?_eq_some_iff.mp h).1]; exact h
theorem exr (h : ex[m]? = some c) : (X ++ ex)[X.length + m]? = some c := by rw [List.getElem?_append_right (by omega), show X.length + m - X.length = m by omega]; exact h
theorem exs_l (h : X[i]? = some c0) (e : X.set i c = X') : (X ++ ex).set i c = X' ++ ex := by rw [List.set_append_left _ _ (List.getElem?_eq_some_iff.mp h).1, e]
theorem exs_r (e : ex.set m c = ex') : (X ++ ex).set (X.length + m) c = X ++ ex' := by rw [List.set_append_right _ _ (by omega), show X.length + m - X.length = m by omega, e]
theorem exP (h : va_P D cl (X ++ ex) H) : va_P D cl X H := fun k q hk => h k q (exl hk)
theorem exD (h : va_D A0 (X ++ ex)) : va_D A0 X := ⟨fun i j p q hi hj e => h.1 i j p q (exl hi) (exl hj) e, fun k q hk => h.2 k q (exl hk)⟩
/-- a world changed by a callee, with cells behind it that the callee does not know -/
theorem exjoinL (hP : va_P D cl (X ++ ex) H) (hD : va_D A0 (X ++ ex)) (hk : ∀ q : Nat, q < H.size → ¬ va_A X H.size q → H1[q]? = H[q]?) (hF : ∀ q, va_A X H.size q → A0 q) (hP1 : va_P D cl X' H1) (hD1 : va_D (va_A X H.size) X') : va_P D cl (X' ++ ex) H1 ∧ va_D A0 (X' ++ ex) := by
  have apart : ∀ (k : Nat) (q : Nat × va_E), ex[k]? = some q → q.1 < H.size ∧ ¬ va_A X H.size q.1 := by
    intro k q h
    have hl := (hP _ q (exr h)).lt
    refine ⟨hl, fun w => ?_⟩
    rcases w with ⟨j, e, w⟩ | w
    · have := hD.1 (X.length + k) j q (q.1, e) (exr h) (exl w) rfl
      have := (List.getElem?_eq_some_iff.mp w).1
      omega
    · omega
  refine ⟨va_P.app hP1 (fun k q h => ?_), va_D.app (hD1.weaken (fun k q _ h => hF q.1 h)) ⟨fun i j p q hi hj e => by have := hD.1 _ _ p q (exr hi) (exr hj) e; omega, fun k q h => hD.2 _ q (exr h)⟩ (fun i j x y hx hy hxy => ?_)⟩
  · obtain ⟨g1, g2⟩ := apart k q h
    exact (hP _ q (exr h)).kept (hk q.1 g1 g2)
  · exact (apart j y hy).2 (by rw [← hxy]; exact hD1.2 i x hx)
end EXC
/-- three cells of a world, changed by a callee -/
theorem wset3 {D : va_G} {cl : List vw_C} {A0 : Nat → Prop} {W : va_W} {i j m a b b' c : Nat} {e1 e2 e3 d1 d2 d3 : va_E} {H H1 : Heap} (hP : va_P D cl W H) (hD : va_D A0 W) (hi : W[i]? = some (a, e1)) (hj : W[j]? = some (b, e2)) (hm : W[m]? = some (c, e3)) (hij : i ≠ j) (him : i ≠ m) (hjm : j ≠ m)
    (hk : ∀ q : Nat, q < H.size → ¬ va_A [(a, e1), (b, e2), (c, e3)] H.size q → H1[q]? = H[q]?) (hF : ∀ q, va_A [(a, e1), (b, e2), (c, e3)] H.size q → A0 q) (hP1 : va_P D cl [(a, d1), (b', d2), (c, d3)] H1) (hD1 : va_D (va_A [(a, e1), (b, e2), (c, e3)] H.size) [(a, d1), (b', d2), (c, d3)]) : va_P D cl (((W.set i (a, d1)).set j (b', d2)).set m (c, d3)) H1 ∧ va_D A0 (((W.set i (a, d1)).set j (b', d2)).set m (c, d3)) := by
  have li := (List.getElem?_eq_some_iff.mp hi).1
  have lj := (List.getElem?_eq_some_iff.mp hj).1
  have lm := (List.getElem?_eq_some_iff.mp hm).1
  -- each place is one of the three, or as it was and apart
  have key : ∀ (k : Nat) (q : Nat × va_E), (((W.set i (a, d1)).set j (b', d2)).set m (c, d3))[k]? = some q → (k = i ∧ q = (a, d1)) ∨ (k = j ∧ q = (b', d2)) ∨ (k = m ∧ q = (c, d3)) ∨ (k ≠ i ∧ k ≠ j ∧ k ≠ m ∧ W[k]? = some q ∧ q.1 < H.size ∧ ¬ va_A [(a, e1), (b, e2), (c, e3)] H.size q.1) := by
    intro k q h
    rw [List.getElem?_set, List.getElem?_set, List.getElem?_set] at h
    simp only [List.length_set] at h
    by_cases z3 : m = k
    · rw [if_pos z3, if_pos lm] at h; exact Or.inr (Or.inr (Or.inl ⟨z3.symm, (Option.some.inj h).symm⟩))
    rw [if_neg z3] at h
    by_cases z2 : j = k
    · rw [if_pos z2, if_pos lj] at h; exact Or.inr (Or.inl ⟨z2.symm, (Option.some.inj h).symm⟩)
    rw [if_neg z2] at h
    by_cases z1 : i = k
    · rw [if_pos z1, if_pos li] at h; exact Or.inl ⟨z1.symm, (Option.some.inj h).symm⟩
    rw [if_neg z1] at h
    have hl := (hP k q h).lt
    refine Or.inr (Or.inr (Or.inr ⟨fun w => z1 w.symm, fun w => z2 w.symm, fun w => z3 w.symm, h, hl, fun w => ?_⟩))
    rcases w with ⟨y, e, w⟩ | w
    · match y, w with
      | 0, w => exact z1 (hD.1 i k _ q hi h (by simpa using (congrArg Prod.fst (Option.some.inj w))))
      | 1, w => exact z2 (hD.1 j k _ q hj h (by simpa using (congrArg Prod.fst (Option.some.inj w))))
      | 2, w => exact z3 (hD.1 m k _ q hm h (by simpa using (congrArg Prod.fst (Option.some.inj w))))
      | y + 3, w => simp at w
    · omega
  refine ⟨fun k q h => ?_, fun k1 k2 p q h1 h2 e => ?_, fun k q h => ?_⟩
  · rcases key k q h with ⟨-, rfl⟩ | ⟨-, rfl⟩ | ⟨-, rfl⟩ | ⟨-, -, -, g, gl, ga⟩
    · exact hP1 0 _ rfl
    · exact hP1 1 _ rfl
    · exact hP1 2 _ rfl
    · exact (hP k q g).kept (hk q.1 gl ga)
  · have n01 : a ≠ b' := fun w => absurd (hD1.1 0 1 _ _ rfl rfl w) (by decide)
    have n02 : a ≠ c := fun w => absurd (hD1.1 0 2 _ _ rfl rfl w) (by decide)
    have n12 : b' ≠ c := fun w => absurd (hD1.1 1 2 _ _ rfl rfl w) (by decide)
    have f0 := hD1.2 0 _ rfl
    have f1 := hD1.2 1 _ rfl
    have f2 := hD1.2 2 _ rfl
    rcases key k1 p h1 with ⟨c1, rfl⟩ | ⟨c1, rfl⟩ | ⟨c1, rfl⟩ | ⟨x1, x2, x3, g, gl, ga⟩ <;> rcases key k2 q h2 with ⟨c2, rfl⟩ | ⟨c2, rfl⟩ | ⟨c2, rfl⟩ | ⟨y1, y2, y3, g', gl', ga'⟩
    all_goals first | (rw [c1, c2]; done) | exact absurd e n01 | exact absurd e.symm n01 | exact absurd e n02 | exact absurd e.symm n02 | exact absurd e n12 | exact absurd e.symm n12 | (exfalso; exact ga (by rw [e]; first | exact f0 | exact f1 | exact f2)) | (exfalso; exact ga' (by rw [← e]; first | exact f0 | exact f1 | exact f2)) | exact hD.1 k1 k2 p q g g' e
  · rcases key k q h with ⟨-, rfl⟩ | ⟨-, rfl⟩ | ⟨-, rfl⟩ | ⟨-, -, -, g, gl, ga⟩
    · exact hF _ (hD1.2 0 _ rfl)
    · exact hF _ (hD1.2 1 _ rfl)
    · exact hF _ (hD1.2 2 _ rfl)
    · exact hD.2 k q g
/-- the addresses with one more: of family a the n-th is q, elementData of list t is z -/
def adP (ad : Nat → Nat → Nat) (a n q t z : Nat) : Nat → Nat → Nat := fun i k => if i = a ∧ k = n then q else if i = 2 ∧ k = t then z else ad i k
