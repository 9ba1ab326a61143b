section PICK
variable {D : va_G} {cl : List vw_C} {A : Nat → Prop} {W : va_W} {H : Heap} {i j m : Nat} {c1 c2 c3 : Nat × va_E}
theorem pick2P (hP : va_P D cl W H) (h1 : W[i]? = some c1) (h2 : W[j]? = some c2) : va_P D cl [c1, c2] H := va_P_mem.mpr (fun q hq => by
  simp only [List.mem_cons, List.not_mem_nil, or_false] at hq
  rcases hq with rfl | rfl
  · exact hP i q h1
  · exact hP j q h2)
theorem pick2D (hD : va_D A W) (h1 : W[i]? = some c1) (h2 : W[j]? = some c2) (hij : i ≠ j) : va_D A [c1, c2] := va_D_mem.mpr ⟨by
  simp only [List.map_cons, List.map_nil, List.nodup_cons, List.mem_cons, List.not_mem_nil, or_false, not_false_eq_true, List.nodup_nil, and_true]
  exact fun e => hij (hD.1 i j c1 c2 h1 h2 e), fun q hq => by
  simp only [List.mem_cons, List.not_mem_nil, or_false] at hq
  rcases hq with rfl | rfl
  · exact hD.2 i q h1
  · exact hD.2 j q h2⟩
end PICK
/-- two cells of a world, changed by a callee, and one that it has made -/
theorem wset2e {D : va_G} {cl : List vw_C} {A0 : Nat → Prop} {W : va_W} {i m a b c : Nat} {e1 e3 d1 d2 d3 : va_E} {H H1 : Heap} (hP : va_P D cl W H) (hD : va_D A0 W) (hi : W[i]? = some (a, e1)) (hm : W[m]? = some (c, e3)) (him : i ≠ m)
    (hk : ∀ q : Nat, q < H.size → ¬ va_A [(a, e1), (c, e3)] H.size q → H1[q]? = H[q]?) (hF : ∀ q, va_A [(a, e1), (c, e3)] H.size q → A0 q) (hP1 : va_P D cl [(a, d1), (b, d2), (c, d3)] H1) (hD1 : va_D (va_A [(a, e1), (c, e3)] H.size) [(a, d1), (b, d2), (c, d3)]) : va_P D cl (((W.set i (a, d1)).set m (c, d3)) ++ [(b, d2)]) H1 ∧ va_D A0 (((W.set i (a, d1)).set m (c, d3)) ++ [(b, d2)]) := by
  have li := (List.getElem?_eq_some_iff.mp hi).1
  have lm := (List.getElem?_eq_some_iff.mp hm).1
  have key : ∀ (k : Nat) (q : Nat × va_E), ((W.set i (a, d1)).set m (c, d3))[k]? = some q → (k = i ∧ q = (a, d1)) ∨ (k = m ∧ q = (c, d3)) ∨ (k ≠ i ∧ k ≠ m ∧ W[k]? = some q ∧ q.1 < H.size ∧ ¬ va_A [(a, e1), (c, e3)] H.size q.1) := by
    intro k q h
    rw [List.getElem?_set, List.getElem?_set] at h
    simp only [List.length_set] at h
    by_cases z3 : m = k
    · rw [if_pos z3, if_pos lm] at h; exact Or.inr (Or.inl ⟨z3.symm, (Option.some.inj h).symm⟩)
    rw [if_neg z3] at h
    by_cases z1 : i = k
    · rw [if_pos z1, if_pos li] at h; exact Or.inl ⟨z1.symm, (Option.some.inj h).symm⟩
    rw [if_neg z1] at h
    have hl := (hP k q h).lt
    refine Or.inr (Or.inr ⟨fun w => z1 w.symm, fun w => z3 w.symm, h, hl, fun w => ?_⟩)
    rcases w with ⟨y, e, w⟩ | w
    · match y, w with
      | 0, w => exact z1 (hD.1 i k _ q hi h (by simpa using (congrArg Prod.fst (Option.some.inj w))))
      | 1, w => exact z3 (hD.1 m k _ q hm h (by simpa using (congrArg Prod.fst (Option.some.inj w))))
      | y + 2, w => simp at w
    · omega
  have n01 : a ≠ b := fun w => absurd (hD1.1 0 1 _ _ rfl rfl w) (by decide)
  have n02 : a ≠ c := fun w => absurd (hD1.1 0 2 _ _ rfl rfl w) (by decide)
  have n12 : b ≠ c := fun w => absurd (hD1.1 1 2 _ _ rfl rfl w) (by decide)
  have f0 := hD1.2 0 _ rfl
  have f1 := hD1.2 1 _ rfl
  have f2 := hD1.2 2 _ rfl
  refine ⟨va_P.app (fun k q h => ?_) (fun k q h => ?_), va_D.app ⟨fun k1 k2 p q h1 h2 e => ?_, fun k q h => ?_⟩ ⟨fun k1 k2 p q h1 h2 e => ?_, fun k q h => ?_⟩ (fun k1 k2 p q h1 h2 e => ?_)⟩
  · rcases key k q h with ⟨-, rfl⟩ | ⟨-, rfl⟩ | ⟨-, -, g, gl, ga⟩
    · exact hP1 0 _ rfl
    · exact hP1 2 _ rfl
    · exact (hP k q g).kept (hk q.1 gl ga)
  · match k, h with
    | 0, h => obtain rfl := Option.some.inj h; exact hP1 1 _ rfl
    | k + 1, h => simp at h
  · rcases key k1 p h1 with ⟨x1, rfl⟩ | ⟨x1, rfl⟩ | ⟨x1, x3, g, gl, ga⟩ <;> rcases key k2 q h2 with ⟨y1, rfl⟩ | ⟨y1, rfl⟩ | ⟨y1, y3, g', gl', ga'⟩
    all_goals first | (rw [x1, y1]; done) | exact absurd e n02 | exact absurd e.symm n02 | (exfalso; exact ga (by rw [e]; first | exact f0 | exact f2)) | (exfalso; exact ga' (by rw [← e]; first | exact f0 | exact f2)) | exact hD.1 k1 k2 p q g g' e
  · rcases key k q h with ⟨-, rfl⟩ | ⟨-, rfl⟩ | ⟨-, -, g, gl, ga⟩
    · exact hF _ f0
    · exact hF _ f2
    · exact hD.2 k q g
  · have r1 : k1 = 0 := by have := (List.getElem?_eq_some_iff.mp h1).1; simp at this; exact this
    have r2 : k2 = 0 := by have := (List.getElem?_eq_some_iff.mp h2).1; simp at this; exact this
    rw [r1, r2]
  · match k, h with
    | 0, h => obtain rfl := Option.some.inj h; exact hF _ f1
    | k + 1, h => simp at h
  · have hb : q = (b, d2) := by
      match k2, h2 with
      | 0, h2 => exact (Option.some.inj h2).symm
      | k + 1, h2 => simp at h2
    subst hb
    rcases key k1 p h1 with ⟨-, rfl⟩ | ⟨-, rfl⟩ | ⟨-, -, g, gl, ga⟩
    · exact n01 e
    · exact n12 e.symm
    · exact ga (by rw [e]; exact f1)
