/-- a step at place k and what it does to the stack's kinds (true: 0 or 1); at most d lie on it -/
def StH (d : Nat) (ty : Nat → List Bool) (b k : Nat) (z : Nat × Nat) : Prop := ((z.1 = 1 ∨ (z.1 = 2 ∧ z.2 < 11)) ∧ (ty k).length < d ∧ ty (k + 1) = false :: ty k) ∨ (z.1 = 11 ∧ ∃ s : List Bool, ty k = true :: s ∧ ty (k + 1) = true :: s) ∨ ((z.1 = 12 ∨ z.1 = 13) ∧ k < z.2 ∧ z.2 ≤ b ∧ ∃ s : List Bool, ty k = true :: s ∧ ty (k + 1) = s ∧ ty z.2 = true :: s) ∨ (3 ≤ z.1 ∧ z.1 ≤ 10 ∧ ∃ (x y w : Bool) (s : List Bool), ty k = x :: y :: s ∧ ty (k + 1) = w :: s ∧ (w = true → 8 ≤ z.1))
/-- from a to b one value more comes to lie on the stack -/
def SgX (d : Nat) (t : Bool) (o : OutT) (a b : Nat) : Prop := a < b ∧ b ≤ o.length ∧ ∃ ty : Nat → List Bool, ty a = [] ∧ ty b = [t] ∧ ∀ k : Nat, a ≤ k → k < b → (ty k).length ≤ d ∧ ∃ z : Nat × Nat, o[k]? = some z ∧ StH d ty b k z
def ExtO (n : Nat) (o o2 : OutT) : Prop := ∀ i : Nat, i < n → o2[i]? = o[i]?
section SGX
variable {d d2 a b c n m : Nat} {t t2 t3 : Bool} {o o2 o3 : OutT}
theorem ExtO.rf : ExtO n o o := fun _ _ => rfl
theorem ExtO.tr (h : ExtO n o o2) (h2 : ExtO n o2 o3) : ExtO n o o3 := fun i hi => (h2 i hi).trans (h i hi)
theorem ExtO.le (h : ExtO n o o2) (hm : m ≤ n) : ExtO m o o2 := fun i hi => h i (by omega)
theorem ExtO.app {z : Nat × Nat} (h : n ≤ o.length) : ExtO n o (o ++ [z]) := fun i hi => by
  rw [List.getElem?_append, if_pos (by omega)]
theorem ExtO.am {j : Nat} (h : n ≤ j) : ExtO n o (aim o j) := fun i hi => by
  unfold aim
  rw [List.getElem?_set, if_neg (by omega)]
theorem StH.cg {ty ty' : Nat → List Bool} {b' k : Nat} {z : Nat × Nat} {s : List Bool} (h : StH d ty b k z) (e0 : ty' k = ty k ++ s) (e1 : ty' (k + 1) = ty (k + 1) ++ s) (e2 : ∀ j : Nat, k < j → j ≤ b → ty' j = ty j ++ s) (hb : b ≤ b') (hd : d + s.length ≤ d2) : StH d2 ty' b' k z := by
  rcases h with ⟨h1, h2, h3⟩ | ⟨h1, u, h2, h3⟩ | ⟨h1, h2, h3, u, h4, h5, h6⟩ | ⟨h1, h2, x, y, w, u, h3, h4, h5⟩
  · refine Or.inl ⟨h1, ?_, ?_⟩
    · rw [e0, List.length_append]
      omega
    · rw [e1, h3, e0]
      rfl
  · refine Or.inr (Or.inl ⟨h1, u ++ s, ?_, ?_⟩)
    · rw [e0, h2]
      rfl
    · rw [e1, h3]
      rfl
  · refine Or.inr (Or.inr (Or.inl ⟨h1, h2, by omega, u ++ s, ?_, ?_, ?_⟩))
    · rw [e0, h4]
      rfl
    · rw [e1, h5]
    · rw [e2 z.2 h2 h3, h6]
      rfl
  · refine Or.inr (Or.inr (Or.inr ⟨h1, h2, x, y, w, u ++ s, ?_, ?_, h5⟩))
    · rw [e0, h3]
      rfl
    · rw [e1, h4]
      rfl
theorem apn {l : List Bool} : l = l ++ [] := (List.append_nil l).symm
theorem SgX.cg (h : SgX d t o a b) (e : ∀ i : Nat, a ≤ i → i < b → o2[i]? = o[i]?) (hl : b ≤ o2.length) (hd : d ≤ d2) : SgX d2 t o2 a b := by
  obtain ⟨h1, h2, ty, h3, h4, h5⟩ := h
  refine ⟨h1, hl, ty, h3, h4, fun k q1 q2 => ?_⟩
  obtain ⟨g1, z, g2, g3⟩ := h5 k q1 q2
  exact ⟨by omega, z, (e k q1 q2).trans g2, g3.cg (s := []) apn apn (fun _ _ _ => apn) (Nat.le_refl _) (by show d + 0 ≤ d2; omega)⟩
/-- a value is put -/
theorem SgX.push {z : Nat × Nat} (hz : z.1 = 1 ∨ (z.1 = 2 ∧ z.2 < 11)) (hd : 1 ≤ d) (ho : o[a]? = some z) : SgX d false o a (a + 1) := by
  have l := (List.getElem?_eq_some_iff.mp ho).1
  have w0 : (fun k => if k ≤ a then ([] : List Bool) else [false]) a = [] := if_pos (Nat.le_refl _)
  have w1 : (fun k => if k ≤ a then ([] : List Bool) else [false]) (a + 1) = [false] := if_neg (by omega)
  refine ⟨Nat.lt_succ_self a, l, fun k => if k ≤ a then [] else [false], w0, w1, fun k q1 q2 => ?_⟩
  obtain rfl : k = a := by omega
  refine ⟨by rw [w0]; exact Nat.zero_le _, z, ho, Or.inl ⟨hz, ?_, ?_⟩⟩
  · rw [w0]
    exact hd
  · rw [w0, w1]
/-- two values and what is done to them -/
theorem SgX.bin {z : Nat × Nat} (h : SgX d t o a b) (h2 : SgX d2 t2 o b c) (hz : 3 ≤ z.1 ∧ z.1 ≤ 10) (h8 : t3 = true → 8 ≤ z.1) (ho : o[c]? = some z) (h1 : 1 ≤ d2) (hd : d2 + 1 ≤ d) : SgX d t3 o a (c + 1) := by
  obtain ⟨a1, a2, ht, a3, a4, a5⟩ := h
  obtain ⟨b1, b2, hu, b3, b4, b5⟩ := h2
  have l := (List.getElem?_eq_some_iff.mp ho).1
  let hw : Nat → List Bool := fun k => if k < b then ht k else if k ≤ c then hu k ++ [t] else [t3]
  have w1 : ∀ k : Nat, k < b → hw k = ht k := fun k q => if_pos q
  have w2 : ∀ k : Nat, b ≤ k → k ≤ c → hw k = hu k ++ [t] := fun k q q2 => (if_neg (by omega)).trans (if_pos q2)
  have w3 : hw (c + 1) = [t3] := (if_neg (by omega)).trans (if_neg (by omega))
  have w1' : ∀ k : Nat, k ≤ b → hw k = ht k := fun k q2 => by
    by_cases e : k = b
    · subst e
      rw [w2 k (Nat.le_refl _) (by omega), b3, a4]
      rfl
    · exact w1 k (by omega)
  refine ⟨by omega, l, hw, (w1 a a1).trans a3, w3, fun k q1 q2 => ?_⟩
  by_cases e : k < b
  · obtain ⟨g1, z1, g2, g3⟩ := a5 k q1 e
    exact ⟨by rw [w1 k e]; exact g1, z1, g2, g3.cg (s := []) ((w1 k e).trans apn) ((w1' (k + 1) (by omega)).trans apn) (fun j q3 q4 => (w1' j q4).trans apn) (by omega) (Nat.le_refl _)⟩
  · by_cases e2 : k = c
    · subst e2
      have y := w2 k (by omega) (Nat.le_refl _)
      rw [b4] at y
      refine ⟨by rw [y]; show 2 ≤ d; omega, z, ho, Or.inr (Or.inr (Or.inr ⟨hz.1, hz.2, t2, t, t3, [], y, w3, h8⟩))⟩
    · obtain ⟨g1, z1, g2, g3⟩ := b5 k (by omega) (by omega)
      have y := w2 k (by omega) (by omega)
      exact ⟨by rw [y, List.length_append]; show (hu k).length + 1 ≤ d; omega, z1, g2, g3.cg (s := [t]) y (w2 (k + 1) (by omega) (by omega)) (fun j q3 q4 => w2 j (by omega) q4) (by omega) hd⟩
/-- the value's contrary -/
theorem SgX.not {z : Nat × Nat} (h : SgX d true o a b) (hz : z.1 = 11) (ho : o[b]? = some z) (hd : 1 ≤ d) : SgX d true o a (b + 1) := by
  obtain ⟨a1, a2, ht, a3, a4, a5⟩ := h
  have l := (List.getElem?_eq_some_iff.mp ho).1
  let hw : Nat → List Bool := fun k => if k ≤ b then ht k else [true]
  have w1 : ∀ k : Nat, k ≤ b → hw k = ht k := fun k q => if_pos q
  have w2 : hw (b + 1) = [true] := if_neg (by omega)
  refine ⟨by omega, l, hw, (w1 a (by omega)).trans a3, w2, fun k q1 q2 => ?_⟩
  by_cases e : k = b
  · subst e
    have y := (w1 k (Nat.le_refl _)).trans a4
    exact ⟨by rw [y]; exact hd, z, ho, Or.inr (Or.inl ⟨hz, [], y, w2⟩)⟩
  · obtain ⟨g1, z1, g2, g3⟩ := a5 k q1 (by omega)
    have y := w1 k (by omega)
    exact ⟨by rw [y]; exact g1, z1, g2, g3.cg (s := []) (y.trans apn) ((w1 (k + 1) (by omega)).trans apn) (fun j q3 q4 => (w1 j q4).trans apn) (by omega) (Nat.le_refl _)⟩
/-- a value that may decide, and another in its place -/
theorem SgX.jmp {z : Nat × Nat} (h : SgX d true o a b) (h2 : SgX d true o (b + 1) c) (hz : (z.1 = 12 ∨ z.1 = 13) ∧ z.2 = c) (ho : o[b]? = some z) (hd : 1 ≤ d) : SgX d true o a c := by
  obtain ⟨a1, a2, ht, a3, a4, a5⟩ := h
  obtain ⟨b1, b2, hu, b3, b4, b5⟩ := h2
  let hw : Nat → List Bool := fun k => if k ≤ b then ht k else hu k
  have w1 : ∀ k : Nat, k ≤ b → hw k = ht k := fun k q => if_pos q
  have w2 : ∀ k : Nat, b < k → hw k = hu k := fun k q => if_neg (by omega)
  have wc := (w2 c (by omega)).trans b4
  refine ⟨by omega, b2, hw, (w1 a (by omega)).trans a3, wc, fun k q1 q2 => ?_⟩
  by_cases e : k < b
  · obtain ⟨g1, z1, g2, g3⟩ := a5 k q1 e
    have y := w1 k (by omega)
    exact ⟨by rw [y]; exact g1, z1, g2, g3.cg (s := []) (y.trans apn) ((w1 (k + 1) (by omega)).trans apn) (fun j q3 q4 => (w1 j q4).trans apn) (by omega) (Nat.le_refl _)⟩
  · by_cases e2 : k = b
    · subst e2
      have y := (w1 k (Nat.le_refl _)).trans a4
      exact ⟨by rw [y]; exact hd, z, ho, Or.inr (Or.inr (Or.inl ⟨hz.1, by omega, by omega, [], y, (w2 (k + 1) (by omega)).trans b3, by rw [hz.2]; exact wc⟩))⟩
    · obtain ⟨g1, z1, g2, g3⟩ := b5 k (by omega) q2
      have y := w2 k (by omega)
      exact ⟨by rw [y]; exact g1, z1, g2, g3.cg (s := []) (y.trans apn) ((w2 (k + 1) (by omega)).trans apn) (fun j q3 q4 => (w2 j (by omega)).trans apn) (Nat.le_refl _) (Nat.le_refl _)⟩
theorem SgX.ext (h : SgX d t o a b) (e : ExtO o.length o o2) (hd : d ≤ d2) : SgX d2 t o2 a b := by
  have l := h.2.1
  have l0 := h.1
  refine h.cg (fun i _ q => e i (by omega)) ?_ hd
  have y := e (b - 1) (by omega)
  have y2 : o[b - 1]? = some (o[b - 1]'(by omega)) := List.getElem?_eq_getElem (by omega)
  have w := (List.getElem?_eq_some_iff.mp (y.trans y2)).1
  omega
end SGX
/-- what is read makes one value, d deep at most -/
def GdX (d : Nat) (t : Bool) (P : PceT) : Prop := ∀ (p : Nat) (o : OutT) (z : Nat × OutT), P p o = .ok z → ExtO o.length o z.2 ∧ SgX d t z.2 o.length z.2.length
def GdS (d : Nat) (S : SumT) : Prop := ∀ s, S = some s → GdX d false s
/-- what is read goes on with a value -/
def GdL (d : Nat) (t : Bool) (P : PceT) : Prop := ∀ (p : Nat) (o : OutT) (z : Nat × OutT), P p o = .ok z → ∀ a : Nat, SgX d t o a o.length → ExtO o.length o z.2 ∧ SgX d t z.2 a z.2.length
section GDX
variable {b : Nat → Int32} {n d d2 : Nat} {S : SumT} {P : PceT}
theorem app_at {o : OutT} {z : Nat × Nat} : (o ++ [z])[o.length]? = some z := by
  rw [List.getElem?_append, if_neg (by omega), Nat.sub_self]
  rfl
theorem GdX.le {t : Bool} (h : GdX d t P) (hd : d ≤ d2) : GdX d2 t P := fun p o z e => ⟨(h p o z e).1, (h p o z e).2.ext ExtO.rf hd⟩
theorem push_app {o : OutT} {z : Nat × Nat} (hz : z.1 = 1 ∨ (z.1 = 2 ∧ z.2 < 11)) (hd : 1 ≤ d) : ExtO o.length o (o ++ [z]) ∧ SgX d false (o ++ [z]) o.length (o ++ [z]).length := by
  refine ⟨ExtO.app (Nat.le_refl _), ?_⟩
  rw [app_len]
  exact SgX.push hz hd app_at
theorem bin_app {t t2 t3 : Bool} {o u : OutT} {z : Nat × Nat} {a : Nat} (h : SgX d t o a o.length) (e : ExtO o.length o u) (h2 : SgX d2 t2 u o.length u.length) (hz : 3 ≤ z.1 ∧ z.1 ≤ 10) (h8 : t3 = true → 8 ≤ z.1) (h1 : 1 ≤ d2) (hd : d2 + 1 ≤ d) : ExtO o.length o (u ++ [z]) ∧ SgX d t3 (u ++ [z]) a (u ++ [z]).length := by
  have l := h2.1
  have e2 : ExtO u.length u (u ++ [z]) := ExtO.app (Nat.le_refl _)
  refine ⟨e.tr (e2.le (by omega)), ?_⟩
  rw [app_len]
  exact SgX.bin ((h.ext e (Nat.le_refl _)).ext e2 (Nat.le_refl _)) (h2.ext e2 (Nat.le_refl _)) hz h8 app_at h1 hd
theorem ltr_11 {c : Int32} {l : Nat} (h : ltr c = some l) : l < 11 := by
  unfold ltr at h
  repeat' split at h
  all_goals first | (have e := Option.some.inj h; omega) | cases h
theorem tms_k {c : Int32} {t : Nat} (h : tms c = some t) : 3 ≤ t ∧ t ≤ 10 := by
  unfold tms at h
  repeat' split at h
  all_goals first | (have e := Option.some.inj h; omega) | cases h
theorem pls_k {c : Int32} {t : Nat} (h : pls c = some t) : 3 ≤ t ∧ t ≤ 10 := by
  unfold pls at h
  repeat' split at h
  all_goals first | (have e := Option.some.inj h; omega) | cases h
theorem rel_k9 {c : Int32} {t : Nat} (h : rel c = some t) : 8 ≤ t ∧ t ≤ 10 := by
  unfold rel at h
  repeat' split at h
  all_goals first | (have e := Option.some.inj h; omega) | cases h
theorem atm_gd (hd : 1 ≤ d) : GdX d false (atmL b n) := fun p o z h => by
  unfold atmL at h
  split at h
  · split at h
    · cases h
    · have e : (_, o ++ [_]) = z := Except.ok.inj h
      rw [← e]
      exact push_app (Or.inl rfl) hd
  · split at h
    · rename_i l hl
      have e : (p + 1, o ++ [_]) = z := Except.ok.inj h
      rw [← e]
      exact push_app (Or.inr ⟨rfl, ltr_11 hl⟩) hd
    · cases h
theorem fac_gd (hS : GdS d S) (hd : 1 ≤ d) : GdX d false (facL b n S) := fun p o z h => by
  unfold facL at h
  split at h
  · cases S with
    | none => cases h
    | some s =>
      obtain ⟨y, h1, h2⟩ := resB_ok h
      have a := hS s rfl (p + 1) o y h1
      split at h2
      · have e : (y.1 + 1, y.2) = z := Except.ok.inj h2
        rw [← e]
        exact a
      · cases h2
  · exact atm_gd hd p o z h
theorem trmL_gd (hS : GdS d S) (hd : 1 ≤ d) : ∀ f : Nat, GdL (d + 1) false (trmL b n S f)
  | 0, p, o, z, h, a, ha => by
    have e : (p, o) = z := Except.ok.inj h
    rw [← e]
    exact ⟨ExtO.rf, ha⟩
  | f + 1, p, o, z, h, a, ha => by
    unfold trmL at h
    split at h
    · have e : (p, o) = z := Except.ok.inj h
      rw [← e]
      exact ⟨ExtO.rf, ha⟩
    · rename_i t ht
      obtain ⟨y, h1, h2⟩ := resB_ok h
      have w := fac_gd hS hd _ _ _ h1
      have g := bin_app (z := (t, 0)) ha w.1 w.2 (tms_k ht) (t3 := false) (fun w => by cases w) hd (Nat.le_refl _)
      have c := trmL_gd hS hd f _ _ _ h2 a g.2
      have l := w.2.1
      exact ⟨g.1.tr (c.1.le (by rw [app_len]; omega)), c.2⟩
theorem trm_gd (hS : GdS d S) (hd : 1 ≤ d) : GdX (d + 1) false (trm b n S) := fun p o z h => by
  obtain ⟨y, h1, h2⟩ := resB_ok h
  have a := fac_gd hS hd _ _ _ h1
  have c := trmL_gd hS hd _ _ _ _ h2 _ (a.2.ext ExtO.rf (by omega))
  have l := a.2.1
  exact ⟨a.1.tr (c.1.le (by omega)), c.2⟩
theorem smL_gd (hS : GdS d S) (hd : 1 ≤ d) : ∀ f : Nat, GdL (d + 2) false (smL b n S f)
  | 0, p, o, z, h, a, ha => by
    have e : (p, o) = z := Except.ok.inj h
    rw [← e]
    exact ⟨ExtO.rf, ha⟩
  | f + 1, p, o, z, h, a, ha => by
    unfold smL at h
    split at h
    · have e : (p, o) = z := Except.ok.inj h
      rw [← e]
      exact ⟨ExtO.rf, ha⟩
    · rename_i t ht
      obtain ⟨y, h1, h2⟩ := resB_ok h
      have w := trm_gd hS hd _ _ _ h1
      have g := bin_app (z := (t, 0)) ha w.1 w.2 (pls_k ht) (t3 := false) (fun w => by cases w) (by omega) (Nat.le_refl _)
      have c := smL_gd hS hd f _ _ _ h2 a g.2
      have l := w.2.1
      exact ⟨g.1.tr (c.1.le (by rw [app_len]; omega)), c.2⟩
theorem sm1_gd (hS : GdS d S) (hd : 1 ≤ d) : GdX (d + 2) false (sm1 b n S) := fun p o z h => by
  obtain ⟨y, h1, h2⟩ := resB_ok h
  have a := trm_gd hS hd _ _ _ h1
  have c := smL_gd hS hd _ _ _ _ h2 _ (a.2.ext ExtO.rf (by omega))
  have l := a.2.1
  exact ⟨a.1.tr (c.1.le (by omega)), c.2⟩
theorem smK_gd : ∀ k : Nat, GdS (2 * k + 1) (smK b n k)
  | 0 => fun s h => by cases h
  | k + 1 => fun s h => by
    have q := Option.some.inj h
    rw [← q]
    exact sm1_gd (smK_gd k) (by omega)
theorem cmp_gd {k : Nat} (hk : k ≤ 6) : GdX 16 true (cmpK b n k) := fun p o z h => by
  obtain ⟨y, h1, h2⟩ := resB_ok h
  have a := sm1_gd (smK_gd k) (by omega) _ _ _ h1
  split at h2
  · cases h2
  · rename_i r hr
    obtain ⟨x, h3, h4⟩ := resB_ok h2
    have c := sm1_gd (smK_gd k) (by omega) _ _ _ h3
    have e : (x.1, x.2 ++ [_]) = z := Except.ok.inj h4
    rw [← e]
    have g := bin_app (d := 16) (z := (r, 0)) (t3 := true) (a.2.ext ExtO.rf (by omega)) c.1 c.2 ⟨by have := (rel_k9 hr).1; show 3 ≤ r; omega, (rel_k9 hr).2⟩ (fun _ => (rel_k9 hr).1) (by omega) (by omega)
    have l := a.2.1
    exact ⟨a.1.tr (g.1.le (by omega)), g.2⟩
/-- a jump is put, a value made, the jump aimed -/
theorem jmp_aim {o u : OutT} {k a : Nat} (hd : 1 ≤ d) (hk : k = 12 ∨ k = 13) (h : SgX d true o a o.length) (e : ExtO (o ++ [(k, 0)]).length (o ++ [(k, 0)]) u) (h2 : SgX d true u (o ++ [(k, 0)]).length u.length) : ExtO o.length o (aim u o.length) ∧ SgX d true (aim u o.length) a (aim u o.length).length := by
  have l := h2.1
  have e0 : ExtO o.length o (o ++ [(k, 0)]) := ExtO.app (Nat.le_refl _)
  rw [app_len] at e h2 l
  have e1 : ExtO o.length o u := e0.tr (e.le (by omega))
  have e2 : ExtO o.length u (aim u o.length) := ExtO.am (Nat.le_refl _)
  have at0 : u[o.length]? = some (k, 0) := (e o.length (by omega)).trans app_at
  have at1 : (aim u o.length)[o.length]? = some (k, u.length) := by
    unfold aim
    rw [List.getElem?_set, if_pos rfl, at0, if_pos (by omega)]
    rfl
  refine ⟨e1.tr e2, ?_⟩
  rw [aim_len]
  refine SgX.jmp (z := (k, u.length)) (h.ext (e1.tr e2) (Nat.le_refl _)) ?_ ⟨hk, rfl⟩ at1 hd
  refine h2.cg (fun i q _ => ?_) (by rw [aim_len]; exact Nat.le_refl _) (Nat.le_refl _)
  unfold aim
  rw [List.getElem?_set, if_neg (by omega)]
theorem ptL_gd (hd : 1 ≤ d) (hP : GdX d true P) : ∀ f : Nat, GdL d true (ptL b n P f)
  | 0, p, o, z, h, a, ha => by
    have e : (p, o) = z := Except.ok.inj h
    rw [← e]
    exact ⟨ExtO.rf, ha⟩
  | f + 1, p, o, z, h, a, ha => by
    unfold ptL at h
    split at h
    · obtain ⟨y, h1, h2⟩ := resB_ok h
      have w := hP _ _ _ h1
      have g := jmp_aim hd (Or.inl rfl) ha w.1 w.2
      have c := ptL_gd hd hP f _ _ _ h2 a g.2
      have l := w.2.1
      rw [app_len] at l
      exact ⟨g.1.tr (c.1.le (by rw [aim_len]; omega)), c.2⟩
    · have e : (p, o) = z := Except.ok.inj h
      rw [← e]
      exact ⟨ExtO.rf, ha⟩
theorem ptK_gd (hd : 1 ≤ d) (hP : GdX d true P) : GdX d true (ptK b n P) := fun p o z h => by
  obtain ⟨y, h1, h2⟩ := resB_ok h
  have a := hP _ _ _ h1
  have c := ptL_gd hd hP _ _ _ _ h2 _ a.2
  have l := a.2.1
  exact ⟨a.1.tr (c.1.le (by omega)), c.2⟩
theorem cdL_gd (hd : 1 ≤ d) (hP : GdX d true P) : ∀ f : Nat, GdL d true (cdL b n P f)
  | 0, p, o, z, h, a, ha => by
    have e : (p, o) = z := Except.ok.inj h
    rw [← e]
    exact ⟨ExtO.rf, ha⟩
  | f + 1, p, o, z, h, a, ha => by
    unfold cdL at h
    split at h
    · obtain ⟨y, h1, h2⟩ := resB_ok h
      have w := ptK_gd hd hP _ _ _ h1
      have g := jmp_aim hd (Or.inr rfl) ha w.1 w.2
      have c := cdL_gd hd hP f _ _ _ h2 a g.2
      have l := w.2.1
      rw [app_len] at l
      exact ⟨g.1.tr (c.1.le (by rw [aim_len]; omega)), c.2⟩
    · have e : (p, o) = z := Except.ok.inj h
      rw [← e]
      exact ⟨ExtO.rf, ha⟩
theorem cdK_gd (hd : 1 ≤ d) (hP : GdX d true P) : GdX d true (cdK b n P) := fun p o z h => by
  obtain ⟨y, h1, h2⟩ := resB_ok h
  have a := ptK_gd hd hP _ _ _ h1
  have c := cdL_gd hd hP _ _ _ _ h2 _ a.2
  have l := a.2.1
  exact ⟨a.1.tr (c.1.le (by omega)), c.2⟩
theorem shut_ok {q : Nat} {o : OutT} {z : Nat × OutT} (h : shut b n q o = .ok z) : z.2 = o := by
  unfold shut at h
  split at h
  · have e := Except.ok.inj h
    rw [← e]
  · cases h
theorem pcK_gd : ∀ k : Nat, k ≤ 6 → GdX 16 true (pcK b n k)
  | 0, _, p, o, z, h => by
    unfold pcK at h
    split at h
    · cases h
    · split at h
      · cases h
      · exact cmp_gd (by decide) p o z h
  | k + 1, hk, p, o, z, h => by
    unfold pcK at h
    split at h
    · obtain ⟨y, h1, h2⟩ := resB_ok h
      have a := pcK_gd k (by omega) _ _ _ h1
      have e : (y.1, y.2 ++ [(11, 0)]) = z := Except.ok.inj h2
      have l := a.2.1
      have e2 : ExtO y.2.length y.2 (y.2 ++ [(11, 0)]) := ExtO.app (Nat.le_refl _)
      rw [← e]
      refine ⟨a.1.tr (e2.le (by omega)), ?_⟩
      show SgX 16 true (y.2 ++ [(11, 0)]) o.length (y.2 ++ [(11, 0)]).length
      rw [app_len]
      exact SgX.not (z := (11, 0)) (a.2.ext e2 (Nat.le_refl _)) rfl app_at (by decide)
    · split at h
      · obtain ⟨y, h1, h2⟩ := resB_ok h
        have a := cdK_gd (by decide) (pcK_gd k (by omega)) _ _ _ h1
        rw [shut_ok h2]
        exact a
      · exact cmp_gd hk p o z h
theorem CDV_gd : GdX 16 true (CDV b n) := fun p o z h => by
  unfold CDV at h
  split at h
  · rw [WT_cd] at h
    obtain ⟨y, h1, h2⟩ := resB_ok h
    have a := cdK_gd (by decide) (pcK_gd 5 (by decide)) _ _ _ h1
    rw [shut_ok h2]
    exact a
  · cases h
/-- each clause's sum and its condition are values -/
def CLG (ld : Int32) (o : OutT) (cl : ClsT) : Prop := ∀ z ∈ cl, (ld = 112 → SgX 16 false o z.1 z.2.1) ∧ SgX 16 true o z.2.1 z.2.2
theorem clV_gd {ld : Int32} {nc p : Nat} {o : OutT} {z : Nat × OutT × Nat} (h : clV b n ld nc p o = .ok z) : ExtO o.length o z.2.1 ∧ (ld = 112 → SgX 16 false z.2.1 o.length z.2.2) ∧ SgX 16 true z.2.1 z.2.2 z.2.1.length := by
  unfold clV at h
  split at h
  · split at h
    · cases h
    · split at h
      · cases h
      · rename_i y hy
        split at h
        · cases h
        · rename_i w hw
          have e : (w.1, w.2, y.2.length) = z := Except.ok.inj h
          have g := CDV_gd _ _ _ hw
          rw [← e]
          show ExtO o.length o w.2 ∧ (ld = 112 → SgX 16 false w.2 o.length y.2.length) ∧ SgX 16 true w.2 y.2.length w.2.length
          split at hy
          · have a := sm1_gd (smK_gd 6) (by omega) _ _ _ hy
            have l := a.2.1
            exact ⟨a.1.tr (g.1.le (by omega)), fun _ => a.2.ext g.1 (by omega), g.2⟩
          · rename_i hne
            have e2 : (p + 1, o) = y := Except.ok.inj hy
            rw [← e2] at g ⊢
            exact ⟨g.1, fun q => absurd q hne, g.2⟩
  · cases h
theorem CLG.add {ld : Int32} {o o2 : OutT} {cl : ClsT} {z : Nat × Nat × Nat} (h : CLG ld o cl) (e : ExtO o.length o o2) (hz : (ld = 112 → SgX 16 false o2 z.1 z.2.1) ∧ SgX 16 true o2 z.2.1 z.2.2) : CLG ld o2 (cl ++ [z]) := fun y hy => by
  rcases List.mem_append.mp hy with q | q
  · exact ⟨fun w => ((h y q).1 w).ext e (Nat.le_refl _), (h y q).2.ext e (Nat.le_refl _)⟩
  · rw [List.mem_singleton.mp q]
    exact hz
theorem txL_gd {ld : Int32} : ∀ (f p : Nat) (o : OutT) (cl : ClsT) (z : Nat × OutT × ClsT), CLG ld o cl → txL b n ld f p o cl = .ok z → CLG ld z.2.1 z.2.2
  | 0, p, o, cl, z, hc, h => by
    have e : (p, o, cl) = z := Except.ok.inj h
    rw [← e]
    exact hc
  | f + 1, p, o, cl, z, hc, h => by
    unfold txL at h
    split at h
    · split at h
      · split at h
        · cases h
        · rename_i y hy
          have g := clV_gd hy
          exact txL_gd f _ _ _ z (hc.add (z := (o.length, y.2.2, y.2.1.length)) g.1 ⟨g.2.1, g.2.2⟩) h
      · cases h
    · have e : (p, o, cl) = z := Except.ok.inj h
      rw [← e]
      exact hc
theorem txV_gd {ld : Int32} {z : Nat × OutT × ClsT} (h : txV b n ld = .ok z) : CLG ld z.2.1 z.2.2 := by
  unfold txV at h
  split at h
  · cases h
  · rename_i y hy
    have g := clV_gd hy
    refine txL_gd _ _ _ _ z ?_ h
    have c : CLG ld ([] : OutT) [] := fun y hy => by cases hy
    exact c.add (z := (0, y.2.2, y.2.1.length)) g.1 ⟨g.2.1, g.2.2⟩
end GDX
/-- what a step's kind makes of two values -/
def rk (k : Nat) (x y : Int32) : Int32 := if k = 3 then x + y else if k = 4 then x - y else if k = 5 then x * y else if k = 6 then x / y else if k = 7 then x - x / y * y else if k = 8 then (if x < y then 1 else 0) else if k = 9 then (if y < x then 1 else 0) else (if x = y then 1 else 0)
/-- one step over letters f: the place and the stack (top first) behind it; none: refused -/
def mst (f : Nat → Int32) (z : Nat × Nat) (k : Nat) (s : List Int32) : Option (Nat × List Int32) :=
  if z.1 = 1 then some (k + 1, nI z.2 :: s) else if z.1 = 2 then some (k + 1, f z.2 :: s) else
  match s with
  | [] => none
  | x :: s => if z.1 = 11 then some (k + 1, (1 - x) :: s) else if z.1 = 12 then (if x = 0 then some (z.2, x :: s) else some (k + 1, s)) else if z.1 = 13 then (if x = 1 then some (z.2, x :: s) else some (k + 1, s)) else
    match s with
    | [] => none
    | y :: s => if (z.1 = 6 ∨ z.1 = 7) ∧ x = 0 then none else some (k + 1, rk z.1 y x :: s)
def mrun (o : OutT) (f : Nat → Int32) (b : Nat) : Nat → Nat → List Int32 → Option (List Int32)
  | 0, _, s => some s
  | n + 1, k, s => if k < b then
      match o[k]? with
      | none => none
      | some z => match mst f z k s with
        | none => none
        | some y => mrun o f b n y.1 y.2
    else some s
/-- what the steps from a to b come to -/
def mvl : Option (List Int32) → Int32
  | some (x :: _) => x
  | _ => 0
def MV (o : OutT) (f : Nat → Int32) (a b : Nat) : Int32 := mvl (mrun o f b (b - a) a [])
/-- the machine stands at k with s -/
def EV (o : OutT) (f : Nat → Int32) (a b k : Nat) (s : List Int32) : Prop := ∃ n : Nat, b ≤ n + k ∧ mrun o f b n k s = mrun o f b (b - a) a []
/-- values of these kinds -/
def KS : List Bool → List Int32 → Prop
  | [], [] => True
  | t :: ty, x :: s => (t = true → x = 0 ∨ x = 1) ∧ KS ty s
  | _, _ => False
/-- the stack as an array keeps it -/
def STK (W : Nat → Int32) : List Int32 → Prop
  | [] => True
  | x :: s => W s.length = x ∧ STK W s
section MVS
variable {o : OutT} {f : Nat → Int32} {a b k : Nat} {s : List Int32} {z : Nat × Nat} {ty : List Bool}
theorem STK.cg {W W2 : Nat → Int32} : ∀ {s : List Int32}, STK W s → (∀ i : Nat, i < s.length → W2 i = W i) → STK W2 s
  | [], _, _ => trivial
  | x :: s, h, e => ⟨(e s.length (Nat.lt_succ_self _)).trans h.1, STK.cg h.2 (fun i hi => e i (Nat.lt_succ_of_lt hi))⟩
theorem STK.push {W : Nat → Int32} {x : Int32} (h : STK W s) : STK (upd W s.length x) (x :: s) := ⟨upd_self _ _ _, h.cg (fun i hi => by
  unfold upd
  rw [if_neg (by omega)])⟩
theorem KS.len : ∀ {ty : List Bool} {s : List Int32}, KS ty s → s.length = ty.length
  | [], [], _ => rfl
  | _ :: ty, _ :: s, h => congrArg (· + 1) (KS.len h.2)
  | [], _ :: _, h => h.elim
  | _ :: _, [], h => h.elim
theorem KS.c {t : Bool} (h : KS (t :: ty) s) : ∃ (x : Int32) (u : List Int32), s = x :: u ∧ (t = true → x = 0 ∨ x = 1) ∧ KS ty u := by
  cases s with
  | nil => exact h.elim
  | cons x u => exact ⟨x, u, rfl, h.1, h.2⟩
theorem EV.start : EV o f a b a [] := ⟨b - a, by omega, rfl⟩
theorem EV.step {k2 : Nat} {s2 : List Int32} (h : EV o f a b k s) (hk : k < b) (ho : o[k]? = some z) (e : mst f z k s = some (k2, s2)) (l : k < k2) : EV o f a b k2 s2 := by
  obtain ⟨n, h1, h2⟩ := h
  cases n with
  | zero => omega
  | succ n =>
    refine ⟨n, by omega, ?_⟩
    rw [← h2]
    show _ = (if k < b then _ else _)
    rw [if_pos hk, ho]
    show _ = (match mst f z k s with | none => none | some y => mrun o f b n y.1 y.2)
    rw [e]
theorem EV.ref (h : EV o f a b k s) (hk : k < b) (ho : o[k]? = some z) (e : mst f z k s = none) : MV o f a b = 0 := by
  obtain ⟨n, h1, h2⟩ := h
  cases n with
  | zero => omega
  | succ n =>
    have q : mrun o f b (n + 1) k s = none := by
      show (if k < b then _ else _) = _
      rw [if_pos hk, ho]
      show (match mst f z k s with | none => none | some y => mrun o f b n y.1 y.2) = _
      rw [e]
    unfold MV
    rw [← h2, q]
    rfl
theorem EV.fin {x : Int32} {u : List Int32} (h : EV o f a b k (x :: u)) (hk : b ≤ k) : MV o f a b = x := by
  obtain ⟨n, h1, h2⟩ := h
  have q : mrun o f b n k (x :: u) = some (x :: u) := by
    cases n with
    | zero => rfl
    | succ n => exact if_neg (by omega)
  unfold MV
  rw [← h2, q]
  rfl
theorem mst_1 (h : z.1 = 1) : mst f z k s = some (k + 1, nI z.2 :: s) := if_pos h
theorem mst_2 (h : z.1 = 2) : mst f z k s = some (k + 1, f z.2 :: s) := (if_neg (by omega)).trans (if_pos h)
theorem mst_x {x : Int32} (h : 3 ≤ z.1) : mst f z k (x :: s) = (if z.1 = 11 then some (k + 1, (1 - x) :: s) else if z.1 = 12 then (if x = 0 then some (z.2, x :: s) else some (k + 1, s)) else if z.1 = 13 then (if x = 1 then some (z.2, x :: s) else some (k + 1, s)) else
    match s with
    | [] => none
    | y :: s => if (z.1 = 6 ∨ z.1 = 7) ∧ x = 0 then none else some (k + 1, rk z.1 y x :: s)) := (if_neg (by omega)).trans (if_neg (by omega))
theorem mst_11 {x : Int32} (h : z.1 = 11) : mst f z k (x :: s) = some (k + 1, (1 - x) :: s) := (mst_x (by omega)).trans (if_pos h)
theorem mst_12 {x : Int32} (h : z.1 = 12) : mst f z k (x :: s) = if x = 0 then some (z.2, x :: s) else some (k + 1, s) := (mst_x (by omega)).trans ((if_neg (by omega)).trans (if_pos h))
theorem mst_13 {x : Int32} (h : z.1 = 13) : mst f z k (x :: s) = if x = 1 then some (z.2, x :: s) else some (k + 1, s) := (mst_x (by omega)).trans ((if_neg (by omega)).trans ((if_neg (by omega)).trans (if_pos h)))
theorem mst_r {x y : Int32} (h : 3 ≤ z.1 ∧ z.1 ≤ 10) (hr : ¬ ((z.1 = 6 ∨ z.1 = 7) ∧ x = 0)) : mst f z k (x :: y :: s) = some (k + 1, rk z.1 y x :: s) := (mst_x (by omega)).trans ((if_neg (by omega)).trans ((if_neg (by omega)).trans ((if_neg (by omega)).trans (if_neg hr))))
theorem mst_n {x y : Int32} (h : z.1 = 6 ∨ z.1 = 7) (hx : x = 0) : mst f z k (x :: y :: s) = none := (mst_x (by omega)).trans ((if_neg (by omega)).trans ((if_neg (by omega)).trans ((if_neg (by omega)).trans (if_pos ⟨h, hx⟩))))
theorem rk_01 {k : Nat} {x y : Int32} (h : 8 ≤ k) : rk k x y = 0 ∨ rk k x y = 1 := by
  unfold rk
  rw [if_neg (by omega), if_neg (by omega), if_neg (by omega), if_neg (by omega), if_neg (by omega)]
  repeat' split
  all_goals first | exact Or.inr rfl | exact Or.inl rfl
theorem not_01 {x : Int32} (h : x = 0 ∨ x = 1) : 1 - x = 0 ∨ 1 - x = 1 := by
  rcases h with rfl | rfl
  · exact Or.inr rfl
  · exact Or.inl rfl
end MVS
/-- the stack of a text's machine as the class keeps it -/
def SKx (T : Nat) (F : Nat → Nat → Int32) (s : List Int32) : Prop := F 196 T = nI s.length ∧ STK (gA (F 305) 32 T) s
section SKXS
variable {T : Nat} {F F2 : Nat → Nat → Int32} {s : List Int32} {x v : Int32}
theorem nI_pd {n : Nat} : nI (n + 1) - 1 = nI n := by
  rw [show (1 : Int32) = nI 1 by decide, nI_sub (by omega), Nat.add_sub_cancel]
theorem SKx.cg (h : SKx T F s) (e1 : F2 196 T = F 196 T) (e2 : F2 305 = F 305) : SKx T F2 s := by
  unfold SKx
  rw [e1, e2]
  exact h
theorem SKx.push (h : SKx T F s) (h32 : s.length < 32) (e305 : F2 305 = flat (F 305) 32 T (upd (gA (F 305) 32 T) (F 196 T).toNatClampNeg v)) (e196 : F2 196 = upd (F 196) T (F 196 T + 1)) : SKx T F2 (v :: s) := by
  obtain ⟨h1, h2⟩ := h
  refine ⟨?_, ?_⟩
  · rw [e196, upd_self, h1, nI_1]
    rfl
  · rw [e305, h1, nI_clamp (by omega), gA_flat (by decide) (fun q hq => by
      unfold upd gA
      rw [if_neg (by omega), if_neg (by omega)])]
    exact h2.push
theorem SKx.pop (h : SKx T F (x :: s)) (h32 : s.length < 32) : gA (F 305) 32 T (F 196 T - 1).toNatClampNeg = x := by
  have h1 : F 196 T = nI (s.length + 1) := h.1
  rw [h1, nI_pd, nI_clamp (by omega)]
  exact h.2.1
theorem SKx.popF (h : SKx T F (x :: s)) (e196 : F2 196 = upd (F 196) T (F 196 T - 1)) (e305 : F2 305 = F 305) : SKx T F2 s := by
  have h1 : F 196 T = nI (s.length + 1) := h.1
  refine ⟨?_, ?_⟩
  · rw [e196, upd_self, h1, nI_pd]
  · rw [e305]
    exact h.2.2
end SKXS
/-- letters alone -/
def cut (f : Nat → Int32) : Nat → Int32 := fun i => if i < 11 then f i else 0
/-- the class's machine at k, jumped to j -/
def RNI (o : OutT) (f : Nat → Int32) (a b T : Nat) (ty : Nat → List Bool) (F : Nat → Nat → Int32) (k j : Nat) : Prop := (F 197 T = 0 ∧ ∃ (K : Nat) (s : List Int32), (k ≤ K ∧ j ≤ K ∧ (K = k ∨ K = j)) ∧ (EV o f a b K s ∧ KS (ty K) s) ∧ SKx T F s) ∨ (F 197 T = 1 ∧ MV o f a b = 0)
section RNIS
theorem stp_lo {k a : Nat} (hk : k ≤ 13) (ha : a < 1048576) : nI (k * 1048576 + a) &&& 1048575 = nI a := by
  apply Int32.toBitVec_inj.mp
  apply BitVec.eq_of_toNat_eq
  have q : ∀ m : Nat, m < 2 ^ 31 → (nI m).toBitVec.toNat = m := fun m hm => Nat.mod_eq_of_lt (by omega)
  rw [Int32.toBitVec_and, BitVec.toNat_and, q _ (by omega), q _ (by omega)]
  have z : (1048575 : Int32).toBitVec.toNat = 2 ^ 20 - 1 := rfl
  rw [z, Nat.and_two_pow_sub_one_eq_mod]
  show (k * 1048576 + a) % 1048576 = a
  omega
theorem stp_hi {k a : Nat} (hk : k ≤ 13) (ha : a < 1048576) : nI (k * 1048576 + a) >>> (20 &&& 31) = nI k := by
  apply Int32.toInt_inj.mp
  rw [nI_toInt (n := k) (by omega)]
  have h1 : (20 &&& 31 : Int32).toBitVec.smod 32 = BitVec.ofNat 32 20 := by decide +kernel
  show ((nI (k * 1048576 + a)).toBitVec.sshiftRight' ((20 &&& 31 : Int32).toBitVec.smod 32)).toInt = _
  rw [h1]
  show ((nI (k * 1048576 + a)).toBitVec.sshiftRight (BitVec.ofNat 32 20).toNat).toInt = _
  rw [BitVec.toInt_sshiftRight]
  show (nI (k * 1048576 + a)).toInt >>> 20 = _
  rw [nI_toInt (by omega), Int.shiftRight_eq_div_pow]
  show ((k * 1048576 + a : Nat) : Int) / 1048576 = (k : Int)
  omega
theorem atM_j {f g : Nat → Int32} {n i : Nat} (e : g = f) (h : i < n) (hn : n < 2 ^ 31) : atM g n (nI i) = f i := by
  unfold atM
  rw [nI_toInt (by omega), if_pos ⟨by omega, by omega⟩, nI_clamp (by omega), e]
variable {o : OutT} {f : Nat → Int32} {a b T k j c v : Nat} {ty : Nat → List Bool} {F F2 : Nat → Nat → Int32} {s : List Int32} {x y : Int32} {u : List Bool} {p q w t : Bool}
theorem SAYx.at {N : Nat} (h : SAYx T F o) (e1 : F2 301 = F 301) (e : o[k]? = some (c, v)) (hk : k < N) (hN : N ≤ 200) : atM (gA (F2 301) 200 T) N (nI k) = nI (c * 1048576 + v) := by
  rw [atM_j (f := gA (F 301) 200 T) (by rw [e1]) hk (by omega)]
  exact (h.2 k _ e).2.2
theorem StH.cs {d : Nat} (h : StH d ty b k (c, v)) : ((c = 1 ∨ (c = 2 ∧ v < 11)) ∧ (ty k).length < d ∧ ty (k + 1) = false :: ty k) ∨ (c = 11 ∧ ∃ s : List Bool, ty k = true :: s ∧ ty (k + 1) = true :: s) ∨ ((c = 12 ∨ c = 13) ∧ k < v ∧ v ≤ b ∧ ∃ s : List Bool, ty k = true :: s ∧ ty (k + 1) = s ∧ ty v = true :: s) ∨ (3 ≤ c ∧ c ≤ 10 ∧ ∃ (x y w : Bool) (s : List Bool), ty k = x :: y :: s ∧ ty (k + 1) = w :: s ∧ (w = true → 8 ≤ c)) := h
theorem RNI.mk {K : Nat} (h0 : F 197 T = 0) (hK : k ≤ K ∧ j ≤ K ∧ (K = k ∨ K = j)) (e : EV o f a b K s ∧ KS (ty K) s) (hs : SKx T F s) : RNI o f a b T ty F k j := Or.inl ⟨h0, K, s, hK, e, hs⟩
theorem RNI.rf (h0 : F 197 T = 1) (h : MV o f a b = 0) : RNI o f a b T ty F k j := Or.inr ⟨h0, h⟩
theorem RNI.start (h0 : F 197 T = 0) (ht : ty a = []) (hs : F 196 T = 0) : RNI o f a b T ty F a a := RNI.mk (K := a) (s := []) h0 ⟨Nat.le_refl _, Nat.le_refl _, Or.inl rfl⟩ ⟨EV.start, by rw [ht]; exact trivial⟩ ⟨hs, trivial⟩
theorem RNI.skip (h : RNI o f a b T ty F k j) (hk : k < j) : RNI o f a b T ty F (k + 1) j := by
  rcases h with ⟨h0, K, s, hK, e, hs⟩ | h
  · exact Or.inl ⟨h0, K, s, ⟨by omega, by omega, by omega⟩, e, hs⟩
  · exact Or.inr h
theorem RNI.here (h : RNI o f a b T ty F k j) (h0 : F 197 T = 0) (hj : j ≤ k) : ∃ s : List Int32, EV o f a b k s ∧ SKx T F s ∧ KS (ty k) s := by
  rcases h with ⟨_, K, s, hK, e, hs⟩ | ⟨h1, _⟩
  · obtain rfl : K = k := by omega
    exact ⟨s, e.1, hs, e.2⟩
  · exact absurd (h0.symm.trans h1) (by decide)
theorem RNI.fin (h : RNI o f a b T ty F k j) (hk : b ≤ k) (hk2 : k ≤ b) (hj : j ≤ b) (ht : ty b = [t]) : (F 197 T = 0 ∧ ∃ x : Int32, SKx T F [x] ∧ MV o f a b = x) ∨ (F 197 T = 1 ∧ MV o f a b = 0) := by
  rcases h with ⟨h0, K, s, hK, e, hs⟩ | h
  · obtain rfl : K = b := by omega
    have q := e.2
    rw [ht] at q
    obtain ⟨x, u, rfl, _, hu⟩ := q.c
    cases u with
    | nil => exact Or.inl ⟨h0, x, hs, e.1.fin (Nat.le_refl _)⟩
    | cons y u => exact hu.elim
  · exact Or.inr h
theorem RNI.ref (h : RNI o f a b T ty F k j) (h0 : ¬ F 197 T = 0) : F 197 T = 1 ∧ MV o f a b = 0 := by
  rcases h with ⟨h1, _⟩ | h
  · exact absurd h1 h0
  · exact h
theorem RN1 (h : EV o f a b k s) (q : KS (ty k) s) (hk : k < b) (ho : o[k]? = some (1, v)) (e : ty (k + 1) = false :: ty k) : EV o f a b (k + 1) (nI v :: s) ∧ KS (ty (k + 1)) (nI v :: s) :=
  ⟨h.step hk ho (mst_1 rfl) (Nat.lt_succ_self _), by rw [e]; exact ⟨fun w => (by cases w), q⟩⟩
theorem RN2 {g : Nat → Int32} (h : EV o (cut g) a b k s) (q : KS (ty k) s) (hk : k < b) (ho : o[k]? = some (2, v)) (hv : v < 11) (e : ty (k + 1) = false :: ty k) : EV o (cut g) a b (k + 1) (g v :: s) ∧ KS (ty (k + 1)) (g v :: s) := by
  have r := h.step hk ho (mst_2 rfl) (Nat.lt_succ_self _)
  rw [show cut g v = g v from if_pos hv] at r
  exact ⟨r, by rw [e]; exact ⟨fun w => (by cases w), q⟩⟩
theorem RN11 (h : EV o f a b k (x :: s)) (q : KS (ty k) (x :: s)) (hk : k < b) (ho : o[k]? = some (11, v)) (e : ty k = true :: u) (e2 : ty (k + 1) = true :: u) : EV o f a b (k + 1) ((1 - x) :: s) ∧ KS (ty (k + 1)) ((1 - x) :: s) := by
  rw [e] at q
  exact ⟨h.step hk ho (mst_11 rfl) (Nat.lt_succ_self _), by rw [e2]; exact ⟨fun _ => not_01 (q.1 rfl), q.2⟩⟩
theorem RNj (hc : (c = 12 ∧ x = 0) ∨ (c = 13 ∧ x = 1)) (h : EV o f a b k (x :: s)) (q : KS (ty k) (x :: s)) (hk : k < b) (ho : o[k]? = some (c, v)) (hv : k < v) (e : ty k = true :: u) (e2 : ty v = true :: u) : EV o f a b v (x :: s) ∧ KS (ty v) (x :: s) := by
  rw [e] at q
  rw [e2]
  refine ⟨h.step hk ho ?_ hv, q⟩
  rcases hc with ⟨rfl, hx⟩ | ⟨rfl, hx⟩
  · exact (mst_12 rfl).trans (if_pos hx)
  · exact (mst_13 rfl).trans (if_pos hx)
theorem RNn (hc : (c = 12 ∧ ¬ x = 0) ∨ (c = 13 ∧ ¬ x = 1)) (h : EV o f a b k (x :: s)) (q : KS (ty k) (x :: s)) (hk : k < b) (ho : o[k]? = some (c, v)) (e : ty k = true :: u) (e2 : ty (k + 1) = u) : EV o f a b (k + 1) s ∧ KS (ty (k + 1)) s := by
  rw [e] at q
  rw [e2]
  refine ⟨h.step hk ho ?_ (Nat.lt_succ_self _), q.2⟩
  rcases hc with ⟨rfl, hx⟩ | ⟨rfl, hx⟩
  · exact (mst_12 rfl).trans (if_neg hx)
  · exact (mst_13 rfl).trans (if_neg hx)
theorem RNb (hc : 3 ≤ c ∧ c ≤ 10) (hr : ¬ ((c = 6 ∨ c = 7) ∧ x = 0)) (h : EV o f a b k (x :: y :: s)) (q0 : KS (ty k) (x :: y :: s)) (hk : k < b) (ho : o[k]? = some (c, v)) (e : ty k = p :: q :: u) (e2 : ty (k + 1) = w :: u) (h8 : w = true → 8 ≤ c) : EV o f a b (k + 1) (rk c y x :: s) ∧ KS (ty (k + 1)) (rk c y x :: s) := by
  rw [e] at q0
  rw [e2]
  exact ⟨h.step hk ho (mst_r hc hr) (Nat.lt_succ_self _), fun r => rk_01 (h8 r), q0.2.2⟩
theorem RNr (hr : (c = 6 ∨ c = 7) ∧ x = 0) (h : EV o f a b k (x :: y :: s)) (hk : k < b) (ho : o[k]? = some (c, v)) : MV o f a b = 0 := h.ref hk ho (mst_n hr.1 hr.2)
theorem KS.ln (q : KS (ty k) s) {d : Nat} (h : (ty k).length ≤ d) : s.length ≤ d := by
  rw [q.len]
  exact h
end RNIS
/-- 1 if it is not 0 -/
def b01 (x : Int32) : Int32 := if x = 0 then 0 else 1
/-- the first clause whose condition is h -/
def FTX (o : OutT) (f : Nat → Int32) (cl : ClsT) (h r : Int32) : Prop := (∃ (j : Nat) (z : Nat × Nat × Nat), cl[j]? = some z ∧ b01 (MV o f z.2.1 z.2.2) = h ∧ (∀ (i : Nat) (w : Nat × Nat × Nat), i < j → cl[i]? = some w → ¬ b01 (MV o f w.2.1 w.2.2) = h) ∧ r = nI j) ∨ ((∀ (i : Nat) (w : Nat × Nat × Nat), cl[i]? = some w → ¬ b01 (MV o f w.2.1 w.2.2) = h) ∧ r = -1)
/-- pence as they are bounded -/
def clampP (x : Int32) : Int32 := if x.toInt < 0 then 0 else if 100000 < x.toInt then 100000 else x
/-- pence by a text's clauses -/
def PNf (o : OutT) (f : Nat → Int32) : ClsT → Int32
  | [] => 0
  | z :: cl => if MV o f z.2.1 z.2.2 = 0 then PNf o f cl else clampP (MV o f z.1 z.2.1)
section PNS
variable {o : OutT} {f : Nat → Int32}
theorem PNf_at : ∀ (cl : ClsT) (j : Nat) (z : Nat × Nat × Nat), cl[j]? = some z → ¬ MV o f z.2.1 z.2.2 = 0 → (∀ (i : Nat) (w : Nat × Nat × Nat), i < j → cl[i]? = some w → MV o f w.2.1 w.2.2 = 0) → PNf o f cl = clampP (MV o f z.1 z.2.1)
  | [], j, z, h, _, _ => by cases h
  | y :: cl, 0, z, h, hz, _ => by
    have e : y = z := Option.some.inj h
    subst e
    exact if_neg hz
  | y :: cl, j + 1, z, h, hz, ha => (if_pos (ha 0 y (Nat.succ_pos _) rfl)).trans (PNf_at cl j z h hz (fun i w hi hw => ha (i + 1) w (Nat.succ_lt_succ hi) hw))
theorem PNf_no : ∀ cl : ClsT, (∀ (i : Nat) (w : Nat × Nat × Nat), cl[i]? = some w → MV o f w.2.1 w.2.2 = 0) → PNf o f cl = 0
  | [], _ => rfl
  | y :: cl, ha => (if_pos (ha 0 y rfl)).trans (PNf_no cl (fun i w hw => ha (i + 1) w hw))
theorem b01_0 {x : Int32} (h : ¬ b01 x = 1) : x = 0 := by
  unfold b01 at h
  split at h
  · assumption
  · exact absurd rfl h
theorem b01_1 {x : Int32} (h : b01 x = 1) : ¬ x = 0 := by
  unfold b01 at h
  split at h
  · exact absurd h (by decide)
  · assumption
theorem FTX.no {cl : ClsT} {r : Int32} (h : FTX o f cl 1 r) (hl : cl.length ≤ 12) (e : r = -1) : PNf o f cl = 0 := by
  rcases h with ⟨j, z, h1, h2, h3, h4⟩ | ⟨h1, _⟩
  · exfalso
    have l := (List.getElem?_eq_some_iff.mp h1).1
    have q := congrArg Int32.toInt (h4.symm.trans e)
    rw [nI_toInt (by omega)] at q
    have z1 : (-1 : Int32).toInt = -1 := rfl
    omega
  · exact PNf_no cl (fun i w hw => b01_0 (h1 i w hw))
theorem FTX.at {cl : ClsT} {r : Int32} (h : FTX o f cl 1 r) (e : ¬ r = -1) : ∃ (j : Nat) (z : Nat × Nat × Nat), cl[j]? = some z ∧ r = nI j ∧ PNf o f cl = clampP (MV o f z.1 z.2.1) := by
  rcases h with ⟨j, z, h1, h2, h3, h4⟩ | ⟨_, h1⟩
  · exact ⟨j, z, h1, h4, PNf_at cl j z h1 (b01_1 h2) (fun i w hi hw => b01_0 (h3 i w hi hw))⟩
  · exact absurd h1 e
end PNS
/-- a text with its clauses' values, as the class keeps it -/
def XTy (T : Nat) (F : Nat → Nat → Int32) (ld : Int32) (o : OutT) (cl : ClsT) : Prop := XTx T F o cl ∧ (∃ N : Nat, F 199 T = nI N ∧ N ≤ 160 ∧ o.length ≤ N) ∧ CLG ld o cl
section XTYS
variable {o : OutT} {cl : ClsT} {T j : Nat} {ld : Int32} {F F2 : Nat → Nat → Int32} {z : Nat × Nat × Nat}
theorem XTy.mem (h : XTy T F ld o cl) (e : cl[j]? = some z) : z ∈ cl := List.mem_of_getElem? e
theorem XTy.len (h : XTy T F ld o cl) : ∃ N : Nat, (F 199 T).toInt = (N : Int) ∧ N ≤ 160 ∧ o.length ≤ N := by
  obtain ⟨N, h1, h2, h3⟩ := h.2.1
  exact ⟨N, by rw [h1]; exact nI_toInt (by omega), h2, h3⟩
theorem CLx.at (h : CLx T F cl) (e : cl[j]? = some z) (hl : cl.length ≤ 12) (e1 : F2 302 = F 302) (e2 : F2 303 = F 303) (e3 : F2 304 = F 304) : atM (gA (F2 302) 12 T) 12 (nI j) = nI z.1 ∧ atM (gA (F2 303) 12 T) 12 (nI j) = nI z.2.1 ∧ atM (gA (F2 304) 12 T) 12 (nI j) = nI z.2.2 := by
  have l := (List.getElem?_eq_some_iff.mp e).1
  have g := h.2 j z e
  refine ⟨?_, ?_, ?_⟩
  · rw [atM_j (f := gA (F 302) 12 T) (by rw [e1]) (by omega) (by decide)]
    exact g.1
  · rw [atM_j (f := gA (F 303) 12 T) (by rw [e2]) (by omega) (by decide)]
    exact g.2.1
  · rw [atM_j (f := gA (F 304) 12 T) (by rw [e3]) (by omega) (by decide)]
    exact g.2.2
theorem CLx.get (h : CLx T F cl) (hj : j < cl.length) : ∃ z : Nat × Nat × Nat, cl[j]? = some z := ⟨cl[j], List.getElem?_eq_getElem hj⟩
theorem XTy.cg (h : XTy T F ld o cl) (e1 : F2 195 = F 195) (e2 : F2 301 = F 301) (e3 : F2 198 = F 198) (e4 : F2 302 = F 302) (e5 : F2 303 = F 303) (e6 : F2 304 = F 304) (e7 : F2 199 = F 199) : XTy T F2 ld o cl := by
  obtain ⟨⟨h1, h2, h3, h4⟩, ⟨N, h5, h6⟩, h7⟩ := h
  exact ⟨⟨h1.cg e1 e2, h2.cg (congrFun e3 T) e4 e5 e6, h3, h4⟩, ⟨N, (congrFun e7 T).trans h5, h6⟩, h7⟩
end XTYS
/-- a load's letters -/
def lfx (q f a d k m s w : Int32) : Nat → Int32 := fun i => if i = 0 then q else if i = 1 then f else if i = 2 then a else if i = 3 then d else if i = 4 then nI (d.toInt.toNat / 7) else if i = 5 then nI (d.toInt.toNat % 7) else if i = 6 then k else if i = 7 then m else if i = 8 then s else if i = 9 then w else 0
/-- a load's letters, as the class has them -/
def lfX (F : Nat → Nat → Int32) (i : Nat) : Nat → Int32 := lfx (F 122 i) (F 123 i) (F 124 i) (F 121 i) (F 120 i) (F 128 i) (F 127 i) (F 20 ((F 121 i).toInt.toNat / 7))
theorem ltr_at {bt : Nat → Int32} {v0 r : Int32} {j : Nat} (hbt : BTL bt) (h0 : 0 ≤ v0.toInt ∧ v0.toInt ≤ 255) (h : IXP bt v0 r) (hj : ltr v0 = some j) : r = nI j ∧ j < 11 := by
  rcases ltr_ix hbt h0 h with ⟨_, q⟩ | ⟨i, h1, h2, h3⟩
  · rw [hj] at q
    cases q
  · rw [hj] at h3
    have e := Option.some.inj h3
    subst e
    exact ⟨h2, h1⟩
theorem putM_l {f : Nat → Int32} {n i : Nat} {x : Int32} (h : i < n) (hn : n ≤ 100) : putM f n (nI i) x = upd f i x := by
  have t : (nI i).toInt = (i : Int) := nI_toInt (by omega)
  unfold putM
  rw [if_pos ⟨by omega, by omega⟩, nI_clamp (by omega)]
/-- sums of 32 bits -/
def sumI (f : Nat → Int32) : Nat → Int32
  | 0 => 0
  | n + 1 => sumI f n + f n
theorem sumI_cg {f g : Nat → Int32} : ∀ n : Nat, (∀ i : Nat, i < n → f i = g i) → sumI f n = sumI g n
  | 0, _ => rfl
  | n + 1, h => by
    show sumI f n + f n = sumI g n + g n
    rw [sumI_cg n (fun i hi => h i (Nat.lt_succ_of_lt hi)), h n (Nat.lt_succ_self n)]



set_option maxRecDepth 100000 in
set_option maxHeartbeats 4000000 in
theorem q_Wpush (l : Launch) (D : va_G) (cI cB cZ : ClassId) (zz qq vv : Nat) (bt : Nat → Int32) (g : Nat → Nat) (ad : Nat → Nat → Nat) (cn : Nat → Nat) (In : Nat → Int32) (Fn : Nat → Nat → Int32) (k0 : Nat) (v0 : Int32) (s0 : List Int32) (sz : Nat) (hB : CBX cn) (hk : k0 < cn 6) (hs : SKx k0 Fn s0) (h32 : s0.length < 32) : Met l yX9_push (CWS yX9_push cX9_push 2 none) (RM 0 0 0) (PBx [.ref (ad 5 k0), .int v0] D cI cB cZ zz qq vv bt (wX cI (D.1 99) zz g ad cn In Fn) sz) (va_Qv (fun (u : (Nat → Nat) × (Nat → Int32) × (Nat → Nat → Int32)) => (fun c2 I2 F2 => Fr [] [] [196, 305] cn In Fn c2 I2 F2 ∧ CBX c2 ∧ (SKx k0 F2 (v0 :: s0))) u.1 u.2.1 u.2.2) (fun (u : (Nat → Nat) × (Nat → Int32) × (Nat → Nat → Int32)) (t : State) => va_P D vwCl (wX cI (D.1 99) zz g ad u.1 u.2.1 u.2.2) t.heap ∧ va_D (va_A (wX cI (D.1 99) zz g ad cn In Fn) sz) (wX cI (D.1 99) zz g ad u.1 u.2.1 u.2.2)) (va_A (wX cI (D.1 99) zz g ad cn In Fn) sz)) 0 0 (va_A (wX cI (D.1 99) zz g ad cn In Fn) sz) := by
  refine en_x (fun A => (va_Qv (fun (u : (Nat → Nat) × (Nat → Int32) × (Nat → Nat → Int32)) => (fun (c2 : Nat → Nat) (I2 : Nat → Int32) (F2 : Nat → Nat → Int32) => Fr [] [] [196, 305] cn In Fn c2 I2 F2 ∧ CBX c2 ∧ (SKx k0 F2 (v0 :: s0))) u.1 u.2.1 u.2.2) (fun (u : (Nat → Nat) × (Nat → Int32) × (Nat → Nat → Int32)) (t : State) => va_P D vwCl (wX cI (D.1 99) zz g ad u.1 u.2.1 u.2.2) t.heap ∧ va_D A (wX cI (D.1 99) zz g ad u.1 u.2.1 u.2.2)) A)) rfl rfl pn_RX9 (Nat.le_of_ble_eq_true rfl) (fun p e s m below meth c A hx hb hml hown S hr hlocks hnm hA hP hK hD hXS hS ls hl => ?_)
  have hl : lv_has ls 2 [(0, .ref (ad 5 k0)), (1, .int v0)] := hl
  have hb_cn : Hid (CBX cn) := hB
  replace hB : CBXh cn := hB
  have tk9 : (Fn 196 k0).toInt = ((s0.length : Nat) : Int) := by rw [hs.1]; exact nI_toInt (by (first | omega | (have zz0 := Hid.u hb_cn; omega)))
  refine lv_aload_n hx hb (oc_42 0 shX9_push_0) rfl (lvA0 hl) ?_
  refine gf_RX9_55 S hK hP _ (xf_7 hk) (v := .int ((Fn 196) k0)) rfl (oc_180 1 (aq_1 shX9_push_0) uw_0_55) ?_
  refine lv_if_lt (tgt := 39) hx hb (oc_155 4 (aq_4 shX9_push_0) sgw_0_35) rfl (fun c_1 => ?_) (fun c_1 => ?_)
  ·
    have tc_1 : (((Fn 196) k0).toInt : Int) < 0 := Int32.lt_iff_toInt_lt.mp c_1
    exact W.vret hx hb hr (fun t ht hW => ⟨⟨(cn, In, Fn), rfl, ⟨(Fr.mo Fr.rf (sbl rfl) (sbl rfl) (sbl rfl)), hB, (by show SKx k0 Fn (v0 :: s0); exact False.elim (by (first | omega | (have zz0 := Hid.u hb_cn; omega))))⟩, by rw [ht]; exact hP, hD⟩, hS.F ht⟩) hS.2.2 dX9_push_39
  ·
    have tc_1 : (0 : Int) ≤ ((Fn 196) k0).toInt := Int32.le_iff_toInt_le.mp (Int32.not_lt.mp c_1)
    refine lv_aload_n hx hb (oc_42 7 (aq_7 shX9_push_0)) rfl (lvA0 hl) ?_
    refine gf_RX9_55 S hK hP _ (xf_7 hk) (v := .int ((Fn 196) k0)) rfl (oc_180 8 (aq_8 shX9_push_0) uw_0_55) ?_
    refine lv_aload_n hx hb (oc_42 11 (aq_11 shX9_push_0)) rfl (lvA0 hl) ?_
    refine gf_RX9_30 S hK hP _ (xf_7 hk) (v := .ref (ad 64 k0)) rfl (oc_180 12 (aq_12 shX9_push_0) uw_0_30) ?_
    refine va_alen hx hb hK.1 hP _ 0 (xf_12 hk) rfl (v := 32) rfl (oc_190 15 (aq_15 shX9_push_0)) ?_
    refine lv_icmp_ge (tgt := 39) hx hb (oc_162 16 (aq_16 shX9_push_0) sgw_0_23) rfl (fun c_2 => ?_) (fun c_2 => ?_)
    ·
      have tc_2 : (32 : Int) ≤ ((Fn 196) k0).toInt := Int32.le_iff_toInt_le.mp c_2
      exact W.vret hx hb hr (fun t ht hW => ⟨⟨(cn, In, Fn), rfl, ⟨(Fr.mo Fr.rf (sbl rfl) (sbl rfl) (sbl rfl)), hB, (by show SKx k0 Fn (v0 :: s0); exact False.elim (by (first | omega | (have zz0 := Hid.u hb_cn; omega))))⟩, by rw [ht]; exact hP, hD⟩, hS.F ht⟩) hS.2.2 dX9_push_39
    ·
      have tc_2 : (((Fn 196) k0).toInt : Int) < 32 := Int32.lt_iff_toInt_lt.mp (Int32.not_le.mp c_2)
      refine lv_aload_n hx hb (oc_42 19 (aq_19 shX9_push_0)) rfl (lvA0 hl) ?_
      refine gf_RX9_30 S hK hP _ (xf_7 hk) (v := .ref (ad 64 k0)) rfl (oc_180 20 (aq_20 shX9_push_0) uw_0_30) ?_
      refine lv_aload_n hx hb (oc_42 23 (aq_23 shX9_push_0)) rfl (lvA0 hl) ?_
      refine gf_RX9_55 S hK hP _ (xf_7 hk) (v := .int ((Fn 196) k0)) rfl (oc_180 24 shX9_push_24 uw_0_55) ?_
      refine lv_iload_n hx hb (oc_27 27 (aq_3 shX9_push_24)) rfl (lvA1 hl) ?_
      refine va_iast hx hb hK.1 hP hD hS _ 0 (xf_12 hk) rfl (vp_in_iff.mpr ⟨by (first | omega | (have zz0 := Hid.u hb_cn; omega)), by (first | omega | (have zz0 := Hid.u hb_cn; omega))⟩) (oc_79 28 (aq_4 shX9_push_24)) (fun H locs hP hD hS => ?_)
      have hP : va_P D vwCl (wX cI (D.1 99) zz g ad cn In (va_up Fn 305 (flat (Fn 305) 32 k0 (upd (gA (Fn 305) 32 k0) ((Fn 196) k0).toNatClampNeg v0)))) H := va_P_eq (xsg_12 hk (upd_z (by (first | omega | (have zz0 := Hid.u hb_cn; omega))) gA_z)) hP
      have hD : va_D A (wX cI (D.1 99) zz g ad cn In (va_up Fn 305 (flat (Fn 305) 32 k0 (upd (gA (Fn 305) 32 k0) ((Fn 196) k0).toNatClampNeg v0)))) := va_D_eq (xsg_12 hk (upd_z (by (first | omega | (have zz0 := Hid.u hb_cn; omega))) gA_z)) hD
      refine lv_aload_n hx hb (oc_42 29 (aq_5 shX9_push_24)) rfl (lvA0 hl) ?_
      refine lv_dup hx hb (oc_89 30 (aq_6 shX9_push_24)) rfl ?_
      refine gf_RX9_55 S hK hP _ (xf_7 hk) (v := .int ((Fn 196) k0)) rfl (oc_180 31 (aq_7 shX9_push_24) uw_0_55) ?_
      refine lv_iconst (v := 1) hx hb (oc_4 34 (aq_10 shX9_push_24)) kic_1 ?_
      refine lv_iadd hx hb (oc_96 35 (aq_11 shX9_push_24)) ?_
      refine pf_RX9_55 S hK hP hD hS _ (xf_7 hk) (v := .int (((Fn 196) k0) + 1)) (Nat.le_of_ble_eq_true rfl) rfl rfl (oc_181 36 (aq_12 shX9_push_24) uw_0_55) (fun H locs hP hD hS => ?_)
      have hP : va_P D vwCl (wX cI (D.1 99) zz g ad cn In (va_up (va_up Fn 305 (flat (Fn 305) 32 k0 (upd (gA (Fn 305) 32 k0) ((Fn 196) k0).toNatClampNeg v0))) 196 (upd (Fn 196) k0 (((Fn 196) k0) + 1)))) H := va_P_eq (xs_196 (by (first | omega | (have zz0 := Hid.u hb_cn; omega)))) hP
      have hD : va_D A (wX cI (D.1 99) zz g ad cn In (va_up (va_up Fn 305 (flat (Fn 305) 32 k0 (upd (gA (Fn 305) 32 k0) ((Fn 196) k0).toNatClampNeg v0))) 196 (upd (Fn 196) k0 (((Fn 196) k0) + 1)))) := va_D_eq (xs_196 (by (first | omega | (have zz0 := Hid.u hb_cn; omega)))) hD
      exact W.vret hx hb hr (fun t ht hW => ⟨⟨(cn, In, (va_up (va_up Fn 305 (flat (Fn 305) 32 k0 (upd (gA (Fn 305) 32 k0) ((Fn 196) k0).toNatClampNeg v0))) 196 (upd (Fn 196) k0 (((Fn 196) k0) + 1)))), rfl, ⟨(Fr.mo (Fr.f 196 (Fr.f 305 Fr.rf)) (sbl rfl) (sbl rfl) (sbl rfl)), hB, (by show SKx k0 (va_up (va_up Fn 305 (flat (Fn 305) 32 k0 (upd (gA (Fn 305) 32 k0) ((Fn 196) k0).toNatClampNeg v0))) 196 (upd (Fn 196) k0 (((Fn 196) k0) + 1))) (v0 :: s0); exact SKx.push hs h32 rfl rfl)⟩, by rw [ht]; exact hP, hD⟩, hS.F ht⟩) hS.2.2 dX9_push_39
set_option maxRecDepth 100000 in
set_option maxHeartbeats 4000000 in
theorem q_Wpop (l : Launch) (D : va_G) (cI cB cZ : ClassId) (zz qq vv : Nat) (bt : Nat → Int32) (g : Nat → Nat) (ad : Nat → Nat → Nat) (cn : Nat → Nat) (In : Nat → Int32) (Fn : Nat → Nat → Int32) (k0 : Nat) (x0 : Int32) (s0 : List Int32) (sz : Nat) (hB : CBX cn) (hk : k0 < cn 6) (hs : SKx k0 Fn (x0 :: s0)) (h32 : s0.length < 32) : Met l yX9_pop (CWS yX9_pop cX9_pop 1 (some .int)) (RM 0 0 0) (PBx [.ref (ad 5 k0)] D cI cB cZ zz qq vv bt (wX cI (D.1 99) zz g ad cn In Fn) sz) (va_Qi (fun (r : Int32) (u : (Nat → Nat) × (Nat → Int32) × (Nat → Nat → Int32)) => (fun r c2 I2 F2 => Fr [] [] [196] cn In Fn c2 I2 F2 ∧ CBX c2 ∧ (r = x0 ∧ SKx k0 F2 s0)) r u.1 u.2.1 u.2.2) (fun (u : (Nat → Nat) × (Nat → Int32) × (Nat → Nat → Int32)) (t : State) => va_P D vwCl (wX cI (D.1 99) zz g ad u.1 u.2.1 u.2.2) t.heap ∧ va_D (va_A (wX cI (D.1 99) zz g ad cn In Fn) sz) (wX cI (D.1 99) zz g ad u.1 u.2.1 u.2.2)) (va_A (wX cI (D.1 99) zz g ad cn In Fn) sz)) 0 0 (va_A (wX cI (D.1 99) zz g ad cn In Fn) sz) := by
  refine en_x (fun A => (va_Qi (fun (r : Int32) (u : (Nat → Nat) × (Nat → Int32) × (Nat → Nat → Int32)) => (fun (r : Int32) (c2 : Nat → Nat) (I2 : Nat → Int32) (F2 : Nat → Nat → Int32) => Fr [] [] [196] cn In Fn c2 I2 F2 ∧ CBX c2 ∧ (r = x0 ∧ SKx k0 F2 s0)) r u.1 u.2.1 u.2.2) (fun (u : (Nat → Nat) × (Nat → Int32) × (Nat → Nat → Int32)) (t : State) => va_P D vwCl (wX cI (D.1 99) zz g ad u.1 u.2.1 u.2.2) t.heap ∧ va_D A (wX cI (D.1 99) zz g ad u.1 u.2.1 u.2.2)) A)) rfl rfl pn_RX9 (Nat.le_of_ble_eq_true rfl) (fun p e s m below meth c A hx hb hml hown S hr hlocks hnm hA hP hK hD hXS hS ls hl => ?_)
  have hl : lv_has ls 1 [(0, .ref (ad 5 k0))] := hl
  have hb_cn : Hid (CBX cn) := hB
  replace hB : CBXh cn := hB
  have h33 : (x0 :: s0).length = s0.length + 1 := rfl
  have tk9 : (Fn 196 k0).toInt = ((s0.length + 1 : Nat) : Int) := by rw [hs.1]; exact nI_toInt (by (first | omega | (have zz0 := Hid.u hb_cn; omega)))
  refine lv_aload_n hx hb (oc_42 0 shX9_pop_0) rfl (lvA0 hl) ?_
  refine gf_RX9_55 S hK hP _ (xf_7 hk) (v := .int ((Fn 196) k0)) rfl (oc_180 1 (aq_1 shX9_pop_0) uw_0_55) ?_
  refine lv_if_le (tgt := 19) hx hb (oc_158 4 (aq_4 shX9_pop_0) sgw_0_15) rfl (fun c_1 => ?_) (fun c_1 => ?_)
  ·
    have tc_1 : (((Fn 196) k0).toInt : Int) ≤ 0 := Int32.le_iff_toInt_le.mp c_1
    refine lv_iconst (v := 0) hx hb dX9_pop_19 kic_0 ?_
    exact W.iret (v := 0) hx hb hr (fun t ht hW => ⟨⟨0, (cn, In, Fn), rfl, ⟨(Fr.mo Fr.rf (sbl rfl) (sbl rfl) (sbl rfl)), hB, (by show 0 = x0 ∧ SKx k0 Fn s0; exact False.elim (by (first | omega | (have zz0 := Hid.u hb_cn; omega))))⟩, by rw [ht]; exact hP, hD⟩, hS.F ht⟩) hS.2.2 dX9_pop_20
  ·
    have tc_1 : (0 : Int) < ((Fn 196) k0).toInt := Int32.lt_iff_toInt_lt.mp (Int32.not_le.mp c_1)
    refine lv_aload_n hx hb (oc_42 7 (aq_7 shX9_pop_0)) rfl (lvA0 hl) ?_
    refine gf_RX9_55 S hK hP _ (xf_7 hk) (v := .int ((Fn 196) k0)) rfl (oc_180 8 (aq_8 shX9_pop_0) uw_0_55) ?_
    refine lv_aload_n hx hb (oc_42 11 (aq_11 shX9_pop_0)) rfl (lvA0 hl) ?_
    refine gf_RX9_30 S hK hP _ (xf_7 hk) (v := .ref (ad 64 k0)) rfl (oc_180 12 (aq_12 shX9_pop_0) uw_0_30) ?_
    refine va_alen hx hb hK.1 hP _ 0 (xf_12 hk) rfl (v := 32) rfl (oc_190 15 (aq_15 shX9_pop_0)) ?_
    refine lv_icmp_le (tgt := 21) hx hb (oc_164 16 (aq_16 shX9_pop_0) sgw_0_5) rfl (fun c_2 => ?_) (fun c_2 => ?_)
    ·
      have tc_2 : (((Fn 196) k0).toInt : Int) ≤ 32 := Int32.le_iff_toInt_le.mp c_2
      refine lv_aload_n hx hb (oc_42 21 (aq_21 shX9_pop_0)) rfl (lvA0 hl) ?_
      refine lv_dup hx hb (oc_89 22 (aq_22 shX9_pop_0)) rfl ?_
      refine gf_RX9_55 S hK hP _ (xf_7 hk) (v := .int ((Fn 196) k0)) rfl (oc_180 23 (aq_23 shX9_pop_0) uw_0_55) ?_
      refine lv_iconst (v := 1) hx hb (oc_4 26 shX9_pop_26) kic_1 ?_
      refine lv_isub hx hb (oc_100 27 (aq_1 shX9_pop_26)) ?_
      refine pf_RX9_55 S hK hP hD hS _ (xf_7 hk) (v := .int (((Fn 196) k0) - 1)) (Nat.le_of_ble_eq_true rfl) rfl rfl (oc_181 28 (aq_2 shX9_pop_26) uw_0_55) (fun H locs hP hD hS => ?_)
      have hP : va_P D vwCl (wX cI (D.1 99) zz g ad cn In (va_up Fn 196 (upd (Fn 196) k0 (((Fn 196) k0) - 1)))) H := va_P_eq (xs_196 (by (first | omega | (have zz0 := Hid.u hb_cn; omega)))) hP
      have hD : va_D A (wX cI (D.1 99) zz g ad cn In (va_up Fn 196 (upd (Fn 196) k0 (((Fn 196) k0) - 1)))) := va_D_eq (xs_196 (by (first | omega | (have zz0 := Hid.u hb_cn; omega)))) hD
      refine lv_aload_n hx hb (oc_42 31 (aq_5 shX9_pop_26)) rfl (lvA0 hl) ?_
      refine gf_RX9_30 S hK hP _ (xf_7 hk) (v := .ref (ad 64 k0)) rfl (oc_180 32 (aq_6 shX9_pop_26) uw_0_30) ?_
      refine lv_aload_n hx hb (oc_42 35 (aq_9 shX9_pop_26)) rfl (lvA0 hl) ?_
      refine gf_RX9_55 S hK hP _ (xf_7 hk) (v := .int ((upd (Fn 196) k0 (((Fn 196) k0) - 1)) k0)) rfl (oc_180 36 (aq_10 shX9_pop_26) uw_0_55) ?_
      refine lv_topi (fun y_3 ey_3 => ?_)
      obtain rfl : y_3 = ((Fn 196 k0) - 1) := ey_3.trans (upd_self _ _ _)
      have hs1 := dec_toInt (x := Fn 196 k0) (by (first | omega | (have zz0 := Hid.u hb_cn; omega)))
      refine va_iald hx hb hK.1 hP _ 0 (xf_12 hk) rfl (vp_in_iff.mpr ⟨by (first | omega | (have zz0 := Hid.u hb_cn; omega)), by (first | omega | (have zz0 := Hid.u hb_cn; omega))⟩) (oc_46 39 (aq_13 shX9_pop_26)) ?_
      refine lv_topi (fun y_4 ey_4 => ?_)
      obtain rfl : y_4 = ((gA (Fn 305) 32 k0) (((Fn 196 k0) - 1).toNatClampNeg)) := ey_4.trans (congrArg (gA (Fn 305) 32 k0) rfl)
      exact W.iret (v := ((gA (Fn 305) 32 k0) (((Fn 196 k0) - 1).toNatClampNeg))) hx hb hr (fun t ht hW => ⟨⟨((gA (Fn 305) 32 k0) (((Fn 196 k0) - 1).toNatClampNeg)), (cn, In, (va_up Fn 196 (upd (Fn 196) k0 (((Fn 196) k0) - 1)))), rfl, ⟨(Fr.mo (Fr.f 196 Fr.rf) (sbl rfl) (sbl rfl) (sbl rfl)), hB, (by show ((gA (Fn 305) 32 k0) (((Fn 196 k0) - 1).toNatClampNeg)) = x0 ∧ SKx k0 (va_up Fn 196 (upd (Fn 196) k0 (((Fn 196) k0) - 1))) s0; exact ⟨hs.pop h32, hs.popF rfl rfl⟩)⟩, by rw [ht]; exact hP, hD⟩, hS.F ht⟩) hS.2.2 (oc_172 40 (aq_14 shX9_pop_26))
    ·
      have tc_2 : (32 : Int) < ((Fn 196) k0).toInt := Int32.lt_iff_toInt_lt.mp (Int32.not_le.mp c_2)
      refine lv_iconst (v := 0) hx hb dX9_pop_19 kic_0 ?_
      exact W.iret (v := 0) hx hb hr (fun t ht hW => ⟨⟨0, (cn, In, Fn), rfl, ⟨(Fr.mo Fr.rf (sbl rfl) (sbl rfl) (sbl rfl)), hB, (by show 0 = x0 ∧ SKx k0 Fn s0; exact False.elim (by (first | omega | (have zz0 := Hid.u hb_cn; omega))))⟩, by rw [ht]; exact hP, hD⟩, hS.F ht⟩) hS.2.2 dX9_pop_20
set_option maxRecDepth 100000 in
set_option maxHeartbeats 4000000 in
theorem q_Wdivide (l : Launch) (D : va_G) (cI cB cZ : ClassId) (zz qq vv : Nat) (bt : Nat → Int32) (g : Nat → Nat) (ad : Nat → Nat → Nat) (cn : Nat → Nat) (In : Nat → Int32) (Fn : Nat → Nat → Int32) (k0 t0 : Nat) (v1 v2 : Int32) (sz : Nat) (hB : CBX cn) (hk : k0 < cn 6) (ht0 : t0 = 6 ∨ t0 = 7) : Met l yX9_divide (CWS yX9_divide cX9_divide 4 (some .int)) (RM 0 0 0) (PBx [.ref (ad 5 k0), .int (nI t0), .int v1, .int v2] D cI cB cZ zz qq vv bt (wX cI (D.1 99) zz g ad cn In Fn) sz) (va_Qi (fun (r : Int32) (u : (Nat → Nat) × (Nat → Int32) × (Nat → Nat → Int32)) => (fun r c2 I2 F2 => Fr [] [] [197] cn In Fn c2 I2 F2 ∧ CBX c2 ∧ ((v2 = 0 ∧ r = 0 ∧ F2 197 k0 = 1) ∨ (¬ v2 = 0 ∧ r = rk t0 v1 v2 ∧ F2 197 = Fn 197))) r u.1 u.2.1 u.2.2) (fun (u : (Nat → Nat) × (Nat → Int32) × (Nat → Nat → Int32)) (t : State) => va_P D vwCl (wX cI (D.1 99) zz g ad u.1 u.2.1 u.2.2) t.heap ∧ va_D (va_A (wX cI (D.1 99) zz g ad cn In Fn) sz) (wX cI (D.1 99) zz g ad u.1 u.2.1 u.2.2)) (va_A (wX cI (D.1 99) zz g ad cn In Fn) sz)) 0 0 (va_A (wX cI (D.1 99) zz g ad cn In Fn) sz) := by
  refine en_x (fun A => (va_Qi (fun (r : Int32) (u : (Nat → Nat) × (Nat → Int32) × (Nat → Nat → Int32)) => (fun (r : Int32) (c2 : Nat → Nat) (I2 : Nat → Int32) (F2 : Nat → Nat → Int32) => Fr [] [] [197] cn In Fn c2 I2 F2 ∧ CBX c2 ∧ ((v2 = 0 ∧ r = 0 ∧ F2 197 k0 = 1) ∨ (¬ v2 = 0 ∧ r = rk t0 v1 v2 ∧ F2 197 = Fn 197))) r u.1 u.2.1 u.2.2) (fun (u : (Nat → Nat) × (Nat → Int32) × (Nat → Nat → Int32)) (t : State) => va_P D vwCl (wX cI (D.1 99) zz g ad u.1 u.2.1 u.2.2) t.heap ∧ va_D A (wX cI (D.1 99) zz g ad u.1 u.2.1 u.2.2)) A)) rfl rfl pn_RX9 (Nat.le_of_ble_eq_true rfl) (fun p e s m below meth c A hx hb hml hown S hr hlocks hnm hA hP hK hD hXS hS ls hl => ?_)
  have hl : lv_has ls 4 [(0, .ref (ad 5 k0)), (1, .int (nI t0)), (2, .int v1), (3, .int v2)] := hl
  have hb_cn : Hid (CBX cn) := hB
  replace hB : CBXh cn := hB
  refine lv_iload_n hx hb (oc_29 0 shX9_divide_0) rfl (lvA3 hl) ?_
  refine lv_if_ne (tgt := 11) hx hb (oc_154 1 (aq_1 shX9_divide_0) sgw_0_10) rfl (fun c_1 => ?_) (fun c_1 => ?_)
  ·
    have tc_1 : (v2.toInt : Int) ≠ 0 := fun q => c_1 (Int32.toInt_inj.mp q)
    refine lv_iload_n hx hb (oc_27 11 (aq_11 shX9_divide_0)) rfl (lvA1 hl) ?_
    refine lv_bipush (v := 6) hx hb (oc_16 12 (aq_12 shX9_divide_0) sgb_6) kbc_6 ?_
    have : (nI t0).toInt = ((t0 : Nat) : Int) := nI_toInt (by (first | omega | (have zz0 := Hid.u hb_cn; omega)))
    refine lv_icmp_ne (tgt := 23) hx hb (oc_160 14 (aq_14 shX9_divide_0) sgw_0_9) rfl (fun c_2 => ?_) (fun c_2 => ?_)
    ·
      have tc_2 : ((nI t0).toInt : Int) ≠ 6 := fun q => c_2 (Int32.toInt_inj.mp q)
      refine lv_iload_n hx hb (oc_28 23 (aq_23 shX9_divide_0)) rfl (lvA2 hl) ?_
      refine lv_iload_n hx hb (oc_29 24 shX9_divide_24) rfl (lvA3 hl) ?_
      refine lv_irem hx hb (oc_112 25 (aq_1 shX9_divide_24)) (by assumption) ?_
      exact W.iret (v := (v1 - v1 / v2 * v2)) hx hb hr (fun t ht hW => ⟨⟨(v1 - v1 / v2 * v2), (cn, In, Fn), rfl, ⟨(Fr.mo Fr.rf (sbl rfl) (sbl rfl) (sbl rfl)), hB, (by show (v2 = 0 ∧ (v1 - v1 / v2 * v2) = 0 ∧ Fn 197 k0 = 1) ∨ (¬ v2 = 0 ∧ (v1 - v1 / v2 * v2) = rk t0 v1 v2 ∧ Fn 197 = Fn 197); exact Or.inr ⟨by first | assumption | (first | omega | (have zz0 := Hid.u hb_cn; omega)), by rcases ht0 with rfl | rfl <;> first | rfl | (exfalso; (first | omega | (have zz0 := Hid.u hb_cn; omega))), rfl⟩)⟩, by rw [ht]; exact hP, hD⟩, hS.F ht⟩) hS.2.2 dX9_divide_26
    ·
      have tc_2 : ((nI t0).toInt : Int) = 6 := congrArg Int32.toInt c_2
      refine lv_iload_n hx hb (oc_28 17 (aq_17 shX9_divide_0)) rfl (lvA2 hl) ?_
      refine lv_iload_n hx hb (oc_29 18 (aq_18 shX9_divide_0)) rfl (lvA3 hl) ?_
      refine lv_idiv hx hb (oc_108 19 (aq_19 shX9_divide_0)) (by assumption) ?_
      refine lv_goto (tgt := 26) hx hb (oc_167 20 (aq_20 shX9_divide_0) sgw_0_6) rfl ?_
      exact W.iret (v := (v1 / v2)) hx hb hr (fun t ht hW => ⟨⟨(v1 / v2), (cn, In, Fn), rfl, ⟨(Fr.mo Fr.rf (sbl rfl) (sbl rfl) (sbl rfl)), hB, (by show (v2 = 0 ∧ (v1 / v2) = 0 ∧ Fn 197 k0 = 1) ∨ (¬ v2 = 0 ∧ (v1 / v2) = rk t0 v1 v2 ∧ Fn 197 = Fn 197); exact Or.inr ⟨by first | assumption | (first | omega | (have zz0 := Hid.u hb_cn; omega)), by rcases ht0 with rfl | rfl <;> first | rfl | (exfalso; (first | omega | (have zz0 := Hid.u hb_cn; omega))), rfl⟩)⟩, by rw [ht]; exact hP, hD⟩, hS.F ht⟩) hS.2.2 dX9_divide_26
  ·
    have tc_1 : (v2.toInt : Int) = 0 := congrArg Int32.toInt c_1
    refine lv_aload_n hx hb (oc_42 4 (aq_4 shX9_divide_0)) rfl (lvA0 hl) ?_
    refine lv_iconst (v := 1) hx hb (oc_4 5 (aq_5 shX9_divide_0)) kic_1 ?_
    refine pf_RX9_58 S hK hP hD hS _ (xf_7 hk) (v := .int 1) (Nat.le_of_ble_eq_true rfl) rfl rfl (oc_181 6 (aq_6 shX9_divide_0) uw_0_58) (fun H locs hP hD hS => ?_)
    have hP : va_P D vwCl (wX cI (D.1 99) zz g ad cn In (va_up Fn 197 (upd (Fn 197) k0 1))) H := va_P_eq (xs_197 (by (first | omega | (have zz0 := Hid.u hb_cn; omega)))) hP
    have hD : va_D A (wX cI (D.1 99) zz g ad cn In (va_up Fn 197 (upd (Fn 197) k0 1))) := va_D_eq (xs_197 (by (first | omega | (have zz0 := Hid.u hb_cn; omega)))) hD
    refine lv_iconst (v := 0) hx hb (oc_3 9 (aq_9 shX9_divide_0)) kic_0 ?_
    exact W.iret (v := 0) hx hb hr (fun t ht hW => ⟨⟨0, (cn, In, (va_up Fn 197 (upd (Fn 197) k0 1))), rfl, ⟨(Fr.mo (Fr.f 197 Fr.rf) (sbl rfl) (sbl rfl) (sbl rfl)), hB, (by show (v2 = 0 ∧ 0 = 0 ∧ (va_up Fn 197 (upd (Fn 197) k0 1)) 197 k0 = 1) ∨ (¬ v2 = 0 ∧ 0 = rk t0 v1 v2 ∧ (va_up Fn 197 (upd (Fn 197) k0 1)) 197 = Fn 197); exact Or.inl ⟨by first | assumption | (exact Int32.toInt_inj.mp (by first | assumption | (first | omega | (have zz0 := Hid.u hb_cn; omega)))), rfl, upd_self _ _ _⟩)⟩, by rw [ht]; exact hP, hD⟩, hS.F ht⟩) hS.2.2 (oc_172 10 (aq_10 shX9_divide_0))
set_option maxRecDepth 100000 in
set_option maxHeartbeats 4000000 in
theorem q_Wdecided (l : Launch) (D : va_G) (cI cB cZ : ClassId) (zz qq vv : Nat) (bt : Nat → Int32) (g : Nat → Nat) (ad : Nat → Nat → Nat) (cn : Nat → Nat) (In : Nat → Int32) (Fn : Nat → Nat → Int32) (k0 : Nat) (v0 x0 : Int32) (s0 : List Int32) (sz : Nat) (hB : CBX cn) (hk : k0 < cn 6) (hs : SKx k0 Fn (x0 :: s0)) (h32 : s0.length < 32) : Met l yX9_decided (CWS yX9_decided cX9_decided 3 (some .boolean)) (RM 1 0 0) (PBx [.ref (ad 5 k0), .int v0] D cI cB cZ zz qq vv bt (wX cI (D.1 99) zz g ad cn In Fn) sz) (va_Qi (fun (r : Int32) (u : (Nat → Nat) × (Nat → Int32) × (Nat → Nat → Int32)) => (fun r c2 I2 F2 => Fr [] [] [196, 305] cn In Fn c2 I2 F2 ∧ CBX c2 ∧ ((x0 = v0 ∧ r = 1 ∧ SKx k0 F2 (x0 :: s0)) ∨ (¬ x0 = v0 ∧ r = 0 ∧ SKx k0 F2 s0))) r u.1 u.2.1 u.2.2) (fun (u : (Nat → Nat) × (Nat → Int32) × (Nat → Nat → Int32)) (t : State) => va_P D vwCl (wX cI (D.1 99) zz g ad u.1 u.2.1 u.2.2) t.heap ∧ va_D (va_A (wX cI (D.1 99) zz g ad cn In Fn) sz) (wX cI (D.1 99) zz g ad u.1 u.2.1 u.2.2)) (va_A (wX cI (D.1 99) zz g ad cn In Fn) sz)) 0 0 (va_A (wX cI (D.1 99) zz g ad cn In Fn) sz) := by
  refine en_x (fun A => (va_Qi (fun (r : Int32) (u : (Nat → Nat) × (Nat → Int32) × (Nat → Nat → Int32)) => (fun (r : Int32) (c2 : Nat → Nat) (I2 : Nat → Int32) (F2 : Nat → Nat → Int32) => Fr [] [] [196, 305] cn In Fn c2 I2 F2 ∧ CBX c2 ∧ ((x0 = v0 ∧ r = 1 ∧ SKx k0 F2 (x0 :: s0)) ∨ (¬ x0 = v0 ∧ r = 0 ∧ SKx k0 F2 s0))) r u.1 u.2.1 u.2.2) (fun (u : (Nat → Nat) × (Nat → Int32) × (Nat → Nat → Int32)) (t : State) => va_P D vwCl (wX cI (D.1 99) zz g ad u.1 u.2.1 u.2.2) t.heap ∧ va_D A (wX cI (D.1 99) zz g ad u.1 u.2.1 u.2.2)) A)) rfl rfl pn_RX9 (Nat.le_of_ble_eq_true rfl) (fun p e s m below meth c A hx hb hml hown S hr hlocks hnm hA hP hK hD hXS hS ls hl => ?_)
  have hl : lv_has ls 3 [(0, .ref (ad 5 k0)), (1, .int v0)] := hl
  have hb_cn : Hid (CBX cn) := hB
  replace hB : CBXh cn := hB
  refine lv_aload_n hx hb (oc_42 0 shX9_decided_0) rfl (lvA0 hl) ?_
  have hFc := free_all hD hS hA
  refine va_calli (runV_xa (As := []) (rest := []) S (q_Wpop l D cI cB cZ zz qq vv bt g ad cn In Fn k0 x0 s0 s.heap.size hB (by (first | omega | (have zz0 := Hid.u hb_cn; omega))) hs (by (first | omega | (have zz0 := Hid.u hb_cn; omega)))) kV_RX9_67 hK hXS hS hFc hP hD _ (xf_7 hk) rfl rfl ⟨Nat.le_of_ble_eq_true rfl, Nat.le_of_ble_eq_true rfl⟩ ⟨Nat.le_of_ble_eq_true rfl, Nat.le_of_ble_eq_true rfl⟩ rfl hl.1 rfl (Nat.le_of_ble_eq_true rfl) (oc_182 1 (aq_1 shX9_decided_0) uw_0_67)) hS (fun q _ h => hFc q h) hFc (fun r_1 u t H1 locs ht hvm wh_2 hB1 hz1 hk1 hS => ?_)
  obtain ⟨cn2, In2, Fn2⟩ := u
  obtain ⟨hP1, hD1⟩ := hB1
  rw [ht] at hP1
  have hP : va_P D vwCl (wX cI (D.1 99) zz g ad cn2 In2 Fn2) H1 := hP1
  have hD : va_D A (wX cI (D.1 99) zz g ad cn2 In2 Fn2) := hD1.weaken (fun _ _ _ h => hFc _ h)
  generalize H1 = H at hP hS ⊢
  have vh_2 : (fun r c2 I2 F2 => Fr [] [] [196] cn In Fn c2 I2 F2 ∧ CBX c2 ∧ (r = x0 ∧ SKx k0 F2 s0)) r_1 cn2 In2 Fn2 := wh_2
  obtain ⟨hfc2, hIn2, h_2⟩ := vh_2
  obtain rfl : cn = cn2 := (funext (fun k => hfc2.1 k List.not_mem_nil)).symm
  obtain rfl : In = In2 := (funext (fun k => hfc2.2.1 k List.not_mem_nil)).symm
  have hf2 : Fr [] [] [196, 305] cn In Fn cn In Fn2 := Fr.mo (Fr.tr (Fr.rf (cn := cn) (In := In) (Fn := Fn)) hfc2) (sbl rfl) (sbl rfl) (sbl rfl)
  replace hIn2 : CBXh cn := hIn2
  obtain ⟨er9, h_2⟩ := h_2
  obtain rfl : x0 = r_1 := er9.symm
  refine lv_istore_n (lv' := [(2, .int x0), (0, .ref (ad 5 k0)), (1, .int v0)]) hx hb (oc_61 4 (aq_4 shX9_decided_0)) rfl hl (ltb rfl) rfl (fun ls hl => ?_)
  refine lv_iload_n hx hb (oc_28 5 (aq_5 shX9_decided_0)) rfl (lvA0 hl) ?_
  refine lv_iload_n hx hb (oc_27 6 (aq_6 shX9_decided_0)) rfl (lvA2 hl) ?_
  refine lv_icmp_eq (tgt := 12) hx hb (oc_159 7 (aq_7 shX9_decided_0) sgw_0_5) rfl (fun c_3 => ?_) (fun c_3 => ?_)
  ·
    have tc_3 : (x0.toInt : Int) = v0.toInt := congrArg Int32.toInt c_3
    refine lv_aload_n hx hb (oc_42 12 (aq_12 shX9_decided_0)) rfl (lvA1 hl) ?_
    refine lv_iload_n hx hb (oc_28 13 (aq_13 shX9_decided_0)) rfl (lvA0 hl) ?_
    have hFc := free_all hD hS hA
    refine va_callv (runV_xa (As := [.int x0]) (rest := []) S (q_Wpush l D cI cB cZ zz qq vv bt g ad cn In Fn2 k0 x0 s0 H.size hIn2 (by (first | omega | (have zz0 := Hid.u hb_cn; omega))) h_2 (by (first | omega | (have zz0 := Hid.u hb_cn; omega)))) kV_RX9_63 hK hXS hS hFc hP hD _ (xf_7 hk) rfl rfl ⟨Nat.le_of_ble_eq_true rfl, Nat.le_of_ble_eq_true rfl⟩ ⟨Nat.le_of_ble_eq_true rfl, Nat.le_of_ble_eq_true rfl⟩ rfl hl.1 rfl (Nat.le_of_ble_eq_true rfl) (oc_182 14 (aq_14 shX9_decided_0) uw_0_63)) hS (fun q _ h => hFc q h) hFc (fun u t H1 locs ht hvm wh_5 hB1 hz1 hk1 hS => ?_)
    obtain ⟨cn5, In5, Fn5⟩ := u
    obtain ⟨hP1, hD1⟩ := hB1
    rw [ht] at hP1
    have hP : va_P D vwCl (wX cI (D.1 99) zz g ad cn5 In5 Fn5) H1 := hP1
    have hD : va_D A (wX cI (D.1 99) zz g ad cn5 In5 Fn5) := hD1.weaken (fun _ _ _ h => hFc _ h)
    generalize H1 = H at hP hS ⊢
    have vh_5 : (fun c2 I2 F2 => Fr [] [] [196, 305] cn In Fn2 c2 I2 F2 ∧ CBX c2 ∧ (SKx k0 F2 (x0 :: s0))) cn5 In5 Fn5 := wh_5
    obtain ⟨hfc5, hIn5, h_5⟩ := vh_5
    obtain rfl : cn = cn5 := (funext (fun k => hfc5.1 k List.not_mem_nil)).symm
    obtain rfl : In = In5 := (funext (fun k => hfc5.2.1 k List.not_mem_nil)).symm
    have hf5 : Fr [] [] [196, 305] cn In Fn cn In Fn5 := Fr.mo (Fr.tr hf2 hfc5) (sbl rfl) (sbl rfl) (sbl rfl)
    replace hIn5 : CBXh cn := hIn5
    refine lv_iconst (v := 1) hx hb (oc_4 17 (aq_17 shX9_decided_0)) kic_1 ?_
    exact W.zret (v := 1) hx hb hr rfl (fun t ht hW => ⟨⟨1, (cn, In, Fn5), rfl, ⟨(Fr.mo hf5 (sbl rfl) (sbl rfl) (sbl rfl)), hIn5, (by show (x0 = v0 ∧ 1 = 1 ∧ SKx k0 Fn5 (x0 :: s0)) ∨ (¬ x0 = v0 ∧ 1 = 0 ∧ SKx k0 Fn5 s0); exact Or.inl ⟨by first | assumption | exact Int32.toInt_inj.mp (by (first | omega | (have zz0 := Hid.u hb_cn; omega))), rfl, h_5⟩)⟩, by rw [ht]; exact hP, hD⟩, hS.F ht⟩) hS.2.2 (oc_172 18 (aq_18 shX9_decided_0))
  ·
    have tc_3 : (x0.toInt : Int) ≠ v0.toInt := fun q => c_3 (Int32.toInt_inj.mp q)
    refine lv_iconst (v := 0) hx hb (oc_3 10 (aq_10 shX9_decided_0)) kic_0 ?_
    exact W.zret (v := 0) hx hb hr rfl (fun t ht hW => ⟨⟨0, (cn, In, Fn2), rfl, ⟨(Fr.mo hf2 (sbl rfl) (sbl rfl) (sbl rfl)), hIn2, (by show (x0 = v0 ∧ 0 = 1 ∧ SKx k0 Fn2 (x0 :: s0)) ∨ (¬ x0 = v0 ∧ 0 = 0 ∧ SKx k0 Fn2 s0); exact Or.inr ⟨by first | assumption | exact fun q => absurd (congrArg Int32.toInt q) (by (first | omega | (have zz0 := Hid.u hb_cn; omega))), rfl, h_2⟩)⟩, by rw [ht]; exact hP, hD⟩, hS.F ht⟩) hS.2.2 (oc_172 11 (aq_11 shX9_decided_0))
set_option maxRecDepth 100000 in
set_option maxHeartbeats 4000000 in
theorem q_Wreckon (l : Launch) (D : va_G) (cI cB cZ : ClassId) (zz qq vv : Nat) (bt : Nat → Int32) (g : Nat → Nat) (ad : Nat → Nat → Nat) (cn : Nat → Nat) (In : Nat → Int32) (Fn : Nat → Nat → Int32) (k0 t0 : Nat) (v1 v2 : Int32) (sz : Nat) (hB : CBX cn) (hk : k0 < cn 6) (ht0 : 3 ≤ t0 ∧ t0 ≤ 10) : Met l yX9_reckon (CWS yX9_reckon cX9_reckon 4 (some .int)) (RM 1 0 0) (PBx [.ref (ad 5 k0), .int (nI t0), .int v1, .int v2] D cI cB cZ zz qq vv bt (wX cI (D.1 99) zz g ad cn In Fn) sz) (va_Qi (fun (r : Int32) (u : (Nat → Nat) × (Nat → Int32) × (Nat → Nat → Int32)) => (fun r c2 I2 F2 => Fr [] [] [197] cn In Fn c2 I2 F2 ∧ CBX c2 ∧ ((((t0 = 6 ∨ t0 = 7) ∧ v2 = 0) ∧ r = 0 ∧ F2 197 k0 = 1) ∨ (¬ ((t0 = 6 ∨ t0 = 7) ∧ v2 = 0) ∧ r = rk t0 v1 v2 ∧ F2 197 = Fn 197))) r u.1 u.2.1 u.2.2) (fun (u : (Nat → Nat) × (Nat → Int32) × (Nat → Nat → Int32)) (t : State) => va_P D vwCl (wX cI (D.1 99) zz g ad u.1 u.2.1 u.2.2) t.heap ∧ va_D (va_A (wX cI (D.1 99) zz g ad cn In Fn) sz) (wX cI (D.1 99) zz g ad u.1 u.2.1 u.2.2)) (va_A (wX cI (D.1 99) zz g ad cn In Fn) sz)) 0 0 (va_A (wX cI (D.1 99) zz g ad cn In Fn) sz) := by
  refine en_x (fun A => (va_Qi (fun (r : Int32) (u : (Nat → Nat) × (Nat → Int32) × (Nat → Nat → Int32)) => (fun (r : Int32) (c2 : Nat → Nat) (I2 : Nat → Int32) (F2 : Nat → Nat → Int32) => Fr [] [] [197] cn In Fn c2 I2 F2 ∧ CBX c2 ∧ ((((t0 = 6 ∨ t0 = 7) ∧ v2 = 0) ∧ r = 0 ∧ F2 197 k0 = 1) ∨ (¬ ((t0 = 6 ∨ t0 = 7) ∧ v2 = 0) ∧ r = rk t0 v1 v2 ∧ F2 197 = Fn 197))) r u.1 u.2.1 u.2.2) (fun (u : (Nat → Nat) × (Nat → Int32) × (Nat → Nat → Int32)) (t : State) => va_P D vwCl (wX cI (D.1 99) zz g ad u.1 u.2.1 u.2.2) t.heap ∧ va_D A (wX cI (D.1 99) zz g ad u.1 u.2.1 u.2.2)) A)) rfl rfl pn_RX9 (Nat.le_of_ble_eq_true rfl) (fun p e s m below meth c A hx hb hml hown S hr hlocks hnm hA hP hK hD hXS hS ls hl => ?_)
  have hl : lv_has ls 4 [(0, .ref (ad 5 k0)), (1, .int (nI t0)), (2, .int v1), (3, .int v2)] := hl
  have hb_cn : Hid (CBX cn) := hB
  replace hB : CBXh cn := hB
  rcases (by (first | omega | (have zz0 := Hid.u hb_cn; omega)) : t0 = 3 ∨ t0 = 4 ∨ t0 = 5 ∨ t0 = 6 ∨ t0 = 7 ∨ t0 = 8 ∨ t0 = 9 ∨ t0 = 10) with et0 | et0 | et0 | et0 | et0 | et0 | et0 | et0
  ·
    rw [et0] at hl
    have hl : lv_has ls 4 [(0, .ref (ad 5 k0)), (1, .int 3), (2, .int v1), (3, .int v2)] := hl
    refine lv_iload_n hx hb dX9_reckon_0 rfl (lvA1 hl) ?_
    refine lv_tableIn (tgt := 48) hx hb dX9_reckon_1 (by decide) (by decide) rfl (by decide) ?_
    refine lv_iload_n hx hb (oc_28 48 shX9_reckon_48) rfl (lvA2 hl) ?_
    refine lv_iload_n hx hb (oc_29 49 (aq_1 shX9_reckon_48)) rfl (lvA3 hl) ?_
    refine lv_iadd hx hb (oc_96 50 (aq_2 shX9_reckon_48)) ?_
    exact W.iret (v := (v1 + v2)) hx hb hr (fun t ht hW => ⟨⟨(v1 + v2), (cn, In, Fn), rfl, ⟨(Fr.mo Fr.rf (sbl rfl) (sbl rfl) (sbl rfl)), hB, (by show (((t0 = 6 ∨ t0 = 7) ∧ v2 = 0) ∧ (v1 + v2) = 0 ∧ Fn 197 k0 = 1) ∨ (¬ ((t0 = 6 ∨ t0 = 7) ∧ v2 = 0) ∧ (v1 + v2) = rk t0 v1 v2 ∧ Fn 197 = Fn 197); exact (by rw [et0]; exact Or.inr ⟨fun q => absurd q.1 (by decide), rfl, rfl⟩))⟩, by rw [ht]; exact hP, hD⟩, hS.F ht⟩) hS.2.2 (oc_172 51 (aq_3 shX9_reckon_48))
  ·
    rw [et0] at hl
    have hl : lv_has ls 4 [(0, .ref (ad 5 k0)), (1, .int 4), (2, .int v1), (3, .int v2)] := hl
    refine lv_iload_n hx hb dX9_reckon_0 rfl (lvA1 hl) ?_
    refine lv_tableIn (tgt := 52) hx hb dX9_reckon_1 (by decide) (by decide) rfl (by decide) ?_
    refine lv_iload_n hx hb (oc_28 52 (aq_4 shX9_reckon_48)) rfl (lvA2 hl) ?_
    refine lv_iload_n hx hb (oc_29 53 (aq_5 shX9_reckon_48)) rfl (lvA3 hl) ?_
    refine lv_isub hx hb (oc_100 54 (aq_6 shX9_reckon_48)) ?_
    exact W.iret (v := (v1 - v2)) hx hb hr (fun t ht hW => ⟨⟨(v1 - v2), (cn, In, Fn), rfl, ⟨(Fr.mo Fr.rf (sbl rfl) (sbl rfl) (sbl rfl)), hB, (by show (((t0 = 6 ∨ t0 = 7) ∧ v2 = 0) ∧ (v1 - v2) = 0 ∧ Fn 197 k0 = 1) ∨ (¬ ((t0 = 6 ∨ t0 = 7) ∧ v2 = 0) ∧ (v1 - v2) = rk t0 v1 v2 ∧ Fn 197 = Fn 197); exact (by rw [et0]; exact Or.inr ⟨fun q => absurd q.1 (by decide), rfl, rfl⟩))⟩, by rw [ht]; exact hP, hD⟩, hS.F ht⟩) hS.2.2 (oc_172 55 (aq_7 shX9_reckon_48))
  ·
    rw [et0] at hl
    have hl : lv_has ls 4 [(0, .ref (ad 5 k0)), (1, .int 5), (2, .int v1), (3, .int v2)] := hl
    refine lv_iload_n hx hb dX9_reckon_0 rfl (lvA1 hl) ?_
    refine lv_tableIn (tgt := 56) hx hb dX9_reckon_1 (by decide) (by decide) rfl (by decide) ?_
    refine lv_iload_n hx hb (oc_28 56 (aq_8 shX9_reckon_48)) rfl (lvA2 hl) ?_
    refine lv_iload_n hx hb (oc_29 57 (aq_9 shX9_reckon_48)) rfl (lvA3 hl) ?_
    refine lv_imul hx hb (oc_104 58 (aq_10 shX9_reckon_48)) ?_
    exact W.iret (v := (v1 * v2)) hx hb hr (fun t ht hW => ⟨⟨(v1 * v2), (cn, In, Fn), rfl, ⟨(Fr.mo Fr.rf (sbl rfl) (sbl rfl) (sbl rfl)), hB, (by show (((t0 = 6 ∨ t0 = 7) ∧ v2 = 0) ∧ (v1 * v2) = 0 ∧ Fn 197 k0 = 1) ∨ (¬ ((t0 = 6 ∨ t0 = 7) ∧ v2 = 0) ∧ (v1 * v2) = rk t0 v1 v2 ∧ Fn 197 = Fn 197); exact (by rw [et0]; exact Or.inr ⟨fun q => absurd q.1 (by decide), rfl, rfl⟩))⟩, by rw [ht]; exact hP, hD⟩, hS.F ht⟩) hS.2.2 (oc_172 59 (aq_11 shX9_reckon_48))
  ·
    rw [et0] at hl
    have hl : lv_has ls 4 [(0, .ref (ad 5 k0)), (1, .int 6), (2, .int v1), (3, .int v2)] := hl
    refine lv_iload_n hx hb dX9_reckon_0 rfl (lvA1 hl) ?_
    refine lv_tableIn (tgt := 93) hx hb dX9_reckon_1 (by decide) (by decide) rfl (by decide) ?_
    refine lv_aload_n hx hb dX9_reckon_93 rfl (lvA0 hl) ?_
    refine lv_iload_n hx hb dX9_reckon_94 rfl (lvA1 hl) ?_
    refine lv_iload_n hx hb dX9_reckon_95 rfl (lvA2 hl) ?_
    refine lv_iload_n hx hb dX9_reckon_96 rfl (lvA3 hl) ?_
    have hFc := free_all hD hS hA
    refine va_calli (runV_xa (As := [.int 6, .int v1, .int v2]) (rest := []) S (q_Wdivide l D cI cB cZ zz qq vv bt g ad cn In Fn k0 6 v1 v2 s.heap.size hB (by (first | omega | (have zz0 := Hid.u hb_cn; omega))) (by decide)) kV_RX9_79 hK hXS hS hFc hP hD _ (xf_7 hk) rfl rfl ⟨Nat.le_of_ble_eq_true rfl, Nat.le_of_ble_eq_true rfl⟩ ⟨Nat.le_of_ble_eq_true rfl, Nat.le_of_ble_eq_true rfl⟩ rfl hl.1 rfl (Nat.le_of_ble_eq_true rfl) dX9_reckon_97) hS (fun q _ h => hFc q h) hFc (fun r_1 u t H1 locs ht hvm wh_2 hB1 hz1 hk1 hS => ?_)
    obtain ⟨cn2, In2, Fn2⟩ := u
    obtain ⟨hP1, hD1⟩ := hB1
    rw [ht] at hP1
    have hP : va_P D vwCl (wX cI (D.1 99) zz g ad cn2 In2 Fn2) H1 := hP1
    have hD : va_D A (wX cI (D.1 99) zz g ad cn2 In2 Fn2) := hD1.weaken (fun _ _ _ h => hFc _ h)
    generalize H1 = H at hP hS ⊢
    have vh_2 : (fun r c2 I2 F2 => Fr [] [] [197] cn In Fn c2 I2 F2 ∧ CBX c2 ∧ ((v2 = 0 ∧ r = 0 ∧ F2 197 k0 = 1) ∨ (¬ v2 = 0 ∧ r = rk 6 v1 v2 ∧ F2 197 = (Fn 197)))) r_1 cn2 In2 Fn2 := wh_2
    obtain ⟨hfc2, hIn2, h_2⟩ := vh_2
    obtain rfl : cn = cn2 := (funext (fun k => hfc2.1 k List.not_mem_nil)).symm
    obtain rfl : In = In2 := (funext (fun k => hfc2.2.1 k List.not_mem_nil)).symm
    have hf2 : Fr [] [] [197] cn In Fn cn In Fn2 := Fr.mo (Fr.tr (Fr.rf (cn := cn) (In := In) (Fn := Fn)) hfc2) (sbl rfl) (sbl rfl) (sbl rfl)
    replace hIn2 : CBXh cn := hIn2
    exact W.iret (v := r_1) hx hb hr (fun t ht hW => ⟨⟨r_1, (cn, In, Fn2), rfl, ⟨(Fr.mo hf2 (sbl rfl) (sbl rfl) (sbl rfl)), hIn2, (by show (((t0 = 6 ∨ t0 = 7) ∧ v2 = 0) ∧ r_1 = 0 ∧ Fn2 197 k0 = 1) ∨ (¬ ((t0 = 6 ∨ t0 = 7) ∧ v2 = 0) ∧ r_1 = rk t0 v1 v2 ∧ Fn2 197 = Fn 197); exact (by rw [et0]; rcases h_2 with ⟨a9, b9, c9⟩ | ⟨a9, b9, c9⟩ <;> first | exact Or.inl ⟨⟨by decide, a9⟩, b9, c9⟩ | exact Or.inr ⟨fun q => a9 q.2, b9, c9⟩))⟩, by rw [ht]; exact hP, hD⟩, hS.F ht⟩) hS.2.2 dX9_reckon_100
  ·
    rw [et0] at hl
    have hl : lv_has ls 4 [(0, .ref (ad 5 k0)), (1, .int 7), (2, .int v1), (3, .int v2)] := hl
    refine lv_iload_n hx hb dX9_reckon_0 rfl (lvA1 hl) ?_
    refine lv_tableIn (tgt := 93) hx hb dX9_reckon_1 (by decide) (by decide) rfl (by decide) ?_
    refine lv_aload_n hx hb dX9_reckon_93 rfl (lvA0 hl) ?_
    refine lv_iload_n hx hb dX9_reckon_94 rfl (lvA1 hl) ?_
    refine lv_iload_n hx hb dX9_reckon_95 rfl (lvA2 hl) ?_
    refine lv_iload_n hx hb dX9_reckon_96 rfl (lvA3 hl) ?_
    have hFc := free_all hD hS hA
    refine va_calli (runV_xa (As := [.int 7, .int v1, .int v2]) (rest := []) S (q_Wdivide l D cI cB cZ zz qq vv bt g ad cn In Fn k0 7 v1 v2 s.heap.size hB (by (first | omega | (have zz0 := Hid.u hb_cn; omega))) (by decide)) kV_RX9_79 hK hXS hS hFc hP hD _ (xf_7 hk) rfl rfl ⟨Nat.le_of_ble_eq_true rfl, Nat.le_of_ble_eq_true rfl⟩ ⟨Nat.le_of_ble_eq_true rfl, Nat.le_of_ble_eq_true rfl⟩ rfl hl.1 rfl (Nat.le_of_ble_eq_true rfl) dX9_reckon_97) hS (fun q _ h => hFc q h) hFc (fun r_3 u t H1 locs ht hvm wh_4 hB1 hz1 hk1 hS => ?_)
    obtain ⟨cn4, In4, Fn4⟩ := u
    obtain ⟨hP1, hD1⟩ := hB1
    rw [ht] at hP1
    have hP : va_P D vwCl (wX cI (D.1 99) zz g ad cn4 In4 Fn4) H1 := hP1
    have hD : va_D A (wX cI (D.1 99) zz g ad cn4 In4 Fn4) := hD1.weaken (fun _ _ _ h => hFc _ h)
    generalize H1 = H at hP hS ⊢
    have vh_4 : (fun r c2 I2 F2 => Fr [] [] [197] cn In Fn c2 I2 F2 ∧ CBX c2 ∧ ((v2 = 0 ∧ r = 0 ∧ F2 197 k0 = 1) ∨ (¬ v2 = 0 ∧ r = rk 7 v1 v2 ∧ F2 197 = (Fn 197)))) r_3 cn4 In4 Fn4 := wh_4
    obtain ⟨hfc4, hIn4, h_4⟩ := vh_4
    obtain rfl : cn = cn4 := (funext (fun k => hfc4.1 k List.not_mem_nil)).symm
    obtain rfl : In = In4 := (funext (fun k => hfc4.2.1 k List.not_mem_nil)).symm
    have hf4 : Fr [] [] [197] cn In Fn cn In Fn4 := Fr.mo (Fr.tr (Fr.rf (cn := cn) (In := In) (Fn := Fn)) hfc4) (sbl rfl) (sbl rfl) (sbl rfl)
    replace hIn4 : CBXh cn := hIn4
    exact W.iret (v := r_3) hx hb hr (fun t ht hW => ⟨⟨r_3, (cn, In, Fn4), rfl, ⟨(Fr.mo hf4 (sbl rfl) (sbl rfl) (sbl rfl)), hIn4, (by show (((t0 = 6 ∨ t0 = 7) ∧ v2 = 0) ∧ r_3 = 0 ∧ Fn4 197 k0 = 1) ∨ (¬ ((t0 = 6 ∨ t0 = 7) ∧ v2 = 0) ∧ r_3 = rk t0 v1 v2 ∧ Fn4 197 = Fn 197); exact (by rw [et0]; rcases h_4 with ⟨a9, b9, c9⟩ | ⟨a9, b9, c9⟩ <;> first | exact Or.inl ⟨⟨by decide, a9⟩, b9, c9⟩ | exact Or.inr ⟨fun q => a9 q.2, b9, c9⟩))⟩, by rw [ht]; exact hP, hD⟩, hS.F ht⟩) hS.2.2 dX9_reckon_100
  ·
    rw [et0] at hl
    have hl : lv_has ls 4 [(0, .ref (ad 5 k0)), (1, .int 8), (2, .int v1), (3, .int v2)] := hl
    refine lv_iload_n hx hb dX9_reckon_0 rfl (lvA1 hl) ?_
    refine lv_tableIn (tgt := 60) hx hb dX9_reckon_1 (by decide) (by decide) rfl (by decide) ?_
    refine lv_iload_n hx hb (oc_28 60 (aq_12 shX9_reckon_48)) rfl (lvA2 hl) ?_
    refine lv_iload_n hx hb (oc_29 61 (aq_13 shX9_reckon_48)) rfl (lvA3 hl) ?_
    refine lv_icmp_ge (tgt := 69) hx hb (oc_162 62 (aq_14 shX9_reckon_48) sgw_0_7) rfl (fun c_5 => ?_) (fun c_5 => ?_)
    ·
      have tc_5 : (v2.toInt : Int) ≤ v1.toInt := Int32.le_iff_toInt_le.mp c_5
      refine lv_iconst (v := 0) hx hb (oc_3 69 (aq_21 shX9_reckon_48)) kic_0 ?_
      exact W.iret (v := 0) hx hb hr (fun t ht hW => ⟨⟨0, (cn, In, Fn), rfl, ⟨(Fr.mo Fr.rf (sbl rfl) (sbl rfl) (sbl rfl)), hB, (by show (((t0 = 6 ∨ t0 = 7) ∧ v2 = 0) ∧ 0 = 0 ∧ Fn 197 k0 = 1) ∨ (¬ ((t0 = 6 ∨ t0 = 7) ∧ v2 = 0) ∧ 0 = rk t0 v1 v2 ∧ Fn 197 = Fn 197); exact (by rw [et0]; exact Or.inr ⟨fun q => absurd q.1 (by decide), (show (0 : Int32) = if v1 < v2 then (1 : Int32) else 0 from (if_neg (fun q => absurd (Int32.lt_iff_toInt_lt.mp q) (by (first | omega | (have zz0 := Hid.u hb_cn; omega))))).symm), rfl⟩))⟩, by rw [ht]; exact hP, hD⟩, hS.F ht⟩) hS.2.2 dX9_reckon_70
    ·
      have tc_5 : (v1.toInt : Int) < v2.toInt := Int32.lt_iff_toInt_lt.mp (Int32.not_le.mp c_5)
      refine lv_iconst (v := 1) hx hb (oc_4 65 (aq_17 shX9_reckon_48)) kic_1 ?_
      refine lv_goto (tgt := 70) hx hb (oc_167 66 (aq_18 shX9_reckon_48) sgw_0_4) rfl ?_
      exact W.iret (v := 1) hx hb hr (fun t ht hW => ⟨⟨1, (cn, In, Fn), rfl, ⟨(Fr.mo Fr.rf (sbl rfl) (sbl rfl) (sbl rfl)), hB, (by show (((t0 = 6 ∨ t0 = 7) ∧ v2 = 0) ∧ 1 = 0 ∧ Fn 197 k0 = 1) ∨ (¬ ((t0 = 6 ∨ t0 = 7) ∧ v2 = 0) ∧ 1 = rk t0 v1 v2 ∧ Fn 197 = Fn 197); exact (by rw [et0]; exact Or.inr ⟨fun q => absurd q.1 (by decide), (show (1 : Int32) = if v1 < v2 then (1 : Int32) else 0 from (if_pos (Int32.lt_iff_toInt_lt.mpr (by (first | omega | (have zz0 := Hid.u hb_cn; omega))))).symm), rfl⟩))⟩, by rw [ht]; exact hP, hD⟩, hS.F ht⟩) hS.2.2 dX9_reckon_70
  ·
    rw [et0] at hl
    have hl : lv_has ls 4 [(0, .ref (ad 5 k0)), (1, .int 9), (2, .int v1), (3, .int v2)] := hl
    refine lv_iload_n hx hb dX9_reckon_0 rfl (lvA1 hl) ?_
    refine lv_tableIn (tgt := 71) hx hb dX9_reckon_1 (by decide) (by decide) rfl (by decide) ?_
    refine lv_iload_n hx hb (oc_28 71 (aq_23 shX9_reckon_48)) rfl (lvA2 hl) ?_
    refine lv_iload_n hx hb (oc_29 72 shX9_reckon_72) rfl (lvA3 hl) ?_
    refine lv_icmp_le (tgt := 80) hx hb (oc_164 73 (aq_1 shX9_reckon_72) sgw_0_7) rfl (fun c_6 => ?_) (fun c_6 => ?_)
    ·
      have tc_6 : (v1.toInt : Int) ≤ v2.toInt := Int32.le_iff_toInt_le.mp c_6
      refine lv_iconst (v := 0) hx hb (oc_3 80 (aq_8 shX9_reckon_72)) kic_0 ?_
      exact W.iret (v := 0) hx hb hr (fun t ht hW => ⟨⟨0, (cn, In, Fn), rfl, ⟨(Fr.mo Fr.rf (sbl rfl) (sbl rfl) (sbl rfl)), hB, (by show (((t0 = 6 ∨ t0 = 7) ∧ v2 = 0) ∧ 0 = 0 ∧ Fn 197 k0 = 1) ∨ (¬ ((t0 = 6 ∨ t0 = 7) ∧ v2 = 0) ∧ 0 = rk t0 v1 v2 ∧ Fn 197 = Fn 197); exact (by rw [et0]; exact Or.inr ⟨fun q => absurd q.1 (by decide), (show (0 : Int32) = if v2 < v1 then (1 : Int32) else 0 from (if_neg (fun q => absurd (Int32.lt_iff_toInt_lt.mp q) (by (first | omega | (have zz0 := Hid.u hb_cn; omega))))).symm), rfl⟩))⟩, by rw [ht]; exact hP, hD⟩, hS.F ht⟩) hS.2.2 dX9_reckon_81
    ·
      have tc_6 : (v2.toInt : Int) < v1.toInt := Int32.lt_iff_toInt_lt.mp (Int32.not_le.mp c_6)
      refine lv_iconst (v := 1) hx hb (oc_4 76 (aq_4 shX9_reckon_72)) kic_1 ?_
      refine lv_goto (tgt := 81) hx hb (oc_167 77 (aq_5 shX9_reckon_72) sgw_0_4) rfl ?_
      exact W.iret (v := 1) hx hb hr (fun t ht hW => ⟨⟨1, (cn, In, Fn), rfl, ⟨(Fr.mo Fr.rf (sbl rfl) (sbl rfl) (sbl rfl)), hB, (by show (((t0 = 6 ∨ t0 = 7) ∧ v2 = 0) ∧ 1 = 0 ∧ Fn 197 k0 = 1) ∨ (¬ ((t0 = 6 ∨ t0 = 7) ∧ v2 = 0) ∧ 1 = rk t0 v1 v2 ∧ Fn 197 = Fn 197); exact (by rw [et0]; exact Or.inr ⟨fun q => absurd q.1 (by decide), (show (1 : Int32) = if v2 < v1 then (1 : Int32) else 0 from (if_pos (Int32.lt_iff_toInt_lt.mpr (by (first | omega | (have zz0 := Hid.u hb_cn; omega))))).symm), rfl⟩))⟩, by rw [ht]; exact hP, hD⟩, hS.F ht⟩) hS.2.2 dX9_reckon_81
  ·
    rw [et0] at hl
    have hl : lv_has ls 4 [(0, .ref (ad 5 k0)), (1, .int 10), (2, .int v1), (3, .int v2)] := hl
    refine lv_iload_n hx hb dX9_reckon_0 rfl (lvA1 hl) ?_
    refine lv_tableIn (tgt := 82) hx hb dX9_reckon_1 (by decide) (by decide) rfl (by decide) ?_
    refine lv_iload_n hx hb (oc_28 82 (aq_10 shX9_reckon_72)) rfl (lvA2 hl) ?_
    refine lv_iload_n hx hb (oc_29 83 (aq_11 shX9_reckon_72)) rfl (lvA3 hl) ?_
    refine lv_icmp_ne (tgt := 91) hx hb (oc_160 84 (aq_12 shX9_reckon_72) sgw_0_7) rfl (fun c_7 => ?_) (fun c_7 => ?_)
    ·
      have tc_7 : (v1.toInt : Int) ≠ v2.toInt := fun q => c_7 (Int32.toInt_inj.mp q)
      refine lv_iconst (v := 0) hx hb (oc_3 91 (aq_19 shX9_reckon_72)) kic_0 ?_
      exact W.iret (v := 0) hx hb hr (fun t ht hW => ⟨⟨0, (cn, In, Fn), rfl, ⟨(Fr.mo Fr.rf (sbl rfl) (sbl rfl) (sbl rfl)), hB, (by show (((t0 = 6 ∨ t0 = 7) ∧ v2 = 0) ∧ 0 = 0 ∧ Fn 197 k0 = 1) ∨ (¬ ((t0 = 6 ∨ t0 = 7) ∧ v2 = 0) ∧ 0 = rk t0 v1 v2 ∧ Fn 197 = Fn 197); exact (by rw [et0]; exact Or.inr ⟨fun q => absurd q.1 (by decide), (show (0 : Int32) = if v1 = v2 then (1 : Int32) else 0 from (if_neg (fun q => absurd (congrArg Int32.toInt q) (by (first | omega | (have zz0 := Hid.u hb_cn; omega))))).symm), rfl⟩))⟩, by rw [ht]; exact hP, hD⟩, hS.F ht⟩) hS.2.2 dX9_reckon_92
    ·
      have tc_7 : (v1.toInt : Int) = v2.toInt := congrArg Int32.toInt c_7
      refine lv_iconst (v := 1) hx hb (oc_4 87 (aq_15 shX9_reckon_72)) kic_1 ?_
      refine lv_goto (tgt := 92) hx hb (oc_167 88 (aq_16 shX9_reckon_72) sgw_0_4) rfl ?_
      exact W.iret (v := 1) hx hb hr (fun t ht hW => ⟨⟨1, (cn, In, Fn), rfl, ⟨(Fr.mo Fr.rf (sbl rfl) (sbl rfl) (sbl rfl)), hB, (by show (((t0 = 6 ∨ t0 = 7) ∧ v2 = 0) ∧ 1 = 0 ∧ Fn 197 k0 = 1) ∨ (¬ ((t0 = 6 ∨ t0 = 7) ∧ v2 = 0) ∧ 1 = rk t0 v1 v2 ∧ Fn 197 = Fn 197); exact (by rw [et0]; exact Or.inr ⟨fun q => absurd q.1 (by decide), (show (1 : Int32) = if v1 = v2 then (1 : Int32) else 0 from (if_pos (Int32.toInt_inj.mp (by (first | omega | (have zz0 := Hid.u hb_cn; omega))))).symm), rfl⟩))⟩, by rw [ht]; exact hP, hD⟩, hS.F ht⟩) hS.2.2 dX9_reckon_92
set_option maxRecDepth 100000 in
set_option maxHeartbeats 4000000 in
theorem q_Wrun (l : Launch) (D : va_G) (cI cB cZ : ClassId) (zz qq vv : Nat) (bt : Nat → Int32) (g : Nat → Nat) (ad : Nat → Nat → Nat) (cn : Nat → Nat) (In : Nat → Int32) (Fn : Nat → Nat → Int32) (k0 a0 b0 n0 : Nat) (o : OutT) (t : Bool) (sz : Nat) (hB : CBX cn) (hk : k0 < cn 6) (hsy : SAYx k0 Fn o) (hseg : SgX 16 t o a0 b0) (h9 : (Fn 199 k0).toInt = ((n0 : Nat) : Int)) (hn0 : n0 ≤ 160 ∧ o.length ≤ n0) : Met l yX9_run (CWS yX9_run cX9_run 9 (some .int)) (RM 2 0 0) (PBx [.ref (ad 5 k0), .int (nI a0), .int (nI b0), .ref (g 7)] D cI cB cZ zz qq vv bt (wX cI (D.1 99) zz g ad cn In Fn) sz) (va_Qi (fun (r : Int32) (u : (Nat → Nat) × (Nat → Int32) × (Nat → Nat → Int32)) => (fun r c2 I2 F2 => Fr [] [] [196, 197, 305] cn In Fn c2 I2 F2 ∧ CBX c2 ∧ (r = MV o (cut (Fn 7)) a0 b0)) r u.1 u.2.1 u.2.2) (fun (u : (Nat → Nat) × (Nat → Int32) × (Nat → Nat → Int32)) (t : State) => va_P D vwCl (wX cI (D.1 99) zz g ad u.1 u.2.1 u.2.2) t.heap ∧ va_D (va_A (wX cI (D.1 99) zz g ad cn In Fn) sz) (wX cI (D.1 99) zz g ad u.1 u.2.1 u.2.2)) (va_A (wX cI (D.1 99) zz g ad cn In Fn) sz)) 0 0 (va_A (wX cI (D.1 99) zz g ad cn In Fn) sz) := by
  refine en_x (fun A => (va_Qi (fun (r : Int32) (u : (Nat → Nat) × (Nat → Int32) × (Nat → Nat → Int32)) => (fun (r : Int32) (c2 : Nat → Nat) (I2 : Nat → Int32) (F2 : Nat → Nat → Int32) => Fr [] [] [196, 197, 305] cn In Fn c2 I2 F2 ∧ CBX c2 ∧ (r = MV o (cut (Fn 7)) a0 b0)) r u.1 u.2.1 u.2.2) (fun (u : (Nat → Nat) × (Nat → Int32) × (Nat → Nat → Int32)) (t : State) => va_P D vwCl (wX cI (D.1 99) zz g ad u.1 u.2.1 u.2.2) t.heap ∧ va_D A (wX cI (D.1 99) zz g ad u.1 u.2.1 u.2.2)) A)) rfl rfl pn_RX9 (Nat.le_of_ble_eq_true rfl) (fun p e s m below meth c A hx hb hml hown S hr hlocks hnm hA hP hK hD hXS hS ls hl => ?_)
  have hl : lv_has ls 9 [(0, .ref (ad 5 k0)), (1, .int (nI a0)), (2, .int (nI b0)), (3, .ref (g 7))] := hl
  have hb_cn : Hid (CBX cn) := hB
  replace hB : CBXh cn := hB
  obtain ⟨hab, hbl, ty, hta, htb, hst⟩ := hseg
  refine lv_aload_n hx hb (oc_42 0 shX9_run_0) rfl (lvA0 hl) ?_
  refine lv_iconst (v := 0) hx hb (oc_3 1 (aq_1 shX9_run_0)) kic_0 ?_
  refine pf_RX9_55 S hK hP hD hS _ (xf_7 hk) (v := .int 0) (Nat.le_of_ble_eq_true rfl) rfl rfl (oc_181 2 (aq_2 shX9_run_0) uw_0_55) (fun H locs hP hD hS => ?_)
  have hP : va_P D vwCl (wX cI (D.1 99) zz g ad cn In (va_up Fn 196 (upd (Fn 196) k0 0))) H := va_P_eq (xs_196 (by (first | omega | (have zz0 := Hid.u hb_cn; omega)))) hP
  have hD : va_D A (wX cI (D.1 99) zz g ad cn In (va_up Fn 196 (upd (Fn 196) k0 0))) := va_D_eq (xs_196 (by (first | omega | (have zz0 := Hid.u hb_cn; omega)))) hD
  refine lv_aload_n hx hb (oc_42 5 (aq_5 shX9_run_0)) rfl (lvA0 hl) ?_
  refine lv_iconst (v := 0) hx hb (oc_3 6 (aq_6 shX9_run_0)) kic_0 ?_
  refine pf_RX9_58 S hK hP hD hS _ (xf_7 hk) (v := .int 0) (Nat.le_of_ble_eq_true rfl) rfl rfl (oc_181 7 (aq_7 shX9_run_0) uw_0_58) (fun H locs hP hD hS => ?_)
  have hP : va_P D vwCl (wX cI (D.1 99) zz g ad cn In (va_up (va_up Fn 196 (upd (Fn 196) k0 0)) 197 (upd (Fn 197) k0 0))) H := va_P_eq (xs_197 (by (first | omega | (have zz0 := Hid.u hb_cn; omega)))) hP
  have hD : va_D A (wX cI (D.1 99) zz g ad cn In (va_up (va_up Fn 196 (upd (Fn 196) k0 0)) 197 (upd (Fn 197) k0 0))) := va_D_eq (xs_197 (by (first | omega | (have zz0 := Hid.u hb_cn; omega)))) hD
  refine lv_iload_n hx hb (oc_27 10 (aq_10 shX9_run_0)) rfl (lvA1 hl) ?_
  refine lv_istore (lv' := [(4, .int (nI a0)), (0, .ref (ad 5 k0)), (1, .int (nI a0)), (2, .int (nI b0)), (3, .ref (g 7))]) hx hb (oc_54 11 (aq_11 shX9_run_0) ub_4) hl (ltb rfl) rfl (fun ls hl => ?_)
  refine lv_iload_n hx hb (oc_27 13 (aq_13 shX9_run_0)) rfl (lvA2 hl) ?_
  refine lv_istore (lv' := [(5, .int (nI a0)), (4, .int (nI a0)), (0, .ref (ad 5 k0)), (1, .int (nI a0)), (2, .int (nI b0)), (3, .ref (g 7))]) hx hb (oc_54 14 (aq_14 shX9_run_0) ub_5) hl (ltb rfl) rfl (fun ls hl => ?_)
  have lp_16 : ∀ (n : Nat) (j16 : Nat) (k16 : Nat) (F16 : Nat → Nat → Int32) (H : Heap) (locs : List Loc) , b0 - k16 < n → (Fr [] [] [196, 197, 305] cn In Fn cn In F16 ∧ CBX cn ∧ (a0 ≤ k16 ∧ k16 ≤ b0 ∧ j16 ≤ b0) ∧ (RNI o (cut (Fn 7)) a0 b0 k0 ty F16 k16 j16)) → va_P D vwCl (wX cI (D.1 99) zz g ad cn In F16) H → va_D A (wX cI (D.1 99) zz g ad cn In F16) → va_S A s.heap H locs → ∀ ls : Array Slot, lv_has ls 9 [(5, .int (nI k16)), (4, .int (nI j16)), (0, .ref (ad 5 k0)), (1, .int (nI a0)), (2, .int (nI b0)), (3, .ref (g 7))] → W p l e (RM 2 0 0) s m ([.ref (ad 5 k0), .int (nI a0), .int (nI b0), .ref (g 7)]).toArray below meth c H locs 0 0 (MQ below (va_Qi (fun (r : Int32) (u : (Nat → Nat) × (Nat → Int32) × (Nat → Nat → Int32)) => (fun r c2 I2 F2 => Fr [] [] [196, 197, 305] cn In Fn c2 I2 F2 ∧ CBX c2 ∧ (r = MV o (cut (Fn 7)) a0 b0)) r u.1 u.2.1 u.2.2) (fun (u : (Nat → Nat) × (Nat → Int32) × (Nat → Nat → Int32)) (t : State) => va_P D vwCl (wX cI (D.1 99) zz g ad u.1 u.2.1 u.2.2) t.heap ∧ va_D A (wX cI (D.1 99) zz g ad u.1 u.2.1 u.2.2)) A) ([.ref (ad 5 k0), .int (nI a0), .int (nI b0), .ref (g 7)]).toArray s 0 0 A) (F0 m 16 ls []) := by
    intro n16
    induction n16 with
    | zero => intros; (first | omega | (have zz0 := Hid.u hb_cn; omega))
    | succ n16 ih16 =>
      intro j16 k16 F16 H locs hmu16 hinv16 hP hD hS ls hl
      obtain ⟨hfr16, hI16, hx16_0, hx16_1⟩ := hinv16
      replace hI16 : CBXh cn := hI16
      refine lv_iload hx hb (oc_21 16 (aq_16 shX9_run_0) ub_5) (lvA0 hl) ?_
      refine lv_iload_n hx hb (oc_28 18 (aq_18 shX9_run_0)) rfl (lvA4 hl) ?_
      have : (nI k16).toInt = ((k16 : Nat) : Int) := nI_toInt (by (first | omega | (have zz0 := Hid.u hb_cn; omega)))
      have : (nI b0).toInt = ((b0 : Nat) : Int) := nI_toInt (by (first | omega | (have zz0 := Hid.u hb_cn; omega)))
      refine lv_icmp_ge (tgt := 234) hx hb (oc_162 19 (aq_19 shX9_run_0) sgw_0_215) rfl (fun c_1 => ?_) (fun c_1 => ?_)
      ·
        have tc_1 : ((nI b0).toInt : Int) ≤ (nI k16).toInt := Int32.le_iff_toInt_le.mp c_1
        rcases RNI.fin hx16_1 (by (first | omega | (have zz0 := Hid.u hb_cn; omega))) (by (first | omega | (have zz0 := Hid.u hb_cn; omega))) (by (first | omega | (have zz0 := Hid.u hb_cn; omega))) htb with ⟨hR8, x9, hS9, hM9⟩ | ⟨hR8, hM9⟩
        ·
          refine lv_aload_n hx hb dX9_run_234 rfl (lvA2 hl) ?_
          have hFc := free_all hD hS hA
          refine va_calli (runV_xa (As := []) (rest := []) S (q_Wpop l D cI cB cZ zz qq vv bt g ad cn In F16 k0 x9 ([]) H.size hI16 (by (first | omega | (have zz0 := Hid.u hb_cn; omega))) hS9 (by decide)) kV_RX9_67 hK hXS hS hFc hP hD _ (xf_7 hk) rfl rfl ⟨Nat.le_of_ble_eq_true rfl, Nat.le_of_ble_eq_true rfl⟩ ⟨Nat.le_of_ble_eq_true rfl, Nat.le_of_ble_eq_true rfl⟩ rfl hl.1 rfl (Nat.le_of_ble_eq_true rfl) dX9_run_235) hS (fun q _ h => hFc q h) hFc (fun r_2 u t H1 locs ht hvm wh_3 hB1 hz1 hk1 hS => ?_)
          obtain ⟨cn3, In3, Fn3⟩ := u
          obtain ⟨hP1, hD1⟩ := hB1
          rw [ht] at hP1
          have hP : va_P D vwCl (wX cI (D.1 99) zz g ad cn3 In3 Fn3) H1 := hP1
          have hD : va_D A (wX cI (D.1 99) zz g ad cn3 In3 Fn3) := hD1.weaken (fun _ _ _ h => hFc _ h)
          generalize H1 = H at hP hS ⊢
          have vh_3 : (fun r c2 I2 F2 => Fr [] [] [196] cn In F16 c2 I2 F2 ∧ CBX c2 ∧ (r = x9 ∧ SKx k0 F2 ([]))) r_2 cn3 In3 Fn3 := wh_3
          obtain ⟨hfc3, hIn3, h_3⟩ := vh_3
          obtain rfl : cn = cn3 := (funext (fun k => hfc3.1 k List.not_mem_nil)).symm
          obtain rfl : In = In3 := (funext (fun k => hfc3.2.1 k List.not_mem_nil)).symm
          have hf3 : Fr [] [] [196, 197, 305] cn In Fn cn In Fn3 := Fr.mo (Fr.tr hfr16 hfc3) (sbl rfl) (sbl rfl) (sbl rfl)
          replace hIn3 : CBXh cn := hIn3
          have e8_3 : Fn3 197 k0 = 0 := (congrFun (hfc3.2.2 197 (nml rfl)) k0).trans hR8
          obtain rfl : x9 = r_2 := h_3.1.symm
          refine lv_istore (lv' := [(5, .int x9), (4, .int (nI j16)), (0, .ref (ad 5 k0)), (1, .int (nI a0)), (2, .int (nI b0)), (3, .ref (g 7))]) hx hb dX9_run_238 hl (ltb rfl) rfl (fun ls hl => ?_)
          refine lv_aload_n hx hb dX9_run_240 rfl (lvA2 hl) ?_
          refine gf_RX9_58 S hK hP _ (xf_7 hk) (v := .int ((Fn3 197) k0)) rfl dX9_run_241 ?_
          refine lv_if_eq (tgt := 251) hx hb dX9_run_244 rfl (fun c_4 => ?_) (fun c_4 => ?_)
          ·
            have tc_4 : (((Fn3 197) k0).toInt : Int) = 0 := congrArg Int32.toInt c_4
            refine lv_iload hx hb dX9_run_251 (lvA0 hl) ?_
            exact W.iret (v := x9) hx hb hr (fun t ht hW => ⟨⟨x9, (cn, In, Fn3), rfl, ⟨(Fr.mo hf3 (sbl rfl) (sbl rfl) (sbl rfl)), hIn3, (by show x9 = MV o (cut (Fn 7)) a0 b0; first | exact hM9.symm | exact absurd e8_3 (by assumption) | exact absurd (e8_3.symm.trans (by assumption)) (by decide))⟩, by rw [ht]; exact hP, hD⟩, hS.F ht⟩) hS.2.2 dX9_run_253
          ·
            have tc_4 : (((Fn3 197) k0).toInt : Int) ≠ 0 := fun q => c_4 (Int32.toInt_inj.mp q)
            refine lv_iconst (v := 0) hx hb dX9_run_247 kic_0 ?_
            refine lv_goto (tgt := 253) hx hb dX9_run_248 rfl ?_
            exact W.iret (v := 0) hx hb hr (fun t ht hW => ⟨⟨0, (cn, In, Fn3), rfl, ⟨(Fr.mo hf3 (sbl rfl) (sbl rfl) (sbl rfl)), hIn3, (by show 0 = MV o (cut (Fn 7)) a0 b0; first | exact hM9.symm | exact absurd e8_3 (by assumption) | exact absurd (e8_3.symm.trans (by assumption)) (by decide))⟩, by rw [ht]; exact hP, hD⟩, hS.F ht⟩) hS.2.2 dX9_run_253
        ·
          refine lv_aload_n hx hb dX9_run_234 rfl (lvA2 hl) ?_
          have hFc := free_all hD hS hA
          refine va_calli (runV_xa (As := []) (rest := []) S (q_Xpop l D cI cB cZ zz qq vv bt g ad cn In F16 k0 H.size hI16 (by (first | omega | (have zz0 := Hid.u hb_cn; omega)))) kV_RX9_67 hK hXS hS hFc hP hD _ (xf_7 hk) rfl rfl ⟨Nat.le_of_ble_eq_true rfl, Nat.le_of_ble_eq_true rfl⟩ ⟨Nat.le_of_ble_eq_true rfl, Nat.le_of_ble_eq_true rfl⟩ rfl hl.1 rfl (Nat.le_of_ble_eq_true rfl) dX9_run_235) hS (fun q _ h => hFc q h) hFc (fun r_5 u t H1 locs ht hvm wh_6 hB1 hz1 hk1 hS => ?_)
          obtain ⟨cn6, In6, Fn6⟩ := u
          obtain ⟨hP1, hD1⟩ := hB1
          rw [ht] at hP1
          have hP : va_P D vwCl (wX cI (D.1 99) zz g ad cn6 In6 Fn6) H1 := hP1
          have hD : va_D A (wX cI (D.1 99) zz g ad cn6 In6 Fn6) := hD1.weaken (fun _ _ _ h => hFc _ h)
          generalize H1 = H at hP hS ⊢
          have vh_6 : (fun r c2 I2 F2 => Fr [] [] [196] cn In F16 c2 I2 F2 ∧ CBX c2 ∧ (True)) r_5 cn6 In6 Fn6 := wh_6
          obtain ⟨hfc6, hIn6, h_6⟩ := vh_6
          obtain rfl : cn = cn6 := (funext (fun k => hfc6.1 k List.not_mem_nil)).symm
          obtain rfl : In = In6 := (funext (fun k => hfc6.2.1 k List.not_mem_nil)).symm
          have hf6 : Fr [] [] [196, 197, 305] cn In Fn cn In Fn6 := Fr.mo (Fr.tr hfr16 hfc6) (sbl rfl) (sbl rfl) (sbl rfl)
          replace hIn6 : CBXh cn := hIn6
          have e8_6 : Fn6 197 k0 = 1 := (congrFun (hfc6.2.2 197 (nml rfl)) k0).trans hR8
          refine lv_istore (lv' := [(5, .int r_5), (4, .int (nI j16)), (0, .ref (ad 5 k0)), (1, .int (nI a0)), (2, .int (nI b0)), (3, .ref (g 7))]) hx hb dX9_run_238 hl (ltb rfl) rfl (fun ls hl => ?_)
          refine lv_aload_n hx hb dX9_run_240 rfl (lvA2 hl) ?_
          refine gf_RX9_58 S hK hP _ (xf_7 hk) (v := .int ((Fn6 197) k0)) rfl dX9_run_241 ?_
          refine lv_if_eq (tgt := 251) hx hb dX9_run_244 rfl (fun c_7 => ?_) (fun c_7 => ?_)
          ·
            have tc_7 : (((Fn6 197) k0).toInt : Int) = 0 := congrArg Int32.toInt c_7
            refine lv_iload hx hb dX9_run_251 (lvA0 hl) ?_
            exact W.iret (v := r_5) hx hb hr (fun t ht hW => ⟨⟨r_5, (cn, In, Fn6), rfl, ⟨(Fr.mo hf6 (sbl rfl) (sbl rfl) (sbl rfl)), hIn6, (by show r_5 = MV o (cut (Fn 7)) a0 b0; first | exact hM9.symm | exact absurd e8_6 (by assumption) | exact absurd (e8_6.symm.trans (by assumption)) (by decide))⟩, by rw [ht]; exact hP, hD⟩, hS.F ht⟩) hS.2.2 dX9_run_253
          ·
            have tc_7 : (((Fn6 197) k0).toInt : Int) ≠ 0 := fun q => c_7 (Int32.toInt_inj.mp q)
            refine lv_iconst (v := 0) hx hb dX9_run_247 kic_0 ?_
            refine lv_goto (tgt := 253) hx hb dX9_run_248 rfl ?_
            exact W.iret (v := 0) hx hb hr (fun t ht hW => ⟨⟨0, (cn, In, Fn6), rfl, ⟨(Fr.mo hf6 (sbl rfl) (sbl rfl) (sbl rfl)), hIn6, (by show 0 = MV o (cut (Fn 7)) a0 b0; first | exact hM9.symm | exact absurd e8_6 (by assumption) | exact absurd (e8_6.symm.trans (by assumption)) (by decide))⟩, by rw [ht]; exact hP, hD⟩, hS.F ht⟩) hS.2.2 dX9_run_253
      ·
        have tc_1 : ((nI k16).toInt : Int) < (nI b0).toInt := Int32.lt_iff_toInt_lt.mp (Int32.not_le.mp c_1)
        refine lv_aload_n hx hb (oc_42 22 (aq_22 shX9_run_0)) rfl (lvA2 hl) ?_
        refine gf_RX9_58 S hK hP _ (xf_7 hk) (v := .int ((F16 197) k0)) rfl (oc_180 23 (aq_23 shX9_run_0) uw_0_58) ?_
        refine lv_if_ne (tgt := 234) hx hb (oc_154 26 shX9_run_26 sgw_0_208) rfl (fun c_8 => ?_) (fun c_8 => ?_)
        ·
          have tc_8 : (((F16 197) k0).toInt : Int) ≠ 0 := fun q => c_8 (Int32.toInt_inj.mp q)
          obtain ⟨hR8, hM9⟩ := RNI.ref hx16_1 (by first | assumption | exact fun q => absurd (congrArg Int32.toInt q) (by assumption))
          refine lv_aload_n hx hb dX9_run_234 rfl (lvA2 hl) ?_
          have hFc := free_all hD hS hA
          refine va_calli (runV_xa (As := []) (rest := []) S (q_Xpop l D cI cB cZ zz qq vv bt g ad cn In F16 k0 H.size hI16 (by (first | omega | (have zz0 := Hid.u hb_cn; omega)))) kV_RX9_67 hK hXS hS hFc hP hD _ (xf_7 hk) rfl rfl ⟨Nat.le_of_ble_eq_true rfl, Nat.le_of_ble_eq_true rfl⟩ ⟨Nat.le_of_ble_eq_true rfl, Nat.le_of_ble_eq_true rfl⟩ rfl hl.1 rfl (Nat.le_of_ble_eq_true rfl) dX9_run_235) hS (fun q _ h => hFc q h) hFc (fun r_9 u t H1 locs ht hvm wh_10 hB1 hz1 hk1 hS => ?_)
          obtain ⟨cn10, In10, Fn10⟩ := u
          obtain ⟨hP1, hD1⟩ := hB1
          rw [ht] at hP1
          have hP : va_P D vwCl (wX cI (D.1 99) zz g ad cn10 In10 Fn10) H1 := hP1
          have hD : va_D A (wX cI (D.1 99) zz g ad cn10 In10 Fn10) := hD1.weaken (fun _ _ _ h => hFc _ h)
          generalize H1 = H at hP hS ⊢
          have vh_10 : (fun r c2 I2 F2 => Fr [] [] [196] cn In F16 c2 I2 F2 ∧ CBX c2 ∧ (True)) r_9 cn10 In10 Fn10 := wh_10
          obtain ⟨hfc10, hIn10, h_10⟩ := vh_10
          obtain rfl : cn = cn10 := (funext (fun k => hfc10.1 k List.not_mem_nil)).symm
          obtain rfl : In = In10 := (funext (fun k => hfc10.2.1 k List.not_mem_nil)).symm
          have hf10 : Fr [] [] [196, 197, 305] cn In Fn cn In Fn10 := Fr.mo (Fr.tr hfr16 hfc10) (sbl rfl) (sbl rfl) (sbl rfl)
          replace hIn10 : CBXh cn := hIn10
          have e8_10 : Fn10 197 k0 = 1 := (congrFun (hfc10.2.2 197 (nml rfl)) k0).trans hR8
          refine lv_istore (lv' := [(5, .int r_9), (4, .int (nI j16)), (0, .ref (ad 5 k0)), (1, .int (nI a0)), (2, .int (nI b0)), (3, .ref (g 7))]) hx hb dX9_run_238 hl (ltb rfl) rfl (fun ls hl => ?_)
          refine lv_aload_n hx hb dX9_run_240 rfl (lvA2 hl) ?_
          refine gf_RX9_58 S hK hP _ (xf_7 hk) (v := .int ((Fn10 197) k0)) rfl dX9_run_241 ?_
          refine lv_if_eq (tgt := 251) hx hb dX9_run_244 rfl (fun c_11 => ?_) (fun c_11 => ?_)
          ·
            have tc_11 : (((Fn10 197) k0).toInt : Int) = 0 := congrArg Int32.toInt c_11
            refine lv_iload hx hb dX9_run_251 (lvA0 hl) ?_
            exact W.iret (v := r_9) hx hb hr (fun t ht hW => ⟨⟨r_9, (cn, In, Fn10), rfl, ⟨(Fr.mo hf10 (sbl rfl) (sbl rfl) (sbl rfl)), hIn10, (by show r_9 = MV o (cut (Fn 7)) a0 b0; first | exact hM9.symm | exact absurd e8_10 (by assumption) | exact absurd (e8_10.symm.trans (by assumption)) (by decide))⟩, by rw [ht]; exact hP, hD⟩, hS.F ht⟩) hS.2.2 dX9_run_253
          ·
            have tc_11 : (((Fn10 197) k0).toInt : Int) ≠ 0 := fun q => c_11 (Int32.toInt_inj.mp q)
            refine lv_iconst (v := 0) hx hb dX9_run_247 kic_0 ?_
            refine lv_goto (tgt := 253) hx hb dX9_run_248 rfl ?_
            exact W.iret (v := 0) hx hb hr (fun t ht hW => ⟨⟨0, (cn, In, Fn10), rfl, ⟨(Fr.mo hf10 (sbl rfl) (sbl rfl) (sbl rfl)), hIn10, (by show 0 = MV o (cut (Fn 7)) a0 b0; first | exact hM9.symm | exact absurd e8_10 (by assumption) | exact absurd (e8_10.symm.trans (by assumption)) (by decide))⟩, by rw [ht]; exact hP, hD⟩, hS.F ht⟩) hS.2.2 dX9_run_253
        ·
          have tc_8 : (((F16 197) k0).toInt : Int) = 0 := congrArg Int32.toInt c_8
          refine lv_iload hx hb (oc_21 29 (aq_3 shX9_run_26) ub_5) (lvA0 hl) ?_
          refine lv_iload hx hb (oc_21 31 (aq_5 shX9_run_26) ub_4) (lvA1 hl) ?_
          have : (nI j16).toInt = ((j16 : Nat) : Int) := nI_toInt (by (first | omega | (have zz0 := Hid.u hb_cn; omega)))
          refine lv_icmp_ge (tgt := 39) hx hb (oc_162 33 (aq_7 shX9_run_26) sgw_0_6) rfl (fun c_12 => ?_) (fun c_12 => ?_)
          ·
            have tc_12 : ((nI j16).toInt : Int) ≤ (nI k16).toInt := Int32.le_iff_toInt_le.mp c_12
            have hR9 : F16 197 k0 = 0 := by first | assumption | exact Int32.toInt_inj.mp (by assumption)
            obtain ⟨s9, hE9, hS9, hQ9⟩ := RNI.here hx16_1 hR9 (by (first | omega | (have zz0 := Hid.u hb_cn; omega)))
            obtain ⟨hd9, ⟨c9, v9⟩, ho9, hst9⟩ := hst k16 (by (first | omega | (have zz0 := Hid.u hb_cn; omega))) (by (first | omega | (have zz0 := Hid.u hb_cn; omega)))
            have hl9 := hQ9.ln hd9
            have e199 : (F16 199 k0).toInt = ((n0 : Nat) : Int) := by rw [congrFun (hfr16.2.2 199 (nml rfl)) k0]; exact h9
            obtain ⟨hc9, hv9, _⟩ := hsy.2 k16 _ ho9
            have hc9 : c9 ≤ 13 := hc9
            have hv9 : v9 < 1048576 := hv9
            refine lv_aload_n hx hb (oc_42 39 (aq_13 shX9_run_26)) rfl (lvA2 hl) ?_
            refine gf_RX9_17 S hK hP _ (xf_7 hk) (v := .ref (ad 60 k0)) rfl (oc_180 40 (aq_14 shX9_run_26) uw_0_17) ?_
            refine lv_iload hx hb (oc_21 43 (aq_17 shX9_run_26) ub_5) (lvA0 hl) ?_
            refine vp_callSi (runS_r (As := [.ref (ad 60 k0), .int (nI k16)]) (rest := []) S (q_l_at l D cI cB cZ (ad 60 k0) (((F16 199) k0).toInt.toNat) (gA (F16 301) 200 k0) (nI k16) (i32n _)) kS_RX9_37 hK hP _ (one_is (xf_8 hk)) ⟨Nat.le_of_ble_eq_true rfl, Nat.le_of_ble_eq_true rfl⟩ ⟨Nat.le_of_ble_eq_true rfl, Nat.le_of_ble_eq_true rfl⟩ rfl hl.1 rfl (Nat.le_of_ble_eq_true rfl) (oc_184 45 (aq_19 shX9_run_26) uw_0_37)) (fun r_13 h_14 => ?_)
            obtain rfl : r_13 = (nI (c9 * 1048576 + v9)) := h_14.trans (hsy.at (hfr16.2.2 301 (nml rfl)) ho9 (by (first | omega | (have zz0 := Hid.u hb_cn; omega))) (by (first | omega | (have zz0 := Hid.u hb_cn; omega))))
            refine lv_istore (lv' := [(6, .int (nI (c9 * 1048576 + v9))), (5, .int (nI k16)), (4, .int (nI j16)), (0, .ref (ad 5 k0)), (1, .int (nI a0)), (2, .int (nI b0)), (3, .ref (g 7))]) hx hb (oc_54 48 (aq_22 shX9_run_26) ub_6) hl (ltb rfl) rfl (fun ls hl => ?_)
            refine lv_iload hx hb (oc_21 50 shX9_run_50 ub_6) (lvA0 hl) ?_
            refine lv_ldc (v := 1048575) hx hb hown (S.2.2.2.2 _ (wk4_1 5 rfl rfl)) (oc_18 52 (aq_2 shX9_run_50) ub_62) ?_
            refine lv_iand hx hb (oc_126 54 (aq_4 shX9_run_50)) ?_
            refine lv_topi (fun y_15 ey_15 => ?_)
            obtain rfl : y_15 = (nI v9) := ey_15.trans (stp_lo hc9 hv9)
            refine lv_istore (lv' := [(7, .int (nI v9)), (6, .int (nI (c9 * 1048576 + v9))), (5, .int (nI k16)), (4, .int (nI j16)), (0, .ref (ad 5 k0)), (1, .int (nI a0)), (2, .int (nI b0)), (3, .ref (g 7))]) hx hb (oc_54 55 (aq_5 shX9_run_50) ub_7) hl (ltb rfl) rfl (fun ls hl => ?_)
            refine lv_iload hx hb (oc_21 57 (aq_7 shX9_run_50) ub_6) (lvA1 hl) ?_
            refine lv_bipush (v := 20) hx hb (oc_16 59 (aq_9 shX9_run_50) sgb_20) kbc_20 ?_
            refine lv_ishr hx hb (oc_122 61 (aq_11 shX9_run_50)) ?_
            refine lv_topi (fun y_16 ey_16 => ?_)
            obtain rfl : y_16 = (nI c9) := ey_16.trans (stp_hi hc9 hv9)
            rcases hst9.cs with ⟨rfl | ⟨rfl, hv11⟩, hl8, ht9⟩ | ⟨rfl, u9, ht8, ht9⟩ | ⟨rfl | rfl, hlt9, hle9, u9, ht8, ht9, ht7⟩ | ⟨hg1, hg2, xa, ya, wa, u9, ht8, ht9, ht7⟩
            ·
              have hl7 : s9.length < 32 := by (first | omega | (have zz0 := Hid.u hb_cn; omega))
              refine lv_tableIn (tgt := 128) (off := 66) hx hb dX9_run_62 (by decide) (by decide) rfl (by decide) ?_
              refine lv_aload_n hx hb (oc_42 128 shX9_run_128) rfl (lvA4 hl) ?_
              refine lv_iload hx hb (oc_21 129 (aq_1 shX9_run_128) ub_7) (lvA0 hl) ?_
              have hFc := free_all hD hS hA
              refine va_callv (runV_xa (As := [.int (nI v9)]) (rest := []) S (q_Wpush l D cI cB cZ zz qq vv bt g ad cn In F16 k0 (nI v9) s9 H.size hI16 (by (first | omega | (have zz0 := Hid.u hb_cn; omega))) hS9 (by (first | omega | (have zz0 := Hid.u hb_cn; omega)))) kV_RX9_63 hK hXS hS hFc hP hD _ (xf_7 hk) rfl rfl ⟨Nat.le_of_ble_eq_true rfl, Nat.le_of_ble_eq_true rfl⟩ ⟨Nat.le_of_ble_eq_true rfl, Nat.le_of_ble_eq_true rfl⟩ rfl hl.1 rfl (Nat.le_of_ble_eq_true rfl) (oc_182 131 (aq_3 shX9_run_128) uw_0_63)) hS (fun q _ h => hFc q h) hFc (fun u t H1 locs ht hvm wh_18 hB1 hz1 hk1 hS => ?_)
              obtain ⟨cn18, In18, Fn18⟩ := u
              obtain ⟨hP1, hD1⟩ := hB1
              rw [ht] at hP1
              have hP : va_P D vwCl (wX cI (D.1 99) zz g ad cn18 In18 Fn18) H1 := hP1
              have hD : va_D A (wX cI (D.1 99) zz g ad cn18 In18 Fn18) := hD1.weaken (fun _ _ _ h => hFc _ h)
              generalize H1 = H at hP hS ⊢
              have vh_18 : (fun c2 I2 F2 => Fr [] [] [196, 305] cn In F16 c2 I2 F2 ∧ CBX c2 ∧ (SKx k0 F2 ((nI v9) :: s9))) cn18 In18 Fn18 := wh_18
              obtain ⟨hfc18, hIn18, h_18⟩ := vh_18
              obtain rfl : cn = cn18 := (funext (fun k => hfc18.1 k List.not_mem_nil)).symm
              obtain rfl : In = In18 := (funext (fun k => hfc18.2.1 k List.not_mem_nil)).symm
              have hf18 : Fr [] [] [196, 197, 305] cn In Fn cn In Fn18 := Fr.mo (Fr.tr hfr16 hfc18) (sbl rfl) (sbl rfl) (sbl rfl)
              replace hIn18 : CBXh cn := hIn18
              have e197_18 : Fn18 197 k0 = 0 := (congrFun (hfc18.2.2 197 (nml rfl)) k0).trans hR9
              refine lv_goto (tgt := 228) hx hb (oc_167 134 (aq_6 shX9_run_128) sgw_0_94) rfl ?_
              refine lv_iinc (v := (nI (k16 + 1))) (lv' := [(5, .int (nI (k16 + 1))), (7, .int (nI v9)), (6, .int (nI (1 * 1048576 + v9))), (4, .int (nI j16)), (0, .ref (ad 5 k0)), (1, .int (nI a0)), (2, .int (nI b0)), (3, .ref (g 7))]) hx hb dX9_run_228 hl (k := 2) rfl (nI_1 _) (ltb rfl) rfl (fun ls hl => ?_)
              refine lv_goto (tgt := 16) hx hb dX9_run_231 rfl ?_
              exact ih16 j16 (k16 + 1) Fn18 _ _ (by (first | omega | (have zz0 := Hid.u hb_cn; omega))) ⟨(Fr.mo hf18 (sbl rfl) (sbl rfl) (sbl rfl)), hIn18, ⟨by (first | omega | (have zz0 := Hid.u hb_cn; omega)), by (first | omega | (have zz0 := Hid.u hb_cn; omega)), by (first | omega | (have zz0 := Hid.u hb_cn; omega))⟩, (RNI.mk (K := k16 + 1) e197_18 ⟨by (first | omega | (have zz0 := Hid.u hb_cn; omega)), by (first | omega | (have zz0 := Hid.u hb_cn; omega)), Or.inl rfl⟩ (RN1 hE9 hQ9 (by (first | omega | (have zz0 := Hid.u hb_cn; omega))) ho9 ht9) h_18)⟩ hP hD hS ls (lv_sub hl [0, 3, 4, 5, 6, 7] rfl)
            ·
              have hl7 : s9.length < 32 := by (first | omega | (have zz0 := Hid.u hb_cn; omega))
              refine lv_tableIn (tgt := 137) (off := 75) hx hb dX9_run_62 (by decide) (by decide) rfl (by decide) ?_
              refine lv_aload_n hx hb (oc_42 137 (aq_9 shX9_run_128)) rfl (lvA4 hl) ?_
              refine lv_aload_n hx hb (oc_45 138 (aq_10 shX9_run_128)) rfl (lvA7 hl) ?_
              refine lv_iload hx hb (oc_21 139 (aq_11 shX9_run_128) ub_7) (lvA0 hl) ?_
              refine vp_callSi (runS_r (As := [.ref (g 7), .int (nI v9)]) (rest := [.ref (ad 5 k0)]) S (q_l_at l D cI cB cZ (g 7) 11 (F16 7) (nI v9) (by (first | omega | (have zz0 := Hid.u hb_cn; omega)))) kS_RX9_37 hK hP [5] (one_is xo_5) ⟨Nat.le_of_ble_eq_true rfl, Nat.le_of_ble_eq_true rfl⟩ ⟨Nat.le_of_ble_eq_true rfl, Nat.le_of_ble_eq_true rfl⟩ rfl hl.1 rfl (Nat.le_of_ble_eq_true rfl) (oc_184 141 (aq_13 shX9_run_128) uw_0_37)) (fun r_19 h_20 => ?_)
              obtain rfl : r_19 = (Fn 7 v9) := h_20.trans (atM_j (hfr16.2.2 7 (nml rfl)) hv11 (by decide))
              have hFc := free_all hD hS hA
              refine va_callv (runV_xa (As := [.int (Fn 7 v9)]) (rest := []) S (q_Wpush l D cI cB cZ zz qq vv bt g ad cn In F16 k0 (Fn 7 v9) s9 H.size hI16 (by (first | omega | (have zz0 := Hid.u hb_cn; omega))) hS9 (by (first | omega | (have zz0 := Hid.u hb_cn; omega)))) kV_RX9_63 hK hXS hS hFc hP hD _ (xf_7 hk) rfl rfl ⟨Nat.le_of_ble_eq_true rfl, Nat.le_of_ble_eq_true rfl⟩ ⟨Nat.le_of_ble_eq_true rfl, Nat.le_of_ble_eq_true rfl⟩ rfl hl.1 rfl (Nat.le_of_ble_eq_true rfl) (oc_182 144 (aq_16 shX9_run_128) uw_0_63)) hS (fun q _ h => hFc q h) hFc (fun u t H1 locs ht hvm wh_22 hB1 hz1 hk1 hS => ?_)
              obtain ⟨cn22, In22, Fn22⟩ := u
              obtain ⟨hP1, hD1⟩ := hB1
              rw [ht] at hP1
              have hP : va_P D vwCl (wX cI (D.1 99) zz g ad cn22 In22 Fn22) H1 := hP1
              have hD : va_D A (wX cI (D.1 99) zz g ad cn22 In22 Fn22) := hD1.weaken (fun _ _ _ h => hFc _ h)
              generalize H1 = H at hP hS ⊢
              have vh_22 : (fun c2 I2 F2 => Fr [] [] [196, 305] cn In F16 c2 I2 F2 ∧ CBX c2 ∧ (SKx k0 F2 ((Fn 7 v9) :: s9))) cn22 In22 Fn22 := wh_22
              obtain ⟨hfc22, hIn22, h_22⟩ := vh_22
              obtain rfl : cn = cn22 := (funext (fun k => hfc22.1 k List.not_mem_nil)).symm
              obtain rfl : In = In22 := (funext (fun k => hfc22.2.1 k List.not_mem_nil)).symm
              have hf22 : Fr [] [] [196, 197, 305] cn In Fn cn In Fn22 := Fr.mo (Fr.tr hfr16 hfc22) (sbl rfl) (sbl rfl) (sbl rfl)
              replace hIn22 : CBXh cn := hIn22
              have e197_22 : Fn22 197 k0 = 0 := (congrFun (hfc22.2.2 197 (nml rfl)) k0).trans hR9
              refine lv_goto (tgt := 228) hx hb (oc_167 147 (aq_19 shX9_run_128) sgw_0_81) rfl ?_
              refine lv_iinc (v := (nI (k16 + 1))) (lv' := [(5, .int (nI (k16 + 1))), (7, .int (nI v9)), (6, .int (nI (2 * 1048576 + v9))), (4, .int (nI j16)), (0, .ref (ad 5 k0)), (1, .int (nI a0)), (2, .int (nI b0)), (3, .ref (g 7))]) hx hb dX9_run_228 hl (k := 2) rfl (nI_1 _) (ltb rfl) rfl (fun ls hl => ?_)
              refine lv_goto (tgt := 16) hx hb dX9_run_231 rfl ?_
              exact ih16 j16 (k16 + 1) Fn22 _ _ (by (first | omega | (have zz0 := Hid.u hb_cn; omega))) ⟨(Fr.mo hf22 (sbl rfl) (sbl rfl) (sbl rfl)), hIn22, ⟨by (first | omega | (have zz0 := Hid.u hb_cn; omega)), by (first | omega | (have zz0 := Hid.u hb_cn; omega)), by (first | omega | (have zz0 := Hid.u hb_cn; omega))⟩, (RNI.mk (K := k16 + 1) e197_22 ⟨by (first | omega | (have zz0 := Hid.u hb_cn; omega)), by (first | omega | (have zz0 := Hid.u hb_cn; omega)), Or.inl rfl⟩ (RN2 hE9 hQ9 (by (first | omega | (have zz0 := Hid.u hb_cn; omega))) ho9 hv11 ht9) h_22)⟩ hP hD hS ls (lv_sub hl [0, 3, 4, 5, 6, 7] rfl)
            ·
              obtain ⟨x9, s8, rfl, hx9, hk8⟩ := KS.c (t := true) (ty := u9) (by rw [← ht8]; exact hQ9)
              have hl7 : s8.length < 32 := by have e6 : (x9 :: s8).length = s8.length + 1 := rfl; (first | omega | (have zz0 := Hid.u hb_cn; omega))
              refine lv_tableIn (tgt := 150) (off := 88) hx hb dX9_run_62 (by decide) (by decide) rfl (by decide) ?_
              refine lv_aload_n hx hb (oc_42 150 (aq_22 shX9_run_128)) rfl (lvA4 hl) ?_
              refine lv_iconst (v := 1) hx hb (oc_4 151 (aq_23 shX9_run_128)) kic_1 ?_
              refine lv_aload_n hx hb (oc_42 152 shX9_run_152) rfl (lvA4 hl) ?_
              have hFc := free_all hD hS hA
              refine va_calli (runV_xa (As := []) (rest := [.int 1, .ref (ad 5 k0)]) S (q_Wpop l D cI cB cZ zz qq vv bt g ad cn In F16 k0 x9 s8 H.size hI16 (by (first | omega | (have zz0 := Hid.u hb_cn; omega))) hS9 (by (first | omega | (have zz0 := Hid.u hb_cn; omega)))) kV_RX9_67 hK hXS hS hFc hP hD _ (xf_7 hk) rfl rfl ⟨Nat.le_of_ble_eq_true rfl, Nat.le_of_ble_eq_true rfl⟩ ⟨Nat.le_of_ble_eq_true rfl, Nat.le_of_ble_eq_true rfl⟩ rfl hl.1 rfl (Nat.le_of_ble_eq_true rfl) (oc_182 153 (aq_1 shX9_run_152) uw_0_67)) hS (fun q _ h => hFc q h) hFc (fun r_23 u t H1 locs ht hvm wh_24 hB1 hz1 hk1 hS => ?_)
              obtain ⟨cn24, In24, Fn24⟩ := u
              obtain ⟨hP1, hD1⟩ := hB1
              rw [ht] at hP1
              have hP : va_P D vwCl (wX cI (D.1 99) zz g ad cn24 In24 Fn24) H1 := hP1
              have hD : va_D A (wX cI (D.1 99) zz g ad cn24 In24 Fn24) := hD1.weaken (fun _ _ _ h => hFc _ h)
              generalize H1 = H at hP hS ⊢
              have vh_24 : (fun r c2 I2 F2 => Fr [] [] [196] cn In F16 c2 I2 F2 ∧ CBX c2 ∧ (r = x9 ∧ SKx k0 F2 s8)) r_23 cn24 In24 Fn24 := wh_24
              obtain ⟨hfc24, hIn24, h_24⟩ := vh_24
              obtain rfl : cn = cn24 := (funext (fun k => hfc24.1 k List.not_mem_nil)).symm
              obtain rfl : In = In24 := (funext (fun k => hfc24.2.1 k List.not_mem_nil)).symm
              have hf24 : Fr [] [] [196, 197, 305] cn In Fn cn In Fn24 := Fr.mo (Fr.tr hfr16 hfc24) (sbl rfl) (sbl rfl) (sbl rfl)
              replace hIn24 : CBXh cn := hIn24
              obtain ⟨er9, h_24⟩ := h_24
              obtain rfl : x9 = r_23 := er9.symm
              have e197_24 : Fn24 197 k0 = 0 := (congrFun (hfc24.2.2 197 (nml rfl)) k0).trans hR9
              refine lv_isub hx hb (oc_100 156 (aq_4 shX9_run_152)) ?_
              have hFc := free_all hD hS hA
              refine va_callv (runV_xa (As := [.int (1 - x9)]) (rest := []) S (q_Wpush l D cI cB cZ zz qq vv bt g ad cn In Fn24 k0 (1 - x9) s8 H.size hIn24 (by (first | omega | (have zz0 := Hid.u hb_cn; omega))) h_24 (by (first | omega | (have zz0 := Hid.u hb_cn; omega)))) kV_RX9_63 hK hXS hS hFc hP hD _ (xf_7 hk) rfl rfl ⟨Nat.le_of_ble_eq_true rfl, Nat.le_of_ble_eq_true rfl⟩ ⟨Nat.le_of_ble_eq_true rfl, Nat.le_of_ble_eq_true rfl⟩ rfl hl.1 rfl (Nat.le_of_ble_eq_true rfl) (oc_182 157 (aq_5 shX9_run_152) uw_0_63)) hS (fun q _ h => hFc q h) hFc (fun u t H1 locs ht hvm wh_26 hB1 hz1 hk1 hS => ?_)
              obtain ⟨cn26, In26, Fn26⟩ := u
              obtain ⟨hP1, hD1⟩ := hB1
              rw [ht] at hP1
              have hP : va_P D vwCl (wX cI (D.1 99) zz g ad cn26 In26 Fn26) H1 := hP1
              have hD : va_D A (wX cI (D.1 99) zz g ad cn26 In26 Fn26) := hD1.weaken (fun _ _ _ h => hFc _ h)
              generalize H1 = H at hP hS ⊢
              have vh_26 : (fun c2 I2 F2 => Fr [] [] [196, 305] cn In Fn24 c2 I2 F2 ∧ CBX c2 ∧ (SKx k0 F2 ((1 - x9) :: s8))) cn26 In26 Fn26 := wh_26
              obtain ⟨hfc26, hIn26, h_26⟩ := vh_26
              obtain rfl : cn = cn26 := (funext (fun k => hfc26.1 k List.not_mem_nil)).symm
              obtain rfl : In = In26 := (funext (fun k => hfc26.2.1 k List.not_mem_nil)).symm
              have hf26 : Fr [] [] [196, 197, 305] cn In Fn cn In Fn26 := Fr.mo (Fr.tr hf24 hfc26) (sbl rfl) (sbl rfl) (sbl rfl)
              replace hIn26 : CBXh cn := hIn26
              have e197_26 : Fn26 197 k0 = 0 := (congrFun (hfc26.2.2 197 (nml rfl)) k0).trans e197_24
              refine lv_goto (tgt := 228) hx hb (oc_167 160 (aq_8 shX9_run_152) sgw_0_68) rfl ?_
              refine lv_iinc (v := (nI (k16 + 1))) (lv' := [(5, .int (nI (k16 + 1))), (7, .int (nI v9)), (6, .int (nI (11 * 1048576 + v9))), (4, .int (nI j16)), (0, .ref (ad 5 k0)), (1, .int (nI a0)), (2, .int (nI b0)), (3, .ref (g 7))]) hx hb dX9_run_228 hl (k := 2) rfl (nI_1 _) (ltb rfl) rfl (fun ls hl => ?_)
              refine lv_goto (tgt := 16) hx hb dX9_run_231 rfl ?_
              exact ih16 j16 (k16 + 1) Fn26 _ _ (by (first | omega | (have zz0 := Hid.u hb_cn; omega))) ⟨(Fr.mo hf26 (sbl rfl) (sbl rfl) (sbl rfl)), hIn26, ⟨by (first | omega | (have zz0 := Hid.u hb_cn; omega)), by (first | omega | (have zz0 := Hid.u hb_cn; omega)), by (first | omega | (have zz0 := Hid.u hb_cn; omega))⟩, (RNI.mk (K := k16 + 1) e197_26 ⟨by (first | omega | (have zz0 := Hid.u hb_cn; omega)), by (first | omega | (have zz0 := Hid.u hb_cn; omega)), Or.inl rfl⟩ (RN11 hE9 hQ9 (by (first | omega | (have zz0 := Hid.u hb_cn; omega))) ho9 ht8 ht9) h_26)⟩ hP hD hS ls (lv_sub hl [0, 3, 4, 5, 6, 7] rfl)
            ·
              obtain ⟨x9, s8, rfl, hx9, hk8⟩ := KS.c (t := true) (ty := u9) (by rw [← ht8]; exact hQ9)
              have hl7 : s8.length < 32 := by have e6 : (x9 :: s8).length = s8.length + 1 := rfl; (first | omega | (have zz0 := Hid.u hb_cn; omega))
              refine lv_tableIn (tgt := 163) (off := 101) hx hb dX9_run_62 (by decide) (by decide) rfl (by decide) ?_
              refine lv_aload_n hx hb (oc_42 163 (aq_11 shX9_run_152)) rfl (lvA4 hl) ?_
              refine lv_iconst (v := 0) hx hb (oc_3 164 (aq_12 shX9_run_152)) kic_0 ?_
              have hFc := free_all hD hS hA
              refine va_calli (runV_xa (As := [.int 0]) (rest := []) S (q_Wdecided l D cI cB cZ zz qq vv bt g ad cn In F16 k0 0 x9 s8 H.size hI16 (by (first | omega | (have zz0 := Hid.u hb_cn; omega))) hS9 (by (first | omega | (have zz0 := Hid.u hb_cn; omega)))) kV_RX9_71 hK hXS hS hFc hP hD _ (xf_7 hk) rfl rfl ⟨Nat.le_of_ble_eq_true rfl, Nat.le_of_ble_eq_true rfl⟩ ⟨Nat.le_of_ble_eq_true rfl, Nat.le_of_ble_eq_true rfl⟩ rfl hl.1 rfl (Nat.le_of_ble_eq_true rfl) (oc_182 165 (aq_13 shX9_run_152) uw_0_71)) hS (fun q _ h => hFc q h) hFc (fun r_27 u t H1 locs ht hvm wh_28 hB1 hz1 hk1 hS => ?_)
              obtain ⟨cn28, In28, Fn28⟩ := u
              obtain ⟨hP1, hD1⟩ := hB1
              rw [ht] at hP1
              have hP : va_P D vwCl (wX cI (D.1 99) zz g ad cn28 In28 Fn28) H1 := hP1
              have hD : va_D A (wX cI (D.1 99) zz g ad cn28 In28 Fn28) := hD1.weaken (fun _ _ _ h => hFc _ h)
              generalize H1 = H at hP hS ⊢
              have vh_28 : (fun r c2 I2 F2 => Fr [] [] [196, 305] cn In F16 c2 I2 F2 ∧ CBX c2 ∧ ((x9 = 0 ∧ r = 1 ∧ SKx k0 F2 (x9 :: s8)) ∨ (¬ x9 = 0 ∧ r = 0 ∧ SKx k0 F2 s8))) r_27 cn28 In28 Fn28 := wh_28
              obtain ⟨hfc28, hIn28, h_28⟩ := vh_28
              obtain rfl : cn = cn28 := (funext (fun k => hfc28.1 k List.not_mem_nil)).symm
              obtain rfl : In = In28 := (funext (fun k => hfc28.2.1 k List.not_mem_nil)).symm
              have hf28 : Fr [] [] [196, 197, 305] cn In Fn cn In Fn28 := Fr.mo (Fr.tr hfr16 hfc28) (sbl rfl) (sbl rfl) (sbl rfl)
              replace hIn28 : CBXh cn := hIn28
              have e197_28 : Fn28 197 k0 = 0 := (congrFun (hfc28.2.2 197 (nml rfl)) k0).trans hR9
              rcases h_28 with ⟨hx8, rfl, h_28⟩ | ⟨hx8, rfl, h_28⟩
              ·
                refine lv_if_eq (tgt := 176) hx hb dX9_run_168 rfl (fun h => absurd h cq_eq_1_0) (fun _ => ?_)
                refine lv_iload hx hb (oc_21 171 (aq_19 shX9_run_152) ub_7) (lvA0 hl) ?_
                refine lv_goto (tgt := 178) hx hb (oc_167 173 (aq_21 shX9_run_152) sgw_0_5) rfl ?_
                refine lv_istore (lv' := [(4, .int (nI v9)), (7, .int (nI v9)), (6, .int (nI (12 * 1048576 + v9))), (5, .int (nI k16)), (0, .ref (ad 5 k0)), (1, .int (nI a0)), (2, .int (nI b0)), (3, .ref (g 7))]) hx hb dX9_run_178 hl (ltb rfl) rfl (fun ls hl => ?_)
                refine lv_goto (tgt := 228) hx hb dX9_run_180 rfl ?_
                refine lv_iinc (v := (nI (k16 + 1))) (lv' := [(5, .int (nI (k16 + 1))), (4, .int (nI v9)), (7, .int (nI v9)), (6, .int (nI (12 * 1048576 + v9))), (0, .ref (ad 5 k0)), (1, .int (nI a0)), (2, .int (nI b0)), (3, .ref (g 7))]) hx hb dX9_run_228 hl (k := 3) rfl (nI_1 _) (ltb rfl) rfl (fun ls hl => ?_)
                refine lv_goto (tgt := 16) hx hb dX9_run_231 rfl ?_
                exact ih16 v9 (k16 + 1) Fn28 _ _ (by (first | omega | (have zz0 := Hid.u hb_cn; omega))) ⟨(Fr.mo hf28 (sbl rfl) (sbl rfl) (sbl rfl)), hIn28, ⟨by (first | omega | (have zz0 := Hid.u hb_cn; omega)), by (first | omega | (have zz0 := Hid.u hb_cn; omega)), by (first | omega | (have zz0 := Hid.u hb_cn; omega))⟩, (RNI.mk (K := v9) e197_28 ⟨by (first | omega | (have zz0 := Hid.u hb_cn; omega)), by (first | omega | (have zz0 := Hid.u hb_cn; omega)), Or.inr rfl⟩ (RNj (Or.inl ⟨rfl, hx8⟩) hE9 hQ9 (by (first | omega | (have zz0 := Hid.u hb_cn; omega))) ho9 hlt9 ht8 ht7) h_28)⟩ hP hD hS ls (lv_sub hl [0, 1, 4, 5, 6, 7] rfl)
              ·
                refine lv_if_eq (tgt := 176) hx hb dX9_run_168 rfl (fun _ => ?_) (fun h => absurd h cq_eq_0_0)
                refine lv_iload hx hb (oc_21 176 shX9_run_176 ub_4) (lvA3 hl) ?_
                refine lv_istore (lv' := [(4, .int (nI j16)), (7, .int (nI v9)), (6, .int (nI (12 * 1048576 + v9))), (5, .int (nI k16)), (0, .ref (ad 5 k0)), (1, .int (nI a0)), (2, .int (nI b0)), (3, .ref (g 7))]) hx hb dX9_run_178 hl (ltb rfl) rfl (fun ls hl => ?_)
                refine lv_goto (tgt := 228) hx hb dX9_run_180 rfl ?_
                refine lv_iinc (v := (nI (k16 + 1))) (lv' := [(5, .int (nI (k16 + 1))), (4, .int (nI j16)), (7, .int (nI v9)), (6, .int (nI (12 * 1048576 + v9))), (0, .ref (ad 5 k0)), (1, .int (nI a0)), (2, .int (nI b0)), (3, .ref (g 7))]) hx hb dX9_run_228 hl (k := 3) rfl (nI_1 _) (ltb rfl) rfl (fun ls hl => ?_)
                refine lv_goto (tgt := 16) hx hb dX9_run_231 rfl ?_
                exact ih16 j16 (k16 + 1) Fn28 _ _ (by (first | omega | (have zz0 := Hid.u hb_cn; omega))) ⟨(Fr.mo hf28 (sbl rfl) (sbl rfl) (sbl rfl)), hIn28, ⟨by (first | omega | (have zz0 := Hid.u hb_cn; omega)), by (first | omega | (have zz0 := Hid.u hb_cn; omega)), by (first | omega | (have zz0 := Hid.u hb_cn; omega))⟩, (RNI.mk (K := k16 + 1) e197_28 ⟨by (first | omega | (have zz0 := Hid.u hb_cn; omega)), by (first | omega | (have zz0 := Hid.u hb_cn; omega)), Or.inl rfl⟩ (RNn (Or.inl ⟨rfl, hx8⟩) hE9 hQ9 (by (first | omega | (have zz0 := Hid.u hb_cn; omega))) ho9 ht8 ht9) h_28)⟩ hP hD hS ls (lv_sub hl [0, 1, 4, 5, 6, 7] rfl)
            ·
              obtain ⟨x9, s8, rfl, hx9, hk8⟩ := KS.c (t := true) (ty := u9) (by rw [← ht8]; exact hQ9)
              have hl7 : s8.length < 32 := by have e6 : (x9 :: s8).length = s8.length + 1 := rfl; (first | omega | (have zz0 := Hid.u hb_cn; omega))
              refine lv_tableIn (tgt := 183) (off := 121) hx hb dX9_run_62 (by decide) (by decide) rfl (by decide) ?_
              refine lv_aload_n hx hb (oc_42 183 (aq_7 shX9_run_176)) rfl (lvA4 hl) ?_
              refine lv_iconst (v := 1) hx hb (oc_4 184 (aq_8 shX9_run_176)) kic_1 ?_
              have hFc := free_all hD hS hA
              refine va_calli (runV_xa (As := [.int 1]) (rest := []) S (q_Wdecided l D cI cB cZ zz qq vv bt g ad cn In F16 k0 1 x9 s8 H.size hI16 (by (first | omega | (have zz0 := Hid.u hb_cn; omega))) hS9 (by (first | omega | (have zz0 := Hid.u hb_cn; omega)))) kV_RX9_71 hK hXS hS hFc hP hD _ (xf_7 hk) rfl rfl ⟨Nat.le_of_ble_eq_true rfl, Nat.le_of_ble_eq_true rfl⟩ ⟨Nat.le_of_ble_eq_true rfl, Nat.le_of_ble_eq_true rfl⟩ rfl hl.1 rfl (Nat.le_of_ble_eq_true rfl) (oc_182 185 (aq_9 shX9_run_176) uw_0_71)) hS (fun q _ h => hFc q h) hFc (fun r_29 u t H1 locs ht hvm wh_30 hB1 hz1 hk1 hS => ?_)
              obtain ⟨cn30, In30, Fn30⟩ := u
              obtain ⟨hP1, hD1⟩ := hB1
              rw [ht] at hP1
              have hP : va_P D vwCl (wX cI (D.1 99) zz g ad cn30 In30 Fn30) H1 := hP1
              have hD : va_D A (wX cI (D.1 99) zz g ad cn30 In30 Fn30) := hD1.weaken (fun _ _ _ h => hFc _ h)
              generalize H1 = H at hP hS ⊢
              have vh_30 : (fun r c2 I2 F2 => Fr [] [] [196, 305] cn In F16 c2 I2 F2 ∧ CBX c2 ∧ ((x9 = 1 ∧ r = 1 ∧ SKx k0 F2 (x9 :: s8)) ∨ (¬ x9 = 1 ∧ r = 0 ∧ SKx k0 F2 s8))) r_29 cn30 In30 Fn30 := wh_30
              obtain ⟨hfc30, hIn30, h_30⟩ := vh_30
              obtain rfl : cn = cn30 := (funext (fun k => hfc30.1 k List.not_mem_nil)).symm
              obtain rfl : In = In30 := (funext (fun k => hfc30.2.1 k List.not_mem_nil)).symm
              have hf30 : Fr [] [] [196, 197, 305] cn In Fn cn In Fn30 := Fr.mo (Fr.tr hfr16 hfc30) (sbl rfl) (sbl rfl) (sbl rfl)
              replace hIn30 : CBXh cn := hIn30
              have e197_30 : Fn30 197 k0 = 0 := (congrFun (hfc30.2.2 197 (nml rfl)) k0).trans hR9
              rcases h_30 with ⟨hx8, rfl, h_30⟩ | ⟨hx8, rfl, h_30⟩
              ·
                refine lv_if_eq (tgt := 196) hx hb dX9_run_188 rfl (fun h => absurd h cq_eq_1_0) (fun _ => ?_)
                refine lv_iload hx hb (oc_21 191 (aq_15 shX9_run_176) ub_7) (lvA0 hl) ?_
                refine lv_goto (tgt := 198) hx hb (oc_167 193 (aq_17 shX9_run_176) sgw_0_5) rfl ?_
                refine lv_istore (lv' := [(4, .int (nI v9)), (7, .int (nI v9)), (6, .int (nI (13 * 1048576 + v9))), (5, .int (nI k16)), (0, .ref (ad 5 k0)), (1, .int (nI a0)), (2, .int (nI b0)), (3, .ref (g 7))]) hx hb dX9_run_198 hl (ltb rfl) rfl (fun ls hl => ?_)
                refine lv_goto (tgt := 228) hx hb dX9_run_200 rfl ?_
                refine lv_iinc (v := (nI (k16 + 1))) (lv' := [(5, .int (nI (k16 + 1))), (4, .int (nI v9)), (7, .int (nI v9)), (6, .int (nI (13 * 1048576 + v9))), (0, .ref (ad 5 k0)), (1, .int (nI a0)), (2, .int (nI b0)), (3, .ref (g 7))]) hx hb dX9_run_228 hl (k := 3) rfl (nI_1 _) (ltb rfl) rfl (fun ls hl => ?_)
                refine lv_goto (tgt := 16) hx hb dX9_run_231 rfl ?_
                exact ih16 v9 (k16 + 1) Fn30 _ _ (by (first | omega | (have zz0 := Hid.u hb_cn; omega))) ⟨(Fr.mo hf30 (sbl rfl) (sbl rfl) (sbl rfl)), hIn30, ⟨by (first | omega | (have zz0 := Hid.u hb_cn; omega)), by (first | omega | (have zz0 := Hid.u hb_cn; omega)), by (first | omega | (have zz0 := Hid.u hb_cn; omega))⟩, (RNI.mk (K := v9) e197_30 ⟨by (first | omega | (have zz0 := Hid.u hb_cn; omega)), by (first | omega | (have zz0 := Hid.u hb_cn; omega)), Or.inr rfl⟩ (RNj (Or.inr ⟨rfl, hx8⟩) hE9 hQ9 (by (first | omega | (have zz0 := Hid.u hb_cn; omega))) ho9 hlt9 ht8 ht7) h_30)⟩ hP hD hS ls (lv_sub hl [0, 1, 4, 5, 6, 7] rfl)
              ·
                refine lv_if_eq (tgt := 196) hx hb dX9_run_188 rfl (fun _ => ?_) (fun h => absurd h cq_eq_0_0)
                refine lv_iload hx hb (oc_21 196 (aq_20 shX9_run_176) ub_4) (lvA3 hl) ?_
                refine lv_istore (lv' := [(4, .int (nI j16)), (7, .int (nI v9)), (6, .int (nI (13 * 1048576 + v9))), (5, .int (nI k16)), (0, .ref (ad 5 k0)), (1, .int (nI a0)), (2, .int (nI b0)), (3, .ref (g 7))]) hx hb dX9_run_198 hl (ltb rfl) rfl (fun ls hl => ?_)
                refine lv_goto (tgt := 228) hx hb dX9_run_200 rfl ?_
                refine lv_iinc (v := (nI (k16 + 1))) (lv' := [(5, .int (nI (k16 + 1))), (4, .int (nI j16)), (7, .int (nI v9)), (6, .int (nI (13 * 1048576 + v9))), (0, .ref (ad 5 k0)), (1, .int (nI a0)), (2, .int (nI b0)), (3, .ref (g 7))]) hx hb dX9_run_228 hl (k := 3) rfl (nI_1 _) (ltb rfl) rfl (fun ls hl => ?_)
                refine lv_goto (tgt := 16) hx hb dX9_run_231 rfl ?_
                exact ih16 j16 (k16 + 1) Fn30 _ _ (by (first | omega | (have zz0 := Hid.u hb_cn; omega))) ⟨(Fr.mo hf30 (sbl rfl) (sbl rfl) (sbl rfl)), hIn30, ⟨by (first | omega | (have zz0 := Hid.u hb_cn; omega)), by (first | omega | (have zz0 := Hid.u hb_cn; omega)), by (first | omega | (have zz0 := Hid.u hb_cn; omega))⟩, (RNI.mk (K := k16 + 1) e197_30 ⟨by (first | omega | (have zz0 := Hid.u hb_cn; omega)), by (first | omega | (have zz0 := Hid.u hb_cn; omega)), Or.inl rfl⟩ (RNn (Or.inr ⟨rfl, hx8⟩) hE9 hQ9 (by (first | omega | (have zz0 := Hid.u hb_cn; omega))) ho9 ht8 ht9) h_30)⟩ hP hD hS ls (lv_sub hl [0, 1, 4, 5, 6, 7] rfl)
            ·
              obtain ⟨x9, s8, rfl, hx9, hk8⟩ := KS.c (t := xa) (ty := (ya :: u9)) (by rw [← ht8]; exact hQ9)
              obtain ⟨y9, s7, rfl, hy9, hk7⟩ := KS.c hk8
              have hl7 : (y9 :: s7).length < 32 := by have e6 : (x9 :: y9 :: s7).length = (y9 :: s7).length + 1 := rfl; (first | omega | (have zz0 := Hid.u hb_cn; omega))
              have hl6 : s7.length < 32 := by have e6 : (y9 :: s7).length = s7.length + 1 := rfl; (first | omega | (have zz0 := Hid.u hb_cn; omega))
              have hs62 : W p l e (RM 2 0 0) s m ([.ref (ad 5 k0), .int (nI a0), .int (nI b0), .ref (g 7)]).toArray below meth c H locs 0 0 (MQ below (va_Qi (fun (r : Int32) (u : (Nat → Nat) × (Nat → Int32) × (Nat → Nat → Int32)) => (fun r c2 I2 F2 => Fr [] [] [196, 197, 305] cn In Fn c2 I2 F2 ∧ CBX c2 ∧ (r = MV o (cut (Fn 7)) a0 b0)) r u.1 u.2.1 u.2.2) (fun (u : (Nat → Nat) × (Nat → Int32) × (Nat → Nat → Int32)) (t : State) => va_P D vwCl (wX cI (D.1 99) zz g ad u.1 u.2.1 u.2.2) t.heap ∧ va_D A (wX cI (D.1 99) zz g ad u.1 u.2.1 u.2.2)) A) ([.ref (ad 5 k0), .int (nI a0), .int (nI b0), .ref (g 7)]).toArray s 0 0 A) (F0 m 203 ls []) := by
                refine lv_aload_n hx hb dX9_run_203 rfl (lvA4 hl) ?_
                have hFc := free_all hD hS hA
                refine va_calli (runV_xa (As := []) (rest := []) S (q_Wpop l D cI cB cZ zz qq vv bt g ad cn In F16 k0 x9 (y9 :: s7) H.size hI16 (by (first | omega | (have zz0 := Hid.u hb_cn; omega))) hS9 (by (first | omega | (have zz0 := Hid.u hb_cn; omega)))) kV_RX9_67 hK hXS hS hFc hP hD _ (xf_7 hk) rfl rfl ⟨Nat.le_of_ble_eq_true rfl, Nat.le_of_ble_eq_true rfl⟩ ⟨Nat.le_of_ble_eq_true rfl, Nat.le_of_ble_eq_true rfl⟩ rfl hl.1 rfl (Nat.le_of_ble_eq_true rfl) dX9_run_204) hS (fun q _ h => hFc q h) hFc (fun r_31 u t H1 locs ht hvm wh_32 hB1 hz1 hk1 hS => ?_)
                obtain ⟨cn32, In32, Fn32⟩ := u
                obtain ⟨hP1, hD1⟩ := hB1
                rw [ht] at hP1
                have hP : va_P D vwCl (wX cI (D.1 99) zz g ad cn32 In32 Fn32) H1 := hP1
                have hD : va_D A (wX cI (D.1 99) zz g ad cn32 In32 Fn32) := hD1.weaken (fun _ _ _ h => hFc _ h)
                generalize H1 = H at hP hS ⊢
                have vh_32 : (fun r c2 I2 F2 => Fr [] [] [196] cn In F16 c2 I2 F2 ∧ CBX c2 ∧ (r = x9 ∧ SKx k0 F2 (y9 :: s7))) r_31 cn32 In32 Fn32 := wh_32
                obtain ⟨hfc32, hIn32, h_32⟩ := vh_32
                obtain rfl : cn = cn32 := (funext (fun k => hfc32.1 k List.not_mem_nil)).symm
                obtain rfl : In = In32 := (funext (fun k => hfc32.2.1 k List.not_mem_nil)).symm
                have hf32 : Fr [] [] [196, 197, 305] cn In Fn cn In Fn32 := Fr.mo (Fr.tr hfr16 hfc32) (sbl rfl) (sbl rfl) (sbl rfl)
                replace hIn32 : CBXh cn := hIn32
                obtain ⟨er9, h_32⟩ := h_32
                obtain rfl : x9 = r_31 := er9.symm
                have e197_32 : Fn32 197 k0 = 0 := (congrFun (hfc32.2.2 197 (nml rfl)) k0).trans hR9
                refine lv_istore (lv' := [(8, .int x9), (7, .int (nI v9)), (6, .int (nI (c9 * 1048576 + v9))), (5, .int (nI k16)), (4, .int (nI j16)), (0, .ref (ad 5 k0)), (1, .int (nI a0)), (2, .int (nI b0)), (3, .ref (g 7))]) hx hb dX9_run_207 hl (ltb rfl) rfl (fun ls hl => ?_)
                refine lv_aload_n hx hb dX9_run_209 rfl (lvA5 hl) ?_
                refine lv_aload_n hx hb dX9_run_210 rfl (lvA5 hl) ?_
                refine lv_iload hx hb dX9_run_211 (lvA2 hl) ?_
                refine lv_bipush (v := 20) hx hb dX9_run_213 kbc_20 ?_
                refine lv_ishr hx hb dX9_run_215 ?_
                refine lv_topi (fun y_33 ey_33 => ?_)
                obtain rfl : y_33 = (nI c9) := ey_33.trans (stp_hi hc9 hv9)
                refine lv_aload_n hx hb dX9_run_216 rfl (lvA5 hl) ?_
                have hFc := free_all hD hS hA
                refine va_calli (runV_xa (As := []) (rest := [.int (nI c9), .ref (ad 5 k0), .ref (ad 5 k0)]) S (q_Wpop l D cI cB cZ zz qq vv bt g ad cn In Fn32 k0 y9 s7 H.size hIn32 (by (first | omega | (have zz0 := Hid.u hb_cn; omega))) h_32 (by (first | omega | (have zz0 := Hid.u hb_cn; omega)))) kV_RX9_67 hK hXS hS hFc hP hD _ (xf_7 hk) rfl rfl ⟨Nat.le_of_ble_eq_true rfl, Nat.le_of_ble_eq_true rfl⟩ ⟨Nat.le_of_ble_eq_true rfl, Nat.le_of_ble_eq_true rfl⟩ rfl hl.1 rfl (Nat.le_of_ble_eq_true rfl) dX9_run_217) hS (fun q _ h => hFc q h) hFc (fun r_34 u t H1 locs ht hvm wh_35 hB1 hz1 hk1 hS => ?_)
                obtain ⟨cn35, In35, Fn35⟩ := u
                obtain ⟨hP1, hD1⟩ := hB1
                rw [ht] at hP1
                have hP : va_P D vwCl (wX cI (D.1 99) zz g ad cn35 In35 Fn35) H1 := hP1
                have hD : va_D A (wX cI (D.1 99) zz g ad cn35 In35 Fn35) := hD1.weaken (fun _ _ _ h => hFc _ h)
                generalize H1 = H at hP hS ⊢
                have vh_35 : (fun r c2 I2 F2 => Fr [] [] [196] cn In Fn32 c2 I2 F2 ∧ CBX c2 ∧ (r = y9 ∧ SKx k0 F2 s7)) r_34 cn35 In35 Fn35 := wh_35
                obtain ⟨hfc35, hIn35, h_35⟩ := vh_35
                obtain rfl : cn = cn35 := (funext (fun k => hfc35.1 k List.not_mem_nil)).symm
                obtain rfl : In = In35 := (funext (fun k => hfc35.2.1 k List.not_mem_nil)).symm
                have hf35 : Fr [] [] [196, 197, 305] cn In Fn cn In Fn35 := Fr.mo (Fr.tr hf32 hfc35) (sbl rfl) (sbl rfl) (sbl rfl)
                replace hIn35 : CBXh cn := hIn35
                obtain ⟨er9, h_35⟩ := h_35
                obtain rfl : y9 = r_34 := er9.symm
                have e197_35 : Fn35 197 k0 = 0 := (congrFun (hfc35.2.2 197 (nml rfl)) k0).trans e197_32
                refine lv_iload hx hb dX9_run_220 (lvA0 hl) ?_
                have hFc := free_all hD hS hA
                refine va_calli (runV_xa (As := [.int (nI c9), .int y9, .int x9]) (rest := [.ref (ad 5 k0)]) S (q_Wreckon l D cI cB cZ zz qq vv bt g ad cn In Fn35 k0 c9 y9 x9 H.size hIn35 (by (first | omega | (have zz0 := Hid.u hb_cn; omega))) (by (first | omega | (have zz0 := Hid.u hb_cn; omega)))) kV_RX9_75 hK hXS hS hFc hP hD _ (xf_7 hk) rfl rfl ⟨Nat.le_of_ble_eq_true rfl, Nat.le_of_ble_eq_true rfl⟩ ⟨Nat.le_of_ble_eq_true rfl, Nat.le_of_ble_eq_true rfl⟩ rfl hl.1 rfl (Nat.le_of_ble_eq_true rfl) dX9_run_222) hS (fun q _ h => hFc q h) hFc (fun r_36 u t H1 locs ht hvm wh_37 hB1 hz1 hk1 hS => ?_)
                obtain ⟨cn37, In37, Fn37⟩ := u
                obtain ⟨hP1, hD1⟩ := hB1
                rw [ht] at hP1
                have hP : va_P D vwCl (wX cI (D.1 99) zz g ad cn37 In37 Fn37) H1 := hP1
                have hD : va_D A (wX cI (D.1 99) zz g ad cn37 In37 Fn37) := hD1.weaken (fun _ _ _ h => hFc _ h)
                generalize H1 = H at hP hS ⊢
                have vh_37 : (fun r c2 I2 F2 => Fr [] [] [197] cn In Fn35 c2 I2 F2 ∧ CBX c2 ∧ ((((c9 = 6 ∨ c9 = 7) ∧ x9 = 0) ∧ r = 0 ∧ F2 197 k0 = 1) ∨ (¬ ((c9 = 6 ∨ c9 = 7) ∧ x9 = 0) ∧ r = rk c9 y9 x9 ∧ F2 197 = (Fn35 197)))) r_36 cn37 In37 Fn37 := wh_37
                obtain ⟨hfc37, hIn37, h_37⟩ := vh_37
                obtain rfl : cn = cn37 := (funext (fun k => hfc37.1 k List.not_mem_nil)).symm
                obtain rfl : In = In37 := (funext (fun k => hfc37.2.1 k List.not_mem_nil)).symm
                have hf37 : Fr [] [] [196, 197, 305] cn In Fn cn In Fn37 := Fr.mo (Fr.tr hf35 hfc37) (sbl rfl) (sbl rfl) (sbl rfl)
                replace hIn37 : CBXh cn := hIn37
                rcases h_37 with ⟨hr8, rfl, h_37⟩ | ⟨hr8, er9, h_37⟩
                ·
                  have hk_37 : SKx k0 Fn37 s7 := SKx.cg h_35 (congrFun (hfc37.2.2 196 (nml rfl)) k0) (hfc37.2.2 305 (nml rfl))
                  have hFc := free_all hD hS hA
                  refine va_callv (runV_xa (As := [.int 0]) (rest := []) S (q_Wpush l D cI cB cZ zz qq vv bt g ad cn In Fn37 k0 0 s7 H.size hIn37 (by (first | omega | (have zz0 := Hid.u hb_cn; omega))) hk_37 (by (first | omega | (have zz0 := Hid.u hb_cn; omega)))) kV_RX9_63 hK hXS hS hFc hP hD _ (xf_7 hk) rfl rfl ⟨Nat.le_of_ble_eq_true rfl, Nat.le_of_ble_eq_true rfl⟩ ⟨Nat.le_of_ble_eq_true rfl, Nat.le_of_ble_eq_true rfl⟩ rfl hl.1 rfl (Nat.le_of_ble_eq_true rfl) dX9_run_225) hS (fun q _ h => hFc q h) hFc (fun u t H1 locs ht hvm wh_39 hB1 hz1 hk1 hS => ?_)
                  obtain ⟨cn39, In39, Fn39⟩ := u
                  obtain ⟨hP1, hD1⟩ := hB1
                  rw [ht] at hP1
                  have hP : va_P D vwCl (wX cI (D.1 99) zz g ad cn39 In39 Fn39) H1 := hP1
                  have hD : va_D A (wX cI (D.1 99) zz g ad cn39 In39 Fn39) := hD1.weaken (fun _ _ _ h => hFc _ h)
                  generalize H1 = H at hP hS ⊢
                  have vh_39 : (fun c2 I2 F2 => Fr [] [] [196, 305] cn In Fn37 c2 I2 F2 ∧ CBX c2 ∧ (SKx k0 F2 (0 :: s7))) cn39 In39 Fn39 := wh_39
                  obtain ⟨hfc39, hIn39, h_39⟩ := vh_39
                  obtain rfl : cn = cn39 := (funext (fun k => hfc39.1 k List.not_mem_nil)).symm
                  obtain rfl : In = In39 := (funext (fun k => hfc39.2.1 k List.not_mem_nil)).symm
                  have hf39 : Fr [] [] [196, 197, 305] cn In Fn cn In Fn39 := Fr.mo (Fr.tr hf37 hfc39) (sbl rfl) (sbl rfl) (sbl rfl)
                  replace hIn39 : CBXh cn := hIn39
                  have e197_39 : Fn39 197 k0 = 1 := (congrFun (hfc39.2.2 197 (nml rfl)) k0).trans h_37
                  refine lv_iinc (v := (nI (k16 + 1))) (lv' := [(5, .int (nI (k16 + 1))), (8, .int x9), (7, .int (nI v9)), (6, .int (nI (c9 * 1048576 + v9))), (4, .int (nI j16)), (0, .ref (ad 5 k0)), (1, .int (nI a0)), (2, .int (nI b0)), (3, .ref (g 7))]) hx hb dX9_run_228 hl (k := 3) rfl (nI_1 _) (ltb rfl) rfl (fun ls hl => ?_)
                  refine lv_goto (tgt := 16) hx hb dX9_run_231 rfl ?_
                  exact ih16 j16 (k16 + 1) Fn39 _ _ (by (first | omega | (have zz0 := Hid.u hb_cn; omega))) ⟨(Fr.mo hf39 (sbl rfl) (sbl rfl) (sbl rfl)), hIn39, ⟨by (first | omega | (have zz0 := Hid.u hb_cn; omega)), by (first | omega | (have zz0 := Hid.u hb_cn; omega)), by (first | omega | (have zz0 := Hid.u hb_cn; omega))⟩, (RNI.rf e197_39 (RNr hr8 hE9 (by (first | omega | (have zz0 := Hid.u hb_cn; omega))) ho9))⟩ hP hD hS ls (lv_sub hl [0, 4, 5, 6, 7, 8] rfl)
                ·
                  have hk_37 : SKx k0 Fn37 s7 := SKx.cg h_35 (congrFun (hfc37.2.2 196 (nml rfl)) k0) (hfc37.2.2 305 (nml rfl))
                  obtain rfl : r_36 = rk c9 y9 x9 := er9
                  have e197_37 : Fn37 197 k0 = 0 := (congrFun h_37 k0).trans e197_35
                  have hFc := free_all hD hS hA
                  refine va_callv (runV_xa (As := [.int (rk c9 y9 x9)]) (rest := []) S (q_Wpush l D cI cB cZ zz qq vv bt g ad cn In Fn37 k0 (rk c9 y9 x9) s7 H.size hIn37 (by (first | omega | (have zz0 := Hid.u hb_cn; omega))) hk_37 (by (first | omega | (have zz0 := Hid.u hb_cn; omega)))) kV_RX9_63 hK hXS hS hFc hP hD _ (xf_7 hk) rfl rfl ⟨Nat.le_of_ble_eq_true rfl, Nat.le_of_ble_eq_true rfl⟩ ⟨Nat.le_of_ble_eq_true rfl, Nat.le_of_ble_eq_true rfl⟩ rfl hl.1 rfl (Nat.le_of_ble_eq_true rfl) dX9_run_225) hS (fun q _ h => hFc q h) hFc (fun u t H1 locs ht hvm wh_41 hB1 hz1 hk1 hS => ?_)
                  obtain ⟨cn41, In41, Fn41⟩ := u
                  obtain ⟨hP1, hD1⟩ := hB1
                  rw [ht] at hP1
                  have hP : va_P D vwCl (wX cI (D.1 99) zz g ad cn41 In41 Fn41) H1 := hP1
                  have hD : va_D A (wX cI (D.1 99) zz g ad cn41 In41 Fn41) := hD1.weaken (fun _ _ _ h => hFc _ h)
                  generalize H1 = H at hP hS ⊢
                  have vh_41 : (fun c2 I2 F2 => Fr [] [] [196, 305] cn In Fn37 c2 I2 F2 ∧ CBX c2 ∧ (SKx k0 F2 ((rk c9 y9 x9) :: s7))) cn41 In41 Fn41 := wh_41
                  obtain ⟨hfc41, hIn41, h_41⟩ := vh_41
                  obtain rfl : cn = cn41 := (funext (fun k => hfc41.1 k List.not_mem_nil)).symm
                  obtain rfl : In = In41 := (funext (fun k => hfc41.2.1 k List.not_mem_nil)).symm
                  have hf41 : Fr [] [] [196, 197, 305] cn In Fn cn In Fn41 := Fr.mo (Fr.tr hf37 hfc41) (sbl rfl) (sbl rfl) (sbl rfl)
                  replace hIn41 : CBXh cn := hIn41
                  have e197_41 : Fn41 197 k0 = 0 := (congrFun (hfc41.2.2 197 (nml rfl)) k0).trans e197_37
                  refine lv_iinc (v := (nI (k16 + 1))) (lv' := [(5, .int (nI (k16 + 1))), (8, .int x9), (7, .int (nI v9)), (6, .int (nI (c9 * 1048576 + v9))), (4, .int (nI j16)), (0, .ref (ad 5 k0)), (1, .int (nI a0)), (2, .int (nI b0)), (3, .ref (g 7))]) hx hb dX9_run_228 hl (k := 3) rfl (nI_1 _) (ltb rfl) rfl (fun ls hl => ?_)
                  refine lv_goto (tgt := 16) hx hb dX9_run_231 rfl ?_
                  exact ih16 j16 (k16 + 1) Fn41 _ _ (by (first | omega | (have zz0 := Hid.u hb_cn; omega))) ⟨(Fr.mo hf41 (sbl rfl) (sbl rfl) (sbl rfl)), hIn41, ⟨by (first | omega | (have zz0 := Hid.u hb_cn; omega)), by (first | omega | (have zz0 := Hid.u hb_cn; omega)), by (first | omega | (have zz0 := Hid.u hb_cn; omega))⟩, (RNI.mk (K := k16 + 1) e197_41 ⟨by (first | omega | (have zz0 := Hid.u hb_cn; omega)), by (first | omega | (have zz0 := Hid.u hb_cn; omega)), Or.inl rfl⟩ (RNb ⟨hg1, hg2⟩ hr8 hE9 hQ9 (by (first | omega | (have zz0 := Hid.u hb_cn; omega))) ho9 ht8 ht9 ht7) h_41)⟩ hP hD hS ls (lv_sub hl [0, 4, 5, 6, 7, 8] rfl)
              rcases (by (first | omega | (have zz0 := Hid.u hb_cn; omega)) : c9 = 3 ∨ c9 = 4 ∨ c9 = 5 ∨ c9 = 6 ∨ c9 = 7 ∨ c9 = 8 ∨ c9 = 9 ∨ c9 = 10) with rfl | rfl | rfl | rfl | rfl | rfl | rfl | rfl <;> exact lv_tableIn (tgt := 203) (off := 141) hx hb dX9_run_62 (by decide) (by decide) rfl (by decide) hs62
          ·
            have tc_12 : ((nI k16).toInt : Int) < (nI j16).toInt := Int32.lt_iff_toInt_lt.mp (Int32.not_le.mp c_12)
            refine lv_goto (tgt := 228) hx hb (oc_167 36 (aq_10 shX9_run_26) sgw_0_192) rfl ?_
            refine lv_iinc (v := (nI (k16 + 1))) (lv' := [(5, .int (nI (k16 + 1))), (4, .int (nI j16)), (0, .ref (ad 5 k0)), (1, .int (nI a0)), (2, .int (nI b0)), (3, .ref (g 7))]) hx hb dX9_run_228 hl (k := 0) rfl (nI_1 _) (ltb rfl) rfl (fun ls hl => ?_)
            refine lv_goto (tgt := 16) hx hb dX9_run_231 rfl ?_
            exact ih16 j16 (k16 + 1) F16 _ _ (by (first | omega | (have zz0 := Hid.u hb_cn; omega))) ⟨(Fr.mo hfr16 (sbl rfl) (sbl rfl) (sbl rfl)), hI16, ⟨by (first | omega | (have zz0 := Hid.u hb_cn; omega)), by (first | omega | (have zz0 := Hid.u hb_cn; omega)), by (first | omega | (have zz0 := Hid.u hb_cn; omega))⟩, (RNI.skip hx16_1 (by (first | omega | (have zz0 := Hid.u hb_cn; omega))))⟩ hP hD hS ls (lv_sub hl [0, 1, 2, 3, 4, 5] rfl)
  exact lp_16 _ a0 a0 (va_up (va_up Fn 196 (upd (Fn 196) k0 0)) 197 (upd (Fn 197) k0 0)) _ _ (Nat.lt_succ_self _) ⟨(Fr.mo (Fr.f 197 (Fr.f 196 Fr.rf)) (sbl rfl) (sbl rfl) (sbl rfl)), hB, ⟨Nat.le_refl _, by (first | omega | (have zz0 := Hid.u hb_cn; omega)), by (first | omega | (have zz0 := Hid.u hb_cn; omega))⟩, (RNI.start (upd_self _ _ _) hta (upd_self _ _ _))⟩ hP hD hS ls (lv_sub hl [0, 1, 2, 3, 4, 5] rfl)
