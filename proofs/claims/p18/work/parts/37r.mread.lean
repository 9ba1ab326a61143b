def bbM (F : Nat → Nat → Int32) : Nat → Int32 := fun i => F 17 i &&& 255
theorem pk_here {c : Nat → Nat} {F : Nat → Nat → Int32} {bb : Nat → Int32} {n : Nat} (heb : bbM F = bb) (hn : c 20 = n) : pk bb n (c 19) = hereM c F := by
  subst heb
  subst hn
  rfl
/-- the reference's fault -/
def FLT (I : Nat → Int32) (e : Nat) : Prop := I 21 = -(nI e)
theorem flt_v {a p : Nat} : (-1000 : Int32) * nI a - nI p = -(nI (1000 * a + p)) := by
  rw [Int32.neg_mul, ← Int32.neg_add, show (1000 : Int32) = nI 1000 by decide, pk_mul, nI_add]
def o2 (x : Option Nat) : List (Nat × Nat) := x.toList.map (fun t => (t - 1, 0))
/-- the levels around, bottom first -/
def eT : LevT → List (Nat × Nat)
  | [] => []
  | z :: L => eT L ++ (o2 z.1 ++ o2 z.2) ++ [(14, 0)]
def LvK (z : Option Nat × Option Nat) : Prop := (∀ t, z.1 = some t → 3 ≤ t ∧ t ≤ 4) ∧ ∀ t, z.2 = some t → 5 ≤ t ∧ t ≤ 7
def LvKs (L : LevT) : Prop := ∀ z ∈ L, LvK z
/-- what waits, from w0 on -/
def StkE (W : Nat → Int32) (w0 w : Nat) (E : List (Nat × Nat)) : Prop := w = w0 + E.length ∧ ∀ (j : Nat) (z : Nat × Nat), E[j]? = some z → z.1 ≤ 14 ∧ z.2 < 1048576 ∧ W (w0 + j) = nI (z.1 * 1048576 + z.2)
/-- the steps, as the reference keeps them -/
def SAYm (C : Nat → Int32) (m : Nat) (o : OutT) : Prop := m = o.length ∧ ∀ (i : Nat) (z : Nat × Nat), o[i]? = some z → (1 ≤ z.1 ∧ z.1 ≤ 13 ∧ z.2 < 1048576) ∧ C i = nI ((z.1 - 1) * 1048576 + z.2)
def RQ (w0 k : Nat) (E : List (Nat × Nat)) (o : OutT) (c : Nat → Nat) (I : Nat → Int32) (F : Nat → Nat → Int32) : Prop := I 22 = nI (6 - k) ∧ k ≤ 6 ∧ SAYm (F 27) (c 23) o ∧ StkE (F 28) w0 (c 24) E
theorem gap_len {α : Type} (o : List α) (z : α) : (o ++ [z]).length = o.length + 1 := by simp
theorem StkE.push {W : Nat → Int32} {w0 w : Nat} {E : List (Nat × Nat)} {z : Nat × Nat} (h : StkE W w0 w E) (hz : z.1 ≤ 14 ∧ z.2 < 1048576) : StkE (upd W w (nI (z.1 * 1048576 + z.2))) w0 (w + 1) (E ++ [z]) := by
  obtain ⟨h1, h2⟩ := h
  refine ⟨by rw [gap_len]; omega, fun j y hj => ?_⟩
  rw [List.getElem?_append] at hj
  by_cases q : j < E.length
  · rw [if_pos q] at hj
    have g := h2 j y hj
    refine ⟨g.1, g.2.1, ?_⟩
    unfold upd
    rw [if_neg (by omega)]
    exact g.2.2
  · rw [if_neg q] at hj
    have q2 : j = E.length := Classical.byContradiction fun w9 => by
      rw [List.getElem?_eq_none (by simp; omega)] at hj
      cases hj
    subst q2
    rw [Nat.sub_self] at hj
    have e : z = y := Option.some.inj hj
    rw [← e]
    refine ⟨hz.1, hz.2, ?_⟩
    unfold upd
    rw [if_pos h1.symm]
theorem StkE.pop {W : Nat → Int32} {w0 w : Nat} {E : List (Nat × Nat)} {z : Nat × Nat} (h : StkE W w0 w (E ++ [z])) : StkE W w0 (w - 1) E := by
  obtain ⟨h1, h2⟩ := h
  rw [gap_len] at h1
  refine ⟨by omega, fun j y hj => h2 j y ?_⟩
  have l := (List.getElem?_eq_some_iff.mp hj).1
  rw [List.getElem?_append, if_pos l]
  exact hj
theorem StkE.top {W : Nat → Int32} {w0 w : Nat} {E : List (Nat × Nat)} {z : Nat × Nat} (h : StkE W w0 w (E ++ [z])) : 0 < w ∧ kd (W (w - 1)) = z.1 ∧ vl (W (w - 1)) = z.2 := by
  obtain ⟨h1, h2⟩ := h
  rw [gap_len] at h1
  have g := h2 E.length z (by rw [List.getElem?_append, if_neg (Nat.lt_irrefl _), Nat.sub_self]; rfl)
  have e : w - 1 = w0 + E.length := by omega
  rw [e, g.2.2]
  exact ⟨by omega, kd_nI g.1 g.2.1, vl_nI g.1 g.2.1⟩
theorem StkE.cg {W W2 : Nat → Int32} {w0 w : Nat} {E : List (Nat × Nat)} (h : StkE W w0 w E) (e : ∀ i : Nat, w0 ≤ i → i < w → W2 i = W i) : StkE W2 w0 w E := by
  obtain ⟨h1, h2⟩ := h
  refine ⟨h1, fun j y hj => ?_⟩
  have g := h2 j y hj
  have l := (List.getElem?_eq_some_iff.mp hj).1
  exact ⟨g.1, g.2.1, (e _ (by omega) (by omega)).trans g.2.2⟩
theorem SAYm.add {C : Nat → Int32} {m k a : Nat} {o : OutT} (h : SAYm C m o) (hk : 1 ≤ k ∧ k ≤ 13) (ha : a < 1048576) : SAYm (upd C m (nI ((k - 1) * 1048576 + a))) (m + 1) (o ++ [(k, a)]) := by
  obtain ⟨h1, h2⟩ := h
  refine ⟨by rw [gap_len]; omega, fun i y hi => ?_⟩
  rw [List.getElem?_append] at hi
  unfold upd
  by_cases q : i < o.length
  · rw [if_pos q] at hi
    rw [if_neg (by omega)]
    exact h2 i y hi
  · rw [if_neg q] at hi
    have q2 : i = o.length := Classical.byContradiction fun w9 => by
      rw [List.getElem?_eq_none (by simp; omega)] at hi
      cases hi
    subst q2
    rw [Nat.sub_self] at hi
    have e : (k, a) = y := Option.some.inj hi
    rw [← e, if_pos h1.symm]
    exact ⟨⟨hk.1, hk.2, ha⟩, rfl⟩
section RQS
variable {w0 k : Nat} {E : List (Nat × Nat)} {o : OutT} {c c2 : Nat → Nat} {I I2 : Nat → Int32} {F F2 : Nat → Nat → Int32} {pl ti : Option Nat} {L : LevT} {v0 : Int32}
theorem RQ.cg (h : RQ w0 k E o c I F) (e22 : I2 22 = I 22) (e23 : c2 23 = c 23) (e24 : c2 24 = c 24) (e27 : F2 27 = F 27) (e28 : F2 28 = F 28) : RQ w0 k E o c2 I2 F2 := by
  obtain ⟨h1, h2, h3, h4⟩ := h
  exact ⟨e22.trans h1, h2, by rw [e27, e23]; exact h3, by rw [e28, e24]; exact h4⟩
/-- a code more -/
theorem RQ.say {t a : Nat} (h : RQ w0 k E o c I F) (ht : 1 ≤ t ∧ t ≤ 13) (ha : a < 1048576) (e22 : I2 22 = I 22) (e23 : c2 23 = c 23 + 1) (e24 : c2 24 = c 24) (e27 : F2 27 = upd (F 27) (c 23) (nI ((t - 1) * 1048576 + a))) (e28 : F2 28 = F 28) : RQ w0 k E (o ++ [(t, a)]) c2 I2 F2 := by
  obtain ⟨h1, h2, h3, h4⟩ := h
  exact ⟨e22.trans h1, h2, by rw [e27, e23]; exact h3.add ht ha, by rw [e28, e24]; exact h4⟩
/-- a bracket opens -/
theorem RQ.open14 (h : RQ w0 k (eT L ++ (o2 pl ++ o2 ti)) o c I F) (ho : ¬ I 22 = 6) (e22 : I2 22 = I 22 + 1) (e23 : c2 23 = c 23) (e24 : c2 24 = c 24 + 1) (e27 : F2 27 = F 27) (e28 : F2 28 = upd (F 28) (c 24) (nI (14 * 1048576))) : ∃ j : Nat, k = j + 1 ∧ RQ w0 j (eT ((pl, ti) :: L) ++ (o2 none ++ o2 none)) o c2 I2 F2 := by
  obtain ⟨h1, h2, h3, h4⟩ := h
  cases k with
  | zero => exact absurd h1 ho
  | succ j =>
    refine ⟨j, rfl, ?_, by omega, by rw [e27, e23]; exact h3, ?_⟩
    · rw [e22, h1, show (1 : Int32) = nI 1 by decide, nI_add]
      congr 1
      omega
    · rw [e28, e24]
      have g := h4.push (z := (14, 0)) (by decide)
      have e : eT ((pl, ti) :: L) ++ (o2 none ++ o2 none) = eT L ++ (o2 pl ++ o2 ti) ++ [(14, 0)] := List.append_nil _
      rw [e]
      exact g
theorem RQ.no14 (h : RQ w0 k E o c I F) (ho : I 22 = 6) : k = 0 := by
  obtain ⟨h1, h2, -⟩ := h
  have q := congrArg Int32.toInt (h1.symm.trans ho)
  rw [nI_toInt (by omega)] at q
  have z : (6 : Int32).toInt = 6 := rfl
  omega
/-- while signs are taken off -/
def CSI (w0 k : Nat) (L : LevT) (pl ti : Option Nat) (o : OutT) (v0 : Int32) (c : Nat → Nat) (I : Nat → Int32) (F : Nat → Nat → Int32) : Prop := ∃ (pl9 ti9 : Option Nat) (o9 : OutT), RQ w0 k (eT L ++ (o2 pl9 ++ o2 ti9)) o9 c I F ∧ LvK (pl9, ti9) ∧ ((pl9 = pl ∧ o9 ++ o1 ti9 = o ++ o1 ti) ∨ (¬ v0 = 0 ∧ pl9 = none ∧ ti9 = none ∧ o9 = o ++ o1 ti ++ o1 pl))
theorem CSI.start (h : RQ w0 k (eT L ++ (o2 pl ++ o2 ti)) o c I F) (hk : LvK (pl, ti)) : CSI w0 k L pl ti o v0 c I F := ⟨pl, ti, o, h, hk, Or.inl ⟨rfl, rfl⟩⟩
theorem app_assoc3 {α : Type} (a b : List α) (z : α) : a ++ (b ++ [z]) = a ++ b ++ [z] := (List.append_assoc a b [z]).symm
theorem eT_ti {t : Nat} : eT L ++ (o2 pl ++ o2 (some t)) = eT L ++ (o2 pl ++ o2 none) ++ [(t - 1, 0)] := by
  show eT L ++ (o2 pl ++ [(t - 1, 0)]) = eT L ++ (o2 pl ++ []) ++ [(t - 1, 0)]
  rw [List.append_nil, app_assoc3]
theorem eT_pl {t : Nat} : eT L ++ (o2 (some t) ++ o2 none) = eT L ++ (o2 none ++ o2 none) ++ [(t - 1, 0)] := by
  show eT L ++ ([(t - 1, 0)] ++ []) = eT L ++ ([] ++ []) ++ [(t - 1, 0)]
  rw [List.append_nil, List.append_nil, List.append_nil]
theorem eT_14 {z : Option Nat × Option Nat} : eT (z :: L) ++ (o2 none ++ o2 none) = eT L ++ (o2 z.1 ++ o2 z.2) ++ [(14, 0)] := List.append_nil _
/-- what lies on top of a level -/
theorem lev_top {W : Nat → Int32} {w : Nat} (h : StkE W w0 w (eT L ++ (o2 none ++ o2 none))) (hb : 0 < w0 → 10 ≤ kd (W (w0 - 1)) ∧ kd (W (w0 - 1)) ≤ 13) (h0 : 0 < w) : 10 ≤ kd (W (w - 1)) := by
  cases L with
  | nil =>
    have e : w = w0 := h.1
    rw [e]
    exact (hb (by omega)).1
  | cons z L =>
    rw [eT_14] at h
    rw [h.top.2.1]
    decide
theorem CSI.step (h : CSI w0 k L pl ti o v0 c I F) (hb : 0 < w0 → 10 ≤ kd (F 28 (w0 - 1)) ∧ kd (F 28 (w0 - 1)) ≤ 13) (h0 : 0 < c 24) (hk : kd (F 28 (c 24 - 1)) ≤ 6) (hv : kd (F 28 (c 24 - 1)) ≤ 3 → ¬ v0 = 0) (e22 : I2 22 = I 22) (e23 : c2 23 = c 23 + 1) (e24 : c2 24 = c 24 - 1) (e27 : F2 27 = upd (F 27) (c 23) (nI (kd (F 28 (c 24 - 1)) * 1048576 + 0))) (e28 : F2 28 = F 28) : CSI w0 k L pl ti o v0 c2 I2 F2 := by
  obtain ⟨pl9, ti9, o9, hq, hl, hc⟩ := h
  have pp : ∀ {E : List (Nat × Nat)} {t : Nat}, RQ w0 k (E ++ [(t - 1, 0)]) o9 c I F → 1 ≤ t ∧ t ≤ 13 → RQ w0 k E (o9 ++ [(t, 0)]) c2 I2 F2 := fun {E t} hq ht => by
    obtain ⟨a1, a2, a3, a4⟩ := hq
    have g := a4.top.2.1
    have a3 := a3.add ht (show 0 < 1048576 by decide)
    refine ⟨e22.trans a1, a2, ?_, by rw [e28, e24]; exact a4.pop⟩
    rw [e27, e23, g]
    exact a3
  cases ti9 with
  | some t =>
    have ht := hl.2 t rfl
    rw [eT_ti] at hq
    refine ⟨pl9, none, o9 ++ [(t, 0)], pp hq (by omega), ⟨hl.1, fun t h => by cases h⟩, ?_⟩
    rcases hc with ⟨q1, q2⟩ | ⟨q1, q2, q3, q4⟩
    · refine Or.inl ⟨q1, ?_⟩
      rw [← q2]
      exact List.append_nil _
    · cases q3
  | none =>
    cases pl9 with
    | some t =>
      have ht := hl.1 t rfl
      have w : ¬ v0 = 0 := hv (by
        have hq2 := hq
        rw [eT_pl] at hq2
        rw [hq2.2.2.2.top.2.1]
        show t - 1 ≤ 3
        omega)
      rw [eT_pl] at hq
      refine ⟨none, none, o9 ++ [(t, 0)], pp hq (by omega), ⟨fun t h => (by cases h), fun t h => (by cases h)⟩, Or.inr ⟨w, rfl, rfl, ?_⟩⟩
      rcases hc with ⟨q1, q2⟩ | ⟨q1, q2, q3, q4⟩
      · rw [← q1, ← q2]
        show o9 ++ [(t, 0)] = o9 ++ [] ++ [(t, 0)]
        rw [List.append_nil]
      · cases q2
    | none =>
      have g := lev_top hq.2.2.2 hb h0
      omega
theorem CSI.fin (h : CSI w0 k L pl ti o v0 c I F) (ht : c 24 = 0 ∨ ¬ (4 ≤ kd (F 28 (c 24 - 1)) ∧ kd (F 28 (c 24 - 1)) ≤ 6)) (hp : ¬ v0 = 0 → c 24 = 0 ∨ ¬ (2 ≤ kd (F 28 (c 24 - 1)) ∧ kd (F 28 (c 24 - 1)) ≤ 3)) : (v0 = 0 → RQ w0 k (eT L ++ (o2 pl ++ o2 none)) (o ++ o1 ti) c I F) ∧ (¬ v0 = 0 → RQ w0 k (eT L ++ (o2 none ++ o2 none)) (o ++ o1 ti ++ o1 pl) c I F) := by
  obtain ⟨pl9, ti9, o9, hq, hl, hc⟩ := h
  have e9 : ti9 = none := by
    cases ti9 with
    | none => rfl
    | some t =>
      have h7 := hl.2 t rfl
      rw [eT_ti] at hq
      have g := hq.2.2.2.top
      exfalso
      rcases ht with ht | ht
      · omega
      · have g2 : kd (F 28 (c 24 - 1)) = t - 1 := g.2.1
        omega
  subst e9
  constructor
  · intro z
    rcases hc with ⟨q1, q2⟩ | ⟨q1, -⟩
    · rw [← q2, ← q1, o1_n]
      exact hq
    · exact absurd z q1
  · intro z
    have e8 : pl9 = none := by
      cases pl9 with
      | none => rfl
      | some t =>
        have h7 := hl.1 t rfl
        rw [eT_pl] at hq
        have g := hq.2.2.2.top
        exfalso
        rcases hp z with hp | hp
        · omega
        · have g2 : kd (F 28 (c 24 - 1)) = t - 1 := g.2.1
          omega
    subst e8
    rcases hc with ⟨q1, q2⟩ | ⟨q1, q2, q3, q4⟩
    · rw [← q1, ← q2, o1_n, o1_n]
      exact hq
    · rw [← q4]
      exact hq
/-- where the reading of a factor stands -/
def RFI (bb : Nat → Int32) (n w0 k : Nat) (pl ti : Option Nat) (L : LevT) (p : Nat) (o : OutT) (c : Nat → Nat) (I : Nat → Int32) (F : Nat → Nat → Int32) : Prop := ∃ (k9 : Nat) (pl9 ti9 : Option Nat) (L9 : LevT), RQ w0 k9 (eT L9 ++ (o2 pl9 ++ o2 ti9)) o c I F ∧ LvKs ((pl9, ti9) :: L9) ∧ k9 + L9.length = k + L.length ∧ VT bb n k pl ti L p o = VT bb n k9 pl9 ti9 L9 (c 19) o
/-- behind a factor -/
def RFO (bb : Nat → Int32) (n w0 k : Nat) (x : ResT) (c : Nat → Nat) (I : Nat → Int32) (F : Nat → Nat → Int32) : Prop := ∃ (k9 : Nat) (pl9 ti9 : Option Nat) (L9 : LevT) (o9 : OutT), RQ w0 k9 (eT L9 ++ (o2 pl9 ++ o2 ti9)) o9 c I F ∧ LvKs ((pl9, ti9) :: L9) ∧ k9 + L9.length = k ∧ x = aft bb n k9 pl9 ti9 L9 (c 19) o9
section RFS
variable {bb : Nat → Int32} {n p : Nat} {x : ResT}
theorem RFI.opn (h : RFI bb n w0 k pl ti L p o c I F) (hc : pk bb n (c 19) = 91) (ho : ¬ I 22 = 6) (e22 : I2 22 = I 22 + 1) (e19 : c2 19 = c 19 + 1) (e23 : c2 23 = c 23) (e24 : c2 24 = c 24 + 1) (e27 : F2 27 = F 27) (e28 : F2 28 = upd (F 28) (c 24) (nI (14 * 1048576))) : RFI bb n w0 k pl ti L p o c2 I2 F2 := by
  obtain ⟨k9, pl9, ti9, L9, hq, hl, hs, he⟩ := h
  obtain ⟨j, rfl, g⟩ := hq.open14 ho e22 e23 e24 e27 e28
  refine ⟨j, none, none, (pl9, ti9) :: L9, g, ?_, by show j + (L9.length + 1) = _; omega, ?_⟩
  · intro z hz
    rcases List.mem_cons.mp hz with rfl | hz
    · exact ⟨fun t h => (by cases h), fun t h => (by cases h)⟩
    · exact hl z hz
  · rw [he, VT_s hc, e19]
theorem RFI.err (h : RFI bb n w0 k pl ti L p o c I F) (hc : pk bb n (c 19) = 91) (ho : I 22 = 6) : VT bb n k pl ti L p o = .error (5000 + c 19) := by
  obtain ⟨k9, pl9, ti9, L9, hq, hl, hs, he⟩ := h
  have z := hq.no14 ho
  subst z
  rw [he, VT_0 hc]
theorem RFI.atmE {e : Nat} (h : RFI bb n w0 k pl ti L p o c I F) (hc : ¬ pk bb n (c 19) = 91) (ha : atmL bb n (c 19) o = .error e) : VT bb n k pl ti L p o = .error e := by
  obtain ⟨k9, pl9, ti9, L9, hq, hl, hs, he⟩ := h
  rw [he, VT_a hc, ha]
  rfl
theorem RFI.atm {q t a : Nat} (h : RFI bb n w0 k pl ti L p o c I F) (hc : ¬ pk bb n (c 19) = 91) (ha : atmL bb n (c 19) o = .ok (q, o ++ [(t, a)])) (ht : 1 ≤ t ∧ t ≤ 13) (hz : a < 1048576) (e22 : I2 22 = I 22) (e19 : c2 19 = q) (e23 : c2 23 = c 23 + 1) (e24 : c2 24 = c 24) (e27 : F2 27 = upd (F 27) (c 23) (nI ((t - 1) * 1048576 + a))) (e28 : F2 28 = F 28) : RFO bb n w0 (k + L.length) (VT bb n k pl ti L p o) c2 I2 F2 := by
  obtain ⟨k9, pl9, ti9, L9, hq, hl, hs, he⟩ := h
  refine ⟨k9, pl9, ti9, L9, o ++ [(t, a)], hq.say ht hz e22 e23 e24 e27 e28, hl, hs, ?_⟩
  rw [he, VT_a hc, ha, e19]
  rfl
end RFS
end RQS
theorem bbM_cg {F F2 : Nat → Nat → Int32} {bb : Nat → Int32} (h : bbM F = bb) (e : F2 17 = F 17) : bbM F2 = bb := by
  rw [← h]
  unfold bbM
  rw [e]
theorem flt_k {k p : Nat} {v : Int32} {I : Nat → Int32} (hv : v = nI k) (h : I 21 = (-1000) * v - nI p) : FLT I (1000 * k + p) := by
  subst hv
  exact h.trans flt_v
section RD9
variable {bb : Nat → Int32} {n p q v d e t m : Nat} {o : OutT}
theorem dg_n {c : Nat → Nat} {F : Nat → Nat → Int32} (e : pk bb n (c 19) = hereM c F) (h : ¬ (c 19 < c 20 ∧ 48 ≤ (hereM c F).toInt ∧ (hereM c F).toInt ≤ 57)) : ¬ (48 ≤ (pk bb n (c 19)).toInt ∧ (pk bb n (c 19)).toInt ≤ 57) := by
  intro q
  rw [e] at q
  apply h
  refine ⟨?_, q⟩
  by_cases w : c 19 < c 20
  · exact w
  · unfold hereM at q
    rw [if_neg w] at q
    exact absurd q.1 (by decide)
theorem dg_y {c : Nat → Nat} {F : Nat → Nat → Int32} (e : pk bb n (c 19) = hereM c F) (h : c 19 < c 20 ∧ 48 ≤ (hereM c F).toInt ∧ (hereM c F).toInt ≤ 57) : 48 ≤ (pk bb n (c 19)).toInt ∧ (pk bb n (c 19)).toInt ≤ 57 := by
  rw [e]
  exact h.2
theorem num_bk {c : Nat} (h : numL bb n (6 - (c - p)) c v = numL bb n 6 p 0) (hc : c < p + 6) (hp : p ≤ c) (hd : pk bb n c = nI d) (h48 : 48 ≤ d) (h57 : d ≤ 57) : numL bb n (6 - (c + 1 - p)) (c + 1) (10 * v + d - 48) = numL bb n 6 p 0 := by
  have t : (pk bb n c).toInt = (d : Int) := by rw [hd, nI_toInt (by omega)]
  have s := num_step (b := bb) (n := n) (p := c) (f := 6 - (c + 1 - p)) (v := v) (by omega)
  rw [t] at s
  rw [← h, show 6 - (c - p) = 6 - (c + 1 - p) + 1 by omega, ← s]
  congr 1
  show 10 * v + d - 48 = 10 * v + (d - 48)
  omega
theorem num_ok (hd : 48 ≤ (pk bb n p).toInt ∧ (pk bb n p).toInt ≤ 57) (h : numL bb n (6 - (q - p)) q v = numL bb n 6 p 0) (hn : ¬ (48 ≤ (pk bb n q).toInt ∧ (pk bb n q).toInt ≤ 57)) (o : OutT) : atmL bb n p o = .ok (q, o ++ [(1, v)]) := (atm_num h (Or.inr hn) hd).trans (if_neg hn)
theorem num_er (hd : 48 ≤ (pk bb n p).toInt ∧ (pk bb n p).toInt ≤ 57) (h : numL bb n (6 - (q - p)) q v = numL bb n 6 p 0) (hq : q = p + 6) (hn : 48 ≤ (pk bb n q).toInt ∧ (pk bb n q).toInt ≤ 57) (o : OutT) : atmL bb n p o = .error (2000 + q) := (atm_num h (Or.inl (by omega)) hd).trans (if_pos hn)
theorem atm_w (hd : ¬ (48 ≤ (pk bb n p).toInt ∧ (pk bb n p).toInt ≤ 57)) (hl : ltr (pk bb n p) = none) : atmL bb n p o = .error (1000 + p) := by
  unfold atmL
  rw [if_neg hd, hl]
theorem atm_l (hd : ¬ (48 ≤ (pk bb n p).toInt ∧ (pk bb n p).toInt ≤ 57)) (hl : ltr (pk bb n p) = some t) : atmL bb n p o = .ok (p + 1, o ++ [(2, t)]) := by
  unfold atmL
  rw [if_neg hd, hl]
end RD9
/-- a sum may begin -/
def RS (k : Nat) (o : OutT) (c : Nat → Nat) (I : Nat → Int32) (F : Nat → Nat → Int32) : Prop := I 22 = nI (6 - k) ∧ k ≤ 6 ∧ SAYm (F 27) (c 23) o
section RSS
variable {w0 k m : Nat} {E : List (Nat × Nat)} {o o1' : OutT} {c c2 : Nat → Nat} {I I2 : Nat → Int32} {F F2 : Nat → Nat → Int32} {pl ti : Option Nat} {L : LevT}
theorem RS.rq (h : RS k o c I F) : RQ (c 24) k (eT [] ++ (o2 none ++ o2 none)) o c I F := ⟨h.1, h.2.1, h.2.2, rfl, fun j z hj => by
  have hj : ([] : List (Nat × Nat))[j]? = some z := hj
  rw [List.getElem?_nil] at hj
  cases hj⟩
theorem RQ.rs (h : RQ w0 k E o c I F) : RS k o c I F := ⟨h.1, h.2.1, h.2.2.1⟩
theorem RQ.sgT (h : RQ w0 k (eT L ++ (o2 pl ++ o2 none)) o c I F) (hm : m ≤ 14) (e22 : I2 22 = I 22) (e23 : c2 23 = c 23) (e24 : c2 24 = c 24 + 1) (e27 : F2 27 = F 27) (e28 : F2 28 = upd (F 28) (c 24) (nI (m * 1048576))) : RQ w0 k (eT L ++ (o2 pl ++ o2 (some (m + 1)))) o c2 I2 F2 := by
  obtain ⟨h1, h2, h3, h4⟩ := h
  refine ⟨e22.trans h1, h2, by rw [e27, e23]; exact h3, ?_⟩
  have g : StkE (upd (F 28) (c 24) (nI (m * 1048576 + 0))) w0 (c 24 + 1) (eT L ++ (o2 pl ++ o2 none) ++ [(m, 0)]) := h4.push (z := (m, 0)) ⟨hm, show 0 < 1048576 by decide⟩
  rw [Nat.add_zero] at g
  rw [eT_ti, e28, e24, Nat.add_sub_cancel]
  exact g
theorem RQ.sgP (h : RQ w0 k (eT L ++ (o2 none ++ o2 none)) o c I F) (hm : m ≤ 14) (e22 : I2 22 = I 22) (e23 : c2 23 = c 23) (e24 : c2 24 = c 24 + 1) (e27 : F2 27 = F 27) (e28 : F2 28 = upd (F 28) (c 24) (nI (m * 1048576))) : RQ w0 k (eT L ++ (o2 (some (m + 1)) ++ o2 none)) o c2 I2 F2 := by
  obtain ⟨h1, h2, h3, h4⟩ := h
  refine ⟨e22.trans h1, h2, by rw [e27, e23]; exact h3, ?_⟩
  have g : StkE (upd (F 28) (c 24) (nI (m * 1048576 + 0))) w0 (c 24 + 1) (eT L ++ (o2 none ++ o2 none) ++ [(m, 0)]) := h4.push (z := (m, 0)) ⟨hm, show 0 < 1048576 by decide⟩
  rw [Nat.add_zero] at g
  rw [eT_pl, e28, e24, Nat.add_sub_cancel]
  exact g
theorem nI_pr {x : Int32} {k : Nat} (h : x = nI (6 - k)) (hk : k < 6) : x - 1 = nI (6 - (k + 1)) := by
  rw [h, show (1 : Int32) = nI 1 by decide, nI_sub (by omega)]
  congr 1
theorem RQ.pop14 {a b : Option Nat} (h : RQ w0 k (eT ((a, b) :: L) ++ (o2 none ++ o2 none)) o c I F) (hk : k < 6) (e22 : I2 22 = I 22 - 1) (e23 : c2 23 = c 23) (e24 : c2 24 = c 24 - 1) (e27 : F2 27 = F 27) (e28 : F2 28 = F 28) : RQ w0 (k + 1) (eT L ++ (o2 a ++ o2 b)) o c2 I2 F2 := by
  obtain ⟨h1, h2, h3, h4⟩ := h
  refine ⟨e22.trans (nI_pr h1 hk), by omega, by rw [e27, e23]; exact h3, ?_⟩
  rw [eT_14] at h4
  rw [e28, e24]
  exact h4.pop
theorem o2_k {x : Option Nat} {z : Nat × Nat} (h : z ∈ o2 x) : ∃ t, x = some t ∧ z = (t - 1, 0) := by
  cases x with
  | none => cases h
  | some t => exact ⟨t, rfl, List.mem_singleton.mp h⟩
theorem L_cons (h : RQ w0 k (eT L ++ (o2 pl ++ o2 ti)) o c I F) (hl : LvK (pl, ti)) (ho : ∃ i : Nat, w0 ≤ i ∧ i < c 24 ∧ kd (F 28 i) = 14) : ∃ (a b : Option Nat) (M : LevT), L = (a, b) :: M := by
  cases L with
  | cons z M => exact ⟨z.1, z.2, M, rfl⟩
  | nil =>
    exfalso
    obtain ⟨-, -, -, h1, h2⟩ := h
    obtain ⟨i, a1, a2, a3⟩ := ho
    have l : i - w0 < (eT [] ++ (o2 pl ++ o2 ti)).length := by omega
    have g := h2 (i - w0) _ (List.getElem?_eq_getElem l)
    have mm := List.getElem_mem l
    rw [show w0 + (i - w0) = i by omega] at g
    have e := g.2.2
    rw [e, kd_nI g.1 g.2.1] at a3
    have mm : _ ∈ o2 pl ++ o2 ti := mm
    rcases List.mem_append.mp mm with mm | mm
    · obtain ⟨t, q1, q2⟩ := o2_k mm
      have w := hl.1 t q1
      rw [q2] at a3
      have a3 : t - 1 = 14 := a3
      omega
    · obtain ⟨t, q1, q2⟩ := o2_k mm
      have w := hl.2 t q1
      rw [q2] at a3
      have a3 : t - 1 = 14 := a3
      omega
theorem L_nil (h : RQ w0 k (eT L ++ (o2 pl ++ o2 ti)) o c I F) (ho : ¬ ∃ i : Nat, w0 ≤ i ∧ i < c 24 ∧ kd (F 28 i) = 14) : L = [] := by
  cases L with
  | nil => rfl
  | cons z M =>
    exfalso
    obtain ⟨-, -, -, h1, h2⟩ := h
    have e : eT (z :: M) ++ (o2 pl ++ o2 ti) = (eT M ++ (o2 z.1 ++ o2 z.2)) ++ ((14, 0) :: (o2 pl ++ o2 ti)) := List.append_assoc (eT M ++ (o2 z.1 ++ o2 z.2)) [(14, 0)] (o2 pl ++ o2 ti)
    rw [e] at h1 h2
    generalize eT M ++ (o2 z.1 ++ o2 z.2) = E0 at h1 h2
    have g := h2 E0.length (14, 0) (by
      rw [List.getElem?_append, if_neg (Nat.lt_irrefl _), Nat.sub_self]
      rfl)
    rw [List.length_append, List.length_cons] at h1
    refine ho ⟨w0 + E0.length, by omega, by omega, ?_⟩
    rw [g.2.2]
    exact kd_nI (by decide) (by decide)
end RSS
def jr (k : Nat) (x : Option Nat) : List (Nat × Nat) := x.toList.map (fun j => (k, j))
/-- what waits of a condition, bottom first -/
def eC : CevT → List (Nat × Nat)
  | [] => []
  | z :: L => eC L ++ [(13, 0)] ++ jr 12 z.1 ++ jr 11 z.2.1 ++ List.replicate z.2.2 (10, 0)
def wC : CevT → Nat
  | [] => 0
  | z :: L => z.2.2 + 1 + wC L
def RK (k : Nat) (L : CevT) (o : OutT) (c : Nat → Nat) (I : Nat → Int32) (F : Nat → Nat → Int32) : Prop := RQ 0 k (eC L) o c I F ∧ k + wC L = 6
section RKS
variable {k m v0n j y op t : Nat} {E : List (Nat × Nat)} {o oo : OutT} {c c2 : Nat → Nat} {I I2 : Nat → Int32} {F F2 : Nat → Nat → Int32} {r a : Option Nat} {L : CevT} {v0 : Int32}
theorem eC_m : eC ((r, a, m + 1) :: L) = eC ((r, a, m) :: L) ++ [(10, 0)] := by
  show eC L ++ [(13, 0)] ++ jr 12 r ++ jr 11 a ++ List.replicate (m + 1) (10, 0) = eC L ++ [(13, 0)] ++ jr 12 r ++ jr 11 a ++ List.replicate m (10, 0) ++ [(10, 0)]
  rw [List.replicate_succ', List.append_assoc _ (List.replicate m (10, 0))]
theorem eC_a : eC ((r, some j, 0) :: L) = eC ((r, none, 0) :: L) ++ [(11, j)] := by
  show eC L ++ [(13, 0)] ++ jr 12 r ++ [(11, j)] ++ [] = eC L ++ [(13, 0)] ++ jr 12 r ++ [] ++ [] ++ [(11, j)]
  rw [List.append_nil, List.append_nil, List.append_nil]
theorem eC_r : eC ((some j, none, 0) :: L) = eC ((none, none, 0) :: L) ++ [(12, j)] := by
  show eC L ++ [(13, 0)] ++ [(12, j)] ++ [] ++ [] = eC L ++ [(13, 0)] ++ [] ++ [] ++ [] ++ [(12, j)]
  rw [List.append_nil, List.append_nil, List.append_nil, List.append_nil, List.append_nil]
theorem eC_p : eC ((none, none, 0) :: L) = eC L ++ [(13, 0)] := by
  show eC L ++ [(13, 0)] ++ [] ++ [] ++ [] = eC L ++ [(13, 0)]
  rw [List.append_nil, List.append_nil, List.append_nil]
theorem RQ.openx (h : RQ 0 k E o c I F) (ht : t ≤ 14) (ho : ¬ I 22 = 6) (e22 : I2 22 = I 22 + 1) (e23 : c2 23 = c 23) (e24 : c2 24 = c 24 + 1) (e27 : F2 27 = F 27) (e28 : F2 28 = upd (F 28) (c 24) (nI (t * 1048576))) : ∃ j : Nat, k = j + 1 ∧ RQ 0 j (E ++ [(t, 0)]) o c2 I2 F2 := by
  obtain ⟨h1, h2, h3, h4⟩ := h
  cases k with
  | zero => exact absurd h1 ho
  | succ j =>
    refine ⟨j, rfl, ?_, by omega, by rw [e27, e23]; exact h3, ?_⟩
    · rw [e22, h1, show (1 : Int32) = nI 1 by decide, nI_add]
      congr 1
      omega
    · have g : StkE (upd (F 28) (c 24) (nI (t * 1048576 + 0))) 0 (c 24 + 1) (E ++ [(t, 0)]) := h4.push (z := (t, 0)) ⟨ht, show 0 < 1048576 by decide⟩
      rw [Nat.add_zero] at g
      rw [e28, e24]
      exact g
theorem RK.not (h : RK k ((r, a, m) :: L) o c I F) (ho : ¬ I 22 = 6) (e22 : I2 22 = I 22 + 1) (e23 : c2 23 = c 23) (e24 : c2 24 = c 24 + 1) (e27 : F2 27 = F 27) (e28 : F2 28 = upd (F 28) (c 24) (nI (10 * 1048576))) : ∃ j : Nat, k = j + 1 ∧ RK j ((r, a, m + 1) :: L) o c2 I2 F2 := by
  obtain ⟨h1, h2⟩ := h
  obtain ⟨j, rfl, g⟩ := h1.openx (by decide) ho e22 e23 e24 e27 e28
  refine ⟨j, rfl, by rw [eC_m]; exact g, ?_⟩
  have h2 : j + 1 + (m + 1 + wC L) = 6 := h2
  show j + (m + 1 + 1 + wC L) = 6
  omega
theorem RK.par (h : RK k ((r, a, m) :: L) o c I F) (ho : ¬ I 22 = 6) (e22 : I2 22 = I 22 + 1) (e23 : c2 23 = c 23) (e24 : c2 24 = c 24 + 1) (e27 : F2 27 = F 27) (e28 : F2 28 = upd (F 28) (c 24) (nI (13 * 1048576))) : ∃ j : Nat, k = j + 1 ∧ RK j ((none, none, 0) :: (r, a, m) :: L) o c2 I2 F2 := by
  obtain ⟨h1, h2⟩ := h
  obtain ⟨j, rfl, g⟩ := h1.openx (by decide) ho e22 e23 e24 e27 e28
  refine ⟨j, rfl, by rw [eC_p]; exact g, ?_⟩
  have h2 : j + 1 + wC ((r, a, m) :: L) = 6 := h2
  show j + (0 + 1 + wC ((r, a, m) :: L)) = 6
  omega
theorem RK.no (h : RK k L o c I F) (ho : I 22 = 6) : k = 0 := h.1.no14 ho
theorem RK.rs (h : RK k L o c I F) : RS k o c I F := h.1.rs
theorem RK.re (h : RK k L o c I F) (q : RS k oo c2 I2 F2) (e24 : c2 24 = c 24) (w : ∀ i : Nat, i < c 24 → F2 28 i = F 28 i) : RK k L oo c2 I2 F2 := by
  obtain ⟨⟨h1, h2, h3, h4⟩, h5⟩ := h
  refine ⟨⟨q.1, q.2.1, q.2.2, ?_⟩, h5⟩
  rw [e24]
  exact h4.cg (fun i _ hi => w i hi)
theorem RK.say (h : RK k L o c I F) (ht : 1 ≤ t ∧ t ≤ 13) (hy : y < 1048576) (e22 : I2 22 = I 22) (e23 : c2 23 = c 23 + 1) (e24 : c2 24 = c 24) (e27 : F2 27 = upd (F 27) (c 23) (nI ((t - 1) * 1048576 + y))) (e28 : F2 28 = F 28) : RK k L (o ++ [(t, y)]) c2 I2 F2 := ⟨h.1.say ht hy e22 e23 e24 e27 e28, h.2⟩
/-- while ! are taken off -/
def EPI (k : Nat) (r a : Option Nat) (m : Nat) (L : CevT) (o : OutT) (c : Nat → Nat) (I : Nat → Int32) (F : Nat → Nat → Int32) : Prop := ∃ (k9 m9 : Nat) (o9 : OutT), RK k9 ((r, a, m9) :: L) o9 c I F ∧ k9 + m9 = k + m ∧ o9 ++ nots m9 = o ++ nots m
theorem EPI.start (h : RK k ((r, a, m) :: L) o c I F) : EPI k r a m L o c I F := ⟨k, m, o, h, rfl, rfl⟩
/-- a level without ! ahead: what lies on top -/
theorem top_0 {W : Nat → Int32} {w : Nat} (h : StkE W 0 w (eC ((r, a, 0) :: L))) : 0 < w ∧ ((∃ j, a = some j ∧ kd (W (w - 1)) = 11 ∧ vl (W (w - 1)) = j) ∨ (a = none ∧ ∃ j, r = some j ∧ kd (W (w - 1)) = 12 ∧ vl (W (w - 1)) = j) ∨ (a = none ∧ r = none ∧ kd (W (w - 1)) = 13)) := by
  cases a with
  | some j =>
    rw [eC_a] at h
    exact ⟨h.top.1, Or.inl ⟨j, rfl, h.top.2⟩⟩
  | none =>
    cases r with
    | some j =>
      rw [eC_r] at h
      exact ⟨h.top.1, Or.inr (Or.inl ⟨rfl, j, rfl, h.top.2⟩)⟩
    | none =>
      rw [eC_p] at h
      exact ⟨h.top.1, Or.inr (Or.inr ⟨rfl, rfl, h.top.2.1⟩)⟩
theorem EPI.step (h : EPI k r a m L o c I F) (h0 : 0 < c 24) (hk : kd (F 28 (c 24 - 1)) = 10) (e22 : I2 22 = I 22 - 1) (e23 : c2 23 = c 23 + 1) (e24 : c2 24 = c 24 - 1) (e27 : F2 27 = upd (F 27) (c 23) (nI (10 * 1048576 + 0))) (e28 : F2 28 = F 28) : EPI k r a m L o c2 I2 F2 := by
  obtain ⟨k9, m9, o9, ⟨⟨a1, a2, a3, a4⟩, hw⟩, h2, h3⟩ := h
  cases m9 with
  | zero =>
    have g := (top_0 a4).2
    rcases g with ⟨j, -, q, -⟩ | ⟨-, j, -, q, -⟩ | ⟨-, -, q⟩ <;> omega
  | succ m9 =>
    have hw : k9 + (m9 + 1 + 1 + wC L) = 6 := hw
    rw [eC_m] at a4
    refine ⟨k9 + 1, m9, o9 ++ [(11, 0)], ⟨⟨e22.trans (nI_pr a1 (by omega)), by omega, by rw [e27, e23]; exact a3.add (k := 11) (a := 0) (by decide) (by decide), by rw [e28, e24]; exact a4.pop⟩, ?_⟩, by omega, by rw [← h3, nots_s]⟩
    show k9 + 1 + (m9 + 1 + wC L) = 6
    omega
theorem EPI.fin (h : EPI k r a m L o c I F) (ht : c 24 = 0 ∨ ¬ kd (F 28 (c 24 - 1)) = 10) : RK (k + m) ((r, a, 0) :: L) (o ++ nots m) c I F := by
  obtain ⟨k9, m9, o9, h1, h2, h3⟩ := h
  cases m9 with
  | zero =>
    rw [← h2, ← h3, nots_0]
    exact h1
  | succ m9 =>
    exfalso
    have a4 := h1.1.2.2.2
    rw [eC_m] at a4
    have g := a4.top
    have g2 : kd (F 28 (c 24 - 1)) = 10 := g.2.1
    omega
theorem SAYm.aimx {C : Nat → Int32} {n : Nat} (h : SAYm C n o) (hn : n < 1048576) (hj : j < n) (ec : C j = nI (op * 1048576 + y)) (hy : y < 1048576) (hop : op ≤ 12) : SAYm (upd C j (nI (1048576 * op + n))) n (aim o j) := by
  obtain ⟨h1, h2⟩ := h
  obtain ⟨z, hz⟩ : ∃ z, o[j]? = some z := ⟨o[j], List.getElem?_eq_getElem (by omega)⟩
  have g := h2 j z hz
  have e : op = z.1 - 1 := by
    have q := congrArg kd (ec.symm.trans g.2)
    rw [kd_nI (by omega) hy, kd_nI (by omega) g.1.2.2] at q
    exact q
  unfold aim
  rw [hz]
  refine ⟨by rw [List.length_set]; exact h1, fun i x hi => ?_⟩
  rw [List.getElem?_set] at hi
  unfold upd
  by_cases q : j = i
  · rw [if_pos q] at hi
    rw [if_pos q.symm]
    rw [if_pos (by omega)] at hi
    have w := Option.some.inj hi
    rw [← w]
    refine ⟨⟨g.1.1, g.1.2.1, by show o.length < 1048576; omega⟩, ?_⟩
    show nI (1048576 * op + n) = nI ((z.1 - 1) * 1048576 + o.length)
    rw [← e, ← h1, Nat.mul_comm]
  · rw [if_neg q] at hi
    rw [if_neg (fun w => q w.symm)]
    exact h2 i x hi
/-- while jumps land -/
def LDI (k : Nat) (r a : Option Nat) (L : CevT) (o : OutT) (v0 : Int32) (c : Nat → Nat) (I : Nat → Int32) (F : Nat → Nat → Int32) : Prop := ∃ (r9 a9 : Option Nat) (o9 : OutT), RK k ((r9, a9, 0) :: L) o9 c I F ∧ ((r9 = r ∧ aimO o9 a9 = aimO o a) ∨ (¬ v0 = 0 ∧ r9 = none ∧ a9 = none ∧ o9 = aimO (aimO o a) r))
theorem LDI.start (h : RK k ((r, a, 0) :: L) o c I F) : LDI k r a L o v0 c I F := ⟨r, a, o, h, Or.inl ⟨rfl, rfl⟩⟩
theorem LDI.step (h : LDI k r a L o v0 c I F) (hk : kd (F 28 (c 24 - 1)) = 11 ∨ (kd (F 28 (c 24 - 1)) = 12 ∧ ¬ v0 = 0)) (hn : c 23 < 1048576) (hj : vl (F 28 (c 24 - 1)) < c 23) (ec : F 27 (vl (F 28 (c 24 - 1))) = nI (op * 1048576 + y)) (hy : y < 1048576) (hop : op ≤ 12) (e22 : I2 22 = I 22) (e23 : c2 23 = c 23) (e24 : c2 24 = c 24 - 1) (e27 : F2 27 = upd (F 27) (vl (F 28 (c 24 - 1))) (nI (1048576 * op + c 23))) (e28 : F2 28 = F 28) : LDI k r a L o v0 c2 I2 F2 := by
  obtain ⟨r9, a9, o9, ⟨⟨a1, a2, a3, a4⟩, hw⟩, h2⟩ := h
  have s := a3.aimx hn hj ec hy hop
  rcases (top_0 a4).2 with ⟨j, rfl, q1, q2⟩ | ⟨rfl, j, rfl, q1, q2⟩ | ⟨-, -, q1⟩
  · rw [eC_a] at a4
    rw [q2] at s e27
    refine ⟨r9, none, aim o9 j, ⟨⟨e22.trans a1, a2, by rw [e27, e23]; exact s, by rw [e28, e24]; exact a4.pop⟩, hw⟩, Or.inl ?_⟩
    rcases h2 with h2 | ⟨-, -, q, -⟩
    · exact h2
    · cases q
  · rw [eC_r] at a4
    rw [q2] at s e27
    refine ⟨none, none, aim o9 j, ⟨⟨e22.trans a1, a2, by rw [e27, e23]; exact s, by rw [e28, e24]; exact a4.pop⟩, hw⟩, Or.inr ⟨hk.elim (fun w => by omega) (fun w => w.2), rfl, rfl, ?_⟩⟩
    rcases h2 with ⟨g1, g2⟩ | ⟨-, q, -⟩
    · rw [← g2, ← g1]
      rfl
    · cases q
  · omega
theorem LDI.fin (h : LDI k r a L o v0 c I F) (ht : c 24 = 0 ∨ ¬ kd (F 28 (c 24 - 1)) = 11) (hp : ¬ v0 = 0 → c 24 = 0 ∨ ¬ kd (F 28 (c 24 - 1)) = 12) : (v0 = 0 → RK k ((r, none, 0) :: L) (aimO o a) c I F) ∧ (¬ v0 = 0 → RK k ((none, none, 0) :: L) (aimO (aimO o a) r) c I F) := by
  obtain ⟨r9, a9, o9, h1, h2⟩ := h
  have t := top_0 h1.1.2.2.2
  constructor
  · intro z
    rcases h2 with ⟨g1, g2⟩ | ⟨q, -⟩
    · rcases t.2 with ⟨j, -, q1, -⟩ | ⟨rfl, j, -, -⟩ | ⟨rfl, -, -⟩
      · omega
      · rw [← g1, ← g2]
        exact h1
      · rw [← g1, ← g2]
        exact h1
    · exact absurd z q
  · intro z
    have hp := hp z
    rcases t.2 with ⟨j, -, q1, -⟩ | ⟨-, j, -, q1, -⟩ | ⟨rfl, rfl, -⟩
    · omega
    · omega
    · rcases h2 with ⟨g1, g2⟩ | ⟨-, -, -, g⟩
      · rw [← g1, ← g2]
        exact h1
      · rw [← g]
        exact h1
theorem RK.jmpA {n : Nat} (h : RK k ((r, none, 0) :: L) o c I F) (hn : c 23 = n) (hs : n < 1048576) (e22 : I2 22 = I 22) (e23 : c2 23 = n + 1) (e24 : c2 24 = c 24 + 1) (e27 : F2 27 = upd (F 27) n (nI (11 * 1048576 + 0))) (e28 : F2 28 = upd (F 28) (c 24) (nI (1048576 * 11 + n))) : RK k ((r, some o.length, 0) :: L) (o ++ [(12, 0)]) c2 I2 F2 := by
  obtain ⟨⟨a1, a2, a3, a4⟩, hw⟩ := h
  have l := a3.1
  refine ⟨⟨e22.trans a1, a2, ?_, ?_⟩, hw⟩
  · rw [e27, e23, ← hn]
    exact a3.add (k := 12) (a := 0) (by decide) (by decide)
  · rw [eC_a, e28, e24, ← l, hn, Nat.mul_comm]
    exact a4.push (z := (11, n)) ⟨show 11 ≤ 14 by decide, hs⟩
theorem RK.jmpO {n : Nat} (h : RK k ((none, none, 0) :: L) o c I F) (hn : c 23 = n) (hs : n < 1048576) (e22 : I2 22 = I 22) (e23 : c2 23 = n + 1) (e24 : c2 24 = c 24 + 1) (e27 : F2 27 = upd (F 27) n (nI (12 * 1048576 + 0))) (e28 : F2 28 = upd (F 28) (c 24) (nI (1048576 * 12 + n))) : RK k ((some o.length, none, 0) :: L) (o ++ [(13, 0)]) c2 I2 F2 := by
  obtain ⟨⟨a1, a2, a3, a4⟩, hw⟩ := h
  have l := a3.1
  refine ⟨⟨e22.trans a1, a2, ?_, ?_⟩, hw⟩
  · rw [e27, e23, ← hn]
    exact a3.add (k := 13) (a := 0) (by decide) (by decide)
  · rw [eC_r, e28, e24, ← l, hn, Nat.mul_comm]
    exact a4.push (z := (12, n)) ⟨show 12 ≤ 14 by decide, hs⟩
theorem RK.clo (h : RK k ((none, none, 0) :: L) o c I F) (e22 : I2 22 = I 22 - 1) (e23 : c2 23 = c 23) (e24 : c2 24 = c 24 - 1) (e27 : F2 27 = F 27) (e28 : F2 28 = F 28) : RK (k + 1) L o c2 I2 F2 := by
  obtain ⟨⟨a1, a2, a3, a4⟩, hw⟩ := h
  have hw : k + (0 + 1 + wC L) = 6 := hw
  rw [eC_p] at a4
  exact ⟨⟨e22.trans (nI_pr a1 (by omega)), by omega, by rw [e27, e23]; exact a3, by rw [e28, e24]; exact a4.pop⟩, by omega⟩
theorem RK.nil (h : RK k L o c I F) (e : c 24 = 0) : L = [] := by
  cases L with
  | nil => rfl
  | cons z L =>
    exfalso
    have l := h.1.2.2.2.1
    rw [e] at l
    have w : (eC L ++ [(13, 0)] ++ jr 12 z.1 ++ jr 11 z.2.1 ++ List.replicate z.2.2 (10, 0)).length = (eC (z :: L)).length := rfl
    rw [List.length_append, List.length_append, List.length_append, List.length_append] at w
    have w1 : ([(13, 0)] : List (Nat × Nat)).length = 1 := rfl
    omega
theorem RK.ne (h : RK k L o c I F) (e : ¬ c 24 = 0) : ∃ (r a : Option Nat) (m : Nat) (M : CevT), L = (r, a, m) :: M := by
  cases L with
  | nil => exact absurd h.1.2.2.2.1 e
  | cons z L => exact ⟨z.1, z.2.1, z.2.2, L, rfl⟩
end RKS
section CVS
variable {bb : Nat → Int32} {n k p q e t : Nat} {o o9 : OutT} {r a : Option Nat} {m : Nat} {L : CevT} {x : ResT}
theorem cmp_e (h : sm1 bb n (smK bb n k) p o = .error e) : cmpK bb n k p o = .error e := by
  unfold cmpK
  rw [h]
  rfl
theorem cmp_1 (h : sm1 bb n (smK bb n k) p o = .ok (q, o9)) (hr : rel (pk bb n q) = none) : cmpK bb n k p o = .error (1000 + q) := by
  unfold cmpK
  rw [h]
  show (match rel (pk bb n q) with
  | none => Except.error (1000 + q)
  | some r => resB (sm1 bb n (smK bb n k) (q + 1) o9) (fun q o' => .ok (q, o' ++ [(r, 0)]))) = _
  rw [hr]
theorem cmp_2 {y : ResT} (h : sm1 bb n (smK bb n k) p o = .ok (q, o9)) (hr : rel (pk bb n q) = some t) (h2 : sm1 bb n (smK bb n k) (q + 1) o9 = y) : cmpK bb n k p o = resB y (fun q o' => .ok (q, o' ++ [(t, 0)])) := by
  unfold cmpK
  rw [h]
  show (match rel (pk bb n q) with
  | none => Except.error (1000 + q)
  | some r => resB (sm1 bb n (smK bb n k) (q + 1) o9) (fun q o' => .ok (q, o' ++ [(r, 0)]))) = _
  rw [hr, ← h2]
theorem rel_n (h1 : ¬ pk bb n q = 60) (h2 : ¬ pk bb n q = 62) (h3 : ¬ pk bb n q = 61) : rel (pk bb n q) = none := by
  unfold rel
  rw [if_neg h1, if_neg h2, if_neg h3]
theorem afc_0 : afc bb n k r a m L p o = afc bb n (k + m) r a 0 L p (o ++ nots m) := by
  unfold afc
  rw [nots_0]
  rfl
/-- a condition in its brackets -/
def CDV (bb : Nat → Int32) (n p : Nat) (o : OutT) : ResT := if pk bb n p = 40 then WT bb n 5 none none 0 [] (p + 1) o else .error (1000 + p)
/-- a piece is to be read -/
def R40 (bb : Nat → Int32) (n : Nat) (x : ResT) (c : Nat → Nat) (I : Nat → Int32) (F : Nat → Nat → Int32) : Prop := ∃ (k : Nat) (r a : Option Nat) (m : Nat) (L : CevT) (o : OutT), RK k ((r, a, m) :: L) o c I F ∧ x = WT bb n k r a m L (c 19) o
/-- a piece was read -/
def R92 (bb : Nat → Int32) (n : Nat) (x : ResT) (c : Nat → Nat) (I : Nat → Int32) (F : Nat → Nat → Int32) : Prop := ∃ (k : Nat) (r a : Option Nat) (L : CevT) (o : OutT), RK k ((r, a, 0) :: L) o c I F ∧ x = afc bb n k r a 0 L (c 19) o
section CVV
variable {c c2 : Nat → Nat} {I I2 : Nat → Int32} {F F2 : Nat → Nat → Int32}
theorem R40.start (h : SAYm (F 27) (c 23) o) (hb : pk bb n p = 40) (e22 : I2 22 = 1) (e19 : c2 19 = p + 1) (e23 : c2 23 = c 23) (e24 : c2 24 = 1) (e27 : F2 27 = F 27) (e28 : F2 28 = upd (F 28) 0 (nI (13 * 1048576))) : R40 bb n (CDV bb n p o) c2 I2 F2 := by
  refine ⟨5, none, none, 0, [], o, ⟨⟨e22.trans (by decide), by decide, by rw [e27, e23]; exact h, ?_⟩, rfl⟩, ?_⟩
  · rw [eC_p, e28, e24]
    exact (show StkE (F 28) 0 0 (eC []) from ⟨rfl, fun j z hj => by
      have hj : ([] : List (Nat × Nat))[j]? = some z := hj
      rw [List.getElem?_nil] at hj
      cases hj⟩).push (z := (13, 0)) (by decide)
  · unfold CDV
    rw [if_pos hb, e19]
theorem R40.not (h : R40 bb n x c I F) (hc : pk bb n (c 19) = 33) (ho : ¬ I 22 = 6) (e22 : I2 22 = I 22 + 1) (e19 : c2 19 = c 19 + 1) (e23 : c2 23 = c 23) (e24 : c2 24 = c 24 + 1) (e27 : F2 27 = F 27) (e28 : F2 28 = upd (F 28) (c 24) (nI (10 * 1048576))) : R40 bb n x c2 I2 F2 := by
  obtain ⟨k, r, a, m, L, o, h1, h2⟩ := h
  obtain ⟨j, rfl, g⟩ := h1.not ho e22 e23 e24 e27 e28
  exact ⟨j, r, a, m + 1, L, o, g, by rw [h2, WT_ns hc, e19]⟩
theorem R40.par (h : R40 bb n x c I F) (hc : pk bb n (c 19) = 40) (ho : ¬ I 22 = 6) (e22 : I2 22 = I 22 + 1) (e19 : c2 19 = c 19 + 1) (e23 : c2 23 = c 23) (e24 : c2 24 = c 24 + 1) (e27 : F2 27 = F 27) (e28 : F2 28 = upd (F 28) (c 24) (nI (13 * 1048576))) : R40 bb n x c2 I2 F2 := by
  obtain ⟨k, r, a, m, L, o, h1, h2⟩ := h
  obtain ⟨j, rfl, g⟩ := h1.par ho e22 e23 e24 e27 e28
  exact ⟨j, none, none, 0, (r, a, m) :: L, o, g, by rw [h2, WT_bs hc, e19]⟩
theorem R40.err (h : R40 bb n x c I F) (hc : pk bb n (c 19) = 33 ∨ pk bb n (c 19) = 40) (ho : I 22 = 6) : x = .error (5000 + c 19) := by
  obtain ⟨k, r, a, m, L, o, h1, h2⟩ := h
  have z := h1.no ho
  subst z
  rcases hc with hc | hc
  · rw [h2, WT_n0 hc]
  · rw [h2, WT_b0 hc]
theorem R92.close (h2 : x = afc bb n k r a 0 L p o) (hc : pk bb n p = 41) (h : RK k ((none, none, 0) :: L) (aimO (aimO o a) r) c I F) (e22 : I2 22 = I 22 - 1) (e19 : c2 19 = p + 1) (e23 : c2 23 = c 23) (e24 : c2 24 = c 24 - 1) (e27 : F2 27 = F 27) (e28 : F2 28 = F 28) : RK (k + 1) L (aimO (aimO o a) r) c2 I2 F2 ∧ (L = [] → x = .ok (p + 1, aimO (aimO o a) r)) ∧ ∀ (r' a' : Option Nat) (m' : Nat) (M : CevT), L = (r', a', m') :: M → x = afc bb n (k + 1 + m') r' a' 0 M (p + 1) (aimO (aimO o a) r ++ nots m') := by
  refine ⟨h.clo e22 e23 e24 e27 e28, fun e => ?_, fun r' a' m' M e => ?_⟩
  · subst e
    rw [h2, WF_f hc, nots_0]
  · subst e
    rw [h2, WF_c hc, nots_0]
    exact afc_0
theorem R40.jA (h2 : x = afc bb n k r a 0 L p o) (hc : pk bb n p = 38) (hl : c 23 = m) (hs : m < 1048576) (h : RK k ((r, none, 0) :: L) (aimO o a) c I F) (e22 : I2 22 = I 22) (e19 : c2 19 = p + 1) (e23 : c2 23 = m + 1) (e24 : c2 24 = c 24 + 1) (e27 : F2 27 = upd (F 27) m (nI (11 * 1048576 + 0))) (e28 : F2 28 = upd (F 28) (c 24) (nI (1048576 * 11 + m))) : R40 bb n x c2 I2 F2 := by
  refine ⟨k, r, some (aimO o a).length, 0, L, aimO o a ++ [(12, 0)], h.jmpA hl hs e22 e23 e24 e27 e28, ?_⟩
  rw [h2, WF_a hc, nots_0, e19, aimO_len]
  rfl
theorem R40.jO (h2 : x = afc bb n k r a 0 L p o) (hc : pk bb n p = 124) (hl : c 23 = m) (hs : m < 1048576) (h : RK k ((none, none, 0) :: L) (aimO (aimO o a) r) c I F) (e22 : I2 22 = I 22) (e19 : c2 19 = p + 1) (e23 : c2 23 = m + 1) (e24 : c2 24 = c 24 + 1) (e27 : F2 27 = upd (F 27) m (nI (12 * 1048576 + 0))) (e28 : F2 28 = upd (F 28) (c 24) (nI (1048576 * 12 + m))) : R40 bb n x c2 I2 F2 := by
  refine ⟨k, some (aimO (aimO o a) r).length, none, 0, L, aimO (aimO o a) r ++ [(13, 0)], h.jmpO hl hs e22 e23 e24 e27 e28, ?_⟩
  rw [h2, WF_o hc, nots_0, e19, aimO_len, aimO_len]
  rfl
theorem R92.err (h2 : x = afc bb n k r a 0 L p o) (h1 : ¬ pk bb n p = 41) (h3 : ¬ pk bb n p = 38) (h4 : ¬ pk bb n p = 124) : x = .error (1000 + p) := by rw [h2, WF_e h1 h3 h4]
end CVV
end CVS
/-- clauses: where their sums begin, their conditions begin, and end -/
abbrev ClsT : Type := List (Nat × Nat × Nat)
abbrev ClvT : Type := Except Nat (Nat × OutT × Nat)
abbrev TxvT : Type := Except Nat (Nat × OutT × ClsT)
/-- a clause, its letter ld, nc clauses ahead: what is read, and where its condition begins -/
def clV (bb : Nat → Int32) (n : Nat) (ld : Int32) (nc p : Nat) (o : OutT) : ClvT :=
  if pk bb n p = ld then
    (if nc = 12 then .error (4000 + p) else
      match (if ld = 112 then sm1 bb n (smK bb n 6) (p + 1) o else .ok (p + 1, o)) with
      | .error e => .error e
      | .ok z =>
        match CDV bb n z.1 z.2 with
        | .error e => .error e
        | .ok y => .ok (y.1, y.2, z.2.length))
  else .error (1000 + p)
/-- behind a clause: the others -/
def txL (bb : Nat → Int32) (n : Nat) (ld : Int32) : Nat → Nat → OutT → ClsT → TxvT
  | 0, p, o, cl => .ok (p, o, cl)
  | f + 1, p, o, cl =>
    if p < n then
      (if pk bb n p = 59 then
        match clV bb n ld cl.length (p + 1) o with
        | .error e => .error e
        | .ok z => txL bb n ld f z.1 z.2.1 (cl ++ [(o.length, z.2.2, z.2.1.length)])
      else .error (1000 + p))
    else .ok (p, o, cl)
/-- a text -/
def txV (bb : Nat → Int32) (n : Nat) (ld : Int32) : TxvT :=
  match clV bb n ld 0 0 [] with
  | .error e => .error e
  | .ok z => txL bb n ld (n + 1) z.1 z.2.1 [(0, z.2.2, z.2.1.length)]
section CLVS
variable {bb : Nat → Int32} {n nc p q q2 x f : Nat} {ld : Int32} {o u u2 : OutT} {cl : ClsT}
theorem clV_w (h : ¬ pk bb n p = ld) : clV bb n ld nc p o = .error (1000 + p) := if_neg h
theorem clV_12 (h : pk bb n p = ld) (h2 : nc = 12) : clV bb n ld nc p o = .error (4000 + p) := (if_pos h).trans (if_pos h2)
theorem clV_s (h : pk bb n p = 112) (h2 : ¬ nc = 12) (e : sm1 bb n (smK bb n 6) (p + 1) o = .error x) : clV bb n 112 nc p o = .error x := by
  unfold clV
  rw [if_pos h, if_neg h2, if_pos rfl, e]
theorem clV_sc (h : pk bb n p = 112) (h2 : ¬ nc = 12) (e : sm1 bb n (smK bb n 6) (p + 1) o = .ok (q, u)) (e2 : CDV bb n q u = .error x) : clV bb n 112 nc p o = .error x := by
  unfold clV
  rw [if_pos h, if_neg h2, if_pos rfl, e]
  dsimp only
  rw [e2]
theorem clV_so (h : pk bb n p = 112) (h2 : ¬ nc = 12) (e : sm1 bb n (smK bb n 6) (p + 1) o = .ok (q, u)) (e2 : CDV bb n q u = .ok (q2, u2)) : clV bb n 112 nc p o = .ok (q2, u2, u.length) := by
  unfold clV
  rw [if_pos h, if_neg h2, if_pos rfl, e]
  dsimp only
  rw [e2]
theorem clV_lc (h : pk bb n p = 108) (h2 : ¬ nc = 12) (e2 : CDV bb n (p + 1) o = .error x) : clV bb n 108 nc p o = .error x := by
  unfold clV
  rw [if_pos h, if_neg h2, if_neg (by decide)]
  dsimp only
  rw [e2]
theorem clV_lo (h : pk bb n p = 108) (h2 : ¬ nc = 12) (e2 : CDV bb n (p + 1) o = .ok (q2, u2)) : clV bb n 108 nc p o = .ok (q2, u2, o.length) := by
  unfold clV
  rw [if_pos h, if_neg h2, if_neg (by decide)]
  dsimp only
  rw [e2]
theorem CDV_adv {z : Nat × OutT} (h : CDV bb n p o = .ok z) : p < z.1 ∧ p < n := by
  unfold CDV at h
  split at h
  · next c =>
    rw [WT_cd] at h
    obtain ⟨y, h1, h2⟩ := resB_ok h
    have a := cdK_adv (pcK_adv 5) h1
    have b := shut_adv h2
    exact ⟨by omega, pke_in c (by decide)⟩
  · cases h
theorem clV_adv {z : Nat × OutT × Nat} (h : clV bb n ld nc p o = .ok z) : p < z.1 := by
  unfold clV at h
  split at h
  · split at h
    · cases h
    · split at h
      · cases h
      · next y hy =>
        split at h
        · cases h
        · next w hw =>
          have a := (CDV_adv hw).1
          have e := Except.ok.inj h
          rw [← e]
          show p < w.1
          split at hy
          · have b := sm1_adv (smK_mono 6) hy
            omega
          · have b : (p + 1, o) = y := Except.ok.inj hy
            rw [← b] at a
            have a : p + 1 < w.1 := a
            omega
  · cases h
theorem txL_0 (h : n ≤ p) : txL bb n ld f p o cl = .ok (p, o, cl) := by
  cases f with
  | zero => rfl
  | succ f =>
    unfold txL
    rw [if_neg (by omega)]
theorem txL_w (h : p < n) (h2 : ¬ pk bb n p = 59) : txL bb n ld (f + 1) p o cl = .error (1000 + p) := by
  unfold txL
  rw [if_pos h, if_neg h2]
theorem txL_e (h : p < n) (h2 : pk bb n p = 59) (e : clV bb n ld cl.length (p + 1) o = .error x) : txL bb n ld (f + 1) p o cl = .error x := by
  unfold txL
  rw [if_pos h, if_pos h2, e]
theorem txL_ir : ∀ (f g p : Nat) (o : OutT) (cl : ClsT), n < f + p → n < g + p → txL bb n ld f p o cl = txL bb n ld g p o cl
  | 0, g, p, o, cl, h, _ => (txL_0 (by omega)).trans (txL_0 (by omega)).symm
  | f + 1, 0, p, o, cl, _, h => (txL_0 (by omega)).trans (txL_0 (by omega)).symm
  | f + 1, g + 1, p, o, cl, h1, h2 => by
    unfold txL
    split
    · split
      · split
        · rfl
        · next z hz =>
          have a := clV_adv hz
          exact txL_ir f g _ _ _ (by omega) (by omega)
      · rfl
    · rfl
theorem txL_s {z : Nat × OutT × Nat} (h : p < n) (h2 : pk bb n p = 59) (e : clV bb n ld cl.length (p + 1) o = .ok z) : txL bb n ld (n + 1) p o cl = txL bb n ld (n + 1) z.1 z.2.1 (cl ++ [(o.length, z.2.2, z.2.1.length)]) := by
  have a := clV_adv e
  conv => lhs; unfold txL
  rw [if_pos h, if_pos h2, e]
  exact txL_ir n (n + 1) _ _ _ (by omega) (by omega)
theorem txV_e (e : clV bb n ld 0 0 [] = .error x) : txV bb n ld = .error x := by
  unfold txV
  rw [e]
theorem txV_s {z : Nat × OutT × Nat} (e : clV bb n ld 0 0 [] = .ok z) : txV bb n ld = txL bb n ld (n + 1) z.1 z.2.1 [(0, z.2.2, z.2.1.length)] := by
  unfold txV
  rw [e]
end CLVS
/-- the clauses that were read, as the reference keeps them -/
def CLm (f g h : Nat → Int32) (m : Nat) (cl : ClsT) : Prop := m = cl.length ∧ ∀ (j : Nat) (z : Nat × Nat × Nat), cl[j]? = some z → (z.1 ≤ 160 ∧ z.2.1 ≤ 160 ∧ z.2.2 ≤ 160) ∧ f j = nI z.1 ∧ g j = nI z.2.1 ∧ h j = nI z.2.2
theorem CLm.add {f g h : Nat → Int32} {m a b d : Nat} {cl : ClsT} (H : CLm f g h m cl) (hb : a ≤ 160 ∧ b ≤ 160 ∧ d ≤ 160) : CLm (upd f m (nI a)) (upd g m (nI b)) (upd h m (nI d)) (m + 1) (cl ++ [(a, b, d)]) := by
  obtain ⟨h1, h2⟩ := H
  refine ⟨by rw [List.length_append]; show m + 1 = cl.length + 1; omega, fun j z hj => ?_⟩
  rw [List.getElem?_append] at hj
  unfold upd
  by_cases q : j < cl.length
  · rw [if_pos q] at hj
    rw [if_neg (by omega), if_neg (by omega), if_neg (by omega)]
    exact h2 j z hj
  · rw [if_neg q] at hj
    have q2 : j = cl.length := Classical.byContradiction fun w9 => by
      rw [List.getElem?_eq_none (by simp; omega)] at hj
      cases hj
    subst q2
    rw [Nat.sub_self] at hj
    have e : (a, b, d) = z := Option.some.inj hj
    rw [← e, if_pos h1.symm, if_pos h1.symm, if_pos h1.symm]
    exact ⟨hb, rfl, rfl, rfl⟩
theorem CLm.z {f g h : Nat → Int32} : CLm f g h 0 [] := ⟨rfl, fun j z hj => by
  rw [List.getElem?_nil] at hj
  cases hj⟩
theorem SAYm.z {C : Nat → Int32} : SAYm C 0 [] := ⟨rfl, fun j z hj => by
  rw [List.getElem?_nil] at hj
  cases hj⟩
def ldI (v : Int32) : Int32 := if v = 0 then 112 else 108
theorem ld_0 {v : Int32} (h : v = 0) : ldI v = 112 := if_pos h
theorem ld_1 {v : Int32} (h : ¬ v = 0) : ldI v = 108 := if_neg h
/-- which letter begins the clauses of text k -/
def ldK (k : Nat) : Int32 := if k = 10 then 108 else 112
theorem ldK_1 {k : Nat} (h : k = 10) : ldI 1 = ldK k := by
  rw [h]
  decide
theorem ldK_0 {k : Nat} (h : ¬ k = 10) : ldI 0 = ldK k := by
  unfold ldK
  rw [if_neg h]
  decide
/-- text t, as the reference keeps it -/
def MTx (F : Nat → Nat → Int32) (t : Nat) (o : OutT) (cl : ClsT) : Prop := F 33 t = nI cl.length ∧ (∀ (i : Nat) (z : Nat × Nat), o[i]? = some z → (1 ≤ z.1 ∧ z.1 ≤ 13 ∧ z.2 < 1048576) ∧ F 32 (180 * t + i) = nI ((z.1 - 1) * 1048576 + z.2)) ∧ ∀ (j : Nat) (z : Nat × Nat × Nat), cl[j]? = some z → F 34 (12 * t + j) = nI (180 * t + z.1) ∧ F 35 (12 * t + j) = nI (180 * t + z.2.1) ∧ F 36 (12 * t + j) = nI (180 * t + z.2.2)
theorem MTx.cg {F F2 : Nat → Nat → Int32} {t : Nat} {o : OutT} {cl : ClsT} (h : MTx F t o cl) (e33 : F2 33 t = F 33 t) (e32 : ∀ j : Nat, 180 * t ≤ j → j < 180 * t + 180 → F2 32 j = F 32 j) (e34 : ∀ j : Nat, 12 * t ≤ j → j < 12 * t + 12 → F2 34 j = F 34 j ∧ F2 35 j = F 35 j ∧ F2 36 j = F 36 j) (ho : o.length ≤ 180) (hc : cl.length ≤ 12) : MTx F2 t o cl := by
  obtain ⟨h1, h2, h3⟩ := h
  refine ⟨e33.trans h1, fun i z hi => ?_, fun j z hj => ?_⟩
  · have l := (List.getElem?_eq_some_iff.mp hi).1
    have g := h2 i z hi
    exact ⟨g.1, (e32 _ (by omega) (by omega)).trans g.2⟩
  · have l := (List.getElem?_eq_some_iff.mp hj).1
    have g := h3 j z hj
    have e := e34 (12 * t + j) (by omega) (by omega)
    exact ⟨e.1.trans g.1, e.2.1.trans g.2.1, e.2.2.trans g.2.2⟩
theorem re_mt {C f g h : Nat → Int32} {F2 : Nat → Nat → Int32} {t m n : Nat} {u : OutT} {l : ClsT} (hS : SAYm C m u) (hC : CLm f g h n l) (h32 : ∀ j : Nat, j < m → F2 32 (180 * t + j) = C j) (h33 : F2 33 t = nI n) (h34 : ∀ j : Nat, j < n → F2 34 (12 * t + j) = nI (180 * t + (f j).toInt.toNat) ∧ F2 35 (12 * t + j) = nI (180 * t + (g j).toInt.toNat) ∧ F2 36 (12 * t + j) = nI (180 * t + (h j).toInt.toNat)) : MTx F2 t u l := by
  obtain ⟨s1, s2⟩ := hS
  obtain ⟨c1, c2⟩ := hC
  refine ⟨by rw [h33, c1], fun i z hi => ?_, fun j z hj => ?_⟩
  · have l9 := (List.getElem?_eq_some_iff.mp hi).1
    have g9 := s2 i z hi
    exact ⟨g9.1, (h32 i (by omega)).trans g9.2⟩
  · have l9 := (List.getElem?_eq_some_iff.mp hj).1
    obtain ⟨b9, e1, e2, e3⟩ := c2 j z hj
    obtain ⟨x1, x2, x3⟩ := h34 j (by omega)
    rw [e1, nI_tn (by omega)] at x1
    rw [e2, nI_tn (by omega)] at x2
    rw [e3, nI_tn (by omega)] at x3
    exact ⟨x1, x2, x3⟩
/-- what the reading of a text answers and leaves -/
def TXR (bb : Nat → Int32) (l k : Nat) (r : Int32) (F F2 : Nat → Nat → Int32) : Prop := (∃ e9 : Nat, txV bb l (ldK k) = .error e9 ∧ r = -(nI e9) ∧ ∀ j9 : Nat, 32 ≤ j9 → j9 ≤ 36 → F2 j9 = F j9) ∨ (∃ z9 : Nat × OutT × ClsT, txV bb l (ldK k) = .ok z9 ∧ r = nI z9.2.2.length ∧ (z9.2.1.length ≤ 160 ∧ z9.2.2.length ≤ 12) ∧ MTx F2 k z9.2.1 z9.2.2 ∧ (∀ t9 : Nat, ¬ t9 = k → F2 33 t9 = F 33 t9) ∧ (∀ j : Nat, j < 180 * k ∨ 180 * k + 180 ≤ j → F2 32 j = F 32 j) ∧ ∀ j : Nat, j < 12 * k ∨ 12 * k + 12 ≤ j → F2 34 j = F 34 j ∧ F2 35 j = F 35 j ∧ F2 36 j = F 36 j)
theorem lvk_0 : LvKs [(none, none)] := fun z hz => by
  rw [List.mem_singleton.mp hz]
  exact ⟨fun t h => (by cases h), fun t h => (by cases h)⟩
theorem lvk_T {a b : Option Nat} {L : LevT} {t : Nat} (h : LvKs ((a, b) :: L)) (ht : 5 ≤ t ∧ t ≤ 7) : LvKs ((a, some t) :: L) := fun z hz => by
  rcases List.mem_cons.mp hz with rfl | hz
  · exact ⟨(h _ List.mem_cons_self).1, fun u q => by have q := Option.some.inj q; omega⟩
  · exact h z (List.mem_cons_of_mem _ hz)
theorem lvk_P {a b : Option Nat} {L : LevT} {t : Nat} (h : LvKs ((a, b) :: L)) (ht : 3 ≤ t ∧ t ≤ 4) : LvKs ((some t, none) :: L) := fun z hz => by
  rcases List.mem_cons.mp hz with rfl | hz
  · exact ⟨fun u q => by have q := Option.some.inj q; omega, fun u q => (by cases q)⟩
  · exact h z (List.mem_cons_of_mem _ hz)
theorem ltr_no {v : Int32} (h : v.toInt ≠ 113 ∧ v.toInt ≠ 102 ∧ v.toInt ≠ 97 ∧ v.toInt ≠ 100 ∧ v.toInt ≠ 119 ∧ v.toInt ≠ 103 ∧ v.toInt ≠ 107 ∧ v.toInt ≠ 109 ∧ v.toInt ≠ 115 ∧ v.toInt ≠ 111 ∧ v.toInt ≠ 110) : ltr v = none := by
  obtain ⟨h1, h2, h3, h4, h5, h6, h7, h8, h9, h10, h11⟩ := h
  have g : ∀ k : Int32, v.toInt ≠ k.toInt → ¬ v = k := fun k q e => q (congrArg Int32.toInt e)
  unfold ltr
  rw [if_neg (g 113 h1), if_neg (g 102 h2), if_neg (g 97 h3), if_neg (g 100 h4), if_neg (g 119 h5), if_neg (g 103 h6), if_neg (g 107 h7), if_neg (g 109 h8), if_neg (g 115 h9), if_neg (g 111 h10), if_neg (g 110 h11)]
theorem ltr_is {v : Int32} {k : Int32} {x : Option Nat} {z : Int} (h : v.toInt = z) (hz : k.toInt = z) (e : ltr k = x) : ltr v = x := by
  rw [Int32.toInt_inj.mp (h.trans hz.symm)]; exact e
theorem tms_no {v : Int32} (h : v.toInt ≠ 42 ∧ v.toInt ≠ 47 ∧ v.toInt ≠ 37) : tms v = none := by
  have g : ∀ k : Int32, v.toInt ≠ k.toInt → ¬ v = k := fun k q e => q (congrArg Int32.toInt e)
  unfold tms
  rw [if_neg (g 42 h.1), if_neg (g 47 h.2.1), if_neg (g 37 h.2.2)]
theorem pls_no {v : Int32} (h : v.toInt ≠ 43 ∧ v.toInt ≠ 45) : pls v = none := by
  have g : ∀ k : Int32, v.toInt ≠ k.toInt → ¬ v = k := fun k q e => q (congrArg Int32.toInt e)
  unfold pls
  rw [if_neg (g 43 h.1), if_neg (g 45 h.2)]
theorem tms_is {v : Int32} {k : Int32} {x : Option Nat} {z : Int} (h : v.toInt = z) (hz : k.toInt = z) (e : tms k = x) : tms v = x := by
  rw [Int32.toInt_inj.mp (h.trans hz.symm)]; exact e
theorem pls_is {v : Int32} {k : Int32} {x : Option Nat} {z : Int} (h : v.toInt = z) (hz : k.toInt = z) (e : pls k = x) : pls v = x := by
  rw [Int32.toInt_inj.mp (h.trans hz.symm)]; exact e
theorem PSx.bot {pl ln cm w a G w0 s : Nat} {C W : Nat → Int32} (H : PSx pl ln cm w C W a G w0 s) : 0 < w0 → 10 ≤ kd (W (w0 - 1)) ∧ kd (W (w0 - 1)) ≤ 13 := by
  obtain ⟨h, H, h1, h2, h3, h4⟩ := H
  exact h4



set_option maxRecDepth 100000 in
set_option maxHeartbeats 4000000 in
theorem q_wrong9 (l : Launch) (D : va_G) (cI cB cZ : ClassId) (g : Nat → Nat) (cn : Nat → Nat) (In : Nat → Int32) (Fn : Nat → Nat → Int32) (v0 v1 : Int32) (sz : Nat) (hI : IM cn Fn) : Met l yX12_wrong (CWS yX12_wrong cX12_wrong 3 (some .boolean)) (RM 0 0 0) (PBw [.ref (g 100), .int v0, .int v1] D cI cB cZ (wM cI cB cZ g cn In Fn) sz) (va_Qi (fun (r : Int32) (u : (Nat → Nat) × (Nat → Int32) × (Nat → Nat → Int32)) => (fun r c2 I2 F2 => (∀ k : Nat, k ∉ [21] → I2 k = In k) ∧ ((r = 0 ∧ (I2 21 = (-1000) * v0 - v1) ∧ cn = c2 ∧ Fn = F2))) r u.1 u.2.1 u.2.2) (fun (u : (Nat → Nat) × (Nat → Int32) × (Nat → Nat → Int32)) (t : State) => va_P D vwCl (wM cI cB cZ g u.1 u.2.1 u.2.2) t.heap ∧ va_D (va_A (wM cI cB cZ g cn In Fn) sz) (wM cI cB cZ g u.1 u.2.1 u.2.2)) (va_A (wM cI cB cZ g cn In Fn) sz)) 0 0 (va_A (wM cI cB cZ g cn In Fn) sz) := by
  refine en_w (fun A => (va_Qi (fun (r : Int32) (u : (Nat → Nat) × (Nat → Int32) × (Nat → Nat → Int32)) => (fun (r : Int32) (c2 : Nat → Nat) (I2 : Nat → Int32) (F2 : Nat → Nat → Int32) => (∀ k : Nat, k ∉ [21] → I2 k = In k) ∧ ((r = 0 ∧ (I2 21 = (-1000) * v0 - v1) ∧ cn = c2 ∧ Fn = F2))) r u.1 u.2.1 u.2.2) (fun (u : (Nat → Nat) × (Nat → Int32) × (Nat → Nat → Int32)) (t : State) => va_P D vwCl (wM cI cB cZ g u.1 u.2.1 u.2.2) t.heap ∧ va_D A (wM cI cB cZ g u.1 u.2.1 u.2.2)) A)) rfl rfl pn_RX12 (Nat.le_of_ble_eq_true rfl) (fun p e s m below meth c A hx hb hml hown S hr hlocks hnm hA hP hK hD hS ls hl => ?_)
  have hl : lv_has ls 3 [(0, .ref (g 100)), (1, .int v0), (2, .int v1)] := hl
  have hi_cn : Hid (CB cn) := hI.b
  refine lv_aload_n hx hb (oc_42 0 shX12_wrong_0) rfl (lvA0 hl) ?_
  refine lv_sipush (v := (-1000)) hx hb (oc_17 1 (aq_1 shX12_wrong_0) sgw_252_24) (by decide) ?_
  refine lv_iload_n hx hb (oc_27 4 (aq_4 shX12_wrong_0)) rfl (lvA1 hl) ?_
  refine lv_imul hx hb (oc_104 5 (aq_5 shX12_wrong_0)) ?_
  refine lv_iload_n hx hb (oc_28 6 (aq_6 shX12_wrong_0)) rfl (lvA2 hl) ?_
  refine lv_isub hx hb (oc_100 7 (aq_7 shX12_wrong_0)) ?_
  refine pM_243 S hK hP hD hS (In2 := (va_up In 21 (((-1000) * v0) - v1))) rfl (oc_181 8 (aq_8 shX12_wrong_0) uw_0_243) (fun H locs hP hD hS => ?_)
  refine lv_iconst (v := 0) hx hb (oc_3 11 (aq_11 shX12_wrong_0)) kic_0 ?_
  exact W.zret (v := 0) hx hb hr rfl (fun t ht hW => ⟨⟨0, (cn, (va_up In 21 (((-1000) * v0) - v1)), Fn), rfl, ⟨(show Fr [] [21] [] cn In Fn cn (va_up In 21 (((-1000) * v0) - v1)) Fn from Fr.mo (Fr.i 21 (Fr.rf (cn := cn) (In := In) (Fn := Fn))) (sbl rfl) (sbl rfl) (sbl rfl)).2.1, ⟨rfl, rfl, rfl, rfl⟩⟩, by rw [ht]; exact hP, hD⟩, hS.F ht⟩) hS.2.2 (oc_172 12 (aq_12 shX12_wrong_0))
set_option maxRecDepth 100000 in
set_option maxHeartbeats 4000000 in
theorem q_opens9 (l : Launch) (D : va_G) (cI cB cZ : ClassId) (g : Nat → Nat) (cn : Nat → Nat) (In : Nat → Int32) (Fn : Nat → Nat → Int32) (k0 : Nat) (sz : Nat) (hI : IM cn Fn) (h24 : cn 24 < 180) : Met l yX12_opens (CWS yX12_opens cX12_opens 2 (some .boolean)) (RM 1 0 0) (PBw [.ref (g 100), .int (nI k0)] D cI cB cZ (wM cI cB cZ g cn In Fn) sz) (va_Qi (fun (r : Int32) (u : (Nat → Nat) × (Nat → Int32) × (Nat → Nat → Int32)) => (fun r c2 I2 F2 => (∀ k : Nat, k ∉ [21, 22] → I2 k = In k) ∧ ((r = 0 ∧ ((In 22 : Int32) = 6 ∧ I2 21 = (-1000) * 5 - nI (cn 19)) ∧ cn = c2 ∧ Fn = F2) ∨ (r = 1 ∧ (¬ (In 22 : Int32) = 6 ∧ I2 22 = (In 22 : Int32) + 1) ∧ (va_up (va_up cn 24 (cn 24 + 1)) 19 (cn 19 + 1)) = c2 ∧ (va_up Fn 28 (upd (Fn 28) (cn 24) (nI (k0 * 1048576)))) = F2))) r u.1 u.2.1 u.2.2) (fun (u : (Nat → Nat) × (Nat → Int32) × (Nat → Nat → Int32)) (t : State) => va_P D vwCl (wM cI cB cZ g u.1 u.2.1 u.2.2) t.heap ∧ va_D (va_A (wM cI cB cZ g cn In Fn) sz) (wM cI cB cZ g u.1 u.2.1 u.2.2)) (va_A (wM cI cB cZ g cn In Fn) sz)) 0 0 (va_A (wM cI cB cZ g cn In Fn) sz) := by
  refine en_w (fun A => (va_Qi (fun (r : Int32) (u : (Nat → Nat) × (Nat → Int32) × (Nat → Nat → Int32)) => (fun (r : Int32) (c2 : Nat → Nat) (I2 : Nat → Int32) (F2 : Nat → Nat → Int32) => (∀ k : Nat, k ∉ [21, 22] → I2 k = In k) ∧ ((r = 0 ∧ ((In 22 : Int32) = 6 ∧ I2 21 = (-1000) * 5 - nI (cn 19)) ∧ cn = c2 ∧ Fn = F2) ∨ (r = 1 ∧ (¬ (In 22 : Int32) = 6 ∧ I2 22 = (In 22 : Int32) + 1) ∧ (va_up (va_up cn 24 (cn 24 + 1)) 19 (cn 19 + 1)) = c2 ∧ (va_up Fn 28 (upd (Fn 28) (cn 24) (nI (k0 * 1048576)))) = F2))) r u.1 u.2.1 u.2.2) (fun (u : (Nat → Nat) × (Nat → Int32) × (Nat → Nat → Int32)) (t : State) => va_P D vwCl (wM cI cB cZ g u.1 u.2.1 u.2.2) t.heap ∧ va_D A (wM cI cB cZ g u.1 u.2.1 u.2.2)) A)) rfl rfl pn_RX12 (Nat.le_of_ble_eq_true rfl) (fun p e s m below meth c A hx hb hml hown S hr hlocks hnm hA hP hK hD hS ls hl => ?_)
  have hl : lv_has ls 2 [(0, .ref (g 100)), (1, .int (nI k0))] := hl
  have hi_cn : Hid (CB cn) := hI.b
  refine lv_aload_n hx hb (oc_42 0 shX12_opens_0) rfl (lvA0 hl) ?_
  refine gM_261 S hK hP (v := .int (In 22)) rfl (oc_180 1 (aq_1 shX12_opens_0) uw_1_5) ?_
  refine lv_bipush (v := 6) hx hb (oc_16 4 (aq_4 shX12_opens_0) sgb_6) kbc_6 ?_
  refine lv_icmp_ne (tgt := 19) hx hb (oc_160 6 (aq_6 shX12_opens_0) sgw_0_13) rfl (fun c_1 => ?_) (fun c_1 => ?_)
  ·
    have tc_1 : ((In 22).toInt : Int) ≠ 6 := fun q => c_1 (Int32.toInt_inj.mp q)
    refine lv_aload_n hx hb (oc_42 19 (aq_19 shX12_opens_0)) rfl (lvA0 hl) ?_
    refine lv_aload_n hx hb (oc_42 20 (aq_20 shX12_opens_0)) rfl (lvA0 hl) ?_
    refine gM_261 S hK hP (v := .int (In 22)) rfl (oc_180 21 (aq_21 shX12_opens_0) uw_1_5) ?_
    refine lv_iconst (v := 1) hx hb (oc_4 24 shX12_opens_24) kic_1 ?_
    refine lv_iadd hx hb (oc_96 25 (aq_1 shX12_opens_24)) ?_
    refine pM_261 S hK hP hD hS (In2 := (va_up In 22 ((In 22) + 1))) rfl (oc_181 26 (aq_2 shX12_opens_24) uw_1_5) (fun H locs hP hD hS => ?_)
    refine lv_aload_n hx hb (oc_42 29 (aq_5 shX12_opens_24)) rfl (lvA0 hl) ?_
    refine gM_59 S hK hP (v := .ref (g 28)) rfl (oc_180 30 (aq_6 shX12_opens_24) uw_0_59) ?_
    refine lv_aload_n hx hb (oc_42 33 (aq_9 shX12_opens_24)) rfl (lvA0 hl) ?_
    refine gM_264 S hK hP (v := .int (nI (cn 24))) rfl (oc_180 34 (aq_10 shX12_opens_24) uw_1_8) ?_
    refine lv_ldcw (v := 1048576) hx hb hown (S.2.2.2.2 _ (wk7_17 11 rfl rfl)) (oc_19 37 (aq_13 shX12_opens_24) uw_1_4) ?_
    refine lv_iload_n hx hb (oc_27 40 (aq_16 shX12_opens_24)) rfl (lvA1 hl) ?_
    refine lv_imul hx hb (oc_104 41 (aq_17 shX12_opens_24)) ?_
    refine lv_topi (fun y_2 ey_2 => ?_)
    obtain rfl : y_2 = (nI (k0 * 1048576)) := ey_2.trans ((pk_mul 1048576 k0).trans (congrArg nI (Nat.mul_comm _ _)))
    have kb_1 : (cn 24) < 180 := by (first | omega | (have zz0 := Hid.u hi_cn; omega))
    refine stM_28 hx hb hK hP hD hS (Fn2 := (va_up Fn 28 (upd (Fn 28) (cn 24) (nI (k0 * 1048576))))) (vp_in_nI kb_1 (ltb rfl)) (nI_clamp (Nat.lt_trans kb_1 (ltb rfl))) rfl (oc_79 42 (aq_18 shX12_opens_24)) (fun H locs hP hD hS => ?_)
    refine lv_aload_n hx hb (oc_42 43 (aq_19 shX12_opens_24)) rfl (lvA0 hl) ?_
    refine lv_aload_n hx hb (oc_42 44 (aq_20 shX12_opens_24)) rfl (lvA0 hl) ?_
    refine gM_264 S hK hP (v := .int (nI (cn 24))) rfl (oc_180 45 (aq_21 shX12_opens_24) uw_1_8) ?_
    refine lv_iconst (v := 1) hx hb (oc_4 48 shX12_opens_48) kic_1 ?_
    refine lv_iadd hx hb (oc_96 49 (aq_1 shX12_opens_48)) ?_
    refine lv_topi (fun y_3 ey_3 => ?_)
    obtain rfl : y_3 = (nI ((cn 24) + 1)) := ey_3.trans (nI_add (cn 24) 1)
    refine pM_264 S hK hP hD hS (a := ((cn 24) + 1)) (cn2 := (va_up cn 24 ((cn 24) + 1))) rfl rfl (oc_181 50 (aq_2 shX12_opens_48) uw_1_8) (fun H locs hP hD hS => ?_)
    refine lv_aload_n hx hb (oc_42 53 (aq_5 shX12_opens_48)) rfl (lvA0 hl) ?_
    refine lv_aload_n hx hb (oc_42 54 (aq_6 shX12_opens_48)) rfl (lvA0 hl) ?_
    refine gM_233 S hK hP (v := .int (nI (cn 19))) rfl (oc_180 55 (aq_7 shX12_opens_48) uw_0_233) ?_
    refine lv_iconst (v := 1) hx hb (oc_4 58 (aq_10 shX12_opens_48)) kic_1 ?_
    refine lv_iadd hx hb (oc_96 59 (aq_11 shX12_opens_48)) ?_
    refine lv_topi (fun y_4 ey_4 => ?_)
    obtain rfl : y_4 = (nI ((cn 19) + 1)) := ey_4.trans (nI_add (cn 19) 1)
    refine pM_233 S hK hP hD hS (a := ((cn 19) + 1)) (cn2 := (va_up (va_up cn 24 ((cn 24) + 1)) 19 ((cn 19) + 1))) rfl rfl (oc_181 60 (aq_12 shX12_opens_48) uw_0_233) (fun H locs hP hD hS => ?_)
    refine lv_iconst (v := 1) hx hb (oc_4 63 (aq_15 shX12_opens_48)) kic_1 ?_
    exact W.zret (v := 1) hx hb hr rfl (fun t ht hW => ⟨⟨1, ((va_up (va_up cn 24 ((cn 24) + 1)) 19 ((cn 19) + 1)), (va_up In 22 ((In 22) + 1)), (va_up Fn 28 (upd (Fn 28) (cn 24) (nI (k0 * 1048576))))), rfl, ⟨(show Fr [19, 24] [21, 22] [28] cn In Fn (va_up (va_up cn 24 ((cn 24) + 1)) 19 ((cn 19) + 1)) (va_up In 22 ((In 22) + 1)) (va_up Fn 28 (upd (Fn 28) (cn 24) (nI (k0 * 1048576)))) from Fr.mo (Fr.f 28 (Fr.i 22 (Fr.c 19 (Fr.c 24 (Fr.rf (cn := cn) (In := In) (Fn := Fn)))))) (sbl rfl) (sbl rfl) (sbl rfl)).2.1, (Or.inr ⟨rfl, ⟨by assumption, rfl⟩, rfl, rfl⟩)⟩, by rw [ht]; exact hP, hD⟩, hS.F ht⟩) hS.2.2 (oc_172 64 (aq_16 shX12_opens_48))
  ·
    have tc_1 : ((In 22).toInt : Int) = 6 := congrArg Int32.toInt c_1
    refine lv_aload_n hx hb (oc_42 9 (aq_9 shX12_opens_0)) rfl (lvA0 hl) ?_
    refine lv_iconst (v := 5) hx hb (oc_8 10 (aq_10 shX12_opens_0)) kic_5 ?_
    refine lv_aload_n hx hb (oc_42 11 (aq_11 shX12_opens_0)) rfl (lvA0 hl) ?_
    refine gM_233 S hK hP (v := .int (nI (cn 19))) rfl (oc_180 12 (aq_12 shX12_opens_0) uw_0_233) ?_
    have hFc := free_all hD hS hA
    refine va_calli (runV_a (As := [.int 5, .int (nI (cn 19))]) (rest := []) S (q_wrong9 l D cI cB cZ g cn In Fn 5 (nI (cn 19)) s.heap.size hI) kV_RX12_246 hK hP hD 0 rfl rfl rfl ⟨Nat.le_of_ble_eq_true rfl, Nat.le_of_ble_eq_true rfl⟩ ⟨Nat.le_of_ble_eq_true rfl, Nat.le_of_ble_eq_true rfl⟩ rfl hl.1 rfl (Nat.le_of_ble_eq_true rfl) (oc_182 15 (aq_15 shX12_opens_0) uw_0_246)) hS (fun q _ h => hFc q h) hFc (fun r_5 u t H1 locs ht hvm wh_6 hB hz1 hk1 hS => ?_)
    obtain ⟨cn6, In6, Fn6⟩ := u
    obtain ⟨hP1, hD1⟩ := hB
    rw [ht] at hP1
    have vh_6 : (fun r c2 I2 F2 => (∀ k : Nat, k ∉ [21] → I2 k = In k) ∧ ((r = 0 ∧ (I2 21 = (-1000) * 5 - (nI (cn 19))) ∧ cn = c2 ∧ Fn = F2))) r_5 cn6 In6 Fn6 := wh_6
    obtain ⟨hI6_, vh_6⟩ := vh_6
    obtain ⟨rfl, h_6, rfl, rfl⟩ := vh_6
    have hf6 : Fr [19, 24] [21, 22] [28] cn In Fn cn In6 Fn := Fr.mo (Fr.tr (Fr.rf (cn := cn) (In := In) (Fn := Fn)) (show Fr [] [21] [] cn In Fn cn In6 Fn from ⟨fun _ _ => rfl, hI6_, fun _ _ => rfl⟩)) (sbl rfl) (sbl rfl) (sbl rfl)
    have hP : va_P D vwCl (wM cI cB cZ g cn In6 Fn) H1 := hP1
    have hD : va_D A (wM cI cB cZ g cn In6 Fn) := hD1.weaken (fun _ _ _ h => hFc _ h)
    generalize H1 = H at hP hS ⊢
    exact W.zret (v := 0) hx hb hr rfl (fun t ht hW => ⟨⟨0, (cn, In6, Fn), rfl, ⟨(show Fr [19, 24] [21, 22] [28] cn In Fn cn In6 Fn from Fr.mo hf6 (sbl rfl) (sbl rfl) (sbl rfl)).2.1, (Or.inl ⟨rfl, ⟨by assumption, h_6⟩, rfl, rfl⟩)⟩, by rw [ht]; exact hP, hD⟩, hS.F ht⟩) hS.2.2 (oc_172 18 (aq_18 shX12_opens_0))
set_option maxRecDepth 100000 in
set_option maxHeartbeats 4000000 in
theorem q_readsNumber9 (l : Launch) (D : va_G) (cI cB cZ : ClassId) (g : Nat → Nat) (cn : Nat → Nat) (In : Nat → Int32) (Fn : Nat → Nat → Int32) (bb : Nat → Int32) (nn : Nat) (sz : Nat) (hI : IM cn Fn) (hp : cn 19 ≤ cn 20) (hn : cn 20 ≤ 160) (hdg : cn 19 < cn 20 ∧ 48 ≤ (hereM cn Fn).toInt ∧ (hereM cn Fn).toInt ≤ 57) (heb : bbM Fn = bb) (hnn : cn 20 = nn) : Met l yX12_readsNumber (CWS yX12_readsNumber cX12_readsNumber 2 (some .boolean)) (RM 2 0 0) (PBw [.ref (g 100)] D cI cB cZ (wM cI cB cZ g cn In Fn) sz) (va_Qi (fun (r : Int32) (u : (Nat → Nat) × (Nat → Int32) × (Nat → Nat → Int32)) => (fun r c2 I2 F2 => Fr [19, 26] [21] [] cn In Fn c2 I2 F2 ∧ IM c2 F2 ∧ (((r : Int32) = 0 ∨ (r = 1 ∧ cn 19 < c2 19 ∧ c2 19 ≤ cn 20 ∧ c2 26 < 1000000)) ∧ (((r : Int32) = 0 → ∃ e9 : Nat, (∀ u9 : OutT, atmL bb nn (cn 19) u9 = .error e9) ∧ FLT I2 e9) ∧ ((r : Int32) = 1 → ∀ u9 : OutT, atmL bb nn (cn 19) u9 = .ok (c2 19, u9 ++ [(1, c2 26)]))))) r u.1 u.2.1 u.2.2) (fun (u : (Nat → Nat) × (Nat → Int32) × (Nat → Nat → Int32)) (t : State) => va_P D vwCl (wM cI cB cZ g u.1 u.2.1 u.2.2) t.heap ∧ va_D (va_A (wM cI cB cZ g cn In Fn) sz) (wM cI cB cZ g u.1 u.2.1 u.2.2)) (va_A (wM cI cB cZ g cn In Fn) sz)) 0 0 (va_A (wM cI cB cZ g cn In Fn) sz) := by
  refine en_w (fun A => (va_Qi (fun (r : Int32) (u : (Nat → Nat) × (Nat → Int32) × (Nat → Nat → Int32)) => (fun (r : Int32) (c2 : Nat → Nat) (I2 : Nat → Int32) (F2 : Nat → Nat → Int32) => Fr [19, 26] [21] [] cn In Fn c2 I2 F2 ∧ IM c2 F2 ∧ (((r : Int32) = 0 ∨ (r = 1 ∧ cn 19 < c2 19 ∧ c2 19 ≤ cn 20 ∧ c2 26 < 1000000)) ∧ (((r : Int32) = 0 → ∃ e9 : Nat, (∀ u9 : OutT, atmL bb nn (cn 19) u9 = .error e9) ∧ FLT I2 e9) ∧ ((r : Int32) = 1 → ∀ u9 : OutT, atmL bb nn (cn 19) u9 = .ok (c2 19, u9 ++ [(1, c2 26)]))))) r u.1 u.2.1 u.2.2) (fun (u : (Nat → Nat) × (Nat → Int32) × (Nat → Nat → Int32)) (t : State) => va_P D vwCl (wM cI cB cZ g u.1 u.2.1 u.2.2) t.heap ∧ va_D A (wM cI cB cZ g u.1 u.2.1 u.2.2)) A)) rfl rfl pn_RX12 (Nat.le_of_ble_eq_true rfl) (fun p e s m below meth c A hx hb hml hown S hr hlocks hnm hA hP hK hD hS ls hl => ?_)
  have hl : lv_has ls 2 [(0, .ref (g 100))] := hl
  have hi_cn : Hid (CB cn) := hI.b
  have hd0 := dg_y (pk_here (c := cn) (F := Fn) heb hnn) hdg
  refine lv_aload_n hx hb (oc_42 0 shX12_readsNumber_0) rfl (lvA0 hl) ?_
  refine gM_233 S hK hP (v := .int (nI (cn 19))) rfl (oc_180 1 (aq_1 shX12_readsNumber_0) uw_0_233) ?_
  refine lv_istore_n (lv' := [(1, .int (nI (cn 19))), (0, .ref (g 100))]) hx hb (oc_60 4 (aq_4 shX12_readsNumber_0)) rfl hl (ltb rfl) rfl (fun ls hl => ?_)
  refine lv_aload_n hx hb (oc_42 5 (aq_5 shX12_readsNumber_0)) rfl (lvA1 hl) ?_
  refine lv_iconst (v := 0) hx hb (oc_3 6 (aq_6 shX12_readsNumber_0)) kic_0 ?_
  refine pM_250 S hK hP hD hS (a := 0) (cn2 := (va_up cn 26 0)) rfl rfl (oc_181 7 (aq_7 shX12_readsNumber_0) uw_0_250) (fun H locs hP hD hS => ?_)
  have lp_10 : ∀ (n : Nat)  (c10 : Nat → Nat) (I10 : Nat → Int32) (H : Heap) (locs : List Loc) , cn 20 - c10 19 < n → (Fr [19, 26] [21] [] cn In Fn c10 I10 Fn ∧ IM c10 Fn ∧ (cn 19 ≤ c10 19 ∧ c10 19 ≤ cn 19 + 6 ∧ c10 26 < 10 ^ (c10 19 - cn 19)) ∧ (c10 19 ≤ cn 20) ∧ (numL bb nn (6 - (c10 19 - cn 19)) (c10 19) (c10 26) = numL bb nn 6 (cn 19) 0)) → va_P D vwCl (wM cI cB cZ g c10 I10 Fn) H → va_D A (wM cI cB cZ g c10 I10 Fn) → va_S A s.heap H locs → ∀ ls : Array Slot, lv_has ls 2 [(1, .int (nI (cn 19))), (0, .ref (g 100))] → W p l e (RM 2 0 0) s m ([.ref (g 100)]).toArray below meth c H locs 0 0 (MQ below (va_Qi (fun (r : Int32) (u : (Nat → Nat) × (Nat → Int32) × (Nat → Nat → Int32)) => (fun r c2 I2 F2 => Fr [19, 26] [21] [] cn In Fn c2 I2 F2 ∧ IM c2 F2 ∧ (((r : Int32) = 0 ∨ (r = 1 ∧ cn 19 < c2 19 ∧ c2 19 ≤ cn 20 ∧ c2 26 < 1000000)) ∧ (((r : Int32) = 0 → ∃ e9 : Nat, (∀ u9 : OutT, atmL bb nn (cn 19) u9 = .error e9) ∧ FLT I2 e9) ∧ ((r : Int32) = 1 → ∀ u9 : OutT, atmL bb nn (cn 19) u9 = .ok (c2 19, u9 ++ [(1, c2 26)]))))) r u.1 u.2.1 u.2.2) (fun (u : (Nat → Nat) × (Nat → Int32) × (Nat → Nat → Int32)) (t : State) => va_P D vwCl (wM cI cB cZ g u.1 u.2.1 u.2.2) t.heap ∧ va_D A (wM cI cB cZ g u.1 u.2.1 u.2.2)) A) ([.ref (g 100)]).toArray s 0 0 A) (F0 m 10 ls []) := by
    intro n10
    induction n10 with
    | zero => intros; (first | omega | (have zz0 := Hid.u hi_cn; omega))
    | succ n10 ih10 =>
      intro  c10 I10 H locs hmu10 hinv10 hP hD hS ls hl
      obtain ⟨hfr10, hI10, hx10_0, hx10_1, hx10_2⟩ := hinv10
      have hi_c10 : Hid (CB c10) := hI10.b
      have : c10 20 = cn 20 := hfr10.1 20 (nml rfl)
      have : c10 23 = cn 23 := hfr10.1 23 (nml rfl)
      have : c10 24 = cn 24 := hfr10.1 24 (nml rfl)
      have : c10 25 = cn 25 := hfr10.1 25 (nml rfl)
      have hq_c10 := Hid.i (frq_19_26_0_1_2_46_57_58_62_63_75_83_44 hfr10)
      refine lv_aload_n hx hb (oc_42 10 (aq_10 shX12_readsNumber_0)) rfl (lvA1 hl) ?_
      refine vp_callSi (runV_ra (As := []) (rest := []) S (q_isDigit l D cI cB cZ g c10 I10 Fn  hI10 (by (first | omega | (have zz0 := Hid.u hi_c10; have zz1 := Hid.u hi_cn; have zz2 := Hid.u hq_c10; omega))) (by (first | omega | (have zz0 := Hid.u hi_c10; have zz1 := Hid.u hi_cn; have zz2 := Hid.u hq_c10; omega)))) kV_RX12_253 hK hP 0 rfl rfl rfl ⟨Nat.le_of_ble_eq_true rfl, Nat.le_of_ble_eq_true rfl⟩ ⟨Nat.le_of_ble_eq_true rfl, Nat.le_of_ble_eq_true rfl⟩ rfl hl.1 rfl (Nat.le_of_ble_eq_true rfl) (oc_182 11 (aq_11 shX12_readsNumber_0) uw_0_253)) (fun r_1 h_2 => ?_)
      rcases h_2 with ⟨rfl, h_2⟩ | ⟨rfl, h_2⟩
      ·
        have h_2 : (c10 19) < (c10 20) ∧ 48 ≤ (hereM c10 Fn).toInt ∧ (hereM c10 Fn).toInt ≤ 57 := h_2
        refine lv_if_eq (tgt := 70) hx hb dX12_readsNumber_14 rfl (fun h => absurd h cq_eq_1_0) (fun _ => ?_)
        refine lv_aload_n hx hb (oc_42 17 (aq_17 shX12_readsNumber_0)) rfl (lvA1 hl) ?_
        refine gM_233 S hK hP (v := .int (nI (c10 19))) rfl (oc_180 18 (aq_18 shX12_readsNumber_0) uw_0_233) ?_
        refine lv_iload_n hx hb (oc_27 21 (aq_21 shX12_readsNumber_0)) rfl (lvA0 hl) ?_
        refine lv_bipush (v := 6) hx hb (oc_16 22 (aq_22 shX12_readsNumber_0) sgb_6) kbc_6 ?_
        refine lv_iadd hx hb (oc_96 24 shX12_readsNumber_24) ?_
        refine lv_topi (fun y_3 ey_3 => ?_)
        obtain rfl : y_3 = (nI ((cn 19) + 6)) := ey_3.trans (nI_add (cn 19) 6)
        have : (nI (c10 19)).toInt = (((c10 19) : Nat) : Int) := nI_toInt (by (first | omega | (have zz0 := Hid.u hi_c10; have zz1 := Hid.u hi_cn; have zz2 := Hid.u hq_c10; omega)))
        have : (nI ((cn 19) + 6)).toInt = ((((cn 19) + 6) : Nat) : Int) := nI_toInt (by (first | omega | (have zz0 := Hid.u hi_c10; have zz1 := Hid.u hi_cn; have zz2 := Hid.u hq_c10; omega)))
        refine lv_icmp_ne (tgt := 38) hx hb (oc_160 25 (aq_1 shX12_readsNumber_24) sgw_0_13) rfl (fun c_4 => ?_) (fun c_4 => ?_)
        ·
          have tc_4 : ((nI (c10 19)).toInt : Int) ≠ (nI ((cn 19) + 6)).toInt := fun q => c_4 (Int32.toInt_inj.mp q)
          refine lv_aload_n hx hb (oc_42 38 (aq_14 shX12_readsNumber_24)) rfl (lvA1 hl) ?_
          refine lv_bipush (v := 10) hx hb (oc_16 39 (aq_15 shX12_readsNumber_24) sgb_10) kbc_10 ?_
          refine lv_aload_n hx hb (oc_42 41 (aq_17 shX12_readsNumber_24)) rfl (lvA1 hl) ?_
          refine gM_250 S hK hP (v := .int (nI (c10 26))) rfl (oc_180 42 (aq_18 shX12_readsNumber_24) uw_0_250) ?_
          refine lv_imul hx hb (oc_104 45 (aq_21 shX12_readsNumber_24)) ?_
          refine lv_topi (fun y_5 ey_5 => ?_)
          obtain rfl : y_5 = (nI (10 * (c10 26))) := ey_5.trans (pk_mul 10 (c10 26))
          refine lv_aload_n hx hb (oc_42 46 (aq_22 shX12_readsNumber_24)) rfl (lvA1 hl) ?_
          refine vp_callSi (runV_ra (As := []) (rest := [.int (nI (10 * (c10 26))), .ref (g 100)]) S (q_here l D cI cB cZ g c10 I10 Fn  hI10 (by (first | omega | (have zz0 := Hid.u hi_c10; have zz1 := Hid.u hi_cn; have zz2 := Hid.u hq_c10; omega))) (by (first | omega | (have zz0 := Hid.u hi_c10; have zz1 := Hid.u hi_cn; have zz2 := Hid.u hq_c10; omega)))) kV_RX12_239 hK hP 0 rfl rfl rfl ⟨Nat.le_of_ble_eq_true rfl, Nat.le_of_ble_eq_true rfl⟩ ⟨Nat.le_of_ble_eq_true rfl, Nat.le_of_ble_eq_true rfl⟩ rfl hl.1 rfl (Nat.le_of_ble_eq_true rfl) (oc_182 47 (aq_23 shX12_readsNumber_24) uw_0_239)) (fun r_6 h_7 => ?_)
          have hpk9 : pk bb nn (c10 19) = r_6 := (pk_here (c := c10) (F := Fn) heb (show c10 20 = nn by (first | omega | (have zz0 := Hid.u hi_c10; have zz1 := Hid.u hi_cn; have zz2 := Hid.u hq_c10; omega)))).trans h_7.1.symm
          have hd10 : ∃ d : Nat, 48 ≤ d ∧ d ≤ 57 ∧ r_6 = nI d := ⟨r_6.toInt.toNat, by (first | omega | (have zz0 := Hid.u hi_c10; have zz1 := Hid.u hi_cn; have zz2 := Hid.u hq_c10; omega)), by (first | omega | (have zz0 := Hid.u hi_c10; have zz1 := Hid.u hi_cn; have zz2 := Hid.u hq_c10; omega)), nI_ofT (by (first | omega | (have zz0 := Hid.u hi_c10; have zz1 := Hid.u hi_cn; have zz2 := Hid.u hq_c10; omega))) (by (first | omega | (have zz0 := Hid.u hi_c10; have zz1 := Hid.u hi_cn; have zz2 := Hid.u hq_c10; omega)))⟩
          obtain ⟨d10, hd48, hd57, hdr⟩ := hd10
          obtain rfl : r_6 = nI d10 := hdr
          refine lv_iadd hx hb (oc_96 50 shX12_readsNumber_50) ?_
          refine lv_topi (fun y_8 ey_8 => ?_)
          obtain rfl : y_8 = (nI ((10 * (c10 26)) + d10)) := ey_8.trans (nI_add (10 * (c10 26)) d10)
          refine lv_bipush (v := 48) hx hb (oc_16 51 (aq_1 shX12_readsNumber_50) sgb_48) kbc_48 ?_
          refine lv_isub hx hb (oc_100 53 (aq_3 shX12_readsNumber_50)) ?_
          refine lv_topi (fun y_9 ey_9 => ?_)
          obtain rfl : y_9 = (nI (10 * c10 26 + d10 - 48)) := ey_9.trans (nI_sub (b := 48) (by (first | omega | (have zz0 := Hid.u hi_c10; have zz1 := Hid.u hi_cn; have zz2 := Hid.u hq_c10; omega))))
          refine pM_250 S hK hP hD hS (a := (10 * c10 26 + d10 - 48)) (cn2 := (va_up c10 26 (10 * c10 26 + d10 - 48))) rfl rfl (oc_181 54 (aq_4 shX12_readsNumber_50) uw_0_250) (fun H locs hP hD hS => ?_)
          refine lv_aload_n hx hb (oc_42 57 (aq_7 shX12_readsNumber_50)) rfl (lvA1 hl) ?_
          refine lv_aload_n hx hb (oc_42 58 (aq_8 shX12_readsNumber_50)) rfl (lvA1 hl) ?_
          refine gM_233 S hK hP (v := .int (nI (c10 19))) rfl (oc_180 59 (aq_9 shX12_readsNumber_50) uw_0_233) ?_
          refine lv_iconst (v := 1) hx hb (oc_4 62 (aq_12 shX12_readsNumber_50)) kic_1 ?_
          refine lv_iadd hx hb (oc_96 63 (aq_13 shX12_readsNumber_50)) ?_
          refine lv_topi (fun y_10 ey_10 => ?_)
          obtain rfl : y_10 = (nI ((c10 19) + 1)) := ey_10.trans (nI_add (c10 19) 1)
          refine pM_233 S hK hP hD hS (a := ((c10 19) + 1)) (cn2 := (va_up (va_up c10 26 (10 * c10 26 + d10 - 48)) 19 ((c10 19) + 1))) rfl rfl (oc_181 64 (aq_14 shX12_readsNumber_50) uw_0_233) (fun H locs hP hD hS => ?_)
          refine lv_goto (tgt := 10) hx hb (oc_167 67 (aq_17 shX12_readsNumber_50) sgw_255_199) rfl ?_
          exact ih10  (va_up (va_up c10 26 (10 * c10 26 + d10 - 48)) 19 ((c10 19) + 1)) I10 _ _ (show cn 20 - ((c10 19) + 1) < n10 by (first | omega | (have zz0 := Hid.u hi_c10; have zz1 := Hid.u hi_cn; have zz2 := Hid.u hq_c10; omega))) ⟨(Fr.mo (Fr.c 19 (Fr.c 26 hfr10)) (sbl rfl) (sbl rfl) (sbl rfl)), (IM.fr (In := I10) hI10 (Fr.c 19 (Fr.c 26 Fr.rf)) (by decide) (by decide)), ⟨by show cn 19 ≤ c10 19 + 1; (first | omega | (have zz0 := Hid.u hi_c10; have zz1 := Hid.u hi_cn; have zz2 := Hid.u hq_c10; omega)), by show c10 19 + 1 ≤ cn 19 + 6; (first | omega | (have zz0 := Hid.u hi_c10; have zz1 := Hid.u hi_cn; have zz2 := Hid.u hq_c10; omega)), by show 10 * c10 26 + d10 - 48 < 10 ^ (c10 19 + 1 - cn 19); rw [show c10 19 + 1 - cn 19 = c10 19 - cn 19 + 1 by (first | omega | (have zz0 := Hid.u hi_c10; have zz1 := Hid.u hi_cn; have zz2 := Hid.u hq_c10; omega)), Nat.pow_succ]; (first | omega | (have zz0 := Hid.u hi_c10; have zz1 := Hid.u hi_cn; have zz2 := Hid.u hq_c10; omega))⟩, (by show c10 19 + 1 ≤ cn 20; (first | omega | (have zz0 := Hid.u hi_c10; have zz1 := Hid.u hi_cn; have zz2 := Hid.u hq_c10; omega))), (num_bk hx10_2 (by (first | omega | (have zz0 := Hid.u hi_c10; have zz1 := Hid.u hi_cn; have zz2 := Hid.u hq_c10; omega))) (by (first | omega | (have zz0 := Hid.u hi_c10; have zz1 := Hid.u hi_cn; have zz2 := Hid.u hq_c10; omega))) hpk9 hd48 hd57)⟩ hP hD hS ls (lv_sub hl [0, 1] rfl)
        ·
          have tc_4 : ((nI (c10 19)).toInt : Int) = (nI ((cn 19) + 6)).toInt := congrArg Int32.toInt c_4
          refine lv_aload_n hx hb (oc_42 28 (aq_4 shX12_readsNumber_24)) rfl (lvA1 hl) ?_
          refine lv_iconst (v := 2) hx hb (oc_5 29 (aq_5 shX12_readsNumber_24)) kic_2 ?_
          refine lv_aload_n hx hb (oc_42 30 (aq_6 shX12_readsNumber_24)) rfl (lvA1 hl) ?_
          refine gM_233 S hK hP (v := .int (nI (c10 19))) rfl (oc_180 31 (aq_7 shX12_readsNumber_24) uw_0_233) ?_
          have hFc := free_all hD hS hA
          refine va_calli (runV_a (As := [.int 2, .int (nI (c10 19))]) (rest := []) S (q_wrong9 l D cI cB cZ g c10 I10 Fn 2 (nI (c10 19)) H.size hI10) kV_RX12_246 hK hP hD 0 rfl rfl rfl ⟨Nat.le_of_ble_eq_true rfl, Nat.le_of_ble_eq_true rfl⟩ ⟨Nat.le_of_ble_eq_true rfl, Nat.le_of_ble_eq_true rfl⟩ rfl hl.1 rfl (Nat.le_of_ble_eq_true rfl) (oc_182 34 (aq_10 shX12_readsNumber_24) uw_0_246)) hS (fun q _ h => hFc q h) hFc (fun r_11 u t H1 locs ht hvm wh_12 hB hz1 hk1 hS => ?_)
          obtain ⟨cn12, In12, Fn12⟩ := u
          obtain ⟨hP1, hD1⟩ := hB
          rw [ht] at hP1
          have vh_12 : (fun r c2 I2 F2 => (∀ k : Nat, k ∉ [21] → I2 k = I10 k) ∧ ((r = 0 ∧ (I2 21 = (-1000) * 2 - (nI (c10 19))) ∧ c10 = c2 ∧ Fn = F2))) r_11 cn12 In12 Fn12 := wh_12
          obtain ⟨hI12_, vh_12⟩ := vh_12
          obtain ⟨rfl, h_12, rfl, rfl⟩ := vh_12
          have hf12 : Fr [19, 26] [21] [] cn In Fn c10 In12 Fn := Fr.mo (Fr.tr hfr10 (show Fr [] [21] [] c10 I10 Fn c10 In12 Fn from ⟨fun _ _ => rfl, hI12_, fun _ _ => rfl⟩)) (sbl rfl) (sbl rfl) (sbl rfl)
          have hP : va_P D vwCl (wM cI cB cZ g c10 In12 Fn) H1 := hP1
          have hD : va_D A (wM cI cB cZ g c10 In12 Fn) := hD1.weaken (fun _ _ _ h => hFc _ h)
          generalize H1 = H at hP hS ⊢
          exact W.zret (v := 0) hx hb hr rfl (fun t ht hW => ⟨⟨0, (c10, In12, Fn), rfl, ⟨(Fr.mo hf12 (sbl rfl) (sbl rfl) (sbl rfl)), hI10, (by show ((0 : Int32) = 0 ∨ (0 = 1 ∧ cn 19 < c10 19 ∧ c10 19 ≤ cn 20 ∧ c10 26 < 1000000)) ∧ (((0 : Int32) = 0 → ∃ e9 : Nat, (∀ u9 : OutT, atmL bb nn (cn 19) u9 = .error e9) ∧ FLT In12 e9) ∧ ((0 : Int32) = 1 → ∀ u9 : OutT, atmL bb nn (cn 19) u9 = .ok (c10 19, u9 ++ [(1, c10 26)]))); exact ⟨(by exact Or.inl rfl), ⟨fun _ => ⟨_, fun o9 => num_er hd0 hx10_2 (by (first | omega | (have zz0 := Hid.u hi_c10; have zz1 := Hid.u hi_cn; have zz2 := Hid.u hq_c10; omega))) (dg_y (pk_here (c := c10) (F := Fn) (bbM_cg heb (hfr10.2.2 17 (nml rfl))) (show c10 20 = nn by (first | omega | (have zz0 := Hid.u hi_c10; have zz1 := Hid.u hi_cn; have zz2 := Hid.u hq_c10; omega)))) h_2) o9, flt_k (k := 2) (p := c10 19) (by decide) h_12⟩, (fun q => absurd q (by decide))⟩⟩)⟩, by rw [ht]; exact hP, hD⟩, hS.F ht⟩) hS.2.2 (oc_172 37 (aq_13 shX12_readsNumber_24))
      ·
        have h_2 : ¬ ((c10 19) < (c10 20) ∧ 48 ≤ (hereM c10 Fn).toInt ∧ (hereM c10 Fn).toInt ≤ 57) := h_2
        refine lv_if_eq (tgt := 70) hx hb dX12_readsNumber_14 rfl (fun _ => ?_) (fun h => absurd h cq_eq_0_0)
        have hc6 : c10 26 < 1000000 := Nat.lt_of_lt_of_le hx10_0.2.2 (show 10 ^ (c10 19 - cn 19) ≤ 10 ^ 6 from Nat.pow_le_pow_right (by (first | omega | (have zz0 := Hid.u hi_c10; have zz1 := Hid.u hi_cn; have zz2 := Hid.u hq_c10; omega))) (by (first | omega | (have zz0 := Hid.u hi_c10; have zz1 := Hid.u hi_cn; have zz2 := Hid.u hq_c10; omega))))
        refine lv_iconst (v := 1) hx hb (oc_4 70 (aq_20 shX12_readsNumber_50)) kic_1 ?_
        exact W.zret (v := 1) hx hb hr rfl (fun t ht hW => ⟨⟨1, (c10, I10, Fn), rfl, ⟨(Fr.mo hfr10 (sbl rfl) (sbl rfl) (sbl rfl)), hI10, (by show ((1 : Int32) = 0 ∨ (1 = 1 ∧ cn 19 < c10 19 ∧ c10 19 ≤ cn 20 ∧ c10 26 < 1000000)) ∧ (((1 : Int32) = 0 → ∃ e9 : Nat, (∀ u9 : OutT, atmL bb nn (cn 19) u9 = .error e9) ∧ FLT I10 e9) ∧ ((1 : Int32) = 1 → ∀ u9 : OutT, atmL bb nn (cn 19) u9 = .ok (c10 19, u9 ++ [(1, c10 26)]))); exact ⟨(by exact Or.inr ⟨rfl, by by_cases z : c10 19 = cn 19; (have e := congrArg Int32.toInt (hereM_cg (Fn := Fn) (F2 := Fn) z (hfr10.1 20 (nml rfl)) rfl); (first | omega | (have zz0 := Hid.u hi_c10; have zz1 := Hid.u hi_cn; have zz2 := Hid.u hq_c10; omega))); (first | omega | (have zz0 := Hid.u hi_c10; have zz1 := Hid.u hi_cn; have zz2 := Hid.u hq_c10; omega)), by (first | omega | (have zz0 := Hid.u hi_c10; have zz1 := Hid.u hi_cn; have zz2 := Hid.u hq_c10; omega)), hc6⟩), ⟨(fun q => absurd q (by decide)), fun _ o9 => num_ok hd0 hx10_2 (dg_n (pk_here (c := c10) (F := Fn) (bbM_cg heb (hfr10.2.2 17 (nml rfl))) (show c10 20 = nn by (first | omega | (have zz0 := Hid.u hi_c10; have zz1 := Hid.u hi_cn; have zz2 := Hid.u hq_c10; omega)))) h_2) o9⟩⟩)⟩, by rw [ht]; exact hP, hD⟩, hS.F ht⟩) hS.2.2 (oc_172 71 (aq_21 shX12_readsNumber_50))
  exact lp_10 _  (va_up cn 26 0) In _ _ (Nat.lt_succ_self _) ⟨(Fr.mo (Fr.c 26 Fr.rf) (sbl rfl) (sbl rfl) (sbl rfl)), (IM.fr (In := In) hI (Fr.c 26 Fr.rf) (by decide) (by decide)), ⟨Nat.le_refl _, by show cn 19 ≤ cn 19 + 6; (first | omega | (have zz0 := Hid.u hi_cn; omega)), by show 0 < 10 ^ (cn 19 - cn 19); rw [Nat.sub_self]; decide⟩, (by show cn 19 ≤ cn 20; (first | omega | (have zz0 := Hid.u hi_cn; omega))), (congrArg (fun t => numL bb nn t (cn 19) 0) (show 6 - (cn 19 - cn 19) = 6 by (first | omega | (have zz0 := Hid.u hi_cn; omega))))⟩ hP hD hS ls (lv_sub hl [0, 1] rfl)
set_option maxRecDepth 100000 in
set_option maxHeartbeats 4000000 in
theorem q_factOf9 (l : Launch) (D : va_G) (cI cB cZ : ClassId) (v0 : Int32)  : Met l yX12_factOf (CWS yX12_factOf cX12_factOf 1 (some .int)) (RM 0 0 0) (PBr [.int v0] D cI cB cZ []) (vp_Si (fun r => (r = -1 ∧ ltr v0 = none) ∨ ∃ n : Nat, n ≤ 10 ∧ 97 ≤ v0.toInt ∧ r = nI n ∧ ltr v0 = some n)) 0 0 (fun _ => False) := by
  refine en_r rfl pn_RX12 (Nat.le_of_ble_eq_true rfl) (fun p e s m below meth c hx hb hml hown S hr hlocks hnm hP hK hS ls hl => ?_)
  have hl : lv_has ls 1 [(0, .int v0)] := hl
  refine lv_iload_n hx hb (oc_26 0 shX12_factOf_0) rfl (lvA0 hl) ?_
  rcases (by omega : v0.toInt < 97 ∨ 119 < v0.toInt ∨ v0.toInt = 97 ∨ v0.toInt = 98 ∨ v0.toInt = 99 ∨ v0.toInt = 100 ∨ v0.toInt = 101 ∨ v0.toInt = 102 ∨ v0.toInt = 103 ∨ v0.toInt = 104 ∨ v0.toInt = 105 ∨ v0.toInt = 106 ∨ v0.toInt = 107 ∨ v0.toInt = 108 ∨ v0.toInt = 109 ∨ v0.toInt = 110 ∨ v0.toInt = 111 ∨ v0.toInt = 112 ∨ v0.toInt = 113 ∨ v0.toInt = 114 ∨ v0.toInt = 115 ∨ v0.toInt = 116 ∨ v0.toInt = 117 ∨ v0.toInt = 118 ∨ v0.toInt = 119) with c_1 | c_1 | c_1 | c_1 | c_1 | c_1 | c_1 | c_1 | c_1 | c_1 | c_1 | c_1 | c_1 | c_1 | c_1 | c_1 | c_1 | c_1 | c_1 | c_1 | c_1 | c_1 | c_1 | c_1 | c_1
  ·
    refine lv_tableOut (tgt := 135) hx hb dX12_factOf_1 (Or.inl c_1) (by decide) ?_
    refine lv_iconst (v := (-1)) hx hb dX12_factOf_135 kic_m1 ?_
    exact W.iret (v := (-1)) hx hb hr (fun t ht hW => ⟨(-1), rfl, (Or.inl ⟨rfl, ltr_no (by omega)⟩), ht⟩) (fun _ h => absurd h List.not_mem_nil) dX12_factOf_136
  ·
    refine lv_tableOut (tgt := 135) hx hb dX12_factOf_1 (Or.inr c_1) (by decide) ?_
    refine lv_iconst (v := (-1)) hx hb dX12_factOf_135 kic_m1 ?_
    exact W.iret (v := (-1)) hx hb hr (fun t ht hW => ⟨(-1), rfl, (Or.inl ⟨rfl, ltr_no (by omega)⟩), ht⟩) (fun _ h => absurd h List.not_mem_nil) dX12_factOf_136
  ·
    refine lv_tableIn (tgt := 112) (off := 111) hx hb dX12_factOf_1 (by omega) (by omega) (by rw [c_1]; rfl) (by decide) ?_
    refine lv_iconst (v := 2) hx hb (oc_5 112 (aq_4 shX12_factOf_108)) kic_2 ?_
    exact W.iret (v := 2) hx hb hr (fun t ht hW => ⟨2, rfl, (Or.inr ⟨2, by decide, by omega, rfl, ltr_is (k := 97) (z := 97) (by omega) rfl (by decide)⟩), ht⟩) (fun _ h => absurd h List.not_mem_nil) (oc_172 113 (aq_5 shX12_factOf_108))
  ·
    refine lv_tableIn (tgt := 135) (off := 134) hx hb dX12_factOf_1 (by omega) (by omega) (by rw [c_1]; rfl) (by decide) ?_
    refine lv_iconst (v := (-1)) hx hb dX12_factOf_135 kic_m1 ?_
    exact W.iret (v := (-1)) hx hb hr (fun t ht hW => ⟨(-1), rfl, (Or.inl ⟨rfl, ltr_no (by omega)⟩), ht⟩) (fun _ h => absurd h List.not_mem_nil) dX12_factOf_136
  ·
    refine lv_tableIn (tgt := 135) (off := 134) hx hb dX12_factOf_1 (by omega) (by omega) (by rw [c_1]; rfl) (by decide) ?_
    refine lv_iconst (v := (-1)) hx hb dX12_factOf_135 kic_m1 ?_
    exact W.iret (v := (-1)) hx hb hr (fun t ht hW => ⟨(-1), rfl, (Or.inl ⟨rfl, ltr_no (by omega)⟩), ht⟩) (fun _ h => absurd h List.not_mem_nil) dX12_factOf_136
  ·
    refine lv_tableIn (tgt := 114) (off := 113) hx hb dX12_factOf_1 (by omega) (by omega) (by rw [c_1]; rfl) (by decide) ?_
    refine lv_iconst (v := 3) hx hb (oc_6 114 (aq_6 shX12_factOf_108)) kic_3 ?_
    exact W.iret (v := 3) hx hb hr (fun t ht hW => ⟨3, rfl, (Or.inr ⟨3, by decide, by omega, rfl, ltr_is (k := 100) (z := 100) (by omega) rfl (by decide)⟩), ht⟩) (fun _ h => absurd h List.not_mem_nil) (oc_172 115 (aq_7 shX12_factOf_108))
  ·
    refine lv_tableIn (tgt := 135) (off := 134) hx hb dX12_factOf_1 (by omega) (by omega) (by rw [c_1]; rfl) (by decide) ?_
    refine lv_iconst (v := (-1)) hx hb dX12_factOf_135 kic_m1 ?_
    exact W.iret (v := (-1)) hx hb hr (fun t ht hW => ⟨(-1), rfl, (Or.inl ⟨rfl, ltr_no (by omega)⟩), ht⟩) (fun _ h => absurd h List.not_mem_nil) dX12_factOf_136
  ·
    refine lv_tableIn (tgt := 110) (off := 109) hx hb dX12_factOf_1 (by omega) (by omega) (by rw [c_1]; rfl) (by decide) ?_
    refine lv_iconst (v := 1) hx hb (oc_4 110 (aq_2 shX12_factOf_108)) kic_1 ?_
    exact W.iret (v := 1) hx hb hr (fun t ht hW => ⟨1, rfl, (Or.inr ⟨1, by decide, by omega, rfl, ltr_is (k := 102) (z := 102) (by omega) rfl (by decide)⟩), ht⟩) (fun _ h => absurd h List.not_mem_nil) (oc_172 111 (aq_3 shX12_factOf_108))
  ·
    refine lv_tableIn (tgt := 118) (off := 117) hx hb dX12_factOf_1 (by omega) (by omega) (by rw [c_1]; rfl) (by decide) ?_
    refine lv_iconst (v := 5) hx hb (oc_8 118 (aq_10 shX12_factOf_108)) kic_5 ?_
    exact W.iret (v := 5) hx hb hr (fun t ht hW => ⟨5, rfl, (Or.inr ⟨5, by decide, by omega, rfl, ltr_is (k := 103) (z := 103) (by omega) rfl (by decide)⟩), ht⟩) (fun _ h => absurd h List.not_mem_nil) (oc_172 119 (aq_11 shX12_factOf_108))
  ·
    refine lv_tableIn (tgt := 135) (off := 134) hx hb dX12_factOf_1 (by omega) (by omega) (by rw [c_1]; rfl) (by decide) ?_
    refine lv_iconst (v := (-1)) hx hb dX12_factOf_135 kic_m1 ?_
    exact W.iret (v := (-1)) hx hb hr (fun t ht hW => ⟨(-1), rfl, (Or.inl ⟨rfl, ltr_no (by omega)⟩), ht⟩) (fun _ h => absurd h List.not_mem_nil) dX12_factOf_136
  ·
    refine lv_tableIn (tgt := 135) (off := 134) hx hb dX12_factOf_1 (by omega) (by omega) (by rw [c_1]; rfl) (by decide) ?_
    refine lv_iconst (v := (-1)) hx hb dX12_factOf_135 kic_m1 ?_
    exact W.iret (v := (-1)) hx hb hr (fun t ht hW => ⟨(-1), rfl, (Or.inl ⟨rfl, ltr_no (by omega)⟩), ht⟩) (fun _ h => absurd h List.not_mem_nil) dX12_factOf_136
  ·
    refine lv_tableIn (tgt := 135) (off := 134) hx hb dX12_factOf_1 (by omega) (by omega) (by rw [c_1]; rfl) (by decide) ?_
    refine lv_iconst (v := (-1)) hx hb dX12_factOf_135 kic_m1 ?_
    exact W.iret (v := (-1)) hx hb hr (fun t ht hW => ⟨(-1), rfl, (Or.inl ⟨rfl, ltr_no (by omega)⟩), ht⟩) (fun _ h => absurd h List.not_mem_nil) dX12_factOf_136
  ·
    refine lv_tableIn (tgt := 120) (off := 119) hx hb dX12_factOf_1 (by omega) (by omega) (by rw [c_1]; rfl) (by decide) ?_
    refine lv_bipush (v := 6) hx hb (oc_16 120 (aq_12 shX12_factOf_108) sgb_6) kbc_6 ?_
    exact W.iret (v := 6) hx hb hr (fun t ht hW => ⟨6, rfl, (Or.inr ⟨6, by decide, by omega, rfl, ltr_is (k := 107) (z := 107) (by omega) rfl (by decide)⟩), ht⟩) (fun _ h => absurd h List.not_mem_nil) (oc_172 122 (aq_14 shX12_factOf_108))
  ·
    refine lv_tableIn (tgt := 135) (off := 134) hx hb dX12_factOf_1 (by omega) (by omega) (by rw [c_1]; rfl) (by decide) ?_
    refine lv_iconst (v := (-1)) hx hb dX12_factOf_135 kic_m1 ?_
    exact W.iret (v := (-1)) hx hb hr (fun t ht hW => ⟨(-1), rfl, (Or.inl ⟨rfl, ltr_no (by omega)⟩), ht⟩) (fun _ h => absurd h List.not_mem_nil) dX12_factOf_136
  ·
    refine lv_tableIn (tgt := 123) (off := 122) hx hb dX12_factOf_1 (by omega) (by omega) (by rw [c_1]; rfl) (by decide) ?_
    refine lv_bipush (v := 7) hx hb (oc_16 123 (aq_15 shX12_factOf_108) sgb_7) kbc_7 ?_
    exact W.iret (v := 7) hx hb hr (fun t ht hW => ⟨7, rfl, (Or.inr ⟨7, by decide, by omega, rfl, ltr_is (k := 109) (z := 109) (by omega) rfl (by decide)⟩), ht⟩) (fun _ h => absurd h List.not_mem_nil) (oc_172 125 (aq_17 shX12_factOf_108))
  ·
    refine lv_tableIn (tgt := 132) (off := 131) hx hb dX12_factOf_1 (by omega) (by omega) (by rw [c_1]; rfl) (by decide) ?_
    refine lv_bipush (v := 10) hx hb (oc_16 132 shX12_factOf_132 sgb_10) kbc_10 ?_
    exact W.iret (v := 10) hx hb hr (fun t ht hW => ⟨10, rfl, (Or.inr ⟨10, by decide, by omega, rfl, ltr_is (k := 110) (z := 110) (by omega) rfl (by decide)⟩), ht⟩) (fun _ h => absurd h List.not_mem_nil) (oc_172 134 (aq_2 shX12_factOf_132))
  ·
    refine lv_tableIn (tgt := 129) (off := 128) hx hb dX12_factOf_1 (by omega) (by omega) (by rw [c_1]; rfl) (by decide) ?_
    refine lv_bipush (v := 9) hx hb (oc_16 129 (aq_21 shX12_factOf_108) sgb_9) kbc_9 ?_
    exact W.iret (v := 9) hx hb hr (fun t ht hW => ⟨9, rfl, (Or.inr ⟨9, by decide, by omega, rfl, ltr_is (k := 111) (z := 111) (by omega) rfl (by decide)⟩), ht⟩) (fun _ h => absurd h List.not_mem_nil) (oc_172 131 (aq_23 shX12_factOf_108))
  ·
    refine lv_tableIn (tgt := 135) (off := 134) hx hb dX12_factOf_1 (by omega) (by omega) (by rw [c_1]; rfl) (by decide) ?_
    refine lv_iconst (v := (-1)) hx hb dX12_factOf_135 kic_m1 ?_
    exact W.iret (v := (-1)) hx hb hr (fun t ht hW => ⟨(-1), rfl, (Or.inl ⟨rfl, ltr_no (by omega)⟩), ht⟩) (fun _ h => absurd h List.not_mem_nil) dX12_factOf_136
  ·
    refine lv_tableIn (tgt := 108) (off := 107) hx hb dX12_factOf_1 (by omega) (by omega) (by rw [c_1]; rfl) (by decide) ?_
    refine lv_iconst (v := 0) hx hb (oc_3 108 shX12_factOf_108) kic_0 ?_
    exact W.iret (v := 0) hx hb hr (fun t ht hW => ⟨0, rfl, (Or.inr ⟨0, by decide, by omega, rfl, ltr_is (k := 113) (z := 113) (by omega) rfl (by decide)⟩), ht⟩) (fun _ h => absurd h List.not_mem_nil) (oc_172 109 (aq_1 shX12_factOf_108))
  ·
    refine lv_tableIn (tgt := 135) (off := 134) hx hb dX12_factOf_1 (by omega) (by omega) (by rw [c_1]; rfl) (by decide) ?_
    refine lv_iconst (v := (-1)) hx hb dX12_factOf_135 kic_m1 ?_
    exact W.iret (v := (-1)) hx hb hr (fun t ht hW => ⟨(-1), rfl, (Or.inl ⟨rfl, ltr_no (by omega)⟩), ht⟩) (fun _ h => absurd h List.not_mem_nil) dX12_factOf_136
  ·
    refine lv_tableIn (tgt := 126) (off := 125) hx hb dX12_factOf_1 (by omega) (by omega) (by rw [c_1]; rfl) (by decide) ?_
    refine lv_bipush (v := 8) hx hb (oc_16 126 (aq_18 shX12_factOf_108) sgb_8) kbc_8 ?_
    exact W.iret (v := 8) hx hb hr (fun t ht hW => ⟨8, rfl, (Or.inr ⟨8, by decide, by omega, rfl, ltr_is (k := 115) (z := 115) (by omega) rfl (by decide)⟩), ht⟩) (fun _ h => absurd h List.not_mem_nil) (oc_172 128 (aq_20 shX12_factOf_108))
  ·
    refine lv_tableIn (tgt := 135) (off := 134) hx hb dX12_factOf_1 (by omega) (by omega) (by rw [c_1]; rfl) (by decide) ?_
    refine lv_iconst (v := (-1)) hx hb dX12_factOf_135 kic_m1 ?_
    exact W.iret (v := (-1)) hx hb hr (fun t ht hW => ⟨(-1), rfl, (Or.inl ⟨rfl, ltr_no (by omega)⟩), ht⟩) (fun _ h => absurd h List.not_mem_nil) dX12_factOf_136
  ·
    refine lv_tableIn (tgt := 135) (off := 134) hx hb dX12_factOf_1 (by omega) (by omega) (by rw [c_1]; rfl) (by decide) ?_
    refine lv_iconst (v := (-1)) hx hb dX12_factOf_135 kic_m1 ?_
    exact W.iret (v := (-1)) hx hb hr (fun t ht hW => ⟨(-1), rfl, (Or.inl ⟨rfl, ltr_no (by omega)⟩), ht⟩) (fun _ h => absurd h List.not_mem_nil) dX12_factOf_136
  ·
    refine lv_tableIn (tgt := 135) (off := 134) hx hb dX12_factOf_1 (by omega) (by omega) (by rw [c_1]; rfl) (by decide) ?_
    refine lv_iconst (v := (-1)) hx hb dX12_factOf_135 kic_m1 ?_
    exact W.iret (v := (-1)) hx hb hr (fun t ht hW => ⟨(-1), rfl, (Or.inl ⟨rfl, ltr_no (by omega)⟩), ht⟩) (fun _ h => absurd h List.not_mem_nil) dX12_factOf_136
  ·
    refine lv_tableIn (tgt := 116) (off := 115) hx hb dX12_factOf_1 (by omega) (by omega) (by rw [c_1]; rfl) (by decide) ?_
    refine lv_iconst (v := 4) hx hb (oc_7 116 (aq_8 shX12_factOf_108)) kic_4 ?_
    exact W.iret (v := 4) hx hb hr (fun t ht hW => ⟨4, rfl, (Or.inr ⟨4, by decide, by omega, rfl, ltr_is (k := 119) (z := 119) (by omega) rfl (by decide)⟩), ht⟩) (fun _ h => absurd h List.not_mem_nil) (oc_172 117 (aq_9 shX12_factOf_108))
set_option maxRecDepth 100000 in
set_option maxHeartbeats 4000000 in
theorem q_sumSign9 (l : Launch) (D : va_G) (cI cB cZ : ClassId) (v0 : Int32)  : Met l yX12_sumSign (CWS yX12_sumSign cX12_sumSign 1 (some .int)) (RM 0 0 0) (PBr [.int v0] D cI cB cZ []) (vp_Si (fun r => (r = -1 ∧ tms v0 = none ∧ pls v0 = none) ∨ ∃ n : Nat, (2 ≤ n ∧ n ≤ 6) ∧ 37 ≤ v0.toInt ∧ r = nI n ∧ ((4 ≤ n → tms v0 = some (n + 1)) ∧ (n ≤ 3 → tms v0 = none ∧ pls v0 = some (n + 1))))) 0 0 (fun _ => False) := by
  refine en_r rfl pn_RX12 (Nat.le_of_ble_eq_true rfl) (fun p e s m below meth c hx hb hml hown S hr hlocks hnm hP hK hS ls hl => ?_)
  have hl : lv_has ls 1 [(0, .int v0)] := hl
  refine lv_iload_n hx hb (oc_26 0 shX12_sumSign_0) rfl (lvA0 hl) ?_
  refine lv_bipush (v := 43) hx hb (oc_16 1 (aq_1 shX12_sumSign_0) sgb_43) kbc_43 ?_
  refine lv_icmp_ne (tgt := 10) hx hb (oc_160 3 (aq_3 shX12_sumSign_0) sgw_0_7) rfl (fun c_1 => ?_) (fun c_1 => ?_)
  ·
    have tc_1 : (v0.toInt : Int) ≠ 43 := fun q => c_1 (Int32.toInt_inj.mp q)
    refine lv_iload_n hx hb (oc_26 10 (aq_10 shX12_sumSign_0)) rfl (lvA0 hl) ?_
    refine lv_bipush (v := 45) hx hb (oc_16 11 (aq_11 shX12_sumSign_0) sgb_45) kbc_45 ?_
    refine lv_icmp_ne (tgt := 20) hx hb (oc_160 13 (aq_13 shX12_sumSign_0) sgw_0_7) rfl (fun c_2 => ?_) (fun c_2 => ?_)
    ·
      have tc_2 : (v0.toInt : Int) ≠ 45 := fun q => c_2 (Int32.toInt_inj.mp q)
      refine lv_iload_n hx hb (oc_26 20 (aq_20 shX12_sumSign_0)) rfl (lvA0 hl) ?_
      refine lv_bipush (v := 42) hx hb (oc_16 21 (aq_21 shX12_sumSign_0) sgb_42) kbc_42 ?_
      refine lv_icmp_ne (tgt := 30) hx hb (oc_160 23 (aq_23 shX12_sumSign_0) sgw_0_7) rfl (fun c_3 => ?_) (fun c_3 => ?_)
      ·
        have tc_3 : (v0.toInt : Int) ≠ 42 := fun q => c_3 (Int32.toInt_inj.mp q)
        refine lv_iload_n hx hb (oc_26 30 (aq_4 shX12_sumSign_26)) rfl (lvA0 hl) ?_
        refine lv_bipush (v := 47) hx hb (oc_16 31 (aq_5 shX12_sumSign_26) sgb_47) kbc_47 ?_
        refine lv_icmp_ne (tgt := 40) hx hb (oc_160 33 (aq_7 shX12_sumSign_26) sgw_0_7) rfl (fun c_4 => ?_) (fun c_4 => ?_)
        ·
          have tc_4 : (v0.toInt : Int) ≠ 47 := fun q => c_4 (Int32.toInt_inj.mp q)
          refine lv_iload_n hx hb (oc_26 40 (aq_14 shX12_sumSign_26)) rfl (lvA0 hl) ?_
          refine lv_bipush (v := 37) hx hb (oc_16 41 (aq_15 shX12_sumSign_26) sgb_37) kbc_37 ?_
          refine lv_icmp_ne (tgt := 51) hx hb (oc_160 43 (aq_17 shX12_sumSign_26) sgw_0_8) rfl (fun c_5 => ?_) (fun c_5 => ?_)
          ·
            have tc_5 : (v0.toInt : Int) ≠ 37 := fun q => c_5 (Int32.toInt_inj.mp q)
            refine lv_iconst (v := (-1)) hx hb (oc_2 51 shX12_sumSign_51) kic_m1 ?_
            exact W.iret (v := (-1)) hx hb hr (fun t ht hW => ⟨(-1), rfl, (Or.inl ⟨rfl, tms_no (by omega), pls_no (by omega)⟩), ht⟩) (fun _ h => absurd h List.not_mem_nil) dX12_sumSign_52
          ·
            have tc_5 : (v0.toInt : Int) = 37 := congrArg Int32.toInt c_5
            refine lv_bipush (v := 6) hx hb (oc_16 46 (aq_20 shX12_sumSign_26) sgb_6) kbc_6 ?_
            refine lv_goto (tgt := 52) hx hb (oc_167 48 (aq_22 shX12_sumSign_26) sgw_0_4) rfl ?_
            exact W.iret (v := 6) hx hb hr (fun t ht hW => ⟨6, rfl, (Or.inr ⟨6, by decide, by omega, rfl, fun _ => tms_is (k := 37) (z := 37) (by omega) rfl (by decide), fun q => absurd q (by decide)⟩), ht⟩) (fun _ h => absurd h List.not_mem_nil) dX12_sumSign_52
        ·
          have tc_4 : (v0.toInt : Int) = 47 := congrArg Int32.toInt c_4
          refine lv_iconst (v := 5) hx hb (oc_8 36 (aq_10 shX12_sumSign_26)) kic_5 ?_
          refine lv_goto (tgt := 52) hx hb (oc_167 37 (aq_11 shX12_sumSign_26) sgw_0_15) rfl ?_
          exact W.iret (v := 5) hx hb hr (fun t ht hW => ⟨5, rfl, (Or.inr ⟨5, by decide, by omega, rfl, fun _ => tms_is (k := 47) (z := 47) (by omega) rfl (by decide), fun q => absurd q (by decide)⟩), ht⟩) (fun _ h => absurd h List.not_mem_nil) dX12_sumSign_52
      ·
        have tc_3 : (v0.toInt : Int) = 42 := congrArg Int32.toInt c_3
        refine lv_iconst (v := 4) hx hb (oc_7 26 shX12_sumSign_26) kic_4 ?_
        refine lv_goto (tgt := 52) hx hb (oc_167 27 (aq_1 shX12_sumSign_26) sgw_0_25) rfl ?_
        exact W.iret (v := 4) hx hb hr (fun t ht hW => ⟨4, rfl, (Or.inr ⟨4, by decide, by omega, rfl, fun _ => tms_is (k := 42) (z := 42) (by omega) rfl (by decide), fun q => absurd q (by decide)⟩), ht⟩) (fun _ h => absurd h List.not_mem_nil) dX12_sumSign_52
    ·
      have tc_2 : (v0.toInt : Int) = 45 := congrArg Int32.toInt c_2
      refine lv_iconst (v := 3) hx hb (oc_6 16 (aq_16 shX12_sumSign_0)) kic_3 ?_
      refine lv_goto (tgt := 52) hx hb (oc_167 17 (aq_17 shX12_sumSign_0) sgw_0_35) rfl ?_
      exact W.iret (v := 3) hx hb hr (fun t ht hW => ⟨3, rfl, (Or.inr ⟨3, by decide, by omega, rfl, fun q => absurd q (by decide), fun _ => ⟨tms_is (k := 45) (z := 45) (by omega) rfl (by decide), pls_is (k := 45) (z := 45) (by omega) rfl (by decide)⟩⟩), ht⟩) (fun _ h => absurd h List.not_mem_nil) dX12_sumSign_52
  ·
    have tc_1 : (v0.toInt : Int) = 43 := congrArg Int32.toInt c_1
    refine lv_iconst (v := 2) hx hb (oc_5 6 (aq_6 shX12_sumSign_0)) kic_2 ?_
    refine lv_goto (tgt := 52) hx hb (oc_167 7 (aq_7 shX12_sumSign_0) sgw_0_45) rfl ?_
    exact W.iret (v := 2) hx hb hr (fun t ht hW => ⟨2, rfl, (Or.inr ⟨2, by decide, by omega, rfl, fun q => absurd q (by decide), fun _ => ⟨tms_is (k := 43) (z := 43) (by omega) rfl (by decide), pls_is (k := 43) (z := 43) (by omega) rfl (by decide)⟩⟩), ht⟩) (fun _ h => absurd h List.not_mem_nil) dX12_sumSign_52
set_option maxRecDepth 100000 in
set_option maxHeartbeats 4000000 in
theorem q_closesSums9 (l : Launch) (D : va_G) (cI cB cZ : ClassId) (g : Nat → Nat) (cn : Nat → Nat) (In : Nat → Int32) (Fn : Nat → Nat → Int32) (a0 G0 w0 s0 : Nat) (v0 : Int32) (k : Nat) (L : LevT) (pl ti : Option Nat) (o : OutT) (sz : Nat) (hI : IM cn Fn) (hPS : PSx (cn 19) (cn 20) (cn 23) (cn 24) (Fn 27) (Fn 28) a0 (G0 + 1) w0 s0) (hq : RQ w0 k (eT L ++ (o2 pl ++ o2 ti)) o cn In Fn) (hlk : LvK (pl, ti)) : Met l yX12_closesSums (CWS yX12_closesSums cX12_closesSums 2 none) (RM 1 0 0) (PBw [.ref (g 100), .int v0] D cI cB cZ (wM cI cB cZ g cn In Fn) sz) (va_Qv (fun (u : (Nat → Nat) × (Nat → Int32) × (Nat → Nat → Int32)) => (fun c2 I2 F2 => Fr [23, 24] [] [27] cn In Fn c2 I2 F2 ∧ IM c2 F2 ∧ (((PSx (c2 19) (c2 20) (c2 23) (c2 24) (F2 27) (F2 28) a0 (G0 + 1) w0 s0) ∧ c2 24 ≤ cn 24 ∧ (∀ k : Nat, k < a0 → F2 27 k = Fn 27 k) ∧ (∀ i : Nat, c2 24 ≤ i → i < cn 24 → kd (F2 28 i) ≤ 6) ∧ (¬ (v0 : Int32) = 0 → c2 24 = w0 ∨ kd (F2 28 (c2 24 - 1)) = 14)) ∧ (((v0 : Int32) = 0 → RQ w0 k (eT L ++ (o2 pl ++ o2 none)) (o ++ o1 ti) c2 I2 F2) ∧ (¬ (v0 : Int32) = 0 → RQ w0 k (eT L ++ (o2 none ++ o2 none)) (o ++ o1 ti ++ o1 pl) c2 I2 F2)))) u.1 u.2.1 u.2.2) (fun (u : (Nat → Nat) × (Nat → Int32) × (Nat → Nat → Int32)) (t : State) => va_P D vwCl (wM cI cB cZ g u.1 u.2.1 u.2.2) t.heap ∧ va_D (va_A (wM cI cB cZ g cn In Fn) sz) (wM cI cB cZ g u.1 u.2.1 u.2.2)) (va_A (wM cI cB cZ g cn In Fn) sz)) 0 0 (va_A (wM cI cB cZ g cn In Fn) sz) := by
  refine en_w (fun A => (va_Qv (fun (u : (Nat → Nat) × (Nat → Int32) × (Nat → Nat → Int32)) => (fun (c2 : Nat → Nat) (I2 : Nat → Int32) (F2 : Nat → Nat → Int32) => Fr [23, 24] [] [27] cn In Fn c2 I2 F2 ∧ IM c2 F2 ∧ (((PSx (c2 19) (c2 20) (c2 23) (c2 24) (F2 27) (F2 28) a0 (G0 + 1) w0 s0) ∧ c2 24 ≤ cn 24 ∧ (∀ k : Nat, k < a0 → F2 27 k = Fn 27 k) ∧ (∀ i : Nat, c2 24 ≤ i → i < cn 24 → kd (F2 28 i) ≤ 6) ∧ (¬ (v0 : Int32) = 0 → c2 24 = w0 ∨ kd (F2 28 (c2 24 - 1)) = 14)) ∧ (((v0 : Int32) = 0 → RQ w0 k (eT L ++ (o2 pl ++ o2 none)) (o ++ o1 ti) c2 I2 F2) ∧ (¬ (v0 : Int32) = 0 → RQ w0 k (eT L ++ (o2 none ++ o2 none)) (o ++ o1 ti ++ o1 pl) c2 I2 F2)))) u.1 u.2.1 u.2.2) (fun (u : (Nat → Nat) × (Nat → Int32) × (Nat → Nat → Int32)) (t : State) => va_P D vwCl (wM cI cB cZ g u.1 u.2.1 u.2.2) t.heap ∧ va_D A (wM cI cB cZ g u.1 u.2.1 u.2.2)) A)) rfl rfl pn_RX12 (Nat.le_of_ble_eq_true rfl) (fun p e s m below meth c A hx hb hml hown S hr hlocks hnm hA hP hK hD hS ls hl => ?_)
  have hl : lv_has ls 2 [(0, .ref (g 100)), (1, .int v0)] := hl
  have hi_cn : Hid (CB cn) := hI.b
  have lp_0 : ∀ (n : Nat)  (cz : Nat → Nat) (Fz : Nat → Nat → Int32) (H : Heap) (locs : List Loc) , cz 24 < n → (Fr [23, 24] [] [27] cn In Fn cz In Fz ∧ IM cz Fz ∧ ((PSx (cz 19) (cz 20) (cz 23) (cz 24) (Fz 27) (Fz 28) a0 (G0 + 1) w0 s0)) ∧ (cz 24 ≤ cn 24) ∧ ((∀ k : Nat, k < a0 → Fz 27 k = Fn 27 k)) ∧ ((∀ i : Nat, cz 24 ≤ i → i < cn 24 → kd (Fz 28 i) ≤ 6)) ∧ (CSI w0 k L pl ti o v0 cz In Fz)) → va_P D vwCl (wM cI cB cZ g cz In Fz) H → va_D A (wM cI cB cZ g cz In Fz) → va_S A s.heap H locs → ∀ ls : Array Slot, lv_has ls 2 [(0, .ref (g 100)), (1, .int v0)] → W p l e (RM 1 0 0) s m ([.ref (g 100), .int v0]).toArray below meth c H locs 0 0 (MQ below (va_Qv (fun (u : (Nat → Nat) × (Nat → Int32) × (Nat → Nat → Int32)) => (fun c2 I2 F2 => Fr [23, 24] [] [27] cn In Fn c2 I2 F2 ∧ IM c2 F2 ∧ (((PSx (c2 19) (c2 20) (c2 23) (c2 24) (F2 27) (F2 28) a0 (G0 + 1) w0 s0) ∧ c2 24 ≤ cn 24 ∧ (∀ k : Nat, k < a0 → F2 27 k = Fn 27 k) ∧ (∀ i : Nat, c2 24 ≤ i → i < cn 24 → kd (F2 28 i) ≤ 6) ∧ (¬ (v0 : Int32) = 0 → c2 24 = w0 ∨ kd (F2 28 (c2 24 - 1)) = 14)) ∧ (((v0 : Int32) = 0 → RQ w0 k (eT L ++ (o2 pl ++ o2 none)) (o ++ o1 ti) c2 I2 F2) ∧ (¬ (v0 : Int32) = 0 → RQ w0 k (eT L ++ (o2 none ++ o2 none)) (o ++ o1 ti ++ o1 pl) c2 I2 F2)))) u.1 u.2.1 u.2.2) (fun (u : (Nat → Nat) × (Nat → Int32) × (Nat → Nat → Int32)) (t : State) => va_P D vwCl (wM cI cB cZ g u.1 u.2.1 u.2.2) t.heap ∧ va_D A (wM cI cB cZ g u.1 u.2.1 u.2.2)) A) ([.ref (g 100), .int v0]).toArray s 0 0 A) (F0 m 0 ls []) := by
    intro n0
    induction n0 with
    | zero => intros; (first | omega | (have zz0 := Hid.u hi_cn; omega))
    | succ n0 ih0 =>
      intro  cz Fz H locs hmu0 hinv0 hP hD hS ls hl
      obtain ⟨hfr0, hI0, hx0_0, hx0_1, hx0_2, hx0_3, hx0_4⟩ := hinv0
      have hi_cz : Hid (CB cz) := hI0.b
      have : cz 19 = cn 19 := hfr0.1 19 (nml rfl)
      have : cz 20 = cn 20 := hfr0.1 20 (nml rfl)
      have : cz 25 = cn 25 := hfr0.1 25 (nml rfl)
      have hq_cz := Hid.i (frq_23_24_0_1_2_46_57_58_62_63_75_83_44 hfr0)
      have hf0 := hx0_0.f
      have hk0 := hx0_0.kt
      refine lv_aload_n hx hb (oc_42 0 shX12_closesSums_0) rfl (lvA0 hl) ?_
      refine vp_callSi (runV_ra (As := []) (rest := []) S (q_top l D cI cB cZ g cz In Fz  hI0 hx0_0.wk (by (first | omega | (have zz0 := Hid.u hi_cn; have zz1 := Hid.u hi_cz; have zz2 := Hid.u hq_cz; omega)))) kV_RX12_267 hK hP 0 rfl rfl rfl ⟨Nat.le_of_ble_eq_true rfl, Nat.le_of_ble_eq_true rfl⟩ ⟨Nat.le_of_ble_eq_true rfl, Nat.le_of_ble_eq_true rfl⟩ rfl hl.1 rfl (Nat.le_of_ble_eq_true rfl) (oc_182 1 (aq_1 shX12_closesSums_0) uw_1_11)) (fun r_1 h_2 => ?_)
      refine lv_iconst (v := 4) hx hb (oc_7 4 (aq_4 shX12_closesSums_0)) kic_4 ?_
      refine lv_icmp_lt (tgt := 17) hx hb (oc_161 5 (aq_5 shX12_closesSums_0) sgw_0_12) rfl (fun c_3 => ?_) (fun c_3 => ?_)
      ·
        have tc_3 : (r_1.toInt : Int) < 4 := Int32.lt_iff_toInt_lt.mp c_3
        refine lv_iload_n hx hb dX12_closesSums_17 rfl (lvA1 hl) ?_
        refine lv_if_eq (tgt := 59) hx hb dX12_closesSums_18 rfl (fun c_4 => ?_) (fun c_4 => ?_)
        ·
          have tc_4 : (v0.toInt : Int) = 0 := congrArg Int32.toInt c_4
          exact W.vret hx hb hr (fun t ht hW => ⟨⟨(cz, In, Fz), rfl, ⟨(Fr.mo hfr0 (sbl rfl) (sbl rfl) (sbl rfl)), hI0, (by show ((PSx (cz 19) (cz 20) (cz 23) (cz 24) (Fz 27) (Fz 28) a0 (G0 + 1) w0 s0) ∧ cz 24 ≤ cn 24 ∧ (∀ k : Nat, k < a0 → Fz 27 k = Fn 27 k) ∧ (∀ i : Nat, cz 24 ≤ i → i < cn 24 → kd (Fz 28 i) ≤ 6) ∧ (¬ (v0 : Int32) = 0 → cz 24 = w0 ∨ kd (Fz 28 (cz 24 - 1)) = 14)) ∧ (((v0 : Int32) = 0 → RQ w0 k (eT L ++ (o2 pl ++ o2 none)) (o ++ o1 ti) cz In Fz) ∧ (¬ (v0 : Int32) = 0 → RQ w0 k (eT L ++ (o2 none ++ o2 none)) (o ++ o1 ti ++ o1 pl) cz In Fz)); exact ⟨(by exact ⟨hx0_0, hx0_1, hx0_2, hx0_3, fun hz => by first | (first | omega | (have zz0 := Hid.u hi_cn; have zz1 := Hid.u hi_cz; have zz2 := Hid.u hq_cz; omega)) | exact absurd (by assumption) hz⟩), CSI.fin hx0_4 (by (first | omega | (have zz0 := Hid.u hi_cn; have zz1 := Hid.u hi_cz; have zz2 := Hid.u hq_cz; omega))) (fun hz => by first | (first | omega | (have zz0 := Hid.u hi_cn; have zz1 := Hid.u hi_cz; have zz2 := Hid.u hq_cz; omega)) | exact absurd (by assumption) hz)⟩)⟩, by rw [ht]; exact hP, hD⟩, hS.F ht⟩) hS.2.2 dX12_closesSums_59
        ·
          have tc_4 : (v0.toInt : Int) ≠ 0 := fun q => c_4 (Int32.toInt_inj.mp q)
          refine lv_aload_n hx hb dX12_closesSums_21 rfl (lvA0 hl) ?_
          refine vp_callSi (runV_ra (As := []) (rest := []) S (q_top l D cI cB cZ g cz In Fz  hI0 hx0_0.wk (by (first | omega | (have zz0 := Hid.u hi_cn; have zz1 := Hid.u hi_cz; have zz2 := Hid.u hq_cz; omega)))) kV_RX12_267 hK hP 0 rfl rfl rfl ⟨Nat.le_of_ble_eq_true rfl, Nat.le_of_ble_eq_true rfl⟩ ⟨Nat.le_of_ble_eq_true rfl, Nat.le_of_ble_eq_true rfl⟩ rfl hl.1 rfl (Nat.le_of_ble_eq_true rfl) dX12_closesSums_22) (fun r_5 h_6 => ?_)
          refine lv_iconst (v := 2) hx hb dX12_closesSums_25 kic_2 ?_
          refine lv_icmp_eq (tgt := 37) hx hb dX12_closesSums_26 rfl (fun c_7 => ?_) (fun c_7 => ?_)
          ·
            have tc_7 : (r_5.toInt : Int) = 2 := congrArg Int32.toInt c_7
            refine lv_aload_n hx hb dX12_closesSums_37 rfl (lvA0 hl) ?_
            refine lv_aload_n hx hb dX12_closesSums_38 rfl (lvA0 hl) ?_
            refine vp_callSi (runV_ra (As := []) (rest := [.ref (g 100)]) S (q_top l D cI cB cZ g cz In Fz  hI0 hx0_0.wk (by (first | omega | (have zz0 := Hid.u hi_cn; have zz1 := Hid.u hi_cz; have zz2 := Hid.u hq_cz; omega)))) kV_RX12_267 hK hP 0 rfl rfl rfl ⟨Nat.le_of_ble_eq_true rfl, Nat.le_of_ble_eq_true rfl⟩ ⟨Nat.le_of_ble_eq_true rfl, Nat.le_of_ble_eq_true rfl⟩ rfl hl.1 rfl (Nat.le_of_ble_eq_true rfl) dX12_closesSums_39) (fun r_8 h_9 => ?_)
            obtain rfl : r_8 = nI (kd (Fz 28 (cz 24 - 1))) := nI_ofT (by (first | omega | (have zz0 := Hid.u hi_cn; have zz1 := Hid.u hi_cz; have zz2 := Hid.u hq_cz; omega))) (by (first | omega | (have zz0 := Hid.u hi_cn; have zz1 := Hid.u hi_cz; have zz2 := Hid.u hq_cz; omega)))
            refine lv_iconst (v := 0) hx hb dX12_closesSums_42 kic_0 ?_
            have hFc := free_all hD hS hA
            refine va_callv (runV_a (As := [.int (nI (kd (Fz 28 (cz 24 - 1)))), .int 0]) (rest := []) S (q_says l D cI cB cZ g cz In Fz (kd (Fz 28 (cz 24 - 1))) 0 H.size hI0 (by (first | omega | (have zz0 := Hid.u hi_cn; have zz1 := Hid.u hi_cz; have zz2 := Hid.u hq_cz; omega)))) kV_RX12_270 hK hP hD 0 rfl rfl rfl ⟨Nat.le_of_ble_eq_true rfl, Nat.le_of_ble_eq_true rfl⟩ ⟨Nat.le_of_ble_eq_true rfl, Nat.le_of_ble_eq_true rfl⟩ rfl hl.1 rfl (Nat.le_of_ble_eq_true rfl) dX12_closesSums_43) hS (fun q _ h => hFc q h) hFc (fun u t H1 locs ht hvm wh_11 hB hz1 hk1 hS => ?_)
            obtain ⟨cn11, In11, Fn11⟩ := u
            obtain ⟨hP1, hD1⟩ := hB
            rw [ht] at hP1
            have vh_11 : (fun c2 I2 F2 => (∀ k : Nat, k ∉ [] → I2 k = In k) ∧ (((True) ∧ (va_up cz 23 ((cz 23) + 1)) = c2 ∧ (va_up Fz 27 (upd ((Fz 27)) ((cz 23)) (nI ((kd (Fz 28 (cz 24 - 1))) * 1048576 + 0)))) = F2))) cn11 In11 Fn11 := wh_11
            obtain ⟨hI11_, vh_11⟩ := vh_11
            obtain ⟨h_11, rfl, rfl⟩ := vh_11
            obtain rfl : In = In11 := (funext (fun k => hI11_ k List.not_mem_nil)).symm
            have hP : va_P D vwCl (wM cI cB cZ g (va_up cz 23 ((cz 23) + 1)) In (va_up Fz 27 (upd ((Fz 27)) ((cz 23)) (nI ((kd (Fz 28 (cz 24 - 1))) * 1048576 + 0))))) H1 := hP1
            have hD : va_D A (wM cI cB cZ g (va_up cz 23 ((cz 23) + 1)) In (va_up Fz 27 (upd ((Fz 27)) ((cz 23)) (nI ((kd (Fz 28 (cz 24 - 1))) * 1048576 + 0))))) := hD1.weaken (fun _ _ _ h => hFc _ h)
            generalize H1 = H at hP hS ⊢
            refine lv_aload_n hx hb dX12_closesSums_46 rfl (lvA0 hl) ?_
            refine lv_aload_n hx hb dX12_closesSums_47 rfl (lvA0 hl) ?_
            refine gM_264 S hK hP (v := .int (nI (cz 24))) rfl dX12_closesSums_48 ?_
            refine lv_iconst (v := 1) hx hb dX12_closesSums_51 kic_1 ?_
            refine lv_isub hx hb dX12_closesSums_52 ?_
            refine lv_topi (fun y_12 ey_12 => ?_)
            obtain rfl : y_12 = (nI (cz 24 - 1)) := ey_12.trans (nI_sub (b := 1) (by (first | omega | (have zz0 := Hid.u hi_cn; have zz1 := Hid.u hi_cz; have zz2 := Hid.u hq_cz; omega))))
            refine pM_264 S hK hP hD hS (a := (cz 24 - 1)) (cn2 := (va_up (va_up cz 23 ((cz 23) + 1)) 24 (cz 24 - 1))) rfl rfl dX12_closesSums_53 (fun H locs hP hD hS => ?_)
            refine lv_goto (tgt := 0) hx hb dX12_closesSums_56 rfl ?_
            exact ih0  (va_up (va_up cz 23 ((cz 23) + 1)) 24 (cz 24 - 1)) (va_up Fz 27 (upd ((Fz 27)) ((cz 23)) (nI ((kd (Fz 28 (cz 24 - 1))) * 1048576 + 0)))) _ _ (show (cz 24 - 1) < n0 by (first | omega | (have zz0 := Hid.u hi_cn; have zz1 := Hid.u hi_cz; have zz2 := Hid.u hq_cz; omega))) ⟨(Fr.mo (Fr.f 27 (Fr.c 24 (Fr.c 23 hfr0))) (sbl rfl) (sbl rfl) (sbl rfl)), (IM.fr (In := In) hI0 (Fr.f 27 (Fr.c 24 (Fr.c 23 Fr.rf))) (by decide) (by decide)), (by have q := PSx.popop' hx0_0 (by (first | omega | (have zz0 := Hid.u hi_cn; have zz1 := Hid.u hi_cz; have zz2 := Hid.u hq_cz; omega))) (by (first | omega | (have zz0 := Hid.u hi_cn; have zz1 := Hid.u hi_cz; have zz2 := Hid.u hq_cz; omega))); exact q), (by show cz 24 - 1 ≤ cn 24; (first | omega | (have zz0 := Hid.u hi_cn; have zz1 := Hid.u hi_cz; have zz2 := Hid.u hq_cz; omega))), (fun k hk => (upd_lt (by (first | omega | (have zz0 := Hid.u hi_cn; have zz1 := Hid.u hi_cz; have zz2 := Hid.u hq_cz; omega)))).trans (hx0_2 k hk)), (fun i h1 h2 => by have h1 : cz 24 - 1 ≤ i := h1; show kd (Fz 28 i) ≤ 6; by_cases e : i = cz 24 - 1; (rw [e]; (first | omega | (have zz0 := Hid.u hi_cn; have zz1 := Hid.u hi_cz; have zz2 := Hid.u hq_cz; omega))); exact hx0_3 i (by (first | omega | (have zz0 := Hid.u hi_cn; have zz1 := Hid.u hi_cz; have zz2 := Hid.u hq_cz; omega))) h2), (CSI.step hx0_4 hx0_0.bot (by (first | omega | (have zz0 := Hid.u hi_cn; have zz1 := Hid.u hi_cz; have zz2 := Hid.u hq_cz; omega))) (by (first | omega | (have zz0 := Hid.u hi_cn; have zz1 := Hid.u hi_cz; have zz2 := Hid.u hq_cz; omega))) (fun q => by first | (exfalso; (first | omega | (have zz0 := Hid.u hi_cn; have zz1 := Hid.u hi_cz; have zz2 := Hid.u hq_cz; omega))) | assumption) rfl rfl rfl rfl rfl)⟩ hP hD hS ls (lv_sub hl [0, 1] rfl)
          ·
            have tc_7 : (r_5.toInt : Int) ≠ 2 := fun q => c_7 (Int32.toInt_inj.mp q)
            refine lv_aload_n hx hb dX12_closesSums_29 rfl (lvA0 hl) ?_
            refine vp_callSi (runV_ra (As := []) (rest := []) S (q_top l D cI cB cZ g cz In Fz  hI0 hx0_0.wk (by (first | omega | (have zz0 := Hid.u hi_cn; have zz1 := Hid.u hi_cz; have zz2 := Hid.u hq_cz; omega)))) kV_RX12_267 hK hP 0 rfl rfl rfl ⟨Nat.le_of_ble_eq_true rfl, Nat.le_of_ble_eq_true rfl⟩ ⟨Nat.le_of_ble_eq_true rfl, Nat.le_of_ble_eq_true rfl⟩ rfl hl.1 rfl (Nat.le_of_ble_eq_true rfl) dX12_closesSums_30) (fun r_13 h_14 => ?_)
            refine lv_iconst (v := 3) hx hb dX12_closesSums_33 kic_3 ?_
            refine lv_icmp_ne (tgt := 59) hx hb dX12_closesSums_34 rfl (fun c_15 => ?_) (fun c_15 => ?_)
            ·
              have tc_15 : (r_13.toInt : Int) ≠ 3 := fun q => c_15 (Int32.toInt_inj.mp q)
              exact W.vret hx hb hr (fun t ht hW => ⟨⟨(cz, In, Fz), rfl, ⟨(Fr.mo hfr0 (sbl rfl) (sbl rfl) (sbl rfl)), hI0, (by show ((PSx (cz 19) (cz 20) (cz 23) (cz 24) (Fz 27) (Fz 28) a0 (G0 + 1) w0 s0) ∧ cz 24 ≤ cn 24 ∧ (∀ k : Nat, k < a0 → Fz 27 k = Fn 27 k) ∧ (∀ i : Nat, cz 24 ≤ i → i < cn 24 → kd (Fz 28 i) ≤ 6) ∧ (¬ (v0 : Int32) = 0 → cz 24 = w0 ∨ kd (Fz 28 (cz 24 - 1)) = 14)) ∧ (((v0 : Int32) = 0 → RQ w0 k (eT L ++ (o2 pl ++ o2 none)) (o ++ o1 ti) cz In Fz) ∧ (¬ (v0 : Int32) = 0 → RQ w0 k (eT L ++ (o2 none ++ o2 none)) (o ++ o1 ti ++ o1 pl) cz In Fz)); exact ⟨(by exact ⟨hx0_0, hx0_1, hx0_2, hx0_3, fun hz => by first | (first | omega | (have zz0 := Hid.u hi_cn; have zz1 := Hid.u hi_cz; have zz2 := Hid.u hq_cz; omega)) | exact absurd (by assumption) hz⟩), CSI.fin hx0_4 (by (first | omega | (have zz0 := Hid.u hi_cn; have zz1 := Hid.u hi_cz; have zz2 := Hid.u hq_cz; omega))) (fun hz => by first | (first | omega | (have zz0 := Hid.u hi_cn; have zz1 := Hid.u hi_cz; have zz2 := Hid.u hq_cz; omega)) | exact absurd (by assumption) hz)⟩)⟩, by rw [ht]; exact hP, hD⟩, hS.F ht⟩) hS.2.2 dX12_closesSums_59
            ·
              have tc_15 : (r_13.toInt : Int) = 3 := congrArg Int32.toInt c_15
              refine lv_aload_n hx hb dX12_closesSums_37 rfl (lvA0 hl) ?_
              refine lv_aload_n hx hb dX12_closesSums_38 rfl (lvA0 hl) ?_
              refine vp_callSi (runV_ra (As := []) (rest := [.ref (g 100)]) S (q_top l D cI cB cZ g cz In Fz  hI0 hx0_0.wk (by (first | omega | (have zz0 := Hid.u hi_cn; have zz1 := Hid.u hi_cz; have zz2 := Hid.u hq_cz; omega)))) kV_RX12_267 hK hP 0 rfl rfl rfl ⟨Nat.le_of_ble_eq_true rfl, Nat.le_of_ble_eq_true rfl⟩ ⟨Nat.le_of_ble_eq_true rfl, Nat.le_of_ble_eq_true rfl⟩ rfl hl.1 rfl (Nat.le_of_ble_eq_true rfl) dX12_closesSums_39) (fun r_16 h_17 => ?_)
              obtain rfl : r_16 = nI (kd (Fz 28 (cz 24 - 1))) := nI_ofT (by (first | omega | (have zz0 := Hid.u hi_cn; have zz1 := Hid.u hi_cz; have zz2 := Hid.u hq_cz; omega))) (by (first | omega | (have zz0 := Hid.u hi_cn; have zz1 := Hid.u hi_cz; have zz2 := Hid.u hq_cz; omega)))
              refine lv_iconst (v := 0) hx hb dX12_closesSums_42 kic_0 ?_
              have hFc := free_all hD hS hA
              refine va_callv (runV_a (As := [.int (nI (kd (Fz 28 (cz 24 - 1)))), .int 0]) (rest := []) S (q_says l D cI cB cZ g cz In Fz (kd (Fz 28 (cz 24 - 1))) 0 H.size hI0 (by (first | omega | (have zz0 := Hid.u hi_cn; have zz1 := Hid.u hi_cz; have zz2 := Hid.u hq_cz; omega)))) kV_RX12_270 hK hP hD 0 rfl rfl rfl ⟨Nat.le_of_ble_eq_true rfl, Nat.le_of_ble_eq_true rfl⟩ ⟨Nat.le_of_ble_eq_true rfl, Nat.le_of_ble_eq_true rfl⟩ rfl hl.1 rfl (Nat.le_of_ble_eq_true rfl) dX12_closesSums_43) hS (fun q _ h => hFc q h) hFc (fun u t H1 locs ht hvm wh_19 hB hz1 hk1 hS => ?_)
              obtain ⟨cn19, In19, Fn19⟩ := u
              obtain ⟨hP1, hD1⟩ := hB
              rw [ht] at hP1
              have vh_19 : (fun c2 I2 F2 => (∀ k : Nat, k ∉ [] → I2 k = In k) ∧ (((True) ∧ (va_up cz 23 ((cz 23) + 1)) = c2 ∧ (va_up Fz 27 (upd ((Fz 27)) ((cz 23)) (nI ((kd (Fz 28 (cz 24 - 1))) * 1048576 + 0)))) = F2))) cn19 In19 Fn19 := wh_19
              obtain ⟨hI19_, vh_19⟩ := vh_19
              obtain ⟨h_19, rfl, rfl⟩ := vh_19
              obtain rfl : In = In19 := (funext (fun k => hI19_ k List.not_mem_nil)).symm
              have hP : va_P D vwCl (wM cI cB cZ g (va_up cz 23 ((cz 23) + 1)) In (va_up Fz 27 (upd ((Fz 27)) ((cz 23)) (nI ((kd (Fz 28 (cz 24 - 1))) * 1048576 + 0))))) H1 := hP1
              have hD : va_D A (wM cI cB cZ g (va_up cz 23 ((cz 23) + 1)) In (va_up Fz 27 (upd ((Fz 27)) ((cz 23)) (nI ((kd (Fz 28 (cz 24 - 1))) * 1048576 + 0))))) := hD1.weaken (fun _ _ _ h => hFc _ h)
              generalize H1 = H at hP hS ⊢
              refine lv_aload_n hx hb dX12_closesSums_46 rfl (lvA0 hl) ?_
              refine lv_aload_n hx hb dX12_closesSums_47 rfl (lvA0 hl) ?_
              refine gM_264 S hK hP (v := .int (nI (cz 24))) rfl dX12_closesSums_48 ?_
              refine lv_iconst (v := 1) hx hb dX12_closesSums_51 kic_1 ?_
              refine lv_isub hx hb dX12_closesSums_52 ?_
              refine lv_topi (fun y_20 ey_20 => ?_)
              obtain rfl : y_20 = (nI (cz 24 - 1)) := ey_20.trans (nI_sub (b := 1) (by (first | omega | (have zz0 := Hid.u hi_cn; have zz1 := Hid.u hi_cz; have zz2 := Hid.u hq_cz; omega))))
              refine pM_264 S hK hP hD hS (a := (cz 24 - 1)) (cn2 := (va_up (va_up cz 23 ((cz 23) + 1)) 24 (cz 24 - 1))) rfl rfl dX12_closesSums_53 (fun H locs hP hD hS => ?_)
              refine lv_goto (tgt := 0) hx hb dX12_closesSums_56 rfl ?_
              exact ih0  (va_up (va_up cz 23 ((cz 23) + 1)) 24 (cz 24 - 1)) (va_up Fz 27 (upd ((Fz 27)) ((cz 23)) (nI ((kd (Fz 28 (cz 24 - 1))) * 1048576 + 0)))) _ _ (show (cz 24 - 1) < n0 by (first | omega | (have zz0 := Hid.u hi_cn; have zz1 := Hid.u hi_cz; have zz2 := Hid.u hq_cz; omega))) ⟨(Fr.mo (Fr.f 27 (Fr.c 24 (Fr.c 23 hfr0))) (sbl rfl) (sbl rfl) (sbl rfl)), (IM.fr (In := In) hI0 (Fr.f 27 (Fr.c 24 (Fr.c 23 Fr.rf))) (by decide) (by decide)), (by have q := PSx.popop' hx0_0 (by (first | omega | (have zz0 := Hid.u hi_cn; have zz1 := Hid.u hi_cz; have zz2 := Hid.u hq_cz; omega))) (by (first | omega | (have zz0 := Hid.u hi_cn; have zz1 := Hid.u hi_cz; have zz2 := Hid.u hq_cz; omega))); exact q), (by show cz 24 - 1 ≤ cn 24; (first | omega | (have zz0 := Hid.u hi_cn; have zz1 := Hid.u hi_cz; have zz2 := Hid.u hq_cz; omega))), (fun k hk => (upd_lt (by (first | omega | (have zz0 := Hid.u hi_cn; have zz1 := Hid.u hi_cz; have zz2 := Hid.u hq_cz; omega)))).trans (hx0_2 k hk)), (fun i h1 h2 => by have h1 : cz 24 - 1 ≤ i := h1; show kd (Fz 28 i) ≤ 6; by_cases e : i = cz 24 - 1; (rw [e]; (first | omega | (have zz0 := Hid.u hi_cn; have zz1 := Hid.u hi_cz; have zz2 := Hid.u hq_cz; omega))); exact hx0_3 i (by (first | omega | (have zz0 := Hid.u hi_cn; have zz1 := Hid.u hi_cz; have zz2 := Hid.u hq_cz; omega))) h2), (CSI.step hx0_4 hx0_0.bot (by (first | omega | (have zz0 := Hid.u hi_cn; have zz1 := Hid.u hi_cz; have zz2 := Hid.u hq_cz; omega))) (by (first | omega | (have zz0 := Hid.u hi_cn; have zz1 := Hid.u hi_cz; have zz2 := Hid.u hq_cz; omega))) (fun q => by first | (exfalso; (first | omega | (have zz0 := Hid.u hi_cn; have zz1 := Hid.u hi_cz; have zz2 := Hid.u hq_cz; omega))) | assumption) rfl rfl rfl rfl rfl)⟩ hP hD hS ls (lv_sub hl [0, 1] rfl)
      ·
        have tc_3 : (4 : Int) ≤ r_1.toInt := Int32.le_iff_toInt_le.mp (Int32.not_lt.mp c_3)
        refine lv_aload_n hx hb (oc_42 8 (aq_8 shX12_closesSums_0)) rfl (lvA0 hl) ?_
        refine vp_callSi (runV_ra (As := []) (rest := []) S (q_top l D cI cB cZ g cz In Fz  hI0 hx0_0.wk (by (first | omega | (have zz0 := Hid.u hi_cn; have zz1 := Hid.u hi_cz; have zz2 := Hid.u hq_cz; omega)))) kV_RX12_267 hK hP 0 rfl rfl rfl ⟨Nat.le_of_ble_eq_true rfl, Nat.le_of_ble_eq_true rfl⟩ ⟨Nat.le_of_ble_eq_true rfl, Nat.le_of_ble_eq_true rfl⟩ rfl hl.1 rfl (Nat.le_of_ble_eq_true rfl) (oc_182 9 (aq_9 shX12_closesSums_0) uw_1_11)) (fun r_21 h_22 => ?_)
        refine lv_bipush (v := 6) hx hb (oc_16 12 (aq_12 shX12_closesSums_0) sgb_6) kbc_6 ?_
        refine lv_icmp_le (tgt := 37) hx hb (oc_164 14 (aq_14 shX12_closesSums_0) sgw_0_23) rfl (fun c_23 => ?_) (fun c_23 => ?_)
        ·
          have tc_23 : (r_21.toInt : Int) ≤ 6 := Int32.le_iff_toInt_le.mp c_23
          refine lv_aload_n hx hb dX12_closesSums_37 rfl (lvA0 hl) ?_
          refine lv_aload_n hx hb dX12_closesSums_38 rfl (lvA0 hl) ?_
          refine vp_callSi (runV_ra (As := []) (rest := [.ref (g 100)]) S (q_top l D cI cB cZ g cz In Fz  hI0 hx0_0.wk (by (first | omega | (have zz0 := Hid.u hi_cn; have zz1 := Hid.u hi_cz; have zz2 := Hid.u hq_cz; omega)))) kV_RX12_267 hK hP 0 rfl rfl rfl ⟨Nat.le_of_ble_eq_true rfl, Nat.le_of_ble_eq_true rfl⟩ ⟨Nat.le_of_ble_eq_true rfl, Nat.le_of_ble_eq_true rfl⟩ rfl hl.1 rfl (Nat.le_of_ble_eq_true rfl) dX12_closesSums_39) (fun r_24 h_25 => ?_)
          obtain rfl : r_24 = nI (kd (Fz 28 (cz 24 - 1))) := nI_ofT (by (first | omega | (have zz0 := Hid.u hi_cn; have zz1 := Hid.u hi_cz; have zz2 := Hid.u hq_cz; omega))) (by (first | omega | (have zz0 := Hid.u hi_cn; have zz1 := Hid.u hi_cz; have zz2 := Hid.u hq_cz; omega)))
          refine lv_iconst (v := 0) hx hb dX12_closesSums_42 kic_0 ?_
          have hFc := free_all hD hS hA
          refine va_callv (runV_a (As := [.int (nI (kd (Fz 28 (cz 24 - 1)))), .int 0]) (rest := []) S (q_says l D cI cB cZ g cz In Fz (kd (Fz 28 (cz 24 - 1))) 0 H.size hI0 (by (first | omega | (have zz0 := Hid.u hi_cn; have zz1 := Hid.u hi_cz; have zz2 := Hid.u hq_cz; omega)))) kV_RX12_270 hK hP hD 0 rfl rfl rfl ⟨Nat.le_of_ble_eq_true rfl, Nat.le_of_ble_eq_true rfl⟩ ⟨Nat.le_of_ble_eq_true rfl, Nat.le_of_ble_eq_true rfl⟩ rfl hl.1 rfl (Nat.le_of_ble_eq_true rfl) dX12_closesSums_43) hS (fun q _ h => hFc q h) hFc (fun u t H1 locs ht hvm wh_27 hB hz1 hk1 hS => ?_)
          obtain ⟨cn27, In27, Fn27⟩ := u
          obtain ⟨hP1, hD1⟩ := hB
          rw [ht] at hP1
          have vh_27 : (fun c2 I2 F2 => (∀ k : Nat, k ∉ [] → I2 k = In k) ∧ (((True) ∧ (va_up cz 23 ((cz 23) + 1)) = c2 ∧ (va_up Fz 27 (upd ((Fz 27)) ((cz 23)) (nI ((kd (Fz 28 (cz 24 - 1))) * 1048576 + 0)))) = F2))) cn27 In27 Fn27 := wh_27
          obtain ⟨hI27_, vh_27⟩ := vh_27
          obtain ⟨h_27, rfl, rfl⟩ := vh_27
          obtain rfl : In = In27 := (funext (fun k => hI27_ k List.not_mem_nil)).symm
          have hP : va_P D vwCl (wM cI cB cZ g (va_up cz 23 ((cz 23) + 1)) In (va_up Fz 27 (upd ((Fz 27)) ((cz 23)) (nI ((kd (Fz 28 (cz 24 - 1))) * 1048576 + 0))))) H1 := hP1
          have hD : va_D A (wM cI cB cZ g (va_up cz 23 ((cz 23) + 1)) In (va_up Fz 27 (upd ((Fz 27)) ((cz 23)) (nI ((kd (Fz 28 (cz 24 - 1))) * 1048576 + 0))))) := hD1.weaken (fun _ _ _ h => hFc _ h)
          generalize H1 = H at hP hS ⊢
          refine lv_aload_n hx hb dX12_closesSums_46 rfl (lvA0 hl) ?_
          refine lv_aload_n hx hb dX12_closesSums_47 rfl (lvA0 hl) ?_
          refine gM_264 S hK hP (v := .int (nI (cz 24))) rfl dX12_closesSums_48 ?_
          refine lv_iconst (v := 1) hx hb dX12_closesSums_51 kic_1 ?_
          refine lv_isub hx hb dX12_closesSums_52 ?_
          refine lv_topi (fun y_28 ey_28 => ?_)
          obtain rfl : y_28 = (nI (cz 24 - 1)) := ey_28.trans (nI_sub (b := 1) (by (first | omega | (have zz0 := Hid.u hi_cn; have zz1 := Hid.u hi_cz; have zz2 := Hid.u hq_cz; omega))))
          refine pM_264 S hK hP hD hS (a := (cz 24 - 1)) (cn2 := (va_up (va_up cz 23 ((cz 23) + 1)) 24 (cz 24 - 1))) rfl rfl dX12_closesSums_53 (fun H locs hP hD hS => ?_)
          refine lv_goto (tgt := 0) hx hb dX12_closesSums_56 rfl ?_
          exact ih0  (va_up (va_up cz 23 ((cz 23) + 1)) 24 (cz 24 - 1)) (va_up Fz 27 (upd ((Fz 27)) ((cz 23)) (nI ((kd (Fz 28 (cz 24 - 1))) * 1048576 + 0)))) _ _ (show (cz 24 - 1) < n0 by (first | omega | (have zz0 := Hid.u hi_cn; have zz1 := Hid.u hi_cz; have zz2 := Hid.u hq_cz; omega))) ⟨(Fr.mo (Fr.f 27 (Fr.c 24 (Fr.c 23 hfr0))) (sbl rfl) (sbl rfl) (sbl rfl)), (IM.fr (In := In) hI0 (Fr.f 27 (Fr.c 24 (Fr.c 23 Fr.rf))) (by decide) (by decide)), (by have q := PSx.popop' hx0_0 (by (first | omega | (have zz0 := Hid.u hi_cn; have zz1 := Hid.u hi_cz; have zz2 := Hid.u hq_cz; omega))) (by (first | omega | (have zz0 := Hid.u hi_cn; have zz1 := Hid.u hi_cz; have zz2 := Hid.u hq_cz; omega))); exact q), (by show cz 24 - 1 ≤ cn 24; (first | omega | (have zz0 := Hid.u hi_cn; have zz1 := Hid.u hi_cz; have zz2 := Hid.u hq_cz; omega))), (fun k hk => (upd_lt (by (first | omega | (have zz0 := Hid.u hi_cn; have zz1 := Hid.u hi_cz; have zz2 := Hid.u hq_cz; omega)))).trans (hx0_2 k hk)), (fun i h1 h2 => by have h1 : cz 24 - 1 ≤ i := h1; show kd (Fz 28 i) ≤ 6; by_cases e : i = cz 24 - 1; (rw [e]; (first | omega | (have zz0 := Hid.u hi_cn; have zz1 := Hid.u hi_cz; have zz2 := Hid.u hq_cz; omega))); exact hx0_3 i (by (first | omega | (have zz0 := Hid.u hi_cn; have zz1 := Hid.u hi_cz; have zz2 := Hid.u hq_cz; omega))) h2), (CSI.step hx0_4 hx0_0.bot (by (first | omega | (have zz0 := Hid.u hi_cn; have zz1 := Hid.u hi_cz; have zz2 := Hid.u hq_cz; omega))) (by (first | omega | (have zz0 := Hid.u hi_cn; have zz1 := Hid.u hi_cz; have zz2 := Hid.u hq_cz; omega))) (fun q => by first | (exfalso; (first | omega | (have zz0 := Hid.u hi_cn; have zz1 := Hid.u hi_cz; have zz2 := Hid.u hq_cz; omega))) | assumption) rfl rfl rfl rfl rfl)⟩ hP hD hS ls (lv_sub hl [0, 1] rfl)
        ·
          have tc_23 : (6 : Int) < r_21.toInt := Int32.lt_iff_toInt_lt.mp (Int32.not_le.mp c_23)
          refine lv_iload_n hx hb dX12_closesSums_17 rfl (lvA1 hl) ?_
          refine lv_if_eq (tgt := 59) hx hb dX12_closesSums_18 rfl (fun c_29 => ?_) (fun c_29 => ?_)
          ·
            have tc_29 : (v0.toInt : Int) = 0 := congrArg Int32.toInt c_29
            exact W.vret hx hb hr (fun t ht hW => ⟨⟨(cz, In, Fz), rfl, ⟨(Fr.mo hfr0 (sbl rfl) (sbl rfl) (sbl rfl)), hI0, (by show ((PSx (cz 19) (cz 20) (cz 23) (cz 24) (Fz 27) (Fz 28) a0 (G0 + 1) w0 s0) ∧ cz 24 ≤ cn 24 ∧ (∀ k : Nat, k < a0 → Fz 27 k = Fn 27 k) ∧ (∀ i : Nat, cz 24 ≤ i → i < cn 24 → kd (Fz 28 i) ≤ 6) ∧ (¬ (v0 : Int32) = 0 → cz 24 = w0 ∨ kd (Fz 28 (cz 24 - 1)) = 14)) ∧ (((v0 : Int32) = 0 → RQ w0 k (eT L ++ (o2 pl ++ o2 none)) (o ++ o1 ti) cz In Fz) ∧ (¬ (v0 : Int32) = 0 → RQ w0 k (eT L ++ (o2 none ++ o2 none)) (o ++ o1 ti ++ o1 pl) cz In Fz)); exact ⟨(by exact ⟨hx0_0, hx0_1, hx0_2, hx0_3, fun hz => by first | (first | omega | (have zz0 := Hid.u hi_cn; have zz1 := Hid.u hi_cz; have zz2 := Hid.u hq_cz; omega)) | exact absurd (by assumption) hz⟩), CSI.fin hx0_4 (by (first | omega | (have zz0 := Hid.u hi_cn; have zz1 := Hid.u hi_cz; have zz2 := Hid.u hq_cz; omega))) (fun hz => by first | (first | omega | (have zz0 := Hid.u hi_cn; have zz1 := Hid.u hi_cz; have zz2 := Hid.u hq_cz; omega)) | exact absurd (by assumption) hz)⟩)⟩, by rw [ht]; exact hP, hD⟩, hS.F ht⟩) hS.2.2 dX12_closesSums_59
          ·
            have tc_29 : (v0.toInt : Int) ≠ 0 := fun q => c_29 (Int32.toInt_inj.mp q)
            refine lv_aload_n hx hb dX12_closesSums_21 rfl (lvA0 hl) ?_
            refine vp_callSi (runV_ra (As := []) (rest := []) S (q_top l D cI cB cZ g cz In Fz  hI0 hx0_0.wk (by (first | omega | (have zz0 := Hid.u hi_cn; have zz1 := Hid.u hi_cz; have zz2 := Hid.u hq_cz; omega)))) kV_RX12_267 hK hP 0 rfl rfl rfl ⟨Nat.le_of_ble_eq_true rfl, Nat.le_of_ble_eq_true rfl⟩ ⟨Nat.le_of_ble_eq_true rfl, Nat.le_of_ble_eq_true rfl⟩ rfl hl.1 rfl (Nat.le_of_ble_eq_true rfl) dX12_closesSums_22) (fun r_30 h_31 => ?_)
            refine lv_iconst (v := 2) hx hb dX12_closesSums_25 kic_2 ?_
            refine lv_icmp_eq (tgt := 37) hx hb dX12_closesSums_26 rfl (fun c_32 => ?_) (fun c_32 => ?_)
            ·
              have tc_32 : (r_30.toInt : Int) = 2 := congrArg Int32.toInt c_32
              refine lv_aload_n hx hb dX12_closesSums_37 rfl (lvA0 hl) ?_
              refine lv_aload_n hx hb dX12_closesSums_38 rfl (lvA0 hl) ?_
              refine vp_callSi (runV_ra (As := []) (rest := [.ref (g 100)]) S (q_top l D cI cB cZ g cz In Fz  hI0 hx0_0.wk (by (first | omega | (have zz0 := Hid.u hi_cn; have zz1 := Hid.u hi_cz; have zz2 := Hid.u hq_cz; omega)))) kV_RX12_267 hK hP 0 rfl rfl rfl ⟨Nat.le_of_ble_eq_true rfl, Nat.le_of_ble_eq_true rfl⟩ ⟨Nat.le_of_ble_eq_true rfl, Nat.le_of_ble_eq_true rfl⟩ rfl hl.1 rfl (Nat.le_of_ble_eq_true rfl) dX12_closesSums_39) (fun r_33 h_34 => ?_)
              obtain rfl : r_33 = nI (kd (Fz 28 (cz 24 - 1))) := nI_ofT (by (first | omega | (have zz0 := Hid.u hi_cn; have zz1 := Hid.u hi_cz; have zz2 := Hid.u hq_cz; omega))) (by (first | omega | (have zz0 := Hid.u hi_cn; have zz1 := Hid.u hi_cz; have zz2 := Hid.u hq_cz; omega)))
              refine lv_iconst (v := 0) hx hb dX12_closesSums_42 kic_0 ?_
              have hFc := free_all hD hS hA
              refine va_callv (runV_a (As := [.int (nI (kd (Fz 28 (cz 24 - 1)))), .int 0]) (rest := []) S (q_says l D cI cB cZ g cz In Fz (kd (Fz 28 (cz 24 - 1))) 0 H.size hI0 (by (first | omega | (have zz0 := Hid.u hi_cn; have zz1 := Hid.u hi_cz; have zz2 := Hid.u hq_cz; omega)))) kV_RX12_270 hK hP hD 0 rfl rfl rfl ⟨Nat.le_of_ble_eq_true rfl, Nat.le_of_ble_eq_true rfl⟩ ⟨Nat.le_of_ble_eq_true rfl, Nat.le_of_ble_eq_true rfl⟩ rfl hl.1 rfl (Nat.le_of_ble_eq_true rfl) dX12_closesSums_43) hS (fun q _ h => hFc q h) hFc (fun u t H1 locs ht hvm wh_36 hB hz1 hk1 hS => ?_)
              obtain ⟨cn36, In36, Fn36⟩ := u
              obtain ⟨hP1, hD1⟩ := hB
              rw [ht] at hP1
              have vh_36 : (fun c2 I2 F2 => (∀ k : Nat, k ∉ [] → I2 k = In k) ∧ (((True) ∧ (va_up cz 23 ((cz 23) + 1)) = c2 ∧ (va_up Fz 27 (upd ((Fz 27)) ((cz 23)) (nI ((kd (Fz 28 (cz 24 - 1))) * 1048576 + 0)))) = F2))) cn36 In36 Fn36 := wh_36
              obtain ⟨hI36_, vh_36⟩ := vh_36
              obtain ⟨h_36, rfl, rfl⟩ := vh_36
              obtain rfl : In = In36 := (funext (fun k => hI36_ k List.not_mem_nil)).symm
              have hP : va_P D vwCl (wM cI cB cZ g (va_up cz 23 ((cz 23) + 1)) In (va_up Fz 27 (upd ((Fz 27)) ((cz 23)) (nI ((kd (Fz 28 (cz 24 - 1))) * 1048576 + 0))))) H1 := hP1
              have hD : va_D A (wM cI cB cZ g (va_up cz 23 ((cz 23) + 1)) In (va_up Fz 27 (upd ((Fz 27)) ((cz 23)) (nI ((kd (Fz 28 (cz 24 - 1))) * 1048576 + 0))))) := hD1.weaken (fun _ _ _ h => hFc _ h)
              generalize H1 = H at hP hS ⊢
              refine lv_aload_n hx hb dX12_closesSums_46 rfl (lvA0 hl) ?_
              refine lv_aload_n hx hb dX12_closesSums_47 rfl (lvA0 hl) ?_
              refine gM_264 S hK hP (v := .int (nI (cz 24))) rfl dX12_closesSums_48 ?_
              refine lv_iconst (v := 1) hx hb dX12_closesSums_51 kic_1 ?_
              refine lv_isub hx hb dX12_closesSums_52 ?_
              refine lv_topi (fun y_37 ey_37 => ?_)
              obtain rfl : y_37 = (nI (cz 24 - 1)) := ey_37.trans (nI_sub (b := 1) (by (first | omega | (have zz0 := Hid.u hi_cn; have zz1 := Hid.u hi_cz; have zz2 := Hid.u hq_cz; omega))))
              refine pM_264 S hK hP hD hS (a := (cz 24 - 1)) (cn2 := (va_up (va_up cz 23 ((cz 23) + 1)) 24 (cz 24 - 1))) rfl rfl dX12_closesSums_53 (fun H locs hP hD hS => ?_)
              refine lv_goto (tgt := 0) hx hb dX12_closesSums_56 rfl ?_
              exact ih0  (va_up (va_up cz 23 ((cz 23) + 1)) 24 (cz 24 - 1)) (va_up Fz 27 (upd ((Fz 27)) ((cz 23)) (nI ((kd (Fz 28 (cz 24 - 1))) * 1048576 + 0)))) _ _ (show (cz 24 - 1) < n0 by (first | omega | (have zz0 := Hid.u hi_cn; have zz1 := Hid.u hi_cz; have zz2 := Hid.u hq_cz; omega))) ⟨(Fr.mo (Fr.f 27 (Fr.c 24 (Fr.c 23 hfr0))) (sbl rfl) (sbl rfl) (sbl rfl)), (IM.fr (In := In) hI0 (Fr.f 27 (Fr.c 24 (Fr.c 23 Fr.rf))) (by decide) (by decide)), (by have q := PSx.popop' hx0_0 (by (first | omega | (have zz0 := Hid.u hi_cn; have zz1 := Hid.u hi_cz; have zz2 := Hid.u hq_cz; omega))) (by (first | omega | (have zz0 := Hid.u hi_cn; have zz1 := Hid.u hi_cz; have zz2 := Hid.u hq_cz; omega))); exact q), (by show cz 24 - 1 ≤ cn 24; (first | omega | (have zz0 := Hid.u hi_cn; have zz1 := Hid.u hi_cz; have zz2 := Hid.u hq_cz; omega))), (fun k hk => (upd_lt (by (first | omega | (have zz0 := Hid.u hi_cn; have zz1 := Hid.u hi_cz; have zz2 := Hid.u hq_cz; omega)))).trans (hx0_2 k hk)), (fun i h1 h2 => by have h1 : cz 24 - 1 ≤ i := h1; show kd (Fz 28 i) ≤ 6; by_cases e : i = cz 24 - 1; (rw [e]; (first | omega | (have zz0 := Hid.u hi_cn; have zz1 := Hid.u hi_cz; have zz2 := Hid.u hq_cz; omega))); exact hx0_3 i (by (first | omega | (have zz0 := Hid.u hi_cn; have zz1 := Hid.u hi_cz; have zz2 := Hid.u hq_cz; omega))) h2), (CSI.step hx0_4 hx0_0.bot (by (first | omega | (have zz0 := Hid.u hi_cn; have zz1 := Hid.u hi_cz; have zz2 := Hid.u hq_cz; omega))) (by (first | omega | (have zz0 := Hid.u hi_cn; have zz1 := Hid.u hi_cz; have zz2 := Hid.u hq_cz; omega))) (fun q => by first | (exfalso; (first | omega | (have zz0 := Hid.u hi_cn; have zz1 := Hid.u hi_cz; have zz2 := Hid.u hq_cz; omega))) | assumption) rfl rfl rfl rfl rfl)⟩ hP hD hS ls (lv_sub hl [0, 1] rfl)
            ·
              have tc_32 : (r_30.toInt : Int) ≠ 2 := fun q => c_32 (Int32.toInt_inj.mp q)
              refine lv_aload_n hx hb dX12_closesSums_29 rfl (lvA0 hl) ?_
              refine vp_callSi (runV_ra (As := []) (rest := []) S (q_top l D cI cB cZ g cz In Fz  hI0 hx0_0.wk (by (first | omega | (have zz0 := Hid.u hi_cn; have zz1 := Hid.u hi_cz; have zz2 := Hid.u hq_cz; omega)))) kV_RX12_267 hK hP 0 rfl rfl rfl ⟨Nat.le_of_ble_eq_true rfl, Nat.le_of_ble_eq_true rfl⟩ ⟨Nat.le_of_ble_eq_true rfl, Nat.le_of_ble_eq_true rfl⟩ rfl hl.1 rfl (Nat.le_of_ble_eq_true rfl) dX12_closesSums_30) (fun r_38 h_39 => ?_)
              refine lv_iconst (v := 3) hx hb dX12_closesSums_33 kic_3 ?_
              refine lv_icmp_ne (tgt := 59) hx hb dX12_closesSums_34 rfl (fun c_40 => ?_) (fun c_40 => ?_)
              ·
                have tc_40 : (r_38.toInt : Int) ≠ 3 := fun q => c_40 (Int32.toInt_inj.mp q)
                exact W.vret hx hb hr (fun t ht hW => ⟨⟨(cz, In, Fz), rfl, ⟨(Fr.mo hfr0 (sbl rfl) (sbl rfl) (sbl rfl)), hI0, (by show ((PSx (cz 19) (cz 20) (cz 23) (cz 24) (Fz 27) (Fz 28) a0 (G0 + 1) w0 s0) ∧ cz 24 ≤ cn 24 ∧ (∀ k : Nat, k < a0 → Fz 27 k = Fn 27 k) ∧ (∀ i : Nat, cz 24 ≤ i → i < cn 24 → kd (Fz 28 i) ≤ 6) ∧ (¬ (v0 : Int32) = 0 → cz 24 = w0 ∨ kd (Fz 28 (cz 24 - 1)) = 14)) ∧ (((v0 : Int32) = 0 → RQ w0 k (eT L ++ (o2 pl ++ o2 none)) (o ++ o1 ti) cz In Fz) ∧ (¬ (v0 : Int32) = 0 → RQ w0 k (eT L ++ (o2 none ++ o2 none)) (o ++ o1 ti ++ o1 pl) cz In Fz)); exact ⟨(by exact ⟨hx0_0, hx0_1, hx0_2, hx0_3, fun hz => by first | (first | omega | (have zz0 := Hid.u hi_cn; have zz1 := Hid.u hi_cz; have zz2 := Hid.u hq_cz; omega)) | exact absurd (by assumption) hz⟩), CSI.fin hx0_4 (by (first | omega | (have zz0 := Hid.u hi_cn; have zz1 := Hid.u hi_cz; have zz2 := Hid.u hq_cz; omega))) (fun hz => by first | (first | omega | (have zz0 := Hid.u hi_cn; have zz1 := Hid.u hi_cz; have zz2 := Hid.u hq_cz; omega)) | exact absurd (by assumption) hz)⟩)⟩, by rw [ht]; exact hP, hD⟩, hS.F ht⟩) hS.2.2 dX12_closesSums_59
              ·
                have tc_40 : (r_38.toInt : Int) = 3 := congrArg Int32.toInt c_40
                refine lv_aload_n hx hb dX12_closesSums_37 rfl (lvA0 hl) ?_
                refine lv_aload_n hx hb dX12_closesSums_38 rfl (lvA0 hl) ?_
                refine vp_callSi (runV_ra (As := []) (rest := [.ref (g 100)]) S (q_top l D cI cB cZ g cz In Fz  hI0 hx0_0.wk (by (first | omega | (have zz0 := Hid.u hi_cn; have zz1 := Hid.u hi_cz; have zz2 := Hid.u hq_cz; omega)))) kV_RX12_267 hK hP 0 rfl rfl rfl ⟨Nat.le_of_ble_eq_true rfl, Nat.le_of_ble_eq_true rfl⟩ ⟨Nat.le_of_ble_eq_true rfl, Nat.le_of_ble_eq_true rfl⟩ rfl hl.1 rfl (Nat.le_of_ble_eq_true rfl) dX12_closesSums_39) (fun r_41 h_42 => ?_)
                obtain rfl : r_41 = nI (kd (Fz 28 (cz 24 - 1))) := nI_ofT (by (first | omega | (have zz0 := Hid.u hi_cn; have zz1 := Hid.u hi_cz; have zz2 := Hid.u hq_cz; omega))) (by (first | omega | (have zz0 := Hid.u hi_cn; have zz1 := Hid.u hi_cz; have zz2 := Hid.u hq_cz; omega)))
                refine lv_iconst (v := 0) hx hb dX12_closesSums_42 kic_0 ?_
                have hFc := free_all hD hS hA
                refine va_callv (runV_a (As := [.int (nI (kd (Fz 28 (cz 24 - 1)))), .int 0]) (rest := []) S (q_says l D cI cB cZ g cz In Fz (kd (Fz 28 (cz 24 - 1))) 0 H.size hI0 (by (first | omega | (have zz0 := Hid.u hi_cn; have zz1 := Hid.u hi_cz; have zz2 := Hid.u hq_cz; omega)))) kV_RX12_270 hK hP hD 0 rfl rfl rfl ⟨Nat.le_of_ble_eq_true rfl, Nat.le_of_ble_eq_true rfl⟩ ⟨Nat.le_of_ble_eq_true rfl, Nat.le_of_ble_eq_true rfl⟩ rfl hl.1 rfl (Nat.le_of_ble_eq_true rfl) dX12_closesSums_43) hS (fun q _ h => hFc q h) hFc (fun u t H1 locs ht hvm wh_44 hB hz1 hk1 hS => ?_)
                obtain ⟨cn44, In44, Fn44⟩ := u
                obtain ⟨hP1, hD1⟩ := hB
                rw [ht] at hP1
                have vh_44 : (fun c2 I2 F2 => (∀ k : Nat, k ∉ [] → I2 k = In k) ∧ (((True) ∧ (va_up cz 23 ((cz 23) + 1)) = c2 ∧ (va_up Fz 27 (upd ((Fz 27)) ((cz 23)) (nI ((kd (Fz 28 (cz 24 - 1))) * 1048576 + 0)))) = F2))) cn44 In44 Fn44 := wh_44
                obtain ⟨hI44_, vh_44⟩ := vh_44
                obtain ⟨h_44, rfl, rfl⟩ := vh_44
                obtain rfl : In = In44 := (funext (fun k => hI44_ k List.not_mem_nil)).symm
                have hP : va_P D vwCl (wM cI cB cZ g (va_up cz 23 ((cz 23) + 1)) In (va_up Fz 27 (upd ((Fz 27)) ((cz 23)) (nI ((kd (Fz 28 (cz 24 - 1))) * 1048576 + 0))))) H1 := hP1
                have hD : va_D A (wM cI cB cZ g (va_up cz 23 ((cz 23) + 1)) In (va_up Fz 27 (upd ((Fz 27)) ((cz 23)) (nI ((kd (Fz 28 (cz 24 - 1))) * 1048576 + 0))))) := hD1.weaken (fun _ _ _ h => hFc _ h)
                generalize H1 = H at hP hS ⊢
                refine lv_aload_n hx hb dX12_closesSums_46 rfl (lvA0 hl) ?_
                refine lv_aload_n hx hb dX12_closesSums_47 rfl (lvA0 hl) ?_
                refine gM_264 S hK hP (v := .int (nI (cz 24))) rfl dX12_closesSums_48 ?_
                refine lv_iconst (v := 1) hx hb dX12_closesSums_51 kic_1 ?_
                refine lv_isub hx hb dX12_closesSums_52 ?_
                refine lv_topi (fun y_45 ey_45 => ?_)
                obtain rfl : y_45 = (nI (cz 24 - 1)) := ey_45.trans (nI_sub (b := 1) (by (first | omega | (have zz0 := Hid.u hi_cn; have zz1 := Hid.u hi_cz; have zz2 := Hid.u hq_cz; omega))))
                refine pM_264 S hK hP hD hS (a := (cz 24 - 1)) (cn2 := (va_up (va_up cz 23 ((cz 23) + 1)) 24 (cz 24 - 1))) rfl rfl dX12_closesSums_53 (fun H locs hP hD hS => ?_)
                refine lv_goto (tgt := 0) hx hb dX12_closesSums_56 rfl ?_
                exact ih0  (va_up (va_up cz 23 ((cz 23) + 1)) 24 (cz 24 - 1)) (va_up Fz 27 (upd ((Fz 27)) ((cz 23)) (nI ((kd (Fz 28 (cz 24 - 1))) * 1048576 + 0)))) _ _ (show (cz 24 - 1) < n0 by (first | omega | (have zz0 := Hid.u hi_cn; have zz1 := Hid.u hi_cz; have zz2 := Hid.u hq_cz; omega))) ⟨(Fr.mo (Fr.f 27 (Fr.c 24 (Fr.c 23 hfr0))) (sbl rfl) (sbl rfl) (sbl rfl)), (IM.fr (In := In) hI0 (Fr.f 27 (Fr.c 24 (Fr.c 23 Fr.rf))) (by decide) (by decide)), (by have q := PSx.popop' hx0_0 (by (first | omega | (have zz0 := Hid.u hi_cn; have zz1 := Hid.u hi_cz; have zz2 := Hid.u hq_cz; omega))) (by (first | omega | (have zz0 := Hid.u hi_cn; have zz1 := Hid.u hi_cz; have zz2 := Hid.u hq_cz; omega))); exact q), (by show cz 24 - 1 ≤ cn 24; (first | omega | (have zz0 := Hid.u hi_cn; have zz1 := Hid.u hi_cz; have zz2 := Hid.u hq_cz; omega))), (fun k hk => (upd_lt (by (first | omega | (have zz0 := Hid.u hi_cn; have zz1 := Hid.u hi_cz; have zz2 := Hid.u hq_cz; omega)))).trans (hx0_2 k hk)), (fun i h1 h2 => by have h1 : cz 24 - 1 ≤ i := h1; show kd (Fz 28 i) ≤ 6; by_cases e : i = cz 24 - 1; (rw [e]; (first | omega | (have zz0 := Hid.u hi_cn; have zz1 := Hid.u hi_cz; have zz2 := Hid.u hq_cz; omega))); exact hx0_3 i (by (first | omega | (have zz0 := Hid.u hi_cn; have zz1 := Hid.u hi_cz; have zz2 := Hid.u hq_cz; omega))) h2), (CSI.step hx0_4 hx0_0.bot (by (first | omega | (have zz0 := Hid.u hi_cn; have zz1 := Hid.u hi_cz; have zz2 := Hid.u hq_cz; omega))) (by (first | omega | (have zz0 := Hid.u hi_cn; have zz1 := Hid.u hi_cz; have zz2 := Hid.u hq_cz; omega))) (fun q => by first | (exfalso; (first | omega | (have zz0 := Hid.u hi_cn; have zz1 := Hid.u hi_cz; have zz2 := Hid.u hq_cz; omega))) | assumption) rfl rfl rfl rfl rfl)⟩ hP hD hS ls (lv_sub hl [0, 1] rfl)
  exact lp_0 _  cn Fn _ _ (Nat.lt_succ_self _) ⟨(Fr.mo Fr.rf (sbl rfl) (sbl rfl) (sbl rfl)), hI, hPS, (Nat.le_refl _), (fun k hk => rfl), (fun i h1 h2 => absurd (Nat.lt_of_lt_of_le h2 h1) (Nat.lt_irrefl _)), (CSI.start hq hlk)⟩ hP hD hS ls (lv_sub hl [0, 1] rfl)
set_option maxRecDepth 100000 in
set_option maxHeartbeats 4000000 in
theorem q_readsFactor9 (l : Launch) (D : va_G) (cI cB cZ : ClassId) (g : Nat → Nat) (cn : Nat → Nat) (In : Nat → Int32) (Fn : Nat → Nat → Int32) (a0 G0 w0 s0 : Nat) (bb : Nat → Int32) (nn : Nat) (k : Nat) (L : LevT) (pl ti : Option Nat) (o : OutT) (sz : Nat) (hI : IM cn Fn) (hPS : PSx (cn 19) (cn 20) (cn 23) (cn 24) (Fn 27) (Fn 28) a0 G0 w0 s0) (heb : bbM Fn = bb) (hnn : cn 20 = nn) (hq : RQ w0 k (eT L ++ (o2 pl ++ o2 ti)) o cn In Fn) (hlk : LvKs ((pl, ti) :: L)) : Met l yX12_readsFactor (CWS yX12_readsFactor cX12_readsFactor 2 (some .boolean)) (RM 3 0 0) (PBw [.ref (g 100)] D cI cB cZ (wM cI cB cZ g cn In Fn) sz) (va_Qi (fun (r : Int32) (u : (Nat → Nat) × (Nat → Int32) × (Nat → Nat → Int32)) => (fun r c2 I2 F2 => Fr [19, 23, 24, 26] [21, 22] [27, 28] cn In Fn c2 I2 F2 ∧ IM c2 F2 ∧ (((r : Int32) = 0 ∨ (r = 1 ∧ PSx (c2 19) (c2 20) (c2 23) (c2 24) (F2 27) (F2 28) a0 (G0 + 1) w0 s0 ∧ (∀ k : Nat, k < a0 → F2 27 k = Fn 27 k) ∧ (∀ i : Nat, i < w0 → F2 28 i = Fn 28 i) ∧ cn 19 < c2 19)) ∧ (((r : Int32) = 0 → ∃ e9 : Nat, VT bb nn k pl ti L (cn 19) o = .error e9 ∧ FLT I2 e9) ∧ ((r : Int32) = 1 → RFO bb nn w0 (k + L.length) (VT bb nn k pl ti L (cn 19) o) c2 I2 F2)))) r u.1 u.2.1 u.2.2) (fun (u : (Nat → Nat) × (Nat → Int32) × (Nat → Nat → Int32)) (t : State) => va_P D vwCl (wM cI cB cZ g u.1 u.2.1 u.2.2) t.heap ∧ va_D (va_A (wM cI cB cZ g cn In Fn) sz) (wM cI cB cZ g u.1 u.2.1 u.2.2)) (va_A (wM cI cB cZ g cn In Fn) sz)) 0 0 (va_A (wM cI cB cZ g cn In Fn) sz) := by
  refine en_w (fun A => (va_Qi (fun (r : Int32) (u : (Nat → Nat) × (Nat → Int32) × (Nat → Nat → Int32)) => (fun (r : Int32) (c2 : Nat → Nat) (I2 : Nat → Int32) (F2 : Nat → Nat → Int32) => Fr [19, 23, 24, 26] [21, 22] [27, 28] cn In Fn c2 I2 F2 ∧ IM c2 F2 ∧ (((r : Int32) = 0 ∨ (r = 1 ∧ PSx (c2 19) (c2 20) (c2 23) (c2 24) (F2 27) (F2 28) a0 (G0 + 1) w0 s0 ∧ (∀ k : Nat, k < a0 → F2 27 k = Fn 27 k) ∧ (∀ i : Nat, i < w0 → F2 28 i = Fn 28 i) ∧ cn 19 < c2 19)) ∧ (((r : Int32) = 0 → ∃ e9 : Nat, VT bb nn k pl ti L (cn 19) o = .error e9 ∧ FLT I2 e9) ∧ ((r : Int32) = 1 → RFO bb nn w0 (k + L.length) (VT bb nn k pl ti L (cn 19) o) c2 I2 F2)))) r u.1 u.2.1 u.2.2) (fun (u : (Nat → Nat) × (Nat → Int32) × (Nat → Nat → Int32)) (t : State) => va_P D vwCl (wM cI cB cZ g u.1 u.2.1 u.2.2) t.heap ∧ va_D A (wM cI cB cZ g u.1 u.2.1 u.2.2)) A)) rfl rfl pn_RX12 (Nat.le_of_ble_eq_true rfl) (fun p e s m below meth c A hx hb hml hown S hr hlocks hnm hA hP hK hD hS ls hl => ?_)
  have hl : lv_has ls 2 [(0, .ref (g 100))] := hl
  have hi_cn : Hid (CB cn) := hI.b
  have lp_0 : ∀ (n : Nat)  (cz : Nat → Nat) (Iz : Nat → Int32) (Fz : Nat → Nat → Int32) (H : Heap) (locs : List Loc) , cn 20 - cz 19 < n → (Fr [19, 23, 24, 26] [21, 22] [27, 28] cn In Fn cz Iz Fz ∧ IM cz Fz ∧ (PSx (cz 19) (cz 20) (cz 23) (cz 24) (Fz 27) (Fz 28) a0 G0 w0 s0) ∧ (∀ k : Nat, k < a0 → Fz 27 k = Fn 27 k) ∧ (∀ i : Nat, i < w0 → Fz 28 i = Fn 28 i) ∧ (cn 19 ≤ cz 19) ∧ (RFI bb nn w0 k pl ti L (cn 19) o cz Iz Fz)) → va_P D vwCl (wM cI cB cZ g cz Iz Fz) H → va_D A (wM cI cB cZ g cz Iz Fz) → va_S A s.heap H locs → ∀ ls : Array Slot, lv_has ls 2 [(0, .ref (g 100))] → W p l e (RM 3 0 0) s m ([.ref (g 100)]).toArray below meth c H locs 0 0 (MQ below (va_Qi (fun (r : Int32) (u : (Nat → Nat) × (Nat → Int32) × (Nat → Nat → Int32)) => (fun r c2 I2 F2 => Fr [19, 23, 24, 26] [21, 22] [27, 28] cn In Fn c2 I2 F2 ∧ IM c2 F2 ∧ (((r : Int32) = 0 ∨ (r = 1 ∧ PSx (c2 19) (c2 20) (c2 23) (c2 24) (F2 27) (F2 28) a0 (G0 + 1) w0 s0 ∧ (∀ k : Nat, k < a0 → F2 27 k = Fn 27 k) ∧ (∀ i : Nat, i < w0 → F2 28 i = Fn 28 i) ∧ cn 19 < c2 19)) ∧ (((r : Int32) = 0 → ∃ e9 : Nat, VT bb nn k pl ti L (cn 19) o = .error e9 ∧ FLT I2 e9) ∧ ((r : Int32) = 1 → RFO bb nn w0 (k + L.length) (VT bb nn k pl ti L (cn 19) o) c2 I2 F2)))) r u.1 u.2.1 u.2.2) (fun (u : (Nat → Nat) × (Nat → Int32) × (Nat → Nat → Int32)) (t : State) => va_P D vwCl (wM cI cB cZ g u.1 u.2.1 u.2.2) t.heap ∧ va_D A (wM cI cB cZ g u.1 u.2.1 u.2.2)) A) ([.ref (g 100)]).toArray s 0 0 A) (F0 m 0 ls []) := by
    intro n0
    induction n0 with
    | zero => intros; (first | omega | (have zz0 := Hid.u hi_cn; omega))
    | succ n0 ih0 =>
      intro  cz Iz Fz H locs hmu0 hinv0 hP hD hS ls hl
      obtain ⟨hfr0, hI0, hx0_0, hx0_1, hx0_2, hx0_3, hx0_4⟩ := hinv0
      have hi_cz : Hid (CB cz) := hI0.b
      have : cz 20 = cn 20 := hfr0.1 20 (nml rfl)
      have : cz 25 = cn 25 := hfr0.1 25 (nml rfl)
      have hq_cz := Hid.i (frq_19_23_24_26_0_1_2_46_57_58_62_63_75_83_44 hfr0)
      have hf0 := hx0_0.f
      refine lv_aload_n hx hb (oc_42 0 shX12_readsFactor_0) rfl (lvA0 hl) ?_
      refine vp_callSi (runV_ra (As := []) (rest := []) S (q_here l D cI cB cZ g cz Iz Fz  hI0 (by (first | omega | (have zz0 := Hid.u hi_cn; have zz1 := Hid.u hi_cz; have zz2 := Hid.u hq_cz; omega))) (by (first | omega | (have zz0 := Hid.u hi_cn; have zz1 := Hid.u hi_cz; have zz2 := Hid.u hq_cz; omega)))) kV_RX12_239 hK hP 0 rfl rfl rfl ⟨Nat.le_of_ble_eq_true rfl, Nat.le_of_ble_eq_true rfl⟩ ⟨Nat.le_of_ble_eq_true rfl, Nat.le_of_ble_eq_true rfl⟩ rfl hl.1 rfl (Nat.le_of_ble_eq_true rfl) (oc_182 1 (aq_1 shX12_readsFactor_0) uw_0_239)) (fun r_1 h_2 => ?_)
      have hpk_2 : pk bb nn (cz 19) = r_1 := (pk_here (c := cz) (F := Fz) (bbM_cg heb (hfr0.2.2 17 (nml rfl))) (show cz 20 = nn by (first | omega | (have zz0 := Hid.u hi_cn; have zz1 := Hid.u hi_cz; have zz2 := Hid.u hq_cz; omega)))).trans h_2.1.symm
      refine lv_bipush (v := 91) hx hb (oc_16 4 (aq_4 shX12_readsFactor_0) sgb_91) kbc_91 ?_
      refine lv_icmp_ne (tgt := 20) hx hb (oc_160 6 (aq_6 shX12_readsFactor_0) sgw_0_14) rfl (fun c_3 => ?_) (fun c_3 => ?_)
      ·
        have tc_3 : (r_1.toInt : Int) ≠ 91 := fun q => c_3 (Int32.toInt_inj.mp q)
        refine lv_aload_n hx hb (oc_42 20 (aq_20 shX12_readsFactor_0)) rfl (lvA0 hl) ?_
        refine vp_callSi (runV_ra (As := []) (rest := []) S (q_isDigit l D cI cB cZ g cz Iz Fz  hI0 (by (first | omega | (have zz0 := Hid.u hi_cn; have zz1 := Hid.u hi_cz; have zz2 := Hid.u hq_cz; omega))) (by (first | omega | (have zz0 := Hid.u hi_cn; have zz1 := Hid.u hi_cz; have zz2 := Hid.u hq_cz; omega)))) kV_RX12_253 hK hP 0 rfl rfl rfl ⟨Nat.le_of_ble_eq_true rfl, Nat.le_of_ble_eq_true rfl⟩ ⟨Nat.le_of_ble_eq_true rfl, Nat.le_of_ble_eq_true rfl⟩ rfl hl.1 rfl (Nat.le_of_ble_eq_true rfl) (oc_182 21 (aq_21 shX12_readsFactor_0) uw_0_253)) (fun r_4 h_5 => ?_)
        rcases h_5 with ⟨rfl, h_5⟩ | ⟨rfl, h_5⟩
        ·
          have h_5 : (cz 19) < (cz 20) ∧ 48 ≤ (hereM cz Fz).toInt ∧ (hereM cz Fz).toInt ≤ 57 := h_5
          refine lv_if_eq (tgt := 47) hx hb dX12_readsFactor_24 rfl (fun h => absurd h cq_eq_1_0) (fun _ => ?_)
          refine lv_aload_n hx hb (oc_42 27 (aq_3 shX12_readsFactor_24)) rfl (lvA0 hl) ?_
          have hFc := free_all hD hS hA
          refine va_calli (runV_a (As := []) (rest := []) S (q_readsNumber9 l D cI cB cZ g cz Iz Fz bb nn H.size hI0 (by (first | omega | (have zz0 := Hid.u hi_cn; have zz1 := Hid.u hi_cz; have zz2 := Hid.u hq_cz; omega))) (by (first | omega | (have zz0 := Hid.u hi_cn; have zz1 := Hid.u hi_cz; have zz2 := Hid.u hq_cz; omega))) (by assumption) (bbM_cg heb (hfr0.2.2 17 (nml rfl))) (show cz 20 = nn by (first | omega | (have zz0 := Hid.u hi_cn; have zz1 := Hid.u hi_cz; have zz2 := Hid.u hq_cz; omega)))) kV_RX12_277 hK hP hD 0 rfl rfl rfl ⟨Nat.le_of_ble_eq_true rfl, Nat.le_of_ble_eq_true rfl⟩ ⟨Nat.le_of_ble_eq_true rfl, Nat.le_of_ble_eq_true rfl⟩ rfl hl.1 rfl (Nat.le_of_ble_eq_true rfl) (oc_182 28 (aq_4 shX12_readsFactor_24) uw_1_21)) hS (fun q _ h => hFc q h) hFc (fun r_6 u t H1 locs ht hvm wh_7 hB hz1 hk1 hS => ?_)
          obtain ⟨cn7, In7, Fn7⟩ := u
          obtain ⟨hP1, hD1⟩ := hB
          rw [ht] at hP1
          have hP : va_P D vwCl (wM cI cB cZ g cn7 In7 Fn7) H1 := hP1
          have hD : va_D A (wM cI cB cZ g cn7 In7 Fn7) := hD1.weaken (fun _ _ _ h => hFc _ h)
          generalize H1 = H at hP hS ⊢
          have vh_7 : (fun r c2 I2 F2 => Fr [19, 26] [21] [] cz Iz Fz c2 I2 F2 ∧ IM c2 F2 ∧ (((r : Int32) = 0 ∨ (r = 1 ∧ (cz 19) < c2 19 ∧ c2 19 ≤ (cz 20) ∧ c2 26 < 1000000)) ∧ (((r : Int32) = 0 → ∃ e9 : Nat, (∀ u9 : OutT, atmL bb nn ((cz 19)) u9 = .error e9) ∧ FLT I2 e9) ∧ ((r : Int32) = 1 → ∀ u9 : OutT, atmL bb nn ((cz 19)) u9 = .ok (c2 19, u9 ++ [(1, c2 26)]))))) r_6 cn7 In7 Fn7 := wh_7
          obtain ⟨hfc7, hIn7, h_7⟩ := vh_7
          obtain rfl : Fz = Fn7 := (funext (fun k => hfc7.2.2 k List.not_mem_nil)).symm
          have hf7 : Fr [19, 23, 24, 26] [21, 22] [27, 28] cn In Fn cn7 In7 Fz := Fr.mo (Fr.tr hfr0 hfc7) (sbl rfl) (sbl rfl) (sbl rfl)
          have hi_cn7 : Hid (CB cn7) := hIn7.b
          have : cn7 20 = cn 20 := hf7.1 20 (nml rfl)
          have : cn7 25 = cn 25 := hf7.1 25 (nml rfl)
          have hq_cn7 := Hid.i (frq_19_23_24_26_0_1_2_46_57_58_62_63_75_83_44 hf7)
          have : cn7 20 = (cz 20) := hfc7.1 20 (nml rfl)
          have : cn7 23 = (cz 23) := hfc7.1 23 (nml rfl)
          have : cn7 24 = (cz 24) := hfc7.1 24 (nml rfl)
          have : cn7 25 = (cz 25) := hfc7.1 25 (nml rfl)
          obtain ⟨h_7, Nh_7⟩ := h_7
          rcases h_7 with rfl | ⟨rfl, kh_7⟩
          ·
            refine lv_if_ne (tgt := 36) hx hb dX12_readsFactor_31 rfl (fun h => absurd h cq_eq_0_0) (fun _ => ?_)
            refine lv_iconst (v := 0) hx hb (oc_3 34 (aq_10 shX12_readsFactor_24)) kic_0 ?_
            exact W.zret (v := 0) hx hb hr rfl (fun t ht hW => ⟨⟨0, (cn7, In7, Fz), rfl, ⟨(Fr.mo hf7 (sbl rfl) (sbl rfl) (sbl rfl)), hIn7, (by show ((0 : Int32) = 0 ∨ (0 = 1 ∧ PSx (cn7 19) (cn7 20) (cn7 23) (cn7 24) (Fz 27) (Fz 28) a0 (G0 + 1) w0 s0 ∧ (∀ k : Nat, k < a0 → Fz 27 k = Fn 27 k) ∧ (∀ i : Nat, i < w0 → Fz 28 i = Fn 28 i) ∧ cn 19 < cn7 19)) ∧ (((0 : Int32) = 0 → ∃ e9 : Nat, VT bb nn k pl ti L (cn 19) o = .error e9 ∧ FLT In7 e9) ∧ ((0 : Int32) = 1 → RFO bb nn w0 (k + L.length) (VT bb nn k pl ti L (cn 19) o) cn7 In7 Fz)); exact ⟨(by exact Or.inl rfl), ⟨fun _ => (by obtain ⟨e9, a9, f9⟩ := Nh_7.1 rfl; exact ⟨e9, RFI.atmE hx0_4 (fun q9 => (show ¬ r_1 = 91 by assumption) (hpk_2.symm.trans q9)) (a9 o), f9⟩), (fun q => absurd q (by decide))⟩⟩)⟩, by rw [ht]; exact hP, hD⟩, hS.F ht⟩) hS.2.2 (oc_172 35 (aq_11 shX12_readsFactor_24))
          ·
            obtain ⟨kh_7a, kh_7b, kh_7c⟩ := kh_7
            refine lv_if_ne (tgt := 36) hx hb dX12_readsFactor_31 rfl (fun _ => ?_) (fun h => absurd h cq_eq_1_0)
            refine lv_aload_n hx hb (oc_42 36 (aq_12 shX12_readsFactor_24)) rfl (lvA0 hl) ?_
            refine lv_iconst (v := 0) hx hb (oc_3 37 (aq_13 shX12_readsFactor_24)) kic_0 ?_
            refine lv_aload_n hx hb (oc_42 38 (aq_14 shX12_readsFactor_24)) rfl (lvA0 hl) ?_
            refine gM_250 S hK hP (v := .int (nI (cn7 26))) rfl (oc_180 39 (aq_15 shX12_readsFactor_24) uw_0_250) ?_
            have hFc := free_all hD hS hA
            refine va_callv (runV_a (As := [.int 0, .int (nI (cn7 26))]) (rest := []) S (q_says l D cI cB cZ g cn7 In7 Fz 0 (cn7 26) H.size hIn7 (by (first | omega | (have zz0 := Hid.u hi_cn; have zz1 := Hid.u hi_cn7; have zz2 := Hid.u hi_cz; have zz3 := Hid.u hq_cn7; have zz4 := Hid.u hq_cz; omega)))) kV_RX12_270 hK hP hD 0 rfl rfl rfl ⟨Nat.le_of_ble_eq_true rfl, Nat.le_of_ble_eq_true rfl⟩ ⟨Nat.le_of_ble_eq_true rfl, Nat.le_of_ble_eq_true rfl⟩ rfl hl.1 rfl (Nat.le_of_ble_eq_true rfl) (oc_182 42 (aq_18 shX12_readsFactor_24) uw_1_14)) hS (fun q _ h => hFc q h) hFc (fun u t H1 locs ht hvm wh_9 hB hz1 hk1 hS => ?_)
            obtain ⟨cn9, In9, Fn9⟩ := u
            obtain ⟨hP1, hD1⟩ := hB
            rw [ht] at hP1
            have vh_9 : (fun c2 I2 F2 => (∀ k : Nat, k ∉ [] → I2 k = In7 k) ∧ (((True) ∧ (va_up cn7 23 ((cn7 23) + 1)) = c2 ∧ (va_up Fz 27 (upd ((Fz 27)) ((cn7 23)) (nI (0 * 1048576 + (cn7 26))))) = F2))) cn9 In9 Fn9 := wh_9
            obtain ⟨hI9_, vh_9⟩ := vh_9
            obtain ⟨h_9, rfl, rfl⟩ := vh_9
            obtain rfl : In7 = In9 := (funext (fun k => hI9_ k List.not_mem_nil)).symm
            have hP : va_P D vwCl (wM cI cB cZ g (va_up cn7 23 ((cn7 23) + 1)) In7 (va_up Fz 27 (upd ((Fz 27)) ((cn7 23)) (nI (0 * 1048576 + (cn7 26)))))) H1 := hP1
            have hD : va_D A (wM cI cB cZ g (va_up cn7 23 ((cn7 23) + 1)) In7 (va_up Fz 27 (upd ((Fz 27)) ((cn7 23)) (nI (0 * 1048576 + (cn7 26)))))) := hD1.weaken (fun _ _ _ h => hFc _ h)
            generalize H1 = H at hP hS ⊢
            refine lv_iconst (v := 1) hx hb (oc_4 45 (aq_21 shX12_readsFactor_24)) kic_1 ?_
            exact W.zret (v := 1) hx hb hr rfl (fun t ht hW => ⟨⟨1, ((va_up cn7 23 ((cn7 23) + 1)), In7, (va_up Fz 27 (upd ((Fz 27)) ((cn7 23)) (nI (0 * 1048576 + (cn7 26)))))), rfl, ⟨(Fr.mo (Fr.f 27 (Fr.c 23 hf7)) (sbl rfl) (sbl rfl) (sbl rfl)), (IM.fr (In := In7) hIn7 (Fr.f 27 (Fr.c 23 Fr.rf)) (by decide) (by decide)), (by show ((1 : Int32) = 0 ∨ (1 = 1 ∧ PSx ((va_up cn7 23 ((cn7 23) + 1)) 19) ((va_up cn7 23 ((cn7 23) + 1)) 20) ((va_up cn7 23 ((cn7 23) + 1)) 23) ((va_up cn7 23 ((cn7 23) + 1)) 24) ((va_up Fz 27 (upd ((Fz 27)) ((cn7 23)) (nI (0 * 1048576 + (cn7 26))))) 27) ((va_up Fz 27 (upd ((Fz 27)) ((cn7 23)) (nI (0 * 1048576 + (cn7 26))))) 28) a0 (G0 + 1) w0 s0 ∧ (∀ k : Nat, k < a0 → (va_up Fz 27 (upd ((Fz 27)) ((cn7 23)) (nI (0 * 1048576 + (cn7 26))))) 27 k = Fn 27 k) ∧ (∀ i : Nat, i < w0 → (va_up Fz 27 (upd ((Fz 27)) ((cn7 23)) (nI (0 * 1048576 + (cn7 26))))) 28 i = Fn 28 i) ∧ cn 19 < (va_up cn7 23 ((cn7 23) + 1)) 19)) ∧ (((1 : Int32) = 0 → ∃ e9 : Nat, VT bb nn k pl ti L (cn 19) o = .error e9 ∧ FLT In7 e9) ∧ ((1 : Int32) = 1 → RFO bb nn w0 (k + L.length) (VT bb nn k pl ti L (cn 19) o) (va_up cn7 23 ((cn7 23) + 1)) In7 (va_up Fz 27 (upd ((Fz 27)) ((cn7 23)) (nI (0 * 1048576 + (cn7 26))))))); exact ⟨(by exact Or.inr ⟨rfl, (by have q := PSx.factor hx0_0 (pl' := cn7 19) (o := 0) (x := cn7 26) (by (first | omega | (have zz0 := Hid.u hi_cn; have zz1 := Hid.u hi_cn7; have zz2 := Hid.u hi_cz; have zz3 := Hid.u hq_cn7; have zz4 := Hid.u hq_cz; omega))) (by (first | omega | (have zz0 := Hid.u hi_cn; have zz1 := Hid.u hi_cn7; have zz2 := Hid.u hi_cz; have zz3 := Hid.u hq_cn7; have zz4 := Hid.u hq_cz; omega))) (Or.inl rfl) (by (first | omega | (have zz0 := Hid.u hi_cn; have zz1 := Hid.u hi_cn7; have zz2 := Hid.u hi_cz; have zz3 := Hid.u hq_cn7; have zz4 := Hid.u hq_cz; omega))); rw [← (show cn7 20 = cz 20 by (first | omega | (have zz0 := Hid.u hi_cn; have zz1 := Hid.u hi_cn7; have zz2 := Hid.u hi_cz; have zz3 := Hid.u hq_cn7; have zz4 := Hid.u hq_cz; omega))), ← (show cn7 23 = cz 23 by (first | omega | (have zz0 := Hid.u hi_cn; have zz1 := Hid.u hi_cn7; have zz2 := Hid.u hi_cz; have zz3 := Hid.u hq_cn7; have zz4 := Hid.u hq_cz; omega))), ← (show cn7 24 = cz 24 by (first | omega | (have zz0 := Hid.u hi_cn; have zz1 := Hid.u hi_cn7; have zz2 := Hid.u hi_cz; have zz3 := Hid.u hq_cn7; have zz4 := Hid.u hq_cz; omega)))] at q; exact q), fun k hk => (upd_lt (by (first | omega | (have zz0 := Hid.u hi_cn; have zz1 := Hid.u hi_cn7; have zz2 := Hid.u hi_cz; have zz3 := Hid.u hq_cn7; have zz4 := Hid.u hq_cz; omega)))).trans (hx0_1 k hk), hx0_2, (by show cn 19 < cn7 19; (first | omega | (have zz0 := Hid.u hi_cn; have zz1 := Hid.u hi_cn7; have zz2 := Hid.u hi_cz; have zz3 := Hid.u hq_cn7; have zz4 := Hid.u hq_cz; omega)))⟩), ⟨(fun q => absurd q (by decide)), fun _ => RFI.atm (q := cn7 19) (t := 1) (a := cn7 26) hx0_4 (fun q9 => (show ¬ r_1 = 91 by assumption) (hpk_2.symm.trans q9)) (Nh_7.2 rfl o) (by decide) (by (first | omega | (have zz0 := Hid.u hi_cn; have zz1 := Hid.u hi_cn7; have zz2 := Hid.u hi_cz; have zz3 := Hid.u hq_cn7; have zz4 := Hid.u hq_cz; omega))) (hfc7.2.1 22 (nml rfl)) rfl (by show cn7 23 + 1 = cz 23 + 1; (first | omega | (have zz0 := Hid.u hi_cn; have zz1 := Hid.u hi_cn7; have zz2 := Hid.u hi_cz; have zz3 := Hid.u hq_cn7; have zz4 := Hid.u hq_cz; omega))) (by show cn7 24 = cz 24; (first | omega | (have zz0 := Hid.u hi_cn; have zz1 := Hid.u hi_cn7; have zz2 := Hid.u hi_cz; have zz3 := Hid.u hq_cn7; have zz4 := Hid.u hq_cz; omega))) (by have e9 : cn7 23 = cz 23 := (by (first | omega | (have zz0 := Hid.u hi_cn; have zz1 := Hid.u hi_cn7; have zz2 := Hid.u hi_cz; have zz3 := Hid.u hq_cn7; have zz4 := Hid.u hq_cz; omega))); show upd (Fz 27) (cn7 23) (nI (0 * 1048576 + cn7 26)) = upd (Fz 27) (cz 23) (nI (0 * 1048576 + cn7 26)); rw [e9]) rfl⟩⟩)⟩, by rw [ht]; exact hP, hD⟩, hS.F ht⟩) hS.2.2 (oc_172 46 (aq_22 shX12_readsFactor_24))
        ·
          have h_5 : ¬ ((cz 19) < (cz 20) ∧ 48 ≤ (hereM cz Fz).toInt ∧ (hereM cz Fz).toInt ≤ 57) := h_5
          refine lv_if_eq (tgt := 47) hx hb dX12_readsFactor_24 rfl (fun _ => ?_) (fun h => absurd h cq_eq_0_0)
          refine lv_aload_n hx hb (oc_42 47 (aq_23 shX12_readsFactor_24)) rfl (lvA0 hl) ?_
          refine vp_callSi (runV_ra (As := []) (rest := []) S (q_here l D cI cB cZ g cz Iz Fz  hI0 (by (first | omega | (have zz0 := Hid.u hi_cn; have zz1 := Hid.u hi_cz; have zz2 := Hid.u hq_cz; omega))) (by (first | omega | (have zz0 := Hid.u hi_cn; have zz1 := Hid.u hi_cz; have zz2 := Hid.u hq_cz; omega)))) kV_RX12_239 hK hP 0 rfl rfl rfl ⟨Nat.le_of_ble_eq_true rfl, Nat.le_of_ble_eq_true rfl⟩ ⟨Nat.le_of_ble_eq_true rfl, Nat.le_of_ble_eq_true rfl⟩ rfl hl.1 rfl (Nat.le_of_ble_eq_true rfl) (oc_182 48 shX12_readsFactor_48 uw_0_239)) (fun r_10 h_11 => ?_)
          have hpk_11 : pk bb nn (cz 19) = r_10 := (pk_here (c := cz) (F := Fz) (bbM_cg heb (hfr0.2.2 17 (nml rfl))) (show cz 20 = nn by (first | omega | (have zz0 := Hid.u hi_cn; have zz1 := Hid.u hi_cz; have zz2 := Hid.u hq_cz; omega)))).trans h_11.1.symm
          refine vp_callSi (runS_r (As := [.int r_10]) (rest := []) S (q_factOf9 l D cI cB cZ r_10 ) kS_RX12_280 hK hP [] rfl ⟨Nat.le_of_ble_eq_true rfl, Nat.le_of_ble_eq_true rfl⟩ ⟨Nat.le_of_ble_eq_true rfl, Nat.le_of_ble_eq_true rfl⟩ rfl hl.1 rfl (Nat.le_of_ble_eq_true rfl) (oc_184 51 (aq_3 shX12_readsFactor_48) uw_1_24)) (fun r_12 h_13 => ?_)
          rcases h_13 with ⟨rfl, Nh_13⟩ | ⟨mr_12, hmr_12, hvr_12, rfl, Nh_13⟩
          ·
            refine lv_istore_n (lv' := [(1, .int (-1)), (0, .ref (g 100))]) hx hb dX12_readsFactor_54 rfl hl (ltb rfl) rfl (fun ls hl => ?_)
            refine lv_iload_n hx hb dX12_readsFactor_55 rfl (lvA0 hl) ?_
            refine lv_iconst (v := (-1)) hx hb dX12_readsFactor_56 kic_m1 ?_
            refine lv_icmp_ne (tgt := 70) hx hb dX12_readsFactor_57 rfl (fun h => absurd h cq_eq_m1_m1) (fun _ => ?_)
            refine lv_aload_n hx hb (oc_42 60 (aq_12 shX12_readsFactor_48)) rfl (lvA1 hl) ?_
            refine lv_iconst (v := 1) hx hb (oc_4 61 (aq_13 shX12_readsFactor_48)) kic_1 ?_
            refine lv_aload_n hx hb (oc_42 62 (aq_14 shX12_readsFactor_48)) rfl (lvA1 hl) ?_
            refine gM_233 S hK hP (v := .int (nI (cz 19))) rfl (oc_180 63 (aq_15 shX12_readsFactor_48) uw_0_233) ?_
            have hFc := free_all hD hS hA
            refine va_calli (runV_a (As := [.int 1, .int (nI (cz 19))]) (rest := []) S (q_wrong9 l D cI cB cZ g cz Iz Fz 1 (nI (cz 19)) H.size hI0) kV_RX12_246 hK hP hD 0 rfl rfl rfl ⟨Nat.le_of_ble_eq_true rfl, Nat.le_of_ble_eq_true rfl⟩ ⟨Nat.le_of_ble_eq_true rfl, Nat.le_of_ble_eq_true rfl⟩ rfl hl.1 rfl (Nat.le_of_ble_eq_true rfl) (oc_182 66 (aq_18 shX12_readsFactor_48) uw_0_246)) hS (fun q _ h => hFc q h) hFc (fun r_14 u t H1 locs ht hvm wh_15 hB hz1 hk1 hS => ?_)
            obtain ⟨cn15, In15, Fn15⟩ := u
            obtain ⟨hP1, hD1⟩ := hB
            rw [ht] at hP1
            have vh_15 : (fun r c2 I2 F2 => (∀ k : Nat, k ∉ [21] → I2 k = Iz k) ∧ ((r = 0 ∧ (I2 21 = (-1000) * 1 - (nI (cz 19))) ∧ cz = c2 ∧ Fz = F2))) r_14 cn15 In15 Fn15 := wh_15
            obtain ⟨hI15_, vh_15⟩ := vh_15
            obtain ⟨rfl, h_15, rfl, rfl⟩ := vh_15
            have hf15 : Fr [19, 23, 24, 26] [21, 22] [27, 28] cn In Fn cz In15 Fz := Fr.mo (Fr.tr hfr0 (show Fr [] [21] [] cz Iz Fz cz In15 Fz from ⟨fun _ _ => rfl, hI15_, fun _ _ => rfl⟩)) (sbl rfl) (sbl rfl) (sbl rfl)
            have hP : va_P D vwCl (wM cI cB cZ g cz In15 Fz) H1 := hP1
            have hD : va_D A (wM cI cB cZ g cz In15 Fz) := hD1.weaken (fun _ _ _ h => hFc _ h)
            generalize H1 = H at hP hS ⊢
            exact W.zret (v := 0) hx hb hr rfl (fun t ht hW => ⟨⟨0, (cz, In15, Fz), rfl, ⟨(Fr.mo hf15 (sbl rfl) (sbl rfl) (sbl rfl)), hI0, (by show ((0 : Int32) = 0 ∨ (0 = 1 ∧ PSx (cz 19) (cz 20) (cz 23) (cz 24) (Fz 27) (Fz 28) a0 (G0 + 1) w0 s0 ∧ (∀ k : Nat, k < a0 → Fz 27 k = Fn 27 k) ∧ (∀ i : Nat, i < w0 → Fz 28 i = Fn 28 i) ∧ cn 19 < cz 19)) ∧ (((0 : Int32) = 0 → ∃ e9 : Nat, VT bb nn k pl ti L (cn 19) o = .error e9 ∧ FLT In15 e9) ∧ ((0 : Int32) = 1 → RFO bb nn w0 (k + L.length) (VT bb nn k pl ti L (cn 19) o) cz In15 Fz)); exact ⟨(by exact Or.inl rfl), ⟨fun _ => ⟨_, RFI.atmE hx0_4 (fun q9 => (show ¬ r_1 = 91 by assumption) (hpk_2.symm.trans q9)) (atm_w (dg_n (pk_here (c := cz) (F := Fz) (bbM_cg heb (hfr0.2.2 17 (nml rfl))) (show cz 20 = nn by (first | omega | (have zz0 := Hid.u hi_cn; have zz1 := Hid.u hi_cz; have zz2 := Hid.u hq_cz; omega)))) h_5) ((congrArg ltr hpk_11).trans Nh_13)), flt_k (k := 1) (p := cz 19) (by decide) h_15⟩, (fun q => absurd q (by decide))⟩⟩)⟩, by rw [ht]; exact hP, hD⟩, hS.F ht⟩) hS.2.2 (oc_172 69 (aq_21 shX12_readsFactor_48))
          ·
            refine lv_istore_n (lv' := [(1, .int (nI mr_12)), (0, .ref (g 100))]) hx hb dX12_readsFactor_54 rfl hl (ltb rfl) rfl (fun ls hl => ?_)
            refine lv_iload_n hx hb dX12_readsFactor_55 rfl (lvA0 hl) ?_
            refine lv_iconst (v := (-1)) hx hb dX12_readsFactor_56 kic_m1 ?_
            have : (nI mr_12).toInt = ((mr_12 : Nat) : Int) := nI_toInt (by (first | omega | (have zz0 := Hid.u hi_cn; have zz1 := Hid.u hi_cz; have zz2 := Hid.u hq_cz; omega)))
            refine lv_icmp_ne (tgt := 70) hx hb dX12_readsFactor_57 rfl (fun c_16 => ?_) (fun c_16 => False.elim (by have tc_16 : ((nI mr_12).toInt : Int) = (-1) := congrArg Int32.toInt c_16; (first | omega | (have zz0 := Hid.u hi_cn; have zz1 := Hid.u hi_cz; have zz2 := Hid.u hq_cz; omega))))
            have tc_16 : ((nI mr_12).toInt : Int) ≠ (-1) := fun q => c_16 (Int32.toInt_inj.mp q)
            refine lv_aload_n hx hb (oc_42 70 (aq_22 shX12_readsFactor_48)) rfl (lvA1 hl) ?_
            refine lv_iconst (v := 1) hx hb (oc_4 71 (aq_23 shX12_readsFactor_48)) kic_1 ?_
            refine lv_iload_n hx hb (oc_27 72 shX12_readsFactor_72) rfl (lvA0 hl) ?_
            have hFc := free_all hD hS hA
            refine va_callv (runV_a (As := [.int 1, .int (nI mr_12)]) (rest := []) S (q_says l D cI cB cZ g cz Iz Fz 1 mr_12 H.size hI0 (by (first | omega | (have zz0 := Hid.u hi_cn; have zz1 := Hid.u hi_cz; have zz2 := Hid.u hq_cz; omega)))) kV_RX12_270 hK hP hD 0 rfl rfl rfl ⟨Nat.le_of_ble_eq_true rfl, Nat.le_of_ble_eq_true rfl⟩ ⟨Nat.le_of_ble_eq_true rfl, Nat.le_of_ble_eq_true rfl⟩ rfl hl.1 rfl (Nat.le_of_ble_eq_true rfl) (oc_182 73 (aq_1 shX12_readsFactor_72) uw_1_14)) hS (fun q _ h => hFc q h) hFc (fun u t H1 locs ht hvm wh_18 hB hz1 hk1 hS => ?_)
            obtain ⟨cn18, In18, Fn18⟩ := u
            obtain ⟨hP1, hD1⟩ := hB
            rw [ht] at hP1
            have vh_18 : (fun c2 I2 F2 => (∀ k : Nat, k ∉ [] → I2 k = Iz k) ∧ (((True) ∧ (va_up cz 23 ((cz 23) + 1)) = c2 ∧ (va_up Fz 27 (upd ((Fz 27)) ((cz 23)) (nI (1 * 1048576 + mr_12)))) = F2))) cn18 In18 Fn18 := wh_18
            obtain ⟨hI18_, vh_18⟩ := vh_18
            obtain ⟨h_18, rfl, rfl⟩ := vh_18
            obtain rfl : Iz = In18 := (funext (fun k => hI18_ k List.not_mem_nil)).symm
            have hP : va_P D vwCl (wM cI cB cZ g (va_up cz 23 ((cz 23) + 1)) Iz (va_up Fz 27 (upd ((Fz 27)) ((cz 23)) (nI (1 * 1048576 + mr_12))))) H1 := hP1
            have hD : va_D A (wM cI cB cZ g (va_up cz 23 ((cz 23) + 1)) Iz (va_up Fz 27 (upd ((Fz 27)) ((cz 23)) (nI (1 * 1048576 + mr_12))))) := hD1.weaken (fun _ _ _ h => hFc _ h)
            generalize H1 = H at hP hS ⊢
            refine lv_aload_n hx hb (oc_42 76 (aq_4 shX12_readsFactor_72)) rfl (lvA1 hl) ?_
            refine lv_aload_n hx hb (oc_42 77 (aq_5 shX12_readsFactor_72)) rfl (lvA1 hl) ?_
            refine gM_233 S hK hP (v := .int (nI (cz 19))) rfl (oc_180 78 (aq_6 shX12_readsFactor_72) uw_0_233) ?_
            refine lv_iconst (v := 1) hx hb (oc_4 81 (aq_9 shX12_readsFactor_72)) kic_1 ?_
            refine lv_iadd hx hb (oc_96 82 (aq_10 shX12_readsFactor_72)) ?_
            refine lv_topi (fun y_19 ey_19 => ?_)
            obtain rfl : y_19 = (nI ((cz 19) + 1)) := ey_19.trans (nI_add (cz 19) 1)
            refine pM_233 S hK hP hD hS (a := ((cz 19) + 1)) (cn2 := (va_up (va_up cz 23 ((cz 23) + 1)) 19 ((cz 19) + 1))) rfl rfl (oc_181 83 (aq_11 shX12_readsFactor_72) uw_0_233) (fun H locs hP hD hS => ?_)
            refine lv_iconst (v := 1) hx hb (oc_4 86 (aq_14 shX12_readsFactor_72)) kic_1 ?_
            exact W.zret (v := 1) hx hb hr rfl (fun t ht hW => ⟨⟨1, ((va_up (va_up cz 23 ((cz 23) + 1)) 19 ((cz 19) + 1)), Iz, (va_up Fz 27 (upd ((Fz 27)) ((cz 23)) (nI (1 * 1048576 + mr_12))))), rfl, ⟨(Fr.mo (Fr.f 27 (Fr.c 19 (Fr.c 23 hfr0))) (sbl rfl) (sbl rfl) (sbl rfl)), (IM.fr (In := Iz) hI0 (Fr.f 27 (Fr.c 19 (Fr.c 23 Fr.rf))) (by decide) (by decide)), (by show ((1 : Int32) = 0 ∨ (1 = 1 ∧ PSx ((va_up (va_up cz 23 ((cz 23) + 1)) 19 ((cz 19) + 1)) 19) ((va_up (va_up cz 23 ((cz 23) + 1)) 19 ((cz 19) + 1)) 20) ((va_up (va_up cz 23 ((cz 23) + 1)) 19 ((cz 19) + 1)) 23) ((va_up (va_up cz 23 ((cz 23) + 1)) 19 ((cz 19) + 1)) 24) ((va_up Fz 27 (upd ((Fz 27)) ((cz 23)) (nI (1 * 1048576 + mr_12)))) 27) ((va_up Fz 27 (upd ((Fz 27)) ((cz 23)) (nI (1 * 1048576 + mr_12)))) 28) a0 (G0 + 1) w0 s0 ∧ (∀ k : Nat, k < a0 → (va_up Fz 27 (upd ((Fz 27)) ((cz 23)) (nI (1 * 1048576 + mr_12)))) 27 k = Fn 27 k) ∧ (∀ i : Nat, i < w0 → (va_up Fz 27 (upd ((Fz 27)) ((cz 23)) (nI (1 * 1048576 + mr_12)))) 28 i = Fn 28 i) ∧ cn 19 < (va_up (va_up cz 23 ((cz 23) + 1)) 19 ((cz 19) + 1)) 19)) ∧ (((1 : Int32) = 0 → ∃ e9 : Nat, VT bb nn k pl ti L (cn 19) o = .error e9 ∧ FLT Iz e9) ∧ ((1 : Int32) = 1 → RFO bb nn w0 (k + L.length) (VT bb nn k pl ti L (cn 19) o) (va_up (va_up cz 23 ((cz 23) + 1)) 19 ((cz 19) + 1)) Iz (va_up Fz 27 (upd ((Fz 27)) ((cz 23)) (nI (1 * 1048576 + mr_12)))))); exact ⟨(by exact Or.inr ⟨rfl, (by have q := PSx.factor hx0_0 (pl' := cz 19 + 1) (o := 1) (x := mr_12) (by (first | omega | (have zz0 := Hid.u hi_cn; have zz1 := Hid.u hi_cz; have zz2 := Hid.u hq_cz; omega))) (by (first | omega | (have zz0 := Hid.u hi_cn; have zz1 := Hid.u hi_cz; have zz2 := Hid.u hq_cz; omega))) (Or.inr ⟨rfl, by (first | omega | (have zz0 := Hid.u hi_cn; have zz1 := Hid.u hi_cz; have zz2 := Hid.u hq_cz; omega))⟩) (by (first | omega | (have zz0 := Hid.u hi_cn; have zz1 := Hid.u hi_cz; have zz2 := Hid.u hq_cz; omega))); exact q), fun k hk => (upd_lt (by (first | omega | (have zz0 := Hid.u hi_cn; have zz1 := Hid.u hi_cz; have zz2 := Hid.u hq_cz; omega)))).trans (hx0_1 k hk), hx0_2, (by show cn 19 < cz 19 + 1; (first | omega | (have zz0 := Hid.u hi_cn; have zz1 := Hid.u hi_cz; have zz2 := Hid.u hq_cz; omega)))⟩), ⟨(fun q => absurd q (by decide)), fun _ => RFI.atm (q := cz 19 + 1) (t := 2) (a := mr_12) hx0_4 (fun q9 => (show ¬ r_1 = 91 by assumption) (hpk_2.symm.trans q9)) (atm_l (dg_n (pk_here (c := cz) (F := Fz) (bbM_cg heb (hfr0.2.2 17 (nml rfl))) (show cz 20 = nn by (first | omega | (have zz0 := Hid.u hi_cn; have zz1 := Hid.u hi_cz; have zz2 := Hid.u hq_cz; omega)))) h_5) ((congrArg ltr hpk_11).trans Nh_13)) (by decide) (by (first | omega | (have zz0 := Hid.u hi_cn; have zz1 := Hid.u hi_cz; have zz2 := Hid.u hq_cz; omega))) rfl rfl rfl rfl rfl rfl⟩⟩)⟩, by rw [ht]; exact hP, hD⟩, hS.F ht⟩) hS.2.2 (oc_172 87 (aq_15 shX12_readsFactor_72))
      ·
        have tc_3 : (r_1.toInt : Int) = 91 := congrArg Int32.toInt c_3
        refine lv_aload_n hx hb (oc_42 9 (aq_9 shX12_readsFactor_0)) rfl (lvA0 hl) ?_
        refine lv_bipush (v := 14) hx hb (oc_16 10 (aq_10 shX12_readsFactor_0) sgb_14) kbc_14 ?_
        have hFc := free_all hD hS hA
        refine va_calli (runV_a (As := [.int 14]) (rest := []) S (q_opens9 l D cI cB cZ g cz Iz Fz 14 H.size hI0 (by (first | omega | (have zz0 := Hid.u hi_cn; have zz1 := Hid.u hi_cz; have zz2 := Hid.u hq_cz; omega)))) kV_RX12_274 hK hP hD 0 rfl rfl rfl ⟨Nat.le_of_ble_eq_true rfl, Nat.le_of_ble_eq_true rfl⟩ ⟨Nat.le_of_ble_eq_true rfl, Nat.le_of_ble_eq_true rfl⟩ rfl hl.1 rfl (Nat.le_of_ble_eq_true rfl) (oc_182 12 (aq_12 shX12_readsFactor_0) uw_1_18)) hS (fun q _ h => hFc q h) hFc (fun r_20 u t H1 locs ht hvm wh_21 hB hz1 hk1 hS => ?_)
        obtain ⟨cn21, In21, Fn21⟩ := u
        obtain ⟨hP1, hD1⟩ := hB
        rw [ht] at hP1
        have vh_21 : (fun r c2 I2 F2 => (∀ k : Nat, k ∉ [21, 22] → I2 k = Iz k) ∧ ((r = 0 ∧ (((Iz 22) : Int32) = 6 ∧ I2 21 = (-1000) * 5 - nI ((cz 19))) ∧ cz = c2 ∧ Fz = F2) ∨ (r = 1 ∧ (¬ ((Iz 22) : Int32) = 6 ∧ I2 22 = ((Iz 22) : Int32) + 1) ∧ (va_up (va_up cz 24 ((cz 24) + 1)) 19 ((cz 19) + 1)) = c2 ∧ (va_up Fz 28 (upd ((Fz 28)) ((cz 24)) (nI (14 * 1048576)))) = F2))) r_20 cn21 In21 Fn21 := wh_21
        obtain ⟨hI21_, vh_21⟩ := vh_21
        rcases vh_21 with ⟨rfl, h_21, rfl, rfl⟩ | ⟨rfl, h_21, rfl, rfl⟩
        ·
          have hf21 : Fr [19, 23, 24, 26] [21, 22] [27, 28] cn In Fn cz In21 Fz := Fr.mo (Fr.tr hfr0 (show Fr [] [21, 22] [] cz Iz Fz cz In21 Fz from ⟨fun _ _ => rfl, hI21_, fun _ _ => rfl⟩)) (sbl rfl) (sbl rfl) (sbl rfl)
          have hP : va_P D vwCl (wM cI cB cZ g cz In21 Fz) H1 := hP1
          have hD : va_D A (wM cI cB cZ g cz In21 Fz) := hD1.weaken (fun _ _ _ h => hFc _ h)
          generalize H1 = H at hP hS ⊢
          refine lv_if_ne (tgt := 0) hx hb dX12_readsFactor_15 rfl (fun h => absurd h cq_eq_0_0) (fun _ => ?_)
          refine lv_iconst (v := 0) hx hb (oc_3 18 (aq_18 shX12_readsFactor_0)) kic_0 ?_
          exact W.zret (v := 0) hx hb hr rfl (fun t ht hW => ⟨⟨0, (cz, In21, Fz), rfl, ⟨(Fr.mo hf21 (sbl rfl) (sbl rfl) (sbl rfl)), hI0, (by show ((0 : Int32) = 0 ∨ (0 = 1 ∧ PSx (cz 19) (cz 20) (cz 23) (cz 24) (Fz 27) (Fz 28) a0 (G0 + 1) w0 s0 ∧ (∀ k : Nat, k < a0 → Fz 27 k = Fn 27 k) ∧ (∀ i : Nat, i < w0 → Fz 28 i = Fn 28 i) ∧ cn 19 < cz 19)) ∧ (((0 : Int32) = 0 → ∃ e9 : Nat, VT bb nn k pl ti L (cn 19) o = .error e9 ∧ FLT In21 e9) ∧ ((0 : Int32) = 1 → RFO bb nn w0 (k + L.length) (VT bb nn k pl ti L (cn 19) o) cz In21 Fz)); exact ⟨(by exact Or.inl rfl), ⟨fun _ => ⟨_, RFI.err hx0_4 (hpk_2.trans (show r_1 = 91 by assumption)) h_21.1, flt_k (k := 5) (p := cz 19) (by decide) h_21.2⟩, (fun q => absurd q (by decide))⟩⟩)⟩, by rw [ht]; exact hP, hD⟩, hS.F ht⟩) hS.2.2 (oc_172 19 (aq_19 shX12_readsFactor_0))
        ·
          have hf21 : Fr [19, 23, 24, 26] [21, 22] [27, 28] cn In Fn cz In21 Fz := Fr.mo (Fr.tr hfr0 (show Fr [] [21, 22] [] cz Iz Fz cz In21 Fz from ⟨fun _ _ => rfl, hI21_, fun _ _ => rfl⟩)) (sbl rfl) (sbl rfl) (sbl rfl)
          have hP : va_P D vwCl (wM cI cB cZ g (va_up (va_up cz 24 ((cz 24) + 1)) 19 ((cz 19) + 1)) In21 (va_up Fz 28 (upd ((Fz 28)) ((cz 24)) (nI (14 * 1048576))))) H1 := hP1
          have hD : va_D A (wM cI cB cZ g (va_up (va_up cz 24 ((cz 24) + 1)) 19 ((cz 19) + 1)) In21 (va_up Fz 28 (upd ((Fz 28)) ((cz 24)) (nI (14 * 1048576))))) := hD1.weaken (fun _ _ _ h => hFc _ h)
          generalize H1 = H at hP hS ⊢
          refine lv_if_ne (tgt := 0) hx hb dX12_readsFactor_15 rfl (fun _ => ?_) (fun h => absurd h cq_eq_1_0)
          exact ih0  (va_up (va_up cz 24 ((cz 24) + 1)) 19 ((cz 19) + 1)) In21 (va_up Fz 28 (upd ((Fz 28)) ((cz 24)) (nI (14 * 1048576)))) _ _ (show cn 20 - ((cz 19) + 1) < n0 by (first | omega | (have zz0 := Hid.u hi_cn; have zz1 := Hid.u hi_cz; have zz2 := Hid.u hq_cz; omega))) ⟨(Fr.mo (Fr.f 28 (Fr.c 19 (Fr.c 24 hf21))) (sbl rfl) (sbl rfl) (sbl rfl)), (IM.fr (In := In21) hI0 (Fr.f 28 (Fr.c 19 (Fr.c 24 Fr.rf))) (by decide) (by decide)), (by have q := PSx.push14 hx0_0 (by (first | omega | (have zz0 := Hid.u hi_cn; have zz1 := Hid.u hi_cz; have zz2 := Hid.u hq_cz; omega))); exact q), hx0_1, (fun i hi => (upd_lt (by (first | omega | (have zz0 := Hid.u hi_cn; have zz1 := Hid.u hi_cz; have zz2 := Hid.u hq_cz; omega)))).trans (hx0_2 i hi)), (by show cn 19 ≤ cz 19 + 1; (first | omega | (have zz0 := Hid.u hi_cn; have zz1 := Hid.u hi_cz; have zz2 := Hid.u hq_cz; omega))), (RFI.opn hx0_4 (hpk_2.trans (show r_1 = 91 by assumption)) h_21.1 h_21.2 rfl rfl rfl rfl rfl)⟩ hP hD hS ls (lv_sub hl [0] rfl)
  exact lp_0 _  cn In Fn _ _ (Nat.lt_succ_self _) ⟨(Fr.mo Fr.rf (sbl rfl) (sbl rfl) (sbl rfl)), hI, hPS, (fun k hk => rfl), (fun i hi => rfl), (Nat.le_refl _), ⟨k, pl, ti, L, hq, hlk, rfl, rfl⟩⟩ hP hD hS ls (lv_sub hl [0] rfl)
set_option maxRecDepth 100000 in
set_option maxHeartbeats 4000000 in
theorem q_readsSum9 (l : Launch) (D : va_G) (cI cB cZ : ClassId) (g : Nat → Nat) (cn : Nat → Nat) (In : Nat → Int32) (Fn : Nat → Nat → Int32) (a0 H0 s0 : Nat) (bb : Nat → Int32) (nn : Nat) (kk : Nat) (o : OutT) (sz : Nat) (hI : IM cn Fn) (hPS : PBk (cn 19) (cn 20) (cn 23) (cn 24) (Fn 27) (Fn 28) a0 H0 s0) (hB : 0 < cn 24 → 10 ≤ kd (Fn 28 (cn 24 - 1)) ∧ kd (Fn 28 (cn 24 - 1)) ≤ 13) (heb : bbM Fn = bb) (hnn : cn 20 = nn) (hrs : RS kk o cn In Fn) : Met l yX12_readsSum (CWS yX12_readsSum cX12_readsSum 3 (some .boolean)) (RM 4 0 0) (PBw [.ref (g 100)] D cI cB cZ (wM cI cB cZ g cn In Fn) sz) (va_Qi (fun (r : Int32) (u : (Nat → Nat) × (Nat → Int32) × (Nat → Nat → Int32)) => (fun r c2 I2 F2 => Fr [19, 23, 24, 26] [21, 22] [27, 28] cn In Fn c2 I2 F2 ∧ IM c2 F2 ∧ (((r : Int32) = 0 ∨ (r = 1 ∧ PBk (c2 19) (c2 20) (c2 23) (c2 24) (F2 27) (F2 28) a0 (H0 + 1) s0 ∧ c2 24 = cn 24 ∧ (∀ k : Nat, k < a0 → F2 27 k = Fn 27 k) ∧ (∀ i : Nat, i < cn 24 → F2 28 i = Fn 28 i) ∧ cn 19 < c2 19)) ∧ (((r : Int32) = 0 → ∃ e9 : Nat, sm1 bb nn (smK bb nn kk) (cn 19) o = .error e9 ∧ FLT I2 e9) ∧ ((r : Int32) = 1 → ∃ uX : OutT, sm1 bb nn (smK bb nn kk) (cn 19) o = .ok (c2 19, uX) ∧ RS kk uX c2 I2 F2)))) r u.1 u.2.1 u.2.2) (fun (u : (Nat → Nat) × (Nat → Int32) × (Nat → Nat → Int32)) (t : State) => va_P D vwCl (wM cI cB cZ g u.1 u.2.1 u.2.2) t.heap ∧ va_D (va_A (wM cI cB cZ g cn In Fn) sz) (wM cI cB cZ g u.1 u.2.1 u.2.2)) (va_A (wM cI cB cZ g cn In Fn) sz)) 0 0 (va_A (wM cI cB cZ g cn In Fn) sz) := by
  refine en_w (fun A => (va_Qi (fun (r : Int32) (u : (Nat → Nat) × (Nat → Int32) × (Nat → Nat → Int32)) => (fun (r : Int32) (c2 : Nat → Nat) (I2 : Nat → Int32) (F2 : Nat → Nat → Int32) => Fr [19, 23, 24, 26] [21, 22] [27, 28] cn In Fn c2 I2 F2 ∧ IM c2 F2 ∧ (((r : Int32) = 0 ∨ (r = 1 ∧ PBk (c2 19) (c2 20) (c2 23) (c2 24) (F2 27) (F2 28) a0 (H0 + 1) s0 ∧ c2 24 = cn 24 ∧ (∀ k : Nat, k < a0 → F2 27 k = Fn 27 k) ∧ (∀ i : Nat, i < cn 24 → F2 28 i = Fn 28 i) ∧ cn 19 < c2 19)) ∧ (((r : Int32) = 0 → ∃ e9 : Nat, sm1 bb nn (smK bb nn kk) (cn 19) o = .error e9 ∧ FLT I2 e9) ∧ ((r : Int32) = 1 → ∃ uX : OutT, sm1 bb nn (smK bb nn kk) (cn 19) o = .ok (c2 19, uX) ∧ RS kk uX c2 I2 F2)))) r u.1 u.2.1 u.2.2) (fun (u : (Nat → Nat) × (Nat → Int32) × (Nat → Nat → Int32)) (t : State) => va_P D vwCl (wM cI cB cZ g u.1 u.2.1 u.2.2) t.heap ∧ va_D A (wM cI cB cZ g u.1 u.2.1 u.2.2)) A)) rfl rfl pn_RX12 (Nat.le_of_ble_eq_true rfl) (fun p e s m below meth c A hx hb hml hown S hr hlocks hnm hA hP hK hD hS ls hl => ?_)
  have hl : lv_has ls 3 [(0, .ref (g 100))] := hl
  have hi_cn : Hid (CB cn) := hI.b
  have hf0 := hPS.f
  refine lv_aload_n hx hb (oc_42 0 shX12_readsSum_0) rfl (lvA0 hl) ?_
  refine gM_264 S hK hP (v := .int (nI (cn 24))) rfl (oc_180 1 (aq_1 shX12_readsSum_0) uw_1_8) ?_
  refine lv_istore_n (lv' := [(1, .int (nI (cn 24))), (0, .ref (g 100))]) hx hb (oc_60 4 (aq_4 shX12_readsSum_0)) rfl hl (ltb rfl) rfl (fun ls hl => ?_)
  refine lv_aload_n hx hb (oc_42 5 (aq_5 shX12_readsSum_0)) rfl (lvA1 hl) ?_
  have hFc := free_all hD hS hA
  refine va_calli (runV_a (As := []) (rest := []) S (q_readsFactor9 l D cI cB cZ g cn In Fn a0 H0 (cn 24) s0 bb nn kk ([]) none none o s.heap.size hI (PSx.start hPS hB) heb (show cn 20 = nn by (first | omega | (have zz0 := Hid.u hi_cn; omega))) (RS.rq hrs) lvk_0) kV_RX12_284 hK hP hD 0 rfl rfl rfl ⟨Nat.le_of_ble_eq_true rfl, Nat.le_of_ble_eq_true rfl⟩ ⟨Nat.le_of_ble_eq_true rfl, Nat.le_of_ble_eq_true rfl⟩ rfl hl.1 rfl (Nat.le_of_ble_eq_true rfl) (oc_182 6 (aq_6 shX12_readsSum_0) uw_1_28)) hS (fun q _ h => hFc q h) hFc (fun r_1 u t H1 locs ht hvm wh_2 hB hz1 hk1 hS => ?_)
  obtain ⟨cn2, In2, Fn2⟩ := u
  obtain ⟨hP1, hD1⟩ := hB
  rw [ht] at hP1
  have hP : va_P D vwCl (wM cI cB cZ g cn2 In2 Fn2) H1 := hP1
  have hD : va_D A (wM cI cB cZ g cn2 In2 Fn2) := hD1.weaken (fun _ _ _ h => hFc _ h)
  generalize H1 = H at hP hS ⊢
  have vh_2 : (fun r c2 I2 F2 => Fr [19, 23, 24, 26] [21, 22] [27, 28] cn In Fn c2 I2 F2 ∧ IM c2 F2 ∧ (((r : Int32) = 0 ∨ (r = 1 ∧ PSx (c2 19) (c2 20) (c2 23) (c2 24) (F2 27) (F2 28) a0 (H0 + 1) (cn 24) s0 ∧ (∀ kk : Nat, kk < a0 → F2 27 kk = (Fn 27) kk) ∧ (∀ i : Nat, i < (cn 24) → F2 28 i = (Fn 28) i) ∧ (cn 19) < c2 19)) ∧ (((r : Int32) = 0 → ∃ e9 : Nat, VT bb nn kk none none ([]) ((cn 19)) o = .error e9 ∧ FLT I2 e9) ∧ ((r : Int32) = 1 → RFO bb nn (cn 24) (kk + ([]).length) (VT bb nn kk none none ([]) ((cn 19)) o) c2 I2 F2)))) r_1 cn2 In2 Fn2 := wh_2
  obtain ⟨hfc2, hIn2, h_2⟩ := vh_2
  have hf2 : Fr [19, 23, 24, 26] [21, 22] [27, 28] cn In Fn cn2 In2 Fn2 := Fr.mo (Fr.tr (Fr.rf (cn := cn) (In := In) (Fn := Fn)) hfc2) (sbl rfl) (sbl rfl) (sbl rfl)
  have hi_cn2 : Hid (CB cn2) := hIn2.b
  have : cn2 20 = cn 20 := hf2.1 20 (nml rfl)
  have : cn2 25 = cn 25 := hf2.1 25 (nml rfl)
  have hq_cn2 := Hid.i (frq_19_23_24_26_0_1_2_46_57_58_62_63_75_83_44 hf2)
  have : cn2 20 = (cn 20) := hfc2.1 20 (nml rfl)
  have : cn2 25 = (cn 25) := hfc2.1 25 (nml rfl)
  obtain ⟨h_2, Nh_2⟩ := h_2
  rcases h_2 with rfl | ⟨rfl, kh_2⟩
  ·
    refine lv_if_ne (tgt := 14) hx hb dX12_readsSum_9 rfl (fun h => absurd h cq_eq_0_0) (fun _ => ?_)
    refine lv_iconst (v := 0) hx hb (oc_3 12 (aq_12 shX12_readsSum_0)) kic_0 ?_
    exact W.zret (v := 0) hx hb hr rfl (fun t ht hW => ⟨⟨0, (cn2, In2, Fn2), rfl, ⟨(Fr.mo hf2 (sbl rfl) (sbl rfl) (sbl rfl)), hIn2, (by show ((0 : Int32) = 0 ∨ (0 = 1 ∧ PBk (cn2 19) (cn2 20) (cn2 23) (cn2 24) (Fn2 27) (Fn2 28) a0 (H0 + 1) s0 ∧ cn2 24 = cn 24 ∧ (∀ k : Nat, k < a0 → Fn2 27 k = Fn 27 k) ∧ (∀ i : Nat, i < cn 24 → Fn2 28 i = Fn 28 i) ∧ cn 19 < cn2 19)) ∧ (((0 : Int32) = 0 → ∃ e9 : Nat, sm1 bb nn (smK bb nn kk) (cn 19) o = .error e9 ∧ FLT In2 e9) ∧ ((0 : Int32) = 1 → ∃ uX : OutT, sm1 bb nn (smK bb nn kk) (cn 19) o = .ok (cn2 19, uX) ∧ RS kk uX cn2 In2 Fn2)); exact ⟨(by exact Or.inl rfl), ⟨fun _ => (by obtain ⟨e9, a9, f9⟩ := Nh_2.1 rfl; exact ⟨e9, VT_sm.symm.trans a9, f9⟩), (fun q => absurd q (by decide))⟩⟩)⟩, by rw [ht]; exact hP, hD⟩, hS.F ht⟩) hS.2.2 (oc_172 13 (aq_13 shX12_readsSum_0))
  ·
    obtain ⟨kh_2a, kh_2b, kh_2c, kh_2d⟩ := kh_2
    have kh_2f := kh_2a.f
    refine lv_if_ne (tgt := 14) hx hb dX12_readsSum_9 rfl (fun _ => ?_) (fun h => absurd h cq_eq_1_0)
    have lp_14 : ∀ (n : Nat)  (c14 : Nat → Nat) (I14 : Nat → Int32) (F14 : Nat → Nat → Int32) (H : Heap) (locs : List Loc) , cn 20 - c14 19 < n → (Fr [19, 23, 24, 26] [21, 22] [27, 28] cn In Fn c14 I14 F14 ∧ IM c14 F14 ∧ (PSx (c14 19) (c14 20) (c14 23) (c14 24) (F14 27) (F14 28) a0 (H0 + 1) (cn 24) s0) ∧ (∀ k : Nat, k < a0 → F14 27 k = Fn 27 k) ∧ (∀ i : Nat, i < cn 24 → F14 28 i = Fn 28 i) ∧ (cn 19 < c14 19) ∧ (RFO bb nn (cn 24) kk (VT bb nn kk none none [] (cn 19) o) c14 I14 F14)) → va_P D vwCl (wM cI cB cZ g c14 I14 F14) H → va_D A (wM cI cB cZ g c14 I14 F14) → va_S A s.heap H locs → ∀ ls : Array Slot, lv_has ls 3 [(1, .int (nI (cn 24))), (0, .ref (g 100))] → W p l e (RM 4 0 0) s m ([.ref (g 100)]).toArray below meth c H locs 0 0 (MQ below (va_Qi (fun (r : Int32) (u : (Nat → Nat) × (Nat → Int32) × (Nat → Nat → Int32)) => (fun r c2 I2 F2 => Fr [19, 23, 24, 26] [21, 22] [27, 28] cn In Fn c2 I2 F2 ∧ IM c2 F2 ∧ (((r : Int32) = 0 ∨ (r = 1 ∧ PBk (c2 19) (c2 20) (c2 23) (c2 24) (F2 27) (F2 28) a0 (H0 + 1) s0 ∧ c2 24 = cn 24 ∧ (∀ k : Nat, k < a0 → F2 27 k = Fn 27 k) ∧ (∀ i : Nat, i < cn 24 → F2 28 i = Fn 28 i) ∧ cn 19 < c2 19)) ∧ (((r : Int32) = 0 → ∃ e9 : Nat, sm1 bb nn (smK bb nn kk) (cn 19) o = .error e9 ∧ FLT I2 e9) ∧ ((r : Int32) = 1 → ∃ uX : OutT, sm1 bb nn (smK bb nn kk) (cn 19) o = .ok (c2 19, uX) ∧ RS kk uX c2 I2 F2)))) r u.1 u.2.1 u.2.2) (fun (u : (Nat → Nat) × (Nat → Int32) × (Nat → Nat → Int32)) (t : State) => va_P D vwCl (wM cI cB cZ g u.1 u.2.1 u.2.2) t.heap ∧ va_D A (wM cI cB cZ g u.1 u.2.1 u.2.2)) A) ([.ref (g 100)]).toArray s 0 0 A) (F0 m 14 ls []) := by
      intro n14
      induction n14 with
      | zero => intros; (first | omega | (have zz0 := Hid.u hi_cn; have zz1 := Hid.u hi_cn2; have zz2 := Hid.u hq_cn2; omega))
      | succ n14 ih14 =>
        intro  c14 I14 F14 H locs hmu14 hinv14 hP hD hS ls hl
        obtain ⟨hfr14, hI14, hx14_0, hx14_1, hx14_2, hx14_3, hx14_4⟩ := hinv14
        have hi_c14 : Hid (CB c14) := hI14.b
        have : c14 20 = cn 20 := hfr14.1 20 (nml rfl)
        have : c14 25 = cn 25 := hfr14.1 25 (nml rfl)
        have hq_c14 := Hid.i (frq_19_23_24_26_0_1_2_46_57_58_62_63_75_83_44 hfr14)
        have hf14 := hx14_0.f
        obtain ⟨k9, pl9, ti9, L9, o9, hq9, hl9, hs9, he9⟩ := hx14_4
        refine lv_aload_n hx hb (oc_42 14 (aq_14 shX12_readsSum_0)) rfl (lvA1 hl) ?_
        refine vp_callSi (runV_ra (As := []) (rest := []) S (q_here l D cI cB cZ g c14 I14 F14  hI14 (by (first | omega | (have zz0 := Hid.u hi_c14; have zz1 := Hid.u hi_cn; have zz2 := Hid.u hi_cn2; have zz3 := Hid.u hq_c14; have zz4 := Hid.u hq_cn2; omega))) (by (first | omega | (have zz0 := Hid.u hi_c14; have zz1 := Hid.u hi_cn; have zz2 := Hid.u hi_cn2; have zz3 := Hid.u hq_c14; have zz4 := Hid.u hq_cn2; omega)))) kV_RX12_239 hK hP 0 rfl rfl rfl ⟨Nat.le_of_ble_eq_true rfl, Nat.le_of_ble_eq_true rfl⟩ ⟨Nat.le_of_ble_eq_true rfl, Nat.le_of_ble_eq_true rfl⟩ rfl hl.1 rfl (Nat.le_of_ble_eq_true rfl) (oc_182 15 (aq_15 shX12_readsSum_0) uw_0_239)) (fun r_3 h_4 => ?_)
        have hpk_4 : pk bb nn (c14 19) = r_3 := (pk_here (c := c14) (F := F14) (bbM_cg heb (hfr14.2.2 17 (nml rfl))) (show c14 20 = nn by (first | omega | (have zz0 := Hid.u hi_c14; have zz1 := Hid.u hi_cn; have zz2 := Hid.u hi_cn2; have zz3 := Hid.u hq_c14; have zz4 := Hid.u hq_cn2; omega)))).trans h_4.1.symm
        refine vp_callSi (runS_r (As := [.int r_3]) (rest := []) S (q_sumSign9 l D cI cB cZ r_3 ) kS_RX12_287 hK hP [] rfl ⟨Nat.le_of_ble_eq_true rfl, Nat.le_of_ble_eq_true rfl⟩ ⟨Nat.le_of_ble_eq_true rfl, Nat.le_of_ble_eq_true rfl⟩ rfl hl.1 rfl (Nat.le_of_ble_eq_true rfl) (oc_184 18 (aq_18 shX12_readsSum_0) uw_1_31)) (fun r_5 h_6 => ?_)
        rcases h_6 with ⟨rfl, Nh_6⟩ | ⟨mr_5, hmr_5, hvr_5, rfl, Nh_6⟩
        ·
          refine lv_istore_n (lv' := [(2, .int (-1)), (1, .int (nI (cn 24))), (0, .ref (g 100))]) hx hb dX12_readsSum_21 rfl hl (ltb rfl) rfl (fun ls hl => ?_)
          refine lv_iload_n hx hb dX12_readsSum_22 rfl (lvA0 hl) ?_
          refine lv_iconst (v := (-1)) hx hb dX12_readsSum_23 kic_m1 ?_
          refine lv_icmp_eq (tgt := 84) hx hb dX12_readsSum_24 rfl (fun _ => ?_) (fun h => absurd h cq_eq_m1_m1)
          refine lv_aload_n hx hb (oc_42 84 (aq_9 shX12_readsSum_75)) rfl (lvA2 hl) ?_
          refine vp_callSi (runV_ra (As := []) (rest := []) S (q_here l D cI cB cZ g c14 I14 F14  hI14 (by (first | omega | (have zz0 := Hid.u hi_c14; have zz1 := Hid.u hi_cn; have zz2 := Hid.u hi_cn2; have zz3 := Hid.u hq_c14; have zz4 := Hid.u hq_cn2; omega))) (by (first | omega | (have zz0 := Hid.u hi_c14; have zz1 := Hid.u hi_cn; have zz2 := Hid.u hi_cn2; have zz3 := Hid.u hq_c14; have zz4 := Hid.u hq_cn2; omega)))) kV_RX12_239 hK hP 0 rfl rfl rfl ⟨Nat.le_of_ble_eq_true rfl, Nat.le_of_ble_eq_true rfl⟩ ⟨Nat.le_of_ble_eq_true rfl, Nat.le_of_ble_eq_true rfl⟩ rfl hl.1 rfl (Nat.le_of_ble_eq_true rfl) (oc_182 85 (aq_10 shX12_readsSum_75) uw_0_239)) (fun r_7 h_8 => ?_)
          have hpk_8 : pk bb nn (c14 19) = r_7 := (pk_here (c := c14) (F := F14) (bbM_cg heb (hfr14.2.2 17 (nml rfl))) (show c14 20 = nn by (first | omega | (have zz0 := Hid.u hi_c14; have zz1 := Hid.u hi_cn; have zz2 := Hid.u hi_cn2; have zz3 := Hid.u hq_c14; have zz4 := Hid.u hq_cn2; omega)))).trans h_8.1.symm
          refine lv_bipush (v := 93) hx hb (oc_16 88 (aq_13 shX12_readsSum_75) sgb_93) kbc_93 ?_
          refine lv_icmp_ne (tgt := 139) hx hb (oc_160 90 (aq_15 shX12_readsSum_75) sgw_0_49) rfl (fun c_9 => ?_) (fun c_9 => ?_)
          ·
            have tc_9 : (r_7.toInt : Int) ≠ 93 := fun q => c_9 (Int32.toInt_inj.mp q)
            refine lv_aload_n hx hb dX12_readsSum_139 rfl (lvA2 hl) ?_
            refine lv_iload_n hx hb dX12_readsSum_140 rfl (lvA1 hl) ?_
            refine vp_callSi (runV_ra (As := [.int (nI (cn 24))]) (rest := []) S (q_hasOpenSum l D cI cB cZ g c14 I14 F14 (cn 24) hI14 hx14_0.wk (by (first | omega | (have zz0 := Hid.u hi_c14; have zz1 := Hid.u hi_cn; have zz2 := Hid.u hi_cn2; have zz3 := Hid.u hq_c14; have zz4 := Hid.u hq_cn2; omega))) (by (first | omega | (have zz0 := Hid.u hi_c14; have zz1 := Hid.u hi_cn; have zz2 := Hid.u hi_cn2; have zz3 := Hid.u hq_c14; have zz4 := Hid.u hq_cn2; omega)))) kV_RX12_294 hK hP 0 rfl rfl rfl ⟨Nat.le_of_ble_eq_true rfl, Nat.le_of_ble_eq_true rfl⟩ ⟨Nat.le_of_ble_eq_true rfl, Nat.le_of_ble_eq_true rfl⟩ rfl hl.1 rfl (Nat.le_of_ble_eq_true rfl) dX12_readsSum_141) (fun r_10 h_11 => ?_)
            rcases h_11 with ⟨rfl, h_11⟩ | ⟨rfl, h_11⟩
            ·
              refine lv_if_eq (tgt := 157) hx hb dX12_readsSum_144 rfl (fun h => absurd h cq_eq_1_0) (fun _ => ?_)
              refine lv_aload_n hx hb dX12_readsSum_147 rfl (lvA2 hl) ?_
              refine lv_iconst (v := 1) hx hb dX12_readsSum_148 kic_1 ?_
              refine lv_aload_n hx hb dX12_readsSum_149 rfl (lvA2 hl) ?_
              refine gM_233 S hK hP (v := .int (nI (c14 19))) rfl dX12_readsSum_150 ?_
              have hFc := free_all hD hS hA
              refine va_calli (runV_a (As := [.int 1, .int (nI (c14 19))]) (rest := []) S (q_wrong9 l D cI cB cZ g c14 I14 F14 1 (nI (c14 19)) H.size hI14) kV_RX12_246 hK hP hD 0 rfl rfl rfl ⟨Nat.le_of_ble_eq_true rfl, Nat.le_of_ble_eq_true rfl⟩ ⟨Nat.le_of_ble_eq_true rfl, Nat.le_of_ble_eq_true rfl⟩ rfl hl.1 rfl (Nat.le_of_ble_eq_true rfl) dX12_readsSum_153) hS (fun q _ h => hFc q h) hFc (fun r_12 u t H1 locs ht hvm wh_13 hB hz1 hk1 hS => ?_)
              obtain ⟨cn13, In13, Fn13⟩ := u
              obtain ⟨hP1, hD1⟩ := hB
              rw [ht] at hP1
              have vh_13 : (fun r c2 I2 F2 => (∀ k : Nat, k ∉ [21] → I2 k = I14 k) ∧ ((r = 0 ∧ (I2 21 = (-1000) * 1 - (nI (c14 19))) ∧ c14 = c2 ∧ F14 = F2))) r_12 cn13 In13 Fn13 := wh_13
              obtain ⟨hI13_, vh_13⟩ := vh_13
              obtain ⟨rfl, h_13, rfl, rfl⟩ := vh_13
              have hf13 : Fr [19, 23, 24, 26] [21, 22] [27, 28] cn In Fn c14 In13 F14 := Fr.mo (Fr.tr hfr14 (show Fr [] [21] [] c14 I14 F14 c14 In13 F14 from ⟨fun _ _ => rfl, hI13_, fun _ _ => rfl⟩)) (sbl rfl) (sbl rfl) (sbl rfl)
              have hP : va_P D vwCl (wM cI cB cZ g c14 In13 F14) H1 := hP1
              have hD : va_D A (wM cI cB cZ g c14 In13 F14) := hD1.weaken (fun _ _ _ h => hFc _ h)
              generalize H1 = H at hP hS ⊢
              exact W.zret (v := 0) hx hb hr rfl (fun t ht hW => ⟨⟨0, (c14, In13, F14), rfl, ⟨(Fr.mo hf13 (sbl rfl) (sbl rfl) (sbl rfl)), hI14, (by show ((0 : Int32) = 0 ∨ (0 = 1 ∧ PBk (c14 19) (c14 20) (c14 23) (c14 24) (F14 27) (F14 28) a0 (H0 + 1) s0 ∧ c14 24 = cn 24 ∧ (∀ k : Nat, k < a0 → F14 27 k = Fn 27 k) ∧ (∀ i : Nat, i < cn 24 → F14 28 i = Fn 28 i) ∧ cn 19 < c14 19)) ∧ (((0 : Int32) = 0 → ∃ e9 : Nat, sm1 bb nn (smK bb nn kk) (cn 19) o = .error e9 ∧ FLT In13 e9) ∧ ((0 : Int32) = 1 → ∃ uX : OutT, sm1 bb nn (smK bb nn kk) (cn 19) o = .ok (c14 19, uX) ∧ RS kk uX c14 In13 F14)); exact ⟨(by exact Or.inl rfl), ⟨fun _ => (by obtain ⟨a9, b9, M9, rfl⟩ := L_cons hq9 (hl9 _ List.mem_cons_self) h_11; exact ⟨_, VT_sm.symm.trans (he9.trans (VF_e ((congrArg tms hpk_4).trans Nh_6.1) ((congrArg pls hpk_4).trans Nh_6.2) (fun q9 => (show ¬ r_7 = 93 by assumption) (hpk_8.symm.trans q9)))), flt_k (k := 1) (p := c14 19) (by decide) h_13⟩), (fun q => absurd q (by decide))⟩⟩)⟩, by rw [ht]; exact hP, hD⟩, hS.F ht⟩) hS.2.2 dX12_readsSum_156
            ·
              refine lv_if_eq (tgt := 157) hx hb dX12_readsSum_144 rfl (fun _ => ?_) (fun h => absurd h cq_eq_0_0)
              refine lv_aload_n hx hb dX12_readsSum_157 rfl (lvA2 hl) ?_
              refine lv_iconst (v := 1) hx hb dX12_readsSum_158 kic_1 ?_
              have hFc := free_all hD hS hA
              refine va_callv (runV_a (As := [.int 1]) (rest := []) S (q_closesSums9 l D cI cB cZ g c14 I14 F14 a0 H0 (cn 24) s0 1 k9 L9 pl9 ti9 o9 H.size hI14 hx14_0 hq9 (hl9 _ List.mem_cons_self)) kV_RX12_290 hK hP hD 0 rfl rfl rfl ⟨Nat.le_of_ble_eq_true rfl, Nat.le_of_ble_eq_true rfl⟩ ⟨Nat.le_of_ble_eq_true rfl, Nat.le_of_ble_eq_true rfl⟩ rfl hl.1 rfl (Nat.le_of_ble_eq_true rfl) dX12_readsSum_159) hS (fun q _ h => hFc q h) hFc (fun u t H1 locs ht hvm wh_15 hB hz1 hk1 hS => ?_)
              obtain ⟨cn15, In15, Fn15⟩ := u
              obtain ⟨hP1, hD1⟩ := hB
              rw [ht] at hP1
              have hP : va_P D vwCl (wM cI cB cZ g cn15 In15 Fn15) H1 := hP1
              have hD : va_D A (wM cI cB cZ g cn15 In15 Fn15) := hD1.weaken (fun _ _ _ h => hFc _ h)
              generalize H1 = H at hP hS ⊢
              have vh_15 : (fun c2 I2 F2 => Fr [23, 24] [] [27] c14 I14 F14 c2 I2 F2 ∧ IM c2 F2 ∧ (((PSx (c2 19) (c2 20) (c2 23) (c2 24) (F2 27) (F2 28) a0 (H0 + 1) (cn 24) s0) ∧ c2 24 ≤ (c14 24) ∧ (∀ k9 : Nat, k9 < a0 → F2 27 k9 = (F14 27) k9) ∧ (∀ i : Nat, c2 24 ≤ i → i < (c14 24) → kd (F2 28 i) ≤ 6) ∧ (¬ (1 : Int32) = 0 → c2 24 = (cn 24) ∨ kd (F2 28 (c2 24 - 1)) = 14)) ∧ (((1 : Int32) = 0 → RQ (cn 24) k9 (eT L9 ++ (o2 pl9 ++ o2 none)) (o9 ++ o1 ti9) c2 I2 F2) ∧ (¬ (1 : Int32) = 0 → RQ (cn 24) k9 (eT L9 ++ (o2 none ++ o2 none)) (o9 ++ o1 ti9 ++ o1 pl9) c2 I2 F2)))) cn15 In15 Fn15 := wh_15
              obtain ⟨hfc15, hIn15, h_15⟩ := vh_15
              obtain rfl : I14 = In15 := (funext (fun k => hfc15.2.1 k List.not_mem_nil)).symm
              have hf15 : Fr [19, 23, 24, 26] [21, 22] [27, 28] cn In Fn cn15 I14 Fn15 := Fr.mo (Fr.tr hfr14 hfc15) (sbl rfl) (sbl rfl) (sbl rfl)
              have hi_cn15 : Hid (CB cn15) := hIn15.b
              have : cn15 20 = cn 20 := hf15.1 20 (nml rfl)
              have : cn15 25 = cn 25 := hf15.1 25 (nml rfl)
              have hq_cn15 := Hid.i (frq_19_23_24_26_0_1_2_46_57_58_62_63_75_83_44 hf15)
              have : cn15 19 = (c14 19) := hfc15.1 19 (nml rfl)
              have : cn15 20 = (c14 20) := hfc15.1 20 (nml rfl)
              have : cn15 25 = (c14 25) := hfc15.1 25 (nml rfl)
              obtain ⟨h_15, Nh_15⟩ := h_15
              obtain ⟨h_15a, h_15b, h_15c, h_15d, h_15e⟩ := h_15
              have h_15f := h_15a.f
              have e28_15 : Fn15 28 = F14 28 := hfc15.2.2 28 (nml rfl)
              have sd15 : ∀ k : Nat, k < a0 → Fn15 27 k = Fn 27 k := fun k hk => (h_15c k hk).trans (hx14_1 k hk)
              have wt15 : ∀ i : Nat, i < (cn 24) → Fn15 28 i = Fn 28 i := fun i hi => (congrFun e28_15 i).trans (hx14_2 i hi)
              have hw14 : cn15 24 = cn 24 := no14 (W := Fn15 28) (w := c14 24) (by rw [e28_15]; exact h_11) (h_15e (by decide)) (by (first | omega | (have zz0 := Hid.u hi_c14; have zz1 := Hid.u hi_cn; have zz2 := Hid.u hi_cn15; have zz3 := Hid.u hi_cn2; have zz4 := Hid.u hq_c14; have zz5 := Hid.u hq_cn15; have zz6 := Hid.u hq_cn2; omega))) (by (first | omega | (have zz0 := Hid.u hi_c14; have zz1 := Hid.u hi_cn; have zz2 := Hid.u hi_cn15; have zz3 := Hid.u hi_cn2; have zz4 := Hid.u hq_c14; have zz5 := Hid.u hq_cn15; have zz6 := Hid.u hq_cn2; omega)))
              have hL9 := L_nil hq9 h_11
              subst hL9
              refine lv_iconst (v := 1) hx hb dX12_readsSum_162 kic_1 ?_
              exact W.zret (v := 1) hx hb hr rfl (fun t ht hW => ⟨⟨1, (cn15, I14, Fn15), rfl, ⟨(Fr.mo hf15 (sbl rfl) (sbl rfl) (sbl rfl)), hIn15, (by show ((1 : Int32) = 0 ∨ (1 = 1 ∧ PBk (cn15 19) (cn15 20) (cn15 23) (cn15 24) (Fn15 27) (Fn15 28) a0 (H0 + 1) s0 ∧ cn15 24 = cn 24 ∧ (∀ k : Nat, k < a0 → Fn15 27 k = Fn 27 k) ∧ (∀ i : Nat, i < cn 24 → Fn15 28 i = Fn 28 i) ∧ cn 19 < cn15 19)) ∧ (((1 : Int32) = 0 → ∃ e9 : Nat, sm1 bb nn (smK bb nn kk) (cn 19) o = .error e9 ∧ FLT I14 e9) ∧ ((1 : Int32) = 1 → ∃ uX : OutT, sm1 bb nn (smK bb nn kk) (cn 19) o = .ok (cn15 19, uX) ∧ RS kk uX cn15 I14 Fn15)); exact ⟨(by exact Or.inr ⟨rfl, PSx.fin' h_15a hw14, hw14, sd15, wt15, by (first | omega | (have zz0 := Hid.u hi_c14; have zz1 := Hid.u hi_cn; have zz2 := Hid.u hi_cn15; have zz3 := Hid.u hi_cn2; have zz4 := Hid.u hq_c14; have zz5 := Hid.u hq_cn15; have zz6 := Hid.u hq_cn2; omega))⟩), ⟨(fun q => absurd q (by decide)), fun _ => ⟨o9 ++ o1 ti9 ++ o1 pl9, VT_sm.symm.trans (he9.trans ((VF_f ((congrArg tms hpk_4).trans Nh_6.1) ((congrArg pls hpk_4).trans Nh_6.2)).trans (congrArg (fun p9 => (Except.ok (p9, o9 ++ o1 ti9 ++ o1 pl9) : ResT)) (show c14 19 = (cn15 19) by (first | omega | (have zz0 := Hid.u hi_c14; have zz1 := Hid.u hi_cn; have zz2 := Hid.u hi_cn15; have zz3 := Hid.u hi_cn2; have zz4 := Hid.u hq_c14; have zz5 := Hid.u hq_cn15; have zz6 := Hid.u hq_cn2; omega)))))), (by have e9 : k9 = kk := hs9; rw [← e9]; exact (Nh_15.2 (by decide)).rs)⟩⟩⟩)⟩, by rw [ht]; exact hP, hD⟩, hS.F ht⟩) hS.2.2 dX12_readsSum_163
          ·
            have tc_9 : (r_7.toInt : Int) = 93 := congrArg Int32.toInt c_9
            refine lv_aload_n hx hb (oc_42 93 (aq_18 shX12_readsSum_75)) rfl (lvA2 hl) ?_
            refine lv_iload_n hx hb (oc_27 94 (aq_19 shX12_readsSum_75)) rfl (lvA1 hl) ?_
            refine vp_callSi (runV_ra (As := [.int (nI (cn 24))]) (rest := []) S (q_hasOpenSum l D cI cB cZ g c14 I14 F14 (cn 24) hI14 hx14_0.wk (by (first | omega | (have zz0 := Hid.u hi_c14; have zz1 := Hid.u hi_cn; have zz2 := Hid.u hi_cn2; have zz3 := Hid.u hq_c14; have zz4 := Hid.u hq_cn2; omega))) (by (first | omega | (have zz0 := Hid.u hi_c14; have zz1 := Hid.u hi_cn; have zz2 := Hid.u hi_cn2; have zz3 := Hid.u hq_c14; have zz4 := Hid.u hq_cn2; omega)))) kV_RX12_294 hK hP 0 rfl rfl rfl ⟨Nat.le_of_ble_eq_true rfl, Nat.le_of_ble_eq_true rfl⟩ ⟨Nat.le_of_ble_eq_true rfl, Nat.le_of_ble_eq_true rfl⟩ rfl hl.1 rfl (Nat.le_of_ble_eq_true rfl) (oc_182 95 (aq_20 shX12_readsSum_75) uw_1_38)) (fun r_16 h_17 => ?_)
            rcases h_17 with ⟨rfl, h_17⟩ | ⟨rfl, h_17⟩
            ·
              refine lv_if_eq (tgt := 139) hx hb dX12_readsSum_98 rfl (fun h => absurd h cq_eq_1_0) (fun _ => ?_)
              refine lv_aload_n hx hb (oc_42 101 shX12_readsSum_101) rfl (lvA2 hl) ?_
              refine lv_iconst (v := 1) hx hb (oc_4 102 (aq_1 shX12_readsSum_101)) kic_1 ?_
              have hFc := free_all hD hS hA
              refine va_callv (runV_a (As := [.int 1]) (rest := []) S (q_closesSums9 l D cI cB cZ g c14 I14 F14 a0 H0 (cn 24) s0 1 k9 L9 pl9 ti9 o9 H.size hI14 hx14_0 hq9 (hl9 _ List.mem_cons_self)) kV_RX12_290 hK hP hD 0 rfl rfl rfl ⟨Nat.le_of_ble_eq_true rfl, Nat.le_of_ble_eq_true rfl⟩ ⟨Nat.le_of_ble_eq_true rfl, Nat.le_of_ble_eq_true rfl⟩ rfl hl.1 rfl (Nat.le_of_ble_eq_true rfl) (oc_182 103 (aq_2 shX12_readsSum_101) uw_1_34)) hS (fun q _ h => hFc q h) hFc (fun u t H1 locs ht hvm wh_19 hB hz1 hk1 hS => ?_)
              obtain ⟨cn19, In19, Fn19⟩ := u
              obtain ⟨hP1, hD1⟩ := hB
              rw [ht] at hP1
              have hP : va_P D vwCl (wM cI cB cZ g cn19 In19 Fn19) H1 := hP1
              have hD : va_D A (wM cI cB cZ g cn19 In19 Fn19) := hD1.weaken (fun _ _ _ h => hFc _ h)
              generalize H1 = H at hP hS ⊢
              have vh_19 : (fun c2 I2 F2 => Fr [23, 24] [] [27] c14 I14 F14 c2 I2 F2 ∧ IM c2 F2 ∧ (((PSx (c2 19) (c2 20) (c2 23) (c2 24) (F2 27) (F2 28) a0 (H0 + 1) (cn 24) s0) ∧ c2 24 ≤ (c14 24) ∧ (∀ k9 : Nat, k9 < a0 → F2 27 k9 = (F14 27) k9) ∧ (∀ i : Nat, c2 24 ≤ i → i < (c14 24) → kd (F2 28 i) ≤ 6) ∧ (¬ (1 : Int32) = 0 → c2 24 = (cn 24) ∨ kd (F2 28 (c2 24 - 1)) = 14)) ∧ (((1 : Int32) = 0 → RQ (cn 24) k9 (eT L9 ++ (o2 pl9 ++ o2 none)) (o9 ++ o1 ti9) c2 I2 F2) ∧ (¬ (1 : Int32) = 0 → RQ (cn 24) k9 (eT L9 ++ (o2 none ++ o2 none)) (o9 ++ o1 ti9 ++ o1 pl9) c2 I2 F2)))) cn19 In19 Fn19 := wh_19
              obtain ⟨hfc19, hIn19, h_19⟩ := vh_19
              obtain rfl : I14 = In19 := (funext (fun k => hfc19.2.1 k List.not_mem_nil)).symm
              have hf19 : Fr [19, 23, 24, 26] [21, 22] [27, 28] cn In Fn cn19 I14 Fn19 := Fr.mo (Fr.tr hfr14 hfc19) (sbl rfl) (sbl rfl) (sbl rfl)
              have hi_cn19 : Hid (CB cn19) := hIn19.b
              have : cn19 20 = cn 20 := hf19.1 20 (nml rfl)
              have : cn19 25 = cn 25 := hf19.1 25 (nml rfl)
              have hq_cn19 := Hid.i (frq_19_23_24_26_0_1_2_46_57_58_62_63_75_83_44 hf19)
              have : cn19 19 = (c14 19) := hfc19.1 19 (nml rfl)
              have : cn19 20 = (c14 20) := hfc19.1 20 (nml rfl)
              have : cn19 25 = (c14 25) := hfc19.1 25 (nml rfl)
              obtain ⟨h_19, Nh_19⟩ := h_19
              obtain ⟨h_19a, h_19b, h_19c, h_19d, h_19e⟩ := h_19
              have h_19f := h_19a.f
              have e28_19 : Fn19 28 = F14 28 := hfc19.2.2 28 (nml rfl)
              have sd19 : ∀ k : Nat, k < a0 → Fn19 27 k = Fn 27 k := fun k hk => (h_19c k hk).trans (hx14_1 k hk)
              have wt19 : ∀ i : Nat, i < (cn 24) → Fn19 28 i = Fn 28 i := fun i hi => (congrFun e28_19 i).trans (hx14_2 i hi)
              have ht14 := top14 (W := Fn19 28) (w' := cn19 24) (by rw [e28_19]; exact h_17) h_19d (h_19e (by decide)) (by (first | omega | (have zz0 := Hid.u hi_c14; have zz1 := Hid.u hi_cn; have zz2 := Hid.u hi_cn19; have zz3 := Hid.u hi_cn2; have zz4 := Hid.u hq_c14; have zz5 := Hid.u hq_cn19; have zz6 := Hid.u hq_cn2; omega)))
              obtain ⟨a9, b9, M9, rfl⟩ := L_cons hq9 (hl9 _ List.mem_cons_self) h_17
              have hk9 : k9 + (M9.length + 1) = kk := hs9
              have hk6 := hrs.2.1
              refine lv_aload_n hx hb (oc_42 106 (aq_5 shX12_readsSum_101)) rfl (lvA2 hl) ?_
              refine lv_aload_n hx hb (oc_42 107 (aq_6 shX12_readsSum_101)) rfl (lvA2 hl) ?_
              refine gM_264 S hK hP (v := .int (nI (cn19 24))) rfl (oc_180 108 (aq_7 shX12_readsSum_101) uw_1_8) ?_
              refine lv_iconst (v := 1) hx hb (oc_4 111 (aq_10 shX12_readsSum_101)) kic_1 ?_
              refine lv_isub hx hb (oc_100 112 (aq_11 shX12_readsSum_101)) ?_
              refine lv_topi (fun y_20 ey_20 => ?_)
              obtain rfl : y_20 = (nI ((cn19 24) - 1)) := ey_20.trans (nI_sub (b := 1) (by (first | omega | (have zz0 := Hid.u hi_c14; have zz1 := Hid.u hi_cn; have zz2 := Hid.u hi_cn19; have zz3 := Hid.u hi_cn2; have zz4 := Hid.u hq_c14; have zz5 := Hid.u hq_cn19; have zz6 := Hid.u hq_cn2; omega))))
              refine pM_264 S hK hP hD hS (a := ((cn19 24) - 1)) (cn2 := (va_up cn19 24 ((cn19 24) - 1))) rfl rfl (oc_181 113 (aq_12 shX12_readsSum_101) uw_1_8) (fun H locs hP hD hS => ?_)
              refine lv_aload_n hx hb (oc_42 116 (aq_15 shX12_readsSum_101)) rfl (lvA2 hl) ?_
              refine lv_aload_n hx hb (oc_42 117 (aq_16 shX12_readsSum_101)) rfl (lvA2 hl) ?_
              refine gM_261 S hK hP (v := .int (I14 22)) rfl (oc_180 118 (aq_17 shX12_readsSum_101) uw_1_5) ?_
              refine lv_iconst (v := 1) hx hb (oc_4 121 (aq_20 shX12_readsSum_101)) kic_1 ?_
              refine lv_isub hx hb (oc_100 122 (aq_21 shX12_readsSum_101)) ?_
              refine pM_261 S hK hP hD hS (In2 := (va_up I14 22 ((I14 22) - 1))) rfl (oc_181 123 (aq_22 shX12_readsSum_101) uw_1_5) (fun H locs hP hD hS => ?_)
              refine lv_aload_n hx hb (oc_42 126 shX12_readsSum_126) rfl (lvA2 hl) ?_
              refine lv_aload_n hx hb (oc_42 127 (aq_1 shX12_readsSum_126)) rfl (lvA2 hl) ?_
              refine gM_233 S hK hP (v := .int (nI (cn19 19))) rfl (oc_180 128 (aq_2 shX12_readsSum_126) uw_0_233) ?_
              refine lv_iconst (v := 1) hx hb (oc_4 131 (aq_5 shX12_readsSum_126)) kic_1 ?_
              refine lv_iadd hx hb (oc_96 132 (aq_6 shX12_readsSum_126)) ?_
              refine lv_topi (fun y_21 ey_21 => ?_)
              obtain rfl : y_21 = (nI ((cn19 19) + 1)) := ey_21.trans (nI_add (cn19 19) 1)
              refine pM_233 S hK hP hD hS (a := ((cn19 19) + 1)) (cn2 := (va_up (va_up cn19 24 ((cn19 24) - 1)) 19 ((cn19 19) + 1))) rfl rfl (oc_181 133 (aq_7 shX12_readsSum_126) uw_0_233) (fun H locs hP hD hS => ?_)
              refine lv_goto (tgt := 164) hx hb (oc_167 136 (aq_10 shX12_readsSum_126) sgw_0_28) rfl ?_
              refine lv_goto (tgt := 14) hx hb dX12_readsSum_164 rfl ?_
              exact ih14  (va_up (va_up cn19 24 ((cn19 24) - 1)) 19 ((cn19 19) + 1)) (va_up I14 22 ((I14 22) - 1)) Fn19 _ _ (show cn 20 - ((cn19 19) + 1) < n14 by (first | omega | (have zz0 := Hid.u hi_c14; have zz1 := Hid.u hi_cn; have zz2 := Hid.u hi_cn19; have zz3 := Hid.u hi_cn2; have zz4 := Hid.u hq_c14; have zz5 := Hid.u hq_cn19; have zz6 := Hid.u hq_cn2; omega))) ⟨(Fr.mo (Fr.i 22 (Fr.c 19 (Fr.c 24 hf19))) (sbl rfl) (sbl rfl) (sbl rfl)), (IM.fr (In := I14) hIn19 (Fr.c 19 (Fr.c 24 Fr.rf)) (by decide) (by decide)), (by have q := PSx.pop14' h_19a ht14.1 ht14.2 (by (first | omega | (have zz0 := Hid.u hi_c14; have zz1 := Hid.u hi_cn; have zz2 := Hid.u hi_cn19; have zz3 := Hid.u hi_cn2; have zz4 := Hid.u hq_c14; have zz5 := Hid.u hq_cn19; have zz6 := Hid.u hq_cn2; omega))); exact q), sd19, wt19, (by show cn 19 < cn19 19 + 1; (first | omega | (have zz0 := Hid.u hi_c14; have zz1 := Hid.u hi_cn; have zz2 := Hid.u hi_cn19; have zz3 := Hid.u hi_cn2; have zz4 := Hid.u hq_c14; have zz5 := Hid.u hq_cn19; have zz6 := Hid.u hq_cn2; omega))), ⟨k9 + 1, a9, b9, M9, o9 ++ o1 ti9 ++ o1 pl9, RQ.pop14 (Nh_19.2 (by decide)) (by (first | omega | (have zz0 := Hid.u hi_c14; have zz1 := Hid.u hi_cn; have zz2 := Hid.u hi_cn19; have zz3 := Hid.u hi_cn2; have zz4 := Hid.u hq_c14; have zz5 := Hid.u hq_cn19; have zz6 := Hid.u hq_cn2; omega))) rfl rfl rfl rfl rfl, fun z hz => hl9 z (List.mem_cons_of_mem _ hz), by (first | omega | (have zz0 := Hid.u hi_c14; have zz1 := Hid.u hi_cn; have zz2 := Hid.u hi_cn19; have zz3 := Hid.u hi_cn2; have zz4 := Hid.u hq_c14; have zz5 := Hid.u hq_cn19; have zz6 := Hid.u hq_cn2; omega)), he9.trans ((VF_c (hpk_8.trans (show r_7 = 93 by assumption))).trans (congrArg (fun p9 => aft bb nn (k9 + 1) a9 b9 M9 p9 (o9 ++ o1 ti9 ++ o1 pl9)) (show c14 19 + 1 = ((cn19 19) + 1) by (first | omega | (have zz0 := Hid.u hi_c14; have zz1 := Hid.u hi_cn; have zz2 := Hid.u hi_cn19; have zz3 := Hid.u hi_cn2; have zz4 := Hid.u hq_c14; have zz5 := Hid.u hq_cn19; have zz6 := Hid.u hq_cn2; omega)))))⟩⟩ hP hD hS ls (lv_sub hl [1, 2] rfl)
            ·
              refine lv_if_eq (tgt := 139) hx hb dX12_readsSum_98 rfl (fun _ => ?_) (fun h => absurd h cq_eq_0_0)
              refine lv_aload_n hx hb dX12_readsSum_139 rfl (lvA2 hl) ?_
              refine lv_iload_n hx hb dX12_readsSum_140 rfl (lvA1 hl) ?_
              refine vp_callSi (runV_ra (As := [.int (nI (cn 24))]) (rest := []) S (q_hasOpenSum l D cI cB cZ g c14 I14 F14 (cn 24) hI14 hx14_0.wk (by (first | omega | (have zz0 := Hid.u hi_c14; have zz1 := Hid.u hi_cn; have zz2 := Hid.u hi_cn2; have zz3 := Hid.u hq_c14; have zz4 := Hid.u hq_cn2; omega))) (by (first | omega | (have zz0 := Hid.u hi_c14; have zz1 := Hid.u hi_cn; have zz2 := Hid.u hi_cn2; have zz3 := Hid.u hq_c14; have zz4 := Hid.u hq_cn2; omega)))) kV_RX12_294 hK hP 0 rfl rfl rfl ⟨Nat.le_of_ble_eq_true rfl, Nat.le_of_ble_eq_true rfl⟩ ⟨Nat.le_of_ble_eq_true rfl, Nat.le_of_ble_eq_true rfl⟩ rfl hl.1 rfl (Nat.le_of_ble_eq_true rfl) dX12_readsSum_141) (fun r_22 h_23 => ?_)
              rcases h_23 with ⟨rfl, h_23⟩ | ⟨rfl, h_23⟩
              ·
                refine lv_if_eq (tgt := 157) hx hb dX12_readsSum_144 rfl (fun h => absurd h cq_eq_1_0) (fun _ => ?_)
                refine lv_aload_n hx hb dX12_readsSum_147 rfl (lvA2 hl) ?_
                refine lv_iconst (v := 1) hx hb dX12_readsSum_148 kic_1 ?_
                refine lv_aload_n hx hb dX12_readsSum_149 rfl (lvA2 hl) ?_
                refine gM_233 S hK hP (v := .int (nI (c14 19))) rfl dX12_readsSum_150 ?_
                have hFc := free_all hD hS hA
                refine va_calli (runV_a (As := [.int 1, .int (nI (c14 19))]) (rest := []) S (q_wrong9 l D cI cB cZ g c14 I14 F14 1 (nI (c14 19)) H.size hI14) kV_RX12_246 hK hP hD 0 rfl rfl rfl ⟨Nat.le_of_ble_eq_true rfl, Nat.le_of_ble_eq_true rfl⟩ ⟨Nat.le_of_ble_eq_true rfl, Nat.le_of_ble_eq_true rfl⟩ rfl hl.1 rfl (Nat.le_of_ble_eq_true rfl) dX12_readsSum_153) hS (fun q _ h => hFc q h) hFc (fun r_24 u t H1 locs ht hvm wh_25 hB hz1 hk1 hS => ?_)
                obtain ⟨cn25, In25, Fn25⟩ := u
                obtain ⟨hP1, hD1⟩ := hB
                rw [ht] at hP1
                have vh_25 : (fun r c2 I2 F2 => (∀ k : Nat, k ∉ [21] → I2 k = I14 k) ∧ ((r = 0 ∧ (I2 21 = (-1000) * 1 - (nI (c14 19))) ∧ c14 = c2 ∧ F14 = F2))) r_24 cn25 In25 Fn25 := wh_25
                obtain ⟨hI25_, vh_25⟩ := vh_25
                obtain ⟨rfl, h_25, rfl, rfl⟩ := vh_25
                have hf25 : Fr [19, 23, 24, 26] [21, 22] [27, 28] cn In Fn c14 In25 F14 := Fr.mo (Fr.tr hfr14 (show Fr [] [21] [] c14 I14 F14 c14 In25 F14 from ⟨fun _ _ => rfl, hI25_, fun _ _ => rfl⟩)) (sbl rfl) (sbl rfl) (sbl rfl)
                have hP : va_P D vwCl (wM cI cB cZ g c14 In25 F14) H1 := hP1
                have hD : va_D A (wM cI cB cZ g c14 In25 F14) := hD1.weaken (fun _ _ _ h => hFc _ h)
                generalize H1 = H at hP hS ⊢
                exact W.zret (v := 0) hx hb hr rfl (fun t ht hW => ⟨⟨0, (c14, In25, F14), rfl, ⟨(Fr.mo hf25 (sbl rfl) (sbl rfl) (sbl rfl)), hI14, (by show ((0 : Int32) = 0 ∨ (0 = 1 ∧ PBk (c14 19) (c14 20) (c14 23) (c14 24) (F14 27) (F14 28) a0 (H0 + 1) s0 ∧ c14 24 = cn 24 ∧ (∀ k : Nat, k < a0 → F14 27 k = Fn 27 k) ∧ (∀ i : Nat, i < cn 24 → F14 28 i = Fn 28 i) ∧ cn 19 < c14 19)) ∧ (((0 : Int32) = 0 → ∃ e9 : Nat, sm1 bb nn (smK bb nn kk) (cn 19) o = .error e9 ∧ FLT In25 e9) ∧ ((0 : Int32) = 1 → ∃ uX : OutT, sm1 bb nn (smK bb nn kk) (cn 19) o = .ok (c14 19, uX) ∧ RS kk uX c14 In25 F14)); exact ⟨(by exact Or.inl rfl), ⟨fun _ => (by obtain ⟨a9, b9, M9, rfl⟩ := L_cons hq9 (hl9 _ List.mem_cons_self) h_23; exact ⟨_, VT_sm.symm.trans (he9.trans (VF_e ((congrArg tms hpk_4).trans Nh_6.1) ((congrArg pls hpk_4).trans Nh_6.2) (absurd h_23 h_17))), flt_k (k := 1) (p := c14 19) (by decide) h_25⟩), (fun q => absurd q (by decide))⟩⟩)⟩, by rw [ht]; exact hP, hD⟩, hS.F ht⟩) hS.2.2 dX12_readsSum_156
              ·
                refine lv_if_eq (tgt := 157) hx hb dX12_readsSum_144 rfl (fun _ => ?_) (fun h => absurd h cq_eq_0_0)
                refine lv_aload_n hx hb dX12_readsSum_157 rfl (lvA2 hl) ?_
                refine lv_iconst (v := 1) hx hb dX12_readsSum_158 kic_1 ?_
                have hFc := free_all hD hS hA
                refine va_callv (runV_a (As := [.int 1]) (rest := []) S (q_closesSums9 l D cI cB cZ g c14 I14 F14 a0 H0 (cn 24) s0 1 k9 L9 pl9 ti9 o9 H.size hI14 hx14_0 hq9 (hl9 _ List.mem_cons_self)) kV_RX12_290 hK hP hD 0 rfl rfl rfl ⟨Nat.le_of_ble_eq_true rfl, Nat.le_of_ble_eq_true rfl⟩ ⟨Nat.le_of_ble_eq_true rfl, Nat.le_of_ble_eq_true rfl⟩ rfl hl.1 rfl (Nat.le_of_ble_eq_true rfl) dX12_readsSum_159) hS (fun q _ h => hFc q h) hFc (fun u t H1 locs ht hvm wh_27 hB hz1 hk1 hS => ?_)
                obtain ⟨cn27, In27, Fn27⟩ := u
                obtain ⟨hP1, hD1⟩ := hB
                rw [ht] at hP1
                have hP : va_P D vwCl (wM cI cB cZ g cn27 In27 Fn27) H1 := hP1
                have hD : va_D A (wM cI cB cZ g cn27 In27 Fn27) := hD1.weaken (fun _ _ _ h => hFc _ h)
                generalize H1 = H at hP hS ⊢
                have vh_27 : (fun c2 I2 F2 => Fr [23, 24] [] [27] c14 I14 F14 c2 I2 F2 ∧ IM c2 F2 ∧ (((PSx (c2 19) (c2 20) (c2 23) (c2 24) (F2 27) (F2 28) a0 (H0 + 1) (cn 24) s0) ∧ c2 24 ≤ (c14 24) ∧ (∀ k9 : Nat, k9 < a0 → F2 27 k9 = (F14 27) k9) ∧ (∀ i : Nat, c2 24 ≤ i → i < (c14 24) → kd (F2 28 i) ≤ 6) ∧ (¬ (1 : Int32) = 0 → c2 24 = (cn 24) ∨ kd (F2 28 (c2 24 - 1)) = 14)) ∧ (((1 : Int32) = 0 → RQ (cn 24) k9 (eT L9 ++ (o2 pl9 ++ o2 none)) (o9 ++ o1 ti9) c2 I2 F2) ∧ (¬ (1 : Int32) = 0 → RQ (cn 24) k9 (eT L9 ++ (o2 none ++ o2 none)) (o9 ++ o1 ti9 ++ o1 pl9) c2 I2 F2)))) cn27 In27 Fn27 := wh_27
                obtain ⟨hfc27, hIn27, h_27⟩ := vh_27
                obtain rfl : I14 = In27 := (funext (fun k => hfc27.2.1 k List.not_mem_nil)).symm
                have hf27 : Fr [19, 23, 24, 26] [21, 22] [27, 28] cn In Fn cn27 I14 Fn27 := Fr.mo (Fr.tr hfr14 hfc27) (sbl rfl) (sbl rfl) (sbl rfl)
                have hi_cn27 : Hid (CB cn27) := hIn27.b
                have : cn27 20 = cn 20 := hf27.1 20 (nml rfl)
                have : cn27 25 = cn 25 := hf27.1 25 (nml rfl)
                have hq_cn27 := Hid.i (frq_19_23_24_26_0_1_2_46_57_58_62_63_75_83_44 hf27)
                have : cn27 19 = (c14 19) := hfc27.1 19 (nml rfl)
                have : cn27 20 = (c14 20) := hfc27.1 20 (nml rfl)
                have : cn27 25 = (c14 25) := hfc27.1 25 (nml rfl)
                obtain ⟨h_27, Nh_27⟩ := h_27
                obtain ⟨h_27a, h_27b, h_27c, h_27d, h_27e⟩ := h_27
                have h_27f := h_27a.f
                have e28_27 : Fn27 28 = F14 28 := hfc27.2.2 28 (nml rfl)
                have sd27 : ∀ k : Nat, k < a0 → Fn27 27 k = Fn 27 k := fun k hk => (h_27c k hk).trans (hx14_1 k hk)
                have wt27 : ∀ i : Nat, i < (cn 24) → Fn27 28 i = Fn 28 i := fun i hi => (congrFun e28_27 i).trans (hx14_2 i hi)
                have hw14 : cn27 24 = cn 24 := no14 (W := Fn27 28) (w := c14 24) (by rw [e28_27]; exact h_23) (h_27e (by decide)) (by (first | omega | (have zz0 := Hid.u hi_c14; have zz1 := Hid.u hi_cn; have zz2 := Hid.u hi_cn2; have zz3 := Hid.u hi_cn27; have zz4 := Hid.u hq_c14; have zz5 := Hid.u hq_cn2; have zz6 := Hid.u hq_cn27; omega))) (by (first | omega | (have zz0 := Hid.u hi_c14; have zz1 := Hid.u hi_cn; have zz2 := Hid.u hi_cn2; have zz3 := Hid.u hi_cn27; have zz4 := Hid.u hq_c14; have zz5 := Hid.u hq_cn2; have zz6 := Hid.u hq_cn27; omega)))
                have hL9 := L_nil hq9 h_23
                subst hL9
                refine lv_iconst (v := 1) hx hb dX12_readsSum_162 kic_1 ?_
                exact W.zret (v := 1) hx hb hr rfl (fun t ht hW => ⟨⟨1, (cn27, I14, Fn27), rfl, ⟨(Fr.mo hf27 (sbl rfl) (sbl rfl) (sbl rfl)), hIn27, (by show ((1 : Int32) = 0 ∨ (1 = 1 ∧ PBk (cn27 19) (cn27 20) (cn27 23) (cn27 24) (Fn27 27) (Fn27 28) a0 (H0 + 1) s0 ∧ cn27 24 = cn 24 ∧ (∀ k : Nat, k < a0 → Fn27 27 k = Fn 27 k) ∧ (∀ i : Nat, i < cn 24 → Fn27 28 i = Fn 28 i) ∧ cn 19 < cn27 19)) ∧ (((1 : Int32) = 0 → ∃ e9 : Nat, sm1 bb nn (smK bb nn kk) (cn 19) o = .error e9 ∧ FLT I14 e9) ∧ ((1 : Int32) = 1 → ∃ uX : OutT, sm1 bb nn (smK bb nn kk) (cn 19) o = .ok (cn27 19, uX) ∧ RS kk uX cn27 I14 Fn27)); exact ⟨(by exact Or.inr ⟨rfl, PSx.fin' h_27a hw14, hw14, sd27, wt27, by (first | omega | (have zz0 := Hid.u hi_c14; have zz1 := Hid.u hi_cn; have zz2 := Hid.u hi_cn2; have zz3 := Hid.u hi_cn27; have zz4 := Hid.u hq_c14; have zz5 := Hid.u hq_cn2; have zz6 := Hid.u hq_cn27; omega))⟩), ⟨(fun q => absurd q (by decide)), fun _ => ⟨o9 ++ o1 ti9 ++ o1 pl9, VT_sm.symm.trans (he9.trans ((VF_f ((congrArg tms hpk_4).trans Nh_6.1) ((congrArg pls hpk_4).trans Nh_6.2)).trans (congrArg (fun p9 => (Except.ok (p9, o9 ++ o1 ti9 ++ o1 pl9) : ResT)) (show c14 19 = (cn27 19) by (first | omega | (have zz0 := Hid.u hi_c14; have zz1 := Hid.u hi_cn; have zz2 := Hid.u hi_cn2; have zz3 := Hid.u hi_cn27; have zz4 := Hid.u hq_c14; have zz5 := Hid.u hq_cn2; have zz6 := Hid.u hq_cn27; omega)))))), (by have e9 : k9 = kk := hs9; rw [← e9]; exact (Nh_27.2 (by decide)).rs)⟩⟩⟩)⟩, by rw [ht]; exact hP, hD⟩, hS.F ht⟩) hS.2.2 dX12_readsSum_163
        ·
          refine lv_istore_n (lv' := [(2, .int (nI mr_5)), (1, .int (nI (cn 24))), (0, .ref (g 100))]) hx hb dX12_readsSum_21 rfl hl (ltb rfl) rfl (fun ls hl => ?_)
          refine lv_iload_n hx hb dX12_readsSum_22 rfl (lvA0 hl) ?_
          refine lv_iconst (v := (-1)) hx hb dX12_readsSum_23 kic_m1 ?_
          have : (nI mr_5).toInt = ((mr_5 : Nat) : Int) := nI_toInt (by (first | omega | (have zz0 := Hid.u hi_c14; have zz1 := Hid.u hi_cn; have zz2 := Hid.u hi_cn2; have zz3 := Hid.u hq_c14; have zz4 := Hid.u hq_cn2; omega)))
          refine lv_icmp_eq (tgt := 84) hx hb dX12_readsSum_24 rfl (fun c_28 => False.elim (by have tc_28 : ((nI mr_5).toInt : Int) = (-1) := congrArg Int32.toInt c_28; (first | omega | (have zz0 := Hid.u hi_c14; have zz1 := Hid.u hi_cn; have zz2 := Hid.u hi_cn2; have zz3 := Hid.u hq_c14; have zz4 := Hid.u hq_cn2; omega)))) (fun c_28 => ?_)
          have tc_28 : ((nI mr_5).toInt : Int) ≠ (-1) := fun q => c_28 (Int32.toInt_inj.mp q)
          refine lv_aload_n hx hb (oc_42 27 (aq_3 shX12_readsSum_24)) rfl (lvA2 hl) ?_
          refine lv_iload_n hx hb (oc_28 28 (aq_4 shX12_readsSum_24)) rfl (lvA0 hl) ?_
          refine lv_iconst (v := 4) hx hb (oc_7 29 (aq_5 shX12_readsSum_24)) kic_4 ?_
          refine lv_icmp_ge (tgt := 37) hx hb (oc_162 30 (aq_6 shX12_readsSum_24) sgw_0_7) rfl (fun c_29 => ?_) (fun c_29 => ?_)
          ·
            have tc_29 : (4 : Int) ≤ (nI mr_5).toInt := Int32.le_iff_toInt_le.mp c_29
            refine lv_iconst (v := 0) hx hb (oc_3 37 (aq_13 shX12_readsSum_24)) kic_0 ?_
            have hFc := free_all hD hS hA
            refine va_callv (runV_a (As := [.int 0]) (rest := []) S (q_closesSums9 l D cI cB cZ g c14 I14 F14 a0 H0 (cn 24) s0 0 k9 L9 pl9 ti9 o9 H.size hI14 hx14_0 hq9 (hl9 _ List.mem_cons_self)) kV_RX12_290 hK hP hD 0 rfl rfl rfl ⟨Nat.le_of_ble_eq_true rfl, Nat.le_of_ble_eq_true rfl⟩ ⟨Nat.le_of_ble_eq_true rfl, Nat.le_of_ble_eq_true rfl⟩ rfl hl.1 rfl (Nat.le_of_ble_eq_true rfl) dX12_readsSum_38) hS (fun q _ h => hFc q h) hFc (fun u t H1 locs ht hvm wh_31 hB hz1 hk1 hS => ?_)
            obtain ⟨cn31, In31, Fn31⟩ := u
            obtain ⟨hP1, hD1⟩ := hB
            rw [ht] at hP1
            have hP : va_P D vwCl (wM cI cB cZ g cn31 In31 Fn31) H1 := hP1
            have hD : va_D A (wM cI cB cZ g cn31 In31 Fn31) := hD1.weaken (fun _ _ _ h => hFc _ h)
            generalize H1 = H at hP hS ⊢
            have vh_31 : (fun c2 I2 F2 => Fr [23, 24] [] [27] c14 I14 F14 c2 I2 F2 ∧ IM c2 F2 ∧ (((PSx (c2 19) (c2 20) (c2 23) (c2 24) (F2 27) (F2 28) a0 (H0 + 1) (cn 24) s0) ∧ c2 24 ≤ (c14 24) ∧ (∀ k9 : Nat, k9 < a0 → F2 27 k9 = (F14 27) k9) ∧ (∀ i : Nat, c2 24 ≤ i → i < (c14 24) → kd (F2 28 i) ≤ 6) ∧ (¬ (0 : Int32) = 0 → c2 24 = (cn 24) ∨ kd (F2 28 (c2 24 - 1)) = 14)) ∧ (((0 : Int32) = 0 → RQ (cn 24) k9 (eT L9 ++ (o2 pl9 ++ o2 none)) (o9 ++ o1 ti9) c2 I2 F2) ∧ (¬ (0 : Int32) = 0 → RQ (cn 24) k9 (eT L9 ++ (o2 none ++ o2 none)) (o9 ++ o1 ti9 ++ o1 pl9) c2 I2 F2)))) cn31 In31 Fn31 := wh_31
            obtain ⟨hfc31, hIn31, h_31⟩ := vh_31
            obtain rfl : I14 = In31 := (funext (fun k => hfc31.2.1 k List.not_mem_nil)).symm
            have hf31 : Fr [19, 23, 24, 26] [21, 22] [27, 28] cn In Fn cn31 I14 Fn31 := Fr.mo (Fr.tr hfr14 hfc31) (sbl rfl) (sbl rfl) (sbl rfl)
            have hi_cn31 : Hid (CB cn31) := hIn31.b
            have : cn31 20 = cn 20 := hf31.1 20 (nml rfl)
            have : cn31 25 = cn 25 := hf31.1 25 (nml rfl)
            have hq_cn31 := Hid.i (frq_19_23_24_26_0_1_2_46_57_58_62_63_75_83_44 hf31)
            have : cn31 19 = (c14 19) := hfc31.1 19 (nml rfl)
            have : cn31 20 = (c14 20) := hfc31.1 20 (nml rfl)
            have : cn31 25 = (c14 25) := hfc31.1 25 (nml rfl)
            obtain ⟨h_31, Nh_31⟩ := h_31
            obtain ⟨h_31a, h_31b, h_31c, h_31d, h_31e⟩ := h_31
            have h_31f := h_31a.f
            have e28_31 : Fn31 28 = F14 28 := hfc31.2.2 28 (nml rfl)
            have sd31 : ∀ k : Nat, k < a0 → Fn31 27 k = Fn 27 k := fun k hk => (h_31c k hk).trans (hx14_1 k hk)
            have wt31 : ∀ i : Nat, i < (cn 24) → Fn31 28 i = Fn 28 i := fun i hi => (congrFun e28_31 i).trans (hx14_2 i hi)
            refine lv_aload_n hx hb dX12_readsSum_41 rfl (lvA2 hl) ?_
            refine gM_59 S hK hP (v := .ref (g 28)) rfl dX12_readsSum_42 ?_
            refine lv_aload_n hx hb dX12_readsSum_45 rfl (lvA2 hl) ?_
            refine gM_264 S hK hP (v := .int (nI (cn31 24))) rfl dX12_readsSum_46 ?_
            refine lv_ldcw (v := 1048576) hx hb hown (S.2.2.2.2 _ (wk7_17 11 rfl rfl)) dX12_readsSum_49 ?_
            refine lv_iload_n hx hb dX12_readsSum_52 rfl (lvA0 hl) ?_
            refine lv_imul hx hb dX12_readsSum_53 ?_
            refine lv_topi (fun y_32 ey_32 => ?_)
            obtain rfl : y_32 = (nI (mr_5 * 1048576)) := ey_32.trans ((pk_mul 1048576 mr_5).trans (congrArg nI (Nat.mul_comm _ _)))
            have kb_1 : (cn31 24) < 180 := by (first | omega | (have zz0 := Hid.u hi_c14; have zz1 := Hid.u hi_cn; have zz2 := Hid.u hi_cn2; have zz3 := Hid.u hi_cn31; have zz4 := Hid.u hq_c14; have zz5 := Hid.u hq_cn2; have zz6 := Hid.u hq_cn31; omega))
            refine stM_28 hx hb hK hP hD hS (Fn2 := (va_up Fn31 28 (upd (Fn31 28) (cn31 24) (nI (mr_5 * 1048576))))) (vp_in_nI kb_1 (ltb rfl)) (nI_clamp (Nat.lt_trans kb_1 (ltb rfl))) rfl dX12_readsSum_54 (fun H locs hP hD hS => ?_)
            refine lv_aload_n hx hb dX12_readsSum_55 rfl (lvA2 hl) ?_
            refine lv_aload_n hx hb dX12_readsSum_56 rfl (lvA2 hl) ?_
            refine gM_264 S hK hP (v := .int (nI (cn31 24))) rfl dX12_readsSum_57 ?_
            refine lv_iconst (v := 1) hx hb dX12_readsSum_60 kic_1 ?_
            refine lv_iadd hx hb dX12_readsSum_61 ?_
            refine lv_topi (fun y_33 ey_33 => ?_)
            obtain rfl : y_33 = (nI ((cn31 24) + 1)) := ey_33.trans (nI_add (cn31 24) 1)
            refine pM_264 S hK hP hD hS (a := ((cn31 24) + 1)) (cn2 := (va_up cn31 24 ((cn31 24) + 1))) rfl rfl dX12_readsSum_62 (fun H locs hP hD hS => ?_)
            refine lv_aload_n hx hb dX12_readsSum_65 rfl (lvA2 hl) ?_
            refine lv_aload_n hx hb dX12_readsSum_66 rfl (lvA2 hl) ?_
            refine gM_233 S hK hP (v := .int (nI (cn31 19))) rfl dX12_readsSum_67 ?_
            refine lv_iconst (v := 1) hx hb dX12_readsSum_70 kic_1 ?_
            refine lv_iadd hx hb dX12_readsSum_71 ?_
            refine lv_topi (fun y_34 ey_34 => ?_)
            obtain rfl : y_34 = (nI ((cn31 19) + 1)) := ey_34.trans (nI_add (cn31 19) 1)
            refine pM_233 S hK hP hD hS (a := ((cn31 19) + 1)) (cn2 := (va_up (va_up cn31 24 ((cn31 24) + 1)) 19 ((cn31 19) + 1))) rfl rfl dX12_readsSum_72 (fun H locs hP hD hS => ?_)
            refine lv_aload_n hx hb dX12_readsSum_75 rfl (lvA2 hl) ?_
            have hFc := free_all hD hS hA
            refine va_calli (runV_a (As := []) (rest := []) S (q_readsFactor9 l D cI cB cZ g (va_up (va_up cn31 24 ((cn31 24) + 1)) 19 ((cn31 19) + 1)) I14 (va_up Fn31 28 (upd (Fn31 28) (cn31 24) (nI (mr_5 * 1048576)))) a0 H0 (cn 24) s0 bb nn k9 L9 pl9 (some (mr_5 + 1)) (o9 ++ o1 ti9) H.size (IM.fr (In := I14) hIn31 (Fr.f 28 (Fr.c 19 (Fr.c 24 Fr.rf))) (by decide) (by decide)) (by have q := PSx.pushop (n := mr_5) h_31a (by (first | omega | (have zz0 := Hid.u hi_c14; have zz1 := Hid.u hi_cn; have zz2 := Hid.u hi_cn2; have zz3 := Hid.u hi_cn31; have zz4 := Hid.u hq_c14; have zz5 := Hid.u hq_cn2; have zz6 := Hid.u hq_cn31; omega))) (by (first | omega | (have zz0 := Hid.u hi_c14; have zz1 := Hid.u hi_cn; have zz2 := Hid.u hi_cn2; have zz3 := Hid.u hi_cn31; have zz4 := Hid.u hq_c14; have zz5 := Hid.u hq_cn2; have zz6 := Hid.u hq_cn31; omega))) (by (first | omega | (have zz0 := Hid.u hi_c14; have zz1 := Hid.u hi_cn; have zz2 := Hid.u hi_cn2; have zz3 := Hid.u hi_cn31; have zz4 := Hid.u hq_c14; have zz5 := Hid.u hq_cn2; have zz6 := Hid.u hq_cn31; omega))); exact q) (bbM_cg heb (hf31.2.2 17 (nml rfl))) (show cn31 20 = nn by (first | omega | (have zz0 := Hid.u hi_c14; have zz1 := Hid.u hi_cn; have zz2 := Hid.u hi_cn2; have zz3 := Hid.u hi_cn31; have zz4 := Hid.u hq_c14; have zz5 := Hid.u hq_cn2; have zz6 := Hid.u hq_cn31; omega))) (RQ.sgT (Nh_31.1 rfl) (by (first | omega | (have zz0 := Hid.u hi_c14; have zz1 := Hid.u hi_cn; have zz2 := Hid.u hi_cn2; have zz3 := Hid.u hi_cn31; have zz4 := Hid.u hq_c14; have zz5 := Hid.u hq_cn2; have zz6 := Hid.u hq_cn31; omega))) rfl rfl rfl rfl rfl) (lvk_T hl9 (by (first | omega | (have zz0 := Hid.u hi_c14; have zz1 := Hid.u hi_cn; have zz2 := Hid.u hi_cn2; have zz3 := Hid.u hi_cn31; have zz4 := Hid.u hq_c14; have zz5 := Hid.u hq_cn2; have zz6 := Hid.u hq_cn31; omega))))) kV_RX12_284 hK hP hD 0 rfl rfl rfl ⟨Nat.le_of_ble_eq_true rfl, Nat.le_of_ble_eq_true rfl⟩ ⟨Nat.le_of_ble_eq_true rfl, Nat.le_of_ble_eq_true rfl⟩ rfl hl.1 rfl (Nat.le_of_ble_eq_true rfl) dX12_readsSum_76) hS (fun q _ h => hFc q h) hFc (fun r_35 u t H1 locs ht hvm wh_36 hB hz1 hk1 hS => ?_)
            obtain ⟨cn36, In36, Fn36⟩ := u
            obtain ⟨hP1, hD1⟩ := hB
            rw [ht] at hP1
            have hP : va_P D vwCl (wM cI cB cZ g cn36 In36 Fn36) H1 := hP1
            have hD : va_D A (wM cI cB cZ g cn36 In36 Fn36) := hD1.weaken (fun _ _ _ h => hFc _ h)
            generalize H1 = H at hP hS ⊢
            have vh_36 : (fun r c2 I2 F2 => Fr [19, 23, 24, 26] [21, 22] [27, 28] (va_up (va_up cn31 24 ((cn31 24) + 1)) 19 ((cn31 19) + 1)) I14 (va_up Fn31 28 (upd (Fn31 28) (cn31 24) (nI (mr_5 * 1048576)))) c2 I2 F2 ∧ IM c2 F2 ∧ (((r : Int32) = 0 ∨ (r = 1 ∧ PSx (c2 19) (c2 20) (c2 23) (c2 24) (F2 27) (F2 28) a0 (H0 + 1) (cn 24) s0 ∧ (∀ k9 : Nat, k9 < a0 → F2 27 k9 = (Fn31 27) k9) ∧ (∀ i : Nat, i < (cn 24) → F2 28 i = (upd (Fn31 28) (cn31 24) (nI (mr_5 * 1048576))) i) ∧ ((cn31 19) + 1) < c2 19)) ∧ (((r : Int32) = 0 → ∃ e9 : Nat, VT bb nn k9 pl9 (some (mr_5 + 1)) L9 (((cn31 19) + 1)) (o9 ++ o1 ti9) = .error e9 ∧ FLT I2 e9) ∧ ((r : Int32) = 1 → RFO bb nn (cn 24) (k9 + L9.length) (VT bb nn k9 pl9 (some (mr_5 + 1)) L9 (((cn31 19) + 1)) (o9 ++ o1 ti9)) c2 I2 F2)))) r_35 cn36 In36 Fn36 := wh_36
            obtain ⟨hfc36, hIn36, h_36⟩ := vh_36
            have hf36 : Fr [19, 23, 24, 26] [21, 22] [27, 28] cn In Fn cn36 In36 Fn36 := Fr.mo (Fr.tr (Fr.f 28 (Fr.c 19 (Fr.c 24 hf31))) hfc36) (sbl rfl) (sbl rfl) (sbl rfl)
            have hi_cn36 : Hid (CB cn36) := hIn36.b
            have : cn36 20 = cn 20 := hf36.1 20 (nml rfl)
            have : cn36 25 = cn 25 := hf36.1 25 (nml rfl)
            have hq_cn36 := Hid.i (frq_19_23_24_26_0_1_2_46_57_58_62_63_75_83_44 hf36)
            have : cn36 20 = (cn31 20) := hfc36.1 20 (nml rfl)
            have : cn36 25 = (cn31 25) := hfc36.1 25 (nml rfl)
            obtain ⟨h_36, Nh_36⟩ := h_36
            rcases h_36 with rfl | ⟨rfl, kh_36⟩
            ·
              refine lv_if_ne (tgt := 164) hx hb dX12_readsSum_79 rfl (fun h => absurd h cq_eq_0_0) (fun _ => ?_)
              refine lv_iconst (v := 0) hx hb dX12_readsSum_82 kic_0 ?_
              exact W.zret (v := 0) hx hb hr rfl (fun t ht hW => ⟨⟨0, (cn36, In36, Fn36), rfl, ⟨(Fr.mo hf36 (sbl rfl) (sbl rfl) (sbl rfl)), hIn36, (by show ((0 : Int32) = 0 ∨ (0 = 1 ∧ PBk (cn36 19) (cn36 20) (cn36 23) (cn36 24) (Fn36 27) (Fn36 28) a0 (H0 + 1) s0 ∧ cn36 24 = cn 24 ∧ (∀ k : Nat, k < a0 → Fn36 27 k = Fn 27 k) ∧ (∀ i : Nat, i < cn 24 → Fn36 28 i = Fn 28 i) ∧ cn 19 < cn36 19)) ∧ (((0 : Int32) = 0 → ∃ e9 : Nat, sm1 bb nn (smK bb nn kk) (cn 19) o = .error e9 ∧ FLT In36 e9) ∧ ((0 : Int32) = 1 → ∃ uX : OutT, sm1 bb nn (smK bb nn kk) (cn 19) o = .ok (cn36 19, uX) ∧ RS kk uX cn36 In36 Fn36)); exact ⟨(by exact Or.inl rfl), ⟨fun _ => (by obtain ⟨e9, a9, f9⟩ := Nh_36.1 rfl; rw [show cn31 19 = c14 19 by (first | omega | (have zz0 := Hid.u hi_c14; have zz1 := Hid.u hi_cn; have zz2 := Hid.u hi_cn2; have zz3 := Hid.u hi_cn31; have zz4 := Hid.u hi_cn36; have zz5 := Hid.u hq_c14; have zz6 := Hid.u hq_cn2; have zz7 := Hid.u hq_cn31; have zz8 := Hid.u hq_cn36; omega))] at a9; exact ⟨e9, VT_sm.symm.trans (he9.trans ((VF_t ((congrArg tms hpk_4).trans (Nh_6.1 (by (first | omega | (have zz0 := Hid.u hi_c14; have zz1 := Hid.u hi_cn; have zz2 := Hid.u hi_cn2; have zz3 := Hid.u hi_cn31; have zz4 := Hid.u hi_cn36; have zz5 := Hid.u hq_c14; have zz6 := Hid.u hq_cn2; have zz7 := Hid.u hq_cn31; have zz8 := Hid.u hq_cn36; omega)))))).trans a9)), f9⟩), (fun q => absurd q (by decide))⟩⟩)⟩, by rw [ht]; exact hP, hD⟩, hS.F ht⟩) hS.2.2 dX12_readsSum_83
            ·
              obtain ⟨kh_36a, kh_36b, kh_36c, kh_36d⟩ := kh_36
              have kh_36f := kh_36a.f
              refine lv_if_ne (tgt := 164) hx hb dX12_readsSum_79 rfl (fun _ => ?_) (fun h => absurd h cq_eq_1_0)
              refine lv_goto (tgt := 14) hx hb dX12_readsSum_164 rfl ?_
              exact ih14  cn36 In36 Fn36 _ _ (show cn 20 - (cn36 19) < n14 by (first | omega | (have zz0 := Hid.u hi_c14; have zz1 := Hid.u hi_cn; have zz2 := Hid.u hi_cn2; have zz3 := Hid.u hi_cn31; have zz4 := Hid.u hi_cn36; have zz5 := Hid.u hq_c14; have zz6 := Hid.u hq_cn2; have zz7 := Hid.u hq_cn31; have zz8 := Hid.u hq_cn36; omega))) ⟨(Fr.mo hf36 (sbl rfl) (sbl rfl) (sbl rfl)), hIn36, kh_36a, (fun k hk => (kh_36b k hk).trans (sd31 k hk)), (fun i hi => (kh_36c i hi).trans ((upd_lt (by (first | omega | (have zz0 := Hid.u hi_c14; have zz1 := Hid.u hi_cn; have zz2 := Hid.u hi_cn2; have zz3 := Hid.u hi_cn31; have zz4 := Hid.u hi_cn36; have zz5 := Hid.u hq_c14; have zz6 := Hid.u hq_cn2; have zz7 := Hid.u hq_cn31; have zz8 := Hid.u hq_cn36; omega)))).trans (wt31 i hi))), (by (first | omega | (have zz0 := Hid.u hi_c14; have zz1 := Hid.u hi_cn; have zz2 := Hid.u hi_cn2; have zz3 := Hid.u hi_cn31; have zz4 := Hid.u hi_cn36; have zz5 := Hid.u hq_c14; have zz6 := Hid.u hq_cn2; have zz7 := Hid.u hq_cn31; have zz8 := Hid.u hq_cn36; omega))), (by have q9 := Nh_36.2 rfl; rw [hs9, show cn31 19 = c14 19 by (first | omega | (have zz0 := Hid.u hi_c14; have zz1 := Hid.u hi_cn; have zz2 := Hid.u hi_cn2; have zz3 := Hid.u hi_cn31; have zz4 := Hid.u hi_cn36; have zz5 := Hid.u hq_c14; have zz6 := Hid.u hq_cn2; have zz7 := Hid.u hq_cn31; have zz8 := Hid.u hq_cn36; omega))] at q9; rw [he9, VF_t ((congrArg tms hpk_4).trans (Nh_6.1 (by (first | omega | (have zz0 := Hid.u hi_c14; have zz1 := Hid.u hi_cn; have zz2 := Hid.u hi_cn2; have zz3 := Hid.u hi_cn31; have zz4 := Hid.u hi_cn36; have zz5 := Hid.u hq_c14; have zz6 := Hid.u hq_cn2; have zz7 := Hid.u hq_cn31; have zz8 := Hid.u hq_cn36; omega)))))]; exact q9)⟩ hP hD hS ls (lv_sub hl [1, 2] rfl)
          ·
            have tc_29 : ((nI mr_5).toInt : Int) < 4 := Int32.lt_iff_toInt_lt.mp (Int32.not_le.mp c_29)
            refine lv_iconst (v := 1) hx hb (oc_4 33 (aq_9 shX12_readsSum_24)) kic_1 ?_
            refine lv_goto (tgt := 38) hx hb (oc_167 34 (aq_10 shX12_readsSum_24) sgw_0_4) rfl ?_
            have hFc := free_all hD hS hA
            refine va_callv (runV_a (As := [.int 1]) (rest := []) S (q_closesSums9 l D cI cB cZ g c14 I14 F14 a0 H0 (cn 24) s0 1 k9 L9 pl9 ti9 o9 H.size hI14 hx14_0 hq9 (hl9 _ List.mem_cons_self)) kV_RX12_290 hK hP hD 0 rfl rfl rfl ⟨Nat.le_of_ble_eq_true rfl, Nat.le_of_ble_eq_true rfl⟩ ⟨Nat.le_of_ble_eq_true rfl, Nat.le_of_ble_eq_true rfl⟩ rfl hl.1 rfl (Nat.le_of_ble_eq_true rfl) dX12_readsSum_38) hS (fun q _ h => hFc q h) hFc (fun u t H1 locs ht hvm wh_38 hB hz1 hk1 hS => ?_)
            obtain ⟨cn38, In38, Fn38⟩ := u
            obtain ⟨hP1, hD1⟩ := hB
            rw [ht] at hP1
            have hP : va_P D vwCl (wM cI cB cZ g cn38 In38 Fn38) H1 := hP1
            have hD : va_D A (wM cI cB cZ g cn38 In38 Fn38) := hD1.weaken (fun _ _ _ h => hFc _ h)
            generalize H1 = H at hP hS ⊢
            have vh_38 : (fun c2 I2 F2 => Fr [23, 24] [] [27] c14 I14 F14 c2 I2 F2 ∧ IM c2 F2 ∧ (((PSx (c2 19) (c2 20) (c2 23) (c2 24) (F2 27) (F2 28) a0 (H0 + 1) (cn 24) s0) ∧ c2 24 ≤ (c14 24) ∧ (∀ k9 : Nat, k9 < a0 → F2 27 k9 = (F14 27) k9) ∧ (∀ i : Nat, c2 24 ≤ i → i < (c14 24) → kd (F2 28 i) ≤ 6) ∧ (¬ (1 : Int32) = 0 → c2 24 = (cn 24) ∨ kd (F2 28 (c2 24 - 1)) = 14)) ∧ (((1 : Int32) = 0 → RQ (cn 24) k9 (eT L9 ++ (o2 pl9 ++ o2 none)) (o9 ++ o1 ti9) c2 I2 F2) ∧ (¬ (1 : Int32) = 0 → RQ (cn 24) k9 (eT L9 ++ (o2 none ++ o2 none)) (o9 ++ o1 ti9 ++ o1 pl9) c2 I2 F2)))) cn38 In38 Fn38 := wh_38
            obtain ⟨hfc38, hIn38, h_38⟩ := vh_38
            obtain rfl : I14 = In38 := (funext (fun k => hfc38.2.1 k List.not_mem_nil)).symm
            have hf38 : Fr [19, 23, 24, 26] [21, 22] [27, 28] cn In Fn cn38 I14 Fn38 := Fr.mo (Fr.tr hfr14 hfc38) (sbl rfl) (sbl rfl) (sbl rfl)
            have hi_cn38 : Hid (CB cn38) := hIn38.b
            have : cn38 20 = cn 20 := hf38.1 20 (nml rfl)
            have : cn38 25 = cn 25 := hf38.1 25 (nml rfl)
            have hq_cn38 := Hid.i (frq_19_23_24_26_0_1_2_46_57_58_62_63_75_83_44 hf38)
            have : cn38 19 = (c14 19) := hfc38.1 19 (nml rfl)
            have : cn38 20 = (c14 20) := hfc38.1 20 (nml rfl)
            have : cn38 25 = (c14 25) := hfc38.1 25 (nml rfl)
            obtain ⟨h_38, Nh_38⟩ := h_38
            obtain ⟨h_38a, h_38b, h_38c, h_38d, h_38e⟩ := h_38
            have h_38f := h_38a.f
            have e28_38 : Fn38 28 = F14 28 := hfc38.2.2 28 (nml rfl)
            have sd38 : ∀ k : Nat, k < a0 → Fn38 27 k = Fn 27 k := fun k hk => (h_38c k hk).trans (hx14_1 k hk)
            have wt38 : ∀ i : Nat, i < (cn 24) → Fn38 28 i = Fn 28 i := fun i hi => (congrFun e28_38 i).trans (hx14_2 i hi)
            refine lv_aload_n hx hb dX12_readsSum_41 rfl (lvA2 hl) ?_
            refine gM_59 S hK hP (v := .ref (g 28)) rfl dX12_readsSum_42 ?_
            refine lv_aload_n hx hb dX12_readsSum_45 rfl (lvA2 hl) ?_
            refine gM_264 S hK hP (v := .int (nI (cn38 24))) rfl dX12_readsSum_46 ?_
            refine lv_ldcw (v := 1048576) hx hb hown (S.2.2.2.2 _ (wk7_17 11 rfl rfl)) dX12_readsSum_49 ?_
            refine lv_iload_n hx hb dX12_readsSum_52 rfl (lvA0 hl) ?_
            refine lv_imul hx hb dX12_readsSum_53 ?_
            refine lv_topi (fun y_39 ey_39 => ?_)
            obtain rfl : y_39 = (nI (mr_5 * 1048576)) := ey_39.trans ((pk_mul 1048576 mr_5).trans (congrArg nI (Nat.mul_comm _ _)))
            have kb_2 : (cn38 24) < 180 := by (first | omega | (have zz0 := Hid.u hi_c14; have zz1 := Hid.u hi_cn; have zz2 := Hid.u hi_cn2; have zz3 := Hid.u hi_cn38; have zz4 := Hid.u hq_c14; have zz5 := Hid.u hq_cn2; have zz6 := Hid.u hq_cn38; omega))
            refine stM_28 hx hb hK hP hD hS (Fn2 := (va_up Fn38 28 (upd (Fn38 28) (cn38 24) (nI (mr_5 * 1048576))))) (vp_in_nI kb_2 (ltb rfl)) (nI_clamp (Nat.lt_trans kb_2 (ltb rfl))) rfl dX12_readsSum_54 (fun H locs hP hD hS => ?_)
            refine lv_aload_n hx hb dX12_readsSum_55 rfl (lvA2 hl) ?_
            refine lv_aload_n hx hb dX12_readsSum_56 rfl (lvA2 hl) ?_
            refine gM_264 S hK hP (v := .int (nI (cn38 24))) rfl dX12_readsSum_57 ?_
            refine lv_iconst (v := 1) hx hb dX12_readsSum_60 kic_1 ?_
            refine lv_iadd hx hb dX12_readsSum_61 ?_
            refine lv_topi (fun y_40 ey_40 => ?_)
            obtain rfl : y_40 = (nI ((cn38 24) + 1)) := ey_40.trans (nI_add (cn38 24) 1)
            refine pM_264 S hK hP hD hS (a := ((cn38 24) + 1)) (cn2 := (va_up cn38 24 ((cn38 24) + 1))) rfl rfl dX12_readsSum_62 (fun H locs hP hD hS => ?_)
            refine lv_aload_n hx hb dX12_readsSum_65 rfl (lvA2 hl) ?_
            refine lv_aload_n hx hb dX12_readsSum_66 rfl (lvA2 hl) ?_
            refine gM_233 S hK hP (v := .int (nI (cn38 19))) rfl dX12_readsSum_67 ?_
            refine lv_iconst (v := 1) hx hb dX12_readsSum_70 kic_1 ?_
            refine lv_iadd hx hb dX12_readsSum_71 ?_
            refine lv_topi (fun y_41 ey_41 => ?_)
            obtain rfl : y_41 = (nI ((cn38 19) + 1)) := ey_41.trans (nI_add (cn38 19) 1)
            refine pM_233 S hK hP hD hS (a := ((cn38 19) + 1)) (cn2 := (va_up (va_up cn38 24 ((cn38 24) + 1)) 19 ((cn38 19) + 1))) rfl rfl dX12_readsSum_72 (fun H locs hP hD hS => ?_)
            refine lv_aload_n hx hb dX12_readsSum_75 rfl (lvA2 hl) ?_
            have hFc := free_all hD hS hA
            refine va_calli (runV_a (As := []) (rest := []) S (q_readsFactor9 l D cI cB cZ g (va_up (va_up cn38 24 ((cn38 24) + 1)) 19 ((cn38 19) + 1)) I14 (va_up Fn38 28 (upd (Fn38 28) (cn38 24) (nI (mr_5 * 1048576)))) a0 H0 (cn 24) s0 bb nn k9 L9 (some (mr_5 + 1)) none (o9 ++ o1 ti9 ++ o1 pl9) H.size (IM.fr (In := I14) hIn38 (Fr.f 28 (Fr.c 19 (Fr.c 24 Fr.rf))) (by decide) (by decide)) (by have q := PSx.pushop (n := mr_5) h_38a (by (first | omega | (have zz0 := Hid.u hi_c14; have zz1 := Hid.u hi_cn; have zz2 := Hid.u hi_cn2; have zz3 := Hid.u hi_cn38; have zz4 := Hid.u hq_c14; have zz5 := Hid.u hq_cn2; have zz6 := Hid.u hq_cn38; omega))) (by (first | omega | (have zz0 := Hid.u hi_c14; have zz1 := Hid.u hi_cn; have zz2 := Hid.u hi_cn2; have zz3 := Hid.u hi_cn38; have zz4 := Hid.u hq_c14; have zz5 := Hid.u hq_cn2; have zz6 := Hid.u hq_cn38; omega))) (by (first | omega | (have zz0 := Hid.u hi_c14; have zz1 := Hid.u hi_cn; have zz2 := Hid.u hi_cn2; have zz3 := Hid.u hi_cn38; have zz4 := Hid.u hq_c14; have zz5 := Hid.u hq_cn2; have zz6 := Hid.u hq_cn38; omega))); exact q) (bbM_cg heb (hf38.2.2 17 (nml rfl))) (show cn38 20 = nn by (first | omega | (have zz0 := Hid.u hi_c14; have zz1 := Hid.u hi_cn; have zz2 := Hid.u hi_cn2; have zz3 := Hid.u hi_cn38; have zz4 := Hid.u hq_c14; have zz5 := Hid.u hq_cn2; have zz6 := Hid.u hq_cn38; omega))) (RQ.sgP (Nh_38.2 (by decide)) (by (first | omega | (have zz0 := Hid.u hi_c14; have zz1 := Hid.u hi_cn; have zz2 := Hid.u hi_cn2; have zz3 := Hid.u hi_cn38; have zz4 := Hid.u hq_c14; have zz5 := Hid.u hq_cn2; have zz6 := Hid.u hq_cn38; omega))) rfl rfl rfl rfl rfl) (lvk_P hl9 (by (first | omega | (have zz0 := Hid.u hi_c14; have zz1 := Hid.u hi_cn; have zz2 := Hid.u hi_cn2; have zz3 := Hid.u hi_cn38; have zz4 := Hid.u hq_c14; have zz5 := Hid.u hq_cn2; have zz6 := Hid.u hq_cn38; omega))))) kV_RX12_284 hK hP hD 0 rfl rfl rfl ⟨Nat.le_of_ble_eq_true rfl, Nat.le_of_ble_eq_true rfl⟩ ⟨Nat.le_of_ble_eq_true rfl, Nat.le_of_ble_eq_true rfl⟩ rfl hl.1 rfl (Nat.le_of_ble_eq_true rfl) dX12_readsSum_76) hS (fun q _ h => hFc q h) hFc (fun r_42 u t H1 locs ht hvm wh_43 hB hz1 hk1 hS => ?_)
            obtain ⟨cn43, In43, Fn43⟩ := u
            obtain ⟨hP1, hD1⟩ := hB
            rw [ht] at hP1
            have hP : va_P D vwCl (wM cI cB cZ g cn43 In43 Fn43) H1 := hP1
            have hD : va_D A (wM cI cB cZ g cn43 In43 Fn43) := hD1.weaken (fun _ _ _ h => hFc _ h)
            generalize H1 = H at hP hS ⊢
            have vh_43 : (fun r c2 I2 F2 => Fr [19, 23, 24, 26] [21, 22] [27, 28] (va_up (va_up cn38 24 ((cn38 24) + 1)) 19 ((cn38 19) + 1)) I14 (va_up Fn38 28 (upd (Fn38 28) (cn38 24) (nI (mr_5 * 1048576)))) c2 I2 F2 ∧ IM c2 F2 ∧ (((r : Int32) = 0 ∨ (r = 1 ∧ PSx (c2 19) (c2 20) (c2 23) (c2 24) (F2 27) (F2 28) a0 (H0 + 1) (cn 24) s0 ∧ (∀ k9 : Nat, k9 < a0 → F2 27 k9 = (Fn38 27) k9) ∧ (∀ i : Nat, i < (cn 24) → F2 28 i = (upd (Fn38 28) (cn38 24) (nI (mr_5 * 1048576))) i) ∧ ((cn38 19) + 1) < c2 19)) ∧ (((r : Int32) = 0 → ∃ e9 : Nat, VT bb nn k9 (some (mr_5 + 1)) none L9 (((cn38 19) + 1)) (o9 ++ o1 ti9 ++ o1 pl9) = .error e9 ∧ FLT I2 e9) ∧ ((r : Int32) = 1 → RFO bb nn (cn 24) (k9 + L9.length) (VT bb nn k9 (some (mr_5 + 1)) none L9 (((cn38 19) + 1)) (o9 ++ o1 ti9 ++ o1 pl9)) c2 I2 F2)))) r_42 cn43 In43 Fn43 := wh_43
            obtain ⟨hfc43, hIn43, h_43⟩ := vh_43
            have hf43 : Fr [19, 23, 24, 26] [21, 22] [27, 28] cn In Fn cn43 In43 Fn43 := Fr.mo (Fr.tr (Fr.f 28 (Fr.c 19 (Fr.c 24 hf38))) hfc43) (sbl rfl) (sbl rfl) (sbl rfl)
            have hi_cn43 : Hid (CB cn43) := hIn43.b
            have : cn43 20 = cn 20 := hf43.1 20 (nml rfl)
            have : cn43 25 = cn 25 := hf43.1 25 (nml rfl)
            have hq_cn43 := Hid.i (frq_19_23_24_26_0_1_2_46_57_58_62_63_75_83_44 hf43)
            have : cn43 20 = (cn38 20) := hfc43.1 20 (nml rfl)
            have : cn43 25 = (cn38 25) := hfc43.1 25 (nml rfl)
            obtain ⟨h_43, Nh_43⟩ := h_43
            rcases h_43 with rfl | ⟨rfl, kh_43⟩
            ·
              refine lv_if_ne (tgt := 164) hx hb dX12_readsSum_79 rfl (fun h => absurd h cq_eq_0_0) (fun _ => ?_)
              refine lv_iconst (v := 0) hx hb dX12_readsSum_82 kic_0 ?_
              exact W.zret (v := 0) hx hb hr rfl (fun t ht hW => ⟨⟨0, (cn43, In43, Fn43), rfl, ⟨(Fr.mo hf43 (sbl rfl) (sbl rfl) (sbl rfl)), hIn43, (by show ((0 : Int32) = 0 ∨ (0 = 1 ∧ PBk (cn43 19) (cn43 20) (cn43 23) (cn43 24) (Fn43 27) (Fn43 28) a0 (H0 + 1) s0 ∧ cn43 24 = cn 24 ∧ (∀ k : Nat, k < a0 → Fn43 27 k = Fn 27 k) ∧ (∀ i : Nat, i < cn 24 → Fn43 28 i = Fn 28 i) ∧ cn 19 < cn43 19)) ∧ (((0 : Int32) = 0 → ∃ e9 : Nat, sm1 bb nn (smK bb nn kk) (cn 19) o = .error e9 ∧ FLT In43 e9) ∧ ((0 : Int32) = 1 → ∃ uX : OutT, sm1 bb nn (smK bb nn kk) (cn 19) o = .ok (cn43 19, uX) ∧ RS kk uX cn43 In43 Fn43)); exact ⟨(by exact Or.inl rfl), ⟨fun _ => (by obtain ⟨e9, a9, f9⟩ := Nh_43.1 rfl; rw [show cn38 19 = c14 19 by (first | omega | (have zz0 := Hid.u hi_c14; have zz1 := Hid.u hi_cn; have zz2 := Hid.u hi_cn2; have zz3 := Hid.u hi_cn38; have zz4 := Hid.u hi_cn43; have zz5 := Hid.u hq_c14; have zz6 := Hid.u hq_cn2; have zz7 := Hid.u hq_cn38; have zz8 := Hid.u hq_cn43; omega))] at a9; exact ⟨e9, VT_sm.symm.trans (he9.trans ((VF_p ((congrArg tms hpk_4).trans (Nh_6.2 (by (first | omega | (have zz0 := Hid.u hi_c14; have zz1 := Hid.u hi_cn; have zz2 := Hid.u hi_cn2; have zz3 := Hid.u hi_cn38; have zz4 := Hid.u hi_cn43; have zz5 := Hid.u hq_c14; have zz6 := Hid.u hq_cn2; have zz7 := Hid.u hq_cn38; have zz8 := Hid.u hq_cn43; omega)))).1) ((congrArg pls hpk_4).trans (Nh_6.2 (by (first | omega | (have zz0 := Hid.u hi_c14; have zz1 := Hid.u hi_cn; have zz2 := Hid.u hi_cn2; have zz3 := Hid.u hi_cn38; have zz4 := Hid.u hi_cn43; have zz5 := Hid.u hq_c14; have zz6 := Hid.u hq_cn2; have zz7 := Hid.u hq_cn38; have zz8 := Hid.u hq_cn43; omega)))).2)).trans a9)), f9⟩), (fun q => absurd q (by decide))⟩⟩)⟩, by rw [ht]; exact hP, hD⟩, hS.F ht⟩) hS.2.2 dX12_readsSum_83
            ·
              obtain ⟨kh_43a, kh_43b, kh_43c, kh_43d⟩ := kh_43
              have kh_43f := kh_43a.f
              refine lv_if_ne (tgt := 164) hx hb dX12_readsSum_79 rfl (fun _ => ?_) (fun h => absurd h cq_eq_1_0)
              refine lv_goto (tgt := 14) hx hb dX12_readsSum_164 rfl ?_
              exact ih14  cn43 In43 Fn43 _ _ (show cn 20 - (cn43 19) < n14 by (first | omega | (have zz0 := Hid.u hi_c14; have zz1 := Hid.u hi_cn; have zz2 := Hid.u hi_cn2; have zz3 := Hid.u hi_cn38; have zz4 := Hid.u hi_cn43; have zz5 := Hid.u hq_c14; have zz6 := Hid.u hq_cn2; have zz7 := Hid.u hq_cn38; have zz8 := Hid.u hq_cn43; omega))) ⟨(Fr.mo hf43 (sbl rfl) (sbl rfl) (sbl rfl)), hIn43, kh_43a, (fun k hk => (kh_43b k hk).trans (sd38 k hk)), (fun i hi => (kh_43c i hi).trans ((upd_lt (by (first | omega | (have zz0 := Hid.u hi_c14; have zz1 := Hid.u hi_cn; have zz2 := Hid.u hi_cn2; have zz3 := Hid.u hi_cn38; have zz4 := Hid.u hi_cn43; have zz5 := Hid.u hq_c14; have zz6 := Hid.u hq_cn2; have zz7 := Hid.u hq_cn38; have zz8 := Hid.u hq_cn43; omega)))).trans (wt38 i hi))), (by (first | omega | (have zz0 := Hid.u hi_c14; have zz1 := Hid.u hi_cn; have zz2 := Hid.u hi_cn2; have zz3 := Hid.u hi_cn38; have zz4 := Hid.u hi_cn43; have zz5 := Hid.u hq_c14; have zz6 := Hid.u hq_cn2; have zz7 := Hid.u hq_cn38; have zz8 := Hid.u hq_cn43; omega))), (by have q9 := Nh_43.2 rfl; rw [hs9, show cn38 19 = c14 19 by (first | omega | (have zz0 := Hid.u hi_c14; have zz1 := Hid.u hi_cn; have zz2 := Hid.u hi_cn2; have zz3 := Hid.u hi_cn38; have zz4 := Hid.u hi_cn43; have zz5 := Hid.u hq_c14; have zz6 := Hid.u hq_cn2; have zz7 := Hid.u hq_cn38; have zz8 := Hid.u hq_cn43; omega))] at q9; rw [he9, VF_p ((congrArg tms hpk_4).trans (Nh_6.2 (by (first | omega | (have zz0 := Hid.u hi_c14; have zz1 := Hid.u hi_cn; have zz2 := Hid.u hi_cn2; have zz3 := Hid.u hi_cn38; have zz4 := Hid.u hi_cn43; have zz5 := Hid.u hq_c14; have zz6 := Hid.u hq_cn2; have zz7 := Hid.u hq_cn38; have zz8 := Hid.u hq_cn43; omega)))).1) ((congrArg pls hpk_4).trans (Nh_6.2 (by (first | omega | (have zz0 := Hid.u hi_c14; have zz1 := Hid.u hi_cn; have zz2 := Hid.u hi_cn2; have zz3 := Hid.u hi_cn38; have zz4 := Hid.u hi_cn43; have zz5 := Hid.u hq_c14; have zz6 := Hid.u hq_cn2; have zz7 := Hid.u hq_cn38; have zz8 := Hid.u hq_cn43; omega)))).2)]; exact q9)⟩ hP hD hS ls (lv_sub hl [1, 2] rfl)
    exact lp_14 _  cn2 In2 Fn2 _ _ (Nat.lt_succ_self _) ⟨(Fr.mo hf2 (sbl rfl) (sbl rfl) (sbl rfl)), hIn2, kh_2a, kh_2b, kh_2c, kh_2d, (Nh_2.2 rfl)⟩ hP hD hS ls (lv_sub hl [0, 1] rfl)
set_option maxRecDepth 100000 in
set_option maxHeartbeats 4000000 in
theorem q_endsPiece9 (l : Launch) (D : va_G) (cI cB cZ : ClassId) (g : Nat → Nat) (cn : Nat → Nat) (In : Nat → Int32) (Fn : Nat → Nat → Int32) (a0 s0 : Nat) (kk : Nat) (rr aa : Option Nat) (mm : Nat) (LL : CevT) (oo : OutT) (sz : Nat) (hI : IM cn Fn) (hPS : PBk (cn 19) (cn 20) (cn 23) (cn 24) (Fn 27) (Fn 28) a0 1 s0) (hC : CK (cn 24) (Fn 28)) (hrk : RK kk ((rr, aa, mm) :: LL) oo cn In Fn) : Met l yX12_endsPiece (CWS yX12_endsPiece cX12_endsPiece 1 none) (RM 1 0 0) (PBw [.ref (g 100)] D cI cB cZ (wM cI cB cZ g cn In Fn) sz) (va_Qv (fun (u : (Nat → Nat) × (Nat → Int32) × (Nat → Nat → Int32)) => (fun c2 I2 F2 => Fr [23, 24] [22] [27] cn In Fn c2 I2 F2 ∧ IM c2 F2 ∧ (((PBk (c2 19) (c2 20) (c2 23) (c2 24) (F2 27) (F2 28) a0 1 s0) ∧ (CK (c2 24) (F2 28)) ∧ (∀ k : Nat, k < a0 → F2 27 k = Fn 27 k)) ∧ (RK (kk + mm) ((rr, aa, 0) :: LL) (oo ++ nots mm) c2 I2 F2))) u.1 u.2.1 u.2.2) (fun (u : (Nat → Nat) × (Nat → Int32) × (Nat → Nat → Int32)) (t : State) => va_P D vwCl (wM cI cB cZ g u.1 u.2.1 u.2.2) t.heap ∧ va_D (va_A (wM cI cB cZ g cn In Fn) sz) (wM cI cB cZ g u.1 u.2.1 u.2.2)) (va_A (wM cI cB cZ g cn In Fn) sz)) 0 0 (va_A (wM cI cB cZ g cn In Fn) sz) := by
  refine en_w (fun A => (va_Qv (fun (u : (Nat → Nat) × (Nat → Int32) × (Nat → Nat → Int32)) => (fun (c2 : Nat → Nat) (I2 : Nat → Int32) (F2 : Nat → Nat → Int32) => Fr [23, 24] [22] [27] cn In Fn c2 I2 F2 ∧ IM c2 F2 ∧ (((PBk (c2 19) (c2 20) (c2 23) (c2 24) (F2 27) (F2 28) a0 1 s0) ∧ (CK (c2 24) (F2 28)) ∧ (∀ k : Nat, k < a0 → F2 27 k = Fn 27 k)) ∧ (RK (kk + mm) ((rr, aa, 0) :: LL) (oo ++ nots mm) c2 I2 F2))) u.1 u.2.1 u.2.2) (fun (u : (Nat → Nat) × (Nat → Int32) × (Nat → Nat → Int32)) (t : State) => va_P D vwCl (wM cI cB cZ g u.1 u.2.1 u.2.2) t.heap ∧ va_D A (wM cI cB cZ g u.1 u.2.1 u.2.2)) A)) rfl rfl pn_RX12 (Nat.le_of_ble_eq_true rfl) (fun p e s m below meth c A hx hb hml hown S hr hlocks hnm hA hP hK hD hS ls hl => ?_)
  have hl : lv_has ls 1 [(0, .ref (g 100))] := hl
  have hi_cn : Hid (CB cn) := hI.b
  have lp_0 : ∀ (n : Nat)  (cz : Nat → Nat) (Iz : Nat → Int32) (Fz : Nat → Nat → Int32) (H : Heap) (locs : List Loc) , cz 24 < n → (Fr [23, 24] [22] [27] cn In Fn cz Iz Fz ∧ IM cz Fz ∧ ((PBk (cz 19) (cz 20) (cz 23) (cz 24) (Fz 27) (Fz 28) a0 1 s0)) ∧ ((CK (cz 24) (Fz 28))) ∧ ((∀ k : Nat, k < a0 → Fz 27 k = Fn 27 k)) ∧ (EPI kk rr aa mm LL oo cz Iz Fz)) → va_P D vwCl (wM cI cB cZ g cz Iz Fz) H → va_D A (wM cI cB cZ g cz Iz Fz) → va_S A s.heap H locs → ∀ ls : Array Slot, lv_has ls 1 [(0, .ref (g 100))] → W p l e (RM 1 0 0) s m ([.ref (g 100)]).toArray below meth c H locs 0 0 (MQ below (va_Qv (fun (u : (Nat → Nat) × (Nat → Int32) × (Nat → Nat → Int32)) => (fun c2 I2 F2 => Fr [23, 24] [22] [27] cn In Fn c2 I2 F2 ∧ IM c2 F2 ∧ (((PBk (c2 19) (c2 20) (c2 23) (c2 24) (F2 27) (F2 28) a0 1 s0) ∧ (CK (c2 24) (F2 28)) ∧ (∀ k : Nat, k < a0 → F2 27 k = Fn 27 k)) ∧ (RK (kk + mm) ((rr, aa, 0) :: LL) (oo ++ nots mm) c2 I2 F2))) u.1 u.2.1 u.2.2) (fun (u : (Nat → Nat) × (Nat → Int32) × (Nat → Nat → Int32)) (t : State) => va_P D vwCl (wM cI cB cZ g u.1 u.2.1 u.2.2) t.heap ∧ va_D A (wM cI cB cZ g u.1 u.2.1 u.2.2)) A) ([.ref (g 100)]).toArray s 0 0 A) (F0 m 0 ls []) := by
    intro n0
    induction n0 with
    | zero => intros; (first | omega | (have zz0 := Hid.u hi_cn; omega))
    | succ n0 ih0 =>
      intro  cz Iz Fz H locs hmu0 hinv0 hP hD hS ls hl
      obtain ⟨hfr0, hI0, hx0_0, hx0_1, hx0_2, hx0_3⟩ := hinv0
      have hi_cz : Hid (CB cz) := hI0.b
      have : cz 19 = cn 19 := hfr0.1 19 (nml rfl)
      have : cz 20 = cn 20 := hfr0.1 20 (nml rfl)
      have : cz 25 = cn 25 := hfr0.1 25 (nml rfl)
      have hq_cz := Hid.i (frq_23_24_0_1_2_46_57_58_62_63_75_83_44 hfr0)
      have hf0 := hx0_0.f
      have hc0 := hx0_1.1
      refine lv_aload_n hx hb (oc_42 0 shX12_endsPiece_0) rfl (lvA0 hl) ?_
      refine vp_callSi (runV_ra (As := []) (rest := []) S (q_top l D cI cB cZ g cz Iz Fz  hI0 hx0_0.w (by (first | omega | (have zz0 := Hid.u hi_cn; have zz1 := Hid.u hi_cz; have zz2 := Hid.u hq_cz; omega)))) kV_RX12_267 hK hP 0 rfl rfl rfl ⟨Nat.le_of_ble_eq_true rfl, Nat.le_of_ble_eq_true rfl⟩ ⟨Nat.le_of_ble_eq_true rfl, Nat.le_of_ble_eq_true rfl⟩ rfl hl.1 rfl (Nat.le_of_ble_eq_true rfl) (oc_182 1 (aq_1 shX12_endsPiece_0) uw_1_11)) (fun r_1 h_2 => ?_)
      refine lv_bipush (v := 10) hx hb (oc_16 4 (aq_4 shX12_endsPiece_0) sgb_10) kbc_10 ?_
      refine lv_icmp_ne (tgt := 39) hx hb (oc_160 6 (aq_6 shX12_endsPiece_0) sgw_0_33) rfl (fun c_3 => ?_) (fun c_3 => ?_)
      ·
        have tc_3 : (r_1.toInt : Int) ≠ 10 := fun q => c_3 (Int32.toInt_inj.mp q)
        exact W.vret hx hb hr (fun t ht hW => ⟨⟨(cz, Iz, Fz), rfl, ⟨(Fr.mo hfr0 (sbl rfl) (sbl rfl) (sbl rfl)), hI0, (by show ((PBk (cz 19) (cz 20) (cz 23) (cz 24) (Fz 27) (Fz 28) a0 1 s0) ∧ (CK (cz 24) (Fz 28)) ∧ (∀ k : Nat, k < a0 → Fz 27 k = Fn 27 k)) ∧ (RK (kk + mm) ((rr, aa, 0) :: LL) (oo ++ nots mm) cz Iz Fz); exact ⟨(by exact ⟨hx0_0, hx0_1, hx0_2⟩), EPI.fin hx0_3 (by (first | omega | (have zz0 := Hid.u hi_cn; have zz1 := Hid.u hi_cz; have zz2 := Hid.u hq_cz; omega)))⟩)⟩, by rw [ht]; exact hP, hD⟩, hS.F ht⟩) hS.2.2 (oc_177 39 (aq_13 shX12_endsPiece_26))
      ·
        have tc_3 : (r_1.toInt : Int) = 10 := congrArg Int32.toInt c_3
        refine lv_aload_n hx hb (oc_42 9 (aq_9 shX12_endsPiece_0)) rfl (lvA0 hl) ?_
        refine lv_bipush (v := 10) hx hb (oc_16 10 (aq_10 shX12_endsPiece_0) sgb_10) kbc_10 ?_
        refine lv_iconst (v := 0) hx hb (oc_3 12 (aq_12 shX12_endsPiece_0)) kic_0 ?_
        have hFc := free_all hD hS hA
        refine va_callv (runV_a (As := [.int 10, .int 0]) (rest := []) S (q_says l D cI cB cZ g cz Iz Fz 10 0 H.size hI0 (by (first | omega | (have zz0 := Hid.u hi_cn; have zz1 := Hid.u hi_cz; have zz2 := Hid.u hq_cz; omega)))) kV_RX12_270 hK hP hD 0 rfl rfl rfl ⟨Nat.le_of_ble_eq_true rfl, Nat.le_of_ble_eq_true rfl⟩ ⟨Nat.le_of_ble_eq_true rfl, Nat.le_of_ble_eq_true rfl⟩ rfl hl.1 rfl (Nat.le_of_ble_eq_true rfl) (oc_182 13 (aq_13 shX12_endsPiece_0) uw_1_14)) hS (fun q _ h => hFc q h) hFc (fun u t H1 locs ht hvm wh_5 hB hz1 hk1 hS => ?_)
        obtain ⟨cn5, In5, Fn5⟩ := u
        obtain ⟨hP1, hD1⟩ := hB
        rw [ht] at hP1
        have vh_5 : (fun c2 I2 F2 => (∀ k : Nat, k ∉ [] → I2 k = Iz k) ∧ (((True) ∧ (va_up cz 23 ((cz 23) + 1)) = c2 ∧ (va_up Fz 27 (upd ((Fz 27)) ((cz 23)) (nI (10 * 1048576 + 0)))) = F2))) cn5 In5 Fn5 := wh_5
        obtain ⟨hI5_, vh_5⟩ := vh_5
        obtain ⟨h_5, rfl, rfl⟩ := vh_5
        obtain rfl : Iz = In5 := (funext (fun k => hI5_ k List.not_mem_nil)).symm
        have hP : va_P D vwCl (wM cI cB cZ g (va_up cz 23 ((cz 23) + 1)) Iz (va_up Fz 27 (upd ((Fz 27)) ((cz 23)) (nI (10 * 1048576 + 0))))) H1 := hP1
        have hD : va_D A (wM cI cB cZ g (va_up cz 23 ((cz 23) + 1)) Iz (va_up Fz 27 (upd ((Fz 27)) ((cz 23)) (nI (10 * 1048576 + 0))))) := hD1.weaken (fun _ _ _ h => hFc _ h)
        generalize H1 = H at hP hS ⊢
        refine lv_aload_n hx hb (oc_42 16 (aq_16 shX12_endsPiece_0)) rfl (lvA0 hl) ?_
        refine lv_aload_n hx hb (oc_42 17 (aq_17 shX12_endsPiece_0)) rfl (lvA0 hl) ?_
        refine gM_264 S hK hP (v := .int (nI (cz 24))) rfl (oc_180 18 (aq_18 shX12_endsPiece_0) uw_1_8) ?_
        refine lv_iconst (v := 1) hx hb (oc_4 21 (aq_21 shX12_endsPiece_0)) kic_1 ?_
        refine lv_isub hx hb (oc_100 22 (aq_22 shX12_endsPiece_0)) ?_
        refine lv_topi (fun y_6 ey_6 => ?_)
        obtain rfl : y_6 = (nI (cz 24 - 1)) := ey_6.trans (nI_sub (b := 1) (by (first | omega | (have zz0 := Hid.u hi_cn; have zz1 := Hid.u hi_cz; have zz2 := Hid.u hq_cz; omega))))
        refine pM_264 S hK hP hD hS (a := (cz 24 - 1)) (cn2 := (va_up (va_up cz 23 ((cz 23) + 1)) 24 (cz 24 - 1))) rfl rfl (oc_181 23 (aq_23 shX12_endsPiece_0) uw_1_8) (fun H locs hP hD hS => ?_)
        refine lv_aload_n hx hb (oc_42 26 shX12_endsPiece_26) rfl (lvA0 hl) ?_
        refine lv_aload_n hx hb (oc_42 27 (aq_1 shX12_endsPiece_26)) rfl (lvA0 hl) ?_
        refine gM_261 S hK hP (v := .int (Iz 22)) rfl (oc_180 28 (aq_2 shX12_endsPiece_26) uw_1_5) ?_
        refine lv_iconst (v := 1) hx hb (oc_4 31 (aq_5 shX12_endsPiece_26)) kic_1 ?_
        refine lv_isub hx hb (oc_100 32 (aq_6 shX12_endsPiece_26)) ?_
        refine pM_261 S hK hP hD hS (In2 := (va_up Iz 22 ((Iz 22) - 1))) rfl (oc_181 33 (aq_7 shX12_endsPiece_26) uw_1_5) (fun H locs hP hD hS => ?_)
        refine lv_goto (tgt := 0) hx hb (oc_167 36 (aq_10 shX12_endsPiece_26) sgw_255_220) rfl ?_
        exact ih0  (va_up (va_up cz 23 ((cz 23) + 1)) 24 (cz 24 - 1)) (va_up Iz 22 ((Iz 22) - 1)) (va_up Fz 27 (upd ((Fz 27)) ((cz 23)) (nI (10 * 1048576 + 0)))) _ _ (show (cz 24 - 1) < n0 by (first | omega | (have zz0 := Hid.u hi_cn; have zz1 := Hid.u hi_cz; have zz2 := Hid.u hq_cz; omega))) ⟨(Fr.mo (Fr.f 27 (Fr.i 22 (Fr.c 24 (Fr.c 23 hfr0)))) (sbl rfl) (sbl rfl) (sbl rfl)), (IM.fr (In := Iz) hI0 (Fr.f 27 (Fr.c 24 (Fr.c 23 Fr.rf))) (by decide) (by decide)), (by have q := PBk.code10 hx0_0 (by (first | omega | (have zz0 := Hid.u hi_cn; have zz1 := Hid.u hi_cz; have zz2 := Hid.u hq_cz; omega))) (by (first | omega | (have zz0 := Hid.u hi_cn; have zz1 := Hid.u hi_cz; have zz2 := Hid.u hq_cz; omega))); exact q), (by have q := CK.pop' hx0_1 (by (first | omega | (have zz0 := Hid.u hi_cn; have zz1 := Hid.u hi_cz; have zz2 := Hid.u hq_cz; omega))); exact q), (fun k hk => (upd_lt (by (first | omega | (have zz0 := Hid.u hi_cn; have zz1 := Hid.u hi_cz; have zz2 := Hid.u hq_cz; omega)))).trans (hx0_2 k hk)), (EPI.step hx0_3 (by (first | omega | (have zz0 := Hid.u hi_cn; have zz1 := Hid.u hi_cz; have zz2 := Hid.u hq_cz; omega))) (by (first | omega | (have zz0 := Hid.u hi_cn; have zz1 := Hid.u hi_cz; have zz2 := Hid.u hq_cz; omega))) rfl rfl rfl rfl rfl)⟩ hP hD hS ls (lv_sub hl [0] rfl)
  exact lp_0 _  cn In Fn _ _ (Nat.lt_succ_self _) ⟨(Fr.mo Fr.rf (sbl rfl) (sbl rfl) (sbl rfl)), hI, hPS, hC, (fun k hk => rfl), (EPI.start hrk)⟩ hP hD hS ls (lv_sub hl [0] rfl)
set_option maxRecDepth 100000 in
set_option maxHeartbeats 4000000 in
theorem q_lands9 (l : Launch) (D : va_G) (cI cB cZ : ClassId) (g : Nat → Nat) (cn : Nat → Nat) (In : Nat → Int32) (Fn : Nat → Nat → Int32) (a0 s0 : Nat) (v0 : Int32) (kk : Nat) (rr aa : Option Nat) (LL : CevT) (oo : OutT) (sz : Nat) (hI : IM cn Fn) (hPS : PBk (cn 19) (cn 20) (cn 23) (cn 24) (Fn 27) (Fn 28) a0 1 s0) (hC : CK (cn 24) (Fn 28)) (hrk : RK kk ((rr, aa, 0) :: LL) oo cn In Fn) : Met l yX12_lands (CWS yX12_lands cX12_lands 3 none) (RM 1 0 0) (PBw [.ref (g 100), .int v0] D cI cB cZ (wM cI cB cZ g cn In Fn) sz) (va_Qv (fun (u : (Nat → Nat) × (Nat → Int32) × (Nat → Nat → Int32)) => (fun c2 I2 F2 => Fr [24] [] [27] cn In Fn c2 I2 F2 ∧ IM c2 F2 ∧ (((PBk (c2 19) (c2 20) (c2 23) (c2 24) (F2 27) (F2 28) a0 1 s0) ∧ (CK (c2 24) (F2 28)) ∧ (∀ k : Nat, k < a0 → F2 27 k = Fn 27 k) ∧ (¬ (v0 : Int32) = 0 → ¬ (11 ≤ kd (F2 28 (c2 24 - 1)) ∧ kd (F2 28 (c2 24 - 1)) ≤ 12))) ∧ (((v0 : Int32) = 0 → RK kk ((rr, none, 0) :: LL) (aimO oo aa) c2 I2 F2) ∧ (¬ (v0 : Int32) = 0 → RK kk ((none, none, 0) :: LL) (aimO (aimO oo aa) rr) c2 I2 F2)))) u.1 u.2.1 u.2.2) (fun (u : (Nat → Nat) × (Nat → Int32) × (Nat → Nat → Int32)) (t : State) => va_P D vwCl (wM cI cB cZ g u.1 u.2.1 u.2.2) t.heap ∧ va_D (va_A (wM cI cB cZ g cn In Fn) sz) (wM cI cB cZ g u.1 u.2.1 u.2.2)) (va_A (wM cI cB cZ g cn In Fn) sz)) 0 0 (va_A (wM cI cB cZ g cn In Fn) sz) := by
  refine en_w (fun A => (va_Qv (fun (u : (Nat → Nat) × (Nat → Int32) × (Nat → Nat → Int32)) => (fun (c2 : Nat → Nat) (I2 : Nat → Int32) (F2 : Nat → Nat → Int32) => Fr [24] [] [27] cn In Fn c2 I2 F2 ∧ IM c2 F2 ∧ (((PBk (c2 19) (c2 20) (c2 23) (c2 24) (F2 27) (F2 28) a0 1 s0) ∧ (CK (c2 24) (F2 28)) ∧ (∀ k : Nat, k < a0 → F2 27 k = Fn 27 k) ∧ (¬ (v0 : Int32) = 0 → ¬ (11 ≤ kd (F2 28 (c2 24 - 1)) ∧ kd (F2 28 (c2 24 - 1)) ≤ 12))) ∧ (((v0 : Int32) = 0 → RK kk ((rr, none, 0) :: LL) (aimO oo aa) c2 I2 F2) ∧ (¬ (v0 : Int32) = 0 → RK kk ((none, none, 0) :: LL) (aimO (aimO oo aa) rr) c2 I2 F2)))) u.1 u.2.1 u.2.2) (fun (u : (Nat → Nat) × (Nat → Int32) × (Nat → Nat → Int32)) (t : State) => va_P D vwCl (wM cI cB cZ g u.1 u.2.1 u.2.2) t.heap ∧ va_D A (wM cI cB cZ g u.1 u.2.1 u.2.2)) A)) rfl rfl pn_RX12 (Nat.le_of_ble_eq_true rfl) (fun p e s m below meth c A hx hb hml hown S hr hlocks hnm hA hP hK hD hS ls hl => ?_)
  have hl : lv_has ls 3 [(0, .ref (g 100)), (1, .int v0)] := hl
  have hi_cn : Hid (CB cn) := hI.b
  have lp_0 : ∀ (n : Nat)  (cz : Nat → Nat) (Fz : Nat → Nat → Int32) (H : Heap) (locs : List Loc) , cz 24 < n → (Fr [24] [] [27] cn In Fn cz In Fz ∧ IM cz Fz ∧ ((PBk (cz 19) (cz 20) (cz 23) (cz 24) (Fz 27) (Fz 28) a0 1 s0)) ∧ ((CK (cz 24) (Fz 28))) ∧ ((∀ k : Nat, k < a0 → Fz 27 k = Fn 27 k)) ∧ (LDI kk rr aa LL oo v0 cz In Fz)) → va_P D vwCl (wM cI cB cZ g cz In Fz) H → va_D A (wM cI cB cZ g cz In Fz) → va_S A s.heap H locs → ∀ ls : Array Slot, lv_has ls 3 [(0, .ref (g 100)), (1, .int v0)] → W p l e (RM 1 0 0) s m ([.ref (g 100), .int v0]).toArray below meth c H locs 0 0 (MQ below (va_Qv (fun (u : (Nat → Nat) × (Nat → Int32) × (Nat → Nat → Int32)) => (fun c2 I2 F2 => Fr [24] [] [27] cn In Fn c2 I2 F2 ∧ IM c2 F2 ∧ (((PBk (c2 19) (c2 20) (c2 23) (c2 24) (F2 27) (F2 28) a0 1 s0) ∧ (CK (c2 24) (F2 28)) ∧ (∀ k : Nat, k < a0 → F2 27 k = Fn 27 k) ∧ (¬ (v0 : Int32) = 0 → ¬ (11 ≤ kd (F2 28 (c2 24 - 1)) ∧ kd (F2 28 (c2 24 - 1)) ≤ 12))) ∧ (((v0 : Int32) = 0 → RK kk ((rr, none, 0) :: LL) (aimO oo aa) c2 I2 F2) ∧ (¬ (v0 : Int32) = 0 → RK kk ((none, none, 0) :: LL) (aimO (aimO oo aa) rr) c2 I2 F2)))) u.1 u.2.1 u.2.2) (fun (u : (Nat → Nat) × (Nat → Int32) × (Nat → Nat → Int32)) (t : State) => va_P D vwCl (wM cI cB cZ g u.1 u.2.1 u.2.2) t.heap ∧ va_D A (wM cI cB cZ g u.1 u.2.1 u.2.2)) A) ([.ref (g 100), .int v0]).toArray s 0 0 A) (F0 m 0 ls []) := by
    intro n0
    induction n0 with
    | zero => intros; (first | omega | (have zz0 := Hid.u hi_cn; omega))
    | succ n0 ih0 =>
      intro  cz Fz H locs hmu0 hinv0 hP hD hS ls hl
      obtain ⟨hfr0, hI0, hx0_0, hx0_1, hx0_2, hx0_3⟩ := hinv0
      have hi_cz : Hid (CB cz) := hI0.b
      have : cz 19 = cn 19 := hfr0.1 19 (nml rfl)
      have : cz 20 = cn 20 := hfr0.1 20 (nml rfl)
      have : cz 23 = cn 23 := hfr0.1 23 (nml rfl)
      have : cz 25 = cn 25 := hfr0.1 25 (nml rfl)
      have hq_cz := Hid.i (frq_24_0_1_2_46_57_58_62_63_75_83_44 hfr0)
      have hf0 := hx0_0.f
      have hc0 := hx0_1.1
      refine lv_aload_n hx hb (oc_42 0 shX12_lands_0) rfl (lvA0 hl) ?_
      refine vp_callSi (runV_ra (As := []) (rest := []) S (q_top l D cI cB cZ g cz In Fz  hI0 hx0_0.w (by (first | omega | (have zz0 := Hid.u hi_cn; have zz1 := Hid.u hi_cz; have zz2 := Hid.u hq_cz; omega)))) kV_RX12_267 hK hP 0 rfl rfl rfl ⟨Nat.le_of_ble_eq_true rfl, Nat.le_of_ble_eq_true rfl⟩ ⟨Nat.le_of_ble_eq_true rfl, Nat.le_of_ble_eq_true rfl⟩ rfl hl.1 rfl (Nat.le_of_ble_eq_true rfl) (oc_182 1 (aq_1 shX12_lands_0) uw_1_11)) (fun r_1 h_2 => ?_)
      refine lv_bipush (v := 11) hx hb (oc_16 4 (aq_4 shX12_lands_0) sgb_11) kbc_11 ?_
      refine lv_icmp_eq (tgt := 22) hx hb (oc_159 6 (aq_6 shX12_lands_0) sgw_0_16) rfl (fun c_3 => ?_) (fun c_3 => ?_)
      ·
        have tc_3 : (r_1.toInt : Int) = 11 := congrArg Int32.toInt c_3
        refine lv_aload_n hx hb dX12_lands_22 rfl (lvA0 hl) ?_
        refine gM_59 S hK hP (v := .ref (g 28)) rfl dX12_lands_23 ?_
        refine lv_aload_n hx hb dX12_lands_26 rfl (lvA0 hl) ?_
        refine gM_264 S hK hP (v := .int (nI (cz 24))) rfl dX12_lands_27 ?_
        refine lv_iconst (v := 1) hx hb dX12_lands_30 kic_1 ?_
        refine lv_isub hx hb dX12_lands_31 ?_
        refine lv_topi (fun y_4 ey_4 => ?_)
        obtain rfl : y_4 = (nI (cz 24 - 1)) := ey_4.trans (nI_sub (b := 1) (by (first | omega | (have zz0 := Hid.u hi_cn; have zz1 := Hid.u hi_cz; have zz2 := Hid.u hq_cz; omega))))
        have kb_1 : (cz 24 - 1) < 180 := by (first | omega | (have zz0 := Hid.u hi_cn; have zz1 := Hid.u hi_cz; have zz2 := Hid.u hq_cz; omega))
        refine ldM_28 hx hb hK hP (x := ((Fz 28) (cz 24 - 1))) (vp_in_nI kb_1 (ltb rfl)) (nI_clamp (Nat.lt_trans kb_1 (ltb rfl))) rfl dX12_lands_32 ?_
        refine lv_ldcw (v := 1048576) hx hb hown (S.2.2.2.2 _ (wk7_17 11 rfl rfl)) dX12_lands_33 ?_
        refine lv_irem hx hb dX12_lands_36 (by decide) ?_
        refine lv_topi (fun y_5 ey_5 => ?_)
        obtain rfl : y_5 = (nI (vl (Fz 28 (cz 24 - 1)))) := ey_5.trans (WKk.rem (hx0_0.w _ (by (first | omega | (have zz0 := Hid.u hi_cn; have zz1 := Hid.u hi_cz; have zz2 := Hid.u hq_cz; omega)))))
        refine lv_istore_n (lv' := [(2, .int (nI (vl (Fz 28 (cz 24 - 1))))), (0, .ref (g 100)), (1, .int v0)]) hx hb dX12_lands_37 rfl hl (ltb rfl) rfl (fun ls hl => ?_)
        obtain ⟨op, y, hop, hy, hva, hvc, hC⟩ := PBk.jo' hx0_0 (by (first | omega | (have zz0 := Hid.u hi_cn; have zz1 := Hid.u hi_cz; have zz2 := Hid.u hq_cz; omega))) (by (first | omega | (have zz0 := Hid.u hi_cn; have zz1 := Hid.u hi_cz; have zz2 := Hid.u hq_cz; omega))) (by (first | omega | (have zz0 := Hid.u hi_cn; have zz1 := Hid.u hi_cz; have zz2 := Hid.u hq_cz; omega)))
        refine lv_aload_n hx hb dX12_lands_38 rfl (lvA1 hl) ?_
        refine gM_56 S hK hP (v := .ref (g 27)) rfl dX12_lands_39 ?_
        refine lv_iload_n hx hb dX12_lands_42 rfl (lvA0 hl) ?_
        refine lv_ldcw (v := 1048576) hx hb hown (S.2.2.2.2 _ (wk7_17 11 rfl rfl)) dX12_lands_43 ?_
        refine lv_aload_n hx hb dX12_lands_46 rfl (lvA1 hl) ?_
        refine gM_56 S hK hP (v := .ref (g 27)) rfl dX12_lands_47 ?_
        refine lv_iload_n hx hb dX12_lands_50 rfl (lvA0 hl) ?_
        have kb_2 : (vl (Fz 28 (cz 24 - 1))) < 180 := by (first | omega | (have zz0 := Hid.u hi_cn; have zz1 := Hid.u hi_cz; have zz2 := Hid.u hq_cz; omega))
        refine ldM_27 hx hb hK hP (x := ((Fz 27) (vl (Fz 28 (cz 24 - 1))))) (vp_in_nI kb_2 (ltb rfl)) (nI_clamp (Nat.lt_trans kb_2 (ltb rfl))) rfl dX12_lands_51 ?_
        refine lv_topi (fun y_6 ey_6 => ?_)
        obtain rfl : y_6 = (nI (op * 1048576 + y)) := ey_6.trans hC
        refine lv_ldcw (v := 1048576) hx hb hown (S.2.2.2.2 _ (wk7_17 11 rfl rfl)) dX12_lands_52 ?_
        refine lv_idiv hx hb dX12_lands_55 (by decide) ?_
        refine lv_topi (fun y_7 ey_7 => ?_)
        obtain rfl : y_7 = (nI op) := ey_7.trans ((nI_div (b := 1048576) (by (first | omega | (have zz0 := Hid.u hi_cn; have zz1 := Hid.u hi_cz; have zz2 := Hid.u hq_cz; omega))) (by decide)).trans (congrArg nI (by (first | omega | (have zz0 := Hid.u hi_cn; have zz1 := Hid.u hi_cz; have zz2 := Hid.u hq_cz; omega)))))
        refine lv_imul hx hb dX12_lands_56 ?_
        refine lv_topi (fun y_8 ey_8 => ?_)
        obtain rfl : y_8 = (nI (1048576 * op)) := ey_8.trans (pk_mul 1048576 op)
        refine lv_aload_n hx hb dX12_lands_57 rfl (lvA1 hl) ?_
        refine gM_257 S hK hP (v := .int (nI (cz 23))) rfl dX12_lands_58 ?_
        refine lv_iadd hx hb dX12_lands_61 ?_
        refine lv_topi (fun y_9 ey_9 => ?_)
        obtain rfl : y_9 = (nI ((1048576 * op) + (cz 23))) := ey_9.trans (nI_add (1048576 * op) (cz 23))
        refine stM_27 hx hb hK hP hD hS (Fn2 := (va_up Fz 27 (upd (Fz 27) (vl (Fz 28 (cz 24 - 1))) (nI ((1048576 * op) + (cz 23)))))) (vp_in_nI kb_2 (ltb rfl)) (nI_clamp (Nat.lt_trans kb_2 (ltb rfl))) rfl dX12_lands_62 (fun H locs hP hD hS => ?_)
        refine lv_aload_n hx hb dX12_lands_63 rfl (lvA1 hl) ?_
        refine lv_aload_n hx hb dX12_lands_64 rfl (lvA1 hl) ?_
        refine gM_264 S hK hP (v := .int (nI (cz 24))) rfl dX12_lands_65 ?_
        refine lv_iconst (v := 1) hx hb dX12_lands_68 kic_1 ?_
        refine lv_isub hx hb dX12_lands_69 ?_
        refine lv_topi (fun y_10 ey_10 => ?_)
        obtain rfl : y_10 = (nI (cz 24 - 1)) := ey_10.trans (nI_sub (b := 1) (by (first | omega | (have zz0 := Hid.u hi_cn; have zz1 := Hid.u hi_cz; have zz2 := Hid.u hq_cz; omega))))
        refine pM_264 S hK hP hD hS (a := (cz 24 - 1)) (cn2 := (va_up cz 24 (cz 24 - 1))) rfl rfl dX12_lands_70 (fun H locs hP hD hS => ?_)
        refine lv_goto (tgt := 0) hx hb dX12_lands_73 rfl ?_
        exact ih0  (va_up cz 24 (cz 24 - 1)) (va_up Fz 27 (upd (Fz 27) (vl (Fz 28 (cz 24 - 1))) (nI ((1048576 * op) + (cz 23))))) _ _ (show (cz 24 - 1) < n0 by (first | omega | (have zz0 := Hid.u hi_cn; have zz1 := Hid.u hi_cz; have zz2 := Hid.u hq_cz; omega))) ⟨(Fr.mo (Fr.f 27 (Fr.c 24 hfr0)) (sbl rfl) (sbl rfl) (sbl rfl)), (IM.fr (In := In) hI0 (Fr.f 27 (Fr.c 24 Fr.rf)) (by decide) (by decide)), (by have q := PBk.land' hx0_0 (by (first | omega | (have zz0 := Hid.u hi_cn; have zz1 := Hid.u hi_cz; have zz2 := Hid.u hq_cz; omega))) (by (first | omega | (have zz0 := Hid.u hi_cn; have zz1 := Hid.u hi_cz; have zz2 := Hid.u hq_cz; omega))) (by (first | omega | (have zz0 := Hid.u hi_cn; have zz1 := Hid.u hi_cz; have zz2 := Hid.u hq_cz; omega))) hop; exact q), (by have q := CK.pop' hx0_1 (by (first | omega | (have zz0 := Hid.u hi_cn; have zz1 := Hid.u hi_cz; have zz2 := Hid.u hq_cz; omega))); exact q), (fun k hk => (upd_nq (by (first | omega | (have zz0 := Hid.u hi_cn; have zz1 := Hid.u hi_cz; have zz2 := Hid.u hq_cz; omega)))).trans (hx0_2 k hk)), (LDI.step hx0_3 (by first | exact Or.inl (by (first | omega | (have zz0 := Hid.u hi_cn; have zz1 := Hid.u hi_cz; have zz2 := Hid.u hq_cz; omega))) | exact Or.inr ⟨by (first | omega | (have zz0 := Hid.u hi_cn; have zz1 := Hid.u hi_cz; have zz2 := Hid.u hq_cz; omega)), by assumption⟩) (by (first | omega | (have zz0 := Hid.u hi_cn; have zz1 := Hid.u hi_cz; have zz2 := Hid.u hq_cz; omega))) hvc hC hy (by (first | omega | (have zz0 := Hid.u hi_cn; have zz1 := Hid.u hi_cz; have zz2 := Hid.u hq_cz; omega))) rfl rfl rfl rfl rfl)⟩ hP hD hS ls (lv_sub hl [1, 2] rfl)
      ·
        have tc_3 : (r_1.toInt : Int) ≠ 11 := fun q => c_3 (Int32.toInt_inj.mp q)
        refine lv_iload_n hx hb (oc_27 9 (aq_9 shX12_lands_0)) rfl (lvA1 hl) ?_
        refine lv_if_eq (tgt := 76) hx hb (oc_153 10 (aq_10 shX12_lands_0) sgw_0_66) rfl (fun c_11 => ?_) (fun c_11 => ?_)
        ·
          have tc_11 : (v0.toInt : Int) = 0 := congrArg Int32.toInt c_11
          exact W.vret hx hb hr (fun t ht hW => ⟨⟨(cz, In, Fz), rfl, ⟨(Fr.mo hfr0 (sbl rfl) (sbl rfl) (sbl rfl)), hI0, (by show ((PBk (cz 19) (cz 20) (cz 23) (cz 24) (Fz 27) (Fz 28) a0 1 s0) ∧ (CK (cz 24) (Fz 28)) ∧ (∀ k : Nat, k < a0 → Fz 27 k = Fn 27 k) ∧ (¬ (v0 : Int32) = 0 → ¬ (11 ≤ kd (Fz 28 (cz 24 - 1)) ∧ kd (Fz 28 (cz 24 - 1)) ≤ 12))) ∧ (((v0 : Int32) = 0 → RK kk ((rr, none, 0) :: LL) (aimO oo aa) cz In Fz) ∧ (¬ (v0 : Int32) = 0 → RK kk ((none, none, 0) :: LL) (aimO (aimO oo aa) rr) cz In Fz)); exact ⟨(by exact ⟨hx0_0, hx0_1, hx0_2, fun hz => by first | (first | omega | (have zz0 := Hid.u hi_cn; have zz1 := Hid.u hi_cz; have zz2 := Hid.u hq_cz; omega)) | exact absurd (by assumption) hz⟩), LDI.fin hx0_3 (by (first | omega | (have zz0 := Hid.u hi_cn; have zz1 := Hid.u hi_cz; have zz2 := Hid.u hq_cz; omega))) (fun hz => by first | (first | omega | (have zz0 := Hid.u hi_cn; have zz1 := Hid.u hi_cz; have zz2 := Hid.u hq_cz; omega)) | exact absurd (by assumption) hz)⟩)⟩, by rw [ht]; exact hP, hD⟩, hS.F ht⟩) hS.2.2 dX12_lands_76
        ·
          have tc_11 : (v0.toInt : Int) ≠ 0 := fun q => c_11 (Int32.toInt_inj.mp q)
          refine lv_aload_n hx hb (oc_42 13 (aq_13 shX12_lands_0)) rfl (lvA0 hl) ?_
          refine vp_callSi (runV_ra (As := []) (rest := []) S (q_top l D cI cB cZ g cz In Fz  hI0 hx0_0.w (by (first | omega | (have zz0 := Hid.u hi_cn; have zz1 := Hid.u hi_cz; have zz2 := Hid.u hq_cz; omega)))) kV_RX12_267 hK hP 0 rfl rfl rfl ⟨Nat.le_of_ble_eq_true rfl, Nat.le_of_ble_eq_true rfl⟩ ⟨Nat.le_of_ble_eq_true rfl, Nat.le_of_ble_eq_true rfl⟩ rfl hl.1 rfl (Nat.le_of_ble_eq_true rfl) (oc_182 14 (aq_14 shX12_lands_0) uw_1_11)) (fun r_12 h_13 => ?_)
          refine lv_bipush (v := 12) hx hb (oc_16 17 (aq_17 shX12_lands_0) sgb_12) kbc_12 ?_
          refine lv_icmp_ne (tgt := 76) hx hb (oc_160 19 (aq_19 shX12_lands_0) sgw_0_57) rfl (fun c_14 => ?_) (fun c_14 => ?_)
          ·
            have tc_14 : (r_12.toInt : Int) ≠ 12 := fun q => c_14 (Int32.toInt_inj.mp q)
            exact W.vret hx hb hr (fun t ht hW => ⟨⟨(cz, In, Fz), rfl, ⟨(Fr.mo hfr0 (sbl rfl) (sbl rfl) (sbl rfl)), hI0, (by show ((PBk (cz 19) (cz 20) (cz 23) (cz 24) (Fz 27) (Fz 28) a0 1 s0) ∧ (CK (cz 24) (Fz 28)) ∧ (∀ k : Nat, k < a0 → Fz 27 k = Fn 27 k) ∧ (¬ (v0 : Int32) = 0 → ¬ (11 ≤ kd (Fz 28 (cz 24 - 1)) ∧ kd (Fz 28 (cz 24 - 1)) ≤ 12))) ∧ (((v0 : Int32) = 0 → RK kk ((rr, none, 0) :: LL) (aimO oo aa) cz In Fz) ∧ (¬ (v0 : Int32) = 0 → RK kk ((none, none, 0) :: LL) (aimO (aimO oo aa) rr) cz In Fz)); exact ⟨(by exact ⟨hx0_0, hx0_1, hx0_2, fun hz => by first | (first | omega | (have zz0 := Hid.u hi_cn; have zz1 := Hid.u hi_cz; have zz2 := Hid.u hq_cz; omega)) | exact absurd (by assumption) hz⟩), LDI.fin hx0_3 (by (first | omega | (have zz0 := Hid.u hi_cn; have zz1 := Hid.u hi_cz; have zz2 := Hid.u hq_cz; omega))) (fun hz => by first | (first | omega | (have zz0 := Hid.u hi_cn; have zz1 := Hid.u hi_cz; have zz2 := Hid.u hq_cz; omega)) | exact absurd (by assumption) hz)⟩)⟩, by rw [ht]; exact hP, hD⟩, hS.F ht⟩) hS.2.2 dX12_lands_76
          ·
            have tc_14 : (r_12.toInt : Int) = 12 := congrArg Int32.toInt c_14
            refine lv_aload_n hx hb dX12_lands_22 rfl (lvA0 hl) ?_
            refine gM_59 S hK hP (v := .ref (g 28)) rfl dX12_lands_23 ?_
            refine lv_aload_n hx hb dX12_lands_26 rfl (lvA0 hl) ?_
            refine gM_264 S hK hP (v := .int (nI (cz 24))) rfl dX12_lands_27 ?_
            refine lv_iconst (v := 1) hx hb dX12_lands_30 kic_1 ?_
            refine lv_isub hx hb dX12_lands_31 ?_
            refine lv_topi (fun y_15 ey_15 => ?_)
            obtain rfl : y_15 = (nI (cz 24 - 1)) := ey_15.trans (nI_sub (b := 1) (by (first | omega | (have zz0 := Hid.u hi_cn; have zz1 := Hid.u hi_cz; have zz2 := Hid.u hq_cz; omega))))
            have kb_3 : (cz 24 - 1) < 180 := by (first | omega | (have zz0 := Hid.u hi_cn; have zz1 := Hid.u hi_cz; have zz2 := Hid.u hq_cz; omega))
            refine ldM_28 hx hb hK hP (x := ((Fz 28) (cz 24 - 1))) (vp_in_nI kb_3 (ltb rfl)) (nI_clamp (Nat.lt_trans kb_3 (ltb rfl))) rfl dX12_lands_32 ?_
            refine lv_ldcw (v := 1048576) hx hb hown (S.2.2.2.2 _ (wk7_17 11 rfl rfl)) dX12_lands_33 ?_
            refine lv_irem hx hb dX12_lands_36 (by decide) ?_
            refine lv_topi (fun y_16 ey_16 => ?_)
            obtain rfl : y_16 = (nI (vl (Fz 28 (cz 24 - 1)))) := ey_16.trans (WKk.rem (hx0_0.w _ (by (first | omega | (have zz0 := Hid.u hi_cn; have zz1 := Hid.u hi_cz; have zz2 := Hid.u hq_cz; omega)))))
            refine lv_istore_n (lv' := [(2, .int (nI (vl (Fz 28 (cz 24 - 1))))), (0, .ref (g 100)), (1, .int v0)]) hx hb dX12_lands_37 rfl hl (ltb rfl) rfl (fun ls hl => ?_)
            obtain ⟨op, y, hop, hy, hva, hvc, hC⟩ := PBk.jo' hx0_0 (by (first | omega | (have zz0 := Hid.u hi_cn; have zz1 := Hid.u hi_cz; have zz2 := Hid.u hq_cz; omega))) (by (first | omega | (have zz0 := Hid.u hi_cn; have zz1 := Hid.u hi_cz; have zz2 := Hid.u hq_cz; omega))) (by (first | omega | (have zz0 := Hid.u hi_cn; have zz1 := Hid.u hi_cz; have zz2 := Hid.u hq_cz; omega)))
            refine lv_aload_n hx hb dX12_lands_38 rfl (lvA1 hl) ?_
            refine gM_56 S hK hP (v := .ref (g 27)) rfl dX12_lands_39 ?_
            refine lv_iload_n hx hb dX12_lands_42 rfl (lvA0 hl) ?_
            refine lv_ldcw (v := 1048576) hx hb hown (S.2.2.2.2 _ (wk7_17 11 rfl rfl)) dX12_lands_43 ?_
            refine lv_aload_n hx hb dX12_lands_46 rfl (lvA1 hl) ?_
            refine gM_56 S hK hP (v := .ref (g 27)) rfl dX12_lands_47 ?_
            refine lv_iload_n hx hb dX12_lands_50 rfl (lvA0 hl) ?_
            have kb_4 : (vl (Fz 28 (cz 24 - 1))) < 180 := by (first | omega | (have zz0 := Hid.u hi_cn; have zz1 := Hid.u hi_cz; have zz2 := Hid.u hq_cz; omega))
            refine ldM_27 hx hb hK hP (x := ((Fz 27) (vl (Fz 28 (cz 24 - 1))))) (vp_in_nI kb_4 (ltb rfl)) (nI_clamp (Nat.lt_trans kb_4 (ltb rfl))) rfl dX12_lands_51 ?_
            refine lv_topi (fun y_17 ey_17 => ?_)
            obtain rfl : y_17 = (nI (op * 1048576 + y)) := ey_17.trans hC
            refine lv_ldcw (v := 1048576) hx hb hown (S.2.2.2.2 _ (wk7_17 11 rfl rfl)) dX12_lands_52 ?_
            refine lv_idiv hx hb dX12_lands_55 (by decide) ?_
            refine lv_topi (fun y_18 ey_18 => ?_)
            obtain rfl : y_18 = (nI op) := ey_18.trans ((nI_div (b := 1048576) (by (first | omega | (have zz0 := Hid.u hi_cn; have zz1 := Hid.u hi_cz; have zz2 := Hid.u hq_cz; omega))) (by decide)).trans (congrArg nI (by (first | omega | (have zz0 := Hid.u hi_cn; have zz1 := Hid.u hi_cz; have zz2 := Hid.u hq_cz; omega)))))
            refine lv_imul hx hb dX12_lands_56 ?_
            refine lv_topi (fun y_19 ey_19 => ?_)
            obtain rfl : y_19 = (nI (1048576 * op)) := ey_19.trans (pk_mul 1048576 op)
            refine lv_aload_n hx hb dX12_lands_57 rfl (lvA1 hl) ?_
            refine gM_257 S hK hP (v := .int (nI (cz 23))) rfl dX12_lands_58 ?_
            refine lv_iadd hx hb dX12_lands_61 ?_
            refine lv_topi (fun y_20 ey_20 => ?_)
            obtain rfl : y_20 = (nI ((1048576 * op) + (cz 23))) := ey_20.trans (nI_add (1048576 * op) (cz 23))
            refine stM_27 hx hb hK hP hD hS (Fn2 := (va_up Fz 27 (upd (Fz 27) (vl (Fz 28 (cz 24 - 1))) (nI ((1048576 * op) + (cz 23)))))) (vp_in_nI kb_4 (ltb rfl)) (nI_clamp (Nat.lt_trans kb_4 (ltb rfl))) rfl dX12_lands_62 (fun H locs hP hD hS => ?_)
            refine lv_aload_n hx hb dX12_lands_63 rfl (lvA1 hl) ?_
            refine lv_aload_n hx hb dX12_lands_64 rfl (lvA1 hl) ?_
            refine gM_264 S hK hP (v := .int (nI (cz 24))) rfl dX12_lands_65 ?_
            refine lv_iconst (v := 1) hx hb dX12_lands_68 kic_1 ?_
            refine lv_isub hx hb dX12_lands_69 ?_
            refine lv_topi (fun y_21 ey_21 => ?_)
            obtain rfl : y_21 = (nI (cz 24 - 1)) := ey_21.trans (nI_sub (b := 1) (by (first | omega | (have zz0 := Hid.u hi_cn; have zz1 := Hid.u hi_cz; have zz2 := Hid.u hq_cz; omega))))
            refine pM_264 S hK hP hD hS (a := (cz 24 - 1)) (cn2 := (va_up cz 24 (cz 24 - 1))) rfl rfl dX12_lands_70 (fun H locs hP hD hS => ?_)
            refine lv_goto (tgt := 0) hx hb dX12_lands_73 rfl ?_
            exact ih0  (va_up cz 24 (cz 24 - 1)) (va_up Fz 27 (upd (Fz 27) (vl (Fz 28 (cz 24 - 1))) (nI ((1048576 * op) + (cz 23))))) _ _ (show (cz 24 - 1) < n0 by (first | omega | (have zz0 := Hid.u hi_cn; have zz1 := Hid.u hi_cz; have zz2 := Hid.u hq_cz; omega))) ⟨(Fr.mo (Fr.f 27 (Fr.c 24 hfr0)) (sbl rfl) (sbl rfl) (sbl rfl)), (IM.fr (In := In) hI0 (Fr.f 27 (Fr.c 24 Fr.rf)) (by decide) (by decide)), (by have q := PBk.land' hx0_0 (by (first | omega | (have zz0 := Hid.u hi_cn; have zz1 := Hid.u hi_cz; have zz2 := Hid.u hq_cz; omega))) (by (first | omega | (have zz0 := Hid.u hi_cn; have zz1 := Hid.u hi_cz; have zz2 := Hid.u hq_cz; omega))) (by (first | omega | (have zz0 := Hid.u hi_cn; have zz1 := Hid.u hi_cz; have zz2 := Hid.u hq_cz; omega))) hop; exact q), (by have q := CK.pop' hx0_1 (by (first | omega | (have zz0 := Hid.u hi_cn; have zz1 := Hid.u hi_cz; have zz2 := Hid.u hq_cz; omega))); exact q), (fun k hk => (upd_nq (by (first | omega | (have zz0 := Hid.u hi_cn; have zz1 := Hid.u hi_cz; have zz2 := Hid.u hq_cz; omega)))).trans (hx0_2 k hk)), (LDI.step hx0_3 (by first | exact Or.inl (by (first | omega | (have zz0 := Hid.u hi_cn; have zz1 := Hid.u hi_cz; have zz2 := Hid.u hq_cz; omega))) | exact Or.inr ⟨by (first | omega | (have zz0 := Hid.u hi_cn; have zz1 := Hid.u hi_cz; have zz2 := Hid.u hq_cz; omega)), by assumption⟩) (by (first | omega | (have zz0 := Hid.u hi_cn; have zz1 := Hid.u hi_cz; have zz2 := Hid.u hq_cz; omega))) hvc hC hy (by (first | omega | (have zz0 := Hid.u hi_cn; have zz1 := Hid.u hi_cz; have zz2 := Hid.u hq_cz; omega))) rfl rfl rfl rfl rfl)⟩ hP hD hS ls (lv_sub hl [1, 2] rfl)
  exact lp_0 _  cn Fn _ _ (Nat.lt_succ_self _) ⟨(Fr.mo Fr.rf (sbl rfl) (sbl rfl) (sbl rfl)), hI, hPS, hC, (fun k hk => rfl), (LDI.start hrk)⟩ hP hD hS ls (lv_sub hl [0, 1] rfl)
set_option maxRecDepth 100000 in
set_option maxHeartbeats 4000000 in
theorem q_readsCompared9 (l : Launch) (D : va_G) (cI cB cZ : ClassId) (g : Nat → Nat) (cn : Nat → Nat) (In : Nat → Int32) (Fn : Nat → Nat → Int32) (a0 s0 : Nat) (bb : Nat → Int32) (nn : Nat) (kk : Nat) (rr aa : Option Nat) (mm : Nat) (LL : CevT) (oo : OutT) (sz : Nat) (hI : IM cn Fn) (hPS : PBk (cn 19) (cn 20) (cn 23) (cn 24) (Fn 27) (Fn 28) a0 0 s0) (hC : CK (cn 24) (Fn 28)) (heb : bbM Fn = bb) (hnn : cn 20 = nn) (hrk : RK kk ((rr, aa, mm) :: LL) oo cn In Fn) : Met l yX12_readsCompared (CWS yX12_readsCompared cX12_readsCompared 2 (some .boolean)) (RM 5 0 0) (PBw [.ref (g 100)] D cI cB cZ (wM cI cB cZ g cn In Fn) sz) (va_Qi (fun (r : Int32) (u : (Nat → Nat) × (Nat → Int32) × (Nat → Nat → Int32)) => (fun r c2 I2 F2 => Fr [19, 23, 24, 26] [21, 22] [27, 28] cn In Fn c2 I2 F2 ∧ IM c2 F2 ∧ (((r : Int32) = 0 ∨ (r = 1 ∧ PBk (c2 19) (c2 20) (c2 23) (c2 24) (F2 27) (F2 28) a0 1 s0 ∧ CK (c2 24) (F2 28) ∧ (∀ k : Nat, k < a0 → F2 27 k = Fn 27 k) ∧ cn 19 < c2 19)) ∧ (((r : Int32) = 0 → ∃ e9 : Nat, cmpK bb nn kk (cn 19) oo = .error e9 ∧ FLT I2 e9) ∧ ((r : Int32) = 1 → ∃ uX : OutT, cmpK bb nn kk (cn 19) oo = .ok (c2 19, uX) ∧ RK (kk + mm) ((rr, aa, 0) :: LL) (uX ++ nots mm) c2 I2 F2)))) r u.1 u.2.1 u.2.2) (fun (u : (Nat → Nat) × (Nat → Int32) × (Nat → Nat → Int32)) (t : State) => va_P D vwCl (wM cI cB cZ g u.1 u.2.1 u.2.2) t.heap ∧ va_D (va_A (wM cI cB cZ g cn In Fn) sz) (wM cI cB cZ g u.1 u.2.1 u.2.2)) (va_A (wM cI cB cZ g cn In Fn) sz)) 0 0 (va_A (wM cI cB cZ g cn In Fn) sz) := by
  refine en_w (fun A => (va_Qi (fun (r : Int32) (u : (Nat → Nat) × (Nat → Int32) × (Nat → Nat → Int32)) => (fun (r : Int32) (c2 : Nat → Nat) (I2 : Nat → Int32) (F2 : Nat → Nat → Int32) => Fr [19, 23, 24, 26] [21, 22] [27, 28] cn In Fn c2 I2 F2 ∧ IM c2 F2 ∧ (((r : Int32) = 0 ∨ (r = 1 ∧ PBk (c2 19) (c2 20) (c2 23) (c2 24) (F2 27) (F2 28) a0 1 s0 ∧ CK (c2 24) (F2 28) ∧ (∀ k : Nat, k < a0 → F2 27 k = Fn 27 k) ∧ cn 19 < c2 19)) ∧ (((r : Int32) = 0 → ∃ e9 : Nat, cmpK bb nn kk (cn 19) oo = .error e9 ∧ FLT I2 e9) ∧ ((r : Int32) = 1 → ∃ uX : OutT, cmpK bb nn kk (cn 19) oo = .ok (c2 19, uX) ∧ RK (kk + mm) ((rr, aa, 0) :: LL) (uX ++ nots mm) c2 I2 F2)))) r u.1 u.2.1 u.2.2) (fun (u : (Nat → Nat) × (Nat → Int32) × (Nat → Nat → Int32)) (t : State) => va_P D vwCl (wM cI cB cZ g u.1 u.2.1 u.2.2) t.heap ∧ va_D A (wM cI cB cZ g u.1 u.2.1 u.2.2)) A)) rfl rfl pn_RX12 (Nat.le_of_ble_eq_true rfl) (fun p e s m below meth c A hx hb hml hown S hr hlocks hnm hA hP hK hD hS ls hl => ?_)
  have hl : lv_has ls 2 [(0, .ref (g 100))] := hl
  have hi_cn : Hid (CB cn) := hI.b
  have hf0 := hPS.f
  have hc0 := hC.1
  refine lv_aload_n hx hb (oc_42 0 shX12_readsCompared_0) rfl (lvA0 hl) ?_
  have hFc := free_all hD hS hA
  refine va_calli (runV_a (As := []) (rest := []) S (q_readsSum9 l D cI cB cZ g cn In Fn a0 0 s0 bb nn kk oo s.heap.size hI hPS (fun _ => hC.2.2 _ (by (first | omega | (have zz0 := Hid.u hi_cn; omega)))) heb (show cn 20 = nn by (first | omega | (have zz0 := Hid.u hi_cn; omega))) hrk.rs) kV_RX12_297 hK hP hD 0 rfl rfl rfl ⟨Nat.le_of_ble_eq_true rfl, Nat.le_of_ble_eq_true rfl⟩ ⟨Nat.le_of_ble_eq_true rfl, Nat.le_of_ble_eq_true rfl⟩ rfl hl.1 rfl (Nat.le_of_ble_eq_true rfl) (oc_182 1 (aq_1 shX12_readsCompared_0) uw_1_41)) hS (fun q _ h => hFc q h) hFc (fun r_1 u t H1 locs ht hvm wh_2 hB hz1 hk1 hS => ?_)
  obtain ⟨cn2, In2, Fn2⟩ := u
  obtain ⟨hP1, hD1⟩ := hB
  rw [ht] at hP1
  have hP : va_P D vwCl (wM cI cB cZ g cn2 In2 Fn2) H1 := hP1
  have hD : va_D A (wM cI cB cZ g cn2 In2 Fn2) := hD1.weaken (fun _ _ _ h => hFc _ h)
  generalize H1 = H at hP hS ⊢
  have vh_2 : (fun r c2 I2 F2 => Fr [19, 23, 24, 26] [21, 22] [27, 28] cn In Fn c2 I2 F2 ∧ IM c2 F2 ∧ (((r : Int32) = 0 ∨ (r = 1 ∧ PBk (c2 19) (c2 20) (c2 23) (c2 24) (F2 27) (F2 28) a0 (0 + 1) s0 ∧ c2 24 = (cn 24) ∧ (∀ k : Nat, k < a0 → F2 27 k = (Fn 27) k) ∧ (∀ i : Nat, i < (cn 24) → F2 28 i = (Fn 28) i) ∧ (cn 19) < c2 19)) ∧ (((r : Int32) = 0 → ∃ e9 : Nat, sm1 bb nn (smK bb nn kk) ((cn 19)) oo = .error e9 ∧ FLT I2 e9) ∧ ((r : Int32) = 1 → ∃ uX : OutT, sm1 bb nn (smK bb nn kk) ((cn 19)) oo = .ok (c2 19, uX) ∧ RS kk uX c2 I2 F2)))) r_1 cn2 In2 Fn2 := wh_2
  obtain ⟨hfc2, hIn2, h_2⟩ := vh_2
  have hf2 : Fr [19, 23, 24, 26] [21, 22] [27, 28] cn In Fn cn2 In2 Fn2 := Fr.mo (Fr.tr (Fr.rf (cn := cn) (In := In) (Fn := Fn)) hfc2) (sbl rfl) (sbl rfl) (sbl rfl)
  have hi_cn2 : Hid (CB cn2) := hIn2.b
  have : cn2 20 = cn 20 := hf2.1 20 (nml rfl)
  have : cn2 25 = cn 25 := hf2.1 25 (nml rfl)
  have hq_cn2 := Hid.i (frq_19_23_24_26_0_1_2_46_57_58_62_63_75_83_44 hf2)
  have : cn2 20 = (cn 20) := hfc2.1 20 (nml rfl)
  have : cn2 25 = (cn 25) := hfc2.1 25 (nml rfl)
  obtain ⟨h_2, Nh_2⟩ := h_2
  rcases h_2 with rfl | ⟨rfl, kh_2⟩
  ·
    refine lv_if_ne (tgt := 9) hx hb dX12_readsCompared_4 rfl (fun h => absurd h cq_eq_0_0) (fun _ => ?_)
    refine lv_iconst (v := 0) hx hb (oc_3 7 (aq_7 shX12_readsCompared_0)) kic_0 ?_
    exact W.zret (v := 0) hx hb hr rfl (fun t ht hW => ⟨⟨0, (cn2, In2, Fn2), rfl, ⟨(Fr.mo hf2 (sbl rfl) (sbl rfl) (sbl rfl)), hIn2, (by show ((0 : Int32) = 0 ∨ (0 = 1 ∧ PBk (cn2 19) (cn2 20) (cn2 23) (cn2 24) (Fn2 27) (Fn2 28) a0 1 s0 ∧ CK (cn2 24) (Fn2 28) ∧ (∀ k : Nat, k < a0 → Fn2 27 k = Fn 27 k) ∧ cn 19 < cn2 19)) ∧ (((0 : Int32) = 0 → ∃ e9 : Nat, cmpK bb nn kk (cn 19) oo = .error e9 ∧ FLT In2 e9) ∧ ((0 : Int32) = 1 → ∃ uX : OutT, cmpK bb nn kk (cn 19) oo = .ok (cn2 19, uX) ∧ RK (kk + mm) ((rr, aa, 0) :: LL) (uX ++ nots mm) cn2 In2 Fn2)); exact ⟨(by exact Or.inl rfl), ⟨fun _ => (by obtain ⟨e9, a9, f9⟩ := Nh_2.1 rfl; exact ⟨e9, cmp_e a9, f9⟩), (fun q => absurd q (by decide))⟩⟩)⟩, by rw [ht]; exact hP, hD⟩, hS.F ht⟩) hS.2.2 (oc_172 8 (aq_8 shX12_readsCompared_0))
  ·
    obtain ⟨kh_2a, kh_2e, kh_2b, kh_2c, kh_2d⟩ := kh_2
    have kh_2f := kh_2a.f
    refine lv_if_ne (tgt := 9) hx hb dX12_readsCompared_4 rfl (fun _ => ?_) (fun h => absurd h cq_eq_1_0)
    have hC1 : CK (cn2 24) (Fn2 28) := by rw [kh_2e]; exact CK.cg hC kh_2c
    have hC1w := hC1.1
    obtain ⟨o9, hs9, hr9⟩ := Nh_2.2 rfl
    have hrk1 := RK.re hrk hr9 kh_2e kh_2c
    refine lv_aload_n hx hb (oc_42 9 (aq_9 shX12_readsCompared_0)) rfl (lvA0 hl) ?_
    refine vp_callSi (runV_ra (As := []) (rest := []) S (q_here l D cI cB cZ g cn2 In2 Fn2  hIn2 (by (first | omega | (have zz0 := Hid.u hi_cn; have zz1 := Hid.u hi_cn2; have zz2 := Hid.u hq_cn2; omega))) (by (first | omega | (have zz0 := Hid.u hi_cn; have zz1 := Hid.u hi_cn2; have zz2 := Hid.u hq_cn2; omega)))) kV_RX12_239 hK hP 0 rfl rfl rfl ⟨Nat.le_of_ble_eq_true rfl, Nat.le_of_ble_eq_true rfl⟩ ⟨Nat.le_of_ble_eq_true rfl, Nat.le_of_ble_eq_true rfl⟩ rfl hl.1 rfl (Nat.le_of_ble_eq_true rfl) (oc_182 10 (aq_10 shX12_readsCompared_0) uw_0_239)) (fun r_3 h_4 => ?_)
    have hpk_4 : pk bb nn (cn2 19) = r_3 := (pk_here (c := cn2) (F := Fn2) (bbM_cg heb (hf2.2.2 17 (nml rfl))) (show cn2 20 = nn by (first | omega | (have zz0 := Hid.u hi_cn; have zz1 := Hid.u hi_cn2; have zz2 := Hid.u hq_cn2; omega)))).trans h_4.1.symm
    refine lv_bipush (v := 60) hx hb (oc_16 13 (aq_13 shX12_readsCompared_0) sgb_60) kbc_60 ?_
    refine lv_icmp_ne (tgt := 23) hx hb (oc_160 15 (aq_15 shX12_readsCompared_0) sgw_0_8) rfl (fun c_5 => ?_) (fun c_5 => ?_)
    ·
      have tc_5 : (r_3.toInt : Int) ≠ 60 := fun q => c_5 (Int32.toInt_inj.mp q)
      refine lv_aload_n hx hb (oc_42 23 (aq_23 shX12_readsCompared_0)) rfl (lvA0 hl) ?_
      refine vp_callSi (runV_ra (As := []) (rest := []) S (q_here l D cI cB cZ g cn2 In2 Fn2  hIn2 (by (first | omega | (have zz0 := Hid.u hi_cn; have zz1 := Hid.u hi_cn2; have zz2 := Hid.u hq_cn2; omega))) (by (first | omega | (have zz0 := Hid.u hi_cn; have zz1 := Hid.u hi_cn2; have zz2 := Hid.u hq_cn2; omega)))) kV_RX12_239 hK hP 0 rfl rfl rfl ⟨Nat.le_of_ble_eq_true rfl, Nat.le_of_ble_eq_true rfl⟩ ⟨Nat.le_of_ble_eq_true rfl, Nat.le_of_ble_eq_true rfl⟩ rfl hl.1 rfl (Nat.le_of_ble_eq_true rfl) (oc_182 24 shX12_readsCompared_24 uw_0_239)) (fun r_6 h_7 => ?_)
      have hpk_7 : pk bb nn (cn2 19) = r_6 := (pk_here (c := cn2) (F := Fn2) (bbM_cg heb (hf2.2.2 17 (nml rfl))) (show cn2 20 = nn by (first | omega | (have zz0 := Hid.u hi_cn; have zz1 := Hid.u hi_cn2; have zz2 := Hid.u hq_cn2; omega)))).trans h_7.1.symm
      refine lv_bipush (v := 62) hx hb (oc_16 27 (aq_3 shX12_readsCompared_24) sgb_62) kbc_62 ?_
      refine lv_icmp_ne (tgt := 37) hx hb (oc_160 29 (aq_5 shX12_readsCompared_24) sgw_0_8) rfl (fun c_8 => ?_) (fun c_8 => ?_)
      ·
        have tc_8 : (r_6.toInt : Int) ≠ 62 := fun q => c_8 (Int32.toInt_inj.mp q)
        refine lv_aload_n hx hb (oc_42 37 (aq_13 shX12_readsCompared_24)) rfl (lvA0 hl) ?_
        refine vp_callSi (runV_ra (As := []) (rest := []) S (q_here l D cI cB cZ g cn2 In2 Fn2  hIn2 (by (first | omega | (have zz0 := Hid.u hi_cn; have zz1 := Hid.u hi_cn2; have zz2 := Hid.u hq_cn2; omega))) (by (first | omega | (have zz0 := Hid.u hi_cn; have zz1 := Hid.u hi_cn2; have zz2 := Hid.u hq_cn2; omega)))) kV_RX12_239 hK hP 0 rfl rfl rfl ⟨Nat.le_of_ble_eq_true rfl, Nat.le_of_ble_eq_true rfl⟩ ⟨Nat.le_of_ble_eq_true rfl, Nat.le_of_ble_eq_true rfl⟩ rfl hl.1 rfl (Nat.le_of_ble_eq_true rfl) (oc_182 38 (aq_14 shX12_readsCompared_24) uw_0_239)) (fun r_9 h_10 => ?_)
        have hpk_10 : pk bb nn (cn2 19) = r_9 := (pk_here (c := cn2) (F := Fn2) (bbM_cg heb (hf2.2.2 17 (nml rfl))) (show cn2 20 = nn by (first | omega | (have zz0 := Hid.u hi_cn; have zz1 := Hid.u hi_cn2; have zz2 := Hid.u hq_cn2; omega)))).trans h_10.1.symm
        refine lv_bipush (v := 61) hx hb (oc_16 41 (aq_17 shX12_readsCompared_24) sgb_61) kbc_61 ?_
        refine lv_icmp_ne (tgt := 51) hx hb (oc_160 43 (aq_19 shX12_readsCompared_24) sgw_0_8) rfl (fun c_11 => ?_) (fun c_11 => ?_)
        ·
          have tc_11 : (r_9.toInt : Int) ≠ 61 := fun q => c_11 (Int32.toInt_inj.mp q)
          refine lv_iconst (v := (-1)) hx hb (oc_2 51 (aq_3 shX12_readsCompared_48)) kic_m1 ?_
          refine lv_istore_n (lv' := [(1, .int (-1)), (0, .ref (g 100))]) hx hb dX12_readsCompared_52 rfl hl (ltb rfl) rfl (fun ls hl => ?_)
          refine lv_iload_n hx hb dX12_readsCompared_53 rfl (lvA0 hl) ?_
          refine lv_iconst (v := (-1)) hx hb dX12_readsCompared_54 kic_m1 ?_
          refine lv_icmp_ne (tgt := 68) hx hb dX12_readsCompared_55 rfl (fun h => absurd h cq_eq_m1_m1) (fun _ => ?_)
          refine lv_aload_n hx hb (oc_42 58 (aq_10 shX12_readsCompared_48)) rfl (lvA1 hl) ?_
          refine lv_iconst (v := 1) hx hb (oc_4 59 (aq_11 shX12_readsCompared_48)) kic_1 ?_
          refine lv_aload_n hx hb (oc_42 60 (aq_12 shX12_readsCompared_48)) rfl (lvA1 hl) ?_
          refine gM_233 S hK hP (v := .int (nI (cn2 19))) rfl (oc_180 61 (aq_13 shX12_readsCompared_48) uw_0_233) ?_
          have hFc := free_all hD hS hA
          refine va_calli (runV_a (As := [.int 1, .int (nI (cn2 19))]) (rest := []) S (q_wrong9 l D cI cB cZ g cn2 In2 Fn2 1 (nI (cn2 19)) H.size hIn2) kV_RX12_246 hK hP hD 0 rfl rfl rfl ⟨Nat.le_of_ble_eq_true rfl, Nat.le_of_ble_eq_true rfl⟩ ⟨Nat.le_of_ble_eq_true rfl, Nat.le_of_ble_eq_true rfl⟩ rfl hl.1 rfl (Nat.le_of_ble_eq_true rfl) (oc_182 64 (aq_16 shX12_readsCompared_48) uw_0_246)) hS (fun q _ h => hFc q h) hFc (fun r_12 u t H1 locs ht hvm wh_13 hB hz1 hk1 hS => ?_)
          obtain ⟨cn13, In13, Fn13⟩ := u
          obtain ⟨hP1, hD1⟩ := hB
          rw [ht] at hP1
          have vh_13 : (fun r c2 I2 F2 => (∀ k : Nat, k ∉ [21] → I2 k = In2 k) ∧ ((r = 0 ∧ (I2 21 = (-1000) * 1 - (nI (cn2 19))) ∧ cn2 = c2 ∧ Fn2 = F2))) r_12 cn13 In13 Fn13 := wh_13
          obtain ⟨hI13_, vh_13⟩ := vh_13
          obtain ⟨rfl, h_13, rfl, rfl⟩ := vh_13
          have hf13 : Fr [19, 23, 24, 26] [21, 22] [27, 28] cn In Fn cn2 In13 Fn2 := Fr.mo (Fr.tr hf2 (show Fr [] [21] [] cn2 In2 Fn2 cn2 In13 Fn2 from ⟨fun _ _ => rfl, hI13_, fun _ _ => rfl⟩)) (sbl rfl) (sbl rfl) (sbl rfl)
          have hP : va_P D vwCl (wM cI cB cZ g cn2 In13 Fn2) H1 := hP1
          have hD : va_D A (wM cI cB cZ g cn2 In13 Fn2) := hD1.weaken (fun _ _ _ h => hFc _ h)
          generalize H1 = H at hP hS ⊢
          exact W.zret (v := 0) hx hb hr rfl (fun t ht hW => ⟨⟨0, (cn2, In13, Fn2), rfl, ⟨(Fr.mo hf13 (sbl rfl) (sbl rfl) (sbl rfl)), hIn2, (by show ((0 : Int32) = 0 ∨ (0 = 1 ∧ PBk (cn2 19) (cn2 20) (cn2 23) (cn2 24) (Fn2 27) (Fn2 28) a0 1 s0 ∧ CK (cn2 24) (Fn2 28) ∧ (∀ k : Nat, k < a0 → Fn2 27 k = Fn 27 k) ∧ cn 19 < cn2 19)) ∧ (((0 : Int32) = 0 → ∃ e9 : Nat, cmpK bb nn kk (cn 19) oo = .error e9 ∧ FLT In13 e9) ∧ ((0 : Int32) = 1 → ∃ uX : OutT, cmpK bb nn kk (cn 19) oo = .ok (cn2 19, uX) ∧ RK (kk + mm) ((rr, aa, 0) :: LL) (uX ++ nots mm) cn2 In13 Fn2)); exact ⟨(by exact Or.inl rfl), ⟨fun _ => ⟨_, cmp_1 hs9 (rel_n (fun q9 => (show ¬ r_3 = 60 by assumption) (hpk_4.symm.trans q9)) (fun q9 => (show ¬ r_6 = 62 by assumption) (hpk_7.symm.trans q9)) (fun q9 => (show ¬ r_9 = 61 by assumption) (hpk_10.symm.trans q9))), flt_k (k := 1) (p := cn2 19) (by decide) h_13⟩, (fun q => absurd q (by decide))⟩⟩)⟩, by rw [ht]; exact hP, hD⟩, hS.F ht⟩) hS.2.2 (oc_172 67 (aq_19 shX12_readsCompared_48))
        ·
          have tc_11 : (r_9.toInt : Int) = 61 := congrArg Int32.toInt c_11
          refine lv_bipush (v := 9) hx hb (oc_16 46 (aq_22 shX12_readsCompared_24) sgb_9) kbc_9 ?_
          refine lv_goto (tgt := 52) hx hb (oc_167 48 shX12_readsCompared_48 sgw_0_4) rfl ?_
          refine lv_istore_n (lv' := [(1, .int 9), (0, .ref (g 100))]) hx hb dX12_readsCompared_52 rfl hl (ltb rfl) rfl (fun ls hl => ?_)
          refine lv_iload_n hx hb dX12_readsCompared_53 rfl (lvA0 hl) ?_
          refine lv_iconst (v := (-1)) hx hb dX12_readsCompared_54 kic_m1 ?_
          refine lv_icmp_ne (tgt := 68) hx hb dX12_readsCompared_55 rfl (fun _ => ?_) (fun h => absurd h cq_eq_9_m1)
          refine lv_aload_n hx hb dX12_readsCompared_68 rfl (lvA1 hl) ?_
          refine lv_aload_n hx hb dX12_readsCompared_69 rfl (lvA1 hl) ?_
          refine gM_233 S hK hP (v := .int (nI (cn2 19))) rfl dX12_readsCompared_70 ?_
          refine lv_iconst (v := 1) hx hb dX12_readsCompared_73 kic_1 ?_
          refine lv_iadd hx hb dX12_readsCompared_74 ?_
          refine lv_topi (fun y_14 ey_14 => ?_)
          obtain rfl : y_14 = (nI ((cn2 19) + 1)) := ey_14.trans (nI_add (cn2 19) 1)
          refine pM_233 S hK hP hD hS (a := ((cn2 19) + 1)) (cn2 := (va_up cn2 19 ((cn2 19) + 1))) rfl rfl dX12_readsCompared_75 (fun H locs hP hD hS => ?_)
          refine lv_aload_n hx hb dX12_readsCompared_78 rfl (lvA1 hl) ?_
          have hFc := free_all hD hS hA
          refine va_calli (runV_a (As := []) (rest := []) S (q_readsSum9 l D cI cB cZ g (va_up cn2 19 ((cn2 19) + 1)) In2 Fn2 a0 1 (s0 + 1) bb nn kk o9 H.size (IM.fr (In := In2) hIn2 (Fr.c 19 Fr.rf) (by decide) (by decide)) (by have q := PBk.pl (pl' := cn2 19 + 1) (s' := s0 + 1) kh_2a (by (first | omega | (have zz0 := Hid.u hi_cn; have zz1 := Hid.u hi_cn2; have zz2 := Hid.u hq_cn2; omega))) (by (first | omega | (have zz0 := Hid.u hi_cn; have zz1 := Hid.u hi_cn2; have zz2 := Hid.u hq_cn2; omega))) (by (first | omega | (have zz0 := Hid.u hi_cn; have zz1 := Hid.u hi_cn2; have zz2 := Hid.u hq_cn2; omega))); exact q) (show 0 < cn2 24 → 10 ≤ kd (Fn2 28 (cn2 24 - 1)) ∧ kd (Fn2 28 (cn2 24 - 1)) ≤ 13 from fun _ => hC1.2.2 _ (by (first | omega | (have zz0 := Hid.u hi_cn; have zz1 := Hid.u hi_cn2; have zz2 := Hid.u hq_cn2; omega)))) (bbM_cg heb (hf2.2.2 17 (nml rfl))) (show cn2 20 = nn by (first | omega | (have zz0 := Hid.u hi_cn; have zz1 := Hid.u hi_cn2; have zz2 := Hid.u hq_cn2; omega))) (by exact hr9)) kV_RX12_297 hK hP hD 0 rfl rfl rfl ⟨Nat.le_of_ble_eq_true rfl, Nat.le_of_ble_eq_true rfl⟩ ⟨Nat.le_of_ble_eq_true rfl, Nat.le_of_ble_eq_true rfl⟩ rfl hl.1 rfl (Nat.le_of_ble_eq_true rfl) dX12_readsCompared_79) hS (fun q _ h => hFc q h) hFc (fun r_15 u t H1 locs ht hvm wh_16 hB hz1 hk1 hS => ?_)
          obtain ⟨cn16, In16, Fn16⟩ := u
          obtain ⟨hP1, hD1⟩ := hB
          rw [ht] at hP1
          have hP : va_P D vwCl (wM cI cB cZ g cn16 In16 Fn16) H1 := hP1
          have hD : va_D A (wM cI cB cZ g cn16 In16 Fn16) := hD1.weaken (fun _ _ _ h => hFc _ h)
          generalize H1 = H at hP hS ⊢
          have vh_16 : (fun r c2 I2 F2 => Fr [19, 23, 24, 26] [21, 22] [27, 28] (va_up cn2 19 ((cn2 19) + 1)) In2 Fn2 c2 I2 F2 ∧ IM c2 F2 ∧ (((r : Int32) = 0 ∨ (r = 1 ∧ PBk (c2 19) (c2 20) (c2 23) (c2 24) (F2 27) (F2 28) a0 (1 + 1) (s0 + 1) ∧ c2 24 = (cn2 24) ∧ (∀ k : Nat, k < a0 → F2 27 k = (Fn2 27) k) ∧ (∀ i : Nat, i < (cn2 24) → F2 28 i = (Fn2 28) i) ∧ ((cn2 19) + 1) < c2 19)) ∧ (((r : Int32) = 0 → ∃ e9 : Nat, sm1 bb nn (smK bb nn kk) (((cn2 19) + 1)) o9 = .error e9 ∧ FLT I2 e9) ∧ ((r : Int32) = 1 → ∃ uX : OutT, sm1 bb nn (smK bb nn kk) (((cn2 19) + 1)) o9 = .ok (c2 19, uX) ∧ RS kk uX c2 I2 F2)))) r_15 cn16 In16 Fn16 := wh_16
          obtain ⟨hfc16, hIn16, h_16⟩ := vh_16
          have hf16 : Fr [19, 23, 24, 26] [21, 22] [27, 28] cn In Fn cn16 In16 Fn16 := Fr.mo (Fr.tr (Fr.c 19 hf2) hfc16) (sbl rfl) (sbl rfl) (sbl rfl)
          have hi_cn16 : Hid (CB cn16) := hIn16.b
          have : cn16 20 = cn 20 := hf16.1 20 (nml rfl)
          have : cn16 25 = cn 25 := hf16.1 25 (nml rfl)
          have hq_cn16 := Hid.i (frq_19_23_24_26_0_1_2_46_57_58_62_63_75_83_44 hf16)
          have : cn16 20 = (cn2 20) := hfc16.1 20 (nml rfl)
          have : cn16 25 = (cn2 25) := hfc16.1 25 (nml rfl)
          obtain ⟨h_16, Nh_16⟩ := h_16
          rcases h_16 with rfl | ⟨rfl, kh_16⟩
          ·
            refine lv_if_ne (tgt := 87) hx hb dX12_readsCompared_82 rfl (fun h => absurd h cq_eq_0_0) (fun _ => ?_)
            refine lv_iconst (v := 0) hx hb dX12_readsCompared_85 kic_0 ?_
            exact W.zret (v := 0) hx hb hr rfl (fun t ht hW => ⟨⟨0, (cn16, In16, Fn16), rfl, ⟨(Fr.mo hf16 (sbl rfl) (sbl rfl) (sbl rfl)), hIn16, (by show ((0 : Int32) = 0 ∨ (0 = 1 ∧ PBk (cn16 19) (cn16 20) (cn16 23) (cn16 24) (Fn16 27) (Fn16 28) a0 1 s0 ∧ CK (cn16 24) (Fn16 28) ∧ (∀ k : Nat, k < a0 → Fn16 27 k = Fn 27 k) ∧ cn 19 < cn16 19)) ∧ (((0 : Int32) = 0 → ∃ e9 : Nat, cmpK bb nn kk (cn 19) oo = .error e9 ∧ FLT In16 e9) ∧ ((0 : Int32) = 1 → ∃ uX : OutT, cmpK bb nn kk (cn 19) oo = .ok (cn16 19, uX) ∧ RK (kk + mm) ((rr, aa, 0) :: LL) (uX ++ nots mm) cn16 In16 Fn16)); exact ⟨(by exact Or.inl rfl), ⟨fun _ => (by obtain ⟨e9, a9, f9⟩ := Nh_16.1 rfl; exact ⟨e9, cmp_2 hs9 ((congrArg rel (hpk_10.trans (show r_9 = 61 by assumption))).trans (show rel 61 = some 10 by decide)) a9, f9⟩), (fun q => absurd q (by decide))⟩⟩)⟩, by rw [ht]; exact hP, hD⟩, hS.F ht⟩) hS.2.2 dX12_readsCompared_86
          ·
            obtain ⟨kh_16a, kh_16e, kh_16b, kh_16c, kh_16d⟩ := kh_16
            have kh_16f := kh_16a.f
            refine lv_if_ne (tgt := 87) hx hb dX12_readsCompared_82 rfl (fun _ => ?_) (fun h => absurd h cq_eq_1_0)
            have hC2 : CK (cn16 24) (Fn16 28) := by rw [kh_16e]; exact CK.cg hC1 (fun i hi => kh_16c i hi)
            have hC2w := hC2.1
            obtain ⟨o8, hs8, hr8⟩ := Nh_16.2 rfl
            have hrk2 := RK.re hrk1 hr8 kh_16e kh_16c
            refine lv_aload_n hx hb dX12_readsCompared_87 rfl (lvA1 hl) ?_
            refine lv_iload_n hx hb dX12_readsCompared_88 rfl (lvA0 hl) ?_
            refine lv_iconst (v := 0) hx hb dX12_readsCompared_89 kic_0 ?_
            have hFc := free_all hD hS hA
            refine va_callv (runV_a (As := [.int 9, .int 0]) (rest := []) S (q_says l D cI cB cZ g cn16 In16 Fn16 9 0 H.size hIn16 (by (first | omega | (have zz0 := Hid.u hi_cn; have zz1 := Hid.u hi_cn16; have zz2 := Hid.u hi_cn2; have zz3 := Hid.u hq_cn16; have zz4 := Hid.u hq_cn2; omega)))) kV_RX12_270 hK hP hD 0 rfl rfl rfl ⟨Nat.le_of_ble_eq_true rfl, Nat.le_of_ble_eq_true rfl⟩ ⟨Nat.le_of_ble_eq_true rfl, Nat.le_of_ble_eq_true rfl⟩ rfl hl.1 rfl (Nat.le_of_ble_eq_true rfl) dX12_readsCompared_90) hS (fun q _ h => hFc q h) hFc (fun u t H1 locs ht hvm wh_18 hB hz1 hk1 hS => ?_)
            obtain ⟨cn18, In18, Fn18⟩ := u
            obtain ⟨hP1, hD1⟩ := hB
            rw [ht] at hP1
            have vh_18 : (fun c2 I2 F2 => (∀ k : Nat, k ∉ [] → I2 k = In16 k) ∧ (((True) ∧ (va_up cn16 23 ((cn16 23) + 1)) = c2 ∧ (va_up Fn16 27 (upd ((Fn16 27)) ((cn16 23)) (nI (9 * 1048576 + 0)))) = F2))) cn18 In18 Fn18 := wh_18
            obtain ⟨hI18_, vh_18⟩ := vh_18
            obtain ⟨h_18, rfl, rfl⟩ := vh_18
            obtain rfl : In16 = In18 := (funext (fun k => hI18_ k List.not_mem_nil)).symm
            have hP : va_P D vwCl (wM cI cB cZ g (va_up cn16 23 ((cn16 23) + 1)) In16 (va_up Fn16 27 (upd ((Fn16 27)) ((cn16 23)) (nI (9 * 1048576 + 0))))) H1 := hP1
            have hD : va_D A (wM cI cB cZ g (va_up cn16 23 ((cn16 23) + 1)) In16 (va_up Fn16 27 (upd ((Fn16 27)) ((cn16 23)) (nI (9 * 1048576 + 0))))) := hD1.weaken (fun _ _ _ h => hFc _ h)
            generalize H1 = H at hP hS ⊢
            refine lv_aload_n hx hb dX12_readsCompared_93 rfl (lvA1 hl) ?_
            have hFc := free_all hD hS hA
            refine va_callv (runV_a (As := []) (rest := []) S (q_endsPiece9 l D cI cB cZ g (va_up cn16 23 ((cn16 23) + 1)) In16 (va_up Fn16 27 (upd ((Fn16 27)) ((cn16 23)) (nI (9 * 1048576 + 0)))) a0 s0 kk rr aa mm LL (o8 ++ [(10, 0)]) H.size (IM.fr (In := In16) hIn16 (Fr.f 27 (Fr.c 23 Fr.rf)) (by decide) (by decide)) (by have q := PBk.code (o := 9) (x := 0) (w' := cn16 24) (h' := 1) (s' := s0) kh_16a (Nat.le_refl _) (by (first | omega | (have zz0 := Hid.u hi_cn; have zz1 := Hid.u hi_cn16; have zz2 := Hid.u hi_cn2; have zz3 := Hid.u hq_cn16; have zz4 := Hid.u hq_cn2; omega))) (Or.inl rfl) (by decide) (Or.inr (Or.inr (Or.inr ⟨by decide, by decide, by decide, rfl⟩))) (by (first | omega | (have zz0 := Hid.u hi_cn; have zz1 := Hid.u hi_cn16; have zz2 := Hid.u hi_cn2; have zz3 := Hid.u hq_cn16; have zz4 := Hid.u hq_cn2; omega))); exact q) hC2 (RK.say (t := 10) (y := 0) hrk2 (by decide) (by decide) rfl rfl rfl rfl rfl)) kV_RX12_300 hK hP hD 0 rfl rfl rfl ⟨Nat.le_of_ble_eq_true rfl, Nat.le_of_ble_eq_true rfl⟩ ⟨Nat.le_of_ble_eq_true rfl, Nat.le_of_ble_eq_true rfl⟩ rfl hl.1 rfl (Nat.le_of_ble_eq_true rfl) dX12_readsCompared_94) hS (fun q _ h => hFc q h) hFc (fun u t H1 locs ht hvm wh_20 hB hz1 hk1 hS => ?_)
            obtain ⟨cn20, In20, Fn20⟩ := u
            obtain ⟨hP1, hD1⟩ := hB
            rw [ht] at hP1
            have hP : va_P D vwCl (wM cI cB cZ g cn20 In20 Fn20) H1 := hP1
            have hD : va_D A (wM cI cB cZ g cn20 In20 Fn20) := hD1.weaken (fun _ _ _ h => hFc _ h)
            generalize H1 = H at hP hS ⊢
            have vh_20 : (fun c2 I2 F2 => Fr [23, 24] [22] [27] (va_up cn16 23 ((cn16 23) + 1)) In16 (va_up Fn16 27 (upd ((Fn16 27)) ((cn16 23)) (nI (9 * 1048576 + 0)))) c2 I2 F2 ∧ IM c2 F2 ∧ (((PBk (c2 19) (c2 20) (c2 23) (c2 24) (F2 27) (F2 28) a0 1 s0) ∧ (CK (c2 24) (F2 28)) ∧ (∀ k : Nat, k < a0 → F2 27 k = (upd ((Fn16 27)) ((cn16 23)) (nI (9 * 1048576 + 0))) k)) ∧ (RK (kk + mm) ((rr, aa, 0) :: LL) ((o8 ++ [(10, 0)]) ++ nots mm) c2 I2 F2))) cn20 In20 Fn20 := wh_20
            obtain ⟨hfc20, hIn20, h_20⟩ := vh_20
            have hf20 : Fr [19, 23, 24, 26] [21, 22] [27, 28] cn In Fn cn20 In20 Fn20 := Fr.mo (Fr.tr (Fr.f 27 (Fr.c 23 hf16)) hfc20) (sbl rfl) (sbl rfl) (sbl rfl)
            have hi_cn20 : Hid (CB cn20) := hIn20.b
            have : cn20 20 = cn 20 := hf20.1 20 (nml rfl)
            have : cn20 25 = cn 25 := hf20.1 25 (nml rfl)
            have hq_cn20 := Hid.i (frq_19_23_24_26_0_1_2_46_57_58_62_63_75_83_44 hf20)
            have : cn20 19 = (cn16 19) := hfc20.1 19 (nml rfl)
            have : cn20 20 = (cn16 20) := hfc20.1 20 (nml rfl)
            have : cn20 25 = (cn16 25) := hfc20.1 25 (nml rfl)
            obtain ⟨h_20, Nh_20⟩ := h_20
            obtain ⟨h_20a, h_20b, h_20c⟩ := h_20
            have h_20f := h_20a.f
            refine lv_iconst (v := 1) hx hb dX12_readsCompared_97 kic_1 ?_
            exact W.zret (v := 1) hx hb hr rfl (fun t ht hW => ⟨⟨1, (cn20, In20, Fn20), rfl, ⟨(Fr.mo hf20 (sbl rfl) (sbl rfl) (sbl rfl)), hIn20, (by show ((1 : Int32) = 0 ∨ (1 = 1 ∧ PBk (cn20 19) (cn20 20) (cn20 23) (cn20 24) (Fn20 27) (Fn20 28) a0 1 s0 ∧ CK (cn20 24) (Fn20 28) ∧ (∀ k : Nat, k < a0 → Fn20 27 k = Fn 27 k) ∧ cn 19 < cn20 19)) ∧ (((1 : Int32) = 0 → ∃ e9 : Nat, cmpK bb nn kk (cn 19) oo = .error e9 ∧ FLT In20 e9) ∧ ((1 : Int32) = 1 → ∃ uX : OutT, cmpK bb nn kk (cn 19) oo = .ok (cn20 19, uX) ∧ RK (kk + mm) ((rr, aa, 0) :: LL) (uX ++ nots mm) cn20 In20 Fn20)); exact ⟨(by exact Or.inr ⟨rfl, h_20a, h_20b, fun k hk => (h_20c k hk).trans ((upd_lt (by (first | omega | (have zz0 := Hid.u hi_cn; have zz1 := Hid.u hi_cn16; have zz2 := Hid.u hi_cn2; have zz3 := Hid.u hi_cn20; have zz4 := Hid.u hq_cn16; have zz5 := Hid.u hq_cn2; have zz6 := Hid.u hq_cn20; omega)))).trans ((kh_16b k hk).trans (kh_2b k hk))), by (first | omega | (have zz0 := Hid.u hi_cn; have zz1 := Hid.u hi_cn16; have zz2 := Hid.u hi_cn2; have zz3 := Hid.u hi_cn20; have zz4 := Hid.u hq_cn16; have zz5 := Hid.u hq_cn2; have zz6 := Hid.u hq_cn20; omega))⟩), ⟨(fun q => absurd q (by decide)), fun _ => ⟨o8 ++ [(10, 0)], (cmp_2 hs9 ((congrArg rel (hpk_10.trans (show r_9 = 61 by assumption))).trans (show rel 61 = some 10 by decide)) hs8).trans (congrArg (fun p9 => (Except.ok (p9, o8 ++ [(10, 0)]) : ResT)) (show (cn16 19) = (cn20 19) by (first | omega | (have zz0 := Hid.u hi_cn; have zz1 := Hid.u hi_cn16; have zz2 := Hid.u hi_cn2; have zz3 := Hid.u hi_cn20; have zz4 := Hid.u hq_cn16; have zz5 := Hid.u hq_cn2; have zz6 := Hid.u hq_cn20; omega)))), Nh_20⟩⟩⟩)⟩, by rw [ht]; exact hP, hD⟩, hS.F ht⟩) hS.2.2 dX12_readsCompared_98
      ·
        have tc_8 : (r_6.toInt : Int) = 62 := congrArg Int32.toInt c_8
        refine lv_bipush (v := 8) hx hb (oc_16 32 (aq_8 shX12_readsCompared_24) sgb_8) kbc_8 ?_
        refine lv_goto (tgt := 52) hx hb (oc_167 34 (aq_10 shX12_readsCompared_24) sgw_0_18) rfl ?_
        refine lv_istore_n (lv' := [(1, .int 8), (0, .ref (g 100))]) hx hb dX12_readsCompared_52 rfl hl (ltb rfl) rfl (fun ls hl => ?_)
        refine lv_iload_n hx hb dX12_readsCompared_53 rfl (lvA0 hl) ?_
        refine lv_iconst (v := (-1)) hx hb dX12_readsCompared_54 kic_m1 ?_
        refine lv_icmp_ne (tgt := 68) hx hb dX12_readsCompared_55 rfl (fun _ => ?_) (fun h => absurd h cq_eq_8_m1)
        refine lv_aload_n hx hb dX12_readsCompared_68 rfl (lvA1 hl) ?_
        refine lv_aload_n hx hb dX12_readsCompared_69 rfl (lvA1 hl) ?_
        refine gM_233 S hK hP (v := .int (nI (cn2 19))) rfl dX12_readsCompared_70 ?_
        refine lv_iconst (v := 1) hx hb dX12_readsCompared_73 kic_1 ?_
        refine lv_iadd hx hb dX12_readsCompared_74 ?_
        refine lv_topi (fun y_21 ey_21 => ?_)
        obtain rfl : y_21 = (nI ((cn2 19) + 1)) := ey_21.trans (nI_add (cn2 19) 1)
        refine pM_233 S hK hP hD hS (a := ((cn2 19) + 1)) (cn2 := (va_up cn2 19 ((cn2 19) + 1))) rfl rfl dX12_readsCompared_75 (fun H locs hP hD hS => ?_)
        refine lv_aload_n hx hb dX12_readsCompared_78 rfl (lvA1 hl) ?_
        have hFc := free_all hD hS hA
        refine va_calli (runV_a (As := []) (rest := []) S (q_readsSum9 l D cI cB cZ g (va_up cn2 19 ((cn2 19) + 1)) In2 Fn2 a0 1 (s0 + 1) bb nn kk o9 H.size (IM.fr (In := In2) hIn2 (Fr.c 19 Fr.rf) (by decide) (by decide)) (by have q := PBk.pl (pl' := cn2 19 + 1) (s' := s0 + 1) kh_2a (by (first | omega | (have zz0 := Hid.u hi_cn; have zz1 := Hid.u hi_cn2; have zz2 := Hid.u hq_cn2; omega))) (by (first | omega | (have zz0 := Hid.u hi_cn; have zz1 := Hid.u hi_cn2; have zz2 := Hid.u hq_cn2; omega))) (by (first | omega | (have zz0 := Hid.u hi_cn; have zz1 := Hid.u hi_cn2; have zz2 := Hid.u hq_cn2; omega))); exact q) (show 0 < cn2 24 → 10 ≤ kd (Fn2 28 (cn2 24 - 1)) ∧ kd (Fn2 28 (cn2 24 - 1)) ≤ 13 from fun _ => hC1.2.2 _ (by (first | omega | (have zz0 := Hid.u hi_cn; have zz1 := Hid.u hi_cn2; have zz2 := Hid.u hq_cn2; omega)))) (bbM_cg heb (hf2.2.2 17 (nml rfl))) (show cn2 20 = nn by (first | omega | (have zz0 := Hid.u hi_cn; have zz1 := Hid.u hi_cn2; have zz2 := Hid.u hq_cn2; omega))) (by exact hr9)) kV_RX12_297 hK hP hD 0 rfl rfl rfl ⟨Nat.le_of_ble_eq_true rfl, Nat.le_of_ble_eq_true rfl⟩ ⟨Nat.le_of_ble_eq_true rfl, Nat.le_of_ble_eq_true rfl⟩ rfl hl.1 rfl (Nat.le_of_ble_eq_true rfl) dX12_readsCompared_79) hS (fun q _ h => hFc q h) hFc (fun r_22 u t H1 locs ht hvm wh_23 hB hz1 hk1 hS => ?_)
        obtain ⟨cn23, In23, Fn23⟩ := u
        obtain ⟨hP1, hD1⟩ := hB
        rw [ht] at hP1
        have hP : va_P D vwCl (wM cI cB cZ g cn23 In23 Fn23) H1 := hP1
        have hD : va_D A (wM cI cB cZ g cn23 In23 Fn23) := hD1.weaken (fun _ _ _ h => hFc _ h)
        generalize H1 = H at hP hS ⊢
        have vh_23 : (fun r c2 I2 F2 => Fr [19, 23, 24, 26] [21, 22] [27, 28] (va_up cn2 19 ((cn2 19) + 1)) In2 Fn2 c2 I2 F2 ∧ IM c2 F2 ∧ (((r : Int32) = 0 ∨ (r = 1 ∧ PBk (c2 19) (c2 20) (c2 23) (c2 24) (F2 27) (F2 28) a0 (1 + 1) (s0 + 1) ∧ c2 24 = (cn2 24) ∧ (∀ k : Nat, k < a0 → F2 27 k = (Fn2 27) k) ∧ (∀ i : Nat, i < (cn2 24) → F2 28 i = (Fn2 28) i) ∧ ((cn2 19) + 1) < c2 19)) ∧ (((r : Int32) = 0 → ∃ e9 : Nat, sm1 bb nn (smK bb nn kk) (((cn2 19) + 1)) o9 = .error e9 ∧ FLT I2 e9) ∧ ((r : Int32) = 1 → ∃ uX : OutT, sm1 bb nn (smK bb nn kk) (((cn2 19) + 1)) o9 = .ok (c2 19, uX) ∧ RS kk uX c2 I2 F2)))) r_22 cn23 In23 Fn23 := wh_23
        obtain ⟨hfc23, hIn23, h_23⟩ := vh_23
        have hf23 : Fr [19, 23, 24, 26] [21, 22] [27, 28] cn In Fn cn23 In23 Fn23 := Fr.mo (Fr.tr (Fr.c 19 hf2) hfc23) (sbl rfl) (sbl rfl) (sbl rfl)
        have hi_cn23 : Hid (CB cn23) := hIn23.b
        have : cn23 20 = cn 20 := hf23.1 20 (nml rfl)
        have : cn23 25 = cn 25 := hf23.1 25 (nml rfl)
        have hq_cn23 := Hid.i (frq_19_23_24_26_0_1_2_46_57_58_62_63_75_83_44 hf23)
        have : cn23 20 = (cn2 20) := hfc23.1 20 (nml rfl)
        have : cn23 25 = (cn2 25) := hfc23.1 25 (nml rfl)
        obtain ⟨h_23, Nh_23⟩ := h_23
        rcases h_23 with rfl | ⟨rfl, kh_23⟩
        ·
          refine lv_if_ne (tgt := 87) hx hb dX12_readsCompared_82 rfl (fun h => absurd h cq_eq_0_0) (fun _ => ?_)
          refine lv_iconst (v := 0) hx hb dX12_readsCompared_85 kic_0 ?_
          exact W.zret (v := 0) hx hb hr rfl (fun t ht hW => ⟨⟨0, (cn23, In23, Fn23), rfl, ⟨(Fr.mo hf23 (sbl rfl) (sbl rfl) (sbl rfl)), hIn23, (by show ((0 : Int32) = 0 ∨ (0 = 1 ∧ PBk (cn23 19) (cn23 20) (cn23 23) (cn23 24) (Fn23 27) (Fn23 28) a0 1 s0 ∧ CK (cn23 24) (Fn23 28) ∧ (∀ k : Nat, k < a0 → Fn23 27 k = Fn 27 k) ∧ cn 19 < cn23 19)) ∧ (((0 : Int32) = 0 → ∃ e9 : Nat, cmpK bb nn kk (cn 19) oo = .error e9 ∧ FLT In23 e9) ∧ ((0 : Int32) = 1 → ∃ uX : OutT, cmpK bb nn kk (cn 19) oo = .ok (cn23 19, uX) ∧ RK (kk + mm) ((rr, aa, 0) :: LL) (uX ++ nots mm) cn23 In23 Fn23)); exact ⟨(by exact Or.inl rfl), ⟨fun _ => (by obtain ⟨e9, a9, f9⟩ := Nh_23.1 rfl; exact ⟨e9, cmp_2 hs9 ((congrArg rel (hpk_7.trans (show r_6 = 62 by assumption))).trans (show rel 62 = some 9 by decide)) a9, f9⟩), (fun q => absurd q (by decide))⟩⟩)⟩, by rw [ht]; exact hP, hD⟩, hS.F ht⟩) hS.2.2 dX12_readsCompared_86
        ·
          obtain ⟨kh_23a, kh_23e, kh_23b, kh_23c, kh_23d⟩ := kh_23
          have kh_23f := kh_23a.f
          refine lv_if_ne (tgt := 87) hx hb dX12_readsCompared_82 rfl (fun _ => ?_) (fun h => absurd h cq_eq_1_0)
          have hC2 : CK (cn23 24) (Fn23 28) := by rw [kh_23e]; exact CK.cg hC1 (fun i hi => kh_23c i hi)
          have hC2w := hC2.1
          obtain ⟨o8, hs8, hr8⟩ := Nh_23.2 rfl
          have hrk2 := RK.re hrk1 hr8 kh_23e kh_23c
          refine lv_aload_n hx hb dX12_readsCompared_87 rfl (lvA1 hl) ?_
          refine lv_iload_n hx hb dX12_readsCompared_88 rfl (lvA0 hl) ?_
          refine lv_iconst (v := 0) hx hb dX12_readsCompared_89 kic_0 ?_
          have hFc := free_all hD hS hA
          refine va_callv (runV_a (As := [.int 8, .int 0]) (rest := []) S (q_says l D cI cB cZ g cn23 In23 Fn23 8 0 H.size hIn23 (by (first | omega | (have zz0 := Hid.u hi_cn; have zz1 := Hid.u hi_cn2; have zz2 := Hid.u hi_cn23; have zz3 := Hid.u hq_cn2; have zz4 := Hid.u hq_cn23; omega)))) kV_RX12_270 hK hP hD 0 rfl rfl rfl ⟨Nat.le_of_ble_eq_true rfl, Nat.le_of_ble_eq_true rfl⟩ ⟨Nat.le_of_ble_eq_true rfl, Nat.le_of_ble_eq_true rfl⟩ rfl hl.1 rfl (Nat.le_of_ble_eq_true rfl) dX12_readsCompared_90) hS (fun q _ h => hFc q h) hFc (fun u t H1 locs ht hvm wh_25 hB hz1 hk1 hS => ?_)
          obtain ⟨cn25, In25, Fn25⟩ := u
          obtain ⟨hP1, hD1⟩ := hB
          rw [ht] at hP1
          have vh_25 : (fun c2 I2 F2 => (∀ k : Nat, k ∉ [] → I2 k = In23 k) ∧ (((True) ∧ (va_up cn23 23 ((cn23 23) + 1)) = c2 ∧ (va_up Fn23 27 (upd ((Fn23 27)) ((cn23 23)) (nI (8 * 1048576 + 0)))) = F2))) cn25 In25 Fn25 := wh_25
          obtain ⟨hI25_, vh_25⟩ := vh_25
          obtain ⟨h_25, rfl, rfl⟩ := vh_25
          obtain rfl : In23 = In25 := (funext (fun k => hI25_ k List.not_mem_nil)).symm
          have hP : va_P D vwCl (wM cI cB cZ g (va_up cn23 23 ((cn23 23) + 1)) In23 (va_up Fn23 27 (upd ((Fn23 27)) ((cn23 23)) (nI (8 * 1048576 + 0))))) H1 := hP1
          have hD : va_D A (wM cI cB cZ g (va_up cn23 23 ((cn23 23) + 1)) In23 (va_up Fn23 27 (upd ((Fn23 27)) ((cn23 23)) (nI (8 * 1048576 + 0))))) := hD1.weaken (fun _ _ _ h => hFc _ h)
          generalize H1 = H at hP hS ⊢
          refine lv_aload_n hx hb dX12_readsCompared_93 rfl (lvA1 hl) ?_
          have hFc := free_all hD hS hA
          refine va_callv (runV_a (As := []) (rest := []) S (q_endsPiece9 l D cI cB cZ g (va_up cn23 23 ((cn23 23) + 1)) In23 (va_up Fn23 27 (upd ((Fn23 27)) ((cn23 23)) (nI (8 * 1048576 + 0)))) a0 s0 kk rr aa mm LL (o8 ++ [(9, 0)]) H.size (IM.fr (In := In23) hIn23 (Fr.f 27 (Fr.c 23 Fr.rf)) (by decide) (by decide)) (by have q := PBk.code (o := 8) (x := 0) (w' := cn23 24) (h' := 1) (s' := s0) kh_23a (Nat.le_refl _) (by (first | omega | (have zz0 := Hid.u hi_cn; have zz1 := Hid.u hi_cn2; have zz2 := Hid.u hi_cn23; have zz3 := Hid.u hq_cn2; have zz4 := Hid.u hq_cn23; omega))) (Or.inl rfl) (by decide) (Or.inr (Or.inr (Or.inr ⟨by decide, by decide, by decide, rfl⟩))) (by (first | omega | (have zz0 := Hid.u hi_cn; have zz1 := Hid.u hi_cn2; have zz2 := Hid.u hi_cn23; have zz3 := Hid.u hq_cn2; have zz4 := Hid.u hq_cn23; omega))); exact q) hC2 (RK.say (t := 9) (y := 0) hrk2 (by decide) (by decide) rfl rfl rfl rfl rfl)) kV_RX12_300 hK hP hD 0 rfl rfl rfl ⟨Nat.le_of_ble_eq_true rfl, Nat.le_of_ble_eq_true rfl⟩ ⟨Nat.le_of_ble_eq_true rfl, Nat.le_of_ble_eq_true rfl⟩ rfl hl.1 rfl (Nat.le_of_ble_eq_true rfl) dX12_readsCompared_94) hS (fun q _ h => hFc q h) hFc (fun u t H1 locs ht hvm wh_27 hB hz1 hk1 hS => ?_)
          obtain ⟨cn27, In27, Fn27⟩ := u
          obtain ⟨hP1, hD1⟩ := hB
          rw [ht] at hP1
          have hP : va_P D vwCl (wM cI cB cZ g cn27 In27 Fn27) H1 := hP1
          have hD : va_D A (wM cI cB cZ g cn27 In27 Fn27) := hD1.weaken (fun _ _ _ h => hFc _ h)
          generalize H1 = H at hP hS ⊢
          have vh_27 : (fun c2 I2 F2 => Fr [23, 24] [22] [27] (va_up cn23 23 ((cn23 23) + 1)) In23 (va_up Fn23 27 (upd ((Fn23 27)) ((cn23 23)) (nI (8 * 1048576 + 0)))) c2 I2 F2 ∧ IM c2 F2 ∧ (((PBk (c2 19) (c2 20) (c2 23) (c2 24) (F2 27) (F2 28) a0 1 s0) ∧ (CK (c2 24) (F2 28)) ∧ (∀ k : Nat, k < a0 → F2 27 k = (upd ((Fn23 27)) ((cn23 23)) (nI (8 * 1048576 + 0))) k)) ∧ (RK (kk + mm) ((rr, aa, 0) :: LL) ((o8 ++ [(9, 0)]) ++ nots mm) c2 I2 F2))) cn27 In27 Fn27 := wh_27
          obtain ⟨hfc27, hIn27, h_27⟩ := vh_27
          have hf27 : Fr [19, 23, 24, 26] [21, 22] [27, 28] cn In Fn cn27 In27 Fn27 := Fr.mo (Fr.tr (Fr.f 27 (Fr.c 23 hf23)) hfc27) (sbl rfl) (sbl rfl) (sbl rfl)
          have hi_cn27 : Hid (CB cn27) := hIn27.b
          have : cn27 20 = cn 20 := hf27.1 20 (nml rfl)
          have : cn27 25 = cn 25 := hf27.1 25 (nml rfl)
          have hq_cn27 := Hid.i (frq_19_23_24_26_0_1_2_46_57_58_62_63_75_83_44 hf27)
          have : cn27 19 = (cn23 19) := hfc27.1 19 (nml rfl)
          have : cn27 20 = (cn23 20) := hfc27.1 20 (nml rfl)
          have : cn27 25 = (cn23 25) := hfc27.1 25 (nml rfl)
          obtain ⟨h_27, Nh_27⟩ := h_27
          obtain ⟨h_27a, h_27b, h_27c⟩ := h_27
          have h_27f := h_27a.f
          refine lv_iconst (v := 1) hx hb dX12_readsCompared_97 kic_1 ?_
          exact W.zret (v := 1) hx hb hr rfl (fun t ht hW => ⟨⟨1, (cn27, In27, Fn27), rfl, ⟨(Fr.mo hf27 (sbl rfl) (sbl rfl) (sbl rfl)), hIn27, (by show ((1 : Int32) = 0 ∨ (1 = 1 ∧ PBk (cn27 19) (cn27 20) (cn27 23) (cn27 24) (Fn27 27) (Fn27 28) a0 1 s0 ∧ CK (cn27 24) (Fn27 28) ∧ (∀ k : Nat, k < a0 → Fn27 27 k = Fn 27 k) ∧ cn 19 < cn27 19)) ∧ (((1 : Int32) = 0 → ∃ e9 : Nat, cmpK bb nn kk (cn 19) oo = .error e9 ∧ FLT In27 e9) ∧ ((1 : Int32) = 1 → ∃ uX : OutT, cmpK bb nn kk (cn 19) oo = .ok (cn27 19, uX) ∧ RK (kk + mm) ((rr, aa, 0) :: LL) (uX ++ nots mm) cn27 In27 Fn27)); exact ⟨(by exact Or.inr ⟨rfl, h_27a, h_27b, fun k hk => (h_27c k hk).trans ((upd_lt (by (first | omega | (have zz0 := Hid.u hi_cn; have zz1 := Hid.u hi_cn2; have zz2 := Hid.u hi_cn23; have zz3 := Hid.u hi_cn27; have zz4 := Hid.u hq_cn2; have zz5 := Hid.u hq_cn23; have zz6 := Hid.u hq_cn27; omega)))).trans ((kh_23b k hk).trans (kh_2b k hk))), by (first | omega | (have zz0 := Hid.u hi_cn; have zz1 := Hid.u hi_cn2; have zz2 := Hid.u hi_cn23; have zz3 := Hid.u hi_cn27; have zz4 := Hid.u hq_cn2; have zz5 := Hid.u hq_cn23; have zz6 := Hid.u hq_cn27; omega))⟩), ⟨(fun q => absurd q (by decide)), fun _ => ⟨o8 ++ [(9, 0)], (cmp_2 hs9 ((congrArg rel (hpk_7.trans (show r_6 = 62 by assumption))).trans (show rel 62 = some 9 by decide)) hs8).trans (congrArg (fun p9 => (Except.ok (p9, o8 ++ [(9, 0)]) : ResT)) (show (cn23 19) = (cn27 19) by (first | omega | (have zz0 := Hid.u hi_cn; have zz1 := Hid.u hi_cn2; have zz2 := Hid.u hi_cn23; have zz3 := Hid.u hi_cn27; have zz4 := Hid.u hq_cn2; have zz5 := Hid.u hq_cn23; have zz6 := Hid.u hq_cn27; omega)))), Nh_27⟩⟩⟩)⟩, by rw [ht]; exact hP, hD⟩, hS.F ht⟩) hS.2.2 dX12_readsCompared_98
    ·
      have tc_5 : (r_3.toInt : Int) = 60 := congrArg Int32.toInt c_5
      refine lv_bipush (v := 7) hx hb (oc_16 18 (aq_18 shX12_readsCompared_0) sgb_7) kbc_7 ?_
      refine lv_goto (tgt := 52) hx hb (oc_167 20 (aq_20 shX12_readsCompared_0) sgw_0_32) rfl ?_
      refine lv_istore_n (lv' := [(1, .int 7), (0, .ref (g 100))]) hx hb dX12_readsCompared_52 rfl hl (ltb rfl) rfl (fun ls hl => ?_)
      refine lv_iload_n hx hb dX12_readsCompared_53 rfl (lvA0 hl) ?_
      refine lv_iconst (v := (-1)) hx hb dX12_readsCompared_54 kic_m1 ?_
      refine lv_icmp_ne (tgt := 68) hx hb dX12_readsCompared_55 rfl (fun _ => ?_) (fun h => absurd h cq_eq_7_m1)
      refine lv_aload_n hx hb dX12_readsCompared_68 rfl (lvA1 hl) ?_
      refine lv_aload_n hx hb dX12_readsCompared_69 rfl (lvA1 hl) ?_
      refine gM_233 S hK hP (v := .int (nI (cn2 19))) rfl dX12_readsCompared_70 ?_
      refine lv_iconst (v := 1) hx hb dX12_readsCompared_73 kic_1 ?_
      refine lv_iadd hx hb dX12_readsCompared_74 ?_
      refine lv_topi (fun y_28 ey_28 => ?_)
      obtain rfl : y_28 = (nI ((cn2 19) + 1)) := ey_28.trans (nI_add (cn2 19) 1)
      refine pM_233 S hK hP hD hS (a := ((cn2 19) + 1)) (cn2 := (va_up cn2 19 ((cn2 19) + 1))) rfl rfl dX12_readsCompared_75 (fun H locs hP hD hS => ?_)
      refine lv_aload_n hx hb dX12_readsCompared_78 rfl (lvA1 hl) ?_
      have hFc := free_all hD hS hA
      refine va_calli (runV_a (As := []) (rest := []) S (q_readsSum9 l D cI cB cZ g (va_up cn2 19 ((cn2 19) + 1)) In2 Fn2 a0 1 (s0 + 1) bb nn kk o9 H.size (IM.fr (In := In2) hIn2 (Fr.c 19 Fr.rf) (by decide) (by decide)) (by have q := PBk.pl (pl' := cn2 19 + 1) (s' := s0 + 1) kh_2a (by (first | omega | (have zz0 := Hid.u hi_cn; have zz1 := Hid.u hi_cn2; have zz2 := Hid.u hq_cn2; omega))) (by (first | omega | (have zz0 := Hid.u hi_cn; have zz1 := Hid.u hi_cn2; have zz2 := Hid.u hq_cn2; omega))) (by (first | omega | (have zz0 := Hid.u hi_cn; have zz1 := Hid.u hi_cn2; have zz2 := Hid.u hq_cn2; omega))); exact q) (show 0 < cn2 24 → 10 ≤ kd (Fn2 28 (cn2 24 - 1)) ∧ kd (Fn2 28 (cn2 24 - 1)) ≤ 13 from fun _ => hC1.2.2 _ (by (first | omega | (have zz0 := Hid.u hi_cn; have zz1 := Hid.u hi_cn2; have zz2 := Hid.u hq_cn2; omega)))) (bbM_cg heb (hf2.2.2 17 (nml rfl))) (show cn2 20 = nn by (first | omega | (have zz0 := Hid.u hi_cn; have zz1 := Hid.u hi_cn2; have zz2 := Hid.u hq_cn2; omega))) (by exact hr9)) kV_RX12_297 hK hP hD 0 rfl rfl rfl ⟨Nat.le_of_ble_eq_true rfl, Nat.le_of_ble_eq_true rfl⟩ ⟨Nat.le_of_ble_eq_true rfl, Nat.le_of_ble_eq_true rfl⟩ rfl hl.1 rfl (Nat.le_of_ble_eq_true rfl) dX12_readsCompared_79) hS (fun q _ h => hFc q h) hFc (fun r_29 u t H1 locs ht hvm wh_30 hB hz1 hk1 hS => ?_)
      obtain ⟨cn30, In30, Fn30⟩ := u
      obtain ⟨hP1, hD1⟩ := hB
      rw [ht] at hP1
      have hP : va_P D vwCl (wM cI cB cZ g cn30 In30 Fn30) H1 := hP1
      have hD : va_D A (wM cI cB cZ g cn30 In30 Fn30) := hD1.weaken (fun _ _ _ h => hFc _ h)
      generalize H1 = H at hP hS ⊢
      have vh_30 : (fun r c2 I2 F2 => Fr [19, 23, 24, 26] [21, 22] [27, 28] (va_up cn2 19 ((cn2 19) + 1)) In2 Fn2 c2 I2 F2 ∧ IM c2 F2 ∧ (((r : Int32) = 0 ∨ (r = 1 ∧ PBk (c2 19) (c2 20) (c2 23) (c2 24) (F2 27) (F2 28) a0 (1 + 1) (s0 + 1) ∧ c2 24 = (cn2 24) ∧ (∀ k : Nat, k < a0 → F2 27 k = (Fn2 27) k) ∧ (∀ i : Nat, i < (cn2 24) → F2 28 i = (Fn2 28) i) ∧ ((cn2 19) + 1) < c2 19)) ∧ (((r : Int32) = 0 → ∃ e9 : Nat, sm1 bb nn (smK bb nn kk) (((cn2 19) + 1)) o9 = .error e9 ∧ FLT I2 e9) ∧ ((r : Int32) = 1 → ∃ uX : OutT, sm1 bb nn (smK bb nn kk) (((cn2 19) + 1)) o9 = .ok (c2 19, uX) ∧ RS kk uX c2 I2 F2)))) r_29 cn30 In30 Fn30 := wh_30
      obtain ⟨hfc30, hIn30, h_30⟩ := vh_30
      have hf30 : Fr [19, 23, 24, 26] [21, 22] [27, 28] cn In Fn cn30 In30 Fn30 := Fr.mo (Fr.tr (Fr.c 19 hf2) hfc30) (sbl rfl) (sbl rfl) (sbl rfl)
      have hi_cn30 : Hid (CB cn30) := hIn30.b
      have : cn30 20 = cn 20 := hf30.1 20 (nml rfl)
      have : cn30 25 = cn 25 := hf30.1 25 (nml rfl)
      have hq_cn30 := Hid.i (frq_19_23_24_26_0_1_2_46_57_58_62_63_75_83_44 hf30)
      have : cn30 20 = (cn2 20) := hfc30.1 20 (nml rfl)
      have : cn30 25 = (cn2 25) := hfc30.1 25 (nml rfl)
      obtain ⟨h_30, Nh_30⟩ := h_30
      rcases h_30 with rfl | ⟨rfl, kh_30⟩
      ·
        refine lv_if_ne (tgt := 87) hx hb dX12_readsCompared_82 rfl (fun h => absurd h cq_eq_0_0) (fun _ => ?_)
        refine lv_iconst (v := 0) hx hb dX12_readsCompared_85 kic_0 ?_
        exact W.zret (v := 0) hx hb hr rfl (fun t ht hW => ⟨⟨0, (cn30, In30, Fn30), rfl, ⟨(Fr.mo hf30 (sbl rfl) (sbl rfl) (sbl rfl)), hIn30, (by show ((0 : Int32) = 0 ∨ (0 = 1 ∧ PBk (cn30 19) (cn30 20) (cn30 23) (cn30 24) (Fn30 27) (Fn30 28) a0 1 s0 ∧ CK (cn30 24) (Fn30 28) ∧ (∀ k : Nat, k < a0 → Fn30 27 k = Fn 27 k) ∧ cn 19 < cn30 19)) ∧ (((0 : Int32) = 0 → ∃ e9 : Nat, cmpK bb nn kk (cn 19) oo = .error e9 ∧ FLT In30 e9) ∧ ((0 : Int32) = 1 → ∃ uX : OutT, cmpK bb nn kk (cn 19) oo = .ok (cn30 19, uX) ∧ RK (kk + mm) ((rr, aa, 0) :: LL) (uX ++ nots mm) cn30 In30 Fn30)); exact ⟨(by exact Or.inl rfl), ⟨fun _ => (by obtain ⟨e9, a9, f9⟩ := Nh_30.1 rfl; exact ⟨e9, cmp_2 hs9 ((congrArg rel (hpk_4.trans (show r_3 = 60 by assumption))).trans (show rel 60 = some 8 by decide)) a9, f9⟩), (fun q => absurd q (by decide))⟩⟩)⟩, by rw [ht]; exact hP, hD⟩, hS.F ht⟩) hS.2.2 dX12_readsCompared_86
      ·
        obtain ⟨kh_30a, kh_30e, kh_30b, kh_30c, kh_30d⟩ := kh_30
        have kh_30f := kh_30a.f
        refine lv_if_ne (tgt := 87) hx hb dX12_readsCompared_82 rfl (fun _ => ?_) (fun h => absurd h cq_eq_1_0)
        have hC2 : CK (cn30 24) (Fn30 28) := by rw [kh_30e]; exact CK.cg hC1 (fun i hi => kh_30c i hi)
        have hC2w := hC2.1
        obtain ⟨o8, hs8, hr8⟩ := Nh_30.2 rfl
        have hrk2 := RK.re hrk1 hr8 kh_30e kh_30c
        refine lv_aload_n hx hb dX12_readsCompared_87 rfl (lvA1 hl) ?_
        refine lv_iload_n hx hb dX12_readsCompared_88 rfl (lvA0 hl) ?_
        refine lv_iconst (v := 0) hx hb dX12_readsCompared_89 kic_0 ?_
        have hFc := free_all hD hS hA
        refine va_callv (runV_a (As := [.int 7, .int 0]) (rest := []) S (q_says l D cI cB cZ g cn30 In30 Fn30 7 0 H.size hIn30 (by (first | omega | (have zz0 := Hid.u hi_cn; have zz1 := Hid.u hi_cn2; have zz2 := Hid.u hi_cn30; have zz3 := Hid.u hq_cn2; have zz4 := Hid.u hq_cn30; omega)))) kV_RX12_270 hK hP hD 0 rfl rfl rfl ⟨Nat.le_of_ble_eq_true rfl, Nat.le_of_ble_eq_true rfl⟩ ⟨Nat.le_of_ble_eq_true rfl, Nat.le_of_ble_eq_true rfl⟩ rfl hl.1 rfl (Nat.le_of_ble_eq_true rfl) dX12_readsCompared_90) hS (fun q _ h => hFc q h) hFc (fun u t H1 locs ht hvm wh_32 hB hz1 hk1 hS => ?_)
        obtain ⟨cn32, In32, Fn32⟩ := u
        obtain ⟨hP1, hD1⟩ := hB
        rw [ht] at hP1
        have vh_32 : (fun c2 I2 F2 => (∀ k : Nat, k ∉ [] → I2 k = In30 k) ∧ (((True) ∧ (va_up cn30 23 ((cn30 23) + 1)) = c2 ∧ (va_up Fn30 27 (upd ((Fn30 27)) ((cn30 23)) (nI (7 * 1048576 + 0)))) = F2))) cn32 In32 Fn32 := wh_32
        obtain ⟨hI32_, vh_32⟩ := vh_32
        obtain ⟨h_32, rfl, rfl⟩ := vh_32
        obtain rfl : In30 = In32 := (funext (fun k => hI32_ k List.not_mem_nil)).symm
        have hP : va_P D vwCl (wM cI cB cZ g (va_up cn30 23 ((cn30 23) + 1)) In30 (va_up Fn30 27 (upd ((Fn30 27)) ((cn30 23)) (nI (7 * 1048576 + 0))))) H1 := hP1
        have hD : va_D A (wM cI cB cZ g (va_up cn30 23 ((cn30 23) + 1)) In30 (va_up Fn30 27 (upd ((Fn30 27)) ((cn30 23)) (nI (7 * 1048576 + 0))))) := hD1.weaken (fun _ _ _ h => hFc _ h)
        generalize H1 = H at hP hS ⊢
        refine lv_aload_n hx hb dX12_readsCompared_93 rfl (lvA1 hl) ?_
        have hFc := free_all hD hS hA
        refine va_callv (runV_a (As := []) (rest := []) S (q_endsPiece9 l D cI cB cZ g (va_up cn30 23 ((cn30 23) + 1)) In30 (va_up Fn30 27 (upd ((Fn30 27)) ((cn30 23)) (nI (7 * 1048576 + 0)))) a0 s0 kk rr aa mm LL (o8 ++ [(8, 0)]) H.size (IM.fr (In := In30) hIn30 (Fr.f 27 (Fr.c 23 Fr.rf)) (by decide) (by decide)) (by have q := PBk.code (o := 7) (x := 0) (w' := cn30 24) (h' := 1) (s' := s0) kh_30a (Nat.le_refl _) (by (first | omega | (have zz0 := Hid.u hi_cn; have zz1 := Hid.u hi_cn2; have zz2 := Hid.u hi_cn30; have zz3 := Hid.u hq_cn2; have zz4 := Hid.u hq_cn30; omega))) (Or.inl rfl) (by decide) (Or.inr (Or.inr (Or.inr ⟨by decide, by decide, by decide, rfl⟩))) (by (first | omega | (have zz0 := Hid.u hi_cn; have zz1 := Hid.u hi_cn2; have zz2 := Hid.u hi_cn30; have zz3 := Hid.u hq_cn2; have zz4 := Hid.u hq_cn30; omega))); exact q) hC2 (RK.say (t := 8) (y := 0) hrk2 (by decide) (by decide) rfl rfl rfl rfl rfl)) kV_RX12_300 hK hP hD 0 rfl rfl rfl ⟨Nat.le_of_ble_eq_true rfl, Nat.le_of_ble_eq_true rfl⟩ ⟨Nat.le_of_ble_eq_true rfl, Nat.le_of_ble_eq_true rfl⟩ rfl hl.1 rfl (Nat.le_of_ble_eq_true rfl) dX12_readsCompared_94) hS (fun q _ h => hFc q h) hFc (fun u t H1 locs ht hvm wh_34 hB hz1 hk1 hS => ?_)
        obtain ⟨cn34, In34, Fn34⟩ := u
        obtain ⟨hP1, hD1⟩ := hB
        rw [ht] at hP1
        have hP : va_P D vwCl (wM cI cB cZ g cn34 In34 Fn34) H1 := hP1
        have hD : va_D A (wM cI cB cZ g cn34 In34 Fn34) := hD1.weaken (fun _ _ _ h => hFc _ h)
        generalize H1 = H at hP hS ⊢
        have vh_34 : (fun c2 I2 F2 => Fr [23, 24] [22] [27] (va_up cn30 23 ((cn30 23) + 1)) In30 (va_up Fn30 27 (upd ((Fn30 27)) ((cn30 23)) (nI (7 * 1048576 + 0)))) c2 I2 F2 ∧ IM c2 F2 ∧ (((PBk (c2 19) (c2 20) (c2 23) (c2 24) (F2 27) (F2 28) a0 1 s0) ∧ (CK (c2 24) (F2 28)) ∧ (∀ k : Nat, k < a0 → F2 27 k = (upd ((Fn30 27)) ((cn30 23)) (nI (7 * 1048576 + 0))) k)) ∧ (RK (kk + mm) ((rr, aa, 0) :: LL) ((o8 ++ [(8, 0)]) ++ nots mm) c2 I2 F2))) cn34 In34 Fn34 := wh_34
        obtain ⟨hfc34, hIn34, h_34⟩ := vh_34
        have hf34 : Fr [19, 23, 24, 26] [21, 22] [27, 28] cn In Fn cn34 In34 Fn34 := Fr.mo (Fr.tr (Fr.f 27 (Fr.c 23 hf30)) hfc34) (sbl rfl) (sbl rfl) (sbl rfl)
        have hi_cn34 : Hid (CB cn34) := hIn34.b
        have : cn34 20 = cn 20 := hf34.1 20 (nml rfl)
        have : cn34 25 = cn 25 := hf34.1 25 (nml rfl)
        have hq_cn34 := Hid.i (frq_19_23_24_26_0_1_2_46_57_58_62_63_75_83_44 hf34)
        have : cn34 19 = (cn30 19) := hfc34.1 19 (nml rfl)
        have : cn34 20 = (cn30 20) := hfc34.1 20 (nml rfl)
        have : cn34 25 = (cn30 25) := hfc34.1 25 (nml rfl)
        obtain ⟨h_34, Nh_34⟩ := h_34
        obtain ⟨h_34a, h_34b, h_34c⟩ := h_34
        have h_34f := h_34a.f
        refine lv_iconst (v := 1) hx hb dX12_readsCompared_97 kic_1 ?_
        exact W.zret (v := 1) hx hb hr rfl (fun t ht hW => ⟨⟨1, (cn34, In34, Fn34), rfl, ⟨(Fr.mo hf34 (sbl rfl) (sbl rfl) (sbl rfl)), hIn34, (by show ((1 : Int32) = 0 ∨ (1 = 1 ∧ PBk (cn34 19) (cn34 20) (cn34 23) (cn34 24) (Fn34 27) (Fn34 28) a0 1 s0 ∧ CK (cn34 24) (Fn34 28) ∧ (∀ k : Nat, k < a0 → Fn34 27 k = Fn 27 k) ∧ cn 19 < cn34 19)) ∧ (((1 : Int32) = 0 → ∃ e9 : Nat, cmpK bb nn kk (cn 19) oo = .error e9 ∧ FLT In34 e9) ∧ ((1 : Int32) = 1 → ∃ uX : OutT, cmpK bb nn kk (cn 19) oo = .ok (cn34 19, uX) ∧ RK (kk + mm) ((rr, aa, 0) :: LL) (uX ++ nots mm) cn34 In34 Fn34)); exact ⟨(by exact Or.inr ⟨rfl, h_34a, h_34b, fun k hk => (h_34c k hk).trans ((upd_lt (by (first | omega | (have zz0 := Hid.u hi_cn; have zz1 := Hid.u hi_cn2; have zz2 := Hid.u hi_cn30; have zz3 := Hid.u hi_cn34; have zz4 := Hid.u hq_cn2; have zz5 := Hid.u hq_cn30; have zz6 := Hid.u hq_cn34; omega)))).trans ((kh_30b k hk).trans (kh_2b k hk))), by (first | omega | (have zz0 := Hid.u hi_cn; have zz1 := Hid.u hi_cn2; have zz2 := Hid.u hi_cn30; have zz3 := Hid.u hi_cn34; have zz4 := Hid.u hq_cn2; have zz5 := Hid.u hq_cn30; have zz6 := Hid.u hq_cn34; omega))⟩), ⟨(fun q => absurd q (by decide)), fun _ => ⟨o8 ++ [(8, 0)], (cmp_2 hs9 ((congrArg rel (hpk_4.trans (show r_3 = 60 by assumption))).trans (show rel 60 = some 8 by decide)) hs8).trans (congrArg (fun p9 => (Except.ok (p9, o8 ++ [(8, 0)]) : ResT)) (show (cn30 19) = (cn34 19) by (first | omega | (have zz0 := Hid.u hi_cn; have zz1 := Hid.u hi_cn2; have zz2 := Hid.u hi_cn30; have zz3 := Hid.u hi_cn34; have zz4 := Hid.u hq_cn2; have zz5 := Hid.u hq_cn30; have zz6 := Hid.u hq_cn34; omega)))), Nh_34⟩⟩⟩)⟩, by rw [ht]; exact hP, hD⟩, hS.F ht⟩) hS.2.2 dX12_readsCompared_98
set_option maxRecDepth 100000 in
set_option maxHeartbeats 4000000 in
theorem q_readsCondition9 (l : Launch) (D : va_G) (cI cB cZ : ClassId) (g : Nat → Nat) (cn : Nat → Nat) (In : Nat → Int32) (Fn : Nat → Nat → Int32) (bb : Nat → Int32) (nn : Nat) (oo : OutT) (sz : Nat) (hI : IM cn Fn) (hp : cn 19 ≤ cn 20) (hn : cn 20 ≤ 160) (h23 : cn 23 ≤ cn 19) (heb : bbM Fn = bb) (hnn : cn 20 = nn) (hsay : SAYm (Fn 27) (cn 23) oo) : Met l yX12_readsCondition (CWS yX12_readsCondition cX12_readsCondition 1 (some .boolean)) (RM 6 0 0) (PBw [.ref (g 100)] D cI cB cZ (wM cI cB cZ g cn In Fn) sz) (va_Qi (fun (r : Int32) (u : (Nat → Nat) × (Nat → Int32) × (Nat → Nat → Int32)) => (fun r c2 I2 F2 => Fr [19, 23, 24, 26] [21, 22] [27, 28] cn In Fn c2 I2 F2 ∧ IM c2 F2 ∧ (((r : Int32) = 0 ∨ (r = 1 ∧ SegOK (F2 27) 0 (cn 23) (c2 23) ∧ cn 23 ≤ c2 23 ∧ c2 23 ≤ c2 19 ∧ (cn 19 ≤ c2 19 ∧ c2 19 ≤ cn 20) ∧ (∀ k : Nat, k < cn 23 → F2 27 k = Fn 27 k))) ∧ (((r : Int32) = 0 → ∃ e9 : Nat, CDV bb nn (cn 19) oo = .error e9 ∧ FLT I2 e9) ∧ ((r : Int32) = 1 → ∃ uX : OutT, CDV bb nn (cn 19) oo = .ok (c2 19, uX) ∧ SAYm (F2 27) (c2 23) uX)))) r u.1 u.2.1 u.2.2) (fun (u : (Nat → Nat) × (Nat → Int32) × (Nat → Nat → Int32)) (t : State) => va_P D vwCl (wM cI cB cZ g u.1 u.2.1 u.2.2) t.heap ∧ va_D (va_A (wM cI cB cZ g cn In Fn) sz) (wM cI cB cZ g u.1 u.2.1 u.2.2)) (va_A (wM cI cB cZ g cn In Fn) sz)) 0 0 (va_A (wM cI cB cZ g cn In Fn) sz) := by
  refine en_w (fun A => (va_Qi (fun (r : Int32) (u : (Nat → Nat) × (Nat → Int32) × (Nat → Nat → Int32)) => (fun (r : Int32) (c2 : Nat → Nat) (I2 : Nat → Int32) (F2 : Nat → Nat → Int32) => Fr [19, 23, 24, 26] [21, 22] [27, 28] cn In Fn c2 I2 F2 ∧ IM c2 F2 ∧ (((r : Int32) = 0 ∨ (r = 1 ∧ SegOK (F2 27) 0 (cn 23) (c2 23) ∧ cn 23 ≤ c2 23 ∧ c2 23 ≤ c2 19 ∧ (cn 19 ≤ c2 19 ∧ c2 19 ≤ cn 20) ∧ (∀ k : Nat, k < cn 23 → F2 27 k = Fn 27 k))) ∧ (((r : Int32) = 0 → ∃ e9 : Nat, CDV bb nn (cn 19) oo = .error e9 ∧ FLT I2 e9) ∧ ((r : Int32) = 1 → ∃ uX : OutT, CDV bb nn (cn 19) oo = .ok (c2 19, uX) ∧ SAYm (F2 27) (c2 23) uX)))) r u.1 u.2.1 u.2.2) (fun (u : (Nat → Nat) × (Nat → Int32) × (Nat → Nat → Int32)) (t : State) => va_P D vwCl (wM cI cB cZ g u.1 u.2.1 u.2.2) t.heap ∧ va_D A (wM cI cB cZ g u.1 u.2.1 u.2.2)) A)) rfl rfl pn_RX12 (Nat.le_of_ble_eq_true rfl) (fun p e s m below meth c A hx hb hml hown S hr hlocks hnm hA hP hK hD hS ls hl => ?_)
  have hl : lv_has ls 1 [(0, .ref (g 100))] := hl
  have hi_cn : Hid (CB cn) := hI.b
  refine lv_aload_n hx hb (oc_42 0 shX12_readsCondition_0) rfl (lvA0 hl) ?_
  refine vp_callSi (runV_ra (As := []) (rest := []) S (q_here l D cI cB cZ g cn In Fn  hI (by (first | omega | (have zz0 := Hid.u hi_cn; omega))) (by (first | omega | (have zz0 := Hid.u hi_cn; omega)))) kV_RX12_239 hK hP 0 rfl rfl rfl ⟨Nat.le_of_ble_eq_true rfl, Nat.le_of_ble_eq_true rfl⟩ ⟨Nat.le_of_ble_eq_true rfl, Nat.le_of_ble_eq_true rfl⟩ rfl hl.1 rfl (Nat.le_of_ble_eq_true rfl) (oc_182 1 (aq_1 shX12_readsCondition_0) uw_0_239)) (fun r_1 h_2 => ?_)
  have hpk_2 : pk bb nn (cn 19) = r_1 := (pk_here (c := cn) (F := Fn) heb (show cn 20 = nn by (first | omega | (have zz0 := Hid.u hi_cn; omega)))).trans h_2.1.symm
  refine lv_bipush (v := 40) hx hb (oc_16 4 (aq_4 shX12_readsCondition_0) sgb_40) kbc_40 ?_
  refine lv_icmp_eq (tgt := 19) hx hb (oc_159 6 (aq_6 shX12_readsCondition_0) sgw_0_13) rfl (fun c_3 => ?_) (fun c_3 => ?_)
  ·
    have tc_3 : (r_1.toInt : Int) = 40 := congrArg Int32.toInt c_3
    refine lv_aload_n hx hb (oc_42 19 (aq_19 shX12_readsCondition_0)) rfl (lvA0 hl) ?_
    refine lv_iconst (v := 0) hx hb (oc_3 20 (aq_20 shX12_readsCondition_0)) kic_0 ?_
    refine pM_261 S hK hP hD hS (In2 := (va_up In 22 0)) rfl (oc_181 21 (aq_21 shX12_readsCondition_0) uw_1_5) (fun H locs hP hD hS => ?_)
    refine lv_aload_n hx hb (oc_42 24 shX12_readsCondition_24) rfl (lvA0 hl) ?_
    refine lv_iconst (v := 0) hx hb (oc_3 25 (aq_1 shX12_readsCondition_24)) kic_0 ?_
    refine pM_264 S hK hP hD hS (a := 0) (cn2 := (va_up cn 24 0)) rfl rfl (oc_181 26 (aq_2 shX12_readsCondition_24) uw_1_8) (fun H locs hP hD hS => ?_)
    refine lv_aload_n hx hb (oc_42 29 (aq_5 shX12_readsCondition_24)) rfl (lvA0 hl) ?_
    refine lv_bipush (v := 13) hx hb (oc_16 30 (aq_6 shX12_readsCondition_24) sgb_13) kbc_13 ?_
    have hFc := free_all hD hS hA
    refine va_calli (runV_a (As := [.int 13]) (rest := []) S (q_opens9 l D cI cB cZ g (va_up cn 24 0) (va_up In 22 0) Fn 13 H.size (IM.fr (In := In) hI (Fr.c 24 Fr.rf) (by decide) (by decide)) (show 0 < 180 by (first | omega | (have zz0 := Hid.u hi_cn; omega)))) kV_RX12_274 hK hP hD 0 rfl rfl rfl ⟨Nat.le_of_ble_eq_true rfl, Nat.le_of_ble_eq_true rfl⟩ ⟨Nat.le_of_ble_eq_true rfl, Nat.le_of_ble_eq_true rfl⟩ rfl hl.1 rfl (Nat.le_of_ble_eq_true rfl) (oc_182 32 (aq_8 shX12_readsCondition_24) uw_1_18)) hS (fun q _ h => hFc q h) hFc (fun r_4 u t H1 locs ht hvm wh_5 hB hz1 hk1 hS => ?_)
    obtain ⟨cn5, In5, Fn5⟩ := u
    obtain ⟨hP1, hD1⟩ := hB
    rw [ht] at hP1
    have vh_5 : (fun r c2 I2 F2 => (∀ k : Nat, k ∉ [21, 22] → I2 k = (va_up In 22 0) k) ∧ ((r = 0 ∧ ((0 : Int32) = 6 ∧ I2 21 = (-1000) * 5 - nI ((cn 19))) ∧ (va_up cn 24 0) = c2 ∧ Fn = F2) ∨ (r = 1 ∧ (¬ (0 : Int32) = 6 ∧ I2 22 = (0 : Int32) + 1) ∧ (va_up (va_up (va_up cn 24 0) 24 (0 + 1)) 19 ((cn 19) + 1)) = c2 ∧ (va_up Fn 28 (upd ((Fn 28)) (0) (nI (13 * 1048576)))) = F2))) r_4 cn5 In5 Fn5 := wh_5
    obtain ⟨hI5_, vh_5⟩ := vh_5
    rcases vh_5 with ⟨rfl, h_5, rfl, rfl⟩ | ⟨rfl, h_5, rfl, rfl⟩
    ·
      have hf5 : Fr [19, 23, 24, 26] [21, 22] [27, 28] cn In Fn cn In5 Fn := Fr.mo (Fr.tr (Fr.i 22 (Fr.rf (cn := cn) (In := In) (Fn := Fn))) (show Fr [] [21, 22] [] cn (va_up In 22 0) Fn cn In5 Fn from ⟨fun _ _ => rfl, hI5_, fun _ _ => rfl⟩)) (sbl rfl) (sbl rfl) (sbl rfl)
      have hP : va_P D vwCl (wM cI cB cZ g (va_up cn 24 0) In5 Fn) H1 := hP1
      have hD : va_D A (wM cI cB cZ g (va_up cn 24 0) In5 Fn) := hD1.weaken (fun _ _ _ h => hFc _ h)
      generalize H1 = H at hP hS ⊢
      refine lv_if_ne (tgt := 40) hx hb dX12_readsCondition_35 rfl (fun h => absurd h cq_eq_0_0) (fun _ => ?_)
      refine lv_iconst (v := 0) hx hb (oc_3 38 (aq_14 shX12_readsCondition_24)) kic_0 ?_
      exact W.zret (v := 0) hx hb hr rfl (fun t ht hW => ⟨⟨0, ((va_up cn 24 0), In5, Fn), rfl, ⟨(Fr.mo (Fr.c 24 hf5) (sbl rfl) (sbl rfl) (sbl rfl)), (IM.fr (In := In5) hI (Fr.c 24 Fr.rf) (by decide) (by decide)), (by show ((0 : Int32) = 0 ∨ (0 = 1 ∧ SegOK (Fn 27) 0 (cn 23) ((va_up cn 24 0) 23) ∧ cn 23 ≤ (va_up cn 24 0) 23 ∧ (va_up cn 24 0) 23 ≤ (va_up cn 24 0) 19 ∧ (cn 19 ≤ (va_up cn 24 0) 19 ∧ (va_up cn 24 0) 19 ≤ cn 20) ∧ (∀ k : Nat, k < cn 23 → Fn 27 k = Fn 27 k))) ∧ (((0 : Int32) = 0 → ∃ e9 : Nat, CDV bb nn (cn 19) oo = .error e9 ∧ FLT In5 e9) ∧ ((0 : Int32) = 1 → ∃ uX : OutT, CDV bb nn (cn 19) oo = .ok ((va_up cn 24 0) 19, uX) ∧ SAYm (Fn 27) ((va_up cn 24 0) 23) uX)); exact ⟨(by exact Or.inl rfl), ⟨fun _ => absurd h_5.1 (by decide), (fun q => absurd q (by decide))⟩⟩)⟩, by rw [ht]; exact hP, hD⟩, hS.F ht⟩) hS.2.2 (oc_172 39 (aq_15 shX12_readsCondition_24))
    ·
      have hf5 : Fr [19, 23, 24, 26] [21, 22] [27, 28] cn In Fn cn In5 Fn := Fr.mo (Fr.tr (Fr.i 22 (Fr.rf (cn := cn) (In := In) (Fn := Fn))) (show Fr [] [21, 22] [] cn (va_up In 22 0) Fn cn In5 Fn from ⟨fun _ _ => rfl, hI5_, fun _ _ => rfl⟩)) (sbl rfl) (sbl rfl) (sbl rfl)
      have hP : va_P D vwCl (wM cI cB cZ g (va_up (va_up (va_up cn 24 0) 24 (0 + 1)) 19 ((cn 19) + 1)) In5 (va_up Fn 28 (upd ((Fn 28)) (0) (nI (13 * 1048576))))) H1 := hP1
      have hD : va_D A (wM cI cB cZ g (va_up (va_up (va_up cn 24 0) 24 (0 + 1)) 19 ((cn 19) + 1)) In5 (va_up Fn 28 (upd ((Fn 28)) (0) (nI (13 * 1048576))))) := hD1.weaken (fun _ _ _ h => hFc _ h)
      generalize H1 = H at hP hS ⊢
      refine lv_if_ne (tgt := 40) hx hb dX12_readsCondition_35 rfl (fun _ => ?_) (fun h => absurd h cq_eq_1_0)
      have lp_40 : ∀ (n : Nat)  (c40 : Nat → Nat) (I40 : Nat → Int32) (F40 : Nat → Nat → Int32) (H : Heap) (locs : List Loc) , cn 20 - c40 19 < n → (Fr [19, 23, 24, 26] [21, 22] [27, 28] cn In Fn c40 I40 F40 ∧ IM c40 F40 ∧ ((PBk (c40 19) (c40 20) (c40 23) (c40 24) (F40 27) (F40 28) (cn 23) 0 0)) ∧ ((CK (c40 24) (F40 28))) ∧ ((∀ k : Nat, k < cn 23 → F40 27 k = Fn 27 k)) ∧ (cn 19 ≤ c40 19) ∧ (R40 bb nn (CDV bb nn (cn 19) oo) c40 I40 F40)) → va_P D vwCl (wM cI cB cZ g c40 I40 F40) H → va_D A (wM cI cB cZ g c40 I40 F40) → va_S A s.heap H locs → ∀ ls : Array Slot, lv_has ls 1 [(0, .ref (g 100))] → W p l e (RM 6 0 0) s m ([.ref (g 100)]).toArray below meth c H locs 0 0 (MQ below (va_Qi (fun (r : Int32) (u : (Nat → Nat) × (Nat → Int32) × (Nat → Nat → Int32)) => (fun r c2 I2 F2 => Fr [19, 23, 24, 26] [21, 22] [27, 28] cn In Fn c2 I2 F2 ∧ IM c2 F2 ∧ (((r : Int32) = 0 ∨ (r = 1 ∧ SegOK (F2 27) 0 (cn 23) (c2 23) ∧ cn 23 ≤ c2 23 ∧ c2 23 ≤ c2 19 ∧ (cn 19 ≤ c2 19 ∧ c2 19 ≤ cn 20) ∧ (∀ k : Nat, k < cn 23 → F2 27 k = Fn 27 k))) ∧ (((r : Int32) = 0 → ∃ e9 : Nat, CDV bb nn (cn 19) oo = .error e9 ∧ FLT I2 e9) ∧ ((r : Int32) = 1 → ∃ uX : OutT, CDV bb nn (cn 19) oo = .ok (c2 19, uX) ∧ SAYm (F2 27) (c2 23) uX)))) r u.1 u.2.1 u.2.2) (fun (u : (Nat → Nat) × (Nat → Int32) × (Nat → Nat → Int32)) (t : State) => va_P D vwCl (wM cI cB cZ g u.1 u.2.1 u.2.2) t.heap ∧ va_D A (wM cI cB cZ g u.1 u.2.1 u.2.2)) A) ([.ref (g 100)]).toArray s 0 0 A) (F0 m 40 ls []) := by
        intro n40
        induction n40 with
        | zero => intros; (first | omega | (have zz0 := Hid.u hi_cn; omega))
        | succ n40 ih40 =>
          intro  c40 I40 F40 H locs hmu40 hinv40 hP hD hS ls hl
          obtain ⟨hfr40, hI40, hx40_0, hx40_1, hx40_2, hx40_3, hx40_4⟩ := hinv40
          have hi_c40 : Hid (CB c40) := hI40.b
          have : c40 20 = cn 20 := hfr40.1 20 (nml rfl)
          have : c40 25 = cn 25 := hfr40.1 25 (nml rfl)
          have hq_c40 := Hid.i (frq_19_23_24_26_0_1_2_46_57_58_62_63_75_83_44 hfr40)
          have hf40 := hx40_0.f
          have hc40 := hx40_1.1
          have hR40 := hx40_4
          obtain ⟨k9, r9, a9, m9, L9, o9, hk9, hw9⟩ := hR40
          refine lv_aload_n hx hb (oc_42 40 (aq_16 shX12_readsCondition_24)) rfl (lvA0 hl) ?_
          refine vp_callSi (runV_ra (As := []) (rest := []) S (q_here l D cI cB cZ g c40 I40 F40  hI40 (by (first | omega | (have zz0 := Hid.u hi_c40; have zz1 := Hid.u hi_cn; have zz2 := Hid.u hq_c40; omega))) (by (first | omega | (have zz0 := Hid.u hi_c40; have zz1 := Hid.u hi_cn; have zz2 := Hid.u hq_c40; omega)))) kV_RX12_239 hK hP 0 rfl rfl rfl ⟨Nat.le_of_ble_eq_true rfl, Nat.le_of_ble_eq_true rfl⟩ ⟨Nat.le_of_ble_eq_true rfl, Nat.le_of_ble_eq_true rfl⟩ rfl hl.1 rfl (Nat.le_of_ble_eq_true rfl) (oc_182 41 (aq_17 shX12_readsCondition_24) uw_0_239)) (fun r_6 h_7 => ?_)
          have hpk_7 : pk bb nn (c40 19) = r_6 := (pk_here (c := c40) (F := F40) (bbM_cg heb (hfr40.2.2 17 (nml rfl))) (show c40 20 = nn by (first | omega | (have zz0 := Hid.u hi_c40; have zz1 := Hid.u hi_cn; have zz2 := Hid.u hq_c40; omega)))).trans h_7.1.symm
          refine lv_bipush (v := 33) hx hb (oc_16 44 (aq_20 shX12_readsCondition_24) sgb_33) kbc_33 ?_
          refine lv_icmp_eq (tgt := 58) hx hb (oc_159 46 (aq_22 shX12_readsCondition_24) sgw_0_12) rfl (fun c_8 => ?_) (fun c_8 => ?_)
          ·
            have tc_8 : (r_6.toInt : Int) = 33 := congrArg Int32.toInt c_8
            refine lv_aload_n hx hb dX12_readsCondition_58 rfl (lvA0 hl) ?_
            refine lv_aload_n hx hb dX12_readsCondition_59 rfl (lvA0 hl) ?_
            refine vp_callSi (runV_ra (As := []) (rest := [.ref (g 100)]) S (q_here l D cI cB cZ g c40 I40 F40  hI40 (by (first | omega | (have zz0 := Hid.u hi_c40; have zz1 := Hid.u hi_cn; have zz2 := Hid.u hq_c40; omega))) (by (first | omega | (have zz0 := Hid.u hi_c40; have zz1 := Hid.u hi_cn; have zz2 := Hid.u hq_c40; omega)))) kV_RX12_239 hK hP 0 rfl rfl rfl ⟨Nat.le_of_ble_eq_true rfl, Nat.le_of_ble_eq_true rfl⟩ ⟨Nat.le_of_ble_eq_true rfl, Nat.le_of_ble_eq_true rfl⟩ rfl hl.1 rfl (Nat.le_of_ble_eq_true rfl) dX12_readsCondition_60) (fun r_9 h_10 => ?_)
            have hpk_10 : pk bb nn (c40 19) = r_9 := (pk_here (c := c40) (F := F40) (bbM_cg heb (hfr40.2.2 17 (nml rfl))) (show c40 20 = nn by (first | omega | (have zz0 := Hid.u hi_c40; have zz1 := Hid.u hi_cn; have zz2 := Hid.u hq_c40; omega)))).trans h_10.1.symm
            refine lv_bipush (v := 33) hx hb dX12_readsCondition_63 kbc_33 ?_
            refine lv_icmp_ne (tgt := 73) hx hb dX12_readsCondition_65 rfl (fun c_11 => ?_) (fun c_11 => ?_)
            ·
              have tc_11 : (r_9.toInt : Int) ≠ 33 := fun q => c_11 (Int32.toInt_inj.mp q)
              refine lv_bipush (v := 13) hx hb dX12_readsCondition_73 kbc_13 ?_
              exact False.elim ((fun q9 => (show ¬ r_9 = 33 by assumption) (hpk_10.symm.trans q9)) (hpk_7.trans (show r_6 = 33 by assumption)))
            ·
              have tc_11 : (r_9.toInt : Int) = 33 := congrArg Int32.toInt c_11
              refine lv_bipush (v := 10) hx hb dX12_readsCondition_68 kbc_10 ?_
              refine lv_goto (tgt := 75) hx hb dX12_readsCondition_70 rfl ?_
              have hFc := free_all hD hS hA
              refine va_calli (runV_a (As := [.int 10]) (rest := []) S (q_opens9 l D cI cB cZ g c40 I40 F40 10 H.size hI40 (by (first | omega | (have zz0 := Hid.u hi_c40; have zz1 := Hid.u hi_cn; have zz2 := Hid.u hq_c40; omega)))) kV_RX12_274 hK hP hD 0 rfl rfl rfl ⟨Nat.le_of_ble_eq_true rfl, Nat.le_of_ble_eq_true rfl⟩ ⟨Nat.le_of_ble_eq_true rfl, Nat.le_of_ble_eq_true rfl⟩ rfl hl.1 rfl (Nat.le_of_ble_eq_true rfl) dX12_readsCondition_75) hS (fun q _ h => hFc q h) hFc (fun r_12 u t H1 locs ht hvm wh_13 hB hz1 hk1 hS => ?_)
              obtain ⟨cn13, In13, Fn13⟩ := u
              obtain ⟨hP1, hD1⟩ := hB
              rw [ht] at hP1
              have vh_13 : (fun r c2 I2 F2 => (∀ k : Nat, k ∉ [21, 22] → I2 k = I40 k) ∧ ((r = 0 ∧ (((I40 22) : Int32) = 6 ∧ I2 21 = (-1000) * 5 - nI ((c40 19))) ∧ c40 = c2 ∧ F40 = F2) ∨ (r = 1 ∧ (¬ ((I40 22) : Int32) = 6 ∧ I2 22 = ((I40 22) : Int32) + 1) ∧ (va_up (va_up c40 24 ((c40 24) + 1)) 19 ((c40 19) + 1)) = c2 ∧ (va_up F40 28 (upd ((F40 28)) ((c40 24)) (nI (10 * 1048576)))) = F2))) r_12 cn13 In13 Fn13 := wh_13
              obtain ⟨hI13_, vh_13⟩ := vh_13
              rcases vh_13 with ⟨rfl, h_13, rfl, rfl⟩ | ⟨rfl, h_13, rfl, rfl⟩
              ·
                have hf13 : Fr [19, 23, 24, 26] [21, 22] [27, 28] cn In Fn c40 In13 F40 := Fr.mo (Fr.tr hfr40 (show Fr [] [21, 22] [] c40 I40 F40 c40 In13 F40 from ⟨fun _ _ => rfl, hI13_, fun _ _ => rfl⟩)) (sbl rfl) (sbl rfl) (sbl rfl)
                have hP : va_P D vwCl (wM cI cB cZ g c40 In13 F40) H1 := hP1
                have hD : va_D A (wM cI cB cZ g c40 In13 F40) := hD1.weaken (fun _ _ _ h => hFc _ h)
                generalize H1 = H at hP hS ⊢
                refine lv_if_ne (tgt := 40) hx hb dX12_readsCondition_78 rfl (fun h => absurd h cq_eq_0_0) (fun _ => ?_)
                refine lv_iconst (v := 0) hx hb dX12_readsCondition_81 kic_0 ?_
                exact W.zret (v := 0) hx hb hr rfl (fun t ht hW => ⟨⟨0, (c40, In13, F40), rfl, ⟨(Fr.mo hf13 (sbl rfl) (sbl rfl) (sbl rfl)), hI40, (by show ((0 : Int32) = 0 ∨ (0 = 1 ∧ SegOK (F40 27) 0 (cn 23) (c40 23) ∧ cn 23 ≤ c40 23 ∧ c40 23 ≤ c40 19 ∧ (cn 19 ≤ c40 19 ∧ c40 19 ≤ cn 20) ∧ (∀ k : Nat, k < cn 23 → F40 27 k = Fn 27 k))) ∧ (((0 : Int32) = 0 → ∃ e9 : Nat, CDV bb nn (cn 19) oo = .error e9 ∧ FLT In13 e9) ∧ ((0 : Int32) = 1 → ∃ uX : OutT, CDV bb nn (cn 19) oo = .ok (c40 19, uX) ∧ SAYm (F40 27) (c40 23) uX)); exact ⟨(by exact Or.inl rfl), ⟨fun _ => ⟨_, R40.err hx40_4 (Or.inl (hpk_10.trans (show r_9 = 33 by assumption))) h_13.1, flt_k (k := 5) (p := c40 19) (by decide) h_13.2⟩, (fun q => absurd q (by decide))⟩⟩)⟩, by rw [ht]; exact hP, hD⟩, hS.F ht⟩) hS.2.2 dX12_readsCondition_82
              ·
                have hf13 : Fr [19, 23, 24, 26] [21, 22] [27, 28] cn In Fn c40 In13 F40 := Fr.mo (Fr.tr hfr40 (show Fr [] [21, 22] [] c40 I40 F40 c40 In13 F40 from ⟨fun _ _ => rfl, hI13_, fun _ _ => rfl⟩)) (sbl rfl) (sbl rfl) (sbl rfl)
                have hP : va_P D vwCl (wM cI cB cZ g (va_up (va_up c40 24 ((c40 24) + 1)) 19 ((c40 19) + 1)) In13 (va_up F40 28 (upd ((F40 28)) ((c40 24)) (nI (10 * 1048576))))) H1 := hP1
                have hD : va_D A (wM cI cB cZ g (va_up (va_up c40 24 ((c40 24) + 1)) 19 ((c40 19) + 1)) In13 (va_up F40 28 (upd ((F40 28)) ((c40 24)) (nI (10 * 1048576))))) := hD1.weaken (fun _ _ _ h => hFc _ h)
                generalize H1 = H at hP hS ⊢
                refine lv_if_ne (tgt := 40) hx hb dX12_readsCondition_78 rfl (fun _ => ?_) (fun h => absurd h cq_eq_1_0)
                exact ih40  (va_up (va_up c40 24 ((c40 24) + 1)) 19 ((c40 19) + 1)) In13 (va_up F40 28 (upd ((F40 28)) ((c40 24)) (nI (10 * 1048576)))) _ _ (show cn 20 - ((c40 19) + 1) < n40 by (first | omega | (have zz0 := Hid.u hi_c40; have zz1 := Hid.u hi_cn; have zz2 := Hid.u hq_c40; omega))) ⟨(Fr.mo (Fr.f 28 (Fr.c 19 (Fr.c 24 hf13))) (sbl rfl) (sbl rfl) (sbl rfl)), (IM.fr (In := In13) hI40 (Fr.f 28 (Fr.c 19 (Fr.c 24 Fr.rf))) (by decide) (by decide)), (by have q := PBk.push (k := 10) (s' := 0) hx40_0 (by (first | omega | (have zz0 := Hid.u hi_c40; have zz1 := Hid.u hi_cn; have zz2 := Hid.u hq_c40; omega))) (by decide) (by decide) (by decide) (by decide); exact q), (by have q := CK.push (k := 10) hx40_1 (by decide) (by decide); exact q), hx40_2, (by show cn 19 ≤ c40 19 + 1; (first | omega | (have zz0 := Hid.u hi_c40; have zz1 := Hid.u hi_cn; have zz2 := Hid.u hq_c40; omega))), (R40.not hx40_4 (hpk_10.trans (show r_9 = 33 by assumption)) h_13.1 h_13.2 rfl rfl rfl rfl rfl)⟩ hP hD hS ls (lv_sub hl [0] rfl)
          ·
            have tc_8 : (r_6.toInt : Int) ≠ 33 := fun q => c_8 (Int32.toInt_inj.mp q)
            refine lv_aload_n hx hb (oc_42 49 shX12_readsCondition_49) rfl (lvA0 hl) ?_
            refine vp_callSi (runV_ra (As := []) (rest := []) S (q_here l D cI cB cZ g c40 I40 F40  hI40 (by (first | omega | (have zz0 := Hid.u hi_c40; have zz1 := Hid.u hi_cn; have zz2 := Hid.u hq_c40; omega))) (by (first | omega | (have zz0 := Hid.u hi_c40; have zz1 := Hid.u hi_cn; have zz2 := Hid.u hq_c40; omega)))) kV_RX12_239 hK hP 0 rfl rfl rfl ⟨Nat.le_of_ble_eq_true rfl, Nat.le_of_ble_eq_true rfl⟩ ⟨Nat.le_of_ble_eq_true rfl, Nat.le_of_ble_eq_true rfl⟩ rfl hl.1 rfl (Nat.le_of_ble_eq_true rfl) (oc_182 50 (aq_1 shX12_readsCondition_49) uw_0_239)) (fun r_14 h_15 => ?_)
            have hpk_15 : pk bb nn (c40 19) = r_14 := (pk_here (c := c40) (F := F40) (bbM_cg heb (hfr40.2.2 17 (nml rfl))) (show c40 20 = nn by (first | omega | (have zz0 := Hid.u hi_c40; have zz1 := Hid.u hi_cn; have zz2 := Hid.u hq_c40; omega)))).trans h_15.1.symm
            refine lv_bipush (v := 40) hx hb (oc_16 53 (aq_4 shX12_readsCondition_49) sgb_40) kbc_40 ?_
            refine lv_icmp_ne (tgt := 83) hx hb (oc_160 55 (aq_6 shX12_readsCondition_49) sgw_0_28) rfl (fun c_16 => ?_) (fun c_16 => ?_)
            ·
              have tc_16 : (r_14.toInt : Int) ≠ 40 := fun q => c_16 (Int32.toInt_inj.mp q)
              refine lv_aload_n hx hb (oc_42 83 (aq_10 shX12_readsCondition_73)) rfl (lvA0 hl) ?_
              have hFc := free_all hD hS hA
              refine va_calli (runV_a (As := []) (rest := []) S (q_readsCompared9 l D cI cB cZ g c40 I40 F40 (cn 23) 0 bb nn k9 r9 a9 m9 L9 o9 H.size hI40 hx40_0 hx40_1 (bbM_cg heb (hfr40.2.2 17 (nml rfl))) (show c40 20 = nn by (first | omega | (have zz0 := Hid.u hi_c40; have zz1 := Hid.u hi_cn; have zz2 := Hid.u hq_c40; omega))) hk9) kV_RX12_303 hK hP hD 0 rfl rfl rfl ⟨Nat.le_of_ble_eq_true rfl, Nat.le_of_ble_eq_true rfl⟩ ⟨Nat.le_of_ble_eq_true rfl, Nat.le_of_ble_eq_true rfl⟩ rfl hl.1 rfl (Nat.le_of_ble_eq_true rfl) (oc_182 84 (aq_11 shX12_readsCondition_73) uw_1_47)) hS (fun q _ h => hFc q h) hFc (fun r_17 u t H1 locs ht hvm wh_18 hB hz1 hk1 hS => ?_)
              obtain ⟨cn18, In18, Fn18⟩ := u
              obtain ⟨hP1, hD1⟩ := hB
              rw [ht] at hP1
              have hP : va_P D vwCl (wM cI cB cZ g cn18 In18 Fn18) H1 := hP1
              have hD : va_D A (wM cI cB cZ g cn18 In18 Fn18) := hD1.weaken (fun _ _ _ h => hFc _ h)
              generalize H1 = H at hP hS ⊢
              have vh_18 : (fun r c2 I2 F2 => Fr [19, 23, 24, 26] [21, 22] [27, 28] c40 I40 F40 c2 I2 F2 ∧ IM c2 F2 ∧ (((r : Int32) = 0 ∨ (r = 1 ∧ PBk (c2 19) (c2 20) (c2 23) (c2 24) (F2 27) (F2 28) (cn 23) 1 0 ∧ CK (c2 24) (F2 28) ∧ (∀ k : Nat, k < (cn 23) → F2 27 k = (F40 27) k) ∧ (c40 19) < c2 19)) ∧ (((r : Int32) = 0 → ∃ e9 : Nat, cmpK bb nn k9 ((c40 19)) o9 = .error e9 ∧ FLT I2 e9) ∧ ((r : Int32) = 1 → ∃ uX : OutT, cmpK bb nn k9 ((c40 19)) o9 = .ok (c2 19, uX) ∧ RK (k9 + m9) ((r9, a9, 0) :: L9) (uX ++ nots m9) c2 I2 F2)))) r_17 cn18 In18 Fn18 := wh_18
              obtain ⟨hfc18, hIn18, h_18⟩ := vh_18
              have hf18 : Fr [19, 23, 24, 26] [21, 22] [27, 28] cn In Fn cn18 In18 Fn18 := Fr.mo (Fr.tr hfr40 hfc18) (sbl rfl) (sbl rfl) (sbl rfl)
              have hi_cn18 : Hid (CB cn18) := hIn18.b
              have : cn18 20 = cn 20 := hf18.1 20 (nml rfl)
              have : cn18 25 = cn 25 := hf18.1 25 (nml rfl)
              have hq_cn18 := Hid.i (frq_19_23_24_26_0_1_2_46_57_58_62_63_75_83_44 hf18)
              have : cn18 20 = (c40 20) := hfc18.1 20 (nml rfl)
              have : cn18 25 = (c40 25) := hfc18.1 25 (nml rfl)
              obtain ⟨h_18, Nh_18⟩ := h_18
              rcases h_18 with rfl | ⟨rfl, kh_18⟩
              ·
                refine lv_if_ne (tgt := 92) hx hb dX12_readsCondition_87 rfl (fun h => absurd h cq_eq_0_0) (fun _ => ?_)
                refine lv_iconst (v := 0) hx hb (oc_3 90 (aq_17 shX12_readsCondition_73)) kic_0 ?_
                exact W.zret (v := 0) hx hb hr rfl (fun t ht hW => ⟨⟨0, (cn18, In18, Fn18), rfl, ⟨(Fr.mo hf18 (sbl rfl) (sbl rfl) (sbl rfl)), hIn18, (by show ((0 : Int32) = 0 ∨ (0 = 1 ∧ SegOK (Fn18 27) 0 (cn 23) (cn18 23) ∧ cn 23 ≤ cn18 23 ∧ cn18 23 ≤ cn18 19 ∧ (cn 19 ≤ cn18 19 ∧ cn18 19 ≤ cn 20) ∧ (∀ k : Nat, k < cn 23 → Fn18 27 k = Fn 27 k))) ∧ (((0 : Int32) = 0 → ∃ e9 : Nat, CDV bb nn (cn 19) oo = .error e9 ∧ FLT In18 e9) ∧ ((0 : Int32) = 1 → ∃ uX : OutT, CDV bb nn (cn 19) oo = .ok (cn18 19, uX) ∧ SAYm (Fn18 27) (cn18 23) uX)); exact ⟨(by exact Or.inl rfl), ⟨fun _ => (by obtain ⟨e9, a9_, f9⟩ := Nh_18.1 rfl; exact ⟨e9, hw9.trans ((WT_c (fun q9 => (show ¬ r_6 = 33 by assumption) (hpk_7.symm.trans q9)) (fun q9 => (show ¬ r_14 = 40 by assumption) (hpk_15.symm.trans q9))).trans (by rw [a9_]; rfl)), f9⟩), (fun q => absurd q (by decide))⟩⟩)⟩, by rw [ht]; exact hP, hD⟩, hS.F ht⟩) hS.2.2 (oc_172 91 (aq_18 shX12_readsCondition_73))
              ·
                obtain ⟨kh_18a, kh_18b, kh_18c, kh_18d⟩ := kh_18
                have kh_18f := kh_18a.f
                refine lv_if_ne (tgt := 92) hx hb dX12_readsCondition_87 rfl (fun _ => ?_) (fun h => absurd h cq_eq_1_0)
                have lp_92 : ∀ (n : Nat)  (c92 : Nat → Nat) (I92 : Nat → Int32) (F92 : Nat → Nat → Int32) (H : Heap) (locs : List Loc) , cn 20 - c92 19 < n → (Fr [19, 23, 24, 26] [21, 22] [27, 28] cn In Fn c92 I92 F92 ∧ IM c92 F92 ∧ ((PBk (c92 19) (c92 20) (c92 23) (c92 24) (F92 27) (F92 28) (cn 23) 1 0)) ∧ ((CK (c92 24) (F92 28))) ∧ ((∀ k : Nat, k < cn 23 → F92 27 k = Fn 27 k)) ∧ (c40 19 < c92 19) ∧ (R92 bb nn (CDV bb nn (cn 19) oo) c92 I92 F92)) → va_P D vwCl (wM cI cB cZ g c92 I92 F92) H → va_D A (wM cI cB cZ g c92 I92 F92) → va_S A s.heap H locs → ∀ ls : Array Slot, lv_has ls 1 [(0, .ref (g 100))] → W p l e (RM 6 0 0) s m ([.ref (g 100)]).toArray below meth c H locs 0 0 (MQ below (va_Qi (fun (r : Int32) (u : (Nat → Nat) × (Nat → Int32) × (Nat → Nat → Int32)) => (fun r c2 I2 F2 => Fr [19, 23, 24, 26] [21, 22] [27, 28] cn In Fn c2 I2 F2 ∧ IM c2 F2 ∧ (((r : Int32) = 0 ∨ (r = 1 ∧ SegOK (F2 27) 0 (cn 23) (c2 23) ∧ cn 23 ≤ c2 23 ∧ c2 23 ≤ c2 19 ∧ (cn 19 ≤ c2 19 ∧ c2 19 ≤ cn 20) ∧ (∀ k : Nat, k < cn 23 → F2 27 k = Fn 27 k))) ∧ (((r : Int32) = 0 → ∃ e9 : Nat, CDV bb nn (cn 19) oo = .error e9 ∧ FLT I2 e9) ∧ ((r : Int32) = 1 → ∃ uX : OutT, CDV bb nn (cn 19) oo = .ok (c2 19, uX) ∧ SAYm (F2 27) (c2 23) uX)))) r u.1 u.2.1 u.2.2) (fun (u : (Nat → Nat) × (Nat → Int32) × (Nat → Nat → Int32)) (t : State) => va_P D vwCl (wM cI cB cZ g u.1 u.2.1 u.2.2) t.heap ∧ va_D A (wM cI cB cZ g u.1 u.2.1 u.2.2)) A) ([.ref (g 100)]).toArray s 0 0 A) (F0 m 92 ls []) := by
                  intro n92
                  induction n92 with
                  | zero => intros; (first | omega | (have zz0 := Hid.u hi_c40; have zz1 := Hid.u hi_cn; have zz2 := Hid.u hi_cn18; have zz3 := Hid.u hq_c40; have zz4 := Hid.u hq_cn18; omega))
                  | succ n92 ih92 =>
                    intro  c92 I92 F92 H locs hmu92 hinv92 hP hD hS ls hl
                    obtain ⟨hfr92, hI92, hx92_0, hx92_1, hx92_2, hx92_3, hx92_4⟩ := hinv92
                    have hi_c92 : Hid (CB c92) := hI92.b
                    have : c92 20 = cn 20 := hfr92.1 20 (nml rfl)
                    have : c92 25 = cn 25 := hfr92.1 25 (nml rfl)
                    have hq_c92 := Hid.i (frq_19_23_24_26_0_1_2_46_57_58_62_63_75_83_44 hfr92)
                    have hf92 := hx92_0.f
                    have hc92 := hx92_1.1
                    have hR92 := hx92_4
                    obtain ⟨k8, r8, a8, L8, o8, hk8, hx8⟩ := hR92
                    refine lv_aload_n hx hb (oc_42 92 (aq_19 shX12_readsCondition_73)) rfl (lvA0 hl) ?_
                    refine vp_callSi (runV_ra (As := []) (rest := []) S (q_here l D cI cB cZ g c92 I92 F92  hI92 (by (first | omega | (have zz0 := Hid.u hi_c40; have zz1 := Hid.u hi_c92; have zz2 := Hid.u hi_cn; have zz3 := Hid.u hi_cn18; have zz4 := Hid.u hq_c40; have zz5 := Hid.u hq_c92; have zz6 := Hid.u hq_cn18; omega))) (by (first | omega | (have zz0 := Hid.u hi_c40; have zz1 := Hid.u hi_c92; have zz2 := Hid.u hi_cn; have zz3 := Hid.u hi_cn18; have zz4 := Hid.u hq_c40; have zz5 := Hid.u hq_c92; have zz6 := Hid.u hq_cn18; omega)))) kV_RX12_239 hK hP 0 rfl rfl rfl ⟨Nat.le_of_ble_eq_true rfl, Nat.le_of_ble_eq_true rfl⟩ ⟨Nat.le_of_ble_eq_true rfl, Nat.le_of_ble_eq_true rfl⟩ rfl hl.1 rfl (Nat.le_of_ble_eq_true rfl) (oc_182 93 (aq_20 shX12_readsCondition_73) uw_0_239)) (fun r_19 h_20 => ?_)
                    have hpk_20 : pk bb nn (c92 19) = r_19 := (pk_here (c := c92) (F := F92) (bbM_cg heb (hfr92.2.2 17 (nml rfl))) (show c92 20 = nn by (first | omega | (have zz0 := Hid.u hi_c40; have zz1 := Hid.u hi_c92; have zz2 := Hid.u hi_cn; have zz3 := Hid.u hi_cn18; have zz4 := Hid.u hq_c40; have zz5 := Hid.u hq_c92; have zz6 := Hid.u hq_cn18; omega)))).trans h_20.1.symm
                    refine lv_bipush (v := 41) hx hb (oc_16 96 (aq_23 shX12_readsCondition_73) sgb_41) kbc_41 ?_
                    refine lv_icmp_ne (tgt := 152) hx hb (oc_160 98 shX12_readsCondition_98 sgw_0_54) rfl (fun c_21 => ?_) (fun c_21 => ?_)
                    ·
                      have tc_21 : (r_19.toInt : Int) ≠ 41 := fun q => c_21 (Int32.toInt_inj.mp q)
                      refine lv_aload_n hx hb (oc_42 152 (aq_6 shX12_readsCondition_146)) rfl (lvA0 hl) ?_
                      refine vp_callSi (runV_ra (As := []) (rest := []) S (q_here l D cI cB cZ g c92 I92 F92  hI92 (by (first | omega | (have zz0 := Hid.u hi_c40; have zz1 := Hid.u hi_c92; have zz2 := Hid.u hi_cn; have zz3 := Hid.u hi_cn18; have zz4 := Hid.u hq_c40; have zz5 := Hid.u hq_c92; have zz6 := Hid.u hq_cn18; omega))) (by (first | omega | (have zz0 := Hid.u hi_c40; have zz1 := Hid.u hi_c92; have zz2 := Hid.u hi_cn; have zz3 := Hid.u hi_cn18; have zz4 := Hid.u hq_c40; have zz5 := Hid.u hq_c92; have zz6 := Hid.u hq_cn18; omega)))) kV_RX12_239 hK hP 0 rfl rfl rfl ⟨Nat.le_of_ble_eq_true rfl, Nat.le_of_ble_eq_true rfl⟩ ⟨Nat.le_of_ble_eq_true rfl, Nat.le_of_ble_eq_true rfl⟩ rfl hl.1 rfl (Nat.le_of_ble_eq_true rfl) (oc_182 153 (aq_7 shX12_readsCondition_146) uw_0_239)) (fun r_22 h_23 => ?_)
                      have hpk_23 : pk bb nn (c92 19) = r_22 := (pk_here (c := c92) (F := F92) (bbM_cg heb (hfr92.2.2 17 (nml rfl))) (show c92 20 = nn by (first | omega | (have zz0 := Hid.u hi_c40; have zz1 := Hid.u hi_c92; have zz2 := Hid.u hi_cn; have zz3 := Hid.u hi_cn18; have zz4 := Hid.u hq_c40; have zz5 := Hid.u hq_c92; have zz6 := Hid.u hq_cn18; omega)))).trans h_23.1.symm
                      refine lv_bipush (v := 38) hx hb (oc_16 156 (aq_10 shX12_readsCondition_146) sgb_38) kbc_38 ?_
                      refine lv_icmp_eq (tgt := 180) hx hb (oc_159 158 (aq_12 shX12_readsCondition_146) sgw_0_22) rfl (fun c_24 => ?_) (fun c_24 => ?_)
                      ·
                        have tc_24 : (r_22.toInt : Int) = 38 := congrArg Int32.toInt c_24
                        refine lv_aload_n hx hb dX12_readsCondition_180 rfl (lvA0 hl) ?_
                        refine lv_aload_n hx hb dX12_readsCondition_181 rfl (lvA0 hl) ?_
                        refine vp_callSi (runV_ra (As := []) (rest := [.ref (g 100)]) S (q_here l D cI cB cZ g c92 I92 F92  hI92 (by (first | omega | (have zz0 := Hid.u hi_c40; have zz1 := Hid.u hi_c92; have zz2 := Hid.u hi_cn; have zz3 := Hid.u hi_cn18; have zz4 := Hid.u hq_c40; have zz5 := Hid.u hq_c92; have zz6 := Hid.u hq_cn18; omega))) (by (first | omega | (have zz0 := Hid.u hi_c40; have zz1 := Hid.u hi_c92; have zz2 := Hid.u hi_cn; have zz3 := Hid.u hi_cn18; have zz4 := Hid.u hq_c40; have zz5 := Hid.u hq_c92; have zz6 := Hid.u hq_cn18; omega)))) kV_RX12_239 hK hP 0 rfl rfl rfl ⟨Nat.le_of_ble_eq_true rfl, Nat.le_of_ble_eq_true rfl⟩ ⟨Nat.le_of_ble_eq_true rfl, Nat.le_of_ble_eq_true rfl⟩ rfl hl.1 rfl (Nat.le_of_ble_eq_true rfl) dX12_readsCondition_182) (fun r_25 h_26 => ?_)
                        have hpk_26 : pk bb nn (c92 19) = r_25 := (pk_here (c := c92) (F := F92) (bbM_cg heb (hfr92.2.2 17 (nml rfl))) (show c92 20 = nn by (first | omega | (have zz0 := Hid.u hi_c40; have zz1 := Hid.u hi_c92; have zz2 := Hid.u hi_cn; have zz3 := Hid.u hi_cn18; have zz4 := Hid.u hq_c40; have zz5 := Hid.u hq_c92; have zz6 := Hid.u hq_cn18; omega)))).trans h_26.1.symm
                        refine lv_bipush (v := 124) hx hb dX12_readsCondition_185 kbc_124 ?_
                        refine lv_icmp_ne (tgt := 194) hx hb dX12_readsCondition_187 rfl (fun c_27 => ?_) (fun c_27 => ?_)
                        ·
                          have tc_27 : (r_25.toInt : Int) ≠ 124 := fun q => c_27 (Int32.toInt_inj.mp q)
                          refine lv_iconst (v := 0) hx hb dX12_readsCondition_194 kic_0 ?_
                          have hFc := free_all hD hS hA
                          refine va_callv (runV_a (As := [.int 0]) (rest := []) S (q_lands9 l D cI cB cZ g c92 I92 F92 (cn 23) 0 0 k8 r8 a8 L8 o8 H.size hI92 hx92_0 hx92_1 hk8) kV_RX12_306 hK hP hD 0 rfl rfl rfl ⟨Nat.le_of_ble_eq_true rfl, Nat.le_of_ble_eq_true rfl⟩ ⟨Nat.le_of_ble_eq_true rfl, Nat.le_of_ble_eq_true rfl⟩ rfl hl.1 rfl (Nat.le_of_ble_eq_true rfl) dX12_readsCondition_195) hS (fun q _ h => hFc q h) hFc (fun u t H1 locs ht hvm wh_29 hB hz1 hk1 hS => ?_)
                          obtain ⟨cn29, In29, Fn29⟩ := u
                          obtain ⟨hP1, hD1⟩ := hB
                          rw [ht] at hP1
                          have hP : va_P D vwCl (wM cI cB cZ g cn29 In29 Fn29) H1 := hP1
                          have hD : va_D A (wM cI cB cZ g cn29 In29 Fn29) := hD1.weaken (fun _ _ _ h => hFc _ h)
                          generalize H1 = H at hP hS ⊢
                          have vh_29 : (fun c2 I2 F2 => Fr [24] [] [27] c92 I92 F92 c2 I2 F2 ∧ IM c2 F2 ∧ (((PBk (c2 19) (c2 20) (c2 23) (c2 24) (F2 27) (F2 28) (cn 23) 1 0) ∧ (CK (c2 24) (F2 28)) ∧ (∀ k : Nat, k < (cn 23) → F2 27 k = (F92 27) k) ∧ (¬ (0 : Int32) = 0 → ¬ (11 ≤ kd (F2 28 (c2 24 - 1)) ∧ kd (F2 28 (c2 24 - 1)) ≤ 12))) ∧ (((0 : Int32) = 0 → RK k8 ((r8, none, 0) :: L8) (aimO o8 a8) c2 I2 F2) ∧ (¬ (0 : Int32) = 0 → RK k8 ((none, none, 0) :: L8) (aimO (aimO o8 a8) r8) c2 I2 F2)))) cn29 In29 Fn29 := wh_29
                          obtain ⟨hfc29, hIn29, h_29⟩ := vh_29
                          obtain rfl : I92 = In29 := (funext (fun k => hfc29.2.1 k List.not_mem_nil)).symm
                          have hf29 : Fr [19, 23, 24, 26] [21, 22] [27, 28] cn In Fn cn29 I92 Fn29 := Fr.mo (Fr.tr hfr92 hfc29) (sbl rfl) (sbl rfl) (sbl rfl)
                          have hi_cn29 : Hid (CB cn29) := hIn29.b
                          have : cn29 20 = cn 20 := hf29.1 20 (nml rfl)
                          have : cn29 25 = cn 25 := hf29.1 25 (nml rfl)
                          have hq_cn29 := Hid.i (frq_19_23_24_26_0_1_2_46_57_58_62_63_75_83_44 hf29)
                          have : cn29 19 = (c92 19) := hfc29.1 19 (nml rfl)
                          have : cn29 20 = (c92 20) := hfc29.1 20 (nml rfl)
                          have : cn29 23 = (c92 23) := hfc29.1 23 (nml rfl)
                          have : cn29 25 = (c92 25) := hfc29.1 25 (nml rfl)
                          obtain ⟨h_29, Nh_29⟩ := h_29
                          obtain ⟨h_29a, h_29b, h_29c, h_29d⟩ := h_29
                          have h_29f := h_29a.f
                          have hldc := h_29b.1
                          refine lv_aload_n hx hb dX12_readsCondition_198 rfl (lvA0 hl) ?_
                          refine lv_aload_n hx hb dX12_readsCondition_199 rfl (lvA0 hl) ?_
                          refine vp_callSi (runV_ra (As := []) (rest := [.ref (g 100)]) S (q_here l D cI cB cZ g cn29 I92 Fn29  hIn29 (by (first | omega | (have zz0 := Hid.u hi_c40; have zz1 := Hid.u hi_c92; have zz2 := Hid.u hi_cn; have zz3 := Hid.u hi_cn18; have zz4 := Hid.u hi_cn29; have zz5 := Hid.u hq_c40; have zz6 := Hid.u hq_c92; have zz7 := Hid.u hq_cn18; have zz8 := Hid.u hq_cn29; omega))) (by (first | omega | (have zz0 := Hid.u hi_c40; have zz1 := Hid.u hi_c92; have zz2 := Hid.u hi_cn; have zz3 := Hid.u hi_cn18; have zz4 := Hid.u hi_cn29; have zz5 := Hid.u hq_c40; have zz6 := Hid.u hq_c92; have zz7 := Hid.u hq_cn18; have zz8 := Hid.u hq_cn29; omega)))) kV_RX12_239 hK hP 0 rfl rfl rfl ⟨Nat.le_of_ble_eq_true rfl, Nat.le_of_ble_eq_true rfl⟩ ⟨Nat.le_of_ble_eq_true rfl, Nat.le_of_ble_eq_true rfl⟩ rfl hl.1 rfl (Nat.le_of_ble_eq_true rfl) dX12_readsCondition_200) (fun r_30 h_31 => ?_)
                          have hpk_31 : pk bb nn (cn29 19) = r_30 := (pk_here (c := cn29) (F := Fn29) (bbM_cg heb (hf29.2.2 17 (nml rfl))) (show cn29 20 = nn by (first | omega | (have zz0 := Hid.u hi_c40; have zz1 := Hid.u hi_c92; have zz2 := Hid.u hi_cn; have zz3 := Hid.u hi_cn18; have zz4 := Hid.u hi_cn29; have zz5 := Hid.u hq_c40; have zz6 := Hid.u hq_c92; have zz7 := Hid.u hq_cn18; have zz8 := Hid.u hq_cn29; omega)))).trans h_31.1.symm
                          rw [show (cn29 19) = c92 19 by (first | omega | (have zz0 := Hid.u hi_c40; have zz1 := Hid.u hi_c92; have zz2 := Hid.u hi_cn; have zz3 := Hid.u hi_cn18; have zz4 := Hid.u hi_cn29; have zz5 := Hid.u hq_c40; have zz6 := Hid.u hq_c92; have zz7 := Hid.u hq_cn18; have zz8 := Hid.u hq_cn29; omega))] at hpk_31
                          refine lv_bipush (v := 38) hx hb dX12_readsCondition_203 kbc_38 ?_
                          refine lv_icmp_ne (tgt := 213) hx hb dX12_readsCondition_205 rfl (fun c_32 => ?_) (fun c_32 => ?_)
                          ·
                            have tc_32 : (r_30.toInt : Int) ≠ 38 := fun q => c_32 (Int32.toInt_inj.mp q)
                            refine lv_bipush (v := 12) hx hb dX12_readsCondition_213 kbc_12 ?_
                            exact False.elim ((fun q9 => (show ¬ r_30 = 38 by assumption) (hpk_31.symm.trans q9)) (hpk_23.trans (show r_22 = 38 by assumption)))
                          ·
                            have tc_32 : (r_30.toInt : Int) = 38 := congrArg Int32.toInt c_32
                            refine lv_bipush (v := 11) hx hb dX12_readsCondition_208 kbc_11 ?_
                            refine lv_goto (tgt := 215) hx hb dX12_readsCondition_210 rfl ?_
                            have hFc := free_all hD hS hA
                            refine va_callv (runV_a (As := [.int 11]) (rest := []) S (q_jumps l D cI cB cZ g cn29 I92 Fn29 11 H.size hIn29 (by (first | omega | (have zz0 := Hid.u hi_c40; have zz1 := Hid.u hi_c92; have zz2 := Hid.u hi_cn; have zz3 := Hid.u hi_cn18; have zz4 := Hid.u hi_cn29; have zz5 := Hid.u hq_c40; have zz6 := Hid.u hq_c92; have zz7 := Hid.u hq_cn18; have zz8 := Hid.u hq_cn29; omega))) (by (first | omega | (have zz0 := Hid.u hi_c40; have zz1 := Hid.u hi_c92; have zz2 := Hid.u hi_cn; have zz3 := Hid.u hi_cn18; have zz4 := Hid.u hi_cn29; have zz5 := Hid.u hq_c40; have zz6 := Hid.u hq_c92; have zz7 := Hid.u hq_cn18; have zz8 := Hid.u hq_cn29; omega)))) kV_RX12_309 hK hP hD 0 rfl rfl rfl ⟨Nat.le_of_ble_eq_true rfl, Nat.le_of_ble_eq_true rfl⟩ ⟨Nat.le_of_ble_eq_true rfl, Nat.le_of_ble_eq_true rfl⟩ rfl hl.1 rfl (Nat.le_of_ble_eq_true rfl) dX12_readsCondition_215) hS (fun q _ h => hFc q h) hFc (fun u t H1 locs ht hvm wh_34 hB hz1 hk1 hS => ?_)
                            obtain ⟨cn34, In34, Fn34⟩ := u
                            obtain ⟨hP1, hD1⟩ := hB
                            rw [ht] at hP1
                            have vh_34 : (fun c2 I2 F2 => (∀ k : Nat, k ∉ [] → I2 k = I92 k) ∧ (((True) ∧ (va_up (va_up (va_up cn29 24 ((cn29 24) + 1)) 23 ((cn29 23) + 1)) 19 ((cn29 19) + 1)) = c2 ∧ (va_up (va_up Fn29 28 (upd ((Fn29 28)) ((cn29 24)) (nI (1048576 * 11 + (cn29 23))))) 27 (upd ((Fn29 27)) ((cn29 23)) (nI (11 * 1048576 + 0)))) = F2))) cn34 In34 Fn34 := wh_34
                            obtain ⟨hI34_, vh_34⟩ := vh_34
                            obtain ⟨h_34, rfl, rfl⟩ := vh_34
                            obtain rfl : I92 = In34 := (funext (fun k => hI34_ k List.not_mem_nil)).symm
                            have hP : va_P D vwCl (wM cI cB cZ g (va_up (va_up (va_up cn29 24 ((cn29 24) + 1)) 23 ((cn29 23) + 1)) 19 ((cn29 19) + 1)) I92 (va_up (va_up Fn29 28 (upd ((Fn29 28)) ((cn29 24)) (nI (1048576 * 11 + (cn29 23))))) 27 (upd ((Fn29 27)) ((cn29 23)) (nI (11 * 1048576 + 0))))) H1 := hP1
                            have hD : va_D A (wM cI cB cZ g (va_up (va_up (va_up cn29 24 ((cn29 24) + 1)) 23 ((cn29 23) + 1)) 19 ((cn29 19) + 1)) I92 (va_up (va_up Fn29 28 (upd ((Fn29 28)) ((cn29 24)) (nI (1048576 * 11 + (cn29 23))))) 27 (upd ((Fn29 27)) ((cn29 23)) (nI (11 * 1048576 + 0))))) := hD1.weaken (fun _ _ _ h => hFc _ h)
                            generalize H1 = H at hP hS ⊢
                            refine lv_goto (tgt := 40) hx hb dX12_readsCondition_218 rfl ?_
                            exact ih40  (va_up (va_up (va_up cn29 24 ((cn29 24) + 1)) 23 ((cn29 23) + 1)) 19 ((cn29 19) + 1)) I92 (va_up (va_up Fn29 28 (upd ((Fn29 28)) ((cn29 24)) (nI (1048576 * 11 + (cn29 23))))) 27 (upd ((Fn29 27)) ((cn29 23)) (nI (11 * 1048576 + 0)))) _ _ (show cn 20 - ((cn29 19) + 1) < n40 by (first | omega | (have zz0 := Hid.u hi_c40; have zz1 := Hid.u hi_c92; have zz2 := Hid.u hi_cn; have zz3 := Hid.u hi_cn18; have zz4 := Hid.u hi_cn29; have zz5 := Hid.u hq_c40; have zz6 := Hid.u hq_c92; have zz7 := Hid.u hq_cn18; have zz8 := Hid.u hq_cn29; omega))) ⟨(Fr.mo (Fr.f 27 (Fr.f 28 (Fr.c 19 (Fr.c 23 (Fr.c 24 hf29))))) (sbl rfl) (sbl rfl) (sbl rfl)), (IM.fr (In := I92) hIn29 (Fr.f 27 (Fr.f 28 (Fr.c 19 (Fr.c 23 (Fr.c 24 Fr.rf))))) (by decide) (by decide)), (by have q := PBk.jump (k := 11) h_29a (by (first | omega | (have zz0 := Hid.u hi_c40; have zz1 := Hid.u hi_c92; have zz2 := Hid.u hi_cn; have zz3 := Hid.u hi_cn18; have zz4 := Hid.u hi_cn29; have zz5 := Hid.u hq_c40; have zz6 := Hid.u hq_c92; have zz7 := Hid.u hq_cn18; have zz8 := Hid.u hq_cn29; omega))) (by decide); exact q), (by have q := CK.jump (k := 11) (v := cn29 23) h_29b (by decide) (by (first | omega | (have zz0 := Hid.u hi_c40; have zz1 := Hid.u hi_c92; have zz2 := Hid.u hi_cn; have zz3 := Hid.u hi_cn18; have zz4 := Hid.u hi_cn29; have zz5 := Hid.u hq_c40; have zz6 := Hid.u hq_c92; have zz7 := Hid.u hq_cn18; have zz8 := Hid.u hq_cn29; omega))); exact q), (fun k hk => (upd_lt (by (first | omega | (have zz0 := Hid.u hi_c40; have zz1 := Hid.u hi_c92; have zz2 := Hid.u hi_cn; have zz3 := Hid.u hi_cn18; have zz4 := Hid.u hi_cn29; have zz5 := Hid.u hq_c40; have zz6 := Hid.u hq_c92; have zz7 := Hid.u hq_cn18; have zz8 := Hid.u hq_cn29; omega)))).trans ((h_29c k hk).trans (hx92_2 k hk))), (by show cn 19 ≤ cn29 19 + 1; (first | omega | (have zz0 := Hid.u hi_c40; have zz1 := Hid.u hi_c92; have zz2 := Hid.u hi_cn; have zz3 := Hid.u hi_cn18; have zz4 := Hid.u hi_cn29; have zz5 := Hid.u hq_c40; have zz6 := Hid.u hq_c92; have zz7 := Hid.u hq_cn18; have zz8 := Hid.u hq_cn29; omega))), (R40.jA hx8 (hpk_23.trans (show r_22 = 38 by assumption)) rfl (by (first | omega | (have zz0 := Hid.u hi_c40; have zz1 := Hid.u hi_c92; have zz2 := Hid.u hi_cn; have zz3 := Hid.u hi_cn18; have zz4 := Hid.u hi_cn29; have zz5 := Hid.u hq_c40; have zz6 := Hid.u hq_c92; have zz7 := Hid.u hq_cn18; have zz8 := Hid.u hq_cn29; omega))) (Nh_29.1 rfl) rfl (by show ((cn29 19) + 1) = c92 19 + 1; (first | omega | (have zz0 := Hid.u hi_c40; have zz1 := Hid.u hi_c92; have zz2 := Hid.u hi_cn; have zz3 := Hid.u hi_cn18; have zz4 := Hid.u hi_cn29; have zz5 := Hid.u hq_c40; have zz6 := Hid.u hq_c92; have zz7 := Hid.u hq_cn18; have zz8 := Hid.u hq_cn29; omega))) rfl rfl rfl rfl)⟩ hP hD hS ls (lv_sub hl [0] rfl)
                        ·
                          have tc_27 : (r_25.toInt : Int) = 124 := congrArg Int32.toInt c_27
                          refine lv_iconst (v := 1) hx hb dX12_readsCondition_190 kic_1 ?_
                          refine lv_goto (tgt := 195) hx hb dX12_readsCondition_191 rfl ?_
                          exact False.elim (absurd ((hpk_23.trans (show r_22 = 38 by assumption)).symm.trans (hpk_26.trans (show r_25 = 124 by assumption))) (by decide))
                      ·
                        have tc_24 : (r_22.toInt : Int) ≠ 38 := fun q => c_24 (Int32.toInt_inj.mp q)
                        refine lv_aload_n hx hb (oc_42 161 (aq_15 shX12_readsCondition_146)) rfl (lvA0 hl) ?_
                        refine vp_callSi (runV_ra (As := []) (rest := []) S (q_here l D cI cB cZ g c92 I92 F92  hI92 (by (first | omega | (have zz0 := Hid.u hi_c40; have zz1 := Hid.u hi_c92; have zz2 := Hid.u hi_cn; have zz3 := Hid.u hi_cn18; have zz4 := Hid.u hq_c40; have zz5 := Hid.u hq_c92; have zz6 := Hid.u hq_cn18; omega))) (by (first | omega | (have zz0 := Hid.u hi_c40; have zz1 := Hid.u hi_c92; have zz2 := Hid.u hi_cn; have zz3 := Hid.u hi_cn18; have zz4 := Hid.u hq_c40; have zz5 := Hid.u hq_c92; have zz6 := Hid.u hq_cn18; omega)))) kV_RX12_239 hK hP 0 rfl rfl rfl ⟨Nat.le_of_ble_eq_true rfl, Nat.le_of_ble_eq_true rfl⟩ ⟨Nat.le_of_ble_eq_true rfl, Nat.le_of_ble_eq_true rfl⟩ rfl hl.1 rfl (Nat.le_of_ble_eq_true rfl) (oc_182 162 (aq_16 shX12_readsCondition_146) uw_0_239)) (fun r_35 h_36 => ?_)
                        have hpk_36 : pk bb nn (c92 19) = r_35 := (pk_here (c := c92) (F := F92) (bbM_cg heb (hfr92.2.2 17 (nml rfl))) (show c92 20 = nn by (first | omega | (have zz0 := Hid.u hi_c40; have zz1 := Hid.u hi_c92; have zz2 := Hid.u hi_cn; have zz3 := Hid.u hi_cn18; have zz4 := Hid.u hq_c40; have zz5 := Hid.u hq_c92; have zz6 := Hid.u hq_cn18; omega)))).trans h_36.1.symm
                        refine lv_bipush (v := 124) hx hb (oc_16 165 (aq_19 shX12_readsCondition_146) sgb_124) kbc_124 ?_
                        refine lv_icmp_eq (tgt := 180) hx hb (oc_159 167 (aq_21 shX12_readsCondition_146) sgw_0_13) rfl (fun c_37 => ?_) (fun c_37 => ?_)
                        ·
                          have tc_37 : (r_35.toInt : Int) = 124 := congrArg Int32.toInt c_37
                          refine lv_aload_n hx hb dX12_readsCondition_180 rfl (lvA0 hl) ?_
                          refine lv_aload_n hx hb dX12_readsCondition_181 rfl (lvA0 hl) ?_
                          refine vp_callSi (runV_ra (As := []) (rest := [.ref (g 100)]) S (q_here l D cI cB cZ g c92 I92 F92  hI92 (by (first | omega | (have zz0 := Hid.u hi_c40; have zz1 := Hid.u hi_c92; have zz2 := Hid.u hi_cn; have zz3 := Hid.u hi_cn18; have zz4 := Hid.u hq_c40; have zz5 := Hid.u hq_c92; have zz6 := Hid.u hq_cn18; omega))) (by (first | omega | (have zz0 := Hid.u hi_c40; have zz1 := Hid.u hi_c92; have zz2 := Hid.u hi_cn; have zz3 := Hid.u hi_cn18; have zz4 := Hid.u hq_c40; have zz5 := Hid.u hq_c92; have zz6 := Hid.u hq_cn18; omega)))) kV_RX12_239 hK hP 0 rfl rfl rfl ⟨Nat.le_of_ble_eq_true rfl, Nat.le_of_ble_eq_true rfl⟩ ⟨Nat.le_of_ble_eq_true rfl, Nat.le_of_ble_eq_true rfl⟩ rfl hl.1 rfl (Nat.le_of_ble_eq_true rfl) dX12_readsCondition_182) (fun r_38 h_39 => ?_)
                          have hpk_39 : pk bb nn (c92 19) = r_38 := (pk_here (c := c92) (F := F92) (bbM_cg heb (hfr92.2.2 17 (nml rfl))) (show c92 20 = nn by (first | omega | (have zz0 := Hid.u hi_c40; have zz1 := Hid.u hi_c92; have zz2 := Hid.u hi_cn; have zz3 := Hid.u hi_cn18; have zz4 := Hid.u hq_c40; have zz5 := Hid.u hq_c92; have zz6 := Hid.u hq_cn18; omega)))).trans h_39.1.symm
                          refine lv_bipush (v := 124) hx hb dX12_readsCondition_185 kbc_124 ?_
                          refine lv_icmp_ne (tgt := 194) hx hb dX12_readsCondition_187 rfl (fun c_40 => ?_) (fun c_40 => ?_)
                          ·
                            have tc_40 : (r_38.toInt : Int) ≠ 124 := fun q => c_40 (Int32.toInt_inj.mp q)
                            refine lv_iconst (v := 0) hx hb dX12_readsCondition_194 kic_0 ?_
                            exact False.elim ((fun q9 => (show ¬ r_38 = 124 by assumption) (hpk_39.symm.trans q9)) (hpk_36.trans (show r_35 = 124 by assumption)))
                          ·
                            have tc_40 : (r_38.toInt : Int) = 124 := congrArg Int32.toInt c_40
                            refine lv_iconst (v := 1) hx hb dX12_readsCondition_190 kic_1 ?_
                            refine lv_goto (tgt := 195) hx hb dX12_readsCondition_191 rfl ?_
                            have hFc := free_all hD hS hA
                            refine va_callv (runV_a (As := [.int 1]) (rest := []) S (q_lands9 l D cI cB cZ g c92 I92 F92 (cn 23) 0 1 k8 r8 a8 L8 o8 H.size hI92 hx92_0 hx92_1 hk8) kV_RX12_306 hK hP hD 0 rfl rfl rfl ⟨Nat.le_of_ble_eq_true rfl, Nat.le_of_ble_eq_true rfl⟩ ⟨Nat.le_of_ble_eq_true rfl, Nat.le_of_ble_eq_true rfl⟩ rfl hl.1 rfl (Nat.le_of_ble_eq_true rfl) dX12_readsCondition_195) hS (fun q _ h => hFc q h) hFc (fun u t H1 locs ht hvm wh_42 hB hz1 hk1 hS => ?_)
                            obtain ⟨cn42, In42, Fn42⟩ := u
                            obtain ⟨hP1, hD1⟩ := hB
                            rw [ht] at hP1
                            have hP : va_P D vwCl (wM cI cB cZ g cn42 In42 Fn42) H1 := hP1
                            have hD : va_D A (wM cI cB cZ g cn42 In42 Fn42) := hD1.weaken (fun _ _ _ h => hFc _ h)
                            generalize H1 = H at hP hS ⊢
                            have vh_42 : (fun c2 I2 F2 => Fr [24] [] [27] c92 I92 F92 c2 I2 F2 ∧ IM c2 F2 ∧ (((PBk (c2 19) (c2 20) (c2 23) (c2 24) (F2 27) (F2 28) (cn 23) 1 0) ∧ (CK (c2 24) (F2 28)) ∧ (∀ k : Nat, k < (cn 23) → F2 27 k = (F92 27) k) ∧ (¬ (1 : Int32) = 0 → ¬ (11 ≤ kd (F2 28 (c2 24 - 1)) ∧ kd (F2 28 (c2 24 - 1)) ≤ 12))) ∧ (((1 : Int32) = 0 → RK k8 ((r8, none, 0) :: L8) (aimO o8 a8) c2 I2 F2) ∧ (¬ (1 : Int32) = 0 → RK k8 ((none, none, 0) :: L8) (aimO (aimO o8 a8) r8) c2 I2 F2)))) cn42 In42 Fn42 := wh_42
                            obtain ⟨hfc42, hIn42, h_42⟩ := vh_42
                            obtain rfl : I92 = In42 := (funext (fun k => hfc42.2.1 k List.not_mem_nil)).symm
                            have hf42 : Fr [19, 23, 24, 26] [21, 22] [27, 28] cn In Fn cn42 I92 Fn42 := Fr.mo (Fr.tr hfr92 hfc42) (sbl rfl) (sbl rfl) (sbl rfl)
                            have hi_cn42 : Hid (CB cn42) := hIn42.b
                            have : cn42 20 = cn 20 := hf42.1 20 (nml rfl)
                            have : cn42 25 = cn 25 := hf42.1 25 (nml rfl)
                            have hq_cn42 := Hid.i (frq_19_23_24_26_0_1_2_46_57_58_62_63_75_83_44 hf42)
                            have : cn42 19 = (c92 19) := hfc42.1 19 (nml rfl)
                            have : cn42 20 = (c92 20) := hfc42.1 20 (nml rfl)
                            have : cn42 23 = (c92 23) := hfc42.1 23 (nml rfl)
                            have : cn42 25 = (c92 25) := hfc42.1 25 (nml rfl)
                            obtain ⟨h_42, Nh_42⟩ := h_42
                            obtain ⟨h_42a, h_42b, h_42c, h_42d⟩ := h_42
                            have h_42f := h_42a.f
                            have hldc := h_42b.1
                            refine lv_aload_n hx hb dX12_readsCondition_198 rfl (lvA0 hl) ?_
                            refine lv_aload_n hx hb dX12_readsCondition_199 rfl (lvA0 hl) ?_
                            refine vp_callSi (runV_ra (As := []) (rest := [.ref (g 100)]) S (q_here l D cI cB cZ g cn42 I92 Fn42  hIn42 (by (first | omega | (have zz0 := Hid.u hi_c40; have zz1 := Hid.u hi_c92; have zz2 := Hid.u hi_cn; have zz3 := Hid.u hi_cn18; have zz4 := Hid.u hi_cn42; have zz5 := Hid.u hq_c40; have zz6 := Hid.u hq_c92; have zz7 := Hid.u hq_cn18; have zz8 := Hid.u hq_cn42; omega))) (by (first | omega | (have zz0 := Hid.u hi_c40; have zz1 := Hid.u hi_c92; have zz2 := Hid.u hi_cn; have zz3 := Hid.u hi_cn18; have zz4 := Hid.u hi_cn42; have zz5 := Hid.u hq_c40; have zz6 := Hid.u hq_c92; have zz7 := Hid.u hq_cn18; have zz8 := Hid.u hq_cn42; omega)))) kV_RX12_239 hK hP 0 rfl rfl rfl ⟨Nat.le_of_ble_eq_true rfl, Nat.le_of_ble_eq_true rfl⟩ ⟨Nat.le_of_ble_eq_true rfl, Nat.le_of_ble_eq_true rfl⟩ rfl hl.1 rfl (Nat.le_of_ble_eq_true rfl) dX12_readsCondition_200) (fun r_43 h_44 => ?_)
                            have hpk_44 : pk bb nn (cn42 19) = r_43 := (pk_here (c := cn42) (F := Fn42) (bbM_cg heb (hf42.2.2 17 (nml rfl))) (show cn42 20 = nn by (first | omega | (have zz0 := Hid.u hi_c40; have zz1 := Hid.u hi_c92; have zz2 := Hid.u hi_cn; have zz3 := Hid.u hi_cn18; have zz4 := Hid.u hi_cn42; have zz5 := Hid.u hq_c40; have zz6 := Hid.u hq_c92; have zz7 := Hid.u hq_cn18; have zz8 := Hid.u hq_cn42; omega)))).trans h_44.1.symm
                            rw [show (cn42 19) = c92 19 by (first | omega | (have zz0 := Hid.u hi_c40; have zz1 := Hid.u hi_c92; have zz2 := Hid.u hi_cn; have zz3 := Hid.u hi_cn18; have zz4 := Hid.u hi_cn42; have zz5 := Hid.u hq_c40; have zz6 := Hid.u hq_c92; have zz7 := Hid.u hq_cn18; have zz8 := Hid.u hq_cn42; omega))] at hpk_44
                            refine lv_bipush (v := 38) hx hb dX12_readsCondition_203 kbc_38 ?_
                            refine lv_icmp_ne (tgt := 213) hx hb dX12_readsCondition_205 rfl (fun c_45 => ?_) (fun c_45 => ?_)
                            ·
                              have tc_45 : (r_43.toInt : Int) ≠ 38 := fun q => c_45 (Int32.toInt_inj.mp q)
                              refine lv_bipush (v := 12) hx hb dX12_readsCondition_213 kbc_12 ?_
                              have hFc := free_all hD hS hA
                              refine va_callv (runV_a (As := [.int 12]) (rest := []) S (q_jumps l D cI cB cZ g cn42 I92 Fn42 12 H.size hIn42 (by (first | omega | (have zz0 := Hid.u hi_c40; have zz1 := Hid.u hi_c92; have zz2 := Hid.u hi_cn; have zz3 := Hid.u hi_cn18; have zz4 := Hid.u hi_cn42; have zz5 := Hid.u hq_c40; have zz6 := Hid.u hq_c92; have zz7 := Hid.u hq_cn18; have zz8 := Hid.u hq_cn42; omega))) (by (first | omega | (have zz0 := Hid.u hi_c40; have zz1 := Hid.u hi_c92; have zz2 := Hid.u hi_cn; have zz3 := Hid.u hi_cn18; have zz4 := Hid.u hi_cn42; have zz5 := Hid.u hq_c40; have zz6 := Hid.u hq_c92; have zz7 := Hid.u hq_cn18; have zz8 := Hid.u hq_cn42; omega)))) kV_RX12_309 hK hP hD 0 rfl rfl rfl ⟨Nat.le_of_ble_eq_true rfl, Nat.le_of_ble_eq_true rfl⟩ ⟨Nat.le_of_ble_eq_true rfl, Nat.le_of_ble_eq_true rfl⟩ rfl hl.1 rfl (Nat.le_of_ble_eq_true rfl) dX12_readsCondition_215) hS (fun q _ h => hFc q h) hFc (fun u t H1 locs ht hvm wh_47 hB hz1 hk1 hS => ?_)
                              obtain ⟨cn47, In47, Fn47⟩ := u
                              obtain ⟨hP1, hD1⟩ := hB
                              rw [ht] at hP1
                              have vh_47 : (fun c2 I2 F2 => (∀ k : Nat, k ∉ [] → I2 k = I92 k) ∧ (((True) ∧ (va_up (va_up (va_up cn42 24 ((cn42 24) + 1)) 23 ((cn42 23) + 1)) 19 ((cn42 19) + 1)) = c2 ∧ (va_up (va_up Fn42 28 (upd ((Fn42 28)) ((cn42 24)) (nI (1048576 * 12 + (cn42 23))))) 27 (upd ((Fn42 27)) ((cn42 23)) (nI (12 * 1048576 + 0)))) = F2))) cn47 In47 Fn47 := wh_47
                              obtain ⟨hI47_, vh_47⟩ := vh_47
                              obtain ⟨h_47, rfl, rfl⟩ := vh_47
                              obtain rfl : I92 = In47 := (funext (fun k => hI47_ k List.not_mem_nil)).symm
                              have hP : va_P D vwCl (wM cI cB cZ g (va_up (va_up (va_up cn42 24 ((cn42 24) + 1)) 23 ((cn42 23) + 1)) 19 ((cn42 19) + 1)) I92 (va_up (va_up Fn42 28 (upd ((Fn42 28)) ((cn42 24)) (nI (1048576 * 12 + (cn42 23))))) 27 (upd ((Fn42 27)) ((cn42 23)) (nI (12 * 1048576 + 0))))) H1 := hP1
                              have hD : va_D A (wM cI cB cZ g (va_up (va_up (va_up cn42 24 ((cn42 24) + 1)) 23 ((cn42 23) + 1)) 19 ((cn42 19) + 1)) I92 (va_up (va_up Fn42 28 (upd ((Fn42 28)) ((cn42 24)) (nI (1048576 * 12 + (cn42 23))))) 27 (upd ((Fn42 27)) ((cn42 23)) (nI (12 * 1048576 + 0))))) := hD1.weaken (fun _ _ _ h => hFc _ h)
                              generalize H1 = H at hP hS ⊢
                              refine lv_goto (tgt := 40) hx hb dX12_readsCondition_218 rfl ?_
                              exact ih40  (va_up (va_up (va_up cn42 24 ((cn42 24) + 1)) 23 ((cn42 23) + 1)) 19 ((cn42 19) + 1)) I92 (va_up (va_up Fn42 28 (upd ((Fn42 28)) ((cn42 24)) (nI (1048576 * 12 + (cn42 23))))) 27 (upd ((Fn42 27)) ((cn42 23)) (nI (12 * 1048576 + 0)))) _ _ (show cn 20 - ((cn42 19) + 1) < n40 by (first | omega | (have zz0 := Hid.u hi_c40; have zz1 := Hid.u hi_c92; have zz2 := Hid.u hi_cn; have zz3 := Hid.u hi_cn18; have zz4 := Hid.u hi_cn42; have zz5 := Hid.u hq_c40; have zz6 := Hid.u hq_c92; have zz7 := Hid.u hq_cn18; have zz8 := Hid.u hq_cn42; omega))) ⟨(Fr.mo (Fr.f 27 (Fr.f 28 (Fr.c 19 (Fr.c 23 (Fr.c 24 hf42))))) (sbl rfl) (sbl rfl) (sbl rfl)), (IM.fr (In := I92) hIn42 (Fr.f 27 (Fr.f 28 (Fr.c 19 (Fr.c 23 (Fr.c 24 Fr.rf))))) (by decide) (by decide)), (by have q := PBk.jump (k := 12) h_42a (by (first | omega | (have zz0 := Hid.u hi_c40; have zz1 := Hid.u hi_c92; have zz2 := Hid.u hi_cn; have zz3 := Hid.u hi_cn18; have zz4 := Hid.u hi_cn42; have zz5 := Hid.u hq_c40; have zz6 := Hid.u hq_c92; have zz7 := Hid.u hq_cn18; have zz8 := Hid.u hq_cn42; omega))) (by decide); exact q), (by have q := CK.jump (k := 12) (v := cn42 23) h_42b (by decide) (by (first | omega | (have zz0 := Hid.u hi_c40; have zz1 := Hid.u hi_c92; have zz2 := Hid.u hi_cn; have zz3 := Hid.u hi_cn18; have zz4 := Hid.u hi_cn42; have zz5 := Hid.u hq_c40; have zz6 := Hid.u hq_c92; have zz7 := Hid.u hq_cn18; have zz8 := Hid.u hq_cn42; omega))); exact q), (fun k hk => (upd_lt (by (first | omega | (have zz0 := Hid.u hi_c40; have zz1 := Hid.u hi_c92; have zz2 := Hid.u hi_cn; have zz3 := Hid.u hi_cn18; have zz4 := Hid.u hi_cn42; have zz5 := Hid.u hq_c40; have zz6 := Hid.u hq_c92; have zz7 := Hid.u hq_cn18; have zz8 := Hid.u hq_cn42; omega)))).trans ((h_42c k hk).trans (hx92_2 k hk))), (by show cn 19 ≤ cn42 19 + 1; (first | omega | (have zz0 := Hid.u hi_c40; have zz1 := Hid.u hi_c92; have zz2 := Hid.u hi_cn; have zz3 := Hid.u hi_cn18; have zz4 := Hid.u hi_cn42; have zz5 := Hid.u hq_c40; have zz6 := Hid.u hq_c92; have zz7 := Hid.u hq_cn18; have zz8 := Hid.u hq_cn42; omega))), (R40.jO hx8 (hpk_36.trans (show r_35 = 124 by assumption)) rfl (by (first | omega | (have zz0 := Hid.u hi_c40; have zz1 := Hid.u hi_c92; have zz2 := Hid.u hi_cn; have zz3 := Hid.u hi_cn18; have zz4 := Hid.u hi_cn42; have zz5 := Hid.u hq_c40; have zz6 := Hid.u hq_c92; have zz7 := Hid.u hq_cn18; have zz8 := Hid.u hq_cn42; omega))) (Nh_42.2 (by decide)) rfl (by show ((cn42 19) + 1) = c92 19 + 1; (first | omega | (have zz0 := Hid.u hi_c40; have zz1 := Hid.u hi_c92; have zz2 := Hid.u hi_cn; have zz3 := Hid.u hi_cn18; have zz4 := Hid.u hi_cn42; have zz5 := Hid.u hq_c40; have zz6 := Hid.u hq_c92; have zz7 := Hid.u hq_cn18; have zz8 := Hid.u hq_cn42; omega))) rfl rfl rfl rfl)⟩ hP hD hS ls (lv_sub hl [0] rfl)
                            ·
                              have tc_45 : (r_43.toInt : Int) = 38 := congrArg Int32.toInt c_45
                              refine lv_bipush (v := 11) hx hb dX12_readsCondition_208 kbc_11 ?_
                              refine lv_goto (tgt := 215) hx hb dX12_readsCondition_210 rfl ?_
                              exact False.elim (absurd ((hpk_36.trans (show r_35 = 124 by assumption)).symm.trans (hpk_44.trans (show r_43 = 38 by assumption))) (by decide))
                        ·
                          have tc_37 : (r_35.toInt : Int) ≠ 124 := fun q => c_37 (Int32.toInt_inj.mp q)
                          refine lv_aload_n hx hb (oc_42 170 shX12_readsCondition_170) rfl (lvA0 hl) ?_
                          refine lv_iconst (v := 1) hx hb (oc_4 171 (aq_1 shX12_readsCondition_170)) kic_1 ?_
                          refine lv_aload_n hx hb (oc_42 172 (aq_2 shX12_readsCondition_170)) rfl (lvA0 hl) ?_
                          refine gM_233 S hK hP (v := .int (nI (c92 19))) rfl (oc_180 173 (aq_3 shX12_readsCondition_170) uw_0_233) ?_
                          have hFc := free_all hD hS hA
                          refine va_calli (runV_a (As := [.int 1, .int (nI (c92 19))]) (rest := []) S (q_wrong9 l D cI cB cZ g c92 I92 F92 1 (nI (c92 19)) H.size hI92) kV_RX12_246 hK hP hD 0 rfl rfl rfl ⟨Nat.le_of_ble_eq_true rfl, Nat.le_of_ble_eq_true rfl⟩ ⟨Nat.le_of_ble_eq_true rfl, Nat.le_of_ble_eq_true rfl⟩ rfl hl.1 rfl (Nat.le_of_ble_eq_true rfl) (oc_182 176 (aq_6 shX12_readsCondition_170) uw_0_246)) hS (fun q _ h => hFc q h) hFc (fun r_48 u t H1 locs ht hvm wh_49 hB hz1 hk1 hS => ?_)
                          obtain ⟨cn49, In49, Fn49⟩ := u
                          obtain ⟨hP1, hD1⟩ := hB
                          rw [ht] at hP1
                          have vh_49 : (fun r c2 I2 F2 => (∀ k : Nat, k ∉ [21] → I2 k = I92 k) ∧ ((r = 0 ∧ (I2 21 = (-1000) * 1 - (nI (c92 19))) ∧ c92 = c2 ∧ F92 = F2))) r_48 cn49 In49 Fn49 := wh_49
                          obtain ⟨hI49_, vh_49⟩ := vh_49
                          obtain ⟨rfl, h_49, rfl, rfl⟩ := vh_49
                          have hf49 : Fr [19, 23, 24, 26] [21, 22] [27, 28] cn In Fn c92 In49 F92 := Fr.mo (Fr.tr hfr92 (show Fr [] [21] [] c92 I92 F92 c92 In49 F92 from ⟨fun _ _ => rfl, hI49_, fun _ _ => rfl⟩)) (sbl rfl) (sbl rfl) (sbl rfl)
                          have hP : va_P D vwCl (wM cI cB cZ g c92 In49 F92) H1 := hP1
                          have hD : va_D A (wM cI cB cZ g c92 In49 F92) := hD1.weaken (fun _ _ _ h => hFc _ h)
                          generalize H1 = H at hP hS ⊢
                          exact W.zret (v := 0) hx hb hr rfl (fun t ht hW => ⟨⟨0, (c92, In49, F92), rfl, ⟨(Fr.mo hf49 (sbl rfl) (sbl rfl) (sbl rfl)), hI92, (by show ((0 : Int32) = 0 ∨ (0 = 1 ∧ SegOK (F92 27) 0 (cn 23) (c92 23) ∧ cn 23 ≤ c92 23 ∧ c92 23 ≤ c92 19 ∧ (cn 19 ≤ c92 19 ∧ c92 19 ≤ cn 20) ∧ (∀ k : Nat, k < cn 23 → F92 27 k = Fn 27 k))) ∧ (((0 : Int32) = 0 → ∃ e9 : Nat, CDV bb nn (cn 19) oo = .error e9 ∧ FLT In49 e9) ∧ ((0 : Int32) = 1 → ∃ uX : OutT, CDV bb nn (cn 19) oo = .ok (c92 19, uX) ∧ SAYm (F92 27) (c92 23) uX)); exact ⟨(by exact Or.inl rfl), ⟨fun _ => ⟨_, R92.err hx8 (fun q9 => (show ¬ r_19 = 41 by assumption) (hpk_20.symm.trans q9)) (fun q9 => (show ¬ r_22 = 38 by assumption) (hpk_23.symm.trans q9)) (fun q9 => (show ¬ r_35 = 124 by assumption) (hpk_36.symm.trans q9)), flt_k (k := 1) (p := c92 19) (by decide) h_49⟩, (fun q => absurd q (by decide))⟩⟩)⟩, by rw [ht]; exact hP, hD⟩, hS.F ht⟩) hS.2.2 (oc_172 179 (aq_9 shX12_readsCondition_170))
                    ·
                      have tc_21 : (r_19.toInt : Int) = 41 := congrArg Int32.toInt c_21
                      refine lv_aload_n hx hb (oc_42 101 (aq_3 shX12_readsCondition_98)) rfl (lvA0 hl) ?_
                      refine lv_iconst (v := 1) hx hb (oc_4 102 (aq_4 shX12_readsCondition_98)) kic_1 ?_
                      have hFc := free_all hD hS hA
                      refine va_callv (runV_a (As := [.int 1]) (rest := []) S (q_lands9 l D cI cB cZ g c92 I92 F92 (cn 23) 0 1 k8 r8 a8 L8 o8 H.size hI92 hx92_0 hx92_1 hk8) kV_RX12_306 hK hP hD 0 rfl rfl rfl ⟨Nat.le_of_ble_eq_true rfl, Nat.le_of_ble_eq_true rfl⟩ ⟨Nat.le_of_ble_eq_true rfl, Nat.le_of_ble_eq_true rfl⟩ rfl hl.1 rfl (Nat.le_of_ble_eq_true rfl) (oc_182 103 (aq_5 shX12_readsCondition_98) uw_1_50)) hS (fun q _ h => hFc q h) hFc (fun u t H1 locs ht hvm wh_51 hB hz1 hk1 hS => ?_)
                      obtain ⟨cn51, In51, Fn51⟩ := u
                      obtain ⟨hP1, hD1⟩ := hB
                      rw [ht] at hP1
                      have hP : va_P D vwCl (wM cI cB cZ g cn51 In51 Fn51) H1 := hP1
                      have hD : va_D A (wM cI cB cZ g cn51 In51 Fn51) := hD1.weaken (fun _ _ _ h => hFc _ h)
                      generalize H1 = H at hP hS ⊢
                      have vh_51 : (fun c2 I2 F2 => Fr [24] [] [27] c92 I92 F92 c2 I2 F2 ∧ IM c2 F2 ∧ (((PBk (c2 19) (c2 20) (c2 23) (c2 24) (F2 27) (F2 28) (cn 23) 1 0) ∧ (CK (c2 24) (F2 28)) ∧ (∀ k : Nat, k < (cn 23) → F2 27 k = (F92 27) k) ∧ (¬ (1 : Int32) = 0 → ¬ (11 ≤ kd (F2 28 (c2 24 - 1)) ∧ kd (F2 28 (c2 24 - 1)) ≤ 12))) ∧ (((1 : Int32) = 0 → RK k8 ((r8, none, 0) :: L8) (aimO o8 a8) c2 I2 F2) ∧ (¬ (1 : Int32) = 0 → RK k8 ((none, none, 0) :: L8) (aimO (aimO o8 a8) r8) c2 I2 F2)))) cn51 In51 Fn51 := wh_51
                      obtain ⟨hfc51, hIn51, h_51⟩ := vh_51
                      obtain rfl : I92 = In51 := (funext (fun k => hfc51.2.1 k List.not_mem_nil)).symm
                      have hf51 : Fr [19, 23, 24, 26] [21, 22] [27, 28] cn In Fn cn51 I92 Fn51 := Fr.mo (Fr.tr hfr92 hfc51) (sbl rfl) (sbl rfl) (sbl rfl)
                      have hi_cn51 : Hid (CB cn51) := hIn51.b
                      have : cn51 20 = cn 20 := hf51.1 20 (nml rfl)
                      have : cn51 25 = cn 25 := hf51.1 25 (nml rfl)
                      have hq_cn51 := Hid.i (frq_19_23_24_26_0_1_2_46_57_58_62_63_75_83_44 hf51)
                      have : cn51 19 = (c92 19) := hfc51.1 19 (nml rfl)
                      have : cn51 20 = (c92 20) := hfc51.1 20 (nml rfl)
                      have : cn51 23 = (c92 23) := hfc51.1 23 (nml rfl)
                      have : cn51 25 = (c92 25) := hfc51.1 25 (nml rfl)
                      obtain ⟨h_51, Nh_51⟩ := h_51
                      obtain ⟨h_51a, h_51b, h_51c, h_51d⟩ := h_51
                      have h_51f := h_51a.f
                      have hldc := h_51b.1
                      refine lv_aload_n hx hb (oc_42 106 (aq_8 shX12_readsCondition_98)) rfl (lvA0 hl) ?_
                      refine lv_aload_n hx hb (oc_42 107 (aq_9 shX12_readsCondition_98)) rfl (lvA0 hl) ?_
                      refine gM_264 S hK hP (v := .int (nI (cn51 24))) rfl (oc_180 108 (aq_10 shX12_readsCondition_98) uw_1_8) ?_
                      refine lv_iconst (v := 1) hx hb (oc_4 111 (aq_13 shX12_readsCondition_98)) kic_1 ?_
                      refine lv_isub hx hb (oc_100 112 (aq_14 shX12_readsCondition_98)) ?_
                      refine lv_topi (fun y_52 ey_52 => ?_)
                      obtain rfl : y_52 = (nI ((cn51 24) - 1)) := ey_52.trans (nI_sub (b := 1) (by (first | omega | (have zz0 := Hid.u hi_c40; have zz1 := Hid.u hi_c92; have zz2 := Hid.u hi_cn; have zz3 := Hid.u hi_cn18; have zz4 := Hid.u hi_cn51; have zz5 := Hid.u hq_c40; have zz6 := Hid.u hq_c92; have zz7 := Hid.u hq_cn18; have zz8 := Hid.u hq_cn51; omega))))
                      refine pM_264 S hK hP hD hS (a := ((cn51 24) - 1)) (cn2 := (va_up cn51 24 ((cn51 24) - 1))) rfl rfl (oc_181 113 (aq_15 shX12_readsCondition_98) uw_1_8) (fun H locs hP hD hS => ?_)
                      refine lv_aload_n hx hb (oc_42 116 (aq_18 shX12_readsCondition_98)) rfl (lvA0 hl) ?_
                      refine lv_aload_n hx hb (oc_42 117 (aq_19 shX12_readsCondition_98)) rfl (lvA0 hl) ?_
                      refine gM_261 S hK hP (v := .int (I92 22)) rfl (oc_180 118 (aq_20 shX12_readsCondition_98) uw_1_5) ?_
                      refine lv_iconst (v := 1) hx hb (oc_4 121 (aq_23 shX12_readsCondition_98)) kic_1 ?_
                      refine lv_isub hx hb (oc_100 122 shX12_readsCondition_122) ?_
                      refine pM_261 S hK hP hD hS (In2 := (va_up I92 22 ((I92 22) - 1))) rfl (oc_181 123 (aq_1 shX12_readsCondition_122) uw_1_5) (fun H locs hP hD hS => ?_)
                      refine lv_aload_n hx hb (oc_42 126 (aq_4 shX12_readsCondition_122)) rfl (lvA0 hl) ?_
                      refine lv_aload_n hx hb (oc_42 127 (aq_5 shX12_readsCondition_122)) rfl (lvA0 hl) ?_
                      refine gM_233 S hK hP (v := .int (nI (cn51 19))) rfl (oc_180 128 (aq_6 shX12_readsCondition_122) uw_0_233) ?_
                      refine lv_iconst (v := 1) hx hb (oc_4 131 (aq_9 shX12_readsCondition_122)) kic_1 ?_
                      refine lv_iadd hx hb (oc_96 132 (aq_10 shX12_readsCondition_122)) ?_
                      refine lv_topi (fun y_53 ey_53 => ?_)
                      obtain rfl : y_53 = (nI ((cn51 19) + 1)) := ey_53.trans (nI_add (cn51 19) 1)
                      refine pM_233 S hK hP hD hS (a := ((cn51 19) + 1)) (cn2 := (va_up (va_up cn51 24 ((cn51 24) - 1)) 19 ((cn51 19) + 1))) rfl rfl (oc_181 133 (aq_11 shX12_readsCondition_122) uw_0_233) (fun H locs hP hD hS => ?_)
                      have hcl9 := R92.close (c2 := (va_up (va_up cn51 24 ((cn51 24) - 1)) 19 ((cn51 19) + 1))) (I2 := (va_up I92 22 ((I92 22) - 1))) (F2 := Fn51) hx8 (hpk_20.trans (show r_19 = 41 by assumption)) (Nh_51.2 (by decide)) rfl (by show ((cn51 19) + 1) = c92 19 + 1; (first | omega | (have zz0 := Hid.u hi_c40; have zz1 := Hid.u hi_c92; have zz2 := Hid.u hi_cn; have zz3 := Hid.u hi_cn18; have zz4 := Hid.u hi_cn51; have zz5 := Hid.u hq_c40; have zz6 := Hid.u hq_c92; have zz7 := Hid.u hq_cn18; have zz8 := Hid.u hq_cn51; omega))) rfl rfl rfl rfl
                      refine lv_aload_n hx hb (oc_42 136 (aq_14 shX12_readsCondition_122)) rfl (lvA0 hl) ?_
                      refine gM_264 S hK hP (v := .int (nI ((cn51 24) - 1))) rfl (oc_180 137 (aq_15 shX12_readsCondition_122) uw_1_8) ?_
                      have : (nI ((cn51 24) - 1)).toInt = ((((cn51 24) - 1) : Nat) : Int) := nI_toInt (by (first | omega | (have zz0 := Hid.u hi_c40; have zz1 := Hid.u hi_c92; have zz2 := Hid.u hi_cn; have zz3 := Hid.u hi_cn18; have zz4 := Hid.u hi_cn51; have zz5 := Hid.u hq_c40; have zz6 := Hid.u hq_c92; have zz7 := Hid.u hq_cn18; have zz8 := Hid.u hq_cn51; omega)))
                      refine lv_if_ne (tgt := 145) hx hb (oc_154 140 (aq_18 shX12_readsCondition_122) sgw_0_5) rfl (fun c_54 => ?_) (fun c_54 => ?_)
                      ·
                        have tc_54 : ((nI ((cn51 24) - 1)).toInt : Int) ≠ 0 := fun q => c_54 (Int32.toInt_inj.mp q)
                        obtain ⟨r7, a7, m7, M7, hL7⟩ := RK.ne hcl9.1 (fun q => by have q9 : ((cn51 24) - 1) = 0 := q; (have h9 := congrArg nI q9; exact absurd h9 (by assumption)))
                        refine lv_aload_n hx hb (oc_42 145 (aq_23 shX12_readsCondition_122)) rfl (lvA0 hl) ?_
                        have hFc := free_all hD hS hA
                        refine va_callv (runV_a (As := []) (rest := []) S (q_endsPiece9 l D cI cB cZ g (va_up (va_up cn51 24 ((cn51 24) - 1)) 19 ((cn51 19) + 1)) (va_up I92 22 ((I92 22) - 1)) Fn51 (cn 23) 0 (k8 + 1) r7 a7 m7 M7 (aimO (aimO o8 a8) r8) H.size (IM.fr (In := I92) hIn51 (Fr.c 19 (Fr.c 24 Fr.rf)) (by decide) (by decide)) (by have q := PBk.pop' (pl' := cn51 19 + 1) (s' := 0) h_51a (by (first | omega | (have zz0 := Hid.u hi_c40; have zz1 := Hid.u hi_c92; have zz2 := Hid.u hi_cn; have zz3 := Hid.u hi_cn18; have zz4 := Hid.u hi_cn51; have zz5 := Hid.u hq_c40; have zz6 := Hid.u hq_c92; have zz7 := Hid.u hq_cn18; have zz8 := Hid.u hq_cn51; omega))) (by (first | omega | (have zz0 := Hid.u hi_c40; have zz1 := Hid.u hi_c92; have zz2 := Hid.u hi_cn; have zz3 := Hid.u hi_cn18; have zz4 := Hid.u hi_cn51; have zz5 := Hid.u hq_c40; have zz6 := Hid.u hq_c92; have zz7 := Hid.u hq_cn18; have zz8 := Hid.u hq_cn51; omega))) (by (first | omega | (have zz0 := Hid.u hi_c40; have zz1 := Hid.u hi_c92; have zz2 := Hid.u hi_cn; have zz3 := Hid.u hi_cn18; have zz4 := Hid.u hi_cn51; have zz5 := Hid.u hq_c40; have zz6 := Hid.u hq_c92; have zz7 := Hid.u hq_cn18; have zz8 := Hid.u hq_cn51; omega))) (h_51d (by decide)) (by (first | omega | (have zz0 := Hid.u hi_c40; have zz1 := Hid.u hi_c92; have zz2 := Hid.u hi_cn; have zz3 := Hid.u hi_cn18; have zz4 := Hid.u hi_cn51; have zz5 := Hid.u hq_c40; have zz6 := Hid.u hq_c92; have zz7 := Hid.u hq_cn18; have zz8 := Hid.u hq_cn51; omega))); exact q) (CK.less (w' := cn51 24 - 1) h_51b (by (first | omega | (have zz0 := Hid.u hi_c40; have zz1 := Hid.u hi_c92; have zz2 := Hid.u hi_cn; have zz3 := Hid.u hi_cn18; have zz4 := Hid.u hi_cn51; have zz5 := Hid.u hq_c40; have zz6 := Hid.u hq_c92; have zz7 := Hid.u hq_cn18; have zz8 := Hid.u hq_cn51; omega))) (by (first | omega | (have zz0 := Hid.u hi_c40; have zz1 := Hid.u hi_c92; have zz2 := Hid.u hi_cn; have zz3 := Hid.u hi_cn18; have zz4 := Hid.u hi_cn51; have zz5 := Hid.u hq_c40; have zz6 := Hid.u hq_c92; have zz7 := Hid.u hq_cn18; have zz8 := Hid.u hq_cn51; omega)))) (by have q9 := hcl9.1; rw [hL7] at q9; exact q9)) kV_RX12_300 hK hP hD 0 rfl rfl rfl ⟨Nat.le_of_ble_eq_true rfl, Nat.le_of_ble_eq_true rfl⟩ ⟨Nat.le_of_ble_eq_true rfl, Nat.le_of_ble_eq_true rfl⟩ rfl hl.1 rfl (Nat.le_of_ble_eq_true rfl) (oc_182 146 shX12_readsCondition_146 uw_1_44)) hS (fun q _ h => hFc q h) hFc (fun u t H1 locs ht hvm wh_56 hB hz1 hk1 hS => ?_)
                        obtain ⟨cn56, In56, Fn56⟩ := u
                        obtain ⟨hP1, hD1⟩ := hB
                        rw [ht] at hP1
                        have hP : va_P D vwCl (wM cI cB cZ g cn56 In56 Fn56) H1 := hP1
                        have hD : va_D A (wM cI cB cZ g cn56 In56 Fn56) := hD1.weaken (fun _ _ _ h => hFc _ h)
                        generalize H1 = H at hP hS ⊢
                        have vh_56 : (fun c2 I2 F2 => Fr [23, 24] [22] [27] (va_up (va_up cn51 24 ((cn51 24) - 1)) 19 ((cn51 19) + 1)) (va_up I92 22 ((I92 22) - 1)) Fn51 c2 I2 F2 ∧ IM c2 F2 ∧ (((PBk (c2 19) (c2 20) (c2 23) (c2 24) (F2 27) (F2 28) (cn 23) 1 0) ∧ (CK (c2 24) (F2 28)) ∧ (∀ k : Nat, k < (cn 23) → F2 27 k = (Fn51 27) k)) ∧ (RK ((k8 + 1) + m7) ((r7, a7, 0) :: M7) ((aimO (aimO o8 a8) r8) ++ nots m7) c2 I2 F2))) cn56 In56 Fn56 := wh_56
                        obtain ⟨hfc56, hIn56, h_56⟩ := vh_56
                        have hf56 : Fr [19, 23, 24, 26] [21, 22] [27, 28] cn In Fn cn56 In56 Fn56 := Fr.mo (Fr.tr (Fr.i 22 (Fr.c 19 (Fr.c 24 hf51))) hfc56) (sbl rfl) (sbl rfl) (sbl rfl)
                        have hi_cn56 : Hid (CB cn56) := hIn56.b
                        have : cn56 20 = cn 20 := hf56.1 20 (nml rfl)
                        have : cn56 25 = cn 25 := hf56.1 25 (nml rfl)
                        have hq_cn56 := Hid.i (frq_19_23_24_26_0_1_2_46_57_58_62_63_75_83_44 hf56)
                        have : cn56 19 = ((cn51 19) + 1) := hfc56.1 19 (nml rfl)
                        have : cn56 20 = (cn51 20) := hfc56.1 20 (nml rfl)
                        have : cn56 25 = (cn51 25) := hfc56.1 25 (nml rfl)
                        obtain ⟨h_56, Nh_56⟩ := h_56
                        obtain ⟨h_56a, h_56b, h_56c⟩ := h_56
                        have h_56f := h_56a.f
                        refine lv_goto (tgt := 92) hx hb (oc_167 149 (aq_3 shX12_readsCondition_146) sgw_255_199) rfl ?_
                        exact ih92  cn56 In56 Fn56 _ _ (show cn 20 - (cn56 19) < n92 by (first | omega | (have zz0 := Hid.u hi_c40; have zz1 := Hid.u hi_c92; have zz2 := Hid.u hi_cn; have zz3 := Hid.u hi_cn18; have zz4 := Hid.u hi_cn51; have zz5 := Hid.u hi_cn56; have zz6 := Hid.u hq_c40; have zz7 := Hid.u hq_c92; have zz8 := Hid.u hq_cn18; have zz9 := Hid.u hq_cn51; have zz10 := Hid.u hq_cn56; omega))) ⟨(Fr.mo hf56 (sbl rfl) (sbl rfl) (sbl rfl)), hIn56, h_56a, h_56b, (fun k hk => (h_56c k hk).trans ((h_51c k hk).trans (hx92_2 k hk))), (by (first | omega | (have zz0 := Hid.u hi_c40; have zz1 := Hid.u hi_c92; have zz2 := Hid.u hi_cn; have zz3 := Hid.u hi_cn18; have zz4 := Hid.u hi_cn51; have zz5 := Hid.u hi_cn56; have zz6 := Hid.u hq_c40; have zz7 := Hid.u hq_c92; have zz8 := Hid.u hq_cn18; have zz9 := Hid.u hq_cn51; have zz10 := Hid.u hq_cn56; omega))), ⟨_, r7, a7, M7, _, Nh_56, (hcl9.2.2 r7 a7 m7 M7 hL7).trans (congrArg (fun p9 => afc bb nn (k8 + 1 + m7) r7 a7 0 M7 p9 (aimO (aimO o8 a8) r8 ++ nots m7)) (show c92 19 + 1 = (cn56 19) by (first | omega | (have zz0 := Hid.u hi_c40; have zz1 := Hid.u hi_c92; have zz2 := Hid.u hi_cn; have zz3 := Hid.u hi_cn18; have zz4 := Hid.u hi_cn51; have zz5 := Hid.u hi_cn56; have zz6 := Hid.u hq_c40; have zz7 := Hid.u hq_c92; have zz8 := Hid.u hq_cn18; have zz9 := Hid.u hq_cn51; have zz10 := Hid.u hq_cn56; omega))))⟩⟩ hP hD hS ls (lv_sub hl [0] rfl)
                      ·
                        have tc_54 : ((nI ((cn51 24) - 1)).toInt : Int) = 0 := congrArg Int32.toInt c_54
                        refine lv_iconst (v := 1) hx hb (oc_4 143 (aq_21 shX12_readsCondition_122)) kic_1 ?_
                        exact W.zret (v := 1) hx hb hr rfl (fun t ht hW => ⟨⟨1, ((va_up (va_up cn51 24 ((cn51 24) - 1)) 19 ((cn51 19) + 1)), (va_up I92 22 ((I92 22) - 1)), Fn51), rfl, ⟨(Fr.mo (Fr.i 22 (Fr.c 19 (Fr.c 24 hf51))) (sbl rfl) (sbl rfl) (sbl rfl)), (IM.fr (In := I92) hIn51 (Fr.c 19 (Fr.c 24 Fr.rf)) (by decide) (by decide)), (by show ((1 : Int32) = 0 ∨ (1 = 1 ∧ SegOK (Fn51 27) 0 (cn 23) ((va_up (va_up cn51 24 ((cn51 24) - 1)) 19 ((cn51 19) + 1)) 23) ∧ cn 23 ≤ (va_up (va_up cn51 24 ((cn51 24) - 1)) 19 ((cn51 19) + 1)) 23 ∧ (va_up (va_up cn51 24 ((cn51 24) - 1)) 19 ((cn51 19) + 1)) 23 ≤ (va_up (va_up cn51 24 ((cn51 24) - 1)) 19 ((cn51 19) + 1)) 19 ∧ (cn 19 ≤ (va_up (va_up cn51 24 ((cn51 24) - 1)) 19 ((cn51 19) + 1)) 19 ∧ (va_up (va_up cn51 24 ((cn51 24) - 1)) 19 ((cn51 19) + 1)) 19 ≤ cn 20) ∧ (∀ k : Nat, k < cn 23 → Fn51 27 k = Fn 27 k))) ∧ (((1 : Int32) = 0 → ∃ e9 : Nat, CDV bb nn (cn 19) oo = .error e9 ∧ FLT (va_up I92 22 ((I92 22) - 1)) e9) ∧ ((1 : Int32) = 1 → ∃ uX : OutT, CDV bb nn (cn 19) oo = .ok ((va_up (va_up cn51 24 ((cn51 24) - 1)) 19 ((cn51 19) + 1)) 19, uX) ∧ SAYm (Fn51 27) ((va_up (va_up cn51 24 ((cn51 24) - 1)) 19 ((cn51 19) + 1)) 23) uX)); exact ⟨(by exact Or.inr ⟨rfl, (PBk.pop' (pl' := cn51 19 + 1) (s' := 0) h_51a (by (first | omega | (have zz0 := Hid.u hi_c40; have zz1 := Hid.u hi_c92; have zz2 := Hid.u hi_cn; have zz3 := Hid.u hi_cn18; have zz4 := Hid.u hi_cn51; have zz5 := Hid.u hq_c40; have zz6 := Hid.u hq_c92; have zz7 := Hid.u hq_cn18; have zz8 := Hid.u hq_cn51; omega))) (by (first | omega | (have zz0 := Hid.u hi_c40; have zz1 := Hid.u hi_c92; have zz2 := Hid.u hi_cn; have zz3 := Hid.u hi_cn18; have zz4 := Hid.u hi_cn51; have zz5 := Hid.u hq_c40; have zz6 := Hid.u hq_c92; have zz7 := Hid.u hq_cn18; have zz8 := Hid.u hq_cn51; omega))) (by (first | omega | (have zz0 := Hid.u hi_c40; have zz1 := Hid.u hi_c92; have zz2 := Hid.u hi_cn; have zz3 := Hid.u hi_cn18; have zz4 := Hid.u hi_cn51; have zz5 := Hid.u hq_c40; have zz6 := Hid.u hq_c92; have zz7 := Hid.u hq_cn18; have zz8 := Hid.u hq_cn51; omega))) (h_51d (by decide)) (by (first | omega | (have zz0 := Hid.u hi_c40; have zz1 := Hid.u hi_c92; have zz2 := Hid.u hi_cn; have zz3 := Hid.u hi_cn18; have zz4 := Hid.u hi_cn51; have zz5 := Hid.u hq_c40; have zz6 := Hid.u hq_c92; have zz7 := Hid.u hq_cn18; have zz8 := Hid.u hq_cn51; omega)))).seg' (by (first | omega | (have zz0 := Hid.u hi_c40; have zz1 := Hid.u hi_c92; have zz2 := Hid.u hi_cn; have zz3 := Hid.u hi_cn18; have zz4 := Hid.u hi_cn51; have zz5 := Hid.u hq_c40; have zz6 := Hid.u hq_c92; have zz7 := Hid.u hq_cn18; have zz8 := Hid.u hq_cn51; omega))), (by show cn 23 ≤ cn51 23; (first | omega | (have zz0 := Hid.u hi_c40; have zz1 := Hid.u hi_c92; have zz2 := Hid.u hi_cn; have zz3 := Hid.u hi_cn18; have zz4 := Hid.u hi_cn51; have zz5 := Hid.u hq_c40; have zz6 := Hid.u hq_c92; have zz7 := Hid.u hq_cn18; have zz8 := Hid.u hq_cn51; omega))), (by show cn51 23 ≤ cn51 19 + 1; (first | omega | (have zz0 := Hid.u hi_c40; have zz1 := Hid.u hi_c92; have zz2 := Hid.u hi_cn; have zz3 := Hid.u hi_cn18; have zz4 := Hid.u hi_cn51; have zz5 := Hid.u hq_c40; have zz6 := Hid.u hq_c92; have zz7 := Hid.u hq_cn18; have zz8 := Hid.u hq_cn51; omega))), ⟨by show cn 19 ≤ cn51 19 + 1; (first | omega | (have zz0 := Hid.u hi_c40; have zz1 := Hid.u hi_c92; have zz2 := Hid.u hi_cn; have zz3 := Hid.u hi_cn18; have zz4 := Hid.u hi_cn51; have zz5 := Hid.u hq_c40; have zz6 := Hid.u hq_c92; have zz7 := Hid.u hq_cn18; have zz8 := Hid.u hq_cn51; omega)), by show cn51 19 + 1 ≤ cn 20; (first | omega | (have zz0 := Hid.u hi_c40; have zz1 := Hid.u hi_c92; have zz2 := Hid.u hi_cn; have zz3 := Hid.u hi_cn18; have zz4 := Hid.u hi_cn51; have zz5 := Hid.u hq_c40; have zz6 := Hid.u hq_c92; have zz7 := Hid.u hq_cn18; have zz8 := Hid.u hq_cn51; omega))⟩, (fun k hk => (h_51c k hk).trans (hx92_2 k hk))⟩), ⟨(fun q => absurd q (by decide)), fun _ => ⟨_, (hcl9.2.1 (RK.nil hcl9.1 (show ((cn51 24) - 1) = 0 by (first | omega | (have zz0 := Hid.u hi_c40; have zz1 := Hid.u hi_c92; have zz2 := Hid.u hi_cn; have zz3 := Hid.u hi_cn18; have zz4 := Hid.u hi_cn51; have zz5 := Hid.u hq_c40; have zz6 := Hid.u hq_c92; have zz7 := Hid.u hq_cn18; have zz8 := Hid.u hq_cn51; omega))))).trans (congrArg (fun p9 => (Except.ok (p9, aimO (aimO o8 a8) r8) : ResT)) (show c92 19 + 1 = ((cn51 19) + 1) by (first | omega | (have zz0 := Hid.u hi_c40; have zz1 := Hid.u hi_c92; have zz2 := Hid.u hi_cn; have zz3 := Hid.u hi_cn18; have zz4 := Hid.u hi_cn51; have zz5 := Hid.u hq_c40; have zz6 := Hid.u hq_c92; have zz7 := Hid.u hq_cn18; have zz8 := Hid.u hq_cn51; omega)))), hcl9.1.1.2.2.1⟩⟩⟩)⟩, by rw [ht]; exact hP, hD⟩, hS.F ht⟩) hS.2.2 (oc_172 144 (aq_22 shX12_readsCondition_122))
                exact lp_92 _  cn18 In18 Fn18 _ _ (Nat.lt_succ_self _) ⟨(Fr.mo hf18 (sbl rfl) (sbl rfl) (sbl rfl)), hIn18, kh_18a, kh_18b, (fun k hk => (kh_18c k hk).trans (hx40_2 k hk)), (by (first | omega | (have zz0 := Hid.u hi_c40; have zz1 := Hid.u hi_cn; have zz2 := Hid.u hi_cn18; have zz3 := Hid.u hq_c40; have zz4 := Hid.u hq_cn18; omega))), (by obtain ⟨o8, ho8, hk8⟩ := Nh_18.2 rfl; exact ⟨_, r9, a9, L9, _, hk8, hw9.trans ((WT_c (fun q9 => (show ¬ r_6 = 33 by assumption) (hpk_7.symm.trans q9)) (fun q9 => (show ¬ r_14 = 40 by assumption) (hpk_15.symm.trans q9))).trans (by rw [ho8]; exact afc_0))⟩)⟩ hP hD hS ls (lv_sub hl [0] rfl)
            ·
              have tc_16 : (r_14.toInt : Int) = 40 := congrArg Int32.toInt c_16
              refine lv_aload_n hx hb dX12_readsCondition_58 rfl (lvA0 hl) ?_
              refine lv_aload_n hx hb dX12_readsCondition_59 rfl (lvA0 hl) ?_
              refine vp_callSi (runV_ra (As := []) (rest := [.ref (g 100)]) S (q_here l D cI cB cZ g c40 I40 F40  hI40 (by (first | omega | (have zz0 := Hid.u hi_c40; have zz1 := Hid.u hi_cn; have zz2 := Hid.u hq_c40; omega))) (by (first | omega | (have zz0 := Hid.u hi_c40; have zz1 := Hid.u hi_cn; have zz2 := Hid.u hq_c40; omega)))) kV_RX12_239 hK hP 0 rfl rfl rfl ⟨Nat.le_of_ble_eq_true rfl, Nat.le_of_ble_eq_true rfl⟩ ⟨Nat.le_of_ble_eq_true rfl, Nat.le_of_ble_eq_true rfl⟩ rfl hl.1 rfl (Nat.le_of_ble_eq_true rfl) dX12_readsCondition_60) (fun r_57 h_58 => ?_)
              have hpk_58 : pk bb nn (c40 19) = r_57 := (pk_here (c := c40) (F := F40) (bbM_cg heb (hfr40.2.2 17 (nml rfl))) (show c40 20 = nn by (first | omega | (have zz0 := Hid.u hi_c40; have zz1 := Hid.u hi_cn; have zz2 := Hid.u hq_c40; omega)))).trans h_58.1.symm
              refine lv_bipush (v := 33) hx hb dX12_readsCondition_63 kbc_33 ?_
              refine lv_icmp_ne (tgt := 73) hx hb dX12_readsCondition_65 rfl (fun c_59 => ?_) (fun c_59 => ?_)
              ·
                have tc_59 : (r_57.toInt : Int) ≠ 33 := fun q => c_59 (Int32.toInt_inj.mp q)
                refine lv_bipush (v := 13) hx hb dX12_readsCondition_73 kbc_13 ?_
                have hFc := free_all hD hS hA
                refine va_calli (runV_a (As := [.int 13]) (rest := []) S (q_opens9 l D cI cB cZ g c40 I40 F40 13 H.size hI40 (by (first | omega | (have zz0 := Hid.u hi_c40; have zz1 := Hid.u hi_cn; have zz2 := Hid.u hq_c40; omega)))) kV_RX12_274 hK hP hD 0 rfl rfl rfl ⟨Nat.le_of_ble_eq_true rfl, Nat.le_of_ble_eq_true rfl⟩ ⟨Nat.le_of_ble_eq_true rfl, Nat.le_of_ble_eq_true rfl⟩ rfl hl.1 rfl (Nat.le_of_ble_eq_true rfl) dX12_readsCondition_75) hS (fun q _ h => hFc q h) hFc (fun r_60 u t H1 locs ht hvm wh_61 hB hz1 hk1 hS => ?_)
                obtain ⟨cn61, In61, Fn61⟩ := u
                obtain ⟨hP1, hD1⟩ := hB
                rw [ht] at hP1
                have vh_61 : (fun r c2 I2 F2 => (∀ k : Nat, k ∉ [21, 22] → I2 k = I40 k) ∧ ((r = 0 ∧ (((I40 22) : Int32) = 6 ∧ I2 21 = (-1000) * 5 - nI ((c40 19))) ∧ c40 = c2 ∧ F40 = F2) ∨ (r = 1 ∧ (¬ ((I40 22) : Int32) = 6 ∧ I2 22 = ((I40 22) : Int32) + 1) ∧ (va_up (va_up c40 24 ((c40 24) + 1)) 19 ((c40 19) + 1)) = c2 ∧ (va_up F40 28 (upd ((F40 28)) ((c40 24)) (nI (13 * 1048576)))) = F2))) r_60 cn61 In61 Fn61 := wh_61
                obtain ⟨hI61_, vh_61⟩ := vh_61
                rcases vh_61 with ⟨rfl, h_61, rfl, rfl⟩ | ⟨rfl, h_61, rfl, rfl⟩
                ·
                  have hf61 : Fr [19, 23, 24, 26] [21, 22] [27, 28] cn In Fn c40 In61 F40 := Fr.mo (Fr.tr hfr40 (show Fr [] [21, 22] [] c40 I40 F40 c40 In61 F40 from ⟨fun _ _ => rfl, hI61_, fun _ _ => rfl⟩)) (sbl rfl) (sbl rfl) (sbl rfl)
                  have hP : va_P D vwCl (wM cI cB cZ g c40 In61 F40) H1 := hP1
                  have hD : va_D A (wM cI cB cZ g c40 In61 F40) := hD1.weaken (fun _ _ _ h => hFc _ h)
                  generalize H1 = H at hP hS ⊢
                  refine lv_if_ne (tgt := 40) hx hb dX12_readsCondition_78 rfl (fun h => absurd h cq_eq_0_0) (fun _ => ?_)
                  refine lv_iconst (v := 0) hx hb dX12_readsCondition_81 kic_0 ?_
                  exact W.zret (v := 0) hx hb hr rfl (fun t ht hW => ⟨⟨0, (c40, In61, F40), rfl, ⟨(Fr.mo hf61 (sbl rfl) (sbl rfl) (sbl rfl)), hI40, (by show ((0 : Int32) = 0 ∨ (0 = 1 ∧ SegOK (F40 27) 0 (cn 23) (c40 23) ∧ cn 23 ≤ c40 23 ∧ c40 23 ≤ c40 19 ∧ (cn 19 ≤ c40 19 ∧ c40 19 ≤ cn 20) ∧ (∀ k : Nat, k < cn 23 → F40 27 k = Fn 27 k))) ∧ (((0 : Int32) = 0 → ∃ e9 : Nat, CDV bb nn (cn 19) oo = .error e9 ∧ FLT In61 e9) ∧ ((0 : Int32) = 1 → ∃ uX : OutT, CDV bb nn (cn 19) oo = .ok (c40 19, uX) ∧ SAYm (F40 27) (c40 23) uX)); exact ⟨(by exact Or.inl rfl), ⟨fun _ => ⟨_, R40.err hx40_4 (Or.inr (hpk_15.trans (show r_14 = 40 by assumption))) h_61.1, flt_k (k := 5) (p := c40 19) (by decide) h_61.2⟩, (fun q => absurd q (by decide))⟩⟩)⟩, by rw [ht]; exact hP, hD⟩, hS.F ht⟩) hS.2.2 dX12_readsCondition_82
                ·
                  have hf61 : Fr [19, 23, 24, 26] [21, 22] [27, 28] cn In Fn c40 In61 F40 := Fr.mo (Fr.tr hfr40 (show Fr [] [21, 22] [] c40 I40 F40 c40 In61 F40 from ⟨fun _ _ => rfl, hI61_, fun _ _ => rfl⟩)) (sbl rfl) (sbl rfl) (sbl rfl)
                  have hP : va_P D vwCl (wM cI cB cZ g (va_up (va_up c40 24 ((c40 24) + 1)) 19 ((c40 19) + 1)) In61 (va_up F40 28 (upd ((F40 28)) ((c40 24)) (nI (13 * 1048576))))) H1 := hP1
                  have hD : va_D A (wM cI cB cZ g (va_up (va_up c40 24 ((c40 24) + 1)) 19 ((c40 19) + 1)) In61 (va_up F40 28 (upd ((F40 28)) ((c40 24)) (nI (13 * 1048576))))) := hD1.weaken (fun _ _ _ h => hFc _ h)
                  generalize H1 = H at hP hS ⊢
                  refine lv_if_ne (tgt := 40) hx hb dX12_readsCondition_78 rfl (fun _ => ?_) (fun h => absurd h cq_eq_1_0)
                  exact ih40  (va_up (va_up c40 24 ((c40 24) + 1)) 19 ((c40 19) + 1)) In61 (va_up F40 28 (upd ((F40 28)) ((c40 24)) (nI (13 * 1048576)))) _ _ (show cn 20 - ((c40 19) + 1) < n40 by (first | omega | (have zz0 := Hid.u hi_c40; have zz1 := Hid.u hi_cn; have zz2 := Hid.u hq_c40; omega))) ⟨(Fr.mo (Fr.f 28 (Fr.c 19 (Fr.c 24 hf61))) (sbl rfl) (sbl rfl) (sbl rfl)), (IM.fr (In := In61) hI40 (Fr.f 28 (Fr.c 19 (Fr.c 24 Fr.rf))) (by decide) (by decide)), (by have q := PBk.push (k := 13) (s' := 0) hx40_0 (by (first | omega | (have zz0 := Hid.u hi_c40; have zz1 := Hid.u hi_cn; have zz2 := Hid.u hq_c40; omega))) (by decide) (by decide) (by decide) (by decide); exact q), (by have q := CK.push (k := 13) hx40_1 (by decide) (by decide); exact q), hx40_2, (by show cn 19 ≤ c40 19 + 1; (first | omega | (have zz0 := Hid.u hi_c40; have zz1 := Hid.u hi_cn; have zz2 := Hid.u hq_c40; omega))), (R40.par hx40_4 (hpk_15.trans (show r_14 = 40 by assumption)) h_61.1 h_61.2 rfl rfl rfl rfl rfl)⟩ hP hD hS ls (lv_sub hl [0] rfl)
              ·
                have tc_59 : (r_57.toInt : Int) = 33 := congrArg Int32.toInt c_59
                refine lv_bipush (v := 10) hx hb dX12_readsCondition_68 kbc_10 ?_
                refine lv_goto (tgt := 75) hx hb dX12_readsCondition_70 rfl ?_
                exact False.elim (absurd ((hpk_15.trans (show r_14 = 40 by assumption)).symm.trans (hpk_58.trans (show r_57 = 33 by assumption))) (by decide))
      exact lp_40 _  (va_up (va_up (va_up cn 24 0) 24 (0 + 1)) 19 ((cn 19) + 1)) In5 (va_up Fn 28 (upd ((Fn 28)) (0) (nI (13 * 1048576)))) _ _ (Nat.lt_succ_self _) ⟨(Fr.mo (Fr.f 28 (Fr.c 19 (Fr.c 24 (Fr.c 24 hf5)))) (sbl rfl) (sbl rfl) (sbl rfl)), (IM.fr (In := In5) hI (Fr.f 28 (Fr.c 19 (Fr.c 24 (Fr.c 24 Fr.rf)))) (by decide) (by decide)), (by have q := PBk.push (k := 13) (s' := 0) (PBk.new (W := Fn 28) (C := Fn 27) (s := 0) hp hn h23) (by (first | omega | (have zz0 := Hid.u hi_cn; omega))) (by decide) (by decide) (by decide) (by decide); exact q), (by have q := CK.start (Fn 28); exact q), (fun k hk => rfl), (by show cn 19 ≤ cn 19 + 1; (first | omega | (have zz0 := Hid.u hi_cn; omega))), (R40.start hsay (hpk_2.trans (show r_1 = 40 by assumption)) (h_5.2.trans (by decide)) rfl rfl rfl rfl rfl)⟩ hP hD hS ls (lv_sub hl [0] rfl)
  ·
    have tc_3 : (r_1.toInt : Int) ≠ 40 := fun q => c_3 (Int32.toInt_inj.mp q)
    refine lv_aload_n hx hb (oc_42 9 (aq_9 shX12_readsCondition_0)) rfl (lvA0 hl) ?_
    refine lv_iconst (v := 1) hx hb (oc_4 10 (aq_10 shX12_readsCondition_0)) kic_1 ?_
    refine lv_aload_n hx hb (oc_42 11 (aq_11 shX12_readsCondition_0)) rfl (lvA0 hl) ?_
    refine gM_233 S hK hP (v := .int (nI (cn 19))) rfl (oc_180 12 (aq_12 shX12_readsCondition_0) uw_0_233) ?_
    have hFc := free_all hD hS hA
    refine va_calli (runV_a (As := [.int 1, .int (nI (cn 19))]) (rest := []) S (q_wrong9 l D cI cB cZ g cn In Fn 1 (nI (cn 19)) s.heap.size hI) kV_RX12_246 hK hP hD 0 rfl rfl rfl ⟨Nat.le_of_ble_eq_true rfl, Nat.le_of_ble_eq_true rfl⟩ ⟨Nat.le_of_ble_eq_true rfl, Nat.le_of_ble_eq_true rfl⟩ rfl hl.1 rfl (Nat.le_of_ble_eq_true rfl) (oc_182 15 (aq_15 shX12_readsCondition_0) uw_0_246)) hS (fun q _ h => hFc q h) hFc (fun r_62 u t H1 locs ht hvm wh_63 hB hz1 hk1 hS => ?_)
    obtain ⟨cn63, In63, Fn63⟩ := u
    obtain ⟨hP1, hD1⟩ := hB
    rw [ht] at hP1
    have vh_63 : (fun r c2 I2 F2 => (∀ k : Nat, k ∉ [21] → I2 k = In k) ∧ ((r = 0 ∧ (I2 21 = (-1000) * 1 - (nI (cn 19))) ∧ cn = c2 ∧ Fn = F2))) r_62 cn63 In63 Fn63 := wh_63
    obtain ⟨hI63_, vh_63⟩ := vh_63
    obtain ⟨rfl, h_63, rfl, rfl⟩ := vh_63
    have hf63 : Fr [19, 23, 24, 26] [21, 22] [27, 28] cn In Fn cn In63 Fn := Fr.mo (Fr.tr (Fr.rf (cn := cn) (In := In) (Fn := Fn)) (show Fr [] [21] [] cn In Fn cn In63 Fn from ⟨fun _ _ => rfl, hI63_, fun _ _ => rfl⟩)) (sbl rfl) (sbl rfl) (sbl rfl)
    have hP : va_P D vwCl (wM cI cB cZ g cn In63 Fn) H1 := hP1
    have hD : va_D A (wM cI cB cZ g cn In63 Fn) := hD1.weaken (fun _ _ _ h => hFc _ h)
    generalize H1 = H at hP hS ⊢
    exact W.zret (v := 0) hx hb hr rfl (fun t ht hW => ⟨⟨0, (cn, In63, Fn), rfl, ⟨(Fr.mo hf63 (sbl rfl) (sbl rfl) (sbl rfl)), hI, (by show ((0 : Int32) = 0 ∨ (0 = 1 ∧ SegOK (Fn 27) 0 (cn 23) (cn 23) ∧ cn 23 ≤ cn 23 ∧ cn 23 ≤ cn 19 ∧ (cn 19 ≤ cn 19 ∧ cn 19 ≤ cn 20) ∧ (∀ k : Nat, k < cn 23 → Fn 27 k = Fn 27 k))) ∧ (((0 : Int32) = 0 → ∃ e9 : Nat, CDV bb nn (cn 19) oo = .error e9 ∧ FLT In63 e9) ∧ ((0 : Int32) = 1 → ∃ uX : OutT, CDV bb nn (cn 19) oo = .ok (cn 19, uX) ∧ SAYm (Fn 27) (cn 23) uX)); exact ⟨(by exact Or.inl rfl), ⟨fun _ => ⟨_, if_neg (fun q9 => (show ¬ r_1 = 40 by assumption) (hpk_2.symm.trans q9)), flt_k (k := 1) (p := cn 19) (by decide) h_63⟩, (fun q => absurd q (by decide))⟩⟩)⟩, by rw [ht]; exact hP, hD⟩, hS.F ht⟩) hS.2.2 (oc_172 18 (aq_18 shX12_readsCondition_0))
set_option maxRecDepth 100000 in
set_option maxHeartbeats 4000000 in
theorem q_readsClauseX (l : Launch) (D : va_G) (cI cB cZ : ClassId) (g : Nat → Nat) (cn : Nat → Nat) (In : Nat → Int32) (Fn : Nat → Nat → Int32) (v0 : Int32) (bb : Nat → Int32) (nn : Nat) (oo : OutT) (sz : Nat) (hI : IM cn Fn) (hp : cn 19 ≤ cn 20) (hn : cn 20 ≤ 160) (h23 : cn 23 ≤ cn 19) (h25 : cn 25 ≤ 12) (hL : ALL (Fn 27) (cn 23) (cn 25) (Fn 29) (Fn 30) (Fn 31)) (heb : bbM Fn = bb) (hnn : cn 20 = nn) (hsay : SAYm (Fn 27) (cn 23) oo) : Met l yX12_readsClause (CWS yX12_readsClause cX12_readsClause 2 (some .boolean)) (RM 7 0 0) (PBw [.ref (g 100), .int v0] D cI cB cZ (wM cI cB cZ g cn In Fn) sz) (va_Qi (fun (r : Int32) (u : (Nat → Nat) × (Nat → Int32) × (Nat → Nat → Int32)) => (fun r c2 I2 F2 => Fr [19, 23, 24, 25, 26] [21, 22] [27, 28, 29, 30, 31] cn In Fn c2 I2 F2 ∧ IM c2 F2 ∧ (((r : Int32) = 0 ∨ (r = 1 ∧ cn 19 < c2 19 ∧ c2 19 ≤ cn 20 ∧ c2 23 ≤ c2 19 ∧ c2 25 ≤ 12 ∧ ALL (F2 27) (c2 23) (c2 25) (F2 29) (F2 30) (F2 31))) ∧ (((r : Int32) = 0 → ∃ e9 : Nat, clV bb nn (ldI v0) (cn 25) (cn 19) oo = .error e9 ∧ FLT I2 e9) ∧ ((r : Int32) = 1 → ∃ (uX : OutT) (hX : Nat), clV bb nn (ldI v0) (cn 25) (cn 19) oo = .ok (c2 19, uX, hX) ∧ SAYm (F2 27) (c2 23) uX ∧ c2 25 = cn 25 + 1 ∧ hX ≤ 160 ∧ F2 29 = upd (Fn 29) (cn 25) (nI oo.length) ∧ F2 30 = upd (Fn 30) (cn 25) (nI hX) ∧ F2 31 = upd (Fn 31) (cn 25) (nI uX.length))))) r u.1 u.2.1 u.2.2) (fun (u : (Nat → Nat) × (Nat → Int32) × (Nat → Nat → Int32)) (t : State) => va_P D vwCl (wM cI cB cZ g u.1 u.2.1 u.2.2) t.heap ∧ va_D (va_A (wM cI cB cZ g cn In Fn) sz) (wM cI cB cZ g u.1 u.2.1 u.2.2)) (va_A (wM cI cB cZ g cn In Fn) sz)) 0 0 (va_A (wM cI cB cZ g cn In Fn) sz) := by
  refine en_w (fun A => (va_Qi (fun (r : Int32) (u : (Nat → Nat) × (Nat → Int32) × (Nat → Nat → Int32)) => (fun (r : Int32) (c2 : Nat → Nat) (I2 : Nat → Int32) (F2 : Nat → Nat → Int32) => Fr [19, 23, 24, 25, 26] [21, 22] [27, 28, 29, 30, 31] cn In Fn c2 I2 F2 ∧ IM c2 F2 ∧ (((r : Int32) = 0 ∨ (r = 1 ∧ cn 19 < c2 19 ∧ c2 19 ≤ cn 20 ∧ c2 23 ≤ c2 19 ∧ c2 25 ≤ 12 ∧ ALL (F2 27) (c2 23) (c2 25) (F2 29) (F2 30) (F2 31))) ∧ (((r : Int32) = 0 → ∃ e9 : Nat, clV bb nn (ldI v0) (cn 25) (cn 19) oo = .error e9 ∧ FLT I2 e9) ∧ ((r : Int32) = 1 → ∃ (uX : OutT) (hX : Nat), clV bb nn (ldI v0) (cn 25) (cn 19) oo = .ok (c2 19, uX, hX) ∧ SAYm (F2 27) (c2 23) uX ∧ c2 25 = cn 25 + 1 ∧ hX ≤ 160 ∧ F2 29 = upd (Fn 29) (cn 25) (nI oo.length) ∧ F2 30 = upd (Fn 30) (cn 25) (nI hX) ∧ F2 31 = upd (Fn 31) (cn 25) (nI uX.length))))) r u.1 u.2.1 u.2.2) (fun (u : (Nat → Nat) × (Nat → Int32) × (Nat → Nat → Int32)) (t : State) => va_P D vwCl (wM cI cB cZ g u.1 u.2.1 u.2.2) t.heap ∧ va_D A (wM cI cB cZ g u.1 u.2.1 u.2.2)) A)) rfl rfl pn_RX12 (Nat.le_of_ble_eq_true rfl) (fun p e s m below meth c A hx hb hml hown S hr hlocks hnm hA hP hK hD hS ls hl => ?_)
  have hl : lv_has ls 2 [(0, .ref (g 100)), (1, .int v0)] := hl
  have hi_cn : Hid (CB cn) := hI.b
  refine lv_aload_n hx hb (oc_42 0 shX12_readsClause_0) rfl (lvA0 hl) ?_
  refine vp_callSi (runV_ra (As := []) (rest := []) S (q_here l D cI cB cZ g cn In Fn  hI (by (first | omega | (have zz0 := Hid.u hi_cn; omega))) (by (first | omega | (have zz0 := Hid.u hi_cn; omega)))) kV_RX12_239 hK hP 0 rfl rfl rfl ⟨Nat.le_of_ble_eq_true rfl, Nat.le_of_ble_eq_true rfl⟩ ⟨Nat.le_of_ble_eq_true rfl, Nat.le_of_ble_eq_true rfl⟩ rfl hl.1 rfl (Nat.le_of_ble_eq_true rfl) (oc_182 1 (aq_1 shX12_readsClause_0) uw_0_239)) (fun r_1 h_2 => ?_)
  have hpk_2 : pk bb nn (cn 19) = r_1 := (pk_here (c := cn) (F := Fn) heb (show cn 20 = nn by (first | omega | (have zz0 := Hid.u hi_cn; omega)))).trans h_2.1.symm
  refine lv_iload_n hx hb (oc_27 4 (aq_4 shX12_readsClause_0)) rfl (lvA1 hl) ?_
  refine lv_if_eq (tgt := 13) hx hb (oc_153 5 (aq_5 shX12_readsClause_0) sgw_0_8) rfl (fun c_3 => ?_) (fun c_3 => ?_)
  ·
    have tc_3 : (v0.toInt : Int) = 0 := congrArg Int32.toInt c_3
    refine lv_bipush (v := 112) hx hb (oc_16 13 (aq_13 shX12_readsClause_0) sgb_112) kbc_112 ?_
    refine lv_icmp_eq (tgt := 28) hx hb dX12_readsClause_15 rfl (fun c_4 => ?_) (fun c_4 => ?_)
    ·
      have tc_4 : (r_1.toInt : Int) = 112 := congrArg Int32.toInt c_4
      refine lv_aload_n hx hb dX12_readsClause_28 rfl (lvA0 hl) ?_
      refine gM_312 S hK hP (v := .int (nI (cn 25))) rfl dX12_readsClause_29 ?_
      refine lv_bipush (v := 12) hx hb dX12_readsClause_32 kbc_12 ?_
      have : (nI (cn 25)).toInt = (((cn 25) : Nat) : Int) := nI_toInt (by (first | omega | (have zz0 := Hid.u hi_cn; omega)))
      refine lv_icmp_ne (tgt := 47) hx hb dX12_readsClause_34 rfl (fun c_5 => ?_) (fun c_5 => ?_)
      ·
        have tc_5 : ((nI (cn 25)).toInt : Int) ≠ 12 := fun q => c_5 (Int32.toInt_inj.mp q)
        refine lv_aload_n hx hb dX12_readsClause_47 rfl (lvA0 hl) ?_
        refine lv_aload_n hx hb dX12_readsClause_48 rfl (lvA0 hl) ?_
        refine gM_233 S hK hP (v := .int (nI (cn 19))) rfl dX12_readsClause_49 ?_
        refine lv_iconst (v := 1) hx hb dX12_readsClause_52 kic_1 ?_
        refine lv_iadd hx hb dX12_readsClause_53 ?_
        refine lv_topi (fun y_6 ey_6 => ?_)
        obtain rfl : y_6 = (nI ((cn 19) + 1)) := ey_6.trans (nI_add (cn 19) 1)
        refine pM_233 S hK hP hD hS (a := ((cn 19) + 1)) (cn2 := (va_up cn 19 ((cn 19) + 1))) rfl rfl dX12_readsClause_54 (fun H locs hP hD hS => ?_)
        refine lv_aload_n hx hb dX12_readsClause_57 rfl (lvA0 hl) ?_
        refine gM_62 S hK hP (v := .ref (g 29)) rfl dX12_readsClause_58 ?_
        refine lv_aload_n hx hb dX12_readsClause_61 rfl (lvA0 hl) ?_
        refine gM_312 S hK hP (v := .int (nI (cn 25))) rfl dX12_readsClause_62 ?_
        refine lv_aload_n hx hb dX12_readsClause_65 rfl (lvA0 hl) ?_
        refine gM_257 S hK hP (v := .int (nI (cn 23))) rfl dX12_readsClause_66 ?_
        have kb_1 : (cn 25) < 12 := by (first | omega | (have zz0 := Hid.u hi_cn; omega))
        refine stM_29 hx hb hK hP hD hS (Fn2 := (va_up Fn 29 (upd (Fn 29) (cn 25) (nI (cn 23))))) (vp_in_nI kb_1 (ltb rfl)) (nI_clamp (Nat.lt_trans kb_1 (ltb rfl))) rfl dX12_readsClause_69 (fun H locs hP hD hS => ?_)
        refine lv_aload_n hx hb dX12_readsClause_70 rfl (lvA0 hl) ?_
        refine lv_iconst (v := 0) hx hb dX12_readsClause_71 kic_0 ?_
        refine pM_261 S hK hP hD hS (In2 := (va_up In 22 0)) rfl dX12_readsClause_72 (fun H locs hP hD hS => ?_)
        refine lv_aload_n hx hb dX12_readsClause_75 rfl (lvA0 hl) ?_
        refine lv_iconst (v := 0) hx hb dX12_readsClause_76 kic_0 ?_
        refine pM_264 S hK hP hD hS (a := 0) (cn2 := (va_up (va_up cn 19 ((cn 19) + 1)) 24 0)) rfl rfl dX12_readsClause_77 (fun H locs hP hD hS => ?_)
        refine lv_iload_n hx hb dX12_readsClause_80 rfl (lvA1 hl) ?_
        refine lv_if_ne (tgt := 93) hx hb dX12_readsClause_81 rfl (fun c_7 => False.elim (by have tc_7 : (v0.toInt : Int) ≠ 0 := fun q => c_7 (Int32.toInt_inj.mp q); (first | omega | (have zz0 := Hid.u hi_cn; omega)))) (fun c_7 => ?_)
        have tc_7 : (v0.toInt : Int) = 0 := congrArg Int32.toInt c_7
        refine lv_aload_n hx hb (oc_42 84 (aq_12 shX12_readsClause_72)) rfl (lvA0 hl) ?_
        have hFc := free_all hD hS hA
        refine va_calli (runV_a (As := []) (rest := []) S (q_readsSum9 l D cI cB cZ g (va_up (va_up cn 19 ((cn 19) + 1)) 24 0) (va_up In 22 0) (va_up Fn 29 (upd (Fn 29) (cn 25) (nI (cn 23)))) (cn 23) 0 0 bb nn 6 oo H.size (IM.fr (In := In) hI (Fr.f 29 (Fr.c 24 (Fr.c 19 Fr.rf))) (by decide) (by decide)) (by have q := PBk.new (pl := cn 19 + 1) (ln := cn 20) (cm := cn 23) (s := 0) (C := Fn 27) (W := Fn 28) (by (first | omega | (have zz0 := Hid.u hi_cn; omega))) (by (first | omega | (have zz0 := Hid.u hi_cn; omega))) (by (first | omega | (have zz0 := Hid.u hi_cn; omega))); exact q) (fun h => absurd h (Nat.lt_irrefl 0)) heb (show cn 20 = nn by (first | omega | (have zz0 := Hid.u hi_cn; omega))) ⟨show (0 : Int32) = nI (6 - 6) by decide, Nat.le_refl _, hsay⟩) kV_RX12_297 hK hP hD 0 rfl rfl rfl ⟨Nat.le_of_ble_eq_true rfl, Nat.le_of_ble_eq_true rfl⟩ ⟨Nat.le_of_ble_eq_true rfl, Nat.le_of_ble_eq_true rfl⟩ rfl hl.1 rfl (Nat.le_of_ble_eq_true rfl) (oc_182 85 (aq_13 shX12_readsClause_72) uw_1_41)) hS (fun q _ h => hFc q h) hFc (fun r_8 u t H1 locs ht hvm wh_9 hB hz1 hk1 hS => ?_)
        obtain ⟨cn9, In9, Fn9⟩ := u
        obtain ⟨hP1, hD1⟩ := hB
        rw [ht] at hP1
        have hP : va_P D vwCl (wM cI cB cZ g cn9 In9 Fn9) H1 := hP1
        have hD : va_D A (wM cI cB cZ g cn9 In9 Fn9) := hD1.weaken (fun _ _ _ h => hFc _ h)
        generalize H1 = H at hP hS ⊢
        have vh_9 : (fun r c2 I2 F2 => Fr [19, 23, 24, 26] [21, 22] [27, 28] (va_up (va_up cn 19 ((cn 19) + 1)) 24 0) (va_up In 22 0) (va_up Fn 29 (upd (Fn 29) (cn 25) (nI (cn 23)))) c2 I2 F2 ∧ IM c2 F2 ∧ (((r : Int32) = 0 ∨ (r = 1 ∧ PBk (c2 19) (c2 20) (c2 23) (c2 24) (F2 27) (F2 28) (cn 23) (0 + 1) 0 ∧ c2 24 = 0 ∧ (∀ k : Nat, k < (cn 23) → F2 27 k = (Fn 27) k) ∧ (∀ i : Nat, i < 0 → F2 28 i = (Fn 28) i) ∧ ((cn 19) + 1) < c2 19)) ∧ (((r : Int32) = 0 → ∃ e9 : Nat, sm1 bb nn (smK bb nn 6) (((cn 19) + 1)) oo = .error e9 ∧ FLT I2 e9) ∧ ((r : Int32) = 1 → ∃ uX : OutT, sm1 bb nn (smK bb nn 6) (((cn 19) + 1)) oo = .ok (c2 19, uX) ∧ RS 6 uX c2 I2 F2)))) r_8 cn9 In9 Fn9 := wh_9
        obtain ⟨hfc9, hIn9, h_9⟩ := vh_9
        have hf9 : Fr [19, 23, 24, 25, 26] [21, 22] [27, 28, 29, 30, 31] cn In Fn cn9 In9 Fn9 := Fr.mo (Fr.tr (Fr.f 29 (Fr.i 22 (Fr.c 24 (Fr.c 19 (Fr.rf (cn := cn) (In := In) (Fn := Fn)))))) hfc9) (sbl rfl) (sbl rfl) (sbl rfl)
        have hi_cn9 : Hid (CB cn9) := hIn9.b
        have : cn9 20 = cn 20 := hf9.1 20 (nml rfl)
        have hq_cn9 := Hid.i (frq_19_23_24_25_26_0_1_2_46_57_58_62_63_75_83_44 hf9)
        have : cn9 20 = (cn 20) := hfc9.1 20 (nml rfl)
        have : cn9 25 = (cn 25) := hfc9.1 25 (nml rfl)
        obtain ⟨h_9, Nh_9⟩ := h_9
        rcases h_9 with rfl | ⟨rfl, kh_9⟩
        ·
          refine lv_if_ne (tgt := 93) hx hb dX12_readsClause_88 rfl (fun h => absurd h cq_eq_0_0) (fun _ => ?_)
          refine lv_iconst (v := 0) hx hb (oc_3 91 (aq_19 shX12_readsClause_72)) kic_0 ?_
          exact W.zret (v := 0) hx hb hr rfl (fun t ht hW => ⟨⟨0, (cn9, In9, Fn9), rfl, ⟨(Fr.mo hf9 (sbl rfl) (sbl rfl) (sbl rfl)), hIn9, (by show ((0 : Int32) = 0 ∨ (0 = 1 ∧ cn 19 < cn9 19 ∧ cn9 19 ≤ cn 20 ∧ cn9 23 ≤ cn9 19 ∧ cn9 25 ≤ 12 ∧ ALL (Fn9 27) (cn9 23) (cn9 25) (Fn9 29) (Fn9 30) (Fn9 31))) ∧ (((0 : Int32) = 0 → ∃ e9 : Nat, clV bb nn (ldI v0) (cn 25) (cn 19) oo = .error e9 ∧ FLT In9 e9) ∧ ((0 : Int32) = 1 → ∃ (uX : OutT) (hX : Nat), clV bb nn (ldI v0) (cn 25) (cn 19) oo = .ok (cn9 19, uX, hX) ∧ SAYm (Fn9 27) (cn9 23) uX ∧ cn9 25 = cn 25 + 1 ∧ hX ≤ 160 ∧ Fn9 29 = upd (Fn 29) (cn 25) (nI oo.length) ∧ Fn9 30 = upd (Fn 30) (cn 25) (nI hX) ∧ Fn9 31 = upd (Fn 31) (cn 25) (nI uX.length))); exact ⟨(by exact Or.inl rfl), ⟨fun _ => (by rw [(ld_0 (show v0 = 0 by assumption))]; obtain ⟨e9, a9, f9⟩ := Nh_9.1 rfl; exact ⟨e9, clV_s (hpk_2.trans (show r_1 = 112 by assumption)) (by (first | omega | (have zz0 := Hid.u hi_cn; have zz1 := Hid.u hi_cn9; have zz2 := Hid.u hq_cn9; omega))) a9, f9⟩), (fun q => absurd q (by decide))⟩⟩)⟩, by rw [ht]; exact hP, hD⟩, hS.F ht⟩) hS.2.2 (oc_172 92 (aq_20 shX12_readsClause_72))
        ·
          obtain ⟨kh_9a, kh_9e, kh_9b, kh_9c, kh_9d⟩ := kh_9
          have kh_9f := kh_9a.f
          refine lv_if_ne (tgt := 93) hx hb dX12_readsClause_88 rfl (fun _ => ?_) (fun h => absurd h cq_eq_1_0)
          have hseg1 : SegOK (Fn9 27) 0 (cn 23) (cn9 23) := PBk.seg' kh_9a kh_9e
          have e29a : Fn9 29 = upd (Fn 29) (cn 25) (nI (cn 23)) := hfc9.2.2 29 (nml rfl)
          have e30a : Fn9 30 = Fn 30 := hfc9.2.2 30 (nml rfl)
          have e31a : Fn9 31 = Fn 31 := hfc9.2.2 31 (nml rfl)
          have esaid : ∀ k : Nat, k < cn 23 → Fn9 27 k = Fn 27 k := kh_9b
          obtain ⟨u1, hs1, hr1⟩ := Nh_9.2 rfl
          refine lv_aload_n hx hb dX12_readsClause_93 rfl (lvA0 hl) ?_
          refine gM_65 S hK hP (v := .ref (g 30)) rfl dX12_readsClause_94 ?_
          refine lv_aload_n hx hb dX12_readsClause_97 rfl (lvA0 hl) ?_
          refine gM_312 S hK hP (v := .int (nI (cn9 25))) rfl dX12_readsClause_98 ?_
          refine lv_aload_n hx hb dX12_readsClause_101 rfl (lvA0 hl) ?_
          refine gM_257 S hK hP (v := .int (nI (cn9 23))) rfl dX12_readsClause_102 ?_
          have kb_2 : (cn9 25) < 12 := by (first | omega | (have zz0 := Hid.u hi_cn; have zz1 := Hid.u hi_cn9; have zz2 := Hid.u hq_cn9; omega))
          refine stM_30 hx hb hK hP hD hS (Fn2 := (va_up Fn9 30 (upd (Fn9 30) (cn9 25) (nI (cn9 23))))) (vp_in_nI kb_2 (ltb rfl)) (nI_clamp (Nat.lt_trans kb_2 (ltb rfl))) rfl dX12_readsClause_105 (fun H locs hP hD hS => ?_)
          refine lv_aload_n hx hb dX12_readsClause_106 rfl (lvA0 hl) ?_
          have hFc := free_all hD hS hA
          refine va_calli (runV_a (As := []) (rest := []) S (q_readsCondition9 l D cI cB cZ g cn9 In9 (va_up Fn9 30 (upd (Fn9 30) (cn9 25) (nI (cn9 23)))) bb nn u1 H.size (IM.fr (In := In9) hIn9 (Fr.f 30 Fr.rf) (by decide) (by decide)) (by (first | omega | (have zz0 := Hid.u hi_cn; have zz1 := Hid.u hi_cn9; have zz2 := Hid.u hq_cn9; omega))) (by (first | omega | (have zz0 := Hid.u hi_cn; have zz1 := Hid.u hi_cn9; have zz2 := Hid.u hq_cn9; omega))) (by (first | omega | (have zz0 := Hid.u hi_cn; have zz1 := Hid.u hi_cn9; have zz2 := Hid.u hq_cn9; omega))) (bbM_cg heb (hf9.2.2 17 (nml rfl))) (show cn9 20 = nn by (first | omega | (have zz0 := Hid.u hi_cn; have zz1 := Hid.u hi_cn9; have zz2 := Hid.u hq_cn9; omega))) (by exact hr1.2.2)) kV_RX12_315 hK hP hD 0 rfl rfl rfl ⟨Nat.le_of_ble_eq_true rfl, Nat.le_of_ble_eq_true rfl⟩ ⟨Nat.le_of_ble_eq_true rfl, Nat.le_of_ble_eq_true rfl⟩ rfl hl.1 rfl (Nat.le_of_ble_eq_true rfl) dX12_readsClause_107) hS (fun q _ h => hFc q h) hFc (fun r_10 u t H1 locs ht hvm wh_11 hB hz1 hk1 hS => ?_)
          obtain ⟨cn11, In11, Fn11⟩ := u
          obtain ⟨hP1, hD1⟩ := hB
          rw [ht] at hP1
          have hP : va_P D vwCl (wM cI cB cZ g cn11 In11 Fn11) H1 := hP1
          have hD : va_D A (wM cI cB cZ g cn11 In11 Fn11) := hD1.weaken (fun _ _ _ h => hFc _ h)
          generalize H1 = H at hP hS ⊢
          have vh_11 : (fun r c2 I2 F2 => Fr [19, 23, 24, 26] [21, 22] [27, 28] cn9 In9 (va_up Fn9 30 (upd (Fn9 30) (cn9 25) (nI (cn9 23)))) c2 I2 F2 ∧ IM c2 F2 ∧ (((r : Int32) = 0 ∨ (r = 1 ∧ SegOK (F2 27) 0 ((cn9 23)) (c2 23) ∧ (cn9 23) ≤ c2 23 ∧ c2 23 ≤ c2 19 ∧ ((cn9 19) ≤ c2 19 ∧ c2 19 ≤ (cn9 20)) ∧ (∀ k : Nat, k < (cn9 23) → F2 27 k = (Fn9 27) k))) ∧ (((r : Int32) = 0 → ∃ e9 : Nat, CDV bb nn ((cn9 19)) u1 = .error e9 ∧ FLT I2 e9) ∧ ((r : Int32) = 1 → ∃ uX : OutT, CDV bb nn ((cn9 19)) u1 = .ok (c2 19, uX) ∧ SAYm (F2 27) (c2 23) uX)))) r_10 cn11 In11 Fn11 := wh_11
          obtain ⟨hfc11, hIn11, h_11⟩ := vh_11
          have hf11 : Fr [19, 23, 24, 25, 26] [21, 22] [27, 28, 29, 30, 31] cn In Fn cn11 In11 Fn11 := Fr.mo (Fr.tr (Fr.f 30 hf9) hfc11) (sbl rfl) (sbl rfl) (sbl rfl)
          have hi_cn11 : Hid (CB cn11) := hIn11.b
          have : cn11 20 = cn 20 := hf11.1 20 (nml rfl)
          have hq_cn11 := Hid.i (frq_19_23_24_25_26_0_1_2_46_57_58_62_63_75_83_44 hf11)
          have : cn11 20 = (cn9 20) := hfc11.1 20 (nml rfl)
          have : cn11 25 = (cn9 25) := hfc11.1 25 (nml rfl)
          obtain ⟨h_11, Nh_11⟩ := h_11
          rcases h_11 with rfl | ⟨rfl, kh_11⟩
          ·
            refine lv_if_ne (tgt := 115) hx hb dX12_readsClause_110 rfl (fun h => absurd h cq_eq_0_0) (fun _ => ?_)
            refine lv_iconst (v := 0) hx hb dX12_readsClause_113 kic_0 ?_
            exact W.zret (v := 0) hx hb hr rfl (fun t ht hW => ⟨⟨0, (cn11, In11, Fn11), rfl, ⟨(Fr.mo hf11 (sbl rfl) (sbl rfl) (sbl rfl)), hIn11, (by show ((0 : Int32) = 0 ∨ (0 = 1 ∧ cn 19 < cn11 19 ∧ cn11 19 ≤ cn 20 ∧ cn11 23 ≤ cn11 19 ∧ cn11 25 ≤ 12 ∧ ALL (Fn11 27) (cn11 23) (cn11 25) (Fn11 29) (Fn11 30) (Fn11 31))) ∧ (((0 : Int32) = 0 → ∃ e9 : Nat, clV bb nn (ldI v0) (cn 25) (cn 19) oo = .error e9 ∧ FLT In11 e9) ∧ ((0 : Int32) = 1 → ∃ (uX : OutT) (hX : Nat), clV bb nn (ldI v0) (cn 25) (cn 19) oo = .ok (cn11 19, uX, hX) ∧ SAYm (Fn11 27) (cn11 23) uX ∧ cn11 25 = cn 25 + 1 ∧ hX ≤ 160 ∧ Fn11 29 = upd (Fn 29) (cn 25) (nI oo.length) ∧ Fn11 30 = upd (Fn 30) (cn 25) (nI hX) ∧ Fn11 31 = upd (Fn 31) (cn 25) (nI uX.length))); exact ⟨(by exact Or.inl rfl), ⟨fun _ => (by rw [(ld_0 (show v0 = 0 by assumption))]; obtain ⟨e9, a9, f9⟩ := Nh_11.1 rfl; exact ⟨e9, clV_sc (hpk_2.trans (show r_1 = 112 by assumption)) (by (first | omega | (have zz0 := Hid.u hi_cn; have zz1 := Hid.u hi_cn11; have zz2 := Hid.u hi_cn9; have zz3 := Hid.u hq_cn11; have zz4 := Hid.u hq_cn9; omega))) hs1 a9, f9⟩), (fun q => absurd q (by decide))⟩⟩)⟩, by rw [ht]; exact hP, hD⟩, hS.F ht⟩) hS.2.2 dX12_readsClause_114
          ·
            obtain ⟨kh_11a, kh_11b, kh_11c, kh_11d, kh_11e⟩ := kh_11
            refine lv_if_ne (tgt := 115) hx hb dX12_readsClause_110 rfl (fun _ => ?_) (fun h => absurd h cq_eq_1_0)
            have e29 : Fn11 29 = upd (Fn 29) (cn 25) (nI (cn 23)) := (hfc11.2.2 29 (nml rfl)).trans e29a
            have e30 : Fn11 30 = upd (Fn 30) (cn 25) (nI (cn9 23)) := (hfc11.2.2 30 (nml rfl)).trans (by show upd (Fn9 30) (cn9 25) _ = _; rw [e30a, show cn9 25 = cn 25 by (first | omega | (have zz0 := Hid.u hi_cn; have zz1 := Hid.u hi_cn11; have zz2 := Hid.u hi_cn9; have zz3 := Hid.u hq_cn11; have zz4 := Hid.u hq_cn9; omega))])
            have e31 : Fn11 31 = Fn 31 := (hfc11.2.2 31 (nml rfl)).trans e31a
            have esd : ∀ k : Nat, k < cn 23 → Fn11 27 k = Fn 27 k := fun k hk => (kh_11e k (by (first | omega | (have zz0 := Hid.u hi_cn; have zz1 := Hid.u hi_cn11; have zz2 := Hid.u hi_cn9; have zz3 := Hid.u hq_cn11; have zz4 := Hid.u hq_cn9; omega)))).trans (esaid k hk)
            have hall : ALL (Fn11 27) (cn11 23) (cn11 25 + 1) (Fn11 29) (Fn11 30) (upd (Fn11 31) (cn11 25) (nI (cn11 23))) := by rw [e29, e30, e31, show cn11 25 = cn 25 by (first | omega | (have zz0 := Hid.u hi_cn; have zz1 := Hid.u hi_cn11; have zz2 := Hid.u hi_cn9; have zz3 := Hid.u hq_cn11; have zz4 := Hid.u hq_cn9; omega))]; exact ALL.add hL esd (by (first | omega | (have zz0 := Hid.u hi_cn; have zz1 := Hid.u hi_cn11; have zz2 := Hid.u hi_cn9; have zz3 := Hid.u hq_cn11; have zz4 := Hid.u hq_cn9; omega))) (by (first | omega | (have zz0 := Hid.u hi_cn; have zz1 := Hid.u hi_cn11; have zz2 := Hid.u hi_cn9; have zz3 := Hid.u hq_cn11; have zz4 := Hid.u hq_cn9; omega))) (SegOK.cg hseg1 (fun k hk => kh_11e k hk)) kh_11a
            obtain ⟨u2, hs2, hy2⟩ := Nh_11.2 rfl
            refine lv_aload_n hx hb dX12_readsClause_115 rfl (lvA0 hl) ?_
            refine gM_68 S hK hP (v := .ref (g 31)) rfl dX12_readsClause_116 ?_
            refine lv_aload_n hx hb dX12_readsClause_119 rfl (lvA0 hl) ?_
            refine gM_312 S hK hP (v := .int (nI (cn11 25))) rfl dX12_readsClause_120 ?_
            refine lv_aload_n hx hb dX12_readsClause_123 rfl (lvA0 hl) ?_
            refine gM_257 S hK hP (v := .int (nI (cn11 23))) rfl dX12_readsClause_124 ?_
            have kb_3 : (cn11 25) < 12 := by (first | omega | (have zz0 := Hid.u hi_cn; have zz1 := Hid.u hi_cn11; have zz2 := Hid.u hi_cn9; have zz3 := Hid.u hq_cn11; have zz4 := Hid.u hq_cn9; omega))
            refine stM_31 hx hb hK hP hD hS (Fn2 := (va_up Fn11 31 (upd (Fn11 31) (cn11 25) (nI (cn11 23))))) (vp_in_nI kb_3 (ltb rfl)) (nI_clamp (Nat.lt_trans kb_3 (ltb rfl))) rfl dX12_readsClause_127 (fun H locs hP hD hS => ?_)
            refine lv_aload_n hx hb dX12_readsClause_128 rfl (lvA0 hl) ?_
            refine lv_aload_n hx hb dX12_readsClause_129 rfl (lvA0 hl) ?_
            refine gM_312 S hK hP (v := .int (nI (cn11 25))) rfl dX12_readsClause_130 ?_
            refine lv_iconst (v := 1) hx hb dX12_readsClause_133 kic_1 ?_
            refine lv_iadd hx hb dX12_readsClause_134 ?_
            refine lv_topi (fun y_12 ey_12 => ?_)
            obtain rfl : y_12 = (nI ((cn11 25) + 1)) := ey_12.trans (nI_add (cn11 25) 1)
            refine pM_312 S hK hP hD hS (a := ((cn11 25) + 1)) (cn2 := (va_up cn11 25 ((cn11 25) + 1))) rfl rfl dX12_readsClause_135 (fun H locs hP hD hS => ?_)
            refine lv_iconst (v := 1) hx hb dX12_readsClause_138 kic_1 ?_
            exact W.zret (v := 1) hx hb hr rfl (fun t ht hW => ⟨⟨1, ((va_up cn11 25 ((cn11 25) + 1)), In11, (va_up Fn11 31 (upd (Fn11 31) (cn11 25) (nI (cn11 23))))), rfl, ⟨(Fr.mo (Fr.f 31 (Fr.c 25 hf11)) (sbl rfl) (sbl rfl) (sbl rfl)), (IM.fr (In := In11) hIn11 (Fr.f 31 (Fr.c 25 Fr.rf)) (by decide) (by decide)), (by show ((1 : Int32) = 0 ∨ (1 = 1 ∧ cn 19 < (va_up cn11 25 ((cn11 25) + 1)) 19 ∧ (va_up cn11 25 ((cn11 25) + 1)) 19 ≤ cn 20 ∧ (va_up cn11 25 ((cn11 25) + 1)) 23 ≤ (va_up cn11 25 ((cn11 25) + 1)) 19 ∧ (va_up cn11 25 ((cn11 25) + 1)) 25 ≤ 12 ∧ ALL ((va_up Fn11 31 (upd (Fn11 31) (cn11 25) (nI (cn11 23)))) 27) ((va_up cn11 25 ((cn11 25) + 1)) 23) ((va_up cn11 25 ((cn11 25) + 1)) 25) ((va_up Fn11 31 (upd (Fn11 31) (cn11 25) (nI (cn11 23)))) 29) ((va_up Fn11 31 (upd (Fn11 31) (cn11 25) (nI (cn11 23)))) 30) ((va_up Fn11 31 (upd (Fn11 31) (cn11 25) (nI (cn11 23)))) 31))) ∧ (((1 : Int32) = 0 → ∃ e9 : Nat, clV bb nn (ldI v0) (cn 25) (cn 19) oo = .error e9 ∧ FLT In11 e9) ∧ ((1 : Int32) = 1 → ∃ (uX : OutT) (hX : Nat), clV bb nn (ldI v0) (cn 25) (cn 19) oo = .ok ((va_up cn11 25 ((cn11 25) + 1)) 19, uX, hX) ∧ SAYm ((va_up Fn11 31 (upd (Fn11 31) (cn11 25) (nI (cn11 23)))) 27) ((va_up cn11 25 ((cn11 25) + 1)) 23) uX ∧ (va_up cn11 25 ((cn11 25) + 1)) 25 = cn 25 + 1 ∧ hX ≤ 160 ∧ (va_up Fn11 31 (upd (Fn11 31) (cn11 25) (nI (cn11 23)))) 29 = upd (Fn 29) (cn 25) (nI oo.length) ∧ (va_up Fn11 31 (upd (Fn11 31) (cn11 25) (nI (cn11 23)))) 30 = upd (Fn 30) (cn 25) (nI hX) ∧ (va_up Fn11 31 (upd (Fn11 31) (cn11 25) (nI (cn11 23)))) 31 = upd (Fn 31) (cn 25) (nI uX.length))); exact ⟨(by exact Or.inr ⟨rfl, (by show cn 19 < cn11 19; (first | omega | (have zz0 := Hid.u hi_cn; have zz1 := Hid.u hi_cn11; have zz2 := Hid.u hi_cn9; have zz3 := Hid.u hq_cn11; have zz4 := Hid.u hq_cn9; omega))), (by show cn11 19 ≤ cn 20; (first | omega | (have zz0 := Hid.u hi_cn; have zz1 := Hid.u hi_cn11; have zz2 := Hid.u hi_cn9; have zz3 := Hid.u hq_cn11; have zz4 := Hid.u hq_cn9; omega))), (by show cn11 23 ≤ cn11 19; (first | omega | (have zz0 := Hid.u hi_cn; have zz1 := Hid.u hi_cn11; have zz2 := Hid.u hi_cn9; have zz3 := Hid.u hq_cn11; have zz4 := Hid.u hq_cn9; omega))), (by show cn11 25 + 1 ≤ 12; (first | omega | (have zz0 := Hid.u hi_cn; have zz1 := Hid.u hi_cn11; have zz2 := Hid.u hi_cn9; have zz3 := Hid.u hq_cn11; have zz4 := Hid.u hq_cn9; omega))), hall⟩), ⟨(fun q => absurd q (by decide)), fun _ => (by rw [(ld_0 (show v0 = 0 by assumption))]; exact ⟨u2, _, clV_so (hpk_2.trans (show r_1 = 112 by assumption)) (by (first | omega | (have zz0 := Hid.u hi_cn; have zz1 := Hid.u hi_cn11; have zz2 := Hid.u hi_cn9; have zz3 := Hid.u hq_cn11; have zz4 := Hid.u hq_cn9; omega))) hs1 hs2, hy2, (by show cn11 25 + 1 = cn 25 + 1; (first | omega | (have zz0 := Hid.u hi_cn; have zz1 := Hid.u hi_cn11; have zz2 := Hid.u hi_cn9; have zz3 := Hid.u hq_cn11; have zz4 := Hid.u hq_cn9; omega))), (by have q9 := hr1.2.2.1; (first | omega | (have zz0 := Hid.u hi_cn; have zz1 := Hid.u hi_cn11; have zz2 := Hid.u hi_cn9; have zz3 := Hid.u hq_cn11; have zz4 := Hid.u hq_cn9; omega))), (by show Fn11 29 = _; rw [e29, hsay.1]), (by show Fn11 30 = _; rw [e30, hr1.2.2.1]), (by show upd (Fn11 31) (cn11 25) (nI (cn11 23)) = _; rw [e31, show cn11 25 = cn 25 by (first | omega | (have zz0 := Hid.u hi_cn; have zz1 := Hid.u hi_cn11; have zz2 := Hid.u hi_cn9; have zz3 := Hid.u hq_cn11; have zz4 := Hid.u hq_cn9; omega)), hy2.1])⟩)⟩⟩)⟩, by rw [ht]; exact hP, hD⟩, hS.F ht⟩) hS.2.2 dX12_readsClause_139
      ·
        have tc_5 : ((nI (cn 25)).toInt : Int) = 12 := congrArg Int32.toInt c_5
        refine lv_aload_n hx hb dX12_readsClause_37 rfl (lvA0 hl) ?_
        refine lv_iconst (v := 4) hx hb dX12_readsClause_38 kic_4 ?_
        refine lv_aload_n hx hb dX12_readsClause_39 rfl (lvA0 hl) ?_
        refine gM_233 S hK hP (v := .int (nI (cn 19))) rfl dX12_readsClause_40 ?_
        have hFc := free_all hD hS hA
        refine va_calli (runV_a (As := [.int 4, .int (nI (cn 19))]) (rest := []) S (q_wrong9 l D cI cB cZ g cn In Fn 4 (nI (cn 19)) s.heap.size hI) kV_RX12_246 hK hP hD 0 rfl rfl rfl ⟨Nat.le_of_ble_eq_true rfl, Nat.le_of_ble_eq_true rfl⟩ ⟨Nat.le_of_ble_eq_true rfl, Nat.le_of_ble_eq_true rfl⟩ rfl hl.1 rfl (Nat.le_of_ble_eq_true rfl) dX12_readsClause_43) hS (fun q _ h => hFc q h) hFc (fun r_13 u t H1 locs ht hvm wh_14 hB hz1 hk1 hS => ?_)
        obtain ⟨cn14, In14, Fn14⟩ := u
        obtain ⟨hP1, hD1⟩ := hB
        rw [ht] at hP1
        have vh_14 : (fun r c2 I2 F2 => (∀ k : Nat, k ∉ [21] → I2 k = In k) ∧ ((r = 0 ∧ (I2 21 = (-1000) * 4 - (nI (cn 19))) ∧ cn = c2 ∧ Fn = F2))) r_13 cn14 In14 Fn14 := wh_14
        obtain ⟨hI14_, vh_14⟩ := vh_14
        obtain ⟨rfl, h_14, rfl, rfl⟩ := vh_14
        have hf14 : Fr [19, 23, 24, 25, 26] [21, 22] [27, 28, 29, 30, 31] cn In Fn cn In14 Fn := Fr.mo (Fr.tr (Fr.rf (cn := cn) (In := In) (Fn := Fn)) (show Fr [] [21] [] cn In Fn cn In14 Fn from ⟨fun _ _ => rfl, hI14_, fun _ _ => rfl⟩)) (sbl rfl) (sbl rfl) (sbl rfl)
        have hP : va_P D vwCl (wM cI cB cZ g cn In14 Fn) H1 := hP1
        have hD : va_D A (wM cI cB cZ g cn In14 Fn) := hD1.weaken (fun _ _ _ h => hFc _ h)
        generalize H1 = H at hP hS ⊢
        exact W.zret (v := 0) hx hb hr rfl (fun t ht hW => ⟨⟨0, (cn, In14, Fn), rfl, ⟨(Fr.mo hf14 (sbl rfl) (sbl rfl) (sbl rfl)), hI, (by show ((0 : Int32) = 0 ∨ (0 = 1 ∧ cn 19 < cn 19 ∧ cn 19 ≤ cn 20 ∧ cn 23 ≤ cn 19 ∧ cn 25 ≤ 12 ∧ ALL (Fn 27) (cn 23) (cn 25) (Fn 29) (Fn 30) (Fn 31))) ∧ (((0 : Int32) = 0 → ∃ e9 : Nat, clV bb nn (ldI v0) (cn 25) (cn 19) oo = .error e9 ∧ FLT In14 e9) ∧ ((0 : Int32) = 1 → ∃ (uX : OutT) (hX : Nat), clV bb nn (ldI v0) (cn 25) (cn 19) oo = .ok (cn 19, uX, hX) ∧ SAYm (Fn 27) (cn 23) uX ∧ cn 25 = cn 25 + 1 ∧ hX ≤ 160 ∧ Fn 29 = upd (Fn 29) (cn 25) (nI oo.length) ∧ Fn 30 = upd (Fn 30) (cn 25) (nI hX) ∧ Fn 31 = upd (Fn 31) (cn 25) (nI uX.length))); exact ⟨(by exact Or.inl rfl), ⟨fun _ => (by rw [(ld_0 (show v0 = 0 by assumption))]; exact ⟨_, clV_12 (hpk_2.trans (show r_1 = 112 by assumption)) (by (first | omega | (have zz0 := Hid.u hi_cn; omega))), flt_k (k := 4) (p := cn 19) (by decide) h_14⟩), (fun q => absurd q (by decide))⟩⟩)⟩, by rw [ht]; exact hP, hD⟩, hS.F ht⟩) hS.2.2 dX12_readsClause_46
    ·
      have tc_4 : (r_1.toInt : Int) ≠ 112 := fun q => c_4 (Int32.toInt_inj.mp q)
      refine lv_aload_n hx hb dX12_readsClause_18 rfl (lvA0 hl) ?_
      refine lv_iconst (v := 1) hx hb dX12_readsClause_19 kic_1 ?_
      refine lv_aload_n hx hb dX12_readsClause_20 rfl (lvA0 hl) ?_
      refine gM_233 S hK hP (v := .int (nI (cn 19))) rfl dX12_readsClause_21 ?_
      have hFc := free_all hD hS hA
      refine va_calli (runV_a (As := [.int 1, .int (nI (cn 19))]) (rest := []) S (q_wrong9 l D cI cB cZ g cn In Fn 1 (nI (cn 19)) s.heap.size hI) kV_RX12_246 hK hP hD 0 rfl rfl rfl ⟨Nat.le_of_ble_eq_true rfl, Nat.le_of_ble_eq_true rfl⟩ ⟨Nat.le_of_ble_eq_true rfl, Nat.le_of_ble_eq_true rfl⟩ rfl hl.1 rfl (Nat.le_of_ble_eq_true rfl) dX12_readsClause_24) hS (fun q _ h => hFc q h) hFc (fun r_15 u t H1 locs ht hvm wh_16 hB hz1 hk1 hS => ?_)
      obtain ⟨cn16, In16, Fn16⟩ := u
      obtain ⟨hP1, hD1⟩ := hB
      rw [ht] at hP1
      have vh_16 : (fun r c2 I2 F2 => (∀ k : Nat, k ∉ [21] → I2 k = In k) ∧ ((r = 0 ∧ (I2 21 = (-1000) * 1 - (nI (cn 19))) ∧ cn = c2 ∧ Fn = F2))) r_15 cn16 In16 Fn16 := wh_16
      obtain ⟨hI16_, vh_16⟩ := vh_16
      obtain ⟨rfl, h_16, rfl, rfl⟩ := vh_16
      have hf16 : Fr [19, 23, 24, 25, 26] [21, 22] [27, 28, 29, 30, 31] cn In Fn cn In16 Fn := Fr.mo (Fr.tr (Fr.rf (cn := cn) (In := In) (Fn := Fn)) (show Fr [] [21] [] cn In Fn cn In16 Fn from ⟨fun _ _ => rfl, hI16_, fun _ _ => rfl⟩)) (sbl rfl) (sbl rfl) (sbl rfl)
      have hP : va_P D vwCl (wM cI cB cZ g cn In16 Fn) H1 := hP1
      have hD : va_D A (wM cI cB cZ g cn In16 Fn) := hD1.weaken (fun _ _ _ h => hFc _ h)
      generalize H1 = H at hP hS ⊢
      exact W.zret (v := 0) hx hb hr rfl (fun t ht hW => ⟨⟨0, (cn, In16, Fn), rfl, ⟨(Fr.mo hf16 (sbl rfl) (sbl rfl) (sbl rfl)), hI, (by show ((0 : Int32) = 0 ∨ (0 = 1 ∧ cn 19 < cn 19 ∧ cn 19 ≤ cn 20 ∧ cn 23 ≤ cn 19 ∧ cn 25 ≤ 12 ∧ ALL (Fn 27) (cn 23) (cn 25) (Fn 29) (Fn 30) (Fn 31))) ∧ (((0 : Int32) = 0 → ∃ e9 : Nat, clV bb nn (ldI v0) (cn 25) (cn 19) oo = .error e9 ∧ FLT In16 e9) ∧ ((0 : Int32) = 1 → ∃ (uX : OutT) (hX : Nat), clV bb nn (ldI v0) (cn 25) (cn 19) oo = .ok (cn 19, uX, hX) ∧ SAYm (Fn 27) (cn 23) uX ∧ cn 25 = cn 25 + 1 ∧ hX ≤ 160 ∧ Fn 29 = upd (Fn 29) (cn 25) (nI oo.length) ∧ Fn 30 = upd (Fn 30) (cn 25) (nI hX) ∧ Fn 31 = upd (Fn 31) (cn 25) (nI uX.length))); exact ⟨(by exact Or.inl rfl), ⟨fun _ => (by rw [(ld_0 (show v0 = 0 by assumption))]; exact ⟨_, clV_w (fun q9 => (show ¬ r_1 = 112 by assumption) (hpk_2.symm.trans q9)), flt_k (k := 1) (p := cn 19) (by decide) h_16⟩), (fun q => absurd q (by decide))⟩⟩)⟩, by rw [ht]; exact hP, hD⟩, hS.F ht⟩) hS.2.2 dX12_readsClause_27
  ·
    have tc_3 : (v0.toInt : Int) ≠ 0 := fun q => c_3 (Int32.toInt_inj.mp q)
    refine lv_bipush (v := 108) hx hb (oc_16 8 (aq_8 shX12_readsClause_0) sgb_108) kbc_108 ?_
    refine lv_goto (tgt := 15) hx hb (oc_167 10 (aq_10 shX12_readsClause_0) sgw_0_5) rfl ?_
    refine lv_icmp_eq (tgt := 28) hx hb dX12_readsClause_15 rfl (fun c_17 => ?_) (fun c_17 => ?_)
    ·
      have tc_17 : (r_1.toInt : Int) = 108 := congrArg Int32.toInt c_17
      refine lv_aload_n hx hb dX12_readsClause_28 rfl (lvA0 hl) ?_
      refine gM_312 S hK hP (v := .int (nI (cn 25))) rfl dX12_readsClause_29 ?_
      refine lv_bipush (v := 12) hx hb dX12_readsClause_32 kbc_12 ?_
      have : (nI (cn 25)).toInt = (((cn 25) : Nat) : Int) := nI_toInt (by (first | omega | (have zz0 := Hid.u hi_cn; omega)))
      refine lv_icmp_ne (tgt := 47) hx hb dX12_readsClause_34 rfl (fun c_18 => ?_) (fun c_18 => ?_)
      ·
        have tc_18 : ((nI (cn 25)).toInt : Int) ≠ 12 := fun q => c_18 (Int32.toInt_inj.mp q)
        refine lv_aload_n hx hb dX12_readsClause_47 rfl (lvA0 hl) ?_
        refine lv_aload_n hx hb dX12_readsClause_48 rfl (lvA0 hl) ?_
        refine gM_233 S hK hP (v := .int (nI (cn 19))) rfl dX12_readsClause_49 ?_
        refine lv_iconst (v := 1) hx hb dX12_readsClause_52 kic_1 ?_
        refine lv_iadd hx hb dX12_readsClause_53 ?_
        refine lv_topi (fun y_19 ey_19 => ?_)
        obtain rfl : y_19 = (nI ((cn 19) + 1)) := ey_19.trans (nI_add (cn 19) 1)
        refine pM_233 S hK hP hD hS (a := ((cn 19) + 1)) (cn2 := (va_up cn 19 ((cn 19) + 1))) rfl rfl dX12_readsClause_54 (fun H locs hP hD hS => ?_)
        refine lv_aload_n hx hb dX12_readsClause_57 rfl (lvA0 hl) ?_
        refine gM_62 S hK hP (v := .ref (g 29)) rfl dX12_readsClause_58 ?_
        refine lv_aload_n hx hb dX12_readsClause_61 rfl (lvA0 hl) ?_
        refine gM_312 S hK hP (v := .int (nI (cn 25))) rfl dX12_readsClause_62 ?_
        refine lv_aload_n hx hb dX12_readsClause_65 rfl (lvA0 hl) ?_
        refine gM_257 S hK hP (v := .int (nI (cn 23))) rfl dX12_readsClause_66 ?_
        have kb_4 : (cn 25) < 12 := by (first | omega | (have zz0 := Hid.u hi_cn; omega))
        refine stM_29 hx hb hK hP hD hS (Fn2 := (va_up Fn 29 (upd (Fn 29) (cn 25) (nI (cn 23))))) (vp_in_nI kb_4 (ltb rfl)) (nI_clamp (Nat.lt_trans kb_4 (ltb rfl))) rfl dX12_readsClause_69 (fun H locs hP hD hS => ?_)
        refine lv_aload_n hx hb dX12_readsClause_70 rfl (lvA0 hl) ?_
        refine lv_iconst (v := 0) hx hb dX12_readsClause_71 kic_0 ?_
        refine pM_261 S hK hP hD hS (In2 := (va_up In 22 0)) rfl dX12_readsClause_72 (fun H locs hP hD hS => ?_)
        refine lv_aload_n hx hb dX12_readsClause_75 rfl (lvA0 hl) ?_
        refine lv_iconst (v := 0) hx hb dX12_readsClause_76 kic_0 ?_
        refine pM_264 S hK hP hD hS (a := 0) (cn2 := (va_up (va_up cn 19 ((cn 19) + 1)) 24 0)) rfl rfl dX12_readsClause_77 (fun H locs hP hD hS => ?_)
        refine lv_iload_n hx hb dX12_readsClause_80 rfl (lvA1 hl) ?_
        refine lv_if_ne (tgt := 93) hx hb dX12_readsClause_81 rfl (fun c_20 => ?_) (fun c_20 => ?_)
        ·
          have tc_20 : (v0.toInt : Int) ≠ 0 := fun q => c_20 (Int32.toInt_inj.mp q)
          have hseg1 := SegOK.nil (Fn 27) (cn 23)
          refine lv_aload_n hx hb dX12_readsClause_93 rfl (lvA0 hl) ?_
          refine gM_65 S hK hP (v := .ref (g 30)) rfl dX12_readsClause_94 ?_
          refine lv_aload_n hx hb dX12_readsClause_97 rfl (lvA0 hl) ?_
          refine gM_312 S hK hP (v := .int (nI (cn 25))) rfl dX12_readsClause_98 ?_
          refine lv_aload_n hx hb dX12_readsClause_101 rfl (lvA0 hl) ?_
          refine gM_257 S hK hP (v := .int (nI (cn 23))) rfl dX12_readsClause_102 ?_
          refine stM_30 hx hb hK hP hD hS (Fn2 := (va_up (va_up Fn 29 (upd (Fn 29) (cn 25) (nI (cn 23)))) 30 (upd (Fn 30) (cn 25) (nI (cn 23))))) (vp_in_nI kb_4 (ltb rfl)) (nI_clamp (Nat.lt_trans kb_4 (ltb rfl))) rfl dX12_readsClause_105 (fun H locs hP hD hS => ?_)
          refine lv_aload_n hx hb dX12_readsClause_106 rfl (lvA0 hl) ?_
          have hFc := free_all hD hS hA
          refine va_calli (runV_a (As := []) (rest := []) S (q_readsCondition9 l D cI cB cZ g (va_up (va_up cn 19 ((cn 19) + 1)) 24 0) (va_up In 22 0) (va_up (va_up Fn 29 (upd (Fn 29) (cn 25) (nI (cn 23)))) 30 (upd (Fn 30) (cn 25) (nI (cn 23)))) bb nn oo H.size (IM.fr (In := In) hI (Fr.f 30 (Fr.f 29 (Fr.c 24 (Fr.c 19 Fr.rf)))) (by decide) (by decide)) (show ((cn 19) + 1) ≤ (cn 20) by (first | omega | (have zz0 := Hid.u hi_cn; omega))) (show (cn 20) ≤ 160 by (first | omega | (have zz0 := Hid.u hi_cn; omega))) (show (cn 23) ≤ ((cn 19) + 1) by (first | omega | (have zz0 := Hid.u hi_cn; omega))) heb (show cn 20 = nn by (first | omega | (have zz0 := Hid.u hi_cn; omega))) (by exact hsay)) kV_RX12_315 hK hP hD 0 rfl rfl rfl ⟨Nat.le_of_ble_eq_true rfl, Nat.le_of_ble_eq_true rfl⟩ ⟨Nat.le_of_ble_eq_true rfl, Nat.le_of_ble_eq_true rfl⟩ rfl hl.1 rfl (Nat.le_of_ble_eq_true rfl) dX12_readsClause_107) hS (fun q _ h => hFc q h) hFc (fun r_21 u t H1 locs ht hvm wh_22 hB hz1 hk1 hS => ?_)
          obtain ⟨cn22, In22, Fn22⟩ := u
          obtain ⟨hP1, hD1⟩ := hB
          rw [ht] at hP1
          have hP : va_P D vwCl (wM cI cB cZ g cn22 In22 Fn22) H1 := hP1
          have hD : va_D A (wM cI cB cZ g cn22 In22 Fn22) := hD1.weaken (fun _ _ _ h => hFc _ h)
          generalize H1 = H at hP hS ⊢
          have vh_22 : (fun r c2 I2 F2 => Fr [19, 23, 24, 26] [21, 22] [27, 28] (va_up (va_up cn 19 ((cn 19) + 1)) 24 0) (va_up In 22 0) (va_up (va_up Fn 29 (upd (Fn 29) (cn 25) (nI (cn 23)))) 30 (upd (Fn 30) (cn 25) (nI (cn 23)))) c2 I2 F2 ∧ IM c2 F2 ∧ (((r : Int32) = 0 ∨ (r = 1 ∧ SegOK (F2 27) 0 ((cn 23)) (c2 23) ∧ (cn 23) ≤ c2 23 ∧ c2 23 ≤ c2 19 ∧ (((cn 19) + 1) ≤ c2 19 ∧ c2 19 ≤ (cn 20)) ∧ (∀ k : Nat, k < (cn 23) → F2 27 k = (Fn 27) k))) ∧ (((r : Int32) = 0 → ∃ e9 : Nat, CDV bb nn (((cn 19) + 1)) oo = .error e9 ∧ FLT I2 e9) ∧ ((r : Int32) = 1 → ∃ uX : OutT, CDV bb nn (((cn 19) + 1)) oo = .ok (c2 19, uX) ∧ SAYm (F2 27) (c2 23) uX)))) r_21 cn22 In22 Fn22 := wh_22
          obtain ⟨hfc22, hIn22, h_22⟩ := vh_22
          have hf22 : Fr [19, 23, 24, 25, 26] [21, 22] [27, 28, 29, 30, 31] cn In Fn cn22 In22 Fn22 := Fr.mo (Fr.tr (Fr.f 30 (Fr.f 29 (Fr.i 22 (Fr.c 24 (Fr.c 19 (Fr.rf (cn := cn) (In := In) (Fn := Fn))))))) hfc22) (sbl rfl) (sbl rfl) (sbl rfl)
          have hi_cn22 : Hid (CB cn22) := hIn22.b
          have : cn22 20 = cn 20 := hf22.1 20 (nml rfl)
          have hq_cn22 := Hid.i (frq_19_23_24_25_26_0_1_2_46_57_58_62_63_75_83_44 hf22)
          have : cn22 20 = (cn 20) := hfc22.1 20 (nml rfl)
          have : cn22 25 = (cn 25) := hfc22.1 25 (nml rfl)
          obtain ⟨h_22, Nh_22⟩ := h_22
          rcases h_22 with rfl | ⟨rfl, kh_22⟩
          ·
            refine lv_if_ne (tgt := 115) hx hb dX12_readsClause_110 rfl (fun h => absurd h cq_eq_0_0) (fun _ => ?_)
            refine lv_iconst (v := 0) hx hb dX12_readsClause_113 kic_0 ?_
            exact W.zret (v := 0) hx hb hr rfl (fun t ht hW => ⟨⟨0, (cn22, In22, Fn22), rfl, ⟨(Fr.mo hf22 (sbl rfl) (sbl rfl) (sbl rfl)), hIn22, (by show ((0 : Int32) = 0 ∨ (0 = 1 ∧ cn 19 < cn22 19 ∧ cn22 19 ≤ cn 20 ∧ cn22 23 ≤ cn22 19 ∧ cn22 25 ≤ 12 ∧ ALL (Fn22 27) (cn22 23) (cn22 25) (Fn22 29) (Fn22 30) (Fn22 31))) ∧ (((0 : Int32) = 0 → ∃ e9 : Nat, clV bb nn (ldI v0) (cn 25) (cn 19) oo = .error e9 ∧ FLT In22 e9) ∧ ((0 : Int32) = 1 → ∃ (uX : OutT) (hX : Nat), clV bb nn (ldI v0) (cn 25) (cn 19) oo = .ok (cn22 19, uX, hX) ∧ SAYm (Fn22 27) (cn22 23) uX ∧ cn22 25 = cn 25 + 1 ∧ hX ≤ 160 ∧ Fn22 29 = upd (Fn 29) (cn 25) (nI oo.length) ∧ Fn22 30 = upd (Fn 30) (cn 25) (nI hX) ∧ Fn22 31 = upd (Fn 31) (cn 25) (nI uX.length))); exact ⟨(by exact Or.inl rfl), ⟨fun _ => (by rw [(ld_1 (show ¬ v0 = 0 by assumption))]; obtain ⟨e9, a9, f9⟩ := Nh_22.1 rfl; exact ⟨e9, clV_lc (hpk_2.trans (show r_1 = 108 by assumption)) (by (first | omega | (have zz0 := Hid.u hi_cn; have zz1 := Hid.u hi_cn22; have zz2 := Hid.u hq_cn22; omega))) a9, f9⟩), (fun q => absurd q (by decide))⟩⟩)⟩, by rw [ht]; exact hP, hD⟩, hS.F ht⟩) hS.2.2 dX12_readsClause_114
          ·
            obtain ⟨kh_22a, kh_22b, kh_22c, kh_22d, kh_22e⟩ := kh_22
            refine lv_if_ne (tgt := 115) hx hb dX12_readsClause_110 rfl (fun _ => ?_) (fun h => absurd h cq_eq_1_0)
            have e29 : Fn22 29 = upd (Fn 29) (cn 25) (nI (cn 23)) := hfc22.2.2 29 (nml rfl)
            have e30 : Fn22 30 = upd (Fn 30) (cn 25) (nI (cn 23)) := hfc22.2.2 30 (nml rfl)
            have e31 : Fn22 31 = Fn 31 := hfc22.2.2 31 (nml rfl)
            have esd : ∀ k : Nat, k < cn 23 → Fn22 27 k = Fn 27 k := kh_22e
            have hall : ALL (Fn22 27) (cn22 23) (cn22 25 + 1) (Fn22 29) (Fn22 30) (upd (Fn22 31) (cn22 25) (nI (cn22 23))) := by rw [e29, e30, e31, show cn22 25 = cn 25 by (first | omega | (have zz0 := Hid.u hi_cn; have zz1 := Hid.u hi_cn22; have zz2 := Hid.u hq_cn22; omega))]; exact ALL.add hL esd (by (first | omega | (have zz0 := Hid.u hi_cn; have zz1 := Hid.u hi_cn22; have zz2 := Hid.u hq_cn22; omega))) (by (first | omega | (have zz0 := Hid.u hi_cn; have zz1 := Hid.u hi_cn22; have zz2 := Hid.u hq_cn22; omega))) (SegOK.cg hseg1 (fun k hk => kh_22e k hk)) kh_22a
            obtain ⟨u2, hs2, hy2⟩ := Nh_22.2 rfl
            refine lv_aload_n hx hb dX12_readsClause_115 rfl (lvA0 hl) ?_
            refine gM_68 S hK hP (v := .ref (g 31)) rfl dX12_readsClause_116 ?_
            refine lv_aload_n hx hb dX12_readsClause_119 rfl (lvA0 hl) ?_
            refine gM_312 S hK hP (v := .int (nI (cn22 25))) rfl dX12_readsClause_120 ?_
            refine lv_aload_n hx hb dX12_readsClause_123 rfl (lvA0 hl) ?_
            refine gM_257 S hK hP (v := .int (nI (cn22 23))) rfl dX12_readsClause_124 ?_
            have kb_5 : (cn22 25) < 12 := by (first | omega | (have zz0 := Hid.u hi_cn; have zz1 := Hid.u hi_cn22; have zz2 := Hid.u hq_cn22; omega))
            refine stM_31 hx hb hK hP hD hS (Fn2 := (va_up Fn22 31 (upd (Fn22 31) (cn22 25) (nI (cn22 23))))) (vp_in_nI kb_5 (ltb rfl)) (nI_clamp (Nat.lt_trans kb_5 (ltb rfl))) rfl dX12_readsClause_127 (fun H locs hP hD hS => ?_)
            refine lv_aload_n hx hb dX12_readsClause_128 rfl (lvA0 hl) ?_
            refine lv_aload_n hx hb dX12_readsClause_129 rfl (lvA0 hl) ?_
            refine gM_312 S hK hP (v := .int (nI (cn22 25))) rfl dX12_readsClause_130 ?_
            refine lv_iconst (v := 1) hx hb dX12_readsClause_133 kic_1 ?_
            refine lv_iadd hx hb dX12_readsClause_134 ?_
            refine lv_topi (fun y_23 ey_23 => ?_)
            obtain rfl : y_23 = (nI ((cn22 25) + 1)) := ey_23.trans (nI_add (cn22 25) 1)
            refine pM_312 S hK hP hD hS (a := ((cn22 25) + 1)) (cn2 := (va_up cn22 25 ((cn22 25) + 1))) rfl rfl dX12_readsClause_135 (fun H locs hP hD hS => ?_)
            refine lv_iconst (v := 1) hx hb dX12_readsClause_138 kic_1 ?_
            exact W.zret (v := 1) hx hb hr rfl (fun t ht hW => ⟨⟨1, ((va_up cn22 25 ((cn22 25) + 1)), In22, (va_up Fn22 31 (upd (Fn22 31) (cn22 25) (nI (cn22 23))))), rfl, ⟨(Fr.mo (Fr.f 31 (Fr.c 25 hf22)) (sbl rfl) (sbl rfl) (sbl rfl)), (IM.fr (In := In22) hIn22 (Fr.f 31 (Fr.c 25 Fr.rf)) (by decide) (by decide)), (by show ((1 : Int32) = 0 ∨ (1 = 1 ∧ cn 19 < (va_up cn22 25 ((cn22 25) + 1)) 19 ∧ (va_up cn22 25 ((cn22 25) + 1)) 19 ≤ cn 20 ∧ (va_up cn22 25 ((cn22 25) + 1)) 23 ≤ (va_up cn22 25 ((cn22 25) + 1)) 19 ∧ (va_up cn22 25 ((cn22 25) + 1)) 25 ≤ 12 ∧ ALL ((va_up Fn22 31 (upd (Fn22 31) (cn22 25) (nI (cn22 23)))) 27) ((va_up cn22 25 ((cn22 25) + 1)) 23) ((va_up cn22 25 ((cn22 25) + 1)) 25) ((va_up Fn22 31 (upd (Fn22 31) (cn22 25) (nI (cn22 23)))) 29) ((va_up Fn22 31 (upd (Fn22 31) (cn22 25) (nI (cn22 23)))) 30) ((va_up Fn22 31 (upd (Fn22 31) (cn22 25) (nI (cn22 23)))) 31))) ∧ (((1 : Int32) = 0 → ∃ e9 : Nat, clV bb nn (ldI v0) (cn 25) (cn 19) oo = .error e9 ∧ FLT In22 e9) ∧ ((1 : Int32) = 1 → ∃ (uX : OutT) (hX : Nat), clV bb nn (ldI v0) (cn 25) (cn 19) oo = .ok ((va_up cn22 25 ((cn22 25) + 1)) 19, uX, hX) ∧ SAYm ((va_up Fn22 31 (upd (Fn22 31) (cn22 25) (nI (cn22 23)))) 27) ((va_up cn22 25 ((cn22 25) + 1)) 23) uX ∧ (va_up cn22 25 ((cn22 25) + 1)) 25 = cn 25 + 1 ∧ hX ≤ 160 ∧ (va_up Fn22 31 (upd (Fn22 31) (cn22 25) (nI (cn22 23)))) 29 = upd (Fn 29) (cn 25) (nI oo.length) ∧ (va_up Fn22 31 (upd (Fn22 31) (cn22 25) (nI (cn22 23)))) 30 = upd (Fn 30) (cn 25) (nI hX) ∧ (va_up Fn22 31 (upd (Fn22 31) (cn22 25) (nI (cn22 23)))) 31 = upd (Fn 31) (cn 25) (nI uX.length))); exact ⟨(by exact Or.inr ⟨rfl, (by show cn 19 < cn22 19; (first | omega | (have zz0 := Hid.u hi_cn; have zz1 := Hid.u hi_cn22; have zz2 := Hid.u hq_cn22; omega))), (by show cn22 19 ≤ cn 20; (first | omega | (have zz0 := Hid.u hi_cn; have zz1 := Hid.u hi_cn22; have zz2 := Hid.u hq_cn22; omega))), (by show cn22 23 ≤ cn22 19; (first | omega | (have zz0 := Hid.u hi_cn; have zz1 := Hid.u hi_cn22; have zz2 := Hid.u hq_cn22; omega))), (by show cn22 25 + 1 ≤ 12; (first | omega | (have zz0 := Hid.u hi_cn; have zz1 := Hid.u hi_cn22; have zz2 := Hid.u hq_cn22; omega))), hall⟩), ⟨(fun q => absurd q (by decide)), fun _ => (by rw [(ld_1 (show ¬ v0 = 0 by assumption))]; exact ⟨u2, _, clV_lo (hpk_2.trans (show r_1 = 108 by assumption)) (by (first | omega | (have zz0 := Hid.u hi_cn; have zz1 := Hid.u hi_cn22; have zz2 := Hid.u hq_cn22; omega))) hs2, hy2, (by show cn22 25 + 1 = cn 25 + 1; (first | omega | (have zz0 := Hid.u hi_cn; have zz1 := Hid.u hi_cn22; have zz2 := Hid.u hq_cn22; omega))), (by have q9 := hsay.1; (first | omega | (have zz0 := Hid.u hi_cn; have zz1 := Hid.u hi_cn22; have zz2 := Hid.u hq_cn22; omega))), (by show Fn22 29 = _; rw [e29, hsay.1]), (by show Fn22 30 = _; rw [e30, hsay.1]), (by show upd (Fn22 31) (cn22 25) (nI (cn22 23)) = _; rw [e31, show cn22 25 = cn 25 by (first | omega | (have zz0 := Hid.u hi_cn; have zz1 := Hid.u hi_cn22; have zz2 := Hid.u hq_cn22; omega)), hy2.1])⟩)⟩⟩)⟩, by rw [ht]; exact hP, hD⟩, hS.F ht⟩) hS.2.2 dX12_readsClause_139
        ·
          have tc_20 : (v0.toInt : Int) = 0 := congrArg Int32.toInt c_20
          exact False.elim (absurd (show v0 = 0 by assumption) (show ¬ v0 = 0 by assumption))
      ·
        have tc_18 : ((nI (cn 25)).toInt : Int) = 12 := congrArg Int32.toInt c_18
        refine lv_aload_n hx hb dX12_readsClause_37 rfl (lvA0 hl) ?_
        refine lv_iconst (v := 4) hx hb dX12_readsClause_38 kic_4 ?_
        refine lv_aload_n hx hb dX12_readsClause_39 rfl (lvA0 hl) ?_
        refine gM_233 S hK hP (v := .int (nI (cn 19))) rfl dX12_readsClause_40 ?_
        have hFc := free_all hD hS hA
        refine va_calli (runV_a (As := [.int 4, .int (nI (cn 19))]) (rest := []) S (q_wrong9 l D cI cB cZ g cn In Fn 4 (nI (cn 19)) s.heap.size hI) kV_RX12_246 hK hP hD 0 rfl rfl rfl ⟨Nat.le_of_ble_eq_true rfl, Nat.le_of_ble_eq_true rfl⟩ ⟨Nat.le_of_ble_eq_true rfl, Nat.le_of_ble_eq_true rfl⟩ rfl hl.1 rfl (Nat.le_of_ble_eq_true rfl) dX12_readsClause_43) hS (fun q _ h => hFc q h) hFc (fun r_24 u t H1 locs ht hvm wh_25 hB hz1 hk1 hS => ?_)
        obtain ⟨cn25, In25, Fn25⟩ := u
        obtain ⟨hP1, hD1⟩ := hB
        rw [ht] at hP1
        have vh_25 : (fun r c2 I2 F2 => (∀ k : Nat, k ∉ [21] → I2 k = In k) ∧ ((r = 0 ∧ (I2 21 = (-1000) * 4 - (nI (cn 19))) ∧ cn = c2 ∧ Fn = F2))) r_24 cn25 In25 Fn25 := wh_25
        obtain ⟨hI25_, vh_25⟩ := vh_25
        obtain ⟨rfl, h_25, rfl, rfl⟩ := vh_25
        have hf25 : Fr [19, 23, 24, 25, 26] [21, 22] [27, 28, 29, 30, 31] cn In Fn cn In25 Fn := Fr.mo (Fr.tr (Fr.rf (cn := cn) (In := In) (Fn := Fn)) (show Fr [] [21] [] cn In Fn cn In25 Fn from ⟨fun _ _ => rfl, hI25_, fun _ _ => rfl⟩)) (sbl rfl) (sbl rfl) (sbl rfl)
        have hP : va_P D vwCl (wM cI cB cZ g cn In25 Fn) H1 := hP1
        have hD : va_D A (wM cI cB cZ g cn In25 Fn) := hD1.weaken (fun _ _ _ h => hFc _ h)
        generalize H1 = H at hP hS ⊢
        exact W.zret (v := 0) hx hb hr rfl (fun t ht hW => ⟨⟨0, (cn, In25, Fn), rfl, ⟨(Fr.mo hf25 (sbl rfl) (sbl rfl) (sbl rfl)), hI, (by show ((0 : Int32) = 0 ∨ (0 = 1 ∧ cn 19 < cn 19 ∧ cn 19 ≤ cn 20 ∧ cn 23 ≤ cn 19 ∧ cn 25 ≤ 12 ∧ ALL (Fn 27) (cn 23) (cn 25) (Fn 29) (Fn 30) (Fn 31))) ∧ (((0 : Int32) = 0 → ∃ e9 : Nat, clV bb nn (ldI v0) (cn 25) (cn 19) oo = .error e9 ∧ FLT In25 e9) ∧ ((0 : Int32) = 1 → ∃ (uX : OutT) (hX : Nat), clV bb nn (ldI v0) (cn 25) (cn 19) oo = .ok (cn 19, uX, hX) ∧ SAYm (Fn 27) (cn 23) uX ∧ cn 25 = cn 25 + 1 ∧ hX ≤ 160 ∧ Fn 29 = upd (Fn 29) (cn 25) (nI oo.length) ∧ Fn 30 = upd (Fn 30) (cn 25) (nI hX) ∧ Fn 31 = upd (Fn 31) (cn 25) (nI uX.length))); exact ⟨(by exact Or.inl rfl), ⟨fun _ => (by rw [(ld_1 (show ¬ v0 = 0 by assumption))]; exact ⟨_, clV_12 (hpk_2.trans (show r_1 = 108 by assumption)) (by (first | omega | (have zz0 := Hid.u hi_cn; omega))), flt_k (k := 4) (p := cn 19) (by decide) h_25⟩), (fun q => absurd q (by decide))⟩⟩)⟩, by rw [ht]; exact hP, hD⟩, hS.F ht⟩) hS.2.2 dX12_readsClause_46
    ·
      have tc_17 : (r_1.toInt : Int) ≠ 108 := fun q => c_17 (Int32.toInt_inj.mp q)
      refine lv_aload_n hx hb dX12_readsClause_18 rfl (lvA0 hl) ?_
      refine lv_iconst (v := 1) hx hb dX12_readsClause_19 kic_1 ?_
      refine lv_aload_n hx hb dX12_readsClause_20 rfl (lvA0 hl) ?_
      refine gM_233 S hK hP (v := .int (nI (cn 19))) rfl dX12_readsClause_21 ?_
      have hFc := free_all hD hS hA
      refine va_calli (runV_a (As := [.int 1, .int (nI (cn 19))]) (rest := []) S (q_wrong9 l D cI cB cZ g cn In Fn 1 (nI (cn 19)) s.heap.size hI) kV_RX12_246 hK hP hD 0 rfl rfl rfl ⟨Nat.le_of_ble_eq_true rfl, Nat.le_of_ble_eq_true rfl⟩ ⟨Nat.le_of_ble_eq_true rfl, Nat.le_of_ble_eq_true rfl⟩ rfl hl.1 rfl (Nat.le_of_ble_eq_true rfl) dX12_readsClause_24) hS (fun q _ h => hFc q h) hFc (fun r_26 u t H1 locs ht hvm wh_27 hB hz1 hk1 hS => ?_)
      obtain ⟨cn27, In27, Fn27⟩ := u
      obtain ⟨hP1, hD1⟩ := hB
      rw [ht] at hP1
      have vh_27 : (fun r c2 I2 F2 => (∀ k : Nat, k ∉ [21] → I2 k = In k) ∧ ((r = 0 ∧ (I2 21 = (-1000) * 1 - (nI (cn 19))) ∧ cn = c2 ∧ Fn = F2))) r_26 cn27 In27 Fn27 := wh_27
      obtain ⟨hI27_, vh_27⟩ := vh_27
      obtain ⟨rfl, h_27, rfl, rfl⟩ := vh_27
      have hf27 : Fr [19, 23, 24, 25, 26] [21, 22] [27, 28, 29, 30, 31] cn In Fn cn In27 Fn := Fr.mo (Fr.tr (Fr.rf (cn := cn) (In := In) (Fn := Fn)) (show Fr [] [21] [] cn In Fn cn In27 Fn from ⟨fun _ _ => rfl, hI27_, fun _ _ => rfl⟩)) (sbl rfl) (sbl rfl) (sbl rfl)
      have hP : va_P D vwCl (wM cI cB cZ g cn In27 Fn) H1 := hP1
      have hD : va_D A (wM cI cB cZ g cn In27 Fn) := hD1.weaken (fun _ _ _ h => hFc _ h)
      generalize H1 = H at hP hS ⊢
      exact W.zret (v := 0) hx hb hr rfl (fun t ht hW => ⟨⟨0, (cn, In27, Fn), rfl, ⟨(Fr.mo hf27 (sbl rfl) (sbl rfl) (sbl rfl)), hI, (by show ((0 : Int32) = 0 ∨ (0 = 1 ∧ cn 19 < cn 19 ∧ cn 19 ≤ cn 20 ∧ cn 23 ≤ cn 19 ∧ cn 25 ≤ 12 ∧ ALL (Fn 27) (cn 23) (cn 25) (Fn 29) (Fn 30) (Fn 31))) ∧ (((0 : Int32) = 0 → ∃ e9 : Nat, clV bb nn (ldI v0) (cn 25) (cn 19) oo = .error e9 ∧ FLT In27 e9) ∧ ((0 : Int32) = 1 → ∃ (uX : OutT) (hX : Nat), clV bb nn (ldI v0) (cn 25) (cn 19) oo = .ok (cn 19, uX, hX) ∧ SAYm (Fn 27) (cn 23) uX ∧ cn 25 = cn 25 + 1 ∧ hX ≤ 160 ∧ Fn 29 = upd (Fn 29) (cn 25) (nI oo.length) ∧ Fn 30 = upd (Fn 30) (cn 25) (nI hX) ∧ Fn 31 = upd (Fn 31) (cn 25) (nI uX.length))); exact ⟨(by exact Or.inl rfl), ⟨fun _ => (by rw [(ld_1 (show ¬ v0 = 0 by assumption))]; exact ⟨_, clV_w (fun q9 => (show ¬ r_1 = 108 by assumption) (hpk_2.symm.trans q9)), flt_k (k := 1) (p := cn 19) (by decide) h_27⟩), (fun q => absurd q (by decide))⟩⟩)⟩, by rw [ht]; exact hP, hD⟩, hS.F ht⟩) hS.2.2 dX12_readsClause_27
set_option maxRecDepth 100000 in
set_option maxHeartbeats 4000000 in
theorem q_takes9 (l : Launch) (D : va_G) (cI cB cZ : ClassId) (g : Nat → Nat) (cn : Nat → Nat) (In : Nat → Int32) (Fn : Nat → Nat → Int32) (v0 : Int32) (sz : Nat) (hI : IM cn Fn) (hp : cn 19 ≤ cn 20) (hn : cn 20 ≤ 160) (hv0 : 0 ≤ v0.toInt) : Met l yX12_takes (CWS yX12_takes cX12_takes 2 (some .boolean)) (RM 1 0 0) (PBw [.ref (g 100), .int v0] D cI cB cZ (wM cI cB cZ g cn In Fn) sz) (va_Qi (fun (r : Int32) (u : (Nat → Nat) × (Nat → Int32) × (Nat → Nat → Int32)) => (fun r c2 I2 F2 => (∀ k : Nat, k ∉ [21] → I2 k = In k) ∧ ((r = 0 ∧ (¬ hereM cn Fn = v0 ∧ I2 21 = (-1000) * 1 - nI (cn 19)) ∧ cn = c2 ∧ Fn = F2) ∨ (r = 1 ∧ (cn 19 < cn 20 ∧ hereM cn Fn = v0) ∧ (va_up cn 19 (cn 19 + 1)) = c2 ∧ Fn = F2))) r u.1 u.2.1 u.2.2) (fun (u : (Nat → Nat) × (Nat → Int32) × (Nat → Nat → Int32)) (t : State) => va_P D vwCl (wM cI cB cZ g u.1 u.2.1 u.2.2) t.heap ∧ va_D (va_A (wM cI cB cZ g cn In Fn) sz) (wM cI cB cZ g u.1 u.2.1 u.2.2)) (va_A (wM cI cB cZ g cn In Fn) sz)) 0 0 (va_A (wM cI cB cZ g cn In Fn) sz) := by
  refine en_w (fun A => (va_Qi (fun (r : Int32) (u : (Nat → Nat) × (Nat → Int32) × (Nat → Nat → Int32)) => (fun (r : Int32) (c2 : Nat → Nat) (I2 : Nat → Int32) (F2 : Nat → Nat → Int32) => (∀ k : Nat, k ∉ [21] → I2 k = In k) ∧ ((r = 0 ∧ (¬ hereM cn Fn = v0 ∧ I2 21 = (-1000) * 1 - nI (cn 19)) ∧ cn = c2 ∧ Fn = F2) ∨ (r = 1 ∧ (cn 19 < cn 20 ∧ hereM cn Fn = v0) ∧ (va_up cn 19 (cn 19 + 1)) = c2 ∧ Fn = F2))) r u.1 u.2.1 u.2.2) (fun (u : (Nat → Nat) × (Nat → Int32) × (Nat → Nat → Int32)) (t : State) => va_P D vwCl (wM cI cB cZ g u.1 u.2.1 u.2.2) t.heap ∧ va_D A (wM cI cB cZ g u.1 u.2.1 u.2.2)) A)) rfl rfl pn_RX12 (Nat.le_of_ble_eq_true rfl) (fun p e s m below meth c A hx hb hml hown S hr hlocks hnm hA hP hK hD hS ls hl => ?_)
  have hl : lv_has ls 2 [(0, .ref (g 100)), (1, .int v0)] := hl
  have hi_cn : Hid (CB cn) := hI.b
  refine lv_aload_n hx hb (oc_42 0 shX12_takes_0) rfl (lvA0 hl) ?_
  refine vp_callSi (runV_ra (As := []) (rest := []) S (q_here l D cI cB cZ g cn In Fn  hI (by (first | omega | (have zz0 := Hid.u hi_cn; omega))) (by (first | omega | (have zz0 := Hid.u hi_cn; omega)))) kV_RX12_239 hK hP 0 rfl rfl rfl ⟨Nat.le_of_ble_eq_true rfl, Nat.le_of_ble_eq_true rfl⟩ ⟨Nat.le_of_ble_eq_true rfl, Nat.le_of_ble_eq_true rfl⟩ rfl hl.1 rfl (Nat.le_of_ble_eq_true rfl) (oc_182 1 (aq_1 shX12_takes_0) uw_0_239)) (fun r_1 h_2 => ?_)
  refine lv_iload_n hx hb (oc_27 4 (aq_4 shX12_takes_0)) rfl (lvA1 hl) ?_
  refine lv_icmp_eq (tgt := 18) hx hb (oc_159 5 (aq_5 shX12_takes_0) sgw_0_13) rfl (fun c_3 => ?_) (fun c_3 => ?_)
  ·
    have tc_3 : (r_1.toInt : Int) = v0.toInt := congrArg Int32.toInt c_3
    refine lv_aload_n hx hb (oc_42 18 (aq_18 shX12_takes_0)) rfl (lvA0 hl) ?_
    refine lv_aload_n hx hb (oc_42 19 (aq_19 shX12_takes_0)) rfl (lvA0 hl) ?_
    refine gM_233 S hK hP (v := .int (nI (cn 19))) rfl (oc_180 20 (aq_20 shX12_takes_0) uw_0_233) ?_
    refine lv_iconst (v := 1) hx hb (oc_4 23 (aq_23 shX12_takes_0)) kic_1 ?_
    refine lv_iadd hx hb (oc_96 24 shX12_takes_24) ?_
    refine lv_topi (fun y_4 ey_4 => ?_)
    obtain rfl : y_4 = (nI ((cn 19) + 1)) := ey_4.trans (nI_add (cn 19) 1)
    refine pM_233 S hK hP hD hS (a := ((cn 19) + 1)) (cn2 := (va_up cn 19 ((cn 19) + 1))) rfl rfl (oc_181 25 (aq_1 shX12_takes_24) uw_0_233) (fun H locs hP hD hS => ?_)
    refine lv_iconst (v := 1) hx hb (oc_4 28 (aq_4 shX12_takes_24)) kic_1 ?_
    exact W.zret (v := 1) hx hb hr rfl (fun t ht hW => ⟨⟨1, ((va_up cn 19 ((cn 19) + 1)), In, Fn), rfl, ⟨(show Fr [19] [21] [] cn In Fn (va_up cn 19 ((cn 19) + 1)) In Fn from Fr.mo (Fr.c 19 (Fr.rf (cn := cn) (In := In) (Fn := Fn))) (sbl rfl) (sbl rfl) (sbl rfl)).2.1, (Or.inr ⟨rfl, ⟨by (first | omega | (have zz0 := Hid.u hi_cn; omega)), h_2.1.symm.trans (show r_1 = v0 by assumption)⟩, rfl, rfl⟩)⟩, by rw [ht]; exact hP, hD⟩, hS.F ht⟩) hS.2.2 (oc_172 29 (aq_5 shX12_takes_24))
  ·
    have tc_3 : (r_1.toInt : Int) ≠ v0.toInt := fun q => c_3 (Int32.toInt_inj.mp q)
    refine lv_aload_n hx hb (oc_42 8 (aq_8 shX12_takes_0)) rfl (lvA0 hl) ?_
    refine lv_iconst (v := 1) hx hb (oc_4 9 (aq_9 shX12_takes_0)) kic_1 ?_
    refine lv_aload_n hx hb (oc_42 10 (aq_10 shX12_takes_0)) rfl (lvA0 hl) ?_
    refine gM_233 S hK hP (v := .int (nI (cn 19))) rfl (oc_180 11 (aq_11 shX12_takes_0) uw_0_233) ?_
    have hFc := free_all hD hS hA
    refine va_calli (runV_a (As := [.int 1, .int (nI (cn 19))]) (rest := []) S (q_wrong9 l D cI cB cZ g cn In Fn 1 (nI (cn 19)) s.heap.size hI) kV_RX12_246 hK hP hD 0 rfl rfl rfl ⟨Nat.le_of_ble_eq_true rfl, Nat.le_of_ble_eq_true rfl⟩ ⟨Nat.le_of_ble_eq_true rfl, Nat.le_of_ble_eq_true rfl⟩ rfl hl.1 rfl (Nat.le_of_ble_eq_true rfl) (oc_182 14 (aq_14 shX12_takes_0) uw_0_246)) hS (fun q _ h => hFc q h) hFc (fun r_5 u t H1 locs ht hvm wh_6 hB hz1 hk1 hS => ?_)
    obtain ⟨cn6, In6, Fn6⟩ := u
    obtain ⟨hP1, hD1⟩ := hB
    rw [ht] at hP1
    have vh_6 : (fun r c2 I2 F2 => (∀ k : Nat, k ∉ [21] → I2 k = In k) ∧ ((r = 0 ∧ (I2 21 = (-1000) * 1 - (nI (cn 19))) ∧ cn = c2 ∧ Fn = F2))) r_5 cn6 In6 Fn6 := wh_6
    obtain ⟨hI6_, vh_6⟩ := vh_6
    obtain ⟨rfl, h_6, rfl, rfl⟩ := vh_6
    have hf6 : Fr [19] [21] [] cn In Fn cn In6 Fn := Fr.mo (Fr.tr (Fr.rf (cn := cn) (In := In) (Fn := Fn)) (show Fr [] [21] [] cn In Fn cn In6 Fn from ⟨fun _ _ => rfl, hI6_, fun _ _ => rfl⟩)) (sbl rfl) (sbl rfl) (sbl rfl)
    have hP : va_P D vwCl (wM cI cB cZ g cn In6 Fn) H1 := hP1
    have hD : va_D A (wM cI cB cZ g cn In6 Fn) := hD1.weaken (fun _ _ _ h => hFc _ h)
    generalize H1 = H at hP hS ⊢
    exact W.zret (v := 0) hx hb hr rfl (fun t ht hW => ⟨⟨0, (cn, In6, Fn), rfl, ⟨(show Fr [19] [21] [] cn In Fn cn In6 Fn from Fr.mo hf6 (sbl rfl) (sbl rfl) (sbl rfl)).2.1, (Or.inl ⟨rfl, ⟨fun q9 => (show ¬ r_1 = v0 by assumption) (h_2.1.trans q9), h_6⟩, rfl, rfl⟩)⟩, by rw [ht]; exact hP, hD⟩, hS.F ht⟩) hS.2.2 (oc_172 17 (aq_17 shX12_takes_0))
set_option maxRecDepth 100000 in
set_option maxHeartbeats 4000000 in
theorem q_readsX (l : Launch) (D : va_G) (cI cB cZ : ClassId) (g : Nat → Nat) (cn : Nat → Nat) (In : Nat → Int32) (Fn : Nat → Nat → Int32) (k0 l0 : Nat) (bb : Nat → Int32) (sz : Nat) (hI : IM cn Fn) (hk0 : k0 ≤ 10) (hl0 : 1 ≤ l0 ∧ l0 ≤ 160) (heb : bbM Fn = bb) : Met l yX12_reads (CWS yX12_reads cX12_reads 6 (some .int)) (RM 8 0 0) (PBw [.ref (g 100), .int (nI k0), .int (nI l0)] D cI cB cZ (wM cI cB cZ g cn In Fn) sz) (va_Qi (fun (r : Int32) (u : (Nat → Nat) × (Nat → Int32) × (Nat → Nat → Int32)) => (fun r c2 I2 F2 => Fr [18, 19, 20, 23, 24, 25, 26] [21, 22] [27, 28, 29, 30, 31, 32, 33, 34, 35, 36] cn In Fn c2 I2 F2 ∧ IM c2 F2 ∧ (c2 18 = 0 ∧ TXR bb l0 k0 r Fn F2)) r u.1 u.2.1 u.2.2) (fun (u : (Nat → Nat) × (Nat → Int32) × (Nat → Nat → Int32)) (t : State) => va_P D vwCl (wM cI cB cZ g u.1 u.2.1 u.2.2) t.heap ∧ va_D (va_A (wM cI cB cZ g cn In Fn) sz) (wM cI cB cZ g u.1 u.2.1 u.2.2)) (va_A (wM cI cB cZ g cn In Fn) sz)) 0 0 (va_A (wM cI cB cZ g cn In Fn) sz) := by
  refine en_w (fun A => (va_Qi (fun (r : Int32) (u : (Nat → Nat) × (Nat → Int32) × (Nat → Nat → Int32)) => (fun (r : Int32) (c2 : Nat → Nat) (I2 : Nat → Int32) (F2 : Nat → Nat → Int32) => Fr [18, 19, 20, 23, 24, 25, 26] [21, 22] [27, 28, 29, 30, 31, 32, 33, 34, 35, 36] cn In Fn c2 I2 F2 ∧ IM c2 F2 ∧ (c2 18 = 0 ∧ TXR bb l0 k0 r Fn F2)) r u.1 u.2.1 u.2.2) (fun (u : (Nat → Nat) × (Nat → Int32) × (Nat → Nat → Int32)) (t : State) => va_P D vwCl (wM cI cB cZ g u.1 u.2.1 u.2.2) t.heap ∧ va_D A (wM cI cB cZ g u.1 u.2.1 u.2.2)) A)) rfl rfl pn_RX12 (Nat.le_of_ble_eq_true rfl) (fun p e s m below meth c A hx hb hml hown S hr hlocks hnm hA hP hK hD hS ls hl => ?_)
  have hl : lv_has ls 6 [(0, .ref (g 100)), (1, .int (nI k0)), (2, .int (nI l0))] := hl
  have hi_cn : Hid (CB cn) := hI.b
  refine lv_aload_n hx hb dX12_reads_0 rfl (lvA0 hl) ?_
  refine lv_iconst (v := 0) hx hb dX12_reads_1 kic_0 ?_
  refine pM_233 S hK hP hD hS (a := 0) (cn2 := (va_up cn 19 0)) rfl rfl dX12_reads_2 (fun H locs hP hD hS => ?_)
  refine lv_aload_n hx hb dX12_reads_5 rfl (lvA0 hl) ?_
  refine lv_iload_n hx hb dX12_reads_6 rfl (lvA2 hl) ?_
  refine pM_236 S hK hP hD hS (a := l0) (cn2 := (va_up (va_up cn 19 0) 20 l0)) rfl rfl dX12_reads_7 (fun H locs hP hD hS => ?_)
  refine lv_aload_n hx hb dX12_reads_10 rfl (lvA0 hl) ?_
  refine lv_iconst (v := 0) hx hb dX12_reads_11 kic_0 ?_
  refine pM_257 S hK hP hD hS (a := 0) (cn2 := (va_up (va_up (va_up cn 19 0) 20 l0) 23 0)) rfl rfl dX12_reads_12 (fun H locs hP hD hS => ?_)
  refine lv_aload_n hx hb dX12_reads_15 rfl (lvA0 hl) ?_
  refine lv_iconst (v := 0) hx hb dX12_reads_16 kic_0 ?_
  refine pM_312 S hK hP hD hS (a := 0) (cn2 := (va_up (va_up (va_up (va_up cn 19 0) 20 l0) 23 0) 25 0)) rfl rfl dX12_reads_17 (fun H locs hP hD hS => ?_)
  refine lv_aload_n hx hb dX12_reads_20 rfl (lvA0 hl) ?_
  refine lv_iload_n hx hb dX12_reads_21 rfl (lvA1 hl) ?_
  refine lv_bipush (v := 10) hx hb dX12_reads_22 kbc_10 ?_
  have : (nI k0).toInt = ((k0 : Nat) : Int) := nI_toInt (by (first | omega | (have zz0 := Hid.u hi_cn; omega)))
  refine lv_icmp_ne (tgt := 31) hx hb dX12_reads_24 rfl (fun c_1 => ?_) (fun c_1 => ?_)
  ·
    have tc_1 : ((nI k0).toInt : Int) ≠ 10 := fun q => c_1 (Int32.toInt_inj.mp q)
    refine lv_iconst (v := 0) hx hb dX12_reads_31 kic_0 ?_
    have hFc := free_all hD hS hA
    refine va_calli (runV_a (As := [.int 0]) (rest := []) S (q_readsClauseX l D cI cB cZ g (va_up (va_up (va_up (va_up cn 19 0) 20 l0) 23 0) 25 0) In Fn 0 bb l0 ([]) H.size (IM.fr (In := In) hI (Fr.c 25 (Fr.c 23 (Fr.c 20 (Fr.c 19 Fr.rf)))) (by decide) (by decide)) (show 0 ≤ l0 by (first | omega | (have zz0 := Hid.u hi_cn; omega))) (show l0 ≤ 160 by (first | omega | (have zz0 := Hid.u hi_cn; omega))) (show 0 ≤ 0 by (first | omega | (have zz0 := Hid.u hi_cn; omega))) (show 0 ≤ 12 by (first | omega | (have zz0 := Hid.u hi_cn; omega))) (fun j hj => absurd (show j < 0 from hj) (Nat.not_lt_zero j)) heb rfl SAYm.z) kV_RX12_318 hK hP hD 0 rfl rfl rfl ⟨Nat.le_of_ble_eq_true rfl, Nat.le_of_ble_eq_true rfl⟩ ⟨Nat.le_of_ble_eq_true rfl, Nat.le_of_ble_eq_true rfl⟩ rfl hl.1 rfl (Nat.le_of_ble_eq_true rfl) dX12_reads_32) hS (fun q _ h => hFc q h) hFc (fun r_2 u t H1 locs ht hvm wh_3 hB hz1 hk1 hS => ?_)
    obtain ⟨cn3, In3, Fn3⟩ := u
    obtain ⟨hP1, hD1⟩ := hB
    rw [ht] at hP1
    have hP : va_P D vwCl (wM cI cB cZ g cn3 In3 Fn3) H1 := hP1
    have hD : va_D A (wM cI cB cZ g cn3 In3 Fn3) := hD1.weaken (fun _ _ _ h => hFc _ h)
    generalize H1 = H at hP hS ⊢
    have vh_3 : (fun r c2 I2 F2 => Fr [19, 23, 24, 25, 26] [21, 22] [27, 28, 29, 30, 31] (va_up (va_up (va_up (va_up cn 19 0) 20 l0) 23 0) 25 0) In Fn c2 I2 F2 ∧ IM c2 F2 ∧ (((r : Int32) = 0 ∨ (r = 1 ∧ 0 < c2 19 ∧ c2 19 ≤ l0 ∧ c2 23 ≤ c2 19 ∧ c2 25 ≤ 12 ∧ ALL (F2 27) (c2 23) (c2 25) (F2 29) (F2 30) (F2 31))) ∧ (((r : Int32) = 0 → ∃ e9 : Nat, clV bb l0 (ldI 0) (0) (0) ([]) = .error e9 ∧ FLT I2 e9) ∧ ((r : Int32) = 1 → ∃ (uX : OutT) (hX : Nat), clV bb l0 (ldI 0) (0) (0) ([]) = .ok (c2 19, uX, hX) ∧ SAYm (F2 27) (c2 23) uX ∧ c2 25 = 0 + 1 ∧ hX ≤ 160 ∧ F2 29 = upd ((Fn 29)) (0) (nI ([]).length) ∧ F2 30 = upd ((Fn 30)) (0) (nI hX) ∧ F2 31 = upd ((Fn 31)) (0) (nI uX.length))))) r_2 cn3 In3 Fn3 := wh_3
    obtain ⟨hfc3, hIn3, h_3⟩ := vh_3
    have hf3 : Fr [18, 19, 20, 23, 24, 25, 26] [21, 22] [27, 28, 29, 30, 31, 32, 33, 34, 35, 36] cn In Fn cn3 In3 Fn3 := Fr.mo (Fr.tr (Fr.c 25 (Fr.c 23 (Fr.c 20 (Fr.c 19 (Fr.rf (cn := cn) (In := In) (Fn := Fn)))))) hfc3) (sbl rfl) (sbl rfl) (sbl rfl)
    have hi_cn3 : Hid (CB cn3) := hIn3.b
    have hq_cn3 := Hid.i (frq_18_19_20_23_24_25_26_0_1_2_46_57_58_62_63_75_83_44 hf3)
    have : cn3 20 = l0 := hfc3.1 20 (nml rfl)
    obtain ⟨h_3, Nh_3⟩ := h_3
    rw [ldK_0 (k := k0) (by (first | omega | (have zz0 := Hid.u hi_cn; have zz1 := Hid.u hi_cn3; have zz2 := Hid.u hq_cn3; omega)))] at Nh_3
    refine lv_istore_n (lv' := [(3, .int r_2), (0, .ref (g 100)), (1, .int (nI k0)), (2, .int (nI l0))]) hx hb dX12_reads_35 rfl hl (ltb rfl) rfl (fun ls hl => ?_)
    have lp_36 : ∀ (n : Nat) (x36_3 : Int32) (g36 : Nat) (c36 : Nat → Nat) (I36 : Nat → Int32) (F36 : Nat → Nat → Int32) (H : Heap) (locs : List Loc) , g36 < n → (Fr [18, 19, 20, 23, 24, 25, 26] [21, 22] [27, 28, 29, 30, 31, 32, 33, 34, 35, 36] cn In Fn c36 I36 F36 ∧ IM c36 F36 ∧ (x36_3 = 0 ∨ (x36_3 = 1 ∧ c36 19 ≤ l0 ∧ c36 23 ≤ c36 19 ∧ c36 25 ≤ 12 ∧ ALL (F36 27) (c36 23) (c36 25) (F36 29) (F36 30) (F36 31) ∧ l0 + 1 ≤ c36 19 + g36)) ∧ (c36 20 = l0) ∧ (∀ k : Nat, 32 ≤ k → k ≤ 36 → F36 k = Fn k) ∧ (((x36_3 : Int32) = 0 → ∃ e9 : Nat, txV bb l0 (ldK k0) = .error e9 ∧ FLT I36 e9) ∧ ((x36_3 : Int32) = 1 → ∃ (u9 : OutT) (l9 : ClsT), txV bb l0 (ldK k0) = txL bb l0 (ldK k0) (l0 + 1) (c36 19) u9 l9 ∧ SAYm (F36 27) (c36 23) u9 ∧ CLm (F36 29) (F36 30) (F36 31) (c36 25) l9))) → va_P D vwCl (wM cI cB cZ g c36 I36 F36) H → va_D A (wM cI cB cZ g c36 I36 F36) → va_S A s.heap H locs → ∀ ls : Array Slot, lv_has ls 6 [(3, .int x36_3), (0, .ref (g 100)), (1, .int (nI k0)), (2, .int (nI l0))] → W p l e (RM 8 0 0) s m ([.ref (g 100), .int (nI k0), .int (nI l0)]).toArray below meth c H locs 0 0 (MQ below (va_Qi (fun (r : Int32) (u : (Nat → Nat) × (Nat → Int32) × (Nat → Nat → Int32)) => (fun r c2 I2 F2 => Fr [18, 19, 20, 23, 24, 25, 26] [21, 22] [27, 28, 29, 30, 31, 32, 33, 34, 35, 36] cn In Fn c2 I2 F2 ∧ IM c2 F2 ∧ (c2 18 = 0 ∧ TXR bb l0 k0 r Fn F2)) r u.1 u.2.1 u.2.2) (fun (u : (Nat → Nat) × (Nat → Int32) × (Nat → Nat → Int32)) (t : State) => va_P D vwCl (wM cI cB cZ g u.1 u.2.1 u.2.2) t.heap ∧ va_D A (wM cI cB cZ g u.1 u.2.1 u.2.2)) A) ([.ref (g 100), .int (nI k0), .int (nI l0)]).toArray s 0 0 A) (F0 m 36 ls []) := by
      intro n36
      induction n36 with
      | zero => intros; (first | omega | (have zz0 := Hid.u hi_cn; have zz1 := Hid.u hi_cn3; have zz2 := Hid.u hq_cn3; omega))
      | succ n36 ih36 =>
        intro x36_3 g36 c36 I36 F36 H locs hmu36 hinv36 hP hD hS ls hl
        obtain ⟨hfr36, hI36, hx36_0, hx36_1, hx36_2, hx36_3⟩ := hinv36
        have hi_c36 : Hid (CB c36) := hI36.b
        have hq_c36 := Hid.i (frq_18_19_20_23_24_25_26_0_1_2_46_57_58_62_63_75_83_44 hfr36)
        refine lv_iload_n hx hb dX12_reads_36 rfl (lvA0 hl) ?_
        refine lv_if_eq (tgt := 87) hx hb dX12_reads_37 rfl (fun c_4 => ?_) (fun c_4 => ?_)
        ·
          have tc_4 : (x36_3.toInt : Int) = 0 := congrArg Int32.toInt c_4
          refine lv_aload_n hx hb dX12_reads_87 rfl (lvA1 hl) ?_
          refine lv_iconst (v := 0) hx hb dX12_reads_88 kic_0 ?_
          refine pM_226 S hK hP hD hS (a := 0) (cn2 := (va_up c36 18 0)) rfl rfl dX12_reads_89 (fun H locs hP hD hS => ?_)
          refine lv_iload_n hx hb dX12_reads_92 rfl (lvA0 hl) ?_
          refine lv_if_ne (tgt := 101) hx hb dX12_reads_93 rfl (fun c_5 => False.elim (by have tc_5 : (x36_3.toInt : Int) ≠ 0 := fun q => c_5 (Int32.toInt_inj.mp q); (first | omega | (have zz0 := Hid.u hi_c36; have zz1 := Hid.u hi_cn; have zz2 := Hid.u hi_cn3; have zz3 := Hid.u hq_c36; have zz4 := Hid.u hq_cn3; omega)))) (fun c_5 => ?_)
          have tc_5 : (x36_3.toInt : Int) = 0 := congrArg Int32.toInt c_5
          refine lv_aload_n hx hb dX12_reads_96 rfl (lvA1 hl) ?_
          refine gM_243 S hK hP (v := .int (I36 21)) rfl dX12_reads_97 ?_
          exact W.iret (v := (I36 21)) hx hb hr (fun t ht hW => ⟨⟨(I36 21), ((va_up c36 18 0), I36, F36), rfl, ⟨(Fr.mo (Fr.c 18 hfr36) (sbl rfl) (sbl rfl) (sbl rfl)), (IM.fr (In := I36) hI36 (Fr.c 18 Fr.rf) (by decide) (by decide)), (by show (va_up c36 18 0) 18 = 0 ∧ TXR bb l0 k0 (I36 21) Fn F36; exact ⟨rfl, Or.inl (by obtain ⟨e9, a9, f9⟩ := hx36_3.1 (show x36_3 = 0 by assumption); exact ⟨e9, a9, f9, hx36_2⟩)⟩)⟩, by rw [ht]; exact hP, hD⟩, hS.F ht⟩) hS.2.2 dX12_reads_100
        ·
          have tc_4 : (x36_3.toInt : Int) ≠ 0 := fun q => c_4 (Int32.toInt_inj.mp q)
          obtain ⟨hr1, hr2, hr3, hr4, hr5, hr6⟩ := hx36_0.resolve_left (by assumption)
          obtain ⟨u9, l9, hT9, hS9, hC9⟩ := hx36_3.2 hr1
          refine lv_aload_n hx hb dX12_reads_40 rfl (lvA1 hl) ?_
          refine gM_233 S hK hP (v := .int (nI (c36 19))) rfl dX12_reads_41 ?_
          refine lv_aload_n hx hb dX12_reads_44 rfl (lvA1 hl) ?_
          refine gM_236 S hK hP (v := .int (nI (c36 20))) rfl dX12_reads_45 ?_
          have : (nI (c36 19)).toInt = (((c36 19) : Nat) : Int) := nI_toInt (by (first | omega | (have zz0 := Hid.u hi_c36; have zz1 := Hid.u hi_cn; have zz2 := Hid.u hi_cn3; have zz3 := Hid.u hq_c36; have zz4 := Hid.u hq_cn3; omega)))
          have : (nI (c36 20)).toInt = (((c36 20) : Nat) : Int) := nI_toInt (by (first | omega | (have zz0 := Hid.u hi_c36; have zz1 := Hid.u hi_cn; have zz2 := Hid.u hi_cn3; have zz3 := Hid.u hq_c36; have zz4 := Hid.u hq_cn3; omega)))
          refine lv_icmp_ge (tgt := 87) hx hb dX12_reads_48 rfl (fun c_6 => ?_) (fun c_6 => ?_)
          ·
            have tc_6 : ((nI (c36 20)).toInt : Int) ≤ (nI (c36 19)).toInt := Int32.le_iff_toInt_le.mp c_6
            refine lv_aload_n hx hb dX12_reads_87 rfl (lvA1 hl) ?_
            refine lv_iconst (v := 0) hx hb dX12_reads_88 kic_0 ?_
            refine pM_226 S hK hP hD hS (a := 0) (cn2 := (va_up c36 18 0)) rfl rfl dX12_reads_89 (fun H locs hP hD hS => ?_)
            refine lv_iload_n hx hb dX12_reads_92 rfl (lvA0 hl) ?_
            refine lv_if_ne (tgt := 101) hx hb dX12_reads_93 rfl (fun c_7 => ?_) (fun c_7 => ?_)
            ·
              have tc_7 : (x36_3.toInt : Int) ≠ 0 := fun q => c_7 (Int32.toInt_inj.mp q)
              have g32_ : F36 32 = Fn 32 := hx36_2 32 (by decide) (by decide)
              have g33_ : F36 33 = Fn 33 := hx36_2 33 (by decide) (by decide)
              have g34_ : F36 34 = Fn 34 := hx36_2 34 (by decide) (by decide)
              have g35_ : F36 35 = Fn 35 := hx36_2 35 (by decide) (by decide)
              have g36_ : F36 36 = Fn 36 := hx36_2 36 (by decide) (by decide)
              refine lv_aload_n hx hb dX12_reads_101 rfl (lvA1 hl) ?_
              refine gM_74 S hK hP (v := .ref (g 33)) rfl dX12_reads_102 ?_
              refine lv_iload_n hx hb dX12_reads_105 rfl (lvA2 hl) ?_
              refine lv_aload_n hx hb dX12_reads_106 rfl (lvA1 hl) ?_
              refine gM_312 S hK hP (v := .int (nI (c36 25))) rfl dX12_reads_107 ?_
              have kb_1 : k0 < 11 := by (first | omega | (have zz0 := Hid.u hi_c36; have zz1 := Hid.u hi_cn; have zz2 := Hid.u hi_cn3; have zz3 := Hid.u hq_c36; have zz4 := Hid.u hq_cn3; omega))
              refine stM_33 hx hb hK hP hD hS (Fn2 := (va_up F36 33 (upd (F36 33) k0 (nI (c36 25))))) (vp_in_nI kb_1 (ltb rfl)) (nI_clamp (Nat.lt_trans kb_1 (ltb rfl))) rfl dX12_reads_110 (fun H locs hP hD hS => ?_)
              refine lv_iconst (v := 0) hx hb dX12_reads_111 kic_0 ?_
              refine lv_istore (lv' := [(4, .int 0), (3, .int x36_3), (0, .ref (g 100)), (1, .int (nI k0)), (2, .int (nI l0))]) hx hb dX12_reads_112 hl (ltb rfl) rfl (fun ls hl => ?_)
              have lp_114 : ∀ (n : Nat) (i114 : Nat) (F114 : Nat → Nat → Int32) (H : Heap) (locs : List Loc) , (c36 23) - i114 < n → (i114 ≤ (c36 23) ∧ Fr [18, 19, 20, 23, 24, 25, 26] [21, 22] [27, 28, 29, 30, 31, 32, 33, 34, 35, 36] cn In Fn c36 I36 F114 ∧ (∀ j : Nat, j < i114 → F114 32 (180 * k0 + j) = F36 27 j) ∧ (∀ j : Nat, j < 180 * k0 ∨ 180 * k0 + 180 ≤ j → F114 32 j = Fn 32 j) ∧ (∀ k : Nat, k ≠ 32 → F114 k = (va_up F36 33 (upd (F36 33) k0 (nI (c36 25)))) k)) → va_P D vwCl (wM cI cB cZ g (va_up c36 18 0) I36 F114) H → va_D A (wM cI cB cZ g (va_up c36 18 0) I36 F114) → va_S A s.heap H locs → ∀ ls : Array Slot, lv_has ls 6 [(4, .int (nI i114)), (3, .int x36_3), (0, .ref (g 100)), (1, .int (nI k0)), (2, .int (nI l0))] → W p l e (RM 8 0 0) s m ([.ref (g 100), .int (nI k0), .int (nI l0)]).toArray below meth c H locs 0 0 (MQ below (va_Qi (fun (r : Int32) (u : (Nat → Nat) × (Nat → Int32) × (Nat → Nat → Int32)) => (fun r c2 I2 F2 => Fr [18, 19, 20, 23, 24, 25, 26] [21, 22] [27, 28, 29, 30, 31, 32, 33, 34, 35, 36] cn In Fn c2 I2 F2 ∧ IM c2 F2 ∧ (c2 18 = 0 ∧ TXR bb l0 k0 r Fn F2)) r u.1 u.2.1 u.2.2) (fun (u : (Nat → Nat) × (Nat → Int32) × (Nat → Nat → Int32)) (t : State) => va_P D vwCl (wM cI cB cZ g u.1 u.2.1 u.2.2) t.heap ∧ va_D A (wM cI cB cZ g u.1 u.2.1 u.2.2)) A) ([.ref (g 100), .int (nI k0), .int (nI l0)]).toArray s 0 0 A) (F0 m 114 ls []) := by
                intro n114
                induction n114 with
                | zero => intros; (first | omega | (have zz0 := Hid.u hi_c36; have zz1 := Hid.u hi_cn; have zz2 := Hid.u hi_cn3; have zz3 := Hid.u hq_c36; have zz4 := Hid.u hq_cn3; omega))
                | succ n114 ih114 =>
                  intro i114 F114 H locs hmu114 hinv114 hP hD hS ls hl
                  obtain ⟨hr114, hfr114, hx114_0, hx114_1, hx114_2⟩ := hinv114
                  have ti114 : (nI i114).toInt = (i114 : Int) := nI_toInt (by (first | omega | (have zz0 := Hid.u hi_c36; have zz1 := Hid.u hi_cn; have zz2 := Hid.u hi_cn3; have zz3 := Hid.u hq_c36; have zz4 := Hid.u hq_cn3; omega)))
                  have hq_c36 := Hid.i (frq_18_19_20_23_24_25_26_0_1_2_46_57_58_62_63_75_83_44 hfr114)
                  refine lv_iload hx hb dX12_reads_114 (lvA0 hl) ?_
                  refine lv_aload_n hx hb dX12_reads_116 rfl (lvA2 hl) ?_
                  refine gM_257 S hK hP (v := .int (nI (c36 23))) rfl dX12_reads_117 ?_
                  have : (nI (c36 23)).toInt = (((c36 23) : Nat) : Int) := nI_toInt (by (first | omega | (have zz0 := Hid.u hi_c36; have zz1 := Hid.u hi_cn; have zz2 := Hid.u hi_cn3; have zz3 := Hid.u hq_c36; have zz4 := Hid.u hq_cn3; omega)))
                  refine lv_icmp_ge (tgt := 149) hx hb dX12_reads_120 rfl (fun c_8 => ?_) (fun c_8 => ?_)
                  ·
                    have tc_8 : ((nI (c36 23)).toInt : Int) ≤ (nI i114).toInt := Int32.le_iff_toInt_le.mp c_8
                    refine lv_iconst (v := 0) hx hb dX12_reads_149 kic_0 ?_
                    refine lv_istore (lv' := [(4, .int 0), (3, .int x36_3), (0, .ref (g 100)), (1, .int (nI k0)), (2, .int (nI l0))]) hx hb dX12_reads_150 hl (ltb rfl) rfl (fun ls hl => ?_)
                    have lp_152 : ∀ (n : Nat) (i152 : Nat) (F152 : Nat → Nat → Int32) (H : Heap) (locs : List Loc) , (c36 25) - i152 < n → (i152 ≤ (c36 25) ∧ Fr [18, 19, 20, 23, 24, 25, 26] [21, 22] [27, 28, 29, 30, 31, 32, 33, 34, 35, 36] cn In Fn c36 I36 F152 ∧ (∀ q : Nat, q < i152 → ClOK (F152 32) (180 * k0) (F152 34 (12 * k0 + q)) (F152 35 (12 * k0 + q)) (F152 36 (12 * k0 + q))) ∧ (∀ j : Nat, j < 12 * k0 ∨ 12 * k0 + 12 ≤ j → F152 34 j = Fn 34 j ∧ F152 35 j = Fn 35 j ∧ F152 36 j = Fn 36 j) ∧ (∀ k : Nat, k ≠ 34 ∧ k ≠ 35 ∧ k ≠ 36 → F152 k = F114 k) ∧ (∀ q9 : Nat, q9 < i152 → F152 34 (12 * k0 + q9) = nI (180 * k0 + (F36 29 q9).toInt.toNat) ∧ F152 35 (12 * k0 + q9) = nI (180 * k0 + (F36 30 q9).toInt.toNat) ∧ F152 36 (12 * k0 + q9) = nI (180 * k0 + (F36 31 q9).toInt.toNat))) → va_P D vwCl (wM cI cB cZ g (va_up c36 18 0) I36 F152) H → va_D A (wM cI cB cZ g (va_up c36 18 0) I36 F152) → va_S A s.heap H locs → ∀ ls : Array Slot, lv_has ls 6 [(4, .int (nI i152)), (3, .int x36_3), (0, .ref (g 100)), (1, .int (nI k0)), (2, .int (nI l0))] → W p l e (RM 8 0 0) s m ([.ref (g 100), .int (nI k0), .int (nI l0)]).toArray below meth c H locs 0 0 (MQ below (va_Qi (fun (r : Int32) (u : (Nat → Nat) × (Nat → Int32) × (Nat → Nat → Int32)) => (fun r c2 I2 F2 => Fr [18, 19, 20, 23, 24, 25, 26] [21, 22] [27, 28, 29, 30, 31, 32, 33, 34, 35, 36] cn In Fn c2 I2 F2 ∧ IM c2 F2 ∧ (c2 18 = 0 ∧ TXR bb l0 k0 r Fn F2)) r u.1 u.2.1 u.2.2) (fun (u : (Nat → Nat) × (Nat → Int32) × (Nat → Nat → Int32)) (t : State) => va_P D vwCl (wM cI cB cZ g u.1 u.2.1 u.2.2) t.heap ∧ va_D A (wM cI cB cZ g u.1 u.2.1 u.2.2)) A) ([.ref (g 100), .int (nI k0), .int (nI l0)]).toArray s 0 0 A) (F0 m 152 ls []) := by
                      intro n152
                      induction n152 with
                      | zero => intros; (first | omega | (have zz0 := Hid.u hi_c36; have zz1 := Hid.u hi_cn; have zz2 := Hid.u hi_cn3; have zz3 := Hid.u hq_c36; have zz4 := Hid.u hq_cn3; omega))
                      | succ n152 ih152 =>
                        intro i152 F152 H locs hmu152 hinv152 hP hD hS ls hl
                        obtain ⟨hr152, hfr152, hx152_0, hx152_1, hx152_2, hx152_3⟩ := hinv152
                        have ti152 : (nI i152).toInt = (i152 : Int) := nI_toInt (by (first | omega | (have zz0 := Hid.u hi_c36; have zz1 := Hid.u hi_cn; have zz2 := Hid.u hi_cn3; have zz3 := Hid.u hq_c36; have zz4 := Hid.u hq_cn3; omega)))
                        have hq_c36 := Hid.i (frq_18_19_20_23_24_25_26_0_1_2_46_57_58_62_63_75_83_44 hfr152)
                        refine lv_iload hx hb dX12_reads_152 (lvA0 hl) ?_
                        refine lv_aload_n hx hb dX12_reads_154 rfl (lvA2 hl) ?_
                        refine gM_312 S hK hP (v := .int (nI (c36 25))) rfl dX12_reads_155 ?_
                        have : (nI (c36 25)).toInt = (((c36 25) : Nat) : Int) := nI_toInt (by (first | omega | (have zz0 := Hid.u hi_c36; have zz1 := Hid.u hi_cn; have zz2 := Hid.u hi_cn3; have zz3 := Hid.u hq_c36; have zz4 := Hid.u hq_cn3; omega)))
                        refine lv_icmp_ge (tgt := 236) hx hb dX12_reads_158 rfl (fun c_9 => ?_) (fun c_9 => ?_)
                        ·
                          have tc_9 : ((nI (c36 25)).toInt : Int) ≤ (nI i152).toInt := Int32.le_iff_toInt_le.mp c_9
                          refine lv_aload_n hx hb dX12_reads_236 rfl (lvA2 hl) ?_
                          refine gM_312 S hK hP (v := .int (nI (c36 25))) rfl dX12_reads_237 ?_
                          exact W.iret (v := (nI (c36 25))) hx hb hr (fun t ht hW => ⟨⟨(nI (c36 25)), ((va_up c36 18 0), I36, F152), rfl, ⟨(Fr.mo (Fr.c 18 hfr152) (sbl rfl) (sbl rfl) (sbl rfl)), (IM.rd (t := k0) (sm := c36 25) hI (fun k hk => (Fr.c 18 hfr36).1 k (by revert k; decide)) (fun k hk => hfr152.2.2 k (by revert k; decide)) (by (first | omega | (have zz0 := Hid.u hi_c36; have zz1 := Hid.u hi_cn; have zz2 := Hid.u hi_cn3; have zz3 := Hid.u hq_c36; have zz4 := Hid.u hq_cn3; omega))) ((hx152_2 33 (by decide)).trans ((hx114_2 33 (by decide)).trans (by show upd (F36 33) k0 (nI (c36 25)) = _; rw [g33_]))) (fun j hj => (congrFun (hx152_2 32 (by decide)) j).trans (hx114_1 j hj)) hx152_1 (fun q hq => hx152_0 q (by (first | omega | (have zz0 := Hid.u hi_c36; have zz1 := Hid.u hi_cn; have zz2 := Hid.u hi_cn3; have zz3 := Hid.u hq_c36; have zz4 := Hid.u hq_cn3; omega))))), (by show (va_up c36 18 0) 18 = 0 ∧ TXR bb l0 k0 (nI (c36 25)) Fn F152; exact ⟨rfl, Or.inr ⟨(c36 19, u9, l9), hT9.trans (txL_0 (by (first | omega | (have zz0 := Hid.u hi_c36; have zz1 := Hid.u hi_cn; have zz2 := Hid.u hi_cn3; have zz3 := Hid.u hq_c36; have zz4 := Hid.u hq_cn3; omega)))), (by show nI (c36 25) = nI l9.length; rw [hC9.1]), (by have q8 := hS9.1; have q9 := hC9.1; show u9.length ≤ 160 ∧ l9.length ≤ 12; (first | omega | (have zz0 := Hid.u hi_c36; have zz1 := Hid.u hi_cn; have zz2 := Hid.u hi_cn3; have zz3 := Hid.u hq_c36; have zz4 := Hid.u hq_cn3; omega))), re_mt hS9 hC9 (fun j hj => (congrFun (hx152_2 32 (by decide)) _).trans (hx114_0 j (by (first | omega | (have zz0 := Hid.u hi_c36; have zz1 := Hid.u hi_cn; have zz2 := Hid.u hi_cn3; have zz3 := Hid.u hq_c36; have zz4 := Hid.u hq_cn3; omega))))) (((congrFun (hx152_2 33 (by decide)) _).trans (congrFun (hx114_2 33 (by decide)) _)).trans (upd_self _ _ _)) (fun j hj => hx152_3 j (by (first | omega | (have zz0 := Hid.u hi_c36; have zz1 := Hid.u hi_cn; have zz2 := Hid.u hi_cn3; have zz3 := Hid.u hq_c36; have zz4 := Hid.u hq_cn3; omega)))), (fun t9 ht9 => (((congrFun (hx152_2 33 (by decide)) _).trans (congrFun (hx114_2 33 (by decide)) _)).trans (upd_nq ht9)).trans (congrFun g33_ t9)), (fun j hj => (congrFun (hx152_2 32 (by decide)) j).trans (hx114_1 j hj)), hx152_1⟩⟩)⟩, by rw [ht]; exact hP, hD⟩, hS.F ht⟩) hS.2.2 dX12_reads_240
                        ·
                          have tc_9 : ((nI i152).toInt : Int) < (nI (c36 25)).toInt := Int32.lt_iff_toInt_lt.mp (Int32.not_le.mp c_9)
                          obtain ⟨a9, g9, b9, ea9, eg9, eb9, k1, k2, k3, s1, s2⟩ := hr5 i152 (by (first | omega | (have zz0 := Hid.u hi_c36; have zz1 := Hid.u hi_cn; have zz2 := Hid.u hi_cn3; have zz3 := Hid.u hq_c36; have zz4 := Hid.u hq_cn3; omega)))
                          refine lv_bipush (v := 12) hx hb dX12_reads_161 kbc_12 ?_
                          refine lv_iload_n hx hb dX12_reads_163 rfl (lvA3 hl) ?_
                          refine lv_imul hx hb dX12_reads_164 ?_
                          refine lv_topi (fun y_10 ey_10 => ?_)
                          obtain rfl : y_10 = (nI (12 * k0)) := ey_10.trans (pk_mul 12 k0)
                          refine lv_iload hx hb dX12_reads_165 (lvA0 hl) ?_
                          refine lv_iadd hx hb dX12_reads_167 ?_
                          refine lv_topi (fun y_11 ey_11 => ?_)
                          obtain rfl : y_11 = (nI ((12 * k0) + i152)) := ey_11.trans (nI_add (12 * k0) i152)
                          refine lv_istore (lv' := [(5, .int (nI ((12 * k0) + i152))), (4, .int (nI i152)), (3, .int x36_3), (0, .ref (g 100)), (1, .int (nI k0)), (2, .int (nI l0))]) hx hb dX12_reads_168 hl (ltb rfl) rfl (fun ls hl => ?_)
                          refine lv_aload_n hx hb dX12_reads_170 rfl (lvA3 hl) ?_
                          refine gM_77 S hK hP (v := .ref (g 34)) rfl dX12_reads_171 ?_
                          refine lv_iload hx hb dX12_reads_174 (lvA0 hl) ?_
                          refine lv_sipush (v := 180) hx hb dX12_reads_176 (by decide) ?_
                          refine lv_iload_n hx hb dX12_reads_179 rfl (lvA4 hl) ?_
                          refine lv_imul hx hb dX12_reads_180 ?_
                          refine lv_topi (fun y_12 ey_12 => ?_)
                          obtain rfl : y_12 = (nI (180 * k0)) := ey_12.trans (pk_mul 180 k0)
                          refine lv_aload_n hx hb dX12_reads_181 rfl (lvA3 hl) ?_
                          refine gM_62 S hK hP (v := .ref (g 29)) rfl dX12_reads_182 ?_
                          refine lv_iload hx hb dX12_reads_185 (lvA1 hl) ?_
                          have kb_2 : i152 < 12 := by (first | omega | (have zz0 := Hid.u hi_c36; have zz1 := Hid.u hi_cn; have zz2 := Hid.u hi_cn3; have zz3 := Hid.u hq_c36; have zz4 := Hid.u hq_cn3; omega))
                          refine ldM_29 hx hb hK hP (x := ((F152 29) i152)) (vp_in_nI kb_2 (ltb rfl)) (nI_clamp (Nat.lt_trans kb_2 (ltb rfl))) rfl dX12_reads_187 ?_
                          refine lv_topi (fun y_13 ey_13 => ?_)
                          obtain rfl : y_13 = (nI a9) := ey_13.trans ((congrFun ((hx152_2 29 (by decide)).trans (hx114_2 29 (by decide))) i152).trans ea9)
                          refine lv_iadd hx hb dX12_reads_188 ?_
                          refine lv_topi (fun y_14 ey_14 => ?_)
                          obtain rfl : y_14 = (nI ((180 * k0) + a9)) := ey_14.trans (nI_add (180 * k0) a9)
                          have kb_3 : ((12 * k0) + i152) < 132 := by (first | omega | (have zz0 := Hid.u hi_c36; have zz1 := Hid.u hi_cn; have zz2 := Hid.u hi_cn3; have zz3 := Hid.u hq_c36; have zz4 := Hid.u hq_cn3; omega))
                          refine stM_34 hx hb hK hP hD hS (Fn2 := (va_up F152 34 (upd (F152 34) ((12 * k0) + i152) (nI ((180 * k0) + a9))))) (vp_in_nI kb_3 (ltb rfl)) (nI_clamp (Nat.lt_trans kb_3 (ltb rfl))) rfl dX12_reads_189 (fun H locs hP hD hS => ?_)
                          refine lv_aload_n hx hb dX12_reads_190 rfl (lvA3 hl) ?_
                          refine gM_80 S hK hP (v := .ref (g 35)) rfl dX12_reads_191 ?_
                          refine lv_iload hx hb dX12_reads_194 (lvA0 hl) ?_
                          refine lv_sipush (v := 180) hx hb dX12_reads_196 (by decide) ?_
                          refine lv_iload_n hx hb dX12_reads_199 rfl (lvA4 hl) ?_
                          refine lv_imul hx hb dX12_reads_200 ?_
                          refine lv_topi (fun y_15 ey_15 => ?_)
                          obtain rfl : y_15 = (nI (180 * k0)) := ey_15.trans (pk_mul 180 k0)
                          refine lv_aload_n hx hb dX12_reads_201 rfl (lvA3 hl) ?_
                          refine gM_65 S hK hP (v := .ref (g 30)) rfl dX12_reads_202 ?_
                          refine lv_iload hx hb dX12_reads_205 (lvA1 hl) ?_
                          refine ldM_30 hx hb hK hP (x := ((F152 30) i152)) (vp_in_nI kb_2 (ltb rfl)) (nI_clamp (Nat.lt_trans kb_2 (ltb rfl))) rfl dX12_reads_207 ?_
                          refine lv_topi (fun y_16 ey_16 => ?_)
                          obtain rfl : y_16 = (nI g9) := ey_16.trans ((congrFun ((hx152_2 30 (by decide)).trans (hx114_2 30 (by decide))) i152).trans eg9)
                          refine lv_iadd hx hb dX12_reads_208 ?_
                          refine lv_topi (fun y_17 ey_17 => ?_)
                          obtain rfl : y_17 = (nI ((180 * k0) + g9)) := ey_17.trans (nI_add (180 * k0) g9)
                          refine stM_35 hx hb hK hP hD hS (Fn2 := (va_up (va_up F152 34 (upd (F152 34) ((12 * k0) + i152) (nI ((180 * k0) + a9)))) 35 (upd (F152 35) ((12 * k0) + i152) (nI ((180 * k0) + g9))))) (vp_in_nI kb_3 (ltb rfl)) (nI_clamp (Nat.lt_trans kb_3 (ltb rfl))) rfl dX12_reads_209 (fun H locs hP hD hS => ?_)
                          refine lv_aload_n hx hb dX12_reads_210 rfl (lvA3 hl) ?_
                          refine gM_83 S hK hP (v := .ref (g 36)) rfl dX12_reads_211 ?_
                          refine lv_iload hx hb dX12_reads_214 (lvA0 hl) ?_
                          refine lv_sipush (v := 180) hx hb dX12_reads_216 (by decide) ?_
                          refine lv_iload_n hx hb dX12_reads_219 rfl (lvA4 hl) ?_
                          refine lv_imul hx hb dX12_reads_220 ?_
                          refine lv_topi (fun y_18 ey_18 => ?_)
                          obtain rfl : y_18 = (nI (180 * k0)) := ey_18.trans (pk_mul 180 k0)
                          refine lv_aload_n hx hb dX12_reads_221 rfl (lvA3 hl) ?_
                          refine gM_68 S hK hP (v := .ref (g 31)) rfl dX12_reads_222 ?_
                          refine lv_iload hx hb dX12_reads_225 (lvA1 hl) ?_
                          refine ldM_31 hx hb hK hP (x := ((F152 31) i152)) (vp_in_nI kb_2 (ltb rfl)) (nI_clamp (Nat.lt_trans kb_2 (ltb rfl))) rfl dX12_reads_227 ?_
                          refine lv_topi (fun y_19 ey_19 => ?_)
                          obtain rfl : y_19 = (nI b9) := ey_19.trans ((congrFun ((hx152_2 31 (by decide)).trans (hx114_2 31 (by decide))) i152).trans eb9)
                          refine lv_iadd hx hb dX12_reads_228 ?_
                          refine lv_topi (fun y_20 ey_20 => ?_)
                          obtain rfl : y_20 = (nI ((180 * k0) + b9)) := ey_20.trans (nI_add (180 * k0) b9)
                          refine stM_36 hx hb hK hP hD hS (Fn2 := (va_up (va_up (va_up F152 34 (upd (F152 34) ((12 * k0) + i152) (nI ((180 * k0) + a9)))) 35 (upd (F152 35) ((12 * k0) + i152) (nI ((180 * k0) + g9)))) 36 (upd (F152 36) ((12 * k0) + i152) (nI ((180 * k0) + b9))))) (vp_in_nI kb_3 (ltb rfl)) (nI_clamp (Nat.lt_trans kb_3 (ltb rfl))) rfl dX12_reads_229 (fun H locs hP hD hS => ?_)
                          refine lv_iinc (v := (nI (i152 + 1))) (lv' := [(4, .int (nI (i152 + 1))), (5, .int (nI ((12 * k0) + i152))), (3, .int x36_3), (0, .ref (g 100)), (1, .int (nI k0)), (2, .int (nI l0))]) hx hb dX12_reads_230 hl (k := 1) rfl (nI_1 _) (ltb rfl) rfl (fun ls hl => ?_)
                          refine lv_goto (tgt := 152) hx hb dX12_reads_233 rfl ?_
                          exact ih152 (i152 + 1) (va_up (va_up (va_up F152 34 (upd (F152 34) ((12 * k0) + i152) (nI ((180 * k0) + a9)))) 35 (upd (F152 35) ((12 * k0) + i152) (nI ((180 * k0) + g9)))) 36 (upd (F152 36) ((12 * k0) + i152) (nI ((180 * k0) + b9)))) _ _ (by (first | omega | (have zz0 := Hid.u hi_c36; have zz1 := Hid.u hi_cn; have zz2 := Hid.u hi_cn3; have zz3 := Hid.u hq_c36; have zz4 := Hid.u hq_cn3; omega))) ⟨(by (first | omega | (have zz0 := Hid.u hi_c36; have zz1 := Hid.u hi_cn; have zz2 := Hid.u hi_cn3; have zz3 := Hid.u hq_c36; have zz4 := Hid.u hq_cn3; omega))), (Fr.mo (Fr.f 36 (Fr.f 35 (Fr.f 34 hfr152))) (sbl rfl) (sbl rfl) (sbl rfl)), (by have q := new_cl hx152_0 (C := F36 27) (cm := c36 23) (fun k hk => (congrFun (hx152_2 32 (by decide)) _).trans (hx114_0 k (by (first | omega | (have zz0 := Hid.u hi_c36; have zz1 := Hid.u hi_cn; have zz2 := Hid.u hi_cn3; have zz3 := Hid.u hq_c36; have zz4 := Hid.u hq_cn3; omega))))) (by (first | omega | (have zz0 := Hid.u hi_c36; have zz1 := Hid.u hi_cn; have zz2 := Hid.u hi_cn3; have zz3 := Hid.u hq_c36; have zz4 := Hid.u hq_cn3; omega))) k1 k2 k3 s1 s2; exact q), (fun j hj => ⟨(upd_nq (by (first | omega | (have zz0 := Hid.u hi_c36; have zz1 := Hid.u hi_cn; have zz2 := Hid.u hi_cn3; have zz3 := Hid.u hq_c36; have zz4 := Hid.u hq_cn3; omega)))).trans (hx152_1 j hj).1, (upd_nq (by (first | omega | (have zz0 := Hid.u hi_c36; have zz1 := Hid.u hi_cn; have zz2 := Hid.u hi_cn3; have zz3 := Hid.u hq_c36; have zz4 := Hid.u hq_cn3; omega)))).trans (hx152_1 j hj).2.1, (upd_nq (by (first | omega | (have zz0 := Hid.u hi_c36; have zz1 := Hid.u hi_cn; have zz2 := Hid.u hi_cn3; have zz3 := Hid.u hq_c36; have zz4 := Hid.u hq_cn3; omega)))).trans (hx152_1 j hj).2.2⟩), (fun k hk => (va_up_ne _ _ hk.2.2).trans ((va_up_ne _ _ hk.2.1).trans ((va_up_ne _ _ hk.1).trans (hx152_2 k hk)))), (fun q9 hq9 => by show upd (F152 34) (12 * k0 + i152) (nI (180 * k0 + a9)) (12 * k0 + q9) = _ ∧ upd (F152 35) (12 * k0 + i152) (nI (180 * k0 + g9)) (12 * k0 + q9) = _ ∧ upd (F152 36) (12 * k0 + i152) (nI (180 * k0 + b9)) (12 * k0 + q9) = _; by_cases z9 : q9 = i152; (subst z9; rw [upd_self, upd_self, upd_self, ea9, eg9, eb9, nI_tn (by (first | omega | (have zz0 := Hid.u hi_c36; have zz1 := Hid.u hi_cn; have zz2 := Hid.u hi_cn3; have zz3 := Hid.u hq_c36; have zz4 := Hid.u hq_cn3; omega))), nI_tn (by (first | omega | (have zz0 := Hid.u hi_c36; have zz1 := Hid.u hi_cn; have zz2 := Hid.u hi_cn3; have zz3 := Hid.u hq_c36; have zz4 := Hid.u hq_cn3; omega))), nI_tn (by (first | omega | (have zz0 := Hid.u hi_c36; have zz1 := Hid.u hi_cn; have zz2 := Hid.u hi_cn3; have zz3 := Hid.u hq_c36; have zz4 := Hid.u hq_cn3; omega)))]; exact ⟨rfl, rfl, rfl⟩); (rw [upd_nq (by (first | omega | (have zz0 := Hid.u hi_c36; have zz1 := Hid.u hi_cn; have zz2 := Hid.u hi_cn3; have zz3 := Hid.u hq_c36; have zz4 := Hid.u hq_cn3; omega))), upd_nq (by (first | omega | (have zz0 := Hid.u hi_c36; have zz1 := Hid.u hi_cn; have zz2 := Hid.u hi_cn3; have zz3 := Hid.u hq_c36; have zz4 := Hid.u hq_cn3; omega))), upd_nq (by (first | omega | (have zz0 := Hid.u hi_c36; have zz1 := Hid.u hi_cn; have zz2 := Hid.u hi_cn3; have zz3 := Hid.u hq_c36; have zz4 := Hid.u hq_cn3; omega)))]; exact hx152_3 q9 (by (first | omega | (have zz0 := Hid.u hi_c36; have zz1 := Hid.u hi_cn; have zz2 := Hid.u hi_cn3; have zz3 := Hid.u hq_c36; have zz4 := Hid.u hq_cn3; omega)))))⟩ hP hD hS ls (lv_sub hl [0, 2, 3, 4, 5] rfl)
                    exact lp_152 _ 0 F114 _ _ (Nat.lt_succ_self _) ⟨(by (first | omega | (have zz0 := Hid.u hi_c36; have zz1 := Hid.u hi_cn; have zz2 := Hid.u hi_cn3; have zz3 := Hid.u hq_c36; have zz4 := Hid.u hq_cn3; omega))), (Fr.mo hfr114 (sbl rfl) (sbl rfl) (sbl rfl)), (fun q hq => absurd hq (Nat.not_lt_zero q)), (fun j hj => ⟨(congrFun (hx114_2 34 (by decide)) j).trans (congrFun g34_ j), (congrFun (hx114_2 35 (by decide)) j).trans (congrFun g35_ j), (congrFun (hx114_2 36 (by decide)) j).trans (congrFun g36_ j)⟩), (fun k _ => rfl), (fun q9 hq9 => absurd hq9 (Nat.not_lt_zero q9))⟩ hP hD hS ls (lv_sub hl [0, 1, 2, 3, 4] rfl)
                  ·
                    have tc_8 : ((nI i114).toInt : Int) < (nI (c36 23)).toInt := Int32.lt_iff_toInt_lt.mp (Int32.not_le.mp c_8)
                    refine lv_aload_n hx hb dX12_reads_123 rfl (lvA2 hl) ?_
                    refine gM_71 S hK hP (v := .ref (g 32)) rfl dX12_reads_124 ?_
                    refine lv_sipush (v := 180) hx hb dX12_reads_127 (by decide) ?_
                    refine lv_iload_n hx hb dX12_reads_130 rfl (lvA3 hl) ?_
                    refine lv_imul hx hb dX12_reads_131 ?_
                    refine lv_topi (fun y_21 ey_21 => ?_)
                    obtain rfl : y_21 = (nI (180 * k0)) := ey_21.trans (pk_mul 180 k0)
                    refine lv_iload hx hb dX12_reads_132 (lvA0 hl) ?_
                    refine lv_iadd hx hb dX12_reads_134 ?_
                    refine lv_topi (fun y_22 ey_22 => ?_)
                    obtain rfl : y_22 = (nI ((180 * k0) + i114)) := ey_22.trans (nI_add (180 * k0) i114)
                    refine lv_aload_n hx hb dX12_reads_135 rfl (lvA2 hl) ?_
                    refine gM_56 S hK hP (v := .ref (g 27)) rfl dX12_reads_136 ?_
                    refine lv_iload hx hb dX12_reads_139 (lvA0 hl) ?_
                    have kb_4 : i114 < 180 := by (first | omega | (have zz0 := Hid.u hi_c36; have zz1 := Hid.u hi_cn; have zz2 := Hid.u hi_cn3; have zz3 := Hid.u hq_c36; have zz4 := Hid.u hq_cn3; omega))
                    refine ldM_27 hx hb hK hP (x := ((F114 27) i114)) (vp_in_nI kb_4 (ltb rfl)) (nI_clamp (Nat.lt_trans kb_4 (ltb rfl))) rfl dX12_reads_141 ?_
                    have kb_5 : ((180 * k0) + i114) < 1980 := by (first | omega | (have zz0 := Hid.u hi_c36; have zz1 := Hid.u hi_cn; have zz2 := Hid.u hi_cn3; have zz3 := Hid.u hq_c36; have zz4 := Hid.u hq_cn3; omega))
                    refine stM_32 hx hb hK hP hD hS (Fn2 := (va_up F114 32 (upd (F114 32) ((180 * k0) + i114) ((F114 27) i114)))) (vp_in_nI kb_5 (ltb rfl)) (nI_clamp (Nat.lt_trans kb_5 (ltb rfl))) rfl dX12_reads_142 (fun H locs hP hD hS => ?_)
                    refine lv_iinc (v := (nI (i114 + 1))) (lv' := [(4, .int (nI (i114 + 1))), (3, .int x36_3), (0, .ref (g 100)), (1, .int (nI k0)), (2, .int (nI l0))]) hx hb dX12_reads_143 hl (k := 0) rfl (nI_1 _) (ltb rfl) rfl (fun ls hl => ?_)
                    refine lv_goto (tgt := 114) hx hb dX12_reads_146 rfl ?_
                    exact ih114 (i114 + 1) (va_up F114 32 (upd (F114 32) ((180 * k0) + i114) ((F114 27) i114))) _ _ (by (first | omega | (have zz0 := Hid.u hi_c36; have zz1 := Hid.u hi_cn; have zz2 := Hid.u hi_cn3; have zz3 := Hid.u hq_c36; have zz4 := Hid.u hq_cn3; omega))) ⟨(by (first | omega | (have zz0 := Hid.u hi_c36; have zz1 := Hid.u hi_cn; have zz2 := Hid.u hi_cn3; have zz3 := Hid.u hq_c36; have zz4 := Hid.u hq_cn3; omega))), (Fr.mo (Fr.f 32 hfr114) (sbl rfl) (sbl rfl) (sbl rfl)), (fun j hj => if e : j = i114 then by subst e; exact (upd_self _ _ _).trans (congrFun (hx114_2 27 (by decide)) j) else (upd_nq (by (first | omega | (have zz0 := Hid.u hi_c36; have zz1 := Hid.u hi_cn; have zz2 := Hid.u hi_cn3; have zz3 := Hid.u hq_c36; have zz4 := Hid.u hq_cn3; omega)))).trans (hx114_0 j (by (first | omega | (have zz0 := Hid.u hi_c36; have zz1 := Hid.u hi_cn; have zz2 := Hid.u hi_cn3; have zz3 := Hid.u hq_c36; have zz4 := Hid.u hq_cn3; omega))))), (fun j hj => (upd_nq (by (first | omega | (have zz0 := Hid.u hi_c36; have zz1 := Hid.u hi_cn; have zz2 := Hid.u hi_cn3; have zz3 := Hid.u hq_c36; have zz4 := Hid.u hq_cn3; omega)))).trans (hx114_1 j hj)), (fun k hk => (va_up_ne _ _ hk).trans (hx114_2 k hk))⟩ hP hD hS ls (lv_sub hl [0, 1, 2, 3, 4] rfl)
              exact lp_114 _ 0 (va_up F36 33 (upd (F36 33) k0 (nI (c36 25)))) _ _ (Nat.lt_succ_self _) ⟨(by (first | omega | (have zz0 := Hid.u hi_c36; have zz1 := Hid.u hi_cn; have zz2 := Hid.u hi_cn3; have zz3 := Hid.u hq_c36; have zz4 := Hid.u hq_cn3; omega))), (Fr.mo (Fr.f 33 hfr36) (sbl rfl) (sbl rfl) (sbl rfl)), (fun j hj => absurd hj (Nat.not_lt_zero j)), (fun j _ => congrFun g32_ j), (fun k _ => rfl)⟩ hP hD hS ls (lv_sub hl [0, 1, 2, 3, 4] rfl)
            ·
              have tc_7 : (x36_3.toInt : Int) = 0 := congrArg Int32.toInt c_7
              exact False.elim (absurd (show x36_3 = 0 by assumption) (show ¬ x36_3 = 0 by assumption))
          ·
            have tc_6 : ((nI (c36 19)).toInt : Int) < (nI (c36 20)).toInt := Int32.lt_iff_toInt_lt.mp (Int32.not_le.mp c_6)
            refine lv_aload_n hx hb dX12_reads_51 rfl (lvA1 hl) ?_
            refine lv_bipush (v := 59) hx hb dX12_reads_52 kbc_59 ?_
            have hFc := free_all hD hS hA
            refine va_calli (runV_a (As := [.int 59]) (rest := []) S (q_takes9 l D cI cB cZ g c36 I36 F36 59 H.size hI36 (by (first | omega | (have zz0 := Hid.u hi_c36; have zz1 := Hid.u hi_cn; have zz2 := Hid.u hi_cn3; have zz3 := Hid.u hq_c36; have zz4 := Hid.u hq_cn3; omega))) (by (first | omega | (have zz0 := Hid.u hi_c36; have zz1 := Hid.u hi_cn; have zz2 := Hid.u hi_cn3; have zz3 := Hid.u hq_c36; have zz4 := Hid.u hq_cn3; omega))) (by decide)) kV_RX12_322 hK hP hD 0 rfl rfl rfl ⟨Nat.le_of_ble_eq_true rfl, Nat.le_of_ble_eq_true rfl⟩ ⟨Nat.le_of_ble_eq_true rfl, Nat.le_of_ble_eq_true rfl⟩ rfl hl.1 rfl (Nat.le_of_ble_eq_true rfl) dX12_reads_54) hS (fun q _ h => hFc q h) hFc (fun r_23 u t H1 locs ht hvm wh_24 hB hz1 hk1 hS => ?_)
            obtain ⟨cn24, In24, Fn24⟩ := u
            obtain ⟨hP1, hD1⟩ := hB
            rw [ht] at hP1
            have vh_24 : (fun r c2 I2 F2 => (∀ k : Nat, k ∉ [21] → I2 k = I36 k) ∧ ((r = 0 ∧ (¬ hereM c36 F36 = 59 ∧ I2 21 = (-1000) * 1 - nI ((c36 19))) ∧ c36 = c2 ∧ F36 = F2) ∨ (r = 1 ∧ ((c36 19) < (c36 20) ∧ hereM c36 F36 = 59) ∧ (va_up c36 19 ((c36 19) + 1)) = c2 ∧ F36 = F2))) r_23 cn24 In24 Fn24 := wh_24
            obtain ⟨hI24_, vh_24⟩ := vh_24
            rcases vh_24 with ⟨rfl, h_24, rfl, rfl⟩ | ⟨rfl, h_24, rfl, rfl⟩
            ·
              have hf24 : Fr [18, 19, 20, 23, 24, 25, 26] [21, 22] [27, 28, 29, 30, 31, 32, 33, 34, 35, 36] cn In Fn c36 In24 F36 := Fr.mo (Fr.tr hfr36 (show Fr [] [21] [] c36 I36 F36 c36 In24 F36 from ⟨fun _ _ => rfl, hI24_, fun _ _ => rfl⟩)) (sbl rfl) (sbl rfl) (sbl rfl)
              have hP : va_P D vwCl (wM cI cB cZ g c36 In24 F36) H1 := hP1
              have hD : va_D A (wM cI cB cZ g c36 In24 F36) := hD1.weaken (fun _ _ _ h => hFc _ h)
              generalize H1 = H at hP hS ⊢
              refine lv_if_eq (tgt := 82) hx hb dX12_reads_57 rfl (fun _ => ?_) (fun h => absurd h cq_eq_0_0)
              refine lv_iconst (v := 0) hx hb dX12_reads_82 kic_0 ?_
              refine lv_istore_n (lv' := [(3, .int 0), (0, .ref (g 100)), (1, .int (nI k0)), (2, .int (nI l0))]) hx hb dX12_reads_83 rfl hl (ltb rfl) rfl (fun ls hl => ?_)
              refine lv_goto (tgt := 36) hx hb dX12_reads_84 rfl ?_
              exact ih36 0 (g36 - 1) c36 In24 F36 _ _ (by (first | omega | (have zz0 := Hid.u hi_c36; have zz1 := Hid.u hi_cn; have zz2 := Hid.u hi_cn3; have zz3 := Hid.u hq_c36; have zz4 := Hid.u hq_cn3; omega))) ⟨(Fr.mo hf24 (sbl rfl) (sbl rfl) (sbl rfl)), hI36, (Or.inl rfl), (by (first | omega | (have zz0 := Hid.u hi_c36; have zz1 := Hid.u hi_cn; have zz2 := Hid.u hi_cn3; have zz3 := Hid.u hq_c36; have zz4 := Hid.u hq_cn3; omega))), hx36_2, ⟨fun _ => ⟨_, hT9.trans (txL_w (by (first | omega | (have zz0 := Hid.u hi_c36; have zz1 := Hid.u hi_cn; have zz2 := Hid.u hi_cn3; have zz3 := Hid.u hq_c36; have zz4 := Hid.u hq_cn3; omega))) (fun q9 => h_24.1 ((pk_here (c := c36) (F := F36) (bbM_cg heb (hfr36.2.2 17 (nml rfl))) (show c36 20 = l0 by (first | omega | (have zz0 := Hid.u hi_c36; have zz1 := Hid.u hi_cn; have zz2 := Hid.u hi_cn3; have zz3 := Hid.u hq_c36; have zz4 := Hid.u hq_cn3; omega)))).symm.trans q9))), flt_k (k := 1) (p := c36 19) (by decide) h_24.2⟩, (fun q => absurd q (by decide))⟩⟩ hP hD hS ls (lv_sub hl [0, 1, 2, 3] rfl)
            ·
              have hf24 : Fr [18, 19, 20, 23, 24, 25, 26] [21, 22] [27, 28, 29, 30, 31, 32, 33, 34, 35, 36] cn In Fn c36 In24 F36 := Fr.mo (Fr.tr hfr36 (show Fr [] [21] [] c36 I36 F36 c36 In24 F36 from ⟨fun _ _ => rfl, hI24_, fun _ _ => rfl⟩)) (sbl rfl) (sbl rfl) (sbl rfl)
              have hP : va_P D vwCl (wM cI cB cZ g (va_up c36 19 ((c36 19) + 1)) In24 F36) H1 := hP1
              have hD : va_D A (wM cI cB cZ g (va_up c36 19 ((c36 19) + 1)) In24 F36) := hD1.weaken (fun _ _ _ h => hFc _ h)
              generalize H1 = H at hP hS ⊢
              refine lv_if_eq (tgt := 82) hx hb dX12_reads_57 rfl (fun h => absurd h cq_eq_1_0) (fun _ => ?_)
              refine lv_aload_n hx hb dX12_reads_60 rfl (lvA1 hl) ?_
              refine lv_iload_n hx hb dX12_reads_61 rfl (lvA2 hl) ?_
              refine lv_bipush (v := 10) hx hb dX12_reads_62 kbc_10 ?_
              refine lv_icmp_ne (tgt := 71) hx hb dX12_reads_64 rfl (fun c_25 => ?_) (fun c_25 => ?_)
              ·
                have tc_25 : ((nI k0).toInt : Int) ≠ 10 := fun q => c_25 (Int32.toInt_inj.mp q)
                refine lv_iconst (v := 0) hx hb dX12_reads_71 kic_0 ?_
                have hFc := free_all hD hS hA
                refine va_calli (runV_a (As := [.int 0]) (rest := []) S (q_readsClauseX l D cI cB cZ g (va_up c36 19 ((c36 19) + 1)) In24 F36 0 bb l0 u9 H.size (IM.fr (In := In24) hI36 (Fr.c 19 Fr.rf) (by decide) (by decide)) (show c36 19 + 1 ≤ c36 20 by (first | omega | (have zz0 := Hid.u hi_c36; have zz1 := Hid.u hi_cn; have zz2 := Hid.u hi_cn3; have zz3 := Hid.u hq_c36; have zz4 := Hid.u hq_cn3; omega))) (show c36 20 ≤ 160 by (first | omega | (have zz0 := Hid.u hi_c36; have zz1 := Hid.u hi_cn; have zz2 := Hid.u hi_cn3; have zz3 := Hid.u hq_c36; have zz4 := Hid.u hq_cn3; omega))) (show c36 23 ≤ c36 19 + 1 by (first | omega | (have zz0 := Hid.u hi_c36; have zz1 := Hid.u hi_cn; have zz2 := Hid.u hi_cn3; have zz3 := Hid.u hq_c36; have zz4 := Hid.u hq_cn3; omega))) hr4 hr5 (bbM_cg heb (hfr36.2.2 17 (nml rfl))) (show c36 20 = l0 by (first | omega | (have zz0 := Hid.u hi_c36; have zz1 := Hid.u hi_cn; have zz2 := Hid.u hi_cn3; have zz3 := Hid.u hq_c36; have zz4 := Hid.u hq_cn3; omega))) (by exact hS9)) kV_RX12_318 hK hP hD 0 rfl rfl rfl ⟨Nat.le_of_ble_eq_true rfl, Nat.le_of_ble_eq_true rfl⟩ ⟨Nat.le_of_ble_eq_true rfl, Nat.le_of_ble_eq_true rfl⟩ rfl hl.1 rfl (Nat.le_of_ble_eq_true rfl) dX12_reads_72) hS (fun q _ h => hFc q h) hFc (fun r_26 u t H1 locs ht hvm wh_27 hB hz1 hk1 hS => ?_)
                obtain ⟨cn27, In27, Fn27⟩ := u
                obtain ⟨hP1, hD1⟩ := hB
                rw [ht] at hP1
                have hP : va_P D vwCl (wM cI cB cZ g cn27 In27 Fn27) H1 := hP1
                have hD : va_D A (wM cI cB cZ g cn27 In27 Fn27) := hD1.weaken (fun _ _ _ h => hFc _ h)
                generalize H1 = H at hP hS ⊢
                have vh_27 : (fun r c2 I2 F2 => Fr [19, 23, 24, 25, 26] [21, 22] [27, 28, 29, 30, 31] (va_up c36 19 ((c36 19) + 1)) In24 F36 c2 I2 F2 ∧ IM c2 F2 ∧ (((r : Int32) = 0 ∨ (r = 1 ∧ ((c36 19) + 1) < c2 19 ∧ c2 19 ≤ (c36 20) ∧ c2 23 ≤ c2 19 ∧ c2 25 ≤ 12 ∧ ALL (F2 27) (c2 23) (c2 25) (F2 29) (F2 30) (F2 31))) ∧ (((r : Int32) = 0 → ∃ e9 : Nat, clV bb l0 (ldI 0) ((c36 25)) (((c36 19) + 1)) u9 = .error e9 ∧ FLT I2 e9) ∧ ((r : Int32) = 1 → ∃ (uX : OutT) (hX : Nat), clV bb l0 (ldI 0) ((c36 25)) (((c36 19) + 1)) u9 = .ok (c2 19, uX, hX) ∧ SAYm (F2 27) (c2 23) uX ∧ c2 25 = (c36 25) + 1 ∧ hX ≤ 160 ∧ F2 29 = upd ((F36 29)) ((c36 25)) (nI u9.length) ∧ F2 30 = upd ((F36 30)) ((c36 25)) (nI hX) ∧ F2 31 = upd ((F36 31)) ((c36 25)) (nI uX.length))))) r_26 cn27 In27 Fn27 := wh_27
                obtain ⟨hfc27, hIn27, h_27⟩ := vh_27
                have hf27 : Fr [18, 19, 20, 23, 24, 25, 26] [21, 22] [27, 28, 29, 30, 31, 32, 33, 34, 35, 36] cn In Fn cn27 In27 Fn27 := Fr.mo (Fr.tr (Fr.c 19 hf24) hfc27) (sbl rfl) (sbl rfl) (sbl rfl)
                have hi_cn27 : Hid (CB cn27) := hIn27.b
                have hq_cn27 := Hid.i (frq_18_19_20_23_24_25_26_0_1_2_46_57_58_62_63_75_83_44 hf27)
                have : cn27 20 = (c36 20) := hfc27.1 20 (nml rfl)
                obtain ⟨h_27, Nh_27⟩ := h_27
                rcases h_27 with rfl | ⟨rfl, kh_27⟩
                ·
                  rw [ldK_0 (k := k0) (by (first | omega | (have zz0 := Hid.u hi_c36; have zz1 := Hid.u hi_cn; have zz2 := Hid.u hi_cn27; have zz3 := Hid.u hi_cn3; have zz4 := Hid.u hq_c36; have zz5 := Hid.u hq_cn27; have zz6 := Hid.u hq_cn3; omega)))] at Nh_27
                  refine lv_if_eq (tgt := 82) hx hb dX12_reads_75 rfl (fun _ => ?_) (fun h => absurd h cq_eq_0_0)
                  refine lv_iconst (v := 0) hx hb dX12_reads_82 kic_0 ?_
                  refine lv_istore_n (lv' := [(3, .int 0), (0, .ref (g 100)), (1, .int (nI k0)), (2, .int (nI l0))]) hx hb dX12_reads_83 rfl hl (ltb rfl) rfl (fun ls hl => ?_)
                  refine lv_goto (tgt := 36) hx hb dX12_reads_84 rfl ?_
                  exact ih36 0 (g36 - 1) cn27 In27 Fn27 _ _ (by (first | omega | (have zz0 := Hid.u hi_c36; have zz1 := Hid.u hi_cn; have zz2 := Hid.u hi_cn27; have zz3 := Hid.u hi_cn3; have zz4 := Hid.u hq_c36; have zz5 := Hid.u hq_cn27; have zz6 := Hid.u hq_cn3; omega))) ⟨(Fr.mo hf27 (sbl rfl) (sbl rfl) (sbl rfl)), hIn27, (Or.inl rfl), (by (first | omega | (have zz0 := Hid.u hi_c36; have zz1 := Hid.u hi_cn; have zz2 := Hid.u hi_cn27; have zz3 := Hid.u hi_cn3; have zz4 := Hid.u hq_c36; have zz5 := Hid.u hq_cn27; have zz6 := Hid.u hq_cn3; omega))), (fun k h1 h2 => (hfc27.2.2 k (nin31 h1)).trans (hx36_2 k h1 h2)), ⟨fun _ => (by obtain ⟨e9, a9, f9⟩ := Nh_27.1 rfl; rw [hC9.1] at a9; exact ⟨e9, hT9.trans (txL_e (by (first | omega | (have zz0 := Hid.u hi_c36; have zz1 := Hid.u hi_cn; have zz2 := Hid.u hi_cn27; have zz3 := Hid.u hi_cn3; have zz4 := Hid.u hq_c36; have zz5 := Hid.u hq_cn27; have zz6 := Hid.u hq_cn3; omega))) ((pk_here (c := c36) (F := F36) (bbM_cg heb (hfr36.2.2 17 (nml rfl))) (show c36 20 = l0 by (first | omega | (have zz0 := Hid.u hi_c36; have zz1 := Hid.u hi_cn; have zz2 := Hid.u hi_cn27; have zz3 := Hid.u hi_cn3; have zz4 := Hid.u hq_c36; have zz5 := Hid.u hq_cn27; have zz6 := Hid.u hq_cn3; omega)))).trans h_24.2) a9), f9⟩), (fun q => absurd q (by decide))⟩⟩ hP hD hS ls (lv_sub hl [0, 1, 2, 3] rfl)
                ·
                  obtain ⟨kh_27a, kh_27b, kh_27c, kh_27d, kh_27e⟩ := kh_27
                  rw [ldK_0 (k := k0) (by (first | omega | (have zz0 := Hid.u hi_c36; have zz1 := Hid.u hi_cn; have zz2 := Hid.u hi_cn27; have zz3 := Hid.u hi_cn3; have zz4 := Hid.u hq_c36; have zz5 := Hid.u hq_cn27; have zz6 := Hid.u hq_cn3; omega)))] at Nh_27
                  refine lv_if_eq (tgt := 82) hx hb dX12_reads_75 rfl (fun h => absurd h cq_eq_1_0) (fun _ => ?_)
                  refine lv_iconst (v := 1) hx hb dX12_reads_78 kic_1 ?_
                  refine lv_goto (tgt := 83) hx hb dX12_reads_79 rfl ?_
                  refine lv_istore_n (lv' := [(3, .int 1), (0, .ref (g 100)), (1, .int (nI k0)), (2, .int (nI l0))]) hx hb dX12_reads_83 rfl hl (ltb rfl) rfl (fun ls hl => ?_)
                  refine lv_goto (tgt := 36) hx hb dX12_reads_84 rfl ?_
                  exact ih36 1 (g36 - 1) cn27 In27 Fn27 _ _ (by (first | omega | (have zz0 := Hid.u hi_c36; have zz1 := Hid.u hi_cn; have zz2 := Hid.u hi_cn27; have zz3 := Hid.u hi_cn3; have zz4 := Hid.u hq_c36; have zz5 := Hid.u hq_cn27; have zz6 := Hid.u hq_cn3; omega))) ⟨(Fr.mo hf27 (sbl rfl) (sbl rfl) (sbl rfl)), hIn27, (Or.inr ⟨rfl, by (first | omega | (have zz0 := Hid.u hi_c36; have zz1 := Hid.u hi_cn; have zz2 := Hid.u hi_cn27; have zz3 := Hid.u hi_cn3; have zz4 := Hid.u hq_c36; have zz5 := Hid.u hq_cn27; have zz6 := Hid.u hq_cn3; omega)), kh_27c, kh_27d, kh_27e, by (first | omega | (have zz0 := Hid.u hi_c36; have zz1 := Hid.u hi_cn; have zz2 := Hid.u hi_cn27; have zz3 := Hid.u hi_cn3; have zz4 := Hid.u hq_c36; have zz5 := Hid.u hq_cn27; have zz6 := Hid.u hq_cn3; omega))⟩), (by (first | omega | (have zz0 := Hid.u hi_c36; have zz1 := Hid.u hi_cn; have zz2 := Hid.u hi_cn27; have zz3 := Hid.u hi_cn3; have zz4 := Hid.u hq_c36; have zz5 := Hid.u hq_cn27; have zz6 := Hid.u hq_cn3; omega))), (fun k h1 h2 => (hfc27.2.2 k (nin31 h1)).trans (hx36_2 k h1 h2)), ⟨(fun q => absurd q (by decide)), fun _ => (by obtain ⟨w9, h9, a1, a2, a3, b1, a4, a5, a6⟩ := Nh_27.2 rfl; have q7 := hS9.1; have q8 := a2.1; rw [hC9.1] at a1; exact ⟨w9, _, hT9.trans (txL_s (by (first | omega | (have zz0 := Hid.u hi_c36; have zz1 := Hid.u hi_cn; have zz2 := Hid.u hi_cn27; have zz3 := Hid.u hi_cn3; have zz4 := Hid.u hq_c36; have zz5 := Hid.u hq_cn27; have zz6 := Hid.u hq_cn3; omega))) ((pk_here (c := c36) (F := F36) (bbM_cg heb (hfr36.2.2 17 (nml rfl))) (show c36 20 = l0 by (first | omega | (have zz0 := Hid.u hi_c36; have zz1 := Hid.u hi_cn; have zz2 := Hid.u hi_cn27; have zz3 := Hid.u hi_cn3; have zz4 := Hid.u hq_c36; have zz5 := Hid.u hq_cn27; have zz6 := Hid.u hq_cn3; omega)))).trans h_24.2) a1), a2, (by rw [a3, a4, a5, a6]; exact hC9.add ⟨by (first | omega | (have zz0 := Hid.u hi_c36; have zz1 := Hid.u hi_cn; have zz2 := Hid.u hi_cn27; have zz3 := Hid.u hi_cn3; have zz4 := Hid.u hq_c36; have zz5 := Hid.u hq_cn27; have zz6 := Hid.u hq_cn3; omega)), b1, by (first | omega | (have zz0 := Hid.u hi_c36; have zz1 := Hid.u hi_cn; have zz2 := Hid.u hi_cn27; have zz3 := Hid.u hi_cn3; have zz4 := Hid.u hq_c36; have zz5 := Hid.u hq_cn27; have zz6 := Hid.u hq_cn3; omega))⟩)⟩)⟩⟩ hP hD hS ls (lv_sub hl [0, 1, 2, 3] rfl)
              ·
                have tc_25 : ((nI k0).toInt : Int) = 10 := congrArg Int32.toInt c_25
                refine lv_iconst (v := 1) hx hb dX12_reads_67 kic_1 ?_
                refine lv_goto (tgt := 72) hx hb dX12_reads_68 rfl ?_
                have hFc := free_all hD hS hA
                refine va_calli (runV_a (As := [.int 1]) (rest := []) S (q_readsClauseX l D cI cB cZ g (va_up c36 19 ((c36 19) + 1)) In24 F36 1 bb l0 u9 H.size (IM.fr (In := In24) hI36 (Fr.c 19 Fr.rf) (by decide) (by decide)) (show c36 19 + 1 ≤ c36 20 by (first | omega | (have zz0 := Hid.u hi_c36; have zz1 := Hid.u hi_cn; have zz2 := Hid.u hi_cn3; have zz3 := Hid.u hq_c36; have zz4 := Hid.u hq_cn3; omega))) (show c36 20 ≤ 160 by (first | omega | (have zz0 := Hid.u hi_c36; have zz1 := Hid.u hi_cn; have zz2 := Hid.u hi_cn3; have zz3 := Hid.u hq_c36; have zz4 := Hid.u hq_cn3; omega))) (show c36 23 ≤ c36 19 + 1 by (first | omega | (have zz0 := Hid.u hi_c36; have zz1 := Hid.u hi_cn; have zz2 := Hid.u hi_cn3; have zz3 := Hid.u hq_c36; have zz4 := Hid.u hq_cn3; omega))) hr4 hr5 (bbM_cg heb (hfr36.2.2 17 (nml rfl))) (show c36 20 = l0 by (first | omega | (have zz0 := Hid.u hi_c36; have zz1 := Hid.u hi_cn; have zz2 := Hid.u hi_cn3; have zz3 := Hid.u hq_c36; have zz4 := Hid.u hq_cn3; omega))) (by exact hS9)) kV_RX12_318 hK hP hD 0 rfl rfl rfl ⟨Nat.le_of_ble_eq_true rfl, Nat.le_of_ble_eq_true rfl⟩ ⟨Nat.le_of_ble_eq_true rfl, Nat.le_of_ble_eq_true rfl⟩ rfl hl.1 rfl (Nat.le_of_ble_eq_true rfl) dX12_reads_72) hS (fun q _ h => hFc q h) hFc (fun r_28 u t H1 locs ht hvm wh_29 hB hz1 hk1 hS => ?_)
                obtain ⟨cn29, In29, Fn29⟩ := u
                obtain ⟨hP1, hD1⟩ := hB
                rw [ht] at hP1
                have hP : va_P D vwCl (wM cI cB cZ g cn29 In29 Fn29) H1 := hP1
                have hD : va_D A (wM cI cB cZ g cn29 In29 Fn29) := hD1.weaken (fun _ _ _ h => hFc _ h)
                generalize H1 = H at hP hS ⊢
                have vh_29 : (fun r c2 I2 F2 => Fr [19, 23, 24, 25, 26] [21, 22] [27, 28, 29, 30, 31] (va_up c36 19 ((c36 19) + 1)) In24 F36 c2 I2 F2 ∧ IM c2 F2 ∧ (((r : Int32) = 0 ∨ (r = 1 ∧ ((c36 19) + 1) < c2 19 ∧ c2 19 ≤ (c36 20) ∧ c2 23 ≤ c2 19 ∧ c2 25 ≤ 12 ∧ ALL (F2 27) (c2 23) (c2 25) (F2 29) (F2 30) (F2 31))) ∧ (((r : Int32) = 0 → ∃ e9 : Nat, clV bb l0 (ldI 1) ((c36 25)) (((c36 19) + 1)) u9 = .error e9 ∧ FLT I2 e9) ∧ ((r : Int32) = 1 → ∃ (uX : OutT) (hX : Nat), clV bb l0 (ldI 1) ((c36 25)) (((c36 19) + 1)) u9 = .ok (c2 19, uX, hX) ∧ SAYm (F2 27) (c2 23) uX ∧ c2 25 = (c36 25) + 1 ∧ hX ≤ 160 ∧ F2 29 = upd ((F36 29)) ((c36 25)) (nI u9.length) ∧ F2 30 = upd ((F36 30)) ((c36 25)) (nI hX) ∧ F2 31 = upd ((F36 31)) ((c36 25)) (nI uX.length))))) r_28 cn29 In29 Fn29 := wh_29
                obtain ⟨hfc29, hIn29, h_29⟩ := vh_29
                have hf29 : Fr [18, 19, 20, 23, 24, 25, 26] [21, 22] [27, 28, 29, 30, 31, 32, 33, 34, 35, 36] cn In Fn cn29 In29 Fn29 := Fr.mo (Fr.tr (Fr.c 19 hf24) hfc29) (sbl rfl) (sbl rfl) (sbl rfl)
                have hi_cn29 : Hid (CB cn29) := hIn29.b
                have hq_cn29 := Hid.i (frq_18_19_20_23_24_25_26_0_1_2_46_57_58_62_63_75_83_44 hf29)
                have : cn29 20 = (c36 20) := hfc29.1 20 (nml rfl)
                obtain ⟨h_29, Nh_29⟩ := h_29
                rcases h_29 with rfl | ⟨rfl, kh_29⟩
                ·
                  rw [ldK_1 (k := k0) (by (first | omega | (have zz0 := Hid.u hi_c36; have zz1 := Hid.u hi_cn; have zz2 := Hid.u hi_cn29; have zz3 := Hid.u hi_cn3; have zz4 := Hid.u hq_c36; have zz5 := Hid.u hq_cn29; have zz6 := Hid.u hq_cn3; omega)))] at Nh_29
                  refine lv_if_eq (tgt := 82) hx hb dX12_reads_75 rfl (fun _ => ?_) (fun h => absurd h cq_eq_0_0)
                  refine lv_iconst (v := 0) hx hb dX12_reads_82 kic_0 ?_
                  refine lv_istore_n (lv' := [(3, .int 0), (0, .ref (g 100)), (1, .int (nI k0)), (2, .int (nI l0))]) hx hb dX12_reads_83 rfl hl (ltb rfl) rfl (fun ls hl => ?_)
                  refine lv_goto (tgt := 36) hx hb dX12_reads_84 rfl ?_
                  exact ih36 0 (g36 - 1) cn29 In29 Fn29 _ _ (by (first | omega | (have zz0 := Hid.u hi_c36; have zz1 := Hid.u hi_cn; have zz2 := Hid.u hi_cn29; have zz3 := Hid.u hi_cn3; have zz4 := Hid.u hq_c36; have zz5 := Hid.u hq_cn29; have zz6 := Hid.u hq_cn3; omega))) ⟨(Fr.mo hf29 (sbl rfl) (sbl rfl) (sbl rfl)), hIn29, (Or.inl rfl), (by (first | omega | (have zz0 := Hid.u hi_c36; have zz1 := Hid.u hi_cn; have zz2 := Hid.u hi_cn29; have zz3 := Hid.u hi_cn3; have zz4 := Hid.u hq_c36; have zz5 := Hid.u hq_cn29; have zz6 := Hid.u hq_cn3; omega))), (fun k h1 h2 => (hfc29.2.2 k (nin31 h1)).trans (hx36_2 k h1 h2)), ⟨fun _ => (by obtain ⟨e9, a9, f9⟩ := Nh_29.1 rfl; rw [hC9.1] at a9; exact ⟨e9, hT9.trans (txL_e (by (first | omega | (have zz0 := Hid.u hi_c36; have zz1 := Hid.u hi_cn; have zz2 := Hid.u hi_cn29; have zz3 := Hid.u hi_cn3; have zz4 := Hid.u hq_c36; have zz5 := Hid.u hq_cn29; have zz6 := Hid.u hq_cn3; omega))) ((pk_here (c := c36) (F := F36) (bbM_cg heb (hfr36.2.2 17 (nml rfl))) (show c36 20 = l0 by (first | omega | (have zz0 := Hid.u hi_c36; have zz1 := Hid.u hi_cn; have zz2 := Hid.u hi_cn29; have zz3 := Hid.u hi_cn3; have zz4 := Hid.u hq_c36; have zz5 := Hid.u hq_cn29; have zz6 := Hid.u hq_cn3; omega)))).trans h_24.2) a9), f9⟩), (fun q => absurd q (by decide))⟩⟩ hP hD hS ls (lv_sub hl [0, 1, 2, 3] rfl)
                ·
                  obtain ⟨kh_29a, kh_29b, kh_29c, kh_29d, kh_29e⟩ := kh_29
                  rw [ldK_1 (k := k0) (by (first | omega | (have zz0 := Hid.u hi_c36; have zz1 := Hid.u hi_cn; have zz2 := Hid.u hi_cn29; have zz3 := Hid.u hi_cn3; have zz4 := Hid.u hq_c36; have zz5 := Hid.u hq_cn29; have zz6 := Hid.u hq_cn3; omega)))] at Nh_29
                  refine lv_if_eq (tgt := 82) hx hb dX12_reads_75 rfl (fun h => absurd h cq_eq_1_0) (fun _ => ?_)
                  refine lv_iconst (v := 1) hx hb dX12_reads_78 kic_1 ?_
                  refine lv_goto (tgt := 83) hx hb dX12_reads_79 rfl ?_
                  refine lv_istore_n (lv' := [(3, .int 1), (0, .ref (g 100)), (1, .int (nI k0)), (2, .int (nI l0))]) hx hb dX12_reads_83 rfl hl (ltb rfl) rfl (fun ls hl => ?_)
                  refine lv_goto (tgt := 36) hx hb dX12_reads_84 rfl ?_
                  exact ih36 1 (g36 - 1) cn29 In29 Fn29 _ _ (by (first | omega | (have zz0 := Hid.u hi_c36; have zz1 := Hid.u hi_cn; have zz2 := Hid.u hi_cn29; have zz3 := Hid.u hi_cn3; have zz4 := Hid.u hq_c36; have zz5 := Hid.u hq_cn29; have zz6 := Hid.u hq_cn3; omega))) ⟨(Fr.mo hf29 (sbl rfl) (sbl rfl) (sbl rfl)), hIn29, (Or.inr ⟨rfl, by (first | omega | (have zz0 := Hid.u hi_c36; have zz1 := Hid.u hi_cn; have zz2 := Hid.u hi_cn29; have zz3 := Hid.u hi_cn3; have zz4 := Hid.u hq_c36; have zz5 := Hid.u hq_cn29; have zz6 := Hid.u hq_cn3; omega)), kh_29c, kh_29d, kh_29e, by (first | omega | (have zz0 := Hid.u hi_c36; have zz1 := Hid.u hi_cn; have zz2 := Hid.u hi_cn29; have zz3 := Hid.u hi_cn3; have zz4 := Hid.u hq_c36; have zz5 := Hid.u hq_cn29; have zz6 := Hid.u hq_cn3; omega))⟩), (by (first | omega | (have zz0 := Hid.u hi_c36; have zz1 := Hid.u hi_cn; have zz2 := Hid.u hi_cn29; have zz3 := Hid.u hi_cn3; have zz4 := Hid.u hq_c36; have zz5 := Hid.u hq_cn29; have zz6 := Hid.u hq_cn3; omega))), (fun k h1 h2 => (hfc29.2.2 k (nin31 h1)).trans (hx36_2 k h1 h2)), ⟨(fun q => absurd q (by decide)), fun _ => (by obtain ⟨w9, h9, a1, a2, a3, b1, a4, a5, a6⟩ := Nh_29.2 rfl; have q7 := hS9.1; have q8 := a2.1; rw [hC9.1] at a1; exact ⟨w9, _, hT9.trans (txL_s (by (first | omega | (have zz0 := Hid.u hi_c36; have zz1 := Hid.u hi_cn; have zz2 := Hid.u hi_cn29; have zz3 := Hid.u hi_cn3; have zz4 := Hid.u hq_c36; have zz5 := Hid.u hq_cn29; have zz6 := Hid.u hq_cn3; omega))) ((pk_here (c := c36) (F := F36) (bbM_cg heb (hfr36.2.2 17 (nml rfl))) (show c36 20 = l0 by (first | omega | (have zz0 := Hid.u hi_c36; have zz1 := Hid.u hi_cn; have zz2 := Hid.u hi_cn29; have zz3 := Hid.u hi_cn3; have zz4 := Hid.u hq_c36; have zz5 := Hid.u hq_cn29; have zz6 := Hid.u hq_cn3; omega)))).trans h_24.2) a1), a2, (by rw [a3, a4, a5, a6]; exact hC9.add ⟨by (first | omega | (have zz0 := Hid.u hi_c36; have zz1 := Hid.u hi_cn; have zz2 := Hid.u hi_cn29; have zz3 := Hid.u hi_cn3; have zz4 := Hid.u hq_c36; have zz5 := Hid.u hq_cn29; have zz6 := Hid.u hq_cn3; omega)), b1, by (first | omega | (have zz0 := Hid.u hi_c36; have zz1 := Hid.u hi_cn; have zz2 := Hid.u hi_cn29; have zz3 := Hid.u hi_cn3; have zz4 := Hid.u hq_c36; have zz5 := Hid.u hq_cn29; have zz6 := Hid.u hq_cn3; omega))⟩)⟩)⟩⟩ hP hD hS ls (lv_sub hl [0, 1, 2, 3] rfl)
    exact lp_36 _ r_2 (l0 + 1) cn3 In3 Fn3 _ _ (Nat.lt_succ_self _) ⟨(Fr.mo hf3 (sbl rfl) (sbl rfl) (sbl rfl)), hIn3, (h_3.elim Or.inl (fun q => Or.inr ⟨q.1, q.2.2.1, q.2.2.2.1, q.2.2.2.2.1, q.2.2.2.2.2, by (first | omega | (have zz0 := Hid.u hi_cn; have zz1 := Hid.u hi_cn3; have zz2 := Hid.u hq_cn3; omega))⟩)), (by (first | omega | (have zz0 := Hid.u hi_cn; have zz1 := Hid.u hi_cn3; have zz2 := Hid.u hq_cn3; omega))), (fun k h1 h2 => hfc3.2.2 k (nin31 h1)), ⟨fun q9 => (by obtain ⟨e9, a9, f9⟩ := Nh_3.1 q9; exact ⟨e9, txV_e a9, f9⟩), fun q9 => (by obtain ⟨u9, h9, a1, a2, a3, b1, a4, a5, a6⟩ := Nh_3.2 q9; have q8 := a2.1; have q6 := h_3.resolve_left (by rw [q9]; decide); have q5 := q6.2.2.1; have q4 := q6.2.2.2.1; exact ⟨u9, [(0, h9, u9.length)], txV_s a1, a2, (by rw [a3, a4, a5, a6]; exact CLm.add CLm.z ⟨Nat.zero_le _, b1, by (first | omega | (have zz0 := Hid.u hi_cn; have zz1 := Hid.u hi_cn3; have zz2 := Hid.u hq_cn3; omega))⟩)⟩)⟩⟩ hP hD hS ls (lv_sub hl [0, 1, 2, 3] rfl)
  ·
    have tc_1 : ((nI k0).toInt : Int) = 10 := congrArg Int32.toInt c_1
    refine lv_iconst (v := 1) hx hb dX12_reads_27 kic_1 ?_
    refine lv_goto (tgt := 32) hx hb dX12_reads_28 rfl ?_
    have hFc := free_all hD hS hA
    refine va_calli (runV_a (As := [.int 1]) (rest := []) S (q_readsClauseX l D cI cB cZ g (va_up (va_up (va_up (va_up cn 19 0) 20 l0) 23 0) 25 0) In Fn 1 bb l0 ([]) H.size (IM.fr (In := In) hI (Fr.c 25 (Fr.c 23 (Fr.c 20 (Fr.c 19 Fr.rf)))) (by decide) (by decide)) (show 0 ≤ l0 by (first | omega | (have zz0 := Hid.u hi_cn; omega))) (show l0 ≤ 160 by (first | omega | (have zz0 := Hid.u hi_cn; omega))) (show 0 ≤ 0 by (first | omega | (have zz0 := Hid.u hi_cn; omega))) (show 0 ≤ 12 by (first | omega | (have zz0 := Hid.u hi_cn; omega))) (fun j hj => absurd (show j < 0 from hj) (Nat.not_lt_zero j)) heb rfl SAYm.z) kV_RX12_318 hK hP hD 0 rfl rfl rfl ⟨Nat.le_of_ble_eq_true rfl, Nat.le_of_ble_eq_true rfl⟩ ⟨Nat.le_of_ble_eq_true rfl, Nat.le_of_ble_eq_true rfl⟩ rfl hl.1 rfl (Nat.le_of_ble_eq_true rfl) dX12_reads_32) hS (fun q _ h => hFc q h) hFc (fun r_30 u t H1 locs ht hvm wh_31 hB hz1 hk1 hS => ?_)
    obtain ⟨cn31, In31, Fn31⟩ := u
    obtain ⟨hP1, hD1⟩ := hB
    rw [ht] at hP1
    have hP : va_P D vwCl (wM cI cB cZ g cn31 In31 Fn31) H1 := hP1
    have hD : va_D A (wM cI cB cZ g cn31 In31 Fn31) := hD1.weaken (fun _ _ _ h => hFc _ h)
    generalize H1 = H at hP hS ⊢
    have vh_31 : (fun r c2 I2 F2 => Fr [19, 23, 24, 25, 26] [21, 22] [27, 28, 29, 30, 31] (va_up (va_up (va_up (va_up cn 19 0) 20 l0) 23 0) 25 0) In Fn c2 I2 F2 ∧ IM c2 F2 ∧ (((r : Int32) = 0 ∨ (r = 1 ∧ 0 < c2 19 ∧ c2 19 ≤ l0 ∧ c2 23 ≤ c2 19 ∧ c2 25 ≤ 12 ∧ ALL (F2 27) (c2 23) (c2 25) (F2 29) (F2 30) (F2 31))) ∧ (((r : Int32) = 0 → ∃ e9 : Nat, clV bb l0 (ldI 1) (0) (0) ([]) = .error e9 ∧ FLT I2 e9) ∧ ((r : Int32) = 1 → ∃ (uX : OutT) (hX : Nat), clV bb l0 (ldI 1) (0) (0) ([]) = .ok (c2 19, uX, hX) ∧ SAYm (F2 27) (c2 23) uX ∧ c2 25 = 0 + 1 ∧ hX ≤ 160 ∧ F2 29 = upd ((Fn 29)) (0) (nI ([]).length) ∧ F2 30 = upd ((Fn 30)) (0) (nI hX) ∧ F2 31 = upd ((Fn 31)) (0) (nI uX.length))))) r_30 cn31 In31 Fn31 := wh_31
    obtain ⟨hfc31, hIn31, h_31⟩ := vh_31
    have hf31 : Fr [18, 19, 20, 23, 24, 25, 26] [21, 22] [27, 28, 29, 30, 31, 32, 33, 34, 35, 36] cn In Fn cn31 In31 Fn31 := Fr.mo (Fr.tr (Fr.c 25 (Fr.c 23 (Fr.c 20 (Fr.c 19 (Fr.rf (cn := cn) (In := In) (Fn := Fn)))))) hfc31) (sbl rfl) (sbl rfl) (sbl rfl)
    have hi_cn31 : Hid (CB cn31) := hIn31.b
    have hq_cn31 := Hid.i (frq_18_19_20_23_24_25_26_0_1_2_46_57_58_62_63_75_83_44 hf31)
    have : cn31 20 = l0 := hfc31.1 20 (nml rfl)
    obtain ⟨h_31, Nh_31⟩ := h_31
    rw [ldK_1 (k := k0) (by (first | omega | (have zz0 := Hid.u hi_cn; have zz1 := Hid.u hi_cn31; have zz2 := Hid.u hq_cn31; omega)))] at Nh_31
    refine lv_istore_n (lv' := [(3, .int r_30), (0, .ref (g 100)), (1, .int (nI k0)), (2, .int (nI l0))]) hx hb dX12_reads_35 rfl hl (ltb rfl) rfl (fun ls hl => ?_)
    have lp_36 : ∀ (n : Nat) (x36_3 : Int32) (g36 : Nat) (c36 : Nat → Nat) (I36 : Nat → Int32) (F36 : Nat → Nat → Int32) (H : Heap) (locs : List Loc) , g36 < n → (Fr [18, 19, 20, 23, 24, 25, 26] [21, 22] [27, 28, 29, 30, 31, 32, 33, 34, 35, 36] cn In Fn c36 I36 F36 ∧ IM c36 F36 ∧ (x36_3 = 0 ∨ (x36_3 = 1 ∧ c36 19 ≤ l0 ∧ c36 23 ≤ c36 19 ∧ c36 25 ≤ 12 ∧ ALL (F36 27) (c36 23) (c36 25) (F36 29) (F36 30) (F36 31) ∧ l0 + 1 ≤ c36 19 + g36)) ∧ (c36 20 = l0) ∧ (∀ k : Nat, 32 ≤ k → k ≤ 36 → F36 k = Fn k) ∧ (((x36_3 : Int32) = 0 → ∃ e9 : Nat, txV bb l0 (ldK k0) = .error e9 ∧ FLT I36 e9) ∧ ((x36_3 : Int32) = 1 → ∃ (u9 : OutT) (l9 : ClsT), txV bb l0 (ldK k0) = txL bb l0 (ldK k0) (l0 + 1) (c36 19) u9 l9 ∧ SAYm (F36 27) (c36 23) u9 ∧ CLm (F36 29) (F36 30) (F36 31) (c36 25) l9))) → va_P D vwCl (wM cI cB cZ g c36 I36 F36) H → va_D A (wM cI cB cZ g c36 I36 F36) → va_S A s.heap H locs → ∀ ls : Array Slot, lv_has ls 6 [(3, .int x36_3), (0, .ref (g 100)), (1, .int (nI k0)), (2, .int (nI l0))] → W p l e (RM 8 0 0) s m ([.ref (g 100), .int (nI k0), .int (nI l0)]).toArray below meth c H locs 0 0 (MQ below (va_Qi (fun (r : Int32) (u : (Nat → Nat) × (Nat → Int32) × (Nat → Nat → Int32)) => (fun r c2 I2 F2 => Fr [18, 19, 20, 23, 24, 25, 26] [21, 22] [27, 28, 29, 30, 31, 32, 33, 34, 35, 36] cn In Fn c2 I2 F2 ∧ IM c2 F2 ∧ (c2 18 = 0 ∧ TXR bb l0 k0 r Fn F2)) r u.1 u.2.1 u.2.2) (fun (u : (Nat → Nat) × (Nat → Int32) × (Nat → Nat → Int32)) (t : State) => va_P D vwCl (wM cI cB cZ g u.1 u.2.1 u.2.2) t.heap ∧ va_D A (wM cI cB cZ g u.1 u.2.1 u.2.2)) A) ([.ref (g 100), .int (nI k0), .int (nI l0)]).toArray s 0 0 A) (F0 m 36 ls []) := by
      intro n36
      induction n36 with
      | zero => intros; (first | omega | (have zz0 := Hid.u hi_cn; have zz1 := Hid.u hi_cn31; have zz2 := Hid.u hq_cn31; omega))
      | succ n36 ih36 =>
        intro x36_3 g36 c36 I36 F36 H locs hmu36 hinv36 hP hD hS ls hl
        obtain ⟨hfr36, hI36, hx36_0, hx36_1, hx36_2, hx36_3⟩ := hinv36
        have hi_c36 : Hid (CB c36) := hI36.b
        have hq_c36 := Hid.i (frq_18_19_20_23_24_25_26_0_1_2_46_57_58_62_63_75_83_44 hfr36)
        refine lv_iload_n hx hb dX12_reads_36 rfl (lvA0 hl) ?_
        refine lv_if_eq (tgt := 87) hx hb dX12_reads_37 rfl (fun c_32 => ?_) (fun c_32 => ?_)
        ·
          have tc_32 : (x36_3.toInt : Int) = 0 := congrArg Int32.toInt c_32
          refine lv_aload_n hx hb dX12_reads_87 rfl (lvA1 hl) ?_
          refine lv_iconst (v := 0) hx hb dX12_reads_88 kic_0 ?_
          refine pM_226 S hK hP hD hS (a := 0) (cn2 := (va_up c36 18 0)) rfl rfl dX12_reads_89 (fun H locs hP hD hS => ?_)
          refine lv_iload_n hx hb dX12_reads_92 rfl (lvA0 hl) ?_
          refine lv_if_ne (tgt := 101) hx hb dX12_reads_93 rfl (fun c_33 => False.elim (by have tc_33 : (x36_3.toInt : Int) ≠ 0 := fun q => c_33 (Int32.toInt_inj.mp q); (first | omega | (have zz0 := Hid.u hi_c36; have zz1 := Hid.u hi_cn; have zz2 := Hid.u hi_cn31; have zz3 := Hid.u hq_c36; have zz4 := Hid.u hq_cn31; omega)))) (fun c_33 => ?_)
          have tc_33 : (x36_3.toInt : Int) = 0 := congrArg Int32.toInt c_33
          refine lv_aload_n hx hb dX12_reads_96 rfl (lvA1 hl) ?_
          refine gM_243 S hK hP (v := .int (I36 21)) rfl dX12_reads_97 ?_
          exact W.iret (v := (I36 21)) hx hb hr (fun t ht hW => ⟨⟨(I36 21), ((va_up c36 18 0), I36, F36), rfl, ⟨(Fr.mo (Fr.c 18 hfr36) (sbl rfl) (sbl rfl) (sbl rfl)), (IM.fr (In := I36) hI36 (Fr.c 18 Fr.rf) (by decide) (by decide)), (by show (va_up c36 18 0) 18 = 0 ∧ TXR bb l0 k0 (I36 21) Fn F36; exact ⟨rfl, Or.inl (by obtain ⟨e9, a9, f9⟩ := hx36_3.1 (show x36_3 = 0 by assumption); exact ⟨e9, a9, f9, hx36_2⟩)⟩)⟩, by rw [ht]; exact hP, hD⟩, hS.F ht⟩) hS.2.2 dX12_reads_100
        ·
          have tc_32 : (x36_3.toInt : Int) ≠ 0 := fun q => c_32 (Int32.toInt_inj.mp q)
          obtain ⟨hr1, hr2, hr3, hr4, hr5, hr6⟩ := hx36_0.resolve_left (by assumption)
          obtain ⟨u9, l9, hT9, hS9, hC9⟩ := hx36_3.2 hr1
          refine lv_aload_n hx hb dX12_reads_40 rfl (lvA1 hl) ?_
          refine gM_233 S hK hP (v := .int (nI (c36 19))) rfl dX12_reads_41 ?_
          refine lv_aload_n hx hb dX12_reads_44 rfl (lvA1 hl) ?_
          refine gM_236 S hK hP (v := .int (nI (c36 20))) rfl dX12_reads_45 ?_
          have : (nI (c36 19)).toInt = (((c36 19) : Nat) : Int) := nI_toInt (by (first | omega | (have zz0 := Hid.u hi_c36; have zz1 := Hid.u hi_cn; have zz2 := Hid.u hi_cn31; have zz3 := Hid.u hq_c36; have zz4 := Hid.u hq_cn31; omega)))
          have : (nI (c36 20)).toInt = (((c36 20) : Nat) : Int) := nI_toInt (by (first | omega | (have zz0 := Hid.u hi_c36; have zz1 := Hid.u hi_cn; have zz2 := Hid.u hi_cn31; have zz3 := Hid.u hq_c36; have zz4 := Hid.u hq_cn31; omega)))
          refine lv_icmp_ge (tgt := 87) hx hb dX12_reads_48 rfl (fun c_34 => ?_) (fun c_34 => ?_)
          ·
            have tc_34 : ((nI (c36 20)).toInt : Int) ≤ (nI (c36 19)).toInt := Int32.le_iff_toInt_le.mp c_34
            refine lv_aload_n hx hb dX12_reads_87 rfl (lvA1 hl) ?_
            refine lv_iconst (v := 0) hx hb dX12_reads_88 kic_0 ?_
            refine pM_226 S hK hP hD hS (a := 0) (cn2 := (va_up c36 18 0)) rfl rfl dX12_reads_89 (fun H locs hP hD hS => ?_)
            refine lv_iload_n hx hb dX12_reads_92 rfl (lvA0 hl) ?_
            refine lv_if_ne (tgt := 101) hx hb dX12_reads_93 rfl (fun c_35 => ?_) (fun c_35 => ?_)
            ·
              have tc_35 : (x36_3.toInt : Int) ≠ 0 := fun q => c_35 (Int32.toInt_inj.mp q)
              have g32_ : F36 32 = Fn 32 := hx36_2 32 (by decide) (by decide)
              have g33_ : F36 33 = Fn 33 := hx36_2 33 (by decide) (by decide)
              have g34_ : F36 34 = Fn 34 := hx36_2 34 (by decide) (by decide)
              have g35_ : F36 35 = Fn 35 := hx36_2 35 (by decide) (by decide)
              have g36_ : F36 36 = Fn 36 := hx36_2 36 (by decide) (by decide)
              refine lv_aload_n hx hb dX12_reads_101 rfl (lvA1 hl) ?_
              refine gM_74 S hK hP (v := .ref (g 33)) rfl dX12_reads_102 ?_
              refine lv_iload_n hx hb dX12_reads_105 rfl (lvA2 hl) ?_
              refine lv_aload_n hx hb dX12_reads_106 rfl (lvA1 hl) ?_
              refine gM_312 S hK hP (v := .int (nI (c36 25))) rfl dX12_reads_107 ?_
              have kb_6 : k0 < 11 := by (first | omega | (have zz0 := Hid.u hi_c36; have zz1 := Hid.u hi_cn; have zz2 := Hid.u hi_cn31; have zz3 := Hid.u hq_c36; have zz4 := Hid.u hq_cn31; omega))
              refine stM_33 hx hb hK hP hD hS (Fn2 := (va_up F36 33 (upd (F36 33) k0 (nI (c36 25))))) (vp_in_nI kb_6 (ltb rfl)) (nI_clamp (Nat.lt_trans kb_6 (ltb rfl))) rfl dX12_reads_110 (fun H locs hP hD hS => ?_)
              refine lv_iconst (v := 0) hx hb dX12_reads_111 kic_0 ?_
              refine lv_istore (lv' := [(4, .int 0), (3, .int x36_3), (0, .ref (g 100)), (1, .int (nI k0)), (2, .int (nI l0))]) hx hb dX12_reads_112 hl (ltb rfl) rfl (fun ls hl => ?_)
              have lp_114 : ∀ (n : Nat) (i114 : Nat) (F114 : Nat → Nat → Int32) (H : Heap) (locs : List Loc) , (c36 23) - i114 < n → (i114 ≤ (c36 23) ∧ Fr [18, 19, 20, 23, 24, 25, 26] [21, 22] [27, 28, 29, 30, 31, 32, 33, 34, 35, 36] cn In Fn c36 I36 F114 ∧ (∀ j : Nat, j < i114 → F114 32 (180 * k0 + j) = F36 27 j) ∧ (∀ j : Nat, j < 180 * k0 ∨ 180 * k0 + 180 ≤ j → F114 32 j = Fn 32 j) ∧ (∀ k : Nat, k ≠ 32 → F114 k = (va_up F36 33 (upd (F36 33) k0 (nI (c36 25)))) k)) → va_P D vwCl (wM cI cB cZ g (va_up c36 18 0) I36 F114) H → va_D A (wM cI cB cZ g (va_up c36 18 0) I36 F114) → va_S A s.heap H locs → ∀ ls : Array Slot, lv_has ls 6 [(4, .int (nI i114)), (3, .int x36_3), (0, .ref (g 100)), (1, .int (nI k0)), (2, .int (nI l0))] → W p l e (RM 8 0 0) s m ([.ref (g 100), .int (nI k0), .int (nI l0)]).toArray below meth c H locs 0 0 (MQ below (va_Qi (fun (r : Int32) (u : (Nat → Nat) × (Nat → Int32) × (Nat → Nat → Int32)) => (fun r c2 I2 F2 => Fr [18, 19, 20, 23, 24, 25, 26] [21, 22] [27, 28, 29, 30, 31, 32, 33, 34, 35, 36] cn In Fn c2 I2 F2 ∧ IM c2 F2 ∧ (c2 18 = 0 ∧ TXR bb l0 k0 r Fn F2)) r u.1 u.2.1 u.2.2) (fun (u : (Nat → Nat) × (Nat → Int32) × (Nat → Nat → Int32)) (t : State) => va_P D vwCl (wM cI cB cZ g u.1 u.2.1 u.2.2) t.heap ∧ va_D A (wM cI cB cZ g u.1 u.2.1 u.2.2)) A) ([.ref (g 100), .int (nI k0), .int (nI l0)]).toArray s 0 0 A) (F0 m 114 ls []) := by
                intro n114
                induction n114 with
                | zero => intros; (first | omega | (have zz0 := Hid.u hi_c36; have zz1 := Hid.u hi_cn; have zz2 := Hid.u hi_cn31; have zz3 := Hid.u hq_c36; have zz4 := Hid.u hq_cn31; omega))
                | succ n114 ih114 =>
                  intro i114 F114 H locs hmu114 hinv114 hP hD hS ls hl
                  obtain ⟨hr114, hfr114, hx114_0, hx114_1, hx114_2⟩ := hinv114
                  have ti114 : (nI i114).toInt = (i114 : Int) := nI_toInt (by (first | omega | (have zz0 := Hid.u hi_c36; have zz1 := Hid.u hi_cn; have zz2 := Hid.u hi_cn31; have zz3 := Hid.u hq_c36; have zz4 := Hid.u hq_cn31; omega)))
                  have hq_c36 := Hid.i (frq_18_19_20_23_24_25_26_0_1_2_46_57_58_62_63_75_83_44 hfr114)
                  refine lv_iload hx hb dX12_reads_114 (lvA0 hl) ?_
                  refine lv_aload_n hx hb dX12_reads_116 rfl (lvA2 hl) ?_
                  refine gM_257 S hK hP (v := .int (nI (c36 23))) rfl dX12_reads_117 ?_
                  have : (nI (c36 23)).toInt = (((c36 23) : Nat) : Int) := nI_toInt (by (first | omega | (have zz0 := Hid.u hi_c36; have zz1 := Hid.u hi_cn; have zz2 := Hid.u hi_cn31; have zz3 := Hid.u hq_c36; have zz4 := Hid.u hq_cn31; omega)))
                  refine lv_icmp_ge (tgt := 149) hx hb dX12_reads_120 rfl (fun c_36 => ?_) (fun c_36 => ?_)
                  ·
                    have tc_36 : ((nI (c36 23)).toInt : Int) ≤ (nI i114).toInt := Int32.le_iff_toInt_le.mp c_36
                    refine lv_iconst (v := 0) hx hb dX12_reads_149 kic_0 ?_
                    refine lv_istore (lv' := [(4, .int 0), (3, .int x36_3), (0, .ref (g 100)), (1, .int (nI k0)), (2, .int (nI l0))]) hx hb dX12_reads_150 hl (ltb rfl) rfl (fun ls hl => ?_)
                    have lp_152 : ∀ (n : Nat) (i152 : Nat) (F152 : Nat → Nat → Int32) (H : Heap) (locs : List Loc) , (c36 25) - i152 < n → (i152 ≤ (c36 25) ∧ Fr [18, 19, 20, 23, 24, 25, 26] [21, 22] [27, 28, 29, 30, 31, 32, 33, 34, 35, 36] cn In Fn c36 I36 F152 ∧ (∀ q : Nat, q < i152 → ClOK (F152 32) (180 * k0) (F152 34 (12 * k0 + q)) (F152 35 (12 * k0 + q)) (F152 36 (12 * k0 + q))) ∧ (∀ j : Nat, j < 12 * k0 ∨ 12 * k0 + 12 ≤ j → F152 34 j = Fn 34 j ∧ F152 35 j = Fn 35 j ∧ F152 36 j = Fn 36 j) ∧ (∀ k : Nat, k ≠ 34 ∧ k ≠ 35 ∧ k ≠ 36 → F152 k = F114 k) ∧ (∀ q9 : Nat, q9 < i152 → F152 34 (12 * k0 + q9) = nI (180 * k0 + (F36 29 q9).toInt.toNat) ∧ F152 35 (12 * k0 + q9) = nI (180 * k0 + (F36 30 q9).toInt.toNat) ∧ F152 36 (12 * k0 + q9) = nI (180 * k0 + (F36 31 q9).toInt.toNat))) → va_P D vwCl (wM cI cB cZ g (va_up c36 18 0) I36 F152) H → va_D A (wM cI cB cZ g (va_up c36 18 0) I36 F152) → va_S A s.heap H locs → ∀ ls : Array Slot, lv_has ls 6 [(4, .int (nI i152)), (3, .int x36_3), (0, .ref (g 100)), (1, .int (nI k0)), (2, .int (nI l0))] → W p l e (RM 8 0 0) s m ([.ref (g 100), .int (nI k0), .int (nI l0)]).toArray below meth c H locs 0 0 (MQ below (va_Qi (fun (r : Int32) (u : (Nat → Nat) × (Nat → Int32) × (Nat → Nat → Int32)) => (fun r c2 I2 F2 => Fr [18, 19, 20, 23, 24, 25, 26] [21, 22] [27, 28, 29, 30, 31, 32, 33, 34, 35, 36] cn In Fn c2 I2 F2 ∧ IM c2 F2 ∧ (c2 18 = 0 ∧ TXR bb l0 k0 r Fn F2)) r u.1 u.2.1 u.2.2) (fun (u : (Nat → Nat) × (Nat → Int32) × (Nat → Nat → Int32)) (t : State) => va_P D vwCl (wM cI cB cZ g u.1 u.2.1 u.2.2) t.heap ∧ va_D A (wM cI cB cZ g u.1 u.2.1 u.2.2)) A) ([.ref (g 100), .int (nI k0), .int (nI l0)]).toArray s 0 0 A) (F0 m 152 ls []) := by
                      intro n152
                      induction n152 with
                      | zero => intros; (first | omega | (have zz0 := Hid.u hi_c36; have zz1 := Hid.u hi_cn; have zz2 := Hid.u hi_cn31; have zz3 := Hid.u hq_c36; have zz4 := Hid.u hq_cn31; omega))
                      | succ n152 ih152 =>
                        intro i152 F152 H locs hmu152 hinv152 hP hD hS ls hl
                        obtain ⟨hr152, hfr152, hx152_0, hx152_1, hx152_2, hx152_3⟩ := hinv152
                        have ti152 : (nI i152).toInt = (i152 : Int) := nI_toInt (by (first | omega | (have zz0 := Hid.u hi_c36; have zz1 := Hid.u hi_cn; have zz2 := Hid.u hi_cn31; have zz3 := Hid.u hq_c36; have zz4 := Hid.u hq_cn31; omega)))
                        have hq_c36 := Hid.i (frq_18_19_20_23_24_25_26_0_1_2_46_57_58_62_63_75_83_44 hfr152)
                        refine lv_iload hx hb dX12_reads_152 (lvA0 hl) ?_
                        refine lv_aload_n hx hb dX12_reads_154 rfl (lvA2 hl) ?_
                        refine gM_312 S hK hP (v := .int (nI (c36 25))) rfl dX12_reads_155 ?_
                        have : (nI (c36 25)).toInt = (((c36 25) : Nat) : Int) := nI_toInt (by (first | omega | (have zz0 := Hid.u hi_c36; have zz1 := Hid.u hi_cn; have zz2 := Hid.u hi_cn31; have zz3 := Hid.u hq_c36; have zz4 := Hid.u hq_cn31; omega)))
                        refine lv_icmp_ge (tgt := 236) hx hb dX12_reads_158 rfl (fun c_37 => ?_) (fun c_37 => ?_)
                        ·
                          have tc_37 : ((nI (c36 25)).toInt : Int) ≤ (nI i152).toInt := Int32.le_iff_toInt_le.mp c_37
                          refine lv_aload_n hx hb dX12_reads_236 rfl (lvA2 hl) ?_
                          refine gM_312 S hK hP (v := .int (nI (c36 25))) rfl dX12_reads_237 ?_
                          exact W.iret (v := (nI (c36 25))) hx hb hr (fun t ht hW => ⟨⟨(nI (c36 25)), ((va_up c36 18 0), I36, F152), rfl, ⟨(Fr.mo (Fr.c 18 hfr152) (sbl rfl) (sbl rfl) (sbl rfl)), (IM.rd (t := k0) (sm := c36 25) hI (fun k hk => (Fr.c 18 hfr36).1 k (by revert k; decide)) (fun k hk => hfr152.2.2 k (by revert k; decide)) (by (first | omega | (have zz0 := Hid.u hi_c36; have zz1 := Hid.u hi_cn; have zz2 := Hid.u hi_cn31; have zz3 := Hid.u hq_c36; have zz4 := Hid.u hq_cn31; omega))) ((hx152_2 33 (by decide)).trans ((hx114_2 33 (by decide)).trans (by show upd (F36 33) k0 (nI (c36 25)) = _; rw [g33_]))) (fun j hj => (congrFun (hx152_2 32 (by decide)) j).trans (hx114_1 j hj)) hx152_1 (fun q hq => hx152_0 q (by (first | omega | (have zz0 := Hid.u hi_c36; have zz1 := Hid.u hi_cn; have zz2 := Hid.u hi_cn31; have zz3 := Hid.u hq_c36; have zz4 := Hid.u hq_cn31; omega))))), (by show (va_up c36 18 0) 18 = 0 ∧ TXR bb l0 k0 (nI (c36 25)) Fn F152; exact ⟨rfl, Or.inr ⟨(c36 19, u9, l9), hT9.trans (txL_0 (by (first | omega | (have zz0 := Hid.u hi_c36; have zz1 := Hid.u hi_cn; have zz2 := Hid.u hi_cn31; have zz3 := Hid.u hq_c36; have zz4 := Hid.u hq_cn31; omega)))), (by show nI (c36 25) = nI l9.length; rw [hC9.1]), (by have q8 := hS9.1; have q9 := hC9.1; show u9.length ≤ 160 ∧ l9.length ≤ 12; (first | omega | (have zz0 := Hid.u hi_c36; have zz1 := Hid.u hi_cn; have zz2 := Hid.u hi_cn31; have zz3 := Hid.u hq_c36; have zz4 := Hid.u hq_cn31; omega))), re_mt hS9 hC9 (fun j hj => (congrFun (hx152_2 32 (by decide)) _).trans (hx114_0 j (by (first | omega | (have zz0 := Hid.u hi_c36; have zz1 := Hid.u hi_cn; have zz2 := Hid.u hi_cn31; have zz3 := Hid.u hq_c36; have zz4 := Hid.u hq_cn31; omega))))) (((congrFun (hx152_2 33 (by decide)) _).trans (congrFun (hx114_2 33 (by decide)) _)).trans (upd_self _ _ _)) (fun j hj => hx152_3 j (by (first | omega | (have zz0 := Hid.u hi_c36; have zz1 := Hid.u hi_cn; have zz2 := Hid.u hi_cn31; have zz3 := Hid.u hq_c36; have zz4 := Hid.u hq_cn31; omega)))), (fun t9 ht9 => (((congrFun (hx152_2 33 (by decide)) _).trans (congrFun (hx114_2 33 (by decide)) _)).trans (upd_nq ht9)).trans (congrFun g33_ t9)), (fun j hj => (congrFun (hx152_2 32 (by decide)) j).trans (hx114_1 j hj)), hx152_1⟩⟩)⟩, by rw [ht]; exact hP, hD⟩, hS.F ht⟩) hS.2.2 dX12_reads_240
                        ·
                          have tc_37 : ((nI i152).toInt : Int) < (nI (c36 25)).toInt := Int32.lt_iff_toInt_lt.mp (Int32.not_le.mp c_37)
                          obtain ⟨a9, g9, b9, ea9, eg9, eb9, k1, k2, k3, s1, s2⟩ := hr5 i152 (by (first | omega | (have zz0 := Hid.u hi_c36; have zz1 := Hid.u hi_cn; have zz2 := Hid.u hi_cn31; have zz3 := Hid.u hq_c36; have zz4 := Hid.u hq_cn31; omega)))
                          refine lv_bipush (v := 12) hx hb dX12_reads_161 kbc_12 ?_
                          refine lv_iload_n hx hb dX12_reads_163 rfl (lvA3 hl) ?_
                          refine lv_imul hx hb dX12_reads_164 ?_
                          refine lv_topi (fun y_38 ey_38 => ?_)
                          obtain rfl : y_38 = (nI (12 * k0)) := ey_38.trans (pk_mul 12 k0)
                          refine lv_iload hx hb dX12_reads_165 (lvA0 hl) ?_
                          refine lv_iadd hx hb dX12_reads_167 ?_
                          refine lv_topi (fun y_39 ey_39 => ?_)
                          obtain rfl : y_39 = (nI ((12 * k0) + i152)) := ey_39.trans (nI_add (12 * k0) i152)
                          refine lv_istore (lv' := [(5, .int (nI ((12 * k0) + i152))), (4, .int (nI i152)), (3, .int x36_3), (0, .ref (g 100)), (1, .int (nI k0)), (2, .int (nI l0))]) hx hb dX12_reads_168 hl (ltb rfl) rfl (fun ls hl => ?_)
                          refine lv_aload_n hx hb dX12_reads_170 rfl (lvA3 hl) ?_
                          refine gM_77 S hK hP (v := .ref (g 34)) rfl dX12_reads_171 ?_
                          refine lv_iload hx hb dX12_reads_174 (lvA0 hl) ?_
                          refine lv_sipush (v := 180) hx hb dX12_reads_176 (by decide) ?_
                          refine lv_iload_n hx hb dX12_reads_179 rfl (lvA4 hl) ?_
                          refine lv_imul hx hb dX12_reads_180 ?_
                          refine lv_topi (fun y_40 ey_40 => ?_)
                          obtain rfl : y_40 = (nI (180 * k0)) := ey_40.trans (pk_mul 180 k0)
                          refine lv_aload_n hx hb dX12_reads_181 rfl (lvA3 hl) ?_
                          refine gM_62 S hK hP (v := .ref (g 29)) rfl dX12_reads_182 ?_
                          refine lv_iload hx hb dX12_reads_185 (lvA1 hl) ?_
                          have kb_7 : i152 < 12 := by (first | omega | (have zz0 := Hid.u hi_c36; have zz1 := Hid.u hi_cn; have zz2 := Hid.u hi_cn31; have zz3 := Hid.u hq_c36; have zz4 := Hid.u hq_cn31; omega))
                          refine ldM_29 hx hb hK hP (x := ((F152 29) i152)) (vp_in_nI kb_7 (ltb rfl)) (nI_clamp (Nat.lt_trans kb_7 (ltb rfl))) rfl dX12_reads_187 ?_
                          refine lv_topi (fun y_41 ey_41 => ?_)
                          obtain rfl : y_41 = (nI a9) := ey_41.trans ((congrFun ((hx152_2 29 (by decide)).trans (hx114_2 29 (by decide))) i152).trans ea9)
                          refine lv_iadd hx hb dX12_reads_188 ?_
                          refine lv_topi (fun y_42 ey_42 => ?_)
                          obtain rfl : y_42 = (nI ((180 * k0) + a9)) := ey_42.trans (nI_add (180 * k0) a9)
                          have kb_8 : ((12 * k0) + i152) < 132 := by (first | omega | (have zz0 := Hid.u hi_c36; have zz1 := Hid.u hi_cn; have zz2 := Hid.u hi_cn31; have zz3 := Hid.u hq_c36; have zz4 := Hid.u hq_cn31; omega))
                          refine stM_34 hx hb hK hP hD hS (Fn2 := (va_up F152 34 (upd (F152 34) ((12 * k0) + i152) (nI ((180 * k0) + a9))))) (vp_in_nI kb_8 (ltb rfl)) (nI_clamp (Nat.lt_trans kb_8 (ltb rfl))) rfl dX12_reads_189 (fun H locs hP hD hS => ?_)
                          refine lv_aload_n hx hb dX12_reads_190 rfl (lvA3 hl) ?_
                          refine gM_80 S hK hP (v := .ref (g 35)) rfl dX12_reads_191 ?_
                          refine lv_iload hx hb dX12_reads_194 (lvA0 hl) ?_
                          refine lv_sipush (v := 180) hx hb dX12_reads_196 (by decide) ?_
                          refine lv_iload_n hx hb dX12_reads_199 rfl (lvA4 hl) ?_
                          refine lv_imul hx hb dX12_reads_200 ?_
                          refine lv_topi (fun y_43 ey_43 => ?_)
                          obtain rfl : y_43 = (nI (180 * k0)) := ey_43.trans (pk_mul 180 k0)
                          refine lv_aload_n hx hb dX12_reads_201 rfl (lvA3 hl) ?_
                          refine gM_65 S hK hP (v := .ref (g 30)) rfl dX12_reads_202 ?_
                          refine lv_iload hx hb dX12_reads_205 (lvA1 hl) ?_
                          refine ldM_30 hx hb hK hP (x := ((F152 30) i152)) (vp_in_nI kb_7 (ltb rfl)) (nI_clamp (Nat.lt_trans kb_7 (ltb rfl))) rfl dX12_reads_207 ?_
                          refine lv_topi (fun y_44 ey_44 => ?_)
                          obtain rfl : y_44 = (nI g9) := ey_44.trans ((congrFun ((hx152_2 30 (by decide)).trans (hx114_2 30 (by decide))) i152).trans eg9)
                          refine lv_iadd hx hb dX12_reads_208 ?_
                          refine lv_topi (fun y_45 ey_45 => ?_)
                          obtain rfl : y_45 = (nI ((180 * k0) + g9)) := ey_45.trans (nI_add (180 * k0) g9)
                          refine stM_35 hx hb hK hP hD hS (Fn2 := (va_up (va_up F152 34 (upd (F152 34) ((12 * k0) + i152) (nI ((180 * k0) + a9)))) 35 (upd (F152 35) ((12 * k0) + i152) (nI ((180 * k0) + g9))))) (vp_in_nI kb_8 (ltb rfl)) (nI_clamp (Nat.lt_trans kb_8 (ltb rfl))) rfl dX12_reads_209 (fun H locs hP hD hS => ?_)
                          refine lv_aload_n hx hb dX12_reads_210 rfl (lvA3 hl) ?_
                          refine gM_83 S hK hP (v := .ref (g 36)) rfl dX12_reads_211 ?_
                          refine lv_iload hx hb dX12_reads_214 (lvA0 hl) ?_
                          refine lv_sipush (v := 180) hx hb dX12_reads_216 (by decide) ?_
                          refine lv_iload_n hx hb dX12_reads_219 rfl (lvA4 hl) ?_
                          refine lv_imul hx hb dX12_reads_220 ?_
                          refine lv_topi (fun y_46 ey_46 => ?_)
                          obtain rfl : y_46 = (nI (180 * k0)) := ey_46.trans (pk_mul 180 k0)
                          refine lv_aload_n hx hb dX12_reads_221 rfl (lvA3 hl) ?_
                          refine gM_68 S hK hP (v := .ref (g 31)) rfl dX12_reads_222 ?_
                          refine lv_iload hx hb dX12_reads_225 (lvA1 hl) ?_
                          refine ldM_31 hx hb hK hP (x := ((F152 31) i152)) (vp_in_nI kb_7 (ltb rfl)) (nI_clamp (Nat.lt_trans kb_7 (ltb rfl))) rfl dX12_reads_227 ?_
                          refine lv_topi (fun y_47 ey_47 => ?_)
                          obtain rfl : y_47 = (nI b9) := ey_47.trans ((congrFun ((hx152_2 31 (by decide)).trans (hx114_2 31 (by decide))) i152).trans eb9)
                          refine lv_iadd hx hb dX12_reads_228 ?_
                          refine lv_topi (fun y_48 ey_48 => ?_)
                          obtain rfl : y_48 = (nI ((180 * k0) + b9)) := ey_48.trans (nI_add (180 * k0) b9)
                          refine stM_36 hx hb hK hP hD hS (Fn2 := (va_up (va_up (va_up F152 34 (upd (F152 34) ((12 * k0) + i152) (nI ((180 * k0) + a9)))) 35 (upd (F152 35) ((12 * k0) + i152) (nI ((180 * k0) + g9)))) 36 (upd (F152 36) ((12 * k0) + i152) (nI ((180 * k0) + b9))))) (vp_in_nI kb_8 (ltb rfl)) (nI_clamp (Nat.lt_trans kb_8 (ltb rfl))) rfl dX12_reads_229 (fun H locs hP hD hS => ?_)
                          refine lv_iinc (v := (nI (i152 + 1))) (lv' := [(4, .int (nI (i152 + 1))), (5, .int (nI ((12 * k0) + i152))), (3, .int x36_3), (0, .ref (g 100)), (1, .int (nI k0)), (2, .int (nI l0))]) hx hb dX12_reads_230 hl (k := 1) rfl (nI_1 _) (ltb rfl) rfl (fun ls hl => ?_)
                          refine lv_goto (tgt := 152) hx hb dX12_reads_233 rfl ?_
                          exact ih152 (i152 + 1) (va_up (va_up (va_up F152 34 (upd (F152 34) ((12 * k0) + i152) (nI ((180 * k0) + a9)))) 35 (upd (F152 35) ((12 * k0) + i152) (nI ((180 * k0) + g9)))) 36 (upd (F152 36) ((12 * k0) + i152) (nI ((180 * k0) + b9)))) _ _ (by (first | omega | (have zz0 := Hid.u hi_c36; have zz1 := Hid.u hi_cn; have zz2 := Hid.u hi_cn31; have zz3 := Hid.u hq_c36; have zz4 := Hid.u hq_cn31; omega))) ⟨(by (first | omega | (have zz0 := Hid.u hi_c36; have zz1 := Hid.u hi_cn; have zz2 := Hid.u hi_cn31; have zz3 := Hid.u hq_c36; have zz4 := Hid.u hq_cn31; omega))), (Fr.mo (Fr.f 36 (Fr.f 35 (Fr.f 34 hfr152))) (sbl rfl) (sbl rfl) (sbl rfl)), (by have q := new_cl hx152_0 (C := F36 27) (cm := c36 23) (fun k hk => (congrFun (hx152_2 32 (by decide)) _).trans (hx114_0 k (by (first | omega | (have zz0 := Hid.u hi_c36; have zz1 := Hid.u hi_cn; have zz2 := Hid.u hi_cn31; have zz3 := Hid.u hq_c36; have zz4 := Hid.u hq_cn31; omega))))) (by (first | omega | (have zz0 := Hid.u hi_c36; have zz1 := Hid.u hi_cn; have zz2 := Hid.u hi_cn31; have zz3 := Hid.u hq_c36; have zz4 := Hid.u hq_cn31; omega))) k1 k2 k3 s1 s2; exact q), (fun j hj => ⟨(upd_nq (by (first | omega | (have zz0 := Hid.u hi_c36; have zz1 := Hid.u hi_cn; have zz2 := Hid.u hi_cn31; have zz3 := Hid.u hq_c36; have zz4 := Hid.u hq_cn31; omega)))).trans (hx152_1 j hj).1, (upd_nq (by (first | omega | (have zz0 := Hid.u hi_c36; have zz1 := Hid.u hi_cn; have zz2 := Hid.u hi_cn31; have zz3 := Hid.u hq_c36; have zz4 := Hid.u hq_cn31; omega)))).trans (hx152_1 j hj).2.1, (upd_nq (by (first | omega | (have zz0 := Hid.u hi_c36; have zz1 := Hid.u hi_cn; have zz2 := Hid.u hi_cn31; have zz3 := Hid.u hq_c36; have zz4 := Hid.u hq_cn31; omega)))).trans (hx152_1 j hj).2.2⟩), (fun k hk => (va_up_ne _ _ hk.2.2).trans ((va_up_ne _ _ hk.2.1).trans ((va_up_ne _ _ hk.1).trans (hx152_2 k hk)))), (fun q9 hq9 => by show upd (F152 34) (12 * k0 + i152) (nI (180 * k0 + a9)) (12 * k0 + q9) = _ ∧ upd (F152 35) (12 * k0 + i152) (nI (180 * k0 + g9)) (12 * k0 + q9) = _ ∧ upd (F152 36) (12 * k0 + i152) (nI (180 * k0 + b9)) (12 * k0 + q9) = _; by_cases z9 : q9 = i152; (subst z9; rw [upd_self, upd_self, upd_self, ea9, eg9, eb9, nI_tn (by (first | omega | (have zz0 := Hid.u hi_c36; have zz1 := Hid.u hi_cn; have zz2 := Hid.u hi_cn31; have zz3 := Hid.u hq_c36; have zz4 := Hid.u hq_cn31; omega))), nI_tn (by (first | omega | (have zz0 := Hid.u hi_c36; have zz1 := Hid.u hi_cn; have zz2 := Hid.u hi_cn31; have zz3 := Hid.u hq_c36; have zz4 := Hid.u hq_cn31; omega))), nI_tn (by (first | omega | (have zz0 := Hid.u hi_c36; have zz1 := Hid.u hi_cn; have zz2 := Hid.u hi_cn31; have zz3 := Hid.u hq_c36; have zz4 := Hid.u hq_cn31; omega)))]; exact ⟨rfl, rfl, rfl⟩); (rw [upd_nq (by (first | omega | (have zz0 := Hid.u hi_c36; have zz1 := Hid.u hi_cn; have zz2 := Hid.u hi_cn31; have zz3 := Hid.u hq_c36; have zz4 := Hid.u hq_cn31; omega))), upd_nq (by (first | omega | (have zz0 := Hid.u hi_c36; have zz1 := Hid.u hi_cn; have zz2 := Hid.u hi_cn31; have zz3 := Hid.u hq_c36; have zz4 := Hid.u hq_cn31; omega))), upd_nq (by (first | omega | (have zz0 := Hid.u hi_c36; have zz1 := Hid.u hi_cn; have zz2 := Hid.u hi_cn31; have zz3 := Hid.u hq_c36; have zz4 := Hid.u hq_cn31; omega)))]; exact hx152_3 q9 (by (first | omega | (have zz0 := Hid.u hi_c36; have zz1 := Hid.u hi_cn; have zz2 := Hid.u hi_cn31; have zz3 := Hid.u hq_c36; have zz4 := Hid.u hq_cn31; omega)))))⟩ hP hD hS ls (lv_sub hl [0, 2, 3, 4, 5] rfl)
                    exact lp_152 _ 0 F114 _ _ (Nat.lt_succ_self _) ⟨(by (first | omega | (have zz0 := Hid.u hi_c36; have zz1 := Hid.u hi_cn; have zz2 := Hid.u hi_cn31; have zz3 := Hid.u hq_c36; have zz4 := Hid.u hq_cn31; omega))), (Fr.mo hfr114 (sbl rfl) (sbl rfl) (sbl rfl)), (fun q hq => absurd hq (Nat.not_lt_zero q)), (fun j hj => ⟨(congrFun (hx114_2 34 (by decide)) j).trans (congrFun g34_ j), (congrFun (hx114_2 35 (by decide)) j).trans (congrFun g35_ j), (congrFun (hx114_2 36 (by decide)) j).trans (congrFun g36_ j)⟩), (fun k _ => rfl), (fun q9 hq9 => absurd hq9 (Nat.not_lt_zero q9))⟩ hP hD hS ls (lv_sub hl [0, 1, 2, 3, 4] rfl)
                  ·
                    have tc_36 : ((nI i114).toInt : Int) < (nI (c36 23)).toInt := Int32.lt_iff_toInt_lt.mp (Int32.not_le.mp c_36)
                    refine lv_aload_n hx hb dX12_reads_123 rfl (lvA2 hl) ?_
                    refine gM_71 S hK hP (v := .ref (g 32)) rfl dX12_reads_124 ?_
                    refine lv_sipush (v := 180) hx hb dX12_reads_127 (by decide) ?_
                    refine lv_iload_n hx hb dX12_reads_130 rfl (lvA3 hl) ?_
                    refine lv_imul hx hb dX12_reads_131 ?_
                    refine lv_topi (fun y_49 ey_49 => ?_)
                    obtain rfl : y_49 = (nI (180 * k0)) := ey_49.trans (pk_mul 180 k0)
                    refine lv_iload hx hb dX12_reads_132 (lvA0 hl) ?_
                    refine lv_iadd hx hb dX12_reads_134 ?_
                    refine lv_topi (fun y_50 ey_50 => ?_)
                    obtain rfl : y_50 = (nI ((180 * k0) + i114)) := ey_50.trans (nI_add (180 * k0) i114)
                    refine lv_aload_n hx hb dX12_reads_135 rfl (lvA2 hl) ?_
                    refine gM_56 S hK hP (v := .ref (g 27)) rfl dX12_reads_136 ?_
                    refine lv_iload hx hb dX12_reads_139 (lvA0 hl) ?_
                    have kb_9 : i114 < 180 := by (first | omega | (have zz0 := Hid.u hi_c36; have zz1 := Hid.u hi_cn; have zz2 := Hid.u hi_cn31; have zz3 := Hid.u hq_c36; have zz4 := Hid.u hq_cn31; omega))
                    refine ldM_27 hx hb hK hP (x := ((F114 27) i114)) (vp_in_nI kb_9 (ltb rfl)) (nI_clamp (Nat.lt_trans kb_9 (ltb rfl))) rfl dX12_reads_141 ?_
                    have kb_10 : ((180 * k0) + i114) < 1980 := by (first | omega | (have zz0 := Hid.u hi_c36; have zz1 := Hid.u hi_cn; have zz2 := Hid.u hi_cn31; have zz3 := Hid.u hq_c36; have zz4 := Hid.u hq_cn31; omega))
                    refine stM_32 hx hb hK hP hD hS (Fn2 := (va_up F114 32 (upd (F114 32) ((180 * k0) + i114) ((F114 27) i114)))) (vp_in_nI kb_10 (ltb rfl)) (nI_clamp (Nat.lt_trans kb_10 (ltb rfl))) rfl dX12_reads_142 (fun H locs hP hD hS => ?_)
                    refine lv_iinc (v := (nI (i114 + 1))) (lv' := [(4, .int (nI (i114 + 1))), (3, .int x36_3), (0, .ref (g 100)), (1, .int (nI k0)), (2, .int (nI l0))]) hx hb dX12_reads_143 hl (k := 0) rfl (nI_1 _) (ltb rfl) rfl (fun ls hl => ?_)
                    refine lv_goto (tgt := 114) hx hb dX12_reads_146 rfl ?_
                    exact ih114 (i114 + 1) (va_up F114 32 (upd (F114 32) ((180 * k0) + i114) ((F114 27) i114))) _ _ (by (first | omega | (have zz0 := Hid.u hi_c36; have zz1 := Hid.u hi_cn; have zz2 := Hid.u hi_cn31; have zz3 := Hid.u hq_c36; have zz4 := Hid.u hq_cn31; omega))) ⟨(by (first | omega | (have zz0 := Hid.u hi_c36; have zz1 := Hid.u hi_cn; have zz2 := Hid.u hi_cn31; have zz3 := Hid.u hq_c36; have zz4 := Hid.u hq_cn31; omega))), (Fr.mo (Fr.f 32 hfr114) (sbl rfl) (sbl rfl) (sbl rfl)), (fun j hj => if e : j = i114 then by subst e; exact (upd_self _ _ _).trans (congrFun (hx114_2 27 (by decide)) j) else (upd_nq (by (first | omega | (have zz0 := Hid.u hi_c36; have zz1 := Hid.u hi_cn; have zz2 := Hid.u hi_cn31; have zz3 := Hid.u hq_c36; have zz4 := Hid.u hq_cn31; omega)))).trans (hx114_0 j (by (first | omega | (have zz0 := Hid.u hi_c36; have zz1 := Hid.u hi_cn; have zz2 := Hid.u hi_cn31; have zz3 := Hid.u hq_c36; have zz4 := Hid.u hq_cn31; omega))))), (fun j hj => (upd_nq (by (first | omega | (have zz0 := Hid.u hi_c36; have zz1 := Hid.u hi_cn; have zz2 := Hid.u hi_cn31; have zz3 := Hid.u hq_c36; have zz4 := Hid.u hq_cn31; omega)))).trans (hx114_1 j hj)), (fun k hk => (va_up_ne _ _ hk).trans (hx114_2 k hk))⟩ hP hD hS ls (lv_sub hl [0, 1, 2, 3, 4] rfl)
              exact lp_114 _ 0 (va_up F36 33 (upd (F36 33) k0 (nI (c36 25)))) _ _ (Nat.lt_succ_self _) ⟨(by (first | omega | (have zz0 := Hid.u hi_c36; have zz1 := Hid.u hi_cn; have zz2 := Hid.u hi_cn31; have zz3 := Hid.u hq_c36; have zz4 := Hid.u hq_cn31; omega))), (Fr.mo (Fr.f 33 hfr36) (sbl rfl) (sbl rfl) (sbl rfl)), (fun j hj => absurd hj (Nat.not_lt_zero j)), (fun j _ => congrFun g32_ j), (fun k _ => rfl)⟩ hP hD hS ls (lv_sub hl [0, 1, 2, 3, 4] rfl)
            ·
              have tc_35 : (x36_3.toInt : Int) = 0 := congrArg Int32.toInt c_35
              exact False.elim (absurd (show x36_3 = 0 by assumption) (show ¬ x36_3 = 0 by assumption))
          ·
            have tc_34 : ((nI (c36 19)).toInt : Int) < (nI (c36 20)).toInt := Int32.lt_iff_toInt_lt.mp (Int32.not_le.mp c_34)
            refine lv_aload_n hx hb dX12_reads_51 rfl (lvA1 hl) ?_
            refine lv_bipush (v := 59) hx hb dX12_reads_52 kbc_59 ?_
            have hFc := free_all hD hS hA
            refine va_calli (runV_a (As := [.int 59]) (rest := []) S (q_takes9 l D cI cB cZ g c36 I36 F36 59 H.size hI36 (by (first | omega | (have zz0 := Hid.u hi_c36; have zz1 := Hid.u hi_cn; have zz2 := Hid.u hi_cn31; have zz3 := Hid.u hq_c36; have zz4 := Hid.u hq_cn31; omega))) (by (first | omega | (have zz0 := Hid.u hi_c36; have zz1 := Hid.u hi_cn; have zz2 := Hid.u hi_cn31; have zz3 := Hid.u hq_c36; have zz4 := Hid.u hq_cn31; omega))) (by decide)) kV_RX12_322 hK hP hD 0 rfl rfl rfl ⟨Nat.le_of_ble_eq_true rfl, Nat.le_of_ble_eq_true rfl⟩ ⟨Nat.le_of_ble_eq_true rfl, Nat.le_of_ble_eq_true rfl⟩ rfl hl.1 rfl (Nat.le_of_ble_eq_true rfl) dX12_reads_54) hS (fun q _ h => hFc q h) hFc (fun r_51 u t H1 locs ht hvm wh_52 hB hz1 hk1 hS => ?_)
            obtain ⟨cn52, In52, Fn52⟩ := u
            obtain ⟨hP1, hD1⟩ := hB
            rw [ht] at hP1
            have vh_52 : (fun r c2 I2 F2 => (∀ k : Nat, k ∉ [21] → I2 k = I36 k) ∧ ((r = 0 ∧ (¬ hereM c36 F36 = 59 ∧ I2 21 = (-1000) * 1 - nI ((c36 19))) ∧ c36 = c2 ∧ F36 = F2) ∨ (r = 1 ∧ ((c36 19) < (c36 20) ∧ hereM c36 F36 = 59) ∧ (va_up c36 19 ((c36 19) + 1)) = c2 ∧ F36 = F2))) r_51 cn52 In52 Fn52 := wh_52
            obtain ⟨hI52_, vh_52⟩ := vh_52
            rcases vh_52 with ⟨rfl, h_52, rfl, rfl⟩ | ⟨rfl, h_52, rfl, rfl⟩
            ·
              have hf52 : Fr [18, 19, 20, 23, 24, 25, 26] [21, 22] [27, 28, 29, 30, 31, 32, 33, 34, 35, 36] cn In Fn c36 In52 F36 := Fr.mo (Fr.tr hfr36 (show Fr [] [21] [] c36 I36 F36 c36 In52 F36 from ⟨fun _ _ => rfl, hI52_, fun _ _ => rfl⟩)) (sbl rfl) (sbl rfl) (sbl rfl)
              have hP : va_P D vwCl (wM cI cB cZ g c36 In52 F36) H1 := hP1
              have hD : va_D A (wM cI cB cZ g c36 In52 F36) := hD1.weaken (fun _ _ _ h => hFc _ h)
              generalize H1 = H at hP hS ⊢
              refine lv_if_eq (tgt := 82) hx hb dX12_reads_57 rfl (fun _ => ?_) (fun h => absurd h cq_eq_0_0)
              refine lv_iconst (v := 0) hx hb dX12_reads_82 kic_0 ?_
              refine lv_istore_n (lv' := [(3, .int 0), (0, .ref (g 100)), (1, .int (nI k0)), (2, .int (nI l0))]) hx hb dX12_reads_83 rfl hl (ltb rfl) rfl (fun ls hl => ?_)
              refine lv_goto (tgt := 36) hx hb dX12_reads_84 rfl ?_
              exact ih36 0 (g36 - 1) c36 In52 F36 _ _ (by (first | omega | (have zz0 := Hid.u hi_c36; have zz1 := Hid.u hi_cn; have zz2 := Hid.u hi_cn31; have zz3 := Hid.u hq_c36; have zz4 := Hid.u hq_cn31; omega))) ⟨(Fr.mo hf52 (sbl rfl) (sbl rfl) (sbl rfl)), hI36, (Or.inl rfl), (by (first | omega | (have zz0 := Hid.u hi_c36; have zz1 := Hid.u hi_cn; have zz2 := Hid.u hi_cn31; have zz3 := Hid.u hq_c36; have zz4 := Hid.u hq_cn31; omega))), hx36_2, ⟨fun _ => ⟨_, hT9.trans (txL_w (by (first | omega | (have zz0 := Hid.u hi_c36; have zz1 := Hid.u hi_cn; have zz2 := Hid.u hi_cn31; have zz3 := Hid.u hq_c36; have zz4 := Hid.u hq_cn31; omega))) (fun q9 => h_52.1 ((pk_here (c := c36) (F := F36) (bbM_cg heb (hfr36.2.2 17 (nml rfl))) (show c36 20 = l0 by (first | omega | (have zz0 := Hid.u hi_c36; have zz1 := Hid.u hi_cn; have zz2 := Hid.u hi_cn31; have zz3 := Hid.u hq_c36; have zz4 := Hid.u hq_cn31; omega)))).symm.trans q9))), flt_k (k := 1) (p := c36 19) (by decide) h_52.2⟩, (fun q => absurd q (by decide))⟩⟩ hP hD hS ls (lv_sub hl [0, 1, 2, 3] rfl)
            ·
              have hf52 : Fr [18, 19, 20, 23, 24, 25, 26] [21, 22] [27, 28, 29, 30, 31, 32, 33, 34, 35, 36] cn In Fn c36 In52 F36 := Fr.mo (Fr.tr hfr36 (show Fr [] [21] [] c36 I36 F36 c36 In52 F36 from ⟨fun _ _ => rfl, hI52_, fun _ _ => rfl⟩)) (sbl rfl) (sbl rfl) (sbl rfl)
              have hP : va_P D vwCl (wM cI cB cZ g (va_up c36 19 ((c36 19) + 1)) In52 F36) H1 := hP1
              have hD : va_D A (wM cI cB cZ g (va_up c36 19 ((c36 19) + 1)) In52 F36) := hD1.weaken (fun _ _ _ h => hFc _ h)
              generalize H1 = H at hP hS ⊢
              refine lv_if_eq (tgt := 82) hx hb dX12_reads_57 rfl (fun h => absurd h cq_eq_1_0) (fun _ => ?_)
              refine lv_aload_n hx hb dX12_reads_60 rfl (lvA1 hl) ?_
              refine lv_iload_n hx hb dX12_reads_61 rfl (lvA2 hl) ?_
              refine lv_bipush (v := 10) hx hb dX12_reads_62 kbc_10 ?_
              refine lv_icmp_ne (tgt := 71) hx hb dX12_reads_64 rfl (fun c_53 => False.elim (by have tc_53 : ((nI k0).toInt : Int) ≠ 10 := fun q => c_53 (Int32.toInt_inj.mp q); (first | omega | (have zz0 := Hid.u hi_c36; have zz1 := Hid.u hi_cn; have zz2 := Hid.u hi_cn31; have zz3 := Hid.u hq_c36; have zz4 := Hid.u hq_cn31; omega)))) (fun c_53 => ?_)
              have tc_53 : ((nI k0).toInt : Int) = 10 := congrArg Int32.toInt c_53
              refine lv_iconst (v := 1) hx hb dX12_reads_67 kic_1 ?_
              refine lv_goto (tgt := 72) hx hb dX12_reads_68 rfl ?_
              have hFc := free_all hD hS hA
              refine va_calli (runV_a (As := [.int 1]) (rest := []) S (q_readsClauseX l D cI cB cZ g (va_up c36 19 ((c36 19) + 1)) In52 F36 1 bb l0 u9 H.size (IM.fr (In := In52) hI36 (Fr.c 19 Fr.rf) (by decide) (by decide)) (show c36 19 + 1 ≤ c36 20 by (first | omega | (have zz0 := Hid.u hi_c36; have zz1 := Hid.u hi_cn; have zz2 := Hid.u hi_cn31; have zz3 := Hid.u hq_c36; have zz4 := Hid.u hq_cn31; omega))) (show c36 20 ≤ 160 by (first | omega | (have zz0 := Hid.u hi_c36; have zz1 := Hid.u hi_cn; have zz2 := Hid.u hi_cn31; have zz3 := Hid.u hq_c36; have zz4 := Hid.u hq_cn31; omega))) (show c36 23 ≤ c36 19 + 1 by (first | omega | (have zz0 := Hid.u hi_c36; have zz1 := Hid.u hi_cn; have zz2 := Hid.u hi_cn31; have zz3 := Hid.u hq_c36; have zz4 := Hid.u hq_cn31; omega))) hr4 hr5 (bbM_cg heb (hfr36.2.2 17 (nml rfl))) (show c36 20 = l0 by (first | omega | (have zz0 := Hid.u hi_c36; have zz1 := Hid.u hi_cn; have zz2 := Hid.u hi_cn31; have zz3 := Hid.u hq_c36; have zz4 := Hid.u hq_cn31; omega))) (by exact hS9)) kV_RX12_318 hK hP hD 0 rfl rfl rfl ⟨Nat.le_of_ble_eq_true rfl, Nat.le_of_ble_eq_true rfl⟩ ⟨Nat.le_of_ble_eq_true rfl, Nat.le_of_ble_eq_true rfl⟩ rfl hl.1 rfl (Nat.le_of_ble_eq_true rfl) dX12_reads_72) hS (fun q _ h => hFc q h) hFc (fun r_54 u t H1 locs ht hvm wh_55 hB hz1 hk1 hS => ?_)
              obtain ⟨cn55, In55, Fn55⟩ := u
              obtain ⟨hP1, hD1⟩ := hB
              rw [ht] at hP1
              have hP : va_P D vwCl (wM cI cB cZ g cn55 In55 Fn55) H1 := hP1
              have hD : va_D A (wM cI cB cZ g cn55 In55 Fn55) := hD1.weaken (fun _ _ _ h => hFc _ h)
              generalize H1 = H at hP hS ⊢
              have vh_55 : (fun r c2 I2 F2 => Fr [19, 23, 24, 25, 26] [21, 22] [27, 28, 29, 30, 31] (va_up c36 19 ((c36 19) + 1)) In52 F36 c2 I2 F2 ∧ IM c2 F2 ∧ (((r : Int32) = 0 ∨ (r = 1 ∧ ((c36 19) + 1) < c2 19 ∧ c2 19 ≤ (c36 20) ∧ c2 23 ≤ c2 19 ∧ c2 25 ≤ 12 ∧ ALL (F2 27) (c2 23) (c2 25) (F2 29) (F2 30) (F2 31))) ∧ (((r : Int32) = 0 → ∃ e9 : Nat, clV bb l0 (ldI 1) ((c36 25)) (((c36 19) + 1)) u9 = .error e9 ∧ FLT I2 e9) ∧ ((r : Int32) = 1 → ∃ (uX : OutT) (hX : Nat), clV bb l0 (ldI 1) ((c36 25)) (((c36 19) + 1)) u9 = .ok (c2 19, uX, hX) ∧ SAYm (F2 27) (c2 23) uX ∧ c2 25 = (c36 25) + 1 ∧ hX ≤ 160 ∧ F2 29 = upd ((F36 29)) ((c36 25)) (nI u9.length) ∧ F2 30 = upd ((F36 30)) ((c36 25)) (nI hX) ∧ F2 31 = upd ((F36 31)) ((c36 25)) (nI uX.length))))) r_54 cn55 In55 Fn55 := wh_55
              obtain ⟨hfc55, hIn55, h_55⟩ := vh_55
              have hf55 : Fr [18, 19, 20, 23, 24, 25, 26] [21, 22] [27, 28, 29, 30, 31, 32, 33, 34, 35, 36] cn In Fn cn55 In55 Fn55 := Fr.mo (Fr.tr (Fr.c 19 hf52) hfc55) (sbl rfl) (sbl rfl) (sbl rfl)
              have hi_cn55 : Hid (CB cn55) := hIn55.b
              have hq_cn55 := Hid.i (frq_18_19_20_23_24_25_26_0_1_2_46_57_58_62_63_75_83_44 hf55)
              have : cn55 20 = (c36 20) := hfc55.1 20 (nml rfl)
              obtain ⟨h_55, Nh_55⟩ := h_55
              rcases h_55 with rfl | ⟨rfl, kh_55⟩
              ·
                rw [ldK_1 (k := k0) (by (first | omega | (have zz0 := Hid.u hi_c36; have zz1 := Hid.u hi_cn; have zz2 := Hid.u hi_cn31; have zz3 := Hid.u hi_cn55; have zz4 := Hid.u hq_c36; have zz5 := Hid.u hq_cn31; have zz6 := Hid.u hq_cn55; omega)))] at Nh_55
                refine lv_if_eq (tgt := 82) hx hb dX12_reads_75 rfl (fun _ => ?_) (fun h => absurd h cq_eq_0_0)
                refine lv_iconst (v := 0) hx hb dX12_reads_82 kic_0 ?_
                refine lv_istore_n (lv' := [(3, .int 0), (0, .ref (g 100)), (1, .int (nI k0)), (2, .int (nI l0))]) hx hb dX12_reads_83 rfl hl (ltb rfl) rfl (fun ls hl => ?_)
                refine lv_goto (tgt := 36) hx hb dX12_reads_84 rfl ?_
                exact ih36 0 (g36 - 1) cn55 In55 Fn55 _ _ (by (first | omega | (have zz0 := Hid.u hi_c36; have zz1 := Hid.u hi_cn; have zz2 := Hid.u hi_cn31; have zz3 := Hid.u hi_cn55; have zz4 := Hid.u hq_c36; have zz5 := Hid.u hq_cn31; have zz6 := Hid.u hq_cn55; omega))) ⟨(Fr.mo hf55 (sbl rfl) (sbl rfl) (sbl rfl)), hIn55, (Or.inl rfl), (by (first | omega | (have zz0 := Hid.u hi_c36; have zz1 := Hid.u hi_cn; have zz2 := Hid.u hi_cn31; have zz3 := Hid.u hi_cn55; have zz4 := Hid.u hq_c36; have zz5 := Hid.u hq_cn31; have zz6 := Hid.u hq_cn55; omega))), (fun k h1 h2 => (hfc55.2.2 k (nin31 h1)).trans (hx36_2 k h1 h2)), ⟨fun _ => (by obtain ⟨e9, a9, f9⟩ := Nh_55.1 rfl; rw [hC9.1] at a9; exact ⟨e9, hT9.trans (txL_e (by (first | omega | (have zz0 := Hid.u hi_c36; have zz1 := Hid.u hi_cn; have zz2 := Hid.u hi_cn31; have zz3 := Hid.u hi_cn55; have zz4 := Hid.u hq_c36; have zz5 := Hid.u hq_cn31; have zz6 := Hid.u hq_cn55; omega))) ((pk_here (c := c36) (F := F36) (bbM_cg heb (hfr36.2.2 17 (nml rfl))) (show c36 20 = l0 by (first | omega | (have zz0 := Hid.u hi_c36; have zz1 := Hid.u hi_cn; have zz2 := Hid.u hi_cn31; have zz3 := Hid.u hi_cn55; have zz4 := Hid.u hq_c36; have zz5 := Hid.u hq_cn31; have zz6 := Hid.u hq_cn55; omega)))).trans h_52.2) a9), f9⟩), (fun q => absurd q (by decide))⟩⟩ hP hD hS ls (lv_sub hl [0, 1, 2, 3] rfl)
              ·
                obtain ⟨kh_55a, kh_55b, kh_55c, kh_55d, kh_55e⟩ := kh_55
                rw [ldK_1 (k := k0) (by (first | omega | (have zz0 := Hid.u hi_c36; have zz1 := Hid.u hi_cn; have zz2 := Hid.u hi_cn31; have zz3 := Hid.u hi_cn55; have zz4 := Hid.u hq_c36; have zz5 := Hid.u hq_cn31; have zz6 := Hid.u hq_cn55; omega)))] at Nh_55
                refine lv_if_eq (tgt := 82) hx hb dX12_reads_75 rfl (fun h => absurd h cq_eq_1_0) (fun _ => ?_)
                refine lv_iconst (v := 1) hx hb dX12_reads_78 kic_1 ?_
                refine lv_goto (tgt := 83) hx hb dX12_reads_79 rfl ?_
                refine lv_istore_n (lv' := [(3, .int 1), (0, .ref (g 100)), (1, .int (nI k0)), (2, .int (nI l0))]) hx hb dX12_reads_83 rfl hl (ltb rfl) rfl (fun ls hl => ?_)
                refine lv_goto (tgt := 36) hx hb dX12_reads_84 rfl ?_
                exact ih36 1 (g36 - 1) cn55 In55 Fn55 _ _ (by (first | omega | (have zz0 := Hid.u hi_c36; have zz1 := Hid.u hi_cn; have zz2 := Hid.u hi_cn31; have zz3 := Hid.u hi_cn55; have zz4 := Hid.u hq_c36; have zz5 := Hid.u hq_cn31; have zz6 := Hid.u hq_cn55; omega))) ⟨(Fr.mo hf55 (sbl rfl) (sbl rfl) (sbl rfl)), hIn55, (Or.inr ⟨rfl, by (first | omega | (have zz0 := Hid.u hi_c36; have zz1 := Hid.u hi_cn; have zz2 := Hid.u hi_cn31; have zz3 := Hid.u hi_cn55; have zz4 := Hid.u hq_c36; have zz5 := Hid.u hq_cn31; have zz6 := Hid.u hq_cn55; omega)), kh_55c, kh_55d, kh_55e, by (first | omega | (have zz0 := Hid.u hi_c36; have zz1 := Hid.u hi_cn; have zz2 := Hid.u hi_cn31; have zz3 := Hid.u hi_cn55; have zz4 := Hid.u hq_c36; have zz5 := Hid.u hq_cn31; have zz6 := Hid.u hq_cn55; omega))⟩), (by (first | omega | (have zz0 := Hid.u hi_c36; have zz1 := Hid.u hi_cn; have zz2 := Hid.u hi_cn31; have zz3 := Hid.u hi_cn55; have zz4 := Hid.u hq_c36; have zz5 := Hid.u hq_cn31; have zz6 := Hid.u hq_cn55; omega))), (fun k h1 h2 => (hfc55.2.2 k (nin31 h1)).trans (hx36_2 k h1 h2)), ⟨(fun q => absurd q (by decide)), fun _ => (by obtain ⟨w9, h9, a1, a2, a3, b1, a4, a5, a6⟩ := Nh_55.2 rfl; have q7 := hS9.1; have q8 := a2.1; rw [hC9.1] at a1; exact ⟨w9, _, hT9.trans (txL_s (by (first | omega | (have zz0 := Hid.u hi_c36; have zz1 := Hid.u hi_cn; have zz2 := Hid.u hi_cn31; have zz3 := Hid.u hi_cn55; have zz4 := Hid.u hq_c36; have zz5 := Hid.u hq_cn31; have zz6 := Hid.u hq_cn55; omega))) ((pk_here (c := c36) (F := F36) (bbM_cg heb (hfr36.2.2 17 (nml rfl))) (show c36 20 = l0 by (first | omega | (have zz0 := Hid.u hi_c36; have zz1 := Hid.u hi_cn; have zz2 := Hid.u hi_cn31; have zz3 := Hid.u hi_cn55; have zz4 := Hid.u hq_c36; have zz5 := Hid.u hq_cn31; have zz6 := Hid.u hq_cn55; omega)))).trans h_52.2) a1), a2, (by rw [a3, a4, a5, a6]; exact hC9.add ⟨by (first | omega | (have zz0 := Hid.u hi_c36; have zz1 := Hid.u hi_cn; have zz2 := Hid.u hi_cn31; have zz3 := Hid.u hi_cn55; have zz4 := Hid.u hq_c36; have zz5 := Hid.u hq_cn31; have zz6 := Hid.u hq_cn55; omega)), b1, by (first | omega | (have zz0 := Hid.u hi_c36; have zz1 := Hid.u hi_cn; have zz2 := Hid.u hi_cn31; have zz3 := Hid.u hi_cn55; have zz4 := Hid.u hq_c36; have zz5 := Hid.u hq_cn31; have zz6 := Hid.u hq_cn55; omega))⟩)⟩)⟩⟩ hP hD hS ls (lv_sub hl [0, 1, 2, 3] rfl)
    exact lp_36 _ r_30 (l0 + 1) cn31 In31 Fn31 _ _ (Nat.lt_succ_self _) ⟨(Fr.mo hf31 (sbl rfl) (sbl rfl) (sbl rfl)), hIn31, (h_31.elim Or.inl (fun q => Or.inr ⟨q.1, q.2.2.1, q.2.2.2.1, q.2.2.2.2.1, q.2.2.2.2.2, by (first | omega | (have zz0 := Hid.u hi_cn; have zz1 := Hid.u hi_cn31; have zz2 := Hid.u hq_cn31; omega))⟩)), (by (first | omega | (have zz0 := Hid.u hi_cn; have zz1 := Hid.u hi_cn31; have zz2 := Hid.u hq_cn31; omega))), (fun k h1 h2 => hfc31.2.2 k (nin31 h1)), ⟨fun q9 => (by obtain ⟨e9, a9, f9⟩ := Nh_31.1 q9; exact ⟨e9, txV_e a9, f9⟩), fun q9 => (by obtain ⟨u9, h9, a1, a2, a3, b1, a4, a5, a6⟩ := Nh_31.2 q9; have q8 := a2.1; have q6 := h_31.resolve_left (by rw [q9]; decide); have q5 := q6.2.2.1; have q4 := q6.2.2.2.1; exact ⟨u9, [(0, h9, u9.length)], txV_s a1, a2, (by rw [a3, a4, a5, a6]; exact CLm.add CLm.z ⟨Nat.zero_le _, b1, by (first | omega | (have zz0 := Hid.u hi_cn; have zz1 := Hid.u hi_cn31; have zz2 := Hid.u hq_cn31; omega))⟩)⟩)⟩⟩ hP hD hS ls (lv_sub hl [0, 1, 2, 3] rfl)
set_option maxRecDepth 100000 in
set_option maxHeartbeats 4000000 in
theorem q_contractX (l : Launch) (D : va_G) (cI cB cZ : ClassId) (g : Nat → Nat) (cn : Nat → Nat) (In : Nat → Int32) (Fn : Nat → Nat → Int32) (v0 v1 : Int32) (sz : Nat) (hI : IM cn Fn) (h18 : cn 18 ≤ 200) : Met l yX12_contract (CWS yX12_contract cX12_contract 3 (some .int)) (RM 9 0 0) (PBw [.ref (g 100), .int v0, .int v1] D cI cB cZ (wM cI cB cZ g cn In Fn) sz) (va_Qi (fun (r : Int32) (u : (Nat → Nat) × (Nat → Int32) × (Nat → Nat → Int32)) => (fun r c2 I2 F2 => Fr [18, 19, 20, 23, 24, 25, 26] [21, 22] [27, 28, 29, 30, 31, 32, 33, 34, 35, 36] cn In Fn c2 I2 F2 ∧ IM c2 F2 ∧ (((0 ≤ v0.toInt ∧ v0.toInt < (cn 1 : Int) ∧ 1 ≤ v1.toInt ∧ v1.toInt ≤ 160 ∧ v1.toInt ≤ (cn 18 : Int)) ∧ c2 18 = 0 ∧ TXR (bbM Fn) v1.toInt.toNat v0.toInt.toNat r Fn F2) ∨ (¬ (0 ≤ v0.toInt ∧ v0.toInt < (cn 1 : Int) ∧ 1 ≤ v1.toInt ∧ v1.toInt ≤ 160 ∧ v1.toInt ≤ (cn 18 : Int)) ∧ c2 18 = cn 18 ∧ r = -1 ∧ ∀ j9 : Nat, 32 ≤ j9 → j9 ≤ 36 → F2 j9 = Fn j9))) r u.1 u.2.1 u.2.2) (fun (u : (Nat → Nat) × (Nat → Int32) × (Nat → Nat → Int32)) (t : State) => va_P D vwCl (wM cI cB cZ g u.1 u.2.1 u.2.2) t.heap ∧ va_D (va_A (wM cI cB cZ g cn In Fn) sz) (wM cI cB cZ g u.1 u.2.1 u.2.2)) (va_A (wM cI cB cZ g cn In Fn) sz)) 0 0 (va_A (wM cI cB cZ g cn In Fn) sz) := by
  refine en_w (fun A => (va_Qi (fun (r : Int32) (u : (Nat → Nat) × (Nat → Int32) × (Nat → Nat → Int32)) => (fun (r : Int32) (c2 : Nat → Nat) (I2 : Nat → Int32) (F2 : Nat → Nat → Int32) => Fr [18, 19, 20, 23, 24, 25, 26] [21, 22] [27, 28, 29, 30, 31, 32, 33, 34, 35, 36] cn In Fn c2 I2 F2 ∧ IM c2 F2 ∧ (((0 ≤ v0.toInt ∧ v0.toInt < (cn 1 : Int) ∧ 1 ≤ v1.toInt ∧ v1.toInt ≤ 160 ∧ v1.toInt ≤ (cn 18 : Int)) ∧ c2 18 = 0 ∧ TXR (bbM Fn) v1.toInt.toNat v0.toInt.toNat r Fn F2) ∨ (¬ (0 ≤ v0.toInt ∧ v0.toInt < (cn 1 : Int) ∧ 1 ≤ v1.toInt ∧ v1.toInt ≤ 160 ∧ v1.toInt ≤ (cn 18 : Int)) ∧ c2 18 = cn 18 ∧ r = -1 ∧ ∀ j9 : Nat, 32 ≤ j9 → j9 ≤ 36 → F2 j9 = Fn j9))) r u.1 u.2.1 u.2.2) (fun (u : (Nat → Nat) × (Nat → Int32) × (Nat → Nat → Int32)) (t : State) => va_P D vwCl (wM cI cB cZ g u.1 u.2.1 u.2.2) t.heap ∧ va_D A (wM cI cB cZ g u.1 u.2.1 u.2.2)) A)) rfl rfl pn_RX12 (Nat.le_of_ble_eq_true rfl) (fun p e s m below meth c A hx hb hml hown S hr hlocks hnm hA hP hK hD hS ls hl => ?_)
  have hl : lv_has ls 3 [(0, .ref (g 100)), (1, .int v0), (2, .int v1)] := hl
  have hi_cn : Hid (CB cn) := hI.b
  refine lv_aload_n hx hb dX12_contract_0 rfl (lvA0 hl) ?_
  refine lv_iload_n hx hb dX12_contract_1 rfl (lvA1 hl) ?_
  refine vp_callSi (runV_ra (As := [.int v0]) (rest := []) S (q_isKitchen l D cI cB cZ g cn In Fn v0 hI) kV_RX12_218 hK hP 0 rfl rfl rfl ⟨Nat.le_of_ble_eq_true rfl, Nat.le_of_ble_eq_true rfl⟩ ⟨Nat.le_of_ble_eq_true rfl, Nat.le_of_ble_eq_true rfl⟩ rfl hl.1 rfl (Nat.le_of_ble_eq_true rfl) dX12_contract_2) (fun r_1 h_2 => ?_)
  rcases h_2 with ⟨rfl, h_2⟩ | ⟨rfl, h_2⟩
  ·
    have h_2 : 0 ≤ v0.toInt ∧ v0.toInt < ((cn 1) : Int) := h_2
    refine lv_if_eq (tgt := 27) hx hb dX12_contract_5 rfl (fun h => absurd h cq_eq_1_0) (fun _ => ?_)
    refine lv_iload_n hx hb dX12_contract_8 rfl (lvA2 hl) ?_
    refine lv_iconst (v := 1) hx hb dX12_contract_9 kic_1 ?_
    refine lv_sipush (v := 160) hx hb dX12_contract_10 (by decide) ?_
    refine vp_callSi (runS_r (As := [.int v1, .int 1, .int 160]) (rest := []) S (q_in l D cI cB cZ v1 1 160 ) kS_RX12_214 hK hP [] rfl ⟨Nat.le_of_ble_eq_true rfl, Nat.le_of_ble_eq_true rfl⟩ ⟨Nat.le_of_ble_eq_true rfl, Nat.le_of_ble_eq_true rfl⟩ rfl hl.1 rfl (Nat.le_of_ble_eq_true rfl) dX12_contract_13) (fun r_3 h_4 => ?_)
    rcases h_4 with ⟨rfl, h_4⟩ | ⟨rfl, h_4⟩
    ·
      have h_4 : 1 ≤ v1.toInt ∧ v1.toInt ≤ 160 := h_4
      refine lv_if_eq (tgt := 27) hx hb dX12_contract_16 rfl (fun h => absurd h cq_eq_1_0) (fun _ => ?_)
      refine lv_iload_n hx hb dX12_contract_19 rfl (lvA2 hl) ?_
      refine lv_aload_n hx hb dX12_contract_20 rfl (lvA0 hl) ?_
      refine gM_226 S hK hP (v := .int (nI (cn 18))) rfl dX12_contract_21 ?_
      have : (nI (cn 18)).toInt = (((cn 18) : Nat) : Int) := nI_toInt (by (first | omega | (have zz0 := Hid.u hi_cn; omega)))
      refine lv_icmp_le (tgt := 31) hx hb dX12_contract_24 rfl (fun c_5 => ?_) (fun c_5 => ?_)
      ·
        have tc_5 : (v1.toInt : Int) ≤ (nI (cn 18)).toInt := Int32.le_iff_toInt_le.mp c_5
        obtain ⟨d0, hd0, rfl⟩ := nI_of (x := v0) (fun q => by have := Int32.lt_iff_toInt_lt.mp q; have e : (0 : Int32).toInt = 0 := rfl; (first | omega | (have zz0 := Hid.u hi_cn; omega)))
        have td0 : (nI d0).toInt = (d0 : Int) := nI_toInt hd0
        have zd0 : (nI d0).toInt.toNat = d0 := by (first | omega | (have zz0 := Hid.u hi_cn; omega))
        obtain ⟨l0, hl0, rfl⟩ := nI_of (x := v1) (fun q => by have := Int32.lt_iff_toInt_lt.mp q; have e : (0 : Int32).toInt = 0 := rfl; (first | omega | (have zz0 := Hid.u hi_cn; omega)))
        have tl0 : (nI l0).toInt = (l0 : Int) := nI_toInt hl0
        have zl0 : (nI l0).toInt.toNat = l0 := by (first | omega | (have zz0 := Hid.u hi_cn; omega))
        refine lv_aload_n hx hb dX12_contract_31 rfl (lvA0 hl) ?_
        refine lv_iload_n hx hb dX12_contract_32 rfl (lvA1 hl) ?_
        refine lv_iload_n hx hb dX12_contract_33 rfl (lvA2 hl) ?_
        have hFc := free_all hD hS hA
        refine va_calli (runV_a (As := [.int (nI d0), .int (nI l0)]) (rest := []) S (q_readsX l D cI cB cZ g cn In Fn d0 l0 (bbM Fn) s.heap.size hI (by (first | omega | (have zz0 := Hid.u hi_cn; omega))) (by (first | omega | (have zz0 := Hid.u hi_cn; omega))) rfl) kV_RX12_324 hK hP hD 0 rfl rfl rfl ⟨Nat.le_of_ble_eq_true rfl, Nat.le_of_ble_eq_true rfl⟩ ⟨Nat.le_of_ble_eq_true rfl, Nat.le_of_ble_eq_true rfl⟩ rfl hl.1 rfl (Nat.le_of_ble_eq_true rfl) dX12_contract_34) hS (fun q _ h => hFc q h) hFc (fun r_6 u t H1 locs ht hvm wh_7 hB hz1 hk1 hS => ?_)
        obtain ⟨cn7, In7, Fn7⟩ := u
        obtain ⟨hP1, hD1⟩ := hB
        rw [ht] at hP1
        have hP : va_P D vwCl (wM cI cB cZ g cn7 In7 Fn7) H1 := hP1
        have hD : va_D A (wM cI cB cZ g cn7 In7 Fn7) := hD1.weaken (fun _ _ _ h => hFc _ h)
        generalize H1 = H at hP hS ⊢
        have vh_7 : (fun r c2 I2 F2 => Fr [18, 19, 20, 23, 24, 25, 26] [21, 22] [27, 28, 29, 30, 31, 32, 33, 34, 35, 36] cn In Fn c2 I2 F2 ∧ IM c2 F2 ∧ (c2 18 = 0 ∧ TXR (bbM Fn) l0 d0 r Fn F2)) r_6 cn7 In7 Fn7 := wh_7
        obtain ⟨hfc7, hIn7, h_7⟩ := vh_7
        have hf7 : Fr [18, 19, 20, 23, 24, 25, 26] [21, 22] [27, 28, 29, 30, 31, 32, 33, 34, 35, 36] cn In Fn cn7 In7 Fn7 := Fr.mo (Fr.tr (Fr.rf (cn := cn) (In := In) (Fn := Fn)) hfc7) (sbl rfl) (sbl rfl) (sbl rfl)
        have hi_cn7 : Hid (CB cn7) := hIn7.b
        have hq_cn7 := Hid.i (frq_18_19_20_23_24_25_26_0_1_2_46_57_58_62_63_75_83_44 hf7)
        exact W.iret (v := r_6) hx hb hr (fun t ht hW => ⟨⟨r_6, (cn7, In7, Fn7), rfl, ⟨(Fr.mo hf7 (sbl rfl) (sbl rfl) (sbl rfl)), hIn7, (by show ((0 ≤ (nI d0).toInt ∧ (nI d0).toInt < (cn 1 : Int) ∧ 1 ≤ (nI l0).toInt ∧ (nI l0).toInt ≤ 160 ∧ (nI l0).toInt ≤ (cn 18 : Int)) ∧ cn7 18 = 0 ∧ TXR (bbM Fn) (nI l0).toInt.toNat (nI d0).toInt.toNat r_6 Fn Fn7) ∨ (¬ (0 ≤ (nI d0).toInt ∧ (nI d0).toInt < (cn 1 : Int) ∧ 1 ≤ (nI l0).toInt ∧ (nI l0).toInt ≤ 160 ∧ (nI l0).toInt ≤ (cn 18 : Int)) ∧ cn7 18 = cn 18 ∧ r_6 = -1 ∧ ∀ j9 : Nat, 32 ≤ j9 → j9 ≤ 36 → Fn7 j9 = Fn j9); exact Or.inl ⟨by (first | omega | (have zz0 := Hid.u hi_cn; have zz1 := Hid.u hi_cn7; have zz2 := Hid.u hq_cn7; omega)), h_7.1, by rw [zd0, zl0]; exact h_7.2⟩)⟩, by rw [ht]; exact hP, hD⟩, hS.F ht⟩) hS.2.2 dX12_contract_37
      ·
        have tc_5 : ((nI (cn 18)).toInt : Int) < v1.toInt := Int32.lt_iff_toInt_lt.mp (Int32.not_le.mp c_5)
        refine lv_iconst (v := (-1)) hx hb dX12_contract_27 kic_m1 ?_
        refine lv_goto (tgt := 37) hx hb dX12_contract_28 rfl ?_
        exact W.iret (v := (-1)) hx hb hr (fun t ht hW => ⟨⟨(-1), (cn, In, Fn), rfl, ⟨(Fr.mo Fr.rf (sbl rfl) (sbl rfl) (sbl rfl)), hI, (by show ((0 ≤ v0.toInt ∧ v0.toInt < (cn 1 : Int) ∧ 1 ≤ v1.toInt ∧ v1.toInt ≤ 160 ∧ v1.toInt ≤ (cn 18 : Int)) ∧ cn 18 = 0 ∧ TXR (bbM Fn) v1.toInt.toNat v0.toInt.toNat (-1) Fn Fn) ∨ (¬ (0 ≤ v0.toInt ∧ v0.toInt < (cn 1 : Int) ∧ 1 ≤ v1.toInt ∧ v1.toInt ≤ 160 ∧ v1.toInt ≤ (cn 18 : Int)) ∧ cn 18 = cn 18 ∧ (-1) = -1 ∧ ∀ j9 : Nat, 32 ≤ j9 → j9 ≤ 36 → Fn j9 = Fn j9); exact Or.inr ⟨by (first | omega | (have zz0 := Hid.u hi_cn; omega)), rfl, rfl, fun _ _ _ => rfl⟩)⟩, by rw [ht]; exact hP, hD⟩, hS.F ht⟩) hS.2.2 dX12_contract_37
    ·
      have h_4 : ¬ (1 ≤ v1.toInt ∧ v1.toInt ≤ 160) := h_4
      refine lv_if_eq (tgt := 27) hx hb dX12_contract_16 rfl (fun _ => ?_) (fun h => absurd h cq_eq_0_0)
      refine lv_iconst (v := (-1)) hx hb dX12_contract_27 kic_m1 ?_
      refine lv_goto (tgt := 37) hx hb dX12_contract_28 rfl ?_
      exact W.iret (v := (-1)) hx hb hr (fun t ht hW => ⟨⟨(-1), (cn, In, Fn), rfl, ⟨(Fr.mo Fr.rf (sbl rfl) (sbl rfl) (sbl rfl)), hI, (by show ((0 ≤ v0.toInt ∧ v0.toInt < (cn 1 : Int) ∧ 1 ≤ v1.toInt ∧ v1.toInt ≤ 160 ∧ v1.toInt ≤ (cn 18 : Int)) ∧ cn 18 = 0 ∧ TXR (bbM Fn) v1.toInt.toNat v0.toInt.toNat (-1) Fn Fn) ∨ (¬ (0 ≤ v0.toInt ∧ v0.toInt < (cn 1 : Int) ∧ 1 ≤ v1.toInt ∧ v1.toInt ≤ 160 ∧ v1.toInt ≤ (cn 18 : Int)) ∧ cn 18 = cn 18 ∧ (-1) = -1 ∧ ∀ j9 : Nat, 32 ≤ j9 → j9 ≤ 36 → Fn j9 = Fn j9); exact Or.inr ⟨by (first | omega | (have zz0 := Hid.u hi_cn; omega)), rfl, rfl, fun _ _ _ => rfl⟩)⟩, by rw [ht]; exact hP, hD⟩, hS.F ht⟩) hS.2.2 dX12_contract_37
  ·
    have h_2 : ¬ (0 ≤ v0.toInt ∧ v0.toInt < ((cn 1) : Int)) := h_2
    refine lv_if_eq (tgt := 27) hx hb dX12_contract_5 rfl (fun _ => ?_) (fun h => absurd h cq_eq_0_0)
    refine lv_iconst (v := (-1)) hx hb dX12_contract_27 kic_m1 ?_
    refine lv_goto (tgt := 37) hx hb dX12_contract_28 rfl ?_
    exact W.iret (v := (-1)) hx hb hr (fun t ht hW => ⟨⟨(-1), (cn, In, Fn), rfl, ⟨(Fr.mo Fr.rf (sbl rfl) (sbl rfl) (sbl rfl)), hI, (by show ((0 ≤ v0.toInt ∧ v0.toInt < (cn 1 : Int) ∧ 1 ≤ v1.toInt ∧ v1.toInt ≤ 160 ∧ v1.toInt ≤ (cn 18 : Int)) ∧ cn 18 = 0 ∧ TXR (bbM Fn) v1.toInt.toNat v0.toInt.toNat (-1) Fn Fn) ∨ (¬ (0 ≤ v0.toInt ∧ v0.toInt < (cn 1 : Int) ∧ 1 ≤ v1.toInt ∧ v1.toInt ≤ 160 ∧ v1.toInt ≤ (cn 18 : Int)) ∧ cn 18 = cn 18 ∧ (-1) = -1 ∧ ∀ j9 : Nat, 32 ≤ j9 → j9 ≤ 36 → Fn j9 = Fn j9); exact Or.inr ⟨by (first | omega | (have zz0 := Hid.u hi_cn; omega)), rfl, rfl, fun _ _ _ => rfl⟩)⟩, by rw [ht]; exact hP, hD⟩, hS.F ht⟩) hS.2.2 dX12_contract_37
set_option maxRecDepth 100000 in
set_option maxHeartbeats 4000000 in
theorem q_lawX (l : Launch) (D : va_G) (cI cB cZ : ClassId) (g : Nat → Nat) (cn : Nat → Nat) (In : Nat → Int32) (Fn : Nat → Nat → Int32) (v0 : Int32) (sz : Nat) (hI : IM cn Fn) (h18 : cn 18 ≤ 200) : Met l yX12_law (CWS yX12_law cX12_law 2 (some .int)) (RM 9 0 0) (PBw [.ref (g 100), .int v0] D cI cB cZ (wM cI cB cZ g cn In Fn) sz) (va_Qi (fun (r : Int32) (u : (Nat → Nat) × (Nat → Int32) × (Nat → Nat → Int32)) => (fun r c2 I2 F2 => Fr [18, 19, 20, 23, 24, 25, 26] [21, 22] [27, 28, 29, 30, 31, 32, 33, 34, 35, 36] cn In Fn c2 I2 F2 ∧ IM c2 F2 ∧ (((1 ≤ v0.toInt ∧ v0.toInt ≤ 160 ∧ v0.toInt ≤ (cn 18 : Int)) ∧ c2 18 = 0 ∧ TXR (bbM Fn) v0.toInt.toNat 10 r Fn F2) ∨ (¬ (1 ≤ v0.toInt ∧ v0.toInt ≤ 160 ∧ v0.toInt ≤ (cn 18 : Int)) ∧ c2 18 = cn 18 ∧ r = -1 ∧ ∀ j9 : Nat, 32 ≤ j9 → j9 ≤ 36 → F2 j9 = Fn j9))) r u.1 u.2.1 u.2.2) (fun (u : (Nat → Nat) × (Nat → Int32) × (Nat → Nat → Int32)) (t : State) => va_P D vwCl (wM cI cB cZ g u.1 u.2.1 u.2.2) t.heap ∧ va_D (va_A (wM cI cB cZ g cn In Fn) sz) (wM cI cB cZ g u.1 u.2.1 u.2.2)) (va_A (wM cI cB cZ g cn In Fn) sz)) 0 0 (va_A (wM cI cB cZ g cn In Fn) sz) := by
  refine en_w (fun A => (va_Qi (fun (r : Int32) (u : (Nat → Nat) × (Nat → Int32) × (Nat → Nat → Int32)) => (fun (r : Int32) (c2 : Nat → Nat) (I2 : Nat → Int32) (F2 : Nat → Nat → Int32) => Fr [18, 19, 20, 23, 24, 25, 26] [21, 22] [27, 28, 29, 30, 31, 32, 33, 34, 35, 36] cn In Fn c2 I2 F2 ∧ IM c2 F2 ∧ (((1 ≤ v0.toInt ∧ v0.toInt ≤ 160 ∧ v0.toInt ≤ (cn 18 : Int)) ∧ c2 18 = 0 ∧ TXR (bbM Fn) v0.toInt.toNat 10 r Fn F2) ∨ (¬ (1 ≤ v0.toInt ∧ v0.toInt ≤ 160 ∧ v0.toInt ≤ (cn 18 : Int)) ∧ c2 18 = cn 18 ∧ r = -1 ∧ ∀ j9 : Nat, 32 ≤ j9 → j9 ≤ 36 → F2 j9 = Fn j9))) r u.1 u.2.1 u.2.2) (fun (u : (Nat → Nat) × (Nat → Int32) × (Nat → Nat → Int32)) (t : State) => va_P D vwCl (wM cI cB cZ g u.1 u.2.1 u.2.2) t.heap ∧ va_D A (wM cI cB cZ g u.1 u.2.1 u.2.2)) A)) rfl rfl pn_RX12 (Nat.le_of_ble_eq_true rfl) (fun p e s m below meth c A hx hb hml hown S hr hlocks hnm hA hP hK hD hS ls hl => ?_)
  have hl : lv_has ls 2 [(0, .ref (g 100)), (1, .int v0)] := hl
  have hi_cn : Hid (CB cn) := hI.b
  refine lv_iload_n hx hb dX12_law_0 rfl (lvA1 hl) ?_
  refine lv_iconst (v := 1) hx hb dX12_law_1 kic_1 ?_
  refine lv_sipush (v := 160) hx hb dX12_law_2 (by decide) ?_
  refine vp_callSi (runS_r (As := [.int v0, .int 1, .int 160]) (rest := []) S (q_in l D cI cB cZ v0 1 160 ) kS_RX12_214 hK hP [] rfl ⟨Nat.le_of_ble_eq_true rfl, Nat.le_of_ble_eq_true rfl⟩ ⟨Nat.le_of_ble_eq_true rfl, Nat.le_of_ble_eq_true rfl⟩ rfl hl.1 rfl (Nat.le_of_ble_eq_true rfl) dX12_law_5) (fun r_1 h_2 => ?_)
  rcases h_2 with ⟨rfl, h_2⟩ | ⟨rfl, h_2⟩
  ·
    have h_2 : 1 ≤ v0.toInt ∧ v0.toInt ≤ 160 := h_2
    refine lv_if_eq (tgt := 19) hx hb dX12_law_8 rfl (fun h => absurd h cq_eq_1_0) (fun _ => ?_)
    refine lv_iload_n hx hb dX12_law_11 rfl (lvA1 hl) ?_
    refine lv_aload_n hx hb dX12_law_12 rfl (lvA0 hl) ?_
    refine gM_226 S hK hP (v := .int (nI (cn 18))) rfl dX12_law_13 ?_
    have : (nI (cn 18)).toInt = (((cn 18) : Nat) : Int) := nI_toInt (by (first | omega | (have zz0 := Hid.u hi_cn; omega)))
    refine lv_icmp_le (tgt := 23) hx hb dX12_law_16 rfl (fun c_3 => ?_) (fun c_3 => ?_)
    ·
      have tc_3 : (v0.toInt : Int) ≤ (nI (cn 18)).toInt := Int32.le_iff_toInt_le.mp c_3
      obtain ⟨l0, hl0, rfl⟩ := nI_of (x := v0) (fun q => by have := Int32.lt_iff_toInt_lt.mp q; have e : (0 : Int32).toInt = 0 := rfl; (first | omega | (have zz0 := Hid.u hi_cn; omega)))
      have tl0 : (nI l0).toInt = (l0 : Int) := nI_toInt hl0
      have zl0 : (nI l0).toInt.toNat = l0 := by (first | omega | (have zz0 := Hid.u hi_cn; omega))
      refine lv_aload_n hx hb dX12_law_23 rfl (lvA0 hl) ?_
      refine lv_bipush (v := 10) hx hb dX12_law_24 kbc_10 ?_
      refine lv_iload_n hx hb dX12_law_26 rfl (lvA1 hl) ?_
      have hFc := free_all hD hS hA
      refine va_calli (runV_a (As := [.int 10, .int (nI l0)]) (rest := []) S (q_readsX l D cI cB cZ g cn In Fn 10 l0 (bbM Fn) s.heap.size hI (by (first | omega | (have zz0 := Hid.u hi_cn; omega))) (by (first | omega | (have zz0 := Hid.u hi_cn; omega))) rfl) kV_RX12_324 hK hP hD 0 rfl rfl rfl ⟨Nat.le_of_ble_eq_true rfl, Nat.le_of_ble_eq_true rfl⟩ ⟨Nat.le_of_ble_eq_true rfl, Nat.le_of_ble_eq_true rfl⟩ rfl hl.1 rfl (Nat.le_of_ble_eq_true rfl) dX12_law_27) hS (fun q _ h => hFc q h) hFc (fun r_4 u t H1 locs ht hvm wh_5 hB hz1 hk1 hS => ?_)
      obtain ⟨cn5, In5, Fn5⟩ := u
      obtain ⟨hP1, hD1⟩ := hB
      rw [ht] at hP1
      have hP : va_P D vwCl (wM cI cB cZ g cn5 In5 Fn5) H1 := hP1
      have hD : va_D A (wM cI cB cZ g cn5 In5 Fn5) := hD1.weaken (fun _ _ _ h => hFc _ h)
      generalize H1 = H at hP hS ⊢
      have vh_5 : (fun r c2 I2 F2 => Fr [18, 19, 20, 23, 24, 25, 26] [21, 22] [27, 28, 29, 30, 31, 32, 33, 34, 35, 36] cn In Fn c2 I2 F2 ∧ IM c2 F2 ∧ (c2 18 = 0 ∧ TXR (bbM Fn) l0 10 r Fn F2)) r_4 cn5 In5 Fn5 := wh_5
      obtain ⟨hfc5, hIn5, h_5⟩ := vh_5
      have hf5 : Fr [18, 19, 20, 23, 24, 25, 26] [21, 22] [27, 28, 29, 30, 31, 32, 33, 34, 35, 36] cn In Fn cn5 In5 Fn5 := Fr.mo (Fr.tr (Fr.rf (cn := cn) (In := In) (Fn := Fn)) hfc5) (sbl rfl) (sbl rfl) (sbl rfl)
      have hi_cn5 : Hid (CB cn5) := hIn5.b
      have hq_cn5 := Hid.i (frq_18_19_20_23_24_25_26_0_1_2_46_57_58_62_63_75_83_44 hf5)
      exact W.iret (v := r_4) hx hb hr (fun t ht hW => ⟨⟨r_4, (cn5, In5, Fn5), rfl, ⟨(Fr.mo hf5 (sbl rfl) (sbl rfl) (sbl rfl)), hIn5, (by show ((1 ≤ (nI l0).toInt ∧ (nI l0).toInt ≤ 160 ∧ (nI l0).toInt ≤ (cn 18 : Int)) ∧ cn5 18 = 0 ∧ TXR (bbM Fn) (nI l0).toInt.toNat 10 r_4 Fn Fn5) ∨ (¬ (1 ≤ (nI l0).toInt ∧ (nI l0).toInt ≤ 160 ∧ (nI l0).toInt ≤ (cn 18 : Int)) ∧ cn5 18 = cn 18 ∧ r_4 = -1 ∧ ∀ j9 : Nat, 32 ≤ j9 → j9 ≤ 36 → Fn5 j9 = Fn j9); exact Or.inl ⟨by (first | omega | (have zz0 := Hid.u hi_cn; have zz1 := Hid.u hi_cn5; have zz2 := Hid.u hq_cn5; omega)), h_5.1, by rw [zl0]; exact h_5.2⟩)⟩, by rw [ht]; exact hP, hD⟩, hS.F ht⟩) hS.2.2 dX12_law_30
    ·
      have tc_3 : ((nI (cn 18)).toInt : Int) < v0.toInt := Int32.lt_iff_toInt_lt.mp (Int32.not_le.mp c_3)
      refine lv_iconst (v := (-1)) hx hb dX12_law_19 kic_m1 ?_
      refine lv_goto (tgt := 30) hx hb dX12_law_20 rfl ?_
      exact W.iret (v := (-1)) hx hb hr (fun t ht hW => ⟨⟨(-1), (cn, In, Fn), rfl, ⟨(Fr.mo Fr.rf (sbl rfl) (sbl rfl) (sbl rfl)), hI, (by show ((1 ≤ v0.toInt ∧ v0.toInt ≤ 160 ∧ v0.toInt ≤ (cn 18 : Int)) ∧ cn 18 = 0 ∧ TXR (bbM Fn) v0.toInt.toNat 10 (-1) Fn Fn) ∨ (¬ (1 ≤ v0.toInt ∧ v0.toInt ≤ 160 ∧ v0.toInt ≤ (cn 18 : Int)) ∧ cn 18 = cn 18 ∧ (-1) = -1 ∧ ∀ j9 : Nat, 32 ≤ j9 → j9 ≤ 36 → Fn j9 = Fn j9); exact Or.inr ⟨by (first | omega | (have zz0 := Hid.u hi_cn; omega)), rfl, rfl, fun _ _ _ => rfl⟩)⟩, by rw [ht]; exact hP, hD⟩, hS.F ht⟩) hS.2.2 dX12_law_30
  ·
    have h_2 : ¬ (1 ≤ v0.toInt ∧ v0.toInt ≤ 160) := h_2
    refine lv_if_eq (tgt := 19) hx hb dX12_law_8 rfl (fun _ => ?_) (fun h => absurd h cq_eq_0_0)
    refine lv_iconst (v := (-1)) hx hb dX12_law_19 kic_m1 ?_
    refine lv_goto (tgt := 30) hx hb dX12_law_20 rfl ?_
    exact W.iret (v := (-1)) hx hb hr (fun t ht hW => ⟨⟨(-1), (cn, In, Fn), rfl, ⟨(Fr.mo Fr.rf (sbl rfl) (sbl rfl) (sbl rfl)), hI, (by show ((1 ≤ v0.toInt ∧ v0.toInt ≤ 160 ∧ v0.toInt ≤ (cn 18 : Int)) ∧ cn 18 = 0 ∧ TXR (bbM Fn) v0.toInt.toNat 10 (-1) Fn Fn) ∨ (¬ (1 ≤ v0.toInt ∧ v0.toInt ≤ 160 ∧ v0.toInt ≤ (cn 18 : Int)) ∧ cn 18 = cn 18 ∧ (-1) = -1 ∧ ∀ j9 : Nat, 32 ≤ j9 → j9 ≤ 36 → Fn j9 = Fn j9); exact Or.inr ⟨by (first | omega | (have zz0 := Hid.u hi_cn; omega)), rfl, rfl, fun _ _ _ => rfl⟩)⟩, by rw [ht]; exact hP, hD⟩, hS.F ht⟩) hS.2.2 dX12_law_30
