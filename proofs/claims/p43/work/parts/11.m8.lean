/-- a waiting sign's kind and its number -/
def kd (x : Int32) : Nat := x.toInt.toNat / 1048576
def vl (x : Int32) : Nat := x.toInt.toNat % 1048576
theorem kd_nI {k v : Nat} (hk : k ≤ 14) (hv : v < 1048576) : kd (nI (k * 1048576 + v)) = k := by
  unfold kd; rw [nI_tn (by omega)]; omega
theorem kd_nI0 {k : Nat} (hk : k ≤ 14) : kd (nI (k * 1048576)) = k := by
  have := kd_nI (k := k) (v := 0) hk (by decide)
  rw [Nat.add_zero] at this; exact this
theorem vl_nI {k v : Nat} (hk : k ≤ 14) (hv : v < 1048576) : vl (nI (k * 1048576 + v)) = v := by
  unfold vl; rw [nI_tn (by omega)]; omega
def WKk (x : Int32) : Prop := ∃ k v : Nat, x = nI (k * 1048576 + v) ∧ v < 1048576 ∧ 2 ≤ k ∧ k ≤ 14
theorem WKk.k {x : Int32} (h : WKk x) : 2 ≤ kd x ∧ kd x ≤ 14 := by
  obtain ⟨k, v, rfl, h1, h2, h3⟩ := h
  rw [kd_nI h3 h1]; exact ⟨h2, h3⟩
theorem WKk.e {x : Int32} (h : WKk x) : x = nI (kd x * 1048576 + vl x) := by
  obtain ⟨k, v, rfl, h1, h2, h3⟩ := h
  rw [kd_nI h3 h1, vl_nI h3 h1]
theorem vl_lt (x : Int32) : vl x < 1048576 := Nat.mod_lt _ (by decide)
theorem WKk.div {x : Int32} (h : WKk x) : x / 1048576 = nI (kd x) := by
  have e := h.e
  have k := h.k
  have l := vl_lt x
  generalize kd x = a at e k ⊢
  generalize vl x = b at e l
  subst e
  exact (nI_div (b := 1048576) (by omega) (by decide)).trans (congrArg nI (by omega))
theorem WKk.rem {x : Int32} (h : WKk x) : x - x / 1048576 * 1048576 = nI (vl x) := by
  have e := h.e
  have k := h.k
  have l := vl_lt x
  generalize kd x = a at e k
  generalize vl x = b at e l ⊢
  subst e
  exact (nI_rem (b := 1048576) (by omega) (by decide)).trans (congrArg nI (by omega))
theorem WKk.mk {k v : Nat} (h1 : 2 ≤ k) (h2 : k ≤ 14) (hv : v < 1048576) : WKk (nI (k * 1048576 + v)) := ⟨k, v, rfl, hv, h1, h2⟩
/-- the waiting signs that will give a code -/
def pot (f : Nat → Int32) : Nat → Nat
  | 0 => 0
  | n + 1 => pot f n + (if kd (f n) ≤ 10 then 1 else 0)
theorem pot_cg {f g : Nat → Int32} : ∀ {n : Nat}, (∀ i : Nat, i < n → f i = g i) → pot f n = pot g n
  | 0, _ => rfl
  | n + 1, h => by rw [pot, pot, pot_cg (n := n) (fun i hi => h i (by omega)), h n (by omega)]
theorem pot_up {f : Nat → Int32} {n m : Nat} {x : Int32} (h : n ≤ m) : pot (upd f m x) n = pot f n := pot_cg (fun i hi => by unfold upd; rw [if_neg (by omega)])
theorem pot_1 {f : Nat → Int32} {n : Nat} (h : kd (f n) ≤ 10) : pot f (n + 1) = pot f n + 1 := by rw [pot, if_pos h]
theorem pot_2 {f : Nat → Int32} {n : Nat} (h : ¬ kd (f n) ≤ 10) : pot f (n + 1) = pot f n := by rw [pot, if_neg h]; rfl
theorem pot_mo {f : Nat → Int32} : ∀ {n m : Nat}, n ≤ m → pot f n ≤ pot f m := by
  intro n m h
  induction m with
  | zero => rw [show n = 0 by omega]; exact Nat.le_refl _
  | succ m ih =>
    by_cases e : n = m + 1
    · rw [e]; exact Nat.le_refl _
    · have := ih (by omega); rw [pot]; omega
def JOK (C : Nat → Int32) (ht : Nat → Nat) (a cm v : Nat) : Prop := a ≤ v ∧ v < cm ∧ ht v = 1 ∧ ht (v + 1) = 0 ∧ ∃ op y : Nat, (op = 11 ∨ op = 12) ∧ y < 1048576 ∧ C v = nI (op * 1048576 + y)
def PJ (C W : Nat → Int32) (ht : Nat → Nat) (w k : Nat) : Prop := ht k = 1 ∧ ht (k + 1) = 0 ∧ (∃ op y : Nat, (op = 11 ∨ op = 12) ∧ y < 1048576 ∧ C k = nI (op * 1048576 + y)) ∧ ∃ i : Nat, i < w ∧ 11 ≤ kd (W i) ∧ kd (W i) ≤ 12 ∧ vl (W i) = k
/-- where reading stands: pl of ln, cm codes, w waiting, codes C, waiting W, the piece from a, the stack's height h, s bytes to spare -/
def PBk (pl ln cm w : Nat) (C W : Nat → Int32) (a h s : Nat) : Prop :=
  pl ≤ ln ∧ ln ≤ 160 ∧ w ≤ pl ∧ cm + pot W w + s ≤ pl ∧ a ≤ cm ∧ h + a ≤ cm ∧ (∀ i : Nat, i < w → WKk (W i)) ∧
  ∃ ht : Nat → Nat, ht a = 0 ∧ ht cm = h ∧ (∀ k : Nat, a ≤ k → k < cm → StOK C ht 0 cm k ∨ PJ C W ht w k) ∧ ∀ i : Nat, i < w → 11 ≤ kd (W i) → kd (W i) ≤ 12 → JOK C ht a cm (vl (W i))
theorem PBk.f {pl ln cm w a h s : Nat} {C W : Nat → Int32} (H : PBk pl ln cm w C W a h s) : pl ≤ ln ∧ ln ≤ 160 ∧ w ≤ pl ∧ cm + pot W w + s ≤ pl ∧ a ≤ cm ∧ h + a ≤ cm := ⟨H.1, H.2.1, H.2.2.1, H.2.2.2.1, H.2.2.2.2.1, H.2.2.2.2.2.1⟩
theorem PBk.w {pl ln cm w a h s : Nat} {C W : Nat → Int32} (H : PBk pl ln cm w C W a h s) : ∀ i : Nat, i < w → WKk (W i) := H.2.2.2.2.2.2.1
theorem StOK.cg {C C' : Nat → Int32} {ht ht' : Nat → Nat} {b b' k : Nat} (H : StOK C ht 0 b k) (hk : k < b) (hC : C' k = C k) (hh : ∀ j : Nat, j ≤ b → ht' j = ht j) (hb : b ≤ b') : StOK C' ht' 0 b' k := by
  obtain ⟨op, v, e, hv, h180, hc⟩ := H
  have e0 := hh k (by omega)
  have e1 := hh (k + 1) (by omega)
  refine ⟨op, v, by rw [hC]; exact e, hv, by omega, ?_⟩
  rcases hc with hc | hc | hc | ⟨h1, h2, h3, h4, h5, h6⟩ | hc
  · exact Or.inl ⟨hc.1, by omega, by omega⟩
  · exact Or.inr (Or.inl ⟨hc.1, hc.2.1, by omega, by omega⟩)
  · exact Or.inr (Or.inr (Or.inl ⟨hc.1, by omega, by omega⟩))
  · exact Or.inr (Or.inr (Or.inr (Or.inl ⟨h1, by omega, by omega, h4, by omega, by rw [hh (0 + v) (by omega), e0]; exact h6⟩)))
  · exact Or.inr (Or.inr (Or.inr (Or.inr ⟨hc.1, hc.2.1, by omega, by omega⟩)))
theorem PBk.pl {pl pl' ln cm w a h s s' : Nat} {C W : Nat → Int32} (H : PBk pl ln cm w C W a h s) (h1 : pl ≤ pl') (h2 : pl' ≤ ln) (h3 : s' + pl ≤ s + pl') : PBk pl' ln cm w C W a h s' := by
  obtain ⟨k1, k2, k3, k4, k5, k6, k7⟩ := H
  exact ⟨h2, k2, by omega, by omega, k5, k6, k7⟩
/-- one code more; the last waiting sign may have gone -/
theorem PBk.code {pl pl' ln cm w w' a h h' s s' o x : Nat} {C W : Nat → Int32} (H : PBk pl ln cm w C W a h s) (hp : pl ≤ pl') (hl : pl' ≤ ln) (hw : w' = w ∨ (w = w' + 1 ∧ kd (W w') ≤ 10)) (hx : x < 1048576) (hs : (o = 0 ∧ h' = h + 1) ∨ (o = 1 ∧ x < 11 ∧ h' = h + 1) ∨ (o = 10 ∧ 1 ≤ h ∧ h' = h) ∨ (2 ≤ o ∧ o ≤ 9 ∧ 2 ≤ h ∧ h' + 1 = h)) (hq : cm + 1 + pot W w' + s' ≤ pl') : PBk pl' ln (cm + 1) w' (upd C cm (nI (o * 1048576 + x))) W a h' s' := by
  obtain ⟨k1, k2, k3, k4, k5, k6, kw, ht, ha, hh, hc, hj⟩ := H
  have up : ∀ j : Nat, j < cm → upd C cm (nI (o * 1048576 + x)) j = C j := fun j hj => by unfold upd; rw [if_neg (by omega)]
  have hu : ∀ j : Nat, j ≤ cm → va_up ht (cm + 1) h' j = ht j := fun j hj => va_up_ne _ _ (by omega)
  refine ⟨hl, k2, by omega, hq, by omega, by omega, fun i hi => kw i (by omega), va_up ht (cm + 1) h', ?_, va_up_self _ _ _, ?_, ?_⟩
  · rw [hu a k5]; exact ha
  · intro k q1 q2
    by_cases e : k = cm
    · subst e
      refine Or.inl ⟨o, x, by simp [upd], hx, by rw [hu k (Nat.le_refl _)]; omega, ?_⟩
      rw [hu k (Nat.le_refl _), va_up_self, hh]
      rcases hs with q | q | q | q
      · exact Or.inl ⟨q.1, by omega, q.2⟩
      · exact Or.inr (Or.inl ⟨q.1, q.2.1, by omega, q.2.2⟩)
      · exact Or.inr (Or.inr (Or.inl ⟨q.1, q.2.1, q.2.2⟩))
      · exact Or.inr (Or.inr (Or.inr (Or.inr ⟨q.1, q.2.1, q.2.2.1, q.2.2.2⟩)))
    · rcases hc k q1 (by omega) with q | ⟨p1, p2, p3, i, p4, p5, p6, p7⟩
      · exact Or.inl (q.cg (by omega) (up k (by omega)) hu (by omega))
      · refine Or.inr ⟨by rw [hu k (by omega)]; exact p1, by rw [hu (k + 1) (by omega)]; exact p2, by rw [up k (by omega)]; exact p3, i, ?_, p5, p6, p7⟩
        rcases hw with rfl | ⟨rfl, q⟩
        · exact p4
        · have : i ≠ w' := fun z => by subst z; omega
          omega
  · intro i hi q1 q2
    obtain ⟨p1, p2, p3, p4, p5⟩ := hj i (by omega) q1 q2
    exact ⟨p1, by omega, by rw [hu _ (by omega)]; exact p3, by rw [hu _ (by omega)]; exact p4, by rw [up _ p2]; exact p5⟩
/-- a waiting sign goes without a code -/
theorem PBk.pop {pl pl' ln cm w a h s s' : Nat} {C W : Nat → Int32} (H : PBk pl ln cm (w + 1) C W a h s) (hp : pl ≤ pl') (hl : pl' ≤ ln) (hk : ¬ (11 ≤ kd (W w) ∧ kd (W w) ≤ 12)) (hq : s' + pl ≤ s + pl') : PBk pl' ln cm w C W a h s' := by
  obtain ⟨k1, k2, k3, k4, k5, k6, kw, ht, ha, hh, hc, hj⟩ := H
  have := pot_mo (f := W) (n := w) (m := w + 1) (by omega)
  refine ⟨hl, k2, by omega, by omega, k5, k6, fun i hi => kw i (by omega), ht, ha, hh, ?_, fun i hi => hj i (by omega)⟩
  intro k q1 q2
  rcases hc k q1 q2 with q | ⟨p1, p2, p3, i, p4, p5, p6, p7⟩
  · exact Or.inl q
  · refine Or.inr ⟨p1, p2, p3, i, ?_, p5, p6, p7⟩
    have : i ≠ w := fun z => by subst z; exact hk ⟨p5, p6⟩
    omega
/-- a sign waits -/
theorem PBk.push {pl ln cm w a h s s' k : Nat} {C W : Nat → Int32} (H : PBk pl ln cm w C W a h s) (hl : pl + 1 ≤ ln) (h2 : 2 ≤ k) (h3 : k ≤ 14) (h4 : ¬ (11 ≤ k ∧ k ≤ 12)) (hq : s' + (if k ≤ 10 then 1 else 0) ≤ s + 1) : PBk (pl + 1) ln cm (w + 1) C (upd W w (nI (k * 1048576))) a h s' := by
  obtain ⟨k1, k2, k3, k4, k5, k6, kw, ht, ha, hh, hc, hj⟩ := H
  have uw : ∀ i : Nat, i < w → upd W w (nI (k * 1048576)) i = W i := fun i hi => by unfold upd; rw [if_neg (by omega)]
  have us : upd W w (nI (k * 1048576)) w = nI (k * 1048576 + 0) := by simp [upd]
  have ek : kd (upd W w (nI (k * 1048576)) w) = k := by rw [us]; exact kd_nI h3 (by decide)
  have ep : pot (upd W w (nI (k * 1048576))) (w + 1) = pot W w + (if k ≤ 10 then 1 else 0) := by rw [pot, ek, pot_up (Nat.le_refl _)]
  refine ⟨hl, k2, by omega, by rw [ep]; omega, k5, k6, ?_, ht, ha, hh, ?_, ?_⟩
  · intro i hi
    by_cases e : i = w
    · subst e; rw [us]; exact WKk.mk h2 h3 (by decide)
    · rw [uw i (by omega)]; exact kw i (by omega)
  · intro j q1 q2
    rcases hc j q1 q2 with q | ⟨p1, p2, p3, i, p4, p5, p6, p7⟩
    · exact Or.inl q
    · exact Or.inr ⟨p1, p2, p3, i, by omega, by rw [uw i p4]; exact p5, by rw [uw i p4]; exact p6, by rw [uw i p4]; exact p7⟩
  · intro i hi q1 q2
    by_cases e : i = w
    · subst e; rw [ek] at q1 q2; exact absurd ⟨q1, q2⟩ h4
    · rw [uw i (by omega)] at q1 q2 ⊢; exact hj i (by omega) q1 q2
/-- a jump -/
theorem PBk.jump {pl ln cm w a s k : Nat} {C W : Nat → Int32} (H : PBk pl ln cm w C W a 1 s) (hl : pl + 1 ≤ ln) (hk : k = 11 ∨ k = 12) : PBk (pl + 1) ln (cm + 1) (w + 1) (upd C cm (nI (k * 1048576 + 0))) (upd W w (nI (1048576 * k + cm))) a 0 s := by
  obtain ⟨k1, k2, k3, k4, k5, k6, kw, ht, ha, hh, hc, hj⟩ := H
  have cb : cm < 1048576 := by omega
  rw [Nat.mul_comm 1048576 k]
  have up : ∀ j : Nat, j < cm → upd C cm (nI (k * 1048576 + 0)) j = C j := fun j hj => by unfold upd; rw [if_neg (by omega)]
  have uc : upd C cm (nI (k * 1048576 + 0)) cm = nI (k * 1048576 + 0) := by simp [upd]
  have hu : ∀ j : Nat, j ≤ cm → va_up ht (cm + 1) 0 j = ht j := fun j hj => va_up_ne _ _ (by omega)
  have uw : ∀ i : Nat, i < w → upd W w (nI (k * 1048576 + cm)) i = W i := fun i hi => by unfold upd; rw [if_neg (by omega)]
  have us : upd W w (nI (k * 1048576 + cm)) w = nI (k * 1048576 + cm) := by simp [upd]
  have ek : kd (upd W w (nI (k * 1048576 + cm)) w) = k := by rw [us]; exact kd_nI (by omega) cb
  have ev : vl (upd W w (nI (k * 1048576 + cm)) w) = cm := by rw [us]; exact vl_nI (by omega) cb
  have ep : pot (upd W w (nI (k * 1048576 + cm))) (w + 1) = pot W w := by rw [pot, ek, pot_up (Nat.le_refl _), if_neg (by omega)]; rfl
  refine ⟨hl, k2, by omega, by rw [ep]; omega, by omega, by omega, ?_, va_up ht (cm + 1) 0, ?_, va_up_self _ _ _, ?_, ?_⟩
  · intro i hi
    by_cases e : i = w
    · subst e; rw [us]; exact WKk.mk (by omega) (by omega) cb
    · rw [uw i (by omega)]; exact kw i (by omega)
  · rw [hu a k5]; exact ha
  · intro j q1 q2
    by_cases e : j = cm
    · subst e
      exact Or.inr ⟨by rw [hu j (Nat.le_refl _)]; exact hh, va_up_self _ _ _, ⟨k, 0, hk, by decide, uc⟩, w, by omega, by rw [ek]; omega, by rw [ek]; omega, ev⟩
    · rcases hc j q1 (by omega) with q | ⟨p1, p2, p3, i, p4, p5, p6, p7⟩
      · exact Or.inl (q.cg (by omega) (up j (by omega)) hu (by omega))
      · exact Or.inr ⟨by rw [hu j (by omega)]; exact p1, by rw [hu (j + 1) (by omega)]; exact p2, by rw [up j (by omega)]; exact p3, i, by omega, by rw [uw i p4]; exact p5, by rw [uw i p4]; exact p6, by rw [uw i p4]; exact p7⟩
  · intro i hi q1 q2
    by_cases e : i = w
    · subst e
      rw [ev]
      exact ⟨k5, by omega, by rw [hu cm (Nat.le_refl _)]; exact hh, va_up_self _ _ _, k, 0, hk, by decide, uc⟩
    · rw [uw i (by omega)] at q1 q2 ⊢
      obtain ⟨p1, p2, p3, p4, p5⟩ := hj i (by omega) q1 q2
      exact ⟨p1, by omega, by rw [hu _ (by omega)]; exact p3, by rw [hu _ (by omega)]; exact p4, by rw [up _ p2]; exact p5⟩
theorem PBk.jo {pl ln cm w a h s : Nat} {C W : Nat → Int32} (H : PBk pl ln cm (w + 1) C W a h s) (h1 : 11 ≤ kd (W w)) (h2 : kd (W w) ≤ 12) : ∃ op y : Nat, (op = 11 ∨ op = 12) ∧ y < 1048576 ∧ a ≤ vl (W w) ∧ vl (W w) < cm ∧ C (vl (W w)) = nI (op * 1048576 + y) := by
  obtain ⟨k1, k2, k3, k4, k5, k6, kw, ht, ha, hh, hc, hj⟩ := H
  obtain ⟨p1, p2, p3, p4, op, y, p5, p6, p7⟩ := hj w (by omega) h1 h2
  exact ⟨op, y, p5, p6, p1, p2, p7⟩
/-- a jump's end -/
theorem PBk.land {pl ln cm w a s op : Nat} {C W : Nat → Int32} (H : PBk pl ln cm (w + 1) C W a 1 s) (h1 : 11 ≤ kd (W w)) (h2 : kd (W w) ≤ 12) (hop : op = 11 ∨ op = 12) : PBk pl ln cm w (upd C (vl (W w)) (nI (1048576 * op + cm))) W a 1 s := by
  obtain ⟨k1, k2, k3, k4, k5, k6, kw, ht, ha, hh, hc, hj⟩ := H
  obtain ⟨j1, j2, j3, j4, j5⟩ := hj w (by omega) h1 h2
  have := pot_mo (f := W) (n := w) (m := w + 1) (by omega)
  rw [Nat.mul_comm 1048576 op]
  generalize hv : vl (W w) = v at j1 j2 j3 j4 j5 ⊢
  have up : ∀ j : Nat, j ≠ v → upd C v (nI (op * 1048576 + cm)) j = C j := fun j hj => by unfold upd; rw [if_neg hj]
  have uv : upd C v (nI (op * 1048576 + cm)) v = nI (op * 1048576 + cm) := by simp [upd]
  refine ⟨k1, k2, by omega, by omega, k5, k6, fun i hi => kw i (by omega), ht, ha, hh, ?_, ?_⟩
  · intro k q1 q2
    by_cases e : k = v
    · subst e
      exact Or.inl ⟨op, cm, uv, by omega, by omega, Or.inr (Or.inr (Or.inr (Or.inl ⟨hop, by omega, by omega, by omega, by omega, by rw [Nat.zero_add, hh]; omega⟩)))⟩
    · rcases hc k q1 q2 with q | ⟨p1, p2, p3, i, p4, p5, p6, p7⟩
      · exact Or.inl (q.cg q2 (up k e) (fun _ _ => rfl) (Nat.le_refl _))
      · by_cases z : i = w
        · subst z; exact absurd (p7.symm.trans hv) e
        · exact Or.inr ⟨p1, p2, by rw [up k e]; exact p3, i, by omega, p5, p6, p7⟩
  · intro i hi q1 q2
    obtain ⟨p1, p2, p3, p4, p5⟩ := hj i (by omega) q1 q2
    refine ⟨p1, p2, p3, p4, ?_⟩
    by_cases e : vl (W i) = v
    · rw [e, uv]; exact ⟨op, cm, hop, by omega, rfl⟩
    · rw [up _ e]; exact p5
/-- within a sum that began with w0 waiting -/
def PSx (pl ln cm w : Nat) (C W : Nat → Int32) (a G w0 s : Nat) : Prop := ∃ h : Nat, PBk pl ln cm w C W a h s ∧ h + pot W w0 = G + pot W w ∧ w0 ≤ w ∧ (∀ i : Nat, w0 ≤ i → i < w → kd (W i) ≤ 6 ∨ kd (W i) = 14) ∧ (0 < w0 → 10 ≤ kd (W (w0 - 1)) ∧ kd (W (w0 - 1)) ≤ 13)
section SUMS
variable {pl pl' ln cm w a G w0 s n o x : Nat} {C W : Nat → Int32}
theorem PSx.f (H : PSx pl ln cm w C W a G w0 s) : pl ≤ ln ∧ ln ≤ 160 ∧ w ≤ pl ∧ cm + pot W w + s ≤ pl ∧ a ≤ cm ∧ w0 ≤ w := by
  obtain ⟨h, H, h1, h2, h3, h4⟩ := H
  have := H.f
  omega
theorem PSx.wk (H : PSx pl ln cm w C W a G w0 s) : ∀ i : Nat, i < w → WKk (W i) := by
  obtain ⟨h, H, h1, h2, h3, h4⟩ := H
  exact H.w
theorem PSx.start {h : Nat} (H : PBk pl ln cm w C W a h s) (hB : 0 < w → 10 ≤ kd (W (w - 1)) ∧ kd (W (w - 1)) ≤ 13) : PSx pl ln cm w C W a h w s := ⟨h, H, rfl, Nat.le_refl _, fun i h1 h2 => absurd h2 (by omega), hB⟩
theorem PSx.fin (H : PSx pl ln cm w C W a G w s) : PBk pl ln cm w C W a G s := by
  obtain ⟨h, H, h1, h2, h3, h4⟩ := H
  rw [show G = h by omega]; exact H
theorem PSx.factor (H : PSx pl ln cm w C W a G w0 s) (hp : pl < pl') (hl : pl' ≤ ln) (ho : o = 0 ∨ (o = 1 ∧ x < 11)) (hx : x < 1048576) : PSx pl' ln (cm + 1) w (upd C cm (nI (o * 1048576 + x))) W a (G + 1) w0 s := by
  obtain ⟨h, H, h1, h2, h3, h4⟩ := H
  have f := H.f
  exact ⟨h + 1, H.code (by omega) hl (Or.inl rfl) hx (ho.elim (fun q => Or.inl ⟨q, rfl⟩) (fun q => Or.inr (Or.inl ⟨q.1, q.2, rfl⟩))) (by omega), by omega, h2, h3, h4⟩
theorem PSx.top (H : PSx pl ln cm (w + 1) C W a G w0 s) (hk : kd (W w) ≤ 6) : w0 ≤ w := by
  obtain ⟨h, H, h1, h2, h3, h4⟩ := H
  by_cases e : w0 = w + 1
  · subst e
    have := h4 (by omega)
    rw [show w + 1 - 1 = w by omega] at this
    omega
  · omega
theorem PSx.popop (H : PSx pl ln cm (w + 1) C W a (G + 1) w0 s) (hk : kd (W w) ≤ 6) : PSx pl ln (cm + 1) w (upd C cm (nI (kd (W w) * 1048576 + 0))) W a (G + 1) w0 s := by
  have ht := H.top hk
  obtain ⟨h, H, h1, h2, h3, h4⟩ := H
  have f := H.f
  have p1 := pot_1 (f := W) (n := w) (by omega)
  have p2 := pot_mo (f := W) ht
  have k := (H.w w (by omega)).k
  exact ⟨h - 1, H.code (Nat.le_refl _) f.1 (Or.inr ⟨rfl, by omega⟩) (by decide) (Or.inr (Or.inr (Or.inr ⟨k.1, by omega, by omega, by omega⟩))) (by omega), by omega, ht, fun i q1 q2 => h3 i q1 (by omega), h4⟩
theorem PSx.pop14 (H : PSx pl ln cm (w + 1) C W a G w0 s) (hw : w0 ≤ w) (hk : kd (W w) = 14) (hl : pl + 1 ≤ ln) : PSx (pl + 1) ln cm w C W a G w0 s := by
  obtain ⟨h, H, h1, h2, h3, h4⟩ := H
  have p1 := pot_2 (f := W) (n := w) (by omega)
  exact ⟨h, H.pop (by omega) hl (by omega) (by omega), by omega, hw, fun i q1 q2 => h3 i q1 (by omega), h4⟩
theorem PSx.push14 (H : PSx pl ln cm w C W a G w0 s) (hl : pl + 1 ≤ ln) : PSx (pl + 1) ln cm (w + 1) C (upd W w (nI (14 * 1048576))) a G w0 s := by
  obtain ⟨h, H, h1, h2, h3, h4⟩ := H
  have uw : ∀ i : Nat, i < w → upd W w (nI (14 * 1048576)) i = W i := fun i hi => by unfold upd; rw [if_neg (by omega)]
  have ek : kd (upd W w (nI (14 * 1048576)) w) = 14 := by
    have : upd W w (nI (14 * 1048576)) w = nI (14 * 1048576 + 0) := by simp [upd]
    rw [this]; exact kd_nI (by decide) (by decide)
  have p0 := pot_up (f := W) (x := nI (14 * 1048576)) h2
  have p1 := pot_up (f := W) (x := nI (14 * 1048576)) (Nat.le_refl w)
  have p2 := pot_2 (f := upd W w (nI (14 * 1048576))) (n := w) (by omega)
  refine ⟨h, H.push hl (by decide) (by decide) (by omega) (by simp), by omega, by omega, ?_, ?_⟩
  · intro i q1 q2
    by_cases e : i = w
    · subst e; exact Or.inr ek
    · rw [uw i (by omega)]; exact h3 i q1 (by omega)
  · intro q; rw [uw (w0 - 1) (by omega)]; exact h4 q
theorem PSx.pushop (H : PSx pl ln cm w C W a (G + 1) w0 s) (hl : pl + 1 ≤ ln) (h2 : 2 ≤ n) (h6 : n ≤ 6) : PSx (pl + 1) ln cm (w + 1) C (upd W w (nI (n * 1048576))) a G w0 s := by
  obtain ⟨h, H, k1, k2, h3, h4⟩ := H
  have uw : ∀ i : Nat, i < w → upd W w (nI (n * 1048576)) i = W i := fun i hi => by unfold upd; rw [if_neg (by omega)]
  have ek : kd (upd W w (nI (n * 1048576)) w) = n := by
    have : upd W w (nI (n * 1048576)) w = nI (n * 1048576 + 0) := by simp [upd]
    rw [this]; exact kd_nI (by omega) (by decide)
  have p0 := pot_up (f := W) (x := nI (n * 1048576)) k2
  have p1 := pot_up (f := W) (x := nI (n * 1048576)) (Nat.le_refl w)
  have p2 := pot_1 (f := upd W w (nI (n * 1048576))) (n := w) (by omega)
  refine ⟨h, H.push hl h2 (by omega) (by omega) (by rw [if_pos (by omega)]; omega), by omega, by omega, ?_, ?_⟩
  · intro i q1 q2
    by_cases e : i = w
    · subst e; exact Or.inl (by omega)
    · rw [uw i (by omega)]; exact h3 i q1 (by omega)
  · intro q; rw [uw (w0 - 1) (by omega)]; exact h4 q
end SUMS
theorem top14 {W : Nat → Int32} {w0 w w' : Nat} (h : ∃ i : Nat, w0 ≤ i ∧ i < w ∧ kd (W i) = 14) (h1 : ∀ i : Nat, w' ≤ i → i < w → kd (W i) ≤ 6) (h2 : w' = w0 ∨ kd (W (w' - 1)) = 14) (h3 : w0 ≤ w') : w0 < w' ∧ kd (W (w' - 1)) = 14 := by
  obtain ⟨i, a, b, e⟩ := h
  rcases h2 with h2 | h2
  · have := h1 i (by omega) b; omega
  · refine ⟨?_, h2⟩
    by_cases z : w' = w0
    · have := h1 i (by omega) b; omega
    · omega
theorem ha255 (x : Int32) : 0 ≤ (x &&& 255).toInt ∧ (x &&& 255).toInt ≤ 255 := by
  have e : (x &&& 255).toBitVec.toNat ≤ 255 := by
    rw [Int32.toBitVec_and, BitVec.toNat_and]
    exact Nat.and_le_right
  have e2 : (x &&& 255).toInt = ((x &&& 255).toBitVec.toNat : Int) := by
    show (x &&& 255).toBitVec.toInt = _
    rw [BitVec.toInt_eq_toNat_of_lt (by omega)]
  omega
/-- the byte that is read next -/
def hereM (cn : Nat → Nat) (Fn : Nat → Nat → Int32) : Int32 := if cn 19 < cn 20 then Fn 17 (cn 19) &&& 255 else -1
theorem hereM_cg {cn c2 : Nat → Nat} {Fn F2 : Nat → Nat → Int32} (h1 : c2 19 = cn 19) (h2 : c2 20 = cn 20) (h3 : F2 17 = Fn 17) : hereM c2 F2 = hereM cn Fn := by unfold hereM; rw [h1, h2, h3]
theorem nI_ofT {x : Int32} {n : Nat} (h : x.toInt = (n : Int)) (hn : n < 2 ^ 31) : x = nI n := Int32.toInt_inj.mp (h.trans (nI_toInt hn).symm)
theorem SegOK.cg {C C' : Nat → Int32} {a b : Nat} (h : SegOK C 0 a b) (e : ∀ k : Nat, k < b → C' k = C k) : SegOK C' 0 a b := by
  obtain ⟨ht, h0, hs⟩ := h
  exact ⟨ht, h0, fun k q1 q2 => (hs k q1 q2).cg q2 (e k q2) (fun _ _ => rfl) (Nat.le_refl _)⟩
theorem PBk.seg {pl ln cm a h s : Nat} {C W : Nat → Int32} (H : PBk pl ln cm 0 C W a h s) : SegOK C 0 a cm := by
  obtain ⟨k1, k2, k3, k4, k5, k6, kw, ht, ha, hh, hc, hj⟩ := H
  refine ⟨ht, ha, fun k q1 q2 => ?_⟩
  rcases hc k q1 q2 with q | ⟨p1, p2, p3, i, p4, p5⟩
  · exact q
  · omega
theorem PBk.new {pl ln cm s : Nat} {C W : Nat → Int32} (h1 : pl ≤ ln) (h2 : ln ≤ 160) (h3 : cm + s ≤ pl) : PBk pl ln cm 0 C W cm 0 s := ⟨h1, h2, Nat.zero_le _, by rw [pot]; omega, Nat.le_refl _, by omega, fun i hi => absurd hi (Nat.not_lt_zero i), fun _ => 0, rfl, rfl, fun k q1 q2 => absurd q2 (by omega), fun i hi => absurd hi (Nat.not_lt_zero i)⟩
/-- the waiting signs of a condition -/
def CK (w : Nat) (W : Nat → Int32) : Prop := 0 < w ∧ kd (W 0) = 13 ∧ ∀ i : Nat, i < w → 10 ≤ kd (W i) ∧ kd (W i) ≤ 13
theorem CK.push {w k : Nat} {W : Nat → Int32} (h : CK w W) (h1 : 10 ≤ k) (h2 : k ≤ 13) : CK (w + 1) (upd W w (nI (k * 1048576))) := by
  obtain ⟨a, b, c⟩ := h
  have e : kd (nI (k * 1048576)) = k := kd_nI0 (by omega)
  have e0 : upd W w (nI (k * 1048576)) 0 = W 0 := by unfold upd; rw [if_neg (by omega)]
  refine ⟨by omega, by rw [e0]; exact b, fun i hi => ?_⟩
  by_cases z : i = w
  · subst z; rw [show upd W i (nI (k * 1048576)) i = nI (k * 1048576) by simp [upd], e]; exact ⟨h1, h2⟩
  · rw [show upd W w (nI (k * 1048576)) i = W i by simp [upd, z]]; exact c i (by omega)
theorem CK.jump {w k v : Nat} {W : Nat → Int32} (h : CK w W) (h1 : k = 11 ∨ k = 12) (hv : v < 1048576) : CK (w + 1) (upd W w (nI (1048576 * k + v))) := by
  obtain ⟨a, b, c⟩ := h
  rw [Nat.mul_comm 1048576 k]
  have e : kd (nI (k * 1048576 + v)) = k := kd_nI (by omega) hv
  have e0 : upd W w (nI (k * 1048576 + v)) 0 = W 0 := by unfold upd; rw [if_neg (by omega)]
  refine ⟨by omega, by rw [e0]; exact b, fun i hi => ?_⟩
  by_cases z : i = w
  · subst z; rw [show upd W i (nI (k * 1048576 + v)) i = nI (k * 1048576 + v) by simp [upd], e]; omega
  · rw [show upd W w (nI (k * 1048576 + v)) i = W i by simp [upd, z]]; exact c i (by omega)
theorem CK.start (W : Nat → Int32) : CK 1 (upd W 0 (nI (13 * 1048576))) := by
  have e : kd (upd W 0 (nI (13 * 1048576)) 0) = 13 := by rw [show upd W 0 (nI (13 * 1048576)) 0 = nI (13 * 1048576 + 0) by simp [upd]]; exact kd_nI (by decide) (by decide)
  refine ⟨by decide, e, fun i hi => ?_⟩
  obtain rfl : i = 0 := by omega
  omega
theorem CK.less {w w' : Nat} {W : Nat → Int32} (h : CK w W) (h1 : w' ≤ w) (h2 : 0 < w') : CK w' W := ⟨h2, h.2.1, fun i hi => h.2.2 i (by omega)⟩
theorem CK.cg {w : Nat} {W W' : Nat → Int32} (h : CK w W) (e : ∀ i : Nat, i < w → W' i = W i) : CK w W' := ⟨h.1, by rw [e 0 h.1]; exact h.2.1, fun i hi => by rw [e i hi]; exact h.2.2 i hi⟩
/-- a clause that was read -/
def CLr (C : Nat → Int32) (cm : Nat) (x y z : Int32) : Prop := ∃ a h b : Nat, x = nI a ∧ y = nI h ∧ z = nI b ∧ a ≤ h ∧ h ≤ b ∧ b ≤ cm ∧ SegOK C 0 a h ∧ SegOK C 0 h b
theorem CLr.cg {C C' : Nat → Int32} {cm cm' : Nat} {x y z : Int32} (h : CLr C cm x y z) (e : ∀ k : Nat, k < cm → C' k = C k) (hc : cm ≤ cm') : CLr C' cm' x y z := by
  obtain ⟨a, g, b, e1, e2, e3, h1, h2, h3, s1, s2⟩ := h
  exact ⟨a, g, b, e1, e2, e3, h1, h2, by omega, s1.cg (fun k hk => e k (by omega)), s2.cg (fun k hk => e k (by omega))⟩
theorem SegOK.mv {C C' : Nat → Int32} {a b t : Nat} (h : SegOK C 0 a b) (e : ∀ k : Nat, k < b → C' (t + k) = C k) : SegOK C' t (t + a) (t + b) := by
  obtain ⟨ht, h0, hs⟩ := h
  refine ⟨fun j => ht (j - t), by show ht (t + a - t) = 0; rw [show t + a - t = a by omega]; exact h0, fun k q1 q2 => ?_⟩
  obtain ⟨op, v, ec, hv, h180, hc⟩ := hs (k - t) (by omega) (by omega)
  have e1 : k + 1 - t = k - t + 1 := by omega
  refine ⟨op, v, by rw [← ec, ← e (k - t) (by omega), show t + (k - t) = k by omega], hv, h180, ?_⟩
  dsimp only
  rw [e1]
  rcases hc with hc | hc | hc | ⟨g1, g2, g3, g4, g5, g6⟩ | hc
  · exact Or.inl hc
  · exact Or.inr (Or.inl hc)
  · exact Or.inr (Or.inr (Or.inl hc))
  · exact Or.inr (Or.inr (Or.inr (Or.inl ⟨g1, g2, g3, by omega, by omega, by rw [show t + v - t = 0 + v by omega]; exact g6⟩)))
  · exact Or.inr (Or.inr (Or.inr (Or.inr hc)))
theorem upd_lt {f : Nat → Int32} {i k : Nat} {x : Int32} (h : i < k) : upd f k x i = f i := by unfold upd; rw [if_neg (by omega)]
theorem upd_nq {f : Nat → Int32} {i k : Nat} {x : Int32} (h : i ≠ k) : upd f k x i = f i := by unfold upd; rw [if_neg h]
section LESS
variable {pl pl' ln cm w a G w0 s s' op : Nat} {C W : Nat → Int32}
theorem PSx.popop' (H : PSx pl ln cm w C W a (G + 1) w0 s) (h0 : 0 < w) (hk : kd (W (w - 1)) ≤ 6) : PSx pl ln (cm + 1) (w - 1) (upd C cm (nI (kd (W (w - 1)) * 1048576 + 0))) W a (G + 1) w0 s := by
  obtain ⟨j, rfl⟩ : ∃ j, w = j + 1 := ⟨w - 1, by omega⟩
  exact H.popop hk
theorem PSx.pop14' (H : PSx pl ln cm w C W a G w0 s) (hw : w0 < w) (hk : kd (W (w - 1)) = 14) (hl : pl + 1 ≤ ln) : PSx (pl + 1) ln cm (w - 1) C W a G w0 s := by
  obtain ⟨j, rfl⟩ : ∃ j, w = j + 1 := ⟨w - 1, by omega⟩
  exact H.pop14 (by omega) hk hl
theorem PSx.kt (H : PSx pl ln cm w C W a G w0 s) : w = w0 ∨ kd (W (w - 1)) ≤ 6 ∨ kd (W (w - 1)) = 14 := by
  obtain ⟨h, H, h1, h2, h3, h4⟩ := H
  by_cases e : w = w0
  · exact Or.inl e
  · exact Or.inr (h3 (w - 1) (by omega) (by omega))
theorem PSx.fin' (H : PSx pl ln cm w C W a G w0 s) (e : w = w0) : PBk pl ln cm w C W a G s := by subst e; exact H.fin
theorem PBk.code10 (H : PBk pl ln cm w C W a 1 s) (h0 : 0 < w) (hk : kd (W (w - 1)) = 10) : PBk pl ln (cm + 1) (w - 1) (upd C cm (nI (10 * 1048576 + 0))) W a 1 s := by
  obtain ⟨j, rfl⟩ : ∃ j, w = j + 1 := ⟨w - 1, by omega⟩
  have f := H.f
  have hk : kd (W j) = 10 := hk
  have p1 := pot_1 (f := W) (n := j) (by omega)
  exact H.code (Nat.le_refl _) f.1 (Or.inr ⟨rfl, by show kd (W j) ≤ 10; omega⟩) (by decide) (Or.inr (Or.inr (Or.inl ⟨rfl, by decide, rfl⟩))) (by show cm + 1 + pot W j + s ≤ pl; omega)
theorem PBk.pop' {h : Nat} (H : PBk pl ln cm w C W a h s) (h0 : 0 < w) (hp : pl ≤ pl') (hl : pl' ≤ ln) (hk : ¬ (11 ≤ kd (W (w - 1)) ∧ kd (W (w - 1)) ≤ 12)) (hq : s' + pl ≤ s + pl') : PBk pl' ln cm (w - 1) C W a h s' := by
  obtain ⟨j, rfl⟩ : ∃ j, w = j + 1 := ⟨w - 1, by omega⟩
  exact H.pop hp hl hk hq
theorem PBk.jo' {h : Nat} (H : PBk pl ln cm w C W a h s) (h0 : 0 < w) (h1 : 11 ≤ kd (W (w - 1))) (h2 : kd (W (w - 1)) ≤ 12) : ∃ op y : Nat, (op = 11 ∨ op = 12) ∧ y < 1048576 ∧ a ≤ vl (W (w - 1)) ∧ vl (W (w - 1)) < cm ∧ C (vl (W (w - 1))) = nI (op * 1048576 + y) := by
  obtain ⟨j, rfl⟩ : ∃ j, w = j + 1 := ⟨w - 1, by omega⟩
  exact H.jo h1 h2
theorem PBk.land' (H : PBk pl ln cm w C W a 1 s) (h0 : 0 < w) (h1 : 11 ≤ kd (W (w - 1))) (h2 : kd (W (w - 1)) ≤ 12) (hop : op = 11 ∨ op = 12) : PBk pl ln cm (w - 1) (upd C (vl (W (w - 1))) (nI (1048576 * op + cm))) W a 1 s := by
  obtain ⟨j, rfl⟩ : ∃ j, w = j + 1 := ⟨w - 1, by omega⟩
  exact H.land h1 h2 hop
theorem PBk.seg' {h : Nat} (H : PBk pl ln cm w C W a h s) (e : w = 0) : SegOK C 0 a cm := by subst e; exact H.seg
theorem CK.pop' (h : CK w W) (hk : ¬ kd (W (w - 1)) = 13) : CK (w - 1) W := by
  obtain ⟨h1, h2, h3⟩ := h
  refine ⟨?_, h2, fun i hi => h3 i (by omega)⟩
  by_cases e : w = 1
  · subst e; exact absurd h2 hk
  · omega
end LESS
theorem no14 {W : Nat → Int32} {w0 w w' : Nat} (h : ¬ ∃ i : Nat, w0 ≤ i ∧ i < w ∧ kd (W i) = 14) (h2 : w' = w0 ∨ kd (W (w' - 1)) = 14) (h3 : w0 ≤ w') (h4 : w' ≤ w) : w' = w0 := by
  rcases h2 with h2 | h2
  · exact h2
  · by_cases e : w' = w0
    · exact e
    · exact absurd ⟨w' - 1, by omega, by omega, h2⟩ h
theorem SegOK.nil (C : Nat → Int32) (a : Nat) : SegOK C 0 a a := ⟨fun _ => 0, rfl, fun k q1 q2 => absurd q2 (by omega)⟩
/-- the clauses that were read -/
def ALL (C : Nat → Int32) (cm n : Nat) (f g h : Nat → Int32) : Prop := ∀ j : Nat, j < n → CLr C cm (f j) (g j) (h j)
theorem ALL.add {C C' : Nat → Int32} {cm m cm' n : Nat} {f g h : Nat → Int32} (H : ALL C cm n f g h) (e : ∀ k : Nat, k < cm → C' k = C k) (h1 : cm ≤ m) (h2 : m ≤ cm') (s1 : SegOK C' 0 cm m) (s2 : SegOK C' 0 m cm') : ALL C' cm' (n + 1) (upd f n (nI cm)) (upd g n (nI m)) (upd h n (nI cm')) := fun j hj => by
  by_cases z : j = n
  · subst z
    rw [show upd f j (nI cm) j = nI cm by simp [upd], show upd g j (nI m) j = nI m by simp [upd], show upd h j (nI cm') j = nI cm' by simp [upd]]
    exact ⟨cm, m, cm', rfl, rfl, rfl, h1, h2, Nat.le_refl _, s1, s2⟩
  · rw [upd_nq z, upd_nq z, upd_nq z]
    exact (H j (by omega)).cg e (by omega)
theorem IM.rd {cn c2 : Nat → Nat} {Fn F2 : Nat → Nat → Int32} {t sm : Nat} (h : IM cn Fn) (hc : ∀ k : Nat, k ∈ [0,1,2,46,57,58,62,63,75,83] → c2 k = cn k) (hF : ∀ k : Nat, k ∈ [7,8,9,10,16,64,66,67,68,69,70,76,79] → F2 k = Fn k) (hsm : sm ≤ 12) (e33 : F2 33 = upd (Fn 33) t (nI sm))
    (h32 : ∀ j : Nat, j < 180 * t ∨ 180 * t + 180 ≤ j → F2 32 j = Fn 32 j) (h34 : ∀ j : Nat, j < 12 * t ∨ 12 * t + 12 ≤ j → F2 34 j = Fn 34 j ∧ F2 35 j = Fn 35 j ∧ F2 36 j = Fn 36 j) (hn : ∀ q : Nat, q < sm → ClOK (F2 32) (180 * t) (F2 34 (12 * t + q)) (F2 35 (12 * t + q)) (F2 36 (12 * t + q))) : IM c2 F2 := by
  obtain ⟨b, e7, e8, e9, e10, e16, e33', e66, e67, e68, e69, e70, e76, e79, e64, pr, cd⟩ := h
  unfold IM CB
  rw [hc 0 (by decide), hc 1 (by decide), hc 2 (by decide), hc 46 (by decide), hc 57 (by decide), hc 58 (by decide), hc 62 (by decide), hc 63 (by decide), hc 75 (by decide), hc 83 (by decide), hF 7 (by decide), hF 8 (by decide), hF 9 (by decide), hF 10 (by decide), hF 16 (by decide), hF 64 (by decide), hF 66 (by decide), hF 67 (by decide), hF 68 (by decide), hF 69 (by decide), hF 70 (by decide), hF 76 (by decide), hF 79 (by decide)]
  refine ⟨b, e7, e8, e9, e10, e16, ?_, e66, e67, e68, e69, e70, e76, e79, e64, pr, ?_⟩
  · rw [e33]; exact upd_ex (P := fun n => n ≤ 12) e33' hsm
  · intro u hu q hq
    by_cases z : u = t
    · subst z
      rw [e33, show upd (Fn 33) u (nI sm) u = nI sm by simp [upd], nI_tn (by omega)] at hq
      exact hn q hq
    · rw [e33, upd_nq z] at hq
      obtain ⟨n, n12, en⟩ := e33' u (by omega)
      have k := cd u hu q hq
      rw [en, nI_tn (by omega)] at hq
      obtain ⟨x1, x2, x3⟩ := h34 (12 * u + q) (by omega)
      rw [x1, x2, x3]
      obtain ⟨a, g, b', q1, q2, q3, k1, k2, k3, k4, k5, s1, s2⟩ := k
      have cg : ∀ {x y : Nat}, 180 * u ≤ x → y ≤ 180 * u + 180 → SegOK (Fn 32) (180 * u) x y → SegOK (F2 32) (180 * u) x y := by
        intro x y hx hy hs
        obtain ⟨ht, h0, hs⟩ := hs
        refine ⟨ht, h0, fun k p1 p2 => ?_⟩
        obtain ⟨op, v, ec, r⟩ := hs k p1 p2
        exact ⟨op, v, by rw [h32 k (by omega)]; exact ec, r⟩
      exact ⟨a, g, b', q1, q2, q3, k1, k2, k3, k4, k5, cg k1 (by omega) s1, cg (by omega) k5 s2⟩

theorem frq_19_26_0_1_2_46_57_58_62_63_75_83_44 {li lf : List Nat} {cn c2 : Nat → Nat} {In I2 : Nat → Int32} {Fn F2 : Nat → Nat → Int32} (h : Fr [19, 26] li lf cn In Fn c2 I2 F2) : c2 0 = cn 0 ∧ c2 1 = cn 1 ∧ c2 2 = cn 2 ∧ c2 46 = cn 46 ∧ c2 57 = cn 57 ∧ c2 58 = cn 58 ∧ c2 62 = cn 62 ∧ c2 63 = cn 63 ∧ c2 75 = cn 75 ∧ c2 83 = cn 83 ∧ c2 44 = cn 44 := ⟨h.1 0 (nml rfl), h.1 1 (nml rfl), h.1 2 (nml rfl), h.1 46 (nml rfl), h.1 57 (nml rfl), h.1 58 (nml rfl), h.1 62 (nml rfl), h.1 63 (nml rfl), h.1 75 (nml rfl), h.1 83 (nml rfl), h.1 44 (nml rfl)⟩
theorem frq_23_24_0_1_2_46_57_58_62_63_75_83_44 {li lf : List Nat} {cn c2 : Nat → Nat} {In I2 : Nat → Int32} {Fn F2 : Nat → Nat → Int32} (h : Fr [23, 24] li lf cn In Fn c2 I2 F2) : c2 0 = cn 0 ∧ c2 1 = cn 1 ∧ c2 2 = cn 2 ∧ c2 46 = cn 46 ∧ c2 57 = cn 57 ∧ c2 58 = cn 58 ∧ c2 62 = cn 62 ∧ c2 63 = cn 63 ∧ c2 75 = cn 75 ∧ c2 83 = cn 83 ∧ c2 44 = cn 44 := ⟨h.1 0 (nml rfl), h.1 1 (nml rfl), h.1 2 (nml rfl), h.1 46 (nml rfl), h.1 57 (nml rfl), h.1 58 (nml rfl), h.1 62 (nml rfl), h.1 63 (nml rfl), h.1 75 (nml rfl), h.1 83 (nml rfl), h.1 44 (nml rfl)⟩
theorem frq_19_23_24_26_0_1_2_46_57_58_62_63_75_83_44 {li lf : List Nat} {cn c2 : Nat → Nat} {In I2 : Nat → Int32} {Fn F2 : Nat → Nat → Int32} (h : Fr [19, 23, 24, 26] li lf cn In Fn c2 I2 F2) : c2 0 = cn 0 ∧ c2 1 = cn 1 ∧ c2 2 = cn 2 ∧ c2 46 = cn 46 ∧ c2 57 = cn 57 ∧ c2 58 = cn 58 ∧ c2 62 = cn 62 ∧ c2 63 = cn 63 ∧ c2 75 = cn 75 ∧ c2 83 = cn 83 ∧ c2 44 = cn 44 := ⟨h.1 0 (nml rfl), h.1 1 (nml rfl), h.1 2 (nml rfl), h.1 46 (nml rfl), h.1 57 (nml rfl), h.1 58 (nml rfl), h.1 62 (nml rfl), h.1 63 (nml rfl), h.1 75 (nml rfl), h.1 83 (nml rfl), h.1 44 (nml rfl)⟩

set_option maxRecDepth 100000 in
set_option maxHeartbeats 4000000 in
theorem q_here (l : Launch) (D : va_G) (cI cB cZ : ClassId) (g : Nat → Nat) (cn : Nat → Nat) (In : Nat → Int32) (Fn : Nat → Nat → Int32)  (hI : IM cn Fn) (hp : cn 19 ≤ cn 20) (hn : cn 20 ≤ 160) : Met l yX12_here (CWS yX12_here cX12_here 1 (some .int)) (RM 0 0 0) (PBr [.ref (g 100)] D cI cB cZ (wM cI cB cZ g cn In Fn)) (vp_Si (fun r => r = hereM cn Fn ∧ r.toInt = (hereM cn Fn).toInt ∧ ((r.toInt = -1 ∧ cn 20 ≤ cn 19) ∨ (0 ≤ r.toInt ∧ r.toInt ≤ 255 ∧ cn 19 < cn 20)))) 0 0 (fun _ => False) := by
  refine en_r rfl pn_RX12 (Nat.le_of_ble_eq_true rfl) (fun p e s m below meth c hx hb hml hown S hr hlocks hnm hP hK hS ls hl => ?_)
  have hl : lv_has ls 1 [(0, .ref (g 100))] := hl
  have hi_cn : Hid (CB cn) := hI.b
  refine lv_aload_n hx hb (oc_42 0 shX12_here_0) rfl (lvA0 hl) ?_
  refine gM_233 S hK hP (v := .int (nI (cn 19))) rfl (oc_180 1 (aq_1 shX12_here_0) uw_0_233) ?_
  refine lv_aload_n hx hb (oc_42 4 (aq_4 shX12_here_0)) rfl (lvA0 hl) ?_
  refine gM_236 S hK hP (v := .int (nI (cn 20))) rfl (oc_180 5 (aq_5 shX12_here_0) uw_0_236) ?_
  have : (nI (cn 19)).toInt = (((cn 19) : Nat) : Int) := nI_toInt (by (first | omega | (have zz0 := Hid.u hi_cn; omega)))
  have : (nI (cn 20)).toInt = (((cn 20) : Nat) : Int) := nI_toInt (by (first | omega | (have zz0 := Hid.u hi_cn; omega)))
  refine lv_icmp_ge (tgt := 27) hx hb (oc_162 8 (aq_8 shX12_here_0) sgw_0_19) rfl (fun c_1 => ?_) (fun c_1 => ?_)
  ·
    have tc_1 : ((nI (cn 20)).toInt : Int) ≤ (nI (cn 19)).toInt := Int32.le_iff_toInt_le.mp c_1
    refine lv_iconst (v := (-1)) hx hb (oc_2 27 (aq_3 shX12_here_24)) kic_m1 ?_
    exact W.iret (v := (-1)) hx hb hr (fun t ht hW => ⟨(-1), rfl, (by have e : (-1 : Int32) = hereM cn Fn := (if_neg (by (first | omega | (have zz0 := Hid.u hi_cn; omega)))).symm; exact ⟨e, congrArg Int32.toInt e, Or.inl ⟨rfl, by (first | omega | (have zz0 := Hid.u hi_cn; omega))⟩⟩), ht⟩) (fun _ h => absurd h List.not_mem_nil) (oc_172 28 (aq_4 shX12_here_24))
  ·
    have tc_1 : ((nI (cn 19)).toInt : Int) < (nI (cn 20)).toInt := Int32.lt_iff_toInt_lt.mp (Int32.not_le.mp c_1)
    refine lv_aload_n hx hb (oc_42 11 (aq_11 shX12_here_0)) rfl (lvA0 hl) ?_
    refine gM_52 S hK hP (v := .ref (g 17)) rfl (oc_180 12 (aq_12 shX12_here_0) uw_0_52) ?_
    refine lv_aload_n hx hb (oc_42 15 (aq_15 shX12_here_0)) rfl (lvA0 hl) ?_
    refine gM_233 S hK hP (v := .int (nI (cn 19))) rfl (oc_180 16 (aq_16 shX12_here_0) uw_0_233) ?_
    have kb_1 : (cn 19) < 200 := by (first | omega | (have zz0 := Hid.u hi_cn; omega))
    refine ldM_17 hx hb hK hP (x := ((Fn 17) (cn 19))) (vp_in_nI kb_1 (ltb rfl)) (nI_clamp (Nat.lt_trans kb_1 (ltb rfl))) rfl (oc_51 19 (aq_19 shX12_here_0)) ?_
    refine lv_sipush (v := 255) hx hb (oc_17 20 (aq_20 shX12_here_0) sgw_0_255) (by decide) ?_
    refine lv_iand hx hb (oc_126 23 (aq_23 shX12_here_0)) ?_
    refine lv_goto (tgt := 28) hx hb (oc_167 24 shX12_here_24 sgw_0_4) rfl ?_
    exact W.iret (v := (((Fn 17) (cn 19)) &&& 255)) hx hb hr (fun t ht hW => ⟨(((Fn 17) (cn 19)) &&& 255), rfl, (by have e : (((Fn 17) (cn 19)) &&& 255) = hereM cn Fn := (if_pos (by (first | omega | (have zz0 := Hid.u hi_cn; omega)))).symm; have b := ha255 (Fn 17 (cn 19)); exact ⟨e, congrArg Int32.toInt e, Or.inr ⟨b.1, b.2, by (first | omega | (have zz0 := Hid.u hi_cn; omega))⟩⟩), ht⟩) (fun _ h => absurd h List.not_mem_nil) (oc_172 28 (aq_4 shX12_here_24))
set_option maxRecDepth 100000 in
set_option maxHeartbeats 4000000 in
theorem q_isDigit (l : Launch) (D : va_G) (cI cB cZ : ClassId) (g : Nat → Nat) (cn : Nat → Nat) (In : Nat → Int32) (Fn : Nat → Nat → Int32)  (hI : IM cn Fn) (hp : cn 19 ≤ cn 20) (hn : cn 20 ≤ 160) : Met l yX12_isDigit (CWS yX12_isDigit cX12_isDigit 1 (some .boolean)) (RM 1 0 0) (PBr [.ref (g 100)] D cI cB cZ (wM cI cB cZ g cn In Fn)) (vp_Si (fun r => (r = 1 ∧ (cn 19 < cn 20 ∧ 48 ≤ (hereM cn Fn).toInt ∧ (hereM cn Fn).toInt ≤ 57)) ∨ (r = 0 ∧ ¬ (cn 19 < cn 20 ∧ 48 ≤ (hereM cn Fn).toInt ∧ (hereM cn Fn).toInt ≤ 57)))) 0 0 (fun _ => False) := by
  refine en_r rfl pn_RX12 (Nat.le_of_ble_eq_true rfl) (fun p e s m below meth c hx hb hml hown S hr hlocks hnm hP hK hS ls hl => ?_)
  have hl : lv_has ls 1 [(0, .ref (g 100))] := hl
  have hi_cn : Hid (CB cn) := hI.b
  refine lv_aload_n hx hb (oc_42 0 shX12_isDigit_0) rfl (lvA0 hl) ?_
  refine vp_callSi (runV_ra (As := []) (rest := []) S (q_here l D cI cB cZ g cn In Fn  hI (by (first | omega | (have zz0 := Hid.u hi_cn; omega))) (by (first | omega | (have zz0 := Hid.u hi_cn; omega)))) kV_RX12_239 hK hP 0 rfl rfl rfl ⟨Nat.le_of_ble_eq_true rfl, Nat.le_of_ble_eq_true rfl⟩ ⟨Nat.le_of_ble_eq_true rfl, Nat.le_of_ble_eq_true rfl⟩ rfl hl.1 rfl (Nat.le_of_ble_eq_true rfl) (oc_182 1 (aq_1 shX12_isDigit_0) uw_0_239)) (fun r_1 h_2 => ?_)
  refine lv_bipush (v := 48) hx hb (oc_16 4 (aq_4 shX12_isDigit_0) sgb_48) kbc_48 ?_
  refine lv_icmp_lt (tgt := 22) hx hb (oc_161 6 (aq_6 shX12_isDigit_0) sgw_0_16) rfl (fun c_3 => ?_) (fun c_3 => ?_)
  ·
    have tc_3 : (r_1.toInt : Int) < 48 := Int32.lt_iff_toInt_lt.mp c_3
    refine lv_iconst (v := 0) hx hb (oc_3 22 (aq_22 shX12_isDigit_0)) kic_0 ?_
    exact W.zret (v := 0) hx hb hr rfl (fun t ht hW => ⟨0, rfl, (Or.inr ⟨rfl, by (first | omega | (have zz0 := Hid.u hi_cn; omega))⟩), ht⟩) (fun _ h => absurd h List.not_mem_nil) (oc_172 23 (aq_23 shX12_isDigit_0))
  ·
    have tc_3 : (48 : Int) ≤ r_1.toInt := Int32.le_iff_toInt_le.mp (Int32.not_lt.mp c_3)
    refine lv_aload_n hx hb (oc_42 9 (aq_9 shX12_isDigit_0)) rfl (lvA0 hl) ?_
    refine vp_callSi (runV_ra (As := []) (rest := []) S (q_here l D cI cB cZ g cn In Fn  hI (by (first | omega | (have zz0 := Hid.u hi_cn; omega))) (by (first | omega | (have zz0 := Hid.u hi_cn; omega)))) kV_RX12_239 hK hP 0 rfl rfl rfl ⟨Nat.le_of_ble_eq_true rfl, Nat.le_of_ble_eq_true rfl⟩ ⟨Nat.le_of_ble_eq_true rfl, Nat.le_of_ble_eq_true rfl⟩ rfl hl.1 rfl (Nat.le_of_ble_eq_true rfl) (oc_182 10 (aq_10 shX12_isDigit_0) uw_0_239)) (fun r_4 h_5 => ?_)
    refine lv_bipush (v := 57) hx hb (oc_16 13 (aq_13 shX12_isDigit_0) sgb_57) kbc_57 ?_
    refine lv_icmp_gt (tgt := 22) hx hb (oc_163 15 (aq_15 shX12_isDigit_0) sgw_0_7) rfl (fun c_6 => ?_) (fun c_6 => ?_)
    ·
      have tc_6 : (57 : Int) < r_4.toInt := Int32.lt_iff_toInt_lt.mp c_6
      refine lv_iconst (v := 0) hx hb (oc_3 22 (aq_22 shX12_isDigit_0)) kic_0 ?_
      exact W.zret (v := 0) hx hb hr rfl (fun t ht hW => ⟨0, rfl, (Or.inr ⟨rfl, by (first | omega | (have zz0 := Hid.u hi_cn; omega))⟩), ht⟩) (fun _ h => absurd h List.not_mem_nil) (oc_172 23 (aq_23 shX12_isDigit_0))
    ·
      have tc_6 : (r_4.toInt : Int) ≤ 57 := Int32.le_iff_toInt_le.mp (Int32.not_lt.mp c_6)
      refine lv_iconst (v := 1) hx hb (oc_4 18 (aq_18 shX12_isDigit_0)) kic_1 ?_
      refine lv_goto (tgt := 23) hx hb (oc_167 19 (aq_19 shX12_isDigit_0) sgw_0_4) rfl ?_
      exact W.zret (v := 1) hx hb hr rfl (fun t ht hW => ⟨1, rfl, (Or.inl ⟨rfl, by (first | omega | (have zz0 := Hid.u hi_cn; omega))⟩), ht⟩) (fun _ h => absurd h List.not_mem_nil) (oc_172 23 (aq_23 shX12_isDigit_0))
set_option maxRecDepth 100000 in
set_option maxHeartbeats 4000000 in
theorem q_wrong (l : Launch) (D : va_G) (cI cB cZ : ClassId) (g : Nat → Nat) (cn : Nat → Nat) (In : Nat → Int32) (Fn : Nat → Nat → Int32) (v0 v1 : Int32) (sz : Nat) (hI : IM cn Fn) : Met l yX12_wrong (CWS yX12_wrong cX12_wrong 3 (some .boolean)) (RM 0 0 0) (PBw [.ref (g 100), .int v0, .int v1] D cI cB cZ (wM cI cB cZ g cn In Fn) sz) (va_Qi (fun (r : Int32) (u : (Nat → Nat) × (Nat → Int32) × (Nat → Nat → Int32)) => (fun r c2 I2 F2 => (∀ k : Nat, k ∉ [21] → I2 k = In k) ∧ ((r = 0 ∧ (True) ∧ cn = c2 ∧ Fn = F2))) r u.1 u.2.1 u.2.2) (fun (u : (Nat → Nat) × (Nat → Int32) × (Nat → Nat → Int32)) (t : State) => va_P D vwCl (wM cI cB cZ g u.1 u.2.1 u.2.2) t.heap ∧ va_D (va_A (wM cI cB cZ g cn In Fn) sz) (wM cI cB cZ g u.1 u.2.1 u.2.2)) (va_A (wM cI cB cZ g cn In Fn) sz)) 0 0 (va_A (wM cI cB cZ g cn In Fn) sz) := by
  refine en_w (fun A => (va_Qi (fun (r : Int32) (u : (Nat → Nat) × (Nat → Int32) × (Nat → Nat → Int32)) => (fun (r : Int32) (c2 : Nat → Nat) (I2 : Nat → Int32) (F2 : Nat → Nat → Int32) => (∀ k : Nat, k ∉ [21] → I2 k = In k) ∧ ((r = 0 ∧ (True) ∧ cn = c2 ∧ Fn = F2))) r u.1 u.2.1 u.2.2) (fun (u : (Nat → Nat) × (Nat → Int32) × (Nat → Nat → Int32)) (t : State) => va_P D vwCl (wM cI cB cZ g u.1 u.2.1 u.2.2) t.heap ∧ va_D A (wM cI cB cZ g u.1 u.2.1 u.2.2)) A)) rfl rfl pn_RX12 (Nat.le_of_ble_eq_true rfl) (fun p e s m below meth c A hx hb hml hown S hr hlocks hnm hA hP hK hD hS ls hl => ?_)
  have hl : lv_has ls 3 [(0, .ref (g 100)), (1, .int v0), (2, .int v1)] := hl
  have hi_cn : Hid (CB cn) := hI.b
  refine lv_aload_n hx hb (oc_42 0 shX12_wrong_0) rfl (lvA0 hl) ?_
  refine lv_sipush (v := (-1000)) hx hb (oc_17 1 (aq_1 shX12_wrong_0) sgw_252_24) (by decide) ?_
  refine lv_iload_n hx hb (oc_27 4 (aq_4 shX12_wrong_0)) rfl (lvA1 hl) ?_
  refine lv_imul hx hb (oc_104 5 (aq_5 shX12_wrong_0)) ?_
  refine lv_iload_n hx hb (oc_28 6 (aq_6 shX12_wrong_0)) rfl (lvA2 hl) ?_
  refine lv_isub hx hb (oc_100 7 (aq_7 shX12_wrong_0)) ?_
  refine pM_243 S hK hP hD hS (In2 := (va_up In 21 (((-1000) * v0) - v1))) rfl (oc_181 8 (aq_8 shX12_wrong_0) uw_0_243) (fun H locs hP hD hS => ?_)
  refine lv_iconst (v := 0) hx hb (oc_3 11 (aq_11 shX12_wrong_0)) kic_0 ?_
  exact W.zret (v := 0) hx hb hr rfl (fun t ht hW => ⟨⟨0, (cn, (va_up In 21 (((-1000) * v0) - v1)), Fn), rfl, ⟨(show Fr [] [21] [] cn In Fn cn (va_up In 21 (((-1000) * v0) - v1)) Fn from Fr.mo (Fr.i 21 (Fr.rf (cn := cn) (In := In) (Fn := Fn))) (sbl rfl) (sbl rfl) (sbl rfl)).2.1, ⟨rfl, (by first | trivial | (first | omega | (have zz0 := Hid.u hi_cn; omega))), rfl, rfl⟩⟩, by rw [ht]; exact hP, hD⟩, hS.F ht⟩) hS.2.2 (oc_172 12 (aq_12 shX12_wrong_0))
set_option maxRecDepth 100000 in
set_option maxHeartbeats 4000000 in
theorem q_takes (l : Launch) (D : va_G) (cI cB cZ : ClassId) (g : Nat → Nat) (cn : Nat → Nat) (In : Nat → Int32) (Fn : Nat → Nat → Int32) (v0 : Int32) (sz : Nat) (hI : IM cn Fn) (hp : cn 19 ≤ cn 20) (hn : cn 20 ≤ 160) (hv0 : 0 ≤ v0.toInt) : Met l yX12_takes (CWS yX12_takes cX12_takes 2 (some .boolean)) (RM 1 0 0) (PBw [.ref (g 100), .int v0] D cI cB cZ (wM cI cB cZ g cn In Fn) sz) (va_Qi (fun (r : Int32) (u : (Nat → Nat) × (Nat → Int32) × (Nat → Nat → Int32)) => (fun r c2 I2 F2 => (∀ k : Nat, k ∉ [21] → I2 k = In k) ∧ ((r = 0 ∧ (True) ∧ cn = c2 ∧ Fn = F2) ∨ (r = 1 ∧ (cn 19 < cn 20) ∧ (va_up cn 19 (cn 19 + 1)) = c2 ∧ Fn = F2))) r u.1 u.2.1 u.2.2) (fun (u : (Nat → Nat) × (Nat → Int32) × (Nat → Nat → Int32)) (t : State) => va_P D vwCl (wM cI cB cZ g u.1 u.2.1 u.2.2) t.heap ∧ va_D (va_A (wM cI cB cZ g cn In Fn) sz) (wM cI cB cZ g u.1 u.2.1 u.2.2)) (va_A (wM cI cB cZ g cn In Fn) sz)) 0 0 (va_A (wM cI cB cZ g cn In Fn) sz) := by
  refine en_w (fun A => (va_Qi (fun (r : Int32) (u : (Nat → Nat) × (Nat → Int32) × (Nat → Nat → Int32)) => (fun (r : Int32) (c2 : Nat → Nat) (I2 : Nat → Int32) (F2 : Nat → Nat → Int32) => (∀ k : Nat, k ∉ [21] → I2 k = In k) ∧ ((r = 0 ∧ (True) ∧ cn = c2 ∧ Fn = F2) ∨ (r = 1 ∧ (cn 19 < cn 20) ∧ (va_up cn 19 (cn 19 + 1)) = c2 ∧ Fn = F2))) r u.1 u.2.1 u.2.2) (fun (u : (Nat → Nat) × (Nat → Int32) × (Nat → Nat → Int32)) (t : State) => va_P D vwCl (wM cI cB cZ g u.1 u.2.1 u.2.2) t.heap ∧ va_D A (wM cI cB cZ g u.1 u.2.1 u.2.2)) A)) rfl rfl pn_RX12 (Nat.le_of_ble_eq_true rfl) (fun p e s m below meth c A hx hb hml hown S hr hlocks hnm hA hP hK hD hS ls hl => ?_)
  have hl : lv_has ls 2 [(0, .ref (g 100)), (1, .int v0)] := hl
  have hi_cn : Hid (CB cn) := hI.b
  refine lv_aload_n hx hb (oc_42 0 shX12_takes_0) rfl (lvA0 hl) ?_
  refine vp_callSi (runV_ra (As := []) (rest := []) S (q_here l D cI cB cZ g cn In Fn  hI (by (first | omega | (have zz0 := Hid.u hi_cn; omega))) (by (first | omega | (have zz0 := Hid.u hi_cn; omega)))) kV_RX12_239 hK hP 0 rfl rfl rfl ⟨Nat.le_of_ble_eq_true rfl, Nat.le_of_ble_eq_true rfl⟩ ⟨Nat.le_of_ble_eq_true rfl, Nat.le_of_ble_eq_true rfl⟩ rfl hl.1 rfl (Nat.le_of_ble_eq_true rfl) (oc_182 1 (aq_1 shX12_takes_0) uw_0_239)) (fun r_1 h_2 => ?_)
  refine lv_iload_n hx hb (oc_27 4 (aq_4 shX12_takes_0)) rfl (lvA1 hl) ?_
  refine lv_icmp_eq (tgt := 18) hx hb (oc_159 5 (aq_5 shX12_takes_0) sgw_0_13) rfl (fun c_3 => ?_) (fun c_3 => ?_)
  ·
    have tc_3 : (r_1.toInt : Int) = v0.toInt := congrArg Int32.toInt c_3
    refine lv_aload_n hx hb (oc_42 18 (aq_18 shX12_takes_0)) rfl (lvA0 hl) ?_
    refine lv_aload_n hx hb (oc_42 19 (aq_19 shX12_takes_0)) rfl (lvA0 hl) ?_
    refine gM_233 S hK hP (v := .int (nI (cn 19))) rfl (oc_180 20 (aq_20 shX12_takes_0) uw_0_233) ?_
    refine lv_iconst (v := 1) hx hb (oc_4 23 (aq_23 shX12_takes_0)) kic_1 ?_
    refine lv_iadd hx hb (oc_96 24 shX12_takes_24) ?_
    refine lv_topi (fun y_4 ey_4 => ?_)
    obtain rfl : y_4 = (nI ((cn 19) + 1)) := ey_4.trans (nI_add (cn 19) 1)
    refine pM_233 S hK hP hD hS (a := ((cn 19) + 1)) (cn2 := (va_up cn 19 ((cn 19) + 1))) rfl rfl (oc_181 25 (aq_1 shX12_takes_24) uw_0_233) (fun H locs hP hD hS => ?_)
    refine lv_iconst (v := 1) hx hb (oc_4 28 (aq_4 shX12_takes_24)) kic_1 ?_
    exact W.zret (v := 1) hx hb hr rfl (fun t ht hW => ⟨⟨1, ((va_up cn 19 ((cn 19) + 1)), In, Fn), rfl, ⟨(show Fr [19] [21] [] cn In Fn (va_up cn 19 ((cn 19) + 1)) In Fn from Fr.mo (Fr.c 19 (Fr.rf (cn := cn) (In := In) (Fn := Fn))) (sbl rfl) (sbl rfl) (sbl rfl)).2.1, (Or.inr ⟨rfl, (by first | trivial | (first | omega | (have zz0 := Hid.u hi_cn; omega))), rfl, rfl⟩)⟩, by rw [ht]; exact hP, hD⟩, hS.F ht⟩) hS.2.2 (oc_172 29 (aq_5 shX12_takes_24))
  ·
    have tc_3 : (r_1.toInt : Int) ≠ v0.toInt := fun q => c_3 (Int32.toInt_inj.mp q)
    refine lv_aload_n hx hb (oc_42 8 (aq_8 shX12_takes_0)) rfl (lvA0 hl) ?_
    refine lv_iconst (v := 1) hx hb (oc_4 9 (aq_9 shX12_takes_0)) kic_1 ?_
    refine lv_aload_n hx hb (oc_42 10 (aq_10 shX12_takes_0)) rfl (lvA0 hl) ?_
    refine gM_233 S hK hP (v := .int (nI (cn 19))) rfl (oc_180 11 (aq_11 shX12_takes_0) uw_0_233) ?_
    have hFc := free_all hD hS hA
    refine va_calli (runV_a (As := [.int 1, .int (nI (cn 19))]) (rest := []) S (q_wrong l D cI cB cZ g cn In Fn 1 (nI (cn 19)) s.heap.size hI) kV_RX12_246 hK hP hD 0 rfl rfl rfl ⟨Nat.le_of_ble_eq_true rfl, Nat.le_of_ble_eq_true rfl⟩ ⟨Nat.le_of_ble_eq_true rfl, Nat.le_of_ble_eq_true rfl⟩ rfl hl.1 rfl (Nat.le_of_ble_eq_true rfl) (oc_182 14 (aq_14 shX12_takes_0) uw_0_246)) hS (fun q _ h => hFc q h) hFc (fun r_5 u t H1 locs ht hvm wh_6 hB hz1 hk1 hS => ?_)
    obtain ⟨cn6, In6, Fn6⟩ := u
    obtain ⟨hP1, hD1⟩ := hB
    rw [ht] at hP1
    have vh_6 : (fun r c2 I2 F2 => (∀ k : Nat, k ∉ [21] → I2 k = In k) ∧ ((r = 0 ∧ (True) ∧ cn = c2 ∧ Fn = F2))) r_5 cn6 In6 Fn6 := wh_6
    obtain ⟨hI6_, vh_6⟩ := vh_6
    obtain ⟨rfl, h_6, rfl, rfl⟩ := vh_6
    have hf6 : Fr [19] [21] [] cn In Fn cn In6 Fn := Fr.mo (Fr.tr (Fr.rf (cn := cn) (In := In) (Fn := Fn)) (show Fr [] [21] [] cn In Fn cn In6 Fn from ⟨fun _ _ => rfl, hI6_, fun _ _ => rfl⟩)) (sbl rfl) (sbl rfl) (sbl rfl)
    have hP : va_P D vwCl (wM cI cB cZ g cn In6 Fn) H1 := hP1
    have hD : va_D A (wM cI cB cZ g cn In6 Fn) := hD1.weaken (fun _ _ _ h => hFc _ h)
    generalize H1 = H at hP hS ⊢
    exact W.zret (v := 0) hx hb hr rfl (fun t ht hW => ⟨⟨0, (cn, In6, Fn), rfl, ⟨(show Fr [19] [21] [] cn In Fn cn In6 Fn from Fr.mo hf6 (sbl rfl) (sbl rfl) (sbl rfl)).2.1, (Or.inl ⟨rfl, (by first | trivial | (first | omega | (have zz0 := Hid.u hi_cn; omega))), rfl, rfl⟩)⟩, by rw [ht]; exact hP, hD⟩, hS.F ht⟩) hS.2.2 (oc_172 17 (aq_17 shX12_takes_0))
set_option maxRecDepth 100000 in
set_option maxHeartbeats 4000000 in
theorem q_readsNumber (l : Launch) (D : va_G) (cI cB cZ : ClassId) (g : Nat → Nat) (cn : Nat → Nat) (In : Nat → Int32) (Fn : Nat → Nat → Int32)  (sz : Nat) (hI : IM cn Fn) (hp : cn 19 ≤ cn 20) (hn : cn 20 ≤ 160) (hdg : cn 19 < cn 20 ∧ 48 ≤ (hereM cn Fn).toInt ∧ (hereM cn Fn).toInt ≤ 57) : Met l yX12_readsNumber (CWS yX12_readsNumber cX12_readsNumber 2 (some .boolean)) (RM 2 0 0) (PBw [.ref (g 100)] D cI cB cZ (wM cI cB cZ g cn In Fn) sz) (va_Qi (fun (r : Int32) (u : (Nat → Nat) × (Nat → Int32) × (Nat → Nat → Int32)) => (fun r c2 I2 F2 => Fr [19, 26] [21, 22] [] cn In Fn c2 I2 F2 ∧ IM c2 F2 ∧ (r = 0 ∨ (r = 1 ∧ cn 19 < c2 19 ∧ c2 19 ≤ cn 20 ∧ c2 26 < 1000000))) r u.1 u.2.1 u.2.2) (fun (u : (Nat → Nat) × (Nat → Int32) × (Nat → Nat → Int32)) (t : State) => va_P D vwCl (wM cI cB cZ g u.1 u.2.1 u.2.2) t.heap ∧ va_D (va_A (wM cI cB cZ g cn In Fn) sz) (wM cI cB cZ g u.1 u.2.1 u.2.2)) (va_A (wM cI cB cZ g cn In Fn) sz)) 0 0 (va_A (wM cI cB cZ g cn In Fn) sz) := by
  refine en_w (fun A => (va_Qi (fun (r : Int32) (u : (Nat → Nat) × (Nat → Int32) × (Nat → Nat → Int32)) => (fun (r : Int32) (c2 : Nat → Nat) (I2 : Nat → Int32) (F2 : Nat → Nat → Int32) => Fr [19, 26] [21, 22] [] cn In Fn c2 I2 F2 ∧ IM c2 F2 ∧ (r = 0 ∨ (r = 1 ∧ cn 19 < c2 19 ∧ c2 19 ≤ cn 20 ∧ c2 26 < 1000000))) r u.1 u.2.1 u.2.2) (fun (u : (Nat → Nat) × (Nat → Int32) × (Nat → Nat → Int32)) (t : State) => va_P D vwCl (wM cI cB cZ g u.1 u.2.1 u.2.2) t.heap ∧ va_D A (wM cI cB cZ g u.1 u.2.1 u.2.2)) A)) rfl rfl pn_RX12 (Nat.le_of_ble_eq_true rfl) (fun p e s m below meth c A hx hb hml hown S hr hlocks hnm hA hP hK hD hS ls hl => ?_)
  have hl : lv_has ls 2 [(0, .ref (g 100))] := hl
  have hi_cn : Hid (CB cn) := hI.b
  refine lv_aload_n hx hb (oc_42 0 shX12_readsNumber_0) rfl (lvA0 hl) ?_
  refine gM_233 S hK hP (v := .int (nI (cn 19))) rfl (oc_180 1 (aq_1 shX12_readsNumber_0) uw_0_233) ?_
  refine lv_istore_n (lv' := [(1, .int (nI (cn 19))), (0, .ref (g 100))]) hx hb (oc_60 4 (aq_4 shX12_readsNumber_0)) rfl hl (ltb rfl) rfl (fun ls hl => ?_)
  refine lv_aload_n hx hb (oc_42 5 (aq_5 shX12_readsNumber_0)) rfl (lvA1 hl) ?_
  refine lv_iconst (v := 0) hx hb (oc_3 6 (aq_6 shX12_readsNumber_0)) kic_0 ?_
  refine pM_250 S hK hP hD hS (a := 0) (cn2 := (va_up cn 26 0)) rfl rfl (oc_181 7 (aq_7 shX12_readsNumber_0) uw_0_250) (fun H locs hP hD hS => ?_)
  have lp_10 : ∀ (n : Nat)  (c10 : Nat → Nat) (I10 : Nat → Int32) (H : Heap) (locs : List Loc) , cn 20 - c10 19 < n → (Fr [19, 26] [21, 22] [] cn In Fn c10 I10 Fn ∧ IM c10 Fn ∧ (cn 19 ≤ c10 19 ∧ c10 19 ≤ cn 19 + 6 ∧ c10 26 < 10 ^ (c10 19 - cn 19)) ∧ (c10 19 ≤ cn 20)) → va_P D vwCl (wM cI cB cZ g c10 I10 Fn) H → va_D A (wM cI cB cZ g c10 I10 Fn) → va_S A s.heap H locs → ∀ ls : Array Slot, lv_has ls 2 [(1, .int (nI (cn 19))), (0, .ref (g 100))] → W p l e (RM 2 0 0) s m ([.ref (g 100)]).toArray below meth c H locs 0 0 (MQ below (va_Qi (fun (r : Int32) (u : (Nat → Nat) × (Nat → Int32) × (Nat → Nat → Int32)) => (fun r c2 I2 F2 => Fr [19, 26] [21, 22] [] cn In Fn c2 I2 F2 ∧ IM c2 F2 ∧ (r = 0 ∨ (r = 1 ∧ cn 19 < c2 19 ∧ c2 19 ≤ cn 20 ∧ c2 26 < 1000000))) r u.1 u.2.1 u.2.2) (fun (u : (Nat → Nat) × (Nat → Int32) × (Nat → Nat → Int32)) (t : State) => va_P D vwCl (wM cI cB cZ g u.1 u.2.1 u.2.2) t.heap ∧ va_D A (wM cI cB cZ g u.1 u.2.1 u.2.2)) A) ([.ref (g 100)]).toArray s 0 0 A) (F0 m 10 ls []) := by
    intro n10
    induction n10 with
    | zero => intros; (first | omega | (have zz0 := Hid.u hi_cn; omega))
    | succ n10 ih10 =>
      intro  c10 I10 H locs hmu10 hinv10 hP hD hS ls hl
      obtain ⟨hfr10, hI10, hx10_0, hx10_1⟩ := hinv10
      have hi_c10 : Hid (CB c10) := hI10.b
      have : c10 20 = cn 20 := hfr10.1 20 (nml rfl)
      have : c10 23 = cn 23 := hfr10.1 23 (nml rfl)
      have : c10 24 = cn 24 := hfr10.1 24 (nml rfl)
      have : c10 25 = cn 25 := hfr10.1 25 (nml rfl)
      have hq_c10 := Hid.i (frq_19_26_0_1_2_46_57_58_62_63_75_83_44 hfr10)
      refine lv_aload_n hx hb (oc_42 10 (aq_10 shX12_readsNumber_0)) rfl (lvA1 hl) ?_
      refine vp_callSi (runV_ra (As := []) (rest := []) S (q_isDigit l D cI cB cZ g c10 I10 Fn  hI10 (by (first | omega | (have zz0 := Hid.u hi_c10; have zz1 := Hid.u hi_cn; have zz2 := Hid.u hq_c10; omega))) (by (first | omega | (have zz0 := Hid.u hi_c10; have zz1 := Hid.u hi_cn; have zz2 := Hid.u hq_c10; omega)))) kV_RX12_253 hK hP 0 rfl rfl rfl ⟨Nat.le_of_ble_eq_true rfl, Nat.le_of_ble_eq_true rfl⟩ ⟨Nat.le_of_ble_eq_true rfl, Nat.le_of_ble_eq_true rfl⟩ rfl hl.1 rfl (Nat.le_of_ble_eq_true rfl) (oc_182 11 (aq_11 shX12_readsNumber_0) uw_0_253)) (fun r_1 h_2 => ?_)
      rcases h_2 with ⟨rfl, h_2⟩ | ⟨rfl, h_2⟩
      ·
        have h_2 : (c10 19) < (c10 20) ∧ 48 ≤ (hereM c10 Fn).toInt ∧ (hereM c10 Fn).toInt ≤ 57 := h_2
        refine lv_if_eq (tgt := 70) hx hb (oc_153 14 (aq_14 shX12_readsNumber_0) sgw_0_56) rfl (fun h => absurd h cq_eq_1_0) (fun _ => ?_)
        refine lv_aload_n hx hb (oc_42 17 (aq_17 shX12_readsNumber_0)) rfl (lvA1 hl) ?_
        refine gM_233 S hK hP (v := .int (nI (c10 19))) rfl (oc_180 18 (aq_18 shX12_readsNumber_0) uw_0_233) ?_
        refine lv_iload_n hx hb (oc_27 21 (aq_21 shX12_readsNumber_0)) rfl (lvA0 hl) ?_
        refine lv_bipush (v := 6) hx hb (oc_16 22 (aq_22 shX12_readsNumber_0) sgb_6) kbc_6 ?_
        refine lv_iadd hx hb (oc_96 24 shX12_readsNumber_24) ?_
        refine lv_topi (fun y_3 ey_3 => ?_)
        obtain rfl : y_3 = (nI ((cn 19) + 6)) := ey_3.trans (nI_add (cn 19) 6)
        have : (nI (c10 19)).toInt = (((c10 19) : Nat) : Int) := nI_toInt (by (first | omega | (have zz0 := Hid.u hi_c10; have zz1 := Hid.u hi_cn; have zz2 := Hid.u hq_c10; omega)))
        have : (nI ((cn 19) + 6)).toInt = ((((cn 19) + 6) : Nat) : Int) := nI_toInt (by (first | omega | (have zz0 := Hid.u hi_c10; have zz1 := Hid.u hi_cn; have zz2 := Hid.u hq_c10; omega)))
        refine lv_icmp_ne (tgt := 38) hx hb (oc_160 25 (aq_1 shX12_readsNumber_24) sgw_0_13) rfl (fun c_4 => ?_) (fun c_4 => ?_)
        ·
          have tc_4 : ((nI (c10 19)).toInt : Int) ≠ (nI ((cn 19) + 6)).toInt := fun q => c_4 (Int32.toInt_inj.mp q)
          refine lv_aload_n hx hb (oc_42 38 (aq_14 shX12_readsNumber_24)) rfl (lvA1 hl) ?_
          refine lv_bipush (v := 10) hx hb (oc_16 39 (aq_15 shX12_readsNumber_24) sgb_10) kbc_10 ?_
          refine lv_aload_n hx hb (oc_42 41 (aq_17 shX12_readsNumber_24)) rfl (lvA1 hl) ?_
          refine gM_250 S hK hP (v := .int (nI (c10 26))) rfl (oc_180 42 (aq_18 shX12_readsNumber_24) uw_0_250) ?_
          refine lv_imul hx hb (oc_104 45 (aq_21 shX12_readsNumber_24)) ?_
          refine lv_topi (fun y_5 ey_5 => ?_)
          obtain rfl : y_5 = (nI (10 * (c10 26))) := ey_5.trans (pk_mul 10 (c10 26))
          refine lv_aload_n hx hb (oc_42 46 (aq_22 shX12_readsNumber_24)) rfl (lvA1 hl) ?_
          refine vp_callSi (runV_ra (As := []) (rest := [.int (nI (10 * (c10 26))), .ref (g 100)]) S (q_here l D cI cB cZ g c10 I10 Fn  hI10 (by (first | omega | (have zz0 := Hid.u hi_c10; have zz1 := Hid.u hi_cn; have zz2 := Hid.u hq_c10; omega))) (by (first | omega | (have zz0 := Hid.u hi_c10; have zz1 := Hid.u hi_cn; have zz2 := Hid.u hq_c10; omega)))) kV_RX12_239 hK hP 0 rfl rfl rfl ⟨Nat.le_of_ble_eq_true rfl, Nat.le_of_ble_eq_true rfl⟩ ⟨Nat.le_of_ble_eq_true rfl, Nat.le_of_ble_eq_true rfl⟩ rfl hl.1 rfl (Nat.le_of_ble_eq_true rfl) (oc_182 47 (aq_23 shX12_readsNumber_24) uw_0_239)) (fun r_6 h_7 => ?_)
          have hd10 : ∃ d : Nat, 48 ≤ d ∧ d ≤ 57 ∧ r_6 = nI d := ⟨r_6.toInt.toNat, by (first | omega | (have zz0 := Hid.u hi_c10; have zz1 := Hid.u hi_cn; have zz2 := Hid.u hq_c10; omega)), by (first | omega | (have zz0 := Hid.u hi_c10; have zz1 := Hid.u hi_cn; have zz2 := Hid.u hq_c10; omega)), nI_ofT (by (first | omega | (have zz0 := Hid.u hi_c10; have zz1 := Hid.u hi_cn; have zz2 := Hid.u hq_c10; omega))) (by (first | omega | (have zz0 := Hid.u hi_c10; have zz1 := Hid.u hi_cn; have zz2 := Hid.u hq_c10; omega)))⟩
          obtain ⟨d10, hd48, hd57, hdr⟩ := hd10
          obtain rfl : r_6 = nI d10 := hdr
          refine lv_iadd hx hb (oc_96 50 shX12_readsNumber_50) ?_
          refine lv_topi (fun y_8 ey_8 => ?_)
          obtain rfl : y_8 = (nI ((10 * (c10 26)) + d10)) := ey_8.trans (nI_add (10 * (c10 26)) d10)
          refine lv_bipush (v := 48) hx hb (oc_16 51 (aq_1 shX12_readsNumber_50) sgb_48) kbc_48 ?_
          refine lv_isub hx hb (oc_100 53 (aq_3 shX12_readsNumber_50)) ?_
          refine lv_topi (fun y_9 ey_9 => ?_)
          obtain rfl : y_9 = (nI (10 * c10 26 + d10 - 48)) := ey_9.trans (nI_sub (b := 48) (by (first | omega | (have zz0 := Hid.u hi_c10; have zz1 := Hid.u hi_cn; have zz2 := Hid.u hq_c10; omega))))
          refine pM_250 S hK hP hD hS (a := (10 * c10 26 + d10 - 48)) (cn2 := (va_up c10 26 (10 * c10 26 + d10 - 48))) rfl rfl (oc_181 54 (aq_4 shX12_readsNumber_50) uw_0_250) (fun H locs hP hD hS => ?_)
          refine lv_aload_n hx hb (oc_42 57 (aq_7 shX12_readsNumber_50)) rfl (lvA1 hl) ?_
          refine lv_aload_n hx hb (oc_42 58 (aq_8 shX12_readsNumber_50)) rfl (lvA1 hl) ?_
          refine gM_233 S hK hP (v := .int (nI (c10 19))) rfl (oc_180 59 (aq_9 shX12_readsNumber_50) uw_0_233) ?_
          refine lv_iconst (v := 1) hx hb (oc_4 62 (aq_12 shX12_readsNumber_50)) kic_1 ?_
          refine lv_iadd hx hb (oc_96 63 (aq_13 shX12_readsNumber_50)) ?_
          refine lv_topi (fun y_10 ey_10 => ?_)
          obtain rfl : y_10 = (nI ((c10 19) + 1)) := ey_10.trans (nI_add (c10 19) 1)
          refine pM_233 S hK hP hD hS (a := ((c10 19) + 1)) (cn2 := (va_up (va_up c10 26 (10 * c10 26 + d10 - 48)) 19 ((c10 19) + 1))) rfl rfl (oc_181 64 (aq_14 shX12_readsNumber_50) uw_0_233) (fun H locs hP hD hS => ?_)
          refine lv_goto (tgt := 10) hx hb (oc_167 67 (aq_17 shX12_readsNumber_50) sgw_255_199) rfl ?_
          exact ih10  (va_up (va_up c10 26 (10 * c10 26 + d10 - 48)) 19 ((c10 19) + 1)) I10 _ _ (show cn 20 - ((c10 19) + 1) < n10 by (first | omega | (have zz0 := Hid.u hi_c10; have zz1 := Hid.u hi_cn; have zz2 := Hid.u hq_c10; omega))) ⟨(Fr.mo (Fr.c 19 (Fr.c 26 hfr10)) (sbl rfl) (sbl rfl) (sbl rfl)), (IM.fr (In := I10) hI10 (Fr.c 19 (Fr.c 26 Fr.rf)) (by decide) (by decide)), ⟨by show cn 19 ≤ c10 19 + 1; (first | omega | (have zz0 := Hid.u hi_c10; have zz1 := Hid.u hi_cn; have zz2 := Hid.u hq_c10; omega)), by show c10 19 + 1 ≤ cn 19 + 6; (first | omega | (have zz0 := Hid.u hi_c10; have zz1 := Hid.u hi_cn; have zz2 := Hid.u hq_c10; omega)), by show 10 * c10 26 + d10 - 48 < 10 ^ (c10 19 + 1 - cn 19); rw [show c10 19 + 1 - cn 19 = c10 19 - cn 19 + 1 by (first | omega | (have zz0 := Hid.u hi_c10; have zz1 := Hid.u hi_cn; have zz2 := Hid.u hq_c10; omega)), Nat.pow_succ]; (first | omega | (have zz0 := Hid.u hi_c10; have zz1 := Hid.u hi_cn; have zz2 := Hid.u hq_c10; omega))⟩, (by show c10 19 + 1 ≤ cn 20; (first | omega | (have zz0 := Hid.u hi_c10; have zz1 := Hid.u hi_cn; have zz2 := Hid.u hq_c10; omega)))⟩ hP hD hS ls (lv_sub hl [0, 1] rfl)
        ·
          have tc_4 : ((nI (c10 19)).toInt : Int) = (nI ((cn 19) + 6)).toInt := congrArg Int32.toInt c_4
          refine lv_aload_n hx hb (oc_42 28 (aq_4 shX12_readsNumber_24)) rfl (lvA1 hl) ?_
          refine lv_iconst (v := 2) hx hb (oc_5 29 (aq_5 shX12_readsNumber_24)) kic_2 ?_
          refine lv_aload_n hx hb (oc_42 30 (aq_6 shX12_readsNumber_24)) rfl (lvA1 hl) ?_
          refine gM_233 S hK hP (v := .int (nI (c10 19))) rfl (oc_180 31 (aq_7 shX12_readsNumber_24) uw_0_233) ?_
          have hFc := free_all hD hS hA
          refine va_calli (runV_a (As := [.int 2, .int (nI (c10 19))]) (rest := []) S (q_wrong l D cI cB cZ g c10 I10 Fn 2 (nI (c10 19)) H.size hI10) kV_RX12_246 hK hP hD 0 rfl rfl rfl ⟨Nat.le_of_ble_eq_true rfl, Nat.le_of_ble_eq_true rfl⟩ ⟨Nat.le_of_ble_eq_true rfl, Nat.le_of_ble_eq_true rfl⟩ rfl hl.1 rfl (Nat.le_of_ble_eq_true rfl) (oc_182 34 (aq_10 shX12_readsNumber_24) uw_0_246)) hS (fun q _ h => hFc q h) hFc (fun r_11 u t H1 locs ht hvm wh_12 hB hz1 hk1 hS => ?_)
          obtain ⟨cn12, In12, Fn12⟩ := u
          obtain ⟨hP1, hD1⟩ := hB
          rw [ht] at hP1
          have vh_12 : (fun r c2 I2 F2 => (∀ k : Nat, k ∉ [21] → I2 k = I10 k) ∧ ((r = 0 ∧ (True) ∧ c10 = c2 ∧ Fn = F2))) r_11 cn12 In12 Fn12 := wh_12
          obtain ⟨hI12_, vh_12⟩ := vh_12
          obtain ⟨rfl, h_12, rfl, rfl⟩ := vh_12
          have hf12 : Fr [19, 26] [21, 22] [] cn In Fn c10 In12 Fn := Fr.mo (Fr.tr hfr10 (show Fr [] [21] [] c10 I10 Fn c10 In12 Fn from ⟨fun _ _ => rfl, hI12_, fun _ _ => rfl⟩)) (sbl rfl) (sbl rfl) (sbl rfl)
          have hP : va_P D vwCl (wM cI cB cZ g c10 In12 Fn) H1 := hP1
          have hD : va_D A (wM cI cB cZ g c10 In12 Fn) := hD1.weaken (fun _ _ _ h => hFc _ h)
          generalize H1 = H at hP hS ⊢
          exact W.zret (v := 0) hx hb hr rfl (fun t ht hW => ⟨⟨0, (c10, In12, Fn), rfl, ⟨(Fr.mo hf12 (sbl rfl) (sbl rfl) (sbl rfl)), hI10, (by show 0 = 0 ∨ (0 = 1 ∧ cn 19 < c10 19 ∧ c10 19 ≤ cn 20 ∧ c10 26 < 1000000); exact Or.inl rfl)⟩, by rw [ht]; exact hP, hD⟩, hS.F ht⟩) hS.2.2 (oc_172 37 (aq_13 shX12_readsNumber_24))
      ·
        have h_2 : ¬ ((c10 19) < (c10 20) ∧ 48 ≤ (hereM c10 Fn).toInt ∧ (hereM c10 Fn).toInt ≤ 57) := h_2
        refine lv_if_eq (tgt := 70) hx hb (oc_153 14 (aq_14 shX12_readsNumber_0) sgw_0_56) rfl (fun _ => ?_) (fun h => absurd h cq_eq_0_0)
        have hc6 : c10 26 < 1000000 := Nat.lt_of_lt_of_le hx10_0.2.2 (show 10 ^ (c10 19 - cn 19) ≤ 10 ^ 6 from Nat.pow_le_pow_right (by (first | omega | (have zz0 := Hid.u hi_c10; have zz1 := Hid.u hi_cn; have zz2 := Hid.u hq_c10; omega))) (by (first | omega | (have zz0 := Hid.u hi_c10; have zz1 := Hid.u hi_cn; have zz2 := Hid.u hq_c10; omega))))
        refine lv_iconst (v := 1) hx hb (oc_4 70 (aq_20 shX12_readsNumber_50)) kic_1 ?_
        exact W.zret (v := 1) hx hb hr rfl (fun t ht hW => ⟨⟨1, (c10, I10, Fn), rfl, ⟨(Fr.mo hfr10 (sbl rfl) (sbl rfl) (sbl rfl)), hI10, (by show 1 = 0 ∨ (1 = 1 ∧ cn 19 < c10 19 ∧ c10 19 ≤ cn 20 ∧ c10 26 < 1000000); exact Or.inr ⟨rfl, by by_cases z : c10 19 = cn 19; (have e := congrArg Int32.toInt (hereM_cg (Fn := Fn) (F2 := Fn) z (hfr10.1 20 (nml rfl)) rfl); (first | omega | (have zz0 := Hid.u hi_c10; have zz1 := Hid.u hi_cn; have zz2 := Hid.u hq_c10; omega))); (first | omega | (have zz0 := Hid.u hi_c10; have zz1 := Hid.u hi_cn; have zz2 := Hid.u hq_c10; omega)), by (first | omega | (have zz0 := Hid.u hi_c10; have zz1 := Hid.u hi_cn; have zz2 := Hid.u hq_c10; omega)), hc6⟩)⟩, by rw [ht]; exact hP, hD⟩, hS.F ht⟩) hS.2.2 (oc_172 71 (aq_21 shX12_readsNumber_50))
  exact lp_10 _  (va_up cn 26 0) In _ _ (Nat.lt_succ_self _) ⟨(Fr.mo (Fr.c 26 Fr.rf) (sbl rfl) (sbl rfl) (sbl rfl)), (IM.fr (In := In) hI (Fr.c 26 Fr.rf) (by decide) (by decide)), ⟨Nat.le_refl _, by show cn 19 ≤ cn 19 + 6; (first | omega | (have zz0 := Hid.u hi_cn; omega)), by show 0 < 10 ^ (cn 19 - cn 19); rw [Nat.sub_self]; decide⟩, (by show cn 19 ≤ cn 20; (first | omega | (have zz0 := Hid.u hi_cn; omega)))⟩ hP hD hS ls (lv_sub hl [0, 1] rfl)
set_option maxRecDepth 100000 in
set_option maxHeartbeats 4000000 in
theorem q_says (l : Launch) (D : va_G) (cI cB cZ : ClassId) (g : Nat → Nat) (cn : Nat → Nat) (In : Nat → Int32) (Fn : Nat → Nat → Int32) (o0 x0 : Nat) (sz : Nat) (hI : IM cn Fn) (h23 : cn 23 < 180) : Met l yX12_says (CWS yX12_says cX12_says 3 none) (RM 0 0 0) (PBw [.ref (g 100), .int (nI o0), .int (nI x0)] D cI cB cZ (wM cI cB cZ g cn In Fn) sz) (va_Qv (fun (u : (Nat → Nat) × (Nat → Int32) × (Nat → Nat → Int32)) => (fun c2 I2 F2 => (∀ k : Nat, k ∉ [] → I2 k = In k) ∧ (((True) ∧ (va_up cn 23 (cn 23 + 1)) = c2 ∧ (va_up Fn 27 (upd (Fn 27) (cn 23) (nI (o0 * 1048576 + x0)))) = F2))) u.1 u.2.1 u.2.2) (fun (u : (Nat → Nat) × (Nat → Int32) × (Nat → Nat → Int32)) (t : State) => va_P D vwCl (wM cI cB cZ g u.1 u.2.1 u.2.2) t.heap ∧ va_D (va_A (wM cI cB cZ g cn In Fn) sz) (wM cI cB cZ g u.1 u.2.1 u.2.2)) (va_A (wM cI cB cZ g cn In Fn) sz)) 0 0 (va_A (wM cI cB cZ g cn In Fn) sz) := by
  refine en_w (fun A => (va_Qv (fun (u : (Nat → Nat) × (Nat → Int32) × (Nat → Nat → Int32)) => (fun (c2 : Nat → Nat) (I2 : Nat → Int32) (F2 : Nat → Nat → Int32) => (∀ k : Nat, k ∉ [] → I2 k = In k) ∧ (((True) ∧ (va_up cn 23 (cn 23 + 1)) = c2 ∧ (va_up Fn 27 (upd (Fn 27) (cn 23) (nI (o0 * 1048576 + x0)))) = F2))) u.1 u.2.1 u.2.2) (fun (u : (Nat → Nat) × (Nat → Int32) × (Nat → Nat → Int32)) (t : State) => va_P D vwCl (wM cI cB cZ g u.1 u.2.1 u.2.2) t.heap ∧ va_D A (wM cI cB cZ g u.1 u.2.1 u.2.2)) A)) rfl rfl pn_RX12 (Nat.le_of_ble_eq_true rfl) (fun p e s m below meth c A hx hb hml hown S hr hlocks hnm hA hP hK hD hS ls hl => ?_)
  have hl : lv_has ls 3 [(0, .ref (g 100)), (1, .int (nI o0)), (2, .int (nI x0))] := hl
  have hi_cn : Hid (CB cn) := hI.b
  refine lv_aload_n hx hb (oc_42 0 shX12_says_0) rfl (lvA0 hl) ?_
  refine gM_56 S hK hP (v := .ref (g 27)) rfl (oc_180 1 (aq_1 shX12_says_0) uw_0_56) ?_
  refine lv_aload_n hx hb (oc_42 4 (aq_4 shX12_says_0)) rfl (lvA0 hl) ?_
  refine gM_257 S hK hP (v := .int (nI (cn 23))) rfl (oc_180 5 (aq_5 shX12_says_0) uw_1_1) ?_
  refine lv_ldcw (v := 1048576) hx hb hown (S.2.2.2.2 _ (wk7_17 11 rfl rfl)) (oc_19 8 (aq_8 shX12_says_0) uw_1_4) ?_
  refine lv_iload_n hx hb (oc_27 11 (aq_11 shX12_says_0)) rfl (lvA1 hl) ?_
  refine lv_imul hx hb (oc_104 12 (aq_12 shX12_says_0)) ?_
  refine lv_topi (fun y_1 ey_1 => ?_)
  obtain rfl : y_1 = (nI (o0 * 1048576)) := ey_1.trans ((pk_mul 1048576 o0).trans (congrArg nI (Nat.mul_comm _ _)))
  refine lv_iload_n hx hb (oc_28 13 (aq_13 shX12_says_0)) rfl (lvA2 hl) ?_
  refine lv_iadd hx hb (oc_96 14 (aq_14 shX12_says_0)) ?_
  refine lv_topi (fun y_2 ey_2 => ?_)
  obtain rfl : y_2 = (nI ((o0 * 1048576) + x0)) := ey_2.trans (nI_add (o0 * 1048576) x0)
  have kb_1 : (cn 23) < 180 := by (first | omega | (have zz0 := Hid.u hi_cn; omega))
  refine stM_27 hx hb hK hP hD hS (Fn2 := (va_up Fn 27 (upd (Fn 27) (cn 23) (nI ((o0 * 1048576) + x0))))) (vp_in_nI kb_1 (ltb rfl)) (nI_clamp (Nat.lt_trans kb_1 (ltb rfl))) rfl (oc_79 15 (aq_15 shX12_says_0)) (fun H locs hP hD hS => ?_)
  refine lv_aload_n hx hb (oc_42 16 (aq_16 shX12_says_0)) rfl (lvA0 hl) ?_
  refine lv_aload_n hx hb (oc_42 17 (aq_17 shX12_says_0)) rfl (lvA0 hl) ?_
  refine gM_257 S hK hP (v := .int (nI (cn 23))) rfl (oc_180 18 (aq_18 shX12_says_0) uw_1_1) ?_
  refine lv_iconst (v := 1) hx hb (oc_4 21 (aq_21 shX12_says_0)) kic_1 ?_
  refine lv_iadd hx hb (oc_96 22 (aq_22 shX12_says_0)) ?_
  refine lv_topi (fun y_3 ey_3 => ?_)
  obtain rfl : y_3 = (nI ((cn 23) + 1)) := ey_3.trans (nI_add (cn 23) 1)
  refine pM_257 S hK hP hD hS (a := ((cn 23) + 1)) (cn2 := (va_up cn 23 ((cn 23) + 1))) rfl rfl (oc_181 23 (aq_23 shX12_says_0) uw_1_1) (fun H locs hP hD hS => ?_)
  exact W.vret hx hb hr (fun t ht hW => ⟨⟨((va_up cn 23 ((cn 23) + 1)), In, (va_up Fn 27 (upd (Fn 27) (cn 23) (nI ((o0 * 1048576) + x0))))), rfl, ⟨(show Fr [23] [] [27] cn In Fn (va_up cn 23 ((cn 23) + 1)) In (va_up Fn 27 (upd (Fn 27) (cn 23) (nI ((o0 * 1048576) + x0)))) from Fr.mo (Fr.f 27 (Fr.c 23 (Fr.rf (cn := cn) (In := In) (Fn := Fn)))) (sbl rfl) (sbl rfl) (sbl rfl)).2.1, ⟨(by first | trivial | (first | omega | (have zz0 := Hid.u hi_cn; omega))), rfl, rfl⟩⟩, by rw [ht]; exact hP, hD⟩, hS.F ht⟩) hS.2.2 (oc_177 26 shX12_says_26)
set_option maxRecDepth 100000 in
set_option maxHeartbeats 4000000 in
theorem q_opens (l : Launch) (D : va_G) (cI cB cZ : ClassId) (g : Nat → Nat) (cn : Nat → Nat) (In : Nat → Int32) (Fn : Nat → Nat → Int32) (k0 : Nat) (sz : Nat) (hI : IM cn Fn) (h24 : cn 24 < 180) : Met l yX12_opens (CWS yX12_opens cX12_opens 2 (some .boolean)) (RM 1 0 0) (PBw [.ref (g 100), .int (nI k0)] D cI cB cZ (wM cI cB cZ g cn In Fn) sz) (va_Qi (fun (r : Int32) (u : (Nat → Nat) × (Nat → Int32) × (Nat → Nat → Int32)) => (fun r c2 I2 F2 => (∀ k : Nat, k ∉ [21, 22] → I2 k = In k) ∧ ((r = 0 ∧ (True) ∧ cn = c2 ∧ Fn = F2) ∨ (r = 1 ∧ (True) ∧ (va_up (va_up cn 24 (cn 24 + 1)) 19 (cn 19 + 1)) = c2 ∧ (va_up Fn 28 (upd (Fn 28) (cn 24) (nI (k0 * 1048576)))) = F2))) r u.1 u.2.1 u.2.2) (fun (u : (Nat → Nat) × (Nat → Int32) × (Nat → Nat → Int32)) (t : State) => va_P D vwCl (wM cI cB cZ g u.1 u.2.1 u.2.2) t.heap ∧ va_D (va_A (wM cI cB cZ g cn In Fn) sz) (wM cI cB cZ g u.1 u.2.1 u.2.2)) (va_A (wM cI cB cZ g cn In Fn) sz)) 0 0 (va_A (wM cI cB cZ g cn In Fn) sz) := by
  refine en_w (fun A => (va_Qi (fun (r : Int32) (u : (Nat → Nat) × (Nat → Int32) × (Nat → Nat → Int32)) => (fun (r : Int32) (c2 : Nat → Nat) (I2 : Nat → Int32) (F2 : Nat → Nat → Int32) => (∀ k : Nat, k ∉ [21, 22] → I2 k = In k) ∧ ((r = 0 ∧ (True) ∧ cn = c2 ∧ Fn = F2) ∨ (r = 1 ∧ (True) ∧ (va_up (va_up cn 24 (cn 24 + 1)) 19 (cn 19 + 1)) = c2 ∧ (va_up Fn 28 (upd (Fn 28) (cn 24) (nI (k0 * 1048576)))) = F2))) r u.1 u.2.1 u.2.2) (fun (u : (Nat → Nat) × (Nat → Int32) × (Nat → Nat → Int32)) (t : State) => va_P D vwCl (wM cI cB cZ g u.1 u.2.1 u.2.2) t.heap ∧ va_D A (wM cI cB cZ g u.1 u.2.1 u.2.2)) A)) rfl rfl pn_RX12 (Nat.le_of_ble_eq_true rfl) (fun p e s m below meth c A hx hb hml hown S hr hlocks hnm hA hP hK hD hS ls hl => ?_)
  have hl : lv_has ls 2 [(0, .ref (g 100)), (1, .int (nI k0))] := hl
  have hi_cn : Hid (CB cn) := hI.b
  refine lv_aload_n hx hb (oc_42 0 shX12_opens_0) rfl (lvA0 hl) ?_
  refine gM_261 S hK hP (v := .int (In 22)) rfl (oc_180 1 (aq_1 shX12_opens_0) uw_1_5) ?_
  refine lv_bipush (v := 6) hx hb (oc_16 4 (aq_4 shX12_opens_0) sgb_6) kbc_6 ?_
  refine lv_icmp_ne (tgt := 19) hx hb (oc_160 6 (aq_6 shX12_opens_0) sgw_0_13) rfl (fun c_1 => ?_) (fun c_1 => ?_)
  ·
    have tc_1 : ((In 22).toInt : Int) ≠ 6 := fun q => c_1 (Int32.toInt_inj.mp q)
    refine lv_aload_n hx hb (oc_42 19 (aq_19 shX12_opens_0)) rfl (lvA0 hl) ?_
    refine lv_aload_n hx hb (oc_42 20 (aq_20 shX12_opens_0)) rfl (lvA0 hl) ?_
    refine gM_261 S hK hP (v := .int (In 22)) rfl (oc_180 21 (aq_21 shX12_opens_0) uw_1_5) ?_
    refine lv_iconst (v := 1) hx hb (oc_4 24 shX12_opens_24) kic_1 ?_
    refine lv_iadd hx hb (oc_96 25 (aq_1 shX12_opens_24)) ?_
    refine pM_261 S hK hP hD hS (In2 := (va_up In 22 ((In 22) + 1))) rfl (oc_181 26 (aq_2 shX12_opens_24) uw_1_5) (fun H locs hP hD hS => ?_)
    refine lv_aload_n hx hb (oc_42 29 (aq_5 shX12_opens_24)) rfl (lvA0 hl) ?_
    refine gM_59 S hK hP (v := .ref (g 28)) rfl (oc_180 30 (aq_6 shX12_opens_24) uw_0_59) ?_
    refine lv_aload_n hx hb (oc_42 33 (aq_9 shX12_opens_24)) rfl (lvA0 hl) ?_
    refine gM_264 S hK hP (v := .int (nI (cn 24))) rfl (oc_180 34 (aq_10 shX12_opens_24) uw_1_8) ?_
    refine lv_ldcw (v := 1048576) hx hb hown (S.2.2.2.2 _ (wk7_17 11 rfl rfl)) (oc_19 37 (aq_13 shX12_opens_24) uw_1_4) ?_
    refine lv_iload_n hx hb (oc_27 40 (aq_16 shX12_opens_24)) rfl (lvA1 hl) ?_
    refine lv_imul hx hb (oc_104 41 (aq_17 shX12_opens_24)) ?_
    refine lv_topi (fun y_2 ey_2 => ?_)
    obtain rfl : y_2 = (nI (k0 * 1048576)) := ey_2.trans ((pk_mul 1048576 k0).trans (congrArg nI (Nat.mul_comm _ _)))
    have kb_1 : (cn 24) < 180 := by (first | omega | (have zz0 := Hid.u hi_cn; omega))
    refine stM_28 hx hb hK hP hD hS (Fn2 := (va_up Fn 28 (upd (Fn 28) (cn 24) (nI (k0 * 1048576))))) (vp_in_nI kb_1 (ltb rfl)) (nI_clamp (Nat.lt_trans kb_1 (ltb rfl))) rfl (oc_79 42 (aq_18 shX12_opens_24)) (fun H locs hP hD hS => ?_)
    refine lv_aload_n hx hb (oc_42 43 (aq_19 shX12_opens_24)) rfl (lvA0 hl) ?_
    refine lv_aload_n hx hb (oc_42 44 (aq_20 shX12_opens_24)) rfl (lvA0 hl) ?_
    refine gM_264 S hK hP (v := .int (nI (cn 24))) rfl (oc_180 45 (aq_21 shX12_opens_24) uw_1_8) ?_
    refine lv_iconst (v := 1) hx hb (oc_4 48 shX12_opens_48) kic_1 ?_
    refine lv_iadd hx hb (oc_96 49 (aq_1 shX12_opens_48)) ?_
    refine lv_topi (fun y_3 ey_3 => ?_)
    obtain rfl : y_3 = (nI ((cn 24) + 1)) := ey_3.trans (nI_add (cn 24) 1)
    refine pM_264 S hK hP hD hS (a := ((cn 24) + 1)) (cn2 := (va_up cn 24 ((cn 24) + 1))) rfl rfl (oc_181 50 (aq_2 shX12_opens_48) uw_1_8) (fun H locs hP hD hS => ?_)
    refine lv_aload_n hx hb (oc_42 53 (aq_5 shX12_opens_48)) rfl (lvA0 hl) ?_
    refine lv_aload_n hx hb (oc_42 54 (aq_6 shX12_opens_48)) rfl (lvA0 hl) ?_
    refine gM_233 S hK hP (v := .int (nI (cn 19))) rfl (oc_180 55 (aq_7 shX12_opens_48) uw_0_233) ?_
    refine lv_iconst (v := 1) hx hb (oc_4 58 (aq_10 shX12_opens_48)) kic_1 ?_
    refine lv_iadd hx hb (oc_96 59 (aq_11 shX12_opens_48)) ?_
    refine lv_topi (fun y_4 ey_4 => ?_)
    obtain rfl : y_4 = (nI ((cn 19) + 1)) := ey_4.trans (nI_add (cn 19) 1)
    refine pM_233 S hK hP hD hS (a := ((cn 19) + 1)) (cn2 := (va_up (va_up cn 24 ((cn 24) + 1)) 19 ((cn 19) + 1))) rfl rfl (oc_181 60 (aq_12 shX12_opens_48) uw_0_233) (fun H locs hP hD hS => ?_)
    refine lv_iconst (v := 1) hx hb (oc_4 63 (aq_15 shX12_opens_48)) kic_1 ?_
    exact W.zret (v := 1) hx hb hr rfl (fun t ht hW => ⟨⟨1, ((va_up (va_up cn 24 ((cn 24) + 1)) 19 ((cn 19) + 1)), (va_up In 22 ((In 22) + 1)), (va_up Fn 28 (upd (Fn 28) (cn 24) (nI (k0 * 1048576))))), rfl, ⟨(show Fr [19, 24] [21, 22] [28] cn In Fn (va_up (va_up cn 24 ((cn 24) + 1)) 19 ((cn 19) + 1)) (va_up In 22 ((In 22) + 1)) (va_up Fn 28 (upd (Fn 28) (cn 24) (nI (k0 * 1048576)))) from Fr.mo (Fr.f 28 (Fr.i 22 (Fr.c 19 (Fr.c 24 (Fr.rf (cn := cn) (In := In) (Fn := Fn)))))) (sbl rfl) (sbl rfl) (sbl rfl)).2.1, (Or.inr ⟨rfl, (by first | trivial | (first | omega | (have zz0 := Hid.u hi_cn; omega))), rfl, rfl⟩)⟩, by rw [ht]; exact hP, hD⟩, hS.F ht⟩) hS.2.2 (oc_172 64 (aq_16 shX12_opens_48))
  ·
    have tc_1 : ((In 22).toInt : Int) = 6 := congrArg Int32.toInt c_1
    refine lv_aload_n hx hb (oc_42 9 (aq_9 shX12_opens_0)) rfl (lvA0 hl) ?_
    refine lv_iconst (v := 5) hx hb (oc_8 10 (aq_10 shX12_opens_0)) kic_5 ?_
    refine lv_aload_n hx hb (oc_42 11 (aq_11 shX12_opens_0)) rfl (lvA0 hl) ?_
    refine gM_233 S hK hP (v := .int (nI (cn 19))) rfl (oc_180 12 (aq_12 shX12_opens_0) uw_0_233) ?_
    have hFc := free_all hD hS hA
    refine va_calli (runV_a (As := [.int 5, .int (nI (cn 19))]) (rest := []) S (q_wrong l D cI cB cZ g cn In Fn 5 (nI (cn 19)) s.heap.size hI) kV_RX12_246 hK hP hD 0 rfl rfl rfl ⟨Nat.le_of_ble_eq_true rfl, Nat.le_of_ble_eq_true rfl⟩ ⟨Nat.le_of_ble_eq_true rfl, Nat.le_of_ble_eq_true rfl⟩ rfl hl.1 rfl (Nat.le_of_ble_eq_true rfl) (oc_182 15 (aq_15 shX12_opens_0) uw_0_246)) hS (fun q _ h => hFc q h) hFc (fun r_5 u t H1 locs ht hvm wh_6 hB hz1 hk1 hS => ?_)
    obtain ⟨cn6, In6, Fn6⟩ := u
    obtain ⟨hP1, hD1⟩ := hB
    rw [ht] at hP1
    have vh_6 : (fun r c2 I2 F2 => (∀ k : Nat, k ∉ [21] → I2 k = In k) ∧ ((r = 0 ∧ (True) ∧ cn = c2 ∧ Fn = F2))) r_5 cn6 In6 Fn6 := wh_6
    obtain ⟨hI6_, vh_6⟩ := vh_6
    obtain ⟨rfl, h_6, rfl, rfl⟩ := vh_6
    have hf6 : Fr [19, 24] [21, 22] [28] cn In Fn cn In6 Fn := Fr.mo (Fr.tr (Fr.rf (cn := cn) (In := In) (Fn := Fn)) (show Fr [] [21] [] cn In Fn cn In6 Fn from ⟨fun _ _ => rfl, hI6_, fun _ _ => rfl⟩)) (sbl rfl) (sbl rfl) (sbl rfl)
    have hP : va_P D vwCl (wM cI cB cZ g cn In6 Fn) H1 := hP1
    have hD : va_D A (wM cI cB cZ g cn In6 Fn) := hD1.weaken (fun _ _ _ h => hFc _ h)
    generalize H1 = H at hP hS ⊢
    exact W.zret (v := 0) hx hb hr rfl (fun t ht hW => ⟨⟨0, (cn, In6, Fn), rfl, ⟨(show Fr [19, 24] [21, 22] [28] cn In Fn cn In6 Fn from Fr.mo hf6 (sbl rfl) (sbl rfl) (sbl rfl)).2.1, (Or.inl ⟨rfl, (by first | trivial | (first | omega | (have zz0 := Hid.u hi_cn; omega))), rfl, rfl⟩)⟩, by rw [ht]; exact hP, hD⟩, hS.F ht⟩) hS.2.2 (oc_172 18 (aq_18 shX12_opens_0))
set_option maxRecDepth 100000 in
set_option maxHeartbeats 4000000 in
theorem q_top (l : Launch) (D : va_G) (cI cB cZ : ClassId) (g : Nat → Nat) (cn : Nat → Nat) (In : Nat → Int32) (Fn : Nat → Nat → Int32)  (hI : IM cn Fn) (hw : ∀ i : Nat, i < cn 24 → WKk (Fn 28 i)) (h24 : cn 24 ≤ 180) : Met l yX12_top (CWS yX12_top cX12_top 1 (some .int)) (RM 0 0 0) (PBr [.ref (g 100)] D cI cB cZ (wM cI cB cZ g cn In Fn)) (vp_Si (fun r => (cn 24 = 0 ∧ r.toInt = -1) ∨ (0 < cn 24 ∧ r.toInt = ((kd (Fn 28 (cn 24 - 1)) : Nat) : Int) ∧ 2 ≤ kd (Fn 28 (cn 24 - 1)) ∧ kd (Fn 28 (cn 24 - 1)) ≤ 14))) 0 0 (fun _ => False) := by
  refine en_r rfl pn_RX12 (Nat.le_of_ble_eq_true rfl) (fun p e s m below meth c hx hb hml hown S hr hlocks hnm hP hK hS ls hl => ?_)
  have hl : lv_has ls 1 [(0, .ref (g 100))] := hl
  have hi_cn : Hid (CB cn) := hI.b
  refine lv_aload_n hx hb (oc_42 0 shX12_top_0) rfl (lvA0 hl) ?_
  refine gM_264 S hK hP (v := .int (nI (cn 24))) rfl (oc_180 1 (aq_1 shX12_top_0) uw_1_8) ?_
  have : (nI (cn 24)).toInt = (((cn 24) : Nat) : Int) := nI_toInt (by (first | omega | (have zz0 := Hid.u hi_cn; omega)))
  refine lv_if_ne (tgt := 11) hx hb (oc_154 4 (aq_4 shX12_top_0) sgw_0_7) rfl (fun c_1 => ?_) (fun c_1 => ?_)
  ·
    have tc_1 : ((nI (cn 24)).toInt : Int) ≠ 0 := fun q => c_1 (Int32.toInt_inj.mp q)
    refine lv_aload_n hx hb (oc_42 11 (aq_11 shX12_top_0)) rfl (lvA0 hl) ?_
    refine gM_59 S hK hP (v := .ref (g 28)) rfl (oc_180 12 (aq_12 shX12_top_0) uw_0_59) ?_
    refine lv_aload_n hx hb (oc_42 15 (aq_15 shX12_top_0)) rfl (lvA0 hl) ?_
    refine gM_264 S hK hP (v := .int (nI (cn 24))) rfl (oc_180 16 (aq_16 shX12_top_0) uw_1_8) ?_
    refine lv_iconst (v := 1) hx hb (oc_4 19 (aq_19 shX12_top_0)) kic_1 ?_
    refine lv_isub hx hb (oc_100 20 (aq_20 shX12_top_0)) ?_
    refine lv_topi (fun y_2 ey_2 => ?_)
    obtain rfl : y_2 = (nI (cn 24 - 1)) := ey_2.trans (nI_sub (b := 1) (by (first | omega | (have zz0 := Hid.u hi_cn; omega))))
    have kb_1 : (cn 24 - 1) < 180 := by (first | omega | (have zz0 := Hid.u hi_cn; omega))
    refine ldM_28 hx hb hK hP (x := ((Fn 28) (cn 24 - 1))) (vp_in_nI kb_1 (ltb rfl)) (nI_clamp (Nat.lt_trans kb_1 (ltb rfl))) rfl (oc_46 21 (aq_21 shX12_top_0)) ?_
    refine lv_ldcw (v := 1048576) hx hb hown (S.2.2.2.2 _ (wk7_17 11 rfl rfl)) (oc_19 22 (aq_22 shX12_top_0) uw_1_4) ?_
    refine lv_idiv hx hb (oc_108 25 shX12_top_25) (by decide) ?_
    refine lv_topi (fun y_3 ey_3 => ?_)
    obtain rfl : y_3 = (nI (kd (Fn 28 (cn 24 - 1)))) := ey_3.trans ((hw (cn 24 - 1) (by (first | omega | (have zz0 := Hid.u hi_cn; omega)))).div)
    exact W.iret (v := (nI (kd (Fn 28 (cn 24 - 1))))) hx hb hr (fun t ht hW => ⟨(nI (kd (Fn 28 (cn 24 - 1)))), rfl, (by have k := (hw (cn 24 - 1) (by (first | omega | (have zz0 := Hid.u hi_cn; omega)))).k; exact Or.inr ⟨by (first | omega | (have zz0 := Hid.u hi_cn; omega)), nI_toInt (by (first | omega | (have zz0 := Hid.u hi_cn; omega))), k.1, k.2⟩), ht⟩) (fun _ h => absurd h List.not_mem_nil) (oc_172 26 (aq_1 shX12_top_25))
  ·
    have tc_1 : ((nI (cn 24)).toInt : Int) = 0 := congrArg Int32.toInt c_1
    refine lv_iconst (v := (-1)) hx hb (oc_2 7 (aq_7 shX12_top_0)) kic_m1 ?_
    refine lv_goto (tgt := 26) hx hb (oc_167 8 (aq_8 shX12_top_0) sgw_0_18) rfl ?_
    exact W.iret (v := (-1)) hx hb hr (fun t ht hW => ⟨(-1), rfl, (Or.inl ⟨by (first | omega | (have zz0 := Hid.u hi_cn; omega)), rfl⟩), ht⟩) (fun _ h => absurd h List.not_mem_nil) (oc_172 26 (aq_1 shX12_top_25))
set_option maxRecDepth 100000 in
set_option maxHeartbeats 4000000 in
theorem q_factOf (l : Launch) (D : va_G) (cI cB cZ : ClassId) (v0 : Int32)  : Met l yX12_factOf (CWS yX12_factOf cX12_factOf 1 (some .int)) (RM 0 0 0) (PBr [.int v0] D cI cB cZ []) (vp_Si (fun r => r = -1 ∨ ∃ n : Nat, n ≤ 10 ∧ 97 ≤ v0.toInt ∧ r = nI n)) 0 0 (fun _ => False) := by
  refine en_r rfl pn_RX12 (Nat.le_of_ble_eq_true rfl) (fun p e s m below meth c hx hb hml hown S hr hlocks hnm hP hK hS ls hl => ?_)
  have hl : lv_has ls 1 [(0, .int v0)] := hl
  refine lv_iload_n hx hb (oc_26 0 shX12_factOf_0) rfl (lvA0 hl) ?_
  rcases (by omega : v0.toInt < 97 ∨ 119 < v0.toInt ∨ v0.toInt = 97 ∨ v0.toInt = 98 ∨ v0.toInt = 99 ∨ v0.toInt = 100 ∨ v0.toInt = 101 ∨ v0.toInt = 102 ∨ v0.toInt = 103 ∨ v0.toInt = 104 ∨ v0.toInt = 105 ∨ v0.toInt = 106 ∨ v0.toInt = 107 ∨ v0.toInt = 108 ∨ v0.toInt = 109 ∨ v0.toInt = 110 ∨ v0.toInt = 111 ∨ v0.toInt = 112 ∨ v0.toInt = 113 ∨ v0.toInt = 114 ∨ v0.toInt = 115 ∨ v0.toInt = 116 ∨ v0.toInt = 117 ∨ v0.toInt = 118 ∨ v0.toInt = 119) with c_1 | c_1 | c_1 | c_1 | c_1 | c_1 | c_1 | c_1 | c_1 | c_1 | c_1 | c_1 | c_1 | c_1 | c_1 | c_1 | c_1 | c_1 | c_1 | c_1 | c_1 | c_1 | c_1 | c_1 | c_1
  ·
    refine lv_tableOut (tgt := 135) hx hb dX12_factOf_1 (Or.inl c_1) (by decide) ?_
    refine lv_iconst (v := (-1)) hx hb dX12_factOf_135 kic_m1 ?_
    exact W.iret (v := (-1)) hx hb hr (fun t ht hW => ⟨(-1), rfl, (Or.inl rfl), ht⟩) (fun _ h => absurd h List.not_mem_nil) dX12_factOf_136
  ·
    refine lv_tableOut (tgt := 135) hx hb dX12_factOf_1 (Or.inr c_1) (by decide) ?_
    refine lv_iconst (v := (-1)) hx hb dX12_factOf_135 kic_m1 ?_
    exact W.iret (v := (-1)) hx hb hr (fun t ht hW => ⟨(-1), rfl, (Or.inl rfl), ht⟩) (fun _ h => absurd h List.not_mem_nil) dX12_factOf_136
  ·
    refine lv_tableIn (tgt := 112) (off := 111) hx hb dX12_factOf_1 (by omega) (by omega) (by rw [c_1]; rfl) (by decide) ?_
    refine lv_iconst (v := 2) hx hb (oc_5 112 (aq_4 shX12_factOf_108)) kic_2 ?_
    exact W.iret (v := 2) hx hb hr (fun t ht hW => ⟨2, rfl, (Or.inr ⟨2, by decide, by omega, rfl⟩), ht⟩) (fun _ h => absurd h List.not_mem_nil) (oc_172 113 (aq_5 shX12_factOf_108))
  ·
    refine lv_tableIn (tgt := 135) (off := 134) hx hb dX12_factOf_1 (by omega) (by omega) (by rw [c_1]; rfl) (by decide) ?_
    refine lv_iconst (v := (-1)) hx hb dX12_factOf_135 kic_m1 ?_
    exact W.iret (v := (-1)) hx hb hr (fun t ht hW => ⟨(-1), rfl, (Or.inl rfl), ht⟩) (fun _ h => absurd h List.not_mem_nil) dX12_factOf_136
  ·
    refine lv_tableIn (tgt := 135) (off := 134) hx hb dX12_factOf_1 (by omega) (by omega) (by rw [c_1]; rfl) (by decide) ?_
    refine lv_iconst (v := (-1)) hx hb dX12_factOf_135 kic_m1 ?_
    exact W.iret (v := (-1)) hx hb hr (fun t ht hW => ⟨(-1), rfl, (Or.inl rfl), ht⟩) (fun _ h => absurd h List.not_mem_nil) dX12_factOf_136
  ·
    refine lv_tableIn (tgt := 114) (off := 113) hx hb dX12_factOf_1 (by omega) (by omega) (by rw [c_1]; rfl) (by decide) ?_
    refine lv_iconst (v := 3) hx hb (oc_6 114 (aq_6 shX12_factOf_108)) kic_3 ?_
    exact W.iret (v := 3) hx hb hr (fun t ht hW => ⟨3, rfl, (Or.inr ⟨3, by decide, by omega, rfl⟩), ht⟩) (fun _ h => absurd h List.not_mem_nil) (oc_172 115 (aq_7 shX12_factOf_108))
  ·
    refine lv_tableIn (tgt := 135) (off := 134) hx hb dX12_factOf_1 (by omega) (by omega) (by rw [c_1]; rfl) (by decide) ?_
    refine lv_iconst (v := (-1)) hx hb dX12_factOf_135 kic_m1 ?_
    exact W.iret (v := (-1)) hx hb hr (fun t ht hW => ⟨(-1), rfl, (Or.inl rfl), ht⟩) (fun _ h => absurd h List.not_mem_nil) dX12_factOf_136
  ·
    refine lv_tableIn (tgt := 110) (off := 109) hx hb dX12_factOf_1 (by omega) (by omega) (by rw [c_1]; rfl) (by decide) ?_
    refine lv_iconst (v := 1) hx hb (oc_4 110 (aq_2 shX12_factOf_108)) kic_1 ?_
    exact W.iret (v := 1) hx hb hr (fun t ht hW => ⟨1, rfl, (Or.inr ⟨1, by decide, by omega, rfl⟩), ht⟩) (fun _ h => absurd h List.not_mem_nil) (oc_172 111 (aq_3 shX12_factOf_108))
  ·
    refine lv_tableIn (tgt := 118) (off := 117) hx hb dX12_factOf_1 (by omega) (by omega) (by rw [c_1]; rfl) (by decide) ?_
    refine lv_iconst (v := 5) hx hb (oc_8 118 (aq_10 shX12_factOf_108)) kic_5 ?_
    exact W.iret (v := 5) hx hb hr (fun t ht hW => ⟨5, rfl, (Or.inr ⟨5, by decide, by omega, rfl⟩), ht⟩) (fun _ h => absurd h List.not_mem_nil) (oc_172 119 (aq_11 shX12_factOf_108))
  ·
    refine lv_tableIn (tgt := 135) (off := 134) hx hb dX12_factOf_1 (by omega) (by omega) (by rw [c_1]; rfl) (by decide) ?_
    refine lv_iconst (v := (-1)) hx hb dX12_factOf_135 kic_m1 ?_
    exact W.iret (v := (-1)) hx hb hr (fun t ht hW => ⟨(-1), rfl, (Or.inl rfl), ht⟩) (fun _ h => absurd h List.not_mem_nil) dX12_factOf_136
  ·
    refine lv_tableIn (tgt := 135) (off := 134) hx hb dX12_factOf_1 (by omega) (by omega) (by rw [c_1]; rfl) (by decide) ?_
    refine lv_iconst (v := (-1)) hx hb dX12_factOf_135 kic_m1 ?_
    exact W.iret (v := (-1)) hx hb hr (fun t ht hW => ⟨(-1), rfl, (Or.inl rfl), ht⟩) (fun _ h => absurd h List.not_mem_nil) dX12_factOf_136
  ·
    refine lv_tableIn (tgt := 135) (off := 134) hx hb dX12_factOf_1 (by omega) (by omega) (by rw [c_1]; rfl) (by decide) ?_
    refine lv_iconst (v := (-1)) hx hb dX12_factOf_135 kic_m1 ?_
    exact W.iret (v := (-1)) hx hb hr (fun t ht hW => ⟨(-1), rfl, (Or.inl rfl), ht⟩) (fun _ h => absurd h List.not_mem_nil) dX12_factOf_136
  ·
    refine lv_tableIn (tgt := 120) (off := 119) hx hb dX12_factOf_1 (by omega) (by omega) (by rw [c_1]; rfl) (by decide) ?_
    refine lv_bipush (v := 6) hx hb (oc_16 120 (aq_12 shX12_factOf_108) sgb_6) kbc_6 ?_
    exact W.iret (v := 6) hx hb hr (fun t ht hW => ⟨6, rfl, (Or.inr ⟨6, by decide, by omega, rfl⟩), ht⟩) (fun _ h => absurd h List.not_mem_nil) (oc_172 122 (aq_14 shX12_factOf_108))
  ·
    refine lv_tableIn (tgt := 135) (off := 134) hx hb dX12_factOf_1 (by omega) (by omega) (by rw [c_1]; rfl) (by decide) ?_
    refine lv_iconst (v := (-1)) hx hb dX12_factOf_135 kic_m1 ?_
    exact W.iret (v := (-1)) hx hb hr (fun t ht hW => ⟨(-1), rfl, (Or.inl rfl), ht⟩) (fun _ h => absurd h List.not_mem_nil) dX12_factOf_136
  ·
    refine lv_tableIn (tgt := 123) (off := 122) hx hb dX12_factOf_1 (by omega) (by omega) (by rw [c_1]; rfl) (by decide) ?_
    refine lv_bipush (v := 7) hx hb (oc_16 123 (aq_15 shX12_factOf_108) sgb_7) kbc_7 ?_
    exact W.iret (v := 7) hx hb hr (fun t ht hW => ⟨7, rfl, (Or.inr ⟨7, by decide, by omega, rfl⟩), ht⟩) (fun _ h => absurd h List.not_mem_nil) (oc_172 125 (aq_17 shX12_factOf_108))
  ·
    refine lv_tableIn (tgt := 132) (off := 131) hx hb dX12_factOf_1 (by omega) (by omega) (by rw [c_1]; rfl) (by decide) ?_
    refine lv_bipush (v := 10) hx hb (oc_16 132 shX12_factOf_132 sgb_10) kbc_10 ?_
    exact W.iret (v := 10) hx hb hr (fun t ht hW => ⟨10, rfl, (Or.inr ⟨10, by decide, by omega, rfl⟩), ht⟩) (fun _ h => absurd h List.not_mem_nil) (oc_172 134 (aq_2 shX12_factOf_132))
  ·
    refine lv_tableIn (tgt := 129) (off := 128) hx hb dX12_factOf_1 (by omega) (by omega) (by rw [c_1]; rfl) (by decide) ?_
    refine lv_bipush (v := 9) hx hb (oc_16 129 (aq_21 shX12_factOf_108) sgb_9) kbc_9 ?_
    exact W.iret (v := 9) hx hb hr (fun t ht hW => ⟨9, rfl, (Or.inr ⟨9, by decide, by omega, rfl⟩), ht⟩) (fun _ h => absurd h List.not_mem_nil) (oc_172 131 (aq_23 shX12_factOf_108))
  ·
    refine lv_tableIn (tgt := 135) (off := 134) hx hb dX12_factOf_1 (by omega) (by omega) (by rw [c_1]; rfl) (by decide) ?_
    refine lv_iconst (v := (-1)) hx hb dX12_factOf_135 kic_m1 ?_
    exact W.iret (v := (-1)) hx hb hr (fun t ht hW => ⟨(-1), rfl, (Or.inl rfl), ht⟩) (fun _ h => absurd h List.not_mem_nil) dX12_factOf_136
  ·
    refine lv_tableIn (tgt := 108) (off := 107) hx hb dX12_factOf_1 (by omega) (by omega) (by rw [c_1]; rfl) (by decide) ?_
    refine lv_iconst (v := 0) hx hb (oc_3 108 shX12_factOf_108) kic_0 ?_
    exact W.iret (v := 0) hx hb hr (fun t ht hW => ⟨0, rfl, (Or.inr ⟨0, by decide, by omega, rfl⟩), ht⟩) (fun _ h => absurd h List.not_mem_nil) (oc_172 109 (aq_1 shX12_factOf_108))
  ·
    refine lv_tableIn (tgt := 135) (off := 134) hx hb dX12_factOf_1 (by omega) (by omega) (by rw [c_1]; rfl) (by decide) ?_
    refine lv_iconst (v := (-1)) hx hb dX12_factOf_135 kic_m1 ?_
    exact W.iret (v := (-1)) hx hb hr (fun t ht hW => ⟨(-1), rfl, (Or.inl rfl), ht⟩) (fun _ h => absurd h List.not_mem_nil) dX12_factOf_136
  ·
    refine lv_tableIn (tgt := 126) (off := 125) hx hb dX12_factOf_1 (by omega) (by omega) (by rw [c_1]; rfl) (by decide) ?_
    refine lv_bipush (v := 8) hx hb (oc_16 126 (aq_18 shX12_factOf_108) sgb_8) kbc_8 ?_
    exact W.iret (v := 8) hx hb hr (fun t ht hW => ⟨8, rfl, (Or.inr ⟨8, by decide, by omega, rfl⟩), ht⟩) (fun _ h => absurd h List.not_mem_nil) (oc_172 128 (aq_20 shX12_factOf_108))
  ·
    refine lv_tableIn (tgt := 135) (off := 134) hx hb dX12_factOf_1 (by omega) (by omega) (by rw [c_1]; rfl) (by decide) ?_
    refine lv_iconst (v := (-1)) hx hb dX12_factOf_135 kic_m1 ?_
    exact W.iret (v := (-1)) hx hb hr (fun t ht hW => ⟨(-1), rfl, (Or.inl rfl), ht⟩) (fun _ h => absurd h List.not_mem_nil) dX12_factOf_136
  ·
    refine lv_tableIn (tgt := 135) (off := 134) hx hb dX12_factOf_1 (by omega) (by omega) (by rw [c_1]; rfl) (by decide) ?_
    refine lv_iconst (v := (-1)) hx hb dX12_factOf_135 kic_m1 ?_
    exact W.iret (v := (-1)) hx hb hr (fun t ht hW => ⟨(-1), rfl, (Or.inl rfl), ht⟩) (fun _ h => absurd h List.not_mem_nil) dX12_factOf_136
  ·
    refine lv_tableIn (tgt := 135) (off := 134) hx hb dX12_factOf_1 (by omega) (by omega) (by rw [c_1]; rfl) (by decide) ?_
    refine lv_iconst (v := (-1)) hx hb dX12_factOf_135 kic_m1 ?_
    exact W.iret (v := (-1)) hx hb hr (fun t ht hW => ⟨(-1), rfl, (Or.inl rfl), ht⟩) (fun _ h => absurd h List.not_mem_nil) dX12_factOf_136
  ·
    refine lv_tableIn (tgt := 116) (off := 115) hx hb dX12_factOf_1 (by omega) (by omega) (by rw [c_1]; rfl) (by decide) ?_
    refine lv_iconst (v := 4) hx hb (oc_7 116 (aq_8 shX12_factOf_108)) kic_4 ?_
    exact W.iret (v := 4) hx hb hr (fun t ht hW => ⟨4, rfl, (Or.inr ⟨4, by decide, by omega, rfl⟩), ht⟩) (fun _ h => absurd h List.not_mem_nil) (oc_172 117 (aq_9 shX12_factOf_108))
set_option maxRecDepth 100000 in
set_option maxHeartbeats 4000000 in
theorem q_sumSign (l : Launch) (D : va_G) (cI cB cZ : ClassId) (v0 : Int32)  : Met l yX12_sumSign (CWS yX12_sumSign cX12_sumSign 1 (some .int)) (RM 0 0 0) (PBr [.int v0] D cI cB cZ []) (vp_Si (fun r => r = -1 ∨ ∃ n : Nat, (2 ≤ n ∧ n ≤ 6) ∧ 37 ≤ v0.toInt ∧ r = nI n)) 0 0 (fun _ => False) := by
  refine en_r rfl pn_RX12 (Nat.le_of_ble_eq_true rfl) (fun p e s m below meth c hx hb hml hown S hr hlocks hnm hP hK hS ls hl => ?_)
  have hl : lv_has ls 1 [(0, .int v0)] := hl
  refine lv_iload_n hx hb (oc_26 0 shX12_sumSign_0) rfl (lvA0 hl) ?_
  refine lv_bipush (v := 43) hx hb (oc_16 1 (aq_1 shX12_sumSign_0) sgb_43) kbc_43 ?_
  refine lv_icmp_ne (tgt := 10) hx hb (oc_160 3 (aq_3 shX12_sumSign_0) sgw_0_7) rfl (fun c_1 => ?_) (fun c_1 => ?_)
  ·
    have tc_1 : (v0.toInt : Int) ≠ 43 := fun q => c_1 (Int32.toInt_inj.mp q)
    refine lv_iload_n hx hb (oc_26 10 (aq_10 shX12_sumSign_0)) rfl (lvA0 hl) ?_
    refine lv_bipush (v := 45) hx hb (oc_16 11 (aq_11 shX12_sumSign_0) sgb_45) kbc_45 ?_
    refine lv_icmp_ne (tgt := 20) hx hb (oc_160 13 (aq_13 shX12_sumSign_0) sgw_0_7) rfl (fun c_2 => ?_) (fun c_2 => ?_)
    ·
      have tc_2 : (v0.toInt : Int) ≠ 45 := fun q => c_2 (Int32.toInt_inj.mp q)
      refine lv_iload_n hx hb (oc_26 20 (aq_20 shX12_sumSign_0)) rfl (lvA0 hl) ?_
      refine lv_bipush (v := 42) hx hb (oc_16 21 (aq_21 shX12_sumSign_0) sgb_42) kbc_42 ?_
      refine lv_icmp_ne (tgt := 30) hx hb (oc_160 23 (aq_23 shX12_sumSign_0) sgw_0_7) rfl (fun c_3 => ?_) (fun c_3 => ?_)
      ·
        have tc_3 : (v0.toInt : Int) ≠ 42 := fun q => c_3 (Int32.toInt_inj.mp q)
        refine lv_iload_n hx hb (oc_26 30 (aq_4 shX12_sumSign_26)) rfl (lvA0 hl) ?_
        refine lv_bipush (v := 47) hx hb (oc_16 31 (aq_5 shX12_sumSign_26) sgb_47) kbc_47 ?_
        refine lv_icmp_ne (tgt := 40) hx hb (oc_160 33 (aq_7 shX12_sumSign_26) sgw_0_7) rfl (fun c_4 => ?_) (fun c_4 => ?_)
        ·
          have tc_4 : (v0.toInt : Int) ≠ 47 := fun q => c_4 (Int32.toInt_inj.mp q)
          refine lv_iload_n hx hb (oc_26 40 (aq_14 shX12_sumSign_26)) rfl (lvA0 hl) ?_
          refine lv_bipush (v := 37) hx hb (oc_16 41 (aq_15 shX12_sumSign_26) sgb_37) kbc_37 ?_
          refine lv_icmp_ne (tgt := 51) hx hb (oc_160 43 (aq_17 shX12_sumSign_26) sgw_0_8) rfl (fun c_5 => ?_) (fun c_5 => ?_)
          ·
            have tc_5 : (v0.toInt : Int) ≠ 37 := fun q => c_5 (Int32.toInt_inj.mp q)
            refine lv_iconst (v := (-1)) hx hb (oc_2 51 shX12_sumSign_51) kic_m1 ?_
            exact W.iret (v := (-1)) hx hb hr (fun t ht hW => ⟨(-1), rfl, (Or.inl rfl), ht⟩) (fun _ h => absurd h List.not_mem_nil) dX12_sumSign_52
          ·
            have tc_5 : (v0.toInt : Int) = 37 := congrArg Int32.toInt c_5
            refine lv_bipush (v := 6) hx hb (oc_16 46 (aq_20 shX12_sumSign_26) sgb_6) kbc_6 ?_
            refine lv_goto (tgt := 52) hx hb (oc_167 48 (aq_22 shX12_sumSign_26) sgw_0_4) rfl ?_
            exact W.iret (v := 6) hx hb hr (fun t ht hW => ⟨6, rfl, (Or.inr ⟨6, by decide, by omega, rfl⟩), ht⟩) (fun _ h => absurd h List.not_mem_nil) dX12_sumSign_52
        ·
          have tc_4 : (v0.toInt : Int) = 47 := congrArg Int32.toInt c_4
          refine lv_iconst (v := 5) hx hb (oc_8 36 (aq_10 shX12_sumSign_26)) kic_5 ?_
          refine lv_goto (tgt := 52) hx hb (oc_167 37 (aq_11 shX12_sumSign_26) sgw_0_15) rfl ?_
          exact W.iret (v := 5) hx hb hr (fun t ht hW => ⟨5, rfl, (Or.inr ⟨5, by decide, by omega, rfl⟩), ht⟩) (fun _ h => absurd h List.not_mem_nil) dX12_sumSign_52
      ·
        have tc_3 : (v0.toInt : Int) = 42 := congrArg Int32.toInt c_3
        refine lv_iconst (v := 4) hx hb (oc_7 26 shX12_sumSign_26) kic_4 ?_
        refine lv_goto (tgt := 52) hx hb (oc_167 27 (aq_1 shX12_sumSign_26) sgw_0_25) rfl ?_
        exact W.iret (v := 4) hx hb hr (fun t ht hW => ⟨4, rfl, (Or.inr ⟨4, by decide, by omega, rfl⟩), ht⟩) (fun _ h => absurd h List.not_mem_nil) dX12_sumSign_52
    ·
      have tc_2 : (v0.toInt : Int) = 45 := congrArg Int32.toInt c_2
      refine lv_iconst (v := 3) hx hb (oc_6 16 (aq_16 shX12_sumSign_0)) kic_3 ?_
      refine lv_goto (tgt := 52) hx hb (oc_167 17 (aq_17 shX12_sumSign_0) sgw_0_35) rfl ?_
      exact W.iret (v := 3) hx hb hr (fun t ht hW => ⟨3, rfl, (Or.inr ⟨3, by decide, by omega, rfl⟩), ht⟩) (fun _ h => absurd h List.not_mem_nil) dX12_sumSign_52
  ·
    have tc_1 : (v0.toInt : Int) = 43 := congrArg Int32.toInt c_1
    refine lv_iconst (v := 2) hx hb (oc_5 6 (aq_6 shX12_sumSign_0)) kic_2 ?_
    refine lv_goto (tgt := 52) hx hb (oc_167 7 (aq_7 shX12_sumSign_0) sgw_0_45) rfl ?_
    exact W.iret (v := 2) hx hb hr (fun t ht hW => ⟨2, rfl, (Or.inr ⟨2, by decide, by omega, rfl⟩), ht⟩) (fun _ h => absurd h List.not_mem_nil) dX12_sumSign_52
set_option maxRecDepth 100000 in
set_option maxHeartbeats 4000000 in
theorem q_closesSums (l : Launch) (D : va_G) (cI cB cZ : ClassId) (g : Nat → Nat) (cn : Nat → Nat) (In : Nat → Int32) (Fn : Nat → Nat → Int32) (a0 G0 w0 s0 : Nat) (v0 : Int32) (sz : Nat) (hI : IM cn Fn) (hPS : PSx (cn 19) (cn 20) (cn 23) (cn 24) (Fn 27) (Fn 28) a0 (G0 + 1) w0 s0) : Met l yX12_closesSums (CWS yX12_closesSums cX12_closesSums 2 none) (RM 1 0 0) (PBw [.ref (g 100), .int v0] D cI cB cZ (wM cI cB cZ g cn In Fn) sz) (va_Qv (fun (u : (Nat → Nat) × (Nat → Int32) × (Nat → Nat → Int32)) => (fun c2 I2 F2 => Fr [23, 24] [] [27] cn In Fn c2 I2 F2 ∧ IM c2 F2 ∧ ((PSx (c2 19) (c2 20) (c2 23) (c2 24) (F2 27) (F2 28) a0 (G0 + 1) w0 s0) ∧ c2 24 ≤ cn 24 ∧ (∀ k : Nat, k < a0 → F2 27 k = Fn 27 k) ∧ (∀ i : Nat, c2 24 ≤ i → i < cn 24 → kd (F2 28 i) ≤ 6) ∧ (¬ (v0 : Int32) = 0 → c2 24 = w0 ∨ kd (F2 28 (c2 24 - 1)) = 14))) u.1 u.2.1 u.2.2) (fun (u : (Nat → Nat) × (Nat → Int32) × (Nat → Nat → Int32)) (t : State) => va_P D vwCl (wM cI cB cZ g u.1 u.2.1 u.2.2) t.heap ∧ va_D (va_A (wM cI cB cZ g cn In Fn) sz) (wM cI cB cZ g u.1 u.2.1 u.2.2)) (va_A (wM cI cB cZ g cn In Fn) sz)) 0 0 (va_A (wM cI cB cZ g cn In Fn) sz) := by
  refine en_w (fun A => (va_Qv (fun (u : (Nat → Nat) × (Nat → Int32) × (Nat → Nat → Int32)) => (fun (c2 : Nat → Nat) (I2 : Nat → Int32) (F2 : Nat → Nat → Int32) => Fr [23, 24] [] [27] cn In Fn c2 I2 F2 ∧ IM c2 F2 ∧ ((PSx (c2 19) (c2 20) (c2 23) (c2 24) (F2 27) (F2 28) a0 (G0 + 1) w0 s0) ∧ c2 24 ≤ cn 24 ∧ (∀ k : Nat, k < a0 → F2 27 k = Fn 27 k) ∧ (∀ i : Nat, c2 24 ≤ i → i < cn 24 → kd (F2 28 i) ≤ 6) ∧ (¬ (v0 : Int32) = 0 → c2 24 = w0 ∨ kd (F2 28 (c2 24 - 1)) = 14))) u.1 u.2.1 u.2.2) (fun (u : (Nat → Nat) × (Nat → Int32) × (Nat → Nat → Int32)) (t : State) => va_P D vwCl (wM cI cB cZ g u.1 u.2.1 u.2.2) t.heap ∧ va_D A (wM cI cB cZ g u.1 u.2.1 u.2.2)) A)) rfl rfl pn_RX12 (Nat.le_of_ble_eq_true rfl) (fun p e s m below meth c A hx hb hml hown S hr hlocks hnm hA hP hK hD hS ls hl => ?_)
  have hl : lv_has ls 2 [(0, .ref (g 100)), (1, .int v0)] := hl
  have hi_cn : Hid (CB cn) := hI.b
  have lp_0 : ∀ (n : Nat)  (cz : Nat → Nat) (Fz : Nat → Nat → Int32) (H : Heap) (locs : List Loc) , cz 24 < n → (Fr [23, 24] [] [27] cn In Fn cz In Fz ∧ IM cz Fz ∧ ((PSx (cz 19) (cz 20) (cz 23) (cz 24) (Fz 27) (Fz 28) a0 (G0 + 1) w0 s0)) ∧ (cz 24 ≤ cn 24) ∧ ((∀ k : Nat, k < a0 → Fz 27 k = Fn 27 k)) ∧ ((∀ i : Nat, cz 24 ≤ i → i < cn 24 → kd (Fz 28 i) ≤ 6))) → va_P D vwCl (wM cI cB cZ g cz In Fz) H → va_D A (wM cI cB cZ g cz In Fz) → va_S A s.heap H locs → ∀ ls : Array Slot, lv_has ls 2 [(0, .ref (g 100)), (1, .int v0)] → W p l e (RM 1 0 0) s m ([.ref (g 100), .int v0]).toArray below meth c H locs 0 0 (MQ below (va_Qv (fun (u : (Nat → Nat) × (Nat → Int32) × (Nat → Nat → Int32)) => (fun c2 I2 F2 => Fr [23, 24] [] [27] cn In Fn c2 I2 F2 ∧ IM c2 F2 ∧ ((PSx (c2 19) (c2 20) (c2 23) (c2 24) (F2 27) (F2 28) a0 (G0 + 1) w0 s0) ∧ c2 24 ≤ cn 24 ∧ (∀ k : Nat, k < a0 → F2 27 k = Fn 27 k) ∧ (∀ i : Nat, c2 24 ≤ i → i < cn 24 → kd (F2 28 i) ≤ 6) ∧ (¬ (v0 : Int32) = 0 → c2 24 = w0 ∨ kd (F2 28 (c2 24 - 1)) = 14))) u.1 u.2.1 u.2.2) (fun (u : (Nat → Nat) × (Nat → Int32) × (Nat → Nat → Int32)) (t : State) => va_P D vwCl (wM cI cB cZ g u.1 u.2.1 u.2.2) t.heap ∧ va_D A (wM cI cB cZ g u.1 u.2.1 u.2.2)) A) ([.ref (g 100), .int v0]).toArray s 0 0 A) (F0 m 0 ls []) := by
    intro n0
    induction n0 with
    | zero => intros; (first | omega | (have zz0 := Hid.u hi_cn; omega))
    | succ n0 ih0 =>
      intro  cz Fz H locs hmu0 hinv0 hP hD hS ls hl
      obtain ⟨hfr0, hI0, hx0_0, hx0_1, hx0_2, hx0_3⟩ := hinv0
      have hi_cz : Hid (CB cz) := hI0.b
      have : cz 19 = cn 19 := hfr0.1 19 (nml rfl)
      have : cz 20 = cn 20 := hfr0.1 20 (nml rfl)
      have : cz 25 = cn 25 := hfr0.1 25 (nml rfl)
      have hq_cz := Hid.i (frq_23_24_0_1_2_46_57_58_62_63_75_83_44 hfr0)
      have hf0 := hx0_0.f
      have hk0 := hx0_0.kt
      refine lv_aload_n hx hb (oc_42 0 shX12_closesSums_0) rfl (lvA0 hl) ?_
      refine vp_callSi (runV_ra (As := []) (rest := []) S (q_top l D cI cB cZ g cz In Fz  hI0 hx0_0.wk (by (first | omega | (have zz0 := Hid.u hi_cn; have zz1 := Hid.u hi_cz; have zz2 := Hid.u hq_cz; omega)))) kV_RX12_267 hK hP 0 rfl rfl rfl ⟨Nat.le_of_ble_eq_true rfl, Nat.le_of_ble_eq_true rfl⟩ ⟨Nat.le_of_ble_eq_true rfl, Nat.le_of_ble_eq_true rfl⟩ rfl hl.1 rfl (Nat.le_of_ble_eq_true rfl) (oc_182 1 (aq_1 shX12_closesSums_0) uw_1_11)) (fun r_1 h_2 => ?_)
      refine lv_iconst (v := 4) hx hb (oc_7 4 (aq_4 shX12_closesSums_0)) kic_4 ?_
      refine lv_icmp_lt (tgt := 17) hx hb (oc_161 5 (aq_5 shX12_closesSums_0) sgw_0_12) rfl (fun c_3 => ?_) (fun c_3 => ?_)
      ·
        have tc_3 : (r_1.toInt : Int) < 4 := Int32.lt_iff_toInt_lt.mp c_3
        refine lv_iload_n hx hb (oc_27 17 (aq_17 shX12_closesSums_0)) rfl (lvA1 hl) ?_
        refine lv_if_eq (tgt := 59) hx hb (oc_153 18 (aq_18 shX12_closesSums_0) sgw_0_41) rfl (fun c_4 => ?_) (fun c_4 => ?_)
        ·
          have tc_4 : (v0.toInt : Int) = 0 := congrArg Int32.toInt c_4
          exact W.vret hx hb hr (fun t ht hW => ⟨⟨(cz, In, Fz), rfl, ⟨(Fr.mo hfr0 (sbl rfl) (sbl rfl) (sbl rfl)), hI0, (by show (PSx (cz 19) (cz 20) (cz 23) (cz 24) (Fz 27) (Fz 28) a0 (G0 + 1) w0 s0) ∧ cz 24 ≤ cn 24 ∧ (∀ k : Nat, k < a0 → Fz 27 k = Fn 27 k) ∧ (∀ i : Nat, cz 24 ≤ i → i < cn 24 → kd (Fz 28 i) ≤ 6) ∧ (¬ (v0 : Int32) = 0 → cz 24 = w0 ∨ kd (Fz 28 (cz 24 - 1)) = 14); exact ⟨hx0_0, hx0_1, hx0_2, hx0_3, fun hz => by first | (first | omega | (have zz0 := Hid.u hi_cn; have zz1 := Hid.u hi_cz; have zz2 := Hid.u hq_cz; omega)) | exact absurd (by assumption) hz⟩)⟩, by rw [ht]; exact hP, hD⟩, hS.F ht⟩) hS.2.2 dX12_closesSums_59
        ·
          have tc_4 : (v0.toInt : Int) ≠ 0 := fun q => c_4 (Int32.toInt_inj.mp q)
          refine lv_aload_n hx hb (oc_42 21 (aq_21 shX12_closesSums_0)) rfl (lvA0 hl) ?_
          refine vp_callSi (runV_ra (As := []) (rest := []) S (q_top l D cI cB cZ g cz In Fz  hI0 hx0_0.wk (by (first | omega | (have zz0 := Hid.u hi_cn; have zz1 := Hid.u hi_cz; have zz2 := Hid.u hq_cz; omega)))) kV_RX12_267 hK hP 0 rfl rfl rfl ⟨Nat.le_of_ble_eq_true rfl, Nat.le_of_ble_eq_true rfl⟩ ⟨Nat.le_of_ble_eq_true rfl, Nat.le_of_ble_eq_true rfl⟩ rfl hl.1 rfl (Nat.le_of_ble_eq_true rfl) (oc_182 22 (aq_22 shX12_closesSums_0) uw_1_11)) (fun r_5 h_6 => ?_)
          refine lv_iconst (v := 2) hx hb (oc_5 25 shX12_closesSums_25) kic_2 ?_
          refine lv_icmp_eq (tgt := 37) hx hb (oc_159 26 (aq_1 shX12_closesSums_25) sgw_0_11) rfl (fun c_7 => ?_) (fun c_7 => ?_)
          ·
            have tc_7 : (r_5.toInt : Int) = 2 := congrArg Int32.toInt c_7
            refine lv_aload_n hx hb dX12_closesSums_37 rfl (lvA0 hl) ?_
            refine lv_aload_n hx hb dX12_closesSums_38 rfl (lvA0 hl) ?_
            refine vp_callSi (runV_ra (As := []) (rest := [.ref (g 100)]) S (q_top l D cI cB cZ g cz In Fz  hI0 hx0_0.wk (by (first | omega | (have zz0 := Hid.u hi_cn; have zz1 := Hid.u hi_cz; have zz2 := Hid.u hq_cz; omega)))) kV_RX12_267 hK hP 0 rfl rfl rfl ⟨Nat.le_of_ble_eq_true rfl, Nat.le_of_ble_eq_true rfl⟩ ⟨Nat.le_of_ble_eq_true rfl, Nat.le_of_ble_eq_true rfl⟩ rfl hl.1 rfl (Nat.le_of_ble_eq_true rfl) dX12_closesSums_39) (fun r_8 h_9 => ?_)
            obtain rfl : r_8 = nI (kd (Fz 28 (cz 24 - 1))) := nI_ofT (by (first | omega | (have zz0 := Hid.u hi_cn; have zz1 := Hid.u hi_cz; have zz2 := Hid.u hq_cz; omega))) (by (first | omega | (have zz0 := Hid.u hi_cn; have zz1 := Hid.u hi_cz; have zz2 := Hid.u hq_cz; omega)))
            refine lv_iconst (v := 0) hx hb dX12_closesSums_42 kic_0 ?_
            have hFc := free_all hD hS hA
            refine va_callv (runV_a (As := [.int (nI (kd (Fz 28 (cz 24 - 1)))), .int 0]) (rest := []) S (q_says l D cI cB cZ g cz In Fz (kd (Fz 28 (cz 24 - 1))) 0 H.size hI0 (by (first | omega | (have zz0 := Hid.u hi_cn; have zz1 := Hid.u hi_cz; have zz2 := Hid.u hq_cz; omega)))) kV_RX12_270 hK hP hD 0 rfl rfl rfl ⟨Nat.le_of_ble_eq_true rfl, Nat.le_of_ble_eq_true rfl⟩ ⟨Nat.le_of_ble_eq_true rfl, Nat.le_of_ble_eq_true rfl⟩ rfl hl.1 rfl (Nat.le_of_ble_eq_true rfl) dX12_closesSums_43) hS (fun q _ h => hFc q h) hFc (fun u t H1 locs ht hvm wh_11 hB hz1 hk1 hS => ?_)
            obtain ⟨cn11, In11, Fn11⟩ := u
            obtain ⟨hP1, hD1⟩ := hB
            rw [ht] at hP1
            have vh_11 : (fun c2 I2 F2 => (∀ k : Nat, k ∉ [] → I2 k = In k) ∧ (((True) ∧ (va_up cz 23 ((cz 23) + 1)) = c2 ∧ (va_up Fz 27 (upd ((Fz 27)) ((cz 23)) (nI ((kd (Fz 28 (cz 24 - 1))) * 1048576 + 0)))) = F2))) cn11 In11 Fn11 := wh_11
            obtain ⟨hI11_, vh_11⟩ := vh_11
            obtain ⟨h_11, rfl, rfl⟩ := vh_11
            obtain rfl : In = In11 := (funext (fun k => hI11_ k List.not_mem_nil)).symm
            have hP : va_P D vwCl (wM cI cB cZ g (va_up cz 23 ((cz 23) + 1)) In (va_up Fz 27 (upd ((Fz 27)) ((cz 23)) (nI ((kd (Fz 28 (cz 24 - 1))) * 1048576 + 0))))) H1 := hP1
            have hD : va_D A (wM cI cB cZ g (va_up cz 23 ((cz 23) + 1)) In (va_up Fz 27 (upd ((Fz 27)) ((cz 23)) (nI ((kd (Fz 28 (cz 24 - 1))) * 1048576 + 0))))) := hD1.weaken (fun _ _ _ h => hFc _ h)
            generalize H1 = H at hP hS ⊢
            refine lv_aload_n hx hb dX12_closesSums_46 rfl (lvA0 hl) ?_
            refine lv_aload_n hx hb dX12_closesSums_47 rfl (lvA0 hl) ?_
            refine gM_264 S hK hP (v := .int (nI (cz 24))) rfl dX12_closesSums_48 ?_
            refine lv_iconst (v := 1) hx hb dX12_closesSums_51 kic_1 ?_
            refine lv_isub hx hb dX12_closesSums_52 ?_
            refine lv_topi (fun y_12 ey_12 => ?_)
            obtain rfl : y_12 = (nI (cz 24 - 1)) := ey_12.trans (nI_sub (b := 1) (by (first | omega | (have zz0 := Hid.u hi_cn; have zz1 := Hid.u hi_cz; have zz2 := Hid.u hq_cz; omega))))
            refine pM_264 S hK hP hD hS (a := (cz 24 - 1)) (cn2 := (va_up (va_up cz 23 ((cz 23) + 1)) 24 (cz 24 - 1))) rfl rfl dX12_closesSums_53 (fun H locs hP hD hS => ?_)
            refine lv_goto (tgt := 0) hx hb dX12_closesSums_56 rfl ?_
            exact ih0  (va_up (va_up cz 23 ((cz 23) + 1)) 24 (cz 24 - 1)) (va_up Fz 27 (upd ((Fz 27)) ((cz 23)) (nI ((kd (Fz 28 (cz 24 - 1))) * 1048576 + 0)))) _ _ (show (cz 24 - 1) < n0 by (first | omega | (have zz0 := Hid.u hi_cn; have zz1 := Hid.u hi_cz; have zz2 := Hid.u hq_cz; omega))) ⟨(Fr.mo (Fr.f 27 (Fr.c 24 (Fr.c 23 hfr0))) (sbl rfl) (sbl rfl) (sbl rfl)), (IM.fr (In := In) hI0 (Fr.f 27 (Fr.c 24 (Fr.c 23 Fr.rf))) (by decide) (by decide)), (by have q := PSx.popop' hx0_0 (by (first | omega | (have zz0 := Hid.u hi_cn; have zz1 := Hid.u hi_cz; have zz2 := Hid.u hq_cz; omega))) (by (first | omega | (have zz0 := Hid.u hi_cn; have zz1 := Hid.u hi_cz; have zz2 := Hid.u hq_cz; omega))); exact q), (by show cz 24 - 1 ≤ cn 24; (first | omega | (have zz0 := Hid.u hi_cn; have zz1 := Hid.u hi_cz; have zz2 := Hid.u hq_cz; omega))), (fun k hk => (upd_lt (by (first | omega | (have zz0 := Hid.u hi_cn; have zz1 := Hid.u hi_cz; have zz2 := Hid.u hq_cz; omega)))).trans (hx0_2 k hk)), (fun i h1 h2 => by have h1 : cz 24 - 1 ≤ i := h1; show kd (Fz 28 i) ≤ 6; by_cases e : i = cz 24 - 1; (rw [e]; (first | omega | (have zz0 := Hid.u hi_cn; have zz1 := Hid.u hi_cz; have zz2 := Hid.u hq_cz; omega))); exact hx0_3 i (by (first | omega | (have zz0 := Hid.u hi_cn; have zz1 := Hid.u hi_cz; have zz2 := Hid.u hq_cz; omega))) h2)⟩ hP hD hS ls (lv_sub hl [0, 1] rfl)
          ·
            have tc_7 : (r_5.toInt : Int) ≠ 2 := fun q => c_7 (Int32.toInt_inj.mp q)
            refine lv_aload_n hx hb (oc_42 29 (aq_4 shX12_closesSums_25)) rfl (lvA0 hl) ?_
            refine vp_callSi (runV_ra (As := []) (rest := []) S (q_top l D cI cB cZ g cz In Fz  hI0 hx0_0.wk (by (first | omega | (have zz0 := Hid.u hi_cn; have zz1 := Hid.u hi_cz; have zz2 := Hid.u hq_cz; omega)))) kV_RX12_267 hK hP 0 rfl rfl rfl ⟨Nat.le_of_ble_eq_true rfl, Nat.le_of_ble_eq_true rfl⟩ ⟨Nat.le_of_ble_eq_true rfl, Nat.le_of_ble_eq_true rfl⟩ rfl hl.1 rfl (Nat.le_of_ble_eq_true rfl) (oc_182 30 (aq_5 shX12_closesSums_25) uw_1_11)) (fun r_13 h_14 => ?_)
            refine lv_iconst (v := 3) hx hb (oc_6 33 (aq_8 shX12_closesSums_25)) kic_3 ?_
            refine lv_icmp_ne (tgt := 59) hx hb (oc_160 34 (aq_9 shX12_closesSums_25) sgw_0_25) rfl (fun c_15 => ?_) (fun c_15 => ?_)
            ·
              have tc_15 : (r_13.toInt : Int) ≠ 3 := fun q => c_15 (Int32.toInt_inj.mp q)
              exact W.vret hx hb hr (fun t ht hW => ⟨⟨(cz, In, Fz), rfl, ⟨(Fr.mo hfr0 (sbl rfl) (sbl rfl) (sbl rfl)), hI0, (by show (PSx (cz 19) (cz 20) (cz 23) (cz 24) (Fz 27) (Fz 28) a0 (G0 + 1) w0 s0) ∧ cz 24 ≤ cn 24 ∧ (∀ k : Nat, k < a0 → Fz 27 k = Fn 27 k) ∧ (∀ i : Nat, cz 24 ≤ i → i < cn 24 → kd (Fz 28 i) ≤ 6) ∧ (¬ (v0 : Int32) = 0 → cz 24 = w0 ∨ kd (Fz 28 (cz 24 - 1)) = 14); exact ⟨hx0_0, hx0_1, hx0_2, hx0_3, fun hz => by first | (first | omega | (have zz0 := Hid.u hi_cn; have zz1 := Hid.u hi_cz; have zz2 := Hid.u hq_cz; omega)) | exact absurd (by assumption) hz⟩)⟩, by rw [ht]; exact hP, hD⟩, hS.F ht⟩) hS.2.2 dX12_closesSums_59
            ·
              have tc_15 : (r_13.toInt : Int) = 3 := congrArg Int32.toInt c_15
              refine lv_aload_n hx hb dX12_closesSums_37 rfl (lvA0 hl) ?_
              refine lv_aload_n hx hb dX12_closesSums_38 rfl (lvA0 hl) ?_
              refine vp_callSi (runV_ra (As := []) (rest := [.ref (g 100)]) S (q_top l D cI cB cZ g cz In Fz  hI0 hx0_0.wk (by (first | omega | (have zz0 := Hid.u hi_cn; have zz1 := Hid.u hi_cz; have zz2 := Hid.u hq_cz; omega)))) kV_RX12_267 hK hP 0 rfl rfl rfl ⟨Nat.le_of_ble_eq_true rfl, Nat.le_of_ble_eq_true rfl⟩ ⟨Nat.le_of_ble_eq_true rfl, Nat.le_of_ble_eq_true rfl⟩ rfl hl.1 rfl (Nat.le_of_ble_eq_true rfl) dX12_closesSums_39) (fun r_16 h_17 => ?_)
              obtain rfl : r_16 = nI (kd (Fz 28 (cz 24 - 1))) := nI_ofT (by (first | omega | (have zz0 := Hid.u hi_cn; have zz1 := Hid.u hi_cz; have zz2 := Hid.u hq_cz; omega))) (by (first | omega | (have zz0 := Hid.u hi_cn; have zz1 := Hid.u hi_cz; have zz2 := Hid.u hq_cz; omega)))
              refine lv_iconst (v := 0) hx hb dX12_closesSums_42 kic_0 ?_
              have hFc := free_all hD hS hA
              refine va_callv (runV_a (As := [.int (nI (kd (Fz 28 (cz 24 - 1)))), .int 0]) (rest := []) S (q_says l D cI cB cZ g cz In Fz (kd (Fz 28 (cz 24 - 1))) 0 H.size hI0 (by (first | omega | (have zz0 := Hid.u hi_cn; have zz1 := Hid.u hi_cz; have zz2 := Hid.u hq_cz; omega)))) kV_RX12_270 hK hP hD 0 rfl rfl rfl ⟨Nat.le_of_ble_eq_true rfl, Nat.le_of_ble_eq_true rfl⟩ ⟨Nat.le_of_ble_eq_true rfl, Nat.le_of_ble_eq_true rfl⟩ rfl hl.1 rfl (Nat.le_of_ble_eq_true rfl) dX12_closesSums_43) hS (fun q _ h => hFc q h) hFc (fun u t H1 locs ht hvm wh_19 hB hz1 hk1 hS => ?_)
              obtain ⟨cn19, In19, Fn19⟩ := u
              obtain ⟨hP1, hD1⟩ := hB
              rw [ht] at hP1
              have vh_19 : (fun c2 I2 F2 => (∀ k : Nat, k ∉ [] → I2 k = In k) ∧ (((True) ∧ (va_up cz 23 ((cz 23) + 1)) = c2 ∧ (va_up Fz 27 (upd ((Fz 27)) ((cz 23)) (nI ((kd (Fz 28 (cz 24 - 1))) * 1048576 + 0)))) = F2))) cn19 In19 Fn19 := wh_19
              obtain ⟨hI19_, vh_19⟩ := vh_19
              obtain ⟨h_19, rfl, rfl⟩ := vh_19
              obtain rfl : In = In19 := (funext (fun k => hI19_ k List.not_mem_nil)).symm
              have hP : va_P D vwCl (wM cI cB cZ g (va_up cz 23 ((cz 23) + 1)) In (va_up Fz 27 (upd ((Fz 27)) ((cz 23)) (nI ((kd (Fz 28 (cz 24 - 1))) * 1048576 + 0))))) H1 := hP1
              have hD : va_D A (wM cI cB cZ g (va_up cz 23 ((cz 23) + 1)) In (va_up Fz 27 (upd ((Fz 27)) ((cz 23)) (nI ((kd (Fz 28 (cz 24 - 1))) * 1048576 + 0))))) := hD1.weaken (fun _ _ _ h => hFc _ h)
              generalize H1 = H at hP hS ⊢
              refine lv_aload_n hx hb dX12_closesSums_46 rfl (lvA0 hl) ?_
              refine lv_aload_n hx hb dX12_closesSums_47 rfl (lvA0 hl) ?_
              refine gM_264 S hK hP (v := .int (nI (cz 24))) rfl dX12_closesSums_48 ?_
              refine lv_iconst (v := 1) hx hb dX12_closesSums_51 kic_1 ?_
              refine lv_isub hx hb dX12_closesSums_52 ?_
              refine lv_topi (fun y_20 ey_20 => ?_)
              obtain rfl : y_20 = (nI (cz 24 - 1)) := ey_20.trans (nI_sub (b := 1) (by (first | omega | (have zz0 := Hid.u hi_cn; have zz1 := Hid.u hi_cz; have zz2 := Hid.u hq_cz; omega))))
              refine pM_264 S hK hP hD hS (a := (cz 24 - 1)) (cn2 := (va_up (va_up cz 23 ((cz 23) + 1)) 24 (cz 24 - 1))) rfl rfl dX12_closesSums_53 (fun H locs hP hD hS => ?_)
              refine lv_goto (tgt := 0) hx hb dX12_closesSums_56 rfl ?_
              exact ih0  (va_up (va_up cz 23 ((cz 23) + 1)) 24 (cz 24 - 1)) (va_up Fz 27 (upd ((Fz 27)) ((cz 23)) (nI ((kd (Fz 28 (cz 24 - 1))) * 1048576 + 0)))) _ _ (show (cz 24 - 1) < n0 by (first | omega | (have zz0 := Hid.u hi_cn; have zz1 := Hid.u hi_cz; have zz2 := Hid.u hq_cz; omega))) ⟨(Fr.mo (Fr.f 27 (Fr.c 24 (Fr.c 23 hfr0))) (sbl rfl) (sbl rfl) (sbl rfl)), (IM.fr (In := In) hI0 (Fr.f 27 (Fr.c 24 (Fr.c 23 Fr.rf))) (by decide) (by decide)), (by have q := PSx.popop' hx0_0 (by (first | omega | (have zz0 := Hid.u hi_cn; have zz1 := Hid.u hi_cz; have zz2 := Hid.u hq_cz; omega))) (by (first | omega | (have zz0 := Hid.u hi_cn; have zz1 := Hid.u hi_cz; have zz2 := Hid.u hq_cz; omega))); exact q), (by show cz 24 - 1 ≤ cn 24; (first | omega | (have zz0 := Hid.u hi_cn; have zz1 := Hid.u hi_cz; have zz2 := Hid.u hq_cz; omega))), (fun k hk => (upd_lt (by (first | omega | (have zz0 := Hid.u hi_cn; have zz1 := Hid.u hi_cz; have zz2 := Hid.u hq_cz; omega)))).trans (hx0_2 k hk)), (fun i h1 h2 => by have h1 : cz 24 - 1 ≤ i := h1; show kd (Fz 28 i) ≤ 6; by_cases e : i = cz 24 - 1; (rw [e]; (first | omega | (have zz0 := Hid.u hi_cn; have zz1 := Hid.u hi_cz; have zz2 := Hid.u hq_cz; omega))); exact hx0_3 i (by (first | omega | (have zz0 := Hid.u hi_cn; have zz1 := Hid.u hi_cz; have zz2 := Hid.u hq_cz; omega))) h2)⟩ hP hD hS ls (lv_sub hl [0, 1] rfl)
      ·
        have tc_3 : (4 : Int) ≤ r_1.toInt := Int32.le_iff_toInt_le.mp (Int32.not_lt.mp c_3)
        refine lv_aload_n hx hb (oc_42 8 (aq_8 shX12_closesSums_0)) rfl (lvA0 hl) ?_
        refine vp_callSi (runV_ra (As := []) (rest := []) S (q_top l D cI cB cZ g cz In Fz  hI0 hx0_0.wk (by (first | omega | (have zz0 := Hid.u hi_cn; have zz1 := Hid.u hi_cz; have zz2 := Hid.u hq_cz; omega)))) kV_RX12_267 hK hP 0 rfl rfl rfl ⟨Nat.le_of_ble_eq_true rfl, Nat.le_of_ble_eq_true rfl⟩ ⟨Nat.le_of_ble_eq_true rfl, Nat.le_of_ble_eq_true rfl⟩ rfl hl.1 rfl (Nat.le_of_ble_eq_true rfl) (oc_182 9 (aq_9 shX12_closesSums_0) uw_1_11)) (fun r_21 h_22 => ?_)
        refine lv_bipush (v := 6) hx hb (oc_16 12 (aq_12 shX12_closesSums_0) sgb_6) kbc_6 ?_
        refine lv_icmp_le (tgt := 37) hx hb (oc_164 14 (aq_14 shX12_closesSums_0) sgw_0_23) rfl (fun c_23 => ?_) (fun c_23 => ?_)
        ·
          have tc_23 : (r_21.toInt : Int) ≤ 6 := Int32.le_iff_toInt_le.mp c_23
          refine lv_aload_n hx hb dX12_closesSums_37 rfl (lvA0 hl) ?_
          refine lv_aload_n hx hb dX12_closesSums_38 rfl (lvA0 hl) ?_
          refine vp_callSi (runV_ra (As := []) (rest := [.ref (g 100)]) S (q_top l D cI cB cZ g cz In Fz  hI0 hx0_0.wk (by (first | omega | (have zz0 := Hid.u hi_cn; have zz1 := Hid.u hi_cz; have zz2 := Hid.u hq_cz; omega)))) kV_RX12_267 hK hP 0 rfl rfl rfl ⟨Nat.le_of_ble_eq_true rfl, Nat.le_of_ble_eq_true rfl⟩ ⟨Nat.le_of_ble_eq_true rfl, Nat.le_of_ble_eq_true rfl⟩ rfl hl.1 rfl (Nat.le_of_ble_eq_true rfl) dX12_closesSums_39) (fun r_24 h_25 => ?_)
          obtain rfl : r_24 = nI (kd (Fz 28 (cz 24 - 1))) := nI_ofT (by (first | omega | (have zz0 := Hid.u hi_cn; have zz1 := Hid.u hi_cz; have zz2 := Hid.u hq_cz; omega))) (by (first | omega | (have zz0 := Hid.u hi_cn; have zz1 := Hid.u hi_cz; have zz2 := Hid.u hq_cz; omega)))
          refine lv_iconst (v := 0) hx hb dX12_closesSums_42 kic_0 ?_
          have hFc := free_all hD hS hA
          refine va_callv (runV_a (As := [.int (nI (kd (Fz 28 (cz 24 - 1)))), .int 0]) (rest := []) S (q_says l D cI cB cZ g cz In Fz (kd (Fz 28 (cz 24 - 1))) 0 H.size hI0 (by (first | omega | (have zz0 := Hid.u hi_cn; have zz1 := Hid.u hi_cz; have zz2 := Hid.u hq_cz; omega)))) kV_RX12_270 hK hP hD 0 rfl rfl rfl ⟨Nat.le_of_ble_eq_true rfl, Nat.le_of_ble_eq_true rfl⟩ ⟨Nat.le_of_ble_eq_true rfl, Nat.le_of_ble_eq_true rfl⟩ rfl hl.1 rfl (Nat.le_of_ble_eq_true rfl) dX12_closesSums_43) hS (fun q _ h => hFc q h) hFc (fun u t H1 locs ht hvm wh_27 hB hz1 hk1 hS => ?_)
          obtain ⟨cn27, In27, Fn27⟩ := u
          obtain ⟨hP1, hD1⟩ := hB
          rw [ht] at hP1
          have vh_27 : (fun c2 I2 F2 => (∀ k : Nat, k ∉ [] → I2 k = In k) ∧ (((True) ∧ (va_up cz 23 ((cz 23) + 1)) = c2 ∧ (va_up Fz 27 (upd ((Fz 27)) ((cz 23)) (nI ((kd (Fz 28 (cz 24 - 1))) * 1048576 + 0)))) = F2))) cn27 In27 Fn27 := wh_27
          obtain ⟨hI27_, vh_27⟩ := vh_27
          obtain ⟨h_27, rfl, rfl⟩ := vh_27
          obtain rfl : In = In27 := (funext (fun k => hI27_ k List.not_mem_nil)).symm
          have hP : va_P D vwCl (wM cI cB cZ g (va_up cz 23 ((cz 23) + 1)) In (va_up Fz 27 (upd ((Fz 27)) ((cz 23)) (nI ((kd (Fz 28 (cz 24 - 1))) * 1048576 + 0))))) H1 := hP1
          have hD : va_D A (wM cI cB cZ g (va_up cz 23 ((cz 23) + 1)) In (va_up Fz 27 (upd ((Fz 27)) ((cz 23)) (nI ((kd (Fz 28 (cz 24 - 1))) * 1048576 + 0))))) := hD1.weaken (fun _ _ _ h => hFc _ h)
          generalize H1 = H at hP hS ⊢
          refine lv_aload_n hx hb dX12_closesSums_46 rfl (lvA0 hl) ?_
          refine lv_aload_n hx hb dX12_closesSums_47 rfl (lvA0 hl) ?_
          refine gM_264 S hK hP (v := .int (nI (cz 24))) rfl dX12_closesSums_48 ?_
          refine lv_iconst (v := 1) hx hb dX12_closesSums_51 kic_1 ?_
          refine lv_isub hx hb dX12_closesSums_52 ?_
          refine lv_topi (fun y_28 ey_28 => ?_)
          obtain rfl : y_28 = (nI (cz 24 - 1)) := ey_28.trans (nI_sub (b := 1) (by (first | omega | (have zz0 := Hid.u hi_cn; have zz1 := Hid.u hi_cz; have zz2 := Hid.u hq_cz; omega))))
          refine pM_264 S hK hP hD hS (a := (cz 24 - 1)) (cn2 := (va_up (va_up cz 23 ((cz 23) + 1)) 24 (cz 24 - 1))) rfl rfl dX12_closesSums_53 (fun H locs hP hD hS => ?_)
          refine lv_goto (tgt := 0) hx hb dX12_closesSums_56 rfl ?_
          exact ih0  (va_up (va_up cz 23 ((cz 23) + 1)) 24 (cz 24 - 1)) (va_up Fz 27 (upd ((Fz 27)) ((cz 23)) (nI ((kd (Fz 28 (cz 24 - 1))) * 1048576 + 0)))) _ _ (show (cz 24 - 1) < n0 by (first | omega | (have zz0 := Hid.u hi_cn; have zz1 := Hid.u hi_cz; have zz2 := Hid.u hq_cz; omega))) ⟨(Fr.mo (Fr.f 27 (Fr.c 24 (Fr.c 23 hfr0))) (sbl rfl) (sbl rfl) (sbl rfl)), (IM.fr (In := In) hI0 (Fr.f 27 (Fr.c 24 (Fr.c 23 Fr.rf))) (by decide) (by decide)), (by have q := PSx.popop' hx0_0 (by (first | omega | (have zz0 := Hid.u hi_cn; have zz1 := Hid.u hi_cz; have zz2 := Hid.u hq_cz; omega))) (by (first | omega | (have zz0 := Hid.u hi_cn; have zz1 := Hid.u hi_cz; have zz2 := Hid.u hq_cz; omega))); exact q), (by show cz 24 - 1 ≤ cn 24; (first | omega | (have zz0 := Hid.u hi_cn; have zz1 := Hid.u hi_cz; have zz2 := Hid.u hq_cz; omega))), (fun k hk => (upd_lt (by (first | omega | (have zz0 := Hid.u hi_cn; have zz1 := Hid.u hi_cz; have zz2 := Hid.u hq_cz; omega)))).trans (hx0_2 k hk)), (fun i h1 h2 => by have h1 : cz 24 - 1 ≤ i := h1; show kd (Fz 28 i) ≤ 6; by_cases e : i = cz 24 - 1; (rw [e]; (first | omega | (have zz0 := Hid.u hi_cn; have zz1 := Hid.u hi_cz; have zz2 := Hid.u hq_cz; omega))); exact hx0_3 i (by (first | omega | (have zz0 := Hid.u hi_cn; have zz1 := Hid.u hi_cz; have zz2 := Hid.u hq_cz; omega))) h2)⟩ hP hD hS ls (lv_sub hl [0, 1] rfl)
        ·
          have tc_23 : (6 : Int) < r_21.toInt := Int32.lt_iff_toInt_lt.mp (Int32.not_le.mp c_23)
          refine lv_iload_n hx hb (oc_27 17 (aq_17 shX12_closesSums_0)) rfl (lvA1 hl) ?_
          refine lv_if_eq (tgt := 59) hx hb (oc_153 18 (aq_18 shX12_closesSums_0) sgw_0_41) rfl (fun c_29 => ?_) (fun c_29 => ?_)
          ·
            have tc_29 : (v0.toInt : Int) = 0 := congrArg Int32.toInt c_29
            exact W.vret hx hb hr (fun t ht hW => ⟨⟨(cz, In, Fz), rfl, ⟨(Fr.mo hfr0 (sbl rfl) (sbl rfl) (sbl rfl)), hI0, (by show (PSx (cz 19) (cz 20) (cz 23) (cz 24) (Fz 27) (Fz 28) a0 (G0 + 1) w0 s0) ∧ cz 24 ≤ cn 24 ∧ (∀ k : Nat, k < a0 → Fz 27 k = Fn 27 k) ∧ (∀ i : Nat, cz 24 ≤ i → i < cn 24 → kd (Fz 28 i) ≤ 6) ∧ (¬ (v0 : Int32) = 0 → cz 24 = w0 ∨ kd (Fz 28 (cz 24 - 1)) = 14); exact ⟨hx0_0, hx0_1, hx0_2, hx0_3, fun hz => by first | (first | omega | (have zz0 := Hid.u hi_cn; have zz1 := Hid.u hi_cz; have zz2 := Hid.u hq_cz; omega)) | exact absurd (by assumption) hz⟩)⟩, by rw [ht]; exact hP, hD⟩, hS.F ht⟩) hS.2.2 dX12_closesSums_59
          ·
            have tc_29 : (v0.toInt : Int) ≠ 0 := fun q => c_29 (Int32.toInt_inj.mp q)
            refine lv_aload_n hx hb (oc_42 21 (aq_21 shX12_closesSums_0)) rfl (lvA0 hl) ?_
            refine vp_callSi (runV_ra (As := []) (rest := []) S (q_top l D cI cB cZ g cz In Fz  hI0 hx0_0.wk (by (first | omega | (have zz0 := Hid.u hi_cn; have zz1 := Hid.u hi_cz; have zz2 := Hid.u hq_cz; omega)))) kV_RX12_267 hK hP 0 rfl rfl rfl ⟨Nat.le_of_ble_eq_true rfl, Nat.le_of_ble_eq_true rfl⟩ ⟨Nat.le_of_ble_eq_true rfl, Nat.le_of_ble_eq_true rfl⟩ rfl hl.1 rfl (Nat.le_of_ble_eq_true rfl) (oc_182 22 (aq_22 shX12_closesSums_0) uw_1_11)) (fun r_30 h_31 => ?_)
            refine lv_iconst (v := 2) hx hb (oc_5 25 shX12_closesSums_25) kic_2 ?_
            refine lv_icmp_eq (tgt := 37) hx hb (oc_159 26 (aq_1 shX12_closesSums_25) sgw_0_11) rfl (fun c_32 => ?_) (fun c_32 => ?_)
            ·
              have tc_32 : (r_30.toInt : Int) = 2 := congrArg Int32.toInt c_32
              refine lv_aload_n hx hb dX12_closesSums_37 rfl (lvA0 hl) ?_
              refine lv_aload_n hx hb dX12_closesSums_38 rfl (lvA0 hl) ?_
              refine vp_callSi (runV_ra (As := []) (rest := [.ref (g 100)]) S (q_top l D cI cB cZ g cz In Fz  hI0 hx0_0.wk (by (first | omega | (have zz0 := Hid.u hi_cn; have zz1 := Hid.u hi_cz; have zz2 := Hid.u hq_cz; omega)))) kV_RX12_267 hK hP 0 rfl rfl rfl ⟨Nat.le_of_ble_eq_true rfl, Nat.le_of_ble_eq_true rfl⟩ ⟨Nat.le_of_ble_eq_true rfl, Nat.le_of_ble_eq_true rfl⟩ rfl hl.1 rfl (Nat.le_of_ble_eq_true rfl) dX12_closesSums_39) (fun r_33 h_34 => ?_)
              obtain rfl : r_33 = nI (kd (Fz 28 (cz 24 - 1))) := nI_ofT (by (first | omega | (have zz0 := Hid.u hi_cn; have zz1 := Hid.u hi_cz; have zz2 := Hid.u hq_cz; omega))) (by (first | omega | (have zz0 := Hid.u hi_cn; have zz1 := Hid.u hi_cz; have zz2 := Hid.u hq_cz; omega)))
              refine lv_iconst (v := 0) hx hb dX12_closesSums_42 kic_0 ?_
              have hFc := free_all hD hS hA
              refine va_callv (runV_a (As := [.int (nI (kd (Fz 28 (cz 24 - 1)))), .int 0]) (rest := []) S (q_says l D cI cB cZ g cz In Fz (kd (Fz 28 (cz 24 - 1))) 0 H.size hI0 (by (first | omega | (have zz0 := Hid.u hi_cn; have zz1 := Hid.u hi_cz; have zz2 := Hid.u hq_cz; omega)))) kV_RX12_270 hK hP hD 0 rfl rfl rfl ⟨Nat.le_of_ble_eq_true rfl, Nat.le_of_ble_eq_true rfl⟩ ⟨Nat.le_of_ble_eq_true rfl, Nat.le_of_ble_eq_true rfl⟩ rfl hl.1 rfl (Nat.le_of_ble_eq_true rfl) dX12_closesSums_43) hS (fun q _ h => hFc q h) hFc (fun u t H1 locs ht hvm wh_36 hB hz1 hk1 hS => ?_)
              obtain ⟨cn36, In36, Fn36⟩ := u
              obtain ⟨hP1, hD1⟩ := hB
              rw [ht] at hP1
              have vh_36 : (fun c2 I2 F2 => (∀ k : Nat, k ∉ [] → I2 k = In k) ∧ (((True) ∧ (va_up cz 23 ((cz 23) + 1)) = c2 ∧ (va_up Fz 27 (upd ((Fz 27)) ((cz 23)) (nI ((kd (Fz 28 (cz 24 - 1))) * 1048576 + 0)))) = F2))) cn36 In36 Fn36 := wh_36
              obtain ⟨hI36_, vh_36⟩ := vh_36
              obtain ⟨h_36, rfl, rfl⟩ := vh_36
              obtain rfl : In = In36 := (funext (fun k => hI36_ k List.not_mem_nil)).symm
              have hP : va_P D vwCl (wM cI cB cZ g (va_up cz 23 ((cz 23) + 1)) In (va_up Fz 27 (upd ((Fz 27)) ((cz 23)) (nI ((kd (Fz 28 (cz 24 - 1))) * 1048576 + 0))))) H1 := hP1
              have hD : va_D A (wM cI cB cZ g (va_up cz 23 ((cz 23) + 1)) In (va_up Fz 27 (upd ((Fz 27)) ((cz 23)) (nI ((kd (Fz 28 (cz 24 - 1))) * 1048576 + 0))))) := hD1.weaken (fun _ _ _ h => hFc _ h)
              generalize H1 = H at hP hS ⊢
              refine lv_aload_n hx hb dX12_closesSums_46 rfl (lvA0 hl) ?_
              refine lv_aload_n hx hb dX12_closesSums_47 rfl (lvA0 hl) ?_
              refine gM_264 S hK hP (v := .int (nI (cz 24))) rfl dX12_closesSums_48 ?_
              refine lv_iconst (v := 1) hx hb dX12_closesSums_51 kic_1 ?_
              refine lv_isub hx hb dX12_closesSums_52 ?_
              refine lv_topi (fun y_37 ey_37 => ?_)
              obtain rfl : y_37 = (nI (cz 24 - 1)) := ey_37.trans (nI_sub (b := 1) (by (first | omega | (have zz0 := Hid.u hi_cn; have zz1 := Hid.u hi_cz; have zz2 := Hid.u hq_cz; omega))))
              refine pM_264 S hK hP hD hS (a := (cz 24 - 1)) (cn2 := (va_up (va_up cz 23 ((cz 23) + 1)) 24 (cz 24 - 1))) rfl rfl dX12_closesSums_53 (fun H locs hP hD hS => ?_)
              refine lv_goto (tgt := 0) hx hb dX12_closesSums_56 rfl ?_
              exact ih0  (va_up (va_up cz 23 ((cz 23) + 1)) 24 (cz 24 - 1)) (va_up Fz 27 (upd ((Fz 27)) ((cz 23)) (nI ((kd (Fz 28 (cz 24 - 1))) * 1048576 + 0)))) _ _ (show (cz 24 - 1) < n0 by (first | omega | (have zz0 := Hid.u hi_cn; have zz1 := Hid.u hi_cz; have zz2 := Hid.u hq_cz; omega))) ⟨(Fr.mo (Fr.f 27 (Fr.c 24 (Fr.c 23 hfr0))) (sbl rfl) (sbl rfl) (sbl rfl)), (IM.fr (In := In) hI0 (Fr.f 27 (Fr.c 24 (Fr.c 23 Fr.rf))) (by decide) (by decide)), (by have q := PSx.popop' hx0_0 (by (first | omega | (have zz0 := Hid.u hi_cn; have zz1 := Hid.u hi_cz; have zz2 := Hid.u hq_cz; omega))) (by (first | omega | (have zz0 := Hid.u hi_cn; have zz1 := Hid.u hi_cz; have zz2 := Hid.u hq_cz; omega))); exact q), (by show cz 24 - 1 ≤ cn 24; (first | omega | (have zz0 := Hid.u hi_cn; have zz1 := Hid.u hi_cz; have zz2 := Hid.u hq_cz; omega))), (fun k hk => (upd_lt (by (first | omega | (have zz0 := Hid.u hi_cn; have zz1 := Hid.u hi_cz; have zz2 := Hid.u hq_cz; omega)))).trans (hx0_2 k hk)), (fun i h1 h2 => by have h1 : cz 24 - 1 ≤ i := h1; show kd (Fz 28 i) ≤ 6; by_cases e : i = cz 24 - 1; (rw [e]; (first | omega | (have zz0 := Hid.u hi_cn; have zz1 := Hid.u hi_cz; have zz2 := Hid.u hq_cz; omega))); exact hx0_3 i (by (first | omega | (have zz0 := Hid.u hi_cn; have zz1 := Hid.u hi_cz; have zz2 := Hid.u hq_cz; omega))) h2)⟩ hP hD hS ls (lv_sub hl [0, 1] rfl)
            ·
              have tc_32 : (r_30.toInt : Int) ≠ 2 := fun q => c_32 (Int32.toInt_inj.mp q)
              refine lv_aload_n hx hb (oc_42 29 (aq_4 shX12_closesSums_25)) rfl (lvA0 hl) ?_
              refine vp_callSi (runV_ra (As := []) (rest := []) S (q_top l D cI cB cZ g cz In Fz  hI0 hx0_0.wk (by (first | omega | (have zz0 := Hid.u hi_cn; have zz1 := Hid.u hi_cz; have zz2 := Hid.u hq_cz; omega)))) kV_RX12_267 hK hP 0 rfl rfl rfl ⟨Nat.le_of_ble_eq_true rfl, Nat.le_of_ble_eq_true rfl⟩ ⟨Nat.le_of_ble_eq_true rfl, Nat.le_of_ble_eq_true rfl⟩ rfl hl.1 rfl (Nat.le_of_ble_eq_true rfl) (oc_182 30 (aq_5 shX12_closesSums_25) uw_1_11)) (fun r_38 h_39 => ?_)
              refine lv_iconst (v := 3) hx hb (oc_6 33 (aq_8 shX12_closesSums_25)) kic_3 ?_
              refine lv_icmp_ne (tgt := 59) hx hb (oc_160 34 (aq_9 shX12_closesSums_25) sgw_0_25) rfl (fun c_40 => ?_) (fun c_40 => ?_)
              ·
                have tc_40 : (r_38.toInt : Int) ≠ 3 := fun q => c_40 (Int32.toInt_inj.mp q)
                exact W.vret hx hb hr (fun t ht hW => ⟨⟨(cz, In, Fz), rfl, ⟨(Fr.mo hfr0 (sbl rfl) (sbl rfl) (sbl rfl)), hI0, (by show (PSx (cz 19) (cz 20) (cz 23) (cz 24) (Fz 27) (Fz 28) a0 (G0 + 1) w0 s0) ∧ cz 24 ≤ cn 24 ∧ (∀ k : Nat, k < a0 → Fz 27 k = Fn 27 k) ∧ (∀ i : Nat, cz 24 ≤ i → i < cn 24 → kd (Fz 28 i) ≤ 6) ∧ (¬ (v0 : Int32) = 0 → cz 24 = w0 ∨ kd (Fz 28 (cz 24 - 1)) = 14); exact ⟨hx0_0, hx0_1, hx0_2, hx0_3, fun hz => by first | (first | omega | (have zz0 := Hid.u hi_cn; have zz1 := Hid.u hi_cz; have zz2 := Hid.u hq_cz; omega)) | exact absurd (by assumption) hz⟩)⟩, by rw [ht]; exact hP, hD⟩, hS.F ht⟩) hS.2.2 dX12_closesSums_59
              ·
                have tc_40 : (r_38.toInt : Int) = 3 := congrArg Int32.toInt c_40
                refine lv_aload_n hx hb dX12_closesSums_37 rfl (lvA0 hl) ?_
                refine lv_aload_n hx hb dX12_closesSums_38 rfl (lvA0 hl) ?_
                refine vp_callSi (runV_ra (As := []) (rest := [.ref (g 100)]) S (q_top l D cI cB cZ g cz In Fz  hI0 hx0_0.wk (by (first | omega | (have zz0 := Hid.u hi_cn; have zz1 := Hid.u hi_cz; have zz2 := Hid.u hq_cz; omega)))) kV_RX12_267 hK hP 0 rfl rfl rfl ⟨Nat.le_of_ble_eq_true rfl, Nat.le_of_ble_eq_true rfl⟩ ⟨Nat.le_of_ble_eq_true rfl, Nat.le_of_ble_eq_true rfl⟩ rfl hl.1 rfl (Nat.le_of_ble_eq_true rfl) dX12_closesSums_39) (fun r_41 h_42 => ?_)
                obtain rfl : r_41 = nI (kd (Fz 28 (cz 24 - 1))) := nI_ofT (by (first | omega | (have zz0 := Hid.u hi_cn; have zz1 := Hid.u hi_cz; have zz2 := Hid.u hq_cz; omega))) (by (first | omega | (have zz0 := Hid.u hi_cn; have zz1 := Hid.u hi_cz; have zz2 := Hid.u hq_cz; omega)))
                refine lv_iconst (v := 0) hx hb dX12_closesSums_42 kic_0 ?_
                have hFc := free_all hD hS hA
                refine va_callv (runV_a (As := [.int (nI (kd (Fz 28 (cz 24 - 1)))), .int 0]) (rest := []) S (q_says l D cI cB cZ g cz In Fz (kd (Fz 28 (cz 24 - 1))) 0 H.size hI0 (by (first | omega | (have zz0 := Hid.u hi_cn; have zz1 := Hid.u hi_cz; have zz2 := Hid.u hq_cz; omega)))) kV_RX12_270 hK hP hD 0 rfl rfl rfl ⟨Nat.le_of_ble_eq_true rfl, Nat.le_of_ble_eq_true rfl⟩ ⟨Nat.le_of_ble_eq_true rfl, Nat.le_of_ble_eq_true rfl⟩ rfl hl.1 rfl (Nat.le_of_ble_eq_true rfl) dX12_closesSums_43) hS (fun q _ h => hFc q h) hFc (fun u t H1 locs ht hvm wh_44 hB hz1 hk1 hS => ?_)
                obtain ⟨cn44, In44, Fn44⟩ := u
                obtain ⟨hP1, hD1⟩ := hB
                rw [ht] at hP1
                have vh_44 : (fun c2 I2 F2 => (∀ k : Nat, k ∉ [] → I2 k = In k) ∧ (((True) ∧ (va_up cz 23 ((cz 23) + 1)) = c2 ∧ (va_up Fz 27 (upd ((Fz 27)) ((cz 23)) (nI ((kd (Fz 28 (cz 24 - 1))) * 1048576 + 0)))) = F2))) cn44 In44 Fn44 := wh_44
                obtain ⟨hI44_, vh_44⟩ := vh_44
                obtain ⟨h_44, rfl, rfl⟩ := vh_44
                obtain rfl : In = In44 := (funext (fun k => hI44_ k List.not_mem_nil)).symm
                have hP : va_P D vwCl (wM cI cB cZ g (va_up cz 23 ((cz 23) + 1)) In (va_up Fz 27 (upd ((Fz 27)) ((cz 23)) (nI ((kd (Fz 28 (cz 24 - 1))) * 1048576 + 0))))) H1 := hP1
                have hD : va_D A (wM cI cB cZ g (va_up cz 23 ((cz 23) + 1)) In (va_up Fz 27 (upd ((Fz 27)) ((cz 23)) (nI ((kd (Fz 28 (cz 24 - 1))) * 1048576 + 0))))) := hD1.weaken (fun _ _ _ h => hFc _ h)
                generalize H1 = H at hP hS ⊢
                refine lv_aload_n hx hb dX12_closesSums_46 rfl (lvA0 hl) ?_
                refine lv_aload_n hx hb dX12_closesSums_47 rfl (lvA0 hl) ?_
                refine gM_264 S hK hP (v := .int (nI (cz 24))) rfl dX12_closesSums_48 ?_
                refine lv_iconst (v := 1) hx hb dX12_closesSums_51 kic_1 ?_
                refine lv_isub hx hb dX12_closesSums_52 ?_
                refine lv_topi (fun y_45 ey_45 => ?_)
                obtain rfl : y_45 = (nI (cz 24 - 1)) := ey_45.trans (nI_sub (b := 1) (by (first | omega | (have zz0 := Hid.u hi_cn; have zz1 := Hid.u hi_cz; have zz2 := Hid.u hq_cz; omega))))
                refine pM_264 S hK hP hD hS (a := (cz 24 - 1)) (cn2 := (va_up (va_up cz 23 ((cz 23) + 1)) 24 (cz 24 - 1))) rfl rfl dX12_closesSums_53 (fun H locs hP hD hS => ?_)
                refine lv_goto (tgt := 0) hx hb dX12_closesSums_56 rfl ?_
                exact ih0  (va_up (va_up cz 23 ((cz 23) + 1)) 24 (cz 24 - 1)) (va_up Fz 27 (upd ((Fz 27)) ((cz 23)) (nI ((kd (Fz 28 (cz 24 - 1))) * 1048576 + 0)))) _ _ (show (cz 24 - 1) < n0 by (first | omega | (have zz0 := Hid.u hi_cn; have zz1 := Hid.u hi_cz; have zz2 := Hid.u hq_cz; omega))) ⟨(Fr.mo (Fr.f 27 (Fr.c 24 (Fr.c 23 hfr0))) (sbl rfl) (sbl rfl) (sbl rfl)), (IM.fr (In := In) hI0 (Fr.f 27 (Fr.c 24 (Fr.c 23 Fr.rf))) (by decide) (by decide)), (by have q := PSx.popop' hx0_0 (by (first | omega | (have zz0 := Hid.u hi_cn; have zz1 := Hid.u hi_cz; have zz2 := Hid.u hq_cz; omega))) (by (first | omega | (have zz0 := Hid.u hi_cn; have zz1 := Hid.u hi_cz; have zz2 := Hid.u hq_cz; omega))); exact q), (by show cz 24 - 1 ≤ cn 24; (first | omega | (have zz0 := Hid.u hi_cn; have zz1 := Hid.u hi_cz; have zz2 := Hid.u hq_cz; omega))), (fun k hk => (upd_lt (by (first | omega | (have zz0 := Hid.u hi_cn; have zz1 := Hid.u hi_cz; have zz2 := Hid.u hq_cz; omega)))).trans (hx0_2 k hk)), (fun i h1 h2 => by have h1 : cz 24 - 1 ≤ i := h1; show kd (Fz 28 i) ≤ 6; by_cases e : i = cz 24 - 1; (rw [e]; (first | omega | (have zz0 := Hid.u hi_cn; have zz1 := Hid.u hi_cz; have zz2 := Hid.u hq_cz; omega))); exact hx0_3 i (by (first | omega | (have zz0 := Hid.u hi_cn; have zz1 := Hid.u hi_cz; have zz2 := Hid.u hq_cz; omega))) h2)⟩ hP hD hS ls (lv_sub hl [0, 1] rfl)
  exact lp_0 _  cn Fn _ _ (Nat.lt_succ_self _) ⟨(Fr.mo Fr.rf (sbl rfl) (sbl rfl) (sbl rfl)), hI, hPS, (Nat.le_refl _), (fun k hk => rfl), (fun i h1 h2 => absurd (Nat.lt_of_lt_of_le h2 h1) (Nat.lt_irrefl _))⟩ hP hD hS ls (lv_sub hl [0, 1] rfl)
set_option maxRecDepth 100000 in
set_option maxHeartbeats 4000000 in
theorem q_readsFactor (l : Launch) (D : va_G) (cI cB cZ : ClassId) (g : Nat → Nat) (cn : Nat → Nat) (In : Nat → Int32) (Fn : Nat → Nat → Int32) (a0 G0 w0 s0 : Nat) (sz : Nat) (hI : IM cn Fn) (hPS : PSx (cn 19) (cn 20) (cn 23) (cn 24) (Fn 27) (Fn 28) a0 G0 w0 s0) : Met l yX12_readsFactor (CWS yX12_readsFactor cX12_readsFactor 2 (some .boolean)) (RM 3 0 0) (PBw [.ref (g 100)] D cI cB cZ (wM cI cB cZ g cn In Fn) sz) (va_Qi (fun (r : Int32) (u : (Nat → Nat) × (Nat → Int32) × (Nat → Nat → Int32)) => (fun r c2 I2 F2 => Fr [19, 23, 24, 26] [21, 22] [27, 28] cn In Fn c2 I2 F2 ∧ IM c2 F2 ∧ (r = 0 ∨ (r = 1 ∧ PSx (c2 19) (c2 20) (c2 23) (c2 24) (F2 27) (F2 28) a0 (G0 + 1) w0 s0 ∧ (∀ k : Nat, k < a0 → F2 27 k = Fn 27 k) ∧ (∀ i : Nat, i < w0 → F2 28 i = Fn 28 i) ∧ cn 19 < c2 19))) r u.1 u.2.1 u.2.2) (fun (u : (Nat → Nat) × (Nat → Int32) × (Nat → Nat → Int32)) (t : State) => va_P D vwCl (wM cI cB cZ g u.1 u.2.1 u.2.2) t.heap ∧ va_D (va_A (wM cI cB cZ g cn In Fn) sz) (wM cI cB cZ g u.1 u.2.1 u.2.2)) (va_A (wM cI cB cZ g cn In Fn) sz)) 0 0 (va_A (wM cI cB cZ g cn In Fn) sz) := by
  refine en_w (fun A => (va_Qi (fun (r : Int32) (u : (Nat → Nat) × (Nat → Int32) × (Nat → Nat → Int32)) => (fun (r : Int32) (c2 : Nat → Nat) (I2 : Nat → Int32) (F2 : Nat → Nat → Int32) => Fr [19, 23, 24, 26] [21, 22] [27, 28] cn In Fn c2 I2 F2 ∧ IM c2 F2 ∧ (r = 0 ∨ (r = 1 ∧ PSx (c2 19) (c2 20) (c2 23) (c2 24) (F2 27) (F2 28) a0 (G0 + 1) w0 s0 ∧ (∀ k : Nat, k < a0 → F2 27 k = Fn 27 k) ∧ (∀ i : Nat, i < w0 → F2 28 i = Fn 28 i) ∧ cn 19 < c2 19))) r u.1 u.2.1 u.2.2) (fun (u : (Nat → Nat) × (Nat → Int32) × (Nat → Nat → Int32)) (t : State) => va_P D vwCl (wM cI cB cZ g u.1 u.2.1 u.2.2) t.heap ∧ va_D A (wM cI cB cZ g u.1 u.2.1 u.2.2)) A)) rfl rfl pn_RX12 (Nat.le_of_ble_eq_true rfl) (fun p e s m below meth c A hx hb hml hown S hr hlocks hnm hA hP hK hD hS ls hl => ?_)
  have hl : lv_has ls 2 [(0, .ref (g 100))] := hl
  have hi_cn : Hid (CB cn) := hI.b
  have lp_0 : ∀ (n : Nat)  (cz : Nat → Nat) (Iz : Nat → Int32) (Fz : Nat → Nat → Int32) (H : Heap) (locs : List Loc) , cn 20 - cz 19 < n → (Fr [19, 23, 24, 26] [21, 22] [27, 28] cn In Fn cz Iz Fz ∧ IM cz Fz ∧ (PSx (cz 19) (cz 20) (cz 23) (cz 24) (Fz 27) (Fz 28) a0 G0 w0 s0) ∧ (∀ k : Nat, k < a0 → Fz 27 k = Fn 27 k) ∧ (∀ i : Nat, i < w0 → Fz 28 i = Fn 28 i) ∧ (cn 19 ≤ cz 19)) → va_P D vwCl (wM cI cB cZ g cz Iz Fz) H → va_D A (wM cI cB cZ g cz Iz Fz) → va_S A s.heap H locs → ∀ ls : Array Slot, lv_has ls 2 [(0, .ref (g 100))] → W p l e (RM 3 0 0) s m ([.ref (g 100)]).toArray below meth c H locs 0 0 (MQ below (va_Qi (fun (r : Int32) (u : (Nat → Nat) × (Nat → Int32) × (Nat → Nat → Int32)) => (fun r c2 I2 F2 => Fr [19, 23, 24, 26] [21, 22] [27, 28] cn In Fn c2 I2 F2 ∧ IM c2 F2 ∧ (r = 0 ∨ (r = 1 ∧ PSx (c2 19) (c2 20) (c2 23) (c2 24) (F2 27) (F2 28) a0 (G0 + 1) w0 s0 ∧ (∀ k : Nat, k < a0 → F2 27 k = Fn 27 k) ∧ (∀ i : Nat, i < w0 → F2 28 i = Fn 28 i) ∧ cn 19 < c2 19))) r u.1 u.2.1 u.2.2) (fun (u : (Nat → Nat) × (Nat → Int32) × (Nat → Nat → Int32)) (t : State) => va_P D vwCl (wM cI cB cZ g u.1 u.2.1 u.2.2) t.heap ∧ va_D A (wM cI cB cZ g u.1 u.2.1 u.2.2)) A) ([.ref (g 100)]).toArray s 0 0 A) (F0 m 0 ls []) := by
    intro n0
    induction n0 with
    | zero => intros; (first | omega | (have zz0 := Hid.u hi_cn; omega))
    | succ n0 ih0 =>
      intro  cz Iz Fz H locs hmu0 hinv0 hP hD hS ls hl
      obtain ⟨hfr0, hI0, hx0_0, hx0_1, hx0_2, hx0_3⟩ := hinv0
      have hi_cz : Hid (CB cz) := hI0.b
      have : cz 20 = cn 20 := hfr0.1 20 (nml rfl)
      have : cz 25 = cn 25 := hfr0.1 25 (nml rfl)
      have hq_cz := Hid.i (frq_19_23_24_26_0_1_2_46_57_58_62_63_75_83_44 hfr0)
      have hf0 := hx0_0.f
      refine lv_aload_n hx hb (oc_42 0 shX12_readsFactor_0) rfl (lvA0 hl) ?_
      refine vp_callSi (runV_ra (As := []) (rest := []) S (q_here l D cI cB cZ g cz Iz Fz  hI0 (by (first | omega | (have zz0 := Hid.u hi_cn; have zz1 := Hid.u hi_cz; have zz2 := Hid.u hq_cz; omega))) (by (first | omega | (have zz0 := Hid.u hi_cn; have zz1 := Hid.u hi_cz; have zz2 := Hid.u hq_cz; omega)))) kV_RX12_239 hK hP 0 rfl rfl rfl ⟨Nat.le_of_ble_eq_true rfl, Nat.le_of_ble_eq_true rfl⟩ ⟨Nat.le_of_ble_eq_true rfl, Nat.le_of_ble_eq_true rfl⟩ rfl hl.1 rfl (Nat.le_of_ble_eq_true rfl) (oc_182 1 (aq_1 shX12_readsFactor_0) uw_0_239)) (fun r_1 h_2 => ?_)
      refine lv_bipush (v := 91) hx hb (oc_16 4 (aq_4 shX12_readsFactor_0) sgb_91) kbc_91 ?_
      refine lv_icmp_ne (tgt := 20) hx hb (oc_160 6 (aq_6 shX12_readsFactor_0) sgw_0_14) rfl (fun c_3 => ?_) (fun c_3 => ?_)
      ·
        have tc_3 : (r_1.toInt : Int) ≠ 91 := fun q => c_3 (Int32.toInt_inj.mp q)
        refine lv_aload_n hx hb (oc_42 20 (aq_20 shX12_readsFactor_0)) rfl (lvA0 hl) ?_
        refine vp_callSi (runV_ra (As := []) (rest := []) S (q_isDigit l D cI cB cZ g cz Iz Fz  hI0 (by (first | omega | (have zz0 := Hid.u hi_cn; have zz1 := Hid.u hi_cz; have zz2 := Hid.u hq_cz; omega))) (by (first | omega | (have zz0 := Hid.u hi_cn; have zz1 := Hid.u hi_cz; have zz2 := Hid.u hq_cz; omega)))) kV_RX12_253 hK hP 0 rfl rfl rfl ⟨Nat.le_of_ble_eq_true rfl, Nat.le_of_ble_eq_true rfl⟩ ⟨Nat.le_of_ble_eq_true rfl, Nat.le_of_ble_eq_true rfl⟩ rfl hl.1 rfl (Nat.le_of_ble_eq_true rfl) (oc_182 21 (aq_21 shX12_readsFactor_0) uw_0_253)) (fun r_4 h_5 => ?_)
        rcases h_5 with ⟨rfl, h_5⟩ | ⟨rfl, h_5⟩
        ·
          have h_5 : (cz 19) < (cz 20) ∧ 48 ≤ (hereM cz Fz).toInt ∧ (hereM cz Fz).toInt ≤ 57 := h_5
          refine lv_if_eq (tgt := 47) hx hb (oc_153 24 shX12_readsFactor_24 sgw_0_23) rfl (fun h => absurd h cq_eq_1_0) (fun _ => ?_)
          refine lv_aload_n hx hb (oc_42 27 (aq_3 shX12_readsFactor_24)) rfl (lvA0 hl) ?_
          have hFc := free_all hD hS hA
          refine va_calli (runV_a (As := []) (rest := []) S (q_readsNumber l D cI cB cZ g cz Iz Fz  H.size hI0 (by (first | omega | (have zz0 := Hid.u hi_cn; have zz1 := Hid.u hi_cz; have zz2 := Hid.u hq_cz; omega))) (by (first | omega | (have zz0 := Hid.u hi_cn; have zz1 := Hid.u hi_cz; have zz2 := Hid.u hq_cz; omega))) (by assumption)) kV_RX12_277 hK hP hD 0 rfl rfl rfl ⟨Nat.le_of_ble_eq_true rfl, Nat.le_of_ble_eq_true rfl⟩ ⟨Nat.le_of_ble_eq_true rfl, Nat.le_of_ble_eq_true rfl⟩ rfl hl.1 rfl (Nat.le_of_ble_eq_true rfl) (oc_182 28 (aq_4 shX12_readsFactor_24) uw_1_21)) hS (fun q _ h => hFc q h) hFc (fun r_6 u t H1 locs ht hvm wh_7 hB hz1 hk1 hS => ?_)
          obtain ⟨cn7, In7, Fn7⟩ := u
          obtain ⟨hP1, hD1⟩ := hB
          rw [ht] at hP1
          have hP : va_P D vwCl (wM cI cB cZ g cn7 In7 Fn7) H1 := hP1
          have hD : va_D A (wM cI cB cZ g cn7 In7 Fn7) := hD1.weaken (fun _ _ _ h => hFc _ h)
          generalize H1 = H at hP hS ⊢
          have vh_7 : (fun r c2 I2 F2 => Fr [19, 26] [21, 22] [] cz Iz Fz c2 I2 F2 ∧ IM c2 F2 ∧ (r = 0 ∨ (r = 1 ∧ (cz 19) < c2 19 ∧ c2 19 ≤ (cz 20) ∧ c2 26 < 1000000))) r_6 cn7 In7 Fn7 := wh_7
          obtain ⟨hfc7, hIn7, h_7⟩ := vh_7
          obtain rfl : Fz = Fn7 := (funext (fun k => hfc7.2.2 k List.not_mem_nil)).symm
          have hf7 : Fr [19, 23, 24, 26] [21, 22] [27, 28] cn In Fn cn7 In7 Fz := Fr.mo (Fr.tr hfr0 hfc7) (sbl rfl) (sbl rfl) (sbl rfl)
          have hi_cn7 : Hid (CB cn7) := hIn7.b
          have : cn7 20 = cn 20 := hf7.1 20 (nml rfl)
          have : cn7 25 = cn 25 := hf7.1 25 (nml rfl)
          have hq_cn7 := Hid.i (frq_19_23_24_26_0_1_2_46_57_58_62_63_75_83_44 hf7)
          have : cn7 20 = (cz 20) := hfc7.1 20 (nml rfl)
          have : cn7 23 = (cz 23) := hfc7.1 23 (nml rfl)
          have : cn7 24 = (cz 24) := hfc7.1 24 (nml rfl)
          have : cn7 25 = (cz 25) := hfc7.1 25 (nml rfl)
          rcases h_7 with rfl | ⟨rfl, kh_7⟩
          ·
            refine lv_if_ne (tgt := 36) hx hb (oc_154 31 (aq_7 shX12_readsFactor_24) sgw_0_5) rfl (fun h => absurd h cq_eq_0_0) (fun _ => ?_)
            refine lv_iconst (v := 0) hx hb (oc_3 34 (aq_10 shX12_readsFactor_24)) kic_0 ?_
            exact W.zret (v := 0) hx hb hr rfl (fun t ht hW => ⟨⟨0, (cn7, In7, Fz), rfl, ⟨(Fr.mo hf7 (sbl rfl) (sbl rfl) (sbl rfl)), hIn7, (by show 0 = 0 ∨ (0 = 1 ∧ PSx (cn7 19) (cn7 20) (cn7 23) (cn7 24) (Fz 27) (Fz 28) a0 (G0 + 1) w0 s0 ∧ (∀ k : Nat, k < a0 → Fz 27 k = Fn 27 k) ∧ (∀ i : Nat, i < w0 → Fz 28 i = Fn 28 i) ∧ cn 19 < cn7 19); exact Or.inl rfl)⟩, by rw [ht]; exact hP, hD⟩, hS.F ht⟩) hS.2.2 (oc_172 35 (aq_11 shX12_readsFactor_24))
          ·
            obtain ⟨kh_7a, kh_7b, kh_7c⟩ := kh_7
            refine lv_if_ne (tgt := 36) hx hb (oc_154 31 (aq_7 shX12_readsFactor_24) sgw_0_5) rfl (fun _ => ?_) (fun h => absurd h cq_eq_1_0)
            refine lv_aload_n hx hb (oc_42 36 (aq_12 shX12_readsFactor_24)) rfl (lvA0 hl) ?_
            refine lv_iconst (v := 0) hx hb (oc_3 37 (aq_13 shX12_readsFactor_24)) kic_0 ?_
            refine lv_aload_n hx hb (oc_42 38 (aq_14 shX12_readsFactor_24)) rfl (lvA0 hl) ?_
            refine gM_250 S hK hP (v := .int (nI (cn7 26))) rfl (oc_180 39 (aq_15 shX12_readsFactor_24) uw_0_250) ?_
            have hFc := free_all hD hS hA
            refine va_callv (runV_a (As := [.int 0, .int (nI (cn7 26))]) (rest := []) S (q_says l D cI cB cZ g cn7 In7 Fz 0 (cn7 26) H.size hIn7 (by (first | omega | (have zz0 := Hid.u hi_cn; have zz1 := Hid.u hi_cn7; have zz2 := Hid.u hi_cz; have zz3 := Hid.u hq_cn7; have zz4 := Hid.u hq_cz; omega)))) kV_RX12_270 hK hP hD 0 rfl rfl rfl ⟨Nat.le_of_ble_eq_true rfl, Nat.le_of_ble_eq_true rfl⟩ ⟨Nat.le_of_ble_eq_true rfl, Nat.le_of_ble_eq_true rfl⟩ rfl hl.1 rfl (Nat.le_of_ble_eq_true rfl) (oc_182 42 (aq_18 shX12_readsFactor_24) uw_1_14)) hS (fun q _ h => hFc q h) hFc (fun u t H1 locs ht hvm wh_9 hB hz1 hk1 hS => ?_)
            obtain ⟨cn9, In9, Fn9⟩ := u
            obtain ⟨hP1, hD1⟩ := hB
            rw [ht] at hP1
            have vh_9 : (fun c2 I2 F2 => (∀ k : Nat, k ∉ [] → I2 k = In7 k) ∧ (((True) ∧ (va_up cn7 23 ((cn7 23) + 1)) = c2 ∧ (va_up Fz 27 (upd ((Fz 27)) ((cn7 23)) (nI (0 * 1048576 + (cn7 26))))) = F2))) cn9 In9 Fn9 := wh_9
            obtain ⟨hI9_, vh_9⟩ := vh_9
            obtain ⟨h_9, rfl, rfl⟩ := vh_9
            obtain rfl : In7 = In9 := (funext (fun k => hI9_ k List.not_mem_nil)).symm
            have hP : va_P D vwCl (wM cI cB cZ g (va_up cn7 23 ((cn7 23) + 1)) In7 (va_up Fz 27 (upd ((Fz 27)) ((cn7 23)) (nI (0 * 1048576 + (cn7 26)))))) H1 := hP1
            have hD : va_D A (wM cI cB cZ g (va_up cn7 23 ((cn7 23) + 1)) In7 (va_up Fz 27 (upd ((Fz 27)) ((cn7 23)) (nI (0 * 1048576 + (cn7 26)))))) := hD1.weaken (fun _ _ _ h => hFc _ h)
            generalize H1 = H at hP hS ⊢
            refine lv_iconst (v := 1) hx hb (oc_4 45 (aq_21 shX12_readsFactor_24)) kic_1 ?_
            exact W.zret (v := 1) hx hb hr rfl (fun t ht hW => ⟨⟨1, ((va_up cn7 23 ((cn7 23) + 1)), In7, (va_up Fz 27 (upd ((Fz 27)) ((cn7 23)) (nI (0 * 1048576 + (cn7 26)))))), rfl, ⟨(Fr.mo (Fr.f 27 (Fr.c 23 hf7)) (sbl rfl) (sbl rfl) (sbl rfl)), (IM.fr (In := In7) hIn7 (Fr.f 27 (Fr.c 23 Fr.rf)) (by decide) (by decide)), (by show 1 = 0 ∨ (1 = 1 ∧ PSx ((va_up cn7 23 ((cn7 23) + 1)) 19) ((va_up cn7 23 ((cn7 23) + 1)) 20) ((va_up cn7 23 ((cn7 23) + 1)) 23) ((va_up cn7 23 ((cn7 23) + 1)) 24) ((va_up Fz 27 (upd ((Fz 27)) ((cn7 23)) (nI (0 * 1048576 + (cn7 26))))) 27) ((va_up Fz 27 (upd ((Fz 27)) ((cn7 23)) (nI (0 * 1048576 + (cn7 26))))) 28) a0 (G0 + 1) w0 s0 ∧ (∀ k : Nat, k < a0 → (va_up Fz 27 (upd ((Fz 27)) ((cn7 23)) (nI (0 * 1048576 + (cn7 26))))) 27 k = Fn 27 k) ∧ (∀ i : Nat, i < w0 → (va_up Fz 27 (upd ((Fz 27)) ((cn7 23)) (nI (0 * 1048576 + (cn7 26))))) 28 i = Fn 28 i) ∧ cn 19 < (va_up cn7 23 ((cn7 23) + 1)) 19); exact Or.inr ⟨rfl, (by have q := PSx.factor hx0_0 (pl' := cn7 19) (o := 0) (x := cn7 26) (by (first | omega | (have zz0 := Hid.u hi_cn; have zz1 := Hid.u hi_cn7; have zz2 := Hid.u hi_cz; have zz3 := Hid.u hq_cn7; have zz4 := Hid.u hq_cz; omega))) (by (first | omega | (have zz0 := Hid.u hi_cn; have zz1 := Hid.u hi_cn7; have zz2 := Hid.u hi_cz; have zz3 := Hid.u hq_cn7; have zz4 := Hid.u hq_cz; omega))) (Or.inl rfl) (by (first | omega | (have zz0 := Hid.u hi_cn; have zz1 := Hid.u hi_cn7; have zz2 := Hid.u hi_cz; have zz3 := Hid.u hq_cn7; have zz4 := Hid.u hq_cz; omega))); rw [← (show cn7 20 = cz 20 by (first | omega | (have zz0 := Hid.u hi_cn; have zz1 := Hid.u hi_cn7; have zz2 := Hid.u hi_cz; have zz3 := Hid.u hq_cn7; have zz4 := Hid.u hq_cz; omega))), ← (show cn7 23 = cz 23 by (first | omega | (have zz0 := Hid.u hi_cn; have zz1 := Hid.u hi_cn7; have zz2 := Hid.u hi_cz; have zz3 := Hid.u hq_cn7; have zz4 := Hid.u hq_cz; omega))), ← (show cn7 24 = cz 24 by (first | omega | (have zz0 := Hid.u hi_cn; have zz1 := Hid.u hi_cn7; have zz2 := Hid.u hi_cz; have zz3 := Hid.u hq_cn7; have zz4 := Hid.u hq_cz; omega)))] at q; exact q), fun k hk => (upd_lt (by (first | omega | (have zz0 := Hid.u hi_cn; have zz1 := Hid.u hi_cn7; have zz2 := Hid.u hi_cz; have zz3 := Hid.u hq_cn7; have zz4 := Hid.u hq_cz; omega)))).trans (hx0_1 k hk), hx0_2, (by show cn 19 < cn7 19; (first | omega | (have zz0 := Hid.u hi_cn; have zz1 := Hid.u hi_cn7; have zz2 := Hid.u hi_cz; have zz3 := Hid.u hq_cn7; have zz4 := Hid.u hq_cz; omega)))⟩)⟩, by rw [ht]; exact hP, hD⟩, hS.F ht⟩) hS.2.2 (oc_172 46 (aq_22 shX12_readsFactor_24))
        ·
          have h_5 : ¬ ((cz 19) < (cz 20) ∧ 48 ≤ (hereM cz Fz).toInt ∧ (hereM cz Fz).toInt ≤ 57) := h_5
          refine lv_if_eq (tgt := 47) hx hb (oc_153 24 shX12_readsFactor_24 sgw_0_23) rfl (fun _ => ?_) (fun h => absurd h cq_eq_0_0)
          refine lv_aload_n hx hb (oc_42 47 (aq_23 shX12_readsFactor_24)) rfl (lvA0 hl) ?_
          refine vp_callSi (runV_ra (As := []) (rest := []) S (q_here l D cI cB cZ g cz Iz Fz  hI0 (by (first | omega | (have zz0 := Hid.u hi_cn; have zz1 := Hid.u hi_cz; have zz2 := Hid.u hq_cz; omega))) (by (first | omega | (have zz0 := Hid.u hi_cn; have zz1 := Hid.u hi_cz; have zz2 := Hid.u hq_cz; omega)))) kV_RX12_239 hK hP 0 rfl rfl rfl ⟨Nat.le_of_ble_eq_true rfl, Nat.le_of_ble_eq_true rfl⟩ ⟨Nat.le_of_ble_eq_true rfl, Nat.le_of_ble_eq_true rfl⟩ rfl hl.1 rfl (Nat.le_of_ble_eq_true rfl) (oc_182 48 shX12_readsFactor_48 uw_0_239)) (fun r_10 h_11 => ?_)
          refine vp_callSi (runS_r (As := [.int r_10]) (rest := []) S (q_factOf l D cI cB cZ r_10 ) kS_RX12_280 hK hP [] rfl ⟨Nat.le_of_ble_eq_true rfl, Nat.le_of_ble_eq_true rfl⟩ ⟨Nat.le_of_ble_eq_true rfl, Nat.le_of_ble_eq_true rfl⟩ rfl hl.1 rfl (Nat.le_of_ble_eq_true rfl) (oc_184 51 (aq_3 shX12_readsFactor_48) uw_1_24)) (fun r_12 h_13 => ?_)
          rcases h_13 with rfl | ⟨mr_12, hmr_12, hvr_12, rfl⟩
          ·
            refine lv_istore_n (lv' := [(1, .int (-1)), (0, .ref (g 100))]) hx hb (oc_60 54 (aq_6 shX12_readsFactor_48)) rfl hl (ltb rfl) rfl (fun ls hl => ?_)
            refine lv_iload_n hx hb (oc_27 55 (aq_7 shX12_readsFactor_48)) rfl (lvA0 hl) ?_
            refine lv_iconst (v := (-1)) hx hb (oc_2 56 (aq_8 shX12_readsFactor_48)) kic_m1 ?_
            refine lv_icmp_ne (tgt := 70) hx hb (oc_160 57 (aq_9 shX12_readsFactor_48) sgw_0_13) rfl (fun h => absurd h cq_eq_m1_m1) (fun _ => ?_)
            refine lv_aload_n hx hb (oc_42 60 (aq_12 shX12_readsFactor_48)) rfl (lvA1 hl) ?_
            refine lv_iconst (v := 1) hx hb (oc_4 61 (aq_13 shX12_readsFactor_48)) kic_1 ?_
            refine lv_aload_n hx hb (oc_42 62 (aq_14 shX12_readsFactor_48)) rfl (lvA1 hl) ?_
            refine gM_233 S hK hP (v := .int (nI (cz 19))) rfl (oc_180 63 (aq_15 shX12_readsFactor_48) uw_0_233) ?_
            have hFc := free_all hD hS hA
            refine va_calli (runV_a (As := [.int 1, .int (nI (cz 19))]) (rest := []) S (q_wrong l D cI cB cZ g cz Iz Fz 1 (nI (cz 19)) H.size hI0) kV_RX12_246 hK hP hD 0 rfl rfl rfl ⟨Nat.le_of_ble_eq_true rfl, Nat.le_of_ble_eq_true rfl⟩ ⟨Nat.le_of_ble_eq_true rfl, Nat.le_of_ble_eq_true rfl⟩ rfl hl.1 rfl (Nat.le_of_ble_eq_true rfl) (oc_182 66 (aq_18 shX12_readsFactor_48) uw_0_246)) hS (fun q _ h => hFc q h) hFc (fun r_14 u t H1 locs ht hvm wh_15 hB hz1 hk1 hS => ?_)
            obtain ⟨cn15, In15, Fn15⟩ := u
            obtain ⟨hP1, hD1⟩ := hB
            rw [ht] at hP1
            have vh_15 : (fun r c2 I2 F2 => (∀ k : Nat, k ∉ [21] → I2 k = Iz k) ∧ ((r = 0 ∧ (True) ∧ cz = c2 ∧ Fz = F2))) r_14 cn15 In15 Fn15 := wh_15
            obtain ⟨hI15_, vh_15⟩ := vh_15
            obtain ⟨rfl, h_15, rfl, rfl⟩ := vh_15
            have hf15 : Fr [19, 23, 24, 26] [21, 22] [27, 28] cn In Fn cz In15 Fz := Fr.mo (Fr.tr hfr0 (show Fr [] [21] [] cz Iz Fz cz In15 Fz from ⟨fun _ _ => rfl, hI15_, fun _ _ => rfl⟩)) (sbl rfl) (sbl rfl) (sbl rfl)
            have hP : va_P D vwCl (wM cI cB cZ g cz In15 Fz) H1 := hP1
            have hD : va_D A (wM cI cB cZ g cz In15 Fz) := hD1.weaken (fun _ _ _ h => hFc _ h)
            generalize H1 = H at hP hS ⊢
            exact W.zret (v := 0) hx hb hr rfl (fun t ht hW => ⟨⟨0, (cz, In15, Fz), rfl, ⟨(Fr.mo hf15 (sbl rfl) (sbl rfl) (sbl rfl)), hI0, (by show 0 = 0 ∨ (0 = 1 ∧ PSx (cz 19) (cz 20) (cz 23) (cz 24) (Fz 27) (Fz 28) a0 (G0 + 1) w0 s0 ∧ (∀ k : Nat, k < a0 → Fz 27 k = Fn 27 k) ∧ (∀ i : Nat, i < w0 → Fz 28 i = Fn 28 i) ∧ cn 19 < cz 19); exact Or.inl rfl)⟩, by rw [ht]; exact hP, hD⟩, hS.F ht⟩) hS.2.2 (oc_172 69 (aq_21 shX12_readsFactor_48))
          ·
            refine lv_istore_n (lv' := [(1, .int (nI mr_12)), (0, .ref (g 100))]) hx hb (oc_60 54 (aq_6 shX12_readsFactor_48)) rfl hl (ltb rfl) rfl (fun ls hl => ?_)
            refine lv_iload_n hx hb (oc_27 55 (aq_7 shX12_readsFactor_48)) rfl (lvA0 hl) ?_
            refine lv_iconst (v := (-1)) hx hb (oc_2 56 (aq_8 shX12_readsFactor_48)) kic_m1 ?_
            have : (nI mr_12).toInt = ((mr_12 : Nat) : Int) := nI_toInt (by (first | omega | (have zz0 := Hid.u hi_cn; have zz1 := Hid.u hi_cz; have zz2 := Hid.u hq_cz; omega)))
            refine lv_icmp_ne (tgt := 70) hx hb (oc_160 57 (aq_9 shX12_readsFactor_48) sgw_0_13) rfl (fun c_16 => ?_) (fun c_16 => False.elim (by have tc_16 : ((nI mr_12).toInt : Int) = (-1) := congrArg Int32.toInt c_16; (first | omega | (have zz0 := Hid.u hi_cn; have zz1 := Hid.u hi_cz; have zz2 := Hid.u hq_cz; omega))))
            have tc_16 : ((nI mr_12).toInt : Int) ≠ (-1) := fun q => c_16 (Int32.toInt_inj.mp q)
            refine lv_aload_n hx hb (oc_42 70 (aq_22 shX12_readsFactor_48)) rfl (lvA1 hl) ?_
            refine lv_iconst (v := 1) hx hb (oc_4 71 (aq_23 shX12_readsFactor_48)) kic_1 ?_
            refine lv_iload_n hx hb (oc_27 72 shX12_readsFactor_72) rfl (lvA0 hl) ?_
            have hFc := free_all hD hS hA
            refine va_callv (runV_a (As := [.int 1, .int (nI mr_12)]) (rest := []) S (q_says l D cI cB cZ g cz Iz Fz 1 mr_12 H.size hI0 (by (first | omega | (have zz0 := Hid.u hi_cn; have zz1 := Hid.u hi_cz; have zz2 := Hid.u hq_cz; omega)))) kV_RX12_270 hK hP hD 0 rfl rfl rfl ⟨Nat.le_of_ble_eq_true rfl, Nat.le_of_ble_eq_true rfl⟩ ⟨Nat.le_of_ble_eq_true rfl, Nat.le_of_ble_eq_true rfl⟩ rfl hl.1 rfl (Nat.le_of_ble_eq_true rfl) (oc_182 73 (aq_1 shX12_readsFactor_72) uw_1_14)) hS (fun q _ h => hFc q h) hFc (fun u t H1 locs ht hvm wh_18 hB hz1 hk1 hS => ?_)
            obtain ⟨cn18, In18, Fn18⟩ := u
            obtain ⟨hP1, hD1⟩ := hB
            rw [ht] at hP1
            have vh_18 : (fun c2 I2 F2 => (∀ k : Nat, k ∉ [] → I2 k = Iz k) ∧ (((True) ∧ (va_up cz 23 ((cz 23) + 1)) = c2 ∧ (va_up Fz 27 (upd ((Fz 27)) ((cz 23)) (nI (1 * 1048576 + mr_12)))) = F2))) cn18 In18 Fn18 := wh_18
            obtain ⟨hI18_, vh_18⟩ := vh_18
            obtain ⟨h_18, rfl, rfl⟩ := vh_18
            obtain rfl : Iz = In18 := (funext (fun k => hI18_ k List.not_mem_nil)).symm
            have hP : va_P D vwCl (wM cI cB cZ g (va_up cz 23 ((cz 23) + 1)) Iz (va_up Fz 27 (upd ((Fz 27)) ((cz 23)) (nI (1 * 1048576 + mr_12))))) H1 := hP1
            have hD : va_D A (wM cI cB cZ g (va_up cz 23 ((cz 23) + 1)) Iz (va_up Fz 27 (upd ((Fz 27)) ((cz 23)) (nI (1 * 1048576 + mr_12))))) := hD1.weaken (fun _ _ _ h => hFc _ h)
            generalize H1 = H at hP hS ⊢
            refine lv_aload_n hx hb (oc_42 76 (aq_4 shX12_readsFactor_72)) rfl (lvA1 hl) ?_
            refine lv_aload_n hx hb (oc_42 77 (aq_5 shX12_readsFactor_72)) rfl (lvA1 hl) ?_
            refine gM_233 S hK hP (v := .int (nI (cz 19))) rfl (oc_180 78 (aq_6 shX12_readsFactor_72) uw_0_233) ?_
            refine lv_iconst (v := 1) hx hb (oc_4 81 (aq_9 shX12_readsFactor_72)) kic_1 ?_
            refine lv_iadd hx hb (oc_96 82 (aq_10 shX12_readsFactor_72)) ?_
            refine lv_topi (fun y_19 ey_19 => ?_)
            obtain rfl : y_19 = (nI ((cz 19) + 1)) := ey_19.trans (nI_add (cz 19) 1)
            refine pM_233 S hK hP hD hS (a := ((cz 19) + 1)) (cn2 := (va_up (va_up cz 23 ((cz 23) + 1)) 19 ((cz 19) + 1))) rfl rfl (oc_181 83 (aq_11 shX12_readsFactor_72) uw_0_233) (fun H locs hP hD hS => ?_)
            refine lv_iconst (v := 1) hx hb (oc_4 86 (aq_14 shX12_readsFactor_72)) kic_1 ?_
            exact W.zret (v := 1) hx hb hr rfl (fun t ht hW => ⟨⟨1, ((va_up (va_up cz 23 ((cz 23) + 1)) 19 ((cz 19) + 1)), Iz, (va_up Fz 27 (upd ((Fz 27)) ((cz 23)) (nI (1 * 1048576 + mr_12))))), rfl, ⟨(Fr.mo (Fr.f 27 (Fr.c 19 (Fr.c 23 hfr0))) (sbl rfl) (sbl rfl) (sbl rfl)), (IM.fr (In := Iz) hI0 (Fr.f 27 (Fr.c 19 (Fr.c 23 Fr.rf))) (by decide) (by decide)), (by show 1 = 0 ∨ (1 = 1 ∧ PSx ((va_up (va_up cz 23 ((cz 23) + 1)) 19 ((cz 19) + 1)) 19) ((va_up (va_up cz 23 ((cz 23) + 1)) 19 ((cz 19) + 1)) 20) ((va_up (va_up cz 23 ((cz 23) + 1)) 19 ((cz 19) + 1)) 23) ((va_up (va_up cz 23 ((cz 23) + 1)) 19 ((cz 19) + 1)) 24) ((va_up Fz 27 (upd ((Fz 27)) ((cz 23)) (nI (1 * 1048576 + mr_12)))) 27) ((va_up Fz 27 (upd ((Fz 27)) ((cz 23)) (nI (1 * 1048576 + mr_12)))) 28) a0 (G0 + 1) w0 s0 ∧ (∀ k : Nat, k < a0 → (va_up Fz 27 (upd ((Fz 27)) ((cz 23)) (nI (1 * 1048576 + mr_12)))) 27 k = Fn 27 k) ∧ (∀ i : Nat, i < w0 → (va_up Fz 27 (upd ((Fz 27)) ((cz 23)) (nI (1 * 1048576 + mr_12)))) 28 i = Fn 28 i) ∧ cn 19 < (va_up (va_up cz 23 ((cz 23) + 1)) 19 ((cz 19) + 1)) 19); exact Or.inr ⟨rfl, (by have q := PSx.factor hx0_0 (pl' := cz 19 + 1) (o := 1) (x := mr_12) (by (first | omega | (have zz0 := Hid.u hi_cn; have zz1 := Hid.u hi_cz; have zz2 := Hid.u hq_cz; omega))) (by (first | omega | (have zz0 := Hid.u hi_cn; have zz1 := Hid.u hi_cz; have zz2 := Hid.u hq_cz; omega))) (Or.inr ⟨rfl, by (first | omega | (have zz0 := Hid.u hi_cn; have zz1 := Hid.u hi_cz; have zz2 := Hid.u hq_cz; omega))⟩) (by (first | omega | (have zz0 := Hid.u hi_cn; have zz1 := Hid.u hi_cz; have zz2 := Hid.u hq_cz; omega))); exact q), fun k hk => (upd_lt (by (first | omega | (have zz0 := Hid.u hi_cn; have zz1 := Hid.u hi_cz; have zz2 := Hid.u hq_cz; omega)))).trans (hx0_1 k hk), hx0_2, (by show cn 19 < cz 19 + 1; (first | omega | (have zz0 := Hid.u hi_cn; have zz1 := Hid.u hi_cz; have zz2 := Hid.u hq_cz; omega)))⟩)⟩, by rw [ht]; exact hP, hD⟩, hS.F ht⟩) hS.2.2 (oc_172 87 (aq_15 shX12_readsFactor_72))
      ·
        have tc_3 : (r_1.toInt : Int) = 91 := congrArg Int32.toInt c_3
        refine lv_aload_n hx hb (oc_42 9 (aq_9 shX12_readsFactor_0)) rfl (lvA0 hl) ?_
        refine lv_bipush (v := 14) hx hb (oc_16 10 (aq_10 shX12_readsFactor_0) sgb_14) kbc_14 ?_
        have hFc := free_all hD hS hA
        refine va_calli (runV_a (As := [.int 14]) (rest := []) S (q_opens l D cI cB cZ g cz Iz Fz 14 H.size hI0 (by (first | omega | (have zz0 := Hid.u hi_cn; have zz1 := Hid.u hi_cz; have zz2 := Hid.u hq_cz; omega)))) kV_RX12_274 hK hP hD 0 rfl rfl rfl ⟨Nat.le_of_ble_eq_true rfl, Nat.le_of_ble_eq_true rfl⟩ ⟨Nat.le_of_ble_eq_true rfl, Nat.le_of_ble_eq_true rfl⟩ rfl hl.1 rfl (Nat.le_of_ble_eq_true rfl) (oc_182 12 (aq_12 shX12_readsFactor_0) uw_1_18)) hS (fun q _ h => hFc q h) hFc (fun r_20 u t H1 locs ht hvm wh_21 hB hz1 hk1 hS => ?_)
        obtain ⟨cn21, In21, Fn21⟩ := u
        obtain ⟨hP1, hD1⟩ := hB
        rw [ht] at hP1
        have vh_21 : (fun r c2 I2 F2 => (∀ k : Nat, k ∉ [21, 22] → I2 k = Iz k) ∧ ((r = 0 ∧ (True) ∧ cz = c2 ∧ Fz = F2) ∨ (r = 1 ∧ (True) ∧ (va_up (va_up cz 24 ((cz 24) + 1)) 19 ((cz 19) + 1)) = c2 ∧ (va_up Fz 28 (upd ((Fz 28)) ((cz 24)) (nI (14 * 1048576)))) = F2))) r_20 cn21 In21 Fn21 := wh_21
        obtain ⟨hI21_, vh_21⟩ := vh_21
        rcases vh_21 with ⟨rfl, h_21, rfl, rfl⟩ | ⟨rfl, h_21, rfl, rfl⟩
        ·
          have hf21 : Fr [19, 23, 24, 26] [21, 22] [27, 28] cn In Fn cz In21 Fz := Fr.mo (Fr.tr hfr0 (show Fr [] [21, 22] [] cz Iz Fz cz In21 Fz from ⟨fun _ _ => rfl, hI21_, fun _ _ => rfl⟩)) (sbl rfl) (sbl rfl) (sbl rfl)
          have hP : va_P D vwCl (wM cI cB cZ g cz In21 Fz) H1 := hP1
          have hD : va_D A (wM cI cB cZ g cz In21 Fz) := hD1.weaken (fun _ _ _ h => hFc _ h)
          generalize H1 = H at hP hS ⊢
          refine lv_if_ne (tgt := 0) hx hb (oc_154 15 (aq_15 shX12_readsFactor_0) sgw_255_241) rfl (fun h => absurd h cq_eq_0_0) (fun _ => ?_)
          refine lv_iconst (v := 0) hx hb (oc_3 18 (aq_18 shX12_readsFactor_0)) kic_0 ?_
          exact W.zret (v := 0) hx hb hr rfl (fun t ht hW => ⟨⟨0, (cz, In21, Fz), rfl, ⟨(Fr.mo hf21 (sbl rfl) (sbl rfl) (sbl rfl)), hI0, (by show 0 = 0 ∨ (0 = 1 ∧ PSx (cz 19) (cz 20) (cz 23) (cz 24) (Fz 27) (Fz 28) a0 (G0 + 1) w0 s0 ∧ (∀ k : Nat, k < a0 → Fz 27 k = Fn 27 k) ∧ (∀ i : Nat, i < w0 → Fz 28 i = Fn 28 i) ∧ cn 19 < cz 19); exact Or.inl rfl)⟩, by rw [ht]; exact hP, hD⟩, hS.F ht⟩) hS.2.2 (oc_172 19 (aq_19 shX12_readsFactor_0))
        ·
          have hf21 : Fr [19, 23, 24, 26] [21, 22] [27, 28] cn In Fn cz In21 Fz := Fr.mo (Fr.tr hfr0 (show Fr [] [21, 22] [] cz Iz Fz cz In21 Fz from ⟨fun _ _ => rfl, hI21_, fun _ _ => rfl⟩)) (sbl rfl) (sbl rfl) (sbl rfl)
          have hP : va_P D vwCl (wM cI cB cZ g (va_up (va_up cz 24 ((cz 24) + 1)) 19 ((cz 19) + 1)) In21 (va_up Fz 28 (upd ((Fz 28)) ((cz 24)) (nI (14 * 1048576))))) H1 := hP1
          have hD : va_D A (wM cI cB cZ g (va_up (va_up cz 24 ((cz 24) + 1)) 19 ((cz 19) + 1)) In21 (va_up Fz 28 (upd ((Fz 28)) ((cz 24)) (nI (14 * 1048576))))) := hD1.weaken (fun _ _ _ h => hFc _ h)
          generalize H1 = H at hP hS ⊢
          refine lv_if_ne (tgt := 0) hx hb (oc_154 15 (aq_15 shX12_readsFactor_0) sgw_255_241) rfl (fun _ => ?_) (fun h => absurd h cq_eq_1_0)
          exact ih0  (va_up (va_up cz 24 ((cz 24) + 1)) 19 ((cz 19) + 1)) In21 (va_up Fz 28 (upd ((Fz 28)) ((cz 24)) (nI (14 * 1048576)))) _ _ (show cn 20 - ((cz 19) + 1) < n0 by (first | omega | (have zz0 := Hid.u hi_cn; have zz1 := Hid.u hi_cz; have zz2 := Hid.u hq_cz; omega))) ⟨(Fr.mo (Fr.f 28 (Fr.c 19 (Fr.c 24 hf21))) (sbl rfl) (sbl rfl) (sbl rfl)), (IM.fr (In := In21) hI0 (Fr.f 28 (Fr.c 19 (Fr.c 24 Fr.rf))) (by decide) (by decide)), (by have q := PSx.push14 hx0_0 (by (first | omega | (have zz0 := Hid.u hi_cn; have zz1 := Hid.u hi_cz; have zz2 := Hid.u hq_cz; omega))); exact q), hx0_1, (fun i hi => (upd_lt (by (first | omega | (have zz0 := Hid.u hi_cn; have zz1 := Hid.u hi_cz; have zz2 := Hid.u hq_cz; omega)))).trans (hx0_2 i hi)), (by show cn 19 ≤ cz 19 + 1; (first | omega | (have zz0 := Hid.u hi_cn; have zz1 := Hid.u hi_cz; have zz2 := Hid.u hq_cz; omega)))⟩ hP hD hS ls (lv_sub hl [0] rfl)
  exact lp_0 _  cn In Fn _ _ (Nat.lt_succ_self _) ⟨(Fr.mo Fr.rf (sbl rfl) (sbl rfl) (sbl rfl)), hI, hPS, (fun k hk => rfl), (fun i hi => rfl), (Nat.le_refl _)⟩ hP hD hS ls (lv_sub hl [0] rfl)
set_option maxRecDepth 100000 in
set_option maxHeartbeats 4000000 in
theorem q_hasOpenSum (l : Launch) (D : va_G) (cI cB cZ : ClassId) (g : Nat → Nat) (cn : Nat → Nat) (In : Nat → Int32) (Fn : Nat → Nat → Int32) (w0 : Nat) (hI : IM cn Fn) (hw : ∀ i : Nat, i < cn 24 → WKk (Fn 28 i)) (h24 : cn 24 ≤ 180) (hwle : w0 ≤ cn 24) : Met l yX12_hasOpenSum (CWS yX12_hasOpenSum cX12_hasOpenSum 3 (some .boolean)) (RM 0 0 0) (PBr [.ref (g 100), .int (nI w0)] D cI cB cZ (wM cI cB cZ g cn In Fn)) (vp_Si (fun r => (r = 1 ∧ (∃ i : Nat, w0 ≤ i ∧ i < cn 24 ∧ kd (Fn 28 i) = 14)) ∨ (r = 0 ∧ ¬ (∃ i : Nat, w0 ≤ i ∧ i < cn 24 ∧ kd (Fn 28 i) = 14)))) 0 0 (fun _ => False) := by
  refine en_r rfl pn_RX12 (Nat.le_of_ble_eq_true rfl) (fun p e s m below meth c hx hb hml hown S hr hlocks hnm hP hK hS ls hl => ?_)
  have hl : lv_has ls 3 [(0, .ref (g 100)), (1, .int (nI w0))] := hl
  have hi_cn : Hid (CB cn) := hI.b
  refine lv_iload_n hx hb (oc_27 0 shX12_hasOpenSum_0) rfl (lvA1 hl) ?_
  refine lv_istore_n (lv' := [(2, .int (nI w0)), (0, .ref (g 100)), (1, .int (nI w0))]) hx hb (oc_61 1 (aq_1 shX12_hasOpenSum_0)) rfl hl (ltb rfl) rfl (fun ls hl => ?_)
  have lp_2 : ∀ (n : Nat) (i2 : Nat) , cn 24 - i2 < n → ((w0 ≤ i2 ∧ i2 ≤ cn 24) ∧ (∀ i : Nat, w0 ≤ i → i < i2 → ¬ kd (Fn 28 i) = 14)) → ∀ ls : Array Slot, lv_has ls 3 [(2, .int (nI i2)), (0, .ref (g 100)), (1, .int (nI w0))] → W p l e (RM 0 0 0) s m ([.ref (g 100), .int (nI w0)]).toArray below meth c s.heap [] 0 0 (MQ below (vp_Si (fun r => (r = 1 ∧ (∃ i : Nat, w0 ≤ i ∧ i < cn 24 ∧ kd (Fn 28 i) = 14)) ∨ (r = 0 ∧ ¬ (∃ i : Nat, w0 ≤ i ∧ i < cn 24 ∧ kd (Fn 28 i) = 14)))) ([.ref (g 100), .int (nI w0)]).toArray s 0 0 (fun _ => False)) (F0 m 2 ls []) := by
    intro n2
    induction n2 with
    | zero => intros; (first | omega | (have zz0 := Hid.u hi_cn; omega))
    | succ n2 ih2 =>
      intro i2 hmu2 hinv2 ls hl
      obtain ⟨hr2, hx2_0⟩ := hinv2
      have ti2 : (nI i2).toInt = (i2 : Int) := nI_toInt (by (first | omega | (have zz0 := Hid.u hi_cn; omega)))
      refine lv_iload_n hx hb (oc_28 2 (aq_2 shX12_hasOpenSum_0)) rfl (lvA0 hl) ?_
      refine lv_aload_n hx hb (oc_42 3 (aq_3 shX12_hasOpenSum_0)) rfl (lvA1 hl) ?_
      refine gM_264 S hK hP (v := .int (nI (cn 24))) rfl (oc_180 4 (aq_4 shX12_hasOpenSum_0) uw_1_8) ?_
      have : (nI (cn 24)).toInt = (((cn 24) : Nat) : Int) := nI_toInt (by (first | omega | (have zz0 := Hid.u hi_cn; omega)))
      refine lv_icmp_ge (tgt := 33) hx hb (oc_162 7 (aq_7 shX12_hasOpenSum_0) sgw_0_26) rfl (fun c_1 => ?_) (fun c_1 => ?_)
      ·
        have tc_1 : ((nI (cn 24)).toInt : Int) ≤ (nI i2).toInt := Int32.le_iff_toInt_le.mp c_1
        refine lv_iconst (v := 0) hx hb (oc_3 33 (aq_8 shX12_hasOpenSum_25)) kic_0 ?_
        exact W.zret (v := 0) hx hb hr rfl (fun t ht hW => ⟨0, rfl, (Or.inr ⟨rfl, fun ⟨i, h1, h2, h3⟩ => hx2_0 i h1 (by (first | omega | (have zz0 := Hid.u hi_cn; omega))) h3⟩), ht⟩) (fun _ h => absurd h List.not_mem_nil) (oc_172 34 (aq_9 shX12_hasOpenSum_25))
      ·
        have tc_1 : ((nI i2).toInt : Int) < (nI (cn 24)).toInt := Int32.lt_iff_toInt_lt.mp (Int32.not_le.mp c_1)
        refine lv_aload_n hx hb (oc_42 10 (aq_10 shX12_hasOpenSum_0)) rfl (lvA1 hl) ?_
        refine gM_59 S hK hP (v := .ref (g 28)) rfl (oc_180 11 (aq_11 shX12_hasOpenSum_0) uw_0_59) ?_
        refine lv_iload_n hx hb (oc_28 14 (aq_14 shX12_hasOpenSum_0)) rfl (lvA0 hl) ?_
        have kb_1 : i2 < 180 := by (first | omega | (have zz0 := Hid.u hi_cn; omega))
        refine ldM_28 hx hb hK hP (x := ((Fn 28) i2)) (vp_in_nI kb_1 (ltb rfl)) (nI_clamp (Nat.lt_trans kb_1 (ltb rfl))) rfl (oc_46 15 (aq_15 shX12_hasOpenSum_0)) ?_
        refine lv_ldcw (v := 1048576) hx hb hown (S.2.2.2.2 _ (wk7_17 11 rfl rfl)) (oc_19 16 (aq_16 shX12_hasOpenSum_0) uw_1_4) ?_
        refine lv_idiv hx hb (oc_108 19 (aq_19 shX12_hasOpenSum_0)) (by decide) ?_
        refine lv_topi (fun y_2 ey_2 => ?_)
        obtain rfl : y_2 = (nI (kd (Fn 28 i2))) := ey_2.trans ((hw i2 (by (first | omega | (have zz0 := Hid.u hi_cn; omega)))).div)
        have hki := (hw i2 (by (first | omega | (have zz0 := Hid.u hi_cn; omega)))).k
        refine lv_bipush (v := 14) hx hb (oc_16 20 (aq_20 shX12_hasOpenSum_0) sgb_14) kbc_14 ?_
        have : (nI (kd (Fn 28 i2))).toInt = (((kd (Fn 28 i2)) : Nat) : Int) := nI_toInt (by (first | omega | (have zz0 := Hid.u hi_cn; omega)))
        refine lv_icmp_ne (tgt := 27) hx hb (oc_160 22 (aq_22 shX12_hasOpenSum_0) sgw_0_5) rfl (fun c_3 => ?_) (fun c_3 => ?_)
        ·
          have tc_3 : ((nI (kd (Fn 28 i2))).toInt : Int) ≠ 14 := fun q => c_3 (Int32.toInt_inj.mp q)
          refine lv_iinc (v := (nI (i2 + 1))) (lv' := [(2, .int (nI (i2 + 1))), (0, .ref (g 100)), (1, .int (nI w0))]) hx hb (oc_132 27 (aq_2 shX12_hasOpenSum_25) ub_2 sgb_1) hl (k := 0) rfl (nI_1 _) (ltb rfl) rfl (fun ls hl => ?_)
          refine lv_goto (tgt := 2) hx hb (oc_167 30 (aq_5 shX12_hasOpenSum_25) sgw_255_228) rfl ?_
          exact ih2 (i2 + 1) (by (first | omega | (have zz0 := Hid.u hi_cn; omega))) ⟨(by (first | omega | (have zz0 := Hid.u hi_cn; omega))), (fun i h1 h2 => by by_cases e : i = i2; (rw [e]; (first | omega | (have zz0 := Hid.u hi_cn; omega))); exact hx2_0 i h1 (by (first | omega | (have zz0 := Hid.u hi_cn; omega))))⟩ ls (lv_sub hl [0, 1, 2] rfl)
        ·
          have tc_3 : ((nI (kd (Fn 28 i2))).toInt : Int) = 14 := congrArg Int32.toInt c_3
          refine lv_iconst (v := 1) hx hb (oc_4 25 shX12_hasOpenSum_25) kic_1 ?_
          exact W.zret (v := 1) hx hb hr rfl (fun t ht hW => ⟨1, rfl, (Or.inl ⟨rfl, i2, by (first | omega | (have zz0 := Hid.u hi_cn; omega)), by (first | omega | (have zz0 := Hid.u hi_cn; omega)), by (first | omega | (have zz0 := Hid.u hi_cn; omega))⟩), ht⟩) (fun _ h => absurd h List.not_mem_nil) (oc_172 26 (aq_1 shX12_hasOpenSum_25))
  exact lp_2 _ w0 (Nat.lt_succ_self _) ⟨(by (first | omega | (have zz0 := Hid.u hi_cn; omega))), (fun i h1 h2 => absurd h2 (by (first | omega | (have zz0 := Hid.u hi_cn; omega))))⟩ ls (lv_sub hl [0, 1, 2] rfl)
set_option maxRecDepth 100000 in
set_option maxHeartbeats 4000000 in
theorem q_readsSum (l : Launch) (D : va_G) (cI cB cZ : ClassId) (g : Nat → Nat) (cn : Nat → Nat) (In : Nat → Int32) (Fn : Nat → Nat → Int32) (a0 H0 s0 : Nat) (sz : Nat) (hI : IM cn Fn) (hPS : PBk (cn 19) (cn 20) (cn 23) (cn 24) (Fn 27) (Fn 28) a0 H0 s0) (hB : 0 < cn 24 → 10 ≤ kd (Fn 28 (cn 24 - 1)) ∧ kd (Fn 28 (cn 24 - 1)) ≤ 13) : Met l yX12_readsSum (CWS yX12_readsSum cX12_readsSum 3 (some .boolean)) (RM 4 0 0) (PBw [.ref (g 100)] D cI cB cZ (wM cI cB cZ g cn In Fn) sz) (va_Qi (fun (r : Int32) (u : (Nat → Nat) × (Nat → Int32) × (Nat → Nat → Int32)) => (fun r c2 I2 F2 => Fr [19, 23, 24, 26] [21, 22] [27, 28] cn In Fn c2 I2 F2 ∧ IM c2 F2 ∧ (r = 0 ∨ (r = 1 ∧ PBk (c2 19) (c2 20) (c2 23) (c2 24) (F2 27) (F2 28) a0 (H0 + 1) s0 ∧ c2 24 = cn 24 ∧ (∀ k : Nat, k < a0 → F2 27 k = Fn 27 k) ∧ (∀ i : Nat, i < cn 24 → F2 28 i = Fn 28 i) ∧ cn 19 < c2 19))) r u.1 u.2.1 u.2.2) (fun (u : (Nat → Nat) × (Nat → Int32) × (Nat → Nat → Int32)) (t : State) => va_P D vwCl (wM cI cB cZ g u.1 u.2.1 u.2.2) t.heap ∧ va_D (va_A (wM cI cB cZ g cn In Fn) sz) (wM cI cB cZ g u.1 u.2.1 u.2.2)) (va_A (wM cI cB cZ g cn In Fn) sz)) 0 0 (va_A (wM cI cB cZ g cn In Fn) sz) := by
  refine en_w (fun A => (va_Qi (fun (r : Int32) (u : (Nat → Nat) × (Nat → Int32) × (Nat → Nat → Int32)) => (fun (r : Int32) (c2 : Nat → Nat) (I2 : Nat → Int32) (F2 : Nat → Nat → Int32) => Fr [19, 23, 24, 26] [21, 22] [27, 28] cn In Fn c2 I2 F2 ∧ IM c2 F2 ∧ (r = 0 ∨ (r = 1 ∧ PBk (c2 19) (c2 20) (c2 23) (c2 24) (F2 27) (F2 28) a0 (H0 + 1) s0 ∧ c2 24 = cn 24 ∧ (∀ k : Nat, k < a0 → F2 27 k = Fn 27 k) ∧ (∀ i : Nat, i < cn 24 → F2 28 i = Fn 28 i) ∧ cn 19 < c2 19))) r u.1 u.2.1 u.2.2) (fun (u : (Nat → Nat) × (Nat → Int32) × (Nat → Nat → Int32)) (t : State) => va_P D vwCl (wM cI cB cZ g u.1 u.2.1 u.2.2) t.heap ∧ va_D A (wM cI cB cZ g u.1 u.2.1 u.2.2)) A)) rfl rfl pn_RX12 (Nat.le_of_ble_eq_true rfl) (fun p e s m below meth c A hx hb hml hown S hr hlocks hnm hA hP hK hD hS ls hl => ?_)
  have hl : lv_has ls 3 [(0, .ref (g 100))] := hl
  have hi_cn : Hid (CB cn) := hI.b
  have hf0 := hPS.f
  refine lv_aload_n hx hb (oc_42 0 shX12_readsSum_0) rfl (lvA0 hl) ?_
  refine gM_264 S hK hP (v := .int (nI (cn 24))) rfl (oc_180 1 (aq_1 shX12_readsSum_0) uw_1_8) ?_
  refine lv_istore_n (lv' := [(1, .int (nI (cn 24))), (0, .ref (g 100))]) hx hb (oc_60 4 (aq_4 shX12_readsSum_0)) rfl hl (ltb rfl) rfl (fun ls hl => ?_)
  refine lv_aload_n hx hb (oc_42 5 (aq_5 shX12_readsSum_0)) rfl (lvA1 hl) ?_
  have hFc := free_all hD hS hA
  refine va_calli (runV_a (As := []) (rest := []) S (q_readsFactor l D cI cB cZ g cn In Fn a0 H0 (cn 24) s0 s.heap.size hI (PSx.start hPS hB)) kV_RX12_284 hK hP hD 0 rfl rfl rfl ⟨Nat.le_of_ble_eq_true rfl, Nat.le_of_ble_eq_true rfl⟩ ⟨Nat.le_of_ble_eq_true rfl, Nat.le_of_ble_eq_true rfl⟩ rfl hl.1 rfl (Nat.le_of_ble_eq_true rfl) (oc_182 6 (aq_6 shX12_readsSum_0) uw_1_28)) hS (fun q _ h => hFc q h) hFc (fun r_1 u t H1 locs ht hvm wh_2 hB hz1 hk1 hS => ?_)
  obtain ⟨cn2, In2, Fn2⟩ := u
  obtain ⟨hP1, hD1⟩ := hB
  rw [ht] at hP1
  have hP : va_P D vwCl (wM cI cB cZ g cn2 In2 Fn2) H1 := hP1
  have hD : va_D A (wM cI cB cZ g cn2 In2 Fn2) := hD1.weaken (fun _ _ _ h => hFc _ h)
  generalize H1 = H at hP hS ⊢
  have vh_2 : (fun r c2 I2 F2 => Fr [19, 23, 24, 26] [21, 22] [27, 28] cn In Fn c2 I2 F2 ∧ IM c2 F2 ∧ (r = 0 ∨ (r = 1 ∧ PSx (c2 19) (c2 20) (c2 23) (c2 24) (F2 27) (F2 28) a0 (H0 + 1) (cn 24) s0 ∧ (∀ k : Nat, k < a0 → F2 27 k = (Fn 27) k) ∧ (∀ i : Nat, i < (cn 24) → F2 28 i = (Fn 28) i) ∧ (cn 19) < c2 19))) r_1 cn2 In2 Fn2 := wh_2
  obtain ⟨hfc2, hIn2, h_2⟩ := vh_2
  have hf2 : Fr [19, 23, 24, 26] [21, 22] [27, 28] cn In Fn cn2 In2 Fn2 := Fr.mo (Fr.tr (Fr.rf (cn := cn) (In := In) (Fn := Fn)) hfc2) (sbl rfl) (sbl rfl) (sbl rfl)
  have hi_cn2 : Hid (CB cn2) := hIn2.b
  have : cn2 20 = cn 20 := hf2.1 20 (nml rfl)
  have : cn2 25 = cn 25 := hf2.1 25 (nml rfl)
  have hq_cn2 := Hid.i (frq_19_23_24_26_0_1_2_46_57_58_62_63_75_83_44 hf2)
  have : cn2 20 = (cn 20) := hfc2.1 20 (nml rfl)
  have : cn2 25 = (cn 25) := hfc2.1 25 (nml rfl)
  rcases h_2 with rfl | ⟨rfl, kh_2⟩
  ·
    refine lv_if_ne (tgt := 14) hx hb (oc_154 9 (aq_9 shX12_readsSum_0) sgw_0_5) rfl (fun h => absurd h cq_eq_0_0) (fun _ => ?_)
    refine lv_iconst (v := 0) hx hb (oc_3 12 (aq_12 shX12_readsSum_0)) kic_0 ?_
    exact W.zret (v := 0) hx hb hr rfl (fun t ht hW => ⟨⟨0, (cn2, In2, Fn2), rfl, ⟨(Fr.mo hf2 (sbl rfl) (sbl rfl) (sbl rfl)), hIn2, (by show 0 = 0 ∨ (0 = 1 ∧ PBk (cn2 19) (cn2 20) (cn2 23) (cn2 24) (Fn2 27) (Fn2 28) a0 (H0 + 1) s0 ∧ cn2 24 = cn 24 ∧ (∀ k : Nat, k < a0 → Fn2 27 k = Fn 27 k) ∧ (∀ i : Nat, i < cn 24 → Fn2 28 i = Fn 28 i) ∧ cn 19 < cn2 19); exact Or.inl rfl)⟩, by rw [ht]; exact hP, hD⟩, hS.F ht⟩) hS.2.2 (oc_172 13 (aq_13 shX12_readsSum_0))
  ·
    obtain ⟨kh_2a, kh_2b, kh_2c, kh_2d⟩ := kh_2
    have kh_2f := kh_2a.f
    refine lv_if_ne (tgt := 14) hx hb (oc_154 9 (aq_9 shX12_readsSum_0) sgw_0_5) rfl (fun _ => ?_) (fun h => absurd h cq_eq_1_0)
    have lp_14 : ∀ (n : Nat)  (c14 : Nat → Nat) (I14 : Nat → Int32) (F14 : Nat → Nat → Int32) (H : Heap) (locs : List Loc) , cn 20 - c14 19 < n → (Fr [19, 23, 24, 26] [21, 22] [27, 28] cn In Fn c14 I14 F14 ∧ IM c14 F14 ∧ (PSx (c14 19) (c14 20) (c14 23) (c14 24) (F14 27) (F14 28) a0 (H0 + 1) (cn 24) s0) ∧ (∀ k : Nat, k < a0 → F14 27 k = Fn 27 k) ∧ (∀ i : Nat, i < cn 24 → F14 28 i = Fn 28 i) ∧ (cn 19 < c14 19)) → va_P D vwCl (wM cI cB cZ g c14 I14 F14) H → va_D A (wM cI cB cZ g c14 I14 F14) → va_S A s.heap H locs → ∀ ls : Array Slot, lv_has ls 3 [(1, .int (nI (cn 24))), (0, .ref (g 100))] → W p l e (RM 4 0 0) s m ([.ref (g 100)]).toArray below meth c H locs 0 0 (MQ below (va_Qi (fun (r : Int32) (u : (Nat → Nat) × (Nat → Int32) × (Nat → Nat → Int32)) => (fun r c2 I2 F2 => Fr [19, 23, 24, 26] [21, 22] [27, 28] cn In Fn c2 I2 F2 ∧ IM c2 F2 ∧ (r = 0 ∨ (r = 1 ∧ PBk (c2 19) (c2 20) (c2 23) (c2 24) (F2 27) (F2 28) a0 (H0 + 1) s0 ∧ c2 24 = cn 24 ∧ (∀ k : Nat, k < a0 → F2 27 k = Fn 27 k) ∧ (∀ i : Nat, i < cn 24 → F2 28 i = Fn 28 i) ∧ cn 19 < c2 19))) r u.1 u.2.1 u.2.2) (fun (u : (Nat → Nat) × (Nat → Int32) × (Nat → Nat → Int32)) (t : State) => va_P D vwCl (wM cI cB cZ g u.1 u.2.1 u.2.2) t.heap ∧ va_D A (wM cI cB cZ g u.1 u.2.1 u.2.2)) A) ([.ref (g 100)]).toArray s 0 0 A) (F0 m 14 ls []) := by
      intro n14
      induction n14 with
      | zero => intros; (first | omega | (have zz0 := Hid.u hi_cn; have zz1 := Hid.u hi_cn2; have zz2 := Hid.u hq_cn2; omega))
      | succ n14 ih14 =>
        intro  c14 I14 F14 H locs hmu14 hinv14 hP hD hS ls hl
        obtain ⟨hfr14, hI14, hx14_0, hx14_1, hx14_2, hx14_3⟩ := hinv14
        have hi_c14 : Hid (CB c14) := hI14.b
        have : c14 20 = cn 20 := hfr14.1 20 (nml rfl)
        have : c14 25 = cn 25 := hfr14.1 25 (nml rfl)
        have hq_c14 := Hid.i (frq_19_23_24_26_0_1_2_46_57_58_62_63_75_83_44 hfr14)
        have hf14 := hx14_0.f
        refine lv_aload_n hx hb (oc_42 14 (aq_14 shX12_readsSum_0)) rfl (lvA1 hl) ?_
        refine vp_callSi (runV_ra (As := []) (rest := []) S (q_here l D cI cB cZ g c14 I14 F14  hI14 (by (first | omega | (have zz0 := Hid.u hi_c14; have zz1 := Hid.u hi_cn; have zz2 := Hid.u hi_cn2; have zz3 := Hid.u hq_c14; have zz4 := Hid.u hq_cn2; omega))) (by (first | omega | (have zz0 := Hid.u hi_c14; have zz1 := Hid.u hi_cn; have zz2 := Hid.u hi_cn2; have zz3 := Hid.u hq_c14; have zz4 := Hid.u hq_cn2; omega)))) kV_RX12_239 hK hP 0 rfl rfl rfl ⟨Nat.le_of_ble_eq_true rfl, Nat.le_of_ble_eq_true rfl⟩ ⟨Nat.le_of_ble_eq_true rfl, Nat.le_of_ble_eq_true rfl⟩ rfl hl.1 rfl (Nat.le_of_ble_eq_true rfl) (oc_182 15 (aq_15 shX12_readsSum_0) uw_0_239)) (fun r_3 h_4 => ?_)
        refine vp_callSi (runS_r (As := [.int r_3]) (rest := []) S (q_sumSign l D cI cB cZ r_3 ) kS_RX12_287 hK hP [] rfl ⟨Nat.le_of_ble_eq_true rfl, Nat.le_of_ble_eq_true rfl⟩ ⟨Nat.le_of_ble_eq_true rfl, Nat.le_of_ble_eq_true rfl⟩ rfl hl.1 rfl (Nat.le_of_ble_eq_true rfl) (oc_184 18 (aq_18 shX12_readsSum_0) uw_1_31)) (fun r_5 h_6 => ?_)
        rcases h_6 with rfl | ⟨mr_5, hmr_5, hvr_5, rfl⟩
        ·
          refine lv_istore_n (lv' := [(2, .int (-1)), (1, .int (nI (cn 24))), (0, .ref (g 100))]) hx hb (oc_61 21 (aq_21 shX12_readsSum_0)) rfl hl (ltb rfl) rfl (fun ls hl => ?_)
          refine lv_iload_n hx hb (oc_28 22 (aq_22 shX12_readsSum_0)) rfl (lvA0 hl) ?_
          refine lv_iconst (v := (-1)) hx hb (oc_2 23 (aq_23 shX12_readsSum_0)) kic_m1 ?_
          refine lv_icmp_eq (tgt := 84) hx hb (oc_159 24 shX12_readsSum_24 sgw_0_60) rfl (fun _ => ?_) (fun h => absurd h cq_eq_m1_m1)
          refine lv_aload_n hx hb (oc_42 84 (aq_9 shX12_readsSum_75)) rfl (lvA2 hl) ?_
          refine vp_callSi (runV_ra (As := []) (rest := []) S (q_here l D cI cB cZ g c14 I14 F14  hI14 (by (first | omega | (have zz0 := Hid.u hi_c14; have zz1 := Hid.u hi_cn; have zz2 := Hid.u hi_cn2; have zz3 := Hid.u hq_c14; have zz4 := Hid.u hq_cn2; omega))) (by (first | omega | (have zz0 := Hid.u hi_c14; have zz1 := Hid.u hi_cn; have zz2 := Hid.u hi_cn2; have zz3 := Hid.u hq_c14; have zz4 := Hid.u hq_cn2; omega)))) kV_RX12_239 hK hP 0 rfl rfl rfl ⟨Nat.le_of_ble_eq_true rfl, Nat.le_of_ble_eq_true rfl⟩ ⟨Nat.le_of_ble_eq_true rfl, Nat.le_of_ble_eq_true rfl⟩ rfl hl.1 rfl (Nat.le_of_ble_eq_true rfl) (oc_182 85 (aq_10 shX12_readsSum_75) uw_0_239)) (fun r_7 h_8 => ?_)
          refine lv_bipush (v := 93) hx hb (oc_16 88 (aq_13 shX12_readsSum_75) sgb_93) kbc_93 ?_
          refine lv_icmp_ne (tgt := 139) hx hb (oc_160 90 (aq_15 shX12_readsSum_75) sgw_0_49) rfl (fun c_9 => ?_) (fun c_9 => ?_)
          ·
            have tc_9 : (r_7.toInt : Int) ≠ 93 := fun q => c_9 (Int32.toInt_inj.mp q)
            refine lv_aload_n hx hb (oc_42 139 (aq_13 shX12_readsSum_126)) rfl (lvA2 hl) ?_
            refine lv_iload_n hx hb (oc_27 140 (aq_14 shX12_readsSum_126)) rfl (lvA1 hl) ?_
            refine vp_callSi (runV_ra (As := [.int (nI (cn 24))]) (rest := []) S (q_hasOpenSum l D cI cB cZ g c14 I14 F14 (cn 24) hI14 hx14_0.wk (by (first | omega | (have zz0 := Hid.u hi_c14; have zz1 := Hid.u hi_cn; have zz2 := Hid.u hi_cn2; have zz3 := Hid.u hq_c14; have zz4 := Hid.u hq_cn2; omega))) (by (first | omega | (have zz0 := Hid.u hi_c14; have zz1 := Hid.u hi_cn; have zz2 := Hid.u hi_cn2; have zz3 := Hid.u hq_c14; have zz4 := Hid.u hq_cn2; omega)))) kV_RX12_294 hK hP 0 rfl rfl rfl ⟨Nat.le_of_ble_eq_true rfl, Nat.le_of_ble_eq_true rfl⟩ ⟨Nat.le_of_ble_eq_true rfl, Nat.le_of_ble_eq_true rfl⟩ rfl hl.1 rfl (Nat.le_of_ble_eq_true rfl) (oc_182 141 (aq_15 shX12_readsSum_126) uw_1_38)) (fun r_10 h_11 => ?_)
            rcases h_11 with ⟨rfl, h_11⟩ | ⟨rfl, h_11⟩
            ·
              refine lv_if_eq (tgt := 157) hx hb dX12_readsSum_144 rfl (fun h => absurd h cq_eq_1_0) (fun _ => ?_)
              refine lv_aload_n hx hb (oc_42 147 (aq_21 shX12_readsSum_126)) rfl (lvA2 hl) ?_
              refine lv_iconst (v := 1) hx hb (oc_4 148 (aq_22 shX12_readsSum_126)) kic_1 ?_
              refine lv_aload_n hx hb (oc_42 149 (aq_23 shX12_readsSum_126)) rfl (lvA2 hl) ?_
              refine gM_233 S hK hP (v := .int (nI (c14 19))) rfl (oc_180 150 shX12_readsSum_150 uw_0_233) ?_
              have hFc := free_all hD hS hA
              refine va_calli (runV_a (As := [.int 1, .int (nI (c14 19))]) (rest := []) S (q_wrong l D cI cB cZ g c14 I14 F14 1 (nI (c14 19)) H.size hI14) kV_RX12_246 hK hP hD 0 rfl rfl rfl ⟨Nat.le_of_ble_eq_true rfl, Nat.le_of_ble_eq_true rfl⟩ ⟨Nat.le_of_ble_eq_true rfl, Nat.le_of_ble_eq_true rfl⟩ rfl hl.1 rfl (Nat.le_of_ble_eq_true rfl) (oc_182 153 (aq_3 shX12_readsSum_150) uw_0_246)) hS (fun q _ h => hFc q h) hFc (fun r_12 u t H1 locs ht hvm wh_13 hB hz1 hk1 hS => ?_)
              obtain ⟨cn13, In13, Fn13⟩ := u
              obtain ⟨hP1, hD1⟩ := hB
              rw [ht] at hP1
              have vh_13 : (fun r c2 I2 F2 => (∀ k : Nat, k ∉ [21] → I2 k = I14 k) ∧ ((r = 0 ∧ (True) ∧ c14 = c2 ∧ F14 = F2))) r_12 cn13 In13 Fn13 := wh_13
              obtain ⟨hI13_, vh_13⟩ := vh_13
              obtain ⟨rfl, h_13, rfl, rfl⟩ := vh_13
              have hf13 : Fr [19, 23, 24, 26] [21, 22] [27, 28] cn In Fn c14 In13 F14 := Fr.mo (Fr.tr hfr14 (show Fr [] [21] [] c14 I14 F14 c14 In13 F14 from ⟨fun _ _ => rfl, hI13_, fun _ _ => rfl⟩)) (sbl rfl) (sbl rfl) (sbl rfl)
              have hP : va_P D vwCl (wM cI cB cZ g c14 In13 F14) H1 := hP1
              have hD : va_D A (wM cI cB cZ g c14 In13 F14) := hD1.weaken (fun _ _ _ h => hFc _ h)
              generalize H1 = H at hP hS ⊢
              exact W.zret (v := 0) hx hb hr rfl (fun t ht hW => ⟨⟨0, (c14, In13, F14), rfl, ⟨(Fr.mo hf13 (sbl rfl) (sbl rfl) (sbl rfl)), hI14, (by show 0 = 0 ∨ (0 = 1 ∧ PBk (c14 19) (c14 20) (c14 23) (c14 24) (F14 27) (F14 28) a0 (H0 + 1) s0 ∧ c14 24 = cn 24 ∧ (∀ k : Nat, k < a0 → F14 27 k = Fn 27 k) ∧ (∀ i : Nat, i < cn 24 → F14 28 i = Fn 28 i) ∧ cn 19 < c14 19); exact Or.inl rfl)⟩, by rw [ht]; exact hP, hD⟩, hS.F ht⟩) hS.2.2 (oc_172 156 (aq_6 shX12_readsSum_150))
            ·
              refine lv_if_eq (tgt := 157) hx hb dX12_readsSum_144 rfl (fun _ => ?_) (fun h => absurd h cq_eq_0_0)
              refine lv_aload_n hx hb (oc_42 157 (aq_7 shX12_readsSum_150)) rfl (lvA2 hl) ?_
              refine lv_iconst (v := 1) hx hb (oc_4 158 (aq_8 shX12_readsSum_150)) kic_1 ?_
              have hFc := free_all hD hS hA
              refine va_callv (runV_a (As := [.int 1]) (rest := []) S (q_closesSums l D cI cB cZ g c14 I14 F14 a0 H0 (cn 24) s0 1 H.size hI14 hx14_0) kV_RX12_290 hK hP hD 0 rfl rfl rfl ⟨Nat.le_of_ble_eq_true rfl, Nat.le_of_ble_eq_true rfl⟩ ⟨Nat.le_of_ble_eq_true rfl, Nat.le_of_ble_eq_true rfl⟩ rfl hl.1 rfl (Nat.le_of_ble_eq_true rfl) (oc_182 159 (aq_9 shX12_readsSum_150) uw_1_34)) hS (fun q _ h => hFc q h) hFc (fun u t H1 locs ht hvm wh_15 hB hz1 hk1 hS => ?_)
              obtain ⟨cn15, In15, Fn15⟩ := u
              obtain ⟨hP1, hD1⟩ := hB
              rw [ht] at hP1
              have hP : va_P D vwCl (wM cI cB cZ g cn15 In15 Fn15) H1 := hP1
              have hD : va_D A (wM cI cB cZ g cn15 In15 Fn15) := hD1.weaken (fun _ _ _ h => hFc _ h)
              generalize H1 = H at hP hS ⊢
              have vh_15 : (fun c2 I2 F2 => Fr [23, 24] [] [27] c14 I14 F14 c2 I2 F2 ∧ IM c2 F2 ∧ ((PSx (c2 19) (c2 20) (c2 23) (c2 24) (F2 27) (F2 28) a0 (H0 + 1) (cn 24) s0) ∧ c2 24 ≤ (c14 24) ∧ (∀ k : Nat, k < a0 → F2 27 k = (F14 27) k) ∧ (∀ i : Nat, c2 24 ≤ i → i < (c14 24) → kd (F2 28 i) ≤ 6) ∧ (¬ (1 : Int32) = 0 → c2 24 = (cn 24) ∨ kd (F2 28 (c2 24 - 1)) = 14))) cn15 In15 Fn15 := wh_15
              obtain ⟨hfc15, hIn15, h_15⟩ := vh_15
              obtain rfl : I14 = In15 := (funext (fun k => hfc15.2.1 k List.not_mem_nil)).symm
              have hf15 : Fr [19, 23, 24, 26] [21, 22] [27, 28] cn In Fn cn15 I14 Fn15 := Fr.mo (Fr.tr hfr14 hfc15) (sbl rfl) (sbl rfl) (sbl rfl)
              have hi_cn15 : Hid (CB cn15) := hIn15.b
              have : cn15 20 = cn 20 := hf15.1 20 (nml rfl)
              have : cn15 25 = cn 25 := hf15.1 25 (nml rfl)
              have hq_cn15 := Hid.i (frq_19_23_24_26_0_1_2_46_57_58_62_63_75_83_44 hf15)
              have : cn15 19 = (c14 19) := hfc15.1 19 (nml rfl)
              have : cn15 20 = (c14 20) := hfc15.1 20 (nml rfl)
              have : cn15 25 = (c14 25) := hfc15.1 25 (nml rfl)
              obtain ⟨h_15a, h_15b, h_15c, h_15d, h_15e⟩ := h_15
              have h_15f := h_15a.f
              have e28_15 : Fn15 28 = F14 28 := hfc15.2.2 28 (nml rfl)
              have sd15 : ∀ k : Nat, k < a0 → Fn15 27 k = Fn 27 k := fun k hk => (h_15c k hk).trans (hx14_1 k hk)
              have wt15 : ∀ i : Nat, i < (cn 24) → Fn15 28 i = Fn 28 i := fun i hi => (congrFun e28_15 i).trans (hx14_2 i hi)
              have hw14 : cn15 24 = cn 24 := no14 (W := Fn15 28) (w := c14 24) (by rw [e28_15]; exact h_11) (h_15e (by decide)) (by (first | omega | (have zz0 := Hid.u hi_c14; have zz1 := Hid.u hi_cn; have zz2 := Hid.u hi_cn15; have zz3 := Hid.u hi_cn2; have zz4 := Hid.u hq_c14; have zz5 := Hid.u hq_cn15; have zz6 := Hid.u hq_cn2; omega))) (by (first | omega | (have zz0 := Hid.u hi_c14; have zz1 := Hid.u hi_cn; have zz2 := Hid.u hi_cn15; have zz3 := Hid.u hi_cn2; have zz4 := Hid.u hq_c14; have zz5 := Hid.u hq_cn15; have zz6 := Hid.u hq_cn2; omega)))
              refine lv_iconst (v := 1) hx hb (oc_4 162 (aq_12 shX12_readsSum_150)) kic_1 ?_
              exact W.zret (v := 1) hx hb hr rfl (fun t ht hW => ⟨⟨1, (cn15, I14, Fn15), rfl, ⟨(Fr.mo hf15 (sbl rfl) (sbl rfl) (sbl rfl)), hIn15, (by show 1 = 0 ∨ (1 = 1 ∧ PBk (cn15 19) (cn15 20) (cn15 23) (cn15 24) (Fn15 27) (Fn15 28) a0 (H0 + 1) s0 ∧ cn15 24 = cn 24 ∧ (∀ k : Nat, k < a0 → Fn15 27 k = Fn 27 k) ∧ (∀ i : Nat, i < cn 24 → Fn15 28 i = Fn 28 i) ∧ cn 19 < cn15 19); exact Or.inr ⟨rfl, PSx.fin' h_15a hw14, hw14, sd15, wt15, by (first | omega | (have zz0 := Hid.u hi_c14; have zz1 := Hid.u hi_cn; have zz2 := Hid.u hi_cn15; have zz3 := Hid.u hi_cn2; have zz4 := Hid.u hq_c14; have zz5 := Hid.u hq_cn15; have zz6 := Hid.u hq_cn2; omega))⟩)⟩, by rw [ht]; exact hP, hD⟩, hS.F ht⟩) hS.2.2 (oc_172 163 (aq_13 shX12_readsSum_150))
          ·
            have tc_9 : (r_7.toInt : Int) = 93 := congrArg Int32.toInt c_9
            refine lv_aload_n hx hb (oc_42 93 (aq_18 shX12_readsSum_75)) rfl (lvA2 hl) ?_
            refine lv_iload_n hx hb (oc_27 94 (aq_19 shX12_readsSum_75)) rfl (lvA1 hl) ?_
            refine vp_callSi (runV_ra (As := [.int (nI (cn 24))]) (rest := []) S (q_hasOpenSum l D cI cB cZ g c14 I14 F14 (cn 24) hI14 hx14_0.wk (by (first | omega | (have zz0 := Hid.u hi_c14; have zz1 := Hid.u hi_cn; have zz2 := Hid.u hi_cn2; have zz3 := Hid.u hq_c14; have zz4 := Hid.u hq_cn2; omega))) (by (first | omega | (have zz0 := Hid.u hi_c14; have zz1 := Hid.u hi_cn; have zz2 := Hid.u hi_cn2; have zz3 := Hid.u hq_c14; have zz4 := Hid.u hq_cn2; omega)))) kV_RX12_294 hK hP 0 rfl rfl rfl ⟨Nat.le_of_ble_eq_true rfl, Nat.le_of_ble_eq_true rfl⟩ ⟨Nat.le_of_ble_eq_true rfl, Nat.le_of_ble_eq_true rfl⟩ rfl hl.1 rfl (Nat.le_of_ble_eq_true rfl) (oc_182 95 (aq_20 shX12_readsSum_75) uw_1_38)) (fun r_16 h_17 => ?_)
            rcases h_17 with ⟨rfl, h_17⟩ | ⟨rfl, h_17⟩
            ·
              refine lv_if_eq (tgt := 139) hx hb (oc_153 98 (aq_23 shX12_readsSum_75) sgw_0_41) rfl (fun h => absurd h cq_eq_1_0) (fun _ => ?_)
              refine lv_aload_n hx hb (oc_42 101 shX12_readsSum_101) rfl (lvA2 hl) ?_
              refine lv_iconst (v := 1) hx hb (oc_4 102 (aq_1 shX12_readsSum_101)) kic_1 ?_
              have hFc := free_all hD hS hA
              refine va_callv (runV_a (As := [.int 1]) (rest := []) S (q_closesSums l D cI cB cZ g c14 I14 F14 a0 H0 (cn 24) s0 1 H.size hI14 hx14_0) kV_RX12_290 hK hP hD 0 rfl rfl rfl ⟨Nat.le_of_ble_eq_true rfl, Nat.le_of_ble_eq_true rfl⟩ ⟨Nat.le_of_ble_eq_true rfl, Nat.le_of_ble_eq_true rfl⟩ rfl hl.1 rfl (Nat.le_of_ble_eq_true rfl) (oc_182 103 (aq_2 shX12_readsSum_101) uw_1_34)) hS (fun q _ h => hFc q h) hFc (fun u t H1 locs ht hvm wh_19 hB hz1 hk1 hS => ?_)
              obtain ⟨cn19, In19, Fn19⟩ := u
              obtain ⟨hP1, hD1⟩ := hB
              rw [ht] at hP1
              have hP : va_P D vwCl (wM cI cB cZ g cn19 In19 Fn19) H1 := hP1
              have hD : va_D A (wM cI cB cZ g cn19 In19 Fn19) := hD1.weaken (fun _ _ _ h => hFc _ h)
              generalize H1 = H at hP hS ⊢
              have vh_19 : (fun c2 I2 F2 => Fr [23, 24] [] [27] c14 I14 F14 c2 I2 F2 ∧ IM c2 F2 ∧ ((PSx (c2 19) (c2 20) (c2 23) (c2 24) (F2 27) (F2 28) a0 (H0 + 1) (cn 24) s0) ∧ c2 24 ≤ (c14 24) ∧ (∀ k : Nat, k < a0 → F2 27 k = (F14 27) k) ∧ (∀ i : Nat, c2 24 ≤ i → i < (c14 24) → kd (F2 28 i) ≤ 6) ∧ (¬ (1 : Int32) = 0 → c2 24 = (cn 24) ∨ kd (F2 28 (c2 24 - 1)) = 14))) cn19 In19 Fn19 := wh_19
              obtain ⟨hfc19, hIn19, h_19⟩ := vh_19
              obtain rfl : I14 = In19 := (funext (fun k => hfc19.2.1 k List.not_mem_nil)).symm
              have hf19 : Fr [19, 23, 24, 26] [21, 22] [27, 28] cn In Fn cn19 I14 Fn19 := Fr.mo (Fr.tr hfr14 hfc19) (sbl rfl) (sbl rfl) (sbl rfl)
              have hi_cn19 : Hid (CB cn19) := hIn19.b
              have : cn19 20 = cn 20 := hf19.1 20 (nml rfl)
              have : cn19 25 = cn 25 := hf19.1 25 (nml rfl)
              have hq_cn19 := Hid.i (frq_19_23_24_26_0_1_2_46_57_58_62_63_75_83_44 hf19)
              have : cn19 19 = (c14 19) := hfc19.1 19 (nml rfl)
              have : cn19 20 = (c14 20) := hfc19.1 20 (nml rfl)
              have : cn19 25 = (c14 25) := hfc19.1 25 (nml rfl)
              obtain ⟨h_19a, h_19b, h_19c, h_19d, h_19e⟩ := h_19
              have h_19f := h_19a.f
              have e28_19 : Fn19 28 = F14 28 := hfc19.2.2 28 (nml rfl)
              have sd19 : ∀ k : Nat, k < a0 → Fn19 27 k = Fn 27 k := fun k hk => (h_19c k hk).trans (hx14_1 k hk)
              have wt19 : ∀ i : Nat, i < (cn 24) → Fn19 28 i = Fn 28 i := fun i hi => (congrFun e28_19 i).trans (hx14_2 i hi)
              have ht14 := top14 (W := Fn19 28) (w' := cn19 24) (by rw [e28_19]; exact h_17) h_19d (h_19e (by decide)) (by (first | omega | (have zz0 := Hid.u hi_c14; have zz1 := Hid.u hi_cn; have zz2 := Hid.u hi_cn19; have zz3 := Hid.u hi_cn2; have zz4 := Hid.u hq_c14; have zz5 := Hid.u hq_cn19; have zz6 := Hid.u hq_cn2; omega)))
              refine lv_aload_n hx hb (oc_42 106 (aq_5 shX12_readsSum_101)) rfl (lvA2 hl) ?_
              refine lv_aload_n hx hb (oc_42 107 (aq_6 shX12_readsSum_101)) rfl (lvA2 hl) ?_
              refine gM_264 S hK hP (v := .int (nI (cn19 24))) rfl (oc_180 108 (aq_7 shX12_readsSum_101) uw_1_8) ?_
              refine lv_iconst (v := 1) hx hb (oc_4 111 (aq_10 shX12_readsSum_101)) kic_1 ?_
              refine lv_isub hx hb (oc_100 112 (aq_11 shX12_readsSum_101)) ?_
              refine lv_topi (fun y_20 ey_20 => ?_)
              obtain rfl : y_20 = (nI ((cn19 24) - 1)) := ey_20.trans (nI_sub (b := 1) (by (first | omega | (have zz0 := Hid.u hi_c14; have zz1 := Hid.u hi_cn; have zz2 := Hid.u hi_cn19; have zz3 := Hid.u hi_cn2; have zz4 := Hid.u hq_c14; have zz5 := Hid.u hq_cn19; have zz6 := Hid.u hq_cn2; omega))))
              refine pM_264 S hK hP hD hS (a := ((cn19 24) - 1)) (cn2 := (va_up cn19 24 ((cn19 24) - 1))) rfl rfl (oc_181 113 (aq_12 shX12_readsSum_101) uw_1_8) (fun H locs hP hD hS => ?_)
              refine lv_aload_n hx hb (oc_42 116 (aq_15 shX12_readsSum_101)) rfl (lvA2 hl) ?_
              refine lv_aload_n hx hb (oc_42 117 (aq_16 shX12_readsSum_101)) rfl (lvA2 hl) ?_
              refine gM_261 S hK hP (v := .int (I14 22)) rfl (oc_180 118 (aq_17 shX12_readsSum_101) uw_1_5) ?_
              refine lv_iconst (v := 1) hx hb (oc_4 121 (aq_20 shX12_readsSum_101)) kic_1 ?_
              refine lv_isub hx hb (oc_100 122 (aq_21 shX12_readsSum_101)) ?_
              refine pM_261 S hK hP hD hS (In2 := (va_up I14 22 ((I14 22) - 1))) rfl (oc_181 123 (aq_22 shX12_readsSum_101) uw_1_5) (fun H locs hP hD hS => ?_)
              refine lv_aload_n hx hb (oc_42 126 shX12_readsSum_126) rfl (lvA2 hl) ?_
              refine lv_aload_n hx hb (oc_42 127 (aq_1 shX12_readsSum_126)) rfl (lvA2 hl) ?_
              refine gM_233 S hK hP (v := .int (nI (cn19 19))) rfl (oc_180 128 (aq_2 shX12_readsSum_126) uw_0_233) ?_
              refine lv_iconst (v := 1) hx hb (oc_4 131 (aq_5 shX12_readsSum_126)) kic_1 ?_
              refine lv_iadd hx hb (oc_96 132 (aq_6 shX12_readsSum_126)) ?_
              refine lv_topi (fun y_21 ey_21 => ?_)
              obtain rfl : y_21 = (nI ((cn19 19) + 1)) := ey_21.trans (nI_add (cn19 19) 1)
              refine pM_233 S hK hP hD hS (a := ((cn19 19) + 1)) (cn2 := (va_up (va_up cn19 24 ((cn19 24) - 1)) 19 ((cn19 19) + 1))) rfl rfl (oc_181 133 (aq_7 shX12_readsSum_126) uw_0_233) (fun H locs hP hD hS => ?_)
              refine lv_goto (tgt := 164) hx hb (oc_167 136 (aq_10 shX12_readsSum_126) sgw_0_28) rfl ?_
              refine lv_goto (tgt := 14) hx hb (oc_167 164 (aq_14 shX12_readsSum_150) sgw_255_106) rfl ?_
              exact ih14  (va_up (va_up cn19 24 ((cn19 24) - 1)) 19 ((cn19 19) + 1)) (va_up I14 22 ((I14 22) - 1)) Fn19 _ _ (show cn 20 - ((cn19 19) + 1) < n14 by (first | omega | (have zz0 := Hid.u hi_c14; have zz1 := Hid.u hi_cn; have zz2 := Hid.u hi_cn19; have zz3 := Hid.u hi_cn2; have zz4 := Hid.u hq_c14; have zz5 := Hid.u hq_cn19; have zz6 := Hid.u hq_cn2; omega))) ⟨(Fr.mo (Fr.i 22 (Fr.c 19 (Fr.c 24 hf19))) (sbl rfl) (sbl rfl) (sbl rfl)), (IM.fr (In := I14) hIn19 (Fr.c 19 (Fr.c 24 Fr.rf)) (by decide) (by decide)), (by have q := PSx.pop14' h_19a ht14.1 ht14.2 (by (first | omega | (have zz0 := Hid.u hi_c14; have zz1 := Hid.u hi_cn; have zz2 := Hid.u hi_cn19; have zz3 := Hid.u hi_cn2; have zz4 := Hid.u hq_c14; have zz5 := Hid.u hq_cn19; have zz6 := Hid.u hq_cn2; omega))); exact q), sd19, wt19, (by show cn 19 < cn19 19 + 1; (first | omega | (have zz0 := Hid.u hi_c14; have zz1 := Hid.u hi_cn; have zz2 := Hid.u hi_cn19; have zz3 := Hid.u hi_cn2; have zz4 := Hid.u hq_c14; have zz5 := Hid.u hq_cn19; have zz6 := Hid.u hq_cn2; omega)))⟩ hP hD hS ls (lv_sub hl [1, 2] rfl)
            ·
              refine lv_if_eq (tgt := 139) hx hb (oc_153 98 (aq_23 shX12_readsSum_75) sgw_0_41) rfl (fun _ => ?_) (fun h => absurd h cq_eq_0_0)
              refine lv_aload_n hx hb (oc_42 139 (aq_13 shX12_readsSum_126)) rfl (lvA2 hl) ?_
              refine lv_iload_n hx hb (oc_27 140 (aq_14 shX12_readsSum_126)) rfl (lvA1 hl) ?_
              refine vp_callSi (runV_ra (As := [.int (nI (cn 24))]) (rest := []) S (q_hasOpenSum l D cI cB cZ g c14 I14 F14 (cn 24) hI14 hx14_0.wk (by (first | omega | (have zz0 := Hid.u hi_c14; have zz1 := Hid.u hi_cn; have zz2 := Hid.u hi_cn2; have zz3 := Hid.u hq_c14; have zz4 := Hid.u hq_cn2; omega))) (by (first | omega | (have zz0 := Hid.u hi_c14; have zz1 := Hid.u hi_cn; have zz2 := Hid.u hi_cn2; have zz3 := Hid.u hq_c14; have zz4 := Hid.u hq_cn2; omega)))) kV_RX12_294 hK hP 0 rfl rfl rfl ⟨Nat.le_of_ble_eq_true rfl, Nat.le_of_ble_eq_true rfl⟩ ⟨Nat.le_of_ble_eq_true rfl, Nat.le_of_ble_eq_true rfl⟩ rfl hl.1 rfl (Nat.le_of_ble_eq_true rfl) (oc_182 141 (aq_15 shX12_readsSum_126) uw_1_38)) (fun r_22 h_23 => ?_)
              rcases h_23 with ⟨rfl, h_23⟩ | ⟨rfl, h_23⟩
              ·
                refine lv_if_eq (tgt := 157) hx hb dX12_readsSum_144 rfl (fun h => absurd h cq_eq_1_0) (fun _ => ?_)
                refine lv_aload_n hx hb (oc_42 147 (aq_21 shX12_readsSum_126)) rfl (lvA2 hl) ?_
                refine lv_iconst (v := 1) hx hb (oc_4 148 (aq_22 shX12_readsSum_126)) kic_1 ?_
                refine lv_aload_n hx hb (oc_42 149 (aq_23 shX12_readsSum_126)) rfl (lvA2 hl) ?_
                refine gM_233 S hK hP (v := .int (nI (c14 19))) rfl (oc_180 150 shX12_readsSum_150 uw_0_233) ?_
                have hFc := free_all hD hS hA
                refine va_calli (runV_a (As := [.int 1, .int (nI (c14 19))]) (rest := []) S (q_wrong l D cI cB cZ g c14 I14 F14 1 (nI (c14 19)) H.size hI14) kV_RX12_246 hK hP hD 0 rfl rfl rfl ⟨Nat.le_of_ble_eq_true rfl, Nat.le_of_ble_eq_true rfl⟩ ⟨Nat.le_of_ble_eq_true rfl, Nat.le_of_ble_eq_true rfl⟩ rfl hl.1 rfl (Nat.le_of_ble_eq_true rfl) (oc_182 153 (aq_3 shX12_readsSum_150) uw_0_246)) hS (fun q _ h => hFc q h) hFc (fun r_24 u t H1 locs ht hvm wh_25 hB hz1 hk1 hS => ?_)
                obtain ⟨cn25, In25, Fn25⟩ := u
                obtain ⟨hP1, hD1⟩ := hB
                rw [ht] at hP1
                have vh_25 : (fun r c2 I2 F2 => (∀ k : Nat, k ∉ [21] → I2 k = I14 k) ∧ ((r = 0 ∧ (True) ∧ c14 = c2 ∧ F14 = F2))) r_24 cn25 In25 Fn25 := wh_25
                obtain ⟨hI25_, vh_25⟩ := vh_25
                obtain ⟨rfl, h_25, rfl, rfl⟩ := vh_25
                have hf25 : Fr [19, 23, 24, 26] [21, 22] [27, 28] cn In Fn c14 In25 F14 := Fr.mo (Fr.tr hfr14 (show Fr [] [21] [] c14 I14 F14 c14 In25 F14 from ⟨fun _ _ => rfl, hI25_, fun _ _ => rfl⟩)) (sbl rfl) (sbl rfl) (sbl rfl)
                have hP : va_P D vwCl (wM cI cB cZ g c14 In25 F14) H1 := hP1
                have hD : va_D A (wM cI cB cZ g c14 In25 F14) := hD1.weaken (fun _ _ _ h => hFc _ h)
                generalize H1 = H at hP hS ⊢
                exact W.zret (v := 0) hx hb hr rfl (fun t ht hW => ⟨⟨0, (c14, In25, F14), rfl, ⟨(Fr.mo hf25 (sbl rfl) (sbl rfl) (sbl rfl)), hI14, (by show 0 = 0 ∨ (0 = 1 ∧ PBk (c14 19) (c14 20) (c14 23) (c14 24) (F14 27) (F14 28) a0 (H0 + 1) s0 ∧ c14 24 = cn 24 ∧ (∀ k : Nat, k < a0 → F14 27 k = Fn 27 k) ∧ (∀ i : Nat, i < cn 24 → F14 28 i = Fn 28 i) ∧ cn 19 < c14 19); exact Or.inl rfl)⟩, by rw [ht]; exact hP, hD⟩, hS.F ht⟩) hS.2.2 (oc_172 156 (aq_6 shX12_readsSum_150))
              ·
                refine lv_if_eq (tgt := 157) hx hb dX12_readsSum_144 rfl (fun _ => ?_) (fun h => absurd h cq_eq_0_0)
                refine lv_aload_n hx hb (oc_42 157 (aq_7 shX12_readsSum_150)) rfl (lvA2 hl) ?_
                refine lv_iconst (v := 1) hx hb (oc_4 158 (aq_8 shX12_readsSum_150)) kic_1 ?_
                have hFc := free_all hD hS hA
                refine va_callv (runV_a (As := [.int 1]) (rest := []) S (q_closesSums l D cI cB cZ g c14 I14 F14 a0 H0 (cn 24) s0 1 H.size hI14 hx14_0) kV_RX12_290 hK hP hD 0 rfl rfl rfl ⟨Nat.le_of_ble_eq_true rfl, Nat.le_of_ble_eq_true rfl⟩ ⟨Nat.le_of_ble_eq_true rfl, Nat.le_of_ble_eq_true rfl⟩ rfl hl.1 rfl (Nat.le_of_ble_eq_true rfl) (oc_182 159 (aq_9 shX12_readsSum_150) uw_1_34)) hS (fun q _ h => hFc q h) hFc (fun u t H1 locs ht hvm wh_27 hB hz1 hk1 hS => ?_)
                obtain ⟨cn27, In27, Fn27⟩ := u
                obtain ⟨hP1, hD1⟩ := hB
                rw [ht] at hP1
                have hP : va_P D vwCl (wM cI cB cZ g cn27 In27 Fn27) H1 := hP1
                have hD : va_D A (wM cI cB cZ g cn27 In27 Fn27) := hD1.weaken (fun _ _ _ h => hFc _ h)
                generalize H1 = H at hP hS ⊢
                have vh_27 : (fun c2 I2 F2 => Fr [23, 24] [] [27] c14 I14 F14 c2 I2 F2 ∧ IM c2 F2 ∧ ((PSx (c2 19) (c2 20) (c2 23) (c2 24) (F2 27) (F2 28) a0 (H0 + 1) (cn 24) s0) ∧ c2 24 ≤ (c14 24) ∧ (∀ k : Nat, k < a0 → F2 27 k = (F14 27) k) ∧ (∀ i : Nat, c2 24 ≤ i → i < (c14 24) → kd (F2 28 i) ≤ 6) ∧ (¬ (1 : Int32) = 0 → c2 24 = (cn 24) ∨ kd (F2 28 (c2 24 - 1)) = 14))) cn27 In27 Fn27 := wh_27
                obtain ⟨hfc27, hIn27, h_27⟩ := vh_27
                obtain rfl : I14 = In27 := (funext (fun k => hfc27.2.1 k List.not_mem_nil)).symm
                have hf27 : Fr [19, 23, 24, 26] [21, 22] [27, 28] cn In Fn cn27 I14 Fn27 := Fr.mo (Fr.tr hfr14 hfc27) (sbl rfl) (sbl rfl) (sbl rfl)
                have hi_cn27 : Hid (CB cn27) := hIn27.b
                have : cn27 20 = cn 20 := hf27.1 20 (nml rfl)
                have : cn27 25 = cn 25 := hf27.1 25 (nml rfl)
                have hq_cn27 := Hid.i (frq_19_23_24_26_0_1_2_46_57_58_62_63_75_83_44 hf27)
                have : cn27 19 = (c14 19) := hfc27.1 19 (nml rfl)
                have : cn27 20 = (c14 20) := hfc27.1 20 (nml rfl)
                have : cn27 25 = (c14 25) := hfc27.1 25 (nml rfl)
                obtain ⟨h_27a, h_27b, h_27c, h_27d, h_27e⟩ := h_27
                have h_27f := h_27a.f
                have e28_27 : Fn27 28 = F14 28 := hfc27.2.2 28 (nml rfl)
                have sd27 : ∀ k : Nat, k < a0 → Fn27 27 k = Fn 27 k := fun k hk => (h_27c k hk).trans (hx14_1 k hk)
                have wt27 : ∀ i : Nat, i < (cn 24) → Fn27 28 i = Fn 28 i := fun i hi => (congrFun e28_27 i).trans (hx14_2 i hi)
                have hw14 : cn27 24 = cn 24 := no14 (W := Fn27 28) (w := c14 24) (by rw [e28_27]; exact h_23) (h_27e (by decide)) (by (first | omega | (have zz0 := Hid.u hi_c14; have zz1 := Hid.u hi_cn; have zz2 := Hid.u hi_cn2; have zz3 := Hid.u hi_cn27; have zz4 := Hid.u hq_c14; have zz5 := Hid.u hq_cn2; have zz6 := Hid.u hq_cn27; omega))) (by (first | omega | (have zz0 := Hid.u hi_c14; have zz1 := Hid.u hi_cn; have zz2 := Hid.u hi_cn2; have zz3 := Hid.u hi_cn27; have zz4 := Hid.u hq_c14; have zz5 := Hid.u hq_cn2; have zz6 := Hid.u hq_cn27; omega)))
                refine lv_iconst (v := 1) hx hb (oc_4 162 (aq_12 shX12_readsSum_150)) kic_1 ?_
                exact W.zret (v := 1) hx hb hr rfl (fun t ht hW => ⟨⟨1, (cn27, I14, Fn27), rfl, ⟨(Fr.mo hf27 (sbl rfl) (sbl rfl) (sbl rfl)), hIn27, (by show 1 = 0 ∨ (1 = 1 ∧ PBk (cn27 19) (cn27 20) (cn27 23) (cn27 24) (Fn27 27) (Fn27 28) a0 (H0 + 1) s0 ∧ cn27 24 = cn 24 ∧ (∀ k : Nat, k < a0 → Fn27 27 k = Fn 27 k) ∧ (∀ i : Nat, i < cn 24 → Fn27 28 i = Fn 28 i) ∧ cn 19 < cn27 19); exact Or.inr ⟨rfl, PSx.fin' h_27a hw14, hw14, sd27, wt27, by (first | omega | (have zz0 := Hid.u hi_c14; have zz1 := Hid.u hi_cn; have zz2 := Hid.u hi_cn2; have zz3 := Hid.u hi_cn27; have zz4 := Hid.u hq_c14; have zz5 := Hid.u hq_cn2; have zz6 := Hid.u hq_cn27; omega))⟩)⟩, by rw [ht]; exact hP, hD⟩, hS.F ht⟩) hS.2.2 (oc_172 163 (aq_13 shX12_readsSum_150))
        ·
          refine lv_istore_n (lv' := [(2, .int (nI mr_5)), (1, .int (nI (cn 24))), (0, .ref (g 100))]) hx hb (oc_61 21 (aq_21 shX12_readsSum_0)) rfl hl (ltb rfl) rfl (fun ls hl => ?_)
          refine lv_iload_n hx hb (oc_28 22 (aq_22 shX12_readsSum_0)) rfl (lvA0 hl) ?_
          refine lv_iconst (v := (-1)) hx hb (oc_2 23 (aq_23 shX12_readsSum_0)) kic_m1 ?_
          have : (nI mr_5).toInt = ((mr_5 : Nat) : Int) := nI_toInt (by (first | omega | (have zz0 := Hid.u hi_c14; have zz1 := Hid.u hi_cn; have zz2 := Hid.u hi_cn2; have zz3 := Hid.u hq_c14; have zz4 := Hid.u hq_cn2; omega)))
          refine lv_icmp_eq (tgt := 84) hx hb (oc_159 24 shX12_readsSum_24 sgw_0_60) rfl (fun c_28 => False.elim (by have tc_28 : ((nI mr_5).toInt : Int) = (-1) := congrArg Int32.toInt c_28; (first | omega | (have zz0 := Hid.u hi_c14; have zz1 := Hid.u hi_cn; have zz2 := Hid.u hi_cn2; have zz3 := Hid.u hq_c14; have zz4 := Hid.u hq_cn2; omega)))) (fun c_28 => ?_)
          have tc_28 : ((nI mr_5).toInt : Int) ≠ (-1) := fun q => c_28 (Int32.toInt_inj.mp q)
          refine lv_aload_n hx hb (oc_42 27 (aq_3 shX12_readsSum_24)) rfl (lvA2 hl) ?_
          refine lv_iload_n hx hb (oc_28 28 (aq_4 shX12_readsSum_24)) rfl (lvA0 hl) ?_
          refine lv_iconst (v := 4) hx hb (oc_7 29 (aq_5 shX12_readsSum_24)) kic_4 ?_
          refine lv_icmp_ge (tgt := 37) hx hb (oc_162 30 (aq_6 shX12_readsSum_24) sgw_0_7) rfl (fun c_29 => ?_) (fun c_29 => ?_)
          ·
            have tc_29 : (4 : Int) ≤ (nI mr_5).toInt := Int32.le_iff_toInt_le.mp c_29
            refine lv_iconst (v := 0) hx hb (oc_3 37 (aq_13 shX12_readsSum_24)) kic_0 ?_
            have hFc := free_all hD hS hA
            refine va_callv (runV_a (As := [.int 0]) (rest := []) S (q_closesSums l D cI cB cZ g c14 I14 F14 a0 H0 (cn 24) s0 0 H.size hI14 hx14_0) kV_RX12_290 hK hP hD 0 rfl rfl rfl ⟨Nat.le_of_ble_eq_true rfl, Nat.le_of_ble_eq_true rfl⟩ ⟨Nat.le_of_ble_eq_true rfl, Nat.le_of_ble_eq_true rfl⟩ rfl hl.1 rfl (Nat.le_of_ble_eq_true rfl) (oc_182 38 (aq_14 shX12_readsSum_24) uw_1_34)) hS (fun q _ h => hFc q h) hFc (fun u t H1 locs ht hvm wh_31 hB hz1 hk1 hS => ?_)
            obtain ⟨cn31, In31, Fn31⟩ := u
            obtain ⟨hP1, hD1⟩ := hB
            rw [ht] at hP1
            have hP : va_P D vwCl (wM cI cB cZ g cn31 In31 Fn31) H1 := hP1
            have hD : va_D A (wM cI cB cZ g cn31 In31 Fn31) := hD1.weaken (fun _ _ _ h => hFc _ h)
            generalize H1 = H at hP hS ⊢
            have vh_31 : (fun c2 I2 F2 => Fr [23, 24] [] [27] c14 I14 F14 c2 I2 F2 ∧ IM c2 F2 ∧ ((PSx (c2 19) (c2 20) (c2 23) (c2 24) (F2 27) (F2 28) a0 (H0 + 1) (cn 24) s0) ∧ c2 24 ≤ (c14 24) ∧ (∀ k : Nat, k < a0 → F2 27 k = (F14 27) k) ∧ (∀ i : Nat, c2 24 ≤ i → i < (c14 24) → kd (F2 28 i) ≤ 6) ∧ (¬ (0 : Int32) = 0 → c2 24 = (cn 24) ∨ kd (F2 28 (c2 24 - 1)) = 14))) cn31 In31 Fn31 := wh_31
            obtain ⟨hfc31, hIn31, h_31⟩ := vh_31
            obtain rfl : I14 = In31 := (funext (fun k => hfc31.2.1 k List.not_mem_nil)).symm
            have hf31 : Fr [19, 23, 24, 26] [21, 22] [27, 28] cn In Fn cn31 I14 Fn31 := Fr.mo (Fr.tr hfr14 hfc31) (sbl rfl) (sbl rfl) (sbl rfl)
            have hi_cn31 : Hid (CB cn31) := hIn31.b
            have : cn31 20 = cn 20 := hf31.1 20 (nml rfl)
            have : cn31 25 = cn 25 := hf31.1 25 (nml rfl)
            have hq_cn31 := Hid.i (frq_19_23_24_26_0_1_2_46_57_58_62_63_75_83_44 hf31)
            have : cn31 19 = (c14 19) := hfc31.1 19 (nml rfl)
            have : cn31 20 = (c14 20) := hfc31.1 20 (nml rfl)
            have : cn31 25 = (c14 25) := hfc31.1 25 (nml rfl)
            obtain ⟨h_31a, h_31b, h_31c, h_31d, h_31e⟩ := h_31
            have h_31f := h_31a.f
            have e28_31 : Fn31 28 = F14 28 := hfc31.2.2 28 (nml rfl)
            have sd31 : ∀ k : Nat, k < a0 → Fn31 27 k = Fn 27 k := fun k hk => (h_31c k hk).trans (hx14_1 k hk)
            have wt31 : ∀ i : Nat, i < (cn 24) → Fn31 28 i = Fn 28 i := fun i hi => (congrFun e28_31 i).trans (hx14_2 i hi)
            refine lv_aload_n hx hb (oc_42 41 (aq_17 shX12_readsSum_24)) rfl (lvA2 hl) ?_
            refine gM_59 S hK hP (v := .ref (g 28)) rfl (oc_180 42 (aq_18 shX12_readsSum_24) uw_0_59) ?_
            refine lv_aload_n hx hb (oc_42 45 (aq_21 shX12_readsSum_24)) rfl (lvA2 hl) ?_
            refine gM_264 S hK hP (v := .int (nI (cn31 24))) rfl (oc_180 46 (aq_22 shX12_readsSum_24) uw_1_8) ?_
            refine lv_ldcw (v := 1048576) hx hb hown (S.2.2.2.2 _ (wk7_17 11 rfl rfl)) (oc_19 49 shX12_readsSum_49 uw_1_4) ?_
            refine lv_iload_n hx hb (oc_28 52 (aq_3 shX12_readsSum_49)) rfl (lvA0 hl) ?_
            refine lv_imul hx hb (oc_104 53 (aq_4 shX12_readsSum_49)) ?_
            refine lv_topi (fun y_32 ey_32 => ?_)
            obtain rfl : y_32 = (nI (mr_5 * 1048576)) := ey_32.trans ((pk_mul 1048576 mr_5).trans (congrArg nI (Nat.mul_comm _ _)))
            have kb_1 : (cn31 24) < 180 := by (first | omega | (have zz0 := Hid.u hi_c14; have zz1 := Hid.u hi_cn; have zz2 := Hid.u hi_cn2; have zz3 := Hid.u hi_cn31; have zz4 := Hid.u hq_c14; have zz5 := Hid.u hq_cn2; have zz6 := Hid.u hq_cn31; omega))
            refine stM_28 hx hb hK hP hD hS (Fn2 := (va_up Fn31 28 (upd (Fn31 28) (cn31 24) (nI (mr_5 * 1048576))))) (vp_in_nI kb_1 (ltb rfl)) (nI_clamp (Nat.lt_trans kb_1 (ltb rfl))) rfl (oc_79 54 (aq_5 shX12_readsSum_49)) (fun H locs hP hD hS => ?_)
            refine lv_aload_n hx hb (oc_42 55 (aq_6 shX12_readsSum_49)) rfl (lvA2 hl) ?_
            refine lv_aload_n hx hb (oc_42 56 (aq_7 shX12_readsSum_49)) rfl (lvA2 hl) ?_
            refine gM_264 S hK hP (v := .int (nI (cn31 24))) rfl (oc_180 57 (aq_8 shX12_readsSum_49) uw_1_8) ?_
            refine lv_iconst (v := 1) hx hb (oc_4 60 (aq_11 shX12_readsSum_49)) kic_1 ?_
            refine lv_iadd hx hb (oc_96 61 (aq_12 shX12_readsSum_49)) ?_
            refine lv_topi (fun y_33 ey_33 => ?_)
            obtain rfl : y_33 = (nI ((cn31 24) + 1)) := ey_33.trans (nI_add (cn31 24) 1)
            refine pM_264 S hK hP hD hS (a := ((cn31 24) + 1)) (cn2 := (va_up cn31 24 ((cn31 24) + 1))) rfl rfl (oc_181 62 (aq_13 shX12_readsSum_49) uw_1_8) (fun H locs hP hD hS => ?_)
            refine lv_aload_n hx hb (oc_42 65 (aq_16 shX12_readsSum_49)) rfl (lvA2 hl) ?_
            refine lv_aload_n hx hb (oc_42 66 (aq_17 shX12_readsSum_49)) rfl (lvA2 hl) ?_
            refine gM_233 S hK hP (v := .int (nI (cn31 19))) rfl (oc_180 67 (aq_18 shX12_readsSum_49) uw_0_233) ?_
            refine lv_iconst (v := 1) hx hb (oc_4 70 (aq_21 shX12_readsSum_49)) kic_1 ?_
            refine lv_iadd hx hb (oc_96 71 (aq_22 shX12_readsSum_49)) ?_
            refine lv_topi (fun y_34 ey_34 => ?_)
            obtain rfl : y_34 = (nI ((cn31 19) + 1)) := ey_34.trans (nI_add (cn31 19) 1)
            refine pM_233 S hK hP hD hS (a := ((cn31 19) + 1)) (cn2 := (va_up (va_up cn31 24 ((cn31 24) + 1)) 19 ((cn31 19) + 1))) rfl rfl (oc_181 72 (aq_23 shX12_readsSum_49) uw_0_233) (fun H locs hP hD hS => ?_)
            refine lv_aload_n hx hb (oc_42 75 shX12_readsSum_75) rfl (lvA2 hl) ?_
            have hFc := free_all hD hS hA
            refine va_calli (runV_a (As := []) (rest := []) S (q_readsFactor l D cI cB cZ g (va_up (va_up cn31 24 ((cn31 24) + 1)) 19 ((cn31 19) + 1)) I14 (va_up Fn31 28 (upd (Fn31 28) (cn31 24) (nI (mr_5 * 1048576)))) a0 H0 (cn 24) s0 H.size (IM.fr (In := I14) hIn31 (Fr.f 28 (Fr.c 19 (Fr.c 24 Fr.rf))) (by decide) (by decide)) (by have q := PSx.pushop (n := mr_5) h_31a (by (first | omega | (have zz0 := Hid.u hi_c14; have zz1 := Hid.u hi_cn; have zz2 := Hid.u hi_cn2; have zz3 := Hid.u hi_cn31; have zz4 := Hid.u hq_c14; have zz5 := Hid.u hq_cn2; have zz6 := Hid.u hq_cn31; omega))) (by (first | omega | (have zz0 := Hid.u hi_c14; have zz1 := Hid.u hi_cn; have zz2 := Hid.u hi_cn2; have zz3 := Hid.u hi_cn31; have zz4 := Hid.u hq_c14; have zz5 := Hid.u hq_cn2; have zz6 := Hid.u hq_cn31; omega))) (by (first | omega | (have zz0 := Hid.u hi_c14; have zz1 := Hid.u hi_cn; have zz2 := Hid.u hi_cn2; have zz3 := Hid.u hi_cn31; have zz4 := Hid.u hq_c14; have zz5 := Hid.u hq_cn2; have zz6 := Hid.u hq_cn31; omega))); exact q)) kV_RX12_284 hK hP hD 0 rfl rfl rfl ⟨Nat.le_of_ble_eq_true rfl, Nat.le_of_ble_eq_true rfl⟩ ⟨Nat.le_of_ble_eq_true rfl, Nat.le_of_ble_eq_true rfl⟩ rfl hl.1 rfl (Nat.le_of_ble_eq_true rfl) (oc_182 76 (aq_1 shX12_readsSum_75) uw_1_28)) hS (fun q _ h => hFc q h) hFc (fun r_35 u t H1 locs ht hvm wh_36 hB hz1 hk1 hS => ?_)
            obtain ⟨cn36, In36, Fn36⟩ := u
            obtain ⟨hP1, hD1⟩ := hB
            rw [ht] at hP1
            have hP : va_P D vwCl (wM cI cB cZ g cn36 In36 Fn36) H1 := hP1
            have hD : va_D A (wM cI cB cZ g cn36 In36 Fn36) := hD1.weaken (fun _ _ _ h => hFc _ h)
            generalize H1 = H at hP hS ⊢
            have vh_36 : (fun r c2 I2 F2 => Fr [19, 23, 24, 26] [21, 22] [27, 28] (va_up (va_up cn31 24 ((cn31 24) + 1)) 19 ((cn31 19) + 1)) I14 (va_up Fn31 28 (upd (Fn31 28) (cn31 24) (nI (mr_5 * 1048576)))) c2 I2 F2 ∧ IM c2 F2 ∧ (r = 0 ∨ (r = 1 ∧ PSx (c2 19) (c2 20) (c2 23) (c2 24) (F2 27) (F2 28) a0 (H0 + 1) (cn 24) s0 ∧ (∀ k : Nat, k < a0 → F2 27 k = (Fn31 27) k) ∧ (∀ i : Nat, i < (cn 24) → F2 28 i = (upd (Fn31 28) (cn31 24) (nI (mr_5 * 1048576))) i) ∧ ((cn31 19) + 1) < c2 19))) r_35 cn36 In36 Fn36 := wh_36
            obtain ⟨hfc36, hIn36, h_36⟩ := vh_36
            have hf36 : Fr [19, 23, 24, 26] [21, 22] [27, 28] cn In Fn cn36 In36 Fn36 := Fr.mo (Fr.tr (Fr.f 28 (Fr.c 19 (Fr.c 24 hf31))) hfc36) (sbl rfl) (sbl rfl) (sbl rfl)
            have hi_cn36 : Hid (CB cn36) := hIn36.b
            have : cn36 20 = cn 20 := hf36.1 20 (nml rfl)
            have : cn36 25 = cn 25 := hf36.1 25 (nml rfl)
            have hq_cn36 := Hid.i (frq_19_23_24_26_0_1_2_46_57_58_62_63_75_83_44 hf36)
            have : cn36 20 = (cn31 20) := hfc36.1 20 (nml rfl)
            have : cn36 25 = (cn31 25) := hfc36.1 25 (nml rfl)
            rcases h_36 with rfl | ⟨rfl, kh_36⟩
            ·
              refine lv_if_ne (tgt := 164) hx hb dX12_readsSum_79 rfl (fun h => absurd h cq_eq_0_0) (fun _ => ?_)
              refine lv_iconst (v := 0) hx hb (oc_3 82 (aq_7 shX12_readsSum_75)) kic_0 ?_
              exact W.zret (v := 0) hx hb hr rfl (fun t ht hW => ⟨⟨0, (cn36, In36, Fn36), rfl, ⟨(Fr.mo hf36 (sbl rfl) (sbl rfl) (sbl rfl)), hIn36, (by show 0 = 0 ∨ (0 = 1 ∧ PBk (cn36 19) (cn36 20) (cn36 23) (cn36 24) (Fn36 27) (Fn36 28) a0 (H0 + 1) s0 ∧ cn36 24 = cn 24 ∧ (∀ k : Nat, k < a0 → Fn36 27 k = Fn 27 k) ∧ (∀ i : Nat, i < cn 24 → Fn36 28 i = Fn 28 i) ∧ cn 19 < cn36 19); exact Or.inl rfl)⟩, by rw [ht]; exact hP, hD⟩, hS.F ht⟩) hS.2.2 (oc_172 83 (aq_8 shX12_readsSum_75))
            ·
              obtain ⟨kh_36a, kh_36b, kh_36c, kh_36d⟩ := kh_36
              have kh_36f := kh_36a.f
              refine lv_if_ne (tgt := 164) hx hb dX12_readsSum_79 rfl (fun _ => ?_) (fun h => absurd h cq_eq_1_0)
              refine lv_goto (tgt := 14) hx hb (oc_167 164 (aq_14 shX12_readsSum_150) sgw_255_106) rfl ?_
              exact ih14  cn36 In36 Fn36 _ _ (show cn 20 - (cn36 19) < n14 by (first | omega | (have zz0 := Hid.u hi_c14; have zz1 := Hid.u hi_cn; have zz2 := Hid.u hi_cn2; have zz3 := Hid.u hi_cn31; have zz4 := Hid.u hi_cn36; have zz5 := Hid.u hq_c14; have zz6 := Hid.u hq_cn2; have zz7 := Hid.u hq_cn31; have zz8 := Hid.u hq_cn36; omega))) ⟨(Fr.mo hf36 (sbl rfl) (sbl rfl) (sbl rfl)), hIn36, kh_36a, (fun k hk => (kh_36b k hk).trans (sd31 k hk)), (fun i hi => (kh_36c i hi).trans ((upd_lt (by (first | omega | (have zz0 := Hid.u hi_c14; have zz1 := Hid.u hi_cn; have zz2 := Hid.u hi_cn2; have zz3 := Hid.u hi_cn31; have zz4 := Hid.u hi_cn36; have zz5 := Hid.u hq_c14; have zz6 := Hid.u hq_cn2; have zz7 := Hid.u hq_cn31; have zz8 := Hid.u hq_cn36; omega)))).trans (wt31 i hi))), (by (first | omega | (have zz0 := Hid.u hi_c14; have zz1 := Hid.u hi_cn; have zz2 := Hid.u hi_cn2; have zz3 := Hid.u hi_cn31; have zz4 := Hid.u hi_cn36; have zz5 := Hid.u hq_c14; have zz6 := Hid.u hq_cn2; have zz7 := Hid.u hq_cn31; have zz8 := Hid.u hq_cn36; omega)))⟩ hP hD hS ls (lv_sub hl [1, 2] rfl)
          ·
            have tc_29 : ((nI mr_5).toInt : Int) < 4 := Int32.lt_iff_toInt_lt.mp (Int32.not_le.mp c_29)
            refine lv_iconst (v := 1) hx hb (oc_4 33 (aq_9 shX12_readsSum_24)) kic_1 ?_
            refine lv_goto (tgt := 38) hx hb (oc_167 34 (aq_10 shX12_readsSum_24) sgw_0_4) rfl ?_
            have hFc := free_all hD hS hA
            refine va_callv (runV_a (As := [.int 1]) (rest := []) S (q_closesSums l D cI cB cZ g c14 I14 F14 a0 H0 (cn 24) s0 1 H.size hI14 hx14_0) kV_RX12_290 hK hP hD 0 rfl rfl rfl ⟨Nat.le_of_ble_eq_true rfl, Nat.le_of_ble_eq_true rfl⟩ ⟨Nat.le_of_ble_eq_true rfl, Nat.le_of_ble_eq_true rfl⟩ rfl hl.1 rfl (Nat.le_of_ble_eq_true rfl) (oc_182 38 (aq_14 shX12_readsSum_24) uw_1_34)) hS (fun q _ h => hFc q h) hFc (fun u t H1 locs ht hvm wh_38 hB hz1 hk1 hS => ?_)
            obtain ⟨cn38, In38, Fn38⟩ := u
            obtain ⟨hP1, hD1⟩ := hB
            rw [ht] at hP1
            have hP : va_P D vwCl (wM cI cB cZ g cn38 In38 Fn38) H1 := hP1
            have hD : va_D A (wM cI cB cZ g cn38 In38 Fn38) := hD1.weaken (fun _ _ _ h => hFc _ h)
            generalize H1 = H at hP hS ⊢
            have vh_38 : (fun c2 I2 F2 => Fr [23, 24] [] [27] c14 I14 F14 c2 I2 F2 ∧ IM c2 F2 ∧ ((PSx (c2 19) (c2 20) (c2 23) (c2 24) (F2 27) (F2 28) a0 (H0 + 1) (cn 24) s0) ∧ c2 24 ≤ (c14 24) ∧ (∀ k : Nat, k < a0 → F2 27 k = (F14 27) k) ∧ (∀ i : Nat, c2 24 ≤ i → i < (c14 24) → kd (F2 28 i) ≤ 6) ∧ (¬ (1 : Int32) = 0 → c2 24 = (cn 24) ∨ kd (F2 28 (c2 24 - 1)) = 14))) cn38 In38 Fn38 := wh_38
            obtain ⟨hfc38, hIn38, h_38⟩ := vh_38
            obtain rfl : I14 = In38 := (funext (fun k => hfc38.2.1 k List.not_mem_nil)).symm
            have hf38 : Fr [19, 23, 24, 26] [21, 22] [27, 28] cn In Fn cn38 I14 Fn38 := Fr.mo (Fr.tr hfr14 hfc38) (sbl rfl) (sbl rfl) (sbl rfl)
            have hi_cn38 : Hid (CB cn38) := hIn38.b
            have : cn38 20 = cn 20 := hf38.1 20 (nml rfl)
            have : cn38 25 = cn 25 := hf38.1 25 (nml rfl)
            have hq_cn38 := Hid.i (frq_19_23_24_26_0_1_2_46_57_58_62_63_75_83_44 hf38)
            have : cn38 19 = (c14 19) := hfc38.1 19 (nml rfl)
            have : cn38 20 = (c14 20) := hfc38.1 20 (nml rfl)
            have : cn38 25 = (c14 25) := hfc38.1 25 (nml rfl)
            obtain ⟨h_38a, h_38b, h_38c, h_38d, h_38e⟩ := h_38
            have h_38f := h_38a.f
            have e28_38 : Fn38 28 = F14 28 := hfc38.2.2 28 (nml rfl)
            have sd38 : ∀ k : Nat, k < a0 → Fn38 27 k = Fn 27 k := fun k hk => (h_38c k hk).trans (hx14_1 k hk)
            have wt38 : ∀ i : Nat, i < (cn 24) → Fn38 28 i = Fn 28 i := fun i hi => (congrFun e28_38 i).trans (hx14_2 i hi)
            refine lv_aload_n hx hb (oc_42 41 (aq_17 shX12_readsSum_24)) rfl (lvA2 hl) ?_
            refine gM_59 S hK hP (v := .ref (g 28)) rfl (oc_180 42 (aq_18 shX12_readsSum_24) uw_0_59) ?_
            refine lv_aload_n hx hb (oc_42 45 (aq_21 shX12_readsSum_24)) rfl (lvA2 hl) ?_
            refine gM_264 S hK hP (v := .int (nI (cn38 24))) rfl (oc_180 46 (aq_22 shX12_readsSum_24) uw_1_8) ?_
            refine lv_ldcw (v := 1048576) hx hb hown (S.2.2.2.2 _ (wk7_17 11 rfl rfl)) (oc_19 49 shX12_readsSum_49 uw_1_4) ?_
            refine lv_iload_n hx hb (oc_28 52 (aq_3 shX12_readsSum_49)) rfl (lvA0 hl) ?_
            refine lv_imul hx hb (oc_104 53 (aq_4 shX12_readsSum_49)) ?_
            refine lv_topi (fun y_39 ey_39 => ?_)
            obtain rfl : y_39 = (nI (mr_5 * 1048576)) := ey_39.trans ((pk_mul 1048576 mr_5).trans (congrArg nI (Nat.mul_comm _ _)))
            have kb_2 : (cn38 24) < 180 := by (first | omega | (have zz0 := Hid.u hi_c14; have zz1 := Hid.u hi_cn; have zz2 := Hid.u hi_cn2; have zz3 := Hid.u hi_cn38; have zz4 := Hid.u hq_c14; have zz5 := Hid.u hq_cn2; have zz6 := Hid.u hq_cn38; omega))
            refine stM_28 hx hb hK hP hD hS (Fn2 := (va_up Fn38 28 (upd (Fn38 28) (cn38 24) (nI (mr_5 * 1048576))))) (vp_in_nI kb_2 (ltb rfl)) (nI_clamp (Nat.lt_trans kb_2 (ltb rfl))) rfl (oc_79 54 (aq_5 shX12_readsSum_49)) (fun H locs hP hD hS => ?_)
            refine lv_aload_n hx hb (oc_42 55 (aq_6 shX12_readsSum_49)) rfl (lvA2 hl) ?_
            refine lv_aload_n hx hb (oc_42 56 (aq_7 shX12_readsSum_49)) rfl (lvA2 hl) ?_
            refine gM_264 S hK hP (v := .int (nI (cn38 24))) rfl (oc_180 57 (aq_8 shX12_readsSum_49) uw_1_8) ?_
            refine lv_iconst (v := 1) hx hb (oc_4 60 (aq_11 shX12_readsSum_49)) kic_1 ?_
            refine lv_iadd hx hb (oc_96 61 (aq_12 shX12_readsSum_49)) ?_
            refine lv_topi (fun y_40 ey_40 => ?_)
            obtain rfl : y_40 = (nI ((cn38 24) + 1)) := ey_40.trans (nI_add (cn38 24) 1)
            refine pM_264 S hK hP hD hS (a := ((cn38 24) + 1)) (cn2 := (va_up cn38 24 ((cn38 24) + 1))) rfl rfl (oc_181 62 (aq_13 shX12_readsSum_49) uw_1_8) (fun H locs hP hD hS => ?_)
            refine lv_aload_n hx hb (oc_42 65 (aq_16 shX12_readsSum_49)) rfl (lvA2 hl) ?_
            refine lv_aload_n hx hb (oc_42 66 (aq_17 shX12_readsSum_49)) rfl (lvA2 hl) ?_
            refine gM_233 S hK hP (v := .int (nI (cn38 19))) rfl (oc_180 67 (aq_18 shX12_readsSum_49) uw_0_233) ?_
            refine lv_iconst (v := 1) hx hb (oc_4 70 (aq_21 shX12_readsSum_49)) kic_1 ?_
            refine lv_iadd hx hb (oc_96 71 (aq_22 shX12_readsSum_49)) ?_
            refine lv_topi (fun y_41 ey_41 => ?_)
            obtain rfl : y_41 = (nI ((cn38 19) + 1)) := ey_41.trans (nI_add (cn38 19) 1)
            refine pM_233 S hK hP hD hS (a := ((cn38 19) + 1)) (cn2 := (va_up (va_up cn38 24 ((cn38 24) + 1)) 19 ((cn38 19) + 1))) rfl rfl (oc_181 72 (aq_23 shX12_readsSum_49) uw_0_233) (fun H locs hP hD hS => ?_)
            refine lv_aload_n hx hb (oc_42 75 shX12_readsSum_75) rfl (lvA2 hl) ?_
            have hFc := free_all hD hS hA
            refine va_calli (runV_a (As := []) (rest := []) S (q_readsFactor l D cI cB cZ g (va_up (va_up cn38 24 ((cn38 24) + 1)) 19 ((cn38 19) + 1)) I14 (va_up Fn38 28 (upd (Fn38 28) (cn38 24) (nI (mr_5 * 1048576)))) a0 H0 (cn 24) s0 H.size (IM.fr (In := I14) hIn38 (Fr.f 28 (Fr.c 19 (Fr.c 24 Fr.rf))) (by decide) (by decide)) (by have q := PSx.pushop (n := mr_5) h_38a (by (first | omega | (have zz0 := Hid.u hi_c14; have zz1 := Hid.u hi_cn; have zz2 := Hid.u hi_cn2; have zz3 := Hid.u hi_cn38; have zz4 := Hid.u hq_c14; have zz5 := Hid.u hq_cn2; have zz6 := Hid.u hq_cn38; omega))) (by (first | omega | (have zz0 := Hid.u hi_c14; have zz1 := Hid.u hi_cn; have zz2 := Hid.u hi_cn2; have zz3 := Hid.u hi_cn38; have zz4 := Hid.u hq_c14; have zz5 := Hid.u hq_cn2; have zz6 := Hid.u hq_cn38; omega))) (by (first | omega | (have zz0 := Hid.u hi_c14; have zz1 := Hid.u hi_cn; have zz2 := Hid.u hi_cn2; have zz3 := Hid.u hi_cn38; have zz4 := Hid.u hq_c14; have zz5 := Hid.u hq_cn2; have zz6 := Hid.u hq_cn38; omega))); exact q)) kV_RX12_284 hK hP hD 0 rfl rfl rfl ⟨Nat.le_of_ble_eq_true rfl, Nat.le_of_ble_eq_true rfl⟩ ⟨Nat.le_of_ble_eq_true rfl, Nat.le_of_ble_eq_true rfl⟩ rfl hl.1 rfl (Nat.le_of_ble_eq_true rfl) (oc_182 76 (aq_1 shX12_readsSum_75) uw_1_28)) hS (fun q _ h => hFc q h) hFc (fun r_42 u t H1 locs ht hvm wh_43 hB hz1 hk1 hS => ?_)
            obtain ⟨cn43, In43, Fn43⟩ := u
            obtain ⟨hP1, hD1⟩ := hB
            rw [ht] at hP1
            have hP : va_P D vwCl (wM cI cB cZ g cn43 In43 Fn43) H1 := hP1
            have hD : va_D A (wM cI cB cZ g cn43 In43 Fn43) := hD1.weaken (fun _ _ _ h => hFc _ h)
            generalize H1 = H at hP hS ⊢
            have vh_43 : (fun r c2 I2 F2 => Fr [19, 23, 24, 26] [21, 22] [27, 28] (va_up (va_up cn38 24 ((cn38 24) + 1)) 19 ((cn38 19) + 1)) I14 (va_up Fn38 28 (upd (Fn38 28) (cn38 24) (nI (mr_5 * 1048576)))) c2 I2 F2 ∧ IM c2 F2 ∧ (r = 0 ∨ (r = 1 ∧ PSx (c2 19) (c2 20) (c2 23) (c2 24) (F2 27) (F2 28) a0 (H0 + 1) (cn 24) s0 ∧ (∀ k : Nat, k < a0 → F2 27 k = (Fn38 27) k) ∧ (∀ i : Nat, i < (cn 24) → F2 28 i = (upd (Fn38 28) (cn38 24) (nI (mr_5 * 1048576))) i) ∧ ((cn38 19) + 1) < c2 19))) r_42 cn43 In43 Fn43 := wh_43
            obtain ⟨hfc43, hIn43, h_43⟩ := vh_43
            have hf43 : Fr [19, 23, 24, 26] [21, 22] [27, 28] cn In Fn cn43 In43 Fn43 := Fr.mo (Fr.tr (Fr.f 28 (Fr.c 19 (Fr.c 24 hf38))) hfc43) (sbl rfl) (sbl rfl) (sbl rfl)
            have hi_cn43 : Hid (CB cn43) := hIn43.b
            have : cn43 20 = cn 20 := hf43.1 20 (nml rfl)
            have : cn43 25 = cn 25 := hf43.1 25 (nml rfl)
            have hq_cn43 := Hid.i (frq_19_23_24_26_0_1_2_46_57_58_62_63_75_83_44 hf43)
            have : cn43 20 = (cn38 20) := hfc43.1 20 (nml rfl)
            have : cn43 25 = (cn38 25) := hfc43.1 25 (nml rfl)
            rcases h_43 with rfl | ⟨rfl, kh_43⟩
            ·
              refine lv_if_ne (tgt := 164) hx hb dX12_readsSum_79 rfl (fun h => absurd h cq_eq_0_0) (fun _ => ?_)
              refine lv_iconst (v := 0) hx hb (oc_3 82 (aq_7 shX12_readsSum_75)) kic_0 ?_
              exact W.zret (v := 0) hx hb hr rfl (fun t ht hW => ⟨⟨0, (cn43, In43, Fn43), rfl, ⟨(Fr.mo hf43 (sbl rfl) (sbl rfl) (sbl rfl)), hIn43, (by show 0 = 0 ∨ (0 = 1 ∧ PBk (cn43 19) (cn43 20) (cn43 23) (cn43 24) (Fn43 27) (Fn43 28) a0 (H0 + 1) s0 ∧ cn43 24 = cn 24 ∧ (∀ k : Nat, k < a0 → Fn43 27 k = Fn 27 k) ∧ (∀ i : Nat, i < cn 24 → Fn43 28 i = Fn 28 i) ∧ cn 19 < cn43 19); exact Or.inl rfl)⟩, by rw [ht]; exact hP, hD⟩, hS.F ht⟩) hS.2.2 (oc_172 83 (aq_8 shX12_readsSum_75))
            ·
              obtain ⟨kh_43a, kh_43b, kh_43c, kh_43d⟩ := kh_43
              have kh_43f := kh_43a.f
              refine lv_if_ne (tgt := 164) hx hb dX12_readsSum_79 rfl (fun _ => ?_) (fun h => absurd h cq_eq_1_0)
              refine lv_goto (tgt := 14) hx hb (oc_167 164 (aq_14 shX12_readsSum_150) sgw_255_106) rfl ?_
              exact ih14  cn43 In43 Fn43 _ _ (show cn 20 - (cn43 19) < n14 by (first | omega | (have zz0 := Hid.u hi_c14; have zz1 := Hid.u hi_cn; have zz2 := Hid.u hi_cn2; have zz3 := Hid.u hi_cn38; have zz4 := Hid.u hi_cn43; have zz5 := Hid.u hq_c14; have zz6 := Hid.u hq_cn2; have zz7 := Hid.u hq_cn38; have zz8 := Hid.u hq_cn43; omega))) ⟨(Fr.mo hf43 (sbl rfl) (sbl rfl) (sbl rfl)), hIn43, kh_43a, (fun k hk => (kh_43b k hk).trans (sd38 k hk)), (fun i hi => (kh_43c i hi).trans ((upd_lt (by (first | omega | (have zz0 := Hid.u hi_c14; have zz1 := Hid.u hi_cn; have zz2 := Hid.u hi_cn2; have zz3 := Hid.u hi_cn38; have zz4 := Hid.u hi_cn43; have zz5 := Hid.u hq_c14; have zz6 := Hid.u hq_cn2; have zz7 := Hid.u hq_cn38; have zz8 := Hid.u hq_cn43; omega)))).trans (wt38 i hi))), (by (first | omega | (have zz0 := Hid.u hi_c14; have zz1 := Hid.u hi_cn; have zz2 := Hid.u hi_cn2; have zz3 := Hid.u hi_cn38; have zz4 := Hid.u hi_cn43; have zz5 := Hid.u hq_c14; have zz6 := Hid.u hq_cn2; have zz7 := Hid.u hq_cn38; have zz8 := Hid.u hq_cn43; omega)))⟩ hP hD hS ls (lv_sub hl [1, 2] rfl)
    exact lp_14 _  cn2 In2 Fn2 _ _ (Nat.lt_succ_self _) ⟨(Fr.mo hf2 (sbl rfl) (sbl rfl) (sbl rfl)), hIn2, kh_2a, kh_2b, kh_2c, kh_2d⟩ hP hD hS ls (lv_sub hl [0, 1] rfl)
