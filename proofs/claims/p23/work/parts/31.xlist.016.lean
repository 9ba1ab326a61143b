set_option maxRecDepth 100000 in
set_option maxHeartbeats 4000000 in
theorem q_l_cpo2B (l : Launch) (D : va_G) (cI cB cZ : ClassId) (zz qq vv : Nat) (bt : Nat → Int32) (c1 : Nat) (x z n eo : Nat) (mc : Int32) (o : Nat → Nat) (e1 e2 e3 e4 e5 e6 e7 : Int32) (w : Nat) (ws : va_W) (sz : Nat) (hc : n < c1) (h100 : c1 ≤ 100) (hel : ∀ i : Nat, i < n → ∃ fs : List Value, ((o i, .inr (1, fs)) : Nat × va_E) ∈ ((eo, .inr (1, [.ref w, .int e1, .int e2, .int e3, .int e4, .int e5, .int e6, .int e7])) : Nat × va_E) :: ws) : Met l yJ7_copyOf_1904c (CWS yJ7_copyOf_1904c cJ7_copyOf_1904c 2 (some (.array (.object "java/lang/Object")))) (RM 3 1 100) (PBx [.ref z, .int (nI c1)] D cI cB cZ zz qq vv bt (([(x, .inr (0, [.int mc, .ref z, .int (nI n)])), (z, .inl (D.1 99, n, .inr (.inr (.inr (.inr (fun i => if i < n then some (o i) else none)))))), (eo, .inr (1, [.ref w, .int e1, .int e2, .int e3, .int e4, .int e5, .int e6, .int e7]))] : va_W) ++ ws) sz) (va_Qq (fun (r : Option Nat) (u : Nat) => r = some u ∧ True) (fun (u : Nat) (t : State) => va_P D vwCl (([(u, .inl (D.1 99, c1, .inr (.inr (.inr (.inr (fun i => if i < n then some (o i) else none)))))), (x, .inr (0, [.int mc, .ref z, .int (nI n)])), (z, .inl (D.1 99, n, .inr (.inr (.inr (.inr (fun i => if i < n then some (o i) else none)))))), (eo, .inr (1, [.ref w, .int e1, .int e2, .int e3, .int e4, .int e5, .int e6, .int e7]))] : va_W) ++ ws) t.heap ∧ va_D (va_A (([(x, .inr (0, [.int mc, .ref z, .int (nI n)])), (z, .inl (D.1 99, n, .inr (.inr (.inr (.inr (fun i => if i < n then some (o i) else none)))))), (eo, .inr (1, [.ref w, .int e1, .int e2, .int e3, .int e4, .int e5, .int e6, .int e7]))] : va_W) ++ ws) sz) (([(u, .inl (D.1 99, c1, .inr (.inr (.inr (.inr (fun i => if i < n then some (o i) else none)))))), (x, .inr (0, [.int mc, .ref z, .int (nI n)])), (z, .inl (D.1 99, n, .inr (.inr (.inr (.inr (fun i => if i < n then some (o i) else none)))))), (eo, .inr (1, [.ref w, .int e1, .int e2, .int e3, .int e4, .int e5, .int e6, .int e7]))] : va_W) ++ ws)) (va_A (([(x, .inr (0, [.int mc, .ref z, .int (nI n)])), (z, .inl (D.1 99, n, .inr (.inr (.inr (.inr (fun i => if i < n then some (o i) else none)))))), (eo, .inr (1, [.ref w, .int e1, .int e2, .int e3, .int e4, .int e5, .int e6, .int e7]))] : va_W) ++ ws) sz)) 1 100 (va_A (([(x, .inr (0, [.int mc, .ref z, .int (nI n)])), (z, .inl (D.1 99, n, .inr (.inr (.inr (.inr (fun i => if i < n then some (o i) else none)))))), (eo, .inr (1, [.ref w, .int e1, .int e2, .int e3, .int e4, .int e5, .int e6, .int e7]))] : va_W) ++ ws) sz) := by
  refine Met.ofW (cc := cJ7_copyOf_1904c) (maxL := 2) (ret := (some (.array (.object "java/lang/Object")))) (by decide) rfl ?_
  intro p e s m args below meth c s₁ B hml hv
  obtain ⟨rfl, hsz, hP, hK, hD0, hXS⟩ := hv
  have hx := B.exec
  have hb := B.bytes
  have hr := B.returns
  have hts := atoms_spec (ws := (CWS yJ7_copyOf_1904c cJ7_copyOf_1904c 2 (some (.array (.object "java/lang/Object"))))) B.pre
  have hown : s.vm.findClass RJ7 = some m.cls := findClass_of_methodNamed B.named
  have hlocks := B.notSynchronized
  have S : SF p m c cJ7_copyOf_1904c 2 s ([.ref z, .int (nI c1)]).toArray RJ7 := ⟨hx, hb, hml, hown, fun w h => hts w (List.mem_cons_of_mem _ h)⟩
  subst hsz
  have hD := hD0.self (sz := s.heap.size)
  generalize hAe : va_A (([(x, .inr (0, [.int mc, .ref z, .int (nI n)])), (z, .inl (D.1 99, n, .inr (.inr (.inr (.inr (fun i => if i < n then some (o i) else none)))))), (eo, .inr (1, [.ref w, .int e1, .int e2, .int e3, .int e4, .int e5, .int e6, .int e7]))] : va_W) ++ ws) s.heap.size = A at hD hXS ⊢
  have hA : ∀ q : Nat, s.heap.size ≤ q → A q := fun q h => by rw [← hAe]; exact Or.inr h
  have hS : va_S A s.heap s.heap [] := va_S.rf
  have hP : va_P D vwCl (([(x, .inr (0, [.int mc, .ref z, .int (nI n)])), (z, .inl (D.1 99, n, .inr (.inr (.inr (.inr (fun i => if i < n then some (o i) else none)))))), (eo, .inr (1, [.ref w, .int e1, .int e2, .int e3, .int e4, .int e5, .int e6, .int e7]))] : va_W) ++ ws) s.heap := hP
  have hD : va_D A (([(x, .inr (0, [.int mc, .ref z, .int (nI n)])), (z, .inl (D.1 99, n, .inr (.inr (.inr (.inr (fun i => if i < n then some (o i) else none)))))), (eo, .inr (1, [.ref w, .int e1, .int e2, .int e3, .int e4, .int e5, .int e6, .int e7]))] : va_W) ++ ws) := hD
  have hl := lv_entry ([.ref z, .int (nI c1)]) (n := 2) (Nat.le_of_ble_eq_true rfl)
  rw [lg_entry_eq]
  generalize (lg_sl ([.ref z, .int (nI c1)]) ++ List.replicate (2 - (lg_sl ([.ref z, .int (nI c1)])).length) Slot.unset).toArray = ls at hl ⊢
  have hl : lv_has ls 2 [(0, .ref z), (1, .int (nI c1))] := hl
  refine lv_aload_n hx hb dJ7_copyOf_1904c_0 rfl (lv_at hl 0 rfl) ?_
  refine lv_iload_n hx hb dJ7_copyOf_1904c_1 rfl (lv_at hl 1 rfl) ?_
  refine lv_aload_n hx hb dJ7_copyOf_1904c_2 rfl (lv_at hl 0 rfl) ?_
  obtain ⟨mi, hMi⟩ := hXS.2.2.2.2.2.2.2.2.2.2.2.2.2.2
  refine va_getC (C := "[Ljava/lang/Object;") (mi := mi) hx hb (by rw [hml]; exact hl.1.symm) hown (S.2.2.2.2 _ (wT_t2 141 rfl rfl)) hXS.2.2.2.2.2.2.2.2.2.2.2.2.2.1.use (S.2.2.2.2 _ (wT_t9 154 rfl rfl)) (S.2.2.2.2 _ (wT_t2 142 rfl rfl)) (S.2.2.2.2 _ (wT_t2 158 rfl rfl)) hMi (recvQ (q0 := 1) hXS hP rfl) (Nat.le_of_ble_eq_true rfl) (Nat.le_of_ble_eq_true rfl) dJ7_copyOf_1904c_3 ?_
  have hFc := free_all hD hS hA
  refine va_callq (runS_xm (As := [.ref z, .int (nI c1), .ref mi]) (rest := []) S (q_l_cpo3B l D cI cB cZ zz qq vv bt c1 mi x z n eo mc o e1 e2 e3 e4 e5 e6 e7 w ws s.heap.size hc h100 hel) kS_RJ7_300 hK hXS hMi hS hFc hP hD ⟨Nat.le_of_ble_eq_true rfl, Nat.le_of_ble_eq_true rfl⟩ ⟨Nat.le_of_ble_eq_true rfl, Nat.le_of_ble_eq_true rfl⟩ rfl hl.1 rfl (Nat.le_of_ble_eq_true rfl) dJ7_copyOf_1904c_6) hS (fun q _ h => hFc q h) hFc (fun r0 u0 t H1 locs ht hvm h0 hB1 hz1 hk1 hS => ?_)
  obtain ⟨hP1, hD1⟩ := hB1
  rw [ht] at hP1
  have hP : va_P D vwCl (([(u0, .inl (D.1 99, c1, .inr (.inr (.inr (.inr (fun i => if i < n then some (o i) else none)))))), (x, .inr (0, [.int mc, .ref z, .int (nI n)])), (z, .inl (D.1 99, n, .inr (.inr (.inr (.inr (fun i => if i < n then some (o i) else none)))))), (eo, .inr (1, [.ref w, .int e1, .int e2, .int e3, .int e4, .int e5, .int e6, .int e7]))] : va_W) ++ ws) H1 := hP1
  have hD : va_D A (([(u0, .inl (D.1 99, c1, .inr (.inr (.inr (.inr (fun i => if i < n then some (o i) else none)))))), (x, .inr (0, [.int mc, .ref z, .int (nI n)])), (z, .inl (D.1 99, n, .inr (.inr (.inr (.inr (fun i => if i < n then some (o i) else none)))))), (eo, .inr (1, [.ref w, .int e1, .int e2, .int e3, .int e4, .int e5, .int e6, .int e7]))] : va_W) ++ ws) := hD1.weaken (fun _ _ _ h => hFc _ h)
  generalize H1 = H at hP hS ⊢
  obtain ⟨hr0, h0⟩ := h0
  subst hr0
  exact W.aret (v := .ref u0) hx hb hr (by first | exact Or.inl ⟨_, rfl⟩ | exact Or.inr ⟨_, rfl⟩) (Or.inr ⟨_, rfl⟩) (fun t ht hW => ⟨⟨some u0, u0, rfl, ⟨rfl, trivial⟩, by rw [ht]; exact hP, hD⟩, hS.F ht⟩) hS.2.2 dJ7_copyOf_1904c_9
