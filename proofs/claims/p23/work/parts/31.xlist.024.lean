set_option maxRecDepth 100000 in
set_option maxHeartbeats 4000000 in
theorem q_l_gro0P (l : Launch) (D : va_G) (cI cB cZ : ClassId) (zz qq vv : Nat) (bt : Nat → Int32) (x z n eo : Nat) (mc : Int32) (o : Nat → Nat) (e0 e1 e2 e3 e4 : Int32) (ws : va_W) (sz : Nat) (h0 : 0 < n) (h60 : n ≤ 60) (hel : ∀ i : Nat, i < n → ∃ fs : List Value, ((o i, .inr (5, fs)) : Nat × va_E) ∈ ((eo, .inr (5, [.int e0, .int e1, .int e2, .int e3, .int e4])) : Nat × va_E) :: ws) : Met l yJx4a65c_grow_d5877 (CWS yJx4a65c_grow_d5877 cJx4a65c_grow_d5877 1 (some (.array (.object "java/lang/Object")))) (RM 5 1 100) (PBx [.ref x] D cI cB cZ zz qq vv bt (([(x, .inr (0, [.int mc, .ref z, .int (nI n)])), (z, .inl (D.1 99, n, .inr (.inr (.inr (.inr (fun i => if i < n then some (o i) else none)))))), (eo, .inr (5, [.int e0, .int e1, .int e2, .int e3, .int e4]))] : va_W) ++ ws) sz) (va_Qq (fun (r : Option Nat) (u : Nat × Nat) => r = some u.1 ∧ (n < u.2 ∧ u.2 ≤ 100)) (fun (u : Nat × Nat) (t : State) => va_P D vwCl (([(x, .inr (0, [.int mc, .ref u.1, .int (nI n)])), (u.1, .inl (D.1 99, u.2, .inr (.inr (.inr (.inr (fun i => if i < n then some (o i) else none)))))), (eo, .inr (5, [.int e0, .int e1, .int e2, .int e3, .int e4]))] : va_W) ++ ws) t.heap ∧ va_D (va_A (([(x, .inr (0, [.int mc, .ref z, .int (nI n)])), (z, .inl (D.1 99, n, .inr (.inr (.inr (.inr (fun i => if i < n then some (o i) else none)))))), (eo, .inr (5, [.int e0, .int e1, .int e2, .int e3, .int e4]))] : va_W) ++ ws) sz) (([(x, .inr (0, [.int mc, .ref u.1, .int (nI n)])), (u.1, .inl (D.1 99, u.2, .inr (.inr (.inr (.inr (fun i => if i < n then some (o i) else none)))))), (eo, .inr (5, [.int e0, .int e1, .int e2, .int e3, .int e4]))] : va_W) ++ ws)) (va_A (([(x, .inr (0, [.int mc, .ref z, .int (nI n)])), (z, .inl (D.1 99, n, .inr (.inr (.inr (.inr (fun i => if i < n then some (o i) else none)))))), (eo, .inr (5, [.int e0, .int e1, .int e2, .int e3, .int e4]))] : va_W) ++ ws) sz)) 1 100 (va_A (([(x, .inr (0, [.int mc, .ref z, .int (nI n)])), (z, .inl (D.1 99, n, .inr (.inr (.inr (.inr (fun i => if i < n then some (o i) else none)))))), (eo, .inr (5, [.int e0, .int e1, .int e2, .int e3, .int e4]))] : va_W) ++ ws) sz) := by
  refine Met.ofW (cc := cJx4a65c_grow_d5877) (maxL := 1) (ret := (some (.array (.object "java/lang/Object")))) (by decide) rfl ?_
  intro p e s m args below meth c s₁ B hml hv
  obtain ⟨rfl, hsz, hP, hK, hD0, hXS⟩ := hv
  have hx := B.exec
  have hb := B.bytes
  have hr := B.returns
  have hts := atoms_spec (ws := (CWS yJx4a65c_grow_d5877 cJx4a65c_grow_d5877 1 (some (.array (.object "java/lang/Object"))))) B.pre
  have hown : s.vm.findClass RJx4a65c = some m.cls := findClass_of_methodNamed B.named
  have hlocks := B.notSynchronized
  have S : SF p m c cJx4a65c_grow_d5877 1 s ([.ref x]).toArray RJx4a65c := ⟨hx, hb, hml, hown, fun w h => hts w (List.mem_cons_of_mem _ h)⟩
  subst hsz
  have hD := hD0.self (sz := s.heap.size)
  generalize hAe : va_A (([(x, .inr (0, [.int mc, .ref z, .int (nI n)])), (z, .inl (D.1 99, n, .inr (.inr (.inr (.inr (fun i => if i < n then some (o i) else none)))))), (eo, .inr (5, [.int e0, .int e1, .int e2, .int e3, .int e4]))] : va_W) ++ ws) s.heap.size = A at hD hXS ⊢
  have hA : ∀ q : Nat, s.heap.size ≤ q → A q := fun q h => by rw [← hAe]; exact Or.inr h
  have hS : va_S A s.heap s.heap [] := va_S.rf
  have hP : va_P D vwCl (([(x, .inr (0, [.int mc, .ref z, .int (nI n)])), (z, .inl (D.1 99, n, .inr (.inr (.inr (.inr (fun i => if i < n then some (o i) else none)))))), (eo, .inr (5, [.int e0, .int e1, .int e2, .int e3, .int e4]))] : va_W) ++ ws) s.heap := hP
  have hD : va_D A (([(x, .inr (0, [.int mc, .ref z, .int (nI n)])), (z, .inl (D.1 99, n, .inr (.inr (.inr (.inr (fun i => if i < n then some (o i) else none)))))), (eo, .inr (5, [.int e0, .int e1, .int e2, .int e3, .int e4]))] : va_W) ++ ws) := hD
  have hl := lv_entry ([.ref x]) (n := 1) (Nat.le_of_ble_eq_true rfl)
  rw [lg_entry_eq]
  generalize (lg_sl ([.ref x]) ++ List.replicate (1 - (lg_sl ([.ref x])).length) Slot.unset).toArray = ls at hl ⊢
  have hl : lv_has ls 1 [(0, .ref x)] := hl
  refine lv_aload_n hx hb dJx4a65c_grow_d5877_0 rfl (lv_at hl 0 rfl) ?_
  refine lv_aload_n hx hb dJx4a65c_grow_d5877_1 rfl (lv_at hl 0 rfl) ?_
  refine gf_RJx4a65c_48 S hK hP 0 rfl (v := .int (nI n)) rfl dJx4a65c_grow_d5877_2 ?_
  refine lv_iconst (v := 1) hx hb dJx4a65c_grow_d5877_5 (by decide) ?_
  refine lv_iadd hx hb dJx4a65c_grow_d5877_6 ?_
  refine lv_topi (fun y_1 ey_1 => ?_)
  obtain rfl : y_1 = (nI (n + 1)) := ey_1.trans (nI_1 _)
  have hFc := free_all hD hS hA
  refine va_callq (runV_xa (As := [.int (nI (n + 1))]) (rest := []) S (q_l_gro1P l D cI cB cZ zz qq vv bt x z n eo mc o e0 e1 e2 e3 e4 ws s.heap.size h0 h60 hel) kV_RJx4a65c_69 hK hXS hS hFc hP hD 0 rfl rfl rfl ⟨Nat.le_of_ble_eq_true rfl, Nat.le_of_ble_eq_true rfl⟩ ⟨Nat.le_of_ble_eq_true rfl, Nat.le_of_ble_eq_true rfl⟩ rfl hl.1 rfl (Nat.le_of_ble_eq_true rfl) dJx4a65c_grow_d5877_7) hS (fun q _ h => hFc q h) hFc (fun r1 u1 t H1 locs ht hvm h1 hB1 hz1 hk1 hS => ?_)
  obtain ⟨hP1, hD1⟩ := hB1
  rw [ht] at hP1
  obtain ⟨ua1, uc1⟩ := u1
  have hP : va_P D vwCl (([(x, .inr (0, [.int mc, .ref ua1, .int (nI n)])), (ua1, .inl (D.1 99, uc1, .inr (.inr (.inr (.inr (fun i => if i < n then some (o i) else none)))))), (eo, .inr (5, [.int e0, .int e1, .int e2, .int e3, .int e4]))] : va_W) ++ ws) H1 := hP1
  have hD : va_D A (([(x, .inr (0, [.int mc, .ref ua1, .int (nI n)])), (ua1, .inl (D.1 99, uc1, .inr (.inr (.inr (.inr (fun i => if i < n then some (o i) else none)))))), (eo, .inr (5, [.int e0, .int e1, .int e2, .int e3, .int e4]))] : va_W) ++ ws) := hD1.weaken (fun _ _ _ h => hFc _ h)
  generalize H1 = H at hP hS ⊢
  obtain ⟨hr1, h1⟩ := h1
  subst hr1
  exact W.aret (v := .ref ua1) hx hb hr (by first | exact Or.inl ⟨_, rfl⟩ | exact Or.inr ⟨_, rfl⟩) (Or.inr ⟨_, rfl⟩) (fun t ht hW => ⟨⟨some ua1, (ua1, uc1), rfl, ⟨rfl, h1⟩, by rw [ht]; exact hP, hD⟩, hS.F ht⟩) hS.2.2 dJx4a65c_grow_d5877_10
