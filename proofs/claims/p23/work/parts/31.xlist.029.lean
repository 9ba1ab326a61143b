set_option maxRecDepth 100000 in
set_option maxHeartbeats 4000000 in
theorem q_l_gro1S (l : Launch) (D : va_G) (cI cB cZ : ClassId) (zz qq vv : Nat) (bt : Nat → Int32) (x z n eo : Nat) (mc : Int32) (o : Nat → Nat) (e0 e1 e2 : Int32) (ws : va_W) (sz : Nat) (h0 : 0 < n) (h60 : n ≤ 60) (hel : ∀ i : Nat, i < n → ∃ fs : List Value, ((o i, .inr (7, fs)) : Nat × va_E) ∈ ((eo, .inr (7, [.int e0, .int e1, .int e2])) : Nat × va_E) :: ws) : Met l yJx4a65c_grow_92f84 (CWS yJx4a65c_grow_92f84 cJx4a65c_grow_92f84 4 (some (.array (.object "java/lang/Object")))) (RM 4 1 100) (PBx [.ref x, .int (nI (n + 1))] D cI cB cZ zz qq vv bt (([(x, .inr (0, [.int mc, .ref z, .int (nI n)])), (z, .inl (D.1 99, n, .inr (.inr (.inr (.inr (fun i => if i < n then some (o i) else none)))))), (eo, .inr (7, [.int e0, .int e1, .int e2]))] : va_W) ++ ws) sz) (va_Qq (fun (r : Option Nat) (u : Nat × Nat) => r = some u.1 ∧ (n < u.2 ∧ u.2 ≤ 100)) (fun (u : Nat × Nat) (t : State) => va_P D vwCl (([(x, .inr (0, [.int mc, .ref u.1, .int (nI n)])), (u.1, .inl (D.1 99, u.2, .inr (.inr (.inr (.inr (fun i => if i < n then some (o i) else none)))))), (eo, .inr (7, [.int e0, .int e1, .int e2]))] : va_W) ++ ws) t.heap ∧ va_D (va_A (([(x, .inr (0, [.int mc, .ref z, .int (nI n)])), (z, .inl (D.1 99, n, .inr (.inr (.inr (.inr (fun i => if i < n then some (o i) else none)))))), (eo, .inr (7, [.int e0, .int e1, .int e2]))] : va_W) ++ ws) sz) (([(x, .inr (0, [.int mc, .ref u.1, .int (nI n)])), (u.1, .inl (D.1 99, u.2, .inr (.inr (.inr (.inr (fun i => if i < n then some (o i) else none)))))), (eo, .inr (7, [.int e0, .int e1, .int e2]))] : va_W) ++ ws)) (va_A (([(x, .inr (0, [.int mc, .ref z, .int (nI n)])), (z, .inl (D.1 99, n, .inr (.inr (.inr (.inr (fun i => if i < n then some (o i) else none)))))), (eo, .inr (7, [.int e0, .int e1, .int e2]))] : va_W) ++ ws) sz)) 1 100 (va_A (([(x, .inr (0, [.int mc, .ref z, .int (nI n)])), (z, .inl (D.1 99, n, .inr (.inr (.inr (.inr (fun i => if i < n then some (o i) else none)))))), (eo, .inr (7, [.int e0, .int e1, .int e2]))] : va_W) ++ ws) sz) := by
  refine Met.ofW (cc := cJx4a65c_grow_92f84) (maxL := 4) (ret := (some (.array (.object "java/lang/Object")))) (by decide) rfl ?_
  intro p e s m args below meth c s₁ B hml hv
  obtain ⟨rfl, hsz, hP, hK, hD0, hXS⟩ := hv
  have hx := B.exec
  have hb := B.bytes
  have hr := B.returns
  have hts := atoms_spec (ws := (CWS yJx4a65c_grow_92f84 cJx4a65c_grow_92f84 4 (some (.array (.object "java/lang/Object"))))) B.pre
  have hown : s.vm.findClass RJx4a65c = some m.cls := findClass_of_methodNamed B.named
  have hlocks := B.notSynchronized
  have S : SF p m c cJx4a65c_grow_92f84 4 s ([.ref x, .int (nI (n + 1))]).toArray RJx4a65c := ⟨hx, hb, hml, hown, fun w h => hts w (List.mem_cons_of_mem _ h)⟩
  subst hsz
  have hD := hD0.self (sz := s.heap.size)
  generalize hAe : va_A (([(x, .inr (0, [.int mc, .ref z, .int (nI n)])), (z, .inl (D.1 99, n, .inr (.inr (.inr (.inr (fun i => if i < n then some (o i) else none)))))), (eo, .inr (7, [.int e0, .int e1, .int e2]))] : va_W) ++ ws) s.heap.size = A at hD hXS ⊢
  have hA : ∀ q : Nat, s.heap.size ≤ q → A q := fun q h => by rw [← hAe]; exact Or.inr h
  have hS : va_S A s.heap s.heap [] := va_S.rf
  have hP : va_P D vwCl (([(x, .inr (0, [.int mc, .ref z, .int (nI n)])), (z, .inl (D.1 99, n, .inr (.inr (.inr (.inr (fun i => if i < n then some (o i) else none)))))), (eo, .inr (7, [.int e0, .int e1, .int e2]))] : va_W) ++ ws) s.heap := hP
  have hD : va_D A (([(x, .inr (0, [.int mc, .ref z, .int (nI n)])), (z, .inl (D.1 99, n, .inr (.inr (.inr (.inr (fun i => if i < n then some (o i) else none)))))), (eo, .inr (7, [.int e0, .int e1, .int e2]))] : va_W) ++ ws) := hD
  have hl := lv_entry ([.ref x, .int (nI (n + 1))]) (n := 4) (Nat.le_of_ble_eq_true rfl)
  rw [lg_entry_eq]
  generalize (lg_sl ([.ref x, .int (nI (n + 1))]) ++ List.replicate (4 - (lg_sl ([.ref x, .int (nI (n + 1))])).length) Slot.unset).toArray = ls at hl ⊢
  have hl : lv_has ls 4 [(0, .ref x), (1, .int (nI (n + 1)))] := hl
  have tn : (nI n).toInt = (n : Int) := nI_toInt (by omega)
  refine lv_aload_n hx hb dJx4a65c_grow_92f84_0 rfl (lv_at hl 0 rfl) ?_
  refine gf_RJx4a65c_9 S hK hP 0 rfl (v := .ref z) rfl dJx4a65c_grow_92f84_1 ?_
  refine va_alen hx hb hXS.2.2.2.2.2.2.2.2.1 hP 1 0 rfl rfl (v := (nI n)) rfl dJx4a65c_grow_92f84_4 ?_
  refine lv_istore_n (lv' := [(2, .int (nI n)), (0, .ref x), (1, .int (nI (n + 1)))]) hx hb dJx4a65c_grow_92f84_5 rfl hl (by decide) rfl (fun ls hl => ?_)
  refine lv_iload_n hx hb dJx4a65c_grow_92f84_6 rfl (lv_at hl 0 rfl) ?_
  refine lv_if_gt (tgt := 20) hx hb dJx4a65c_grow_92f84_7 (by decide) (fun c_1 => ?_) (fun c_1 => False.elim (by have tc_1 : ((nI n).toInt : Int) ≤ 0 := Int32.le_iff_toInt_le.mp (Int32.not_lt.mp c_1); omega))
  have tc_1 : (0 : Int) < (nI n).toInt := Int32.lt_iff_toInt_lt.mp c_1
  refine lv_iload_n hx hb dJx4a65c_grow_92f84_20 rfl (lv_at hl 0 rfl) ?_
  refine lv_iload_n hx hb dJx4a65c_grow_92f84_21 rfl (lv_at hl 2 rfl) ?_
  refine lv_iload_n hx hb dJx4a65c_grow_92f84_22 rfl (lv_at hl 0 rfl) ?_
  refine lv_isub hx hb dJx4a65c_grow_92f84_23 ?_
  refine lv_topi (fun y_2 ey_2 => ?_)
  obtain rfl : y_2 = 1 := ey_2.trans (by rw [nI_sub (by omega), show n + 1 - n = 1 by omega]; rfl)
  refine lv_iload_n hx hb dJx4a65c_grow_92f84_24 rfl (lv_at hl 0 rfl) ?_
  refine lv_iconst (v := 1) hx hb dJx4a65c_grow_92f84_25 (by decide) ?_
  refine lv_ishr hx hb dJx4a65c_grow_92f84_26 ?_
  refine lv_topi (fun y_3 ey_3 => ?_)
  obtain rfl : y_3 = (nI (n / 2)) := ey_3.trans (shr1 n (by omega))
  refine vp_callSi (runS_r (As := [.int (nI n), .int 1, .int (nI (n / 2))]) (rest := []) S (q_l_newLen l D cI cB cZ n (n / 2) (by omega) (by omega)) kS_RJx4a65c_73 hK hP [] rfl ⟨Nat.le_of_ble_eq_true rfl, Nat.le_of_ble_eq_true rfl⟩ ⟨Nat.le_of_ble_eq_true rfl, Nat.le_of_ble_eq_true rfl⟩ rfl hl.1 rfl (Nat.le_of_ble_eq_true rfl) dJx4a65c_grow_92f84_27) (fun r_4 h_5 => ?_)
  subst h_5
  refine lv_istore_n (lv' := [(3, .int (nI (n + max 1 (n / 2)))), (2, .int (nI n)), (0, .ref x), (1, .int (nI (n + 1)))]) hx hb dJx4a65c_grow_92f84_30 rfl hl (by decide) rfl (fun ls hl => ?_)
  refine lv_aload_n hx hb dJx4a65c_grow_92f84_31 rfl (lv_at hl 2 rfl) ?_
  refine lv_aload_n hx hb dJx4a65c_grow_92f84_32 rfl (lv_at hl 2 rfl) ?_
  refine gf_RJx4a65c_9 S hK hP 0 rfl (v := .ref z) rfl dJx4a65c_grow_92f84_33 ?_
  refine lv_iload_n hx hb dJx4a65c_grow_92f84_36 rfl (lv_at hl 0 rfl) ?_
  have hFc := free_all hD hS hA
  refine va_callq (runS_xa (As := [.ref z, .int (nI (n + max 1 (n / 2)))]) (rest := [.ref x]) S (q_l_cpo2S l D cI cB cZ zz qq vv bt (n + max 1 (n / 2)) x z n eo mc o e0 e1 e2 ws s.heap.size (by omega) (by omega) hel) kS_RJx4a65c_66 hK hXS hS hFc hP hD ⟨Nat.le_of_ble_eq_true rfl, Nat.le_of_ble_eq_true rfl⟩ ⟨Nat.le_of_ble_eq_true rfl, Nat.le_of_ble_eq_true rfl⟩ rfl hl.1 rfl (Nat.le_of_ble_eq_true rfl) dJx4a65c_grow_92f84_37) hS (fun q _ h => hFc q h) hFc (fun r5 u5 t H1 locs ht hvm h5 hB1 hz1 hk1 hS => ?_)
  obtain ⟨hP1, hD1⟩ := hB1
  rw [ht] at hP1
  have hP : va_P D vwCl (([(u5, .inl (D.1 99, (n + max 1 (n / 2)), .inr (.inr (.inr (.inr (fun i => if i < n then some (o i) else none)))))), (x, .inr (0, [.int mc, .ref z, .int (nI n)])), (z, .inl (D.1 99, n, .inr (.inr (.inr (.inr (fun i => if i < n then some (o i) else none)))))), (eo, .inr (7, [.int e0, .int e1, .int e2]))] : va_W) ++ ws) H1 := hP1
  have hD : va_D A (([(u5, .inl (D.1 99, (n + max 1 (n / 2)), .inr (.inr (.inr (.inr (fun i => if i < n then some (o i) else none)))))), (x, .inr (0, [.int mc, .ref z, .int (nI n)])), (z, .inl (D.1 99, n, .inr (.inr (.inr (.inr (fun i => if i < n then some (o i) else none)))))), (eo, .inr (7, [.int e0, .int e1, .int e2]))] : va_W) ++ ws) := hD1.weaken (fun _ _ _ h => hFc _ h)
  generalize H1 = H at hP hS ⊢
  obtain ⟨hr5, h5⟩ := h5
  subst hr5
  refine lv_dup_x1 hx hb dJx4a65c_grow_92f84_40 rfl rfl ?_
  refine pf_RJx4a65c_9 S hK hP hD hS 1 rfl (v := .ref u5) (Nat.le_of_ble_eq_true rfl) rfl rfl dJx4a65c_grow_92f84_41 (fun H locs hP hD hS => ?_)
  have hP : va_P D vwCl (([(u5, .inl (D.1 99, (n + max 1 (n / 2)), .inr (.inr (.inr (.inr (fun i => if i < n then some (o i) else none)))))), (x, .inr (0, [.int mc, .ref u5, .int (nI n)])), (z, .inl (D.1 99, n, .inr (.inr (.inr (.inr (fun i => if i < n then some (o i) else none)))))), (eo, .inr (7, [.int e0, .int e1, .int e2]))] : va_W) ++ ws) H := hP
  have hD : va_D A (([(u5, .inl (D.1 99, (n + max 1 (n / 2)), .inr (.inr (.inr (.inr (fun i => if i < n then some (o i) else none)))))), (x, .inr (0, [.int mc, .ref u5, .int (nI n)])), (z, .inl (D.1 99, n, .inr (.inr (.inr (.inr (fun i => if i < n then some (o i) else none)))))), (eo, .inr (7, [.int e0, .int e1, .int e2]))] : va_W) ++ ws) := hD
  have hP : va_P D vwCl (([(x, .inr (0, [.int mc, .ref u5, .int (nI n)])), (u5, .inl (D.1 99, (n + max 1 (n / 2)), .inr (.inr (.inr (.inr (fun i => if i < n then some (o i) else none)))))), (eo, .inr (7, [.int e0, .int e1, .int e2]))] : va_W) ++ ws) H := g_dropP hP
  have hD : va_D A (([(x, .inr (0, [.int mc, .ref u5, .int (nI n)])), (u5, .inl (D.1 99, (n + max 1 (n / 2)), .inr (.inr (.inr (.inr (fun i => if i < n then some (o i) else none)))))), (eo, .inr (7, [.int e0, .int e1, .int e2]))] : va_W) ++ ws) := g_dropD hD
  exact W.aret (v := .ref u5) hx hb hr (by first | exact Or.inl ⟨_, rfl⟩ | exact Or.inr ⟨_, rfl⟩) (Or.inr ⟨_, rfl⟩) (fun t ht hW => ⟨⟨some u5, (u5, (n + max 1 (n / 2))), rfl, ⟨rfl, by omega, by omega⟩, by rw [ht]; exact hP, hD⟩, hS.F ht⟩) hS.2.2 dJx4a65c_grow_92f84_44
