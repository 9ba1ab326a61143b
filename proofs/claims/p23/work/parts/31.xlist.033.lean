set_option maxRecDepth 100000 in
set_option maxHeartbeats 4000000 in
theorem q_l_cpo3M (l : Launch) (D : va_G) (cI cB cZ : ClassId) (zz qq vv : Nat) (bt : Nat → Int32) (c1 mi : Nat) (x z n eo : Nat) (mc : Int32) (o : Nat → Nat) (e0 e1 e2 : Int32) (ws : va_W) (sz : Nat) (hc : n < c1) (h100 : c1 ≤ 100) (hel : ∀ i : Nat, i < n → ∃ fs : List Value, ((o i, .inr (4, fs)) : Nat × va_E) ∈ ((eo, .inr (4, [.int e0, .int e1, .int e2])) : Nat × va_E) :: ws) : Met l yJ7_copyOf_6403c (CWS yJ7_copyOf_6403c cJ7_copyOf_6403c 4 (some (.array (.object "java/lang/Object")))) (RM 2 1 100) (PBm mi [.ref z, .int (nI c1), .ref mi] D cI cB cZ zz qq vv bt (([(x, .inr (0, [.int mc, .ref z, .int (nI n)])), (z, .inl (D.1 99, n, .inr (.inr (.inr (.inr (fun i => if i < n then some (o i) else none)))))), (eo, .inr (4, [.int e0, .int e1, .int e2]))] : va_W) ++ ws) sz) (va_Qq (fun (r : Option Nat) (u : Nat) => r = some u ∧ True) (fun (u : Nat) (t : State) => va_P D vwCl (([(u, .inl (D.1 99, c1, .inr (.inr (.inr (.inr (fun i => if i < n then some (o i) else none)))))), (x, .inr (0, [.int mc, .ref z, .int (nI n)])), (z, .inl (D.1 99, n, .inr (.inr (.inr (.inr (fun i => if i < n then some (o i) else none)))))), (eo, .inr (4, [.int e0, .int e1, .int e2]))] : va_W) ++ ws) t.heap ∧ va_D (va_A (([(x, .inr (0, [.int mc, .ref z, .int (nI n)])), (z, .inl (D.1 99, n, .inr (.inr (.inr (.inr (fun i => if i < n then some (o i) else none)))))), (eo, .inr (4, [.int e0, .int e1, .int e2]))] : va_W) ++ ws) sz) (([(u, .inl (D.1 99, c1, .inr (.inr (.inr (.inr (fun i => if i < n then some (o i) else none)))))), (x, .inr (0, [.int mc, .ref z, .int (nI n)])), (z, .inl (D.1 99, n, .inr (.inr (.inr (.inr (fun i => if i < n then some (o i) else none)))))), (eo, .inr (4, [.int e0, .int e1, .int e2]))] : va_W) ++ ws)) (va_A (([(x, .inr (0, [.int mc, .ref z, .int (nI n)])), (z, .inl (D.1 99, n, .inr (.inr (.inr (.inr (fun i => if i < n then some (o i) else none)))))), (eo, .inr (4, [.int e0, .int e1, .int e2]))] : va_W) ++ ws) sz)) 1 100 (va_A (([(x, .inr (0, [.int mc, .ref z, .int (nI n)])), (z, .inl (D.1 99, n, .inr (.inr (.inr (.inr (fun i => if i < n then some (o i) else none)))))), (eo, .inr (4, [.int e0, .int e1, .int e2]))] : va_W) ++ ws) sz) := by
  refine Met.ofW (cc := cJ7_copyOf_6403c) (maxL := 4) (ret := (some (.array (.object "java/lang/Object")))) (by decide) rfl ?_
  intro p e s m args below meth c s₁ B hml hv
  obtain ⟨rfl, hsz, hP, hK, hD0, hXS, hMi⟩ := hv
  have hx := B.exec
  have hb := B.bytes
  have hr := B.returns
  have hts := atoms_spec (ws := (CWS yJ7_copyOf_6403c cJ7_copyOf_6403c 4 (some (.array (.object "java/lang/Object"))))) B.pre
  have hown : s.vm.findClass RJ7 = some m.cls := findClass_of_methodNamed B.named
  have hlocks := B.notSynchronized
  have S : SF p m c cJ7_copyOf_6403c 4 s ([.ref z, .int (nI c1), .ref mi]).toArray RJ7 := ⟨hx, hb, hml, hown, fun w h => hts w (List.mem_cons_of_mem _ h)⟩
  subst hsz
  have hD := hD0.self (sz := s.heap.size)
  generalize hAe : va_A (([(x, .inr (0, [.int mc, .ref z, .int (nI n)])), (z, .inl (D.1 99, n, .inr (.inr (.inr (.inr (fun i => if i < n then some (o i) else none)))))), (eo, .inr (4, [.int e0, .int e1, .int e2]))] : va_W) ++ ws) s.heap.size = A at hD hXS ⊢
  have hA : ∀ q : Nat, s.heap.size ≤ q → A q := fun q h => by rw [← hAe]; exact Or.inr h
  have hS : va_S A s.heap s.heap [] := va_S.rf
  have hP : va_P D vwCl (([(x, .inr (0, [.int mc, .ref z, .int (nI n)])), (z, .inl (D.1 99, n, .inr (.inr (.inr (.inr (fun i => if i < n then some (o i) else none)))))), (eo, .inr (4, [.int e0, .int e1, .int e2]))] : va_W) ++ ws) s.heap := hP
  have hD : va_D A (([(x, .inr (0, [.int mc, .ref z, .int (nI n)])), (z, .inl (D.1 99, n, .inr (.inr (.inr (.inr (fun i => if i < n then some (o i) else none)))))), (eo, .inr (4, [.int e0, .int e1, .int e2]))] : va_W) ++ ws) := hD
  have hl := lv_entry ([.ref z, .int (nI c1), .ref mi]) (n := 4) (Nat.le_of_ble_eq_true rfl)
  rw [lg_entry_eq]
  generalize (lg_sl ([.ref z, .int (nI c1), .ref mi]) ++ List.replicate (4 - (lg_sl ([.ref z, .int (nI c1), .ref mi])).length) Slot.unset).toArray = ls at hl ⊢
  have hl : lv_has ls 4 [(0, .ref z), (1, .int (nI c1)), (2, .ref mi)] := hl
  refine lv_aload_n hx hb dJ7_copyOf_6403c_0 rfl (lv_at hl 2 rfl) ?_
  refine va_ldcM hx hb hown (S.2.2.2.2 _ (wT_t2 162 rfl rfl)) hMi dJ7_copyOf_6403c_1 ?_
  refine lv_acmp_ne (rx := some mi) (ry := some mi) (tgt := 13) hx hb dJ7_copyOf_6403c_3 (by decide) (fun h => absurd rfl h) (fun _ => ?_)
  refine lv_iload_n hx hb dJ7_copyOf_6403c_6 rfl (lv_at hl 1 rfl) ?_
  refine newq_obj S hXS hK hP hD hS hA (N' := c1) (wT_t2 164 rfl rfl) (nI_nn (by omega)) (nI_clamp (by omega)) (by omega) (Nat.le_of_ble_eq_true rfl) (by show 0 + c1 ≤ 100; omega) dJ7_copyOf_6403c_7 (fun q7 H hP hD hS => ?_)
  refine W.widen (k := 1) (n := 100) (Nat.le_of_ble_eq_true rfl) (by omega) ?_
  have hP : va_P D vwCl (([(q7, .inl (D.1 99, c1, .inr (.inr (.inr (.inr (fun _ => none)))))), (x, .inr (0, [.int mc, .ref z, .int (nI n)])), (z, .inl (D.1 99, n, .inr (.inr (.inr (.inr (fun i => if i < n then some (o i) else none)))))), (eo, .inr (4, [.int e0, .int e1, .int e2]))] : va_W) ++ ws) H := va_P_perm g_rot hP
  have hD : va_D A (([(q7, .inl (D.1 99, c1, .inr (.inr (.inr (.inr (fun _ => none)))))), (x, .inr (0, [.int mc, .ref z, .int (nI n)])), (z, .inl (D.1 99, n, .inr (.inr (.inr (.inr (fun i => if i < n then some (o i) else none)))))), (eo, .inr (4, [.int e0, .int e1, .int e2]))] : va_W) ++ ws) := va_D_perm g_rot hD
  refine lv_goto (tgt := 24) hx hb dJ7_copyOf_6403c_10 (by decide) ?_
  refine lv_astore_n (lv' := [(3, .ref q7), (0, .ref z), (1, .int (nI c1)), (2, .ref mi)]) hx hb dJ7_copyOf_6403c_24 rfl hl (by decide) rfl (fun ls hl => ?_)
  refine lv_aload_n hx hb dJ7_copyOf_6403c_25 rfl (lv_at hl 1 rfl) ?_
  refine lv_iconst (v := 0) hx hb dJ7_copyOf_6403c_26 (by decide) ?_
  refine lv_aload_n hx hb dJ7_copyOf_6403c_27 rfl (lv_at hl 0 rfl) ?_
  refine lv_iconst (v := 0) hx hb dJ7_copyOf_6403c_28 (by decide) ?_
  refine lv_aload_n hx hb dJ7_copyOf_6403c_29 rfl (lv_at hl 1 rfl) ?_
  refine va_alen hx hb hXS.2.2.2.2.2.2.2.2.1 hP 2 0 rfl rfl (v := (nI n)) rfl dJ7_copyOf_6403c_30 ?_
  refine lv_iload_n hx hb dJ7_copyOf_6403c_31 rfl (lv_at hl 2 rfl) ?_
  refine va_mmin hx hb (by rw [hml]; exact hl.1.symm) hown (S.2.2.2.2 _ (wT_t2 165 rfl rfl)) (S.2.2.2.2 _ (wT_t2 166 rfl rfl)) (S.2.2.2.2 _ (wT_t1 3 rfl rfl)) (S.2.2.2.2 _ (wT_t2 167 rfl rfl)) (Nat.le_of_ble_eq_true rfl) (Nat.le_of_ble_eq_true rfl) (Nat.le_of_ble_eq_true rfl) (Nat.le_of_ble_eq_true rfl) dJ7_copyOf_6403c_32 ?_
  refine lv_topi (fun y_1 ey_1 => ?_)
  obtain rfl : y_1 = (nI n) := ey_1.trans (min_le (by omega) (by omega))
  have hel9 : ∀ i : Nat, i < ((nI n) : Int32).toNatClampNeg → ∀ y : Nat, (fun i => if i < n then some (o i) else none) ((0 : Int32).toNatClampNeg + i) = some y → ∃ cellV : Cell, H[y]? = some cellV ∧ cellV.vm.isStatics = false ∧ s.vm.findClass "OilHome$Move" = some cellV.cls := by
    intro i hi y hy
    rw [nI_clamp (by omega)] at hi
    have hy : (if 0 + i < n then some (o (0 + i)) else none) = some y := hy
    rw [Nat.zero_add, if_pos hi] at hy
    obtain rfl := Option.some.inj hy
    obtain ⟨fs, hfs⟩ := hel i hi
    obtain ⟨j9, hj9⟩ := List.mem_iff_getElem?.mp (show ((o i, .inr (4, fs)) : Nat × va_E) ∈ (([(q7, .inl (D.1 99, c1, .inr (.inr (.inr (.inr (fun _ => none)))))), (x, .inr (0, [.int mc, .ref z, .int (nI n)])), (z, .inl (D.1 99, n, .inr (.inr (.inr (.inr (fun i => if i < n then some (o i) else none)))))), (eo, .inr (4, [.int e0, .int e1, .int e2]))] : va_W) ++ ws) from List.mem_cons_of_mem _ (List.mem_cons_of_mem _ (List.mem_cons_of_mem _ hfs)))
    exact va_recv hK.1 hP (ci := 4) rfl hj9
  refine va_copyq (E0 := "java/lang/Object") (E1 := "java/lang/Object") (C := "OilHome$Move") hx hb (by rw [hml]; exact hl.1.symm) hown (S.2.2.2.2 _ (wT_t2 168 rfl rfl)) (S.2.2.2.2 _ (wT_t2 170 rfl rfl)) (S.2.2.2.2 _ (wT_t2 169 rfl rfl)) (S.2.2.2.2 _ (wT_t1 16 rfl rfl)) hXS.2.2.2.2.2.2.2.2.1 hP hD hS 2 0 0 0 rfl rfl rfl rfl (by decide) (by decide) (nI_nn (by omega)) (by rw [nI_clamp (by omega)]; show 0 + n ≤ n; omega) (by rw [nI_clamp (by omega)]; show 0 + n ≤ c1; omega) hel9 (vb_asgC hXS.2.2.2.2.2.2.2.2.2.2.2.2.1.2.2.2) (Nat.le_of_ble_eq_true rfl) (Nat.le_of_ble_eq_true (by decide +kernel)) dJ7_copyOf_6403c_35 (fun H locs hP hD hS => ?_)
  rw [nI_clamp (n := n) (by omega), show (0 : Int32).toNatClampNeg = 0 by decide, cpy_rf] at hP hD
  have hP : va_P D vwCl (([(q7, .inl (D.1 99, c1, .inr (.inr (.inr (.inr (fun i => if i < n then some (o i) else none)))))), (x, .inr (0, [.int mc, .ref z, .int (nI n)])), (z, .inl (D.1 99, n, .inr (.inr (.inr (.inr (fun i => if i < n then some (o i) else none)))))), (eo, .inr (4, [.int e0, .int e1, .int e2]))] : va_W) ++ ws) H := hP
  have hD : va_D A (([(q7, .inl (D.1 99, c1, .inr (.inr (.inr (.inr (fun i => if i < n then some (o i) else none)))))), (x, .inr (0, [.int mc, .ref z, .int (nI n)])), (z, .inl (D.1 99, n, .inr (.inr (.inr (.inr (fun i => if i < n then some (o i) else none)))))), (eo, .inr (4, [.int e0, .int e1, .int e2]))] : va_W) ++ ws) := hD
  refine lv_aload_n hx hb dJ7_copyOf_6403c_38 rfl (lv_at hl 0 rfl) ?_
  exact W.aret (v := .ref q7) hx hb hr (by first | exact Or.inl ⟨_, rfl⟩ | exact Or.inr ⟨_, rfl⟩) (Or.inr ⟨_, rfl⟩) (fun t ht hW => ⟨⟨some q7, q7, rfl, ⟨rfl, trivial⟩, by rw [ht]; exact hP, hD⟩, hS.F ht⟩) hS.2.2 dJ7_copyOf_6403c_39
