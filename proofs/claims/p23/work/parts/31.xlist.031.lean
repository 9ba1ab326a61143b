set_option maxRecDepth 100000 in
set_option maxHeartbeats 4000000 in
theorem q_l_ad3GS (l : Launch) (D : va_G) (cI cB cZ : ClassId) (zz qq vv : Nat) (bt : Nat → Int32) (c0 : Nat) (x z n eo : Nat) (mc : Int32) (o : Nat → Nat) (e0 e1 e2 : Int32) (ws : va_W) (sz : Nat) (hn : n ≤ c0) (hc : c0 ≤ 100) (h0 : 0 < n) (h60 : n ≤ 60) (hel : ∀ i : Nat, i < n → ∃ fs : List Value, ((o i, .inr (7, fs)) : Nat × va_E) ∈ ((eo, .inr (7, [.int e0, .int e1, .int e2])) : Nat × va_E) :: ws) : Met l yJx4a65c_add_72be8 (CWS yJx4a65c_add_72be8 cJx4a65c_add_72be8 4 none) (RM 6 1 100) (PBx [.ref x, .ref eo, .ref z, .int (nI n)] D cI cB cZ zz qq vv bt (([(x, .inr (0, [.int mc, .ref z, .int (nI n)])), (z, .inl (D.1 99, c0, .inr (.inr (.inr (.inr (fun i => if i < n then some (o i) else none)))))), (eo, .inr (7, [.int e0, .int e1, .int e2]))] : va_W) ++ ws) sz) (va_Qv (fun (u : Nat × Nat) => (n < u.2 ∧ u.2 ≤ 100)) (fun (u : Nat × Nat) (t : State) => va_P D vwCl (([(x, .inr (0, [.int mc, .ref u.1, .int (nI (n + 1))])), (u.1, .inl (D.1 99, u.2, .inr (.inr (.inr (.inr (va_up (fun i => if i < n then some (o i) else none) n (some eo))))))), (eo, .inr (7, [.int e0, .int e1, .int e2]))] : va_W) ++ ws) t.heap ∧ va_D (va_A (([(x, .inr (0, [.int mc, .ref z, .int (nI n)])), (z, .inl (D.1 99, c0, .inr (.inr (.inr (.inr (fun i => if i < n then some (o i) else none)))))), (eo, .inr (7, [.int e0, .int e1, .int e2]))] : va_W) ++ ws) sz) (([(x, .inr (0, [.int mc, .ref u.1, .int (nI (n + 1))])), (u.1, .inl (D.1 99, u.2, .inr (.inr (.inr (.inr (va_up (fun i => if i < n then some (o i) else none) n (some eo))))))), (eo, .inr (7, [.int e0, .int e1, .int e2]))] : va_W) ++ ws)) (va_A (([(x, .inr (0, [.int mc, .ref z, .int (nI n)])), (z, .inl (D.1 99, c0, .inr (.inr (.inr (.inr (fun i => if i < n then some (o i) else none)))))), (eo, .inr (7, [.int e0, .int e1, .int e2]))] : va_W) ++ ws) sz)) 1 100 (va_A (([(x, .inr (0, [.int mc, .ref z, .int (nI n)])), (z, .inl (D.1 99, c0, .inr (.inr (.inr (.inr (fun i => if i < n then some (o i) else none)))))), (eo, .inr (7, [.int e0, .int e1, .int e2]))] : va_W) ++ ws) sz) := by
  refine Met.ofW (cc := cJx4a65c_add_72be8) (maxL := 4) (ret := none) (by decide) rfl ?_
  intro p e s m args below meth c s₁ B hml hv
  obtain ⟨rfl, hsz, hP, hK, hD0, hXS⟩ := hv
  have hx := B.exec
  have hb := B.bytes
  have hr := B.returns
  have hts := atoms_spec (ws := (CWS yJx4a65c_add_72be8 cJx4a65c_add_72be8 4 none)) B.pre
  have hown : s.vm.findClass RJx4a65c = some m.cls := findClass_of_methodNamed B.named
  have hlocks := B.notSynchronized
  have S : SF p m c cJx4a65c_add_72be8 4 s ([.ref x, .ref eo, .ref z, .int (nI n)]).toArray RJx4a65c := ⟨hx, hb, hml, hown, fun w h => hts w (List.mem_cons_of_mem _ h)⟩
  subst hsz
  have hD := hD0.self (sz := s.heap.size)
  generalize hAe : va_A (([(x, .inr (0, [.int mc, .ref z, .int (nI n)])), (z, .inl (D.1 99, c0, .inr (.inr (.inr (.inr (fun i => if i < n then some (o i) else none)))))), (eo, .inr (7, [.int e0, .int e1, .int e2]))] : va_W) ++ ws) s.heap.size = A at hD hXS ⊢
  have hA : ∀ q : Nat, s.heap.size ≤ q → A q := fun q h => by rw [← hAe]; exact Or.inr h
  have hS : va_S A s.heap s.heap [] := va_S.rf
  have hP : va_P D vwCl (([(x, .inr (0, [.int mc, .ref z, .int (nI n)])), (z, .inl (D.1 99, c0, .inr (.inr (.inr (.inr (fun i => if i < n then some (o i) else none)))))), (eo, .inr (7, [.int e0, .int e1, .int e2]))] : va_W) ++ ws) s.heap := hP
  have hD : va_D A (([(x, .inr (0, [.int mc, .ref z, .int (nI n)])), (z, .inl (D.1 99, c0, .inr (.inr (.inr (.inr (fun i => if i < n then some (o i) else none)))))), (eo, .inr (7, [.int e0, .int e1, .int e2]))] : va_W) ++ ws) := hD
  have hl := lv_entry ([.ref x, .ref eo, .ref z, .int (nI n)]) (n := 4) (Nat.le_of_ble_eq_true rfl)
  rw [lg_entry_eq]
  generalize (lg_sl ([.ref x, .ref eo, .ref z, .int (nI n)]) ++ List.replicate (4 - (lg_sl ([.ref x, .ref eo, .ref z, .int (nI n)])).length) Slot.unset).toArray = ls at hl ⊢
  have hl : lv_has ls 4 [(0, .ref x), (1, .ref eo), (2, .ref z), (3, .int (nI n))] := hl
  have tn : (nI n).toInt = (n : Int) := nI_toInt (by omega)
  have tc : (nI c0).toInt = (c0 : Int) := nI_toInt (by omega)
  refine lv_iload_n hx hb dJx4a65c_add_72be8_0 rfl (lv_at hl 3 rfl) ?_
  refine lv_aload_n hx hb dJx4a65c_add_72be8_1 rfl (lv_at hl 2 rfl) ?_
  refine va_alen hx hb hXS.2.2.2.2.2.2.2.2.1 hP 1 0 rfl rfl (v := (nI c0)) rfl dJx4a65c_add_72be8_2 ?_
  refine lv_icmp_ne (tgt := 11) hx hb dJx4a65c_add_72be8_3 (by decide) (fun c_1 => ?_) (fun c_1 => ?_)
  ·
    have tc_1 : ((nI n).toInt : Int) ≠ (nI c0).toInt := fun q => c_1 (Int32.toInt_inj.mp q)
    refine lv_aload_n hx hb dJx4a65c_add_72be8_11 rfl (lv_at hl 2 rfl) ?_
    refine lv_iload_n hx hb dJx4a65c_add_72be8_12 rfl (lv_at hl 3 rfl) ?_
    refine lv_aload_n hx hb dJx4a65c_add_72be8_13 rfl (lv_at hl 1 rfl) ?_
    refine va_astqO hx hb hXS.2.2.2.2.2.2.2.2.1 hP hD hS 1 0 2 7 rfl rfl hXS.2.2.2.2.2.2.2.2.2.2.2.1 rfl rfl (vp_in_nI (by omega) (by omega)) dJx4a65c_add_72be8_14 (fun H locs hP hD hS => ?_)
    have hP : va_P D vwCl (([(x, .inr (0, [.int mc, .ref z, .int (nI n)])), (z, .inl (D.1 99, c0, .inr (.inr (.inr (.inr (va_up (fun i => if i < n then some (o i) else none) (nI n).toNatClampNeg (some eo))))))), (eo, .inr (7, [.int e0, .int e1, .int e2]))] : va_W) ++ ws) H := hP
    have hD : va_D A (([(x, .inr (0, [.int mc, .ref z, .int (nI n)])), (z, .inl (D.1 99, c0, .inr (.inr (.inr (.inr (va_up (fun i => if i < n then some (o i) else none) (nI n).toNatClampNeg (some eo))))))), (eo, .inr (7, [.int e0, .int e1, .int e2]))] : va_W) ++ ws) := hD
    rw [nI_clamp (by omega)] at hP hD
    have hP : va_P D vwCl (([(x, .inr (0, [.int mc, .ref z, .int (nI n)])), (z, .inl (D.1 99, c0, .inr (.inr (.inr (.inr (va_up (fun i => if i < n then some (o i) else none) n (some eo))))))), (eo, .inr (7, [.int e0, .int e1, .int e2]))] : va_W) ++ ws) H := hP
    have hD : va_D A (([(x, .inr (0, [.int mc, .ref z, .int (nI n)])), (z, .inl (D.1 99, c0, .inr (.inr (.inr (.inr (va_up (fun i => if i < n then some (o i) else none) n (some eo))))))), (eo, .inr (7, [.int e0, .int e1, .int e2]))] : va_W) ++ ws) := hD
    refine lv_aload_n hx hb dJx4a65c_add_72be8_15 rfl (lv_at hl 0 rfl) ?_
    refine lv_iload_n hx hb dJx4a65c_add_72be8_16 rfl (lv_at hl 3 rfl) ?_
    refine lv_iconst (v := 1) hx hb dJx4a65c_add_72be8_17 (by decide) ?_
    refine lv_iadd hx hb dJx4a65c_add_72be8_18 ?_
    refine lv_topi (fun y_2 ey_2 => ?_)
    obtain rfl : y_2 = (nI (n + 1)) := ey_2.trans (nI_1 _)
    refine pf_RJx4a65c_48 S hK hP hD hS 0 rfl (v := .int (nI (n + 1))) (Nat.le_of_ble_eq_true rfl) rfl rfl dJx4a65c_add_72be8_19 (fun H locs hP hD hS => ?_)
    have hP : va_P D vwCl (([(x, .inr (0, [.int mc, .ref z, .int (nI (n + 1))])), (z, .inl (D.1 99, c0, .inr (.inr (.inr (.inr (va_up (fun i => if i < n then some (o i) else none) n (some eo))))))), (eo, .inr (7, [.int e0, .int e1, .int e2]))] : va_W) ++ ws) H := hP
    have hD : va_D A (([(x, .inr (0, [.int mc, .ref z, .int (nI (n + 1))])), (z, .inl (D.1 99, c0, .inr (.inr (.inr (.inr (va_up (fun i => if i < n then some (o i) else none) n (some eo))))))), (eo, .inr (7, [.int e0, .int e1, .int e2]))] : va_W) ++ ws) := hD
    refine W.widen (k := 1) (n := 100) (by omega) (by omega) ?_
    exact W.vret hx hb hr (fun t ht hW => ⟨⟨(z, c0), rfl, ⟨by omega, by omega⟩, by rw [ht]; exact hP, hD⟩, hS.F ht⟩) hS.2.2 dJx4a65c_add_72be8_22
  ·
    have tc_1 : ((nI n).toInt : Int) = (nI c0).toInt := congrArg Int32.toInt c_1
    obtain rfl : n = c0 := by omega
    refine lv_aload_n hx hb dJx4a65c_add_72be8_6 rfl (lv_at hl 0 rfl) ?_
    have hFc := free_all hD hS hA
    refine va_callq (runV_xa (As := []) (rest := []) S (q_l_gro0S l D cI cB cZ zz qq vv bt x z n eo mc o e0 e1 e2 ws s.heap.size h0 h60 hel) kV_RJx4a65c_129 hK hXS hS hFc hP hD 0 rfl rfl rfl ⟨Nat.le_of_ble_eq_true rfl, Nat.le_of_ble_eq_true rfl⟩ ⟨Nat.le_of_ble_eq_true rfl, Nat.le_of_ble_eq_true rfl⟩ rfl hl.1 rfl (Nat.le_of_ble_eq_true rfl) dJx4a65c_add_72be8_7) hS (fun q _ h => hFc q h) hFc (fun r2 u2 t H1 locs ht hvm h2 hB1 hz1 hk1 hS => ?_)
    obtain ⟨hP1, hD1⟩ := hB1
    rw [ht] at hP1
    obtain ⟨ua2, uc2⟩ := u2
    have hP : va_P D vwCl (([(x, .inr (0, [.int mc, .ref ua2, .int (nI n)])), (ua2, .inl (D.1 99, uc2, .inr (.inr (.inr (.inr (fun i => if i < n then some (o i) else none)))))), (eo, .inr (7, [.int e0, .int e1, .int e2]))] : va_W) ++ ws) H1 := hP1
    have hD : va_D A (([(x, .inr (0, [.int mc, .ref ua2, .int (nI n)])), (ua2, .inl (D.1 99, uc2, .inr (.inr (.inr (.inr (fun i => if i < n then some (o i) else none)))))), (eo, .inr (7, [.int e0, .int e1, .int e2]))] : va_W) ++ ws) := hD1.weaken (fun _ _ _ h => hFc _ h)
    generalize H1 = H at hP hS ⊢
    obtain ⟨hr2, h2⟩ := h2
    subst hr2
    refine lv_astore_n (lv' := [(2, .ref ua2), (0, .ref x), (1, .ref eo), (3, .int (nI n))]) hx hb dJx4a65c_add_72be8_10 rfl hl (by decide) rfl (fun ls hl => ?_)
    refine lv_aload_n hx hb dJx4a65c_add_72be8_11 rfl (lv_at hl 0 rfl) ?_
    refine lv_iload_n hx hb dJx4a65c_add_72be8_12 rfl (lv_at hl 3 rfl) ?_
    refine lv_aload_n hx hb dJx4a65c_add_72be8_13 rfl (lv_at hl 2 rfl) ?_
    refine va_astqO hx hb hXS.2.2.2.2.2.2.2.2.1 hP hD hS 1 0 2 7 rfl rfl hXS.2.2.2.2.2.2.2.2.2.2.2.1 rfl rfl (vp_in_nI (by omega) (by omega)) dJx4a65c_add_72be8_14 (fun H locs hP hD hS => ?_)
    have hP : va_P D vwCl (([(x, .inr (0, [.int mc, .ref ua2, .int (nI n)])), (ua2, .inl (D.1 99, uc2, .inr (.inr (.inr (.inr (va_up (fun i => if i < n then some (o i) else none) (nI n).toNatClampNeg (some eo))))))), (eo, .inr (7, [.int e0, .int e1, .int e2]))] : va_W) ++ ws) H := hP
    have hD : va_D A (([(x, .inr (0, [.int mc, .ref ua2, .int (nI n)])), (ua2, .inl (D.1 99, uc2, .inr (.inr (.inr (.inr (va_up (fun i => if i < n then some (o i) else none) (nI n).toNatClampNeg (some eo))))))), (eo, .inr (7, [.int e0, .int e1, .int e2]))] : va_W) ++ ws) := hD
    rw [nI_clamp (by omega)] at hP hD
    have hP : va_P D vwCl (([(x, .inr (0, [.int mc, .ref ua2, .int (nI n)])), (ua2, .inl (D.1 99, uc2, .inr (.inr (.inr (.inr (va_up (fun i => if i < n then some (o i) else none) n (some eo))))))), (eo, .inr (7, [.int e0, .int e1, .int e2]))] : va_W) ++ ws) H := hP
    have hD : va_D A (([(x, .inr (0, [.int mc, .ref ua2, .int (nI n)])), (ua2, .inl (D.1 99, uc2, .inr (.inr (.inr (.inr (va_up (fun i => if i < n then some (o i) else none) n (some eo))))))), (eo, .inr (7, [.int e0, .int e1, .int e2]))] : va_W) ++ ws) := hD
    refine lv_aload_n hx hb dJx4a65c_add_72be8_15 rfl (lv_at hl 1 rfl) ?_
    refine lv_iload_n hx hb dJx4a65c_add_72be8_16 rfl (lv_at hl 3 rfl) ?_
    refine lv_iconst (v := 1) hx hb dJx4a65c_add_72be8_17 (by decide) ?_
    refine lv_iadd hx hb dJx4a65c_add_72be8_18 ?_
    refine lv_topi (fun y_4 ey_4 => ?_)
    obtain rfl : y_4 = (nI (n + 1)) := ey_4.trans (nI_1 _)
    refine pf_RJx4a65c_48 S hK hP hD hS 0 rfl (v := .int (nI (n + 1))) (Nat.le_of_ble_eq_true rfl) rfl rfl dJx4a65c_add_72be8_19 (fun H locs hP hD hS => ?_)
    have hP : va_P D vwCl (([(x, .inr (0, [.int mc, .ref ua2, .int (nI (n + 1))])), (ua2, .inl (D.1 99, uc2, .inr (.inr (.inr (.inr (va_up (fun i => if i < n then some (o i) else none) n (some eo))))))), (eo, .inr (7, [.int e0, .int e1, .int e2]))] : va_W) ++ ws) H := hP
    have hD : va_D A (([(x, .inr (0, [.int mc, .ref ua2, .int (nI (n + 1))])), (ua2, .inl (D.1 99, uc2, .inr (.inr (.inr (.inr (va_up (fun i => if i < n then some (o i) else none) n (some eo))))))), (eo, .inr (7, [.int e0, .int e1, .int e2]))] : va_W) ++ ws) := hD
    exact W.vret hx hb hr (fun t ht hW => ⟨⟨(ua2, uc2), rfl, h2, by rw [ht]; exact hP, hD⟩, hS.F ht⟩) hS.2.2 dJx4a65c_add_72be8_22
