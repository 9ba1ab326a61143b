set_option maxRecDepth 100000 in
set_option maxHeartbeats 4000000 in
theorem q_l_add3ZL (l : Launch) (D : va_G) (cI cB cZ : ClassId) (zz qq vv : Nat) (bt : Nat → Int32) (x eo : Nat) (mc : Int32) (e0 e1 e2 e3 e4 e5 e6 e7 e8 e9 : Int32) (sz : Nat) : Met l yJx4a65c_add_72be8 (CWS yJx4a65c_add_72be8 cJx4a65c_add_72be8 4 none) (RM 3 1 10) (PBx [.ref x, .ref eo, .ref zz, .int 0] D cI cB cZ zz qq vv bt [(x, .inr (0, [.int mc, .ref zz, .int 0])), (eo, .inr (3, [.int e0, .int e1, .int e2, .int e3, .int e4, .int e5, .int e6, .int e7, .int e8, .int e9]))] sz) (va_Qv (fun (_ : Nat) => True) (fun (u : Nat) (t : State) => va_P D vwCl [(x, .inr (0, [.int mc, .ref u, .int 1])), (u, .inl (D.1 99, 10, .inr (.inr (.inr (.inr (va_up (fun _ => none) 0 (some eo))))))), (eo, .inr (3, [.int e0, .int e1, .int e2, .int e3, .int e4, .int e5, .int e6, .int e7, .int e8, .int e9]))] t.heap ∧ va_D (va_A [(x, .inr (0, [.int mc, .ref zz, .int 0])), (eo, .inr (3, [.int e0, .int e1, .int e2, .int e3, .int e4, .int e5, .int e6, .int e7, .int e8, .int e9]))] sz) [(x, .inr (0, [.int mc, .ref u, .int 1])), (u, .inl (D.1 99, 10, .inr (.inr (.inr (.inr (va_up (fun _ => none) 0 (some eo))))))), (eo, .inr (3, [.int e0, .int e1, .int e2, .int e3, .int e4, .int e5, .int e6, .int e7, .int e8, .int e9]))]) (va_A [(x, .inr (0, [.int mc, .ref zz, .int 0])), (eo, .inr (3, [.int e0, .int e1, .int e2, .int e3, .int e4, .int e5, .int e6, .int e7, .int e8, .int e9]))] sz)) 1 10 (va_A [(x, .inr (0, [.int mc, .ref zz, .int 0])), (eo, .inr (3, [.int e0, .int e1, .int e2, .int e3, .int e4, .int e5, .int e6, .int e7, .int e8, .int e9]))] sz) := by
  refine Met.ofW (cc := cJx4a65c_add_72be8) (maxL := 4) (ret := none) (by decide) rfl ?_
  intro p e s m args below meth c s₁ B hml hv
  obtain ⟨rfl, hsz, hP, hK, hD0, hXS⟩ := hv
  have hx := B.exec
  have hb := B.bytes
  have hr := B.returns
  have hts := atoms_spec (ws := (CWS yJx4a65c_add_72be8 cJx4a65c_add_72be8 4 none)) B.pre
  have hown : s.vm.findClass RJx4a65c = some m.cls := findClass_of_methodNamed B.named
  have hlocks := B.notSynchronized
  have S : SF p m c cJx4a65c_add_72be8 4 s ([.ref x, .ref eo, .ref zz, .int 0]).toArray RJx4a65c := ⟨hx, hb, hml, hown, fun w h => hts w (List.mem_cons_of_mem _ h)⟩
  subst hsz
  have hD := hD0.self (sz := s.heap.size)
  generalize hAe : va_A [(x, .inr (0, [.int mc, .ref zz, .int 0])), (eo, .inr (3, [.int e0, .int e1, .int e2, .int e3, .int e4, .int e5, .int e6, .int e7, .int e8, .int e9]))] s.heap.size = A at hD hXS ⊢
  have hA : ∀ q : Nat, s.heap.size ≤ q → A q := fun q h => by rw [← hAe]; exact Or.inr h
  have hS : va_S A s.heap s.heap [] := va_S.rf
  have hP : va_P D vwCl [(x, .inr (0, [.int mc, .ref zz, .int 0])), (eo, .inr (3, [.int e0, .int e1, .int e2, .int e3, .int e4, .int e5, .int e6, .int e7, .int e8, .int e9]))] s.heap := hP
  have hD : va_D A [(x, .inr (0, [.int mc, .ref zz, .int 0])), (eo, .inr (3, [.int e0, .int e1, .int e2, .int e3, .int e4, .int e5, .int e6, .int e7, .int e8, .int e9]))] := hD
  have hl := lv_entry ([.ref x, .ref eo, .ref zz, .int 0]) (n := 4) (Nat.le_of_ble_eq_true rfl)
  rw [lg_entry_eq]
  generalize (lg_sl ([.ref x, .ref eo, .ref zz, .int 0]) ++ List.replicate (4 - (lg_sl ([.ref x, .ref eo, .ref zz, .int 0])).length) Slot.unset).toArray = ls at hl ⊢
  have hl : lv_has ls 4 [(0, .ref x), (1, .ref eo), (2, .ref zz), (3, .int 0)] := hl
  refine lv_iload_n hx hb dJx4a65c_add_72be8_0 rfl (lv_at hl 3 rfl) ?_
  refine lv_aload_n hx hb dJx4a65c_add_72be8_1 rfl (lv_at hl 2 rfl) ?_
  refine va_tlen hx hb hXS.2.2.1 hS (v := 0) rfl dJx4a65c_add_72be8_2 ?_
  refine lv_icmp_ne (tgt := 11) hx hb dJx4a65c_add_72be8_3 (by decide) (fun h => absurd h (by decide)) (fun _ => ?_)
  refine lv_aload_n hx hb dJx4a65c_add_72be8_6 rfl (lv_at hl 0 rfl) ?_
  have hFc := va_free (wc := [(x, .inr (0, [.int mc, .ref zz, .int 0]))]) hD hS hA [0] rfl
  refine va_callq (runV_x (As := []) (rest := []) S (q_l_grow0 l D cI cB cZ zz qq vv bt x mc s.heap.size) kV_RJx4a65c_129 hK hXS hS hFc hP hD [0] rfl rfl (by decide) 0 rfl rfl rfl ⟨Nat.le_of_ble_eq_true rfl, Nat.le_of_ble_eq_true rfl⟩ ⟨Nat.le_of_ble_eq_true rfl, Nat.le_of_ble_eq_true rfl⟩ rfl hl.1 rfl (Nat.le_of_ble_eq_true rfl) dJx4a65c_add_72be8_7) hS (fun q _ h => hFc q h) hFc (fun r_1 u_2 t H1 locs ht hvm h_3 hB hz1 hk1 hS => ?_)
  obtain ⟨hP1, hD1⟩ := hB
  rw [ht] at hP1
  obtain ⟨hP, hD⟩ := va_join (wr := [(eo, .inr (3, [.int e0, .int e1, .int e2, .int e3, .int e4, .int e5, .int e6, .int e7, .int e8, .int e9]))]) (w1 := [(x, .inr (0, [.int mc, .ref u_2, .int 0])), (u_2, .inl (D.1 99, 10, .inr (.inr (.inr (.inr (fun _ => none))))))]) hP hD [0] [1] rfl rfl (by decide) (by decide) hk1 hFc hP1 hD1
  generalize H1 = H at hP hS ⊢
  have hP : va_P D vwCl [(eo, .inr (3, [.int e0, .int e1, .int e2, .int e3, .int e4, .int e5, .int e6, .int e7, .int e8, .int e9])), (x, .inr (0, [.int mc, .ref u_2, .int 0])), (u_2, .inl (D.1 99, 10, .inr (.inr (.inr (.inr (fun _ => none))))))] H := hP
  have hD : va_D A [(eo, .inr (3, [.int e0, .int e1, .int e2, .int e3, .int e4, .int e5, .int e6, .int e7, .int e8, .int e9])), (x, .inr (0, [.int mc, .ref u_2, .int 0])), (u_2, .inl (D.1 99, 10, .inr (.inr (.inr (.inr (fun _ => none))))))] := hD
  subst h_3
  refine lv_astore_n (lv' := [(2, .ref u_2), (0, .ref x), (1, .ref eo), (3, .int 0)]) hx hb dJx4a65c_add_72be8_10 rfl hl (by decide) rfl (fun ls hl => ?_)
  refine lv_aload_n hx hb dJx4a65c_add_72be8_11 rfl (lv_at hl 0 rfl) ?_
  refine lv_iload_n hx hb dJx4a65c_add_72be8_12 rfl (lv_at hl 3 rfl) ?_
  refine lv_aload_n hx hb dJx4a65c_add_72be8_13 rfl (lv_at hl 2 rfl) ?_
  refine va_astqO hx hb hXS.2.2.2.2.2.2.2.2.1 hP hD hS 2 0 0 3 rfl rfl hXS.2.2.2.2.2.2.2.2.2.2.2.2.1.1 rfl rfl (by unfold vp_in; decide) dJx4a65c_add_72be8_14 (fun H locs hP hD hS => ?_)
  have hP : va_P D vwCl [(eo, .inr (3, [.int e0, .int e1, .int e2, .int e3, .int e4, .int e5, .int e6, .int e7, .int e8, .int e9])), (x, .inr (0, [.int mc, .ref u_2, .int 0])), (u_2, .inl (D.1 99, 10, .inr (.inr (.inr (.inr (va_up (fun _ => none) (0 : Int32).toNatClampNeg (some eo)))))))] H := hP
  have hD : va_D A [(eo, .inr (3, [.int e0, .int e1, .int e2, .int e3, .int e4, .int e5, .int e6, .int e7, .int e8, .int e9])), (x, .inr (0, [.int mc, .ref u_2, .int 0])), (u_2, .inl (D.1 99, 10, .inr (.inr (.inr (.inr (va_up (fun _ => none) (0 : Int32).toNatClampNeg (some eo)))))))] := hD
  rw [show (0 : Int32).toNatClampNeg = 0 by decide] at hP hD
  have hP : va_P D vwCl [(eo, .inr (3, [.int e0, .int e1, .int e2, .int e3, .int e4, .int e5, .int e6, .int e7, .int e8, .int e9])), (x, .inr (0, [.int mc, .ref u_2, .int 0])), (u_2, .inl (D.1 99, 10, .inr (.inr (.inr (.inr (va_up (fun _ => none) 0 (some eo)))))))] H := hP
  have hD : va_D A [(eo, .inr (3, [.int e0, .int e1, .int e2, .int e3, .int e4, .int e5, .int e6, .int e7, .int e8, .int e9])), (x, .inr (0, [.int mc, .ref u_2, .int 0])), (u_2, .inl (D.1 99, 10, .inr (.inr (.inr (.inr (va_up (fun _ => none) 0 (some eo)))))))] := hD
  refine lv_aload_n hx hb dJx4a65c_add_72be8_15 rfl (lv_at hl 1 rfl) ?_
  refine lv_iload_n hx hb dJx4a65c_add_72be8_16 rfl (lv_at hl 3 rfl) ?_
  refine lv_iconst (v := 1) hx hb dJx4a65c_add_72be8_17 (by decide) ?_
  refine lv_iadd hx hb dJx4a65c_add_72be8_18 ?_
  refine lv_topi (fun y_4 ey_4 => ?_)
  obtain rfl : y_4 = 1 := ey_4.trans (by decide)
  refine pf_RJx4a65c_48 S hK hP hD hS 1 rfl (v := .int 1) (Nat.le_of_ble_eq_true rfl) rfl rfl dJx4a65c_add_72be8_19 (fun H locs hP hD hS => ?_)
  have hP : va_P D vwCl [(eo, .inr (3, [.int e0, .int e1, .int e2, .int e3, .int e4, .int e5, .int e6, .int e7, .int e8, .int e9])), (x, .inr (0, [.int mc, .ref u_2, .int 1])), (u_2, .inl (D.1 99, 10, .inr (.inr (.inr (.inr (va_up (fun _ => none) 0 (some eo)))))))] H := hP
  have hD : va_D A [(eo, .inr (3, [.int e0, .int e1, .int e2, .int e3, .int e4, .int e5, .int e6, .int e7, .int e8, .int e9])), (x, .inr (0, [.int mc, .ref u_2, .int 1])), (u_2, .inl (D.1 99, 10, .inr (.inr (.inr (.inr (va_up (fun _ => none) 0 (some eo)))))))] := hD
  have hP9 := hP.sub (ws' := [(x, .inr (0, [.int mc, .ref u_2, .int 1])), (u_2, .inl (D.1 99, 10, .inr (.inr (.inr (.inr (va_up (fun _ => none) 0 (some eo))))))), (eo, .inr (3, [.int e0, .int e1, .int e2, .int e3, .int e4, .int e5, .int e6, .int e7, .int e8, .int e9]))]) [1, 2, 0] rfl
  have hD9 := hD.sub (ws' := [(x, .inr (0, [.int mc, .ref u_2, .int 1])), (u_2, .inl (D.1 99, 10, .inr (.inr (.inr (.inr (va_up (fun _ => none) 0 (some eo))))))), (eo, .inr (3, [.int e0, .int e1, .int e2, .int e3, .int e4, .int e5, .int e6, .int e7, .int e8, .int e9]))]) [1, 2, 0] (by decide) rfl
  exact W.vret hx hb hr (fun t ht hW => ⟨⟨u_2, rfl, trivial, by rw [ht]; exact hP9, hD9⟩, hS.F ht⟩) hS.2.2 dJx4a65c_add_72be8_22
