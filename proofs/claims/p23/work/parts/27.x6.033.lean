set_option maxRecDepth 100000 in
set_option maxHeartbeats 4000000 in
theorem q_l_Text0 (l : Launch) (D : va_G) (cI cB cZ : ClassId) (x : Nat) (sz : Nat) : Met l yX9_init (CWS yX9_init cX9_init 2 none) (RM 1 5 68) (PBw [.ref x, .int 0] D cI cB cZ [(x, .inr (10, [.null, .null, .null, .null, .null, .int 0, .int 0, .int 0, .int 0]))] sz) (va_Qv (fun (_ : Nat → Nat) => True) (fun (u : Nat → Nat) (t : State) => va_P D vwCl [(x, .inr (10, [.ref (u 0), .ref (u 1), .ref (u 2), .ref (u 3), .ref (u 4), .int 0, .int 0, .int 0, .int 0])), ((u 0), .inl (cI, 0, .inl (fun _ => 0))), ((u 1), .inl (cI, 12, .inl (fun _ => 0))), ((u 2), .inl (cI, 12, .inl (fun _ => 0))), ((u 3), .inl (cI, 12, .inl (fun _ => 0))), ((u 4), .inl (cI, 32, .inl (fun _ => 0)))] t.heap ∧ va_D (va_A [(x, .inr (10, [.null, .null, .null, .null, .null, .int 0, .int 0, .int 0, .int 0]))] sz) [(x, .inr (10, [.ref (u 0), .ref (u 1), .ref (u 2), .ref (u 3), .ref (u 4), .int 0, .int 0, .int 0, .int 0])), ((u 0), .inl (cI, 0, .inl (fun _ => 0))), ((u 1), .inl (cI, 12, .inl (fun _ => 0))), ((u 2), .inl (cI, 12, .inl (fun _ => 0))), ((u 3), .inl (cI, 12, .inl (fun _ => 0))), ((u 4), .inl (cI, 32, .inl (fun _ => 0)))]) (va_A [(x, .inr (10, [.null, .null, .null, .null, .null, .int 0, .int 0, .int 0, .int 0]))] sz)) 5 68 (va_A [(x, .inr (10, [.null, .null, .null, .null, .null, .int 0, .int 0, .int 0, .int 0]))] sz) := by
  refine Met.ofW (cc := cX9_init) (maxL := 2) (ret := none) (by decide) rfl ?_
  intro p e s m args below meth c s₁ B hml hv
  obtain ⟨rfl, hsz, hP, hK, hD0⟩ := hv
  have hx := B.exec
  have hb := B.bytes
  have hr := B.returns
  have hts := atoms_spec (ws := (CWS yX9_init cX9_init 2 none)) B.pre
  have hown : s.vm.findClass RX9 = some m.cls := findClass_of_methodNamed B.named
  have hlocks := B.notSynchronized
  have hin : meth.name = "<init>" := (name_of_methodNamed B.named B.method).1
  have S : SF p m c cX9_init 2 s ([.ref x, .int 0]).toArray RX9 := ⟨hx, hb, hml, hown, fun w h => hts w (List.mem_cons_of_mem _ h)⟩
  subst hsz
  have hD := hD0.self (sz := s.heap.size)
  generalize hAe : va_A [(x, .inr (10, [.null, .null, .null, .null, .null, .int 0, .int 0, .int 0, .int 0]))] s.heap.size = A at hD ⊢
  have hA : ∀ q : Nat, s.heap.size ≤ q → A q := fun q h => by rw [← hAe]; exact Or.inr h
  have hS : va_S A s.heap s.heap [] := va_S.rf
  have hP : va_P D vwCl [(x, .inr (10, [.null, .null, .null, .null, .null, .int 0, .int 0, .int 0, .int 0]))] s.heap := hP
  have hD : va_D A [(x, .inr (10, [.null, .null, .null, .null, .null, .int 0, .int 0, .int 0, .int 0]))] := hD
  have hl := lv_entry ([.ref x, .int 0]) (n := 2) (Nat.le_of_ble_eq_true rfl)
  rw [lg_entry_eq]
  generalize (lg_sl ([.ref x, .int 0]) ++ List.replicate (2 - (lg_sl ([.ref x, .int 0])).length) Slot.unset).toArray = ls at hl ⊢
  have hl : lv_has ls 2 [(0, .ref x), (1, .int 0)] := hl
  refine lv_aload_n hx hb dX9_init_0 rfl (lv_at hl 0 rfl) ?_
  refine W.objInit hx hb hown (S.2.2.2.2 _ (wT_t1 40 rfl rfl)) (S.2.2.2.2 _ (wT_t1 33 rfl rfl)) (S.2.2.2.2 _ (wT_t1 34 rfl rfl)) rfl (by rw [hml]; exact hl.1) rfl dX9_init_1 (Nat.le_of_ble_eq_true rfl) (Nat.le_of_ble_eq_true rfl) ?_
  refine W.eq (g2 := F0 m 4 ls []) rfl ?_
  refine lv_aload_n hx hb dX9_init_4 rfl (lv_at hl 0 rfl) ?_
  refine lv_iload_n hx hb dX9_init_5 rfl (lv_at hl 1 rfl) ?_
  refine lv_iconst (v := 0) hx hb dX9_init_6 (by decide) ?_
  refine va_mmax hx hb (by rw [hml]; exact hl.1.symm) hown (S.2.2.2.2 _ (wT_t1 41 rfl rfl)) (S.2.2.2.2 _ (wT_t1 42 rfl rfl)) (S.2.2.2.2 _ (wT_t1 3 rfl rfl)) (S.2.2.2.2 _ (wT_t1 43 rfl rfl)) (Nat.le_of_ble_eq_true rfl) (Nat.le_of_ble_eq_true rfl) (Nat.le_of_ble_eq_true rfl) (Nat.le_of_ble_eq_true rfl) dX9_init_7 ?_
  refine lv_topi (fun y_1 ey_1 => ?_)
  obtain rfl : y_1 = 0 := ey_1.trans (by decide)
  refine newa_int S hK hP hD hS hA (N' := 0) (by decide) (by decide) (Nat.le_of_ble_eq_true rfl) (Nat.le_of_ble_eq_true rfl) (Nat.le_of_ble_eq_true rfl) dX9_init_10 (fun q10 H hP hD hS => ?_)
  have hP : va_P D vwCl [(x, .inr (10, [.null, .null, .null, .null, .null, .int 0, .int 0, .int 0, .int 0])), (q10, .inl (cI, 0, .inl (fun _ => 0)))] H := hP
  have hD : va_D A [(x, .inr (10, [.null, .null, .null, .null, .null, .int 0, .int 0, .int 0, .int 0])), (q10, .inl (cI, 0, .inl (fun _ => 0)))] := hD
  refine pf_RX9_17 S hin hK hP hD hS 0 rfl (v := .ref q10) (Nat.le_of_ble_eq_true rfl) rfl rfl dX9_init_12 (fun H locs hP hD hS => ?_)
  have hP : va_P D vwCl [(x, .inr (10, [.ref q10, .null, .null, .null, .null, .int 0, .int 0, .int 0, .int 0])), (q10, .inl (cI, 0, .inl (fun _ => 0)))] H := hP
  have hD : va_D A [(x, .inr (10, [.ref q10, .null, .null, .null, .null, .int 0, .int 0, .int 0, .int 0])), (q10, .inl (cI, 0, .inl (fun _ => 0)))] := hD
  refine lv_aload_n hx hb dX9_init_15 rfl (lv_at hl 0 rfl) ?_
  refine lv_bipush (v := 12) hx hb dX9_init_16 (by decide) ?_
  refine newa_int S hK hP hD hS hA (N' := 12) (by decide) (by decide) (Nat.le_of_ble_eq_true rfl) (Nat.le_of_ble_eq_true rfl) (Nat.le_of_ble_eq_true rfl) dX9_init_18 (fun q18 H hP hD hS => ?_)
  have hP : va_P D vwCl [(x, .inr (10, [.ref q10, .null, .null, .null, .null, .int 0, .int 0, .int 0, .int 0])), (q10, .inl (cI, 0, .inl (fun _ => 0))), (q18, .inl (cI, 12, .inl (fun _ => 0)))] H := hP
  have hD : va_D A [(x, .inr (10, [.ref q10, .null, .null, .null, .null, .int 0, .int 0, .int 0, .int 0])), (q10, .inl (cI, 0, .inl (fun _ => 0))), (q18, .inl (cI, 12, .inl (fun _ => 0)))] := hD
  refine pf_RX9_21 S hin hK hP hD hS 0 rfl (v := .ref q18) (Nat.le_of_ble_eq_true rfl) rfl rfl dX9_init_20 (fun H locs hP hD hS => ?_)
  have hP : va_P D vwCl [(x, .inr (10, [.ref q10, .ref q18, .null, .null, .null, .int 0, .int 0, .int 0, .int 0])), (q10, .inl (cI, 0, .inl (fun _ => 0))), (q18, .inl (cI, 12, .inl (fun _ => 0)))] H := hP
  have hD : va_D A [(x, .inr (10, [.ref q10, .ref q18, .null, .null, .null, .int 0, .int 0, .int 0, .int 0])), (q10, .inl (cI, 0, .inl (fun _ => 0))), (q18, .inl (cI, 12, .inl (fun _ => 0)))] := hD
  refine lv_aload_n hx hb dX9_init_23 rfl (lv_at hl 0 rfl) ?_
  refine lv_bipush (v := 12) hx hb dX9_init_24 (by decide) ?_
  refine newa_int S hK hP hD hS hA (N' := 12) (by decide) (by decide) (Nat.le_of_ble_eq_true rfl) (Nat.le_of_ble_eq_true rfl) (Nat.le_of_ble_eq_true rfl) dX9_init_26 (fun q26 H hP hD hS => ?_)
  have hP : va_P D vwCl [(x, .inr (10, [.ref q10, .ref q18, .null, .null, .null, .int 0, .int 0, .int 0, .int 0])), (q10, .inl (cI, 0, .inl (fun _ => 0))), (q18, .inl (cI, 12, .inl (fun _ => 0))), (q26, .inl (cI, 12, .inl (fun _ => 0)))] H := hP
  have hD : va_D A [(x, .inr (10, [.ref q10, .ref q18, .null, .null, .null, .int 0, .int 0, .int 0, .int 0])), (q10, .inl (cI, 0, .inl (fun _ => 0))), (q18, .inl (cI, 12, .inl (fun _ => 0))), (q26, .inl (cI, 12, .inl (fun _ => 0)))] := hD
  refine pf_RX9_24 S hin hK hP hD hS 0 rfl (v := .ref q26) (Nat.le_of_ble_eq_true rfl) rfl rfl dX9_init_28 (fun H locs hP hD hS => ?_)
  have hP : va_P D vwCl [(x, .inr (10, [.ref q10, .ref q18, .ref q26, .null, .null, .int 0, .int 0, .int 0, .int 0])), (q10, .inl (cI, 0, .inl (fun _ => 0))), (q18, .inl (cI, 12, .inl (fun _ => 0))), (q26, .inl (cI, 12, .inl (fun _ => 0)))] H := hP
  have hD : va_D A [(x, .inr (10, [.ref q10, .ref q18, .ref q26, .null, .null, .int 0, .int 0, .int 0, .int 0])), (q10, .inl (cI, 0, .inl (fun _ => 0))), (q18, .inl (cI, 12, .inl (fun _ => 0))), (q26, .inl (cI, 12, .inl (fun _ => 0)))] := hD
  refine lv_aload_n hx hb dX9_init_31 rfl (lv_at hl 0 rfl) ?_
  refine lv_bipush (v := 12) hx hb dX9_init_32 (by decide) ?_
  refine newa_int S hK hP hD hS hA (N' := 12) (by decide) (by decide) (Nat.le_of_ble_eq_true rfl) (Nat.le_of_ble_eq_true rfl) (Nat.le_of_ble_eq_true rfl) dX9_init_34 (fun q34 H hP hD hS => ?_)
  have hP : va_P D vwCl [(x, .inr (10, [.ref q10, .ref q18, .ref q26, .null, .null, .int 0, .int 0, .int 0, .int 0])), (q10, .inl (cI, 0, .inl (fun _ => 0))), (q18, .inl (cI, 12, .inl (fun _ => 0))), (q26, .inl (cI, 12, .inl (fun _ => 0))), (q34, .inl (cI, 12, .inl (fun _ => 0)))] H := hP
  have hD : va_D A [(x, .inr (10, [.ref q10, .ref q18, .ref q26, .null, .null, .int 0, .int 0, .int 0, .int 0])), (q10, .inl (cI, 0, .inl (fun _ => 0))), (q18, .inl (cI, 12, .inl (fun _ => 0))), (q26, .inl (cI, 12, .inl (fun _ => 0))), (q34, .inl (cI, 12, .inl (fun _ => 0)))] := hD
  refine pf_RX9_27 S hin hK hP hD hS 0 rfl (v := .ref q34) (Nat.le_of_ble_eq_true rfl) rfl rfl dX9_init_36 (fun H locs hP hD hS => ?_)
  have hP : va_P D vwCl [(x, .inr (10, [.ref q10, .ref q18, .ref q26, .ref q34, .null, .int 0, .int 0, .int 0, .int 0])), (q10, .inl (cI, 0, .inl (fun _ => 0))), (q18, .inl (cI, 12, .inl (fun _ => 0))), (q26, .inl (cI, 12, .inl (fun _ => 0))), (q34, .inl (cI, 12, .inl (fun _ => 0)))] H := hP
  have hD : va_D A [(x, .inr (10, [.ref q10, .ref q18, .ref q26, .ref q34, .null, .int 0, .int 0, .int 0, .int 0])), (q10, .inl (cI, 0, .inl (fun _ => 0))), (q18, .inl (cI, 12, .inl (fun _ => 0))), (q26, .inl (cI, 12, .inl (fun _ => 0))), (q34, .inl (cI, 12, .inl (fun _ => 0)))] := hD
  refine lv_aload_n hx hb dX9_init_39 rfl (lv_at hl 0 rfl) ?_
  refine lv_bipush (v := 32) hx hb dX9_init_40 (by decide) ?_
  refine newa_int S hK hP hD hS hA (N' := 32) (by decide) (by decide) (Nat.le_of_ble_eq_true rfl) (Nat.le_of_ble_eq_true rfl) (Nat.le_of_ble_eq_true rfl) dX9_init_42 (fun q42 H hP hD hS => ?_)
  have hP : va_P D vwCl [(x, .inr (10, [.ref q10, .ref q18, .ref q26, .ref q34, .null, .int 0, .int 0, .int 0, .int 0])), (q10, .inl (cI, 0, .inl (fun _ => 0))), (q18, .inl (cI, 12, .inl (fun _ => 0))), (q26, .inl (cI, 12, .inl (fun _ => 0))), (q34, .inl (cI, 12, .inl (fun _ => 0))), (q42, .inl (cI, 32, .inl (fun _ => 0)))] H := hP
  have hD : va_D A [(x, .inr (10, [.ref q10, .ref q18, .ref q26, .ref q34, .null, .int 0, .int 0, .int 0, .int 0])), (q10, .inl (cI, 0, .inl (fun _ => 0))), (q18, .inl (cI, 12, .inl (fun _ => 0))), (q26, .inl (cI, 12, .inl (fun _ => 0))), (q34, .inl (cI, 12, .inl (fun _ => 0))), (q42, .inl (cI, 32, .inl (fun _ => 0)))] := hD
  refine pf_RX9_30 S hin hK hP hD hS 0 rfl (v := .ref q42) (Nat.le_of_ble_eq_true rfl) rfl rfl dX9_init_44 (fun H locs hP hD hS => ?_)
  have hP : va_P D vwCl [(x, .inr (10, [.ref q10, .ref q18, .ref q26, .ref q34, .ref q42, .int 0, .int 0, .int 0, .int 0])), (q10, .inl (cI, 0, .inl (fun _ => 0))), (q18, .inl (cI, 12, .inl (fun _ => 0))), (q26, .inl (cI, 12, .inl (fun _ => 0))), (q34, .inl (cI, 12, .inl (fun _ => 0))), (q42, .inl (cI, 32, .inl (fun _ => 0)))] H := hP
  have hD : va_D A [(x, .inr (10, [.ref q10, .ref q18, .ref q26, .ref q34, .ref q42, .int 0, .int 0, .int 0, .int 0])), (q10, .inl (cI, 0, .inl (fun _ => 0))), (q18, .inl (cI, 12, .inl (fun _ => 0))), (q26, .inl (cI, 12, .inl (fun _ => 0))), (q34, .inl (cI, 12, .inl (fun _ => 0))), (q42, .inl (cI, 32, .inl (fun _ => 0)))] := hD
  have hP9 := hP.sub (ws' := [(x, .inr (10, [.ref q10, .ref q18, .ref q26, .ref q34, .ref q42, .int 0, .int 0, .int 0, .int 0])), (q10, .inl (cI, 0, .inl (fun _ => 0))), (q18, .inl (cI, 12, .inl (fun _ => 0))), (q26, .inl (cI, 12, .inl (fun _ => 0))), (q34, .inl (cI, 12, .inl (fun _ => 0))), (q42, .inl (cI, 32, .inl (fun _ => 0)))]) [0, 1, 2, 3, 4, 5] rfl
  have hD9 := hD.sub (ws' := [(x, .inr (10, [.ref q10, .ref q18, .ref q26, .ref q34, .ref q42, .int 0, .int 0, .int 0, .int 0])), (q10, .inl (cI, 0, .inl (fun _ => 0))), (q18, .inl (cI, 12, .inl (fun _ => 0))), (q26, .inl (cI, 12, .inl (fun _ => 0))), (q34, .inl (cI, 12, .inl (fun _ => 0))), (q42, .inl (cI, 32, .inl (fun _ => 0)))]) [0, 1, 2, 3, 4, 5] (by decide) rfl
  exact W.vret hx hb hr (fun t ht hW => ⟨⟨(fun k => ([q10, q18, q26, q34, q42] : List Nat).getD k 0), rfl, trivial, by rw [ht]; exact hP9, hD9⟩, hS.F ht⟩) hS.2.2 dX9_init_47
