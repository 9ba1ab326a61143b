set_option maxRecDepth 100000 in
set_option maxHeartbeats 4000000 in
theorem q_c_Ways (l : Launch) (D : va_G) (cI cB cZ : ClassId) (x : Nat) (sz : Nat) : Met l yX10_init (CWS yX10_init cX10_init 1 none) (RM 1 6 2336) (PBw [.ref x] D cI cB cZ [(x, .inr (11, [.null, .null, .null, .null, .null, .null, .int 0]))] sz) (va_Qv (fun (_ : Nat → Nat) => True) (fun (u : Nat → Nat) (t : State) => va_P D vwCl [(x, .inr (11, [.ref (u 0), .ref (u 1), .ref (u 2), .ref (u 3), .ref (u 4), .ref (u 5), .int 0])), ((u 0), .inl (cI, 8, .inl (fun _ => 0))), ((u 1), .inl (cI, 8, .inl (fun _ => 0))), ((u 2), .inl (cI, 8, .inl (fun _ => 0))), ((u 3), .inl (cI, 8, .inl (fun _ => 0))), ((u 4), .inl (cI, 2048, .inl (fun _ => 0))), ((u 5), .inl (cI, 256, .inl (fun _ => 0)))] t.heap ∧ va_D (va_A [(x, .inr (11, [.null, .null, .null, .null, .null, .null, .int 0]))] sz) [(x, .inr (11, [.ref (u 0), .ref (u 1), .ref (u 2), .ref (u 3), .ref (u 4), .ref (u 5), .int 0])), ((u 0), .inl (cI, 8, .inl (fun _ => 0))), ((u 1), .inl (cI, 8, .inl (fun _ => 0))), ((u 2), .inl (cI, 8, .inl (fun _ => 0))), ((u 3), .inl (cI, 8, .inl (fun _ => 0))), ((u 4), .inl (cI, 2048, .inl (fun _ => 0))), ((u 5), .inl (cI, 256, .inl (fun _ => 0)))]) (va_A [(x, .inr (11, [.null, .null, .null, .null, .null, .null, .int 0]))] sz)) 6 2336 (va_A [(x, .inr (11, [.null, .null, .null, .null, .null, .null, .int 0]))] sz) := by
  refine Met.ofW (cc := cX10_init) (maxL := 1) (ret := none) (by decide) rfl ?_
  intro p e s m args below meth c s₁ B hml hv
  obtain ⟨rfl, hsz, hP, hK, hD0⟩ := hv
  have hx := B.exec
  have hb := B.bytes
  have hr := B.returns
  have hts := atoms_spec (ws := (CWS yX10_init cX10_init 1 none)) B.pre
  have hown : s.vm.findClass RX10 = some m.cls := findClass_of_methodNamed B.named
  have hlocks := B.notSynchronized
  have hin : meth.name = "<init>" := (name_of_methodNamed B.named B.method).1
  have S : SF p m c cX10_init 1 s ([.ref x]).toArray RX10 := ⟨hx, hb, hml, hown, fun w h => hts w (List.mem_cons_of_mem _ h)⟩
  subst hsz
  have hD := hD0.self (sz := s.heap.size)
  generalize hAe : va_A [(x, .inr (11, [.null, .null, .null, .null, .null, .null, .int 0]))] s.heap.size = A at hD ⊢
  have hA : ∀ q : Nat, s.heap.size ≤ q → A q := fun q h => by rw [← hAe]; exact Or.inr h
  have hS : va_S A s.heap s.heap [] := va_S.rf
  have hP : va_P D vwCl [(x, .inr (11, [.null, .null, .null, .null, .null, .null, .int 0]))] s.heap := hP
  have hD : va_D A [(x, .inr (11, [.null, .null, .null, .null, .null, .null, .int 0]))] := hD
  have hl := lv_entry ([.ref x]) (n := 1) (Nat.le_of_ble_eq_true rfl)
  rw [lg_entry_eq]
  generalize (lg_sl ([.ref x]) ++ List.replicate (1 - (lg_sl ([.ref x])).length) Slot.unset).toArray = ls at hl ⊢
  have hl : lv_has ls 1 [(0, .ref x)] := hl
  refine lv_aload_n hx hb dX10_init_0 rfl (lv_at hl 0 rfl) ?_
  refine W.objInit hx hb hown (S.2.2.2.2 _ (wk1_15 4 rfl rfl)) (S.2.2.2.2 _ (wk1_2 9 rfl rfl)) (S.2.2.2.2 _ (wk1_2 10 rfl rfl)) rfl (by rw [hml]; exact hl.1) rfl dX10_init_1 (Nat.le_of_ble_eq_true rfl) (Nat.le_of_ble_eq_true rfl) ?_
  refine W.eq (g2 := F0 m 4 ls []) rfl ?_
  refine lv_aload_n hx hb dX10_init_4 rfl (lv_at hl 0 rfl) ?_
  refine lv_bipush (v := 8) hx hb dX10_init_5 kbc_8 ?_
  refine newa_int S hK hP hD hS hA (N' := 8) (by decide) (by decide) (Nat.le_of_ble_eq_true rfl) (Nat.le_of_ble_eq_true rfl) (Nat.le_of_ble_eq_true rfl) dX10_init_7 (fun q7 H hP hD hS => ?_)
  have hP : va_P D vwCl [(x, .inr (11, [.null, .null, .null, .null, .null, .null, .int 0])), (q7, .inl (cI, 8, .inl (fun _ => 0)))] H := hP
  have hD : va_D A [(x, .inr (11, [.null, .null, .null, .null, .null, .null, .int 0])), (q7, .inl (cI, 8, .inl (fun _ => 0)))] := hD
  refine pf_RX10_9 S hin hK hP hD hS 0 rfl (v := .ref q7) (Nat.le_of_ble_eq_true rfl) rfl rfl dX10_init_9 (fun H locs hP hD hS => ?_)
  have hP : va_P D vwCl [(x, .inr (11, [.ref q7, .null, .null, .null, .null, .null, .int 0])), (q7, .inl (cI, 8, .inl (fun _ => 0)))] H := hP
  have hD : va_D A [(x, .inr (11, [.ref q7, .null, .null, .null, .null, .null, .int 0])), (q7, .inl (cI, 8, .inl (fun _ => 0)))] := hD
  refine lv_aload_n hx hb dX10_init_12 rfl (lv_at hl 0 rfl) ?_
  refine lv_bipush (v := 8) hx hb dX10_init_13 kbc_8 ?_
  refine newa_int S hK hP hD hS hA (N' := 8) (by decide) (by decide) (Nat.le_of_ble_eq_true rfl) (Nat.le_of_ble_eq_true rfl) (Nat.le_of_ble_eq_true rfl) dX10_init_15 (fun q15 H hP hD hS => ?_)
  have hP : va_P D vwCl [(x, .inr (11, [.ref q7, .null, .null, .null, .null, .null, .int 0])), (q7, .inl (cI, 8, .inl (fun _ => 0))), (q15, .inl (cI, 8, .inl (fun _ => 0)))] H := hP
  have hD : va_D A [(x, .inr (11, [.ref q7, .null, .null, .null, .null, .null, .int 0])), (q7, .inl (cI, 8, .inl (fun _ => 0))), (q15, .inl (cI, 8, .inl (fun _ => 0)))] := hD
  refine pf_RX10_15 S hin hK hP hD hS 0 rfl (v := .ref q15) (Nat.le_of_ble_eq_true rfl) rfl rfl dX10_init_17 (fun H locs hP hD hS => ?_)
  have hP : va_P D vwCl [(x, .inr (11, [.ref q7, .ref q15, .null, .null, .null, .null, .int 0])), (q7, .inl (cI, 8, .inl (fun _ => 0))), (q15, .inl (cI, 8, .inl (fun _ => 0)))] H := hP
  have hD : va_D A [(x, .inr (11, [.ref q7, .ref q15, .null, .null, .null, .null, .int 0])), (q7, .inl (cI, 8, .inl (fun _ => 0))), (q15, .inl (cI, 8, .inl (fun _ => 0)))] := hD
  refine lv_aload_n hx hb dX10_init_20 rfl (lv_at hl 0 rfl) ?_
  refine lv_bipush (v := 8) hx hb dX10_init_21 kbc_8 ?_
  refine newa_int S hK hP hD hS hA (N' := 8) (by decide) (by decide) (Nat.le_of_ble_eq_true rfl) (Nat.le_of_ble_eq_true rfl) (Nat.le_of_ble_eq_true rfl) dX10_init_23 (fun q23 H hP hD hS => ?_)
  have hP : va_P D vwCl [(x, .inr (11, [.ref q7, .ref q15, .null, .null, .null, .null, .int 0])), (q7, .inl (cI, 8, .inl (fun _ => 0))), (q15, .inl (cI, 8, .inl (fun _ => 0))), (q23, .inl (cI, 8, .inl (fun _ => 0)))] H := hP
  have hD : va_D A [(x, .inr (11, [.ref q7, .ref q15, .null, .null, .null, .null, .int 0])), (q7, .inl (cI, 8, .inl (fun _ => 0))), (q15, .inl (cI, 8, .inl (fun _ => 0))), (q23, .inl (cI, 8, .inl (fun _ => 0)))] := hD
  refine pf_RX10_18 S hin hK hP hD hS 0 rfl (v := .ref q23) (Nat.le_of_ble_eq_true rfl) rfl rfl dX10_init_25 (fun H locs hP hD hS => ?_)
  have hP : va_P D vwCl [(x, .inr (11, [.ref q7, .ref q15, .ref q23, .null, .null, .null, .int 0])), (q7, .inl (cI, 8, .inl (fun _ => 0))), (q15, .inl (cI, 8, .inl (fun _ => 0))), (q23, .inl (cI, 8, .inl (fun _ => 0)))] H := hP
  have hD : va_D A [(x, .inr (11, [.ref q7, .ref q15, .ref q23, .null, .null, .null, .int 0])), (q7, .inl (cI, 8, .inl (fun _ => 0))), (q15, .inl (cI, 8, .inl (fun _ => 0))), (q23, .inl (cI, 8, .inl (fun _ => 0)))] := hD
  refine lv_aload_n hx hb dX10_init_28 rfl (lv_at hl 0 rfl) ?_
  refine lv_bipush (v := 8) hx hb dX10_init_29 kbc_8 ?_
  refine newa_int S hK hP hD hS hA (N' := 8) (by decide) (by decide) (Nat.le_of_ble_eq_true rfl) (Nat.le_of_ble_eq_true rfl) (Nat.le_of_ble_eq_true rfl) dX10_init_31 (fun q31 H hP hD hS => ?_)
  have hP : va_P D vwCl [(x, .inr (11, [.ref q7, .ref q15, .ref q23, .null, .null, .null, .int 0])), (q7, .inl (cI, 8, .inl (fun _ => 0))), (q15, .inl (cI, 8, .inl (fun _ => 0))), (q23, .inl (cI, 8, .inl (fun _ => 0))), (q31, .inl (cI, 8, .inl (fun _ => 0)))] H := hP
  have hD : va_D A [(x, .inr (11, [.ref q7, .ref q15, .ref q23, .null, .null, .null, .int 0])), (q7, .inl (cI, 8, .inl (fun _ => 0))), (q15, .inl (cI, 8, .inl (fun _ => 0))), (q23, .inl (cI, 8, .inl (fun _ => 0))), (q31, .inl (cI, 8, .inl (fun _ => 0)))] := hD
  refine pf_RX10_21 S hin hK hP hD hS 0 rfl (v := .ref q31) (Nat.le_of_ble_eq_true rfl) rfl rfl dX10_init_33 (fun H locs hP hD hS => ?_)
  have hP : va_P D vwCl [(x, .inr (11, [.ref q7, .ref q15, .ref q23, .ref q31, .null, .null, .int 0])), (q7, .inl (cI, 8, .inl (fun _ => 0))), (q15, .inl (cI, 8, .inl (fun _ => 0))), (q23, .inl (cI, 8, .inl (fun _ => 0))), (q31, .inl (cI, 8, .inl (fun _ => 0)))] H := hP
  have hD : va_D A [(x, .inr (11, [.ref q7, .ref q15, .ref q23, .ref q31, .null, .null, .int 0])), (q7, .inl (cI, 8, .inl (fun _ => 0))), (q15, .inl (cI, 8, .inl (fun _ => 0))), (q23, .inl (cI, 8, .inl (fun _ => 0))), (q31, .inl (cI, 8, .inl (fun _ => 0)))] := hD
  refine lv_aload_n hx hb dX10_init_36 rfl (lv_at hl 0 rfl) ?_
  refine lv_sipush (v := 2048) hx hb dX10_init_37 (by decide) ?_
  refine newa_int S hK hP hD hS hA (N' := 2048) (by decide) (by decide) (Nat.le_of_ble_eq_true rfl) (Nat.le_of_ble_eq_true rfl) (Nat.le_of_ble_eq_true rfl) dX10_init_40 (fun q40 H hP hD hS => ?_)
  have hP : va_P D vwCl [(x, .inr (11, [.ref q7, .ref q15, .ref q23, .ref q31, .null, .null, .int 0])), (q7, .inl (cI, 8, .inl (fun _ => 0))), (q15, .inl (cI, 8, .inl (fun _ => 0))), (q23, .inl (cI, 8, .inl (fun _ => 0))), (q31, .inl (cI, 8, .inl (fun _ => 0))), (q40, .inl (cI, 2048, .inl (fun _ => 0)))] H := hP
  have hD : va_D A [(x, .inr (11, [.ref q7, .ref q15, .ref q23, .ref q31, .null, .null, .int 0])), (q7, .inl (cI, 8, .inl (fun _ => 0))), (q15, .inl (cI, 8, .inl (fun _ => 0))), (q23, .inl (cI, 8, .inl (fun _ => 0))), (q31, .inl (cI, 8, .inl (fun _ => 0))), (q40, .inl (cI, 2048, .inl (fun _ => 0)))] := hD
  refine pf_RX10_24 S hin hK hP hD hS 0 rfl (v := .ref q40) (Nat.le_of_ble_eq_true rfl) rfl rfl dX10_init_42 (fun H locs hP hD hS => ?_)
  have hP : va_P D vwCl [(x, .inr (11, [.ref q7, .ref q15, .ref q23, .ref q31, .ref q40, .null, .int 0])), (q7, .inl (cI, 8, .inl (fun _ => 0))), (q15, .inl (cI, 8, .inl (fun _ => 0))), (q23, .inl (cI, 8, .inl (fun _ => 0))), (q31, .inl (cI, 8, .inl (fun _ => 0))), (q40, .inl (cI, 2048, .inl (fun _ => 0)))] H := hP
  have hD : va_D A [(x, .inr (11, [.ref q7, .ref q15, .ref q23, .ref q31, .ref q40, .null, .int 0])), (q7, .inl (cI, 8, .inl (fun _ => 0))), (q15, .inl (cI, 8, .inl (fun _ => 0))), (q23, .inl (cI, 8, .inl (fun _ => 0))), (q31, .inl (cI, 8, .inl (fun _ => 0))), (q40, .inl (cI, 2048, .inl (fun _ => 0)))] := hD
  refine lv_aload_n hx hb dX10_init_45 rfl (lv_at hl 0 rfl) ?_
  refine lv_sipush (v := 256) hx hb dX10_init_46 (by decide) ?_
  refine newa_int S hK hP hD hS hA (N' := 256) (by decide) (by decide) (Nat.le_of_ble_eq_true rfl) (Nat.le_of_ble_eq_true rfl) (Nat.le_of_ble_eq_true rfl) dX10_init_49 (fun q49 H hP hD hS => ?_)
  have hP : va_P D vwCl [(x, .inr (11, [.ref q7, .ref q15, .ref q23, .ref q31, .ref q40, .null, .int 0])), (q7, .inl (cI, 8, .inl (fun _ => 0))), (q15, .inl (cI, 8, .inl (fun _ => 0))), (q23, .inl (cI, 8, .inl (fun _ => 0))), (q31, .inl (cI, 8, .inl (fun _ => 0))), (q40, .inl (cI, 2048, .inl (fun _ => 0))), (q49, .inl (cI, 256, .inl (fun _ => 0)))] H := hP
  have hD : va_D A [(x, .inr (11, [.ref q7, .ref q15, .ref q23, .ref q31, .ref q40, .null, .int 0])), (q7, .inl (cI, 8, .inl (fun _ => 0))), (q15, .inl (cI, 8, .inl (fun _ => 0))), (q23, .inl (cI, 8, .inl (fun _ => 0))), (q31, .inl (cI, 8, .inl (fun _ => 0))), (q40, .inl (cI, 2048, .inl (fun _ => 0))), (q49, .inl (cI, 256, .inl (fun _ => 0)))] := hD
  refine pf_RX10_27 S hin hK hP hD hS 0 rfl (v := .ref q49) (Nat.le_of_ble_eq_true rfl) rfl rfl dX10_init_51 (fun H locs hP hD hS => ?_)
  have hP : va_P D vwCl [(x, .inr (11, [.ref q7, .ref q15, .ref q23, .ref q31, .ref q40, .ref q49, .int 0])), (q7, .inl (cI, 8, .inl (fun _ => 0))), (q15, .inl (cI, 8, .inl (fun _ => 0))), (q23, .inl (cI, 8, .inl (fun _ => 0))), (q31, .inl (cI, 8, .inl (fun _ => 0))), (q40, .inl (cI, 2048, .inl (fun _ => 0))), (q49, .inl (cI, 256, .inl (fun _ => 0)))] H := hP
  have hD : va_D A [(x, .inr (11, [.ref q7, .ref q15, .ref q23, .ref q31, .ref q40, .ref q49, .int 0])), (q7, .inl (cI, 8, .inl (fun _ => 0))), (q15, .inl (cI, 8, .inl (fun _ => 0))), (q23, .inl (cI, 8, .inl (fun _ => 0))), (q31, .inl (cI, 8, .inl (fun _ => 0))), (q40, .inl (cI, 2048, .inl (fun _ => 0))), (q49, .inl (cI, 256, .inl (fun _ => 0)))] := hD
  have hP9 := hP.sub (ws' := [(x, .inr (11, [.ref q7, .ref q15, .ref q23, .ref q31, .ref q40, .ref q49, .int 0])), (q7, .inl (cI, 8, .inl (fun _ => 0))), (q15, .inl (cI, 8, .inl (fun _ => 0))), (q23, .inl (cI, 8, .inl (fun _ => 0))), (q31, .inl (cI, 8, .inl (fun _ => 0))), (q40, .inl (cI, 2048, .inl (fun _ => 0))), (q49, .inl (cI, 256, .inl (fun _ => 0)))]) [0, 1, 2, 3, 4, 5, 6] rfl
  have hD9 := hD.sub (ws' := [(x, .inr (11, [.ref q7, .ref q15, .ref q23, .ref q31, .ref q40, .ref q49, .int 0])), (q7, .inl (cI, 8, .inl (fun _ => 0))), (q15, .inl (cI, 8, .inl (fun _ => 0))), (q23, .inl (cI, 8, .inl (fun _ => 0))), (q31, .inl (cI, 8, .inl (fun _ => 0))), (q40, .inl (cI, 2048, .inl (fun _ => 0))), (q49, .inl (cI, 256, .inl (fun _ => 0)))]) [0, 1, 2, 3, 4, 5, 6] (by decide) rfl
  exact W.vret hx hb hr (fun t ht hW => ⟨⟨(fun k => ([q7, q15, q23, q31, q40, q49] : List Nat).getD k 0), rfl, trivial, by rw [ht]; exact hP9, hD9⟩, hS.F ht⟩) hS.2.2 dX10_init_54
