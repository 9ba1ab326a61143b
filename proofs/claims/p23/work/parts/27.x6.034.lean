set_option maxRecDepth 100000 in
set_option maxHeartbeats 4000000 in
theorem q_l_Kitchen (l : Launch) (D : va_G) (cI cB cZ : ClassId) (x : Nat) (v0 v1 v2 v3 : Int32) (sz : Nat) : Met l yX1_init (CWS yX1_init cX1_init 5 none) (RM 2 6 77) (PBw [.ref x, .int v0, .int v1, .int v2, .int v3] D cI cB cZ [(x, .inr (2, [.int 0, .int 0, .int 0, .int 0, .int 0, .int 0, .int 0, .int 0, .int 0, .int 0, .null]))] sz) (va_Qv (fun (_ : Nat → Nat) => True) (fun (u : Nat → Nat) (t : State) => va_P D vwCl [(x, .inr (2, [.int v0, .int v1, .int v2, .int v3, .int 0, .int 0, .int 0, .int 0, .int 0, .int 0, .ref (u 5)])), ((u 5), .inr (10, [.ref (u 0), .ref (u 1), .ref (u 2), .ref (u 3), .ref (u 4), .int 0, .int 0, .int 0, .int 0])), ((u 0), .inl (cI, 0, .inl (fun _ => 0))), ((u 1), .inl (cI, 12, .inl (fun _ => 0))), ((u 2), .inl (cI, 12, .inl (fun _ => 0))), ((u 3), .inl (cI, 12, .inl (fun _ => 0))), ((u 4), .inl (cI, 32, .inl (fun _ => 0)))] t.heap ∧ va_D (va_A [(x, .inr (2, [.int 0, .int 0, .int 0, .int 0, .int 0, .int 0, .int 0, .int 0, .int 0, .int 0, .null]))] sz) [(x, .inr (2, [.int v0, .int v1, .int v2, .int v3, .int 0, .int 0, .int 0, .int 0, .int 0, .int 0, .ref (u 5)])), ((u 5), .inr (10, [.ref (u 0), .ref (u 1), .ref (u 2), .ref (u 3), .ref (u 4), .int 0, .int 0, .int 0, .int 0])), ((u 0), .inl (cI, 0, .inl (fun _ => 0))), ((u 1), .inl (cI, 12, .inl (fun _ => 0))), ((u 2), .inl (cI, 12, .inl (fun _ => 0))), ((u 3), .inl (cI, 12, .inl (fun _ => 0))), ((u 4), .inl (cI, 32, .inl (fun _ => 0)))]) (va_A [(x, .inr (2, [.int 0, .int 0, .int 0, .int 0, .int 0, .int 0, .int 0, .int 0, .int 0, .int 0, .null]))] sz)) 6 77 (va_A [(x, .inr (2, [.int 0, .int 0, .int 0, .int 0, .int 0, .int 0, .int 0, .int 0, .int 0, .int 0, .null]))] sz) := by
  refine Met.ofW (cc := cX1_init) (maxL := 5) (ret := none) (by decide) rfl ?_
  intro p e s m args below meth c s₁ B hml hv
  obtain ⟨rfl, hsz, hP, hK, hD0⟩ := hv
  have hx := B.exec
  have hb := B.bytes
  have hr := B.returns
  have hts := atoms_spec (ws := (CWS yX1_init cX1_init 5 none)) B.pre
  have hown : s.vm.findClass RX1 = some m.cls := findClass_of_methodNamed B.named
  have hlocks := B.notSynchronized
  have hin : meth.name = "<init>" := (name_of_methodNamed B.named B.method).1
  have S : SF p m c cX1_init 5 s ([.ref x, .int v0, .int v1, .int v2, .int v3]).toArray RX1 := ⟨hx, hb, hml, hown, fun w h => hts w (List.mem_cons_of_mem _ h)⟩
  subst hsz
  have hD := hD0.self (sz := s.heap.size)
  generalize hAe : va_A [(x, .inr (2, [.int 0, .int 0, .int 0, .int 0, .int 0, .int 0, .int 0, .int 0, .int 0, .int 0, .null]))] s.heap.size = A at hD ⊢
  have hA : ∀ q : Nat, s.heap.size ≤ q → A q := fun q h => by rw [← hAe]; exact Or.inr h
  have hS : va_S A s.heap s.heap [] := va_S.rf
  have hP : va_P D vwCl [(x, .inr (2, [.int 0, .int 0, .int 0, .int 0, .int 0, .int 0, .int 0, .int 0, .int 0, .int 0, .null]))] s.heap := hP
  have hD : va_D A [(x, .inr (2, [.int 0, .int 0, .int 0, .int 0, .int 0, .int 0, .int 0, .int 0, .int 0, .int 0, .null]))] := hD
  have hl := lv_entry ([.ref x, .int v0, .int v1, .int v2, .int v3]) (n := 5) (Nat.le_of_ble_eq_true rfl)
  rw [lg_entry_eq]
  generalize (lg_sl ([.ref x, .int v0, .int v1, .int v2, .int v3]) ++ List.replicate (5 - (lg_sl ([.ref x, .int v0, .int v1, .int v2, .int v3])).length) Slot.unset).toArray = ls at hl ⊢
  have hl : lv_has ls 5 [(0, .ref x), (1, .int v0), (2, .int v1), (3, .int v2), (4, .int v3)] := hl
  refine lv_aload_n hx hb dX1_init_0 rfl (lv_at hl 0 rfl) ?_
  refine W.objInit hx hb hown (S.2.2.2.2 _ (wT_t2 68 rfl rfl)) (S.2.2.2.2 _ (wT_t1 33 rfl rfl)) (S.2.2.2.2 _ (wT_t1 34 rfl rfl)) rfl (by rw [hml]; exact hl.1) rfl dX1_init_1 (Nat.le_of_ble_eq_true rfl) (Nat.le_of_ble_eq_true rfl) ?_
  refine W.eq (g2 := F0 m 4 ls []) rfl ?_
  refine lv_aload_n hx hb dX1_init_4 rfl (lv_at hl 0 rfl) ?_
  refine lv_iload_n hx hb dX1_init_5 rfl (lv_at hl 1 rfl) ?_
  refine pf_RX1_7 S hin hK hP hD hS 0 rfl (v := .int v0) (Nat.le_of_ble_eq_true rfl) rfl rfl dX1_init_6 (fun H locs hP hD hS => ?_)
  have hP : va_P D vwCl [(x, .inr (2, [.int v0, .int 0, .int 0, .int 0, .int 0, .int 0, .int 0, .int 0, .int 0, .int 0, .null]))] H := hP
  have hD : va_D A [(x, .inr (2, [.int v0, .int 0, .int 0, .int 0, .int 0, .int 0, .int 0, .int 0, .int 0, .int 0, .null]))] := hD
  refine lv_aload_n hx hb dX1_init_9 rfl (lv_at hl 0 rfl) ?_
  refine lv_iload_n hx hb dX1_init_10 rfl (lv_at hl 2 rfl) ?_
  refine pf_RX1_13 S hin hK hP hD hS 0 rfl (v := .int v1) (Nat.le_of_ble_eq_true rfl) rfl rfl dX1_init_11 (fun H locs hP hD hS => ?_)
  have hP : va_P D vwCl [(x, .inr (2, [.int v0, .int v1, .int 0, .int 0, .int 0, .int 0, .int 0, .int 0, .int 0, .int 0, .null]))] H := hP
  have hD : va_D A [(x, .inr (2, [.int v0, .int v1, .int 0, .int 0, .int 0, .int 0, .int 0, .int 0, .int 0, .int 0, .null]))] := hD
  refine lv_aload_n hx hb dX1_init_14 rfl (lv_at hl 0 rfl) ?_
  refine lv_iload_n hx hb dX1_init_15 rfl (lv_at hl 3 rfl) ?_
  refine pf_RX1_16 S hin hK hP hD hS 0 rfl (v := .int v2) (Nat.le_of_ble_eq_true rfl) rfl rfl dX1_init_16 (fun H locs hP hD hS => ?_)
  have hP : va_P D vwCl [(x, .inr (2, [.int v0, .int v1, .int v2, .int 0, .int 0, .int 0, .int 0, .int 0, .int 0, .int 0, .null]))] H := hP
  have hD : va_D A [(x, .inr (2, [.int v0, .int v1, .int v2, .int 0, .int 0, .int 0, .int 0, .int 0, .int 0, .int 0, .null]))] := hD
  refine lv_aload_n hx hb dX1_init_19 rfl (lv_at hl 0 rfl) ?_
  refine lv_iload hx hb dX1_init_20 (lv_at hl 4 rfl) ?_
  refine pf_RX1_19 S hin hK hP hD hS 0 rfl (v := .int v3) (Nat.le_of_ble_eq_true rfl) rfl rfl dX1_init_22 (fun H locs hP hD hS => ?_)
  have hP : va_P D vwCl [(x, .inr (2, [.int v0, .int v1, .int v2, .int v3, .int 0, .int 0, .int 0, .int 0, .int 0, .int 0, .null]))] H := hP
  have hD : va_D A [(x, .inr (2, [.int v0, .int v1, .int v2, .int v3, .int 0, .int 0, .int 0, .int 0, .int 0, .int 0, .null]))] := hD
  refine lv_aload_n hx hb dX1_init_25 rfl (lv_at hl 0 rfl) ?_
  refine va_new (ci := 10) (fs := [.null, .null, .null, .null, .null, .int 0, .int 0, .int 0, .int 0]) (C := RX9) (T := TX9) (N := 9) hx hb S.2.2.2.2 hin_RX9 tyX9 tyX9_ok hown (S.2.2.2.2 _ (wT_t2 69 rfl rfl)) (S.2.2.2.2 _ (wT_t1 36 rfl rfl)) (S.2.2.2.2 _ (wT_t1 2 rfl rfl)) hK.1 hP hD hS hA rfl (by decide +kernel) (Nat.le_of_ble_eq_true rfl) (Nat.le_of_ble_eq_true rfl) dX1_init_26 (fun q26 H hP hD hS => ?_)
  have hP : va_P D vwCl [(x, .inr (2, [.int v0, .int v1, .int v2, .int v3, .int 0, .int 0, .int 0, .int 0, .int 0, .int 0, .null])), (q26, .inr (10, [.null, .null, .null, .null, .null, .int 0, .int 0, .int 0, .int 0]))] H := hP
  have hD : va_D A [(x, .inr (2, [.int v0, .int v1, .int v2, .int v3, .int 0, .int 0, .int 0, .int 0, .int 0, .int 0, .null])), (q26, .inr (10, [.null, .null, .null, .null, .null, .int 0, .int 0, .int 0, .int 0]))] := hD
  refine lv_dup hx hb dX1_init_29 rfl ?_
  refine lv_iconst (v := 0) hx hb dX1_init_30 (by decide) ?_
  have hFc := va_free (wc := [(q26, .inr (10, [.null, .null, .null, .null, .null, .int 0, .int 0, .int 0, .int 0]))]) hD hS hA [1] rfl
  refine va_callv (runI_w (As := [.int 0]) (rest := [.ref q26, .ref x]) S (q_l_Text0 l D cI cB cZ q26 H.size) kI_RX1_24 hK hP hD [1] rfl rfl (by decide) ⟨Nat.le_of_ble_eq_true rfl, Nat.le_of_ble_eq_true rfl⟩ ⟨Nat.le_of_ble_eq_true rfl, Nat.le_of_ble_eq_true rfl⟩ rfl hl.1 rfl (Nat.le_of_ble_eq_true rfl) dX1_init_31) hS (fun q _ h => hFc q h) hFc (fun u_2 t H1 locs ht hvm h_3 hB hz1 hk1 hS => ?_)
  obtain ⟨hP1, hD1⟩ := hB
  rw [ht] at hP1
  obtain ⟨hP, hD⟩ := va_join (wr := [(x, .inr (2, [.int v0, .int v1, .int v2, .int v3, .int 0, .int 0, .int 0, .int 0, .int 0, .int 0, .null]))]) (w1 := [(q26, .inr (10, [.ref (u_2 0), .ref (u_2 1), .ref (u_2 2), .ref (u_2 3), .ref (u_2 4), .int 0, .int 0, .int 0, .int 0])), ((u_2 0), .inl (cI, 0, .inl (fun _ => 0))), ((u_2 1), .inl (cI, 12, .inl (fun _ => 0))), ((u_2 2), .inl (cI, 12, .inl (fun _ => 0))), ((u_2 3), .inl (cI, 12, .inl (fun _ => 0))), ((u_2 4), .inl (cI, 32, .inl (fun _ => 0)))]) hP hD [1] [0] rfl rfl (by decide) (by decide) hk1 hFc hP1 hD1
  generalize H1 = H at hP hS ⊢
  have hP : va_P D vwCl [(x, .inr (2, [.int v0, .int v1, .int v2, .int v3, .int 0, .int 0, .int 0, .int 0, .int 0, .int 0, .null])), (q26, .inr (10, [.ref (u_2 0), .ref (u_2 1), .ref (u_2 2), .ref (u_2 3), .ref (u_2 4), .int 0, .int 0, .int 0, .int 0])), ((u_2 0), .inl (cI, 0, .inl (fun _ => 0))), ((u_2 1), .inl (cI, 12, .inl (fun _ => 0))), ((u_2 2), .inl (cI, 12, .inl (fun _ => 0))), ((u_2 3), .inl (cI, 12, .inl (fun _ => 0))), ((u_2 4), .inl (cI, 32, .inl (fun _ => 0)))] H := hP
  have hD : va_D A [(x, .inr (2, [.int v0, .int v1, .int v2, .int v3, .int 0, .int 0, .int 0, .int 0, .int 0, .int 0, .null])), (q26, .inr (10, [.ref (u_2 0), .ref (u_2 1), .ref (u_2 2), .ref (u_2 3), .ref (u_2 4), .int 0, .int 0, .int 0, .int 0])), ((u_2 0), .inl (cI, 0, .inl (fun _ => 0))), ((u_2 1), .inl (cI, 12, .inl (fun _ => 0))), ((u_2 2), .inl (cI, 12, .inl (fun _ => 0))), ((u_2 3), .inl (cI, 12, .inl (fun _ => 0))), ((u_2 4), .inl (cI, 32, .inl (fun _ => 0)))] := hD
  refine pf_RX1_27 S hK hP hD hS 0 rfl (v := .ref q26) (Nat.le_of_ble_eq_true rfl) rfl rfl dX1_init_34 (fun H locs hP hD hS => ?_)
  have hP : va_P D vwCl [(x, .inr (2, [.int v0, .int v1, .int v2, .int v3, .int 0, .int 0, .int 0, .int 0, .int 0, .int 0, .ref q26])), (q26, .inr (10, [.ref (u_2 0), .ref (u_2 1), .ref (u_2 2), .ref (u_2 3), .ref (u_2 4), .int 0, .int 0, .int 0, .int 0])), ((u_2 0), .inl (cI, 0, .inl (fun _ => 0))), ((u_2 1), .inl (cI, 12, .inl (fun _ => 0))), ((u_2 2), .inl (cI, 12, .inl (fun _ => 0))), ((u_2 3), .inl (cI, 12, .inl (fun _ => 0))), ((u_2 4), .inl (cI, 32, .inl (fun _ => 0)))] H := hP
  have hD : va_D A [(x, .inr (2, [.int v0, .int v1, .int v2, .int v3, .int 0, .int 0, .int 0, .int 0, .int 0, .int 0, .ref q26])), (q26, .inr (10, [.ref (u_2 0), .ref (u_2 1), .ref (u_2 2), .ref (u_2 3), .ref (u_2 4), .int 0, .int 0, .int 0, .int 0])), ((u_2 0), .inl (cI, 0, .inl (fun _ => 0))), ((u_2 1), .inl (cI, 12, .inl (fun _ => 0))), ((u_2 2), .inl (cI, 12, .inl (fun _ => 0))), ((u_2 3), .inl (cI, 12, .inl (fun _ => 0))), ((u_2 4), .inl (cI, 32, .inl (fun _ => 0)))] := hD
  have hP9 := hP.sub (ws' := [(x, .inr (2, [.int v0, .int v1, .int v2, .int v3, .int 0, .int 0, .int 0, .int 0, .int 0, .int 0, .ref q26])), (q26, .inr (10, [.ref (u_2 0), .ref (u_2 1), .ref (u_2 2), .ref (u_2 3), .ref (u_2 4), .int 0, .int 0, .int 0, .int 0])), ((u_2 0), .inl (cI, 0, .inl (fun _ => 0))), ((u_2 1), .inl (cI, 12, .inl (fun _ => 0))), ((u_2 2), .inl (cI, 12, .inl (fun _ => 0))), ((u_2 3), .inl (cI, 12, .inl (fun _ => 0))), ((u_2 4), .inl (cI, 32, .inl (fun _ => 0)))]) [0, 1, 2, 3, 4, 5, 6] rfl
  have hD9 := hD.sub (ws' := [(x, .inr (2, [.int v0, .int v1, .int v2, .int v3, .int 0, .int 0, .int 0, .int 0, .int 0, .int 0, .ref q26])), (q26, .inr (10, [.ref (u_2 0), .ref (u_2 1), .ref (u_2 2), .ref (u_2 3), .ref (u_2 4), .int 0, .int 0, .int 0, .int 0])), ((u_2 0), .inl (cI, 0, .inl (fun _ => 0))), ((u_2 1), .inl (cI, 12, .inl (fun _ => 0))), ((u_2 2), .inl (cI, 12, .inl (fun _ => 0))), ((u_2 3), .inl (cI, 12, .inl (fun _ => 0))), ((u_2 4), .inl (cI, 32, .inl (fun _ => 0)))]) [0, 1, 2, 3, 4, 5, 6] (by decide) rfl
  exact W.vret hx hb hr (fun t ht hW => ⟨⟨(fun k => ([(u_2 0), (u_2 1), (u_2 2), (u_2 3), (u_2 4), q26] : List Nat).getD k 0), rfl, trivial, by rw [ht]; exact hP9, hD9⟩, hS.F ht⟩) hS.2.2 dX1_init_37

