set_option maxRecDepth 100000 in
set_option maxHeartbeats 4000000 in
theorem q_c_Reader (l : Launch) (D : va_G) (cI cB cZ : ClassId) (x : Nat) (sz : Nat) : Met l yX5_init (CWS yX5_init cX5_init 1 none) (RM 2 7 77) (PBw [.ref x] D cI cB cZ [(x, .inr (6, [.null, .null, .int 0, .int 0, .int 0, .int 0]))] sz) (va_Qv (fun (_ : Nat → Nat) => True) (fun (u : Nat → Nat) (t : State) => va_P D vwCl [(x, .inr (6, [.ref (u 6), .ref (u 5), .int 0, .int 0, .int 0, .int 0])), ((u 6), .inl (cI, 0, .inl (fun _ => 0))), ((u 5), .inr (10, [.ref (u 0), .ref (u 1), .ref (u 2), .ref (u 3), .ref (u 4), .int 0, .int 0, .int 0, .int 0])), ((u 0), .inl (cI, 0, .inl (fun _ => 0))), ((u 1), .inl (cI, 12, .inl (fun _ => 0))), ((u 2), .inl (cI, 12, .inl (fun _ => 0))), ((u 3), .inl (cI, 12, .inl (fun _ => 0))), ((u 4), .inl (cI, 32, .inl (fun _ => 0)))] t.heap ∧ va_D (va_A [(x, .inr (6, [.null, .null, .int 0, .int 0, .int 0, .int 0]))] sz) [(x, .inr (6, [.ref (u 6), .ref (u 5), .int 0, .int 0, .int 0, .int 0])), ((u 6), .inl (cI, 0, .inl (fun _ => 0))), ((u 5), .inr (10, [.ref (u 0), .ref (u 1), .ref (u 2), .ref (u 3), .ref (u 4), .int 0, .int 0, .int 0, .int 0])), ((u 0), .inl (cI, 0, .inl (fun _ => 0))), ((u 1), .inl (cI, 12, .inl (fun _ => 0))), ((u 2), .inl (cI, 12, .inl (fun _ => 0))), ((u 3), .inl (cI, 12, .inl (fun _ => 0))), ((u 4), .inl (cI, 32, .inl (fun _ => 0)))]) (va_A [(x, .inr (6, [.null, .null, .int 0, .int 0, .int 0, .int 0]))] sz)) 7 77 (va_A [(x, .inr (6, [.null, .null, .int 0, .int 0, .int 0, .int 0]))] sz) := by
  refine Met.ofW (cc := cX5_init) (maxL := 1) (ret := none) (by decide) rfl ?_
  intro p e s m args below meth c s₁ B hml hv
  obtain ⟨rfl, hsz, hP, hK, hD0⟩ := hv
  have hx := B.exec
  have hb := B.bytes
  have hr := B.returns
  have hts := atoms_spec (ws := (CWS yX5_init cX5_init 1 none)) B.pre
  have hown : s.vm.findClass RX5 = some m.cls := findClass_of_methodNamed B.named
  have hlocks := B.notSynchronized
  have hin : meth.name = "<init>" := (name_of_methodNamed B.named B.method).1
  have S : SF p m c cX5_init 1 s ([.ref x]).toArray RX5 := ⟨hx, hb, hml, hown, fun w h => hts w (List.mem_cons_of_mem _ h)⟩
  subst hsz
  have hD := hD0.self (sz := s.heap.size)
  generalize hAe : va_A [(x, .inr (6, [.null, .null, .int 0, .int 0, .int 0, .int 0]))] s.heap.size = A at hD ⊢
  have hA : ∀ q : Nat, s.heap.size ≤ q → A q := fun q h => by rw [← hAe]; exact Or.inr h
  have hS : va_S A s.heap s.heap [] := va_S.rf
  have hP : va_P D vwCl [(x, .inr (6, [.null, .null, .int 0, .int 0, .int 0, .int 0]))] s.heap := hP
  have hD : va_D A [(x, .inr (6, [.null, .null, .int 0, .int 0, .int 0, .int 0]))] := hD
  have hl := lv_entry ([.ref x]) (n := 1) (Nat.le_of_ble_eq_true rfl)
  rw [lg_entry_eq]
  generalize (lg_sl ([.ref x]) ++ List.replicate (1 - (lg_sl ([.ref x])).length) Slot.unset).toArray = ls at hl ⊢
  have hl : lv_has ls 1 [(0, .ref x)] := hl
  refine lv_aload_n hx hb dX5_init_0 rfl (lv_at hl 0 rfl) ?_
  refine W.objInit hx hb hown (S.2.2.2.2 _ (wk1_7 10 rfl rfl)) (S.2.2.2.2 _ (wk1_2 9 rfl rfl)) (S.2.2.2.2 _ (wk1_2 10 rfl rfl)) rfl (by rw [hml]; exact hl.1) rfl dX5_init_1 (Nat.le_of_ble_eq_true rfl) (Nat.le_of_ble_eq_true rfl) ?_
  refine W.eq (g2 := F0 m 4 ls []) rfl ?_
  refine lv_aload_n hx hb dX5_init_4 rfl (lv_at hl 0 rfl) ?_
  refine lv_iconst (v := 0) hx hb dX5_init_5 kic_0 ?_
  refine newa_int S hK hP hD hS hA (N' := 0) (by decide) (by decide) (Nat.le_of_ble_eq_true rfl) (Nat.le_of_ble_eq_true rfl) (Nat.le_of_ble_eq_true rfl) dX5_init_6 (fun q6 H hP hD hS => ?_)
  have hP : va_P D vwCl [(x, .inr (6, [.null, .null, .int 0, .int 0, .int 0, .int 0])), (q6, .inl (cI, 0, .inl (fun _ => 0)))] H := hP
  have hD : va_D A [(x, .inr (6, [.null, .null, .int 0, .int 0, .int 0, .int 0])), (q6, .inl (cI, 0, .inl (fun _ => 0)))] := hD
  refine pf_RX5_9 S hK hP hD hS 0 rfl (v := .ref q6) (Nat.le_of_ble_eq_true rfl) rfl rfl dX5_init_8 (fun H locs hP hD hS => ?_)
  have hP : va_P D vwCl [(x, .inr (6, [.ref q6, .null, .int 0, .int 0, .int 0, .int 0])), (q6, .inl (cI, 0, .inl (fun _ => 0)))] H := hP
  have hD : va_D A [(x, .inr (6, [.ref q6, .null, .int 0, .int 0, .int 0, .int 0])), (q6, .inl (cI, 0, .inl (fun _ => 0)))] := hD
  refine lv_aload_n hx hb dX5_init_11 rfl (lv_at hl 0 rfl) ?_
  refine va_new (ci := 10) (fs := [.null, .null, .null, .null, .null, .int 0, .int 0, .int 0, .int 0]) (C := RX9) (T := TX9) (N := 9) hx hb S.2.2.2.2 hin_RX9 tyX9 tyX9_ok hown (S.2.2.2.2 _ (wk1_7 11 rfl rfl)) (S.2.2.2.2 _ (wk1_3 0 rfl rfl)) (S.2.2.2.2 _ (wk1_0 2 rfl rfl)) hK.1 hP hD hS hA rfl (by decide +kernel) (Nat.le_of_ble_eq_true rfl) (Nat.le_of_ble_eq_true rfl) dX5_init_12 (fun q12 H hP hD hS => ?_)
  have hP : va_P D vwCl [(x, .inr (6, [.ref q6, .null, .int 0, .int 0, .int 0, .int 0])), (q6, .inl (cI, 0, .inl (fun _ => 0))), (q12, .inr (10, [.null, .null, .null, .null, .null, .int 0, .int 0, .int 0, .int 0]))] H := hP
  have hD : va_D A [(x, .inr (6, [.ref q6, .null, .int 0, .int 0, .int 0, .int 0])), (q6, .inl (cI, 0, .inl (fun _ => 0))), (q12, .inr (10, [.null, .null, .null, .null, .null, .int 0, .int 0, .int 0, .int 0]))] := hD
  refine lv_dup hx hb dX5_init_15 rfl ?_
  refine lv_iconst (v := 0) hx hb dX5_init_16 kic_0 ?_
  have hFc := va_free (wc := [(q12, .inr (10, [.null, .null, .null, .null, .null, .int 0, .int 0, .int 0, .int 0]))]) hD hS hA [2] rfl
  refine va_callv (runI_w (As := [.int 0]) (rest := [.ref q12, .ref x]) S (q_l_Text0 l D cI cB cZ q12 H.size) kI_RX5_17 hK hP hD [2] rfl rfl (by decide) ⟨Nat.le_of_ble_eq_true rfl, Nat.le_of_ble_eq_true rfl⟩ ⟨Nat.le_of_ble_eq_true rfl, Nat.le_of_ble_eq_true rfl⟩ rfl hl.1 rfl (Nat.le_of_ble_eq_true rfl) dX5_init_17) hS (fun q _ h => hFc q h) hFc (fun u_2 t H1 locs ht hvm h_3 hB hz1 hk1 hS => ?_)
  obtain ⟨hP1, hD1⟩ := hB
  rw [ht] at hP1
  obtain ⟨hP, hD⟩ := va_join (wr := [(x, .inr (6, [.ref q6, .null, .int 0, .int 0, .int 0, .int 0])), (q6, .inl (cI, 0, .inl (fun _ => 0)))]) (w1 := [(q12, .inr (10, [.ref (u_2 0), .ref (u_2 1), .ref (u_2 2), .ref (u_2 3), .ref (u_2 4), .int 0, .int 0, .int 0, .int 0])), ((u_2 0), .inl (cI, 0, .inl (fun _ => 0))), ((u_2 1), .inl (cI, 12, .inl (fun _ => 0))), ((u_2 2), .inl (cI, 12, .inl (fun _ => 0))), ((u_2 3), .inl (cI, 12, .inl (fun _ => 0))), ((u_2 4), .inl (cI, 32, .inl (fun _ => 0)))]) hP hD [2] [0, 1] rfl rfl (by decide) (by decide) hk1 hFc hP1 hD1
  generalize H1 = H at hP hS ⊢
  have hP : va_P D vwCl [(x, .inr (6, [.ref q6, .null, .int 0, .int 0, .int 0, .int 0])), (q6, .inl (cI, 0, .inl (fun _ => 0))), (q12, .inr (10, [.ref (u_2 0), .ref (u_2 1), .ref (u_2 2), .ref (u_2 3), .ref (u_2 4), .int 0, .int 0, .int 0, .int 0])), ((u_2 0), .inl (cI, 0, .inl (fun _ => 0))), ((u_2 1), .inl (cI, 12, .inl (fun _ => 0))), ((u_2 2), .inl (cI, 12, .inl (fun _ => 0))), ((u_2 3), .inl (cI, 12, .inl (fun _ => 0))), ((u_2 4), .inl (cI, 32, .inl (fun _ => 0)))] H := hP
  have hD : va_D A [(x, .inr (6, [.ref q6, .null, .int 0, .int 0, .int 0, .int 0])), (q6, .inl (cI, 0, .inl (fun _ => 0))), (q12, .inr (10, [.ref (u_2 0), .ref (u_2 1), .ref (u_2 2), .ref (u_2 3), .ref (u_2 4), .int 0, .int 0, .int 0, .int 0])), ((u_2 0), .inl (cI, 0, .inl (fun _ => 0))), ((u_2 1), .inl (cI, 12, .inl (fun _ => 0))), ((u_2 2), .inl (cI, 12, .inl (fun _ => 0))), ((u_2 3), .inl (cI, 12, .inl (fun _ => 0))), ((u_2 4), .inl (cI, 32, .inl (fun _ => 0)))] := hD
  refine pf_RX5_20 S hK hP hD hS 0 rfl (v := .ref q12) (Nat.le_of_ble_eq_true rfl) rfl rfl dX5_init_20 (fun H locs hP hD hS => ?_)
  have hP : va_P D vwCl [(x, .inr (6, [.ref q6, .ref q12, .int 0, .int 0, .int 0, .int 0])), (q6, .inl (cI, 0, .inl (fun _ => 0))), (q12, .inr (10, [.ref (u_2 0), .ref (u_2 1), .ref (u_2 2), .ref (u_2 3), .ref (u_2 4), .int 0, .int 0, .int 0, .int 0])), ((u_2 0), .inl (cI, 0, .inl (fun _ => 0))), ((u_2 1), .inl (cI, 12, .inl (fun _ => 0))), ((u_2 2), .inl (cI, 12, .inl (fun _ => 0))), ((u_2 3), .inl (cI, 12, .inl (fun _ => 0))), ((u_2 4), .inl (cI, 32, .inl (fun _ => 0)))] H := hP
  have hD : va_D A [(x, .inr (6, [.ref q6, .ref q12, .int 0, .int 0, .int 0, .int 0])), (q6, .inl (cI, 0, .inl (fun _ => 0))), (q12, .inr (10, [.ref (u_2 0), .ref (u_2 1), .ref (u_2 2), .ref (u_2 3), .ref (u_2 4), .int 0, .int 0, .int 0, .int 0])), ((u_2 0), .inl (cI, 0, .inl (fun _ => 0))), ((u_2 1), .inl (cI, 12, .inl (fun _ => 0))), ((u_2 2), .inl (cI, 12, .inl (fun _ => 0))), ((u_2 3), .inl (cI, 12, .inl (fun _ => 0))), ((u_2 4), .inl (cI, 32, .inl (fun _ => 0)))] := hD
  have hP9 := hP.sub (ws' := [(x, .inr (6, [.ref q6, .ref q12, .int 0, .int 0, .int 0, .int 0])), (q6, .inl (cI, 0, .inl (fun _ => 0))), (q12, .inr (10, [.ref (u_2 0), .ref (u_2 1), .ref (u_2 2), .ref (u_2 3), .ref (u_2 4), .int 0, .int 0, .int 0, .int 0])), ((u_2 0), .inl (cI, 0, .inl (fun _ => 0))), ((u_2 1), .inl (cI, 12, .inl (fun _ => 0))), ((u_2 2), .inl (cI, 12, .inl (fun _ => 0))), ((u_2 3), .inl (cI, 12, .inl (fun _ => 0))), ((u_2 4), .inl (cI, 32, .inl (fun _ => 0)))]) [0, 1, 2, 3, 4, 5, 6, 7] rfl
  have hD9 := hD.sub (ws' := [(x, .inr (6, [.ref q6, .ref q12, .int 0, .int 0, .int 0, .int 0])), (q6, .inl (cI, 0, .inl (fun _ => 0))), (q12, .inr (10, [.ref (u_2 0), .ref (u_2 1), .ref (u_2 2), .ref (u_2 3), .ref (u_2 4), .int 0, .int 0, .int 0, .int 0])), ((u_2 0), .inl (cI, 0, .inl (fun _ => 0))), ((u_2 1), .inl (cI, 12, .inl (fun _ => 0))), ((u_2 2), .inl (cI, 12, .inl (fun _ => 0))), ((u_2 3), .inl (cI, 12, .inl (fun _ => 0))), ((u_2 4), .inl (cI, 32, .inl (fun _ => 0)))]) [0, 1, 2, 3, 4, 5, 6, 7] (by decide) rfl
  exact W.vret hx hb hr (fun t ht hW => ⟨⟨(fun k => ([(u_2 0), (u_2 1), (u_2 2), (u_2 3), (u_2 4), q12, q6] : List Nat).getD k 0), rfl, trivial, by rw [ht]; exact hP9, hD9⟩, hS.F ht⟩) hS.2.2 dX5_init_23
