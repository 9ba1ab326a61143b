set_option maxRecDepth 100000 in
set_option maxHeartbeats 4000000 in
theorem q_c_AbsCol (l : Launch) (D : va_G) (cI cB cZ : ClassId) (x : Nat) (sz : Nat) : Met l yJxa1e45_init_da8c8 (CWS yJxa1e45_init_da8c8 cJxa1e45_init_da8c8 1 none) (RM 1 0 0) (PBw [.ref x] D cI cB cZ [(x, .inr (0, [.int 0, .null, .int 0]))] sz) (va_Qv (fun (_ : Unit) => True) (fun (u : Unit) (t : State) => va_P D vwCl [(x, .inr (0, [.int 0, .null, .int 0]))] t.heap ∧ va_D (va_A [(x, .inr (0, [.int 0, .null, .int 0]))] sz) [(x, .inr (0, [.int 0, .null, .int 0]))]) (va_A [(x, .inr (0, [.int 0, .null, .int 0]))] sz)) 0 0 (va_A [(x, .inr (0, [.int 0, .null, .int 0]))] sz) := by
  refine Met.ofW (cc := cJxa1e45_init_da8c8) (maxL := 1) (ret := none) (by decide) rfl ?_
  intro p e s m args below meth c s₁ B hml hv
  obtain ⟨rfl, hsz, hP, hK, hD0⟩ := hv
  have hx := B.exec
  have hb := B.bytes
  have hr := B.returns
  have hts := atoms_spec (ws := (CWS yJxa1e45_init_da8c8 cJxa1e45_init_da8c8 1 none)) B.pre
  have hown : s.vm.findClass RJxa1e45 = some m.cls := findClass_of_methodNamed B.named
  have hlocks := B.notSynchronized
  have hin : meth.name = "<init>" := (name_of_methodNamed B.named B.method).1
  have S : SF p m c cJxa1e45_init_da8c8 1 s ([.ref x]).toArray RJxa1e45 := ⟨hx, hb, hml, hown, fun w h => hts w (List.mem_cons_of_mem _ h)⟩
  subst hsz
  have hD := hD0.self (sz := s.heap.size)
  generalize hAe : va_A [(x, .inr (0, [.int 0, .null, .int 0]))] s.heap.size = A at hD ⊢
  have hA : ∀ q : Nat, s.heap.size ≤ q → A q := fun q h => by rw [← hAe]; exact Or.inr h
  have hS : va_S A s.heap s.heap [] := va_S.rf
  have hP : va_P D vwCl [(x, .inr (0, [.int 0, .null, .int 0]))] s.heap := hP
  have hD : va_D A [(x, .inr (0, [.int 0, .null, .int 0]))] := hD
  have hl := lv_entry ([.ref x]) (n := 1) (Nat.le_of_ble_eq_true rfl)
  rw [lg_entry_eq]
  generalize (lg_sl ([.ref x]) ++ List.replicate (1 - (lg_sl ([.ref x])).length) Slot.unset).toArray = ls at hl ⊢
  have hl : lv_has ls 1 [(0, .ref x)] := hl
  refine lv_aload_n hx hb dJxa1e45_init_da8c8_0 rfl (lv_at hl 0 rfl) ?_
  refine W.objInit hx hb hown (S.2.2.2.2 _ (wk1_18 5 rfl rfl)) (S.2.2.2.2 _ (wk1_2 9 rfl rfl)) (S.2.2.2.2 _ (wk1_2 10 rfl rfl)) rfl (by rw [hml]; exact hl.1) rfl dJxa1e45_init_da8c8_1 (Nat.le_of_ble_eq_true rfl) (Nat.le_of_ble_eq_true rfl) ?_
  refine W.eq (g2 := F0 m 4 ls []) rfl ?_
  have hP9 := hP.sub (ws' := [(x, .inr (0, [.int 0, .null, .int 0]))]) [0] rfl
  have hD9 := hD.sub (ws' := [(x, .inr (0, [.int 0, .null, .int 0]))]) [0] (by decide) rfl
  exact W.vret hx hb hr (fun t ht hW => ⟨⟨(), rfl, trivial, by rw [ht]; exact hP9, hD9⟩, hS.F ht⟩) hS.2.2 dJxa1e45_init_da8c8_4
set_option maxRecDepth 100000 in
set_option maxHeartbeats 4000000 in
theorem q_c_AbsList (l : Launch) (D : va_G) (cI cB cZ : ClassId) (x : Nat) (sz : Nat) : Met l yJxc12de_init_da8c8 (CWS yJxc12de_init_da8c8 cJxc12de_init_da8c8 1 none) (RM 2 0 0) (PBw [.ref x] D cI cB cZ [(x, .inr (0, [.int 0, .null, .int 0]))] sz) (va_Qv (fun (_ : Unit) => True) (fun (u : Unit) (t : State) => va_P D vwCl [(x, .inr (0, [.int 0, .null, .int 0]))] t.heap ∧ va_D (va_A [(x, .inr (0, [.int 0, .null, .int 0]))] sz) [(x, .inr (0, [.int 0, .null, .int 0]))]) (va_A [(x, .inr (0, [.int 0, .null, .int 0]))] sz)) 0 0 (va_A [(x, .inr (0, [.int 0, .null, .int 0]))] sz) := by
  refine Met.ofW (cc := cJxc12de_init_da8c8) (maxL := 1) (ret := none) (by decide) rfl ?_
  intro p e s m args below meth c s₁ B hml hv
  obtain ⟨rfl, hsz, hP, hK, hD0⟩ := hv
  have hx := B.exec
  have hb := B.bytes
  have hr := B.returns
  have hts := atoms_spec (ws := (CWS yJxc12de_init_da8c8 cJxc12de_init_da8c8 1 none)) B.pre
  have hown : s.vm.findClass RJxc12de = some m.cls := findClass_of_methodNamed B.named
  have hlocks := B.notSynchronized
  have hin : meth.name = "<init>" := (name_of_methodNamed B.named B.method).1
  have S : SF p m c cJxc12de_init_da8c8 1 s ([.ref x]).toArray RJxc12de := ⟨hx, hb, hml, hown, fun w h => hts w (List.mem_cons_of_mem _ h)⟩
  subst hsz
  have hD := hD0.self (sz := s.heap.size)
  generalize hAe : va_A [(x, .inr (0, [.int 0, .null, .int 0]))] s.heap.size = A at hD ⊢
  have hA : ∀ q : Nat, s.heap.size ≤ q → A q := fun q h => by rw [← hAe]; exact Or.inr h
  have hS : va_S A s.heap s.heap [] := va_S.rf
  have hP : va_P D vwCl [(x, .inr (0, [.int 0, .null, .int 0]))] s.heap := hP
  have hD : va_D A [(x, .inr (0, [.int 0, .null, .int 0]))] := hD
  have hl := lv_entry ([.ref x]) (n := 1) (Nat.le_of_ble_eq_true rfl)
  rw [lg_entry_eq]
  generalize (lg_sl ([.ref x]) ++ List.replicate (1 - (lg_sl ([.ref x])).length) Slot.unset).toArray = ls at hl ⊢
  have hl : lv_has ls 1 [(0, .ref x)] := hl
  refine lv_aload_n hx hb dJxc12de_init_da8c8_0 rfl (lv_at hl 0 rfl) ?_
  have hFc := va_free (wc := [(x, .inr (0, [.int 0, .null, .int 0]))]) hD hS hA [0] rfl
  refine va_callv (runI_w (As := []) (rest := []) S (q_c_AbsCol l D cI cB cZ x s.heap.size) kI_RJxc12de_1 hK hP hD [0] rfl rfl (by decide) ⟨Nat.le_of_ble_eq_true rfl, Nat.le_of_ble_eq_true rfl⟩ ⟨Nat.le_of_ble_eq_true rfl, Nat.le_of_ble_eq_true rfl⟩ rfl hl.1 rfl (Nat.le_of_ble_eq_true rfl) dJxc12de_init_da8c8_1) hS (fun q _ h => hFc q h) hFc (fun u_2 t H1 locs ht hvm h_3 hB hz1 hk1 hS => ?_)
  obtain ⟨hP1, hD1⟩ := hB
  rw [ht] at hP1
  obtain ⟨hP, hD⟩ := va_join (wr := []) (w1 := [(x, .inr (0, [.int 0, .null, .int 0]))]) hP hD [0] [] rfl rfl (by decide) (by decide) hk1 hFc hP1 hD1
  generalize H1 = H at hP hS ⊢
  have hP : va_P D vwCl [(x, .inr (0, [.int 0, .null, .int 0]))] H := hP
  have hD : va_D A [(x, .inr (0, [.int 0, .null, .int 0]))] := hD
  refine lv_aload_n hx hb dJxc12de_init_da8c8_4 rfl (lv_at hl 0 rfl) ?_
  refine lv_iconst (v := 0) hx hb dJxc12de_init_da8c8_5 kic_0 ?_
  refine pf_RJxc12de_7 S hK hP hD hS 0 rfl (v := .int 0) (Nat.le_of_ble_eq_true rfl) rfl rfl dJxc12de_init_da8c8_6 (fun H locs hP hD hS => ?_)
  have hP : va_P D vwCl [(x, .inr (0, [.int 0, .null, .int 0]))] H := hP
  have hD : va_D A [(x, .inr (0, [.int 0, .null, .int 0]))] := hD
  have hP9 := hP.sub (ws' := [(x, .inr (0, [.int 0, .null, .int 0]))]) [0] rfl
  have hD9 := hD.sub (ws' := [(x, .inr (0, [.int 0, .null, .int 0]))]) [0] (by decide) rfl
  exact W.vret hx hb hr (fun t ht hW => ⟨⟨(), rfl, trivial, by rw [ht]; exact hP9, hD9⟩, hS.F ht⟩) hS.2.2 dJxc12de_init_da8c8_9
set_option maxRecDepth 100000 in
set_option maxHeartbeats 4000000 in
theorem q_c_AList (l : Launch) (D : va_G) (cI cB cZ : ClassId) (zz qq vv : Nat) (bt : Nat → Int32) (x : Nat) (sz : Nat) : Met l yJx4a65c_init_da8c8 (CWS yJx4a65c_init_da8c8 cJx4a65c_init_da8c8 1 none) (RM 3 0 0) (PBx [.ref x] D cI cB cZ zz qq vv bt [(x, .inr (0, [.int 0, .null, .int 0]))] sz) (va_Qv (fun (_ : Unit) => True) (fun (u : Unit) (t : State) => va_P D vwCl [(x, .inr (0, [.int 0, .ref zz, .int 0]))] t.heap ∧ va_D (va_A [(x, .inr (0, [.int 0, .null, .int 0]))] sz) [(x, .inr (0, [.int 0, .ref zz, .int 0]))]) (va_A [(x, .inr (0, [.int 0, .null, .int 0]))] sz)) 0 0 (va_A [(x, .inr (0, [.int 0, .null, .int 0]))] sz) := by
  refine Met.ofW (cc := cJx4a65c_init_da8c8) (maxL := 1) (ret := none) (by decide) rfl ?_
  intro p e s m args below meth c s₁ B hml hv
  obtain ⟨rfl, hsz, hP, hK, hD0, hXS⟩ := hv
  have hx := B.exec
  have hb := B.bytes
  have hr := B.returns
  have hts := atoms_spec (ws := (CWS yJx4a65c_init_da8c8 cJx4a65c_init_da8c8 1 none)) B.pre
  have hown : s.vm.findClass RJx4a65c = some m.cls := findClass_of_methodNamed B.named
  have hlocks := B.notSynchronized
  have hin : meth.name = "<init>" := (name_of_methodNamed B.named B.method).1
  have S : SF p m c cJx4a65c_init_da8c8 1 s ([.ref x]).toArray RJx4a65c := ⟨hx, hb, hml, hown, fun w h => hts w (List.mem_cons_of_mem _ h)⟩
  subst hsz
  have hD := hD0.self (sz := s.heap.size)
  generalize hAe : va_A [(x, .inr (0, [.int 0, .null, .int 0]))] s.heap.size = A at hD hXS ⊢
  have hA : ∀ q : Nat, s.heap.size ≤ q → A q := fun q h => by rw [← hAe]; exact Or.inr h
  have hS : va_S A s.heap s.heap [] := va_S.rf
  have hP : va_P D vwCl [(x, .inr (0, [.int 0, .null, .int 0]))] s.heap := hP
  have hD : va_D A [(x, .inr (0, [.int 0, .null, .int 0]))] := hD
  have hl := lv_entry ([.ref x]) (n := 1) (Nat.le_of_ble_eq_true rfl)
  rw [lg_entry_eq]
  generalize (lg_sl ([.ref x]) ++ List.replicate (1 - (lg_sl ([.ref x])).length) Slot.unset).toArray = ls at hl ⊢
  have hl : lv_has ls 1 [(0, .ref x)] := hl
  refine lv_aload_n hx hb dJx4a65c_init_da8c8_0 rfl (lv_at hl 0 rfl) ?_
  have hFc := va_free (wc := [(x, .inr (0, [.int 0, .null, .int 0]))]) hD hS hA [0] rfl
  refine va_callv (runI_w (As := []) (rest := []) S (q_c_AbsList l D cI cB cZ x s.heap.size) kI_RJx4a65c_1 hK hP hD [0] rfl rfl (by decide) ⟨Nat.le_of_ble_eq_true rfl, Nat.le_of_ble_eq_true rfl⟩ ⟨Nat.le_of_ble_eq_true rfl, Nat.le_of_ble_eq_true rfl⟩ rfl hl.1 rfl (Nat.le_of_ble_eq_true rfl) dJx4a65c_init_da8c8_1) hS (fun q _ h => hFc q h) hFc (fun u_2 t H1 locs ht hvm h_3 hB hz1 hk1 hS => ?_)
  obtain ⟨hP1, hD1⟩ := hB
  rw [ht] at hP1
  obtain ⟨hP, hD⟩ := va_join (wr := []) (w1 := [(x, .inr (0, [.int 0, .null, .int 0]))]) hP hD [0] [] rfl rfl (by decide) (by decide) hk1 hFc hP1 hD1
  generalize H1 = H at hP hS ⊢
  have hP : va_P D vwCl [(x, .inr (0, [.int 0, .null, .int 0]))] H := hP
  have hD : va_D A [(x, .inr (0, [.int 0, .null, .int 0]))] := hD
  refine lv_aload_n hx hb dJx4a65c_init_da8c8_4 rfl (lv_at hl 0 rfl) ?_
  refine va_gets hx hb hXS.2.1 hS hown (S.2.2.2.2 _ (wk1_18 6 rfl rfl)) (fun _ h9 => h9) dJx4a65c_init_da8c8_5 ?_
  refine pf_RJx4a65c_9 S hK hP hD hS 0 rfl (v := .ref zz) (Nat.le_of_ble_eq_true rfl) rfl rfl dJx4a65c_init_da8c8_8 (fun H locs hP hD hS => ?_)
  have hP : va_P D vwCl [(x, .inr (0, [.int 0, .ref zz, .int 0]))] H := hP
  have hD : va_D A [(x, .inr (0, [.int 0, .ref zz, .int 0]))] := hD
  have hP9 := hP.sub (ws' := [(x, .inr (0, [.int 0, .ref zz, .int 0]))]) [0] rfl
  have hD9 := hD.sub (ws' := [(x, .inr (0, [.int 0, .ref zz, .int 0]))]) [0] (by decide) rfl
  exact W.vret hx hb hr (fun t ht hW => ⟨⟨(), rfl, trivial, by rw [ht]; exact hP9, hD9⟩, hS.F ht⟩) hS.2.2 dJx4a65c_init_da8c8_11
