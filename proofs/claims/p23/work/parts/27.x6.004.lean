set_option maxRecDepth 100000 in
set_option maxHeartbeats 4000000 in
theorem q_l_grow0 (l : Launch) (D : va_G) (cI cB cZ : ClassId) (zz qq vv : Nat) (bt : Nat → Int32) (x : Nat) (mc : Int32) (sz : Nat) : Met l yJx4a65c_grow_d5877 (CWS yJx4a65c_grow_d5877 cJx4a65c_grow_d5877 1 (some (.array (.object "java/lang/Object")))) (RM 2 1 10) (PBx [.ref x] D cI cB cZ zz qq vv bt [(x, .inr (0, [.int mc, .ref zz, .int 0]))] sz) (va_Qq (fun (r : Option Nat) (u : Nat) => r = some u) (fun (u : Nat) (t : State) => va_P D vwCl [(x, .inr (0, [.int mc, .ref u, .int 0])), (u, .inl (D.1 99, 10, .inr (.inr (.inr (.inr (fun _ => none))))))] t.heap ∧ va_D (va_A [(x, .inr (0, [.int mc, .ref zz, .int 0]))] sz) [(x, .inr (0, [.int mc, .ref u, .int 0])), (u, .inl (D.1 99, 10, .inr (.inr (.inr (.inr (fun _ => none))))))]) (va_A [(x, .inr (0, [.int mc, .ref zz, .int 0]))] sz)) 1 10 (va_A [(x, .inr (0, [.int mc, .ref zz, .int 0]))] sz) := by
  refine Met.ofW (cc := cJx4a65c_grow_d5877) (maxL := 1) (ret := (some (.array (.object "java/lang/Object")))) (by decide) rfl ?_
  intro p e s m args below meth c s₁ B hml hv
  obtain ⟨rfl, hsz, hP, hK, hD0, hXS⟩ := hv
  have hx := B.exec
  have hb := B.bytes
  have hr := B.returns
  have hts := atoms_spec (ws := (CWS yJx4a65c_grow_d5877 cJx4a65c_grow_d5877 1 (some (.array (.object "java/lang/Object"))))) B.pre
  have hown : s.vm.findClass RJx4a65c = some m.cls := findClass_of_methodNamed B.named
  have hlocks := B.notSynchronized
  have S : SF p m c cJx4a65c_grow_d5877 1 s ([.ref x]).toArray RJx4a65c := ⟨hx, hb, hml, hown, fun w h => hts w (List.mem_cons_of_mem _ h)⟩
  subst hsz
  have hD := hD0.self (sz := s.heap.size)
  generalize hAe : va_A [(x, .inr (0, [.int mc, .ref zz, .int 0]))] s.heap.size = A at hD hXS ⊢
  have hA : ∀ q : Nat, s.heap.size ≤ q → A q := fun q h => by rw [← hAe]; exact Or.inr h
  have hS : va_S A s.heap s.heap [] := va_S.rf
  have hP : va_P D vwCl [(x, .inr (0, [.int mc, .ref zz, .int 0]))] s.heap := hP
  have hD : va_D A [(x, .inr (0, [.int mc, .ref zz, .int 0]))] := hD
  have hl := lv_entry ([.ref x]) (n := 1) (Nat.le_of_ble_eq_true rfl)
  rw [lg_entry_eq]
  generalize (lg_sl ([.ref x]) ++ List.replicate (1 - (lg_sl ([.ref x])).length) Slot.unset).toArray = ls at hl ⊢
  have hl : lv_has ls 1 [(0, .ref x)] := hl
  refine lv_aload_n hx hb dJx4a65c_grow_d5877_0 rfl (lv_at hl 0 rfl) ?_
  refine lv_aload_n hx hb dJx4a65c_grow_d5877_1 rfl (lv_at hl 0 rfl) ?_
  refine gf_RJx4a65c_48 S hK hP 0 rfl (v := .int 0) rfl dJx4a65c_grow_d5877_2 ?_
  refine lv_iconst (v := 1) hx hb dJx4a65c_grow_d5877_5 (by decide) ?_
  refine lv_iadd hx hb dJx4a65c_grow_d5877_6 ?_
  refine lv_topi (fun y_1 ey_1 => ?_)
  obtain rfl : y_1 = 1 := ey_1.trans (by decide)
  have hFc := va_free (wc := [(x, .inr (0, [.int mc, .ref zz, .int 0]))]) hD hS hA [0] rfl
  refine va_callq (runV_x (As := [.int 1]) (rest := []) S (q_l_grow1 l D cI cB cZ zz qq vv bt x mc s.heap.size) kV_RJx4a65c_69 hK hXS hS hFc hP hD [0] rfl rfl (by decide) 0 rfl rfl rfl ⟨Nat.le_of_ble_eq_true rfl, Nat.le_of_ble_eq_true rfl⟩ ⟨Nat.le_of_ble_eq_true rfl, Nat.le_of_ble_eq_true rfl⟩ rfl hl.1 rfl (Nat.le_of_ble_eq_true rfl) dJx4a65c_grow_d5877_7) hS (fun q _ h => hFc q h) hFc (fun r_2 u_3 t H1 locs ht hvm h_4 hB hz1 hk1 hS => ?_)
  obtain ⟨hP1, hD1⟩ := hB
  rw [ht] at hP1
  obtain ⟨hP, hD⟩ := va_join (wr := []) (w1 := [(x, .inr (0, [.int mc, .ref u_3, .int 0])), (u_3, .inl (D.1 99, 10, .inr (.inr (.inr (.inr (fun _ => none))))))]) hP hD [0] [] rfl rfl (by decide) (by decide) hk1 hFc hP1 hD1
  generalize H1 = H at hP hS ⊢
  have hP : va_P D vwCl [(x, .inr (0, [.int mc, .ref u_3, .int 0])), (u_3, .inl (D.1 99, 10, .inr (.inr (.inr (.inr (fun _ => none))))))] H := hP
  have hD : va_D A [(x, .inr (0, [.int mc, .ref u_3, .int 0])), (u_3, .inl (D.1 99, 10, .inr (.inr (.inr (.inr (fun _ => none))))))] := hD
  subst h_4
  have hP9 := hP.sub (ws' := [(x, .inr (0, [.int mc, .ref u_3, .int 0])), (u_3, .inl (D.1 99, 10, .inr (.inr (.inr (.inr (fun _ => none))))))]) [0, 1] rfl
  have hD9 := hD.sub (ws' := [(x, .inr (0, [.int mc, .ref u_3, .int 0])), (u_3, .inl (D.1 99, 10, .inr (.inr (.inr (.inr (fun _ => none))))))]) [0, 1] (by decide) rfl
  exact W.aret (v := .ref u_3) hx hb hr (by first | exact Or.inl ⟨_, rfl⟩ | exact Or.inr ⟨_, rfl⟩) (Or.inr ⟨_, rfl⟩) (fun t ht hW => ⟨⟨some u_3, u_3, rfl, rfl, by rw [ht]; exact hP9, hD9⟩, hS.F ht⟩) hS.2.2 dJx4a65c_grow_d5877_10
