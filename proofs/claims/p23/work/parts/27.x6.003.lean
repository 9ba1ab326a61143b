set_option maxRecDepth 100000 in
set_option maxHeartbeats 4000000 in
theorem q_l_grow1 (l : Launch) (D : va_G) (cI cB cZ : ClassId) (zz qq vv : Nat) (bt : Nat → Int32) (x : Nat) (mc : Int32) (sz : Nat) : Met l yJx4a65c_grow_92f84 (CWS yJx4a65c_grow_92f84 cJx4a65c_grow_92f84 4 (some (.array (.object "java/lang/Object")))) (RM 1 1 10) (PBx [.ref x, .int 1] D cI cB cZ zz qq vv bt [(x, .inr (0, [.int mc, .ref zz, .int 0]))] sz) (va_Qq (fun (r : Option Nat) (u : Nat) => r = some u) (fun (u : Nat) (t : State) => va_P D vwCl [(x, .inr (0, [.int mc, .ref u, .int 0])), (u, .inl (D.1 99, 10, .inr (.inr (.inr (.inr (fun _ => none))))))] t.heap ∧ va_D (va_A [(x, .inr (0, [.int mc, .ref zz, .int 0]))] sz) [(x, .inr (0, [.int mc, .ref u, .int 0])), (u, .inl (D.1 99, 10, .inr (.inr (.inr (.inr (fun _ => none))))))]) (va_A [(x, .inr (0, [.int mc, .ref zz, .int 0]))] sz)) 1 10 (va_A [(x, .inr (0, [.int mc, .ref zz, .int 0]))] sz) := by
  refine Met.ofW (cc := cJx4a65c_grow_92f84) (maxL := 4) (ret := (some (.array (.object "java/lang/Object")))) (by decide) rfl ?_
  intro p e s m args below meth c s₁ B hml hv
  obtain ⟨rfl, hsz, hP, hK, hD0, hXS⟩ := hv
  have hx := B.exec
  have hb := B.bytes
  have hr := B.returns
  have hts := atoms_spec (ws := (CWS yJx4a65c_grow_92f84 cJx4a65c_grow_92f84 4 (some (.array (.object "java/lang/Object"))))) B.pre
  have hown : s.vm.findClass RJx4a65c = some m.cls := findClass_of_methodNamed B.named
  have hlocks := B.notSynchronized
  have S : SF p m c cJx4a65c_grow_92f84 4 s ([.ref x, .int 1]).toArray RJx4a65c := ⟨hx, hb, hml, hown, fun w h => hts w (List.mem_cons_of_mem _ h)⟩
  subst hsz
  have hD := hD0.self (sz := s.heap.size)
  generalize hAe : va_A [(x, .inr (0, [.int mc, .ref zz, .int 0]))] s.heap.size = A at hD hXS ⊢
  have hA : ∀ q : Nat, s.heap.size ≤ q → A q := fun q h => by rw [← hAe]; exact Or.inr h
  have hS : va_S A s.heap s.heap [] := va_S.rf
  have hP : va_P D vwCl [(x, .inr (0, [.int mc, .ref zz, .int 0]))] s.heap := hP
  have hD : va_D A [(x, .inr (0, [.int mc, .ref zz, .int 0]))] := hD
  have hl := lv_entry ([.ref x, .int 1]) (n := 4) (Nat.le_of_ble_eq_true rfl)
  rw [lg_entry_eq]
  generalize (lg_sl ([.ref x, .int 1]) ++ List.replicate (4 - (lg_sl ([.ref x, .int 1])).length) Slot.unset).toArray = ls at hl ⊢
  have hl : lv_has ls 4 [(0, .ref x), (1, .int 1)] := hl
  refine lv_aload_n hx hb dJx4a65c_grow_92f84_0 rfl (lv_at hl 0 rfl) ?_
  refine gf_RJx4a65c_9 S hK hP 0 rfl (v := .ref zz) rfl dJx4a65c_grow_92f84_1 ?_
  refine va_tlen hx hb hXS.2.2.1 hS (v := 0) rfl dJx4a65c_grow_92f84_4 ?_
  refine lv_istore_n (lv' := [(2, .int 0), (0, .ref x), (1, .int 1)]) hx hb dJx4a65c_grow_92f84_5 rfl hl (by decide) rfl (fun ls hl => ?_)
  refine lv_iload_n hx hb dJx4a65c_grow_92f84_6 rfl (lv_at hl 0 rfl) ?_
  refine lv_if_gt (tgt := 20) hx hb dJx4a65c_grow_92f84_7 (by decide) (fun h => absurd h (by decide)) (fun _ => ?_)
  refine lv_aload_n hx hb dJx4a65c_grow_92f84_10 rfl (lv_at hl 1 rfl) ?_
  refine gf_RJx4a65c_9 S hK hP 0 rfl (v := .ref zz) rfl dJx4a65c_grow_92f84_11 ?_
  refine va_gets hx hb hXS.2.1 hS hown (S.2.2.2.2 _ (wT_t1 222 rfl rfl)) (fun _ h9 => h9) dJx4a65c_grow_92f84_14 ?_
  refine lv_acmp_eq (rx := some zz) (ry := some zz) (tgt := 45) hx hb dJx4a65c_grow_92f84_17 (by decide) (fun _ => ?_) (fun h => absurd rfl h)
  refine lv_aload_n hx hb dJx4a65c_grow_92f84_45 rfl (lv_at hl 1 rfl) ?_
  refine lv_bipush (v := 10) hx hb dJx4a65c_grow_92f84_46 (by decide) ?_
  refine lv_iload_n hx hb dJx4a65c_grow_92f84_48 rfl (lv_at hl 2 rfl) ?_
  refine va_mmax hx hb (by rw [hml]; exact hl.1.symm) hown (S.2.2.2.2 _ (wT_t2 171 rfl rfl)) (S.2.2.2.2 _ (wT_t1 42 rfl rfl)) (S.2.2.2.2 _ (wT_t1 3 rfl rfl)) (S.2.2.2.2 _ (wT_t1 43 rfl rfl)) (Nat.le_of_ble_eq_true rfl) (Nat.le_of_ble_eq_true rfl) (Nat.le_of_ble_eq_true rfl) (Nat.le_of_ble_eq_true rfl) dJx4a65c_grow_92f84_49 ?_
  refine lv_topi (fun y_1 ey_1 => ?_)
  obtain rfl : y_1 = 10 := ey_1.trans (by decide)
  refine newq_obj S hXS hK hP hD hS hA (N' := 10) (wT_t2 172 rfl rfl) (by decide) (by decide) (Nat.le_of_ble_eq_true rfl) (Nat.le_of_ble_eq_true rfl) (Nat.le_of_ble_eq_true rfl) dJx4a65c_grow_92f84_52 (fun q52 H hP hD hS => ?_)
  have hP : va_P D vwCl [(x, .inr (0, [.int mc, .ref zz, .int 0])), (q52, .inl (D.1 99, 10, .inr (.inr (.inr (.inr (fun _ => none))))))] H := hP
  have hD : va_D A [(x, .inr (0, [.int mc, .ref zz, .int 0])), (q52, .inl (D.1 99, 10, .inr (.inr (.inr (.inr (fun _ => none))))))] := hD
  refine lv_dup_x1 hx hb dJx4a65c_grow_92f84_55 rfl rfl ?_
  refine pf_RJx4a65c_9 S hK hP hD hS 0 rfl (v := .ref q52) (Nat.le_of_ble_eq_true rfl) rfl rfl dJx4a65c_grow_92f84_56 (fun H locs hP hD hS => ?_)
  have hP : va_P D vwCl [(x, .inr (0, [.int mc, .ref q52, .int 0])), (q52, .inl (D.1 99, 10, .inr (.inr (.inr (.inr (fun _ => none))))))] H := hP
  have hD : va_D A [(x, .inr (0, [.int mc, .ref q52, .int 0])), (q52, .inl (D.1 99, 10, .inr (.inr (.inr (.inr (fun _ => none))))))] := hD
  have hP9 := hP.sub (ws' := [(x, .inr (0, [.int mc, .ref q52, .int 0])), (q52, .inl (D.1 99, 10, .inr (.inr (.inr (.inr (fun _ => none))))))]) [0, 1] rfl
  have hD9 := hD.sub (ws' := [(x, .inr (0, [.int mc, .ref q52, .int 0])), (q52, .inl (D.1 99, 10, .inr (.inr (.inr (.inr (fun _ => none))))))]) [0, 1] (by decide) rfl
  exact W.aret (v := .ref q52) hx hb hr (by first | exact Or.inl ⟨_, rfl⟩ | exact Or.inr ⟨_, rfl⟩) (Or.inr ⟨_, rfl⟩) (fun t ht hW => ⟨⟨some q52, q52, rfl, rfl, by rw [ht]; exact hP9, hD9⟩, hS.F ht⟩) hS.2.2 dJx4a65c_grow_92f84_59
