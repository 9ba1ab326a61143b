set_option maxRecDepth 100000 in
set_option maxHeartbeats 4000000 in
theorem q_l_addNM (l : Launch) (D : va_G) (cI cB cZ : ClassId) (zz qq vv : Nat) (bt : Nat → Int32) (x z c0 n eo : Nat) (mc : Int32) (rf : Nat → Option Nat) (e0 e1 e2 : Int32) (sz : Nat) (hn : n < c0) (hc : c0 < 2147483648) : Met l yJx4a65c_add_9ea2d (CWS yJx4a65c_add_9ea2d cJx4a65c_add_9ea2d 2 (some .boolean)) (RM 1 0 0) (PBx [.ref x, .ref eo] D cI cB cZ zz qq vv bt [(x, .inr (0, [.int mc, .ref z, .int (nI n)])), (z, .inl (D.1 99, c0, .inr (.inr (.inr (.inr rf))))), (eo, .inr (4, [.int e0, .int e1, .int e2]))] sz) (va_Qi (fun (r : Int32) (_ : Unit) => r = 1) (fun (u : Unit) (t : State) => va_P D vwCl [(x, .inr (0, [.int (mc + 1), .ref z, .int (nI (n + 1))])), (z, .inl (D.1 99, c0, .inr (.inr (.inr (.inr (va_up rf n (some eo))))))), (eo, .inr (4, [.int e0, .int e1, .int e2]))] t.heap ∧ va_D (va_A [(x, .inr (0, [.int mc, .ref z, .int (nI n)])), (z, .inl (D.1 99, c0, .inr (.inr (.inr (.inr rf))))), (eo, .inr (4, [.int e0, .int e1, .int e2]))] sz) [(x, .inr (0, [.int (mc + 1), .ref z, .int (nI (n + 1))])), (z, .inl (D.1 99, c0, .inr (.inr (.inr (.inr (va_up rf n (some eo))))))), (eo, .inr (4, [.int e0, .int e1, .int e2]))]) (va_A [(x, .inr (0, [.int mc, .ref z, .int (nI n)])), (z, .inl (D.1 99, c0, .inr (.inr (.inr (.inr rf))))), (eo, .inr (4, [.int e0, .int e1, .int e2]))] sz)) 0 0 (va_A [(x, .inr (0, [.int mc, .ref z, .int (nI n)])), (z, .inl (D.1 99, c0, .inr (.inr (.inr (.inr rf))))), (eo, .inr (4, [.int e0, .int e1, .int e2]))] sz) := by
  refine Met.ofW (cc := cJx4a65c_add_9ea2d) (maxL := 2) (ret := (some .boolean)) (by decide) rfl ?_
  intro p e s m args below meth c s₁ B hml hv
  obtain ⟨rfl, hsz, hP, hK, hD0, hXS⟩ := hv
  have hx := B.exec
  have hb := B.bytes
  have hr := B.returns
  have hts := atoms_spec (ws := (CWS yJx4a65c_add_9ea2d cJx4a65c_add_9ea2d 2 (some .boolean))) B.pre
  have hown : s.vm.findClass RJx4a65c = some m.cls := findClass_of_methodNamed B.named
  have hlocks := B.notSynchronized
  have S : SF p m c cJx4a65c_add_9ea2d 2 s ([.ref x, .ref eo]).toArray RJx4a65c := ⟨hx, hb, hml, hown, fun w h => hts w (List.mem_cons_of_mem _ h)⟩
  subst hsz
  have hD := hD0.self (sz := s.heap.size)
  generalize hAe : va_A [(x, .inr (0, [.int mc, .ref z, .int (nI n)])), (z, .inl (D.1 99, c0, .inr (.inr (.inr (.inr rf))))), (eo, .inr (4, [.int e0, .int e1, .int e2]))] s.heap.size = A at hD hXS ⊢
  have hA : ∀ q : Nat, s.heap.size ≤ q → A q := fun q h => by rw [← hAe]; exact Or.inr h
  have hS : va_S A s.heap s.heap [] := va_S.rf
  have hP : va_P D vwCl [(x, .inr (0, [.int mc, .ref z, .int (nI n)])), (z, .inl (D.1 99, c0, .inr (.inr (.inr (.inr rf))))), (eo, .inr (4, [.int e0, .int e1, .int e2]))] s.heap := hP
  have hD : va_D A [(x, .inr (0, [.int mc, .ref z, .int (nI n)])), (z, .inl (D.1 99, c0, .inr (.inr (.inr (.inr rf))))), (eo, .inr (4, [.int e0, .int e1, .int e2]))] := hD
  have hl := lv_entry ([.ref x, .ref eo]) (n := 2) (Nat.le_of_ble_eq_true rfl)
  rw [lg_entry_eq]
  generalize (lg_sl ([.ref x, .ref eo]) ++ List.replicate (2 - (lg_sl ([.ref x, .ref eo])).length) Slot.unset).toArray = ls at hl ⊢
  have hl : lv_has ls 2 [(0, .ref x), (1, .ref eo)] := hl
  refine lv_aload_n hx hb dJx4a65c_add_9ea2d_0 rfl (lv_at hl 0 rfl) ?_
  refine lv_dup hx hb dJx4a65c_add_9ea2d_1 rfl ?_
  refine gf_RJx4a65c_63 S hK hP 0 rfl (v := .int mc) rfl dJx4a65c_add_9ea2d_2 ?_
  refine lv_iconst (v := 1) hx hb dJx4a65c_add_9ea2d_5 (by decide) ?_
  refine lv_iadd hx hb dJx4a65c_add_9ea2d_6 ?_
  refine pf_RJx4a65c_63 S hK hP hD hS 0 rfl (v := .int (mc + 1)) (Nat.le_of_ble_eq_true rfl) rfl rfl dJx4a65c_add_9ea2d_7 (fun H locs hP hD hS => ?_)
  have hP : va_P D vwCl [(x, .inr (0, [.int (mc + 1), .ref z, .int (nI n)])), (z, .inl (D.1 99, c0, .inr (.inr (.inr (.inr rf))))), (eo, .inr (4, [.int e0, .int e1, .int e2]))] H := hP
  have hD : va_D A [(x, .inr (0, [.int (mc + 1), .ref z, .int (nI n)])), (z, .inl (D.1 99, c0, .inr (.inr (.inr (.inr rf))))), (eo, .inr (4, [.int e0, .int e1, .int e2]))] := hD
  refine lv_aload_n hx hb dJx4a65c_add_9ea2d_10 rfl (lv_at hl 0 rfl) ?_
  refine lv_aload_n hx hb dJx4a65c_add_9ea2d_11 rfl (lv_at hl 1 rfl) ?_
  refine lv_aload_n hx hb dJx4a65c_add_9ea2d_12 rfl (lv_at hl 0 rfl) ?_
  refine gf_RJx4a65c_9 S hK hP 0 rfl (v := .ref z) rfl dJx4a65c_add_9ea2d_13 ?_
  refine lv_aload_n hx hb dJx4a65c_add_9ea2d_16 rfl (lv_at hl 0 rfl) ?_
  refine gf_RJx4a65c_48 S hK hP 0 rfl (v := .int (nI n)) rfl dJx4a65c_add_9ea2d_17 ?_
  have hFc := va_free (wc := [(x, .inr (0, [.int (mc + 1), .ref z, .int (nI n)])), (z, .inl (D.1 99, c0, .inr (.inr (.inr (.inr rf))))), (eo, .inr (4, [.int e0, .int e1, .int e2]))]) hD hS hA [0, 1, 2] rfl
  refine va_callv (runV_x (As := [.ref eo, .ref z, .int (nI n)]) (rest := []) S (q_l_add3NM l D cI cB cZ zz qq vv bt x z c0 n eo (mc + 1) rf e0 e1 e2 H.size (by omega) (by omega)) kV_RJx4a65c_131 hK hXS hS hFc hP hD [0, 1, 2] rfl rfl (by decide) 0 rfl rfl rfl ⟨Nat.le_of_ble_eq_true rfl, Nat.le_of_ble_eq_true rfl⟩ ⟨Nat.le_of_ble_eq_true rfl, Nat.le_of_ble_eq_true rfl⟩ rfl hl.1 rfl (Nat.le_of_ble_eq_true rfl) dJx4a65c_add_9ea2d_20) hS (fun q _ h => hFc q h) hFc (fun u_2 t H1 locs ht hvm h_3 hB hz1 hk1 hS => ?_)
  obtain ⟨hP1, hD1⟩ := hB
  rw [ht] at hP1
  obtain ⟨hP, hD⟩ := va_join (wr := []) (w1 := [(x, .inr (0, [.int (mc + 1), .ref z, .int (nI (n + 1))])), (z, .inl (D.1 99, c0, .inr (.inr (.inr (.inr (va_up rf n (some eo))))))), (eo, .inr (4, [.int e0, .int e1, .int e2]))]) hP hD [0, 1, 2] [] rfl rfl (by decide) (by decide) hk1 hFc hP1 hD1
  generalize H1 = H at hP hS ⊢
  have hP : va_P D vwCl [(x, .inr (0, [.int (mc + 1), .ref z, .int (nI (n + 1))])), (z, .inl (D.1 99, c0, .inr (.inr (.inr (.inr (va_up rf n (some eo))))))), (eo, .inr (4, [.int e0, .int e1, .int e2]))] H := hP
  have hD : va_D A [(x, .inr (0, [.int (mc + 1), .ref z, .int (nI (n + 1))])), (z, .inl (D.1 99, c0, .inr (.inr (.inr (.inr (va_up rf n (some eo))))))), (eo, .inr (4, [.int e0, .int e1, .int e2]))] := hD
  refine lv_iconst (v := 1) hx hb dJx4a65c_add_9ea2d_23 (by decide) ?_
  have hP9 := hP.sub (ws' := [(x, .inr (0, [.int (mc + 1), .ref z, .int (nI (n + 1))])), (z, .inl (D.1 99, c0, .inr (.inr (.inr (.inr (va_up rf n (some eo))))))), (eo, .inr (4, [.int e0, .int e1, .int e2]))]) [0, 1, 2] rfl
  have hD9 := hD.sub (ws' := [(x, .inr (0, [.int (mc + 1), .ref z, .int (nI (n + 1))])), (z, .inl (D.1 99, c0, .inr (.inr (.inr (.inr (va_up rf n (some eo))))))), (eo, .inr (4, [.int e0, .int e1, .int e2]))]) [0, 1, 2] (by decide) rfl
  exact W.zret (v := 1) hx hb hr rfl (fun t ht hW => ⟨⟨1, (), rfl, rfl, by rw [ht]; exact hP9, hD9⟩, hS.F ht⟩) hS.2.2 dJx4a65c_add_9ea2d_24
