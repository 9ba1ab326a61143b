set_option maxRecDepth 100000 in
set_option maxHeartbeats 4000000 in
theorem q_l_Proof (l : Launch) (D : va_G) (cI cB cZ : ClassId) (x : Nat) (v0 v1 v2 v3 v4 : Int32) (sz : Nat) : Met l yX4_init (CWS yX4_init cX4_init 6 none) (RM 1 0 0) (PBw [.ref x, .int v0, .int v1, .int v2, .int v3, .int v4] D cI cB cZ [(x, .inr (5, [.int 0, .int 0, .int 0, .int 0, .int 0]))] sz) (va_Qv (fun (_ : Unit) => True) (fun (u : Unit) (t : State) => va_P D vwCl [(x, .inr (5, [.int v0, .int v1, .int v2, .int v3, .int v4]))] t.heap ∧ va_D (va_A [(x, .inr (5, [.int 0, .int 0, .int 0, .int 0, .int 0]))] sz) [(x, .inr (5, [.int v0, .int v1, .int v2, .int v3, .int v4]))]) (va_A [(x, .inr (5, [.int 0, .int 0, .int 0, .int 0, .int 0]))] sz)) 0 0 (va_A [(x, .inr (5, [.int 0, .int 0, .int 0, .int 0, .int 0]))] sz) := by
  refine Met.ofW (cc := cX4_init) (maxL := 6) (ret := none) (by decide) rfl ?_
  intro p e s m args below meth c s₁ B hml hv
  obtain ⟨rfl, hsz, hP, hK, hD0⟩ := hv
  have hx := B.exec
  have hb := B.bytes
  have hr := B.returns
  have hts := atoms_spec (ws := (CWS yX4_init cX4_init 6 none)) B.pre
  have hown : s.vm.findClass RX4 = some m.cls := findClass_of_methodNamed B.named
  have hlocks := B.notSynchronized
  have hin : meth.name = "<init>" := (name_of_methodNamed B.named B.method).1
  have S : SF p m c cX4_init 6 s ([.ref x, .int v0, .int v1, .int v2, .int v3, .int v4]).toArray RX4 := ⟨hx, hb, hml, hown, fun w h => hts w (List.mem_cons_of_mem _ h)⟩
  subst hsz
  have hD := hD0.self (sz := s.heap.size)
  generalize hAe : va_A [(x, .inr (5, [.int 0, .int 0, .int 0, .int 0, .int 0]))] s.heap.size = A at hD ⊢
  have hA : ∀ q : Nat, s.heap.size ≤ q → A q := fun q h => by rw [← hAe]; exact Or.inr h
  have hS : va_S A s.heap s.heap [] := va_S.rf
  have hP : va_P D vwCl [(x, .inr (5, [.int 0, .int 0, .int 0, .int 0, .int 0]))] s.heap := hP
  have hD : va_D A [(x, .inr (5, [.int 0, .int 0, .int 0, .int 0, .int 0]))] := hD
  have hl := lv_entry ([.ref x, .int v0, .int v1, .int v2, .int v3, .int v4]) (n := 6) (Nat.le_of_ble_eq_true rfl)
  rw [lg_entry_eq]
  generalize (lg_sl ([.ref x, .int v0, .int v1, .int v2, .int v3, .int v4]) ++ List.replicate (6 - (lg_sl ([.ref x, .int v0, .int v1, .int v2, .int v3, .int v4])).length) Slot.unset).toArray = ls at hl ⊢
  have hl : lv_has ls 6 [(0, .ref x), (1, .int v0), (2, .int v1), (3, .int v2), (4, .int v3), (5, .int v4)] := hl
  refine lv_aload_n hx hb dX4_init_0 rfl (lv_at hl 0 rfl) ?_
  refine W.objInit hx hb hown (S.2.2.2.2 _ (wT_t5 76 rfl rfl)) (S.2.2.2.2 _ (wT_t1 33 rfl rfl)) (S.2.2.2.2 _ (wT_t1 34 rfl rfl)) rfl (by rw [hml]; exact hl.1) rfl dX4_init_1 (Nat.le_of_ble_eq_true rfl) (Nat.le_of_ble_eq_true rfl) ?_
  refine W.eq (g2 := F0 m 4 ls []) rfl ?_
  refine lv_aload_n hx hb dX4_init_4 rfl (lv_at hl 0 rfl) ?_
  refine lv_iload_n hx hb dX4_init_5 rfl (lv_at hl 1 rfl) ?_
  refine pf_RX4_7 S hin hK hP hD hS 0 rfl (v := .int v0) (Nat.le_of_ble_eq_true rfl) rfl rfl dX4_init_6 (fun H locs hP hD hS => ?_)
  have hP : va_P D vwCl [(x, .inr (5, [.int v0, .int 0, .int 0, .int 0, .int 0]))] H := hP
  have hD : va_D A [(x, .inr (5, [.int v0, .int 0, .int 0, .int 0, .int 0]))] := hD
  refine lv_aload_n hx hb dX4_init_9 rfl (lv_at hl 0 rfl) ?_
  refine lv_iload_n hx hb dX4_init_10 rfl (lv_at hl 2 rfl) ?_
  refine pf_RX4_13 S hin hK hP hD hS 0 rfl (v := .int v1) (Nat.le_of_ble_eq_true rfl) rfl rfl dX4_init_11 (fun H locs hP hD hS => ?_)
  have hP : va_P D vwCl [(x, .inr (5, [.int v0, .int v1, .int 0, .int 0, .int 0]))] H := hP
  have hD : va_D A [(x, .inr (5, [.int v0, .int v1, .int 0, .int 0, .int 0]))] := hD
  refine lv_aload_n hx hb dX4_init_14 rfl (lv_at hl 0 rfl) ?_
  refine lv_iload_n hx hb dX4_init_15 rfl (lv_at hl 3 rfl) ?_
  refine pf_RX4_16 S hin hK hP hD hS 0 rfl (v := .int v2) (Nat.le_of_ble_eq_true rfl) rfl rfl dX4_init_16 (fun H locs hP hD hS => ?_)
  have hP : va_P D vwCl [(x, .inr (5, [.int v0, .int v1, .int v2, .int 0, .int 0]))] H := hP
  have hD : va_D A [(x, .inr (5, [.int v0, .int v1, .int v2, .int 0, .int 0]))] := hD
  refine lv_aload_n hx hb dX4_init_19 rfl (lv_at hl 0 rfl) ?_
  refine lv_iload hx hb dX4_init_20 (lv_at hl 4 rfl) ?_
  refine pf_RX4_19 S hin hK hP hD hS 0 rfl (v := .int v3) (Nat.le_of_ble_eq_true rfl) rfl rfl dX4_init_22 (fun H locs hP hD hS => ?_)
  have hP : va_P D vwCl [(x, .inr (5, [.int v0, .int v1, .int v2, .int v3, .int 0]))] H := hP
  have hD : va_D A [(x, .inr (5, [.int v0, .int v1, .int v2, .int v3, .int 0]))] := hD
  refine lv_aload_n hx hb dX4_init_25 rfl (lv_at hl 0 rfl) ?_
  refine lv_iload hx hb dX4_init_26 (lv_at hl 5 rfl) ?_
  refine pf_RX4_22 S hin hK hP hD hS 0 rfl (v := .int v4) (Nat.le_of_ble_eq_true rfl) rfl rfl dX4_init_28 (fun H locs hP hD hS => ?_)
  have hP : va_P D vwCl [(x, .inr (5, [.int v0, .int v1, .int v2, .int v3, .int v4]))] H := hP
  have hD : va_D A [(x, .inr (5, [.int v0, .int v1, .int v2, .int v3, .int v4]))] := hD
  have hP9 := hP.sub (ws' := [(x, .inr (5, [.int v0, .int v1, .int v2, .int v3, .int v4]))]) [0] rfl
  have hD9 := hD.sub (ws' := [(x, .inr (5, [.int v0, .int v1, .int v2, .int v3, .int v4]))]) [0] (by decide) rfl
  exact W.vret hx hb hr (fun t ht hW => ⟨⟨(), rfl, trivial, by rw [ht]; exact hP9, hD9⟩, hS.F ht⟩) hS.2.2 dX4_init_31
