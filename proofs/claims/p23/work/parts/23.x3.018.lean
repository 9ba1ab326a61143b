set_option maxRecDepth 100000 in
set_option maxHeartbeats 4000000 in
theorem q_Xworth (l : Launch) (D : va_G) (cI cB cZ : ClassId) (zz qq vv : Nat) (bt : Nat → Int32) (g : Nat → Nat) (ad : Nat → Nat → Nat) (cn : Nat → Nat) (In : Nat → Int32) (Fn : Nat → Nat → Int32) (v0 v1 : Int32) (hB : CBX cn) : Met l yX11_worth (CWS yX11_worth cX11_worth 3 (some .int)) (RM 4 0 0) (PBrx [.ref (g 0), .int v0, .int v1] D cI cB cZ zz qq vv bt (wX cI (D.1 99) zz g ad cn In Fn)) (vp_Si (fun _ => True)) 0 0 (fun _ => False) := by
  refine Met.ofW (cc := cX11_worth) (maxL := 3) (ret := (some .int)) (by decide) rfl ?_
  intro p e s m args below meth c s₁ B hml hv
  obtain ⟨rfl, hP, hK, hXS⟩ := hv
  have hS : va_S (fun _ => False) s.heap s.heap [] := va_S.rf
  have hx := B.exec
  have hb := B.bytes
  have hr := B.returns
  have hts := atoms_spec (ws := (CWS yX11_worth cX11_worth 3 (some .int))) B.pre
  have hown : s.vm.findClass RX11 = some m.cls := findClass_of_methodNamed B.named
  have hlocks := B.notSynchronized
  have S : SF p m c cX11_worth 3 s ([.ref (g 0), .int v0, .int v1]).toArray RX11 := ⟨hx, hb, hml, hown, fun w h => hts w (List.mem_cons_of_mem _ h)⟩
  have hl := lv_entry ([.ref (g 0), .int v0, .int v1]) (n := 3) (Nat.le_of_ble_eq_true rfl)
  rw [lg_entry_eq]
  generalize (lg_sl ([.ref (g 0), .int v0, .int v1]) ++ List.replicate (3 - (lg_sl ([.ref (g 0), .int v0, .int v1])).length) Slot.unset).toArray = ls at hl ⊢
  have hl : lv_has ls 3 [(0, .ref (g 0)), (1, .int v0), (2, .int v1)] := hl
  refine lv_iload_n hx hb dX11_worth_0 rfl (lv_at hl 1 rfl) ?_
  refine lv_iconst (v := 0) hx hb dX11_worth_1 (by decide) ?_
  refine lv_sipush (v := 200) hx hb dX11_worth_2 (by decide) ?_
  refine vp_callSi (runS_r (As := [.int v0, .int 0, .int 200]) (rest := []) S (q_l_within l D cI cB cZ v0 0 200) kS_RX11_80 hK hP [] rfl ⟨Nat.le_of_ble_eq_true rfl, Nat.le_of_ble_eq_true rfl⟩ ⟨Nat.le_of_ble_eq_true rfl, Nat.le_of_ble_eq_true rfl⟩ rfl hl.1 rfl (Nat.le_of_ble_eq_true rfl) dX11_worth_5) (fun r_1 h_2 => ?_)
  rcases h_2 with ⟨rfl, h_2⟩ | ⟨rfl, h_2⟩
  ·
    have h_2 : 0 ≤ v0.toInt ∧ v0.toInt ≤ 200 := h_2
    refine lv_if_eq (tgt := 31) hx hb dX11_worth_8 (by decide) (fun h => absurd h (by decide)) (fun _ => ?_)
    refine lv_iload_n hx hb dX11_worth_11 rfl (lv_at hl 2 rfl) ?_
    refine lv_iconst (v := 0) hx hb dX11_worth_12 (by decide) ?_
    refine lv_sipush (v := 1000) hx hb dX11_worth_13 (by decide) ?_
    refine vp_callSi (runS_r (As := [.int v1, .int 0, .int 1000]) (rest := []) S (q_l_within l D cI cB cZ v1 0 1000) kS_RX11_80 hK hP [] rfl ⟨Nat.le_of_ble_eq_true rfl, Nat.le_of_ble_eq_true rfl⟩ ⟨Nat.le_of_ble_eq_true rfl, Nat.le_of_ble_eq_true rfl⟩ rfl hl.1 rfl (Nat.le_of_ble_eq_true rfl) dX11_worth_16) (fun r_3 h_4 => ?_)
    rcases h_4 with ⟨rfl, h_4⟩ | ⟨rfl, h_4⟩
    ·
      have h_4 : 0 ≤ v1.toInt ∧ v1.toInt ≤ 1000 := h_4
      refine lv_if_eq (tgt := 31) hx hb dX11_worth_19 (by decide) (fun h => absurd h (by decide)) (fun _ => ?_)
      refine lv_aload_n hx hb dX11_worth_22 rfl (lv_at hl 0 rfl) ?_
      refine lv_iload_n hx hb dX11_worth_23 rfl (lv_at hl 1 rfl) ?_
      refine lv_iload_n hx hb dX11_worth_24 rfl (lv_at hl 2 rfl) ?_
      refine vp_callSi (runV_rxa (As := [.int v0, .int v1]) (rest := []) S (q_XworthOf l D cI cB cZ zz qq vv bt g ad cn In Fn v0 v1 hB) kV_RX11_460 hK hXS hS hP 0 xo_0 rfl rfl ⟨Nat.le_of_ble_eq_true rfl, Nat.le_of_ble_eq_true rfl⟩ ⟨Nat.le_of_ble_eq_true rfl, Nat.le_of_ble_eq_true rfl⟩ rfl hl.1 rfl (Nat.le_of_ble_eq_true rfl) dX11_worth_25) (fun r_5 h_6 => ?_)
      refine lv_goto (tgt := 34) hx hb dX11_worth_28 (by decide) ?_
      exact W.iret (v := r_5) hx hb hr (fun t ht hW => ⟨r_5, rfl, trivial, ht⟩) (fun _ h => absurd h List.not_mem_nil) dX11_worth_34
    ·
      have h_4 : ¬ (0 ≤ v1.toInt ∧ v1.toInt ≤ 1000) := h_4
      refine lv_if_eq (tgt := 31) hx hb dX11_worth_19 (by decide) (fun _ => ?_) (fun h => absurd h (by decide))
      refine lv_ldcw (v := (-1000000)) hx hb hown (S.2.2.2.2 _ (wT_t5 184 rfl rfl)) dX11_worth_31 ?_
      exact W.iret (v := (-1000000)) hx hb hr (fun t ht hW => ⟨(-1000000), rfl, trivial, ht⟩) (fun _ h => absurd h List.not_mem_nil) dX11_worth_34
  ·
    have h_2 : ¬ (0 ≤ v0.toInt ∧ v0.toInt ≤ 200) := h_2
    refine lv_if_eq (tgt := 31) hx hb dX11_worth_8 (by decide) (fun _ => ?_) (fun h => absurd h (by decide))
    refine lv_ldcw (v := (-1000000)) hx hb hown (S.2.2.2.2 _ (wT_t5 184 rfl rfl)) dX11_worth_31 ?_
    exact W.iret (v := (-1000000)) hx hb hr (fun t ht hW => ⟨(-1000000), rfl, trivial, ht⟩) (fun _ h => absurd h List.not_mem_nil) dX11_worth_34
