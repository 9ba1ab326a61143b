set_option maxRecDepth 100000 in
set_option maxHeartbeats 4000000 in
theorem q_Xstood (l : Launch) (D : va_G) (cI cB cZ : ClassId) (zz qq vv : Nat) (bt : Nat → Int32) (g : Nat → Nat) (ad : Nat → Nat → Nat) (cn : Nat → Nat) (In : Nat → Int32) (Fn : Nat → Nat → Int32) (v0 v1 : Int32) (hB : CBX cn) : Met l yX11_stood (CWS yX11_stood cX11_stood 4 (some .int)) (RM 4 0 0) (PBrx [.ref (g 0), .int v0, .int v1] D cI cB cZ zz qq vv bt (wX cI (D.1 99) zz g ad cn In Fn)) (vp_Si (fun _ => True)) 0 0 (fun _ => False) := by
  refine Met.ofW (cc := cX11_stood) (maxL := 4) (ret := (some .int)) (by decide) rfl ?_
  intro p e s m args below meth c s₁ B hml hv
  obtain ⟨rfl, hP, hK, hXS⟩ := hv
  have hS : va_S (fun _ => False) s.heap s.heap [] := va_S.rf
  have hx := B.exec
  have hb := B.bytes
  have hr := B.returns
  have hts := atoms_spec (ws := (CWS yX11_stood cX11_stood 4 (some .int))) B.pre
  have hown : s.vm.findClass RX11 = some m.cls := findClass_of_methodNamed B.named
  have hlocks := B.notSynchronized
  have S : SF p m c cX11_stood 4 s ([.ref (g 0), .int v0, .int v1]).toArray RX11 := ⟨hx, hb, hml, hown, fun w h => hts w (List.mem_cons_of_mem _ h)⟩
  have hl := lv_entry ([.ref (g 0), .int v0, .int v1]) (n := 4) (Nat.le_of_ble_eq_true rfl)
  rw [lg_entry_eq]
  generalize (lg_sl ([.ref (g 0), .int v0, .int v1]) ++ List.replicate (4 - (lg_sl ([.ref (g 0), .int v0, .int v1])).length) Slot.unset).toArray = ls at hl ⊢
  have hl : lv_has ls 4 [(0, .ref (g 0)), (1, .int v0), (2, .int v1)] := hl
  refine lv_iload_n hx hb dX11_stood_0 rfl (lv_at hl 1 rfl) ?_
  refine lv_iconst (v := 0) hx hb dX11_stood_1 (by decide) ?_
  refine lv_aload_n hx hb dX11_stood_2 rfl (lv_at hl 0 rfl) ?_
  refine gf_RX11_502 S hK hP 0 xo_0 (v := .int (nI (cn 2))) rfl dX11_stood_3 ?_
  refine lv_iconst (v := 1) hx hb dX11_stood_6 (by decide) ?_
  refine lv_isub hx hb dX11_stood_7 ?_
  refine vp_callSi (runS_r (As := [.int v0, .int 0, .int ((nI (cn 2)) - 1)]) (rest := []) S (q_l_within l D cI cB cZ v0 0 ((nI (cn 2)) - 1)) kS_RX11_80 hK hP [] rfl ⟨Nat.le_of_ble_eq_true rfl, Nat.le_of_ble_eq_true rfl⟩ ⟨Nat.le_of_ble_eq_true rfl, Nat.le_of_ble_eq_true rfl⟩ rfl hl.1 rfl (Nat.le_of_ble_eq_true rfl) dX11_stood_8) (fun r_1 h_2 => ?_)
  rcases h_2 with ⟨rfl, h_2⟩ | ⟨rfl, h_2⟩
  ·
    have h_2 : 0 ≤ v0.toInt ∧ v0.toInt ≤ ((nI (cn 2)) - 1).toInt := h_2
    refine lv_if_eq (tgt := 21) hx hb dX11_stood_11 (by decide) (fun h => absurd h (by decide)) (fun _ => ?_)
    refine lv_iload_n hx hb dX11_stood_14 rfl (lv_at hl 2 rfl) ?_
    refine vp_callSi (runS_r (As := [.int v1]) (rest := []) S (q_l_isDay l D cI cB cZ v1) kS_RX11_99 hK hP [] rfl ⟨Nat.le_of_ble_eq_true rfl, Nat.le_of_ble_eq_true rfl⟩ ⟨Nat.le_of_ble_eq_true rfl, Nat.le_of_ble_eq_true rfl⟩ rfl hl.1 rfl (Nat.le_of_ble_eq_true rfl) dX11_stood_15) (fun r_3 h_4 => ?_)
    rcases h_4 with ⟨rfl, h_4⟩ | ⟨rfl, h_4⟩
    ·
      have h_4 : 0 ≤ v1.toInt ∧ v1.toInt ≤ 399 := h_4
      refine lv_if_ne (tgt := 23) hx hb dX11_stood_18 (by decide) (fun _ => ?_) (fun h => absurd h (by decide))
      refine lv_aload_n hx hb dX11_stood_23 rfl (lv_at hl 0 rfl) ?_
      refine lv_iload_n hx hb dX11_stood_24 rfl (lv_at hl 1 rfl) ?_
      refine lv_iload_n hx hb dX11_stood_25 rfl (lv_at hl 2 rfl) ?_
      refine va_csq (runV_rxa (As := [.int v0, .int v1]) (rest := []) S (q_XmoveBy l D cI cB cZ zz qq vv bt g ad cn In Fn v0 v1 hB) kV_RX11_509 hK hXS hS hP 0 xo_0 rfl rfl ⟨Nat.le_of_ble_eq_true rfl, Nat.le_of_ble_eq_true rfl⟩ ⟨Nat.le_of_ble_eq_true rfl, Nat.le_of_ble_eq_true rfl⟩ rfl hl.1 rfl (Nat.le_of_ble_eq_true rfl) dX11_stood_26) (fun r_5 h_6 => ?_)
      rcases h_6 with ⟨mr_5, er_5, hr_5, rfl⟩ | ⟨hr_5, rfl⟩
      ·
        refine lv_astore_n (lv' := [(3, .ref (ad 15 mr_5)), (0, .ref (g 0)), (1, .int v0), (2, .int v1)]) hx hb dX11_stood_29 rfl hl (by decide) rfl (fun ls hl => ?_)
        refine lv_aload_n hx hb dX11_stood_30 rfl (lv_at hl 0 rfl) ?_
        refine lv_ifnull hx hb dX11_stood_31 ?_
        refine lv_aload_n hx hb dX11_stood_34 rfl (lv_at hl 0 rfl) ?_
        refine gf_RX11_516 S hK hP _ (xf_5 (by omega)) (v := .int ((Fn 181) mr_5)) rfl dX11_stood_35 ?_
        refine lv_iconst (v := (-1)) hx hb dX11_stood_38 (by decide) ?_
        refine lv_icmp_ne (tgt := 47) hx hb dX11_stood_39 (by decide) (fun c_7 => ?_) (fun c_7 => ?_)
        ·
          have tc_7 : (((Fn 181) mr_5).toInt : Int) ≠ (-1) := fun q => c_7 (Int32.toInt_inj.mp q)
          refine lv_aload_n hx hb dX11_stood_47 rfl (lv_at hl 0 rfl) ?_
          refine gf_RX11_516 S hK hP _ (xf_5 (by omega)) (v := .int ((Fn 181) mr_5)) rfl dX11_stood_48 ?_
          exact W.iret (v := ((Fn 181) mr_5)) hx hb hr (fun t ht hW => ⟨((Fn 181) mr_5), rfl, trivial, ht⟩) (fun _ h => absurd h List.not_mem_nil) dX11_stood_51
        ·
          have tc_7 : (((Fn 181) mr_5).toInt : Int) = (-1) := congrArg Int32.toInt c_7
          refine lv_bipush (v := (-2)) hx hb dX11_stood_42 (by decide) ?_
          refine lv_goto (tgt := 51) hx hb dX11_stood_44 (by decide) ?_
          exact W.iret (v := (-2)) hx hb hr (fun t ht hW => ⟨(-2), rfl, trivial, ht⟩) (fun _ h => absurd h List.not_mem_nil) dX11_stood_51
      ·
        refine lv_astore_nN (lv' := [(3, .null), (0, .ref (g 0)), (1, .int v0), (2, .int v1)]) hx hb dX11_stood_29 rfl hl (by decide) rfl (fun ls hl => ?_)
        refine lv_aload_nN hx hb dX11_stood_30 rfl (lv_at hl 0 rfl) ?_
        refine lv_ifnullN (tgt := 42) hx hb dX11_stood_31 (by decide) ?_
        refine lv_bipush (v := (-2)) hx hb dX11_stood_42 (by decide) ?_
        refine lv_goto (tgt := 51) hx hb dX11_stood_44 (by decide) ?_
        exact W.iret (v := (-2)) hx hb hr (fun t ht hW => ⟨(-2), rfl, trivial, ht⟩) (fun _ h => absurd h List.not_mem_nil) dX11_stood_51
    ·
      have h_4 : ¬ (0 ≤ v1.toInt ∧ v1.toInt ≤ 399) := h_4
      refine lv_if_ne (tgt := 23) hx hb dX11_stood_18 (by decide) (fun h => absurd h (by decide)) (fun _ => ?_)
      refine lv_iconst (v := (-1)) hx hb dX11_stood_21 (by decide) ?_
      exact W.iret (v := (-1)) hx hb hr (fun t ht hW => ⟨(-1), rfl, trivial, ht⟩) (fun _ h => absurd h List.not_mem_nil) dX11_stood_22
  ·
    have h_2 : ¬ (0 ≤ v0.toInt ∧ v0.toInt ≤ ((nI (cn 2)) - 1).toInt) := h_2
    refine lv_if_eq (tgt := 21) hx hb dX11_stood_11 (by decide) (fun _ => ?_) (fun h => absurd h (by decide))
    refine lv_iconst (v := (-1)) hx hb dX11_stood_21 (by decide) ?_
    exact W.iret (v := (-1)) hx hb hr (fun t ht hW => ⟨(-1), rfl, trivial, ht⟩) (fun _ h => absurd h List.not_mem_nil) dX11_stood_22
