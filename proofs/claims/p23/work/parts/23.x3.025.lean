set_option maxRecDepth 100000 in
set_option maxHeartbeats 4000000 in
theorem q_Xfeasted (l : Launch) (D : va_G) (cI cB cZ : ClassId) (zz qq vv : Nat) (bt : Nat → Int32) (g : Nat → Nat) (ad : Nat → Nat → Nat) (cn : Nat → Nat) (In : Nat → Int32) (Fn : Nat → Nat → Int32) (v0 v1 : Int32) (hB : CBX cn) (hF : ∀ k : Nat, k < cn 11 → ∃ a b : Nat, a ≤ 399 ∧ b ≤ 399 ∧ Fn 126 k = nI a ∧ Fn 121 k = nI b) : Met l yX11_feasted (CWS yX11_feasted cX11_feasted 6 (some .int)) (RM 4 0 0) (PBrx [.ref (g 0), .int v0, .int v1] D cI cB cZ zz qq vv bt (wX cI (D.1 99) zz g ad cn In Fn)) (vp_Si (fun _ => True)) 0 0 (fun _ => False) := by
  refine Met.ofW (cc := cX11_feasted) (maxL := 6) (ret := (some .int)) (by decide) rfl ?_
  intro p e s m args below meth c s₁ B hml hv
  obtain ⟨rfl, hP, hK, hXS⟩ := hv
  have hS : va_S (fun _ => False) s.heap s.heap [] := va_S.rf
  have hx := B.exec
  have hb := B.bytes
  have hr := B.returns
  have hts := atoms_spec (ws := (CWS yX11_feasted cX11_feasted 6 (some .int))) B.pre
  have hown : s.vm.findClass RX11 = some m.cls := findClass_of_methodNamed B.named
  have hlocks := B.notSynchronized
  have S : SF p m c cX11_feasted 6 s ([.ref (g 0), .int v0, .int v1]).toArray RX11 := ⟨hx, hb, hml, hown, fun w h => hts w (List.mem_cons_of_mem _ h)⟩
  have hl := lv_entry ([.ref (g 0), .int v0, .int v1]) (n := 6) (Nat.le_of_ble_eq_true rfl)
  rw [lg_entry_eq]
  generalize (lg_sl ([.ref (g 0), .int v0, .int v1]) ++ List.replicate (6 - (lg_sl ([.ref (g 0), .int v0, .int v1])).length) Slot.unset).toArray = ls at hl ⊢
  have hl : lv_has ls 6 [(0, .ref (g 0)), (1, .int v0), (2, .int v1)] := hl
  refine lv_aload_n hx hb dX11_feasted_0 rfl (lv_at hl 0 rfl) ?_
  refine lv_iload_n hx hb dX11_feasted_1 rfl (lv_at hl 1 rfl) ?_
  refine va_csq (runV_rxa (As := [.int v0]) (rest := []) S (q_XloadAt l D cI cB cZ zz qq vv bt g ad cn In Fn v0 hB) kV_RX11_148 hK hXS hS hP 0 xo_0 rfl rfl ⟨Nat.le_of_ble_eq_true rfl, Nat.le_of_ble_eq_true rfl⟩ ⟨Nat.le_of_ble_eq_true rfl, Nat.le_of_ble_eq_true rfl⟩ rfl hl.1 rfl (Nat.le_of_ble_eq_true rfl) dX11_feasted_2) (fun r_1 h_2 => ?_)
  rcases h_2 with ⟨mr_1, er_1, hr_1, rfl⟩ | ⟨hr_1, rfl⟩
  ·
    refine lv_astore_n (lv' := [(3, .ref (ad 11 mr_1)), (0, .ref (g 0)), (1, .int v0), (2, .int v1)]) hx hb dX11_feasted_5 rfl hl (by decide) rfl (fun ls hl => ?_)
    refine lv_aload_n hx hb dX11_feasted_6 rfl (lv_at hl 0 rfl) ?_
    refine lv_ifnonnull (tgt := 14) hx hb dX11_feasted_7 (by decide) ?_
    refine lv_aload_n hx hb dX11_feasted_14 rfl (lv_at hl 1 rfl) ?_
    refine lv_aload_n hx hb dX11_feasted_15 rfl (lv_at hl 0 rfl) ?_
    refine gf_RX11_211 S hK hP _ (xf_1 (by omega)) (v := .int ((Fn 120) mr_1)) rfl dX11_feasted_16 ?_
    refine va_csq (runV_rxa (As := [.int ((Fn 120) mr_1)]) (rest := []) S (q_XkitchenAt l D cI cB cZ zz qq vv bt g ad cn In Fn ((Fn 120) mr_1) hB) kV_RX11_114 hK hXS hS hP 0 xo_0 rfl rfl ⟨Nat.le_of_ble_eq_true rfl, Nat.le_of_ble_eq_true rfl⟩ ⟨Nat.le_of_ble_eq_true rfl, Nat.le_of_ble_eq_true rfl⟩ rfl hl.1 rfl (Nat.le_of_ble_eq_true rfl) dX11_feasted_19) (fun r_3 h_4 => ?_)
    rcases h_4 with ⟨mr_3, er_3, hr_3, rfl⟩ | ⟨hr_3, rfl⟩
    ·
      refine lv_astore (lv' := [(4, .ref (ad 10 mr_3)), (3, .ref (ad 11 mr_1)), (0, .ref (g 0)), (1, .int v0), (2, .int v1)]) hx hb dX11_feasted_22 hl (by decide) rfl (fun ls hl => ?_)
      refine lv_aload_n hx hb dX11_feasted_24 rfl (lv_at hl 1 rfl) ?_
      refine lv_ifnull hx hb dX11_feasted_25 ?_
      refine lv_aload hx hb dX11_feasted_28 (lv_at hl 0 rfl) ?_
      refine lv_ifnull hx hb dX11_feasted_30 ?_
      refine lv_iload_n hx hb dX11_feasted_33 rfl (lv_at hl 4 rfl) ?_
      refine lv_iconst (v := 0) hx hb dX11_feasted_34 (by decide) ?_
      refine lv_iconst (v := 1) hx hb dX11_feasted_35 (by decide) ?_
      refine vp_callSi (runS_r (As := [.int v1, .int 0, .int 1]) (rest := []) S (q_l_within l D cI cB cZ v1 0 1) kS_RX11_80 hK hP [] rfl ⟨Nat.le_of_ble_eq_true rfl, Nat.le_of_ble_eq_true rfl⟩ ⟨Nat.le_of_ble_eq_true rfl, Nat.le_of_ble_eq_true rfl⟩ rfl hl.1 rfl (Nat.le_of_ble_eq_true rfl) dX11_feasted_36) (fun r_5 h_6 => ?_)
      rcases h_6 with ⟨rfl, h_6⟩ | ⟨rfl, h_6⟩
      ·
        have h_6 : 0 ≤ v1.toInt ∧ v1.toInt ≤ 1 := h_6
        refine lv_if_ne (tgt := 44) hx hb dX11_feasted_39 (by decide) (fun _ => ?_) (fun h => absurd h (by decide))
        obtain ⟨a9, b9, ha9, hb9, ea9, eb9⟩ := hF mr_1 (by omega)
        refine lv_aload_n hx hb dX11_feasted_44 rfl (lv_at hl 2 rfl) ?_
        refine lv_aload_n hx hb dX11_feasted_45 rfl (lv_at hl 1 rfl) ?_
        refine lv_aload hx hb dX11_feasted_46 (lv_at hl 0 rfl) ?_
        refine vp_callSi (runV_rxa (As := [.ref (ad 11 mr_1), .ref (ad 10 mr_3)]) (rest := []) S (q_XfeastedFill l D cI cB cZ zz qq vv bt g ad cn In Fn mr_1 mr_3 a9 b9 hB (by omega) (by omega) ea9 eb9 ha9 hb9) kV_RX11_498 hK hXS hS hP 0 xo_0 rfl rfl ⟨Nat.le_of_ble_eq_true rfl, Nat.le_of_ble_eq_true rfl⟩ ⟨Nat.le_of_ble_eq_true rfl, Nat.le_of_ble_eq_true rfl⟩ rfl hl.1 rfl (Nat.le_of_ble_eq_true rfl) dX11_feasted_48) (fun r_7 h_8 => ?_)
        refine lv_istore (lv' := [(5, .int r_7), (4, .ref (ad 10 mr_3)), (3, .ref (ad 11 mr_1)), (0, .ref (g 0)), (1, .int v0), (2, .int v1)]) hx hb dX11_feasted_51 hl (by decide) rfl (fun ls hl => ?_)
        refine lv_iload_n hx hb dX11_feasted_53 rfl (lv_at hl 5 rfl) ?_
        refine lv_if_ne (tgt := 62) hx hb dX11_feasted_54 (by decide) (fun c_9 => ?_) (fun c_9 => ?_)
        ·
          have tc_9 : (v1.toInt : Int) ≠ 0 := fun q => c_9 (Int32.toInt_inj.mp q)
          refine lv_aload_n hx hb dX11_feasted_62 rfl (lv_at hl 2 rfl) ?_
          refine lv_iload hx hb dX11_feasted_63 (lv_at hl 0 rfl) ?_
          refine vp_callSi (runV_rxa (As := [.int r_7]) (rest := []) S (q_XshortOf l D cI cB cZ zz qq vv bt g ad cn In Fn mr_1 r_7 hB (by omega)) kV_RX11_137 hK hXS hS hP _ (xf_1 (by omega)) rfl rfl ⟨Nat.le_of_ble_eq_true rfl, Nat.le_of_ble_eq_true rfl⟩ ⟨Nat.le_of_ble_eq_true rfl, Nat.le_of_ble_eq_true rfl⟩ rfl hl.1 rfl (Nat.le_of_ble_eq_true rfl) dX11_feasted_65) (fun r_10 h_11 => ?_)
          exact W.iret (v := r_10) hx hb hr (fun t ht hW => ⟨r_10, rfl, trivial, ht⟩) (fun _ h => absurd h List.not_mem_nil) dX11_feasted_68
        ·
          have tc_9 : (v1.toInt : Int) = 0 := congrArg Int32.toInt c_9
          refine lv_iload hx hb dX11_feasted_57 (lv_at hl 0 rfl) ?_
          refine lv_goto (tgt := 68) hx hb dX11_feasted_59 (by decide) ?_
          exact W.iret (v := r_7) hx hb hr (fun t ht hW => ⟨r_7, rfl, trivial, ht⟩) (fun _ h => absurd h List.not_mem_nil) dX11_feasted_68
      ·
        have h_6 : ¬ (0 ≤ v1.toInt ∧ v1.toInt ≤ 1) := h_6
        refine lv_if_ne (tgt := 44) hx hb dX11_feasted_39 (by decide) (fun h => absurd h (by decide)) (fun _ => ?_)
        refine lv_iconst (v := (-1)) hx hb dX11_feasted_42 (by decide) ?_
        exact W.iret (v := (-1)) hx hb hr (fun t ht hW => ⟨(-1), rfl, trivial, ht⟩) (fun _ h => absurd h List.not_mem_nil) dX11_feasted_43
    ·
      refine lv_astoreN (lv' := [(4, .null), (3, .ref (ad 11 mr_1)), (0, .ref (g 0)), (1, .int v0), (2, .int v1)]) hx hb dX11_feasted_22 hl (by decide) rfl (fun ls hl => ?_)
      refine lv_aload_n hx hb dX11_feasted_24 rfl (lv_at hl 1 rfl) ?_
      refine lv_ifnull hx hb dX11_feasted_25 ?_
      refine lv_aloadN hx hb dX11_feasted_28 (lv_at hl 0 rfl) ?_
      refine lv_ifnullN (tgt := 42) hx hb dX11_feasted_30 (by decide) ?_
      refine lv_iconst (v := (-1)) hx hb dX11_feasted_42 (by decide) ?_
      exact W.iret (v := (-1)) hx hb hr (fun t ht hW => ⟨(-1), rfl, trivial, ht⟩) (fun _ h => absurd h List.not_mem_nil) dX11_feasted_43
  ·
    refine lv_astore_nN (lv' := [(3, .null), (0, .ref (g 0)), (1, .int v0), (2, .int v1)]) hx hb dX11_feasted_5 rfl hl (by decide) rfl (fun ls hl => ?_)
    refine lv_aload_nN hx hb dX11_feasted_6 rfl (lv_at hl 0 rfl) ?_
    refine lv_ifnonnullN hx hb dX11_feasted_7 ?_
    refine lv_null hx hb dX11_feasted_10 ?_
    refine lv_goto (tgt := 22) hx hb dX11_feasted_11 (by decide) ?_
    refine lv_astoreN (lv' := [(4, .null), (3, .null), (0, .ref (g 0)), (1, .int v0), (2, .int v1)]) hx hb dX11_feasted_22 hl (by decide) rfl (fun ls hl => ?_)
    refine lv_aload_nN hx hb dX11_feasted_24 rfl (lv_at hl 1 rfl) ?_
    refine lv_ifnullN (tgt := 42) hx hb dX11_feasted_25 (by decide) ?_
    refine lv_iconst (v := (-1)) hx hb dX11_feasted_42 (by decide) ?_
    exact W.iret (v := (-1)) hx hb hr (fun t ht hW => ⟨(-1), rfl, trivial, ht⟩) (fun _ h => absurd h List.not_mem_nil) dX11_feasted_43
