set_option maxRecDepth 100000 in
set_option maxHeartbeats 4000000 in
theorem q_Xoffer (l : Launch) (D : va_G) (cI cB cZ : ClassId) (zz qq vv : Nat) (bt : Nat → Int32) (g : Nat → Nat) (ad : Nat → Nat → Nat) (cn : Nat → Nat) (In : Nat → Int32) (Fn : Nat → Nat → Int32) (v0 v1 : Int32) (hB : CBX cn) : Met l yX11_offer (CWS yX11_offer cX11_offer 7 (some .int)) (RM 4 0 0) (PBrx [.ref (g 0), .int v0, .int v1] D cI cB cZ zz qq vv bt (wX cI (D.1 99) zz g ad cn In Fn)) (vp_Si (fun _ => True)) 0 0 (fun _ => False) := by
  refine Met.ofW (cc := cX11_offer) (maxL := 7) (ret := (some .int)) (by decide) rfl ?_
  intro p e s m args below meth c s₁ B hml hv
  obtain ⟨rfl, hP, hK, hXS⟩ := hv
  have hS : va_S (fun _ => False) s.heap s.heap [] := va_S.rf
  have hx := B.exec
  have hb := B.bytes
  have hr := B.returns
  have hts := atoms_spec (ws := (CWS yX11_offer cX11_offer 7 (some .int))) B.pre
  have hown : s.vm.findClass RX11 = some m.cls := findClass_of_methodNamed B.named
  have hlocks := B.notSynchronized
  have S : SF p m c cX11_offer 7 s ([.ref (g 0), .int v0, .int v1]).toArray RX11 := ⟨hx, hb, hml, hown, fun w h => hts w (List.mem_cons_of_mem _ h)⟩
  have hl := lv_entry ([.ref (g 0), .int v0, .int v1]) (n := 7) (Nat.le_of_ble_eq_true rfl)
  rw [lg_entry_eq]
  generalize (lg_sl ([.ref (g 0), .int v0, .int v1]) ++ List.replicate (7 - (lg_sl ([.ref (g 0), .int v0, .int v1])).length) Slot.unset).toArray = ls at hl ⊢
  have hl : lv_has ls 7 [(0, .ref (g 0)), (1, .int v0), (2, .int v1)] := hl
  refine lv_iload_n hx hb dX11_offer_0 rfl (lv_at hl 1 rfl) ?_
  refine lv_iconst (v := 0) hx hb dX11_offer_1 (by decide) ?_
  refine lv_sipush (v := 1000) hx hb dX11_offer_2 (by decide) ?_
  refine vp_callSi (runS_r (As := [.int v0, .int 0, .int 1000]) (rest := []) S (q_l_within l D cI cB cZ v0 0 1000) kS_RX11_80 hK hP [] rfl ⟨Nat.le_of_ble_eq_true rfl, Nat.le_of_ble_eq_true rfl⟩ ⟨Nat.le_of_ble_eq_true rfl, Nat.le_of_ble_eq_true rfl⟩ rfl hl.1 rfl (Nat.le_of_ble_eq_true rfl) dX11_offer_5) (fun r_1 h_2 => ?_)
  rcases h_2 with ⟨rfl, h_2⟩ | ⟨rfl, h_2⟩
  ·
    have h_2 : 0 ≤ v0.toInt ∧ v0.toInt ≤ 1000 := h_2
    refine lv_if_eq (tgt := 20) hx hb dX11_offer_8 (by decide) (fun h => absurd h (by decide)) (fun _ => ?_)
    refine lv_iload_n hx hb dX11_offer_11 rfl (lv_at hl 2 rfl) ?_
    refine lv_iconst (v := 0) hx hb dX11_offer_12 (by decide) ?_
    refine lv_iconst (v := 2) hx hb dX11_offer_13 (by decide) ?_
    refine vp_callSi (runS_r (As := [.int v1, .int 0, .int 2]) (rest := []) S (q_l_within l D cI cB cZ v1 0 2) kS_RX11_80 hK hP [] rfl ⟨Nat.le_of_ble_eq_true rfl, Nat.le_of_ble_eq_true rfl⟩ ⟨Nat.le_of_ble_eq_true rfl, Nat.le_of_ble_eq_true rfl⟩ rfl hl.1 rfl (Nat.le_of_ble_eq_true rfl) dX11_offer_14) (fun r_3 h_4 => ?_)
    rcases h_4 with ⟨rfl, h_4⟩ | ⟨rfl, h_4⟩
    ·
      have h_4 : 0 ≤ v1.toInt ∧ v1.toInt ≤ 2 := h_4
      refine lv_if_ne (tgt := 22) hx hb dX11_offer_17 (by decide) (fun _ => ?_) (fun h => absurd h (by decide))
      refine lv_iconst (v := 0) hx hb dX11_offer_22 (by decide) ?_
      refine lv_istore_n (lv' := [(3, .int 0), (0, .ref (g 0)), (1, .int v0), (2, .int v1)]) hx hb dX11_offer_23 rfl hl (by decide) rfl (fun ls hl => ?_)
      refine lv_aload_n hx hb dX11_offer_24 rfl (lv_at hl 1 rfl) ?_
      refine lv_iconst (v := 0) hx hb dX11_offer_25 (by decide) ?_
      refine lv_iload_n hx hb dX11_offer_26 rfl (lv_at hl 2 rfl) ?_
      refine vp_callSi (runV_rxa (As := [.int 0, .int v0]) (rest := []) S (q_XworthOf l D cI cB cZ zz qq vv bt g ad cn In Fn 0 v0 hB) kV_RX11_460 hK hXS hS hP 0 xo_0 rfl rfl ⟨Nat.le_of_ble_eq_true rfl, Nat.le_of_ble_eq_true rfl⟩ ⟨Nat.le_of_ble_eq_true rfl, Nat.le_of_ble_eq_true rfl⟩ rfl hl.1 rfl (Nat.le_of_ble_eq_true rfl) dX11_offer_27) (fun r_5 h_6 => ?_)
      refine lv_istore (lv' := [(4, .int r_5), (3, .int 0), (0, .ref (g 0)), (1, .int v0), (2, .int v1)]) hx hb dX11_offer_30 hl (by decide) rfl (fun ls hl => ?_)
      refine lv_iconst (v := 1) hx hb dX11_offer_32 (by decide) ?_
      refine lv_istore (lv' := [(5, .int 1), (4, .int r_5), (3, .int 0), (0, .ref (g 0)), (1, .int v0), (2, .int v1)]) hx hb dX11_offer_33 hl (by decide) rfl (fun ls hl => ?_)
      have lp_35 : ∀ (n : Nat) (i35 : Nat) (x35_3 : Int32) (x35_4 : Int32) , 201 - i35 < n → (i35 ≤ 201) → ∀ ls : Array Slot, lv_has ls 7 [(5, .int (nI i35)), (4, .int x35_4), (3, .int x35_3), (0, .ref (g 0)), (1, .int v0), (2, .int v1)] → W p l e (RM 4 0 0) s m ([.ref (g 0), .int v0, .int v1]).toArray below meth c s.heap [] 0 0 (MQ below (vp_Si (fun _ => True)) ([.ref (g 0), .int v0, .int v1]).toArray s 0 0 (fun _ => False)) (F0 m 35 ls []) := by
        intro n35
        induction n35 with
        | zero => intros; omega
        | succ n35 ih35 =>
          intro i35 x35_3 x35_4 hmu35 hinv35 ls hl
          have hr35 := hinv35
          have ti35 : (nI i35).toInt = (i35 : Int) := nI_toInt (by omega)
          refine lv_iload hx hb dX11_offer_35 (lv_at hl 0 rfl) ?_
          refine lv_sipush (v := 200) hx hb dX11_offer_37 (by decide) ?_
          refine lv_icmp_gt (tgt := 72) hx hb dX11_offer_40 (by decide) (fun c_7 => ?_) (fun c_7 => ?_)
          ·
            have tc_7 : (200 : Int) < (nI i35).toInt := Int32.lt_iff_toInt_lt.mp c_7
            refine lv_iload_n hx hb dX11_offer_72 rfl (lv_at hl 5 rfl) ?_
            refine lv_if_ne (tgt := 80) hx hb dX11_offer_73 (by decide) (fun c_8 => ?_) (fun c_8 => ?_)
            ·
              have tc_8 : (v1.toInt : Int) ≠ 0 := fun q => c_8 (Int32.toInt_inj.mp q)
              refine lv_iload_n hx hb dX11_offer_80 rfl (lv_at hl 5 rfl) ?_
              refine lv_iconst (v := 1) hx hb dX11_offer_81 (by decide) ?_
              refine lv_icmp_ne (tgt := 90) hx hb dX11_offer_82 (by decide) (fun c_9 => ?_) (fun c_9 => ?_)
              ·
                have tc_9 : (v1.toInt : Int) ≠ 1 := fun q => c_9 (Int32.toInt_inj.mp q)
                refine lv_aload_n hx hb dX11_offer_90 rfl (lv_at hl 3 rfl) ?_
                refine lv_iload_n hx hb dX11_offer_91 rfl (lv_at hl 2 rfl) ?_
                refine vp_callSi (runV_rxa (As := [.int x35_3]) (rest := []) S (q_Xcomers l D cI cB cZ zz qq vv bt g ad cn In Fn x35_3 hB) kV_RX11_464 hK hXS hS hP 0 xo_0 rfl rfl ⟨Nat.le_of_ble_eq_true rfl, Nat.le_of_ble_eq_true rfl⟩ ⟨Nat.le_of_ble_eq_true rfl, Nat.le_of_ble_eq_true rfl⟩ rfl hl.1 rfl (Nat.le_of_ble_eq_true rfl) dX11_offer_92) (fun r_10 h_11 => ?_)
                exact W.iret (v := r_10) hx hb hr (fun t ht hW => ⟨r_10, rfl, trivial, ht⟩) (fun _ h => absurd h List.not_mem_nil) dX11_offer_95
              ·
                have tc_9 : (v1.toInt : Int) = 1 := congrArg Int32.toInt c_9
                refine lv_iload hx hb dX11_offer_85 (lv_at hl 1 rfl) ?_
                refine lv_goto (tgt := 95) hx hb dX11_offer_87 (by decide) ?_
                exact W.iret (v := x35_4) hx hb hr (fun t ht hW => ⟨x35_4, rfl, trivial, ht⟩) (fun _ h => absurd h List.not_mem_nil) dX11_offer_95
            ·
              have tc_8 : (v1.toInt : Int) = 0 := congrArg Int32.toInt c_8
              refine lv_iload_n hx hb dX11_offer_76 rfl (lv_at hl 2 rfl) ?_
              refine lv_goto (tgt := 95) hx hb dX11_offer_77 (by decide) ?_
              exact W.iret (v := x35_3) hx hb hr (fun t ht hW => ⟨x35_3, rfl, trivial, ht⟩) (fun _ h => absurd h List.not_mem_nil) dX11_offer_95
          ·
            have tc_7 : ((nI i35).toInt : Int) ≤ 200 := Int32.le_iff_toInt_le.mp (Int32.not_lt.mp c_7)
            refine lv_aload_n hx hb dX11_offer_43 rfl (lv_at hl 3 rfl) ?_
            refine lv_iload hx hb dX11_offer_44 (lv_at hl 0 rfl) ?_
            refine lv_iload_n hx hb dX11_offer_46 rfl (lv_at hl 4 rfl) ?_
            refine vp_callSi (runV_rxa (As := [.int (nI i35), .int v0]) (rest := []) S (q_XworthOf l D cI cB cZ zz qq vv bt g ad cn In Fn (nI i35) v0 hB) kV_RX11_460 hK hXS hS hP 0 xo_0 rfl rfl ⟨Nat.le_of_ble_eq_true rfl, Nat.le_of_ble_eq_true rfl⟩ ⟨Nat.le_of_ble_eq_true rfl, Nat.le_of_ble_eq_true rfl⟩ rfl hl.1 rfl (Nat.le_of_ble_eq_true rfl) dX11_offer_47) (fun r_12 h_13 => ?_)
            refine lv_istore (lv' := [(6, .int r_12), (5, .int (nI i35)), (4, .int x35_4), (3, .int x35_3), (0, .ref (g 0)), (1, .int v0), (2, .int v1)]) hx hb dX11_offer_50 hl (by decide) rfl (fun ls hl => ?_)
            refine lv_iload hx hb dX11_offer_52 (lv_at hl 0 rfl) ?_
            refine lv_iload hx hb dX11_offer_54 (lv_at hl 2 rfl) ?_
            refine lv_icmp_le (tgt := 66) hx hb dX11_offer_56 (by decide) (fun c_14 => ?_) (fun c_14 => ?_)
            ·
              have tc_14 : (r_12.toInt : Int) ≤ x35_4.toInt := Int32.le_iff_toInt_le.mp c_14
              refine lv_iinc (v := (nI (i35 + 1))) (lv' := [(5, .int (nI (i35 + 1))), (6, .int r_12), (4, .int x35_4), (3, .int x35_3), (0, .ref (g 0)), (1, .int v0), (2, .int v1)]) hx hb dX11_offer_66 hl (k := 1) rfl (nI_1 _) (by decide) rfl (fun ls hl => ?_)
              refine lv_goto (tgt := 35) hx hb dX11_offer_69 (by decide) ?_
              exact ih35 (i35 + 1) x35_3 x35_4 (by omega) (by omega) ls (lv_sub hl [0, 2, 3, 4, 5, 6] rfl)
            ·
              have tc_14 : (x35_4.toInt : Int) < r_12.toInt := Int32.lt_iff_toInt_lt.mp (Int32.not_le.mp c_14)
              refine lv_iload hx hb dX11_offer_59 (lv_at hl 1 rfl) ?_
              refine lv_istore_n (lv' := [(3, .int (nI i35)), (6, .int r_12), (5, .int (nI i35)), (4, .int x35_4), (0, .ref (g 0)), (1, .int v0), (2, .int v1)]) hx hb dX11_offer_61 rfl hl (by decide) rfl (fun ls hl => ?_)
              refine lv_iload hx hb dX11_offer_62 (lv_at hl 1 rfl) ?_
              refine lv_istore (lv' := [(4, .int r_12), (3, .int (nI i35)), (6, .int r_12), (5, .int (nI i35)), (0, .ref (g 0)), (1, .int v0), (2, .int v1)]) hx hb dX11_offer_64 hl (by decide) rfl (fun ls hl => ?_)
              refine lv_iinc (v := (nI (i35 + 1))) (lv' := [(5, .int (nI (i35 + 1))), (4, .int r_12), (3, .int (nI i35)), (6, .int r_12), (0, .ref (g 0)), (1, .int v0), (2, .int v1)]) hx hb dX11_offer_66 hl (k := 3) rfl (nI_1 _) (by decide) rfl (fun ls hl => ?_)
              refine lv_goto (tgt := 35) hx hb dX11_offer_69 (by decide) ?_
              exact ih35 (i35 + 1) (nI i35) r_12 (by omega) (by omega) ls (lv_sub hl [0, 1, 2, 4, 5, 6] rfl)
      exact lp_35 _ 1 0 r_5 (Nat.lt_succ_self _) (by omega) ls (lv_sub hl [0, 1, 2, 3, 4, 5] rfl)
    ·
      have h_4 : ¬ (0 ≤ v1.toInt ∧ v1.toInt ≤ 2) := h_4
      refine lv_if_ne (tgt := 22) hx hb dX11_offer_17 (by decide) (fun h => absurd h (by decide)) (fun _ => ?_)
      refine lv_iconst (v := (-1)) hx hb dX11_offer_20 (by decide) ?_
      exact W.iret (v := (-1)) hx hb hr (fun t ht hW => ⟨(-1), rfl, trivial, ht⟩) (fun _ h => absurd h List.not_mem_nil) dX11_offer_21
  ·
    have h_2 : ¬ (0 ≤ v0.toInt ∧ v0.toInt ≤ 1000) := h_2
    refine lv_if_eq (tgt := 20) hx hb dX11_offer_8 (by decide) (fun _ => ?_) (fun h => absurd h (by decide))
    refine lv_iconst (v := (-1)) hx hb dX11_offer_20 (by decide) ?_
    exact W.iret (v := (-1)) hx hb hr (fun t ht hW => ⟨(-1), rfl, trivial, ht⟩) (fun _ h => absurd h List.not_mem_nil) dX11_offer_21
