set_option maxRecDepth 100000 in
set_option maxHeartbeats 4000000 in
theorem q_XsharedLength (l : Launch) (D : va_G) (cI cB cZ : ClassId) (zz qq vv : Nat) (bt : Nat → Int32) (g : Nat → Nat) (ad : Nat → Nat → Nat) (cn : Nat → Nat) (In : Nat → Int32) (Fn : Nat → Nat → Int32) (v0 v1 : Int32) (hB : CBX cn) : Met l yX11_sharedLength (CWS yX11_sharedLength cX11_sharedLength 6 (some .int)) (RM 2 0 0) (PBrx [.ref (g 0), .int v0, .int v1] D cI cB cZ zz qq vv bt (wX cI (D.1 99) zz g ad cn In Fn)) (vp_Si (fun _ => True)) 0 0 (fun _ => False) := by
  refine Met.ofW (cc := cX11_sharedLength) (maxL := 6) (ret := (some .int)) (by decide) rfl ?_
  intro p e s m args below meth c s₁ B hml hv
  obtain ⟨rfl, hP, hK, hXS⟩ := hv
  have hS : va_S (fun _ => False) s.heap s.heap [] := va_S.rf
  have hx := B.exec
  have hb := B.bytes
  have hr := B.returns
  have hts := atoms_spec (ws := (CWS yX11_sharedLength cX11_sharedLength 6 (some .int))) B.pre
  have hown : s.vm.findClass RX11 = some m.cls := findClass_of_methodNamed B.named
  have hlocks := B.notSynchronized
  have S : SF p m c cX11_sharedLength 6 s ([.ref (g 0), .int v0, .int v1]).toArray RX11 := ⟨hx, hb, hml, hown, fun w h => hts w (List.mem_cons_of_mem _ h)⟩
  have hl := lv_entry ([.ref (g 0), .int v0, .int v1]) (n := 6) (Nat.le_of_ble_eq_true rfl)
  rw [lg_entry_eq]
  generalize (lg_sl ([.ref (g 0), .int v0, .int v1]) ++ List.replicate (6 - (lg_sl ([.ref (g 0), .int v0, .int v1])).length) Slot.unset).toArray = ls at hl ⊢
  have hl : lv_has ls 6 [(0, .ref (g 0)), (1, .int v0), (2, .int v1)] := hl
  refine lv_iconst (v := 0) hx hb dX11_sharedLength_0 (by decide) ?_
  refine lv_istore_n (lv' := [(3, .int 0), (0, .ref (g 0)), (1, .int v0), (2, .int v1)]) hx hb dX11_sharedLength_1 rfl hl (by decide) rfl (fun ls hl => ?_)
  refine lv_iconst (v := 0) hx hb dX11_sharedLength_2 (by decide) ?_
  refine lv_istore (lv' := [(4, .int 0), (3, .int 0), (0, .ref (g 0)), (1, .int v0), (2, .int v1)]) hx hb dX11_sharedLength_3 hl (by decide) rfl (fun ls hl => ?_)
  have lp_5 : ∀ (n : Nat) (i5 : Nat) (x5_3 : Int32) , cn 1 - i5 < n → (i5 ≤ cn 1) → ∀ ls : Array Slot, lv_has ls 6 [(4, .int (nI i5)), (3, .int x5_3), (0, .ref (g 0)), (1, .int v0), (2, .int v1)] → W p l e (RM 2 0 0) s m ([.ref (g 0), .int v0, .int v1]).toArray below meth c s.heap [] 0 0 (MQ below (vp_Si (fun _ => True)) ([.ref (g 0), .int v0, .int v1]).toArray s 0 0 (fun _ => False)) (F0 m 5 ls []) := by
    intro n5
    induction n5 with
    | zero => intros; omega
    | succ n5 ih5 =>
      intro i5 x5_3 hmu5 hinv5 ls hl
      have hr5 := hinv5
      have ti5 : (nI i5).toInt = (i5 : Int) := nI_toInt (by omega)
      refine lv_iload hx hb dX11_sharedLength_5 (lv_at hl 0 rfl) ?_
      refine lv_aload_n hx hb dX11_sharedLength_7 rfl (lv_at hl 2 rfl) ?_
      refine gf_RX11_311 S hK hP 0 xo_0 (v := .int (nI (cn 1))) rfl dX11_sharedLength_8 ?_
      have : (nI (cn 1)).toInt = (((cn 1) : Nat) : Int) := nI_toInt (by omega)
      refine lv_icmp_ge (tgt := 82) hx hb dX11_sharedLength_11 (by decide) (fun c_1 => ?_) (fun c_1 => ?_)
      ·
        have tc_1 : ((nI (cn 1)).toInt : Int) ≤ (nI i5).toInt := Int32.le_iff_toInt_le.mp c_1
        refine lv_iload_n hx hb dX11_sharedLength_82 rfl (lv_at hl 1 rfl) ?_
        exact W.iret (v := x5_3) hx hb hr (fun t ht hW => ⟨x5_3, rfl, trivial, ht⟩) (fun _ h => absurd h List.not_mem_nil) dX11_sharedLength_83
      ·
        have tc_1 : ((nI i5).toInt : Int) < (nI (cn 1)).toInt := Int32.lt_iff_toInt_lt.mp (Int32.not_le.mp c_1)
        refine lv_aload_n hx hb dX11_sharedLength_14 rfl (lv_at hl 2 rfl) ?_
        refine lv_iload_n hx hb dX11_sharedLength_15 rfl (lv_at hl 3 rfl) ?_
        refine lv_iload hx hb dX11_sharedLength_16 (lv_at hl 0 rfl) ?_
        refine vp_callSi (runV_rxa (As := [.int v0, .int (nI i5)]) (rest := []) S (q_XstopsOf l D cI cB cZ zz qq vv bt g ad cn In Fn v0 (nI i5) hB) kV_RX11_333 hK hXS hS hP 0 xo_0 rfl rfl ⟨Nat.le_of_ble_eq_true rfl, Nat.le_of_ble_eq_true rfl⟩ ⟨Nat.le_of_ble_eq_true rfl, Nat.le_of_ble_eq_true rfl⟩ rfl hl.1 rfl (Nat.le_of_ble_eq_true rfl) dX11_sharedLength_18) (fun r_2 h_3 => ?_)
        refine lv_istore (lv' := [(5, .int r_2), (4, .int (nI i5)), (3, .int x5_3), (0, .ref (g 0)), (1, .int v0), (2, .int v1)]) hx hb dX11_sharedLength_21 hl (by decide) rfl (fun ls hl => ?_)
        refine lv_iload hx hb dX11_sharedLength_23 (lv_at hl 0 rfl) ?_
        refine lv_if_eq (tgt := 64) hx hb dX11_sharedLength_25 (by decide) (fun c_4 => ?_) (fun c_4 => ?_)
        ·
          have tc_4 : (r_2.toInt : Int) = 0 := congrArg Int32.toInt c_4
          refine lv_iload_n hx hb dX11_sharedLength_64 rfl (lv_at hl 2 rfl) ?_
          refine lv_aload_n hx hb dX11_sharedLength_65 rfl (lv_at hl 3 rfl) ?_
          refine gf_RX11_54 S hK hP 0 xo_0 (v := .ref (g 9)) rfl dX11_sharedLength_66 ?_
          refine lv_iload hx hb dX11_sharedLength_69 (lv_at hl 0 rfl) ?_
          refine vp_callSi (runV_rxa (As := [.int r_2]) (rest := [.int x5_3]) S (q_XlengthOf l D cI cB cZ zz qq vv bt g ad cn In Fn r_2 hB) kV_RX11_339 hK hXS hS hP 17 xo_17 rfl rfl ⟨Nat.le_of_ble_eq_true rfl, Nat.le_of_ble_eq_true rfl⟩ ⟨Nat.le_of_ble_eq_true rfl, Nat.le_of_ble_eq_true rfl⟩ rfl hl.1 rfl (Nat.le_of_ble_eq_true rfl) dX11_sharedLength_71) (fun r_5 h_6 => ?_)
          refine lv_iadd hx hb dX11_sharedLength_74 ?_
          refine lv_istore_n (lv' := [(3, .int (x5_3 + r_5)), (5, .int r_2), (4, .int (nI i5)), (0, .ref (g 0)), (1, .int v0), (2, .int v1)]) hx hb dX11_sharedLength_75 rfl hl (by decide) rfl (fun ls hl => ?_)
          refine lv_iinc (v := (nI (i5 + 1))) (lv' := [(4, .int (nI (i5 + 1))), (3, .int (x5_3 + r_5)), (5, .int r_2), (0, .ref (g 0)), (1, .int v0), (2, .int v1)]) hx hb dX11_sharedLength_76 hl (k := 2) rfl (nI_1 _) (by decide) rfl (fun ls hl => ?_)
          refine lv_goto (tgt := 5) hx hb dX11_sharedLength_79 (by decide) ?_
          exact ih5 (i5 + 1) (x5_3 + r_5) (by omega) (by omega) ls (lv_sub hl [0, 1, 3, 4, 5] rfl)
        ·
          have tc_4 : (r_2.toInt : Int) ≠ 0 := fun q => c_4 (Int32.toInt_inj.mp q)
          refine lv_aload_n hx hb dX11_sharedLength_28 rfl (lv_at hl 3 rfl) ?_
          refine lv_iload hx hb dX11_sharedLength_29 (lv_at hl 1 rfl) ?_
          refine lv_iload_n hx hb dX11_sharedLength_31 rfl (lv_at hl 5 rfl) ?_
          refine vp_callSi (runV_rxa (As := [.int (nI i5), .int v1]) (rest := []) S (q_XisOff l D cI cB cZ zz qq vv bt g ad cn In Fn (nI i5) v1 hB) kV_RX11_317 hK hXS hS hP 0 xo_0 rfl rfl ⟨Nat.le_of_ble_eq_true rfl, Nat.le_of_ble_eq_true rfl⟩ ⟨Nat.le_of_ble_eq_true rfl, Nat.le_of_ble_eq_true rfl⟩ rfl hl.1 rfl (Nat.le_of_ble_eq_true rfl) dX11_sharedLength_32) (fun r_7 h_8 => ?_)
          refine lv_if_ne (tgt := 62) hx hb dX11_sharedLength_35 (by decide) (fun c_9 => ?_) (fun c_9 => ?_)
          ·
            have tc_9 : (r_7.toInt : Int) ≠ 0 := fun q => c_9 (Int32.toInt_inj.mp q)
            refine lv_iconst (v := (-1)) hx hb dX11_sharedLength_62 (by decide) ?_
            exact W.iret (v := (-1)) hx hb hr (fun t ht hW => ⟨(-1), rfl, trivial, ht⟩) (fun _ h => absurd h List.not_mem_nil) dX11_sharedLength_63
          ·
            have tc_9 : (r_7.toInt : Int) = 0 := congrArg Int32.toInt c_9
            refine lv_aload_n hx hb dX11_sharedLength_38 rfl (lv_at hl 3 rfl) ?_
            refine gf_RX11_54 S hK hP 0 xo_0 (v := .ref (g 9)) rfl dX11_sharedLength_39 ?_
            refine lv_iload hx hb dX11_sharedLength_42 (lv_at hl 0 rfl) ?_
            refine vp_callSi (runV_rxa (As := [.int r_2]) (rest := []) S (q_XfillOf l D cI cB cZ zz qq vv bt g ad cn In Fn r_2 hB) kV_RX11_336 hK hXS hS hP 17 xo_17 rfl rfl ⟨Nat.le_of_ble_eq_true rfl, Nat.le_of_ble_eq_true rfl⟩ ⟨Nat.le_of_ble_eq_true rfl, Nat.le_of_ble_eq_true rfl⟩ rfl hl.1 rfl (Nat.le_of_ble_eq_true rfl) dX11_sharedLength_44) (fun r_10 h_11 => ?_)
            refine lv_aload_n hx hb dX11_sharedLength_47 rfl (lv_at hl 3 rfl) ?_
            refine gf_RX11_47 S hK hP 0 xo_0 (v := .ref (g 8)) rfl dX11_sharedLength_48 ?_
            refine gf_RX11_314 S hK hP 6 xo_6 (v := .ref (g 27)) rfl dX11_sharedLength_51 ?_
            refine lv_iload hx hb dX11_sharedLength_54 (lv_at hl 1 rfl) ?_
            refine vp_callSi (runS_r (As := [.ref (g 27), .int (nI i5)]) (rest := [.int r_10]) S (q_l_at l D cI cB cZ (g 27) 3 (Fn 27) (nI i5) (by omega)) kS_RX11_192 hK hP [14] (one_is xo_14) ⟨Nat.le_of_ble_eq_true rfl, Nat.le_of_ble_eq_true rfl⟩ ⟨Nat.le_of_ble_eq_true rfl, Nat.le_of_ble_eq_true rfl⟩ rfl hl.1 rfl (Nat.le_of_ble_eq_true rfl) dX11_sharedLength_56) (fun r_12 h_13 => ?_)
            subst h_13
            refine lv_icmp_le (tgt := 64) hx hb dX11_sharedLength_59 (by decide) (fun c_14 => ?_) (fun c_14 => ?_)
            ·
              have tc_14 : (r_10.toInt : Int) ≤ (atM (Fn 27) 3 (nI i5)).toInt := Int32.le_iff_toInt_le.mp c_14
              refine lv_iload_n hx hb dX11_sharedLength_64 rfl (lv_at hl 2 rfl) ?_
              refine lv_aload_n hx hb dX11_sharedLength_65 rfl (lv_at hl 3 rfl) ?_
              refine gf_RX11_54 S hK hP 0 xo_0 (v := .ref (g 9)) rfl dX11_sharedLength_66 ?_
              refine lv_iload hx hb dX11_sharedLength_69 (lv_at hl 0 rfl) ?_
              refine vp_callSi (runV_rxa (As := [.int r_2]) (rest := [.int x5_3]) S (q_XlengthOf l D cI cB cZ zz qq vv bt g ad cn In Fn r_2 hB) kV_RX11_339 hK hXS hS hP 17 xo_17 rfl rfl ⟨Nat.le_of_ble_eq_true rfl, Nat.le_of_ble_eq_true rfl⟩ ⟨Nat.le_of_ble_eq_true rfl, Nat.le_of_ble_eq_true rfl⟩ rfl hl.1 rfl (Nat.le_of_ble_eq_true rfl) dX11_sharedLength_71) (fun r_15 h_16 => ?_)
              refine lv_iadd hx hb dX11_sharedLength_74 ?_
              refine lv_istore_n (lv' := [(3, .int (x5_3 + r_15)), (5, .int r_2), (4, .int (nI i5)), (0, .ref (g 0)), (1, .int v0), (2, .int v1)]) hx hb dX11_sharedLength_75 rfl hl (by decide) rfl (fun ls hl => ?_)
              refine lv_iinc (v := (nI (i5 + 1))) (lv' := [(4, .int (nI (i5 + 1))), (3, .int (x5_3 + r_15)), (5, .int r_2), (0, .ref (g 0)), (1, .int v0), (2, .int v1)]) hx hb dX11_sharedLength_76 hl (k := 2) rfl (nI_1 _) (by decide) rfl (fun ls hl => ?_)
              refine lv_goto (tgt := 5) hx hb dX11_sharedLength_79 (by decide) ?_
              exact ih5 (i5 + 1) (x5_3 + r_15) (by omega) (by omega) ls (lv_sub hl [0, 1, 3, 4, 5] rfl)
            ·
              have tc_14 : ((atM (Fn 27) 3 (nI i5)).toInt : Int) < r_10.toInt := Int32.lt_iff_toInt_lt.mp (Int32.not_le.mp c_14)
              refine lv_iconst (v := (-1)) hx hb dX11_sharedLength_62 (by decide) ?_
              exact W.iret (v := (-1)) hx hb hr (fun t ht hW => ⟨(-1), rfl, trivial, ht⟩) (fun _ h => absurd h List.not_mem_nil) dX11_sharedLength_63
  exact lp_5 _ 0 0 (Nat.lt_succ_self _) (by omega) ls (lv_sub hl [0, 1, 2, 3, 4] rfl)
