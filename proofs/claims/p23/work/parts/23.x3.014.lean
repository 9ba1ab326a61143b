set_option maxRecDepth 100000 in
set_option maxHeartbeats 4000000 in
theorem q_Xstreets (l : Launch) (D : va_G) (cI cB cZ : ClassId) (zz qq vv : Nat) (bt : Nat → Int32) (g : Nat → Nat) (ad : Nat → Nat → Nat) (cn : Nat → Nat) (In : Nat → Int32) (Fn : Nat → Nat → Int32) (v0 v1 : Int32) (hB : CBX cn) : Met l yX11_streets (CWS yX11_streets cX11_streets 10 (some .long)) (RM 4 0 0) (PBrx [.ref (g 0), .int v0, .int v1] D cI cB cZ zz qq vv bt (wX cI (D.1 99) zz g ad cn In Fn)) (vp_Sl (fun _ => True)) 0 0 (fun _ => False) := by
  refine Met.ofW (cc := cX11_streets) (maxL := 10) (ret := (some .long)) (by decide) rfl ?_
  intro p e s m args below meth c s₁ B hml hv
  obtain ⟨rfl, hP, hK, hXS⟩ := hv
  have hS : va_S (fun _ => False) s.heap s.heap [] := va_S.rf
  have hx := B.exec
  have hb := B.bytes
  have hr := B.returns
  have hts := atoms_spec (ws := (CWS yX11_streets cX11_streets 10 (some .long))) B.pre
  have hown : s.vm.findClass RX11 = some m.cls := findClass_of_methodNamed B.named
  have hlocks := B.notSynchronized
  have S : SF p m c cX11_streets 10 s ([.ref (g 0), .int v0, .int v1]).toArray RX11 := ⟨hx, hb, hml, hown, fun w h => hts w (List.mem_cons_of_mem _ h)⟩
  have hl := lv_entry ([.ref (g 0), .int v0, .int v1]) (n := 10) (Nat.le_of_ble_eq_true rfl)
  rw [lg_entry_eq]
  generalize (lg_sl ([.ref (g 0), .int v0, .int v1]) ++ List.replicate (10 - (lg_sl ([.ref (g 0), .int v0, .int v1])).length) Slot.unset).toArray = ls at hl ⊢
  have hl : lv_has ls 10 [(0, .ref (g 0)), (1, .int v0), (2, .int v1)] := hl
  refine lv_iload_n hx hb dX11_streets_0 rfl (lv_at hl 1 rfl) ?_
  refine lv_iconst (v := 0) hx hb dX11_streets_1 (by decide) ?_
  refine lv_bipush (v := 9) hx hb dX11_streets_2 (by decide) ?_
  refine vp_callSi (runS_r (As := [.int v0, .int 0, .int 9]) (rest := []) S (q_l_within l D cI cB cZ v0 0 9) kS_RX11_80 hK hP [] rfl ⟨Nat.le_of_ble_eq_true rfl, Nat.le_of_ble_eq_true rfl⟩ ⟨Nat.le_of_ble_eq_true rfl, Nat.le_of_ble_eq_true rfl⟩ rfl hl.1 rfl (Nat.le_of_ble_eq_true rfl) dX11_streets_4) (fun r_1 h_2 => ?_)
  rcases h_2 with ⟨rfl, h_2⟩ | ⟨rfl, h_2⟩
  ·
    have h_2 : 0 ≤ v0.toInt ∧ v0.toInt ≤ 9 := h_2
    refine lv_if_eq (tgt := 19) hx hb dX11_streets_7 (by decide) (fun h => absurd h (by decide)) (fun _ => ?_)
    refine lv_iload_n hx hb dX11_streets_10 rfl (lv_at hl 2 rfl) ?_
    refine lv_iconst (v := 0) hx hb dX11_streets_11 (by decide) ?_
    refine lv_iconst (v := 2) hx hb dX11_streets_12 (by decide) ?_
    refine vp_callSi (runS_r (As := [.int v1, .int 0, .int 2]) (rest := []) S (q_l_within l D cI cB cZ v1 0 2) kS_RX11_80 hK hP [] rfl ⟨Nat.le_of_ble_eq_true rfl, Nat.le_of_ble_eq_true rfl⟩ ⟨Nat.le_of_ble_eq_true rfl, Nat.le_of_ble_eq_true rfl⟩ rfl hl.1 rfl (Nat.le_of_ble_eq_true rfl) dX11_streets_13) (fun r_3 h_4 => ?_)
    rcases h_4 with ⟨rfl, h_4⟩ | ⟨rfl, h_4⟩
    ·
      have h_4 : 0 ≤ v1.toInt ∧ v1.toInt ≤ 2 := h_4
      refine lv_if_ne (tgt := 23) hx hb dX11_streets_16 (by decide) (fun _ => ?_) (fun h => absurd h (by decide))
      refine lv_iconst (v := 0) hx hb dX11_streets_23 (by decide) ?_
      refine lv_istore_n (lv' := [(3, .int 0), (0, .ref (g 0)), (1, .int v0), (2, .int v1)]) hx hb dX11_streets_24 rfl hl (by decide) rfl (fun ls hl => ?_)
      refine lv_iconst (v := 0) hx hb dX11_streets_25 (by decide) ?_
      refine lv_istore (lv' := [(4, .int 0), (3, .int 0), (0, .ref (g 0)), (1, .int v0), (2, .int v1)]) hx hb dX11_streets_26 hl (by decide) rfl (fun ls hl => ?_)
      refine lv_iconst (v := 0) hx hb dX11_streets_28 (by decide) ?_
      refine lv_istore (lv' := [(5, .int 0), (4, .int 0), (3, .int 0), (0, .ref (g 0)), (1, .int v0), (2, .int v1)]) hx hb dX11_streets_29 hl (by decide) rfl (fun ls hl => ?_)
      refine lv_iconst (v := 0) hx hb dX11_streets_31 (by decide) ?_
      refine lv_istore (lv' := [(6, .int 0), (5, .int 0), (4, .int 0), (3, .int 0), (0, .ref (g 0)), (1, .int v0), (2, .int v1)]) hx hb dX11_streets_32 hl (by decide) rfl (fun ls hl => ?_)
      have lp_34 : ∀ (n : Nat) (i34 : Nat) (n3 : Nat) (n4 : Nat) (n5 : Nat) , cn 11 - i34 < n → (i34 ≤ cn 11 ∧ (n3 ≤ i34 ∧ n4 ≤ i34 ∧ n5 ≤ i34)) → ∀ ls : Array Slot, lv_has ls 10 [(6, .int (nI i34)), (5, .int (nI n5)), (4, .int (nI n4)), (3, .int (nI n3)), (0, .ref (g 0)), (1, .int v0), (2, .int v1)] → W p l e (RM 4 0 0) s m ([.ref (g 0), .int v0, .int v1]).toArray below meth c s.heap [] 0 0 (MQ below (vp_Sl (fun _ => True)) ([.ref (g 0), .int v0, .int v1]).toArray s 0 0 (fun _ => False)) (F0 m 34 ls []) := by
        intro n34
        induction n34 with
        | zero => intros; omega
        | succ n34 ih34 =>
          intro i34 n3 n4 n5 hmu34 hinv34 ls hl
          obtain ⟨hr34, hx34_0⟩ := hinv34
          have ti34 : (nI i34).toInt = (i34 : Int) := nI_toInt (by omega)
          refine lv_iload hx hb dX11_streets_34 (lv_at hl 0 rfl) ?_
          refine lv_aload_n hx hb dX11_streets_36 rfl (lv_at hl 4 rfl) ?_
          refine gf_RX11_65 S hK hP 0 xo_0 (v := .ref (g 11)) rfl dX11_streets_37 ?_
          refine vp_callSi (runV_r (As := []) (rest := [.int (nI i34)]) S (q_l_size l D cI cB cZ (g 11) (if (cn 11) = 0 then zz else ad 2 1) (In 11) (nI (cn 11))) kV_RX11_84 hK hP [25] (one_is xo_25) 25 xo_25 rfl rfl ⟨Nat.le_of_ble_eq_true rfl, Nat.le_of_ble_eq_true rfl⟩ ⟨Nat.le_of_ble_eq_true rfl, Nat.le_of_ble_eq_true rfl⟩ rfl hl.1 rfl (Nat.le_of_ble_eq_true rfl) dX11_streets_40) (fun r_5 h_6 => ?_)
          subst h_6
          have : (nI (cn 11)).toInt = (((cn 11) : Nat) : Int) := nI_toInt (by omega)
          refine lv_icmp_ge (tgt := 152) hx hb dX11_streets_43 (by decide) (fun c_7 => ?_) (fun c_7 => ?_)
          ·
            have tc_7 : ((nI (cn 11)).toInt : Int) ≤ (nI i34).toInt := Int32.le_iff_toInt_le.mp c_7
            refine lv_iload_n hx hb dX11_streets_152 rfl (lv_at hl 3 rfl) ?_
            refine lv_iload hx hb dX11_streets_153 (lv_at hl 2 rfl) ?_
            refine lv_iload hx hb dX11_streets_155 (lv_at hl 1 rfl) ?_
            refine lv_aload_n hx hb dX11_streets_157 rfl (lv_at hl 4 rfl) ?_
            refine gf_RX11_65 S hK hP 0 xo_0 (v := .ref (g 11)) rfl dX11_streets_158 ?_
            refine vp_callSi (runV_r (As := []) (rest := [.int (nI n5), .int (nI n4), .int (nI n3)]) S (q_l_size l D cI cB cZ (g 11) (if (cn 11) = 0 then zz else ad 2 1) (In 11) (nI (cn 11))) kV_RX11_84 hK hP [25] (one_is xo_25) 25 xo_25 rfl rfl ⟨Nat.le_of_ble_eq_true rfl, Nat.le_of_ble_eq_true rfl⟩ ⟨Nat.le_of_ble_eq_true rfl, Nat.le_of_ble_eq_true rfl⟩ rfl hl.1 rfl (Nat.le_of_ble_eq_true rfl) dX11_streets_161) (fun r_8 h_9 => ?_)
            subst h_9
            refine lv_iload_n hx hb dX11_streets_164 rfl (lv_at hl 6 rfl) ?_
            refine vp_callSl (runS_r (As := [.int (nI n3), .int (nI n4), .int (nI n5), .int (nI (cn 11)), .int v1]) (rest := []) S (q_Xodds l D cI cB cZ n3 n4 n5 (cn 11) v1 (by omega) (by omega) (by omega) (by omega)) kS_RX11_256 hK hP [] rfl ⟨Nat.le_of_ble_eq_true rfl, Nat.le_of_ble_eq_true rfl⟩ ⟨Nat.le_of_ble_eq_true rfl, Nat.le_of_ble_eq_true rfl⟩ rfl hl.1 rfl (Nat.le_of_ble_eq_true rfl) dX11_streets_165) (fun r_10 h_11 => ?_)
            exact W.lret (v := r_10) hx hb hr (fun t ht hW => ⟨r_10, rfl, trivial, ht⟩) (fun _ h => absurd h List.not_mem_nil) dX11_streets_168
          ·
            have tc_7 : ((nI i34).toInt : Int) < (nI (cn 11)).toInt := Int32.lt_iff_toInt_lt.mp (Int32.not_le.mp c_7)
            refine lv_aload_n hx hb dX11_streets_46 rfl (lv_at hl 4 rfl) ?_
            refine gf_RX11_65 S hK hP 0 xo_0 (v := .ref (g 11)) rfl dX11_streets_47 ?_
            refine lv_iload hx hb dX11_streets_50 (lv_at hl 0 rfl) ?_
            refine va_csq (runV_rx (As := [.int (nI i34)]) (rest := []) S (q_l_get l D cI cB cZ zz qq vv bt (g 11) (ad 2 1) (cn 21) (cn 11) i34 (ad 11 i34) (In 11) (fun i => if i < (cn 11) then some (ad 11 i) else none) (by omega) (if_pos (by omega)) (by omega) (by omega)) kV_RX11_87 hK hXS hS hP _ (two_is (xl_1 (by omega)) (xf_14 (k := 0) (by omega))) (va_recv hK.1 hP (ci := 0) rfl xo_25) ⟨Nat.le_of_ble_eq_true rfl, Nat.le_of_ble_eq_true rfl⟩ ⟨Nat.le_of_ble_eq_true rfl, Nat.le_of_ble_eq_true rfl⟩ rfl hl.1 rfl (Nat.le_of_ble_eq_true rfl) dX11_streets_52) (fun r_12 h_13 => ?_)
            subst h_13
            refine va_castS hx hb hown (S.2.2.2.2 _ (wT_t2 204 rfl rfl)) (xclass hK.1 (ci := 3) rfl) (va_recv hK.1 hP (ci := 3) rfl (xf_1 (by omega))) dX11_streets_55 ?_
            refine lv_astore (lv' := [(7, .ref (ad 11 i34)), (6, .int (nI i34)), (5, .int (nI n5)), (4, .int (nI n4)), (3, .int (nI n3)), (0, .ref (g 0)), (1, .int v0), (2, .int v1)]) hx hb dX11_streets_58 hl (by decide) rfl (fun ls hl => ?_)
            refine lv_aload_n hx hb dX11_streets_60 rfl (lv_at hl 5 rfl) ?_
            refine lv_aload hx hb dX11_streets_61 (lv_at hl 0 rfl) ?_
            refine gf_RX11_211 S hK hP _ (xf_1 (by omega)) (v := .int ((Fn 120) i34)) rfl dX11_streets_63 ?_
            refine va_csq (runV_rxa (As := [.int ((Fn 120) i34)]) (rest := []) S (q_XkitchenAt l D cI cB cZ zz qq vv bt g ad cn In Fn ((Fn 120) i34) hB) kV_RX11_114 hK hXS hS hP 0 xo_0 rfl rfl ⟨Nat.le_of_ble_eq_true rfl, Nat.le_of_ble_eq_true rfl⟩ ⟨Nat.le_of_ble_eq_true rfl, Nat.le_of_ble_eq_true rfl⟩ rfl hl.1 rfl (Nat.le_of_ble_eq_true rfl) dX11_streets_66) (fun r_14 h_15 => ?_)
            rcases h_15 with ⟨mr_14, er_14, hr_14, rfl⟩ | ⟨hr_14, rfl⟩
            ·
              refine lv_astore (lv' := [(8, .ref (ad 10 mr_14)), (7, .ref (ad 11 i34)), (6, .int (nI i34)), (5, .int (nI n5)), (4, .int (nI n4)), (3, .int (nI n3)), (0, .ref (g 0)), (1, .int v0), (2, .int v1)]) hx hb dX11_streets_69 hl (by decide) rfl (fun ls hl => ?_)
              refine lv_aload hx hb dX11_streets_71 (lv_at hl 0 rfl) ?_
              refine lv_ifnull hx hb dX11_streets_73 ?_
              refine lv_aload hx hb dX11_streets_76 (lv_at hl 0 rfl) ?_
              refine gf_RX11_260 S hK hP _ (xf_0 (by omega)) (v := .int ((Fn 109) mr_14)) rfl dX11_streets_78 ?_
              refine lv_iload_n hx hb dX11_streets_81 rfl (lv_at hl 7 rfl) ?_
              refine lv_icmp_ne (tgt := 89) hx hb dX11_streets_82 (by decide) (fun c_16 => ?_) (fun c_16 => ?_)
              ·
                have tc_16 : (((Fn 109) mr_14).toInt : Int) ≠ v0.toInt := fun q => c_16 (Int32.toInt_inj.mp q)
                refine lv_iconst (v := 0) hx hb dX11_streets_89 (by decide) ?_
                refine lv_istore (lv' := [(9, .int 0), (8, .ref (ad 10 mr_14)), (7, .ref (ad 11 i34)), (6, .int (nI i34)), (5, .int (nI n5)), (4, .int (nI n4)), (3, .int (nI n3)), (0, .ref (g 0)), (1, .int v0), (2, .int v1)]) hx hb dX11_streets_90 hl (by decide) rfl (fun ls hl => ?_)
                refine lv_iload_n hx hb dX11_streets_92 rfl (lv_at hl 6 rfl) ?_
                refine lv_aload hx hb dX11_streets_93 (lv_at hl 2 rfl) ?_
                refine gf_RX11_141 S hK hP _ (xf_1 (by omega)) (v := .int ((Fn 128) i34)) rfl dX11_streets_95 ?_
                refine lv_if_le (tgt := 105) hx hb dX11_streets_98 (by decide) (fun c_17 => ?_) (fun c_17 => ?_)
                ·
                  have tc_17 : (((Fn 128) i34).toInt : Int) ≤ 0 := Int32.le_iff_toInt_le.mp c_17
                  refine lv_iconst (v := 0) hx hb dX11_streets_105 (by decide) ?_
                  refine lv_iadd hx hb dX11_streets_106 ?_
                  refine lv_topi (fun y_18 ey_18 => ?_)
                  obtain rfl : y_18 = (nI (n3 + 0)) := ey_18.trans (nI_add n3 0)
                  refine lv_istore_n (lv' := [(3, .int (nI (n3 + 0))), (9, .int 0), (8, .ref (ad 10 mr_14)), (7, .ref (ad 11 i34)), (6, .int (nI i34)), (5, .int (nI n5)), (4, .int (nI n4)), (0, .ref (g 0)), (1, .int v0), (2, .int v1)]) hx hb dX11_streets_107 rfl hl (by decide) rfl (fun ls hl => ?_)
                  refine lv_iload hx hb dX11_streets_108 (lv_at hl 6 rfl) ?_
                  refine lv_iload hx hb dX11_streets_110 (lv_at hl 1 rfl) ?_
                  refine lv_if_eq (tgt := 119) hx hb dX11_streets_112 (by decide) (fun _ => ?_) (fun h => absurd h (by decide))
                  refine lv_iconst (v := 0) hx hb dX11_streets_119 (by decide) ?_
                  refine lv_iadd hx hb dX11_streets_120 ?_
                  refine lv_topi (fun y_19 ey_19 => ?_)
                  obtain rfl : y_19 = (nI (n4 + 0)) := ey_19.trans (nI_add n4 0)
                  refine lv_istore (lv' := [(4, .int (nI (n4 + 0))), (3, .int (nI (n3 + 0))), (9, .int 0), (8, .ref (ad 10 mr_14)), (7, .ref (ad 11 i34)), (6, .int (nI i34)), (5, .int (nI n5)), (0, .ref (g 0)), (1, .int v0), (2, .int v1)]) hx hb dX11_streets_121 hl (by decide) rfl (fun ls hl => ?_)
                  refine lv_iload hx hb dX11_streets_123 (lv_at hl 6 rfl) ?_
                  refine lv_iload hx hb dX11_streets_125 (lv_at hl 2 rfl) ?_
                  refine lv_if_eq (tgt := 142) hx hb dX11_streets_127 (by decide) (fun _ => ?_) (fun h => absurd h (by decide))
                  refine lv_iconst (v := 0) hx hb dX11_streets_142 (by decide) ?_
                  refine lv_iadd hx hb dX11_streets_143 ?_
                  refine lv_topi (fun y_20 ey_20 => ?_)
                  obtain rfl : y_20 = (nI (n5 + 0)) := ey_20.trans (nI_add n5 0)
                  refine lv_istore (lv' := [(5, .int (nI (n5 + 0))), (4, .int (nI (n4 + 0))), (3, .int (nI (n3 + 0))), (9, .int 0), (8, .ref (ad 10 mr_14)), (7, .ref (ad 11 i34)), (6, .int (nI i34)), (0, .ref (g 0)), (1, .int v0), (2, .int v1)]) hx hb dX11_streets_144 hl (by decide) rfl (fun ls hl => ?_)
                  refine lv_iinc (v := (nI (i34 + 1))) (lv' := [(6, .int (nI (i34 + 1))), (5, .int (nI (n5 + 0))), (4, .int (nI (n4 + 0))), (3, .int (nI (n3 + 0))), (9, .int 0), (8, .ref (ad 10 mr_14)), (7, .ref (ad 11 i34)), (0, .ref (g 0)), (1, .int v0), (2, .int v1)]) hx hb dX11_streets_146 hl (k := 6) rfl (nI_1 _) (by decide) rfl (fun ls hl => ?_)
                  refine lv_goto (tgt := 34) hx hb dX11_streets_149 (by decide) ?_
                  exact ih34 (i34 + 1) (n3 + 0) (n4 + 0) (n5 + 0) (by omega) ⟨(by omega), ⟨by omega, by omega, by omega⟩⟩ ls (lv_sub hl [0, 1, 2, 3, 7, 8, 9] rfl)
                ·
                  have tc_17 : (0 : Int) < ((Fn 128) i34).toInt := Int32.lt_iff_toInt_lt.mp (Int32.not_le.mp c_17)
                  refine lv_iconst (v := 1) hx hb dX11_streets_101 (by decide) ?_
                  refine lv_goto (tgt := 106) hx hb dX11_streets_102 (by decide) ?_
                  refine lv_iadd hx hb dX11_streets_106 ?_
                  refine lv_topi (fun y_21 ey_21 => ?_)
                  obtain rfl : y_21 = (nI (n3 + 1)) := ey_21.trans (nI_add n3 1)
                  refine lv_istore_n (lv' := [(3, .int (nI (n3 + 1))), (9, .int 0), (8, .ref (ad 10 mr_14)), (7, .ref (ad 11 i34)), (6, .int (nI i34)), (5, .int (nI n5)), (4, .int (nI n4)), (0, .ref (g 0)), (1, .int v0), (2, .int v1)]) hx hb dX11_streets_107 rfl hl (by decide) rfl (fun ls hl => ?_)
                  refine lv_iload hx hb dX11_streets_108 (lv_at hl 6 rfl) ?_
                  refine lv_iload hx hb dX11_streets_110 (lv_at hl 1 rfl) ?_
                  refine lv_if_eq (tgt := 119) hx hb dX11_streets_112 (by decide) (fun _ => ?_) (fun h => absurd h (by decide))
                  refine lv_iconst (v := 0) hx hb dX11_streets_119 (by decide) ?_
                  refine lv_iadd hx hb dX11_streets_120 ?_
                  refine lv_topi (fun y_22 ey_22 => ?_)
                  obtain rfl : y_22 = (nI (n4 + 0)) := ey_22.trans (nI_add n4 0)
                  refine lv_istore (lv' := [(4, .int (nI (n4 + 0))), (3, .int (nI (n3 + 1))), (9, .int 0), (8, .ref (ad 10 mr_14)), (7, .ref (ad 11 i34)), (6, .int (nI i34)), (5, .int (nI n5)), (0, .ref (g 0)), (1, .int v0), (2, .int v1)]) hx hb dX11_streets_121 hl (by decide) rfl (fun ls hl => ?_)
                  refine lv_iload hx hb dX11_streets_123 (lv_at hl 6 rfl) ?_
                  refine lv_iload hx hb dX11_streets_125 (lv_at hl 2 rfl) ?_
                  refine lv_if_eq (tgt := 142) hx hb dX11_streets_127 (by decide) (fun _ => ?_) (fun h => absurd h (by decide))
                  refine lv_iconst (v := 0) hx hb dX11_streets_142 (by decide) ?_
                  refine lv_iadd hx hb dX11_streets_143 ?_
                  refine lv_topi (fun y_23 ey_23 => ?_)
                  obtain rfl : y_23 = (nI (n5 + 0)) := ey_23.trans (nI_add n5 0)
                  refine lv_istore (lv' := [(5, .int (nI (n5 + 0))), (4, .int (nI (n4 + 0))), (3, .int (nI (n3 + 1))), (9, .int 0), (8, .ref (ad 10 mr_14)), (7, .ref (ad 11 i34)), (6, .int (nI i34)), (0, .ref (g 0)), (1, .int v0), (2, .int v1)]) hx hb dX11_streets_144 hl (by decide) rfl (fun ls hl => ?_)
                  refine lv_iinc (v := (nI (i34 + 1))) (lv' := [(6, .int (nI (i34 + 1))), (5, .int (nI (n5 + 0))), (4, .int (nI (n4 + 0))), (3, .int (nI (n3 + 1))), (9, .int 0), (8, .ref (ad 10 mr_14)), (7, .ref (ad 11 i34)), (0, .ref (g 0)), (1, .int v0), (2, .int v1)]) hx hb dX11_streets_146 hl (k := 6) rfl (nI_1 _) (by decide) rfl (fun ls hl => ?_)
                  refine lv_goto (tgt := 34) hx hb dX11_streets_149 (by decide) ?_
                  exact ih34 (i34 + 1) (n3 + 1) (n4 + 0) (n5 + 0) (by omega) ⟨(by omega), ⟨by omega, by omega, by omega⟩⟩ ls (lv_sub hl [0, 1, 2, 3, 7, 8, 9] rfl)
              ·
                have tc_16 : (((Fn 109) mr_14).toInt : Int) = v0.toInt := congrArg Int32.toInt c_16
                refine lv_iconst (v := 1) hx hb dX11_streets_85 (by decide) ?_
                refine lv_goto (tgt := 90) hx hb dX11_streets_86 (by decide) ?_
                refine lv_istore (lv' := [(9, .int 1), (8, .ref (ad 10 mr_14)), (7, .ref (ad 11 i34)), (6, .int (nI i34)), (5, .int (nI n5)), (4, .int (nI n4)), (3, .int (nI n3)), (0, .ref (g 0)), (1, .int v0), (2, .int v1)]) hx hb dX11_streets_90 hl (by decide) rfl (fun ls hl => ?_)
                refine lv_iload_n hx hb dX11_streets_92 rfl (lv_at hl 6 rfl) ?_
                refine lv_aload hx hb dX11_streets_93 (lv_at hl 2 rfl) ?_
                refine gf_RX11_141 S hK hP _ (xf_1 (by omega)) (v := .int ((Fn 128) i34)) rfl dX11_streets_95 ?_
                refine lv_if_le (tgt := 105) hx hb dX11_streets_98 (by decide) (fun c_24 => ?_) (fun c_24 => ?_)
                ·
                  have tc_24 : (((Fn 128) i34).toInt : Int) ≤ 0 := Int32.le_iff_toInt_le.mp c_24
                  refine lv_iconst (v := 0) hx hb dX11_streets_105 (by decide) ?_
                  refine lv_iadd hx hb dX11_streets_106 ?_
                  refine lv_topi (fun y_25 ey_25 => ?_)
                  obtain rfl : y_25 = (nI (n3 + 0)) := ey_25.trans (nI_add n3 0)
                  refine lv_istore_n (lv' := [(3, .int (nI (n3 + 0))), (9, .int 1), (8, .ref (ad 10 mr_14)), (7, .ref (ad 11 i34)), (6, .int (nI i34)), (5, .int (nI n5)), (4, .int (nI n4)), (0, .ref (g 0)), (1, .int v0), (2, .int v1)]) hx hb dX11_streets_107 rfl hl (by decide) rfl (fun ls hl => ?_)
                  refine lv_iload hx hb dX11_streets_108 (lv_at hl 6 rfl) ?_
                  refine lv_iload hx hb dX11_streets_110 (lv_at hl 1 rfl) ?_
                  refine lv_if_eq (tgt := 119) hx hb dX11_streets_112 (by decide) (fun h => absurd h (by decide)) (fun _ => ?_)
                  refine lv_iconst (v := 1) hx hb dX11_streets_115 (by decide) ?_
                  refine lv_goto (tgt := 120) hx hb dX11_streets_116 (by decide) ?_
                  refine lv_iadd hx hb dX11_streets_120 ?_
                  refine lv_topi (fun y_26 ey_26 => ?_)
                  obtain rfl : y_26 = (nI (n4 + 1)) := ey_26.trans (nI_add n4 1)
                  refine lv_istore (lv' := [(4, .int (nI (n4 + 1))), (3, .int (nI (n3 + 0))), (9, .int 1), (8, .ref (ad 10 mr_14)), (7, .ref (ad 11 i34)), (6, .int (nI i34)), (5, .int (nI n5)), (0, .ref (g 0)), (1, .int v0), (2, .int v1)]) hx hb dX11_streets_121 hl (by decide) rfl (fun ls hl => ?_)
                  refine lv_iload hx hb dX11_streets_123 (lv_at hl 6 rfl) ?_
                  refine lv_iload hx hb dX11_streets_125 (lv_at hl 2 rfl) ?_
                  refine lv_if_eq (tgt := 142) hx hb dX11_streets_127 (by decide) (fun h => absurd h (by decide)) (fun _ => ?_)
                  refine lv_aload hx hb dX11_streets_130 (lv_at hl 4 rfl) ?_
                  refine gf_RX11_141 S hK hP _ (xf_1 (by omega)) (v := .int ((Fn 128) i34)) rfl dX11_streets_132 ?_
                  refine lv_if_le (tgt := 142) hx hb dX11_streets_135 (by decide) (fun c_27 => ?_) (fun c_27 => False.elim (by have tc_27 : (0 : Int) < ((Fn 128) i34).toInt := Int32.lt_iff_toInt_lt.mp (Int32.not_le.mp c_27); omega))
                  have tc_27 : (((Fn 128) i34).toInt : Int) ≤ 0 := Int32.le_iff_toInt_le.mp c_27
                  refine lv_iconst (v := 0) hx hb dX11_streets_142 (by decide) ?_
                  refine lv_iadd hx hb dX11_streets_143 ?_
                  refine lv_topi (fun y_28 ey_28 => ?_)
                  obtain rfl : y_28 = (nI (n5 + 0)) := ey_28.trans (nI_add n5 0)
                  refine lv_istore (lv' := [(5, .int (nI (n5 + 0))), (4, .int (nI (n4 + 1))), (3, .int (nI (n3 + 0))), (9, .int 1), (8, .ref (ad 10 mr_14)), (7, .ref (ad 11 i34)), (6, .int (nI i34)), (0, .ref (g 0)), (1, .int v0), (2, .int v1)]) hx hb dX11_streets_144 hl (by decide) rfl (fun ls hl => ?_)
                  refine lv_iinc (v := (nI (i34 + 1))) (lv' := [(6, .int (nI (i34 + 1))), (5, .int (nI (n5 + 0))), (4, .int (nI (n4 + 1))), (3, .int (nI (n3 + 0))), (9, .int 1), (8, .ref (ad 10 mr_14)), (7, .ref (ad 11 i34)), (0, .ref (g 0)), (1, .int v0), (2, .int v1)]) hx hb dX11_streets_146 hl (k := 6) rfl (nI_1 _) (by decide) rfl (fun ls hl => ?_)
                  refine lv_goto (tgt := 34) hx hb dX11_streets_149 (by decide) ?_
                  exact ih34 (i34 + 1) (n3 + 0) (n4 + 1) (n5 + 0) (by omega) ⟨(by omega), ⟨by omega, by omega, by omega⟩⟩ ls (lv_sub hl [0, 1, 2, 3, 7, 8, 9] rfl)
                ·
                  have tc_24 : (0 : Int) < ((Fn 128) i34).toInt := Int32.lt_iff_toInt_lt.mp (Int32.not_le.mp c_24)
                  refine lv_iconst (v := 1) hx hb dX11_streets_101 (by decide) ?_
                  refine lv_goto (tgt := 106) hx hb dX11_streets_102 (by decide) ?_
                  refine lv_iadd hx hb dX11_streets_106 ?_
                  refine lv_topi (fun y_29 ey_29 => ?_)
                  obtain rfl : y_29 = (nI (n3 + 1)) := ey_29.trans (nI_add n3 1)
                  refine lv_istore_n (lv' := [(3, .int (nI (n3 + 1))), (9, .int 1), (8, .ref (ad 10 mr_14)), (7, .ref (ad 11 i34)), (6, .int (nI i34)), (5, .int (nI n5)), (4, .int (nI n4)), (0, .ref (g 0)), (1, .int v0), (2, .int v1)]) hx hb dX11_streets_107 rfl hl (by decide) rfl (fun ls hl => ?_)
                  refine lv_iload hx hb dX11_streets_108 (lv_at hl 6 rfl) ?_
                  refine lv_iload hx hb dX11_streets_110 (lv_at hl 1 rfl) ?_
                  refine lv_if_eq (tgt := 119) hx hb dX11_streets_112 (by decide) (fun h => absurd h (by decide)) (fun _ => ?_)
                  refine lv_iconst (v := 1) hx hb dX11_streets_115 (by decide) ?_
                  refine lv_goto (tgt := 120) hx hb dX11_streets_116 (by decide) ?_
                  refine lv_iadd hx hb dX11_streets_120 ?_
                  refine lv_topi (fun y_30 ey_30 => ?_)
                  obtain rfl : y_30 = (nI (n4 + 1)) := ey_30.trans (nI_add n4 1)
                  refine lv_istore (lv' := [(4, .int (nI (n4 + 1))), (3, .int (nI (n3 + 1))), (9, .int 1), (8, .ref (ad 10 mr_14)), (7, .ref (ad 11 i34)), (6, .int (nI i34)), (5, .int (nI n5)), (0, .ref (g 0)), (1, .int v0), (2, .int v1)]) hx hb dX11_streets_121 hl (by decide) rfl (fun ls hl => ?_)
                  refine lv_iload hx hb dX11_streets_123 (lv_at hl 6 rfl) ?_
                  refine lv_iload hx hb dX11_streets_125 (lv_at hl 2 rfl) ?_
                  refine lv_if_eq (tgt := 142) hx hb dX11_streets_127 (by decide) (fun h => absurd h (by decide)) (fun _ => ?_)
                  refine lv_aload hx hb dX11_streets_130 (lv_at hl 4 rfl) ?_
                  refine gf_RX11_141 S hK hP _ (xf_1 (by omega)) (v := .int ((Fn 128) i34)) rfl dX11_streets_132 ?_
                  refine lv_if_le (tgt := 142) hx hb dX11_streets_135 (by decide) (fun c_31 => False.elim (by have tc_31 : (((Fn 128) i34).toInt : Int) ≤ 0 := Int32.le_iff_toInt_le.mp c_31; omega)) (fun c_31 => ?_)
                  have tc_31 : (0 : Int) < ((Fn 128) i34).toInt := Int32.lt_iff_toInt_lt.mp (Int32.not_le.mp c_31)
                  refine lv_iconst (v := 1) hx hb dX11_streets_138 (by decide) ?_
                  refine lv_goto (tgt := 143) hx hb dX11_streets_139 (by decide) ?_
                  refine lv_iadd hx hb dX11_streets_143 ?_
                  refine lv_topi (fun y_32 ey_32 => ?_)
                  obtain rfl : y_32 = (nI (n5 + 1)) := ey_32.trans (nI_add n5 1)
                  refine lv_istore (lv' := [(5, .int (nI (n5 + 1))), (4, .int (nI (n4 + 1))), (3, .int (nI (n3 + 1))), (9, .int 1), (8, .ref (ad 10 mr_14)), (7, .ref (ad 11 i34)), (6, .int (nI i34)), (0, .ref (g 0)), (1, .int v0), (2, .int v1)]) hx hb dX11_streets_144 hl (by decide) rfl (fun ls hl => ?_)
                  refine lv_iinc (v := (nI (i34 + 1))) (lv' := [(6, .int (nI (i34 + 1))), (5, .int (nI (n5 + 1))), (4, .int (nI (n4 + 1))), (3, .int (nI (n3 + 1))), (9, .int 1), (8, .ref (ad 10 mr_14)), (7, .ref (ad 11 i34)), (0, .ref (g 0)), (1, .int v0), (2, .int v1)]) hx hb dX11_streets_146 hl (k := 6) rfl (nI_1 _) (by decide) rfl (fun ls hl => ?_)
                  refine lv_goto (tgt := 34) hx hb dX11_streets_149 (by decide) ?_
                  exact ih34 (i34 + 1) (n3 + 1) (n4 + 1) (n5 + 1) (by omega) ⟨(by omega), ⟨by omega, by omega, by omega⟩⟩ ls (lv_sub hl [0, 1, 2, 3, 7, 8, 9] rfl)
            ·
              refine lv_astoreN (lv' := [(8, .null), (7, .ref (ad 11 i34)), (6, .int (nI i34)), (5, .int (nI n5)), (4, .int (nI n4)), (3, .int (nI n3)), (0, .ref (g 0)), (1, .int v0), (2, .int v1)]) hx hb dX11_streets_69 hl (by decide) rfl (fun ls hl => ?_)
              refine lv_aloadN hx hb dX11_streets_71 (lv_at hl 0 rfl) ?_
              refine lv_ifnullN (tgt := 89) hx hb dX11_streets_73 (by decide) ?_
              refine lv_iconst (v := 0) hx hb dX11_streets_89 (by decide) ?_
              refine lv_istore (lv' := [(9, .int 0), (8, .null), (7, .ref (ad 11 i34)), (6, .int (nI i34)), (5, .int (nI n5)), (4, .int (nI n4)), (3, .int (nI n3)), (0, .ref (g 0)), (1, .int v0), (2, .int v1)]) hx hb dX11_streets_90 hl (by decide) rfl (fun ls hl => ?_)
              refine lv_iload_n hx hb dX11_streets_92 rfl (lv_at hl 6 rfl) ?_
              refine lv_aload hx hb dX11_streets_93 (lv_at hl 2 rfl) ?_
              refine gf_RX11_141 S hK hP _ (xf_1 (by omega)) (v := .int ((Fn 128) i34)) rfl dX11_streets_95 ?_
              refine lv_if_le (tgt := 105) hx hb dX11_streets_98 (by decide) (fun c_33 => ?_) (fun c_33 => ?_)
              ·
                have tc_33 : (((Fn 128) i34).toInt : Int) ≤ 0 := Int32.le_iff_toInt_le.mp c_33
                refine lv_iconst (v := 0) hx hb dX11_streets_105 (by decide) ?_
                refine lv_iadd hx hb dX11_streets_106 ?_
                refine lv_topi (fun y_34 ey_34 => ?_)
                obtain rfl : y_34 = (nI (n3 + 0)) := ey_34.trans (nI_add n3 0)
                refine lv_istore_n (lv' := [(3, .int (nI (n3 + 0))), (9, .int 0), (8, .null), (7, .ref (ad 11 i34)), (6, .int (nI i34)), (5, .int (nI n5)), (4, .int (nI n4)), (0, .ref (g 0)), (1, .int v0), (2, .int v1)]) hx hb dX11_streets_107 rfl hl (by decide) rfl (fun ls hl => ?_)
                refine lv_iload hx hb dX11_streets_108 (lv_at hl 6 rfl) ?_
                refine lv_iload hx hb dX11_streets_110 (lv_at hl 1 rfl) ?_
                refine lv_if_eq (tgt := 119) hx hb dX11_streets_112 (by decide) (fun _ => ?_) (fun h => absurd h (by decide))
                refine lv_iconst (v := 0) hx hb dX11_streets_119 (by decide) ?_
                refine lv_iadd hx hb dX11_streets_120 ?_
                refine lv_topi (fun y_35 ey_35 => ?_)
                obtain rfl : y_35 = (nI (n4 + 0)) := ey_35.trans (nI_add n4 0)
                refine lv_istore (lv' := [(4, .int (nI (n4 + 0))), (3, .int (nI (n3 + 0))), (9, .int 0), (8, .null), (7, .ref (ad 11 i34)), (6, .int (nI i34)), (5, .int (nI n5)), (0, .ref (g 0)), (1, .int v0), (2, .int v1)]) hx hb dX11_streets_121 hl (by decide) rfl (fun ls hl => ?_)
                refine lv_iload hx hb dX11_streets_123 (lv_at hl 6 rfl) ?_
                refine lv_iload hx hb dX11_streets_125 (lv_at hl 2 rfl) ?_
                refine lv_if_eq (tgt := 142) hx hb dX11_streets_127 (by decide) (fun _ => ?_) (fun h => absurd h (by decide))
                refine lv_iconst (v := 0) hx hb dX11_streets_142 (by decide) ?_
                refine lv_iadd hx hb dX11_streets_143 ?_
                refine lv_topi (fun y_36 ey_36 => ?_)
                obtain rfl : y_36 = (nI (n5 + 0)) := ey_36.trans (nI_add n5 0)
                refine lv_istore (lv' := [(5, .int (nI (n5 + 0))), (4, .int (nI (n4 + 0))), (3, .int (nI (n3 + 0))), (9, .int 0), (8, .null), (7, .ref (ad 11 i34)), (6, .int (nI i34)), (0, .ref (g 0)), (1, .int v0), (2, .int v1)]) hx hb dX11_streets_144 hl (by decide) rfl (fun ls hl => ?_)
                refine lv_iinc (v := (nI (i34 + 1))) (lv' := [(6, .int (nI (i34 + 1))), (5, .int (nI (n5 + 0))), (4, .int (nI (n4 + 0))), (3, .int (nI (n3 + 0))), (9, .int 0), (8, .null), (7, .ref (ad 11 i34)), (0, .ref (g 0)), (1, .int v0), (2, .int v1)]) hx hb dX11_streets_146 hl (k := 6) rfl (nI_1 _) (by decide) rfl (fun ls hl => ?_)
                refine lv_goto (tgt := 34) hx hb dX11_streets_149 (by decide) ?_
                exact ih34 (i34 + 1) (n3 + 0) (n4 + 0) (n5 + 0) (by omega) ⟨(by omega), ⟨by omega, by omega, by omega⟩⟩ ls (lv_sub hl [0, 1, 2, 3, 7, 8, 9] rfl)
              ·
                have tc_33 : (0 : Int) < ((Fn 128) i34).toInt := Int32.lt_iff_toInt_lt.mp (Int32.not_le.mp c_33)
                refine lv_iconst (v := 1) hx hb dX11_streets_101 (by decide) ?_
                refine lv_goto (tgt := 106) hx hb dX11_streets_102 (by decide) ?_
                refine lv_iadd hx hb dX11_streets_106 ?_
                refine lv_topi (fun y_37 ey_37 => ?_)
                obtain rfl : y_37 = (nI (n3 + 1)) := ey_37.trans (nI_add n3 1)
                refine lv_istore_n (lv' := [(3, .int (nI (n3 + 1))), (9, .int 0), (8, .null), (7, .ref (ad 11 i34)), (6, .int (nI i34)), (5, .int (nI n5)), (4, .int (nI n4)), (0, .ref (g 0)), (1, .int v0), (2, .int v1)]) hx hb dX11_streets_107 rfl hl (by decide) rfl (fun ls hl => ?_)
                refine lv_iload hx hb dX11_streets_108 (lv_at hl 6 rfl) ?_
                refine lv_iload hx hb dX11_streets_110 (lv_at hl 1 rfl) ?_
                refine lv_if_eq (tgt := 119) hx hb dX11_streets_112 (by decide) (fun _ => ?_) (fun h => absurd h (by decide))
                refine lv_iconst (v := 0) hx hb dX11_streets_119 (by decide) ?_
                refine lv_iadd hx hb dX11_streets_120 ?_
                refine lv_topi (fun y_38 ey_38 => ?_)
                obtain rfl : y_38 = (nI (n4 + 0)) := ey_38.trans (nI_add n4 0)
                refine lv_istore (lv' := [(4, .int (nI (n4 + 0))), (3, .int (nI (n3 + 1))), (9, .int 0), (8, .null), (7, .ref (ad 11 i34)), (6, .int (nI i34)), (5, .int (nI n5)), (0, .ref (g 0)), (1, .int v0), (2, .int v1)]) hx hb dX11_streets_121 hl (by decide) rfl (fun ls hl => ?_)
                refine lv_iload hx hb dX11_streets_123 (lv_at hl 6 rfl) ?_
                refine lv_iload hx hb dX11_streets_125 (lv_at hl 2 rfl) ?_
                refine lv_if_eq (tgt := 142) hx hb dX11_streets_127 (by decide) (fun _ => ?_) (fun h => absurd h (by decide))
                refine lv_iconst (v := 0) hx hb dX11_streets_142 (by decide) ?_
                refine lv_iadd hx hb dX11_streets_143 ?_
                refine lv_topi (fun y_39 ey_39 => ?_)
                obtain rfl : y_39 = (nI (n5 + 0)) := ey_39.trans (nI_add n5 0)
                refine lv_istore (lv' := [(5, .int (nI (n5 + 0))), (4, .int (nI (n4 + 0))), (3, .int (nI (n3 + 1))), (9, .int 0), (8, .null), (7, .ref (ad 11 i34)), (6, .int (nI i34)), (0, .ref (g 0)), (1, .int v0), (2, .int v1)]) hx hb dX11_streets_144 hl (by decide) rfl (fun ls hl => ?_)
                refine lv_iinc (v := (nI (i34 + 1))) (lv' := [(6, .int (nI (i34 + 1))), (5, .int (nI (n5 + 0))), (4, .int (nI (n4 + 0))), (3, .int (nI (n3 + 1))), (9, .int 0), (8, .null), (7, .ref (ad 11 i34)), (0, .ref (g 0)), (1, .int v0), (2, .int v1)]) hx hb dX11_streets_146 hl (k := 6) rfl (nI_1 _) (by decide) rfl (fun ls hl => ?_)
                refine lv_goto (tgt := 34) hx hb dX11_streets_149 (by decide) ?_
                exact ih34 (i34 + 1) (n3 + 1) (n4 + 0) (n5 + 0) (by omega) ⟨(by omega), ⟨by omega, by omega, by omega⟩⟩ ls (lv_sub hl [0, 1, 2, 3, 7, 8, 9] rfl)
      exact lp_34 _ 0 0 0 0 (Nat.lt_succ_self _) ⟨(by omega), ⟨Nat.le_refl _, Nat.le_refl _, Nat.le_refl _⟩⟩ ls (lv_sub hl [0, 1, 2, 3, 4, 5, 6] rfl)
    ·
      have h_4 : ¬ (0 ≤ v1.toInt ∧ v1.toInt ≤ 2) := h_4
      refine lv_if_ne (tgt := 23) hx hb dX11_streets_16 (by decide) (fun h => absurd h (by decide)) (fun _ => ?_)
      refine lv_ldc2 (v := (-1)) hx hb hown (S.2.2.2.2 _ (wT_t4 61 rfl rfl)) dX11_streets_19 ?_
      exact W.lret (v := (-1)) hx hb hr (fun t ht hW => ⟨(-1), rfl, trivial, ht⟩) (fun _ h => absurd h List.not_mem_nil) dX11_streets_22
  ·
    have h_2 : ¬ (0 ≤ v0.toInt ∧ v0.toInt ≤ 9) := h_2
    refine lv_if_eq (tgt := 19) hx hb dX11_streets_7 (by decide) (fun _ => ?_) (fun h => absurd h (by decide))
    refine lv_ldc2 (v := (-1)) hx hb hown (S.2.2.2.2 _ (wT_t4 61 rfl rfl)) dX11_streets_19 ?_
    exact W.lret (v := (-1)) hx hb hr (fun t ht hW => ⟨(-1), rfl, trivial, ht⟩) (fun _ h => absurd h List.not_mem_nil) dX11_streets_22
