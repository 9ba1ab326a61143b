set_option maxRecDepth 100000 in
set_option maxHeartbeats 4000000 in
theorem q_Xcheat (l : Launch) (D : va_G) (cI cB cZ : ClassId) (zz qq vv : Nat) (bt : Nat → Int32) (g : Nat → Nat) (ad : Nat → Nat → Nat) (cn : Nat → Nat) (In : Nat → Int32) (Fn : Nat → Nat → Int32) (v0 v1 v2 : Int32) (hB : CBX cn) : Met l yX11_cheat (CWS yX11_cheat cX11_cheat 10 (some .long)) (RM 4 0 0) (PBrx [.ref (g 0), .int v0, .int v1, .int v2] D cI cB cZ zz qq vv bt (wX cI (D.1 99) zz g ad cn In Fn)) (vp_Sl (fun _ => True)) 0 0 (fun _ => False) := by
  refine Met.ofW (cc := cX11_cheat) (maxL := 10) (ret := (some .long)) (by decide) rfl ?_
  intro p e s m args below meth c s₁ B hml hv
  obtain ⟨rfl, hP, hK, hXS⟩ := hv
  have hS : va_S (fun _ => False) s.heap s.heap [] := va_S.rf
  have hx := B.exec
  have hb := B.bytes
  have hr := B.returns
  have hts := atoms_spec (ws := (CWS yX11_cheat cX11_cheat 10 (some .long))) B.pre
  have hown : s.vm.findClass RX11 = some m.cls := findClass_of_methodNamed B.named
  have hlocks := B.notSynchronized
  have S : SF p m c cX11_cheat 10 s ([.ref (g 0), .int v0, .int v1, .int v2]).toArray RX11 := ⟨hx, hb, hml, hown, fun w h => hts w (List.mem_cons_of_mem _ h)⟩
  have hl := lv_entry ([.ref (g 0), .int v0, .int v1, .int v2]) (n := 10) (Nat.le_of_ble_eq_true rfl)
  rw [lg_entry_eq]
  generalize (lg_sl ([.ref (g 0), .int v0, .int v1, .int v2]) ++ List.replicate (10 - (lg_sl ([.ref (g 0), .int v0, .int v1, .int v2])).length) Slot.unset).toArray = ls at hl ⊢
  have hl : lv_has ls 10 [(0, .ref (g 0)), (1, .int v0), (2, .int v1), (3, .int v2)] := hl
  refine lv_aload_n hx hb dX11_cheat_0 rfl (lv_at hl 0 rfl) ?_
  refine lv_iload_n hx hb dX11_cheat_1 rfl (lv_at hl 1 rfl) ?_
  refine va_csq (runV_rxa (As := [.int v0]) (rest := []) S (q_XkitchenAt l D cI cB cZ zz qq vv bt g ad cn In Fn v0 hB) kV_RX11_114 hK hXS hS hP 0 xo_0 rfl rfl ⟨Nat.le_of_ble_eq_true rfl, Nat.le_of_ble_eq_true rfl⟩ ⟨Nat.le_of_ble_eq_true rfl, Nat.le_of_ble_eq_true rfl⟩ rfl hl.1 rfl (Nat.le_of_ble_eq_true rfl) dX11_cheat_2) (fun r_1 h_2 => ?_)
  rcases h_2 with ⟨mr_1, er_1, hr_1, rfl⟩ | ⟨hr_1, rfl⟩
  ·
    refine lv_ifnull hx hb dX11_cheat_5 ?_
    refine lv_iload_n hx hb dX11_cheat_8 rfl (lv_at hl 2 rfl) ?_
    refine lv_iconst (v := 0) hx hb dX11_cheat_9 (by decide) ?_
    refine lv_sipush (v := 1000) hx hb dX11_cheat_10 (by decide) ?_
    refine vp_callSi (runS_r (As := [.int v1, .int 0, .int 1000]) (rest := []) S (q_l_within l D cI cB cZ v1 0 1000) kS_RX11_80 hK hP [] rfl ⟨Nat.le_of_ble_eq_true rfl, Nat.le_of_ble_eq_true rfl⟩ ⟨Nat.le_of_ble_eq_true rfl, Nat.le_of_ble_eq_true rfl⟩ rfl hl.1 rfl (Nat.le_of_ble_eq_true rfl) dX11_cheat_13) (fun r_3 h_4 => ?_)
    rcases h_4 with ⟨rfl, h_4⟩ | ⟨rfl, h_4⟩
    ·
      have h_4 : 0 ≤ v1.toInt ∧ v1.toInt ≤ 1000 := h_4
      refine lv_if_eq (tgt := 28) hx hb dX11_cheat_16 (by decide) (fun h => absurd h (by decide)) (fun _ => ?_)
      refine lv_iload_n hx hb dX11_cheat_19 rfl (lv_at hl 3 rfl) ?_
      refine lv_iconst (v := 0) hx hb dX11_cheat_20 (by decide) ?_
      refine lv_iconst (v := 2) hx hb dX11_cheat_21 (by decide) ?_
      refine vp_callSi (runS_r (As := [.int v2, .int 0, .int 2]) (rest := []) S (q_l_within l D cI cB cZ v2 0 2) kS_RX11_80 hK hP [] rfl ⟨Nat.le_of_ble_eq_true rfl, Nat.le_of_ble_eq_true rfl⟩ ⟨Nat.le_of_ble_eq_true rfl, Nat.le_of_ble_eq_true rfl⟩ rfl hl.1 rfl (Nat.le_of_ble_eq_true rfl) dX11_cheat_22) (fun r_5 h_6 => ?_)
      rcases h_6 with ⟨rfl, h_6⟩ | ⟨rfl, h_6⟩
      ·
        have h_6 : 0 ≤ v2.toInt ∧ v2.toInt ≤ 2 := h_6
        refine lv_if_ne (tgt := 32) hx hb dX11_cheat_25 (by decide) (fun _ => ?_) (fun h => absurd h (by decide))
        refine lv_iconst (v := 0) hx hb dX11_cheat_32 (by decide) ?_
        refine lv_istore (lv' := [(4, .int 0), (0, .ref (g 0)), (1, .int v0), (2, .int v1), (3, .int v2)]) hx hb dX11_cheat_33 hl (by decide) rfl (fun ls hl => ?_)
        refine lv_iconst (v := 0) hx hb dX11_cheat_35 (by decide) ?_
        refine lv_istore (lv' := [(5, .int 0), (4, .int 0), (0, .ref (g 0)), (1, .int v0), (2, .int v1), (3, .int v2)]) hx hb dX11_cheat_36 hl (by decide) rfl (fun ls hl => ?_)
        refine lv_iconst (v := 0) hx hb dX11_cheat_38 (by decide) ?_
        refine lv_istore (lv' := [(6, .int 0), (5, .int 0), (4, .int 0), (0, .ref (g 0)), (1, .int v0), (2, .int v1), (3, .int v2)]) hx hb dX11_cheat_39 hl (by decide) rfl (fun ls hl => ?_)
        refine lv_iconst (v := 0) hx hb dX11_cheat_41 (by decide) ?_
        refine lv_istore (lv' := [(7, .int 0), (6, .int 0), (5, .int 0), (4, .int 0), (0, .ref (g 0)), (1, .int v0), (2, .int v1), (3, .int v2)]) hx hb dX11_cheat_42 hl (by decide) rfl (fun ls hl => ?_)
        have lp_44 : ∀ (n : Nat) (i44 : Nat) (n3 : Nat) (n4 : Nat) (n5 : Nat) , cn 11 - i44 < n → (i44 ≤ cn 11 ∧ (n3 ≤ i44 ∧ n4 ≤ i44 ∧ n5 ≤ i44)) → ∀ ls : Array Slot, lv_has ls 10 [(7, .int (nI i44)), (6, .int (nI n5)), (5, .int (nI n4)), (4, .int (nI n3)), (0, .ref (g 0)), (1, .int v0), (2, .int v1), (3, .int v2)] → W p l e (RM 4 0 0) s m ([.ref (g 0), .int v0, .int v1, .int v2]).toArray below meth c s.heap [] 0 0 (MQ below (vp_Sl (fun _ => True)) ([.ref (g 0), .int v0, .int v1, .int v2]).toArray s 0 0 (fun _ => False)) (F0 m 44 ls []) := by
          intro n44
          induction n44 with
          | zero => intros; omega
          | succ n44 ih44 =>
            intro i44 n3 n4 n5 hmu44 hinv44 ls hl
            obtain ⟨hr44, hx44_0⟩ := hinv44
            have ti44 : (nI i44).toInt = (i44 : Int) := nI_toInt (by omega)
            refine lv_iload hx hb dX11_cheat_44 (lv_at hl 0 rfl) ?_
            refine lv_aload_n hx hb dX11_cheat_46 rfl (lv_at hl 4 rfl) ?_
            refine gf_RX11_65 S hK hP 0 xo_0 (v := .ref (g 11)) rfl dX11_cheat_47 ?_
            refine vp_callSi (runV_r (As := []) (rest := [.int (nI i44)]) S (q_l_size l D cI cB cZ (g 11) (if (cn 11) = 0 then zz else ad 2 1) (In 11) (nI (cn 11))) kV_RX11_84 hK hP [25] (one_is xo_25) 25 xo_25 rfl rfl ⟨Nat.le_of_ble_eq_true rfl, Nat.le_of_ble_eq_true rfl⟩ ⟨Nat.le_of_ble_eq_true rfl, Nat.le_of_ble_eq_true rfl⟩ rfl hl.1 rfl (Nat.le_of_ble_eq_true rfl) dX11_cheat_50) (fun r_7 h_8 => ?_)
            subst h_8
            have : (nI (cn 11)).toInt = (((cn 11) : Nat) : Int) := nI_toInt (by omega)
            refine lv_icmp_ge (tgt := 150) hx hb dX11_cheat_53 (by decide) (fun c_9 => ?_) (fun c_9 => ?_)
            ·
              have tc_9 : ((nI (cn 11)).toInt : Int) ≤ (nI i44).toInt := Int32.le_iff_toInt_le.mp c_9
              refine lv_iload hx hb dX11_cheat_150 (lv_at hl 3 rfl) ?_
              refine lv_iload hx hb dX11_cheat_152 (lv_at hl 2 rfl) ?_
              refine lv_iload hx hb dX11_cheat_154 (lv_at hl 1 rfl) ?_
              refine lv_aload_n hx hb dX11_cheat_156 rfl (lv_at hl 4 rfl) ?_
              refine gf_RX11_65 S hK hP 0 xo_0 (v := .ref (g 11)) rfl dX11_cheat_157 ?_
              refine vp_callSi (runV_r (As := []) (rest := [.int (nI n5), .int (nI n4), .int (nI n3)]) S (q_l_size l D cI cB cZ (g 11) (if (cn 11) = 0 then zz else ad 2 1) (In 11) (nI (cn 11))) kV_RX11_84 hK hP [25] (one_is xo_25) 25 xo_25 rfl rfl ⟨Nat.le_of_ble_eq_true rfl, Nat.le_of_ble_eq_true rfl⟩ ⟨Nat.le_of_ble_eq_true rfl, Nat.le_of_ble_eq_true rfl⟩ rfl hl.1 rfl (Nat.le_of_ble_eq_true rfl) dX11_cheat_160) (fun r_10 h_11 => ?_)
              subst h_11
              refine lv_iload_n hx hb dX11_cheat_163 rfl (lv_at hl 7 rfl) ?_
              refine vp_callSl (runS_r (As := [.int (nI n3), .int (nI n4), .int (nI n5), .int (nI (cn 11)), .int v2]) (rest := []) S (q_Xodds l D cI cB cZ n3 n4 n5 (cn 11) v2 (by omega) (by omega) (by omega) (by omega)) kS_RX11_256 hK hP [] rfl ⟨Nat.le_of_ble_eq_true rfl, Nat.le_of_ble_eq_true rfl⟩ ⟨Nat.le_of_ble_eq_true rfl, Nat.le_of_ble_eq_true rfl⟩ rfl hl.1 rfl (Nat.le_of_ble_eq_true rfl) dX11_cheat_164) (fun r_12 h_13 => ?_)
              exact W.lret (v := r_12) hx hb hr (fun t ht hW => ⟨r_12, rfl, trivial, ht⟩) (fun _ h => absurd h List.not_mem_nil) dX11_cheat_167
            ·
              have tc_9 : ((nI i44).toInt : Int) < (nI (cn 11)).toInt := Int32.lt_iff_toInt_lt.mp (Int32.not_le.mp c_9)
              refine lv_aload_n hx hb dX11_cheat_56 rfl (lv_at hl 4 rfl) ?_
              refine gf_RX11_65 S hK hP 0 xo_0 (v := .ref (g 11)) rfl dX11_cheat_57 ?_
              refine lv_iload hx hb dX11_cheat_60 (lv_at hl 0 rfl) ?_
              refine va_csq (runV_rx (As := [.int (nI i44)]) (rest := []) S (q_l_get l D cI cB cZ zz qq vv bt (g 11) (ad 2 1) (cn 21) (cn 11) i44 (ad 11 i44) (In 11) (fun i => if i < (cn 11) then some (ad 11 i) else none) (by omega) (if_pos (by omega)) (by omega) (by omega)) kV_RX11_87 hK hXS hS hP _ (two_is (xl_1 (by omega)) (xf_14 (k := 0) (by omega))) (va_recv hK.1 hP (ci := 0) rfl xo_25) ⟨Nat.le_of_ble_eq_true rfl, Nat.le_of_ble_eq_true rfl⟩ ⟨Nat.le_of_ble_eq_true rfl, Nat.le_of_ble_eq_true rfl⟩ rfl hl.1 rfl (Nat.le_of_ble_eq_true rfl) dX11_cheat_62) (fun r_14 h_15 => ?_)
              subst h_15
              refine va_castS hx hb hown (S.2.2.2.2 _ (wT_t2 204 rfl rfl)) (xclass hK.1 (ci := 3) rfl) (va_recv hK.1 hP (ci := 3) rfl (xf_1 (by omega))) dX11_cheat_65 ?_
              refine lv_astore (lv' := [(8, .ref (ad 11 i44)), (7, .int (nI i44)), (6, .int (nI n5)), (5, .int (nI n4)), (4, .int (nI n3)), (0, .ref (g 0)), (1, .int v0), (2, .int v1), (3, .int v2)]) hx hb dX11_cheat_68 hl (by decide) rfl (fun ls hl => ?_)
              refine lv_aload hx hb dX11_cheat_70 (lv_at hl 0 rfl) ?_
              refine gf_RX11_205 S hK hP _ (xf_1 (by omega)) (v := .int ((Fn 123) i44)) rfl dX11_cheat_72 ?_
              refine lv_iload_n hx hb dX11_cheat_75 rfl (lv_at hl 7 rfl) ?_
              refine lv_icmp_lt (tgt := 83) hx hb dX11_cheat_76 (by decide) (fun c_16 => ?_) (fun c_16 => ?_)
              ·
                have tc_16 : (((Fn 123) i44).toInt : Int) < v1.toInt := Int32.lt_iff_toInt_lt.mp c_16
                refine lv_iconst (v := 0) hx hb dX11_cheat_83 (by decide) ?_
                refine lv_istore (lv' := [(9, .int 0), (8, .ref (ad 11 i44)), (7, .int (nI i44)), (6, .int (nI n5)), (5, .int (nI n4)), (4, .int (nI n3)), (0, .ref (g 0)), (1, .int v0), (2, .int v1), (3, .int v2)]) hx hb dX11_cheat_84 hl (by decide) rfl (fun ls hl => ?_)
                refine lv_iload hx hb dX11_cheat_86 (lv_at hl 5 rfl) ?_
                refine lv_iload hx hb dX11_cheat_88 (lv_at hl 0 rfl) ?_
                refine lv_if_eq (tgt := 97) hx hb dX11_cheat_90 (by decide) (fun _ => ?_) (fun h => absurd h (by decide))
                refine lv_iconst (v := 0) hx hb dX11_cheat_97 (by decide) ?_
                refine lv_iadd hx hb dX11_cheat_98 ?_
                refine lv_topi (fun y_17 ey_17 => ?_)
                obtain rfl : y_17 = (nI (n3 + 0)) := ey_17.trans (nI_add n3 0)
                refine lv_istore (lv' := [(4, .int (nI (n3 + 0))), (9, .int 0), (8, .ref (ad 11 i44)), (7, .int (nI i44)), (6, .int (nI n5)), (5, .int (nI n4)), (0, .ref (g 0)), (1, .int v0), (2, .int v1), (3, .int v2)]) hx hb dX11_cheat_99 hl (by decide) rfl (fun ls hl => ?_)
                refine lv_iload hx hb dX11_cheat_101 (lv_at hl 5 rfl) ?_
                refine lv_aload hx hb dX11_cheat_103 (lv_at hl 2 rfl) ?_
                refine gf_RX11_211 S hK hP _ (xf_1 (by omega)) (v := .int ((Fn 120) i44)) rfl dX11_cheat_105 ?_
                refine lv_iload_n hx hb dX11_cheat_108 rfl (lv_at hl 7 rfl) ?_
                refine lv_icmp_ne (tgt := 116) hx hb dX11_cheat_109 (by decide) (fun c_18 => ?_) (fun c_18 => ?_)
                ·
                  have tc_18 : (((Fn 120) i44).toInt : Int) ≠ v0.toInt := fun q => c_18 (Int32.toInt_inj.mp q)
                  refine lv_iconst (v := 0) hx hb dX11_cheat_116 (by decide) ?_
                  refine lv_iadd hx hb dX11_cheat_117 ?_
                  refine lv_topi (fun y_19 ey_19 => ?_)
                  obtain rfl : y_19 = (nI (n4 + 0)) := ey_19.trans (nI_add n4 0)
                  refine lv_istore (lv' := [(5, .int (nI (n4 + 0))), (4, .int (nI (n3 + 0))), (9, .int 0), (8, .ref (ad 11 i44)), (7, .int (nI i44)), (6, .int (nI n5)), (0, .ref (g 0)), (1, .int v0), (2, .int v1), (3, .int v2)]) hx hb dX11_cheat_118 hl (by decide) rfl (fun ls hl => ?_)
                  refine lv_iload hx hb dX11_cheat_120 (lv_at hl 5 rfl) ?_
                  refine lv_aload hx hb dX11_cheat_122 (lv_at hl 3 rfl) ?_
                  refine gf_RX11_211 S hK hP _ (xf_1 (by omega)) (v := .int ((Fn 120) i44)) rfl dX11_cheat_124 ?_
                  refine lv_iload_n hx hb dX11_cheat_127 rfl (lv_at hl 7 rfl) ?_
                  refine lv_icmp_ne (tgt := 140) hx hb dX11_cheat_128 (by decide) (fun c_20 => ?_) (fun c_20 => ?_)
                  ·
                    have tc_20 : (((Fn 120) i44).toInt : Int) ≠ v0.toInt := fun q => c_20 (Int32.toInt_inj.mp q)
                    refine lv_iconst (v := 0) hx hb dX11_cheat_140 (by decide) ?_
                    refine lv_iadd hx hb dX11_cheat_141 ?_
                    refine lv_topi (fun y_21 ey_21 => ?_)
                    obtain rfl : y_21 = (nI (n5 + 0)) := ey_21.trans (nI_add n5 0)
                    refine lv_istore (lv' := [(6, .int (nI (n5 + 0))), (5, .int (nI (n4 + 0))), (4, .int (nI (n3 + 0))), (9, .int 0), (8, .ref (ad 11 i44)), (7, .int (nI i44)), (0, .ref (g 0)), (1, .int v0), (2, .int v1), (3, .int v2)]) hx hb dX11_cheat_142 hl (by decide) rfl (fun ls hl => ?_)
                    refine lv_iinc (v := (nI (i44 + 1))) (lv' := [(7, .int (nI (i44 + 1))), (6, .int (nI (n5 + 0))), (5, .int (nI (n4 + 0))), (4, .int (nI (n3 + 0))), (9, .int 0), (8, .ref (ad 11 i44)), (0, .ref (g 0)), (1, .int v0), (2, .int v1), (3, .int v2)]) hx hb dX11_cheat_144 hl (k := 5) rfl (nI_1 _) (by decide) rfl (fun ls hl => ?_)
                    refine lv_goto (tgt := 44) hx hb dX11_cheat_147 (by decide) ?_
                    exact ih44 (i44 + 1) (n3 + 0) (n4 + 0) (n5 + 0) (by omega) ⟨(by omega), ⟨by omega, by omega, by omega⟩⟩ ls (lv_sub hl [0, 1, 2, 3, 6, 7, 8, 9] rfl)
                  ·
                    have tc_20 : (((Fn 120) i44).toInt : Int) = v0.toInt := congrArg Int32.toInt c_20
                    refine lv_iload hx hb dX11_cheat_131 (lv_at hl 2 rfl) ?_
                    refine lv_if_eq (tgt := 140) hx hb dX11_cheat_133 (by decide) (fun _ => ?_) (fun h => absurd h (by decide))
                    refine lv_iconst (v := 0) hx hb dX11_cheat_140 (by decide) ?_
                    refine lv_iadd hx hb dX11_cheat_141 ?_
                    refine lv_topi (fun y_22 ey_22 => ?_)
                    obtain rfl : y_22 = (nI (n5 + 0)) := ey_22.trans (nI_add n5 0)
                    refine lv_istore (lv' := [(6, .int (nI (n5 + 0))), (5, .int (nI (n4 + 0))), (4, .int (nI (n3 + 0))), (9, .int 0), (8, .ref (ad 11 i44)), (7, .int (nI i44)), (0, .ref (g 0)), (1, .int v0), (2, .int v1), (3, .int v2)]) hx hb dX11_cheat_142 hl (by decide) rfl (fun ls hl => ?_)
                    refine lv_iinc (v := (nI (i44 + 1))) (lv' := [(7, .int (nI (i44 + 1))), (6, .int (nI (n5 + 0))), (5, .int (nI (n4 + 0))), (4, .int (nI (n3 + 0))), (9, .int 0), (8, .ref (ad 11 i44)), (0, .ref (g 0)), (1, .int v0), (2, .int v1), (3, .int v2)]) hx hb dX11_cheat_144 hl (k := 5) rfl (nI_1 _) (by decide) rfl (fun ls hl => ?_)
                    refine lv_goto (tgt := 44) hx hb dX11_cheat_147 (by decide) ?_
                    exact ih44 (i44 + 1) (n3 + 0) (n4 + 0) (n5 + 0) (by omega) ⟨(by omega), ⟨by omega, by omega, by omega⟩⟩ ls (lv_sub hl [0, 1, 2, 3, 6, 7, 8, 9] rfl)
                ·
                  have tc_18 : (((Fn 120) i44).toInt : Int) = v0.toInt := congrArg Int32.toInt c_18
                  refine lv_iconst (v := 1) hx hb dX11_cheat_112 (by decide) ?_
                  refine lv_goto (tgt := 117) hx hb dX11_cheat_113 (by decide) ?_
                  refine lv_iadd hx hb dX11_cheat_117 ?_
                  refine lv_topi (fun y_23 ey_23 => ?_)
                  obtain rfl : y_23 = (nI (n4 + 1)) := ey_23.trans (nI_add n4 1)
                  refine lv_istore (lv' := [(5, .int (nI (n4 + 1))), (4, .int (nI (n3 + 0))), (9, .int 0), (8, .ref (ad 11 i44)), (7, .int (nI i44)), (6, .int (nI n5)), (0, .ref (g 0)), (1, .int v0), (2, .int v1), (3, .int v2)]) hx hb dX11_cheat_118 hl (by decide) rfl (fun ls hl => ?_)
                  refine lv_iload hx hb dX11_cheat_120 (lv_at hl 5 rfl) ?_
                  refine lv_aload hx hb dX11_cheat_122 (lv_at hl 3 rfl) ?_
                  refine gf_RX11_211 S hK hP _ (xf_1 (by omega)) (v := .int ((Fn 120) i44)) rfl dX11_cheat_124 ?_
                  refine lv_iload_n hx hb dX11_cheat_127 rfl (lv_at hl 7 rfl) ?_
                  refine lv_icmp_ne (tgt := 140) hx hb dX11_cheat_128 (by decide) (fun c_24 => ?_) (fun c_24 => ?_)
                  ·
                    have tc_24 : (((Fn 120) i44).toInt : Int) ≠ v0.toInt := fun q => c_24 (Int32.toInt_inj.mp q)
                    refine lv_iconst (v := 0) hx hb dX11_cheat_140 (by decide) ?_
                    refine lv_iadd hx hb dX11_cheat_141 ?_
                    refine lv_topi (fun y_25 ey_25 => ?_)
                    obtain rfl : y_25 = (nI (n5 + 0)) := ey_25.trans (nI_add n5 0)
                    refine lv_istore (lv' := [(6, .int (nI (n5 + 0))), (5, .int (nI (n4 + 1))), (4, .int (nI (n3 + 0))), (9, .int 0), (8, .ref (ad 11 i44)), (7, .int (nI i44)), (0, .ref (g 0)), (1, .int v0), (2, .int v1), (3, .int v2)]) hx hb dX11_cheat_142 hl (by decide) rfl (fun ls hl => ?_)
                    refine lv_iinc (v := (nI (i44 + 1))) (lv' := [(7, .int (nI (i44 + 1))), (6, .int (nI (n5 + 0))), (5, .int (nI (n4 + 1))), (4, .int (nI (n3 + 0))), (9, .int 0), (8, .ref (ad 11 i44)), (0, .ref (g 0)), (1, .int v0), (2, .int v1), (3, .int v2)]) hx hb dX11_cheat_144 hl (k := 5) rfl (nI_1 _) (by decide) rfl (fun ls hl => ?_)
                    refine lv_goto (tgt := 44) hx hb dX11_cheat_147 (by decide) ?_
                    exact ih44 (i44 + 1) (n3 + 0) (n4 + 1) (n5 + 0) (by omega) ⟨(by omega), ⟨by omega, by omega, by omega⟩⟩ ls (lv_sub hl [0, 1, 2, 3, 6, 7, 8, 9] rfl)
                  ·
                    have tc_24 : (((Fn 120) i44).toInt : Int) = v0.toInt := congrArg Int32.toInt c_24
                    refine lv_iload hx hb dX11_cheat_131 (lv_at hl 2 rfl) ?_
                    refine lv_if_eq (tgt := 140) hx hb dX11_cheat_133 (by decide) (fun _ => ?_) (fun h => absurd h (by decide))
                    refine lv_iconst (v := 0) hx hb dX11_cheat_140 (by decide) ?_
                    refine lv_iadd hx hb dX11_cheat_141 ?_
                    refine lv_topi (fun y_26 ey_26 => ?_)
                    obtain rfl : y_26 = (nI (n5 + 0)) := ey_26.trans (nI_add n5 0)
                    refine lv_istore (lv' := [(6, .int (nI (n5 + 0))), (5, .int (nI (n4 + 1))), (4, .int (nI (n3 + 0))), (9, .int 0), (8, .ref (ad 11 i44)), (7, .int (nI i44)), (0, .ref (g 0)), (1, .int v0), (2, .int v1), (3, .int v2)]) hx hb dX11_cheat_142 hl (by decide) rfl (fun ls hl => ?_)
                    refine lv_iinc (v := (nI (i44 + 1))) (lv' := [(7, .int (nI (i44 + 1))), (6, .int (nI (n5 + 0))), (5, .int (nI (n4 + 1))), (4, .int (nI (n3 + 0))), (9, .int 0), (8, .ref (ad 11 i44)), (0, .ref (g 0)), (1, .int v0), (2, .int v1), (3, .int v2)]) hx hb dX11_cheat_144 hl (k := 5) rfl (nI_1 _) (by decide) rfl (fun ls hl => ?_)
                    refine lv_goto (tgt := 44) hx hb dX11_cheat_147 (by decide) ?_
                    exact ih44 (i44 + 1) (n3 + 0) (n4 + 1) (n5 + 0) (by omega) ⟨(by omega), ⟨by omega, by omega, by omega⟩⟩ ls (lv_sub hl [0, 1, 2, 3, 6, 7, 8, 9] rfl)
              ·
                have tc_16 : (v1.toInt : Int) ≤ ((Fn 123) i44).toInt := Int32.le_iff_toInt_le.mp (Int32.not_lt.mp c_16)
                refine lv_iconst (v := 1) hx hb dX11_cheat_79 (by decide) ?_
                refine lv_goto (tgt := 84) hx hb dX11_cheat_80 (by decide) ?_
                refine lv_istore (lv' := [(9, .int 1), (8, .ref (ad 11 i44)), (7, .int (nI i44)), (6, .int (nI n5)), (5, .int (nI n4)), (4, .int (nI n3)), (0, .ref (g 0)), (1, .int v0), (2, .int v1), (3, .int v2)]) hx hb dX11_cheat_84 hl (by decide) rfl (fun ls hl => ?_)
                refine lv_iload hx hb dX11_cheat_86 (lv_at hl 5 rfl) ?_
                refine lv_iload hx hb dX11_cheat_88 (lv_at hl 0 rfl) ?_
                refine lv_if_eq (tgt := 97) hx hb dX11_cheat_90 (by decide) (fun h => absurd h (by decide)) (fun _ => ?_)
                refine lv_iconst (v := 1) hx hb dX11_cheat_93 (by decide) ?_
                refine lv_goto (tgt := 98) hx hb dX11_cheat_94 (by decide) ?_
                refine lv_iadd hx hb dX11_cheat_98 ?_
                refine lv_topi (fun y_27 ey_27 => ?_)
                obtain rfl : y_27 = (nI (n3 + 1)) := ey_27.trans (nI_add n3 1)
                refine lv_istore (lv' := [(4, .int (nI (n3 + 1))), (9, .int 1), (8, .ref (ad 11 i44)), (7, .int (nI i44)), (6, .int (nI n5)), (5, .int (nI n4)), (0, .ref (g 0)), (1, .int v0), (2, .int v1), (3, .int v2)]) hx hb dX11_cheat_99 hl (by decide) rfl (fun ls hl => ?_)
                refine lv_iload hx hb dX11_cheat_101 (lv_at hl 5 rfl) ?_
                refine lv_aload hx hb dX11_cheat_103 (lv_at hl 2 rfl) ?_
                refine gf_RX11_211 S hK hP _ (xf_1 (by omega)) (v := .int ((Fn 120) i44)) rfl dX11_cheat_105 ?_
                refine lv_iload_n hx hb dX11_cheat_108 rfl (lv_at hl 7 rfl) ?_
                refine lv_icmp_ne (tgt := 116) hx hb dX11_cheat_109 (by decide) (fun c_28 => ?_) (fun c_28 => ?_)
                ·
                  have tc_28 : (((Fn 120) i44).toInt : Int) ≠ v0.toInt := fun q => c_28 (Int32.toInt_inj.mp q)
                  refine lv_iconst (v := 0) hx hb dX11_cheat_116 (by decide) ?_
                  refine lv_iadd hx hb dX11_cheat_117 ?_
                  refine lv_topi (fun y_29 ey_29 => ?_)
                  obtain rfl : y_29 = (nI (n4 + 0)) := ey_29.trans (nI_add n4 0)
                  refine lv_istore (lv' := [(5, .int (nI (n4 + 0))), (4, .int (nI (n3 + 1))), (9, .int 1), (8, .ref (ad 11 i44)), (7, .int (nI i44)), (6, .int (nI n5)), (0, .ref (g 0)), (1, .int v0), (2, .int v1), (3, .int v2)]) hx hb dX11_cheat_118 hl (by decide) rfl (fun ls hl => ?_)
                  refine lv_iload hx hb dX11_cheat_120 (lv_at hl 5 rfl) ?_
                  refine lv_aload hx hb dX11_cheat_122 (lv_at hl 3 rfl) ?_
                  refine gf_RX11_211 S hK hP _ (xf_1 (by omega)) (v := .int ((Fn 120) i44)) rfl dX11_cheat_124 ?_
                  refine lv_iload_n hx hb dX11_cheat_127 rfl (lv_at hl 7 rfl) ?_
                  refine lv_icmp_ne (tgt := 140) hx hb dX11_cheat_128 (by decide) (fun c_30 => ?_) (fun c_30 => ?_)
                  ·
                    have tc_30 : (((Fn 120) i44).toInt : Int) ≠ v0.toInt := fun q => c_30 (Int32.toInt_inj.mp q)
                    refine lv_iconst (v := 0) hx hb dX11_cheat_140 (by decide) ?_
                    refine lv_iadd hx hb dX11_cheat_141 ?_
                    refine lv_topi (fun y_31 ey_31 => ?_)
                    obtain rfl : y_31 = (nI (n5 + 0)) := ey_31.trans (nI_add n5 0)
                    refine lv_istore (lv' := [(6, .int (nI (n5 + 0))), (5, .int (nI (n4 + 0))), (4, .int (nI (n3 + 1))), (9, .int 1), (8, .ref (ad 11 i44)), (7, .int (nI i44)), (0, .ref (g 0)), (1, .int v0), (2, .int v1), (3, .int v2)]) hx hb dX11_cheat_142 hl (by decide) rfl (fun ls hl => ?_)
                    refine lv_iinc (v := (nI (i44 + 1))) (lv' := [(7, .int (nI (i44 + 1))), (6, .int (nI (n5 + 0))), (5, .int (nI (n4 + 0))), (4, .int (nI (n3 + 1))), (9, .int 1), (8, .ref (ad 11 i44)), (0, .ref (g 0)), (1, .int v0), (2, .int v1), (3, .int v2)]) hx hb dX11_cheat_144 hl (k := 5) rfl (nI_1 _) (by decide) rfl (fun ls hl => ?_)
                    refine lv_goto (tgt := 44) hx hb dX11_cheat_147 (by decide) ?_
                    exact ih44 (i44 + 1) (n3 + 1) (n4 + 0) (n5 + 0) (by omega) ⟨(by omega), ⟨by omega, by omega, by omega⟩⟩ ls (lv_sub hl [0, 1, 2, 3, 6, 7, 8, 9] rfl)
                  ·
                    have tc_30 : (((Fn 120) i44).toInt : Int) = v0.toInt := congrArg Int32.toInt c_30
                    refine lv_iload hx hb dX11_cheat_131 (lv_at hl 2 rfl) ?_
                    refine lv_if_eq (tgt := 140) hx hb dX11_cheat_133 (by decide) (fun h => absurd h (by decide)) (fun _ => ?_)
                    refine lv_iconst (v := 1) hx hb dX11_cheat_136 (by decide) ?_
                    refine lv_goto (tgt := 141) hx hb dX11_cheat_137 (by decide) ?_
                    refine lv_iadd hx hb dX11_cheat_141 ?_
                    refine lv_topi (fun y_32 ey_32 => ?_)
                    obtain rfl : y_32 = (nI (n5 + 1)) := ey_32.trans (nI_add n5 1)
                    refine lv_istore (lv' := [(6, .int (nI (n5 + 1))), (5, .int (nI (n4 + 0))), (4, .int (nI (n3 + 1))), (9, .int 1), (8, .ref (ad 11 i44)), (7, .int (nI i44)), (0, .ref (g 0)), (1, .int v0), (2, .int v1), (3, .int v2)]) hx hb dX11_cheat_142 hl (by decide) rfl (fun ls hl => ?_)
                    refine lv_iinc (v := (nI (i44 + 1))) (lv' := [(7, .int (nI (i44 + 1))), (6, .int (nI (n5 + 1))), (5, .int (nI (n4 + 0))), (4, .int (nI (n3 + 1))), (9, .int 1), (8, .ref (ad 11 i44)), (0, .ref (g 0)), (1, .int v0), (2, .int v1), (3, .int v2)]) hx hb dX11_cheat_144 hl (k := 5) rfl (nI_1 _) (by decide) rfl (fun ls hl => ?_)
                    refine lv_goto (tgt := 44) hx hb dX11_cheat_147 (by decide) ?_
                    exact ih44 (i44 + 1) (n3 + 1) (n4 + 0) (n5 + 1) (by omega) ⟨(by omega), ⟨by omega, by omega, by omega⟩⟩ ls (lv_sub hl [0, 1, 2, 3, 6, 7, 8, 9] rfl)
                ·
                  have tc_28 : (((Fn 120) i44).toInt : Int) = v0.toInt := congrArg Int32.toInt c_28
                  refine lv_iconst (v := 1) hx hb dX11_cheat_112 (by decide) ?_
                  refine lv_goto (tgt := 117) hx hb dX11_cheat_113 (by decide) ?_
                  refine lv_iadd hx hb dX11_cheat_117 ?_
                  refine lv_topi (fun y_33 ey_33 => ?_)
                  obtain rfl : y_33 = (nI (n4 + 1)) := ey_33.trans (nI_add n4 1)
                  refine lv_istore (lv' := [(5, .int (nI (n4 + 1))), (4, .int (nI (n3 + 1))), (9, .int 1), (8, .ref (ad 11 i44)), (7, .int (nI i44)), (6, .int (nI n5)), (0, .ref (g 0)), (1, .int v0), (2, .int v1), (3, .int v2)]) hx hb dX11_cheat_118 hl (by decide) rfl (fun ls hl => ?_)
                  refine lv_iload hx hb dX11_cheat_120 (lv_at hl 5 rfl) ?_
                  refine lv_aload hx hb dX11_cheat_122 (lv_at hl 3 rfl) ?_
                  refine gf_RX11_211 S hK hP _ (xf_1 (by omega)) (v := .int ((Fn 120) i44)) rfl dX11_cheat_124 ?_
                  refine lv_iload_n hx hb dX11_cheat_127 rfl (lv_at hl 7 rfl) ?_
                  refine lv_icmp_ne (tgt := 140) hx hb dX11_cheat_128 (by decide) (fun c_34 => ?_) (fun c_34 => ?_)
                  ·
                    have tc_34 : (((Fn 120) i44).toInt : Int) ≠ v0.toInt := fun q => c_34 (Int32.toInt_inj.mp q)
                    refine lv_iconst (v := 0) hx hb dX11_cheat_140 (by decide) ?_
                    refine lv_iadd hx hb dX11_cheat_141 ?_
                    refine lv_topi (fun y_35 ey_35 => ?_)
                    obtain rfl : y_35 = (nI (n5 + 0)) := ey_35.trans (nI_add n5 0)
                    refine lv_istore (lv' := [(6, .int (nI (n5 + 0))), (5, .int (nI (n4 + 1))), (4, .int (nI (n3 + 1))), (9, .int 1), (8, .ref (ad 11 i44)), (7, .int (nI i44)), (0, .ref (g 0)), (1, .int v0), (2, .int v1), (3, .int v2)]) hx hb dX11_cheat_142 hl (by decide) rfl (fun ls hl => ?_)
                    refine lv_iinc (v := (nI (i44 + 1))) (lv' := [(7, .int (nI (i44 + 1))), (6, .int (nI (n5 + 0))), (5, .int (nI (n4 + 1))), (4, .int (nI (n3 + 1))), (9, .int 1), (8, .ref (ad 11 i44)), (0, .ref (g 0)), (1, .int v0), (2, .int v1), (3, .int v2)]) hx hb dX11_cheat_144 hl (k := 5) rfl (nI_1 _) (by decide) rfl (fun ls hl => ?_)
                    refine lv_goto (tgt := 44) hx hb dX11_cheat_147 (by decide) ?_
                    exact ih44 (i44 + 1) (n3 + 1) (n4 + 1) (n5 + 0) (by omega) ⟨(by omega), ⟨by omega, by omega, by omega⟩⟩ ls (lv_sub hl [0, 1, 2, 3, 6, 7, 8, 9] rfl)
                  ·
                    have tc_34 : (((Fn 120) i44).toInt : Int) = v0.toInt := congrArg Int32.toInt c_34
                    refine lv_iload hx hb dX11_cheat_131 (lv_at hl 2 rfl) ?_
                    refine lv_if_eq (tgt := 140) hx hb dX11_cheat_133 (by decide) (fun h => absurd h (by decide)) (fun _ => ?_)
                    refine lv_iconst (v := 1) hx hb dX11_cheat_136 (by decide) ?_
                    refine lv_goto (tgt := 141) hx hb dX11_cheat_137 (by decide) ?_
                    refine lv_iadd hx hb dX11_cheat_141 ?_
                    refine lv_topi (fun y_36 ey_36 => ?_)
                    obtain rfl : y_36 = (nI (n5 + 1)) := ey_36.trans (nI_add n5 1)
                    refine lv_istore (lv' := [(6, .int (nI (n5 + 1))), (5, .int (nI (n4 + 1))), (4, .int (nI (n3 + 1))), (9, .int 1), (8, .ref (ad 11 i44)), (7, .int (nI i44)), (0, .ref (g 0)), (1, .int v0), (2, .int v1), (3, .int v2)]) hx hb dX11_cheat_142 hl (by decide) rfl (fun ls hl => ?_)
                    refine lv_iinc (v := (nI (i44 + 1))) (lv' := [(7, .int (nI (i44 + 1))), (6, .int (nI (n5 + 1))), (5, .int (nI (n4 + 1))), (4, .int (nI (n3 + 1))), (9, .int 1), (8, .ref (ad 11 i44)), (0, .ref (g 0)), (1, .int v0), (2, .int v1), (3, .int v2)]) hx hb dX11_cheat_144 hl (k := 5) rfl (nI_1 _) (by decide) rfl (fun ls hl => ?_)
                    refine lv_goto (tgt := 44) hx hb dX11_cheat_147 (by decide) ?_
                    exact ih44 (i44 + 1) (n3 + 1) (n4 + 1) (n5 + 1) (by omega) ⟨(by omega), ⟨by omega, by omega, by omega⟩⟩ ls (lv_sub hl [0, 1, 2, 3, 6, 7, 8, 9] rfl)
        exact lp_44 _ 0 0 0 0 (Nat.lt_succ_self _) ⟨(by omega), ⟨Nat.le_refl _, Nat.le_refl _, Nat.le_refl _⟩⟩ ls (lv_sub hl [0, 1, 2, 3, 4, 5, 6, 7] rfl)
      ·
        have h_6 : ¬ (0 ≤ v2.toInt ∧ v2.toInt ≤ 2) := h_6
        refine lv_if_ne (tgt := 32) hx hb dX11_cheat_25 (by decide) (fun h => absurd h (by decide)) (fun _ => ?_)
        refine lv_ldc2 (v := (-1)) hx hb hown (S.2.2.2.2 _ (wT_t4 61 rfl rfl)) dX11_cheat_28 ?_
        exact W.lret (v := (-1)) hx hb hr (fun t ht hW => ⟨(-1), rfl, trivial, ht⟩) (fun _ h => absurd h List.not_mem_nil) dX11_cheat_31
    ·
      have h_4 : ¬ (0 ≤ v1.toInt ∧ v1.toInt ≤ 1000) := h_4
      refine lv_if_eq (tgt := 28) hx hb dX11_cheat_16 (by decide) (fun _ => ?_) (fun h => absurd h (by decide))
      refine lv_ldc2 (v := (-1)) hx hb hown (S.2.2.2.2 _ (wT_t4 61 rfl rfl)) dX11_cheat_28 ?_
      exact W.lret (v := (-1)) hx hb hr (fun t ht hW => ⟨(-1), rfl, trivial, ht⟩) (fun _ h => absurd h List.not_mem_nil) dX11_cheat_31
  ·
    refine lv_ifnullN (tgt := 28) hx hb dX11_cheat_5 (by decide) ?_
    refine lv_ldc2 (v := (-1)) hx hb hown (S.2.2.2.2 _ (wT_t4 61 rfl rfl)) dX11_cheat_28 ?_
    exact W.lret (v := (-1)) hx hb hr (fun t ht hW => ⟨(-1), rfl, trivial, ht⟩) (fun _ h => absurd h List.not_mem_nil) dX11_cheat_31
