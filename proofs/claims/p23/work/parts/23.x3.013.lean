set_option maxRecDepth 100000 in
set_option maxHeartbeats 4000000 in
theorem q_Xbeyond (l : Launch) (D : va_G) (cI cB cZ : ClassId) (zz qq vv : Nat) (bt : Nat → Int32) (g : Nat → Nat) (ad : Nat → Nat → Nat) (cn : Nat → Nat) (In : Nat → Int32) (Fn : Nat → Nat → Int32) (v0 v1 : Int32) (hB : CBX cn) : Met l yX11_beyond (CWS yX11_beyond cX11_beyond 9 (some .long)) (RM 4 0 0) (PBrx [.ref (g 0), .int v0, .int v1] D cI cB cZ zz qq vv bt (wX cI (D.1 99) zz g ad cn In Fn)) (vp_Sl (fun _ => True)) 0 0 (fun _ => False) := by
  refine Met.ofW (cc := cX11_beyond) (maxL := 9) (ret := (some .long)) (by decide) rfl ?_
  intro p e s m args below meth c s₁ B hml hv
  obtain ⟨rfl, hP, hK, hXS⟩ := hv
  have hS : va_S (fun _ => False) s.heap s.heap [] := va_S.rf
  have hx := B.exec
  have hb := B.bytes
  have hr := B.returns
  have hts := atoms_spec (ws := (CWS yX11_beyond cX11_beyond 9 (some .long))) B.pre
  have hown : s.vm.findClass RX11 = some m.cls := findClass_of_methodNamed B.named
  have hlocks := B.notSynchronized
  have S : SF p m c cX11_beyond 9 s ([.ref (g 0), .int v0, .int v1]).toArray RX11 := ⟨hx, hb, hml, hown, fun w h => hts w (List.mem_cons_of_mem _ h)⟩
  have hl := lv_entry ([.ref (g 0), .int v0, .int v1]) (n := 9) (Nat.le_of_ble_eq_true rfl)
  rw [lg_entry_eq]
  generalize (lg_sl ([.ref (g 0), .int v0, .int v1]) ++ List.replicate (9 - (lg_sl ([.ref (g 0), .int v0, .int v1])).length) Slot.unset).toArray = ls at hl ⊢
  have hl : lv_has ls 9 [(0, .ref (g 0)), (1, .int v0), (2, .int v1)] := hl
  refine lv_iload_n hx hb dX11_beyond_0 rfl (lv_at hl 1 rfl) ?_
  refine lv_iconst (v := 0) hx hb dX11_beyond_1 (by decide) ?_
  refine lv_bipush (v := 6) hx hb dX11_beyond_2 (by decide) ?_
  refine vp_callSi (runS_r (As := [.int v0, .int 0, .int 6]) (rest := []) S (q_l_within l D cI cB cZ v0 0 6) kS_RX11_80 hK hP [] rfl ⟨Nat.le_of_ble_eq_true rfl, Nat.le_of_ble_eq_true rfl⟩ ⟨Nat.le_of_ble_eq_true rfl, Nat.le_of_ble_eq_true rfl⟩ rfl hl.1 rfl (Nat.le_of_ble_eq_true rfl) dX11_beyond_4) (fun r_1 h_2 => ?_)
  rcases h_2 with ⟨rfl, h_2⟩ | ⟨rfl, h_2⟩
  ·
    have h_2 : 0 ≤ v0.toInt ∧ v0.toInt ≤ 6 := h_2
    refine lv_if_eq (tgt := 19) hx hb dX11_beyond_7 (by decide) (fun h => absurd h (by decide)) (fun _ => ?_)
    refine lv_iload_n hx hb dX11_beyond_10 rfl (lv_at hl 2 rfl) ?_
    refine lv_iconst (v := 0) hx hb dX11_beyond_11 (by decide) ?_
    refine lv_iconst (v := 2) hx hb dX11_beyond_12 (by decide) ?_
    refine vp_callSi (runS_r (As := [.int v1, .int 0, .int 2]) (rest := []) S (q_l_within l D cI cB cZ v1 0 2) kS_RX11_80 hK hP [] rfl ⟨Nat.le_of_ble_eq_true rfl, Nat.le_of_ble_eq_true rfl⟩ ⟨Nat.le_of_ble_eq_true rfl, Nat.le_of_ble_eq_true rfl⟩ rfl hl.1 rfl (Nat.le_of_ble_eq_true rfl) dX11_beyond_13) (fun r_3 h_4 => ?_)
    rcases h_4 with ⟨rfl, h_4⟩ | ⟨rfl, h_4⟩
    ·
      have h_4 : 0 ≤ v1.toInt ∧ v1.toInt ≤ 2 := h_4
      refine lv_if_ne (tgt := 23) hx hb dX11_beyond_16 (by decide) (fun _ => ?_) (fun h => absurd h (by decide))
      refine lv_iconst (v := 0) hx hb dX11_beyond_23 (by decide) ?_
      refine lv_istore_n (lv' := [(3, .int 0), (0, .ref (g 0)), (1, .int v0), (2, .int v1)]) hx hb dX11_beyond_24 rfl hl (by decide) rfl (fun ls hl => ?_)
      refine lv_iconst (v := 0) hx hb dX11_beyond_25 (by decide) ?_
      refine lv_istore (lv' := [(4, .int 0), (3, .int 0), (0, .ref (g 0)), (1, .int v0), (2, .int v1)]) hx hb dX11_beyond_26 hl (by decide) rfl (fun ls hl => ?_)
      refine lv_iconst (v := 0) hx hb dX11_beyond_28 (by decide) ?_
      refine lv_istore (lv' := [(5, .int 0), (4, .int 0), (3, .int 0), (0, .ref (g 0)), (1, .int v0), (2, .int v1)]) hx hb dX11_beyond_29 hl (by decide) rfl (fun ls hl => ?_)
      refine lv_iconst (v := 0) hx hb dX11_beyond_31 (by decide) ?_
      refine lv_istore (lv' := [(6, .int 0), (5, .int 0), (4, .int 0), (3, .int 0), (0, .ref (g 0)), (1, .int v0), (2, .int v1)]) hx hb dX11_beyond_32 hl (by decide) rfl (fun ls hl => ?_)
      have lp_34 : ∀ (n : Nat) (i34 : Nat) (n3 : Nat) (n4 : Nat) (n5 : Nat) , cn 11 - i34 < n → (i34 ≤ cn 11 ∧ (n3 ≤ i34 ∧ n4 ≤ i34 ∧ n5 ≤ i34)) → ∀ ls : Array Slot, lv_has ls 9 [(6, .int (nI i34)), (5, .int (nI n5)), (4, .int (nI n4)), (3, .int (nI n3)), (0, .ref (g 0)), (1, .int v0), (2, .int v1)] → W p l e (RM 4 0 0) s m ([.ref (g 0), .int v0, .int v1]).toArray below meth c s.heap [] 0 0 (MQ below (vp_Sl (fun _ => True)) ([.ref (g 0), .int v0, .int v1]).toArray s 0 0 (fun _ => False)) (F0 m 34 ls []) := by
        intro n34
        induction n34 with
        | zero => intros; omega
        | succ n34 ih34 =>
          intro i34 n3 n4 n5 hmu34 hinv34 ls hl
          obtain ⟨hr34, hx34_0⟩ := hinv34
          have ti34 : (nI i34).toInt = (i34 : Int) := nI_toInt (by omega)
          refine lv_iload hx hb dX11_beyond_34 (lv_at hl 0 rfl) ?_
          refine lv_aload_n hx hb dX11_beyond_36 rfl (lv_at hl 4 rfl) ?_
          refine gf_RX11_65 S hK hP 0 xo_0 (v := .ref (g 11)) rfl dX11_beyond_37 ?_
          refine vp_callSi (runV_r (As := []) (rest := [.int (nI i34)]) S (q_l_size l D cI cB cZ (g 11) (if (cn 11) = 0 then zz else ad 2 1) (In 11) (nI (cn 11))) kV_RX11_84 hK hP [25] (one_is xo_25) 25 xo_25 rfl rfl ⟨Nat.le_of_ble_eq_true rfl, Nat.le_of_ble_eq_true rfl⟩ ⟨Nat.le_of_ble_eq_true rfl, Nat.le_of_ble_eq_true rfl⟩ rfl hl.1 rfl (Nat.le_of_ble_eq_true rfl) dX11_beyond_40) (fun r_5 h_6 => ?_)
          subst h_6
          have : (nI (cn 11)).toInt = (((cn 11) : Nat) : Int) := nI_toInt (by omega)
          refine lv_icmp_ge (tgt := 139) hx hb dX11_beyond_43 (by decide) (fun c_7 => ?_) (fun c_7 => ?_)
          ·
            have tc_7 : ((nI (cn 11)).toInt : Int) ≤ (nI i34).toInt := Int32.le_iff_toInt_le.mp c_7
            refine lv_iload_n hx hb dX11_beyond_139 rfl (lv_at hl 3 rfl) ?_
            refine lv_iload hx hb dX11_beyond_140 (lv_at hl 2 rfl) ?_
            refine lv_iload hx hb dX11_beyond_142 (lv_at hl 1 rfl) ?_
            refine lv_aload_n hx hb dX11_beyond_144 rfl (lv_at hl 4 rfl) ?_
            refine gf_RX11_65 S hK hP 0 xo_0 (v := .ref (g 11)) rfl dX11_beyond_145 ?_
            refine vp_callSi (runV_r (As := []) (rest := [.int (nI n5), .int (nI n4), .int (nI n3)]) S (q_l_size l D cI cB cZ (g 11) (if (cn 11) = 0 then zz else ad 2 1) (In 11) (nI (cn 11))) kV_RX11_84 hK hP [25] (one_is xo_25) 25 xo_25 rfl rfl ⟨Nat.le_of_ble_eq_true rfl, Nat.le_of_ble_eq_true rfl⟩ ⟨Nat.le_of_ble_eq_true rfl, Nat.le_of_ble_eq_true rfl⟩ rfl hl.1 rfl (Nat.le_of_ble_eq_true rfl) dX11_beyond_148) (fun r_8 h_9 => ?_)
            subst h_9
            refine lv_iload_n hx hb dX11_beyond_151 rfl (lv_at hl 6 rfl) ?_
            refine vp_callSl (runS_r (As := [.int (nI n3), .int (nI n4), .int (nI n5), .int (nI (cn 11)), .int v1]) (rest := []) S (q_Xodds l D cI cB cZ n3 n4 n5 (cn 11) v1 (by omega) (by omega) (by omega) (by omega)) kS_RX11_256 hK hP [] rfl ⟨Nat.le_of_ble_eq_true rfl, Nat.le_of_ble_eq_true rfl⟩ ⟨Nat.le_of_ble_eq_true rfl, Nat.le_of_ble_eq_true rfl⟩ rfl hl.1 rfl (Nat.le_of_ble_eq_true rfl) dX11_beyond_152) (fun r_10 h_11 => ?_)
            exact W.lret (v := r_10) hx hb hr (fun t ht hW => ⟨r_10, rfl, trivial, ht⟩) (fun _ h => absurd h List.not_mem_nil) dX11_beyond_155
          ·
            have tc_7 : ((nI i34).toInt : Int) < (nI (cn 11)).toInt := Int32.lt_iff_toInt_lt.mp (Int32.not_le.mp c_7)
            refine lv_aload_n hx hb dX11_beyond_46 rfl (lv_at hl 4 rfl) ?_
            refine gf_RX11_65 S hK hP 0 xo_0 (v := .ref (g 11)) rfl dX11_beyond_47 ?_
            refine lv_iload hx hb dX11_beyond_50 (lv_at hl 0 rfl) ?_
            refine va_csq (runV_rx (As := [.int (nI i34)]) (rest := []) S (q_l_get l D cI cB cZ zz qq vv bt (g 11) (ad 2 1) (cn 21) (cn 11) i34 (ad 11 i34) (In 11) (fun i => if i < (cn 11) then some (ad 11 i) else none) (by omega) (if_pos (by omega)) (by omega) (by omega)) kV_RX11_87 hK hXS hS hP _ (two_is (xl_1 (by omega)) (xf_14 (k := 0) (by omega))) (va_recv hK.1 hP (ci := 0) rfl xo_25) ⟨Nat.le_of_ble_eq_true rfl, Nat.le_of_ble_eq_true rfl⟩ ⟨Nat.le_of_ble_eq_true rfl, Nat.le_of_ble_eq_true rfl⟩ rfl hl.1 rfl (Nat.le_of_ble_eq_true rfl) dX11_beyond_52) (fun r_12 h_13 => ?_)
            subst h_13
            refine va_castS hx hb hown (S.2.2.2.2 _ (wT_t2 204 rfl rfl)) (xclass hK.1 (ci := 3) rfl) (va_recv hK.1 hP (ci := 3) rfl (xf_1 (by omega))) dX11_beyond_55 ?_
            refine lv_astore (lv' := [(7, .ref (ad 11 i34)), (6, .int (nI i34)), (5, .int (nI n5)), (4, .int (nI n4)), (3, .int (nI n3)), (0, .ref (g 0)), (1, .int v0), (2, .int v1)]) hx hb dX11_beyond_58 hl (by decide) rfl (fun ls hl => ?_)
            refine lv_aload hx hb dX11_beyond_60 (lv_at hl 0 rfl) ?_
            refine gf_RX11_196 S hK hP _ (xf_1 (by omega)) (v := .int ((Fn 121) i34)) rfl dX11_beyond_62 ?_
            refine lv_bipush (v := 7) hx hb dX11_beyond_65 (by decide) ?_
            refine lv_irem hx hb dX11_beyond_67 (by decide) ?_
            refine lv_iload_n hx hb dX11_beyond_68 rfl (lv_at hl 6 rfl) ?_
            refine lv_icmp_ne (tgt := 76) hx hb dX11_beyond_69 (by decide) (fun c_14 => ?_) (fun c_14 => ?_)
            ·
              have tc_14 : ((((Fn 121) i34) - ((Fn 121) i34) / 7 * 7).toInt : Int) ≠ v0.toInt := fun q => c_14 (Int32.toInt_inj.mp q)
              refine lv_iconst (v := 0) hx hb dX11_beyond_76 (by decide) ?_
              refine lv_istore (lv' := [(8, .int 0), (7, .ref (ad 11 i34)), (6, .int (nI i34)), (5, .int (nI n5)), (4, .int (nI n4)), (3, .int (nI n3)), (0, .ref (g 0)), (1, .int v0), (2, .int v1)]) hx hb dX11_beyond_77 hl (by decide) rfl (fun ls hl => ?_)
              refine lv_iload_n hx hb dX11_beyond_79 rfl (lv_at hl 5 rfl) ?_
              refine lv_aload hx hb dX11_beyond_80 (lv_at hl 1 rfl) ?_
              refine gf_RX11_141 S hK hP _ (xf_1 (by omega)) (v := .int ((Fn 128) i34)) rfl dX11_beyond_82 ?_
              refine lv_if_le (tgt := 92) hx hb dX11_beyond_85 (by decide) (fun c_15 => ?_) (fun c_15 => ?_)
              ·
                have tc_15 : (((Fn 128) i34).toInt : Int) ≤ 0 := Int32.le_iff_toInt_le.mp c_15
                refine lv_iconst (v := 0) hx hb dX11_beyond_92 (by decide) ?_
                refine lv_iadd hx hb dX11_beyond_93 ?_
                refine lv_topi (fun y_16 ey_16 => ?_)
                obtain rfl : y_16 = (nI (n3 + 0)) := ey_16.trans (nI_add n3 0)
                refine lv_istore_n (lv' := [(3, .int (nI (n3 + 0))), (8, .int 0), (7, .ref (ad 11 i34)), (6, .int (nI i34)), (5, .int (nI n5)), (4, .int (nI n4)), (0, .ref (g 0)), (1, .int v0), (2, .int v1)]) hx hb dX11_beyond_94 rfl hl (by decide) rfl (fun ls hl => ?_)
                refine lv_iload hx hb dX11_beyond_95 (lv_at hl 5 rfl) ?_
                refine lv_iload hx hb dX11_beyond_97 (lv_at hl 1 rfl) ?_
                refine lv_if_eq (tgt := 106) hx hb dX11_beyond_99 (by decide) (fun _ => ?_) (fun h => absurd h (by decide))
                refine lv_iconst (v := 0) hx hb dX11_beyond_106 (by decide) ?_
                refine lv_iadd hx hb dX11_beyond_107 ?_
                refine lv_topi (fun y_17 ey_17 => ?_)
                obtain rfl : y_17 = (nI (n4 + 0)) := ey_17.trans (nI_add n4 0)
                refine lv_istore (lv' := [(4, .int (nI (n4 + 0))), (3, .int (nI (n3 + 0))), (8, .int 0), (7, .ref (ad 11 i34)), (6, .int (nI i34)), (5, .int (nI n5)), (0, .ref (g 0)), (1, .int v0), (2, .int v1)]) hx hb dX11_beyond_108 hl (by decide) rfl (fun ls hl => ?_)
                refine lv_iload hx hb dX11_beyond_110 (lv_at hl 5 rfl) ?_
                refine lv_iload hx hb dX11_beyond_112 (lv_at hl 2 rfl) ?_
                refine lv_if_eq (tgt := 129) hx hb dX11_beyond_114 (by decide) (fun _ => ?_) (fun h => absurd h (by decide))
                refine lv_iconst (v := 0) hx hb dX11_beyond_129 (by decide) ?_
                refine lv_iadd hx hb dX11_beyond_130 ?_
                refine lv_topi (fun y_18 ey_18 => ?_)
                obtain rfl : y_18 = (nI (n5 + 0)) := ey_18.trans (nI_add n5 0)
                refine lv_istore (lv' := [(5, .int (nI (n5 + 0))), (4, .int (nI (n4 + 0))), (3, .int (nI (n3 + 0))), (8, .int 0), (7, .ref (ad 11 i34)), (6, .int (nI i34)), (0, .ref (g 0)), (1, .int v0), (2, .int v1)]) hx hb dX11_beyond_131 hl (by decide) rfl (fun ls hl => ?_)
                refine lv_iinc (v := (nI (i34 + 1))) (lv' := [(6, .int (nI (i34 + 1))), (5, .int (nI (n5 + 0))), (4, .int (nI (n4 + 0))), (3, .int (nI (n3 + 0))), (8, .int 0), (7, .ref (ad 11 i34)), (0, .ref (g 0)), (1, .int v0), (2, .int v1)]) hx hb dX11_beyond_133 hl (k := 5) rfl (nI_1 _) (by decide) rfl (fun ls hl => ?_)
                refine lv_goto (tgt := 34) hx hb dX11_beyond_136 (by decide) ?_
                exact ih34 (i34 + 1) (n3 + 0) (n4 + 0) (n5 + 0) (by omega) ⟨(by omega), ⟨by omega, by omega, by omega⟩⟩ ls (lv_sub hl [0, 1, 2, 3, 6, 7, 8] rfl)
              ·
                have tc_15 : (0 : Int) < ((Fn 128) i34).toInt := Int32.lt_iff_toInt_lt.mp (Int32.not_le.mp c_15)
                refine lv_iconst (v := 1) hx hb dX11_beyond_88 (by decide) ?_
                refine lv_goto (tgt := 93) hx hb dX11_beyond_89 (by decide) ?_
                refine lv_iadd hx hb dX11_beyond_93 ?_
                refine lv_topi (fun y_19 ey_19 => ?_)
                obtain rfl : y_19 = (nI (n3 + 1)) := ey_19.trans (nI_add n3 1)
                refine lv_istore_n (lv' := [(3, .int (nI (n3 + 1))), (8, .int 0), (7, .ref (ad 11 i34)), (6, .int (nI i34)), (5, .int (nI n5)), (4, .int (nI n4)), (0, .ref (g 0)), (1, .int v0), (2, .int v1)]) hx hb dX11_beyond_94 rfl hl (by decide) rfl (fun ls hl => ?_)
                refine lv_iload hx hb dX11_beyond_95 (lv_at hl 5 rfl) ?_
                refine lv_iload hx hb dX11_beyond_97 (lv_at hl 1 rfl) ?_
                refine lv_if_eq (tgt := 106) hx hb dX11_beyond_99 (by decide) (fun _ => ?_) (fun h => absurd h (by decide))
                refine lv_iconst (v := 0) hx hb dX11_beyond_106 (by decide) ?_
                refine lv_iadd hx hb dX11_beyond_107 ?_
                refine lv_topi (fun y_20 ey_20 => ?_)
                obtain rfl : y_20 = (nI (n4 + 0)) := ey_20.trans (nI_add n4 0)
                refine lv_istore (lv' := [(4, .int (nI (n4 + 0))), (3, .int (nI (n3 + 1))), (8, .int 0), (7, .ref (ad 11 i34)), (6, .int (nI i34)), (5, .int (nI n5)), (0, .ref (g 0)), (1, .int v0), (2, .int v1)]) hx hb dX11_beyond_108 hl (by decide) rfl (fun ls hl => ?_)
                refine lv_iload hx hb dX11_beyond_110 (lv_at hl 5 rfl) ?_
                refine lv_iload hx hb dX11_beyond_112 (lv_at hl 2 rfl) ?_
                refine lv_if_eq (tgt := 129) hx hb dX11_beyond_114 (by decide) (fun _ => ?_) (fun h => absurd h (by decide))
                refine lv_iconst (v := 0) hx hb dX11_beyond_129 (by decide) ?_
                refine lv_iadd hx hb dX11_beyond_130 ?_
                refine lv_topi (fun y_21 ey_21 => ?_)
                obtain rfl : y_21 = (nI (n5 + 0)) := ey_21.trans (nI_add n5 0)
                refine lv_istore (lv' := [(5, .int (nI (n5 + 0))), (4, .int (nI (n4 + 0))), (3, .int (nI (n3 + 1))), (8, .int 0), (7, .ref (ad 11 i34)), (6, .int (nI i34)), (0, .ref (g 0)), (1, .int v0), (2, .int v1)]) hx hb dX11_beyond_131 hl (by decide) rfl (fun ls hl => ?_)
                refine lv_iinc (v := (nI (i34 + 1))) (lv' := [(6, .int (nI (i34 + 1))), (5, .int (nI (n5 + 0))), (4, .int (nI (n4 + 0))), (3, .int (nI (n3 + 1))), (8, .int 0), (7, .ref (ad 11 i34)), (0, .ref (g 0)), (1, .int v0), (2, .int v1)]) hx hb dX11_beyond_133 hl (k := 5) rfl (nI_1 _) (by decide) rfl (fun ls hl => ?_)
                refine lv_goto (tgt := 34) hx hb dX11_beyond_136 (by decide) ?_
                exact ih34 (i34 + 1) (n3 + 1) (n4 + 0) (n5 + 0) (by omega) ⟨(by omega), ⟨by omega, by omega, by omega⟩⟩ ls (lv_sub hl [0, 1, 2, 3, 6, 7, 8] rfl)
            ·
              have tc_14 : ((((Fn 121) i34) - ((Fn 121) i34) / 7 * 7).toInt : Int) = v0.toInt := congrArg Int32.toInt c_14
              refine lv_iconst (v := 1) hx hb dX11_beyond_72 (by decide) ?_
              refine lv_goto (tgt := 77) hx hb dX11_beyond_73 (by decide) ?_
              refine lv_istore (lv' := [(8, .int 1), (7, .ref (ad 11 i34)), (6, .int (nI i34)), (5, .int (nI n5)), (4, .int (nI n4)), (3, .int (nI n3)), (0, .ref (g 0)), (1, .int v0), (2, .int v1)]) hx hb dX11_beyond_77 hl (by decide) rfl (fun ls hl => ?_)
              refine lv_iload_n hx hb dX11_beyond_79 rfl (lv_at hl 5 rfl) ?_
              refine lv_aload hx hb dX11_beyond_80 (lv_at hl 1 rfl) ?_
              refine gf_RX11_141 S hK hP _ (xf_1 (by omega)) (v := .int ((Fn 128) i34)) rfl dX11_beyond_82 ?_
              refine lv_if_le (tgt := 92) hx hb dX11_beyond_85 (by decide) (fun c_22 => ?_) (fun c_22 => ?_)
              ·
                have tc_22 : (((Fn 128) i34).toInt : Int) ≤ 0 := Int32.le_iff_toInt_le.mp c_22
                refine lv_iconst (v := 0) hx hb dX11_beyond_92 (by decide) ?_
                refine lv_iadd hx hb dX11_beyond_93 ?_
                refine lv_topi (fun y_23 ey_23 => ?_)
                obtain rfl : y_23 = (nI (n3 + 0)) := ey_23.trans (nI_add n3 0)
                refine lv_istore_n (lv' := [(3, .int (nI (n3 + 0))), (8, .int 1), (7, .ref (ad 11 i34)), (6, .int (nI i34)), (5, .int (nI n5)), (4, .int (nI n4)), (0, .ref (g 0)), (1, .int v0), (2, .int v1)]) hx hb dX11_beyond_94 rfl hl (by decide) rfl (fun ls hl => ?_)
                refine lv_iload hx hb dX11_beyond_95 (lv_at hl 5 rfl) ?_
                refine lv_iload hx hb dX11_beyond_97 (lv_at hl 1 rfl) ?_
                refine lv_if_eq (tgt := 106) hx hb dX11_beyond_99 (by decide) (fun h => absurd h (by decide)) (fun _ => ?_)
                refine lv_iconst (v := 1) hx hb dX11_beyond_102 (by decide) ?_
                refine lv_goto (tgt := 107) hx hb dX11_beyond_103 (by decide) ?_
                refine lv_iadd hx hb dX11_beyond_107 ?_
                refine lv_topi (fun y_24 ey_24 => ?_)
                obtain rfl : y_24 = (nI (n4 + 1)) := ey_24.trans (nI_add n4 1)
                refine lv_istore (lv' := [(4, .int (nI (n4 + 1))), (3, .int (nI (n3 + 0))), (8, .int 1), (7, .ref (ad 11 i34)), (6, .int (nI i34)), (5, .int (nI n5)), (0, .ref (g 0)), (1, .int v0), (2, .int v1)]) hx hb dX11_beyond_108 hl (by decide) rfl (fun ls hl => ?_)
                refine lv_iload hx hb dX11_beyond_110 (lv_at hl 5 rfl) ?_
                refine lv_iload hx hb dX11_beyond_112 (lv_at hl 2 rfl) ?_
                refine lv_if_eq (tgt := 129) hx hb dX11_beyond_114 (by decide) (fun h => absurd h (by decide)) (fun _ => ?_)
                refine lv_aload hx hb dX11_beyond_117 (lv_at hl 3 rfl) ?_
                refine gf_RX11_141 S hK hP _ (xf_1 (by omega)) (v := .int ((Fn 128) i34)) rfl dX11_beyond_119 ?_
                refine lv_if_le (tgt := 129) hx hb dX11_beyond_122 (by decide) (fun c_25 => ?_) (fun c_25 => False.elim (by have tc_25 : (0 : Int) < ((Fn 128) i34).toInt := Int32.lt_iff_toInt_lt.mp (Int32.not_le.mp c_25); omega))
                have tc_25 : (((Fn 128) i34).toInt : Int) ≤ 0 := Int32.le_iff_toInt_le.mp c_25
                refine lv_iconst (v := 0) hx hb dX11_beyond_129 (by decide) ?_
                refine lv_iadd hx hb dX11_beyond_130 ?_
                refine lv_topi (fun y_26 ey_26 => ?_)
                obtain rfl : y_26 = (nI (n5 + 0)) := ey_26.trans (nI_add n5 0)
                refine lv_istore (lv' := [(5, .int (nI (n5 + 0))), (4, .int (nI (n4 + 1))), (3, .int (nI (n3 + 0))), (8, .int 1), (7, .ref (ad 11 i34)), (6, .int (nI i34)), (0, .ref (g 0)), (1, .int v0), (2, .int v1)]) hx hb dX11_beyond_131 hl (by decide) rfl (fun ls hl => ?_)
                refine lv_iinc (v := (nI (i34 + 1))) (lv' := [(6, .int (nI (i34 + 1))), (5, .int (nI (n5 + 0))), (4, .int (nI (n4 + 1))), (3, .int (nI (n3 + 0))), (8, .int 1), (7, .ref (ad 11 i34)), (0, .ref (g 0)), (1, .int v0), (2, .int v1)]) hx hb dX11_beyond_133 hl (k := 5) rfl (nI_1 _) (by decide) rfl (fun ls hl => ?_)
                refine lv_goto (tgt := 34) hx hb dX11_beyond_136 (by decide) ?_
                exact ih34 (i34 + 1) (n3 + 0) (n4 + 1) (n5 + 0) (by omega) ⟨(by omega), ⟨by omega, by omega, by omega⟩⟩ ls (lv_sub hl [0, 1, 2, 3, 6, 7, 8] rfl)
              ·
                have tc_22 : (0 : Int) < ((Fn 128) i34).toInt := Int32.lt_iff_toInt_lt.mp (Int32.not_le.mp c_22)
                refine lv_iconst (v := 1) hx hb dX11_beyond_88 (by decide) ?_
                refine lv_goto (tgt := 93) hx hb dX11_beyond_89 (by decide) ?_
                refine lv_iadd hx hb dX11_beyond_93 ?_
                refine lv_topi (fun y_27 ey_27 => ?_)
                obtain rfl : y_27 = (nI (n3 + 1)) := ey_27.trans (nI_add n3 1)
                refine lv_istore_n (lv' := [(3, .int (nI (n3 + 1))), (8, .int 1), (7, .ref (ad 11 i34)), (6, .int (nI i34)), (5, .int (nI n5)), (4, .int (nI n4)), (0, .ref (g 0)), (1, .int v0), (2, .int v1)]) hx hb dX11_beyond_94 rfl hl (by decide) rfl (fun ls hl => ?_)
                refine lv_iload hx hb dX11_beyond_95 (lv_at hl 5 rfl) ?_
                refine lv_iload hx hb dX11_beyond_97 (lv_at hl 1 rfl) ?_
                refine lv_if_eq (tgt := 106) hx hb dX11_beyond_99 (by decide) (fun h => absurd h (by decide)) (fun _ => ?_)
                refine lv_iconst (v := 1) hx hb dX11_beyond_102 (by decide) ?_
                refine lv_goto (tgt := 107) hx hb dX11_beyond_103 (by decide) ?_
                refine lv_iadd hx hb dX11_beyond_107 ?_
                refine lv_topi (fun y_28 ey_28 => ?_)
                obtain rfl : y_28 = (nI (n4 + 1)) := ey_28.trans (nI_add n4 1)
                refine lv_istore (lv' := [(4, .int (nI (n4 + 1))), (3, .int (nI (n3 + 1))), (8, .int 1), (7, .ref (ad 11 i34)), (6, .int (nI i34)), (5, .int (nI n5)), (0, .ref (g 0)), (1, .int v0), (2, .int v1)]) hx hb dX11_beyond_108 hl (by decide) rfl (fun ls hl => ?_)
                refine lv_iload hx hb dX11_beyond_110 (lv_at hl 5 rfl) ?_
                refine lv_iload hx hb dX11_beyond_112 (lv_at hl 2 rfl) ?_
                refine lv_if_eq (tgt := 129) hx hb dX11_beyond_114 (by decide) (fun h => absurd h (by decide)) (fun _ => ?_)
                refine lv_aload hx hb dX11_beyond_117 (lv_at hl 3 rfl) ?_
                refine gf_RX11_141 S hK hP _ (xf_1 (by omega)) (v := .int ((Fn 128) i34)) rfl dX11_beyond_119 ?_
                refine lv_if_le (tgt := 129) hx hb dX11_beyond_122 (by decide) (fun c_29 => False.elim (by have tc_29 : (((Fn 128) i34).toInt : Int) ≤ 0 := Int32.le_iff_toInt_le.mp c_29; omega)) (fun c_29 => ?_)
                have tc_29 : (0 : Int) < ((Fn 128) i34).toInt := Int32.lt_iff_toInt_lt.mp (Int32.not_le.mp c_29)
                refine lv_iconst (v := 1) hx hb dX11_beyond_125 (by decide) ?_
                refine lv_goto (tgt := 130) hx hb dX11_beyond_126 (by decide) ?_
                refine lv_iadd hx hb dX11_beyond_130 ?_
                refine lv_topi (fun y_30 ey_30 => ?_)
                obtain rfl : y_30 = (nI (n5 + 1)) := ey_30.trans (nI_add n5 1)
                refine lv_istore (lv' := [(5, .int (nI (n5 + 1))), (4, .int (nI (n4 + 1))), (3, .int (nI (n3 + 1))), (8, .int 1), (7, .ref (ad 11 i34)), (6, .int (nI i34)), (0, .ref (g 0)), (1, .int v0), (2, .int v1)]) hx hb dX11_beyond_131 hl (by decide) rfl (fun ls hl => ?_)
                refine lv_iinc (v := (nI (i34 + 1))) (lv' := [(6, .int (nI (i34 + 1))), (5, .int (nI (n5 + 1))), (4, .int (nI (n4 + 1))), (3, .int (nI (n3 + 1))), (8, .int 1), (7, .ref (ad 11 i34)), (0, .ref (g 0)), (1, .int v0), (2, .int v1)]) hx hb dX11_beyond_133 hl (k := 5) rfl (nI_1 _) (by decide) rfl (fun ls hl => ?_)
                refine lv_goto (tgt := 34) hx hb dX11_beyond_136 (by decide) ?_
                exact ih34 (i34 + 1) (n3 + 1) (n4 + 1) (n5 + 1) (by omega) ⟨(by omega), ⟨by omega, by omega, by omega⟩⟩ ls (lv_sub hl [0, 1, 2, 3, 6, 7, 8] rfl)
      exact lp_34 _ 0 0 0 0 (Nat.lt_succ_self _) ⟨(by omega), ⟨Nat.le_refl _, Nat.le_refl _, Nat.le_refl _⟩⟩ ls (lv_sub hl [0, 1, 2, 3, 4, 5, 6] rfl)
    ·
      have h_4 : ¬ (0 ≤ v1.toInt ∧ v1.toInt ≤ 2) := h_4
      refine lv_if_ne (tgt := 23) hx hb dX11_beyond_16 (by decide) (fun h => absurd h (by decide)) (fun _ => ?_)
      refine lv_ldc2 (v := (-1)) hx hb hown (S.2.2.2.2 _ (wT_t4 61 rfl rfl)) dX11_beyond_19 ?_
      exact W.lret (v := (-1)) hx hb hr (fun t ht hW => ⟨(-1), rfl, trivial, ht⟩) (fun _ h => absurd h List.not_mem_nil) dX11_beyond_22
  ·
    have h_2 : ¬ (0 ≤ v0.toInt ∧ v0.toInt ≤ 6) := h_2
    refine lv_if_eq (tgt := 19) hx hb dX11_beyond_7 (by decide) (fun _ => ?_) (fun h => absurd h (by decide))
    refine lv_ldc2 (v := (-1)) hx hb hown (S.2.2.2.2 _ (wT_t4 61 rfl rfl)) dX11_beyond_19 ?_
    exact W.lret (v := (-1)) hx hb hr (fun t ht hW => ⟨(-1), rfl, trivial, ht⟩) (fun _ h => absurd h List.not_mem_nil) dX11_beyond_22
