set_option maxRecDepth 100000 in
set_option maxHeartbeats 4000000 in
theorem q_Xlate (l : Launch) (D : va_G) (cI cB cZ : ClassId) (zz qq vv : Nat) (bt : Nat → Int32) (g : Nat → Nat) (ad : Nat → Nat → Nat) (cn : Nat → Nat) (In : Nat → Int32) (Fn : Nat → Nat → Int32) (v0 v1 : Int32) (hB : CBX cn) : Met l yX11_late (CWS yX11_late cX11_late 6 (some .int)) (RM 4 0 0) (PBrx [.ref (g 0), .int v0, .int v1] D cI cB cZ zz qq vv bt (wX cI (D.1 99) zz g ad cn In Fn)) (vp_Si (fun _ => True)) 0 0 (fun _ => False) := by
  refine Met.ofW (cc := cX11_late) (maxL := 6) (ret := (some .int)) (by decide) rfl ?_
  intro p e s m args below meth c s₁ B hml hv
  obtain ⟨rfl, hP, hK, hXS⟩ := hv
  have hS : va_S (fun _ => False) s.heap s.heap [] := va_S.rf
  have hx := B.exec
  have hb := B.bytes
  have hr := B.returns
  have hts := atoms_spec (ws := (CWS yX11_late cX11_late 6 (some .int))) B.pre
  have hown : s.vm.findClass RX11 = some m.cls := findClass_of_methodNamed B.named
  have hlocks := B.notSynchronized
  have S : SF p m c cX11_late 6 s ([.ref (g 0), .int v0, .int v1]).toArray RX11 := ⟨hx, hb, hml, hown, fun w h => hts w (List.mem_cons_of_mem _ h)⟩
  have hl := lv_entry ([.ref (g 0), .int v0, .int v1]) (n := 6) (Nat.le_of_ble_eq_true rfl)
  rw [lg_entry_eq]
  generalize (lg_sl ([.ref (g 0), .int v0, .int v1]) ++ List.replicate (6 - (lg_sl ([.ref (g 0), .int v0, .int v1])).length) Slot.unset).toArray = ls at hl ⊢
  have hl : lv_has ls 6 [(0, .ref (g 0)), (1, .int v0), (2, .int v1)] := hl
  refine lv_aload_n hx hb dX11_late_0 rfl (lv_at hl 0 rfl) ?_
  refine lv_iload_n hx hb dX11_late_1 rfl (lv_at hl 1 rfl) ?_
  refine va_csq (runV_rxa (As := [.int v0]) (rest := []) S (q_XkitchenAt l D cI cB cZ zz qq vv bt g ad cn In Fn v0 hB) kV_RX11_114 hK hXS hS hP 0 xo_0 rfl rfl ⟨Nat.le_of_ble_eq_true rfl, Nat.le_of_ble_eq_true rfl⟩ ⟨Nat.le_of_ble_eq_true rfl, Nat.le_of_ble_eq_true rfl⟩ rfl hl.1 rfl (Nat.le_of_ble_eq_true rfl) dX11_late_2) (fun r_1 h_2 => ?_)
  rcases h_2 with ⟨mr_1, er_1, hr_1, rfl⟩ | ⟨hr_1, rfl⟩
  ·
    refine lv_ifnull hx hb dX11_late_5 ?_
    refine lv_iload_n hx hb dX11_late_8 rfl (lv_at hl 2 rfl) ?_
    refine lv_bipush (v := (-40)) hx hb dX11_late_9 (by decide) ?_
    refine lv_bipush (v := 41) hx hb dX11_late_11 (by decide) ?_
    refine vp_callSi (runS_r (As := [.int v1, .int (-40), .int 41]) (rest := []) S (q_l_within l D cI cB cZ v1 (-40) 41) kS_RX11_80 hK hP [] rfl ⟨Nat.le_of_ble_eq_true rfl, Nat.le_of_ble_eq_true rfl⟩ ⟨Nat.le_of_ble_eq_true rfl, Nat.le_of_ble_eq_true rfl⟩ rfl hl.1 rfl (Nat.le_of_ble_eq_true rfl) dX11_late_13) (fun r_3 h_4 => ?_)
    rcases h_4 with ⟨rfl, h_4⟩ | ⟨rfl, h_4⟩
    ·
      have h_4 : (-40) ≤ v1.toInt ∧ v1.toInt ≤ 41 := h_4
      refine lv_if_ne (tgt := 21) hx hb dX11_late_16 (by decide) (fun _ => ?_) (fun h => absurd h (by decide))
      refine lv_iconst (v := 0) hx hb dX11_late_21 (by decide) ?_
      refine lv_istore_n (lv' := [(3, .int 0), (0, .ref (g 0)), (1, .int v0), (2, .int v1)]) hx hb dX11_late_22 rfl hl (by decide) rfl (fun ls hl => ?_)
      refine lv_iconst (v := 0) hx hb dX11_late_23 (by decide) ?_
      refine lv_istore (lv' := [(4, .int 0), (3, .int 0), (0, .ref (g 0)), (1, .int v0), (2, .int v1)]) hx hb dX11_late_24 hl (by decide) rfl (fun ls hl => ?_)
      have lp_26 : ∀ (n : Nat) (i26 : Nat) (x26_3 : Int32) , cn 11 - i26 < n → (i26 ≤ cn 11) → ∀ ls : Array Slot, lv_has ls 6 [(4, .int (nI i26)), (3, .int x26_3), (0, .ref (g 0)), (1, .int v0), (2, .int v1)] → W p l e (RM 4 0 0) s m ([.ref (g 0), .int v0, .int v1]).toArray below meth c s.heap [] 0 0 (MQ below (vp_Si (fun _ => True)) ([.ref (g 0), .int v0, .int v1]).toArray s 0 0 (fun _ => False)) (F0 m 26 ls []) := by
        intro n26
        induction n26 with
        | zero => intros; omega
        | succ n26 ih26 =>
          intro i26 x26_3 hmu26 hinv26 ls hl
          have hr26 := hinv26
          have ti26 : (nI i26).toInt = (i26 : Int) := nI_toInt (by omega)
          refine lv_iload hx hb dX11_late_26 (lv_at hl 0 rfl) ?_
          refine lv_aload_n hx hb dX11_late_28 rfl (lv_at hl 2 rfl) ?_
          refine gf_RX11_65 S hK hP 0 xo_0 (v := .ref (g 11)) rfl dX11_late_29 ?_
          refine vp_callSi (runV_r (As := []) (rest := [.int (nI i26)]) S (q_l_size l D cI cB cZ (g 11) (if (cn 11) = 0 then zz else ad 2 1) (In 11) (nI (cn 11))) kV_RX11_84 hK hP [25] (one_is xo_25) 25 xo_25 rfl rfl ⟨Nat.le_of_ble_eq_true rfl, Nat.le_of_ble_eq_true rfl⟩ ⟨Nat.le_of_ble_eq_true rfl, Nat.le_of_ble_eq_true rfl⟩ rfl hl.1 rfl (Nat.le_of_ble_eq_true rfl) dX11_late_32) (fun r_5 h_6 => ?_)
          subst h_6
          have : (nI (cn 11)).toInt = (((cn 11) : Nat) : Int) := nI_toInt (by omega)
          refine lv_icmp_ge (tgt := 88) hx hb dX11_late_35 (by decide) (fun c_7 => ?_) (fun c_7 => ?_)
          ·
            have tc_7 : ((nI (cn 11)).toInt : Int) ≤ (nI i26).toInt := Int32.le_iff_toInt_le.mp c_7
            refine lv_iload_n hx hb dX11_late_88 rfl (lv_at hl 1 rfl) ?_
            exact W.iret (v := x26_3) hx hb hr (fun t ht hW => ⟨x26_3, rfl, trivial, ht⟩) (fun _ h => absurd h List.not_mem_nil) dX11_late_89
          ·
            have tc_7 : ((nI i26).toInt : Int) < (nI (cn 11)).toInt := Int32.lt_iff_toInt_lt.mp (Int32.not_le.mp c_7)
            refine lv_aload_n hx hb dX11_late_38 rfl (lv_at hl 2 rfl) ?_
            refine gf_RX11_65 S hK hP 0 xo_0 (v := .ref (g 11)) rfl dX11_late_39 ?_
            refine lv_iload hx hb dX11_late_42 (lv_at hl 0 rfl) ?_
            refine va_csq (runV_rx (As := [.int (nI i26)]) (rest := []) S (q_l_get l D cI cB cZ zz qq vv bt (g 11) (ad 2 1) (cn 21) (cn 11) i26 (ad 11 i26) (In 11) (fun i => if i < (cn 11) then some (ad 11 i) else none) (by omega) (if_pos (by omega)) (by omega) (by omega)) kV_RX11_87 hK hXS hS hP _ (two_is (xl_1 (by omega)) (xf_14 (k := 0) (by omega))) (va_recv hK.1 hP (ci := 0) rfl xo_25) ⟨Nat.le_of_ble_eq_true rfl, Nat.le_of_ble_eq_true rfl⟩ ⟨Nat.le_of_ble_eq_true rfl, Nat.le_of_ble_eq_true rfl⟩ rfl hl.1 rfl (Nat.le_of_ble_eq_true rfl) dX11_late_44) (fun r_8 h_9 => ?_)
            subst h_9
            refine va_castS hx hb hown (S.2.2.2.2 _ (wT_t2 204 rfl rfl)) (xclass hK.1 (ci := 3) rfl) (va_recv hK.1 hP (ci := 3) rfl (xf_1 (by omega))) dX11_late_47 ?_
            refine lv_astore (lv' := [(5, .ref (ad 11 i26)), (4, .int (nI i26)), (3, .int x26_3), (0, .ref (g 0)), (1, .int v0), (2, .int v1)]) hx hb dX11_late_50 hl (by decide) rfl (fun ls hl => ?_)
            refine lv_iload_n hx hb dX11_late_52 rfl (lv_at hl 2 rfl) ?_
            refine lv_aload hx hb dX11_late_53 (lv_at hl 0 rfl) ?_
            refine gf_RX11_211 S hK hP _ (xf_1 (by omega)) (v := .int ((Fn 120) i26)) rfl dX11_late_55 ?_
            refine lv_iload_n hx hb dX11_late_58 rfl (lv_at hl 4 rfl) ?_
            refine lv_icmp_ne (tgt := 79) hx hb dX11_late_59 (by decide) (fun c_10 => ?_) (fun c_10 => ?_)
            ·
              have tc_10 : (((Fn 120) i26).toInt : Int) ≠ v0.toInt := fun q => c_10 (Int32.toInt_inj.mp q)
              refine lv_iconst (v := 0) hx hb dX11_late_79 (by decide) ?_
              refine lv_iadd hx hb dX11_late_80 ?_
              refine lv_istore_n (lv' := [(3, .int (x26_3 + 0)), (5, .ref (ad 11 i26)), (4, .int (nI i26)), (0, .ref (g 0)), (1, .int v0), (2, .int v1)]) hx hb dX11_late_81 rfl hl (by decide) rfl (fun ls hl => ?_)
              refine lv_iinc (v := (nI (i26 + 1))) (lv' := [(4, .int (nI (i26 + 1))), (3, .int (x26_3 + 0)), (5, .ref (ad 11 i26)), (0, .ref (g 0)), (1, .int v0), (2, .int v1)]) hx hb dX11_late_82 hl (k := 2) rfl (nI_1 _) (by decide) rfl (fun ls hl => ?_)
              refine lv_goto (tgt := 26) hx hb dX11_late_85 (by decide) ?_
              exact ih26 (i26 + 1) (x26_3 + 0) (by omega) (by omega) ls (lv_sub hl [0, 1, 3, 4, 5] rfl)
            ·
              have tc_10 : (((Fn 120) i26).toInt : Int) = v0.toInt := congrArg Int32.toInt c_10
              refine lv_aload_n hx hb dX11_late_62 rfl (lv_at hl 3 rfl) ?_
              refine lv_aload hx hb dX11_late_63 (lv_at hl 0 rfl) ?_
              refine gf_RX11_196 S hK hP _ (xf_1 (by omega)) (v := .int ((Fn 121) i26)) rfl dX11_late_65 ?_
              refine lv_iload_n hx hb dX11_late_68 rfl (lv_at hl 5 rfl) ?_
              refine vp_callSi (runV_rxa (As := [.int ((Fn 121) i26), .int v1]) (rest := [.int x26_3]) S (q_Xsets l D cI cB cZ zz qq vv bt g ad cn In Fn ((Fn 121) i26) v1 hB) kV_RX11_489 hK hXS hS hP 0 xo_0 rfl rfl ⟨Nat.le_of_ble_eq_true rfl, Nat.le_of_ble_eq_true rfl⟩ ⟨Nat.le_of_ble_eq_true rfl, Nat.le_of_ble_eq_true rfl⟩ rfl hl.1 rfl (Nat.le_of_ble_eq_true rfl) dX11_late_69) (fun r_11 h_12 => ?_)
              refine lv_if_eq (tgt := 79) hx hb dX11_late_72 (by decide) (fun c_13 => ?_) (fun c_13 => ?_)
              ·
                have tc_13 : (r_11.toInt : Int) = 0 := congrArg Int32.toInt c_13
                refine lv_iconst (v := 0) hx hb dX11_late_79 (by decide) ?_
                refine lv_iadd hx hb dX11_late_80 ?_
                refine lv_istore_n (lv' := [(3, .int (x26_3 + 0)), (5, .ref (ad 11 i26)), (4, .int (nI i26)), (0, .ref (g 0)), (1, .int v0), (2, .int v1)]) hx hb dX11_late_81 rfl hl (by decide) rfl (fun ls hl => ?_)
                refine lv_iinc (v := (nI (i26 + 1))) (lv' := [(4, .int (nI (i26 + 1))), (3, .int (x26_3 + 0)), (5, .ref (ad 11 i26)), (0, .ref (g 0)), (1, .int v0), (2, .int v1)]) hx hb dX11_late_82 hl (k := 2) rfl (nI_1 _) (by decide) rfl (fun ls hl => ?_)
                refine lv_goto (tgt := 26) hx hb dX11_late_85 (by decide) ?_
                exact ih26 (i26 + 1) (x26_3 + 0) (by omega) (by omega) ls (lv_sub hl [0, 1, 3, 4, 5] rfl)
              ·
                have tc_13 : (r_11.toInt : Int) ≠ 0 := fun q => c_13 (Int32.toInt_inj.mp q)
                refine lv_iconst (v := 1) hx hb dX11_late_75 (by decide) ?_
                refine lv_goto (tgt := 80) hx hb dX11_late_76 (by decide) ?_
                refine lv_iadd hx hb dX11_late_80 ?_
                refine lv_istore_n (lv' := [(3, .int (x26_3 + 1)), (5, .ref (ad 11 i26)), (4, .int (nI i26)), (0, .ref (g 0)), (1, .int v0), (2, .int v1)]) hx hb dX11_late_81 rfl hl (by decide) rfl (fun ls hl => ?_)
                refine lv_iinc (v := (nI (i26 + 1))) (lv' := [(4, .int (nI (i26 + 1))), (3, .int (x26_3 + 1)), (5, .ref (ad 11 i26)), (0, .ref (g 0)), (1, .int v0), (2, .int v1)]) hx hb dX11_late_82 hl (k := 2) rfl (nI_1 _) (by decide) rfl (fun ls hl => ?_)
                refine lv_goto (tgt := 26) hx hb dX11_late_85 (by decide) ?_
                exact ih26 (i26 + 1) (x26_3 + 1) (by omega) (by omega) ls (lv_sub hl [0, 1, 3, 4, 5] rfl)
      exact lp_26 _ 0 0 (Nat.lt_succ_self _) (by omega) ls (lv_sub hl [0, 1, 2, 3, 4] rfl)
    ·
      have h_4 : ¬ ((-40) ≤ v1.toInt ∧ v1.toInt ≤ 41) := h_4
      refine lv_if_ne (tgt := 21) hx hb dX11_late_16 (by decide) (fun h => absurd h (by decide)) (fun _ => ?_)
      refine lv_iconst (v := (-1)) hx hb dX11_late_19 (by decide) ?_
      exact W.iret (v := (-1)) hx hb hr (fun t ht hW => ⟨(-1), rfl, trivial, ht⟩) (fun _ h => absurd h List.not_mem_nil) dX11_late_20
  ·
    refine lv_ifnullN (tgt := 19) hx hb dX11_late_5 (by decide) ?_
    refine lv_iconst (v := (-1)) hx hb dX11_late_19 (by decide) ?_
    exact W.iret (v := (-1)) hx hb hr (fun t ht hW => ⟨(-1), rfl, trivial, ht⟩) (fun _ h => absurd h List.not_mem_nil) dX11_late_20
