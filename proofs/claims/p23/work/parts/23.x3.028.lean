set_option maxRecDepth 100000 in
set_option maxHeartbeats 4000000 in
theorem q_Xstale (l : Launch) (D : va_G) (cI cB cZ : ClassId) (zz qq vv : Nat) (bt : Nat → Int32) (g : Nat → Nat) (ad : Nat → Nat → Nat) (cn : Nat → Nat) (In : Nat → Int32) (Fn : Nat → Nat → Int32) (v0 : Int32) (hB : CBX cn) : Met l yX11_stale (CWS yX11_stale cX11_stale 6 (some .int)) (RM 4 0 0) (PBrx [.ref (g 0), .int v0] D cI cB cZ zz qq vv bt (wX cI (D.1 99) zz g ad cn In Fn)) (vp_Si (fun _ => True)) 0 0 (fun _ => False) := by
  refine Met.ofW (cc := cX11_stale) (maxL := 6) (ret := (some .int)) (by decide) rfl ?_
  intro p e s m args below meth c s₁ B hml hv
  obtain ⟨rfl, hP, hK, hXS⟩ := hv
  have hS : va_S (fun _ => False) s.heap s.heap [] := va_S.rf
  have hx := B.exec
  have hb := B.bytes
  have hr := B.returns
  have hts := atoms_spec (ws := (CWS yX11_stale cX11_stale 6 (some .int))) B.pre
  have hown : s.vm.findClass RX11 = some m.cls := findClass_of_methodNamed B.named
  have hlocks := B.notSynchronized
  have S : SF p m c cX11_stale 6 s ([.ref (g 0), .int v0]).toArray RX11 := ⟨hx, hb, hml, hown, fun w h => hts w (List.mem_cons_of_mem _ h)⟩
  have hl := lv_entry ([.ref (g 0), .int v0]) (n := 6) (Nat.le_of_ble_eq_true rfl)
  rw [lg_entry_eq]
  generalize (lg_sl ([.ref (g 0), .int v0]) ++ List.replicate (6 - (lg_sl ([.ref (g 0), .int v0])).length) Slot.unset).toArray = ls at hl ⊢
  have hl : lv_has ls 6 [(0, .ref (g 0)), (1, .int v0)] := hl
  refine lv_iload_n hx hb dX11_stale_0 rfl (lv_at hl 1 rfl) ?_
  refine lv_iconst (v := 0) hx hb dX11_stale_1 (by decide) ?_
  refine lv_sipush (v := 399) hx hb dX11_stale_2 (by decide) ?_
  refine vp_callSi (runS_r (As := [.int v0, .int 0, .int 399]) (rest := []) S (q_l_within l D cI cB cZ v0 0 399) kS_RX11_80 hK hP [] rfl ⟨Nat.le_of_ble_eq_true rfl, Nat.le_of_ble_eq_true rfl⟩ ⟨Nat.le_of_ble_eq_true rfl, Nat.le_of_ble_eq_true rfl⟩ rfl hl.1 rfl (Nat.le_of_ble_eq_true rfl) dX11_stale_5) (fun r_1 h_2 => ?_)
  rcases h_2 with ⟨rfl, h_2⟩ | ⟨rfl, h_2⟩
  ·
    have h_2 : 0 ≤ v0.toInt ∧ v0.toInt ≤ 399 := h_2
    refine lv_if_ne (tgt := 13) hx hb dX11_stale_8 (by decide) (fun _ => ?_) (fun h => absurd h (by decide))
    refine lv_iconst (v := 0) hx hb dX11_stale_13 (by decide) ?_
    refine lv_istore_n (lv' := [(2, .int 0), (0, .ref (g 0)), (1, .int v0)]) hx hb dX11_stale_14 rfl hl (by decide) rfl (fun ls hl => ?_)
    refine lv_iconst (v := 0) hx hb dX11_stale_15 (by decide) ?_
    refine lv_istore_n (lv' := [(3, .int 0), (2, .int 0), (0, .ref (g 0)), (1, .int v0)]) hx hb dX11_stale_16 rfl hl (by decide) rfl (fun ls hl => ?_)
    have lp_17 : ∀ (n : Nat) (i17 : Nat) (x17_2 : Int32) , cn 2 - i17 < n → (i17 ≤ cn 2) → ∀ ls : Array Slot, lv_has ls 6 [(3, .int (nI i17)), (2, .int x17_2), (0, .ref (g 0)), (1, .int v0)] → W p l e (RM 4 0 0) s m ([.ref (g 0), .int v0]).toArray below meth c s.heap [] 0 0 (MQ below (vp_Si (fun _ => True)) ([.ref (g 0), .int v0]).toArray s 0 0 (fun _ => False)) (F0 m 17 ls []) := by
      intro n17
      induction n17 with
      | zero => intros; omega
      | succ n17 ih17 =>
        intro i17 x17_2 hmu17 hinv17 ls hl
        have hr17 := hinv17
        have ti17 : (nI i17).toInt = (i17 : Int) := nI_toInt (by omega)
        refine lv_iload_n hx hb dX11_stale_17 rfl (lv_at hl 0 rfl) ?_
        refine lv_aload_n hx hb dX11_stale_18 rfl (lv_at hl 2 rfl) ?_
        refine gf_RX11_502 S hK hP 0 xo_0 (v := .int (nI (cn 2))) rfl dX11_stale_19 ?_
        have : (nI (cn 2)).toInt = (((cn 2) : Nat) : Int) := nI_toInt (by omega)
        refine lv_icmp_ge (tgt := 92) hx hb dX11_stale_22 (by decide) (fun c_3 => ?_) (fun c_3 => ?_)
        ·
          have tc_3 : ((nI (cn 2)).toInt : Int) ≤ (nI i17).toInt := Int32.le_iff_toInt_le.mp c_3
          refine lv_iload_n hx hb dX11_stale_92 rfl (lv_at hl 1 rfl) ?_
          exact W.iret (v := x17_2) hx hb hr (fun t ht hW => ⟨x17_2, rfl, trivial, ht⟩) (fun _ h => absurd h List.not_mem_nil) dX11_stale_93
        ·
          have tc_3 : ((nI i17).toInt : Int) < (nI (cn 2)).toInt := Int32.lt_iff_toInt_lt.mp (Int32.not_le.mp c_3)
          refine lv_aload_n hx hb dX11_stale_25 rfl (lv_at hl 2 rfl) ?_
          refine lv_iload_n hx hb dX11_stale_26 rfl (lv_at hl 0 rfl) ?_
          refine lv_aload_n hx hb dX11_stale_27 rfl (lv_at hl 2 rfl) ?_
          refine gf_RX11_103 S hK hP 0 xo_0 (v := .int (nI (cn 0))) rfl dX11_stale_28 ?_
          refine va_csq (runV_rxa (As := [.int (nI i17), .int (nI (cn 0))]) (rest := []) S (q_XmoveBy l D cI cB cZ zz qq vv bt g ad cn In Fn (nI i17) (nI (cn 0)) hB) kV_RX11_509 hK hXS hS hP 0 xo_0 rfl rfl ⟨Nat.le_of_ble_eq_true rfl, Nat.le_of_ble_eq_true rfl⟩ ⟨Nat.le_of_ble_eq_true rfl, Nat.le_of_ble_eq_true rfl⟩ rfl hl.1 rfl (Nat.le_of_ble_eq_true rfl) dX11_stale_31) (fun r_4 h_5 => ?_)
          rcases h_5 with ⟨mr_4, er_4, hr_4, rfl⟩ | ⟨hr_4, rfl⟩
          ·
            refine lv_astore (lv' := [(4, .ref (ad 15 mr_4)), (3, .int (nI i17)), (2, .int x17_2), (0, .ref (g 0)), (1, .int v0)]) hx hb dX11_stale_34 hl (by decide) rfl (fun ls hl => ?_)
            refine lv_aload hx hb dX11_stale_36 (lv_at hl 0 rfl) ?_
            refine lv_ifnull hx hb dX11_stale_38 ?_
            refine lv_aload hx hb dX11_stale_41 (lv_at hl 0 rfl) ?_
            refine gf_RX11_516 S hK hP _ (xf_5 (by omega)) (v := .int ((Fn 181) mr_4)) rfl dX11_stale_43 ?_
            refine lv_iconst (v := (-1)) hx hb dX11_stale_46 (by decide) ?_
            refine lv_icmp_eq (tgt := 54) hx hb dX11_stale_47 (by decide) (fun c_6 => ?_) (fun c_6 => ?_)
            ·
              have tc_6 : (((Fn 181) mr_4).toInt : Int) = (-1) := congrArg Int32.toInt c_6
              refine lv_iconst (v := 0) hx hb dX11_stale_54 (by decide) ?_
              refine lv_istore (lv' := [(5, .int 0), (4, .ref (ad 15 mr_4)), (3, .int (nI i17)), (2, .int x17_2), (0, .ref (g 0)), (1, .int v0)]) hx hb dX11_stale_55 hl (by decide) rfl (fun ls hl => ?_)
              refine lv_iload_n hx hb dX11_stale_57 rfl (lv_at hl 3 rfl) ?_
              refine lv_iload hx hb dX11_stale_58 (lv_at hl 0 rfl) ?_
              refine lv_if_eq (tgt := 83) hx hb dX11_stale_60 (by decide) (fun _ => ?_) (fun h => absurd h (by decide))
              refine lv_iconst (v := 0) hx hb dX11_stale_83 (by decide) ?_
              refine lv_ior hx hb dX11_stale_84 ?_
              refine lv_istore_n (lv' := [(2, .int (x17_2 ||| 0)), (5, .int 0), (4, .ref (ad 15 mr_4)), (3, .int (nI i17)), (0, .ref (g 0)), (1, .int v0)]) hx hb dX11_stale_85 rfl hl (by decide) rfl (fun ls hl => ?_)
              refine lv_iinc (v := (nI (i17 + 1))) (lv' := [(3, .int (nI (i17 + 1))), (2, .int (x17_2 ||| 0)), (5, .int 0), (4, .ref (ad 15 mr_4)), (0, .ref (g 0)), (1, .int v0)]) hx hb dX11_stale_86 hl (k := 3) rfl (nI_1 _) (by decide) rfl (fun ls hl => ?_)
              refine lv_goto (tgt := 17) hx hb dX11_stale_89 (by decide) ?_
              exact ih17 (i17 + 1) (x17_2 ||| 0) (by omega) (by omega) ls (lv_sub hl [0, 1, 4, 5] rfl)
            ·
              have tc_6 : (((Fn 181) mr_4).toInt : Int) ≠ (-1) := fun q => c_6 (Int32.toInt_inj.mp q)
              refine lv_iconst (v := 1) hx hb dX11_stale_50 (by decide) ?_
              refine lv_goto (tgt := 55) hx hb dX11_stale_51 (by decide) ?_
              refine lv_istore (lv' := [(5, .int 1), (4, .ref (ad 15 mr_4)), (3, .int (nI i17)), (2, .int x17_2), (0, .ref (g 0)), (1, .int v0)]) hx hb dX11_stale_55 hl (by decide) rfl (fun ls hl => ?_)
              refine lv_iload_n hx hb dX11_stale_57 rfl (lv_at hl 3 rfl) ?_
              refine lv_iload hx hb dX11_stale_58 (lv_at hl 0 rfl) ?_
              refine lv_if_eq (tgt := 83) hx hb dX11_stale_60 (by decide) (fun h => absurd h (by decide)) (fun _ => ?_)
              refine lv_aload_n hx hb dX11_stale_63 rfl (lv_at hl 4 rfl) ?_
              refine gf_RX11_103 S hK hP 0 xo_0 (v := .int (nI (cn 0))) rfl dX11_stale_64 ?_
              refine lv_aload hx hb dX11_stale_67 (lv_at hl 1 rfl) ?_
              refine gf_RX11_508 S hK hP _ (xf_5 (by omega)) (v := .int ((Fn 182) mr_4)) rfl dX11_stale_69 ?_
              refine lv_isub hx hb dX11_stale_72 ?_
              refine lv_iload_n hx hb dX11_stale_73 rfl (lv_at hl 5 rfl) ?_
              refine lv_icmp_lt (tgt := 83) hx hb dX11_stale_74 (by decide) (fun c_7 => ?_) (fun c_7 => ?_)
              ·
                have tc_7 : (((nI (cn 0)) - ((Fn 182) mr_4)).toInt : Int) < v0.toInt := Int32.lt_iff_toInt_lt.mp c_7
                refine lv_iconst (v := 0) hx hb dX11_stale_83 (by decide) ?_
                refine lv_ior hx hb dX11_stale_84 ?_
                refine lv_istore_n (lv' := [(2, .int (x17_2 ||| 0)), (5, .int 1), (4, .ref (ad 15 mr_4)), (3, .int (nI i17)), (0, .ref (g 0)), (1, .int v0)]) hx hb dX11_stale_85 rfl hl (by decide) rfl (fun ls hl => ?_)
                refine lv_iinc (v := (nI (i17 + 1))) (lv' := [(3, .int (nI (i17 + 1))), (2, .int (x17_2 ||| 0)), (5, .int 1), (4, .ref (ad 15 mr_4)), (0, .ref (g 0)), (1, .int v0)]) hx hb dX11_stale_86 hl (k := 3) rfl (nI_1 _) (by decide) rfl (fun ls hl => ?_)
                refine lv_goto (tgt := 17) hx hb dX11_stale_89 (by decide) ?_
                exact ih17 (i17 + 1) (x17_2 ||| 0) (by omega) (by omega) ls (lv_sub hl [0, 1, 4, 5] rfl)
              ·
                have tc_7 : (v0.toInt : Int) ≤ ((nI (cn 0)) - ((Fn 182) mr_4)).toInt := Int32.le_iff_toInt_le.mp (Int32.not_lt.mp c_7)
                refine lv_iconst (v := 1) hx hb dX11_stale_77 (by decide) ?_
                refine lv_iload_n hx hb dX11_stale_78 rfl (lv_at hl 2 rfl) ?_
                refine lv_ishl hx hb dX11_stale_79 ?_
                refine lv_goto (tgt := 84) hx hb dX11_stale_80 (by decide) ?_
                refine lv_ior hx hb dX11_stale_84 ?_
                refine lv_istore_n (lv' := [(2, .int (x17_2 ||| (1 <<< ((nI i17) &&& 31)))), (5, .int 1), (4, .ref (ad 15 mr_4)), (3, .int (nI i17)), (0, .ref (g 0)), (1, .int v0)]) hx hb dX11_stale_85 rfl hl (by decide) rfl (fun ls hl => ?_)
                refine lv_iinc (v := (nI (i17 + 1))) (lv' := [(3, .int (nI (i17 + 1))), (2, .int (x17_2 ||| (1 <<< ((nI i17) &&& 31)))), (5, .int 1), (4, .ref (ad 15 mr_4)), (0, .ref (g 0)), (1, .int v0)]) hx hb dX11_stale_86 hl (k := 3) rfl (nI_1 _) (by decide) rfl (fun ls hl => ?_)
                refine lv_goto (tgt := 17) hx hb dX11_stale_89 (by decide) ?_
                exact ih17 (i17 + 1) (x17_2 ||| (1 <<< ((nI i17) &&& 31))) (by omega) (by omega) ls (lv_sub hl [0, 1, 4, 5] rfl)
          ·
            refine lv_astoreN (lv' := [(4, .null), (3, .int (nI i17)), (2, .int x17_2), (0, .ref (g 0)), (1, .int v0)]) hx hb dX11_stale_34 hl (by decide) rfl (fun ls hl => ?_)
            refine lv_aloadN hx hb dX11_stale_36 (lv_at hl 0 rfl) ?_
            refine lv_ifnullN (tgt := 54) hx hb dX11_stale_38 (by decide) ?_
            refine lv_iconst (v := 0) hx hb dX11_stale_54 (by decide) ?_
            refine lv_istore (lv' := [(5, .int 0), (4, .null), (3, .int (nI i17)), (2, .int x17_2), (0, .ref (g 0)), (1, .int v0)]) hx hb dX11_stale_55 hl (by decide) rfl (fun ls hl => ?_)
            refine lv_iload_n hx hb dX11_stale_57 rfl (lv_at hl 3 rfl) ?_
            refine lv_iload hx hb dX11_stale_58 (lv_at hl 0 rfl) ?_
            refine lv_if_eq (tgt := 83) hx hb dX11_stale_60 (by decide) (fun _ => ?_) (fun h => absurd h (by decide))
            refine lv_iconst (v := 0) hx hb dX11_stale_83 (by decide) ?_
            refine lv_ior hx hb dX11_stale_84 ?_
            refine lv_istore_n (lv' := [(2, .int (x17_2 ||| 0)), (5, .int 0), (4, .null), (3, .int (nI i17)), (0, .ref (g 0)), (1, .int v0)]) hx hb dX11_stale_85 rfl hl (by decide) rfl (fun ls hl => ?_)
            refine lv_iinc (v := (nI (i17 + 1))) (lv' := [(3, .int (nI (i17 + 1))), (2, .int (x17_2 ||| 0)), (5, .int 0), (4, .null), (0, .ref (g 0)), (1, .int v0)]) hx hb dX11_stale_86 hl (k := 3) rfl (nI_1 _) (by decide) rfl (fun ls hl => ?_)
            refine lv_goto (tgt := 17) hx hb dX11_stale_89 (by decide) ?_
            exact ih17 (i17 + 1) (x17_2 ||| 0) (by omega) (by omega) ls (lv_sub hl [0, 1, 4, 5] rfl)
    exact lp_17 _ 0 0 (Nat.lt_succ_self _) (by omega) ls (lv_sub hl [0, 1, 2, 3] rfl)
  ·
    have h_2 : ¬ (0 ≤ v0.toInt ∧ v0.toInt ≤ 399) := h_2
    refine lv_if_ne (tgt := 13) hx hb dX11_stale_8 (by decide) (fun h => absurd h (by decide)) (fun _ => ?_)
    refine lv_iconst (v := (-1)) hx hb dX11_stale_11 (by decide) ?_
    exact W.iret (v := (-1)) hx hb hr (fun t ht hW => ⟨(-1), rfl, trivial, ht⟩) (fun _ h => absurd h List.not_mem_nil) dX11_stale_12
