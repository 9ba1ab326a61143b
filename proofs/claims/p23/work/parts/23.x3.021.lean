set_option maxRecDepth 100000 in
set_option maxHeartbeats 4000000 in
theorem q_Xbeside (l : Launch) (D : va_G) (cI cB cZ : ClassId) (zz qq vv : Nat) (bt : Nat → Int32) (g : Nat → Nat) (ad : Nat → Nat → Nat) (cn : Nat → Nat) (In : Nat → Int32) (Fn : Nat → Nat → Int32) (v0 v1 : Int32) (hB : CBX cn) : Met l yX11_beside (CWS yX11_beside cX11_beside 6 (some .int)) (RM 4 0 0) (PBrx [.ref (g 0), .int v0, .int v1] D cI cB cZ zz qq vv bt (wX cI (D.1 99) zz g ad cn In Fn)) (vp_Si (fun _ => True)) 0 0 (fun _ => False) := by
  refine Met.ofW (cc := cX11_beside) (maxL := 6) (ret := (some .int)) (by decide) rfl ?_
  intro p e s m args below meth c s₁ B hml hv
  obtain ⟨rfl, hP, hK, hXS⟩ := hv
  have hS : va_S (fun _ => False) s.heap s.heap [] := va_S.rf
  have hx := B.exec
  have hb := B.bytes
  have hr := B.returns
  have hts := atoms_spec (ws := (CWS yX11_beside cX11_beside 6 (some .int))) B.pre
  have hown : s.vm.findClass RX11 = some m.cls := findClass_of_methodNamed B.named
  have hlocks := B.notSynchronized
  have S : SF p m c cX11_beside 6 s ([.ref (g 0), .int v0, .int v1]).toArray RX11 := ⟨hx, hb, hml, hown, fun w h => hts w (List.mem_cons_of_mem _ h)⟩
  have hl := lv_entry ([.ref (g 0), .int v0, .int v1]) (n := 6) (Nat.le_of_ble_eq_true rfl)
  rw [lg_entry_eq]
  generalize (lg_sl ([.ref (g 0), .int v0, .int v1]) ++ List.replicate (6 - (lg_sl ([.ref (g 0), .int v0, .int v1])).length) Slot.unset).toArray = ls at hl ⊢
  have hl : lv_has ls 6 [(0, .ref (g 0)), (1, .int v0), (2, .int v1)] := hl
  refine lv_iload_n hx hb dX11_beside_0 rfl (lv_at hl 1 rfl) ?_
  refine lv_iconst (v := 0) hx hb dX11_beside_1 (by decide) ?_
  refine lv_sipush (v := 198) hx hb dX11_beside_2 (by decide) ?_
  refine vp_callSi (runS_r (As := [.int v0, .int 0, .int 198]) (rest := []) S (q_l_within l D cI cB cZ v0 0 198) kS_RX11_80 hK hP [] rfl ⟨Nat.le_of_ble_eq_true rfl, Nat.le_of_ble_eq_true rfl⟩ ⟨Nat.le_of_ble_eq_true rfl, Nat.le_of_ble_eq_true rfl⟩ rfl hl.1 rfl (Nat.le_of_ble_eq_true rfl) dX11_beside_5) (fun r_1 h_2 => ?_)
  rcases h_2 with ⟨rfl, h_2⟩ | ⟨rfl, h_2⟩
  ·
    have h_2 : 0 ≤ v0.toInt ∧ v0.toInt ≤ 198 := h_2
    refine lv_if_eq (tgt := 22) hx hb dX11_beside_8 (by decide) (fun h => absurd h (by decide)) (fun _ => ?_)
    refine lv_iload_n hx hb dX11_beside_11 rfl (lv_at hl 2 rfl) ?_
    refine lv_iconst (v := 1) hx hb dX11_beside_12 (by decide) ?_
    refine lv_sipush (v := 1000) hx hb dX11_beside_13 (by decide) ?_
    refine vp_callSi (runS_r (As := [.int v1, .int 1, .int 1000]) (rest := []) S (q_l_within l D cI cB cZ v1 1 1000) kS_RX11_80 hK hP [] rfl ⟨Nat.le_of_ble_eq_true rfl, Nat.le_of_ble_eq_true rfl⟩ ⟨Nat.le_of_ble_eq_true rfl, Nat.le_of_ble_eq_true rfl⟩ rfl hl.1 rfl (Nat.le_of_ble_eq_true rfl) dX11_beside_16) (fun r_3 h_4 => ?_)
    rcases h_4 with ⟨rfl, h_4⟩ | ⟨rfl, h_4⟩
    ·
      have h_4 : 1 ≤ v1.toInt ∧ v1.toInt ≤ 1000 := h_4
      refine lv_if_ne (tgt := 24) hx hb dX11_beside_19 (by decide) (fun _ => ?_) (fun h => absurd h (by decide))
      refine lv_iconst (v := 0) hx hb dX11_beside_24 (by decide) ?_
      refine lv_istore_n (lv' := [(3, .int 0), (0, .ref (g 0)), (1, .int v0), (2, .int v1)]) hx hb dX11_beside_25 rfl hl (by decide) rfl (fun ls hl => ?_)
      refine lv_iconst (v := 0) hx hb dX11_beside_26 (by decide) ?_
      refine lv_istore (lv' := [(4, .int 0), (3, .int 0), (0, .ref (g 0)), (1, .int v0), (2, .int v1)]) hx hb dX11_beside_27 hl (by decide) rfl (fun ls hl => ?_)
      have lp_29 : ∀ (n : Nat) (i29 : Nat) (x29_3 : Int32) , cn 10 - i29 < n → (i29 ≤ cn 10) → ∀ ls : Array Slot, lv_has ls 6 [(4, .int (nI i29)), (3, .int x29_3), (0, .ref (g 0)), (1, .int v0), (2, .int v1)] → W p l e (RM 4 0 0) s m ([.ref (g 0), .int v0, .int v1]).toArray below meth c s.heap [] 0 0 (MQ below (vp_Si (fun _ => True)) ([.ref (g 0), .int v0, .int v1]).toArray s 0 0 (fun _ => False)) (F0 m 29 ls []) := by
        intro n29
        induction n29 with
        | zero => intros; omega
        | succ n29 ih29 =>
          intro i29 x29_3 hmu29 hinv29 ls hl
          have hr29 := hinv29
          have ti29 : (nI i29).toInt = (i29 : Int) := nI_toInt (by omega)
          refine lv_iload hx hb dX11_beside_29 (lv_at hl 0 rfl) ?_
          refine lv_aload_n hx hb dX11_beside_31 rfl (lv_at hl 2 rfl) ?_
          refine gf_RX11_61 S hK hP 0 xo_0 (v := .ref (g 10)) rfl dX11_beside_32 ?_
          refine vp_callSi (runV_r (As := []) (rest := [.int (nI i29)]) S (q_l_size l D cI cB cZ (g 10) (if (cn 10) = 0 then zz else ad 2 0) (In 10) (nI (cn 10))) kV_RX11_84 hK hP [24] (one_is xo_24) 24 xo_24 rfl rfl ⟨Nat.le_of_ble_eq_true rfl, Nat.le_of_ble_eq_true rfl⟩ ⟨Nat.le_of_ble_eq_true rfl, Nat.le_of_ble_eq_true rfl⟩ rfl hl.1 rfl (Nat.le_of_ble_eq_true rfl) dX11_beside_35) (fun r_5 h_6 => ?_)
          subst h_6
          have : (nI (cn 10)).toInt = (((cn 10) : Nat) : Int) := nI_toInt (by omega)
          refine lv_icmp_ge (tgt := 91) hx hb dX11_beside_38 (by decide) (fun c_7 => ?_) (fun c_7 => ?_)
          ·
            have tc_7 : ((nI (cn 10)).toInt : Int) ≤ (nI i29).toInt := Int32.le_iff_toInt_le.mp c_7
            refine lv_iload_n hx hb dX11_beside_91 rfl (lv_at hl 1 rfl) ?_
            exact W.iret (v := x29_3) hx hb hr (fun t ht hW => ⟨x29_3, rfl, trivial, ht⟩) (fun _ h => absurd h List.not_mem_nil) dX11_beside_92
          ·
            have tc_7 : ((nI i29).toInt : Int) < (nI (cn 10)).toInt := Int32.lt_iff_toInt_lt.mp (Int32.not_le.mp c_7)
            refine lv_aload_n hx hb dX11_beside_41 rfl (lv_at hl 2 rfl) ?_
            refine gf_RX11_61 S hK hP 0 xo_0 (v := .ref (g 10)) rfl dX11_beside_42 ?_
            refine lv_iload hx hb dX11_beside_45 (lv_at hl 0 rfl) ?_
            refine va_csq (runV_rx (As := [.int (nI i29)]) (rest := []) S (q_l_get l D cI cB cZ zz qq vv bt (g 10) (ad 2 0) (cn 20) (cn 10) i29 (ad 10 i29) (In 10) (fun i => if i < (cn 10) then some (ad 10 i) else none) (by omega) (if_pos (by omega)) (by omega) (by omega)) kV_RX11_87 hK hXS hS hP _ (two_is (xl_0 (by omega)) (xf_13 (k := 0) (by omega))) (va_recv hK.1 hP (ci := 0) rfl xo_24) ⟨Nat.le_of_ble_eq_true rfl, Nat.le_of_ble_eq_true rfl⟩ ⟨Nat.le_of_ble_eq_true rfl, Nat.le_of_ble_eq_true rfl⟩ rfl hl.1 rfl (Nat.le_of_ble_eq_true rfl) dX11_beside_47) (fun r_8 h_9 => ?_)
            subst h_9
            refine va_castS hx hb hown (S.2.2.2.2 _ (wT_t2 63 rfl rfl)) (xclass hK.1 (ci := 2) rfl) (va_recv hK.1 hP (ci := 2) rfl (xf_0 (by omega))) dX11_beside_50 ?_
            refine lv_astore (lv' := [(5, .ref (ad 10 i29)), (4, .int (nI i29)), (3, .int x29_3), (0, .ref (g 0)), (1, .int v0), (2, .int v1)]) hx hb dX11_beside_53 hl (by decide) rfl (fun ls hl => ?_)
            refine lv_iload_n hx hb dX11_beside_55 rfl (lv_at hl 2 rfl) ?_
            refine lv_aload hx hb dX11_beside_56 (lv_at hl 0 rfl) ?_
            refine gf_RX11_459 S hK hP _ (xf_0 (by omega)) (v := .int ((Fn 102) i29)) rfl dX11_beside_58 ?_
            refine lv_if_ne (tgt := 82) hx hb dX11_beside_61 (by decide) (fun c_10 => ?_) (fun c_10 => ?_)
            ·
              have tc_10 : (((Fn 102) i29).toInt : Int) ≠ 0 := fun q => c_10 (Int32.toInt_inj.mp q)
              refine lv_iconst (v := 0) hx hb dX11_beside_82 (by decide) ?_
              refine lv_ior hx hb dX11_beside_83 ?_
              refine lv_istore_n (lv' := [(3, .int (x29_3 ||| 0)), (5, .ref (ad 10 i29)), (4, .int (nI i29)), (0, .ref (g 0)), (1, .int v0), (2, .int v1)]) hx hb dX11_beside_84 rfl hl (by decide) rfl (fun ls hl => ?_)
              refine lv_iinc (v := (nI (i29 + 1))) (lv' := [(4, .int (nI (i29 + 1))), (3, .int (x29_3 ||| 0)), (5, .ref (ad 10 i29)), (0, .ref (g 0)), (1, .int v0), (2, .int v1)]) hx hb dX11_beside_85 hl (k := 2) rfl (nI_1 _) (by decide) rfl (fun ls hl => ?_)
              refine lv_goto (tgt := 29) hx hb dX11_beside_88 (by decide) ?_
              exact ih29 (i29 + 1) (x29_3 ||| 0) (by omega) (by omega) ls (lv_sub hl [0, 1, 3, 4, 5] rfl)
            ·
              have tc_10 : (((Fn 102) i29).toInt : Int) = 0 := congrArg Int32.toInt c_10
              refine lv_aload_n hx hb dX11_beside_64 rfl (lv_at hl 3 rfl) ?_
              refine lv_aload hx hb dX11_beside_65 (lv_at hl 0 rfl) ?_
              refine lv_iload_n hx hb dX11_beside_67 rfl (lv_at hl 4 rfl) ?_
              refine lv_iload_n hx hb dX11_beside_68 rfl (lv_at hl 5 rfl) ?_
              refine vp_callSi (runV_rxa (As := [.ref (ad 10 i29), .int v0, .int v1]) (rest := [.int x29_3]) S (q_XisBeside l D cI cB cZ zz qq vv bt g ad cn In Fn i29 v0 v1 hB (by omega)) kV_RX11_482 hK hXS hS hP 0 xo_0 rfl rfl ⟨Nat.le_of_ble_eq_true rfl, Nat.le_of_ble_eq_true rfl⟩ ⟨Nat.le_of_ble_eq_true rfl, Nat.le_of_ble_eq_true rfl⟩ rfl hl.1 rfl (Nat.le_of_ble_eq_true rfl) dX11_beside_69) (fun r_11 h_12 => ?_)
              rcases h_12 with rfl | rfl
              ·
                refine lv_if_eq (tgt := 82) hx hb dX11_beside_72 (by decide) (fun _ => ?_) (fun h => absurd h (by decide))
                refine lv_iconst (v := 0) hx hb dX11_beside_82 (by decide) ?_
                refine lv_ior hx hb dX11_beside_83 ?_
                refine lv_istore_n (lv' := [(3, .int (x29_3 ||| 0)), (5, .ref (ad 10 i29)), (4, .int (nI i29)), (0, .ref (g 0)), (1, .int v0), (2, .int v1)]) hx hb dX11_beside_84 rfl hl (by decide) rfl (fun ls hl => ?_)
                refine lv_iinc (v := (nI (i29 + 1))) (lv' := [(4, .int (nI (i29 + 1))), (3, .int (x29_3 ||| 0)), (5, .ref (ad 10 i29)), (0, .ref (g 0)), (1, .int v0), (2, .int v1)]) hx hb dX11_beside_85 hl (k := 2) rfl (nI_1 _) (by decide) rfl (fun ls hl => ?_)
                refine lv_goto (tgt := 29) hx hb dX11_beside_88 (by decide) ?_
                exact ih29 (i29 + 1) (x29_3 ||| 0) (by omega) (by omega) ls (lv_sub hl [0, 1, 3, 4, 5] rfl)
              ·
                refine lv_if_eq (tgt := 82) hx hb dX11_beside_72 (by decide) (fun h => absurd h (by decide)) (fun _ => ?_)
                refine lv_iconst (v := 1) hx hb dX11_beside_75 (by decide) ?_
                refine lv_iload hx hb dX11_beside_76 (lv_at hl 1 rfl) ?_
                refine lv_ishl hx hb dX11_beside_78 ?_
                refine lv_goto (tgt := 83) hx hb dX11_beside_79 (by decide) ?_
                refine lv_ior hx hb dX11_beside_83 ?_
                refine lv_istore_n (lv' := [(3, .int (x29_3 ||| (1 <<< ((nI i29) &&& 31)))), (5, .ref (ad 10 i29)), (4, .int (nI i29)), (0, .ref (g 0)), (1, .int v0), (2, .int v1)]) hx hb dX11_beside_84 rfl hl (by decide) rfl (fun ls hl => ?_)
                refine lv_iinc (v := (nI (i29 + 1))) (lv' := [(4, .int (nI (i29 + 1))), (3, .int (x29_3 ||| (1 <<< ((nI i29) &&& 31)))), (5, .ref (ad 10 i29)), (0, .ref (g 0)), (1, .int v0), (2, .int v1)]) hx hb dX11_beside_85 hl (k := 2) rfl (nI_1 _) (by decide) rfl (fun ls hl => ?_)
                refine lv_goto (tgt := 29) hx hb dX11_beside_88 (by decide) ?_
                exact ih29 (i29 + 1) (x29_3 ||| (1 <<< ((nI i29) &&& 31))) (by omega) (by omega) ls (lv_sub hl [0, 1, 3, 4, 5] rfl)
      exact lp_29 _ 0 0 (Nat.lt_succ_self _) (by omega) ls (lv_sub hl [0, 1, 2, 3, 4] rfl)
    ·
      have h_4 : ¬ (1 ≤ v1.toInt ∧ v1.toInt ≤ 1000) := h_4
      refine lv_if_ne (tgt := 24) hx hb dX11_beside_19 (by decide) (fun h => absurd h (by decide)) (fun _ => ?_)
      refine lv_iconst (v := (-1)) hx hb dX11_beside_22 (by decide) ?_
      exact W.iret (v := (-1)) hx hb hr (fun t ht hW => ⟨(-1), rfl, trivial, ht⟩) (fun _ h => absurd h List.not_mem_nil) dX11_beside_23
  ·
    have h_2 : ¬ (0 ≤ v0.toInt ∧ v0.toInt ≤ 198) := h_2
    refine lv_if_eq (tgt := 22) hx hb dX11_beside_8 (by decide) (fun _ => ?_) (fun h => absurd h (by decide))
    refine lv_iconst (v := (-1)) hx hb dX11_beside_22 (by decide) ?_
    exact W.iret (v := (-1)) hx hb hr (fun t ht hW => ⟨(-1), rfl, trivial, ht⟩) (fun _ h => absurd h List.not_mem_nil) dX11_beside_23
