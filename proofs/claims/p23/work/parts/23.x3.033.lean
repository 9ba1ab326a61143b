set_option maxRecDepth 100000 in
set_option maxHeartbeats 4000000 in
theorem q_Xshared (l : Launch) (D : va_G) (cI cB cZ : ClassId) (zz qq vv : Nat) (bt : Nat → Int32) (g : Nat → Nat) (ad : Nat → Nat → Nat) (cn : Nat → Nat) (In : Nat → Int32) (Fn : Nat → Nat → Int32) (v0 v1 v2 : Int32) (sz : Nat) (hB : CBX cn) : Met l yX11_shared (CWS yX11_shared cX11_shared 6 (some .int)) (RM 7 0 0) (PBx [.ref (g 0), .int v0, .int v1, .int v2] D cI cB cZ zz qq vv bt (wX cI (D.1 99) zz g ad cn In Fn) sz) (va_Qi (fun (r : Int32) (u : (Nat → Nat) × (Nat → Int32) × (Nat → Nat → Int32)) => (fun r c2 I2 F2 => Fr [4] [] [30, 31, 32, 33, 34, 35, 105] cn In Fn c2 I2 F2 ∧ CBX c2 ∧ (True)) r u.1 u.2.1 u.2.2) (fun (u : (Nat → Nat) × (Nat → Int32) × (Nat → Nat → Int32)) (t : State) => va_P D vwCl (wX cI (D.1 99) zz g ad u.1 u.2.1 u.2.2) t.heap ∧ va_D (va_A (wX cI (D.1 99) zz g ad cn In Fn) sz) (wX cI (D.1 99) zz g ad u.1 u.2.1 u.2.2)) (va_A (wX cI (D.1 99) zz g ad cn In Fn) sz)) 0 0 (va_A (wX cI (D.1 99) zz g ad cn In Fn) sz) := by
  refine Met.ofW (cc := cX11_shared) (maxL := 6) (ret := (some .int)) (by decide) rfl ?_
  intro p e s m args below meth c s₁ B hml hv
  obtain ⟨rfl, hsz, hP, hK, hD0, hXS⟩ := hv
  have hx := B.exec
  have hb := B.bytes
  have hr := B.returns
  have hts := atoms_spec (ws := (CWS yX11_shared cX11_shared 6 (some .int))) B.pre
  have hown : s.vm.findClass RX11 = some m.cls := findClass_of_methodNamed B.named
  have hlocks := B.notSynchronized
  have S : SF p m c cX11_shared 6 s ([.ref (g 0), .int v0, .int v1, .int v2]).toArray RX11 := ⟨hx, hb, hml, hown, fun w h => hts w (List.mem_cons_of_mem _ h)⟩
  subst hsz
  have hD := hD0.self (sz := s.heap.size)
  generalize hAe : va_A (wX cI (D.1 99) zz g ad cn In Fn) s.heap.size = A at hD hXS ⊢
  have hA : ∀ q : Nat, s.heap.size ≤ q → A q := fun q h => by rw [← hAe]; exact Or.inr h
  have hS : va_S A s.heap s.heap [] := va_S.rf
  have hl := lv_entry ([.ref (g 0), .int v0, .int v1, .int v2]) (n := 6) (Nat.le_of_ble_eq_true rfl)
  rw [lg_entry_eq]
  generalize (lg_sl ([.ref (g 0), .int v0, .int v1, .int v2]) ++ List.replicate (6 - (lg_sl ([.ref (g 0), .int v0, .int v1, .int v2])).length) Slot.unset).toArray = ls at hl ⊢
  have hl : lv_has ls 6 [(0, .ref (g 0)), (1, .int v0), (2, .int v1), (3, .int v2)] := hl
  refine lv_iload_n hx hb dX11_shared_0 rfl (lv_at hl 3 rfl) ?_
  refine lv_iconst (v := (-1)) hx hb dX11_shared_1 (by decide) ?_
  refine lv_icmp_eq (tgt := 13) hx hb dX11_shared_2 (by decide) (fun c_1 => ?_) (fun c_1 => ?_)
  ·
    have tc_1 : (v2.toInt : Int) = (-1) := congrArg Int32.toInt c_1
    refine lv_iconst (v := 1) hx hb dX11_shared_13 (by decide) ?_
    refine lv_goto (tgt := 18) hx hb dX11_shared_14 (by decide) ?_
    refine lv_istore (lv' := [(4, .int 1), (0, .ref (g 0)), (1, .int v0), (2, .int v1), (3, .int v2)]) hx hb dX11_shared_18 hl (by decide) rfl (fun ls hl => ?_)
    refine lv_iload_n hx hb dX11_shared_20 rfl (lv_at hl 2 rfl) ?_
    refine vp_callSi (runS_r (As := [.int v0]) (rest := []) S (q_l_isDay l D cI cB cZ v0) kS_RX11_99 hK hP [] rfl ⟨Nat.le_of_ble_eq_true rfl, Nat.le_of_ble_eq_true rfl⟩ ⟨Nat.le_of_ble_eq_true rfl, Nat.le_of_ble_eq_true rfl⟩ rfl hl.1 rfl (Nat.le_of_ble_eq_true rfl) dX11_shared_21) (fun r_2 h_3 => ?_)
    rcases h_3 with ⟨rfl, h_3⟩ | ⟨rfl, h_3⟩
    ·
      have h_3 : 0 ≤ v0.toInt ∧ v0.toInt ≤ 399 := h_3
      refine lv_if_eq (tgt := 43) hx hb dX11_shared_24 (by decide) (fun h => absurd h (by decide)) (fun _ => ?_)
      refine lv_iload_n hx hb dX11_shared_27 rfl (lv_at hl 3 rfl) ?_
      refine lv_iconst (v := 1) hx hb dX11_shared_28 (by decide) ?_
      refine lv_sipush (v := 400) hx hb dX11_shared_29 (by decide) ?_
      refine vp_callSi (runS_r (As := [.int v1, .int 1, .int 400]) (rest := []) S (q_l_within l D cI cB cZ v1 1 400) kS_RX11_80 hK hP [] rfl ⟨Nat.le_of_ble_eq_true rfl, Nat.le_of_ble_eq_true rfl⟩ ⟨Nat.le_of_ble_eq_true rfl, Nat.le_of_ble_eq_true rfl⟩ rfl hl.1 rfl (Nat.le_of_ble_eq_true rfl) dX11_shared_32) (fun r_4 h_5 => ?_)
      rcases h_5 with ⟨rfl, h_5⟩ | ⟨rfl, h_5⟩
      ·
        have h_5 : 1 ≤ v1.toInt ∧ v1.toInt ≤ 400 := h_5
        refine lv_if_eq (tgt := 43) hx hb dX11_shared_35 (by decide) (fun h => absurd h (by decide)) (fun _ => ?_)
        refine lv_iload hx hb dX11_shared_38 (lv_at hl 0 rfl) ?_
        refine lv_if_ne (tgt := 45) hx hb dX11_shared_40 (by decide) (fun _ => ?_) (fun h => absurd h (by decide))
        refine lv_aload_n hx hb dX11_shared_45 rfl (lv_at hl 1 rfl) ?_
        refine lv_iload_n hx hb dX11_shared_46 rfl (lv_at hl 2 rfl) ?_
        have hFc := free_all hD hS hA
        refine va_calli (runV_xa (As := [.int v0]) (rest := []) S (q_XstartTrial l D cI cB cZ zz qq vv bt g ad cn In Fn v0 s.heap.size hB) kV_RX11_276 hK hXS hS hFc hP hD 0 xo_0 rfl rfl ⟨Nat.le_of_ble_eq_true rfl, Nat.le_of_ble_eq_true rfl⟩ ⟨Nat.le_of_ble_eq_true rfl, Nat.le_of_ble_eq_true rfl⟩ rfl hl.1 rfl (Nat.le_of_ble_eq_true rfl) dX11_shared_47) hS (fun q _ h => hFc q h) hFc (fun r_6 u t H1 locs ht hvm wh_7 hB1 hz1 hk1 hS => ?_)
        obtain ⟨cn7, In7, Fn7⟩ := u
        obtain ⟨hP1, hD1⟩ := hB1
        rw [ht] at hP1
        have hP : va_P D vwCl (wX cI (D.1 99) zz g ad cn7 In7 Fn7) H1 := hP1
        have hD : va_D A (wX cI (D.1 99) zz g ad cn7 In7 Fn7) := hD1.weaken (fun _ _ _ h => hFc _ h)
        generalize H1 = H at hP hS ⊢
        have vh_7 : (fun r c2 I2 F2 => Fr [] [] [105] cn In Fn c2 I2 F2 ∧ CBX c2 ∧ (True)) r_6 cn7 In7 Fn7 := wh_7
        obtain ⟨hfc7, hIn7, h_7⟩ := vh_7
        obtain rfl : cn = cn7 := (funext (fun k => hfc7.1 k List.not_mem_nil)).symm
        obtain rfl : In = In7 := (funext (fun k => hfc7.2.1 k List.not_mem_nil)).symm
        have hf7 : Fr [4] [] [30, 31, 32, 33, 34, 35, 105] cn In Fn cn In Fn7 := Fr.mo (Fr.tr (Fr.rf (cn := cn) (In := In) (Fn := Fn)) hfc7) (by decide) (by decide) (by decide)
        refine lv_if_eq (tgt := 64) hx hb dX11_shared_50 (by decide) (fun c_8 => ?_) (fun c_8 => ?_)
        ·
          have tc_8 : (r_6.toInt : Int) = 0 := congrArg Int32.toInt c_8
          refine lv_bipush (v := (-2)) hx hb dX11_shared_64 (by decide) ?_
          exact W.iret (v := (-2)) hx hb hr (fun t ht hW => ⟨⟨(-2), (cn, In, Fn7), rfl, ⟨(Fr.mo hf7 (by decide) (by decide) (by decide)), hIn7, trivial⟩, by rw [ht]; exact hP, hD⟩, hS.F ht⟩) hS.2.2 dX11_shared_66
        ·
          have tc_8 : (r_6.toInt : Int) ≠ 0 := fun q => c_8 (Int32.toInt_inj.mp q)
          refine lv_aload_n hx hb dX11_shared_53 rfl (lv_at hl 1 rfl) ?_
          refine lv_iload_n hx hb dX11_shared_54 rfl (lv_at hl 2 rfl) ?_
          refine lv_iload_n hx hb dX11_shared_55 rfl (lv_at hl 3 rfl) ?_
          refine lv_bipush (v := 6) hx hb dX11_shared_56 (by decide) ?_
          have hFc := free_all hD hS hA
          refine va_calli (runV_xa (As := [.int v0, .int v1, .int 6]) (rest := []) S (q_XgatherStops l D cI cB cZ zz qq vv bt g ad cn In Fn7 v0 v1 6 H.size hIn7 (by decide)) kV_RX11_279 hK hXS hS hFc hP hD 0 xo_0 rfl rfl ⟨Nat.le_of_ble_eq_true rfl, Nat.le_of_ble_eq_true rfl⟩ ⟨Nat.le_of_ble_eq_true rfl, Nat.le_of_ble_eq_true rfl⟩ rfl hl.1 rfl (Nat.le_of_ble_eq_true rfl) dX11_shared_58) hS (fun q _ h => hFc q h) hFc (fun r_9 u t H1 locs ht hvm wh_10 hB1 hz1 hk1 hS => ?_)
          obtain ⟨cn10, In10, Fn10⟩ := u
          obtain ⟨hP1, hD1⟩ := hB1
          rw [ht] at hP1
          have hP : va_P D vwCl (wX cI (D.1 99) zz g ad cn10 In10 Fn10) H1 := hP1
          have hD : va_D A (wX cI (D.1 99) zz g ad cn10 In10 Fn10) := hD1.weaken (fun _ _ _ h => hFc _ h)
          generalize H1 = H at hP hS ⊢
          have vh_10 : (fun r c2 I2 F2 => Fr [4] [] [30, 31, 32, 33, 34, 35] cn In Fn7 c2 I2 F2 ∧ CBX c2 ∧ (True)) r_9 cn10 In10 Fn10 := wh_10
          obtain ⟨hfc10, hIn10, h_10⟩ := vh_10
          obtain rfl : In = In10 := (funext (fun k => hfc10.2.1 k List.not_mem_nil)).symm
          have hf10 : Fr [4] [] [30, 31, 32, 33, 34, 35, 105] cn In Fn cn10 In Fn10 := Fr.mo (Fr.tr hf7 hfc10) (by decide) (by decide) (by decide)
          have : cn10 0 = (cn 0) := hfc10.1 0 (by decide)
          have : cn10 1 = (cn 1) := hfc10.1 1 (by decide)
          have : cn10 2 = (cn 2) := hfc10.1 2 (by decide)
          have : cn10 3 = (cn 3) := hfc10.1 3 (by decide)
          have : cn10 5 = (cn 5) := hfc10.1 5 (by decide)
          have : cn10 10 = (cn 10) := hfc10.1 10 (by decide)
          have : cn10 11 = (cn 11) := hfc10.1 11 (by decide)
          have : cn10 12 = (cn 12) := hfc10.1 12 (by decide)
          have : cn10 13 = (cn 13) := hfc10.1 13 (by decide)
          have : cn10 14 = (cn 14) := hfc10.1 14 (by decide)
          have : cn10 15 = (cn 15) := hfc10.1 15 (by decide)
          have : cn10 20 = (cn 20) := hfc10.1 20 (by decide)
          have : cn10 21 = (cn 21) := hfc10.1 21 (by decide)
          have : cn10 22 = (cn 22) := hfc10.1 22 (by decide)
          have : cn10 23 = (cn 23) := hfc10.1 23 (by decide)
          have : cn10 24 = (cn 24) := hfc10.1 24 (by decide)
          have : cn10 25 = (cn 25) := hfc10.1 25 (by decide)
          have : cn10 6 = (cn 6) := hfc10.1 6 (by decide)
          have : cn10 31 = (cn 31) := hfc10.1 31 (by decide)
          have : cn10 32 = (cn 32) := hfc10.1 32 (by decide)
          refine lv_if_ne (tgt := 67) hx hb dX11_shared_61 (by decide) (fun c_11 => ?_) (fun c_11 => ?_)
          ·
            have tc_11 : (r_9.toInt : Int) ≠ 0 := fun q => c_11 (Int32.toInt_inj.mp q)
            refine lv_aload_n hx hb dX11_shared_67 rfl (lv_at hl 1 rfl) ?_
            refine lv_iload_n hx hb dX11_shared_68 rfl (lv_at hl 2 rfl) ?_
            refine vp_callSi (runV_rxa (As := [.int v0]) (rest := []) S (q_XbestShares l D cI cB cZ zz qq vv bt g ad cn10 In Fn10 v0 hIn10) kV_RX11_324 hK hXS hS hP 0 xo_0 rfl rfl ⟨Nat.le_of_ble_eq_true rfl, Nat.le_of_ble_eq_true rfl⟩ ⟨Nat.le_of_ble_eq_true rfl, Nat.le_of_ble_eq_true rfl⟩ rfl hl.1 rfl (Nat.le_of_ble_eq_true rfl) dX11_shared_69) (fun r_12 h_13 => ?_)
            refine lv_istore (lv' := [(5, .int r_12), (4, .int 1), (0, .ref (g 0)), (1, .int v0), (2, .int v1), (3, .int v2)]) hx hb dX11_shared_72 hl (by decide) rfl (fun ls hl => ?_)
            refine lv_iload hx hb dX11_shared_74 (lv_at hl 0 rfl) ?_
            refine lv_iconst (v := (-1)) hx hb dX11_shared_76 (by decide) ?_
            refine lv_icmp_ne (tgt := 83) hx hb dX11_shared_77 (by decide) (fun c_14 => ?_) (fun c_14 => ?_)
            ·
              have tc_14 : (r_12.toInt : Int) ≠ (-1) := fun q => c_14 (Int32.toInt_inj.mp q)
              refine lv_iload_n hx hb dX11_shared_83 rfl (lv_at hl 5 rfl) ?_
              refine lv_iconst (v := (-1)) hx hb dX11_shared_84 (by decide) ?_
              refine lv_icmp_ne (tgt := 98) hx hb dX11_shared_85 (by decide) (fun c_15 => False.elim (by have tc_15 : (v2.toInt : Int) ≠ (-1) := fun q => c_15 (Int32.toInt_inj.mp q); omega)) (fun c_15 => ?_)
              have tc_15 : (v2.toInt : Int) = (-1) := congrArg Int32.toInt c_15
              refine lv_aload_n hx hb dX11_shared_88 rfl (lv_at hl 2 rfl) ?_
              refine lv_iload hx hb dX11_shared_89 (lv_at hl 0 rfl) ?_
              refine lv_iload_n hx hb dX11_shared_91 rfl (lv_at hl 3 rfl) ?_
              refine vp_callSi (runV_rxa (As := [.int r_12, .int v0]) (rest := []) S (q_XsharedLength l D cI cB cZ zz qq vv bt g ad cn10 In Fn10 r_12 v0 hIn10) kV_RX11_327 hK hXS hS hP 0 xo_0 rfl rfl ⟨Nat.le_of_ble_eq_true rfl, Nat.le_of_ble_eq_true rfl⟩ ⟨Nat.le_of_ble_eq_true rfl, Nat.le_of_ble_eq_true rfl⟩ rfl hl.1 rfl (Nat.le_of_ble_eq_true rfl) dX11_shared_92) (fun r_16 h_17 => ?_)
              refine lv_goto (tgt := 105) hx hb dX11_shared_95 (by decide) ?_
              exact W.iret (v := r_16) hx hb hr (fun t ht hW => ⟨⟨r_16, (cn10, In, Fn10), rfl, ⟨(Fr.mo hf10 (by decide) (by decide) (by decide)), hIn10, trivial⟩, by rw [ht]; exact hP, hD⟩, hS.F ht⟩) hS.2.2 dX11_shared_105
            ·
              have tc_14 : (r_12.toInt : Int) = (-1) := congrArg Int32.toInt c_14
              refine lv_bipush (v := (-2)) hx hb dX11_shared_80 (by decide) ?_
              exact W.iret (v := (-2)) hx hb hr (fun t ht hW => ⟨⟨(-2), (cn10, In, Fn10), rfl, ⟨(Fr.mo hf10 (by decide) (by decide) (by decide)), hIn10, trivial⟩, by rw [ht]; exact hP, hD⟩, hS.F ht⟩) hS.2.2 dX11_shared_82
          ·
            have tc_11 : (r_9.toInt : Int) = 0 := congrArg Int32.toInt c_11
            refine lv_bipush (v := (-2)) hx hb dX11_shared_64 (by decide) ?_
            exact W.iret (v := (-2)) hx hb hr (fun t ht hW => ⟨⟨(-2), (cn10, In, Fn10), rfl, ⟨(Fr.mo hf10 (by decide) (by decide) (by decide)), hIn10, trivial⟩, by rw [ht]; exact hP, hD⟩, hS.F ht⟩) hS.2.2 dX11_shared_66
      ·
        have h_5 : ¬ (1 ≤ v1.toInt ∧ v1.toInt ≤ 400) := h_5
        refine lv_if_eq (tgt := 43) hx hb dX11_shared_35 (by decide) (fun _ => ?_) (fun h => absurd h (by decide))
        refine lv_iconst (v := (-1)) hx hb dX11_shared_43 (by decide) ?_
        exact W.iret (v := (-1)) hx hb hr (fun t ht hW => ⟨⟨(-1), (cn, In, Fn), rfl, ⟨(Fr.mo Fr.rf (by decide) (by decide) (by decide)), hB, trivial⟩, by rw [ht]; exact hP, hD⟩, hS.F ht⟩) hS.2.2 dX11_shared_44
    ·
      have h_3 : ¬ (0 ≤ v0.toInt ∧ v0.toInt ≤ 399) := h_3
      refine lv_if_eq (tgt := 43) hx hb dX11_shared_24 (by decide) (fun _ => ?_) (fun h => absurd h (by decide))
      refine lv_iconst (v := (-1)) hx hb dX11_shared_43 (by decide) ?_
      exact W.iret (v := (-1)) hx hb hr (fun t ht hW => ⟨⟨(-1), (cn, In, Fn), rfl, ⟨(Fr.mo Fr.rf (by decide) (by decide) (by decide)), hB, trivial⟩, by rw [ht]; exact hP, hD⟩, hS.F ht⟩) hS.2.2 dX11_shared_44
  ·
    have tc_1 : (v2.toInt : Int) ≠ (-1) := fun q => c_1 (Int32.toInt_inj.mp q)
    refine lv_aload_n hx hb dX11_shared_5 rfl (lv_at hl 0 rfl) ?_
    refine lv_iload_n hx hb dX11_shared_6 rfl (lv_at hl 3 rfl) ?_
    refine va_csq (runV_rxa (As := [.int v2]) (rest := []) S (q_XkitchenAt l D cI cB cZ zz qq vv bt g ad cn In Fn v2 hB) kV_RX11_114 hK hXS hS hP 0 xo_0 rfl rfl ⟨Nat.le_of_ble_eq_true rfl, Nat.le_of_ble_eq_true rfl⟩ ⟨Nat.le_of_ble_eq_true rfl, Nat.le_of_ble_eq_true rfl⟩ rfl hl.1 rfl (Nat.le_of_ble_eq_true rfl) dX11_shared_7) (fun r_18 h_19 => ?_)
    rcases h_19 with ⟨mr_18, er_18, hr_18, rfl⟩ | ⟨hr_18, rfl⟩
    ·
      refine lv_ifnull hx hb dX11_shared_10 ?_
      refine lv_iconst (v := 1) hx hb dX11_shared_13 (by decide) ?_
      refine lv_goto (tgt := 18) hx hb dX11_shared_14 (by decide) ?_
      refine lv_istore (lv' := [(4, .int 1), (0, .ref (g 0)), (1, .int v0), (2, .int v1), (3, .int v2)]) hx hb dX11_shared_18 hl (by decide) rfl (fun ls hl => ?_)
      refine lv_iload_n hx hb dX11_shared_20 rfl (lv_at hl 2 rfl) ?_
      refine vp_callSi (runS_r (As := [.int v0]) (rest := []) S (q_l_isDay l D cI cB cZ v0) kS_RX11_99 hK hP [] rfl ⟨Nat.le_of_ble_eq_true rfl, Nat.le_of_ble_eq_true rfl⟩ ⟨Nat.le_of_ble_eq_true rfl, Nat.le_of_ble_eq_true rfl⟩ rfl hl.1 rfl (Nat.le_of_ble_eq_true rfl) dX11_shared_21) (fun r_20 h_21 => ?_)
      rcases h_21 with ⟨rfl, h_21⟩ | ⟨rfl, h_21⟩
      ·
        have h_21 : 0 ≤ v0.toInt ∧ v0.toInt ≤ 399 := h_21
        refine lv_if_eq (tgt := 43) hx hb dX11_shared_24 (by decide) (fun h => absurd h (by decide)) (fun _ => ?_)
        refine lv_iload_n hx hb dX11_shared_27 rfl (lv_at hl 3 rfl) ?_
        refine lv_iconst (v := 1) hx hb dX11_shared_28 (by decide) ?_
        refine lv_sipush (v := 400) hx hb dX11_shared_29 (by decide) ?_
        refine vp_callSi (runS_r (As := [.int v1, .int 1, .int 400]) (rest := []) S (q_l_within l D cI cB cZ v1 1 400) kS_RX11_80 hK hP [] rfl ⟨Nat.le_of_ble_eq_true rfl, Nat.le_of_ble_eq_true rfl⟩ ⟨Nat.le_of_ble_eq_true rfl, Nat.le_of_ble_eq_true rfl⟩ rfl hl.1 rfl (Nat.le_of_ble_eq_true rfl) dX11_shared_32) (fun r_22 h_23 => ?_)
        rcases h_23 with ⟨rfl, h_23⟩ | ⟨rfl, h_23⟩
        ·
          have h_23 : 1 ≤ v1.toInt ∧ v1.toInt ≤ 400 := h_23
          refine lv_if_eq (tgt := 43) hx hb dX11_shared_35 (by decide) (fun h => absurd h (by decide)) (fun _ => ?_)
          refine lv_iload hx hb dX11_shared_38 (lv_at hl 0 rfl) ?_
          refine lv_if_ne (tgt := 45) hx hb dX11_shared_40 (by decide) (fun _ => ?_) (fun h => absurd h (by decide))
          refine lv_aload_n hx hb dX11_shared_45 rfl (lv_at hl 1 rfl) ?_
          refine lv_iload_n hx hb dX11_shared_46 rfl (lv_at hl 2 rfl) ?_
          have hFc := free_all hD hS hA
          refine va_calli (runV_xa (As := [.int v0]) (rest := []) S (q_XstartTrial l D cI cB cZ zz qq vv bt g ad cn In Fn v0 s.heap.size hB) kV_RX11_276 hK hXS hS hFc hP hD 0 xo_0 rfl rfl ⟨Nat.le_of_ble_eq_true rfl, Nat.le_of_ble_eq_true rfl⟩ ⟨Nat.le_of_ble_eq_true rfl, Nat.le_of_ble_eq_true rfl⟩ rfl hl.1 rfl (Nat.le_of_ble_eq_true rfl) dX11_shared_47) hS (fun q _ h => hFc q h) hFc (fun r_24 u t H1 locs ht hvm wh_25 hB1 hz1 hk1 hS => ?_)
          obtain ⟨cn25, In25, Fn25⟩ := u
          obtain ⟨hP1, hD1⟩ := hB1
          rw [ht] at hP1
          have hP : va_P D vwCl (wX cI (D.1 99) zz g ad cn25 In25 Fn25) H1 := hP1
          have hD : va_D A (wX cI (D.1 99) zz g ad cn25 In25 Fn25) := hD1.weaken (fun _ _ _ h => hFc _ h)
          generalize H1 = H at hP hS ⊢
          have vh_25 : (fun r c2 I2 F2 => Fr [] [] [105] cn In Fn c2 I2 F2 ∧ CBX c2 ∧ (True)) r_24 cn25 In25 Fn25 := wh_25
          obtain ⟨hfc25, hIn25, h_25⟩ := vh_25
          obtain rfl : cn = cn25 := (funext (fun k => hfc25.1 k List.not_mem_nil)).symm
          obtain rfl : In = In25 := (funext (fun k => hfc25.2.1 k List.not_mem_nil)).symm
          have hf25 : Fr [4] [] [30, 31, 32, 33, 34, 35, 105] cn In Fn cn In Fn25 := Fr.mo (Fr.tr (Fr.rf (cn := cn) (In := In) (Fn := Fn)) hfc25) (by decide) (by decide) (by decide)
          refine lv_if_eq (tgt := 64) hx hb dX11_shared_50 (by decide) (fun c_26 => ?_) (fun c_26 => ?_)
          ·
            have tc_26 : (r_24.toInt : Int) = 0 := congrArg Int32.toInt c_26
            refine lv_bipush (v := (-2)) hx hb dX11_shared_64 (by decide) ?_
            exact W.iret (v := (-2)) hx hb hr (fun t ht hW => ⟨⟨(-2), (cn, In, Fn25), rfl, ⟨(Fr.mo hf25 (by decide) (by decide) (by decide)), hIn25, trivial⟩, by rw [ht]; exact hP, hD⟩, hS.F ht⟩) hS.2.2 dX11_shared_66
          ·
            have tc_26 : (r_24.toInt : Int) ≠ 0 := fun q => c_26 (Int32.toInt_inj.mp q)
            refine lv_aload_n hx hb dX11_shared_53 rfl (lv_at hl 1 rfl) ?_
            refine lv_iload_n hx hb dX11_shared_54 rfl (lv_at hl 2 rfl) ?_
            refine lv_iload_n hx hb dX11_shared_55 rfl (lv_at hl 3 rfl) ?_
            refine lv_bipush (v := 6) hx hb dX11_shared_56 (by decide) ?_
            have hFc := free_all hD hS hA
            refine va_calli (runV_xa (As := [.int v0, .int v1, .int 6]) (rest := []) S (q_XgatherStops l D cI cB cZ zz qq vv bt g ad cn In Fn25 v0 v1 6 H.size hIn25 (by decide)) kV_RX11_279 hK hXS hS hFc hP hD 0 xo_0 rfl rfl ⟨Nat.le_of_ble_eq_true rfl, Nat.le_of_ble_eq_true rfl⟩ ⟨Nat.le_of_ble_eq_true rfl, Nat.le_of_ble_eq_true rfl⟩ rfl hl.1 rfl (Nat.le_of_ble_eq_true rfl) dX11_shared_58) hS (fun q _ h => hFc q h) hFc (fun r_27 u t H1 locs ht hvm wh_28 hB1 hz1 hk1 hS => ?_)
            obtain ⟨cn28, In28, Fn28⟩ := u
            obtain ⟨hP1, hD1⟩ := hB1
            rw [ht] at hP1
            have hP : va_P D vwCl (wX cI (D.1 99) zz g ad cn28 In28 Fn28) H1 := hP1
            have hD : va_D A (wX cI (D.1 99) zz g ad cn28 In28 Fn28) := hD1.weaken (fun _ _ _ h => hFc _ h)
            generalize H1 = H at hP hS ⊢
            have vh_28 : (fun r c2 I2 F2 => Fr [4] [] [30, 31, 32, 33, 34, 35] cn In Fn25 c2 I2 F2 ∧ CBX c2 ∧ (True)) r_27 cn28 In28 Fn28 := wh_28
            obtain ⟨hfc28, hIn28, h_28⟩ := vh_28
            obtain rfl : In = In28 := (funext (fun k => hfc28.2.1 k List.not_mem_nil)).symm
            have hf28 : Fr [4] [] [30, 31, 32, 33, 34, 35, 105] cn In Fn cn28 In Fn28 := Fr.mo (Fr.tr hf25 hfc28) (by decide) (by decide) (by decide)
            have : cn28 0 = (cn 0) := hfc28.1 0 (by decide)
            have : cn28 1 = (cn 1) := hfc28.1 1 (by decide)
            have : cn28 2 = (cn 2) := hfc28.1 2 (by decide)
            have : cn28 3 = (cn 3) := hfc28.1 3 (by decide)
            have : cn28 5 = (cn 5) := hfc28.1 5 (by decide)
            have : cn28 10 = (cn 10) := hfc28.1 10 (by decide)
            have : cn28 11 = (cn 11) := hfc28.1 11 (by decide)
            have : cn28 12 = (cn 12) := hfc28.1 12 (by decide)
            have : cn28 13 = (cn 13) := hfc28.1 13 (by decide)
            have : cn28 14 = (cn 14) := hfc28.1 14 (by decide)
            have : cn28 15 = (cn 15) := hfc28.1 15 (by decide)
            have : cn28 20 = (cn 20) := hfc28.1 20 (by decide)
            have : cn28 21 = (cn 21) := hfc28.1 21 (by decide)
            have : cn28 22 = (cn 22) := hfc28.1 22 (by decide)
            have : cn28 23 = (cn 23) := hfc28.1 23 (by decide)
            have : cn28 24 = (cn 24) := hfc28.1 24 (by decide)
            have : cn28 25 = (cn 25) := hfc28.1 25 (by decide)
            have : cn28 6 = (cn 6) := hfc28.1 6 (by decide)
            have : cn28 31 = (cn 31) := hfc28.1 31 (by decide)
            have : cn28 32 = (cn 32) := hfc28.1 32 (by decide)
            refine lv_if_ne (tgt := 67) hx hb dX11_shared_61 (by decide) (fun c_29 => ?_) (fun c_29 => ?_)
            ·
              have tc_29 : (r_27.toInt : Int) ≠ 0 := fun q => c_29 (Int32.toInt_inj.mp q)
              refine lv_aload_n hx hb dX11_shared_67 rfl (lv_at hl 1 rfl) ?_
              refine lv_iload_n hx hb dX11_shared_68 rfl (lv_at hl 2 rfl) ?_
              refine vp_callSi (runV_rxa (As := [.int v0]) (rest := []) S (q_XbestShares l D cI cB cZ zz qq vv bt g ad cn28 In Fn28 v0 hIn28) kV_RX11_324 hK hXS hS hP 0 xo_0 rfl rfl ⟨Nat.le_of_ble_eq_true rfl, Nat.le_of_ble_eq_true rfl⟩ ⟨Nat.le_of_ble_eq_true rfl, Nat.le_of_ble_eq_true rfl⟩ rfl hl.1 rfl (Nat.le_of_ble_eq_true rfl) dX11_shared_69) (fun r_30 h_31 => ?_)
              refine lv_istore (lv' := [(5, .int r_30), (4, .int 1), (0, .ref (g 0)), (1, .int v0), (2, .int v1), (3, .int v2)]) hx hb dX11_shared_72 hl (by decide) rfl (fun ls hl => ?_)
              refine lv_iload hx hb dX11_shared_74 (lv_at hl 0 rfl) ?_
              refine lv_iconst (v := (-1)) hx hb dX11_shared_76 (by decide) ?_
              refine lv_icmp_ne (tgt := 83) hx hb dX11_shared_77 (by decide) (fun c_32 => ?_) (fun c_32 => ?_)
              ·
                have tc_32 : (r_30.toInt : Int) ≠ (-1) := fun q => c_32 (Int32.toInt_inj.mp q)
                refine lv_iload_n hx hb dX11_shared_83 rfl (lv_at hl 5 rfl) ?_
                refine lv_iconst (v := (-1)) hx hb dX11_shared_84 (by decide) ?_
                refine lv_icmp_ne (tgt := 98) hx hb dX11_shared_85 (by decide) (fun c_33 => ?_) (fun c_33 => ?_)
                ·
                  have tc_33 : (v2.toInt : Int) ≠ (-1) := fun q => c_33 (Int32.toInt_inj.mp q)
                  refine lv_aload_n hx hb dX11_shared_98 rfl (lv_at hl 2 rfl) ?_
                  refine lv_iload hx hb dX11_shared_99 (lv_at hl 0 rfl) ?_
                  refine lv_iload_n hx hb dX11_shared_101 rfl (lv_at hl 5 rfl) ?_
                  refine vp_callSi (runV_rxa (As := [.int r_30, .int v2]) (rest := []) S (q_XlorryOf l D cI cB cZ zz qq vv bt g ad cn28 In Fn28 r_30 v2 hIn28) kV_RX11_330 hK hXS hS hP 0 xo_0 rfl rfl ⟨Nat.le_of_ble_eq_true rfl, Nat.le_of_ble_eq_true rfl⟩ ⟨Nat.le_of_ble_eq_true rfl, Nat.le_of_ble_eq_true rfl⟩ rfl hl.1 rfl (Nat.le_of_ble_eq_true rfl) dX11_shared_102) (fun r_34 h_35 => ?_)
                  exact W.iret (v := r_34) hx hb hr (fun t ht hW => ⟨⟨r_34, (cn28, In, Fn28), rfl, ⟨(Fr.mo hf28 (by decide) (by decide) (by decide)), hIn28, trivial⟩, by rw [ht]; exact hP, hD⟩, hS.F ht⟩) hS.2.2 dX11_shared_105
                ·
                  have tc_33 : (v2.toInt : Int) = (-1) := congrArg Int32.toInt c_33
                  refine lv_aload_n hx hb dX11_shared_88 rfl (lv_at hl 2 rfl) ?_
                  refine lv_iload hx hb dX11_shared_89 (lv_at hl 0 rfl) ?_
                  refine lv_iload_n hx hb dX11_shared_91 rfl (lv_at hl 3 rfl) ?_
                  refine vp_callSi (runV_rxa (As := [.int r_30, .int v0]) (rest := []) S (q_XsharedLength l D cI cB cZ zz qq vv bt g ad cn28 In Fn28 r_30 v0 hIn28) kV_RX11_327 hK hXS hS hP 0 xo_0 rfl rfl ⟨Nat.le_of_ble_eq_true rfl, Nat.le_of_ble_eq_true rfl⟩ ⟨Nat.le_of_ble_eq_true rfl, Nat.le_of_ble_eq_true rfl⟩ rfl hl.1 rfl (Nat.le_of_ble_eq_true rfl) dX11_shared_92) (fun r_36 h_37 => ?_)
                  refine lv_goto (tgt := 105) hx hb dX11_shared_95 (by decide) ?_
                  exact W.iret (v := r_36) hx hb hr (fun t ht hW => ⟨⟨r_36, (cn28, In, Fn28), rfl, ⟨(Fr.mo hf28 (by decide) (by decide) (by decide)), hIn28, trivial⟩, by rw [ht]; exact hP, hD⟩, hS.F ht⟩) hS.2.2 dX11_shared_105
              ·
                have tc_32 : (r_30.toInt : Int) = (-1) := congrArg Int32.toInt c_32
                refine lv_bipush (v := (-2)) hx hb dX11_shared_80 (by decide) ?_
                exact W.iret (v := (-2)) hx hb hr (fun t ht hW => ⟨⟨(-2), (cn28, In, Fn28), rfl, ⟨(Fr.mo hf28 (by decide) (by decide) (by decide)), hIn28, trivial⟩, by rw [ht]; exact hP, hD⟩, hS.F ht⟩) hS.2.2 dX11_shared_82
            ·
              have tc_29 : (r_27.toInt : Int) = 0 := congrArg Int32.toInt c_29
              refine lv_bipush (v := (-2)) hx hb dX11_shared_64 (by decide) ?_
              exact W.iret (v := (-2)) hx hb hr (fun t ht hW => ⟨⟨(-2), (cn28, In, Fn28), rfl, ⟨(Fr.mo hf28 (by decide) (by decide) (by decide)), hIn28, trivial⟩, by rw [ht]; exact hP, hD⟩, hS.F ht⟩) hS.2.2 dX11_shared_66
        ·
          have h_23 : ¬ (1 ≤ v1.toInt ∧ v1.toInt ≤ 400) := h_23
          refine lv_if_eq (tgt := 43) hx hb dX11_shared_35 (by decide) (fun _ => ?_) (fun h => absurd h (by decide))
          refine lv_iconst (v := (-1)) hx hb dX11_shared_43 (by decide) ?_
          exact W.iret (v := (-1)) hx hb hr (fun t ht hW => ⟨⟨(-1), (cn, In, Fn), rfl, ⟨(Fr.mo Fr.rf (by decide) (by decide) (by decide)), hB, trivial⟩, by rw [ht]; exact hP, hD⟩, hS.F ht⟩) hS.2.2 dX11_shared_44
      ·
        have h_21 : ¬ (0 ≤ v0.toInt ∧ v0.toInt ≤ 399) := h_21
        refine lv_if_eq (tgt := 43) hx hb dX11_shared_24 (by decide) (fun _ => ?_) (fun h => absurd h (by decide))
        refine lv_iconst (v := (-1)) hx hb dX11_shared_43 (by decide) ?_
        exact W.iret (v := (-1)) hx hb hr (fun t ht hW => ⟨⟨(-1), (cn, In, Fn), rfl, ⟨(Fr.mo Fr.rf (by decide) (by decide) (by decide)), hB, trivial⟩, by rw [ht]; exact hP, hD⟩, hS.F ht⟩) hS.2.2 dX11_shared_44
    ·
      refine lv_ifnullN (tgt := 17) hx hb dX11_shared_10 (by decide) ?_
      refine lv_iconst (v := 0) hx hb dX11_shared_17 (by decide) ?_
      refine lv_istore (lv' := [(4, .int 0), (0, .ref (g 0)), (1, .int v0), (2, .int v1), (3, .int v2)]) hx hb dX11_shared_18 hl (by decide) rfl (fun ls hl => ?_)
      refine lv_iload_n hx hb dX11_shared_20 rfl (lv_at hl 2 rfl) ?_
      refine vp_callSi (runS_r (As := [.int v0]) (rest := []) S (q_l_isDay l D cI cB cZ v0) kS_RX11_99 hK hP [] rfl ⟨Nat.le_of_ble_eq_true rfl, Nat.le_of_ble_eq_true rfl⟩ ⟨Nat.le_of_ble_eq_true rfl, Nat.le_of_ble_eq_true rfl⟩ rfl hl.1 rfl (Nat.le_of_ble_eq_true rfl) dX11_shared_21) (fun r_38 h_39 => ?_)
      rcases h_39 with ⟨rfl, h_39⟩ | ⟨rfl, h_39⟩
      ·
        have h_39 : 0 ≤ v0.toInt ∧ v0.toInt ≤ 399 := h_39
        refine lv_if_eq (tgt := 43) hx hb dX11_shared_24 (by decide) (fun h => absurd h (by decide)) (fun _ => ?_)
        refine lv_iload_n hx hb dX11_shared_27 rfl (lv_at hl 3 rfl) ?_
        refine lv_iconst (v := 1) hx hb dX11_shared_28 (by decide) ?_
        refine lv_sipush (v := 400) hx hb dX11_shared_29 (by decide) ?_
        refine vp_callSi (runS_r (As := [.int v1, .int 1, .int 400]) (rest := []) S (q_l_within l D cI cB cZ v1 1 400) kS_RX11_80 hK hP [] rfl ⟨Nat.le_of_ble_eq_true rfl, Nat.le_of_ble_eq_true rfl⟩ ⟨Nat.le_of_ble_eq_true rfl, Nat.le_of_ble_eq_true rfl⟩ rfl hl.1 rfl (Nat.le_of_ble_eq_true rfl) dX11_shared_32) (fun r_40 h_41 => ?_)
        rcases h_41 with ⟨rfl, h_41⟩ | ⟨rfl, h_41⟩
        ·
          have h_41 : 1 ≤ v1.toInt ∧ v1.toInt ≤ 400 := h_41
          refine lv_if_eq (tgt := 43) hx hb dX11_shared_35 (by decide) (fun h => absurd h (by decide)) (fun _ => ?_)
          refine lv_iload hx hb dX11_shared_38 (lv_at hl 0 rfl) ?_
          refine lv_if_ne (tgt := 45) hx hb dX11_shared_40 (by decide) (fun h => absurd h (by decide)) (fun _ => ?_)
          refine lv_iconst (v := (-1)) hx hb dX11_shared_43 (by decide) ?_
          exact W.iret (v := (-1)) hx hb hr (fun t ht hW => ⟨⟨(-1), (cn, In, Fn), rfl, ⟨(Fr.mo Fr.rf (by decide) (by decide) (by decide)), hB, trivial⟩, by rw [ht]; exact hP, hD⟩, hS.F ht⟩) hS.2.2 dX11_shared_44
        ·
          have h_41 : ¬ (1 ≤ v1.toInt ∧ v1.toInt ≤ 400) := h_41
          refine lv_if_eq (tgt := 43) hx hb dX11_shared_35 (by decide) (fun _ => ?_) (fun h => absurd h (by decide))
          refine lv_iconst (v := (-1)) hx hb dX11_shared_43 (by decide) ?_
          exact W.iret (v := (-1)) hx hb hr (fun t ht hW => ⟨⟨(-1), (cn, In, Fn), rfl, ⟨(Fr.mo Fr.rf (by decide) (by decide) (by decide)), hB, trivial⟩, by rw [ht]; exact hP, hD⟩, hS.F ht⟩) hS.2.2 dX11_shared_44
      ·
        have h_39 : ¬ (0 ≤ v0.toInt ∧ v0.toInt ≤ 399) := h_39
        refine lv_if_eq (tgt := 43) hx hb dX11_shared_24 (by decide) (fun _ => ?_) (fun h => absurd h (by decide))
        refine lv_iconst (v := (-1)) hx hb dX11_shared_43 (by decide) ?_
        exact W.iret (v := (-1)) hx hb hr (fun t ht hW => ⟨⟨(-1), (cn, In, Fn), rfl, ⟨(Fr.mo Fr.rf (by decide) (by decide) (by decide)), hB, trivial⟩, by rw [ht]; exact hP, hD⟩, hS.F ht⟩) hS.2.2 dX11_shared_44

