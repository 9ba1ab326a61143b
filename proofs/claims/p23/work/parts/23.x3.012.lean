set_option maxRecDepth 100000 in
set_option maxHeartbeats 4000000 in
theorem q_Xodds (l : Launch) (D : va_G) (cI cB cZ : ClassId) (a0 o0 b0 l0 : Nat) (v4 : Int32) (ha : a0 ≤ l0) (ho : o0 ≤ l0) (hl0 : l0 ≤ 60) (hb0 : b0 ≤ 60) : Met l yX11_odds (CWS yX11_odds cX11_odds 11 (some .long)) (RM 2 0 0) (PBr [.int (nI a0), .int (nI o0), .int (nI b0), .int (nI l0), .int v4] D cI cB cZ []) (vp_Sl (fun _ => True)) 0 0 (fun _ => False) := by
  refine Met.ofW (cc := cX11_odds) (maxL := 11) (ret := (some .long)) (by decide) rfl ?_
  intro p e s m args below meth c s₁ B hml hv
  obtain ⟨rfl, hP, hK⟩ := hv
  have hx := B.exec
  have hb := B.bytes
  have hr := B.returns
  have hts := atoms_spec (ws := (CWS yX11_odds cX11_odds 11 (some .long))) B.pre
  have hown : s.vm.findClass RX11 = some m.cls := findClass_of_methodNamed B.named
  have hlocks := B.notSynchronized
  have S : SF p m c cX11_odds 11 s ([.int (nI a0), .int (nI o0), .int (nI b0), .int (nI l0), .int v4]).toArray RX11 := ⟨hx, hb, hml, hown, fun w h => hts w (List.mem_cons_of_mem _ h)⟩
  have hl := lv_entry ([.int (nI a0), .int (nI o0), .int (nI b0), .int (nI l0), .int v4]) (n := 11) (Nat.le_of_ble_eq_true rfl)
  rw [lg_entry_eq]
  generalize (lg_sl ([.int (nI a0), .int (nI o0), .int (nI b0), .int (nI l0), .int v4]) ++ List.replicate (11 - (lg_sl ([.int (nI a0), .int (nI o0), .int (nI b0), .int (nI l0), .int v4])).length) Slot.unset).toArray = ls at hl ⊢
  have hl : lv_has ls 11 [(0, .int (nI a0)), (1, .int (nI o0)), (2, .int (nI b0)), (3, .int (nI l0)), (4, .int v4)] := hl
  refine lv_iload hx hb dX11_odds_0 (lv_at hl 4 rfl) ?_
  refine lv_iconst (v := 2) hx hb dX11_odds_2 (by decide) ?_
  refine lv_icmp_ne (tgt := 9) hx hb dX11_odds_3 (by decide) (fun c_1 => ?_) (fun c_1 => ?_)
  ·
    have tc_1 : (v4.toInt : Int) ≠ 2 := fun q => c_1 (Int32.toInt_inj.mp q)
    refine lv_lconst (v := 0) hx hb dX11_odds_9 (by decide) ?_
    refine lv_lstore (lv' := [(5, .long 0), (0, .int (nI a0)), (1, .int (nI o0)), (2, .int (nI b0)), (3, .int (nI l0)), (4, .int v4)]) hx hb dX11_odds_10 hl (by decide) rfl (fun ls hl => ?_)
    refine lv_iload_n hx hb dX11_odds_12 rfl (lv_at hl 3 rfl) ?_
    refine lv_istore (lv' := [(7, .int (nI b0)), (5, .long 0), (0, .int (nI a0)), (1, .int (nI o0)), (2, .int (nI b0)), (3, .int (nI l0)), (4, .int v4)]) hx hb dX11_odds_13 hl (by decide) rfl (fun ls hl => ?_)
    have lp_15 : ∀ (n : Nat) (i15 : Nat) (x15_5 : Int64) , 61 - i15 < n → ((b0 ≤ i15 ∧ i15 ≤ 61)) → ∀ ls : Array Slot, lv_has ls 11 [(7, .int (nI i15)), (5, .long x15_5), (0, .int (nI a0)), (1, .int (nI o0)), (2, .int (nI b0)), (3, .int (nI l0)), (4, .int v4)] → W p l e (RM 2 0 0) s m ([.int (nI a0), .int (nI o0), .int (nI b0), .int (nI l0), .int v4]).toArray below meth c s.heap [] 0 0 (MQ below (vp_Sl (fun _ => True)) ([.int (nI a0), .int (nI o0), .int (nI b0), .int (nI l0), .int v4]).toArray s 0 0 (fun _ => False)) (F0 m 15 ls []) := by
      intro n15
      induction n15 with
      | zero => intros; omega
      | succ n15 ih15 =>
        intro i15 x15_5 hmu15 hinv15 ls hl
        have hr15 := hinv15
        have ti15 : (nI i15).toInt = (i15 : Int) := nI_toInt (by omega)
        refine lv_iload hx hb dX11_odds_15 (lv_at hl 0 rfl) ?_
        refine lv_iload_n hx hb dX11_odds_17 rfl (lv_at hl 3 rfl) ?_
        have : (nI o0).toInt = ((o0 : Nat) : Int) := nI_toInt (by omega)
        refine lv_icmp_gt (tgt := 55) hx hb dX11_odds_18 (by decide) (fun c_2 => ?_) (fun c_2 => ?_)
        ·
          have tc_2 : ((nI o0).toInt : Int) < (nI i15).toInt := Int32.lt_iff_toInt_lt.mp c_2
          refine lv_iload_n hx hb dX11_odds_55 rfl (lv_at hl 5 rfl) ?_
          refine lv_iload_n hx hb dX11_odds_56 rfl (lv_at hl 3 rfl) ?_
          refine vp_callSl (runS_r (As := [.int (nI l0), .int (nI o0)]) (rest := []) S (q_Xchoose l D cI cB cZ l0 o0 (by omega) (by omega)) kS_RX11_246 hK hP [] rfl ⟨Nat.le_of_ble_eq_true rfl, Nat.le_of_ble_eq_true rfl⟩ ⟨Nat.le_of_ble_eq_true rfl, Nat.le_of_ble_eq_true rfl⟩ rfl hl.1 rfl (Nat.le_of_ble_eq_true rfl) dX11_odds_57) (fun r_3 h_4 => ?_)
          refine lv_lstore (lv' := [(7, .long r_3), (5, .long x15_5), (0, .int (nI a0)), (1, .int (nI o0)), (2, .int (nI b0)), (3, .int (nI l0)), (4, .int v4)]) hx hb dX11_odds_60 hl (by decide) rfl (fun ls hl => ?_)
          refine lv_lload hx hb dX11_odds_62 (lv_at hl 1 rfl) ?_
          refine lv_lload hx hb dX11_odds_64 (lv_at hl 0 rfl) ?_
          refine vp_callSl (runS_r (As := [.long x15_5, .long r_3]) (rest := []) S (q_Xdivisor l D cI cB cZ x15_5 r_3 ) kS_RX11_250 hK hP [] rfl ⟨Nat.le_of_ble_eq_true rfl, Nat.le_of_ble_eq_true rfl⟩ ⟨Nat.le_of_ble_eq_true rfl, Nat.le_of_ble_eq_true rfl⟩ rfl hl.1 rfl (Nat.le_of_ble_eq_true rfl) dX11_odds_66) (fun r_5 h_6 => ?_)
          refine lv_lstore (lv' := [(9, .long r_5), (7, .long r_3), (5, .long x15_5), (0, .int (nI a0)), (1, .int (nI o0)), (2, .int (nI b0)), (3, .int (nI l0)), (4, .int v4)]) hx hb dX11_odds_69 hl (by decide) rfl (fun ls hl => ?_)
          refine lv_lload hx hb dX11_odds_71 (lv_at hl 0 rfl) ?_
          refine lv_lconst (v := 0) hx hb dX11_odds_73 (by decide) ?_
          refine W.lcmp hx hb dX11_odds_74 ?_
          refine lv_topi (fun y_7 ey_7 => ?_)
          have zy_7 : y_7 = 0 ↔ r_5 = 0 := lcmp0 ey_7
          refine lv_if_ne (tgt := 82) hx hb dX11_odds_75 (by decide) (fun c_8 => ?_) (fun c_8 => ?_)
          ·
            have tc_8 : (y_7.toInt : Int) ≠ 0 := fun q => c_8 (Int32.toInt_inj.mp q)
            refine lv_iload hx hb dX11_odds_82 (lv_at hl 7 rfl) ?_
            refine lv_if_ne (tgt := 95) hx hb dX11_odds_84 (by decide) (fun c_9 => ?_) (fun c_9 => ?_)
            ·
              have tc_9 : (v4.toInt : Int) ≠ 0 := fun q => c_9 (Int32.toInt_inj.mp q)
              refine lv_lload hx hb dX11_odds_95 (lv_at hl 1 rfl) ?_
              refine lv_lload hx hb dX11_odds_97 (lv_at hl 0 rfl) ?_
              refine lv_ldiv hx hb dX11_odds_99 (fun q => absurd (Iff.mpr (by assumption) q) (by assumption)) ?_
              exact W.lret (v := (r_3 / r_5)) hx hb hr (fun t ht hW => ⟨(r_3 / r_5), rfl, trivial, ht⟩) (fun _ h => absurd h List.not_mem_nil) dX11_odds_100
            ·
              have tc_9 : (v4.toInt : Int) = 0 := congrArg Int32.toInt c_9
              refine lv_lload hx hb dX11_odds_87 (lv_at hl 2 rfl) ?_
              refine lv_lload hx hb dX11_odds_89 (lv_at hl 0 rfl) ?_
              refine lv_ldiv hx hb dX11_odds_91 (fun q => absurd (Iff.mpr (by assumption) q) (by assumption)) ?_
              refine lv_goto (tgt := 100) hx hb dX11_odds_92 (by decide) ?_
              exact W.lret (v := (x15_5 / r_5)) hx hb hr (fun t ht hW => ⟨(x15_5 / r_5), rfl, trivial, ht⟩) (fun _ h => absurd h List.not_mem_nil) dX11_odds_100
          ·
            have tc_8 : (y_7.toInt : Int) = 0 := congrArg Int32.toInt c_8
            refine lv_ldc2 (v := (-1)) hx hb hown (S.2.2.2.2 _ (wT_t4 61 rfl rfl)) dX11_odds_78 ?_
            exact W.lret (v := (-1)) hx hb hr (fun t ht hW => ⟨(-1), rfl, trivial, ht⟩) (fun _ h => absurd h List.not_mem_nil) dX11_odds_81
        ·
          have tc_2 : ((nI i15).toInt : Int) ≤ (nI o0).toInt := Int32.le_iff_toInt_le.mp (Int32.not_lt.mp c_2)
          refine lv_iload hx hb dX11_odds_21 (lv_at hl 0 rfl) ?_
          refine lv_iload_n hx hb dX11_odds_23 rfl (lv_at hl 2 rfl) ?_
          have : (nI a0).toInt = ((a0 : Nat) : Int) := nI_toInt (by omega)
          refine lv_icmp_gt (tgt := 55) hx hb dX11_odds_24 (by decide) (fun c_10 => ?_) (fun c_10 => ?_)
          ·
            have tc_10 : ((nI a0).toInt : Int) < (nI i15).toInt := Int32.lt_iff_toInt_lt.mp c_10
            refine lv_iload_n hx hb dX11_odds_55 rfl (lv_at hl 5 rfl) ?_
            refine lv_iload_n hx hb dX11_odds_56 rfl (lv_at hl 3 rfl) ?_
            refine vp_callSl (runS_r (As := [.int (nI l0), .int (nI o0)]) (rest := []) S (q_Xchoose l D cI cB cZ l0 o0 (by omega) (by omega)) kS_RX11_246 hK hP [] rfl ⟨Nat.le_of_ble_eq_true rfl, Nat.le_of_ble_eq_true rfl⟩ ⟨Nat.le_of_ble_eq_true rfl, Nat.le_of_ble_eq_true rfl⟩ rfl hl.1 rfl (Nat.le_of_ble_eq_true rfl) dX11_odds_57) (fun r_11 h_12 => ?_)
            refine lv_lstore (lv' := [(7, .long r_11), (5, .long x15_5), (0, .int (nI a0)), (1, .int (nI o0)), (2, .int (nI b0)), (3, .int (nI l0)), (4, .int v4)]) hx hb dX11_odds_60 hl (by decide) rfl (fun ls hl => ?_)
            refine lv_lload hx hb dX11_odds_62 (lv_at hl 1 rfl) ?_
            refine lv_lload hx hb dX11_odds_64 (lv_at hl 0 rfl) ?_
            refine vp_callSl (runS_r (As := [.long x15_5, .long r_11]) (rest := []) S (q_Xdivisor l D cI cB cZ x15_5 r_11 ) kS_RX11_250 hK hP [] rfl ⟨Nat.le_of_ble_eq_true rfl, Nat.le_of_ble_eq_true rfl⟩ ⟨Nat.le_of_ble_eq_true rfl, Nat.le_of_ble_eq_true rfl⟩ rfl hl.1 rfl (Nat.le_of_ble_eq_true rfl) dX11_odds_66) (fun r_13 h_14 => ?_)
            refine lv_lstore (lv' := [(9, .long r_13), (7, .long r_11), (5, .long x15_5), (0, .int (nI a0)), (1, .int (nI o0)), (2, .int (nI b0)), (3, .int (nI l0)), (4, .int v4)]) hx hb dX11_odds_69 hl (by decide) rfl (fun ls hl => ?_)
            refine lv_lload hx hb dX11_odds_71 (lv_at hl 0 rfl) ?_
            refine lv_lconst (v := 0) hx hb dX11_odds_73 (by decide) ?_
            refine W.lcmp hx hb dX11_odds_74 ?_
            refine lv_topi (fun y_15 ey_15 => ?_)
            have zy_15 : y_15 = 0 ↔ r_13 = 0 := lcmp0 ey_15
            refine lv_if_ne (tgt := 82) hx hb dX11_odds_75 (by decide) (fun c_16 => ?_) (fun c_16 => ?_)
            ·
              have tc_16 : (y_15.toInt : Int) ≠ 0 := fun q => c_16 (Int32.toInt_inj.mp q)
              refine lv_iload hx hb dX11_odds_82 (lv_at hl 7 rfl) ?_
              refine lv_if_ne (tgt := 95) hx hb dX11_odds_84 (by decide) (fun c_17 => ?_) (fun c_17 => ?_)
              ·
                have tc_17 : (v4.toInt : Int) ≠ 0 := fun q => c_17 (Int32.toInt_inj.mp q)
                refine lv_lload hx hb dX11_odds_95 (lv_at hl 1 rfl) ?_
                refine lv_lload hx hb dX11_odds_97 (lv_at hl 0 rfl) ?_
                refine lv_ldiv hx hb dX11_odds_99 (fun q => absurd (Iff.mpr (by assumption) q) (by assumption)) ?_
                exact W.lret (v := (r_11 / r_13)) hx hb hr (fun t ht hW => ⟨(r_11 / r_13), rfl, trivial, ht⟩) (fun _ h => absurd h List.not_mem_nil) dX11_odds_100
              ·
                have tc_17 : (v4.toInt : Int) = 0 := congrArg Int32.toInt c_17
                refine lv_lload hx hb dX11_odds_87 (lv_at hl 2 rfl) ?_
                refine lv_lload hx hb dX11_odds_89 (lv_at hl 0 rfl) ?_
                refine lv_ldiv hx hb dX11_odds_91 (fun q => absurd (Iff.mpr (by assumption) q) (by assumption)) ?_
                refine lv_goto (tgt := 100) hx hb dX11_odds_92 (by decide) ?_
                exact W.lret (v := (x15_5 / r_13)) hx hb hr (fun t ht hW => ⟨(x15_5 / r_13), rfl, trivial, ht⟩) (fun _ h => absurd h List.not_mem_nil) dX11_odds_100
            ·
              have tc_16 : (y_15.toInt : Int) = 0 := congrArg Int32.toInt c_16
              refine lv_ldc2 (v := (-1)) hx hb hown (S.2.2.2.2 _ (wT_t4 61 rfl rfl)) dX11_odds_78 ?_
              exact W.lret (v := (-1)) hx hb hr (fun t ht hW => ⟨(-1), rfl, trivial, ht⟩) (fun _ h => absurd h List.not_mem_nil) dX11_odds_81
          ·
            have tc_10 : ((nI i15).toInt : Int) ≤ (nI a0).toInt := Int32.le_iff_toInt_le.mp (Int32.not_lt.mp c_10)
            refine lv_lload hx hb dX11_odds_27 (lv_at hl 1 rfl) ?_
            refine lv_iload_n hx hb dX11_odds_29 rfl (lv_at hl 2 rfl) ?_
            refine lv_iload hx hb dX11_odds_30 (lv_at hl 0 rfl) ?_
            refine vp_callSl (runS_r (As := [.int (nI a0), .int (nI i15)]) (rest := [.long x15_5]) S (q_Xchoose l D cI cB cZ a0 i15 (by omega) (by omega)) kS_RX11_246 hK hP [] rfl ⟨Nat.le_of_ble_eq_true rfl, Nat.le_of_ble_eq_true rfl⟩ ⟨Nat.le_of_ble_eq_true rfl, Nat.le_of_ble_eq_true rfl⟩ rfl hl.1 rfl (Nat.le_of_ble_eq_true rfl) dX11_odds_32) (fun r_18 h_19 => ?_)
            refine lv_iload_n hx hb dX11_odds_35 rfl (lv_at hl 5 rfl) ?_
            refine lv_iload_n hx hb dX11_odds_36 rfl (lv_at hl 2 rfl) ?_
            refine lv_isub hx hb dX11_odds_37 ?_
            refine lv_topi (fun y_20 ey_20 => ?_)
            obtain rfl : y_20 = (nI (l0 - a0)) := ey_20.trans (nI_sub (by omega))
            refine lv_iload_n hx hb dX11_odds_38 rfl (lv_at hl 3 rfl) ?_
            refine lv_iload hx hb dX11_odds_39 (lv_at hl 0 rfl) ?_
            refine lv_isub hx hb dX11_odds_41 ?_
            refine lv_topi (fun y_21 ey_21 => ?_)
            obtain rfl : y_21 = (nI (o0 - i15)) := ey_21.trans (nI_sub (by omega))
            refine vp_callSl (runS_r (As := [.int (nI (l0 - a0)), .int (nI (o0 - i15))]) (rest := [.long r_18, .long x15_5]) S (q_Xchoose l D cI cB cZ (l0 - a0) (o0 - i15) (by omega) (by omega)) kS_RX11_246 hK hP [] rfl ⟨Nat.le_of_ble_eq_true rfl, Nat.le_of_ble_eq_true rfl⟩ ⟨Nat.le_of_ble_eq_true rfl, Nat.le_of_ble_eq_true rfl⟩ rfl hl.1 rfl (Nat.le_of_ble_eq_true rfl) dX11_odds_42) (fun r_22 h_23 => ?_)
            refine lv_lmul hx hb dX11_odds_45 ?_
            refine lv_ladd hx hb dX11_odds_46 ?_
            refine lv_lstore (lv' := [(5, .long (x15_5 + (r_18 * r_22))), (7, .int (nI i15)), (0, .int (nI a0)), (1, .int (nI o0)), (2, .int (nI b0)), (3, .int (nI l0)), (4, .int v4)]) hx hb dX11_odds_47 hl (by decide) rfl (fun ls hl => ?_)
            refine lv_iinc (v := (nI (i15 + 1))) (lv' := [(7, .int (nI (i15 + 1))), (5, .long (x15_5 + (r_18 * r_22))), (0, .int (nI a0)), (1, .int (nI o0)), (2, .int (nI b0)), (3, .int (nI l0)), (4, .int v4)]) hx hb dX11_odds_49 hl (k := 1) rfl (nI_1 _) (by decide) rfl (fun ls hl => ?_)
            refine lv_goto (tgt := 15) hx hb dX11_odds_52 (by decide) ?_
            exact ih15 (i15 + 1) (x15_5 + (r_18 * r_22)) (by omega) (by omega) ls (lv_sub hl [0, 1, 2, 3, 4, 5, 6] rfl)
    exact lp_15 _ b0 0 (Nat.lt_succ_self _) (by omega) ls (lv_sub hl [0, 1, 2, 3, 4, 5, 6] rfl)
  ·
    have tc_1 : (v4.toInt : Int) = 2 := congrArg Int32.toInt c_1
    refine lv_iload_n hx hb dX11_odds_6 rfl (lv_at hl 2 rfl) ?_
    refine lv_i2l (v := (lN b0)) hx hb dX11_odds_7 (nI_l (by omega)) ?_
    exact W.lret (v := (lN b0)) hx hb hr (fun t ht hW => ⟨(lN b0), rfl, trivial, ht⟩) (fun _ h => absurd h List.not_mem_nil) dX11_odds_8
