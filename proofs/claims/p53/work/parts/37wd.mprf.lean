

set_option maxRecDepth 100000 in
set_option maxHeartbeats 4000000 in
theorem q_overdrawn9 (l : Launch) (D : va_G) (cI cB cZ : ClassId) (g : Nat → Nat) (cn : Nat → Nat) (In : Nat → Int32) (Fn : Nat → Nat → Int32) (v0 : Int32) (hI : IM cn Fn) : Met l yX12_overdrawn (CWS yX12_overdrawn cX12_overdrawn 6 (some .int)) (RM 1 0 0) (PBr [.ref (g 100), .int v0] D cI cB cZ (wM cI cB cZ g cn In Fn)) (vp_Si (fun r => ((0 ≤ v0.toInt ∧ v0.toInt ≤ 57) ∧ BSB (fun k => (Fn 78 k).toInt < (sg (fun p => if Fn 70 p = (nI k) ∧ Fn 66 p / 7 = v0 then Fn 69 p - Fn 68 p else 0) (cn 63)).toInt) 10 r) ∨ (¬ (0 ≤ v0.toInt ∧ v0.toInt ≤ 57) ∧ r = -1))) 0 0 (fun _ => False) := by
  refine en_r rfl pn_RX12 (Nat.le_of_ble_eq_true rfl) (fun p e s m below meth c hx hb hml hown S hr hlocks hnm hP hK hS ls hl => ?_)
  have hl : lv_has ls 6 [(0, .ref (g 100)), (1, .int v0)] := hl
  have hi_cn : Hid (CB cn) := hI.b
  refine lv_iload_n hx hb (oc_27 0 shX12_overdrawn_0) rfl (lvA1 hl) ?_
  refine lv_iconst (v := 0) hx hb (oc_3 1 (aq_1 shX12_overdrawn_0)) kic_0 ?_
  refine lv_bipush (v := 57) hx hb (oc_16 2 (aq_2 shX12_overdrawn_0) sgb_57) kbc_57 ?_
  refine vp_callSi (runS_r (As := [.int v0, .int 0, .int 57]) (rest := []) S (q_in l D cI cB cZ v0 0 57 ) kS_RX12_214 hK hP [] rfl ⟨Nat.le_of_ble_eq_true rfl, Nat.le_of_ble_eq_true rfl⟩ ⟨Nat.le_of_ble_eq_true rfl, Nat.le_of_ble_eq_true rfl⟩ rfl hl.1 rfl (Nat.le_of_ble_eq_true rfl) (oc_184 4 (aq_4 shX12_overdrawn_0) uw_0_214)) (fun r_1 h_2 => ?_)
  rcases h_2 with ⟨rfl, h_2⟩ | ⟨rfl, h_2⟩
  ·
    have h_2 : 0 ≤ v0.toInt ∧ v0.toInt ≤ 57 := h_2
    refine lv_if_ne (tgt := 12) hx hb dX12_overdrawn_7 rfl (fun _ => ?_) (fun h => absurd h cq_eq_1_0)
    refine lv_iconst (v := 0) hx hb (oc_3 12 (aq_12 shX12_overdrawn_0)) kic_0 ?_
    refine lv_istore_n (lv' := [(2, .int 0), (0, .ref (g 100)), (1, .int v0)]) hx hb (oc_61 13 (aq_13 shX12_overdrawn_0)) rfl hl (ltb rfl) rfl (fun ls hl => ?_)
    refine lv_iconst (v := 0) hx hb (oc_3 14 (aq_14 shX12_overdrawn_0)) kic_0 ?_
    refine lv_istore_n (lv' := [(3, .int 0), (2, .int 0), (0, .ref (g 100)), (1, .int v0)]) hx hb (oc_62 15 (aq_15 shX12_overdrawn_0)) rfl hl (ltb rfl) rfl (fun ls hl => ?_)
    have lp_16 : ∀ (n : Nat) (i16 : Nat) (x16_2 : Int32) , 10 - i16 < n → (i16 ≤ 10 ∧ (BSB (fun k => (Fn 78 k).toInt < (sg (fun p => if Fn 70 p = (nI k) ∧ Fn 66 p / 7 = v0 then Fn 69 p - Fn 68 p else 0) (cn 63)).toInt) i16 x16_2)) → ∀ ls : Array Slot, lv_has ls 6 [(3, .int (nI i16)), (2, .int x16_2), (0, .ref (g 100)), (1, .int v0)] → W p l e (RM 1 0 0) s m ([.ref (g 100), .int v0]).toArray below meth c s.heap [] 0 0 (MQ below (vp_Si (fun r => ((0 ≤ v0.toInt ∧ v0.toInt ≤ 57) ∧ BSB (fun k => (Fn 78 k).toInt < (sg (fun p => if Fn 70 p = (nI k) ∧ Fn 66 p / 7 = v0 then Fn 69 p - Fn 68 p else 0) (cn 63)).toInt) 10 r) ∨ (¬ (0 ≤ v0.toInt ∧ v0.toInt ≤ 57) ∧ r = -1))) ([.ref (g 100), .int v0]).toArray s 0 0 (fun _ => False)) (F0 m 16 ls []) := by
      intro n16
      induction n16 with
      | zero => intros; (first | omega | (have zz0 := Hid.u hi_cn; omega))
      | succ n16 ih16 =>
        intro i16 x16_2 hmu16 hinv16 ls hl
        obtain ⟨hr16, hx16_0⟩ := hinv16
        have ti16 : (nI i16).toInt = (i16 : Int) := nI_toInt (by (first | omega | (have zz0 := Hid.u hi_cn; omega)))
        refine lv_iload_n hx hb (oc_29 16 (aq_16 shX12_overdrawn_0)) rfl (lvA0 hl) ?_
        refine lv_bipush (v := 10) hx hb (oc_16 17 (aq_17 shX12_overdrawn_0) sgb_10) kbc_10 ?_
        refine lv_icmp_ge (tgt := 119) hx hb (oc_162 19 (aq_19 shX12_overdrawn_0) sgw_0_100) rfl (fun c_3 => ?_) (fun c_3 => ?_)
        ·
          have tc_3 : (10 : Int) ≤ (nI i16).toInt := Int32.le_iff_toInt_le.mp c_3
          refine lv_iload_n hx hb (oc_28 119 (aq_20 shX12_overdrawn_99)) rfl (lvA1 hl) ?_
          exact W.iret (v := x16_2) hx hb hr (fun t ht hW => ⟨x16_2, rfl, (Or.inl ⟨by (first | omega | (have zz0 := Hid.u hi_cn; omega)), by have e9 : i16 = 10 := (by (first | omega | (have zz0 := Hid.u hi_cn; omega))); rw [← e9]; exact hx16_0⟩), ht⟩) (fun _ h => absurd h List.not_mem_nil) (oc_172 120 (aq_21 shX12_overdrawn_99))
        ·
          have tc_3 : ((nI i16).toInt : Int) < 10 := Int32.lt_iff_toInt_lt.mp (Int32.not_le.mp c_3)
          refine lv_iconst (v := 0) hx hb (oc_3 22 (aq_22 shX12_overdrawn_0)) kic_0 ?_
          refine lv_istore (lv' := [(4, .int 0), (3, .int (nI i16)), (2, .int x16_2), (0, .ref (g 100)), (1, .int v0)]) hx hb (oc_54 23 (aq_23 shX12_overdrawn_0) ub_4) hl (ltb rfl) rfl (fun ls hl => ?_)
          refine lv_iconst (v := 0) hx hb (oc_3 25 shX12_overdrawn_25) kic_0 ?_
          refine lv_istore (lv' := [(5, .int 0), (4, .int 0), (3, .int (nI i16)), (2, .int x16_2), (0, .ref (g 100)), (1, .int v0)]) hx hb (oc_54 26 (aq_1 shX12_overdrawn_25) ub_5) hl (ltb rfl) rfl (fun ls hl => ?_)
          have lp_28 : ∀ (n : Nat) (i28 : Nat) (x28_4 : Int32) , cn 63 - i28 < n → (i28 ≤ cn 63 ∧ (x28_4 = sg (fun p => if Fn 70 p = (nI i16) ∧ Fn 66 p / 7 = v0 then Fn 69 p - Fn 68 p else 0) i28)) → ∀ ls : Array Slot, lv_has ls 6 [(5, .int (nI i28)), (4, .int x28_4), (3, .int (nI i16)), (2, .int x16_2), (0, .ref (g 100)), (1, .int v0)] → W p l e (RM 1 0 0) s m ([.ref (g 100), .int v0]).toArray below meth c s.heap [] 0 0 (MQ below (vp_Si (fun r => ((0 ≤ v0.toInt ∧ v0.toInt ≤ 57) ∧ BSB (fun k => (Fn 78 k).toInt < (sg (fun p => if Fn 70 p = (nI k) ∧ Fn 66 p / 7 = v0 then Fn 69 p - Fn 68 p else 0) (cn 63)).toInt) 10 r) ∨ (¬ (0 ≤ v0.toInt ∧ v0.toInt ≤ 57) ∧ r = -1))) ([.ref (g 100), .int v0]).toArray s 0 0 (fun _ => False)) (F0 m 28 ls []) := by
            intro n28
            induction n28 with
            | zero => intros; (first | omega | (have zz0 := Hid.u hi_cn; omega))
            | succ n28 ih28 =>
              intro i28 x28_4 hmu28 hinv28 ls hl
              obtain ⟨hr28, hx28_0⟩ := hinv28
              have ti28 : (nI i28).toInt = (i28 : Int) := nI_toInt (by (first | omega | (have zz0 := Hid.u hi_cn; omega)))
              refine lv_iload hx hb (oc_21 28 (aq_3 shX12_overdrawn_25) ub_5) (lvA0 hl) ?_
              refine lv_aload_n hx hb (oc_42 30 (aq_5 shX12_overdrawn_25)) rfl (lvA4 hl) ?_
              refine gM_447 S hK hP (v := .int (nI (cn 63))) rfl (oc_180 31 (aq_6 shX12_overdrawn_25) uw_1_191) ?_
              have : (nI (cn 63)).toInt = (((cn 63) : Nat) : Int) := nI_toInt (by (first | omega | (have zz0 := Hid.u hi_cn; omega)))
              refine lv_icmp_ge (tgt := 92) hx hb (oc_162 34 (aq_9 shX12_overdrawn_25) sgw_0_58) rfl (fun c_4 => ?_) (fun c_4 => ?_)
              ·
                have tc_4 : ((nI (cn 63)).toInt : Int) ≤ (nI i28).toInt := Int32.le_iff_toInt_le.mp c_4
                refine lv_iload hx hb (oc_21 92 (aq_17 shX12_overdrawn_75) ub_4) (lvA1 hl) ?_
                refine lv_aload_n hx hb (oc_42 94 (aq_19 shX12_overdrawn_75)) rfl (lvA4 hl) ?_
                refine gM_168 S hK hP (v := .ref (g 78)) rfl (oc_180 95 (aq_20 shX12_overdrawn_75) uw_0_168) ?_
                refine lv_iload_n hx hb (oc_29 98 (aq_23 shX12_overdrawn_75)) rfl (lvA2 hl) ?_
                have kb_1 : i16 < 10 := by (first | omega | (have zz0 := Hid.u hi_cn; omega))
                refine ldM_78 hx hb hK hP (x := ((Fn 78) i16)) (vp_in_nI kb_1 (ltb rfl)) (nI_clamp (Nat.lt_trans kb_1 (ltb rfl))) rfl (oc_46 99 shX12_overdrawn_99) ?_
                refine lv_icmp_le (tgt := 111) hx hb (oc_164 100 (aq_1 shX12_overdrawn_99) sgw_0_11) rfl (fun c_5 => ?_) (fun c_5 => ?_)
                ·
                  have tc_5 : (x28_4.toInt : Int) ≤ ((Fn 78) i16).toInt := Int32.le_iff_toInt_le.mp c_5
                  refine lv_iload_n hx hb (oc_28 111 (aq_12 shX12_overdrawn_99)) rfl (lvA3 hl) ?_
                  refine lv_istore_n (lv' := [(2, .int x16_2), (5, .int (nI i28)), (4, .int x28_4), (3, .int (nI i16)), (0, .ref (g 100)), (1, .int v0)]) hx hb dX12_overdrawn_112 rfl hl (ltb rfl) rfl (fun ls hl => ?_)
                  refine lv_iinc (v := (nI (i16 + 1))) (lv' := [(3, .int (nI (i16 + 1))), (2, .int x16_2), (5, .int (nI i28)), (4, .int x28_4), (0, .ref (g 100)), (1, .int v0)]) hx hb dX12_overdrawn_113 hl (k := 3) rfl (nI_1 _) (ltb rfl) rfl (fun ls hl => ?_)
                  refine lv_goto (tgt := 16) hx hb dX12_overdrawn_116 rfl ?_
                  exact ih16 (i16 + 1) x16_2 (by (first | omega | (have zz0 := Hid.u hi_cn; omega))) ⟨(by (first | omega | (have zz0 := Hid.u hi_cn; omega))), (by have e9 : i28 = cn 63 := (by (first | omega | (have zz0 := Hid.u hi_cn; omega))); rw [e9] at hx28_0; refine ⟨x16_2, hx16_0, ?_⟩; first | exact Or.inl ⟨(show (Fn 78 i16).toInt < Int32.toInt _ by rw [← hx28_0]; assumption), rfl⟩ | exact Or.inr ⟨(fun w => absurd (show (Fn 78 i16).toInt < x28_4.toInt by rw [hx28_0]; exact w) (Int.not_lt.mpr (by assumption))), rfl⟩)⟩ ls (lv_sub hl [0, 1, 4, 5] rfl)
                ·
                  have tc_5 : (((Fn 78) i16).toInt : Int) < x28_4.toInt := Int32.lt_iff_toInt_lt.mp (Int32.not_le.mp c_5)
                  refine lv_iload_n hx hb (oc_28 103 (aq_4 shX12_overdrawn_99)) rfl (lvA3 hl) ?_
                  refine lv_iconst (v := 1) hx hb (oc_4 104 (aq_5 shX12_overdrawn_99)) kic_1 ?_
                  refine lv_iload_n hx hb (oc_29 105 (aq_6 shX12_overdrawn_99)) rfl (lvA2 hl) ?_
                  refine lv_ishl hx hb (oc_120 106 (aq_7 shX12_overdrawn_99)) ?_
                  refine lv_ior hx hb (oc_128 107 (aq_8 shX12_overdrawn_99)) ?_
                  refine lv_goto (tgt := 112) hx hb (oc_167 108 (aq_9 shX12_overdrawn_99) sgw_0_4) rfl ?_
                  refine lv_istore_n (lv' := [(2, .int (x16_2 ||| (1 <<< ((nI i16) &&& 31)))), (5, .int (nI i28)), (4, .int x28_4), (3, .int (nI i16)), (0, .ref (g 100)), (1, .int v0)]) hx hb dX12_overdrawn_112 rfl hl (ltb rfl) rfl (fun ls hl => ?_)
                  refine lv_iinc (v := (nI (i16 + 1))) (lv' := [(3, .int (nI (i16 + 1))), (2, .int (x16_2 ||| (1 <<< ((nI i16) &&& 31)))), (5, .int (nI i28)), (4, .int x28_4), (0, .ref (g 100)), (1, .int v0)]) hx hb dX12_overdrawn_113 hl (k := 3) rfl (nI_1 _) (ltb rfl) rfl (fun ls hl => ?_)
                  refine lv_goto (tgt := 16) hx hb dX12_overdrawn_116 rfl ?_
                  exact ih16 (i16 + 1) (x16_2 ||| (1 <<< ((nI i16) &&& 31))) (by (first | omega | (have zz0 := Hid.u hi_cn; omega))) ⟨(by (first | omega | (have zz0 := Hid.u hi_cn; omega))), (by have e9 : i28 = cn 63 := (by (first | omega | (have zz0 := Hid.u hi_cn; omega))); rw [e9] at hx28_0; refine ⟨x16_2, hx16_0, ?_⟩; first | exact Or.inl ⟨(show (Fn 78 i16).toInt < Int32.toInt _ by rw [← hx28_0]; assumption), rfl⟩ | exact Or.inr ⟨(fun w => absurd (show (Fn 78 i16).toInt < x28_4.toInt by rw [hx28_0]; exact w) (Int.not_lt.mpr (by assumption))), rfl⟩)⟩ ls (lv_sub hl [0, 1, 4, 5] rfl)
              ·
                have tc_4 : ((nI i28).toInt : Int) < (nI (cn 63)).toInt := Int32.lt_iff_toInt_lt.mp (Int32.not_le.mp c_4)
                refine lv_iload hx hb (oc_21 37 (aq_12 shX12_overdrawn_25) ub_4) (lvA1 hl) ?_
                refine lv_aload_n hx hb (oc_42 39 (aq_14 shX12_overdrawn_25)) rfl (lvA4 hl) ?_
                refine gM_156 S hK hP (v := .ref (g 70)) rfl (oc_180 40 (aq_15 shX12_overdrawn_25) uw_0_156) ?_
                refine lv_iload hx hb (oc_21 43 (aq_18 shX12_overdrawn_25) ub_5) (lvA0 hl) ?_
                have kb_2 : i28 < 40 := by (first | omega | (have zz0 := Hid.u hi_cn; omega))
                refine ldM_70 hx hb hK hP (x := ((Fn 70) i28)) (vp_in_nI kb_2 (ltb rfl)) (nI_clamp (Nat.lt_trans kb_2 (ltb rfl))) rfl (oc_46 45 (aq_20 shX12_overdrawn_25)) ?_
                refine lv_iload_n hx hb (oc_29 46 (aq_21 shX12_overdrawn_25)) rfl (lvA2 hl) ?_
                refine lv_icmp_ne (tgt := 82) hx hb (oc_160 47 (aq_22 shX12_overdrawn_25) sgw_0_35) rfl (fun c_6 => ?_) (fun c_6 => ?_)
                ·
                  have tc_6 : (((Fn 70) i28).toInt : Int) ≠ (nI i16).toInt := fun q => c_6 (Int32.toInt_inj.mp q)
                  refine lv_iconst (v := 0) hx hb dX12_overdrawn_82 kic_0 ?_
                  refine lv_iadd hx hb dX12_overdrawn_83 ?_
                  refine lv_istore (lv' := [(4, .int (x28_4 + 0)), (5, .int (nI i28)), (3, .int (nI i16)), (2, .int x16_2), (0, .ref (g 100)), (1, .int v0)]) hx hb dX12_overdrawn_84 hl (ltb rfl) rfl (fun ls hl => ?_)
                  refine lv_iinc (v := (nI (i28 + 1))) (lv' := [(5, .int (nI (i28 + 1))), (4, .int (x28_4 + 0)), (3, .int (nI i16)), (2, .int x16_2), (0, .ref (g 100)), (1, .int v0)]) hx hb dX12_overdrawn_86 hl (k := 1) rfl (nI_1 _) (ltb rfl) rfl (fun ls hl => ?_)
                  refine lv_goto (tgt := 28) hx hb dX12_overdrawn_89 rfl ?_
                  exact ih28 (i28 + 1) (x28_4 + 0) (by (first | omega | (have zz0 := Hid.u hi_cn; omega))) ⟨(by (first | omega | (have zz0 := Hid.u hi_cn; omega))), (by refine sg_1 hx28_0 ?_; first | exact if_pos ⟨(by first | assumption | exact Int32.toInt_inj.mp (by assumption)), (by first | assumption | exact Int32.toInt_inj.mp (by assumption))⟩ | exact if_neg (fun q9 => absurd q9.1 (by first | assumption | exact fun q => absurd (congrArg Int32.toInt q) (by assumption))) | exact if_neg (fun q9 => absurd q9.2 (by first | assumption | exact fun q => absurd (congrArg Int32.toInt q) (by assumption))))⟩ ls (lv_sub hl [0, 1, 2, 3, 4, 5] rfl)
                ·
                  have tc_6 : (((Fn 70) i28).toInt : Int) = (nI i16).toInt := congrArg Int32.toInt c_6
                  refine lv_aload_n hx hb (oc_42 50 shX12_overdrawn_50) rfl (lvA4 hl) ?_
                  refine gM_144 S hK hP (v := .ref (g 66)) rfl (oc_180 51 (aq_1 shX12_overdrawn_50) uw_0_144) ?_
                  refine lv_iload hx hb (oc_21 54 (aq_4 shX12_overdrawn_50) ub_5) (lvA0 hl) ?_
                  refine ldM_66 hx hb hK hP (x := ((Fn 66) i28)) (vp_in_nI kb_2 (ltb rfl)) (nI_clamp (Nat.lt_trans kb_2 (ltb rfl))) rfl (oc_46 56 (aq_6 shX12_overdrawn_50)) ?_
                  refine lv_bipush (v := 7) hx hb (oc_16 57 (aq_7 shX12_overdrawn_50) sgb_7) kbc_7 ?_
                  refine lv_idiv hx hb (oc_108 59 (aq_9 shX12_overdrawn_50)) (by decide) ?_
                  refine lv_iload_n hx hb (oc_27 60 (aq_10 shX12_overdrawn_50)) rfl (lvA5 hl) ?_
                  refine lv_icmp_ne (tgt := 82) hx hb (oc_160 61 (aq_11 shX12_overdrawn_50) sgw_0_21) rfl (fun c_7 => ?_) (fun c_7 => ?_)
                  ·
                    have tc_7 : ((((Fn 66) i28) / 7).toInt : Int) ≠ v0.toInt := fun q => c_7 (Int32.toInt_inj.mp q)
                    refine lv_iconst (v := 0) hx hb dX12_overdrawn_82 kic_0 ?_
                    refine lv_iadd hx hb dX12_overdrawn_83 ?_
                    refine lv_istore (lv' := [(4, .int (x28_4 + 0)), (5, .int (nI i28)), (3, .int (nI i16)), (2, .int x16_2), (0, .ref (g 100)), (1, .int v0)]) hx hb dX12_overdrawn_84 hl (ltb rfl) rfl (fun ls hl => ?_)
                    refine lv_iinc (v := (nI (i28 + 1))) (lv' := [(5, .int (nI (i28 + 1))), (4, .int (x28_4 + 0)), (3, .int (nI i16)), (2, .int x16_2), (0, .ref (g 100)), (1, .int v0)]) hx hb dX12_overdrawn_86 hl (k := 1) rfl (nI_1 _) (ltb rfl) rfl (fun ls hl => ?_)
                    refine lv_goto (tgt := 28) hx hb dX12_overdrawn_89 rfl ?_
                    exact ih28 (i28 + 1) (x28_4 + 0) (by (first | omega | (have zz0 := Hid.u hi_cn; omega))) ⟨(by (first | omega | (have zz0 := Hid.u hi_cn; omega))), (by refine sg_1 hx28_0 ?_; first | exact if_pos ⟨(by first | assumption | exact Int32.toInt_inj.mp (by assumption)), (by first | assumption | exact Int32.toInt_inj.mp (by assumption))⟩ | exact if_neg (fun q9 => absurd q9.1 (by first | assumption | exact fun q => absurd (congrArg Int32.toInt q) (by assumption))) | exact if_neg (fun q9 => absurd q9.2 (by first | assumption | exact fun q => absurd (congrArg Int32.toInt q) (by assumption))))⟩ ls (lv_sub hl [0, 1, 2, 3, 4, 5] rfl)
                  ·
                    have tc_7 : ((((Fn 66) i28) / 7).toInt : Int) = v0.toInt := congrArg Int32.toInt c_7
                    refine lv_aload_n hx hb (oc_42 64 (aq_14 shX12_overdrawn_50)) rfl (lvA4 hl) ?_
                    refine gM_153 S hK hP (v := .ref (g 69)) rfl (oc_180 65 (aq_15 shX12_overdrawn_50) uw_0_153) ?_
                    refine lv_iload hx hb (oc_21 68 (aq_18 shX12_overdrawn_50) ub_5) (lvA0 hl) ?_
                    refine ldM_69 hx hb hK hP (x := ((Fn 69) i28)) (vp_in_nI kb_2 (ltb rfl)) (nI_clamp (Nat.lt_trans kb_2 (ltb rfl))) rfl (oc_46 70 (aq_20 shX12_overdrawn_50)) ?_
                    refine lv_aload_n hx hb (oc_42 71 (aq_21 shX12_overdrawn_50)) rfl (lvA4 hl) ?_
                    refine gM_150 S hK hP (v := .ref (g 68)) rfl (oc_180 72 (aq_22 shX12_overdrawn_50) uw_0_150) ?_
                    refine lv_iload hx hb (oc_21 75 shX12_overdrawn_75 ub_5) (lvA0 hl) ?_
                    refine ldM_68 hx hb hK hP (x := ((Fn 68) i28)) (vp_in_nI kb_2 (ltb rfl)) (nI_clamp (Nat.lt_trans kb_2 (ltb rfl))) rfl (oc_46 77 (aq_2 shX12_overdrawn_75)) ?_
                    refine lv_isub hx hb (oc_100 78 (aq_3 shX12_overdrawn_75)) ?_
                    refine lv_goto (tgt := 83) hx hb (oc_167 79 (aq_4 shX12_overdrawn_75) sgw_0_4) rfl ?_
                    refine lv_iadd hx hb dX12_overdrawn_83 ?_
                    refine lv_istore (lv' := [(4, .int (x28_4 + (((Fn 69) i28) - ((Fn 68) i28)))), (5, .int (nI i28)), (3, .int (nI i16)), (2, .int x16_2), (0, .ref (g 100)), (1, .int v0)]) hx hb dX12_overdrawn_84 hl (ltb rfl) rfl (fun ls hl => ?_)
                    refine lv_iinc (v := (nI (i28 + 1))) (lv' := [(5, .int (nI (i28 + 1))), (4, .int (x28_4 + (((Fn 69) i28) - ((Fn 68) i28)))), (3, .int (nI i16)), (2, .int x16_2), (0, .ref (g 100)), (1, .int v0)]) hx hb dX12_overdrawn_86 hl (k := 1) rfl (nI_1 _) (ltb rfl) rfl (fun ls hl => ?_)
                    refine lv_goto (tgt := 28) hx hb dX12_overdrawn_89 rfl ?_
                    exact ih28 (i28 + 1) (x28_4 + (((Fn 69) i28) - ((Fn 68) i28))) (by (first | omega | (have zz0 := Hid.u hi_cn; omega))) ⟨(by (first | omega | (have zz0 := Hid.u hi_cn; omega))), (by refine sg_1 hx28_0 ?_; first | exact if_pos ⟨(by first | assumption | exact Int32.toInt_inj.mp (by assumption)), (by first | assumption | exact Int32.toInt_inj.mp (by assumption))⟩ | exact if_neg (fun q9 => absurd q9.1 (by first | assumption | exact fun q => absurd (congrArg Int32.toInt q) (by assumption))) | exact if_neg (fun q9 => absurd q9.2 (by first | assumption | exact fun q => absurd (congrArg Int32.toInt q) (by assumption))))⟩ ls (lv_sub hl [0, 1, 2, 3, 4, 5] rfl)
          exact lp_28 _ 0 0 (Nat.lt_succ_self _) ⟨(by (first | omega | (have zz0 := Hid.u hi_cn; omega))), rfl⟩ ls (lv_sub hl [0, 1, 2, 3, 4, 5] rfl)
    exact lp_16 _ 0 0 (Nat.lt_succ_self _) ⟨(by (first | omega | (have zz0 := Hid.u hi_cn; omega))), rfl⟩ ls (lv_sub hl [0, 1, 2, 3] rfl)
  ·
    have h_2 : ¬ (0 ≤ v0.toInt ∧ v0.toInt ≤ 57) := h_2
    refine lv_if_ne (tgt := 12) hx hb dX12_overdrawn_7 rfl (fun h => absurd h cq_eq_0_0) (fun _ => ?_)
    refine lv_iconst (v := (-1)) hx hb (oc_2 10 (aq_10 shX12_overdrawn_0)) kic_m1 ?_
    exact W.iret (v := (-1)) hx hb hr (fun t ht hW => ⟨(-1), rfl, (Or.inr ⟨by (first | omega | (have zz0 := Hid.u hi_cn; omega)), rfl⟩), ht⟩) (fun _ h => absurd h List.not_mem_nil) (oc_172 11 (aq_11 shX12_overdrawn_0))
