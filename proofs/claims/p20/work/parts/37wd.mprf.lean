

set_option maxRecDepth 100000 in
set_option maxHeartbeats 4000000 in
theorem q_twice9 (l : Launch) (D : va_G) (cI cB cZ : ClassId) (g : Nat → Nat) (cn : Nat → Nat) (In : Nat → Int32) (Fn : Nat → Nat → Int32) (v0 : Int32) (hI : IM cn Fn) : Met l yX12_twice (CWS yX12_twice cX12_twice 4 (some .int)) (RM 1 0 0) (PBr [.ref (g 100), .int v0] D cI cB cZ (wM cI cB cZ g cn In Fn)) (vp_Si (fun r => ((0 ≤ v0.toInt ∧ v0.toInt < (cn 62 : Int)) ∧ TWF (fun p => Fn 67 p = v0 ∧ ∃ i : Nat, i < p ∧ Fn 67 i = v0 ∧ (Fn 68 p).toInt < (Fn 69 i).toInt ∧ (Fn 68 i).toInt < (Fn 69 p).toInt) (cn 63) r) ∨ (¬ (0 ≤ v0.toInt ∧ v0.toInt < (cn 62 : Int)) ∧ r = -1))) 0 0 (fun _ => False) := by
  refine en_r rfl pn_RX12 (Nat.le_of_ble_eq_true rfl) (fun p e s m below meth c hx hb hml hown S hr hlocks hnm hP hK hS ls hl => ?_)
  have hl : lv_has ls 4 [(0, .ref (g 100)), (1, .int v0)] := hl
  have hi_cn : Hid (CB cn) := hI.b
  refine lv_aload_n hx hb (oc_42 0 shX12_twice_0) rfl (lvA0 hl) ?_
  refine lv_iload_n hx hb (oc_27 1 (aq_1 shX12_twice_0)) rfl (lvA1 hl) ?_
  refine vp_callSi (runV_ra (As := [.int v0]) (rest := []) S (q_isBatch l D cI cB cZ g cn In Fn v0 hI) kV_RX12_450 hK hP 0 rfl rfl rfl ⟨Nat.le_of_ble_eq_true rfl, Nat.le_of_ble_eq_true rfl⟩ ⟨Nat.le_of_ble_eq_true rfl, Nat.le_of_ble_eq_true rfl⟩ rfl hl.1 rfl (Nat.le_of_ble_eq_true rfl) (oc_182 2 (aq_2 shX12_twice_0) uw_1_194)) (fun r_1 h_2 => ?_)
  rcases h_2 with ⟨rfl, h_2⟩ | ⟨rfl, h_2⟩
  ·
    have h_2 : 0 ≤ v0.toInt ∧ v0.toInt < ((cn 62) : Int) := h_2
    refine lv_if_ne (tgt := 10) hx hb dX12_twice_5 rfl (fun _ => ?_) (fun h => absurd h cq_eq_1_0)
    refine lv_iconst (v := 0) hx hb (oc_3 10 (aq_10 shX12_twice_0)) kic_0 ?_
    refine lv_istore_n (lv' := [(2, .int 0), (0, .ref (g 100)), (1, .int v0)]) hx hb (oc_61 11 (aq_11 shX12_twice_0)) rfl hl (ltb rfl) rfl (fun ls hl => ?_)
    have lp_12 : ∀ (n : Nat) (i12 : Nat) , cn 63 - i12 < n → (i12 ≤ cn 63 ∧ (∀ q : Nat, q < i12 → ¬ ((fun p => Fn 67 p = v0 ∧ ∃ i : Nat, i < p ∧ Fn 67 i = v0 ∧ (Fn 68 p).toInt < (Fn 69 i).toInt ∧ (Fn 68 i).toInt < (Fn 69 p).toInt)) q)) → ∀ ls : Array Slot, lv_has ls 4 [(2, .int (nI i12)), (0, .ref (g 100)), (1, .int v0)] → W p l e (RM 1 0 0) s m ([.ref (g 100), .int v0]).toArray below meth c s.heap [] 0 0 (MQ below (vp_Si (fun r => ((0 ≤ v0.toInt ∧ v0.toInt < (cn 62 : Int)) ∧ TWF (fun p => Fn 67 p = v0 ∧ ∃ i : Nat, i < p ∧ Fn 67 i = v0 ∧ (Fn 68 p).toInt < (Fn 69 i).toInt ∧ (Fn 68 i).toInt < (Fn 69 p).toInt) (cn 63) r) ∨ (¬ (0 ≤ v0.toInt ∧ v0.toInt < (cn 62 : Int)) ∧ r = -1))) ([.ref (g 100), .int v0]).toArray s 0 0 (fun _ => False)) (F0 m 12 ls []) := by
      intro n12
      induction n12 with
      | zero => intros; (first | omega | (have zz0 := Hid.u hi_cn; omega))
      | succ n12 ih12 =>
        intro i12 hmu12 hinv12 ls hl
        obtain ⟨hr12, hx12_0⟩ := hinv12
        have ti12 : (nI i12).toInt = (i12 : Int) := nI_toInt (by (first | omega | (have zz0 := Hid.u hi_cn; omega)))
        refine lv_iload_n hx hb (oc_28 12 (aq_12 shX12_twice_0)) rfl (lvA0 hl) ?_
        refine lv_aload_n hx hb (oc_42 13 (aq_13 shX12_twice_0)) rfl (lvA1 hl) ?_
        refine gM_447 S hK hP (v := .int (nI (cn 63))) rfl (oc_180 14 (aq_14 shX12_twice_0) uw_1_191) ?_
        have : (nI (cn 63)).toInt = (((cn 63) : Nat) : Int) := nI_toInt (by (first | omega | (have zz0 := Hid.u hi_cn; omega)))
        refine lv_icmp_ge (tgt := 91) hx hb (oc_162 17 (aq_17 shX12_twice_0) sgw_0_74) rfl (fun c_3 => ?_) (fun c_3 => ?_)
        ·
          have tc_3 : ((nI (cn 63)).toInt : Int) ≤ (nI i12).toInt := Int32.le_iff_toInt_le.mp c_3
          refine lv_iconst (v := (-1)) hx hb (oc_2 91 (aq_19 shX12_twice_72)) kic_m1 ?_
          exact W.iret (v := (-1)) hx hb hr (fun t ht hW => ⟨(-1), rfl, (Or.inl ⟨by (first | omega | (have zz0 := Hid.u hi_cn; omega)), Or.inr ⟨fun q hq => hx12_0 q (by (first | omega | (have zz0 := Hid.u hi_cn; omega))), rfl⟩⟩), ht⟩) (fun _ h => absurd h List.not_mem_nil) (oc_172 92 (aq_20 shX12_twice_72))
        ·
          have tc_3 : ((nI i12).toInt : Int) < (nI (cn 63)).toInt := Int32.lt_iff_toInt_lt.mp (Int32.not_le.mp c_3)
          refine lv_iconst (v := 0) hx hb (oc_3 20 (aq_20 shX12_twice_0)) kic_0 ?_
          refine lv_istore_n (lv' := [(3, .int 0), (2, .int (nI i12)), (0, .ref (g 100)), (1, .int v0)]) hx hb (oc_62 21 (aq_21 shX12_twice_0)) rfl hl (ltb rfl) rfl (fun ls hl => ?_)
          have lp_22 : ∀ (n : Nat) (i22 : Nat) , i12 - i22 < n → ((i22 ≤ i12 ∧ i12 < cn 63) ∧ (∀ j : Nat, j < i22 → ¬ (Fn 67 i12 = v0 ∧ Fn 67 j = v0 ∧ (Fn 68 i12).toInt < (Fn 69 j).toInt ∧ (Fn 68 j).toInt < (Fn 69 i12).toInt))) → ∀ ls : Array Slot, lv_has ls 4 [(3, .int (nI i22)), (2, .int (nI i12)), (0, .ref (g 100)), (1, .int v0)] → W p l e (RM 1 0 0) s m ([.ref (g 100), .int v0]).toArray below meth c s.heap [] 0 0 (MQ below (vp_Si (fun r => ((0 ≤ v0.toInt ∧ v0.toInt < (cn 62 : Int)) ∧ TWF (fun p => Fn 67 p = v0 ∧ ∃ i : Nat, i < p ∧ Fn 67 i = v0 ∧ (Fn 68 p).toInt < (Fn 69 i).toInt ∧ (Fn 68 i).toInt < (Fn 69 p).toInt) (cn 63) r) ∨ (¬ (0 ≤ v0.toInt ∧ v0.toInt < (cn 62 : Int)) ∧ r = -1))) ([.ref (g 100), .int v0]).toArray s 0 0 (fun _ => False)) (F0 m 22 ls []) := by
            intro n22
            induction n22 with
            | zero => intros; (first | omega | (have zz0 := Hid.u hi_cn; omega))
            | succ n22 ih22 =>
              intro i22 hmu22 hinv22 ls hl
              obtain ⟨hr22, hx22_0⟩ := hinv22
              have ti22 : (nI i22).toInt = (i22 : Int) := nI_toInt (by (first | omega | (have zz0 := Hid.u hi_cn; omega)))
              refine lv_iload_n hx hb (oc_29 22 (aq_22 shX12_twice_0)) rfl (lvA0 hl) ?_
              refine lv_iload_n hx hb (oc_28 23 (aq_23 shX12_twice_0)) rfl (lvA1 hl) ?_
              refine lv_icmp_ge (tgt := 85) hx hb (oc_162 24 shX12_twice_24 sgw_0_61) rfl (fun c_4 => ?_) (fun c_4 => ?_)
              ·
                have tc_4 : ((nI i12).toInt : Int) ≤ (nI i22).toInt := Int32.le_iff_toInt_le.mp c_4
                refine lv_iinc (v := (nI (i12 + 1))) (lv' := [(2, .int (nI (i12 + 1))), (3, .int (nI i22)), (0, .ref (g 100)), (1, .int v0)]) hx hb (oc_132 85 (aq_13 shX12_twice_72) ub_2 sgb_1) hl (k := 1) rfl (nI_1 _) (ltb rfl) rfl (fun ls hl => ?_)
                refine lv_goto (tgt := 12) hx hb (oc_167 88 (aq_16 shX12_twice_72) sgw_255_180) rfl ?_
                exact ih12 (i12 + 1) (by (first | omega | (have zz0 := Hid.u hi_cn; omega))) ⟨(by (first | omega | (have zz0 := Hid.u hi_cn; omega))), (fun q h9 => if q9 : q < i12 then hx12_0 q q9 else (by have e9 : q = i12 := (by (first | omega | (have zz0 := Hid.u hi_cn; omega))); rw [e9]; exact fun w9 => by obtain ⟨w1, j, w2, w3⟩ := w9; exact hx22_0 j (by (first | omega | (have zz0 := Hid.u hi_cn; omega))) ⟨w1, w3⟩))⟩ ls (lv_sub hl [0, 2, 3] rfl)
              ·
                have tc_4 : ((nI i22).toInt : Int) < (nI i12).toInt := Int32.lt_iff_toInt_lt.mp (Int32.not_le.mp c_4)
                refine lv_aload_n hx hb (oc_42 27 (aq_3 shX12_twice_24)) rfl (lvA2 hl) ?_
                refine gM_147 S hK hP (v := .ref (g 67)) rfl (oc_180 28 (aq_4 shX12_twice_24) uw_0_147) ?_
                refine lv_iload_n hx hb (oc_28 31 (aq_7 shX12_twice_24)) rfl (lvA1 hl) ?_
                have kb_1 : i12 < 40 := by (first | omega | (have zz0 := Hid.u hi_cn; omega))
                refine ldM_67 hx hb hK hP (x := ((Fn 67) i12)) (vp_in_nI kb_1 (ltb rfl)) (nI_clamp (Nat.lt_trans kb_1 (ltb rfl))) rfl (oc_46 32 (aq_8 shX12_twice_24)) ?_
                refine lv_iload_n hx hb (oc_27 33 (aq_9 shX12_twice_24)) rfl (lvA3 hl) ?_
                refine lv_icmp_ne (tgt := 79) hx hb (oc_160 34 (aq_10 shX12_twice_24) sgw_0_45) rfl (fun c_5 => ?_) (fun c_5 => ?_)
                ·
                  have tc_5 : (((Fn 67) i12).toInt : Int) ≠ v0.toInt := fun q => c_5 (Int32.toInt_inj.mp q)
                  refine lv_iinc (v := (nI (i22 + 1))) (lv' := [(3, .int (nI (i22 + 1))), (2, .int (nI i12)), (0, .ref (g 100)), (1, .int v0)]) hx hb dX12_twice_79 hl (k := 0) rfl (nI_1 _) (ltb rfl) rfl (fun ls hl => ?_)
                  refine lv_goto (tgt := 22) hx hb dX12_twice_82 rfl ?_
                  exact ih22 (i22 + 1) (by (first | omega | (have zz0 := Hid.u hi_cn; omega))) ⟨(by (first | omega | (have zz0 := Hid.u hi_cn; omega))), (fun j h9 => if q9 : j < i22 then hx22_0 j q9 else (by have e9 : j = i22 := (by (first | omega | (have zz0 := Hid.u hi_cn; omega))); rw [e9]; exact fun w9 => by first | exact absurd w9.1 (by first | assumption | exact fun q => absurd (congrArg Int32.toInt q) (by assumption)) | exact absurd w9.2.1 (by first | assumption | exact fun q => absurd (congrArg Int32.toInt q) (by assumption)) | (have w8 := w9.2.2; (first | omega | (have zz0 := Hid.u hi_cn; omega)))))⟩ ls (lv_sub hl [0, 1, 2, 3] rfl)
                ·
                  have tc_5 : (((Fn 67) i12).toInt : Int) = v0.toInt := congrArg Int32.toInt c_5
                  refine lv_aload_n hx hb (oc_42 37 (aq_13 shX12_twice_24)) rfl (lvA2 hl) ?_
                  refine gM_147 S hK hP (v := .ref (g 67)) rfl (oc_180 38 (aq_14 shX12_twice_24) uw_0_147) ?_
                  refine lv_iload_n hx hb (oc_29 41 (aq_17 shX12_twice_24)) rfl (lvA0 hl) ?_
                  have kb_2 : i22 < 40 := by (first | omega | (have zz0 := Hid.u hi_cn; omega))
                  refine ldM_67 hx hb hK hP (x := ((Fn 67) i22)) (vp_in_nI kb_2 (ltb rfl)) (nI_clamp (Nat.lt_trans kb_2 (ltb rfl))) rfl (oc_46 42 (aq_18 shX12_twice_24)) ?_
                  refine lv_iload_n hx hb (oc_27 43 (aq_19 shX12_twice_24)) rfl (lvA3 hl) ?_
                  refine lv_icmp_ne (tgt := 79) hx hb (oc_160 44 (aq_20 shX12_twice_24) sgw_0_35) rfl (fun c_6 => ?_) (fun c_6 => ?_)
                  ·
                    have tc_6 : (((Fn 67) i22).toInt : Int) ≠ v0.toInt := fun q => c_6 (Int32.toInt_inj.mp q)
                    refine lv_iinc (v := (nI (i22 + 1))) (lv' := [(3, .int (nI (i22 + 1))), (2, .int (nI i12)), (0, .ref (g 100)), (1, .int v0)]) hx hb dX12_twice_79 hl (k := 0) rfl (nI_1 _) (ltb rfl) rfl (fun ls hl => ?_)
                    refine lv_goto (tgt := 22) hx hb dX12_twice_82 rfl ?_
                    exact ih22 (i22 + 1) (by (first | omega | (have zz0 := Hid.u hi_cn; omega))) ⟨(by (first | omega | (have zz0 := Hid.u hi_cn; omega))), (fun j h9 => if q9 : j < i22 then hx22_0 j q9 else (by have e9 : j = i22 := (by (first | omega | (have zz0 := Hid.u hi_cn; omega))); rw [e9]; exact fun w9 => by first | exact absurd w9.1 (by first | assumption | exact fun q => absurd (congrArg Int32.toInt q) (by assumption)) | exact absurd w9.2.1 (by first | assumption | exact fun q => absurd (congrArg Int32.toInt q) (by assumption)) | (have w8 := w9.2.2; (first | omega | (have zz0 := Hid.u hi_cn; omega)))))⟩ ls (lv_sub hl [0, 1, 2, 3] rfl)
                  ·
                    have tc_6 : (((Fn 67) i22).toInt : Int) = v0.toInt := congrArg Int32.toInt c_6
                    refine lv_aload_n hx hb (oc_42 47 (aq_23 shX12_twice_24)) rfl (lvA2 hl) ?_
                    refine gM_150 S hK hP (v := .ref (g 68)) rfl (oc_180 48 shX12_twice_48 uw_0_150) ?_
                    refine lv_iload_n hx hb (oc_28 51 (aq_3 shX12_twice_48)) rfl (lvA1 hl) ?_
                    refine ldM_68 hx hb hK hP (x := ((Fn 68) i12)) (vp_in_nI kb_1 (ltb rfl)) (nI_clamp (Nat.lt_trans kb_1 (ltb rfl))) rfl (oc_46 52 (aq_4 shX12_twice_48)) ?_
                    refine lv_aload_n hx hb (oc_42 53 (aq_5 shX12_twice_48)) rfl (lvA2 hl) ?_
                    refine gM_153 S hK hP (v := .ref (g 69)) rfl (oc_180 54 (aq_6 shX12_twice_48) uw_0_153) ?_
                    refine lv_iload_n hx hb (oc_29 57 (aq_9 shX12_twice_48)) rfl (lvA0 hl) ?_
                    refine ldM_69 hx hb hK hP (x := ((Fn 69) i22)) (vp_in_nI kb_2 (ltb rfl)) (nI_clamp (Nat.lt_trans kb_2 (ltb rfl))) rfl (oc_46 58 (aq_10 shX12_twice_48)) ?_
                    refine lv_icmp_ge (tgt := 79) hx hb (oc_162 59 (aq_11 shX12_twice_48) sgw_0_20) rfl (fun c_7 => ?_) (fun c_7 => ?_)
                    ·
                      have tc_7 : (((Fn 69) i22).toInt : Int) ≤ ((Fn 68) i12).toInt := Int32.le_iff_toInt_le.mp c_7
                      refine lv_iinc (v := (nI (i22 + 1))) (lv' := [(3, .int (nI (i22 + 1))), (2, .int (nI i12)), (0, .ref (g 100)), (1, .int v0)]) hx hb dX12_twice_79 hl (k := 0) rfl (nI_1 _) (ltb rfl) rfl (fun ls hl => ?_)
                      refine lv_goto (tgt := 22) hx hb dX12_twice_82 rfl ?_
                      exact ih22 (i22 + 1) (by (first | omega | (have zz0 := Hid.u hi_cn; omega))) ⟨(by (first | omega | (have zz0 := Hid.u hi_cn; omega))), (fun j h9 => if q9 : j < i22 then hx22_0 j q9 else (by have e9 : j = i22 := (by (first | omega | (have zz0 := Hid.u hi_cn; omega))); rw [e9]; exact fun w9 => by first | exact absurd w9.1 (by first | assumption | exact fun q => absurd (congrArg Int32.toInt q) (by assumption)) | exact absurd w9.2.1 (by first | assumption | exact fun q => absurd (congrArg Int32.toInt q) (by assumption)) | (have w8 := w9.2.2; (first | omega | (have zz0 := Hid.u hi_cn; omega)))))⟩ ls (lv_sub hl [0, 1, 2, 3] rfl)
                    ·
                      have tc_7 : (((Fn 68) i12).toInt : Int) < ((Fn 69) i22).toInt := Int32.lt_iff_toInt_lt.mp (Int32.not_le.mp c_7)
                      refine lv_aload_n hx hb (oc_42 62 (aq_14 shX12_twice_48)) rfl (lvA2 hl) ?_
                      refine gM_150 S hK hP (v := .ref (g 68)) rfl (oc_180 63 (aq_15 shX12_twice_48) uw_0_150) ?_
                      refine lv_iload_n hx hb (oc_29 66 (aq_18 shX12_twice_48)) rfl (lvA0 hl) ?_
                      refine ldM_68 hx hb hK hP (x := ((Fn 68) i22)) (vp_in_nI kb_2 (ltb rfl)) (nI_clamp (Nat.lt_trans kb_2 (ltb rfl))) rfl (oc_46 67 (aq_19 shX12_twice_48)) ?_
                      refine lv_aload_n hx hb (oc_42 68 (aq_20 shX12_twice_48)) rfl (lvA2 hl) ?_
                      refine gM_153 S hK hP (v := .ref (g 69)) rfl (oc_180 69 (aq_21 shX12_twice_48) uw_0_153) ?_
                      refine lv_iload_n hx hb (oc_28 72 shX12_twice_72) rfl (lvA1 hl) ?_
                      refine ldM_69 hx hb hK hP (x := ((Fn 69) i12)) (vp_in_nI kb_1 (ltb rfl)) (nI_clamp (Nat.lt_trans kb_1 (ltb rfl))) rfl (oc_46 73 (aq_1 shX12_twice_72)) ?_
                      refine lv_icmp_ge (tgt := 79) hx hb (oc_162 74 (aq_2 shX12_twice_72) sgw_0_5) rfl (fun c_8 => ?_) (fun c_8 => ?_)
                      ·
                        have tc_8 : (((Fn 69) i12).toInt : Int) ≤ ((Fn 68) i22).toInt := Int32.le_iff_toInt_le.mp c_8
                        refine lv_iinc (v := (nI (i22 + 1))) (lv' := [(3, .int (nI (i22 + 1))), (2, .int (nI i12)), (0, .ref (g 100)), (1, .int v0)]) hx hb dX12_twice_79 hl (k := 0) rfl (nI_1 _) (ltb rfl) rfl (fun ls hl => ?_)
                        refine lv_goto (tgt := 22) hx hb dX12_twice_82 rfl ?_
                        exact ih22 (i22 + 1) (by (first | omega | (have zz0 := Hid.u hi_cn; omega))) ⟨(by (first | omega | (have zz0 := Hid.u hi_cn; omega))), (fun j h9 => if q9 : j < i22 then hx22_0 j q9 else (by have e9 : j = i22 := (by (first | omega | (have zz0 := Hid.u hi_cn; omega))); rw [e9]; exact fun w9 => by first | exact absurd w9.1 (by first | assumption | exact fun q => absurd (congrArg Int32.toInt q) (by assumption)) | exact absurd w9.2.1 (by first | assumption | exact fun q => absurd (congrArg Int32.toInt q) (by assumption)) | (have w8 := w9.2.2; (first | omega | (have zz0 := Hid.u hi_cn; omega)))))⟩ ls (lv_sub hl [0, 1, 2, 3] rfl)
                      ·
                        have tc_8 : (((Fn 68) i22).toInt : Int) < ((Fn 69) i12).toInt := Int32.lt_iff_toInt_lt.mp (Int32.not_le.mp c_8)
                        refine lv_iload_n hx hb (oc_28 77 (aq_5 shX12_twice_72)) rfl (lvA1 hl) ?_
                        exact W.iret (v := (nI i12)) hx hb hr (fun t ht hW => ⟨(nI i12), rfl, (Or.inl ⟨by (first | omega | (have zz0 := Hid.u hi_cn; omega)), Or.inl ⟨i12, by (first | omega | (have zz0 := Hid.u hi_cn; omega)), ⟨(by first | assumption | exact Int32.toInt_inj.mp (by assumption)), i22, by (first | omega | (have zz0 := Hid.u hi_cn; omega)), (by first | assumption | exact Int32.toInt_inj.mp (by assumption)), by (first | omega | (have zz0 := Hid.u hi_cn; omega)), by (first | omega | (have zz0 := Hid.u hi_cn; omega))⟩, hx12_0, rfl⟩⟩), ht⟩) (fun _ h => absurd h List.not_mem_nil) (oc_172 78 (aq_6 shX12_twice_72))
          exact lp_22 _ 0 (Nat.lt_succ_self _) ⟨(by (first | omega | (have zz0 := Hid.u hi_cn; omega))), (fun j h9 => absurd h9 (Nat.not_lt_zero j))⟩ ls (lv_sub hl [0, 1, 2, 3] rfl)
    exact lp_12 _ 0 (Nat.lt_succ_self _) ⟨(by (first | omega | (have zz0 := Hid.u hi_cn; omega))), (fun q h9 => absurd h9 (Nat.not_lt_zero q))⟩ ls (lv_sub hl [0, 1, 2] rfl)
  ·
    have h_2 : ¬ (0 ≤ v0.toInt ∧ v0.toInt < ((cn 62) : Int)) := h_2
    refine lv_if_ne (tgt := 10) hx hb dX12_twice_5 rfl (fun h => absurd h cq_eq_0_0) (fun _ => ?_)
    refine lv_iconst (v := (-1)) hx hb (oc_2 8 (aq_8 shX12_twice_0)) kic_m1 ?_
    exact W.iret (v := (-1)) hx hb hr (fun t ht hW => ⟨(-1), rfl, (Or.inr ⟨by (first | omega | (have zz0 := Hid.u hi_cn; omega)), rfl⟩), ht⟩) (fun _ h => absurd h List.not_mem_nil) (oc_172 9 (aq_9 shX12_twice_0))
