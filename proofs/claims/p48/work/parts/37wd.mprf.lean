

set_option maxRecDepth 100000 in
set_option maxHeartbeats 4000000 in
theorem q_loadAt9 (l : Launch) (D : va_G) (cI cB cZ : ClassId) (g : Nat → Nat) (cn : Nat → Nat) (In : Nat → Int32) (Fn : Nat → Nat → Int32) (b0 l0 : Nat) (hI : IM cn Fn) (hb0 : b0 < 10) (hl0 : l0 < 2147483648) : Met l yX12_loadAt (CWS yX12_loadAt cX12_loadAt 5 (some .int)) (RM 0 0 0) (PBr [.ref (g 100), .int (nI b0), .int (nI l0)] D cI cB cZ (wM cI cB cZ g cn In Fn)) (vp_Si (fun r => TWF (fun i => l0 < mixN (Fn 10) (Fn 64 b0) (i + 1)) 20 r)) 0 0 (fun _ => False) := by
  refine en_r rfl pn_RX12 (Nat.le_of_ble_eq_true rfl) (fun p e s m below meth c hx hb hml hown S hr hlocks hnm hP hK hS ls hl => ?_)
  have hl : lv_has ls 5 [(0, .ref (g 100)), (1, .int (nI b0)), (2, .int (nI l0))] := hl
  have hi_cn : Hid (CB cn) := hI.b
  refine lv_iload_n hx hb (oc_28 0 shX12_loadAt_0) rfl (lvA2 hl) ?_
  refine lv_istore_n (lv' := [(3, .int (nI l0)), (0, .ref (g 100)), (1, .int (nI b0)), (2, .int (nI l0))]) hx hb (oc_62 1 (aq_1 shX12_loadAt_0)) rfl hl (ltb rfl) rfl (fun ls hl => ?_)
  refine lv_iconst (v := 0) hx hb (oc_3 2 (aq_2 shX12_loadAt_0)) kic_0 ?_
  refine lv_istore (lv' := [(4, .int 0), (3, .int (nI l0)), (0, .ref (g 100)), (1, .int (nI b0)), (2, .int (nI l0))]) hx hb (oc_54 3 (aq_3 shX12_loadAt_0) ub_4) hl (ltb rfl) rfl (fun ls hl => ?_)
  have lp_5 : ∀ (n : Nat) (i5 : Nat) (n5 : Nat) , 20 - i5 < n → (i5 ≤ 20 ∧ (l0 = n5 + mixN (Fn 10) (Fn 64 b0) i5) ∧ (∀ q : Nat, q < i5 → ¬ l0 < mixN (Fn 10) (Fn 64 b0) (q + 1))) → ∀ ls : Array Slot, lv_has ls 5 [(4, .int (nI i5)), (3, .int (nI n5)), (0, .ref (g 100)), (1, .int (nI b0)), (2, .int (nI l0))] → W p l e (RM 0 0 0) s m ([.ref (g 100), .int (nI b0), .int (nI l0)]).toArray below meth c s.heap [] 0 0 (MQ below (vp_Si (fun r => TWF (fun i => l0 < mixN (Fn 10) (Fn 64 b0) (i + 1)) 20 r)) ([.ref (g 100), .int (nI b0), .int (nI l0)]).toArray s 0 0 (fun _ => False)) (F0 m 5 ls []) := by
    intro n5
    induction n5 with
    | zero => intros; (first | omega | (have zz0 := Hid.u hi_cn; omega))
    | succ n5 ih5 =>
      intro i5 n5 hmu5 hinv5 ls hl
      obtain ⟨hr5, hx5_0, hx5_1⟩ := hinv5
      have ti5 : (nI i5).toInt = (i5 : Int) := nI_toInt (by (first | omega | (have zz0 := Hid.u hi_cn; omega)))
      refine lv_iload hx hb (oc_21 5 (aq_5 shX12_loadAt_0) ub_4) (lvA0 hl) ?_
      refine lv_bipush (v := 20) hx hb (oc_16 7 (aq_7 shX12_loadAt_0) sgb_20) kbc_20 ?_
      refine lv_icmp_ge (tgt := 59) hx hb (oc_162 9 (aq_9 shX12_loadAt_0) sgw_0_50) rfl (fun c_1 => ?_) (fun c_1 => ?_)
      ·
        have tc_1 : (20 : Int) ≤ (nI i5).toInt := Int32.le_iff_toInt_le.mp c_1
        refine lv_iconst (v := (-1)) hx hb (oc_2 59 (aq_9 shX12_loadAt_50)) kic_m1 ?_
        exact W.iret (v := (-1)) hx hb hr (fun t ht hW => ⟨(-1), rfl, (Or.inr ⟨fun q hq => hx5_1 q (by (first | omega | (have zz0 := Hid.u hi_cn; omega))), rfl⟩), ht⟩) (fun _ h => absurd h List.not_mem_nil) (oc_172 60 (aq_10 shX12_loadAt_50))
      ·
        have tc_1 : ((nI i5).toInt : Int) < 20 := Int32.lt_iff_toInt_lt.mp (Int32.not_le.mp c_1)
        refine lv_aload_n hx hb (oc_42 12 (aq_12 shX12_loadAt_0)) rfl (lvA2 hl) ?_
        refine gM_138 S hK hP (v := .ref (g 64)) rfl (oc_180 13 (aq_13 shX12_loadAt_0) uw_0_138) ?_
        refine lv_iload_n hx hb (oc_27 16 (aq_16 shX12_loadAt_0)) rfl (lvA3 hl) ?_
        have kb_1 : b0 < 10 := by (first | omega | (have zz0 := Hid.u hi_cn; omega))
        refine ldM_64 hx hb hK hP (x := ((Fn 64) b0)) (vp_in_nI kb_1 (ltb rfl)) (nI_clamp (Nat.lt_trans kb_1 (ltb rfl))) rfl (oc_46 17 (aq_17 shX12_loadAt_0)) ?_
        refine lv_iload hx hb (oc_21 18 (aq_18 shX12_loadAt_0) ub_4) (lvA0 hl) ?_
        refine lv_ishr hx hb (oc_122 20 (aq_20 shX12_loadAt_0)) ?_
        refine lv_iconst (v := 1) hx hb (oc_4 21 (aq_21 shX12_loadAt_0)) kic_1 ?_
        refine lv_iand hx hb (oc_126 22 (aq_22 shX12_loadAt_0)) ?_
        refine lv_if_ne (tgt := 29) hx hb (oc_154 23 (aq_23 shX12_loadAt_0) sgw_0_6) rfl (fun c_2 => ?_) (fun c_2 => ?_)
        ·
          have tc_2 : (((((Fn 64) b0) >>> ((nI i5) &&& 31)) &&& 1).toInt : Int) ≠ 0 := fun q => c_2 (Int32.toInt_inj.mp q)
          refine lv_iload_n hx hb (oc_29 29 (aq_3 shX12_loadAt_26)) rfl (lvA1 hl) ?_
          refine lv_aload_n hx hb (oc_42 30 (aq_4 shX12_loadAt_26)) rfl (lvA2 hl) ?_
          refine gM_31 S hK hP (v := .ref (g 10)) rfl (oc_180 31 (aq_5 shX12_loadAt_26) uw_0_31) ?_
          refine lv_iload hx hb (oc_21 34 (aq_8 shX12_loadAt_26) ub_4) (lvA0 hl) ?_
          have kb_2 : i5 < 60 := by (first | omega | (have zz0 := Hid.u hi_cn; omega))
          obtain ⟨a_3, ha_3, ea_3⟩ := hI.e10 i5 (by (first | omega | (have zz0 := Hid.u hi_cn; omega)))
          refine ldM_10 hx hb hK hP (x := (nI a_3)) (vp_in_nI kb_2 (ltb rfl)) (nI_clamp (Nat.lt_trans kb_2 (ltb rfl))) ea_3 (oc_46 36 (aq_10 shX12_loadAt_26)) ?_
          have : (nI n5).toInt = ((n5 : Nat) : Int) := nI_toInt (by (first | omega | (have zz0 := Hid.u hi_cn; omega)))
          have : (nI a_3).toInt = ((a_3 : Nat) : Int) := nI_toInt (by (first | omega | (have zz0 := Hid.u hi_cn; omega)))
          refine lv_icmp_ge (tgt := 43) hx hb (oc_162 37 (aq_11 shX12_loadAt_26) sgw_0_6) rfl (fun c_4 => ?_) (fun c_4 => ?_)
          ·
            have tc_4 : ((nI a_3).toInt : Int) ≤ (nI n5).toInt := Int32.le_iff_toInt_le.mp c_4
            refine lv_iload_n hx hb (oc_29 43 (aq_17 shX12_loadAt_26)) rfl (lvA1 hl) ?_
            refine lv_aload_n hx hb (oc_42 44 (aq_18 shX12_loadAt_26)) rfl (lvA2 hl) ?_
            refine gM_31 S hK hP (v := .ref (g 10)) rfl (oc_180 45 (aq_19 shX12_loadAt_26) uw_0_31) ?_
            refine lv_iload hx hb (oc_21 48 (aq_22 shX12_loadAt_26) ub_4) (lvA0 hl) ?_
            refine ldM_10 hx hb hK hP (x := (nI a_3)) (vp_in_nI kb_2 (ltb rfl)) (nI_clamp (Nat.lt_trans kb_2 (ltb rfl))) ea_3 (oc_46 50 shX12_loadAt_50) ?_
            refine lv_isub hx hb (oc_100 51 (aq_1 shX12_loadAt_50)) ?_
            refine lv_topi (fun y_5 ey_5 => ?_)
            obtain rfl : y_5 = (nI (n5 - a_3)) := ey_5.trans (nI_sub (by (first | omega | (have zz0 := Hid.u hi_cn; omega))))
            refine lv_istore_n (lv' := [(3, .int (nI (n5 - a_3))), (4, .int (nI i5)), (0, .ref (g 100)), (1, .int (nI b0)), (2, .int (nI l0))]) hx hb (oc_62 52 (aq_2 shX12_loadAt_50)) rfl hl (ltb rfl) rfl (fun ls hl => ?_)
            refine lv_iinc (v := (nI (i5 + 1))) (lv' := [(4, .int (nI (i5 + 1))), (3, .int (nI (n5 - a_3))), (0, .ref (g 100)), (1, .int (nI b0)), (2, .int (nI l0))]) hx hb dX12_loadAt_53 hl (k := 1) rfl (nI_1 _) (ltb rfl) rfl (fun ls hl => ?_)
            refine lv_goto (tgt := 5) hx hb dX12_loadAt_56 rfl ?_
            exact ih5 (i5 + 1) (n5 - a_3) (by (first | omega | (have zz0 := Hid.u hi_cn; omega))) ⟨(by (first | omega | (have zz0 := Hid.u hi_cn; omega))), (by first | (rw [mixN_0 (by assumption)]; (first | omega | (have zz0 := Hid.u hi_cn; omega))) | (rw [mixN_1 (by assumption) (by assumption) (by (first | omega | (have zz0 := Hid.u hi_cn; omega)))]; (first | omega | (have zz0 := Hid.u hi_cn; omega)))), (fun q h9 => if q9 : q < i5 then hx5_1 q q9 else (by have e9 : q = i5 := (by (first | omega | (have zz0 := Hid.u hi_cn; omega))); rw [e9]; first | (rw [mixN_0 (by assumption)]; (first | omega | (have zz0 := Hid.u hi_cn; omega))) | (rw [mixN_1 (by assumption) (by assumption) (by (first | omega | (have zz0 := Hid.u hi_cn; omega)))]; (first | omega | (have zz0 := Hid.u hi_cn; omega)))))⟩ ls (lv_sub hl [0, 1, 2, 3, 4] rfl)
          ·
            have tc_4 : ((nI n5).toInt : Int) < (nI a_3).toInt := Int32.lt_iff_toInt_lt.mp (Int32.not_le.mp c_4)
            refine lv_iload hx hb (oc_21 40 (aq_14 shX12_loadAt_26) ub_4) (lvA0 hl) ?_
            exact W.iret (v := (nI i5)) hx hb hr (fun t ht hW => ⟨(nI i5), rfl, (Or.inl ⟨i5, by (first | omega | (have zz0 := Hid.u hi_cn; omega)), (by show l0 < mixN (Fn 10) (Fn 64 b0) (i5 + 1); rw [mixN_1 (by assumption) (by assumption) (by (first | omega | (have zz0 := Hid.u hi_cn; omega)))]; (first | omega | (have zz0 := Hid.u hi_cn; omega))), hx5_1, rfl⟩), ht⟩) (fun _ h => absurd h List.not_mem_nil) (oc_172 42 (aq_16 shX12_loadAt_26))
        ·
          have tc_2 : (((((Fn 64) b0) >>> ((nI i5) &&& 31)) &&& 1).toInt : Int) = 0 := congrArg Int32.toInt c_2
          refine lv_goto (tgt := 53) hx hb (oc_167 26 shX12_loadAt_26 sgw_0_27) rfl ?_
          refine lv_iinc (v := (nI (i5 + 1))) (lv' := [(4, .int (nI (i5 + 1))), (3, .int (nI n5)), (0, .ref (g 100)), (1, .int (nI b0)), (2, .int (nI l0))]) hx hb dX12_loadAt_53 hl (k := 0) rfl (nI_1 _) (ltb rfl) rfl (fun ls hl => ?_)
          refine lv_goto (tgt := 5) hx hb dX12_loadAt_56 rfl ?_
          exact ih5 (i5 + 1) n5 (by (first | omega | (have zz0 := Hid.u hi_cn; omega))) ⟨(by (first | omega | (have zz0 := Hid.u hi_cn; omega))), (by first | (rw [mixN_0 (by assumption)]; (first | omega | (have zz0 := Hid.u hi_cn; omega))) | (rw [mixN_1 (by assumption) (by assumption) (by (first | omega | (have zz0 := Hid.u hi_cn; omega)))]; (first | omega | (have zz0 := Hid.u hi_cn; omega)))), (fun q h9 => if q9 : q < i5 then hx5_1 q q9 else (by have e9 : q = i5 := (by (first | omega | (have zz0 := Hid.u hi_cn; omega))); rw [e9]; first | (rw [mixN_0 (by assumption)]; (first | omega | (have zz0 := Hid.u hi_cn; omega))) | (rw [mixN_1 (by assumption) (by assumption) (by (first | omega | (have zz0 := Hid.u hi_cn; omega)))]; (first | omega | (have zz0 := Hid.u hi_cn; omega)))))⟩ ls (lv_sub hl [0, 1, 2, 3, 4] rfl)
  exact lp_5 _ 0 l0 (Nat.lt_succ_self _) ⟨(by (first | omega | (have zz0 := Hid.u hi_cn; omega))), rfl, (fun q h9 => absurd h9 (Nat.not_lt_zero q))⟩ ls (lv_sub hl [0, 1, 2, 3, 4] rfl)
