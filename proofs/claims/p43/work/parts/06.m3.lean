theorem cq_eq_m1_m1 : ¬¬((-1 : Int32) = (-1)) := by decide

set_option maxRecDepth 100000 in
set_option maxHeartbeats 4000000 in
theorem q_apart (l : Launch) (D : va_G) (cI cB cZ : ClassId) (v0 v1 v2 v3 : Int32)  : Met l yX12_apart (CWS yX12_apart cX12_apart 4 (some .int)) (RM 0 0 0) (PBr [.int v0, .int v1, .int v2, .int v3] D cI cB cZ []) (vp_Si (fun r => r = apM v0 v1 v2 v3)) 0 0 (fun _ => False) := by
  refine en_r rfl pn_RX12 (Nat.le_of_ble_eq_true rfl) (fun p e s m below meth c hx hb hml hown S hr hlocks hnm hP hK hS ls hl => ?_)
  have hl : lv_has ls 4 [(0, .int v0), (1, .int v1), (2, .int v2), (3, .int v3)] := hl
  refine lv_iload_n hx hb (oc_26 0 shX12_apart_0) rfl (lvA0 hl) ?_
  refine lv_iload_n hx hb (oc_28 1 (aq_1 shX12_apart_0)) rfl (lvA2 hl) ?_
  refine lv_icmp_ge (tgt := 11) hx hb (oc_162 2 (aq_2 shX12_apart_0) sgw_0_9) rfl (fun c_1 => ?_) (fun c_1 => ?_)
  ·
    have tc_1 : (v2.toInt : Int) ≤ v0.toInt := Int32.le_iff_toInt_le.mp c_1
    refine lv_iload_n hx hb (oc_26 11 (aq_11 shX12_apart_0)) rfl (lvA0 hl) ?_
    refine lv_iload_n hx hb (oc_28 12 (aq_12 shX12_apart_0)) rfl (lvA2 hl) ?_
    refine lv_isub hx hb (oc_100 13 (aq_13 shX12_apart_0)) ?_
    refine lv_iload_n hx hb (oc_27 14 (aq_14 shX12_apart_0)) rfl (lvA1 hl) ?_
    refine lv_iload_n hx hb (oc_29 15 (aq_15 shX12_apart_0)) rfl (lvA3 hl) ?_
    refine lv_icmp_ge (tgt := 25) hx hb (oc_162 16 (aq_16 shX12_apart_0) sgw_0_9) rfl (fun c_2 => ?_) (fun c_2 => ?_)
    ·
      have tc_2 : (v3.toInt : Int) ≤ v1.toInt := Int32.le_iff_toInt_le.mp c_2
      refine lv_iload_n hx hb (oc_27 25 shX12_apart_25) rfl (lvA1 hl) ?_
      refine lv_iload_n hx hb (oc_29 26 (aq_1 shX12_apart_25)) rfl (lvA3 hl) ?_
      refine lv_isub hx hb (oc_100 27 (aq_2 shX12_apart_25)) ?_
      refine lv_iadd hx hb dX12_apart_28 ?_
      exact W.iret (v := ((v0 - v2) + (v1 - v3))) hx hb hr (fun t ht hW => ⟨((v0 - v2) + (v1 - v3)), rfl, (by unfold apM; (first | rw [ifl_t (Int32.not_le.mp c_1)] | rw [ifl_f c_1]); (first | rw [ifl_t (Int32.not_le.mp c_2)] | rw [ifl_f c_2] | rw [ifl_t (Int32.not_le.mp c_3)] | rw [ifl_f c_3])), ht⟩) (fun _ h => absurd h List.not_mem_nil) dX12_apart_29
    ·
      have tc_2 : (v1.toInt : Int) < v3.toInt := Int32.lt_iff_toInt_lt.mp (Int32.not_le.mp c_2)
      refine lv_iload_n hx hb (oc_29 19 (aq_19 shX12_apart_0)) rfl (lvA3 hl) ?_
      refine lv_iload_n hx hb (oc_27 20 (aq_20 shX12_apart_0)) rfl (lvA1 hl) ?_
      refine lv_isub hx hb (oc_100 21 (aq_21 shX12_apart_0)) ?_
      refine lv_goto (tgt := 28) hx hb (oc_167 22 (aq_22 shX12_apart_0) sgw_0_6) rfl ?_
      refine lv_iadd hx hb dX12_apart_28 ?_
      exact W.iret (v := ((v0 - v2) + (v3 - v1))) hx hb hr (fun t ht hW => ⟨((v0 - v2) + (v3 - v1)), rfl, (by unfold apM; (first | rw [ifl_t (Int32.not_le.mp c_1)] | rw [ifl_f c_1]); (first | rw [ifl_t (Int32.not_le.mp c_2)] | rw [ifl_f c_2] | rw [ifl_t (Int32.not_le.mp c_3)] | rw [ifl_f c_3])), ht⟩) (fun _ h => absurd h List.not_mem_nil) dX12_apart_29
  ·
    have tc_1 : (v0.toInt : Int) < v2.toInt := Int32.lt_iff_toInt_lt.mp (Int32.not_le.mp c_1)
    refine lv_iload_n hx hb (oc_28 5 (aq_5 shX12_apart_0)) rfl (lvA2 hl) ?_
    refine lv_iload_n hx hb (oc_26 6 (aq_6 shX12_apart_0)) rfl (lvA0 hl) ?_
    refine lv_isub hx hb (oc_100 7 (aq_7 shX12_apart_0)) ?_
    refine lv_goto (tgt := 14) hx hb (oc_167 8 (aq_8 shX12_apart_0) sgw_0_6) rfl ?_
    refine lv_iload_n hx hb (oc_27 14 (aq_14 shX12_apart_0)) rfl (lvA1 hl) ?_
    refine lv_iload_n hx hb (oc_29 15 (aq_15 shX12_apart_0)) rfl (lvA3 hl) ?_
    refine lv_icmp_ge (tgt := 25) hx hb (oc_162 16 (aq_16 shX12_apart_0) sgw_0_9) rfl (fun c_3 => ?_) (fun c_3 => ?_)
    ·
      have tc_3 : (v3.toInt : Int) ≤ v1.toInt := Int32.le_iff_toInt_le.mp c_3
      refine lv_iload_n hx hb (oc_27 25 shX12_apart_25) rfl (lvA1 hl) ?_
      refine lv_iload_n hx hb (oc_29 26 (aq_1 shX12_apart_25)) rfl (lvA3 hl) ?_
      refine lv_isub hx hb (oc_100 27 (aq_2 shX12_apart_25)) ?_
      refine lv_iadd hx hb dX12_apart_28 ?_
      exact W.iret (v := ((v2 - v0) + (v1 - v3))) hx hb hr (fun t ht hW => ⟨((v2 - v0) + (v1 - v3)), rfl, (by unfold apM; (first | rw [ifl_t (Int32.not_le.mp c_1)] | rw [ifl_f c_1]); (first | rw [ifl_t (Int32.not_le.mp c_2)] | rw [ifl_f c_2] | rw [ifl_t (Int32.not_le.mp c_3)] | rw [ifl_f c_3])), ht⟩) (fun _ h => absurd h List.not_mem_nil) dX12_apart_29
    ·
      have tc_3 : (v1.toInt : Int) < v3.toInt := Int32.lt_iff_toInt_lt.mp (Int32.not_le.mp c_3)
      refine lv_iload_n hx hb (oc_29 19 (aq_19 shX12_apart_0)) rfl (lvA3 hl) ?_
      refine lv_iload_n hx hb (oc_27 20 (aq_20 shX12_apart_0)) rfl (lvA1 hl) ?_
      refine lv_isub hx hb (oc_100 21 (aq_21 shX12_apart_0)) ?_
      refine lv_goto (tgt := 28) hx hb (oc_167 22 (aq_22 shX12_apart_0) sgw_0_6) rfl ?_
      refine lv_iadd hx hb dX12_apart_28 ?_
      exact W.iret (v := ((v2 - v0) + (v3 - v1))) hx hb hr (fun t ht hW => ⟨((v2 - v0) + (v3 - v1)), rfl, (by unfold apM; (first | rw [ifl_t (Int32.not_le.mp c_1)] | rw [ifl_f c_1]); (first | rw [ifl_t (Int32.not_le.mp c_2)] | rw [ifl_f c_2] | rw [ifl_t (Int32.not_le.mp c_3)] | rw [ifl_f c_3])), ht⟩) (fun _ h => absurd h List.not_mem_nil) dX12_apart_29
set_option maxRecDepth 100000 in
set_option maxHeartbeats 4000000 in
theorem q_toDepot (l : Launch) (D : va_G) (cI cB cZ : ClassId) (g : Nat → Nat) (cn : Nat → Nat) (In : Nat → Int32) (Fn : Nat → Nat → Int32) (k : Nat) (hI : IM cn Fn) (hk : k < 10) : Met l yX12_toDepot (CWS yX12_toDepot cX12_toDepot 2 (some .int)) (RM 0 0 0) (PBr [.ref (g 100), .int (nI k)] D cI cB cZ (wM cI cB cZ g cn In Fn)) (vp_Si (fun r => r = Fn 3 k + Fn 4 k)) 0 0 (fun _ => False) := by
  refine en_r rfl pn_RX12 (Nat.le_of_ble_eq_true rfl) (fun p e s m below meth c hx hb hml hown S hr hlocks hnm hP hK hS ls hl => ?_)
  have hl : lv_has ls 2 [(0, .ref (g 100)), (1, .int (nI k))] := hl
  have hi_cn : Hid (CB cn) := hI.b
  refine lv_aload_n hx hb (oc_42 0 shX12_toDepot_0) rfl (lvA0 hl) ?_
  refine gM_7 S hK hP (v := .ref (g 3)) rfl (oc_180 1 (aq_1 shX12_toDepot_0) uw_0_7) ?_
  refine lv_iload_n hx hb (oc_27 4 (aq_4 shX12_toDepot_0)) rfl (lvA1 hl) ?_
  have kb_1 : k < 10 := by (first | omega | (have zz0 := Hid.u hi_cn; omega))
  refine ldM_3 hx hb hK hP (x := ((Fn 3) k)) (vp_in_nI kb_1 (ltb rfl)) (nI_clamp (Nat.lt_trans kb_1 (ltb rfl))) rfl (oc_46 5 (aq_5 shX12_toDepot_0)) ?_
  refine lv_aload_n hx hb (oc_42 6 (aq_6 shX12_toDepot_0)) rfl (lvA0 hl) ?_
  refine gM_13 S hK hP (v := .ref (g 4)) rfl (oc_180 7 (aq_7 shX12_toDepot_0) uw_0_13) ?_
  refine lv_iload_n hx hb (oc_27 10 (aq_10 shX12_toDepot_0)) rfl (lvA1 hl) ?_
  refine ldM_4 hx hb hK hP (x := ((Fn 4) k)) (vp_in_nI kb_1 (ltb rfl)) (nI_clamp (Nat.lt_trans kb_1 (ltb rfl))) rfl (oc_46 11 (aq_11 shX12_toDepot_0)) ?_
  refine lv_iadd hx hb (oc_96 12 (aq_12 shX12_toDepot_0)) ?_
  exact W.iret (v := (((Fn 3) k) + ((Fn 4) k))) hx hb hr (fun t ht hW => ⟨(((Fn 3) k) + ((Fn 4) k)), rfl, rfl, ht⟩) (fun _ h => absurd h List.not_mem_nil) (oc_172 13 (aq_13 shX12_toDepot_0))
set_option maxRecDepth 100000 in
set_option maxHeartbeats 4000000 in
theorem q_way (l : Launch) (D : va_G) (cI cB cZ : ClassId) (g : Nat → Nat) (cn : Nat → Nat) (In : Nat → Int32) (Fn : Nat → Nat → Int32) (k j : Nat) (hI : IM cn Fn) (hk : k < 10) (hj : j < 10) : Met l yX12_way (CWS yX12_way cX12_way 3 (some .int)) (RM 1 0 0) (PBr [.ref (g 100), .int (nI k), .int (nI j)] D cI cB cZ (wM cI cB cZ g cn In Fn)) (vp_Si (fun r => r = apM (Fn 3 k) (Fn 4 k) (Fn 3 j) (Fn 4 j))) 0 0 (fun _ => False) := by
  refine en_r rfl pn_RX12 (Nat.le_of_ble_eq_true rfl) (fun p e s m below meth c hx hb hml hown S hr hlocks hnm hP hK hS ls hl => ?_)
  have hl : lv_has ls 3 [(0, .ref (g 100)), (1, .int (nI k)), (2, .int (nI j))] := hl
  have hi_cn : Hid (CB cn) := hI.b
  refine lv_aload_n hx hb (oc_42 0 shX12_way_0) rfl (lvA0 hl) ?_
  refine gM_7 S hK hP (v := .ref (g 3)) rfl (oc_180 1 (aq_1 shX12_way_0) uw_0_7) ?_
  refine lv_iload_n hx hb (oc_27 4 (aq_4 shX12_way_0)) rfl (lvA1 hl) ?_
  have kb_1 : k < 10 := by (first | omega | (have zz0 := Hid.u hi_cn; omega))
  refine ldM_3 hx hb hK hP (x := ((Fn 3) k)) (vp_in_nI kb_1 (ltb rfl)) (nI_clamp (Nat.lt_trans kb_1 (ltb rfl))) rfl (oc_46 5 (aq_5 shX12_way_0)) ?_
  refine lv_aload_n hx hb (oc_42 6 (aq_6 shX12_way_0)) rfl (lvA0 hl) ?_
  refine gM_13 S hK hP (v := .ref (g 4)) rfl (oc_180 7 (aq_7 shX12_way_0) uw_0_13) ?_
  refine lv_iload_n hx hb (oc_27 10 (aq_10 shX12_way_0)) rfl (lvA1 hl) ?_
  refine ldM_4 hx hb hK hP (x := ((Fn 4) k)) (vp_in_nI kb_1 (ltb rfl)) (nI_clamp (Nat.lt_trans kb_1 (ltb rfl))) rfl (oc_46 11 (aq_11 shX12_way_0)) ?_
  refine lv_aload_n hx hb (oc_42 12 (aq_12 shX12_way_0)) rfl (lvA0 hl) ?_
  refine gM_7 S hK hP (v := .ref (g 3)) rfl (oc_180 13 (aq_13 shX12_way_0) uw_0_7) ?_
  refine lv_iload_n hx hb (oc_28 16 (aq_16 shX12_way_0)) rfl (lvA2 hl) ?_
  have kb_2 : j < 10 := by (first | omega | (have zz0 := Hid.u hi_cn; omega))
  refine ldM_3 hx hb hK hP (x := ((Fn 3) j)) (vp_in_nI kb_2 (ltb rfl)) (nI_clamp (Nat.lt_trans kb_2 (ltb rfl))) rfl (oc_46 17 (aq_17 shX12_way_0)) ?_
  refine lv_aload_n hx hb (oc_42 18 (aq_18 shX12_way_0)) rfl (lvA0 hl) ?_
  refine gM_13 S hK hP (v := .ref (g 4)) rfl (oc_180 19 (aq_19 shX12_way_0) uw_0_13) ?_
  refine lv_iload_n hx hb (oc_28 22 (aq_22 shX12_way_0)) rfl (lvA2 hl) ?_
  refine ldM_4 hx hb hK hP (x := ((Fn 4) j)) (vp_in_nI kb_2 (ltb rfl)) (nI_clamp (Nat.lt_trans kb_2 (ltb rfl))) rfl (oc_46 23 (aq_23 shX12_way_0)) ?_
  refine vp_callSi (runS_r (As := [.int ((Fn 3) k), .int ((Fn 4) k), .int ((Fn 3) j), .int ((Fn 4) j)]) (rest := []) S (q_apart l D cI cB cZ ((Fn 3) k) ((Fn 4) k) ((Fn 3) j) ((Fn 4) j) ) kS_RX12_360 hK hP [] rfl ⟨Nat.le_of_ble_eq_true rfl, Nat.le_of_ble_eq_true rfl⟩ ⟨Nat.le_of_ble_eq_true rfl, Nat.le_of_ble_eq_true rfl⟩ rfl hl.1 rfl (Nat.le_of_ble_eq_true rfl) (oc_184 24 shX12_way_24 uw_1_104)) (fun r_1 h_2 => ?_)
  subst h_2
  exact W.iret (v := (apM ((Fn 3) k) ((Fn 4) k) ((Fn 3) j) ((Fn 4) j))) hx hb hr (fun t ht hW => ⟨(apM ((Fn 3) k) ((Fn 4) k) ((Fn 3) j) ((Fn 4) j)), rfl, rfl, ht⟩) (fun _ h => absurd h List.not_mem_nil) (oc_172 27 (aq_3 shX12_way_24))
set_option maxRecDepth 100000 in
set_option maxHeartbeats 4000000 in
theorem q_feastedOf (l : Launch) (D : va_G) (cI cB cZ : ClassId) (g : Nat → Nat) (cn : Nat → Nat) (In : Nat → Int32) (Fn : Nat → Nat → Int32) (k : Nat) (hI : IM cn Fn) (hk : k < cn 2) : Met l yX12_feastedOf (CWS yX12_feastedOf cX12_feastedOf 5 (some .int)) (RM 0 0 0) (PBr [.ref (g 100), .int (nI k)] D cI cB cZ (wM cI cB cZ g cn In Fn)) (vp_Si (fun _ => True)) 0 0 (fun _ => False) := by
  refine en_r rfl pn_RX12 (Nat.le_of_ble_eq_true rfl) (fun p e s m below meth c hx hb hml hown S hr hlocks hnm hP hK hS ls hl => ?_)
  have hl : lv_has ls 5 [(0, .ref (g 100)), (1, .int (nI k))] := hl
  have hi_cn : Hid (CB cn) := hI.b
  refine lv_aload_n hx hb (oc_42 0 shX12_feastedOf_0) rfl (lvA0 hl) ?_
  refine gM_25 S hK hP (v := .ref (g 8)) rfl (oc_180 1 (aq_1 shX12_feastedOf_0) uw_0_25) ?_
  refine lv_iload_n hx hb (oc_27 4 (aq_4 shX12_feastedOf_0)) rfl (lvA1 hl) ?_
  have kb_1 : k < 60 := by (first | omega | (have zz0 := Hid.u hi_cn; omega))
  obtain ⟨a_1, ha_1, ea_1⟩ := hI.e8 k (by (first | omega | (have zz0 := Hid.u hi_cn; omega)))
  refine ldM_8 hx hb hK hP (x := (nI a_1)) (vp_in_nI kb_1 (ltb rfl)) (nI_clamp (Nat.lt_trans kb_1 (ltb rfl))) ea_1 (oc_46 5 (aq_5 shX12_feastedOf_0)) ?_
  refine lv_istore_n (lv' := [(2, .int (nI a_1)), (0, .ref (g 100)), (1, .int (nI k))]) hx hb (oc_61 6 (aq_6 shX12_feastedOf_0)) rfl hl (ltb rfl) rfl (fun ls hl => ?_)
  refine lv_iconst (v := 0) hx hb (oc_3 7 (aq_7 shX12_feastedOf_0)) kic_0 ?_
  refine lv_istore_n (lv' := [(3, .int 0), (2, .int (nI a_1)), (0, .ref (g 100)), (1, .int (nI k))]) hx hb (oc_62 8 (aq_8 shX12_feastedOf_0)) rfl hl (ltb rfl) rfl (fun ls hl => ?_)
  refine lv_aload_n hx hb (oc_42 9 (aq_9 shX12_feastedOf_0)) rfl (lvA2 hl) ?_
  refine gM_49 S hK hP (v := .ref (g 16)) rfl (oc_180 10 (aq_10 shX12_feastedOf_0) uw_0_49) ?_
  refine lv_iload_n hx hb (oc_27 13 (aq_13 shX12_feastedOf_0)) rfl (lvA3 hl) ?_
  obtain ⟨a_2, ha_2, ea_2⟩ := hI.e16 k (by (first | omega | (have zz0 := Hid.u hi_cn; omega)))
  refine ldM_16 hx hb hK hP (x := (nI a_2)) (vp_in_nI kb_1 (ltb rfl)) (nI_clamp (Nat.lt_trans kb_1 (ltb rfl))) ea_2 (oc_46 14 (aq_14 shX12_feastedOf_0)) ?_
  refine lv_iconst (v := 1) hx hb (oc_4 15 (aq_15 shX12_feastedOf_0)) kic_1 ?_
  refine lv_iadd hx hb (oc_96 16 (aq_16 shX12_feastedOf_0)) ?_
  refine lv_topi (fun y_3 ey_3 => ?_)
  obtain rfl : y_3 = (nI (a_2 + 1)) := ey_3.trans (nI_add a_2 1)
  refine lv_istore (lv' := [(4, .int (nI (a_2 + 1))), (3, .int 0), (2, .int (nI a_1)), (0, .ref (g 100)), (1, .int (nI k))]) hx hb (oc_54 17 (aq_17 shX12_feastedOf_0) ub_4) hl (ltb rfl) rfl (fun ls hl => ?_)
  have lp_19 : ∀ (n : Nat) (i19 : Nat) (x19_3 : Int32) , 400 - i19 < n → (i19 ≤ 400) → ∀ ls : Array Slot, lv_has ls 5 [(4, .int (nI i19)), (3, .int x19_3), (2, .int (nI a_1)), (0, .ref (g 100)), (1, .int (nI k))] → W p l e (RM 0 0 0) s m ([.ref (g 100), .int (nI k)]).toArray below meth c s.heap [] 0 0 (MQ below (vp_Si (fun _ => True)) ([.ref (g 100), .int (nI k)]).toArray s 0 0 (fun _ => False)) (F0 m 19 ls []) := by
    intro n19
    induction n19 with
    | zero => intros; (first | omega | (have zz0 := Hid.u hi_cn; omega))
    | succ n19 ih19 =>
      intro i19 x19_3 hmu19 hinv19 ls hl
      have hr19 := hinv19
      have ti19 : (nI i19).toInt = (i19 : Int) := nI_toInt (by (first | omega | (have zz0 := Hid.u hi_cn; omega)))
      refine lv_iload hx hb (oc_21 19 (aq_19 shX12_feastedOf_0) ub_4) (lvA0 hl) ?_
      refine lv_aload_n hx hb (oc_42 21 (aq_21 shX12_feastedOf_0)) rfl (lvA3 hl) ?_
      refine gM_28 S hK hP (v := .ref (g 9)) rfl (oc_180 22 (aq_22 shX12_feastedOf_0) uw_0_28) ?_
      refine lv_iload_n hx hb (oc_27 25 shX12_feastedOf_25) rfl (lvA4 hl) ?_
      obtain ⟨a_4, ha_4, ea_4⟩ := hI.e9 k (by (first | omega | (have zz0 := Hid.u hi_cn; omega)))
      refine ldM_9 hx hb hK hP (x := (nI a_4)) (vp_in_nI kb_1 (ltb rfl)) (nI_clamp (Nat.lt_trans kb_1 (ltb rfl))) ea_4 (oc_46 26 (aq_1 shX12_feastedOf_25)) ?_
      have : (nI a_4).toInt = ((a_4 : Nat) : Int) := nI_toInt (by (first | omega | (have zz0 := Hid.u hi_cn; omega)))
      refine lv_icmp_gt (tgt := 59) hx hb (oc_163 27 (aq_2 shX12_feastedOf_25) sgw_0_32) rfl (fun c_5 => ?_) (fun c_5 => ?_)
      ·
        have tc_5 : ((nI a_4).toInt : Int) < (nI i19).toInt := Int32.lt_iff_toInt_lt.mp c_5
        refine lv_iload_n hx hb (oc_29 59 (aq_9 shX12_feastedOf_50)) rfl (lvA1 hl) ?_
        refine lv_aload_n hx hb (oc_42 60 (aq_10 shX12_feastedOf_50)) rfl (lvA3 hl) ?_
        refine gM_19 S hK hP (v := .ref (g 6)) rfl (oc_180 61 (aq_11 shX12_feastedOf_50) uw_0_19) ?_
        refine lv_iload_n hx hb (oc_28 64 (aq_14 shX12_feastedOf_50)) rfl (lvA2 hl) ?_
        have kb_2 : a_1 < 10 := by (first | omega | (have zz0 := Hid.u hi_cn; omega))
        refine ldM_6 hx hb hK hP (x := ((Fn 6) a_1)) (vp_in_nI kb_2 (ltb rfl)) (nI_clamp (Nat.lt_trans kb_2 (ltb rfl))) rfl (oc_46 65 (aq_15 shX12_feastedOf_50)) ?_
        refine lv_icmp_ge (tgt := 73) hx hb (oc_162 66 (aq_16 shX12_feastedOf_50) sgw_0_7) rfl (fun c_6 => ?_) (fun c_6 => ?_)
        ·
          have tc_6 : (((Fn 6) a_1).toInt : Int) ≤ x19_3.toInt := Int32.le_iff_toInt_le.mp c_6
          refine lv_aload_n hx hb (oc_42 73 (aq_23 shX12_feastedOf_50)) rfl (lvA3 hl) ?_
          refine gM_19 S hK hP (v := .ref (g 6)) rfl (oc_180 74 shX12_feastedOf_74 uw_0_19) ?_
          refine lv_iload_n hx hb (oc_28 77 (aq_3 shX12_feastedOf_74)) rfl (lvA2 hl) ?_
          refine ldM_6 hx hb hK hP (x := ((Fn 6) a_1)) (vp_in_nI kb_2 (ltb rfl)) (nI_clamp (Nat.lt_trans kb_2 (ltb rfl))) rfl (oc_46 78 (aq_4 shX12_feastedOf_74)) ?_
          exact W.iret (v := ((Fn 6) a_1)) hx hb hr (fun t ht hW => ⟨((Fn 6) a_1), rfl, trivial, ht⟩) (fun _ h => absurd h List.not_mem_nil) (oc_172 79 (aq_5 shX12_feastedOf_74))
        ·
          have tc_6 : (x19_3.toInt : Int) < ((Fn 6) a_1).toInt := Int32.lt_iff_toInt_lt.mp (Int32.not_le.mp c_6)
          refine lv_iload_n hx hb (oc_29 69 (aq_19 shX12_feastedOf_50)) rfl (lvA1 hl) ?_
          refine lv_goto (tgt := 79) hx hb (oc_167 70 (aq_20 shX12_feastedOf_50) sgw_0_9) rfl ?_
          exact W.iret (v := x19_3) hx hb hr (fun t ht hW => ⟨x19_3, rfl, trivial, ht⟩) (fun _ h => absurd h List.not_mem_nil) (oc_172 79 (aq_5 shX12_feastedOf_74))
      ·
        have tc_5 : ((nI i19).toInt : Int) ≤ (nI a_4).toInt := Int32.le_iff_toInt_le.mp (Int32.not_lt.mp c_5)
        refine lv_iload_n hx hb (oc_29 30 (aq_5 shX12_feastedOf_25)) rfl (lvA1 hl) ?_
        refine lv_aload_n hx hb (oc_42 31 (aq_6 shX12_feastedOf_25)) rfl (lvA3 hl) ?_
        refine gM_16 S hK hP (v := .ref (g 5)) rfl (oc_180 32 (aq_7 shX12_feastedOf_25) uw_0_16) ?_
        refine lv_iload_n hx hb (oc_28 35 (aq_10 shX12_feastedOf_25)) rfl (lvA2 hl) ?_
        have kb_3 : a_1 < 10 := by (first | omega | (have zz0 := Hid.u hi_cn; omega))
        refine ldM_5 hx hb hK hP (x := ((Fn 5) a_1)) (vp_in_nI kb_3 (ltb rfl)) (nI_clamp (Nat.lt_trans kb_3 (ltb rfl))) rfl (oc_46 36 (aq_11 shX12_feastedOf_25)) ?_
        refine lv_bipush (v := 100) hx hb (oc_16 37 (aq_12 shX12_feastedOf_25) sgb_100) kbc_100 ?_
        refine lv_aload_n hx hb (oc_42 39 (aq_14 shX12_feastedOf_25)) rfl (lvA3 hl) ?_
        refine gM_98 S hK hP (v := .ref (g 41)) rfl (oc_180 40 (aq_15 shX12_feastedOf_25) uw_0_98) ?_
        refine lv_iload hx hb (oc_21 43 (aq_18 shX12_feastedOf_25) ub_4) (lvA0 hl) ?_
        have kb_4 : i19 < 400 := by (first | omega | (have zz0 := Hid.u hi_cn; omega))
        refine ldM_41 hx hb hK hP (x := ((Fn 41) i19)) (vp_in_nI kb_4 (ltb rfl)) (nI_clamp (Nat.lt_trans kb_4 (ltb rfl))) rfl (oc_46 45 (aq_20 shX12_feastedOf_25)) ?_
        refine lv_iadd hx hb (oc_96 46 (aq_21 shX12_feastedOf_25)) ?_
        refine lv_imul hx hb (oc_104 47 (aq_22 shX12_feastedOf_25)) ?_
        refine lv_bipush (v := 100) hx hb (oc_16 48 (aq_23 shX12_feastedOf_25) sgb_100) kbc_100 ?_
        refine lv_idiv hx hb (oc_108 50 shX12_feastedOf_50) (by decide) ?_
        refine lv_iadd hx hb (oc_96 51 (aq_1 shX12_feastedOf_50)) ?_
        refine lv_istore_n (lv' := [(3, .int (x19_3 + ((((Fn 5) a_1) * (100 + ((Fn 41) i19))) / 100))), (4, .int (nI i19)), (2, .int (nI a_1)), (0, .ref (g 100)), (1, .int (nI k))]) hx hb (oc_62 52 (aq_2 shX12_feastedOf_50)) rfl hl (ltb rfl) rfl (fun ls hl => ?_)
        refine lv_iinc (v := (nI (i19 + 1))) (lv' := [(4, .int (nI (i19 + 1))), (3, .int (x19_3 + ((((Fn 5) a_1) * (100 + ((Fn 41) i19))) / 100))), (2, .int (nI a_1)), (0, .ref (g 100)), (1, .int (nI k))]) hx hb (oc_132 53 (aq_3 shX12_feastedOf_50) ub_4 sgb_1) hl (k := 1) rfl (nI_1 _) (ltb rfl) rfl (fun ls hl => ?_)
        refine lv_goto (tgt := 19) hx hb (oc_167 56 (aq_6 shX12_feastedOf_50) sgw_255_219) rfl ?_
        exact ih19 (i19 + 1) (x19_3 + ((((Fn 5) a_1) * (100 + ((Fn 41) i19))) / 100)) (by (first | omega | (have zz0 := Hid.u hi_cn; omega))) (by (first | omega | (have zz0 := Hid.u hi_cn; omega))) ls (lv_sub hl [0, 1, 2, 3, 4] rfl)
  exact lp_19 _ (a_2 + 1) 0 (Nat.lt_succ_self _) (by (first | omega | (have zz0 := Hid.u hi_cn; omega))) ls (lv_sub hl [0, 1, 2, 3, 4] rfl)
set_option maxRecDepth 100000 in
set_option maxHeartbeats 4000000 in
theorem q_feasted (l : Launch) (D : va_G) (cI cB cZ : ClassId) (g : Nat → Nat) (cn : Nat → Nat) (In : Nat → Int32) (Fn : Nat → Nat → Int32) (v0 v1 : Int32) (hI : IM cn Fn) : Met l yX12_feasted (CWS yX12_feasted cX12_feasted 5 (some .int)) (RM 1 0 0) (PBr [.ref (g 100), .int v0, .int v1] D cI cB cZ (wM cI cB cZ g cn In Fn)) (vp_Si (fun _ => True)) 0 0 (fun _ => False) := by
  refine en_r rfl pn_RX12 (Nat.le_of_ble_eq_true rfl) (fun p e s m below meth c hx hb hml hown S hr hlocks hnm hP hK hS ls hl => ?_)
  have hl : lv_has ls 5 [(0, .ref (g 100)), (1, .int v0), (2, .int v1)] := hl
  have hi_cn : Hid (CB cn) := hI.b
  refine lv_aload_n hx hb (oc_42 0 shX12_feasted_0) rfl (lvA0 hl) ?_
  refine lv_iload_n hx hb (oc_27 1 (aq_1 shX12_feasted_0)) rfl (lvA1 hl) ?_
  refine vp_callSi (runV_ra (As := [.int v0]) (rest := []) S (q_isLoad l D cI cB cZ g cn In Fn v0 hI) kV_RX12_335 hK hP 0 rfl rfl rfl ⟨Nat.le_of_ble_eq_true rfl, Nat.le_of_ble_eq_true rfl⟩ ⟨Nat.le_of_ble_eq_true rfl, Nat.le_of_ble_eq_true rfl⟩ rfl hl.1 rfl (Nat.le_of_ble_eq_true rfl) (oc_182 2 (aq_2 shX12_feasted_0) uw_1_79)) (fun r_1 h_2 => ?_)
  rcases h_2 with ⟨rfl, h_2⟩ | ⟨rfl, h_2⟩
  ·
    have h_2 : 0 ≤ v0.toInt ∧ v0.toInt < ((cn 2) : Int) := h_2
    refine lv_if_eq (tgt := 17) hx hb (oc_153 5 (aq_5 shX12_feasted_0) sgw_0_12) rfl (fun h => absurd h cq_eq_1_0) (fun _ => ?_)
    obtain ⟨d0, hd0, rfl⟩ := nI_of (x := v0) (fun q => by have := Int32.lt_iff_toInt_lt.mp q; have e : (0 : Int32).toInt = 0 := rfl; (first | omega | (have zz0 := Hid.u hi_cn; omega)))
    have td0 : (nI d0).toInt = (d0 : Int) := nI_toInt hd0
    have zd0 : (nI d0).toInt.toNat = d0 := by (first | omega | (have zz0 := Hid.u hi_cn; omega))
    refine lv_iload_n hx hb (oc_28 8 (aq_8 shX12_feasted_0)) rfl (lvA2 hl) ?_
    refine lv_iconst (v := 0) hx hb (oc_3 9 (aq_9 shX12_feasted_0)) kic_0 ?_
    refine lv_iconst (v := 1) hx hb (oc_4 10 (aq_10 shX12_feasted_0)) kic_1 ?_
    refine vp_callSi (runS_r (As := [.int v1, .int 0, .int 1]) (rest := []) S (q_in l D cI cB cZ v1 0 1 ) kS_RX12_214 hK hP [] rfl ⟨Nat.le_of_ble_eq_true rfl, Nat.le_of_ble_eq_true rfl⟩ ⟨Nat.le_of_ble_eq_true rfl, Nat.le_of_ble_eq_true rfl⟩ rfl hl.1 rfl (Nat.le_of_ble_eq_true rfl) (oc_184 11 (aq_11 shX12_feasted_0) uw_0_214)) (fun r_3 h_4 => ?_)
    rcases h_4 with ⟨rfl, h_4⟩ | ⟨rfl, h_4⟩
    ·
      have h_4 : 0 ≤ v1.toInt ∧ v1.toInt ≤ 1 := h_4
      refine lv_if_ne (tgt := 19) hx hb (oc_154 14 (aq_14 shX12_feasted_0) sgw_0_5) rfl (fun _ => ?_) (fun h => absurd h cq_eq_1_0)
      refine lv_aload_n hx hb (oc_42 19 (aq_19 shX12_feasted_0)) rfl (lvA0 hl) ?_
      refine lv_iload_n hx hb (oc_27 20 (aq_20 shX12_feasted_0)) rfl (lvA1 hl) ?_
      refine vp_callSi (runV_ra (As := [.int (nI d0)]) (rest := []) S (q_feastedOf l D cI cB cZ g cn In Fn d0 hI (by (first | omega | (have zz0 := Hid.u hi_cn; omega)))) kV_RX12_357 hK hP 0 rfl rfl rfl ⟨Nat.le_of_ble_eq_true rfl, Nat.le_of_ble_eq_true rfl⟩ ⟨Nat.le_of_ble_eq_true rfl, Nat.le_of_ble_eq_true rfl⟩ rfl hl.1 rfl (Nat.le_of_ble_eq_true rfl) (oc_182 21 (aq_21 shX12_feasted_0) uw_1_101)) (fun r_5 h_6 => ?_)
      refine lv_istore_n (lv' := [(3, .int r_5), (0, .ref (g 100)), (1, .int (nI d0)), (2, .int v1)]) hx hb (oc_62 24 shX12_feasted_24) rfl hl (ltb rfl) rfl (fun ls hl => ?_)
      refine lv_iload_n hx hb (oc_29 25 (aq_1 shX12_feasted_24)) rfl (lvA0 hl) ?_
      refine lv_aload_n hx hb (oc_42 26 (aq_2 shX12_feasted_24)) rfl (lvA1 hl) ?_
      refine gM_31 S hK hP (v := .ref (g 10)) rfl (oc_180 27 (aq_3 shX12_feasted_24) uw_0_31) ?_
      refine lv_iload_n hx hb (oc_27 30 (aq_6 shX12_feasted_24)) rfl (lvA2 hl) ?_
      have kb_1 : d0 < 60 := by (first | omega | (have zz0 := Hid.u hi_cn; omega))
      obtain ⟨a_7, ha_7, ea_7⟩ := hI.e10 d0 (by (first | omega | (have zz0 := Hid.u hi_cn; omega)))
      refine ldM_10 hx hb hK hP (x := (nI a_7)) (vp_in_nI kb_1 (ltb rfl)) (nI_clamp (Nat.lt_trans kb_1 (ltb rfl))) ea_7 (oc_46 31 (aq_7 shX12_feasted_24)) ?_
      refine lv_isub hx hb (oc_100 32 (aq_8 shX12_feasted_24)) ?_
      refine lv_iload_n hx hb (oc_29 33 (aq_9 shX12_feasted_24)) rfl (lvA0 hl) ?_
      refine lv_bipush (v := 10) hx hb (oc_16 34 (aq_10 shX12_feasted_24) sgb_10) kbc_10 ?_
      refine lv_idiv hx hb (oc_108 36 (aq_12 shX12_feasted_24)) (by decide) ?_
      refine lv_isub hx hb (oc_100 37 (aq_13 shX12_feasted_24)) ?_
      refine lv_istore (lv' := [(4, .int ((r_5 - (nI a_7)) - (r_5 / 10))), (3, .int r_5), (0, .ref (g 100)), (1, .int (nI d0)), (2, .int v1)]) hx hb (oc_54 38 (aq_14 shX12_feasted_24) ub_4) hl (ltb rfl) rfl (fun ls hl => ?_)
      refine lv_iload_n hx hb (oc_28 40 (aq_16 shX12_feasted_24)) rfl (lvA4 hl) ?_
      refine lv_if_ne (tgt := 48) hx hb (oc_154 41 (aq_17 shX12_feasted_24) sgw_0_7) rfl (fun c_8 => ?_) (fun c_8 => ?_)
      ·
        have tc_8 : (v1.toInt : Int) ≠ 0 := fun q => c_8 (Int32.toInt_inj.mp q)
        refine lv_iload hx hb (oc_21 48 shX12_feasted_48 ub_4) (lvA0 hl) ?_
        refine lv_if_le (tgt := 58) hx hb (oc_158 50 (aq_2 shX12_feasted_48) sgw_0_8) rfl (fun c_9 => ?_) (fun c_9 => ?_)
        ·
          have tc_9 : (((r_5 - (nI a_7)) - (r_5 / 10)).toInt : Int) ≤ 0 := Int32.le_iff_toInt_le.mp c_9
          refine lv_iconst (v := 0) hx hb (oc_3 58 (aq_10 shX12_feasted_48)) kic_0 ?_
          exact W.iret (v := 0) hx hb hr (fun t ht hW => ⟨0, rfl, trivial, ht⟩) (fun _ h => absurd h List.not_mem_nil) (oc_172 59 (aq_11 shX12_feasted_48))
        ·
          have tc_9 : (0 : Int) < ((r_5 - (nI a_7)) - (r_5 / 10)).toInt := Int32.lt_iff_toInt_lt.mp (Int32.not_le.mp c_9)
          refine lv_iload hx hb (oc_21 53 (aq_5 shX12_feasted_48) ub_4) (lvA0 hl) ?_
          refine lv_goto (tgt := 59) hx hb (oc_167 55 (aq_7 shX12_feasted_48) sgw_0_4) rfl ?_
          exact W.iret (v := ((r_5 - (nI a_7)) - (r_5 / 10))) hx hb hr (fun t ht hW => ⟨((r_5 - (nI a_7)) - (r_5 / 10)), rfl, trivial, ht⟩) (fun _ h => absurd h List.not_mem_nil) (oc_172 59 (aq_11 shX12_feasted_48))
      ·
        have tc_8 : (v1.toInt : Int) = 0 := congrArg Int32.toInt c_8
        refine lv_iload_n hx hb (oc_29 44 (aq_20 shX12_feasted_24)) rfl (lvA1 hl) ?_
        refine lv_goto (tgt := 59) hx hb (oc_167 45 (aq_21 shX12_feasted_24) sgw_0_14) rfl ?_
        exact W.iret (v := r_5) hx hb hr (fun t ht hW => ⟨r_5, rfl, trivial, ht⟩) (fun _ h => absurd h List.not_mem_nil) (oc_172 59 (aq_11 shX12_feasted_48))
    ·
      have h_4 : ¬ (0 ≤ v1.toInt ∧ v1.toInt ≤ 1) := h_4
      refine lv_if_ne (tgt := 19) hx hb (oc_154 14 (aq_14 shX12_feasted_0) sgw_0_5) rfl (fun h => absurd h cq_eq_0_0) (fun _ => ?_)
      refine lv_iconst (v := (-1)) hx hb (oc_2 17 (aq_17 shX12_feasted_0)) kic_m1 ?_
      exact W.iret (v := (-1)) hx hb hr (fun t ht hW => ⟨(-1), rfl, trivial, ht⟩) (fun _ h => absurd h List.not_mem_nil) (oc_172 18 (aq_18 shX12_feasted_0))
  ·
    have h_2 : ¬ (0 ≤ v0.toInt ∧ v0.toInt < ((cn 2) : Int)) := h_2
    refine lv_if_eq (tgt := 17) hx hb (oc_153 5 (aq_5 shX12_feasted_0) sgw_0_12) rfl (fun _ => ?_) (fun h => absurd h cq_eq_0_0)
    refine lv_iconst (v := (-1)) hx hb (oc_2 17 (aq_17 shX12_feasted_0)) kic_m1 ?_
    exact W.iret (v := (-1)) hx hb hr (fun t ht hW => ⟨(-1), rfl, trivial, ht⟩) (fun _ h => absurd h List.not_mem_nil) (oc_172 18 (aq_18 shX12_feasted_0))
set_option maxRecDepth 100000 in
set_option maxHeartbeats 4000000 in
theorem q_latest (l : Launch) (D : va_G) (cI cB cZ : ClassId) (g : Nat → Nat) (cn : Nat → Nat) (In : Nat → Int32) (Fn : Nat → Nat → Int32) (v0 v1 : Int32) (hI : IM cn Fn) : Met l yX12_latest (CWS yX12_latest cX12_latest 5 (some .int)) (RM 0 0 0) (PBr [.ref (g 100), .int v0, .int v1] D cI cB cZ (wM cI cB cZ g cn In Fn)) (vp_Si (fun r => r = -1 ∨ ∃ m : Nat, m < cn 58 ∧ r = nI m)) 0 0 (fun _ => False) := by
  refine en_r rfl pn_RX12 (Nat.le_of_ble_eq_true rfl) (fun p e s m below meth c hx hb hml hown S hr hlocks hnm hP hK hS ls hl => ?_)
  have hl : lv_has ls 5 [(0, .ref (g 100)), (1, .int v0), (2, .int v1)] := hl
  have hi_cn : Hid (CB cn) := hI.b
  refine lv_iconst (v := (-1)) hx hb (oc_2 0 shX12_latest_0) kic_m1 ?_
  refine lv_istore_n (lv' := [(3, .int (-1)), (0, .ref (g 100)), (1, .int v0), (2, .int v1)]) hx hb (oc_62 1 (aq_1 shX12_latest_0)) rfl hl (ltb rfl) rfl (fun ls hl => ?_)
  refine lv_iconst (v := 0) hx hb (oc_3 2 (aq_2 shX12_latest_0)) kic_0 ?_
  refine lv_istore (lv' := [(4, .int 0), (3, .int (-1)), (0, .ref (g 100)), (1, .int v0), (2, .int v1)]) hx hb (oc_54 3 (aq_3 shX12_latest_0) ub_4) hl (ltb rfl) rfl (fun ls hl => ?_)
  have lp_5 : ∀ (n : Nat) (i5 : Nat) (x5_3 : Int32) , cn 58 - i5 < n → (i5 ≤ cn 58 ∧ (x5_3 = -1 ∨ ∃ m : Nat, m < i5 ∧ x5_3 = nI m)) → ∀ ls : Array Slot, lv_has ls 5 [(4, .int (nI i5)), (3, .int x5_3), (0, .ref (g 100)), (1, .int v0), (2, .int v1)] → W p l e (RM 0 0 0) s m ([.ref (g 100), .int v0, .int v1]).toArray below meth c s.heap [] 0 0 (MQ below (vp_Si (fun r => r = -1 ∨ ∃ m : Nat, m < cn 58 ∧ r = nI m)) ([.ref (g 100), .int v0, .int v1]).toArray s 0 0 (fun _ => False)) (F0 m 5 ls []) := by
    intro n5
    induction n5 with
    | zero => intros; (first | omega | (have zz0 := Hid.u hi_cn; omega))
    | succ n5 ih5 =>
      intro i5 x5_3 hmu5 hinv5 ls hl
      obtain ⟨hr5, hx5_0⟩ := hinv5
      have ti5 : (nI i5).toInt = (i5 : Int) := nI_toInt (by (first | omega | (have zz0 := Hid.u hi_cn; omega)))
      refine lv_iload hx hb (oc_21 5 (aq_5 shX12_latest_0) ub_4) (lvA0 hl) ?_
      refine lv_aload_n hx hb (oc_42 7 (aq_7 shX12_latest_0)) rfl (lvA2 hl) ?_
      refine gM_410 S hK hP (v := .int (nI (cn 58))) rfl (oc_180 8 (aq_8 shX12_latest_0) uw_1_154) ?_
      have : (nI (cn 58)).toInt = (((cn 58) : Nat) : Int) := nI_toInt (by (first | omega | (have zz0 := Hid.u hi_cn; omega)))
      refine lv_icmp_ge (tgt := 45) hx hb (oc_162 11 (aq_11 shX12_latest_0) sgw_0_34) rfl (fun c_1 => ?_) (fun c_1 => ?_)
      ·
        have tc_1 : ((nI (cn 58)).toInt : Int) ≤ (nI i5).toInt := Int32.le_iff_toInt_le.mp c_1
        refine lv_iload_n hx hb (oc_29 45 (aq_20 shX12_latest_25)) rfl (lvA1 hl) ?_
        exact W.iret (v := x5_3) hx hb hr (fun t ht hW => ⟨x5_3, rfl, (hx5_0.elim Or.inl (fun ⟨m, h1, h2⟩ => Or.inr ⟨m, by (first | omega | (have zz0 := Hid.u hi_cn; omega)), h2⟩)), ht⟩) (fun _ h => absurd h List.not_mem_nil) (oc_172 46 (aq_21 shX12_latest_25))
      ·
        have tc_1 : ((nI i5).toInt : Int) < (nI (cn 58)).toInt := Int32.lt_iff_toInt_lt.mp (Int32.not_le.mp c_1)
        refine lv_aload_n hx hb (oc_42 14 (aq_14 shX12_latest_0)) rfl (lvA2 hl) ?_
        refine gM_129 S hK hP (v := .ref (g 59)) rfl (oc_180 15 (aq_15 shX12_latest_0) uw_0_129) ?_
        refine lv_iload hx hb (oc_21 18 (aq_18 shX12_latest_0) ub_4) (lvA0 hl) ?_
        have kb_1 : i5 < 60 := by (first | omega | (have zz0 := Hid.u hi_cn; omega))
        refine ldM_59 hx hb hK hP (x := ((Fn 59) i5)) (vp_in_nI kb_1 (ltb rfl)) (nI_clamp (Nat.lt_trans kb_1 (ltb rfl))) rfl (oc_46 20 (aq_20 shX12_latest_0)) ?_
        refine lv_iload_n hx hb (oc_27 21 (aq_21 shX12_latest_0)) rfl (lvA3 hl) ?_
        refine lv_icmp_ne (tgt := 39) hx hb (oc_160 22 (aq_22 shX12_latest_0) sgw_0_17) rfl (fun c_2 => ?_) (fun c_2 => ?_)
        ·
          have tc_2 : (((Fn 59) i5).toInt : Int) ≠ v0.toInt := fun q => c_2 (Int32.toInt_inj.mp q)
          refine lv_iinc (v := (nI (i5 + 1))) (lv' := [(4, .int (nI (i5 + 1))), (3, .int x5_3), (0, .ref (g 100)), (1, .int v0), (2, .int v1)]) hx hb (oc_132 39 (aq_14 shX12_latest_25) ub_4 sgb_1) hl (k := 0) rfl (nI_1 _) (ltb rfl) rfl (fun ls hl => ?_)
          refine lv_goto (tgt := 5) hx hb (oc_167 42 (aq_17 shX12_latest_25) sgw_255_219) rfl ?_
          exact ih5 (i5 + 1) x5_3 (by (first | omega | (have zz0 := Hid.u hi_cn; omega))) ⟨(by (first | omega | (have zz0 := Hid.u hi_cn; omega))), (by first | exact Or.inl rfl | exact Or.inr ⟨_, by (first | omega | (have zz0 := Hid.u hi_cn; omega)), rfl⟩ | exact hx5_0.elim Or.inl (fun ⟨m, h1, h2⟩ => Or.inr ⟨m, by (first | omega | (have zz0 := Hid.u hi_cn; omega)), h2⟩))⟩ ls (lv_sub hl [0, 1, 2, 3, 4] rfl)
        ·
          have tc_2 : (((Fn 59) i5).toInt : Int) = v0.toInt := congrArg Int32.toInt c_2
          refine lv_aload_n hx hb (oc_42 25 shX12_latest_25) rfl (lvA2 hl) ?_
          refine gM_135 S hK hP (v := .ref (g 61)) rfl (oc_180 26 (aq_1 shX12_latest_25) uw_0_135) ?_
          refine lv_iload hx hb (oc_21 29 (aq_4 shX12_latest_25) ub_4) (lvA0 hl) ?_
          refine ldM_61 hx hb hK hP (x := ((Fn 61) i5)) (vp_in_nI kb_1 (ltb rfl)) (nI_clamp (Nat.lt_trans kb_1 (ltb rfl))) rfl (oc_46 31 (aq_6 shX12_latest_25)) ?_
          refine lv_iload_n hx hb (oc_28 32 (aq_7 shX12_latest_25)) rfl (lvA4 hl) ?_
          refine lv_icmp_gt (tgt := 39) hx hb (oc_163 33 (aq_8 shX12_latest_25) sgw_0_6) rfl (fun c_3 => ?_) (fun c_3 => ?_)
          ·
            have tc_3 : (v1.toInt : Int) < ((Fn 61) i5).toInt := Int32.lt_iff_toInt_lt.mp c_3
            refine lv_iinc (v := (nI (i5 + 1))) (lv' := [(4, .int (nI (i5 + 1))), (3, .int x5_3), (0, .ref (g 100)), (1, .int v0), (2, .int v1)]) hx hb (oc_132 39 (aq_14 shX12_latest_25) ub_4 sgb_1) hl (k := 0) rfl (nI_1 _) (ltb rfl) rfl (fun ls hl => ?_)
            refine lv_goto (tgt := 5) hx hb (oc_167 42 (aq_17 shX12_latest_25) sgw_255_219) rfl ?_
            exact ih5 (i5 + 1) x5_3 (by (first | omega | (have zz0 := Hid.u hi_cn; omega))) ⟨(by (first | omega | (have zz0 := Hid.u hi_cn; omega))), (by first | exact Or.inl rfl | exact Or.inr ⟨_, by (first | omega | (have zz0 := Hid.u hi_cn; omega)), rfl⟩ | exact hx5_0.elim Or.inl (fun ⟨m, h1, h2⟩ => Or.inr ⟨m, by (first | omega | (have zz0 := Hid.u hi_cn; omega)), h2⟩))⟩ ls (lv_sub hl [0, 1, 2, 3, 4] rfl)
          ·
            have tc_3 : (((Fn 61) i5).toInt : Int) ≤ v1.toInt := Int32.le_iff_toInt_le.mp (Int32.not_lt.mp c_3)
            refine lv_iload hx hb (oc_21 36 (aq_11 shX12_latest_25) ub_4) (lvA0 hl) ?_
            refine lv_istore_n (lv' := [(3, .int (nI i5)), (4, .int (nI i5)), (0, .ref (g 100)), (1, .int v0), (2, .int v1)]) hx hb (oc_62 38 (aq_13 shX12_latest_25)) rfl hl (ltb rfl) rfl (fun ls hl => ?_)
            refine lv_iinc (v := (nI (i5 + 1))) (lv' := [(4, .int (nI (i5 + 1))), (3, .int (nI i5)), (0, .ref (g 100)), (1, .int v0), (2, .int v1)]) hx hb (oc_132 39 (aq_14 shX12_latest_25) ub_4 sgb_1) hl (k := 1) rfl (nI_1 _) (ltb rfl) rfl (fun ls hl => ?_)
            refine lv_goto (tgt := 5) hx hb (oc_167 42 (aq_17 shX12_latest_25) sgw_255_219) rfl ?_
            exact ih5 (i5 + 1) (nI i5) (by (first | omega | (have zz0 := Hid.u hi_cn; omega))) ⟨(by (first | omega | (have zz0 := Hid.u hi_cn; omega))), (by first | exact Or.inl rfl | exact Or.inr ⟨_, by (first | omega | (have zz0 := Hid.u hi_cn; omega)), rfl⟩ | exact hx5_0.elim Or.inl (fun ⟨m, h1, h2⟩ => Or.inr ⟨m, by (first | omega | (have zz0 := Hid.u hi_cn; omega)), h2⟩))⟩ ls (lv_sub hl [0, 1, 2, 3, 4] rfl)
  exact lp_5 _ 0 (-1) (Nat.lt_succ_self _) ⟨(by (first | omega | (have zz0 := Hid.u hi_cn; omega))), (by first | exact Or.inl rfl | exact Or.inr ⟨_, by (first | omega | (have zz0 := Hid.u hi_cn; omega)), rfl⟩ | exact (False.elim (by assumption) : True ∨ True).elim Or.inl (fun ⟨m, h1, h2⟩ => Or.inr ⟨m, by (first | omega | (have zz0 := Hid.u hi_cn; omega)), h2⟩))⟩ ls (lv_sub hl [0, 1, 2, 3, 4] rfl)
set_option maxRecDepth 100000 in
set_option maxHeartbeats 4000000 in
theorem q_stood (l : Launch) (D : va_G) (cI cB cZ : ClassId) (g : Nat → Nat) (cn : Nat → Nat) (In : Nat → Int32) (Fn : Nat → Nat → Int32) (v0 v1 : Int32) (hI : IM cn Fn) : Met l yX12_stood (CWS yX12_stood cX12_stood 4 (some .int)) (RM 2 0 0) (PBr [.ref (g 100), .int v0, .int v1] D cI cB cZ (wM cI cB cZ g cn In Fn)) (vp_Si (fun _ => True)) 0 0 (fun _ => False) := by
  refine en_r rfl pn_RX12 (Nat.le_of_ble_eq_true rfl) (fun p e s m below meth c hx hb hml hown S hr hlocks hnm hP hK hS ls hl => ?_)
  have hl : lv_has ls 4 [(0, .ref (g 100)), (1, .int v0), (2, .int v1)] := hl
  have hi_cn : Hid (CB cn) := hI.b
  refine lv_aload_n hx hb (oc_42 0 shX12_stood_0) rfl (lvA0 hl) ?_
  refine lv_iload_n hx hb (oc_27 1 (aq_1 shX12_stood_0)) rfl (lvA1 hl) ?_
  refine vp_callSi (runV_ra (As := [.int v0]) (rest := []) S (q_isDrum l D cI cB cZ g cn In Fn v0 hI) kV_RX12_413 hK hP 0 rfl rfl rfl ⟨Nat.le_of_ble_eq_true rfl, Nat.le_of_ble_eq_true rfl⟩ ⟨Nat.le_of_ble_eq_true rfl, Nat.le_of_ble_eq_true rfl⟩ rfl hl.1 rfl (Nat.le_of_ble_eq_true rfl) (oc_182 2 (aq_2 shX12_stood_0) uw_1_157)) (fun r_1 h_2 => ?_)
  rcases h_2 with ⟨rfl, h_2⟩ | ⟨rfl, h_2⟩
  ·
    have h_2 : 0 ≤ v0.toInt ∧ v0.toInt < ((cn 57) : Int) := h_2
    refine lv_if_eq (tgt := 15) hx hb (oc_153 5 (aq_5 shX12_stood_0) sgw_0_10) rfl (fun h => absurd h cq_eq_1_0) (fun _ => ?_)
    refine lv_iload_n hx hb (oc_28 8 (aq_8 shX12_stood_0)) rfl (lvA2 hl) ?_
    refine vp_callSi (runS_r (As := [.int v1]) (rest := []) S (q_isDay l D cI cB cZ v1 ) kS_RX12_341 hK hP [] rfl ⟨Nat.le_of_ble_eq_true rfl, Nat.le_of_ble_eq_true rfl⟩ ⟨Nat.le_of_ble_eq_true rfl, Nat.le_of_ble_eq_true rfl⟩ rfl hl.1 rfl (Nat.le_of_ble_eq_true rfl) (oc_184 9 (aq_9 shX12_stood_0) uw_1_85)) (fun r_3 h_4 => ?_)
    rcases h_4 with ⟨rfl, h_4⟩ | ⟨rfl, h_4⟩
    ·
      have h_4 : 0 ≤ v1.toInt ∧ v1.toInt ≤ 399 := h_4
      refine lv_if_ne (tgt := 17) hx hb (oc_154 12 (aq_12 shX12_stood_0) sgw_0_5) rfl (fun _ => ?_) (fun h => absurd h cq_eq_1_0)
      refine lv_aload_n hx hb (oc_42 17 (aq_17 shX12_stood_0)) rfl (lvA0 hl) ?_
      refine lv_iload_n hx hb (oc_27 18 (aq_18 shX12_stood_0)) rfl (lvA1 hl) ?_
      refine lv_iload_n hx hb (oc_28 19 (aq_19 shX12_stood_0)) rfl (lvA2 hl) ?_
      refine vp_callSi (runV_ra (As := [.int v0, .int v1]) (rest := []) S (q_latest l D cI cB cZ g cn In Fn v0 v1 hI) kV_RX12_416 hK hP 0 rfl rfl rfl ⟨Nat.le_of_ble_eq_true rfl, Nat.le_of_ble_eq_true rfl⟩ ⟨Nat.le_of_ble_eq_true rfl, Nat.le_of_ble_eq_true rfl⟩ rfl hl.1 rfl (Nat.le_of_ble_eq_true rfl) (oc_182 20 (aq_20 shX12_stood_0) uw_1_160)) (fun r_5 h_6 => ?_)
      rcases h_6 with rfl | ⟨mr_5, hr_5, rfl⟩
      ·
        refine lv_istore_n (lv' := [(3, .int (-1)), (0, .ref (g 100)), (1, .int v0), (2, .int v1)]) hx hb (oc_62 23 (aq_23 shX12_stood_0)) rfl hl (ltb rfl) rfl (fun ls hl => ?_)
        refine lv_iload_n hx hb (oc_29 24 shX12_stood_24) rfl (lvA0 hl) ?_
        refine lv_iconst (v := (-1)) hx hb (oc_2 25 (aq_1 shX12_stood_24)) kic_m1 ?_
        refine lv_icmp_eq (tgt := 39) hx hb (oc_159 26 (aq_2 shX12_stood_24) sgw_0_13) rfl (fun _ => ?_) (fun h => absurd h cq_eq_m1_m1)
        refine lv_bipush (v := (-2)) hx hb (oc_16 39 (aq_15 shX12_stood_24) sgb_254) kbc_m2 ?_
        refine lv_goto (tgt := 50) hx hb (oc_167 41 (aq_17 shX12_stood_24) sgw_0_9) rfl ?_
        exact W.iret (v := (-2)) hx hb hr (fun t ht hW => ⟨(-2), rfl, trivial, ht⟩) (fun _ h => absurd h List.not_mem_nil) (oc_172 50 (aq_2 shX12_stood_48))
      ·
        refine lv_istore_n (lv' := [(3, .int (nI mr_5)), (0, .ref (g 100)), (1, .int v0), (2, .int v1)]) hx hb (oc_62 23 (aq_23 shX12_stood_0)) rfl hl (ltb rfl) rfl (fun ls hl => ?_)
        refine lv_iload_n hx hb (oc_29 24 shX12_stood_24) rfl (lvA0 hl) ?_
        refine lv_iconst (v := (-1)) hx hb (oc_2 25 (aq_1 shX12_stood_24)) kic_m1 ?_
        have : (nI mr_5).toInt = ((mr_5 : Nat) : Int) := nI_toInt (by (first | omega | (have zz0 := Hid.u hi_cn; omega)))
        refine lv_icmp_eq (tgt := 39) hx hb (oc_159 26 (aq_2 shX12_stood_24) sgw_0_13) rfl (fun c_7 => False.elim (by have tc_7 : ((nI mr_5).toInt : Int) = (-1) := congrArg Int32.toInt c_7; (first | omega | (have zz0 := Hid.u hi_cn; omega)))) (fun c_7 => ?_)
        have tc_7 : ((nI mr_5).toInt : Int) ≠ (-1) := fun q => c_7 (Int32.toInt_inj.mp q)
        refine lv_aload_n hx hb (oc_42 29 (aq_5 shX12_stood_24)) rfl (lvA1 hl) ?_
        refine gM_132 S hK hP (v := .ref (g 60)) rfl (oc_180 30 (aq_6 shX12_stood_24) uw_0_132) ?_
        refine lv_iload_n hx hb (oc_29 33 (aq_9 shX12_stood_24)) rfl (lvA0 hl) ?_
        have kb_1 : mr_5 < 60 := by (first | omega | (have zz0 := Hid.u hi_cn; omega))
        refine ldM_60 hx hb hK hP (x := ((Fn 60) mr_5)) (vp_in_nI kb_1 (ltb rfl)) (nI_clamp (Nat.lt_trans kb_1 (ltb rfl))) rfl (oc_46 34 (aq_10 shX12_stood_24)) ?_
        refine lv_iconst (v := (-1)) hx hb (oc_2 35 (aq_11 shX12_stood_24)) kic_m1 ?_
        refine lv_icmp_ne (tgt := 44) hx hb (oc_160 36 (aq_12 shX12_stood_24) sgw_0_8) rfl (fun c_8 => ?_) (fun c_8 => ?_)
        ·
          have tc_8 : (((Fn 60) mr_5).toInt : Int) ≠ (-1) := fun q => c_8 (Int32.toInt_inj.mp q)
          refine lv_aload_n hx hb (oc_42 44 (aq_20 shX12_stood_24)) rfl (lvA1 hl) ?_
          refine gM_132 S hK hP (v := .ref (g 60)) rfl (oc_180 45 (aq_21 shX12_stood_24) uw_0_132) ?_
          refine lv_iload_n hx hb (oc_29 48 shX12_stood_48) rfl (lvA0 hl) ?_
          refine ldM_60 hx hb hK hP (x := ((Fn 60) mr_5)) (vp_in_nI kb_1 (ltb rfl)) (nI_clamp (Nat.lt_trans kb_1 (ltb rfl))) rfl (oc_46 49 (aq_1 shX12_stood_48)) ?_
          exact W.iret (v := ((Fn 60) mr_5)) hx hb hr (fun t ht hW => ⟨((Fn 60) mr_5), rfl, trivial, ht⟩) (fun _ h => absurd h List.not_mem_nil) (oc_172 50 (aq_2 shX12_stood_48))
        ·
          have tc_8 : (((Fn 60) mr_5).toInt : Int) = (-1) := congrArg Int32.toInt c_8
          refine lv_bipush (v := (-2)) hx hb (oc_16 39 (aq_15 shX12_stood_24) sgb_254) kbc_m2 ?_
          refine lv_goto (tgt := 50) hx hb (oc_167 41 (aq_17 shX12_stood_24) sgw_0_9) rfl ?_
          exact W.iret (v := (-2)) hx hb hr (fun t ht hW => ⟨(-2), rfl, trivial, ht⟩) (fun _ h => absurd h List.not_mem_nil) (oc_172 50 (aq_2 shX12_stood_48))
    ·
      have h_4 : ¬ (0 ≤ v1.toInt ∧ v1.toInt ≤ 399) := h_4
      refine lv_if_ne (tgt := 17) hx hb (oc_154 12 (aq_12 shX12_stood_0) sgw_0_5) rfl (fun h => absurd h cq_eq_0_0) (fun _ => ?_)
      refine lv_iconst (v := (-1)) hx hb (oc_2 15 (aq_15 shX12_stood_0)) kic_m1 ?_
      exact W.iret (v := (-1)) hx hb hr (fun t ht hW => ⟨(-1), rfl, trivial, ht⟩) (fun _ h => absurd h List.not_mem_nil) (oc_172 16 (aq_16 shX12_stood_0))
  ·
    have h_2 : ¬ (0 ≤ v0.toInt ∧ v0.toInt < ((cn 57) : Int)) := h_2
    refine lv_if_eq (tgt := 15) hx hb (oc_153 5 (aq_5 shX12_stood_0) sgw_0_10) rfl (fun _ => ?_) (fun h => absurd h cq_eq_0_0)
    refine lv_iconst (v := (-1)) hx hb (oc_2 15 (aq_15 shX12_stood_0)) kic_m1 ?_
    exact W.iret (v := (-1)) hx hb hr (fun t ht hW => ⟨(-1), rfl, trivial, ht⟩) (fun _ h => absurd h List.not_mem_nil) (oc_172 16 (aq_16 shX12_stood_0))
set_option maxRecDepth 100000 in
set_option maxHeartbeats 4000000 in
theorem q_stale (l : Launch) (D : va_G) (cI cB cZ : ClassId) (g : Nat → Nat) (cn : Nat → Nat) (In : Nat → Int32) (Fn : Nat → Nat → Int32) (v0 : Int32) (hI : IM cn Fn) : Met l yX12_stale (CWS yX12_stale cX12_stale 5 (some .int)) (RM 1 0 0) (PBr [.ref (g 100), .int v0] D cI cB cZ (wM cI cB cZ g cn In Fn)) (vp_Si (fun _ => True)) 0 0 (fun _ => False) := by
  refine en_r rfl pn_RX12 (Nat.le_of_ble_eq_true rfl) (fun p e s m below meth c hx hb hml hown S hr hlocks hnm hP hK hS ls hl => ?_)
  have hl : lv_has ls 5 [(0, .ref (g 100)), (1, .int v0)] := hl
  have hi_cn : Hid (CB cn) := hI.b
  refine lv_iload_n hx hb (oc_27 0 shX12_stale_0) rfl (lvA1 hl) ?_
  refine vp_callSi (runS_r (As := [.int v0]) (rest := []) S (q_isDay l D cI cB cZ v0 ) kS_RX12_341 hK hP [] rfl ⟨Nat.le_of_ble_eq_true rfl, Nat.le_of_ble_eq_true rfl⟩ ⟨Nat.le_of_ble_eq_true rfl, Nat.le_of_ble_eq_true rfl⟩ rfl hl.1 rfl (Nat.le_of_ble_eq_true rfl) (oc_184 1 (aq_1 shX12_stale_0) uw_1_85)) (fun r_1 h_2 => ?_)
  rcases h_2 with ⟨rfl, h_2⟩ | ⟨rfl, h_2⟩
  ·
    have h_2 : 0 ≤ v0.toInt ∧ v0.toInt ≤ 399 := h_2
    refine lv_if_ne (tgt := 9) hx hb (oc_154 4 (aq_4 shX12_stale_0) sgw_0_5) rfl (fun _ => ?_) (fun h => absurd h cq_eq_1_0)
    refine lv_iconst (v := 0) hx hb (oc_3 9 (aq_9 shX12_stale_0)) kic_0 ?_
    refine lv_istore_n (lv' := [(2, .int 0), (0, .ref (g 100)), (1, .int v0)]) hx hb (oc_61 10 (aq_10 shX12_stale_0)) rfl hl (ltb rfl) rfl (fun ls hl => ?_)
    refine lv_iconst (v := 0) hx hb (oc_3 11 (aq_11 shX12_stale_0)) kic_0 ?_
    refine lv_istore_n (lv' := [(3, .int 0), (2, .int 0), (0, .ref (g 100)), (1, .int v0)]) hx hb (oc_62 12 (aq_12 shX12_stale_0)) rfl hl (ltb rfl) rfl (fun ls hl => ?_)
    have lp_13 : ∀ (n : Nat) (i13 : Nat) (x13_2 : Int32) , cn 57 - i13 < n → (i13 ≤ cn 57) → ∀ ls : Array Slot, lv_has ls 5 [(3, .int (nI i13)), (2, .int x13_2), (0, .ref (g 100)), (1, .int v0)] → W p l e (RM 1 0 0) s m ([.ref (g 100), .int v0]).toArray below meth c s.heap [] 0 0 (MQ below (vp_Si (fun _ => True)) ([.ref (g 100), .int v0]).toArray s 0 0 (fun _ => False)) (F0 m 13 ls []) := by
      intro n13
      induction n13 with
      | zero => intros; (first | omega | (have zz0 := Hid.u hi_cn; omega))
      | succ n13 ih13 =>
        intro i13 x13_2 hmu13 hinv13 ls hl
        have hr13 := hinv13
        have ti13 : (nI i13).toInt = (i13 : Int) := nI_toInt (by (first | omega | (have zz0 := Hid.u hi_cn; omega)))
        refine lv_iload_n hx hb (oc_29 13 (aq_13 shX12_stale_0)) rfl (lvA0 hl) ?_
        refine lv_aload_n hx hb (oc_42 14 (aq_14 shX12_stale_0)) rfl (lvA2 hl) ?_
        refine gM_407 S hK hP (v := .int (nI (cn 57))) rfl (oc_180 15 (aq_15 shX12_stale_0) uw_1_151) ?_
        have : (nI (cn 57)).toInt = (((cn 57) : Nat) : Int) := nI_toInt (by (first | omega | (have zz0 := Hid.u hi_cn; omega)))
        refine lv_icmp_ge (tgt := 77) hx hb (oc_162 18 (aq_18 shX12_stale_0) sgw_0_59) rfl (fun c_3 => ?_) (fun c_3 => ?_)
        ·
          have tc_3 : ((nI (cn 57)).toInt : Int) ≤ (nI i13).toInt := Int32.le_iff_toInt_le.mp c_3
          refine lv_iload_n hx hb (oc_28 77 (aq_3 shX12_stale_74)) rfl (lvA1 hl) ?_
          exact W.iret (v := x13_2) hx hb hr (fun t ht hW => ⟨x13_2, rfl, trivial, ht⟩) (fun _ h => absurd h List.not_mem_nil) (oc_172 78 (aq_4 shX12_stale_74))
        ·
          have tc_3 : ((nI i13).toInt : Int) < (nI (cn 57)).toInt := Int32.lt_iff_toInt_lt.mp (Int32.not_le.mp c_3)
          refine lv_aload_n hx hb (oc_42 21 (aq_21 shX12_stale_0)) rfl (lvA2 hl) ?_
          refine lv_iload_n hx hb (oc_29 22 (aq_22 shX12_stale_0)) rfl (lvA0 hl) ?_
          refine lv_aload_n hx hb (oc_42 23 (aq_23 shX12_stale_0)) rfl (lvA2 hl) ?_
          refine gM_211 S hK hP (v := .int (nI (cn 0))) rfl (oc_180 24 shX12_stale_24 uw_0_211) ?_
          refine vp_callSi (runV_ra (As := [.int (nI i13), .int (nI (cn 0))]) (rest := []) S (q_latest l D cI cB cZ g cn In Fn (nI i13) (nI (cn 0)) hI) kV_RX12_416 hK hP 0 rfl rfl rfl ⟨Nat.le_of_ble_eq_true rfl, Nat.le_of_ble_eq_true rfl⟩ ⟨Nat.le_of_ble_eq_true rfl, Nat.le_of_ble_eq_true rfl⟩ rfl hl.1 rfl (Nat.le_of_ble_eq_true rfl) (oc_182 27 (aq_3 shX12_stale_24) uw_1_160)) (fun r_4 h_5 => ?_)
          rcases h_5 with rfl | ⟨mr_4, hr_4, rfl⟩
          ·
            refine lv_istore (lv' := [(4, .int (-1)), (3, .int (nI i13)), (2, .int x13_2), (0, .ref (g 100)), (1, .int v0)]) hx hb (oc_54 30 (aq_6 shX12_stale_24) ub_4) hl (ltb rfl) rfl (fun ls hl => ?_)
            refine lv_iload hx hb (oc_21 32 (aq_8 shX12_stale_24) ub_4) (lvA0 hl) ?_
            refine lv_iconst (v := (-1)) hx hb (oc_2 34 (aq_10 shX12_stale_24)) kic_m1 ?_
            refine lv_icmp_eq (tgt := 71) hx hb (oc_159 35 (aq_11 shX12_stale_24) sgw_0_36) rfl (fun _ => ?_) (fun h => absurd h cq_eq_m1_m1)
            refine lv_iinc (v := (nI (i13 + 1))) (lv' := [(3, .int (nI (i13 + 1))), (4, .int (-1)), (2, .int x13_2), (0, .ref (g 100)), (1, .int v0)]) hx hb dX12_stale_71 hl (k := 1) rfl (nI_1 _) (ltb rfl) rfl (fun ls hl => ?_)
            refine lv_goto (tgt := 13) hx hb dX12_stale_74 rfl ?_
            exact ih13 (i13 + 1) x13_2 (by (first | omega | (have zz0 := Hid.u hi_cn; omega))) (by (first | omega | (have zz0 := Hid.u hi_cn; omega))) ls (lv_sub hl [0, 2, 3, 4] rfl)
          ·
            refine lv_istore (lv' := [(4, .int (nI mr_4)), (3, .int (nI i13)), (2, .int x13_2), (0, .ref (g 100)), (1, .int v0)]) hx hb (oc_54 30 (aq_6 shX12_stale_24) ub_4) hl (ltb rfl) rfl (fun ls hl => ?_)
            refine lv_iload hx hb (oc_21 32 (aq_8 shX12_stale_24) ub_4) (lvA0 hl) ?_
            refine lv_iconst (v := (-1)) hx hb (oc_2 34 (aq_10 shX12_stale_24)) kic_m1 ?_
            have : (nI mr_4).toInt = ((mr_4 : Nat) : Int) := nI_toInt (by (first | omega | (have zz0 := Hid.u hi_cn; omega)))
            refine lv_icmp_eq (tgt := 71) hx hb (oc_159 35 (aq_11 shX12_stale_24) sgw_0_36) rfl (fun c_6 => False.elim (by have tc_6 : ((nI mr_4).toInt : Int) = (-1) := congrArg Int32.toInt c_6; (first | omega | (have zz0 := Hid.u hi_cn; omega)))) (fun c_6 => ?_)
            have tc_6 : ((nI mr_4).toInt : Int) ≠ (-1) := fun q => c_6 (Int32.toInt_inj.mp q)
            refine lv_aload_n hx hb (oc_42 38 (aq_14 shX12_stale_24)) rfl (lvA3 hl) ?_
            refine gM_132 S hK hP (v := .ref (g 60)) rfl (oc_180 39 (aq_15 shX12_stale_24) uw_0_132) ?_
            refine lv_iload hx hb (oc_21 42 (aq_18 shX12_stale_24) ub_4) (lvA0 hl) ?_
            have kb_1 : mr_4 < 60 := by (first | omega | (have zz0 := Hid.u hi_cn; omega))
            refine ldM_60 hx hb hK hP (x := ((Fn 60) mr_4)) (vp_in_nI kb_1 (ltb rfl)) (nI_clamp (Nat.lt_trans kb_1 (ltb rfl))) rfl (oc_46 44 (aq_20 shX12_stale_24)) ?_
            refine lv_iconst (v := (-1)) hx hb (oc_2 45 (aq_21 shX12_stale_24)) kic_m1 ?_
            refine lv_icmp_eq (tgt := 71) hx hb (oc_159 46 (aq_22 shX12_stale_24) sgw_0_25) rfl (fun c_7 => ?_) (fun c_7 => ?_)
            ·
              have tc_7 : (((Fn 60) mr_4).toInt : Int) = (-1) := congrArg Int32.toInt c_7
              refine lv_iinc (v := (nI (i13 + 1))) (lv' := [(3, .int (nI (i13 + 1))), (4, .int (nI mr_4)), (2, .int x13_2), (0, .ref (g 100)), (1, .int v0)]) hx hb dX12_stale_71 hl (k := 1) rfl (nI_1 _) (ltb rfl) rfl (fun ls hl => ?_)
              refine lv_goto (tgt := 13) hx hb dX12_stale_74 rfl ?_
              exact ih13 (i13 + 1) x13_2 (by (first | omega | (have zz0 := Hid.u hi_cn; omega))) (by (first | omega | (have zz0 := Hid.u hi_cn; omega))) ls (lv_sub hl [0, 2, 3, 4] rfl)
            ·
              have tc_7 : (((Fn 60) mr_4).toInt : Int) ≠ (-1) := fun q => c_7 (Int32.toInt_inj.mp q)
              refine lv_aload_n hx hb (oc_42 49 shX12_stale_49) rfl (lvA3 hl) ?_
              refine gM_211 S hK hP (v := .int (nI (cn 0))) rfl (oc_180 50 (aq_1 shX12_stale_49) uw_0_211) ?_
              refine lv_aload_n hx hb (oc_42 53 (aq_4 shX12_stale_49)) rfl (lvA3 hl) ?_
              refine gM_135 S hK hP (v := .ref (g 61)) rfl (oc_180 54 (aq_5 shX12_stale_49) uw_0_135) ?_
              refine lv_iload hx hb (oc_21 57 (aq_8 shX12_stale_49) ub_4) (lvA0 hl) ?_
              refine ldM_61 hx hb hK hP (x := ((Fn 61) mr_4)) (vp_in_nI kb_1 (ltb rfl)) (nI_clamp (Nat.lt_trans kb_1 (ltb rfl))) rfl (oc_46 59 (aq_10 shX12_stale_49)) ?_
              refine lv_isub hx hb (oc_100 60 (aq_11 shX12_stale_49)) ?_
              refine lv_iload_n hx hb (oc_27 61 (aq_12 shX12_stale_49)) rfl (lvA4 hl) ?_
              refine lv_icmp_lt (tgt := 71) hx hb (oc_161 62 (aq_13 shX12_stale_49) sgw_0_9) rfl (fun c_8 => ?_) (fun c_8 => ?_)
              ·
                have tc_8 : (((nI (cn 0)) - ((Fn 61) mr_4)).toInt : Int) < v0.toInt := Int32.lt_iff_toInt_lt.mp c_8
                refine lv_iinc (v := (nI (i13 + 1))) (lv' := [(3, .int (nI (i13 + 1))), (4, .int (nI mr_4)), (2, .int x13_2), (0, .ref (g 100)), (1, .int v0)]) hx hb dX12_stale_71 hl (k := 1) rfl (nI_1 _) (ltb rfl) rfl (fun ls hl => ?_)
                refine lv_goto (tgt := 13) hx hb dX12_stale_74 rfl ?_
                exact ih13 (i13 + 1) x13_2 (by (first | omega | (have zz0 := Hid.u hi_cn; omega))) (by (first | omega | (have zz0 := Hid.u hi_cn; omega))) ls (lv_sub hl [0, 2, 3, 4] rfl)
              ·
                have tc_8 : (v0.toInt : Int) ≤ ((nI (cn 0)) - ((Fn 61) mr_4)).toInt := Int32.le_iff_toInt_le.mp (Int32.not_lt.mp c_8)
                refine lv_iload_n hx hb (oc_28 65 (aq_16 shX12_stale_49)) rfl (lvA2 hl) ?_
                refine lv_iconst (v := 1) hx hb (oc_4 66 (aq_17 shX12_stale_49)) kic_1 ?_
                refine lv_iload_n hx hb (oc_29 67 (aq_18 shX12_stale_49)) rfl (lvA1 hl) ?_
                refine lv_ishl hx hb (oc_120 68 (aq_19 shX12_stale_49)) ?_
                refine lv_ior hx hb (oc_128 69 (aq_20 shX12_stale_49)) ?_
                refine lv_istore_n (lv' := [(2, .int (x13_2 ||| (1 <<< ((nI i13) &&& 31)))), (4, .int (nI mr_4)), (3, .int (nI i13)), (0, .ref (g 100)), (1, .int v0)]) hx hb (oc_61 70 (aq_21 shX12_stale_49)) rfl hl (ltb rfl) rfl (fun ls hl => ?_)
                refine lv_iinc (v := (nI (i13 + 1))) (lv' := [(3, .int (nI (i13 + 1))), (2, .int (x13_2 ||| (1 <<< ((nI i13) &&& 31)))), (4, .int (nI mr_4)), (0, .ref (g 100)), (1, .int v0)]) hx hb dX12_stale_71 hl (k := 2) rfl (nI_1 _) (ltb rfl) rfl (fun ls hl => ?_)
                refine lv_goto (tgt := 13) hx hb dX12_stale_74 rfl ?_
                exact ih13 (i13 + 1) (x13_2 ||| (1 <<< ((nI i13) &&& 31))) (by (first | omega | (have zz0 := Hid.u hi_cn; omega))) (by (first | omega | (have zz0 := Hid.u hi_cn; omega))) ls (lv_sub hl [0, 1, 3, 4] rfl)
    exact lp_13 _ 0 0 (Nat.lt_succ_self _) (by (first | omega | (have zz0 := Hid.u hi_cn; omega))) ls (lv_sub hl [0, 1, 2, 3] rfl)
  ·
    have h_2 : ¬ (0 ≤ v0.toInt ∧ v0.toInt ≤ 399) := h_2
    refine lv_if_ne (tgt := 9) hx hb (oc_154 4 (aq_4 shX12_stale_0) sgw_0_5) rfl (fun h => absurd h cq_eq_0_0) (fun _ => ?_)
    refine lv_iconst (v := (-1)) hx hb (oc_2 7 (aq_7 shX12_stale_0)) kic_m1 ?_
    exact W.iret (v := (-1)) hx hb hr (fun t ht hW => ⟨(-1), rfl, trivial, ht⟩) (fun _ h => absurd h List.not_mem_nil) (oc_172 8 (aq_8 shX12_stale_0))
set_option maxRecDepth 100000 in
set_option maxHeartbeats 4000000 in
theorem q_moves (l : Launch) (D : va_G) (cI cB cZ : ClassId) (g : Nat → Nat) (cn : Nat → Nat) (In : Nat → Int32) (Fn : Nat → Nat → Int32) (v0 v1 v2 : Int32) (sz : Nat) (hI : IM cn Fn) : Met l yX12_moves (CWS yX12_moves cX12_moves 5 (some .boolean)) (RM 2 0 0) (PBw [.ref (g 100), .int v0, .int v1, .int v2] D cI cB cZ (wM cI cB cZ g cn In Fn) sz) (va_Qi (fun (r : Int32) (u : (Nat → Nat) × (Nat → Int32) × (Nat → Nat → Int32)) => (fun r c2 I2 F2 => (r = 1 ∧ cn 58 < 60 ∧ c2 = va_up cn 58 (cn 58 + 1) ∧ I2 = In ∧ F2 = (va_up (va_up (va_up Fn 59 (upd (Fn 59) (cn 58) v0)) 60 (upd (Fn 60) (cn 58) v1)) 61 (upd (Fn 61) (cn 58) v2))) ∨ (r = 0 ∧ c2 = cn ∧ I2 = In ∧ F2 = Fn)) r u.1 u.2.1 u.2.2) (fun (u : (Nat → Nat) × (Nat → Int32) × (Nat → Nat → Int32)) (t : State) => va_P D vwCl (wM cI cB cZ g u.1 u.2.1 u.2.2) t.heap ∧ va_D (va_A (wM cI cB cZ g cn In Fn) sz) (wM cI cB cZ g u.1 u.2.1 u.2.2)) (va_A (wM cI cB cZ g cn In Fn) sz)) 0 0 (va_A (wM cI cB cZ g cn In Fn) sz) := by
  refine en_w (fun A => (va_Qi (fun (r : Int32) (u : (Nat → Nat) × (Nat → Int32) × (Nat → Nat → Int32)) => (fun (r : Int32) (c2 : Nat → Nat) (I2 : Nat → Int32) (F2 : Nat → Nat → Int32) => (r = 1 ∧ cn 58 < 60 ∧ c2 = va_up cn 58 (cn 58 + 1) ∧ I2 = In ∧ F2 = (va_up (va_up (va_up Fn 59 (upd (Fn 59) (cn 58) v0)) 60 (upd (Fn 60) (cn 58) v1)) 61 (upd (Fn 61) (cn 58) v2))) ∨ (r = 0 ∧ c2 = cn ∧ I2 = In ∧ F2 = Fn)) r u.1 u.2.1 u.2.2) (fun (u : (Nat → Nat) × (Nat → Int32) × (Nat → Nat → Int32)) (t : State) => va_P D vwCl (wM cI cB cZ g u.1 u.2.1 u.2.2) t.heap ∧ va_D A (wM cI cB cZ g u.1 u.2.1 u.2.2)) A)) rfl rfl pn_RX12 (Nat.le_of_ble_eq_true rfl) (fun p e s m below meth c A hx hb hml hown S hr hlocks hnm hA hP hK hD hS ls hl => ?_)
  have hl : lv_has ls 5 [(0, .ref (g 100)), (1, .int v0), (2, .int v1), (3, .int v2)] := hl
  have hi_cn : Hid (CB cn) := hI.b
  refine lv_aload_n hx hb (oc_42 0 shX12_moves_0) rfl (lvA0 hl) ?_
  refine lv_iload_n hx hb (oc_27 1 (aq_1 shX12_moves_0)) rfl (lvA1 hl) ?_
  refine vp_callSi (runV_ra (As := [.int v0]) (rest := []) S (q_isDrum l D cI cB cZ g cn In Fn v0 hI) kV_RX12_413 hK hP 0 rfl rfl rfl ⟨Nat.le_of_ble_eq_true rfl, Nat.le_of_ble_eq_true rfl⟩ ⟨Nat.le_of_ble_eq_true rfl, Nat.le_of_ble_eq_true rfl⟩ rfl hl.1 rfl (Nat.le_of_ble_eq_true rfl) (oc_182 2 (aq_2 shX12_moves_0) uw_1_157)) (fun r_1 h_2 => ?_)
  rcases h_2 with ⟨rfl, h_2⟩ | ⟨rfl, h_2⟩
  ·
    have h_2 : 0 ≤ v0.toInt ∧ v0.toInt < ((cn 57) : Int) := h_2
    refine lv_if_eq (tgt := 42) hx hb (oc_153 5 (aq_5 shX12_moves_0) sgw_0_37) rfl (fun h => absurd h cq_eq_1_0) (fun _ => ?_)
    refine lv_iload_n hx hb (oc_28 8 (aq_8 shX12_moves_0)) rfl (lvA2 hl) ?_
    refine lv_iconst (v := (-1)) hx hb (oc_2 9 (aq_9 shX12_moves_0)) kic_m1 ?_
    refine lv_icmp_eq (tgt := 21) hx hb (oc_159 10 (aq_10 shX12_moves_0) sgw_0_11) rfl (fun c_3 => ?_) (fun c_3 => ?_)
    ·
      have tc_3 : (v1.toInt : Int) = (-1) := congrArg Int32.toInt c_3
      refine lv_iload_n hx hb (oc_29 21 (aq_21 shX12_moves_0)) rfl (lvA3 hl) ?_
      refine lv_iconst (v := 0) hx hb (oc_3 22 (aq_22 shX12_moves_0)) kic_0 ?_
      refine lv_aload_n hx hb (oc_42 23 (aq_23 shX12_moves_0)) rfl (lvA0 hl) ?_
      refine gM_211 S hK hP (v := .int (nI (cn 0))) rfl (oc_180 24 shX12_moves_24 uw_0_211) ?_
      refine vp_callSi (runS_r (As := [.int v2, .int 0, .int (nI (cn 0))]) (rest := []) S (q_in l D cI cB cZ v2 0 (nI (cn 0)) ) kS_RX12_214 hK hP [] rfl ⟨Nat.le_of_ble_eq_true rfl, Nat.le_of_ble_eq_true rfl⟩ ⟨Nat.le_of_ble_eq_true rfl, Nat.le_of_ble_eq_true rfl⟩ rfl hl.1 rfl (Nat.le_of_ble_eq_true rfl) (oc_184 27 (aq_3 shX12_moves_24) uw_0_214)) (fun r_4 h_5 => ?_)
      have : (nI (cn 0)).toInt = (((cn 0) : Nat) : Int) := nI_toInt (by (first | omega | (have zz0 := Hid.u hi_cn; omega)))
      rcases h_5 with ⟨rfl, h_5⟩ | ⟨rfl, h_5⟩
      ·
        have h_5 : 0 ≤ v2.toInt ∧ v2.toInt ≤ (nI (cn 0)).toInt := h_5
        refine lv_if_eq (tgt := 42) hx hb dX12_moves_30 rfl (fun h => absurd h cq_eq_1_0) (fun _ => ?_)
        refine lv_aload_n hx hb (oc_42 33 (aq_9 shX12_moves_24)) rfl (lvA0 hl) ?_
        refine gM_410 S hK hP (v := .int (nI (cn 58))) rfl (oc_180 34 (aq_10 shX12_moves_24) uw_1_154) ?_
        refine lv_bipush (v := 60) hx hb (oc_16 37 (aq_13 shX12_moves_24) sgb_60) kbc_60 ?_
        have : (nI (cn 58)).toInt = (((cn 58) : Nat) : Int) := nI_toInt (by (first | omega | (have zz0 := Hid.u hi_cn; omega)))
        refine lv_icmp_ne (tgt := 44) hx hb (oc_160 39 (aq_15 shX12_moves_24) sgw_0_5) rfl (fun c_6 => ?_) (fun c_6 => ?_)
        ·
          have tc_6 : ((nI (cn 58)).toInt : Int) ≠ 60 := fun q => c_6 (Int32.toInt_inj.mp q)
          refine lv_aload_n hx hb (oc_42 44 (aq_20 shX12_moves_24)) rfl (lvA0 hl) ?_
          refine lv_iload_n hx hb (oc_27 45 (aq_21 shX12_moves_24)) rfl (lvA1 hl) ?_
          refine lv_sipush (v := 399) hx hb (oc_17 46 (aq_22 shX12_moves_24) sgw_1_143) (by decide) ?_
          refine vp_callSi (runV_ra (As := [.int v0, .int 399]) (rest := []) S (q_latest l D cI cB cZ g cn In Fn v0 399 hI) kV_RX12_416 hK hP 0 rfl rfl rfl ⟨Nat.le_of_ble_eq_true rfl, Nat.le_of_ble_eq_true rfl⟩ ⟨Nat.le_of_ble_eq_true rfl, Nat.le_of_ble_eq_true rfl⟩ rfl hl.1 rfl (Nat.le_of_ble_eq_true rfl) (oc_182 49 shX12_moves_49 uw_1_160)) (fun r_7 h_8 => ?_)
          rcases h_8 with rfl | ⟨mr_7, hr_7, rfl⟩
          ·
            refine lv_istore (lv' := [(4, .int (-1)), (0, .ref (g 100)), (1, .int v0), (2, .int v1), (3, .int v2)]) hx hb dX12_moves_52 hl (ltb rfl) rfl (fun ls hl => ?_)
            refine lv_iload hx hb dX12_moves_54 (lvA0 hl) ?_
            refine lv_iconst (v := (-1)) hx hb dX12_moves_56 kic_m1 ?_
            refine lv_icmp_eq (tgt := 73) hx hb dX12_moves_57 rfl (fun _ => ?_) (fun h => absurd h cq_eq_m1_m1)
            refine lv_aload_n hx hb dX12_moves_73 rfl (lvA1 hl) ?_
            refine gM_129 S hK hP (v := .ref (g 59)) rfl dX12_moves_74 ?_
            refine lv_aload_n hx hb dX12_moves_77 rfl (lvA1 hl) ?_
            refine gM_410 S hK hP (v := .int (nI (cn 58))) rfl dX12_moves_78 ?_
            refine lv_iload_n hx hb dX12_moves_81 rfl (lvA2 hl) ?_
            have kb_1 : (cn 58) < 60 := by (first | omega | (have zz0 := Hid.u hi_cn; omega))
            refine stM_59 hx hb hK hP hD hS (Fn2 := (va_up Fn 59 (upd (Fn 59) (cn 58) v0))) (vp_in_nI kb_1 (ltb rfl)) (nI_clamp (Nat.lt_trans kb_1 (ltb rfl))) rfl dX12_moves_82 (fun H locs hP hD hS => ?_)
            refine lv_aload_n hx hb dX12_moves_83 rfl (lvA1 hl) ?_
            refine gM_132 S hK hP (v := .ref (g 60)) rfl dX12_moves_84 ?_
            refine lv_aload_n hx hb dX12_moves_87 rfl (lvA1 hl) ?_
            refine gM_410 S hK hP (v := .int (nI (cn 58))) rfl dX12_moves_88 ?_
            refine lv_iload_n hx hb dX12_moves_91 rfl (lvA3 hl) ?_
            refine stM_60 hx hb hK hP hD hS (Fn2 := (va_up (va_up Fn 59 (upd (Fn 59) (cn 58) v0)) 60 (upd (Fn 60) (cn 58) v1))) (vp_in_nI kb_1 (ltb rfl)) (nI_clamp (Nat.lt_trans kb_1 (ltb rfl))) rfl dX12_moves_92 (fun H locs hP hD hS => ?_)
            refine lv_aload_n hx hb dX12_moves_93 rfl (lvA1 hl) ?_
            refine gM_135 S hK hP (v := .ref (g 61)) rfl dX12_moves_94 ?_
            refine lv_aload_n hx hb dX12_moves_97 rfl (lvA1 hl) ?_
            refine gM_410 S hK hP (v := .int (nI (cn 58))) rfl dX12_moves_98 ?_
            refine lv_iload_n hx hb dX12_moves_101 rfl (lvA4 hl) ?_
            refine stM_61 hx hb hK hP hD hS (Fn2 := (va_up (va_up (va_up Fn 59 (upd (Fn 59) (cn 58) v0)) 60 (upd (Fn 60) (cn 58) v1)) 61 (upd (Fn 61) (cn 58) v2))) (vp_in_nI kb_1 (ltb rfl)) (nI_clamp (Nat.lt_trans kb_1 (ltb rfl))) rfl dX12_moves_102 (fun H locs hP hD hS => ?_)
            refine lv_aload_n hx hb dX12_moves_103 rfl (lvA1 hl) ?_
            refine lv_aload_n hx hb dX12_moves_104 rfl (lvA1 hl) ?_
            refine gM_410 S hK hP (v := .int (nI (cn 58))) rfl dX12_moves_105 ?_
            refine lv_iconst (v := 1) hx hb dX12_moves_108 kic_1 ?_
            refine lv_iadd hx hb dX12_moves_109 ?_
            refine lv_topi (fun y_9 ey_9 => ?_)
            obtain rfl : y_9 = (nI ((cn 58) + 1)) := ey_9.trans (nI_add (cn 58) 1)
            refine pM_410 S hK hP hD hS (a := ((cn 58) + 1)) (cn2 := (va_up cn 58 ((cn 58) + 1))) rfl rfl dX12_moves_110 (fun H locs hP hD hS => ?_)
            refine lv_iconst (v := 1) hx hb dX12_moves_113 kic_1 ?_
            exact W.zret (v := 1) hx hb hr rfl (fun t ht hW => ⟨⟨1, ((va_up cn 58 ((cn 58) + 1)), In, (va_up (va_up (va_up Fn 59 (upd (Fn 59) (cn 58) v0)) 60 (upd (Fn 60) (cn 58) v1)) 61 (upd (Fn 61) (cn 58) v2))), rfl, (Or.inl ⟨rfl, by (first | omega | (have zz0 := Hid.u hi_cn; omega)), rfl, rfl, rfl⟩), by rw [ht]; exact hP, hD⟩, hS.F ht⟩) hS.2.2 dX12_moves_114
          ·
            refine lv_istore (lv' := [(4, .int (nI mr_7)), (0, .ref (g 100)), (1, .int v0), (2, .int v1), (3, .int v2)]) hx hb dX12_moves_52 hl (ltb rfl) rfl (fun ls hl => ?_)
            refine lv_iload hx hb dX12_moves_54 (lvA0 hl) ?_
            refine lv_iconst (v := (-1)) hx hb dX12_moves_56 kic_m1 ?_
            have : (nI mr_7).toInt = ((mr_7 : Nat) : Int) := nI_toInt (by (first | omega | (have zz0 := Hid.u hi_cn; omega)))
            refine lv_icmp_eq (tgt := 73) hx hb dX12_moves_57 rfl (fun c_10 => False.elim (by have tc_10 : ((nI mr_7).toInt : Int) = (-1) := congrArg Int32.toInt c_10; (first | omega | (have zz0 := Hid.u hi_cn; omega)))) (fun c_10 => ?_)
            have tc_10 : ((nI mr_7).toInt : Int) ≠ (-1) := fun q => c_10 (Int32.toInt_inj.mp q)
            refine lv_aload_n hx hb (oc_42 60 (aq_11 shX12_moves_49)) rfl (lvA1 hl) ?_
            refine gM_135 S hK hP (v := .ref (g 61)) rfl (oc_180 61 (aq_12 shX12_moves_49) uw_0_135) ?_
            refine lv_iload hx hb (oc_21 64 (aq_15 shX12_moves_49) ub_4) (lvA0 hl) ?_
            have kb_2 : mr_7 < 60 := by (first | omega | (have zz0 := Hid.u hi_cn; omega))
            refine ldM_61 hx hb hK hP (x := ((Fn 61) mr_7)) (vp_in_nI kb_2 (ltb rfl)) (nI_clamp (Nat.lt_trans kb_2 (ltb rfl))) rfl (oc_46 66 (aq_17 shX12_moves_49)) ?_
            refine lv_iload_n hx hb (oc_29 67 (aq_18 shX12_moves_49)) rfl (lvA4 hl) ?_
            refine lv_icmp_le (tgt := 73) hx hb (oc_164 68 (aq_19 shX12_moves_49) sgw_0_5) rfl (fun c_11 => ?_) (fun c_11 => ?_)
            ·
              have tc_11 : (((Fn 61) mr_7).toInt : Int) ≤ v2.toInt := Int32.le_iff_toInt_le.mp c_11
              refine lv_aload_n hx hb dX12_moves_73 rfl (lvA1 hl) ?_
              refine gM_129 S hK hP (v := .ref (g 59)) rfl dX12_moves_74 ?_
              refine lv_aload_n hx hb dX12_moves_77 rfl (lvA1 hl) ?_
              refine gM_410 S hK hP (v := .int (nI (cn 58))) rfl dX12_moves_78 ?_
              refine lv_iload_n hx hb dX12_moves_81 rfl (lvA2 hl) ?_
              have kb_3 : (cn 58) < 60 := by (first | omega | (have zz0 := Hid.u hi_cn; omega))
              refine stM_59 hx hb hK hP hD hS (Fn2 := (va_up Fn 59 (upd (Fn 59) (cn 58) v0))) (vp_in_nI kb_3 (ltb rfl)) (nI_clamp (Nat.lt_trans kb_3 (ltb rfl))) rfl dX12_moves_82 (fun H locs hP hD hS => ?_)
              refine lv_aload_n hx hb dX12_moves_83 rfl (lvA1 hl) ?_
              refine gM_132 S hK hP (v := .ref (g 60)) rfl dX12_moves_84 ?_
              refine lv_aload_n hx hb dX12_moves_87 rfl (lvA1 hl) ?_
              refine gM_410 S hK hP (v := .int (nI (cn 58))) rfl dX12_moves_88 ?_
              refine lv_iload_n hx hb dX12_moves_91 rfl (lvA3 hl) ?_
              refine stM_60 hx hb hK hP hD hS (Fn2 := (va_up (va_up Fn 59 (upd (Fn 59) (cn 58) v0)) 60 (upd (Fn 60) (cn 58) v1))) (vp_in_nI kb_3 (ltb rfl)) (nI_clamp (Nat.lt_trans kb_3 (ltb rfl))) rfl dX12_moves_92 (fun H locs hP hD hS => ?_)
              refine lv_aload_n hx hb dX12_moves_93 rfl (lvA1 hl) ?_
              refine gM_135 S hK hP (v := .ref (g 61)) rfl dX12_moves_94 ?_
              refine lv_aload_n hx hb dX12_moves_97 rfl (lvA1 hl) ?_
              refine gM_410 S hK hP (v := .int (nI (cn 58))) rfl dX12_moves_98 ?_
              refine lv_iload_n hx hb dX12_moves_101 rfl (lvA4 hl) ?_
              refine stM_61 hx hb hK hP hD hS (Fn2 := (va_up (va_up (va_up Fn 59 (upd (Fn 59) (cn 58) v0)) 60 (upd (Fn 60) (cn 58) v1)) 61 (upd (Fn 61) (cn 58) v2))) (vp_in_nI kb_3 (ltb rfl)) (nI_clamp (Nat.lt_trans kb_3 (ltb rfl))) rfl dX12_moves_102 (fun H locs hP hD hS => ?_)
              refine lv_aload_n hx hb dX12_moves_103 rfl (lvA1 hl) ?_
              refine lv_aload_n hx hb dX12_moves_104 rfl (lvA1 hl) ?_
              refine gM_410 S hK hP (v := .int (nI (cn 58))) rfl dX12_moves_105 ?_
              refine lv_iconst (v := 1) hx hb dX12_moves_108 kic_1 ?_
              refine lv_iadd hx hb dX12_moves_109 ?_
              refine lv_topi (fun y_12 ey_12 => ?_)
              obtain rfl : y_12 = (nI ((cn 58) + 1)) := ey_12.trans (nI_add (cn 58) 1)
              refine pM_410 S hK hP hD hS (a := ((cn 58) + 1)) (cn2 := (va_up cn 58 ((cn 58) + 1))) rfl rfl dX12_moves_110 (fun H locs hP hD hS => ?_)
              refine lv_iconst (v := 1) hx hb dX12_moves_113 kic_1 ?_
              exact W.zret (v := 1) hx hb hr rfl (fun t ht hW => ⟨⟨1, ((va_up cn 58 ((cn 58) + 1)), In, (va_up (va_up (va_up Fn 59 (upd (Fn 59) (cn 58) v0)) 60 (upd (Fn 60) (cn 58) v1)) 61 (upd (Fn 61) (cn 58) v2))), rfl, (Or.inl ⟨rfl, by (first | omega | (have zz0 := Hid.u hi_cn; omega)), rfl, rfl, rfl⟩), by rw [ht]; exact hP, hD⟩, hS.F ht⟩) hS.2.2 dX12_moves_114
            ·
              have tc_11 : (v2.toInt : Int) < ((Fn 61) mr_7).toInt := Int32.lt_iff_toInt_lt.mp (Int32.not_le.mp c_11)
              refine lv_iconst (v := 0) hx hb (oc_3 71 (aq_22 shX12_moves_49)) kic_0 ?_
              exact W.zret (v := 0) hx hb hr rfl (fun t ht hW => ⟨⟨0, (cn, In, Fn), rfl, (Or.inr ⟨rfl, rfl, rfl, rfl⟩), by rw [ht]; exact hP, hD⟩, hS.F ht⟩) hS.2.2 (oc_172 72 (aq_23 shX12_moves_49))
        ·
          have tc_6 : ((nI (cn 58)).toInt : Int) = 60 := congrArg Int32.toInt c_6
          refine lv_iconst (v := 0) hx hb dX12_moves_42 kic_0 ?_
          exact W.zret (v := 0) hx hb hr rfl (fun t ht hW => ⟨⟨0, (cn, In, Fn), rfl, (Or.inr ⟨rfl, rfl, rfl, rfl⟩), by rw [ht]; exact hP, hD⟩, hS.F ht⟩) hS.2.2 dX12_moves_43
      ·
        have h_5 : ¬ (0 ≤ v2.toInt ∧ v2.toInt ≤ (nI (cn 0)).toInt) := h_5
        refine lv_if_eq (tgt := 42) hx hb dX12_moves_30 rfl (fun _ => ?_) (fun h => absurd h cq_eq_0_0)
        refine lv_iconst (v := 0) hx hb dX12_moves_42 kic_0 ?_
        exact W.zret (v := 0) hx hb hr rfl (fun t ht hW => ⟨⟨0, (cn, In, Fn), rfl, (Or.inr ⟨rfl, rfl, rfl, rfl⟩), by rw [ht]; exact hP, hD⟩, hS.F ht⟩) hS.2.2 dX12_moves_43
    ·
      have tc_3 : (v1.toInt : Int) ≠ (-1) := fun q => c_3 (Int32.toInt_inj.mp q)
      refine lv_aload_n hx hb (oc_42 13 (aq_13 shX12_moves_0)) rfl (lvA0 hl) ?_
      refine lv_iload_n hx hb (oc_28 14 (aq_14 shX12_moves_0)) rfl (lvA2 hl) ?_
      refine vp_callSi (runV_ra (As := [.int v1]) (rest := []) S (q_isKitchen l D cI cB cZ g cn In Fn v1 hI) kV_RX12_218 hK hP 0 rfl rfl rfl ⟨Nat.le_of_ble_eq_true rfl, Nat.le_of_ble_eq_true rfl⟩ ⟨Nat.le_of_ble_eq_true rfl, Nat.le_of_ble_eq_true rfl⟩ rfl hl.1 rfl (Nat.le_of_ble_eq_true rfl) (oc_182 15 (aq_15 shX12_moves_0) uw_0_218)) (fun r_13 h_14 => ?_)
      rcases h_14 with ⟨rfl, h_14⟩ | ⟨rfl, h_14⟩
      ·
        have h_14 : 0 ≤ v1.toInt ∧ v1.toInt < ((cn 1) : Int) := h_14
        refine lv_if_eq (tgt := 42) hx hb (oc_153 18 (aq_18 shX12_moves_0) sgw_0_24) rfl (fun h => absurd h cq_eq_1_0) (fun _ => ?_)
        refine lv_iload_n hx hb (oc_29 21 (aq_21 shX12_moves_0)) rfl (lvA3 hl) ?_
        refine lv_iconst (v := 0) hx hb (oc_3 22 (aq_22 shX12_moves_0)) kic_0 ?_
        refine lv_aload_n hx hb (oc_42 23 (aq_23 shX12_moves_0)) rfl (lvA0 hl) ?_
        refine gM_211 S hK hP (v := .int (nI (cn 0))) rfl (oc_180 24 shX12_moves_24 uw_0_211) ?_
        refine vp_callSi (runS_r (As := [.int v2, .int 0, .int (nI (cn 0))]) (rest := []) S (q_in l D cI cB cZ v2 0 (nI (cn 0)) ) kS_RX12_214 hK hP [] rfl ⟨Nat.le_of_ble_eq_true rfl, Nat.le_of_ble_eq_true rfl⟩ ⟨Nat.le_of_ble_eq_true rfl, Nat.le_of_ble_eq_true rfl⟩ rfl hl.1 rfl (Nat.le_of_ble_eq_true rfl) (oc_184 27 (aq_3 shX12_moves_24) uw_0_214)) (fun r_15 h_16 => ?_)
        have : (nI (cn 0)).toInt = (((cn 0) : Nat) : Int) := nI_toInt (by (first | omega | (have zz0 := Hid.u hi_cn; omega)))
        rcases h_16 with ⟨rfl, h_16⟩ | ⟨rfl, h_16⟩
        ·
          have h_16 : 0 ≤ v2.toInt ∧ v2.toInt ≤ (nI (cn 0)).toInt := h_16
          refine lv_if_eq (tgt := 42) hx hb dX12_moves_30 rfl (fun h => absurd h cq_eq_1_0) (fun _ => ?_)
          refine lv_aload_n hx hb (oc_42 33 (aq_9 shX12_moves_24)) rfl (lvA0 hl) ?_
          refine gM_410 S hK hP (v := .int (nI (cn 58))) rfl (oc_180 34 (aq_10 shX12_moves_24) uw_1_154) ?_
          refine lv_bipush (v := 60) hx hb (oc_16 37 (aq_13 shX12_moves_24) sgb_60) kbc_60 ?_
          have : (nI (cn 58)).toInt = (((cn 58) : Nat) : Int) := nI_toInt (by (first | omega | (have zz0 := Hid.u hi_cn; omega)))
          refine lv_icmp_ne (tgt := 44) hx hb (oc_160 39 (aq_15 shX12_moves_24) sgw_0_5) rfl (fun c_17 => ?_) (fun c_17 => ?_)
          ·
            have tc_17 : ((nI (cn 58)).toInt : Int) ≠ 60 := fun q => c_17 (Int32.toInt_inj.mp q)
            refine lv_aload_n hx hb (oc_42 44 (aq_20 shX12_moves_24)) rfl (lvA0 hl) ?_
            refine lv_iload_n hx hb (oc_27 45 (aq_21 shX12_moves_24)) rfl (lvA1 hl) ?_
            refine lv_sipush (v := 399) hx hb (oc_17 46 (aq_22 shX12_moves_24) sgw_1_143) (by decide) ?_
            refine vp_callSi (runV_ra (As := [.int v0, .int 399]) (rest := []) S (q_latest l D cI cB cZ g cn In Fn v0 399 hI) kV_RX12_416 hK hP 0 rfl rfl rfl ⟨Nat.le_of_ble_eq_true rfl, Nat.le_of_ble_eq_true rfl⟩ ⟨Nat.le_of_ble_eq_true rfl, Nat.le_of_ble_eq_true rfl⟩ rfl hl.1 rfl (Nat.le_of_ble_eq_true rfl) (oc_182 49 shX12_moves_49 uw_1_160)) (fun r_18 h_19 => ?_)
            rcases h_19 with rfl | ⟨mr_18, hr_18, rfl⟩
            ·
              refine lv_istore (lv' := [(4, .int (-1)), (0, .ref (g 100)), (1, .int v0), (2, .int v1), (3, .int v2)]) hx hb dX12_moves_52 hl (ltb rfl) rfl (fun ls hl => ?_)
              refine lv_iload hx hb dX12_moves_54 (lvA0 hl) ?_
              refine lv_iconst (v := (-1)) hx hb dX12_moves_56 kic_m1 ?_
              refine lv_icmp_eq (tgt := 73) hx hb dX12_moves_57 rfl (fun _ => ?_) (fun h => absurd h cq_eq_m1_m1)
              refine lv_aload_n hx hb dX12_moves_73 rfl (lvA1 hl) ?_
              refine gM_129 S hK hP (v := .ref (g 59)) rfl dX12_moves_74 ?_
              refine lv_aload_n hx hb dX12_moves_77 rfl (lvA1 hl) ?_
              refine gM_410 S hK hP (v := .int (nI (cn 58))) rfl dX12_moves_78 ?_
              refine lv_iload_n hx hb dX12_moves_81 rfl (lvA2 hl) ?_
              have kb_4 : (cn 58) < 60 := by (first | omega | (have zz0 := Hid.u hi_cn; omega))
              refine stM_59 hx hb hK hP hD hS (Fn2 := (va_up Fn 59 (upd (Fn 59) (cn 58) v0))) (vp_in_nI kb_4 (ltb rfl)) (nI_clamp (Nat.lt_trans kb_4 (ltb rfl))) rfl dX12_moves_82 (fun H locs hP hD hS => ?_)
              refine lv_aload_n hx hb dX12_moves_83 rfl (lvA1 hl) ?_
              refine gM_132 S hK hP (v := .ref (g 60)) rfl dX12_moves_84 ?_
              refine lv_aload_n hx hb dX12_moves_87 rfl (lvA1 hl) ?_
              refine gM_410 S hK hP (v := .int (nI (cn 58))) rfl dX12_moves_88 ?_
              refine lv_iload_n hx hb dX12_moves_91 rfl (lvA3 hl) ?_
              refine stM_60 hx hb hK hP hD hS (Fn2 := (va_up (va_up Fn 59 (upd (Fn 59) (cn 58) v0)) 60 (upd (Fn 60) (cn 58) v1))) (vp_in_nI kb_4 (ltb rfl)) (nI_clamp (Nat.lt_trans kb_4 (ltb rfl))) rfl dX12_moves_92 (fun H locs hP hD hS => ?_)
              refine lv_aload_n hx hb dX12_moves_93 rfl (lvA1 hl) ?_
              refine gM_135 S hK hP (v := .ref (g 61)) rfl dX12_moves_94 ?_
              refine lv_aload_n hx hb dX12_moves_97 rfl (lvA1 hl) ?_
              refine gM_410 S hK hP (v := .int (nI (cn 58))) rfl dX12_moves_98 ?_
              refine lv_iload_n hx hb dX12_moves_101 rfl (lvA4 hl) ?_
              refine stM_61 hx hb hK hP hD hS (Fn2 := (va_up (va_up (va_up Fn 59 (upd (Fn 59) (cn 58) v0)) 60 (upd (Fn 60) (cn 58) v1)) 61 (upd (Fn 61) (cn 58) v2))) (vp_in_nI kb_4 (ltb rfl)) (nI_clamp (Nat.lt_trans kb_4 (ltb rfl))) rfl dX12_moves_102 (fun H locs hP hD hS => ?_)
              refine lv_aload_n hx hb dX12_moves_103 rfl (lvA1 hl) ?_
              refine lv_aload_n hx hb dX12_moves_104 rfl (lvA1 hl) ?_
              refine gM_410 S hK hP (v := .int (nI (cn 58))) rfl dX12_moves_105 ?_
              refine lv_iconst (v := 1) hx hb dX12_moves_108 kic_1 ?_
              refine lv_iadd hx hb dX12_moves_109 ?_
              refine lv_topi (fun y_20 ey_20 => ?_)
              obtain rfl : y_20 = (nI ((cn 58) + 1)) := ey_20.trans (nI_add (cn 58) 1)
              refine pM_410 S hK hP hD hS (a := ((cn 58) + 1)) (cn2 := (va_up cn 58 ((cn 58) + 1))) rfl rfl dX12_moves_110 (fun H locs hP hD hS => ?_)
              refine lv_iconst (v := 1) hx hb dX12_moves_113 kic_1 ?_
              exact W.zret (v := 1) hx hb hr rfl (fun t ht hW => ⟨⟨1, ((va_up cn 58 ((cn 58) + 1)), In, (va_up (va_up (va_up Fn 59 (upd (Fn 59) (cn 58) v0)) 60 (upd (Fn 60) (cn 58) v1)) 61 (upd (Fn 61) (cn 58) v2))), rfl, (Or.inl ⟨rfl, by (first | omega | (have zz0 := Hid.u hi_cn; omega)), rfl, rfl, rfl⟩), by rw [ht]; exact hP, hD⟩, hS.F ht⟩) hS.2.2 dX12_moves_114
            ·
              refine lv_istore (lv' := [(4, .int (nI mr_18)), (0, .ref (g 100)), (1, .int v0), (2, .int v1), (3, .int v2)]) hx hb dX12_moves_52 hl (ltb rfl) rfl (fun ls hl => ?_)
              refine lv_iload hx hb dX12_moves_54 (lvA0 hl) ?_
              refine lv_iconst (v := (-1)) hx hb dX12_moves_56 kic_m1 ?_
              have : (nI mr_18).toInt = ((mr_18 : Nat) : Int) := nI_toInt (by (first | omega | (have zz0 := Hid.u hi_cn; omega)))
              refine lv_icmp_eq (tgt := 73) hx hb dX12_moves_57 rfl (fun c_21 => False.elim (by have tc_21 : ((nI mr_18).toInt : Int) = (-1) := congrArg Int32.toInt c_21; (first | omega | (have zz0 := Hid.u hi_cn; omega)))) (fun c_21 => ?_)
              have tc_21 : ((nI mr_18).toInt : Int) ≠ (-1) := fun q => c_21 (Int32.toInt_inj.mp q)
              refine lv_aload_n hx hb (oc_42 60 (aq_11 shX12_moves_49)) rfl (lvA1 hl) ?_
              refine gM_135 S hK hP (v := .ref (g 61)) rfl (oc_180 61 (aq_12 shX12_moves_49) uw_0_135) ?_
              refine lv_iload hx hb (oc_21 64 (aq_15 shX12_moves_49) ub_4) (lvA0 hl) ?_
              have kb_5 : mr_18 < 60 := by (first | omega | (have zz0 := Hid.u hi_cn; omega))
              refine ldM_61 hx hb hK hP (x := ((Fn 61) mr_18)) (vp_in_nI kb_5 (ltb rfl)) (nI_clamp (Nat.lt_trans kb_5 (ltb rfl))) rfl (oc_46 66 (aq_17 shX12_moves_49)) ?_
              refine lv_iload_n hx hb (oc_29 67 (aq_18 shX12_moves_49)) rfl (lvA4 hl) ?_
              refine lv_icmp_le (tgt := 73) hx hb (oc_164 68 (aq_19 shX12_moves_49) sgw_0_5) rfl (fun c_22 => ?_) (fun c_22 => ?_)
              ·
                have tc_22 : (((Fn 61) mr_18).toInt : Int) ≤ v2.toInt := Int32.le_iff_toInt_le.mp c_22
                refine lv_aload_n hx hb dX12_moves_73 rfl (lvA1 hl) ?_
                refine gM_129 S hK hP (v := .ref (g 59)) rfl dX12_moves_74 ?_
                refine lv_aload_n hx hb dX12_moves_77 rfl (lvA1 hl) ?_
                refine gM_410 S hK hP (v := .int (nI (cn 58))) rfl dX12_moves_78 ?_
                refine lv_iload_n hx hb dX12_moves_81 rfl (lvA2 hl) ?_
                have kb_6 : (cn 58) < 60 := by (first | omega | (have zz0 := Hid.u hi_cn; omega))
                refine stM_59 hx hb hK hP hD hS (Fn2 := (va_up Fn 59 (upd (Fn 59) (cn 58) v0))) (vp_in_nI kb_6 (ltb rfl)) (nI_clamp (Nat.lt_trans kb_6 (ltb rfl))) rfl dX12_moves_82 (fun H locs hP hD hS => ?_)
                refine lv_aload_n hx hb dX12_moves_83 rfl (lvA1 hl) ?_
                refine gM_132 S hK hP (v := .ref (g 60)) rfl dX12_moves_84 ?_
                refine lv_aload_n hx hb dX12_moves_87 rfl (lvA1 hl) ?_
                refine gM_410 S hK hP (v := .int (nI (cn 58))) rfl dX12_moves_88 ?_
                refine lv_iload_n hx hb dX12_moves_91 rfl (lvA3 hl) ?_
                refine stM_60 hx hb hK hP hD hS (Fn2 := (va_up (va_up Fn 59 (upd (Fn 59) (cn 58) v0)) 60 (upd (Fn 60) (cn 58) v1))) (vp_in_nI kb_6 (ltb rfl)) (nI_clamp (Nat.lt_trans kb_6 (ltb rfl))) rfl dX12_moves_92 (fun H locs hP hD hS => ?_)
                refine lv_aload_n hx hb dX12_moves_93 rfl (lvA1 hl) ?_
                refine gM_135 S hK hP (v := .ref (g 61)) rfl dX12_moves_94 ?_
                refine lv_aload_n hx hb dX12_moves_97 rfl (lvA1 hl) ?_
                refine gM_410 S hK hP (v := .int (nI (cn 58))) rfl dX12_moves_98 ?_
                refine lv_iload_n hx hb dX12_moves_101 rfl (lvA4 hl) ?_
                refine stM_61 hx hb hK hP hD hS (Fn2 := (va_up (va_up (va_up Fn 59 (upd (Fn 59) (cn 58) v0)) 60 (upd (Fn 60) (cn 58) v1)) 61 (upd (Fn 61) (cn 58) v2))) (vp_in_nI kb_6 (ltb rfl)) (nI_clamp (Nat.lt_trans kb_6 (ltb rfl))) rfl dX12_moves_102 (fun H locs hP hD hS => ?_)
                refine lv_aload_n hx hb dX12_moves_103 rfl (lvA1 hl) ?_
                refine lv_aload_n hx hb dX12_moves_104 rfl (lvA1 hl) ?_
                refine gM_410 S hK hP (v := .int (nI (cn 58))) rfl dX12_moves_105 ?_
                refine lv_iconst (v := 1) hx hb dX12_moves_108 kic_1 ?_
                refine lv_iadd hx hb dX12_moves_109 ?_
                refine lv_topi (fun y_23 ey_23 => ?_)
                obtain rfl : y_23 = (nI ((cn 58) + 1)) := ey_23.trans (nI_add (cn 58) 1)
                refine pM_410 S hK hP hD hS (a := ((cn 58) + 1)) (cn2 := (va_up cn 58 ((cn 58) + 1))) rfl rfl dX12_moves_110 (fun H locs hP hD hS => ?_)
                refine lv_iconst (v := 1) hx hb dX12_moves_113 kic_1 ?_
                exact W.zret (v := 1) hx hb hr rfl (fun t ht hW => ⟨⟨1, ((va_up cn 58 ((cn 58) + 1)), In, (va_up (va_up (va_up Fn 59 (upd (Fn 59) (cn 58) v0)) 60 (upd (Fn 60) (cn 58) v1)) 61 (upd (Fn 61) (cn 58) v2))), rfl, (Or.inl ⟨rfl, by (first | omega | (have zz0 := Hid.u hi_cn; omega)), rfl, rfl, rfl⟩), by rw [ht]; exact hP, hD⟩, hS.F ht⟩) hS.2.2 dX12_moves_114
              ·
                have tc_22 : (v2.toInt : Int) < ((Fn 61) mr_18).toInt := Int32.lt_iff_toInt_lt.mp (Int32.not_le.mp c_22)
                refine lv_iconst (v := 0) hx hb (oc_3 71 (aq_22 shX12_moves_49)) kic_0 ?_
                exact W.zret (v := 0) hx hb hr rfl (fun t ht hW => ⟨⟨0, (cn, In, Fn), rfl, (Or.inr ⟨rfl, rfl, rfl, rfl⟩), by rw [ht]; exact hP, hD⟩, hS.F ht⟩) hS.2.2 (oc_172 72 (aq_23 shX12_moves_49))
          ·
            have tc_17 : ((nI (cn 58)).toInt : Int) = 60 := congrArg Int32.toInt c_17
            refine lv_iconst (v := 0) hx hb dX12_moves_42 kic_0 ?_
            exact W.zret (v := 0) hx hb hr rfl (fun t ht hW => ⟨⟨0, (cn, In, Fn), rfl, (Or.inr ⟨rfl, rfl, rfl, rfl⟩), by rw [ht]; exact hP, hD⟩, hS.F ht⟩) hS.2.2 dX12_moves_43
        ·
          have h_16 : ¬ (0 ≤ v2.toInt ∧ v2.toInt ≤ (nI (cn 0)).toInt) := h_16
          refine lv_if_eq (tgt := 42) hx hb dX12_moves_30 rfl (fun _ => ?_) (fun h => absurd h cq_eq_0_0)
          refine lv_iconst (v := 0) hx hb dX12_moves_42 kic_0 ?_
          exact W.zret (v := 0) hx hb hr rfl (fun t ht hW => ⟨⟨0, (cn, In, Fn), rfl, (Or.inr ⟨rfl, rfl, rfl, rfl⟩), by rw [ht]; exact hP, hD⟩, hS.F ht⟩) hS.2.2 dX12_moves_43
      ·
        have h_14 : ¬ (0 ≤ v1.toInt ∧ v1.toInt < ((cn 1) : Int)) := h_14
        refine lv_if_eq (tgt := 42) hx hb (oc_153 18 (aq_18 shX12_moves_0) sgw_0_24) rfl (fun _ => ?_) (fun h => absurd h cq_eq_0_0)
        refine lv_iconst (v := 0) hx hb dX12_moves_42 kic_0 ?_
        exact W.zret (v := 0) hx hb hr rfl (fun t ht hW => ⟨⟨0, (cn, In, Fn), rfl, (Or.inr ⟨rfl, rfl, rfl, rfl⟩), by rw [ht]; exact hP, hD⟩, hS.F ht⟩) hS.2.2 dX12_moves_43
  ·
    have h_2 : ¬ (0 ≤ v0.toInt ∧ v0.toInt < ((cn 57) : Int)) := h_2
    refine lv_if_eq (tgt := 42) hx hb (oc_153 5 (aq_5 shX12_moves_0) sgw_0_37) rfl (fun _ => ?_) (fun h => absurd h cq_eq_0_0)
    refine lv_iconst (v := 0) hx hb dX12_moves_42 kic_0 ?_
    exact W.zret (v := 0) hx hb hr rfl (fun t ht hW => ⟨⟨0, (cn, In, Fn), rfl, (Or.inr ⟨rfl, rfl, rfl, rfl⟩), by rw [ht]; exact hP, hD⟩, hS.F ht⟩) hS.2.2 dX12_moves_43
set_option maxRecDepth 100000 in
set_option maxHeartbeats 4000000 in
theorem q_isFree (l : Launch) (D : va_G) (cI cB cZ : ClassId) (g : Nat → Nat) (cn : Nat → Nat) (In : Nat → Int32) (Fn : Nat → Nat → Int32) (v0 : Int32) (hI : IM cn Fn) : Met l yX12_isFree (CWS yX12_isFree cX12_isFree 2 (some .boolean)) (RM 1 0 0) (PBr [.ref (g 100), .int v0] D cI cB cZ (wM cI cB cZ g cn In Fn)) (vp_Si (fun r => r = 0 ∨ (r = 1 ∧ 0 ≤ v0.toInt ∧ v0.toInt < (cn 2 : Int)))) 0 0 (fun _ => False) := by
  refine en_r rfl pn_RX12 (Nat.le_of_ble_eq_true rfl) (fun p e s m below meth c hx hb hml hown S hr hlocks hnm hP hK hS ls hl => ?_)
  have hl : lv_has ls 2 [(0, .ref (g 100)), (1, .int v0)] := hl
  have hi_cn : Hid (CB cn) := hI.b
  refine lv_aload_n hx hb (oc_42 0 shX12_isFree_0) rfl (lvA0 hl) ?_
  refine lv_iload_n hx hb (oc_27 1 (aq_1 shX12_isFree_0)) rfl (lvA1 hl) ?_
  refine vp_callSi (runV_ra (As := [.int v0]) (rest := []) S (q_isLoad l D cI cB cZ g cn In Fn v0 hI) kV_RX12_335 hK hP 0 rfl rfl rfl ⟨Nat.le_of_ble_eq_true rfl, Nat.le_of_ble_eq_true rfl⟩ ⟨Nat.le_of_ble_eq_true rfl, Nat.le_of_ble_eq_true rfl⟩ rfl hl.1 rfl (Nat.le_of_ble_eq_true rfl) (oc_182 2 (aq_2 shX12_isFree_0) uw_1_79)) (fun r_1 h_2 => ?_)
  rcases h_2 with ⟨rfl, h_2⟩ | ⟨rfl, h_2⟩
  ·
    have h_2 : 0 ≤ v0.toInt ∧ v0.toInt < ((cn 2) : Int) := h_2
    refine lv_if_eq (tgt := 35) hx hb (oc_153 5 (aq_5 shX12_isFree_0) sgw_0_30) rfl (fun h => absurd h cq_eq_1_0) (fun _ => ?_)
    obtain ⟨d0, hd0, rfl⟩ := nI_of (x := v0) (fun q => by have := Int32.lt_iff_toInt_lt.mp q; have e : (0 : Int32).toInt = 0 := rfl; (first | omega | (have zz0 := Hid.u hi_cn; omega)))
    have td0 : (nI d0).toInt = (d0 : Int) := nI_toInt hd0
    have zd0 : (nI d0).toInt.toNat = d0 := by (first | omega | (have zz0 := Hid.u hi_cn; omega))
    refine lv_aload_n hx hb (oc_42 8 (aq_8 shX12_isFree_0)) rfl (lvA0 hl) ?_
    refine gM_46 S hK hP (v := .ref (g 15)) rfl (oc_180 9 (aq_9 shX12_isFree_0) uw_0_46) ?_
    refine lv_iload_n hx hb (oc_27 12 (aq_12 shX12_isFree_0)) rfl (lvA1 hl) ?_
    have kb_1 : d0 < 60 := by (first | omega | (have zz0 := Hid.u hi_cn; omega))
    refine ldM_15 hx hb hK hP (x := ((Fn 15) d0)) (vp_in_nI kb_1 (ltb rfl)) (nI_clamp (Nat.lt_trans kb_1 (ltb rfl))) rfl (oc_46 13 (aq_13 shX12_isFree_0)) ?_
    refine lv_iconst (v := (-1)) hx hb (oc_2 14 (aq_14 shX12_isFree_0)) kic_m1 ?_
    refine lv_icmp_ne (tgt := 35) hx hb (oc_160 15 (aq_15 shX12_isFree_0) sgw_0_20) rfl (fun c_3 => ?_) (fun c_3 => ?_)
    ·
      have tc_3 : (((Fn 15) d0).toInt : Int) ≠ (-1) := fun q => c_3 (Int32.toInt_inj.mp q)
      refine lv_iconst (v := 0) hx hb (oc_3 35 (aq_11 shX12_isFree_24)) kic_0 ?_
      exact W.zret (v := 0) hx hb hr rfl (fun t ht hW => ⟨0, rfl, (Or.inl rfl), ht⟩) (fun _ h => absurd h List.not_mem_nil) dX12_isFree_36
    ·
      have tc_3 : (((Fn 15) d0).toInt : Int) = (-1) := congrArg Int32.toInt c_3
      refine lv_aload_n hx hb (oc_42 18 (aq_18 shX12_isFree_0)) rfl (lvA0 hl) ?_
      refine gM_40 S hK hP (v := .ref (g 13)) rfl (oc_180 19 (aq_19 shX12_isFree_0) uw_0_40) ?_
      refine lv_iload_n hx hb (oc_27 22 (aq_22 shX12_isFree_0)) rfl (lvA1 hl) ?_
      refine ldM_13 hx hb hK hP (x := ((Fn 13) d0)) (vp_in_nI kb_1 (ltb rfl)) (nI_clamp (Nat.lt_trans kb_1 (ltb rfl))) rfl (oc_46 23 (aq_23 shX12_isFree_0)) ?_
      refine lv_aload_n hx hb (oc_42 24 shX12_isFree_24) rfl (lvA0 hl) ?_
      refine gM_211 S hK hP (v := .int (nI (cn 0))) rfl (oc_180 25 (aq_1 shX12_isFree_24) uw_0_211) ?_
      have : (nI (cn 0)).toInt = (((cn 0) : Nat) : Int) := nI_toInt (by (first | omega | (have zz0 := Hid.u hi_cn; omega)))
      refine lv_icmp_gt (tgt := 35) hx hb (oc_163 28 (aq_4 shX12_isFree_24) sgw_0_7) rfl (fun c_4 => ?_) (fun c_4 => ?_)
      ·
        have tc_4 : ((nI (cn 0)).toInt : Int) < ((Fn 13) d0).toInt := Int32.lt_iff_toInt_lt.mp c_4
        refine lv_iconst (v := 0) hx hb (oc_3 35 (aq_11 shX12_isFree_24)) kic_0 ?_
        exact W.zret (v := 0) hx hb hr rfl (fun t ht hW => ⟨0, rfl, (Or.inl rfl), ht⟩) (fun _ h => absurd h List.not_mem_nil) dX12_isFree_36
      ·
        have tc_4 : (((Fn 13) d0).toInt : Int) ≤ (nI (cn 0)).toInt := Int32.le_iff_toInt_le.mp (Int32.not_lt.mp c_4)
        refine lv_iconst (v := 1) hx hb (oc_4 31 (aq_7 shX12_isFree_24)) kic_1 ?_
        refine lv_goto (tgt := 36) hx hb (oc_167 32 (aq_8 shX12_isFree_24) sgw_0_4) rfl ?_
        exact W.zret (v := 1) hx hb hr rfl (fun t ht hW => ⟨1, rfl, (Or.inr ⟨rfl, by (first | omega | (have zz0 := Hid.u hi_cn; omega))⟩), ht⟩) (fun _ h => absurd h List.not_mem_nil) dX12_isFree_36
  ·
    have h_2 : ¬ (0 ≤ v0.toInt ∧ v0.toInt < ((cn 2) : Int)) := h_2
    refine lv_if_eq (tgt := 35) hx hb (oc_153 5 (aq_5 shX12_isFree_0) sgw_0_30) rfl (fun _ => ?_) (fun h => absurd h cq_eq_0_0)
    refine lv_iconst (v := 0) hx hb (oc_3 35 (aq_11 shX12_isFree_24)) kic_0 ?_
    exact W.zret (v := 0) hx hb hr rfl (fun t ht hW => ⟨0, rfl, (Or.inl rfl), ht⟩) (fun _ h => absurd h List.not_mem_nil) dX12_isFree_36
set_option maxRecDepth 100000 in
set_option maxHeartbeats 4000000 in
theorem q_bits (l : Launch) (D : va_G) (cI cB cZ : ClassId) (v0 : Int32)  : Met l yX12_bits (CWS yX12_bits cX12_bits 3 (some .int)) (RM 0 0 0) (PBr [.int v0] D cI cB cZ []) (vp_Si (fun _ => True)) 0 0 (fun _ => False) := by
  refine en_r rfl pn_RX12 (Nat.le_of_ble_eq_true rfl) (fun p e s m below meth c hx hb hml hown S hr hlocks hnm hP hK hS ls hl => ?_)
  have hl : lv_has ls 3 [(0, .int v0)] := hl
  refine lv_iconst (v := 0) hx hb (oc_3 0 shX12_bits_0) kic_0 ?_
  refine lv_istore_n (lv' := [(1, .int 0), (0, .int v0)]) hx hb (oc_60 1 (aq_1 shX12_bits_0)) rfl hl (ltb rfl) rfl (fun ls hl => ?_)
  refine lv_iconst (v := 0) hx hb (oc_3 2 (aq_2 shX12_bits_0)) kic_0 ?_
  refine lv_istore_n (lv' := [(2, .int 0), (1, .int 0), (0, .int v0)]) hx hb (oc_61 3 (aq_3 shX12_bits_0)) rfl hl (ltb rfl) rfl (fun ls hl => ?_)
  have lp_4 : ∀ (n : Nat) (i4 : Nat) (x4_1 : Int32) , 20 - i4 < n → (i4 ≤ 20) → ∀ ls : Array Slot, lv_has ls 3 [(2, .int (nI i4)), (1, .int x4_1), (0, .int v0)] → W p l e (RM 0 0 0) s m ([.int v0]).toArray below meth c s.heap [] 0 0 (MQ below (vp_Si (fun _ => True)) ([.int v0]).toArray s 0 0 (fun _ => False)) (F0 m 4 ls []) := by
    intro n4
    induction n4 with
    | zero => intros; omega
    | succ n4 ih4 =>
      intro i4 x4_1 hmu4 hinv4 ls hl
      have hr4 := hinv4
      have ti4 : (nI i4).toInt = (i4 : Int) := nI_toInt (by omega)
      refine lv_iload_n hx hb (oc_28 4 (aq_4 shX12_bits_0)) rfl (lvA0 hl) ?_
      refine lv_bipush (v := 20) hx hb (oc_16 5 (aq_5 shX12_bits_0) sgb_20) kbc_20 ?_
      refine lv_icmp_ge (tgt := 24) hx hb (oc_162 7 (aq_7 shX12_bits_0) sgw_0_17) rfl (fun c_1 => ?_) (fun c_1 => ?_)
      ·
        have tc_1 : (20 : Int) ≤ (nI i4).toInt := Int32.le_iff_toInt_le.mp c_1
        refine lv_iload_n hx hb (oc_27 24 shX12_bits_24) rfl (lvA1 hl) ?_
        exact W.iret (v := x4_1) hx hb hr (fun t ht hW => ⟨x4_1, rfl, trivial, ht⟩) (fun _ h => absurd h List.not_mem_nil) (oc_172 25 (aq_1 shX12_bits_24))
      ·
        have tc_1 : ((nI i4).toInt : Int) < 20 := Int32.lt_iff_toInt_lt.mp (Int32.not_le.mp c_1)
        refine lv_iload_n hx hb (oc_27 10 (aq_10 shX12_bits_0)) rfl (lvA1 hl) ?_
        refine lv_iload_n hx hb (oc_26 11 (aq_11 shX12_bits_0)) rfl (lvA2 hl) ?_
        refine lv_iload_n hx hb (oc_28 12 (aq_12 shX12_bits_0)) rfl (lvA0 hl) ?_
        refine lv_ishr hx hb (oc_122 13 (aq_13 shX12_bits_0)) ?_
        refine lv_iconst (v := 1) hx hb (oc_4 14 (aq_14 shX12_bits_0)) kic_1 ?_
        refine lv_iand hx hb (oc_126 15 (aq_15 shX12_bits_0)) ?_
        refine lv_iadd hx hb (oc_96 16 (aq_16 shX12_bits_0)) ?_
        refine lv_istore_n (lv' := [(1, .int (x4_1 + ((v0 >>> ((nI i4) &&& 31)) &&& 1))), (2, .int (nI i4)), (0, .int v0)]) hx hb (oc_60 17 (aq_17 shX12_bits_0)) rfl hl (ltb rfl) rfl (fun ls hl => ?_)
        refine lv_iinc (v := (nI (i4 + 1))) (lv' := [(2, .int (nI (i4 + 1))), (1, .int (x4_1 + ((v0 >>> ((nI i4) &&& 31)) &&& 1))), (0, .int v0)]) hx hb (oc_132 18 (aq_18 shX12_bits_0) ub_2 sgb_1) hl (k := 1) rfl (nI_1 _) (ltb rfl) rfl (fun ls hl => ?_)
        refine lv_goto (tgt := 4) hx hb (oc_167 21 (aq_21 shX12_bits_0) sgw_255_239) rfl ?_
        exact ih4 (i4 + 1) (x4_1 + ((v0 >>> ((nI i4) &&& 31)) &&& 1)) (by omega) (by omega) ls (lv_sub hl [0, 1, 2] rfl)
  exact lp_4 _ 0 0 (Nat.lt_succ_self _) (by omega) ls (lv_sub hl [0, 1, 2] rfl)
set_option maxRecDepth 100000 in
set_option maxHeartbeats 4000000 in
theorem q_comers (l : Launch) (D : va_G) (cI cB cZ : ClassId) (g : Nat → Nat) (cn : Nat → Nat) (In : Nat → Int32) (Fn : Nat → Nat → Int32) (v0 : Int32) (hI : IM cn Fn) : Met l yX12_comers (CWS yX12_comers cX12_comers 4 (some .int)) (RM 0 0 0) (PBr [.ref (g 100), .int v0] D cI cB cZ (wM cI cB cZ g cn In Fn)) (vp_Si (fun _ => True)) 0 0 (fun _ => False) := by
  refine en_r rfl pn_RX12 (Nat.le_of_ble_eq_true rfl) (fun p e s m below meth c hx hb hml hown S hr hlocks hnm hP hK hS ls hl => ?_)
  have hl : lv_has ls 4 [(0, .ref (g 100)), (1, .int v0)] := hl
  have hi_cn : Hid (CB cn) := hI.b
  refine lv_iconst (v := 0) hx hb (oc_3 0 shX12_comers_0) kic_0 ?_
  refine lv_istore_n (lv' := [(2, .int 0), (0, .ref (g 100)), (1, .int v0)]) hx hb (oc_61 1 (aq_1 shX12_comers_0)) rfl hl (ltb rfl) rfl (fun ls hl => ?_)
  refine lv_iconst (v := 0) hx hb (oc_3 2 (aq_2 shX12_comers_0)) kic_0 ?_
  refine lv_istore_n (lv' := [(3, .int 0), (2, .int 0), (0, .ref (g 100)), (1, .int v0)]) hx hb (oc_62 3 (aq_3 shX12_comers_0)) rfl hl (ltb rfl) rfl (fun ls hl => ?_)
  have lp_4 : ∀ (n : Nat) (i4 : Nat) (x4_2 : Int32) , cn 1 - i4 < n → (i4 ≤ cn 1) → ∀ ls : Array Slot, lv_has ls 4 [(3, .int (nI i4)), (2, .int x4_2), (0, .ref (g 100)), (1, .int v0)] → W p l e (RM 0 0 0) s m ([.ref (g 100), .int v0]).toArray below meth c s.heap [] 0 0 (MQ below (vp_Si (fun _ => True)) ([.ref (g 100), .int v0]).toArray s 0 0 (fun _ => False)) (F0 m 4 ls []) := by
    intro n4
    induction n4 with
    | zero => intros; (first | omega | (have zz0 := Hid.u hi_cn; omega))
    | succ n4 ih4 =>
      intro i4 x4_2 hmu4 hinv4 ls hl
      have hr4 := hinv4
      have ti4 : (nI i4).toInt = (i4 : Int) := nI_toInt (by (first | omega | (have zz0 := Hid.u hi_cn; omega)))
      refine lv_iload_n hx hb (oc_29 4 (aq_4 shX12_comers_0)) rfl (lvA0 hl) ?_
      refine lv_aload_n hx hb (oc_42 5 (aq_5 shX12_comers_0)) rfl (lvA2 hl) ?_
      refine gM_204 S hK hP (v := .int (nI (cn 1))) rfl (oc_180 6 (aq_6 shX12_comers_0) uw_0_204) ?_
      have : (nI (cn 1)).toInt = (((cn 1) : Nat) : Int) := nI_toInt (by (first | omega | (have zz0 := Hid.u hi_cn; omega)))
      refine lv_icmp_ge (tgt := 48) hx hb (oc_162 9 (aq_9 shX12_comers_0) sgw_0_39) rfl (fun c_1 => ?_) (fun c_1 => ?_)
      ·
        have tc_1 : ((nI (cn 1)).toInt : Int) ≤ (nI i4).toInt := Int32.le_iff_toInt_le.mp c_1
        refine lv_iload_n hx hb (oc_28 48 (aq_22 shX12_comers_26)) rfl (lvA1 hl) ?_
        exact W.iret (v := x4_2) hx hb hr (fun t ht hW => ⟨x4_2, rfl, trivial, ht⟩) (fun _ h => absurd h List.not_mem_nil) (oc_172 49 (aq_23 shX12_comers_26))
      ·
        have tc_1 : ((nI i4).toInt : Int) < (nI (cn 1)).toInt := Int32.lt_iff_toInt_lt.mp (Int32.not_le.mp c_1)
        refine lv_aload_n hx hb (oc_42 12 (aq_12 shX12_comers_0)) rfl (lvA2 hl) ?_
        refine gM_183 S hK hP (v := .ref (g 84)) rfl (oc_180 13 (aq_13 shX12_comers_0) uw_0_183) ?_
        refine lv_iload_n hx hb (oc_29 16 (aq_16 shX12_comers_0)) rfl (lvA0 hl) ?_
        have kb_1 : i4 < 10 := by (first | omega | (have zz0 := Hid.u hi_cn; omega))
        refine ldM_84 hx hb hK hP (x := ((Fn 84) i4)) (vp_in_nI kb_1 (ltb rfl)) (nI_clamp (Nat.lt_trans kb_1 (ltb rfl))) rfl (oc_46 17 (aq_17 shX12_comers_0)) ?_
        refine lv_iload_n hx hb (oc_27 18 (aq_18 shX12_comers_0)) rfl (lvA3 hl) ?_
        refine lv_icmp_gt (tgt := 40) hx hb (oc_163 19 (aq_19 shX12_comers_0) sgw_0_21) rfl (fun c_2 => ?_) (fun c_2 => ?_)
        ·
          have tc_2 : (v0.toInt : Int) < ((Fn 84) i4).toInt := Int32.lt_iff_toInt_lt.mp c_2
          refine lv_iload_n hx hb (oc_28 40 (aq_14 shX12_comers_26)) rfl (lvA1 hl) ?_
          refine lv_istore_n (lv' := [(2, .int x4_2), (3, .int (nI i4)), (0, .ref (g 100)), (1, .int v0)]) hx hb (oc_61 41 (aq_15 shX12_comers_26)) rfl hl (ltb rfl) rfl (fun ls hl => ?_)
          refine lv_iinc (v := (nI (i4 + 1))) (lv' := [(3, .int (nI (i4 + 1))), (2, .int x4_2), (0, .ref (g 100)), (1, .int v0)]) hx hb (oc_132 42 (aq_16 shX12_comers_26) ub_3 sgb_1) hl (k := 1) rfl (nI_1 _) (ltb rfl) rfl (fun ls hl => ?_)
          refine lv_goto (tgt := 4) hx hb (oc_167 45 (aq_19 shX12_comers_26) sgw_255_215) rfl ?_
          exact ih4 (i4 + 1) x4_2 (by (first | omega | (have zz0 := Hid.u hi_cn; omega))) (by (first | omega | (have zz0 := Hid.u hi_cn; omega))) ls (lv_sub hl [0, 1, 2, 3] rfl)
        ·
          have tc_2 : (((Fn 84) i4).toInt : Int) ≤ v0.toInt := Int32.le_iff_toInt_le.mp (Int32.not_lt.mp c_2)
          refine lv_aload_n hx hb (oc_42 22 (aq_22 shX12_comers_0)) rfl (lvA2 hl) ?_
          refine gM_186 S hK hP (v := .ref (g 85)) rfl (oc_180 23 (aq_23 shX12_comers_0) uw_0_186) ?_
          refine lv_iload_n hx hb (oc_29 26 shX12_comers_26) rfl (lvA0 hl) ?_
          refine ldM_85 hx hb hK hP (x := ((Fn 85) i4)) (vp_in_nI kb_1 (ltb rfl)) (nI_clamp (Nat.lt_trans kb_1 (ltb rfl))) rfl (oc_46 27 (aq_1 shX12_comers_26)) ?_
          refine lv_iload_n hx hb (oc_27 28 (aq_2 shX12_comers_26)) rfl (lvA3 hl) ?_
          refine lv_icmp_gt (tgt := 40) hx hb (oc_163 29 (aq_3 shX12_comers_26) sgw_0_11) rfl (fun c_3 => ?_) (fun c_3 => ?_)
          ·
            have tc_3 : (v0.toInt : Int) < ((Fn 85) i4).toInt := Int32.lt_iff_toInt_lt.mp c_3
            refine lv_iload_n hx hb (oc_28 40 (aq_14 shX12_comers_26)) rfl (lvA1 hl) ?_
            refine lv_istore_n (lv' := [(2, .int x4_2), (3, .int (nI i4)), (0, .ref (g 100)), (1, .int v0)]) hx hb (oc_61 41 (aq_15 shX12_comers_26)) rfl hl (ltb rfl) rfl (fun ls hl => ?_)
            refine lv_iinc (v := (nI (i4 + 1))) (lv' := [(3, .int (nI (i4 + 1))), (2, .int x4_2), (0, .ref (g 100)), (1, .int v0)]) hx hb (oc_132 42 (aq_16 shX12_comers_26) ub_3 sgb_1) hl (k := 1) rfl (nI_1 _) (ltb rfl) rfl (fun ls hl => ?_)
            refine lv_goto (tgt := 4) hx hb (oc_167 45 (aq_19 shX12_comers_26) sgw_255_215) rfl ?_
            exact ih4 (i4 + 1) x4_2 (by (first | omega | (have zz0 := Hid.u hi_cn; omega))) (by (first | omega | (have zz0 := Hid.u hi_cn; omega))) ls (lv_sub hl [0, 1, 2, 3] rfl)
          ·
            have tc_3 : (((Fn 85) i4).toInt : Int) ≤ v0.toInt := Int32.le_iff_toInt_le.mp (Int32.not_lt.mp c_3)
            refine lv_iload_n hx hb (oc_28 32 (aq_6 shX12_comers_26)) rfl (lvA1 hl) ?_
            refine lv_iconst (v := 1) hx hb (oc_4 33 (aq_7 shX12_comers_26)) kic_1 ?_
            refine lv_iload_n hx hb (oc_29 34 (aq_8 shX12_comers_26)) rfl (lvA0 hl) ?_
            refine lv_ishl hx hb (oc_120 35 (aq_9 shX12_comers_26)) ?_
            refine lv_ior hx hb (oc_128 36 (aq_10 shX12_comers_26)) ?_
            refine lv_goto (tgt := 41) hx hb (oc_167 37 (aq_11 shX12_comers_26) sgw_0_4) rfl ?_
            refine lv_istore_n (lv' := [(2, .int (x4_2 ||| (1 <<< ((nI i4) &&& 31)))), (3, .int (nI i4)), (0, .ref (g 100)), (1, .int v0)]) hx hb (oc_61 41 (aq_15 shX12_comers_26)) rfl hl (ltb rfl) rfl (fun ls hl => ?_)
            refine lv_iinc (v := (nI (i4 + 1))) (lv' := [(3, .int (nI (i4 + 1))), (2, .int (x4_2 ||| (1 <<< ((nI i4) &&& 31)))), (0, .ref (g 100)), (1, .int v0)]) hx hb (oc_132 42 (aq_16 shX12_comers_26) ub_3 sgb_1) hl (k := 1) rfl (nI_1 _) (ltb rfl) rfl (fun ls hl => ?_)
            refine lv_goto (tgt := 4) hx hb (oc_167 45 (aq_19 shX12_comers_26) sgw_255_215) rfl ?_
            exact ih4 (i4 + 1) (x4_2 ||| (1 <<< ((nI i4) &&& 31))) (by (first | omega | (have zz0 := Hid.u hi_cn; omega))) (by (first | omega | (have zz0 := Hid.u hi_cn; omega))) ls (lv_sub hl [0, 1, 2, 3] rfl)
  exact lp_4 _ 0 0 (Nat.lt_succ_self _) (by (first | omega | (have zz0 := Hid.u hi_cn; omega))) ls (lv_sub hl [0, 1, 2, 3] rfl)
set_option maxRecDepth 100000 in
set_option maxHeartbeats 4000000 in
theorem q_worthOf (l : Launch) (D : va_G) (cI cB cZ : ClassId) (g : Nat → Nat) (cn : Nat → Nat) (In : Nat → Int32) (Fn : Nat → Nat → Int32) (v0 v1 : Int32) (hI : IM cn Fn) : Met l yX12_worthOf (CWS yX12_worthOf cX12_worthOf 6 (some .int)) (RM 1 0 0) (PBr [.ref (g 100), .int v0, .int v1] D cI cB cZ (wM cI cB cZ g cn In Fn)) (vp_Si (fun _ => True)) 0 0 (fun _ => False) := by
  refine en_r rfl pn_RX12 (Nat.le_of_ble_eq_true rfl) (fun p e s m below meth c hx hb hml hown S hr hlocks hnm hP hK hS ls hl => ?_)
  have hl : lv_has ls 6 [(0, .ref (g 100)), (1, .int v0), (2, .int v1)] := hl
  have hi_cn : Hid (CB cn) := hI.b
  refine lv_aload_n hx hb (oc_42 0 shX12_worthOf_0) rfl (lvA0 hl) ?_
  refine lv_iload_n hx hb (oc_27 1 (aq_1 shX12_worthOf_0)) rfl (lvA1 hl) ?_
  refine vp_callSi (runV_ra (As := [.int v0]) (rest := []) S (q_comers l D cI cB cZ g cn In Fn v0 hI) kV_RX12_469 hK hP 0 rfl rfl rfl ⟨Nat.le_of_ble_eq_true rfl, Nat.le_of_ble_eq_true rfl⟩ ⟨Nat.le_of_ble_eq_true rfl, Nat.le_of_ble_eq_true rfl⟩ rfl hl.1 rfl (Nat.le_of_ble_eq_true rfl) (oc_182 2 (aq_2 shX12_worthOf_0) uw_1_213)) (fun r_1 h_2 => ?_)
  refine lv_istore_n (lv' := [(3, .int r_1), (0, .ref (g 100)), (1, .int v0), (2, .int v1)]) hx hb (oc_62 5 (aq_5 shX12_worthOf_0)) rfl hl (ltb rfl) rfl (fun ls hl => ?_)
  refine lv_iconst (v := 0) hx hb (oc_3 6 (aq_6 shX12_worthOf_0)) kic_0 ?_
  refine lv_istore (lv' := [(4, .int 0), (3, .int r_1), (0, .ref (g 100)), (1, .int v0), (2, .int v1)]) hx hb (oc_54 7 (aq_7 shX12_worthOf_0) ub_4) hl (ltb rfl) rfl (fun ls hl => ?_)
  refine lv_iconst (v := 0) hx hb (oc_3 9 (aq_9 shX12_worthOf_0)) kic_0 ?_
  refine lv_istore (lv' := [(5, .int 0), (4, .int 0), (3, .int r_1), (0, .ref (g 100)), (1, .int v0), (2, .int v1)]) hx hb (oc_54 10 (aq_10 shX12_worthOf_0) ub_5) hl (ltb rfl) rfl (fun ls hl => ?_)
  have lp_12 : ∀ (n : Nat) (i12 : Nat) (x12_4 : Int32) , cn 1 - i12 < n → (i12 ≤ cn 1) → ∀ ls : Array Slot, lv_has ls 6 [(5, .int (nI i12)), (4, .int x12_4), (3, .int r_1), (0, .ref (g 100)), (1, .int v0), (2, .int v1)] → W p l e (RM 1 0 0) s m ([.ref (g 100), .int v0, .int v1]).toArray below meth c s.heap [] 0 0 (MQ below (vp_Si (fun _ => True)) ([.ref (g 100), .int v0, .int v1]).toArray s 0 0 (fun _ => False)) (F0 m 12 ls []) := by
    intro n12
    induction n12 with
    | zero => intros; (first | omega | (have zz0 := Hid.u hi_cn; omega))
    | succ n12 ih12 =>
      intro i12 x12_4 hmu12 hinv12 ls hl
      have hr12 := hinv12
      have ti12 : (nI i12).toInt = (i12 : Int) := nI_toInt (by (first | omega | (have zz0 := Hid.u hi_cn; omega)))
      refine lv_iload hx hb (oc_21 12 (aq_12 shX12_worthOf_0) ub_5) (lvA0 hl) ?_
      refine lv_aload_n hx hb (oc_42 14 (aq_14 shX12_worthOf_0)) rfl (lvA3 hl) ?_
      refine gM_204 S hK hP (v := .int (nI (cn 1))) rfl (oc_180 15 (aq_15 shX12_worthOf_0) uw_0_204) ?_
      have : (nI (cn 1)).toInt = (((cn 1) : Nat) : Int) := nI_toInt (by (first | omega | (have zz0 := Hid.u hi_cn; omega)))
      refine lv_icmp_ge (tgt := 50) hx hb (oc_162 18 (aq_18 shX12_worthOf_0) sgw_0_32) rfl (fun c_3 => ?_) (fun c_3 => ?_)
      ·
        have tc_3 : ((nI (cn 1)).toInt : Int) ≤ (nI i12).toInt := Int32.le_iff_toInt_le.mp c_3
        refine lv_iload hx hb (oc_21 50 shX12_worthOf_50 ub_4) (lvA1 hl) ?_
        exact W.iret (v := x12_4) hx hb hr (fun t ht hW => ⟨x12_4, rfl, trivial, ht⟩) (fun _ h => absurd h List.not_mem_nil) (oc_172 52 (aq_2 shX12_worthOf_50))
      ·
        have tc_3 : ((nI i12).toInt : Int) < (nI (cn 1)).toInt := Int32.lt_iff_toInt_lt.mp (Int32.not_le.mp c_3)
        refine lv_iload hx hb (oc_21 21 (aq_21 shX12_worthOf_0) ub_4) (lvA1 hl) ?_
        refine lv_iload_n hx hb (oc_29 23 (aq_23 shX12_worthOf_0)) rfl (lvA2 hl) ?_
        refine lv_iload hx hb (oc_21 24 shX12_worthOf_24 ub_5) (lvA0 hl) ?_
        refine lv_ishr hx hb (oc_122 26 (aq_2 shX12_worthOf_24)) ?_
        refine lv_iconst (v := 1) hx hb (oc_4 27 (aq_3 shX12_worthOf_24)) kic_1 ?_
        refine lv_iand hx hb (oc_126 28 (aq_4 shX12_worthOf_24)) ?_
        refine lv_aload_n hx hb (oc_42 29 (aq_5 shX12_worthOf_24)) rfl (lvA3 hl) ?_
        refine gM_16 S hK hP (v := .ref (g 5)) rfl (oc_180 30 (aq_6 shX12_worthOf_24) uw_0_16) ?_
        refine lv_iload hx hb (oc_21 33 (aq_9 shX12_worthOf_24) ub_5) (lvA0 hl) ?_
        have kb_1 : i12 < 10 := by (first | omega | (have zz0 := Hid.u hi_cn; omega))
        refine ldM_5 hx hb hK hP (x := ((Fn 5) i12)) (vp_in_nI kb_1 (ltb rfl)) (nI_clamp (Nat.lt_trans kb_1 (ltb rfl))) rfl (oc_46 35 (aq_11 shX12_worthOf_24)) ?_
        refine lv_imul hx hb (oc_104 36 (aq_12 shX12_worthOf_24)) ?_
        refine lv_iload_n hx hb (oc_28 37 (aq_13 shX12_worthOf_24)) rfl (lvA5 hl) ?_
        refine lv_iload_n hx hb (oc_27 38 (aq_14 shX12_worthOf_24)) rfl (lvA4 hl) ?_
        refine lv_isub hx hb (oc_100 39 (aq_15 shX12_worthOf_24)) ?_
        refine lv_imul hx hb (oc_104 40 (aq_16 shX12_worthOf_24)) ?_
        refine lv_iadd hx hb (oc_96 41 (aq_17 shX12_worthOf_24)) ?_
        refine lv_istore (lv' := [(4, .int (x12_4 + ((((r_1 >>> ((nI i12) &&& 31)) &&& 1) * ((Fn 5) i12)) * (v1 - v0)))), (5, .int (nI i12)), (3, .int r_1), (0, .ref (g 100)), (1, .int v0), (2, .int v1)]) hx hb (oc_54 42 (aq_18 shX12_worthOf_24) ub_4) hl (ltb rfl) rfl (fun ls hl => ?_)
        refine lv_iinc (v := (nI (i12 + 1))) (lv' := [(5, .int (nI (i12 + 1))), (4, .int (x12_4 + ((((r_1 >>> ((nI i12) &&& 31)) &&& 1) * ((Fn 5) i12)) * (v1 - v0)))), (3, .int r_1), (0, .ref (g 100)), (1, .int v0), (2, .int v1)]) hx hb (oc_132 44 (aq_20 shX12_worthOf_24) ub_5 sgb_1) hl (k := 1) rfl (nI_1 _) (ltb rfl) rfl (fun ls hl => ?_)
        refine lv_goto (tgt := 12) hx hb (oc_167 47 (aq_23 shX12_worthOf_24) sgw_255_221) rfl ?_
        exact ih12 (i12 + 1) (x12_4 + ((((r_1 >>> ((nI i12) &&& 31)) &&& 1) * ((Fn 5) i12)) * (v1 - v0))) (by (first | omega | (have zz0 := Hid.u hi_cn; omega))) (by (first | omega | (have zz0 := Hid.u hi_cn; omega))) ls (lv_sub hl [0, 1, 2, 3, 4, 5] rfl)
  exact lp_12 _ 0 0 (Nat.lt_succ_self _) (by (first | omega | (have zz0 := Hid.u hi_cn; omega))) ls (lv_sub hl [0, 1, 2, 3, 4, 5] rfl)
set_option maxRecDepth 100000 in
set_option maxHeartbeats 4000000 in
theorem q_worth (l : Launch) (D : va_G) (cI cB cZ : ClassId) (g : Nat → Nat) (cn : Nat → Nat) (In : Nat → Int32) (Fn : Nat → Nat → Int32) (v0 v1 : Int32) (hI : IM cn Fn) : Met l yX12_worth (CWS yX12_worth cX12_worth 3 (some .int)) (RM 2 0 0) (PBr [.ref (g 100), .int v0, .int v1] D cI cB cZ (wM cI cB cZ g cn In Fn)) (vp_Si (fun _ => True)) 0 0 (fun _ => False) := by
  refine en_r rfl pn_RX12 (Nat.le_of_ble_eq_true rfl) (fun p e s m below meth c hx hb hml hown S hr hlocks hnm hP hK hS ls hl => ?_)
  have hl : lv_has ls 3 [(0, .ref (g 100)), (1, .int v0), (2, .int v1)] := hl
  have hi_cn : Hid (CB cn) := hI.b
  refine lv_iload_n hx hb (oc_27 0 shX12_worth_0) rfl (lvA1 hl) ?_
  refine lv_iconst (v := 0) hx hb (oc_3 1 (aq_1 shX12_worth_0)) kic_0 ?_
  refine lv_sipush (v := 200) hx hb (oc_17 2 (aq_2 shX12_worth_0) sgw_0_200) (by decide) ?_
  refine vp_callSi (runS_r (As := [.int v0, .int 0, .int 200]) (rest := []) S (q_in l D cI cB cZ v0 0 200 ) kS_RX12_214 hK hP [] rfl ⟨Nat.le_of_ble_eq_true rfl, Nat.le_of_ble_eq_true rfl⟩ ⟨Nat.le_of_ble_eq_true rfl, Nat.le_of_ble_eq_true rfl⟩ rfl hl.1 rfl (Nat.le_of_ble_eq_true rfl) (oc_184 5 (aq_5 shX12_worth_0) uw_0_214)) (fun r_1 h_2 => ?_)
  rcases h_2 with ⟨rfl, h_2⟩ | ⟨rfl, h_2⟩
  ·
    have h_2 : 0 ≤ v0.toInt ∧ v0.toInt ≤ 200 := h_2
    refine lv_if_eq (tgt := 31) hx hb (oc_153 8 (aq_8 shX12_worth_0) sgw_0_23) rfl (fun h => absurd h cq_eq_1_0) (fun _ => ?_)
    refine lv_iload_n hx hb (oc_28 11 (aq_11 shX12_worth_0)) rfl (lvA2 hl) ?_
    refine lv_iconst (v := 0) hx hb (oc_3 12 (aq_12 shX12_worth_0)) kic_0 ?_
    refine lv_sipush (v := 1000) hx hb (oc_17 13 (aq_13 shX12_worth_0) sgw_3_232) (by decide) ?_
    refine vp_callSi (runS_r (As := [.int v1, .int 0, .int 1000]) (rest := []) S (q_in l D cI cB cZ v1 0 1000 ) kS_RX12_214 hK hP [] rfl ⟨Nat.le_of_ble_eq_true rfl, Nat.le_of_ble_eq_true rfl⟩ ⟨Nat.le_of_ble_eq_true rfl, Nat.le_of_ble_eq_true rfl⟩ rfl hl.1 rfl (Nat.le_of_ble_eq_true rfl) (oc_184 16 (aq_16 shX12_worth_0) uw_0_214)) (fun r_3 h_4 => ?_)
    rcases h_4 with ⟨rfl, h_4⟩ | ⟨rfl, h_4⟩
    ·
      have h_4 : 0 ≤ v1.toInt ∧ v1.toInt ≤ 1000 := h_4
      refine lv_if_eq (tgt := 31) hx hb (oc_153 19 (aq_19 shX12_worth_0) sgw_0_12) rfl (fun h => absurd h cq_eq_1_0) (fun _ => ?_)
      refine lv_aload_n hx hb (oc_42 22 (aq_22 shX12_worth_0)) rfl (lvA0 hl) ?_
      refine lv_iload_n hx hb (oc_27 23 (aq_23 shX12_worth_0)) rfl (lvA1 hl) ?_
      refine lv_iload_n hx hb (oc_28 24 shX12_worth_24) rfl (lvA2 hl) ?_
      refine vp_callSi (runV_ra (As := [.int v0, .int v1]) (rest := []) S (q_worthOf l D cI cB cZ g cn In Fn v0 v1 hI) kV_RX12_472 hK hP 0 rfl rfl rfl ⟨Nat.le_of_ble_eq_true rfl, Nat.le_of_ble_eq_true rfl⟩ ⟨Nat.le_of_ble_eq_true rfl, Nat.le_of_ble_eq_true rfl⟩ rfl hl.1 rfl (Nat.le_of_ble_eq_true rfl) (oc_182 25 (aq_1 shX12_worth_24) uw_1_216)) (fun r_5 h_6 => ?_)
      refine lv_goto (tgt := 34) hx hb (oc_167 28 (aq_4 shX12_worth_24) sgw_0_6) rfl ?_
      exact W.iret (v := r_5) hx hb hr (fun t ht hW => ⟨r_5, rfl, trivial, ht⟩) (fun _ h => absurd h List.not_mem_nil) (oc_172 34 (aq_10 shX12_worth_24))
    ·
      have h_4 : ¬ (0 ≤ v1.toInt ∧ v1.toInt ≤ 1000) := h_4
      refine lv_if_eq (tgt := 31) hx hb (oc_153 19 (aq_19 shX12_worth_0) sgw_0_12) rfl (fun _ => ?_) (fun h => absurd h cq_eq_0_0)
      refine lv_ldcw (v := (-1000000)) hx hb hown (S.2.2.2.2 _ (wk9_5 5 rfl rfl)) (oc_19 31 (aq_7 shX12_worth_24) uw_1_212) ?_
      exact W.iret (v := (-1000000)) hx hb hr (fun t ht hW => ⟨(-1000000), rfl, trivial, ht⟩) (fun _ h => absurd h List.not_mem_nil) (oc_172 34 (aq_10 shX12_worth_24))
  ·
    have h_2 : ¬ (0 ≤ v0.toInt ∧ v0.toInt ≤ 200) := h_2
    refine lv_if_eq (tgt := 31) hx hb (oc_153 8 (aq_8 shX12_worth_0) sgw_0_23) rfl (fun _ => ?_) (fun h => absurd h cq_eq_0_0)
    refine lv_ldcw (v := (-1000000)) hx hb hown (S.2.2.2.2 _ (wk9_5 5 rfl rfl)) (oc_19 31 (aq_7 shX12_worth_24) uw_1_212) ?_
    exact W.iret (v := (-1000000)) hx hb hr (fun t ht hW => ⟨(-1000000), rfl, trivial, ht⟩) (fun _ h => absurd h List.not_mem_nil) (oc_172 34 (aq_10 shX12_worth_24))
set_option maxRecDepth 100000 in
set_option maxHeartbeats 4000000 in
theorem q_offer (l : Launch) (D : va_G) (cI cB cZ : ClassId) (g : Nat → Nat) (cn : Nat → Nat) (In : Nat → Int32) (Fn : Nat → Nat → Int32) (v0 v1 : Int32) (hI : IM cn Fn) : Met l yX12_offer (CWS yX12_offer cX12_offer 5 (some .int)) (RM 2 0 0) (PBr [.ref (g 100), .int v0, .int v1] D cI cB cZ (wM cI cB cZ g cn In Fn)) (vp_Si (fun _ => True)) 0 0 (fun _ => False) := by
  refine en_r rfl pn_RX12 (Nat.le_of_ble_eq_true rfl) (fun p e s m below meth c hx hb hml hown S hr hlocks hnm hP hK hS ls hl => ?_)
  have hl : lv_has ls 5 [(0, .ref (g 100)), (1, .int v0), (2, .int v1)] := hl
  have hi_cn : Hid (CB cn) := hI.b
  refine lv_iload_n hx hb (oc_27 0 shX12_offer_0) rfl (lvA1 hl) ?_
  refine lv_iconst (v := 0) hx hb (oc_3 1 (aq_1 shX12_offer_0)) kic_0 ?_
  refine lv_sipush (v := 1000) hx hb (oc_17 2 (aq_2 shX12_offer_0) sgw_3_232) (by decide) ?_
  refine vp_callSi (runS_r (As := [.int v0, .int 0, .int 1000]) (rest := []) S (q_in l D cI cB cZ v0 0 1000 ) kS_RX12_214 hK hP [] rfl ⟨Nat.le_of_ble_eq_true rfl, Nat.le_of_ble_eq_true rfl⟩ ⟨Nat.le_of_ble_eq_true rfl, Nat.le_of_ble_eq_true rfl⟩ rfl hl.1 rfl (Nat.le_of_ble_eq_true rfl) (oc_184 5 (aq_5 shX12_offer_0) uw_0_214)) (fun r_1 h_2 => ?_)
  rcases h_2 with ⟨rfl, h_2⟩ | ⟨rfl, h_2⟩
  ·
    have h_2 : 0 ≤ v0.toInt ∧ v0.toInt ≤ 1000 := h_2
    refine lv_if_eq (tgt := 20) hx hb (oc_153 8 (aq_8 shX12_offer_0) sgw_0_12) rfl (fun h => absurd h cq_eq_1_0) (fun _ => ?_)
    refine lv_iload_n hx hb (oc_28 11 (aq_11 shX12_offer_0)) rfl (lvA2 hl) ?_
    refine lv_iconst (v := 0) hx hb (oc_3 12 (aq_12 shX12_offer_0)) kic_0 ?_
    refine lv_iconst (v := 2) hx hb (oc_5 13 (aq_13 shX12_offer_0)) kic_2 ?_
    refine vp_callSi (runS_r (As := [.int v1, .int 0, .int 2]) (rest := []) S (q_in l D cI cB cZ v1 0 2 ) kS_RX12_214 hK hP [] rfl ⟨Nat.le_of_ble_eq_true rfl, Nat.le_of_ble_eq_true rfl⟩ ⟨Nat.le_of_ble_eq_true rfl, Nat.le_of_ble_eq_true rfl⟩ rfl hl.1 rfl (Nat.le_of_ble_eq_true rfl) (oc_184 14 (aq_14 shX12_offer_0) uw_0_214)) (fun r_3 h_4 => ?_)
    rcases h_4 with ⟨rfl, h_4⟩ | ⟨rfl, h_4⟩
    ·
      have h_4 : 0 ≤ v1.toInt ∧ v1.toInt ≤ 2 := h_4
      refine lv_if_ne (tgt := 22) hx hb (oc_154 17 (aq_17 shX12_offer_0) sgw_0_5) rfl (fun _ => ?_) (fun h => absurd h cq_eq_1_0)
      refine lv_iconst (v := 0) hx hb (oc_3 22 (aq_22 shX12_offer_0)) kic_0 ?_
      refine lv_istore_n (lv' := [(3, .int 0), (0, .ref (g 100)), (1, .int v0), (2, .int v1)]) hx hb (oc_62 23 (aq_23 shX12_offer_0)) rfl hl (ltb rfl) rfl (fun ls hl => ?_)
      refine lv_iconst (v := 1) hx hb (oc_4 24 shX12_offer_24) kic_1 ?_
      refine lv_istore (lv' := [(4, .int 1), (3, .int 0), (0, .ref (g 100)), (1, .int v0), (2, .int v1)]) hx hb (oc_54 25 (aq_1 shX12_offer_24) ub_4) hl (ltb rfl) rfl (fun ls hl => ?_)
      have lp_27 : ∀ (n : Nat) (i27 : Nat) (x27_3 : Int32) , 201 - i27 < n → (i27 ≤ 201) → ∀ ls : Array Slot, lv_has ls 5 [(4, .int (nI i27)), (3, .int x27_3), (0, .ref (g 100)), (1, .int v0), (2, .int v1)] → W p l e (RM 2 0 0) s m ([.ref (g 100), .int v0, .int v1]).toArray below meth c s.heap [] 0 0 (MQ below (vp_Si (fun _ => True)) ([.ref (g 100), .int v0, .int v1]).toArray s 0 0 (fun _ => False)) (F0 m 27 ls []) := by
        intro n27
        induction n27 with
        | zero => intros; (first | omega | (have zz0 := Hid.u hi_cn; omega))
        | succ n27 ih27 =>
          intro i27 x27_3 hmu27 hinv27 ls hl
          have hr27 := hinv27
          have ti27 : (nI i27).toInt = (i27 : Int) := nI_toInt (by (first | omega | (have zz0 := Hid.u hi_cn; omega)))
          refine lv_iload hx hb (oc_21 27 (aq_3 shX12_offer_24) ub_4) (lvA0 hl) ?_
          refine lv_sipush (v := 200) hx hb (oc_17 29 (aq_5 shX12_offer_24) sgw_0_200) (by decide) ?_
          refine lv_icmp_gt (tgt := 64) hx hb (oc_163 32 (aq_8 shX12_offer_24) sgw_0_32) rfl (fun c_5 => ?_) (fun c_5 => ?_)
          ·
            have tc_5 : (200 : Int) < (nI i27).toInt := Int32.lt_iff_toInt_lt.mp c_5
            refine lv_iload_n hx hb (oc_28 64 (aq_16 shX12_offer_48)) rfl (lvA4 hl) ?_
            refine lv_if_ne (tgt := 72) hx hb (oc_154 65 (aq_17 shX12_offer_48) sgw_0_7) rfl (fun c_6 => ?_) (fun c_6 => ?_)
            ·
              have tc_6 : (v1.toInt : Int) ≠ 0 := fun q => c_6 (Int32.toInt_inj.mp q)
              refine lv_iload_n hx hb (oc_28 72 shX12_offer_72) rfl (lvA4 hl) ?_
              refine lv_iconst (v := 1) hx hb (oc_4 73 (aq_1 shX12_offer_72)) kic_1 ?_
              refine lv_icmp_ne (tgt := 86) hx hb (oc_160 74 (aq_2 shX12_offer_72) sgw_0_12) rfl (fun c_7 => ?_) (fun c_7 => ?_)
              ·
                have tc_7 : (v1.toInt : Int) ≠ 1 := fun q => c_7 (Int32.toInt_inj.mp q)
                refine lv_aload_n hx hb (oc_42 86 (aq_14 shX12_offer_72)) rfl (lvA2 hl) ?_
                refine lv_iload_n hx hb (oc_29 87 (aq_15 shX12_offer_72)) rfl (lvA1 hl) ?_
                refine vp_callSi (runV_ra (As := [.int x27_3]) (rest := []) S (q_comers l D cI cB cZ g cn In Fn x27_3 hI) kV_RX12_469 hK hP 0 rfl rfl rfl ⟨Nat.le_of_ble_eq_true rfl, Nat.le_of_ble_eq_true rfl⟩ ⟨Nat.le_of_ble_eq_true rfl, Nat.le_of_ble_eq_true rfl⟩ rfl hl.1 rfl (Nat.le_of_ble_eq_true rfl) (oc_182 88 (aq_16 shX12_offer_72) uw_1_213)) (fun r_8 h_9 => ?_)
                exact W.iret (v := r_8) hx hb hr (fun t ht hW => ⟨r_8, rfl, trivial, ht⟩) (fun _ h => absurd h List.not_mem_nil) (oc_172 91 (aq_19 shX12_offer_72))
              ·
                have tc_7 : (v1.toInt : Int) = 1 := congrArg Int32.toInt c_7
                refine lv_aload_n hx hb (oc_42 77 (aq_5 shX12_offer_72)) rfl (lvA2 hl) ?_
                refine lv_iload_n hx hb (oc_29 78 (aq_6 shX12_offer_72)) rfl (lvA1 hl) ?_
                refine lv_iload_n hx hb (oc_27 79 (aq_7 shX12_offer_72)) rfl (lvA3 hl) ?_
                refine vp_callSi (runV_ra (As := [.int x27_3, .int v0]) (rest := []) S (q_worthOf l D cI cB cZ g cn In Fn x27_3 v0 hI) kV_RX12_472 hK hP 0 rfl rfl rfl ⟨Nat.le_of_ble_eq_true rfl, Nat.le_of_ble_eq_true rfl⟩ ⟨Nat.le_of_ble_eq_true rfl, Nat.le_of_ble_eq_true rfl⟩ rfl hl.1 rfl (Nat.le_of_ble_eq_true rfl) (oc_182 80 (aq_8 shX12_offer_72) uw_1_216)) (fun r_10 h_11 => ?_)
                refine lv_goto (tgt := 91) hx hb (oc_167 83 (aq_11 shX12_offer_72) sgw_0_8) rfl ?_
                exact W.iret (v := r_10) hx hb hr (fun t ht hW => ⟨r_10, rfl, trivial, ht⟩) (fun _ h => absurd h List.not_mem_nil) (oc_172 91 (aq_19 shX12_offer_72))
            ·
              have tc_6 : (v1.toInt : Int) = 0 := congrArg Int32.toInt c_6
              refine lv_iload_n hx hb (oc_29 68 (aq_20 shX12_offer_48)) rfl (lvA1 hl) ?_
              refine lv_goto (tgt := 91) hx hb (oc_167 69 (aq_21 shX12_offer_48) sgw_0_22) rfl ?_
              exact W.iret (v := x27_3) hx hb hr (fun t ht hW => ⟨x27_3, rfl, trivial, ht⟩) (fun _ h => absurd h List.not_mem_nil) (oc_172 91 (aq_19 shX12_offer_72))
          ·
            have tc_5 : ((nI i27).toInt : Int) ≤ 200 := Int32.le_iff_toInt_le.mp (Int32.not_lt.mp c_5)
            refine lv_aload_n hx hb (oc_42 35 (aq_11 shX12_offer_24)) rfl (lvA2 hl) ?_
            refine lv_iload hx hb (oc_21 36 (aq_12 shX12_offer_24) ub_4) (lvA0 hl) ?_
            refine lv_iload_n hx hb (oc_27 38 (aq_14 shX12_offer_24)) rfl (lvA3 hl) ?_
            refine vp_callSi (runV_ra (As := [.int (nI i27), .int v0]) (rest := []) S (q_worthOf l D cI cB cZ g cn In Fn (nI i27) v0 hI) kV_RX12_472 hK hP 0 rfl rfl rfl ⟨Nat.le_of_ble_eq_true rfl, Nat.le_of_ble_eq_true rfl⟩ ⟨Nat.le_of_ble_eq_true rfl, Nat.le_of_ble_eq_true rfl⟩ rfl hl.1 rfl (Nat.le_of_ble_eq_true rfl) (oc_182 39 (aq_15 shX12_offer_24) uw_1_216)) (fun r_12 h_13 => ?_)
            refine lv_aload_n hx hb (oc_42 42 (aq_18 shX12_offer_24)) rfl (lvA2 hl) ?_
            refine lv_iload_n hx hb (oc_29 43 (aq_19 shX12_offer_24)) rfl (lvA1 hl) ?_
            refine lv_iload_n hx hb (oc_27 44 (aq_20 shX12_offer_24)) rfl (lvA3 hl) ?_
            refine vp_callSi (runV_ra (As := [.int x27_3, .int v0]) (rest := [.int r_12]) S (q_worthOf l D cI cB cZ g cn In Fn x27_3 v0 hI) kV_RX12_472 hK hP 0 rfl rfl rfl ⟨Nat.le_of_ble_eq_true rfl, Nat.le_of_ble_eq_true rfl⟩ ⟨Nat.le_of_ble_eq_true rfl, Nat.le_of_ble_eq_true rfl⟩ rfl hl.1 rfl (Nat.le_of_ble_eq_true rfl) (oc_182 45 (aq_21 shX12_offer_24) uw_1_216)) (fun r_14 h_15 => ?_)
            refine lv_icmp_le (tgt := 56) hx hb (oc_164 48 shX12_offer_48 sgw_0_8) rfl (fun c_16 => ?_) (fun c_16 => ?_)
            ·
              have tc_16 : (r_12.toInt : Int) ≤ r_14.toInt := Int32.le_iff_toInt_le.mp c_16
              refine lv_iload_n hx hb (oc_29 56 (aq_8 shX12_offer_48)) rfl (lvA1 hl) ?_
              refine lv_istore_n (lv' := [(3, .int x27_3), (4, .int (nI i27)), (0, .ref (g 100)), (1, .int v0), (2, .int v1)]) hx hb (oc_62 57 (aq_9 shX12_offer_48)) rfl hl (ltb rfl) rfl (fun ls hl => ?_)
              refine lv_iinc (v := (nI (i27 + 1))) (lv' := [(4, .int (nI (i27 + 1))), (3, .int x27_3), (0, .ref (g 100)), (1, .int v0), (2, .int v1)]) hx hb (oc_132 58 (aq_10 shX12_offer_48) ub_4 sgb_1) hl (k := 1) rfl (nI_1 _) (ltb rfl) rfl (fun ls hl => ?_)
              refine lv_goto (tgt := 27) hx hb (oc_167 61 (aq_13 shX12_offer_48) sgw_255_222) rfl ?_
              exact ih27 (i27 + 1) x27_3 (by (first | omega | (have zz0 := Hid.u hi_cn; omega))) (by (first | omega | (have zz0 := Hid.u hi_cn; omega))) ls (lv_sub hl [0, 1, 2, 3, 4] rfl)
            ·
              have tc_16 : (r_14.toInt : Int) < r_12.toInt := Int32.lt_iff_toInt_lt.mp (Int32.not_le.mp c_16)
              refine lv_iload hx hb (oc_21 51 (aq_3 shX12_offer_48) ub_4) (lvA0 hl) ?_
              refine lv_goto (tgt := 57) hx hb (oc_167 53 (aq_5 shX12_offer_48) sgw_0_4) rfl ?_
              refine lv_istore_n (lv' := [(3, .int (nI i27)), (4, .int (nI i27)), (0, .ref (g 100)), (1, .int v0), (2, .int v1)]) hx hb (oc_62 57 (aq_9 shX12_offer_48)) rfl hl (ltb rfl) rfl (fun ls hl => ?_)
              refine lv_iinc (v := (nI (i27 + 1))) (lv' := [(4, .int (nI (i27 + 1))), (3, .int (nI i27)), (0, .ref (g 100)), (1, .int v0), (2, .int v1)]) hx hb (oc_132 58 (aq_10 shX12_offer_48) ub_4 sgb_1) hl (k := 1) rfl (nI_1 _) (ltb rfl) rfl (fun ls hl => ?_)
              refine lv_goto (tgt := 27) hx hb (oc_167 61 (aq_13 shX12_offer_48) sgw_255_222) rfl ?_
              exact ih27 (i27 + 1) (nI i27) (by (first | omega | (have zz0 := Hid.u hi_cn; omega))) (by (first | omega | (have zz0 := Hid.u hi_cn; omega))) ls (lv_sub hl [0, 1, 2, 3, 4] rfl)
      exact lp_27 _ 1 0 (Nat.lt_succ_self _) (by (first | omega | (have zz0 := Hid.u hi_cn; omega))) ls (lv_sub hl [0, 1, 2, 3, 4] rfl)
    ·
      have h_4 : ¬ (0 ≤ v1.toInt ∧ v1.toInt ≤ 2) := h_4
      refine lv_if_ne (tgt := 22) hx hb (oc_154 17 (aq_17 shX12_offer_0) sgw_0_5) rfl (fun h => absurd h cq_eq_0_0) (fun _ => ?_)
      refine lv_iconst (v := (-1)) hx hb (oc_2 20 (aq_20 shX12_offer_0)) kic_m1 ?_
      exact W.iret (v := (-1)) hx hb hr (fun t ht hW => ⟨(-1), rfl, trivial, ht⟩) (fun _ h => absurd h List.not_mem_nil) (oc_172 21 (aq_21 shX12_offer_0))
  ·
    have h_2 : ¬ (0 ≤ v0.toInt ∧ v0.toInt ≤ 1000) := h_2
    refine lv_if_eq (tgt := 20) hx hb (oc_153 8 (aq_8 shX12_offer_0) sgw_0_12) rfl (fun _ => ?_) (fun h => absurd h cq_eq_0_0)
    refine lv_iconst (v := (-1)) hx hb (oc_2 20 (aq_20 shX12_offer_0)) kic_m1 ?_
    exact W.iret (v := (-1)) hx hb hr (fun t ht hW => ⟨(-1), rfl, trivial, ht⟩) (fun _ h => absurd h List.not_mem_nil) (oc_172 21 (aq_21 shX12_offer_0))
set_option maxRecDepth 100000 in
set_option maxHeartbeats 4000000 in
theorem q_saves (l : Launch) (D : va_G) (cI cB cZ : ClassId) (g : Nat → Nat) (cn : Nat → Nat) (In : Nat → Int32) (Fn : Nat → Nat → Int32) (k n0 : Nat) (hI : IM cn Fn) (hk : k < 24) (hn : n0 ≤ 12) : Met l yX12_saves (CWS yX12_saves cX12_saves 5 (some .int)) (RM 0 0 0) (PBr [.ref (g 100), .int (nI k), .int (nI n0)] D cI cB cZ (wM cI cB cZ g cn In Fn)) (vp_Si (fun _ => True)) 0 0 (fun _ => False) := by
  refine en_r rfl pn_RX12 (Nat.le_of_ble_eq_true rfl) (fun p e s m below meth c hx hb hml hown S hr hlocks hnm hP hK hS ls hl => ?_)
  have hl : lv_has ls 5 [(0, .ref (g 100)), (1, .int (nI k)), (2, .int (nI n0))] := hl
  have hi_cn : Hid (CB cn) := hI.b
  refine lv_iconst (v := 0) hx hb (oc_3 0 shX12_saves_0) kic_0 ?_
  refine lv_istore_n (lv' := [(3, .int 0), (0, .ref (g 100)), (1, .int (nI k)), (2, .int (nI n0))]) hx hb (oc_62 1 (aq_1 shX12_saves_0)) rfl hl (ltb rfl) rfl (fun ls hl => ?_)
  refine lv_iconst (v := 0) hx hb (oc_3 2 (aq_2 shX12_saves_0)) kic_0 ?_
  refine lv_istore (lv' := [(4, .int 0), (3, .int 0), (0, .ref (g 100)), (1, .int (nI k)), (2, .int (nI n0))]) hx hb (oc_54 3 (aq_3 shX12_saves_0) ub_4) hl (ltb rfl) rfl (fun ls hl => ?_)
  have lp_5 : ∀ (n : Nat) (i5 : Nat) (x5_3 : Int32) , n0 - i5 < n → (i5 ≤ n0) → ∀ ls : Array Slot, lv_has ls 5 [(4, .int (nI i5)), (3, .int x5_3), (0, .ref (g 100)), (1, .int (nI k)), (2, .int (nI n0))] → W p l e (RM 0 0 0) s m ([.ref (g 100), .int (nI k), .int (nI n0)]).toArray below meth c s.heap [] 0 0 (MQ below (vp_Si (fun _ => True)) ([.ref (g 100), .int (nI k), .int (nI n0)]).toArray s 0 0 (fun _ => False)) (F0 m 5 ls []) := by
    intro n5
    induction n5 with
    | zero => intros; (first | omega | (have zz0 := Hid.u hi_cn; omega))
    | succ n5 ih5 =>
      intro i5 x5_3 hmu5 hinv5 ls hl
      have hr5 := hinv5
      have ti5 : (nI i5).toInt = (i5 : Int) := nI_toInt (by (first | omega | (have zz0 := Hid.u hi_cn; omega)))
      refine lv_iload hx hb (oc_21 5 (aq_5 shX12_saves_0) ub_4) (lvA0 hl) ?_
      refine lv_iload_n hx hb (oc_28 7 (aq_7 shX12_saves_0)) rfl (lvA4 hl) ?_
      have : (nI n0).toInt = ((n0 : Nat) : Int) := nI_toInt (by (first | omega | (have zz0 := Hid.u hi_cn; omega)))
      refine lv_icmp_ge (tgt := 32) hx hb (oc_162 8 (aq_8 shX12_saves_0) sgw_0_24) rfl (fun c_1 => ?_) (fun c_1 => ?_)
      ·
        have tc_1 : ((nI n0).toInt : Int) ≤ (nI i5).toInt := Int32.le_iff_toInt_le.mp c_1
        refine lv_iload_n hx hb (oc_29 32 (aq_8 shX12_saves_24)) rfl (lvA1 hl) ?_
        exact W.iret (v := x5_3) hx hb hr (fun t ht hW => ⟨x5_3, rfl, trivial, ht⟩) (fun _ h => absurd h List.not_mem_nil) (oc_172 33 (aq_9 shX12_saves_24))
      ·
        have tc_1 : ((nI i5).toInt : Int) < (nI n0).toInt := Int32.lt_iff_toInt_lt.mp (Int32.not_le.mp c_1)
        refine lv_iload_n hx hb (oc_29 11 (aq_11 shX12_saves_0)) rfl (lvA1 hl) ?_
        refine lv_aload_n hx hb (oc_42 12 (aq_12 shX12_saves_0)) rfl (lvA2 hl) ?_
        refine gM_189 S hK hP (v := .ref (g 86)) rfl (oc_180 13 (aq_13 shX12_saves_0) uw_0_189) ?_
        refine lv_iload_n hx hb (oc_27 16 (aq_16 shX12_saves_0)) rfl (lvA3 hl) ?_
        refine lv_iload hx hb (oc_21 17 (aq_17 shX12_saves_0) ub_4) (lvA0 hl) ?_
        refine lv_iadd hx hb (oc_96 19 (aq_19 shX12_saves_0)) ?_
        refine lv_topi (fun y_2 ey_2 => ?_)
        obtain rfl : y_2 = (nI (k + i5)) := ey_2.trans (nI_add k i5)
        refine lv_bipush (v := 24) hx hb (oc_16 20 (aq_20 shX12_saves_0) sgb_24) kbc_24 ?_
        refine lv_irem hx hb (oc_112 22 (aq_22 shX12_saves_0)) (by decide) ?_
        refine lv_topi (fun y_3 ey_3 => ?_)
        obtain rfl : y_3 = (nI ((k + i5) % 24)) := ey_3.trans (nI_rem (by (first | omega | (have zz0 := Hid.u hi_cn; omega))) (by decide))
        have kb_1 : ((k + i5) % 24) < 24 := by (first | omega | (have zz0 := Hid.u hi_cn; omega))
        refine ldM_86 hx hb hK hP (x := ((Fn 86) ((k + i5) % 24))) (vp_in_nI kb_1 (ltb rfl)) (nI_clamp (Nat.lt_trans kb_1 (ltb rfl))) rfl (oc_46 23 (aq_23 shX12_saves_0)) ?_
        refine lv_iadd hx hb (oc_96 24 shX12_saves_24) ?_
        refine lv_istore_n (lv' := [(3, .int (x5_3 + ((Fn 86) ((k + i5) % 24)))), (4, .int (nI i5)), (0, .ref (g 100)), (1, .int (nI k)), (2, .int (nI n0))]) hx hb (oc_62 25 (aq_1 shX12_saves_24)) rfl hl (ltb rfl) rfl (fun ls hl => ?_)
        refine lv_iinc (v := (nI (i5 + 1))) (lv' := [(4, .int (nI (i5 + 1))), (3, .int (x5_3 + ((Fn 86) ((k + i5) % 24)))), (0, .ref (g 100)), (1, .int (nI k)), (2, .int (nI n0))]) hx hb (oc_132 26 (aq_2 shX12_saves_24) ub_4 sgb_1) hl (k := 1) rfl (nI_1 _) (ltb rfl) rfl (fun ls hl => ?_)
        refine lv_goto (tgt := 5) hx hb (oc_167 29 (aq_5 shX12_saves_24) sgw_255_232) rfl ?_
        exact ih5 (i5 + 1) (x5_3 + ((Fn 86) ((k + i5) % 24))) (by (first | omega | (have zz0 := Hid.u hi_cn; omega))) (by (first | omega | (have zz0 := Hid.u hi_cn; omega))) ls (lv_sub hl [0, 1, 2, 3, 4] rfl)
  exact lp_5 _ 0 0 (Nat.lt_succ_self _) (by (first | omega | (have zz0 := Hid.u hi_cn; omega))) ls (lv_sub hl [0, 1, 2, 3, 4] rfl)
set_option maxRecDepth 100000 in
set_option maxHeartbeats 4000000 in
theorem q_lock (l : Launch) (D : va_G) (cI cB cZ : ClassId) (g : Nat → Nat) (cn : Nat → Nat) (In : Nat → Int32) (Fn : Nat → Nat → Int32) (v0 v1 : Int32) (hI : IM cn Fn) : Met l yX12_lock (CWS yX12_lock cX12_lock 5 (some .int)) (RM 1 0 0) (PBr [.ref (g 100), .int v0, .int v1] D cI cB cZ (wM cI cB cZ g cn In Fn)) (vp_Si (fun _ => True)) 0 0 (fun _ => False) := by
  refine en_r rfl pn_RX12 (Nat.le_of_ble_eq_true rfl) (fun p e s m below meth c hx hb hml hown S hr hlocks hnm hP hK hS ls hl => ?_)
  have hl : lv_has ls 5 [(0, .ref (g 100)), (1, .int v0), (2, .int v1)] := hl
  have hi_cn : Hid (CB cn) := hI.b
  refine lv_iload_n hx hb (oc_27 0 shX12_lock_0) rfl (lvA1 hl) ?_
  refine lv_iconst (v := 1) hx hb (oc_4 1 (aq_1 shX12_lock_0)) kic_1 ?_
  refine lv_bipush (v := 12) hx hb (oc_16 2 (aq_2 shX12_lock_0) sgb_12) kbc_12 ?_
  refine vp_callSi (runS_r (As := [.int v0, .int 1, .int 12]) (rest := []) S (q_in l D cI cB cZ v0 1 12 ) kS_RX12_214 hK hP [] rfl ⟨Nat.le_of_ble_eq_true rfl, Nat.le_of_ble_eq_true rfl⟩ ⟨Nat.le_of_ble_eq_true rfl, Nat.le_of_ble_eq_true rfl⟩ rfl hl.1 rfl (Nat.le_of_ble_eq_true rfl) (oc_184 4 (aq_4 shX12_lock_0) uw_0_214)) (fun r_1 h_2 => ?_)
  rcases h_2 with ⟨rfl, h_2⟩ | ⟨rfl, h_2⟩
  ·
    have h_2 : 1 ≤ v0.toInt ∧ v0.toInt ≤ 12 := h_2
    refine lv_if_eq (tgt := 19) hx hb (oc_153 7 (aq_7 shX12_lock_0) sgw_0_12) rfl (fun h => absurd h cq_eq_1_0) (fun _ => ?_)
    obtain ⟨d0, hd0, rfl⟩ := nI_of (x := v0) (fun q => by have := Int32.lt_iff_toInt_lt.mp q; have e : (0 : Int32).toInt = 0 := rfl; (first | omega | (have zz0 := Hid.u hi_cn; omega)))
    have td0 : (nI d0).toInt = (d0 : Int) := nI_toInt hd0
    have zd0 : (nI d0).toInt.toNat = d0 := by (first | omega | (have zz0 := Hid.u hi_cn; omega))
    refine lv_iload_n hx hb (oc_28 10 (aq_10 shX12_lock_0)) rfl (lvA2 hl) ?_
    refine lv_iconst (v := 0) hx hb (oc_3 11 (aq_11 shX12_lock_0)) kic_0 ?_
    refine lv_iconst (v := 1) hx hb (oc_4 12 (aq_12 shX12_lock_0)) kic_1 ?_
    refine vp_callSi (runS_r (As := [.int v1, .int 0, .int 1]) (rest := []) S (q_in l D cI cB cZ v1 0 1 ) kS_RX12_214 hK hP [] rfl ⟨Nat.le_of_ble_eq_true rfl, Nat.le_of_ble_eq_true rfl⟩ ⟨Nat.le_of_ble_eq_true rfl, Nat.le_of_ble_eq_true rfl⟩ rfl hl.1 rfl (Nat.le_of_ble_eq_true rfl) (oc_184 13 (aq_13 shX12_lock_0) uw_0_214)) (fun r_3 h_4 => ?_)
    rcases h_4 with ⟨rfl, h_4⟩ | ⟨rfl, h_4⟩
    ·
      have h_4 : 0 ≤ v1.toInt ∧ v1.toInt ≤ 1 := h_4
      refine lv_if_ne (tgt := 21) hx hb (oc_154 16 (aq_16 shX12_lock_0) sgw_0_5) rfl (fun _ => ?_) (fun h => absurd h cq_eq_1_0)
      refine lv_iconst (v := 0) hx hb (oc_3 21 (aq_21 shX12_lock_0)) kic_0 ?_
      refine lv_istore_n (lv' := [(3, .int 0), (0, .ref (g 100)), (1, .int (nI d0)), (2, .int v1)]) hx hb (oc_62 22 (aq_22 shX12_lock_0)) rfl hl (ltb rfl) rfl (fun ls hl => ?_)
      refine lv_iconst (v := 1) hx hb (oc_4 23 (aq_23 shX12_lock_0)) kic_1 ?_
      refine lv_istore (lv' := [(4, .int 1), (3, .int 0), (0, .ref (g 100)), (1, .int (nI d0)), (2, .int v1)]) hx hb (oc_54 24 shX12_lock_24 ub_4) hl (ltb rfl) rfl (fun ls hl => ?_)
      have lp_26 : ∀ (n : Nat) (i26 : Nat) (b26 : Nat) , 24 - i26 < n → (i26 ≤ 24 ∧ (b26 < 24)) → ∀ ls : Array Slot, lv_has ls 5 [(4, .int (nI i26)), (3, .int (nI b26)), (0, .ref (g 100)), (1, .int (nI d0)), (2, .int v1)] → W p l e (RM 1 0 0) s m ([.ref (g 100), .int (nI d0), .int v1]).toArray below meth c s.heap [] 0 0 (MQ below (vp_Si (fun _ => True)) ([.ref (g 100), .int (nI d0), .int v1]).toArray s 0 0 (fun _ => False)) (F0 m 26 ls []) := by
        intro n26
        induction n26 with
        | zero => intros; (first | omega | (have zz0 := Hid.u hi_cn; omega))
        | succ n26 ih26 =>
          intro i26 b26 hmu26 hinv26 ls hl
          obtain ⟨hr26, hx26_0⟩ := hinv26
          have ti26 : (nI i26).toInt = (i26 : Int) := nI_toInt (by (first | omega | (have zz0 := Hid.u hi_cn; omega)))
          refine lv_iload hx hb (oc_21 26 (aq_2 shX12_lock_24) ub_4) (lvA0 hl) ?_
          refine lv_bipush (v := 24) hx hb (oc_16 28 (aq_4 shX12_lock_24) sgb_24) kbc_24 ?_
          refine lv_icmp_ge (tgt := 62) hx hb (oc_162 30 (aq_6 shX12_lock_24) sgw_0_32) rfl (fun c_5 => ?_) (fun c_5 => ?_)
          ·
            have tc_5 : (24 : Int) ≤ (nI i26).toInt := Int32.le_iff_toInt_le.mp c_5
            refine lv_iload_n hx hb (oc_28 62 (aq_13 shX12_lock_49)) rfl (lvA4 hl) ?_
            refine lv_if_ne (tgt := 70) hx hb (oc_154 63 (aq_14 shX12_lock_49) sgw_0_7) rfl (fun c_6 => ?_) (fun c_6 => ?_)
            ·
              have tc_6 : (v1.toInt : Int) ≠ 0 := fun q => c_6 (Int32.toInt_inj.mp q)
              refine lv_aload_n hx hb (oc_42 70 (aq_21 shX12_lock_49)) rfl (lvA2 hl) ?_
              refine lv_iload_n hx hb (oc_29 71 (aq_22 shX12_lock_49)) rfl (lvA1 hl) ?_
              refine lv_iload_n hx hb (oc_27 72 (aq_23 shX12_lock_49)) rfl (lvA3 hl) ?_
              refine vp_callSi (runV_ra (As := [.int (nI b26), .int (nI d0)]) (rest := []) S (q_saves l D cI cB cZ g cn In Fn b26 d0 hI (by (first | omega | (have zz0 := Hid.u hi_cn; omega))) (by (first | omega | (have zz0 := Hid.u hi_cn; omega)))) kV_RX12_475 hK hP 0 rfl rfl rfl ⟨Nat.le_of_ble_eq_true rfl, Nat.le_of_ble_eq_true rfl⟩ ⟨Nat.le_of_ble_eq_true rfl, Nat.le_of_ble_eq_true rfl⟩ rfl hl.1 rfl (Nat.le_of_ble_eq_true rfl) (oc_182 73 shX12_lock_73 uw_1_219)) (fun r_7 h_8 => ?_)
              exact W.iret (v := r_7) hx hb hr (fun t ht hW => ⟨r_7, rfl, trivial, ht⟩) (fun _ h => absurd h List.not_mem_nil) (oc_172 76 (aq_3 shX12_lock_73))
            ·
              have tc_6 : (v1.toInt : Int) = 0 := congrArg Int32.toInt c_6
              refine lv_iload_n hx hb (oc_29 66 (aq_17 shX12_lock_49)) rfl (lvA1 hl) ?_
              refine lv_goto (tgt := 76) hx hb (oc_167 67 (aq_18 shX12_lock_49) sgw_0_9) rfl ?_
              exact W.iret (v := (nI b26)) hx hb hr (fun t ht hW => ⟨(nI b26), rfl, trivial, ht⟩) (fun _ h => absurd h List.not_mem_nil) (oc_172 76 (aq_3 shX12_lock_73))
          ·
            have tc_5 : ((nI i26).toInt : Int) < 24 := Int32.lt_iff_toInt_lt.mp (Int32.not_le.mp c_5)
            refine lv_aload_n hx hb (oc_42 33 (aq_9 shX12_lock_24)) rfl (lvA2 hl) ?_
            refine lv_iload hx hb (oc_21 34 (aq_10 shX12_lock_24) ub_4) (lvA0 hl) ?_
            refine lv_iload_n hx hb (oc_27 36 (aq_12 shX12_lock_24)) rfl (lvA3 hl) ?_
            refine vp_callSi (runV_ra (As := [.int (nI i26), .int (nI d0)]) (rest := []) S (q_saves l D cI cB cZ g cn In Fn i26 d0 hI (by (first | omega | (have zz0 := Hid.u hi_cn; omega))) (by (first | omega | (have zz0 := Hid.u hi_cn; omega)))) kV_RX12_475 hK hP 0 rfl rfl rfl ⟨Nat.le_of_ble_eq_true rfl, Nat.le_of_ble_eq_true rfl⟩ ⟨Nat.le_of_ble_eq_true rfl, Nat.le_of_ble_eq_true rfl⟩ rfl hl.1 rfl (Nat.le_of_ble_eq_true rfl) (oc_182 37 (aq_13 shX12_lock_24) uw_1_219)) (fun r_9 h_10 => ?_)
            refine lv_aload_n hx hb (oc_42 40 (aq_16 shX12_lock_24)) rfl (lvA2 hl) ?_
            refine lv_iload_n hx hb (oc_29 41 (aq_17 shX12_lock_24)) rfl (lvA1 hl) ?_
            refine lv_iload_n hx hb (oc_27 42 (aq_18 shX12_lock_24)) rfl (lvA3 hl) ?_
            refine vp_callSi (runV_ra (As := [.int (nI b26), .int (nI d0)]) (rest := [.int r_9]) S (q_saves l D cI cB cZ g cn In Fn b26 d0 hI (by (first | omega | (have zz0 := Hid.u hi_cn; omega))) (by (first | omega | (have zz0 := Hid.u hi_cn; omega)))) kV_RX12_475 hK hP 0 rfl rfl rfl ⟨Nat.le_of_ble_eq_true rfl, Nat.le_of_ble_eq_true rfl⟩ ⟨Nat.le_of_ble_eq_true rfl, Nat.le_of_ble_eq_true rfl⟩ rfl hl.1 rfl (Nat.le_of_ble_eq_true rfl) (oc_182 43 (aq_19 shX12_lock_24) uw_1_219)) (fun r_11 h_12 => ?_)
            refine lv_icmp_le (tgt := 54) hx hb (oc_164 46 (aq_22 shX12_lock_24) sgw_0_8) rfl (fun c_13 => ?_) (fun c_13 => ?_)
            ·
              have tc_13 : (r_9.toInt : Int) ≤ r_11.toInt := Int32.le_iff_toInt_le.mp c_13
              refine lv_iload_n hx hb (oc_29 54 (aq_5 shX12_lock_49)) rfl (lvA1 hl) ?_
              refine lv_istore_n (lv' := [(3, .int (nI b26)), (4, .int (nI i26)), (0, .ref (g 100)), (1, .int (nI d0)), (2, .int v1)]) hx hb (oc_62 55 (aq_6 shX12_lock_49)) rfl hl (ltb rfl) rfl (fun ls hl => ?_)
              refine lv_iinc (v := (nI (i26 + 1))) (lv' := [(4, .int (nI (i26 + 1))), (3, .int (nI b26)), (0, .ref (g 100)), (1, .int (nI d0)), (2, .int v1)]) hx hb (oc_132 56 (aq_7 shX12_lock_49) ub_4 sgb_1) hl (k := 1) rfl (nI_1 _) (ltb rfl) rfl (fun ls hl => ?_)
              refine lv_goto (tgt := 26) hx hb (oc_167 59 (aq_10 shX12_lock_49) sgw_255_223) rfl ?_
              exact ih26 (i26 + 1) b26 (by (first | omega | (have zz0 := Hid.u hi_cn; omega))) ⟨(by (first | omega | (have zz0 := Hid.u hi_cn; omega))), (by (first | omega | (have zz0 := Hid.u hi_cn; omega)))⟩ ls (lv_sub hl [0, 1, 2, 3, 4] rfl)
            ·
              have tc_13 : (r_11.toInt : Int) < r_9.toInt := Int32.lt_iff_toInt_lt.mp (Int32.not_le.mp c_13)
              refine lv_iload hx hb (oc_21 49 shX12_lock_49 ub_4) (lvA0 hl) ?_
              refine lv_goto (tgt := 55) hx hb (oc_167 51 (aq_2 shX12_lock_49) sgw_0_4) rfl ?_
              refine lv_istore_n (lv' := [(3, .int (nI i26)), (4, .int (nI i26)), (0, .ref (g 100)), (1, .int (nI d0)), (2, .int v1)]) hx hb (oc_62 55 (aq_6 shX12_lock_49)) rfl hl (ltb rfl) rfl (fun ls hl => ?_)
              refine lv_iinc (v := (nI (i26 + 1))) (lv' := [(4, .int (nI (i26 + 1))), (3, .int (nI i26)), (0, .ref (g 100)), (1, .int (nI d0)), (2, .int v1)]) hx hb (oc_132 56 (aq_7 shX12_lock_49) ub_4 sgb_1) hl (k := 1) rfl (nI_1 _) (ltb rfl) rfl (fun ls hl => ?_)
              refine lv_goto (tgt := 26) hx hb (oc_167 59 (aq_10 shX12_lock_49) sgw_255_223) rfl ?_
              exact ih26 (i26 + 1) i26 (by (first | omega | (have zz0 := Hid.u hi_cn; omega))) ⟨(by (first | omega | (have zz0 := Hid.u hi_cn; omega))), (by (first | omega | (have zz0 := Hid.u hi_cn; omega)))⟩ ls (lv_sub hl [0, 1, 2, 3, 4] rfl)
      exact lp_26 _ 1 0 (Nat.lt_succ_self _) ⟨(by (first | omega | (have zz0 := Hid.u hi_cn; omega))), (by (first | omega | (have zz0 := Hid.u hi_cn; omega)))⟩ ls (lv_sub hl [0, 1, 2, 3, 4] rfl)
    ·
      have h_4 : ¬ (0 ≤ v1.toInt ∧ v1.toInt ≤ 1) := h_4
      refine lv_if_ne (tgt := 21) hx hb (oc_154 16 (aq_16 shX12_lock_0) sgw_0_5) rfl (fun h => absurd h cq_eq_0_0) (fun _ => ?_)
      refine lv_iconst (v := (-1)) hx hb (oc_2 19 (aq_19 shX12_lock_0)) kic_m1 ?_
      exact W.iret (v := (-1)) hx hb hr (fun t ht hW => ⟨(-1), rfl, trivial, ht⟩) (fun _ h => absurd h List.not_mem_nil) (oc_172 20 (aq_20 shX12_lock_0))
  ·
    have h_2 : ¬ (1 ≤ v0.toInt ∧ v0.toInt ≤ 12) := h_2
    refine lv_if_eq (tgt := 19) hx hb (oc_153 7 (aq_7 shX12_lock_0) sgw_0_12) rfl (fun _ => ?_) (fun h => absurd h cq_eq_0_0)
    refine lv_iconst (v := (-1)) hx hb (oc_2 19 (aq_19 shX12_lock_0)) kic_m1 ?_
    exact W.iret (v := (-1)) hx hb hr (fun t ht hW => ⟨(-1), rfl, trivial, ht⟩) (fun _ h => absurd h List.not_mem_nil) (oc_172 20 (aq_20 shX12_lock_0))
set_option maxRecDepth 100000 in
set_option maxHeartbeats 4000000 in
theorem q_beside (l : Launch) (D : va_G) (cI cB cZ : ClassId) (g : Nat → Nat) (cn : Nat → Nat) (In : Nat → Int32) (Fn : Nat → Nat → Int32) (v0 v1 : Int32) (hI : IM cn Fn) : Met l yX12_beside (CWS yX12_beside cX12_beside 6 (some .int)) (RM 1 0 0) (PBr [.ref (g 100), .int v0, .int v1] D cI cB cZ (wM cI cB cZ g cn In Fn)) (vp_Si (fun _ => True)) 0 0 (fun _ => False) := by
  refine en_r rfl pn_RX12 (Nat.le_of_ble_eq_true rfl) (fun p e s m below meth c hx hb hml hown S hr hlocks hnm hP hK hS ls hl => ?_)
  have hl : lv_has ls 6 [(0, .ref (g 100)), (1, .int v0), (2, .int v1)] := hl
  have hi_cn : Hid (CB cn) := hI.b
  refine lv_iload_n hx hb (oc_27 0 shX12_beside_0) rfl (lvA1 hl) ?_
  refine lv_iconst (v := 0) hx hb (oc_3 1 (aq_1 shX12_beside_0)) kic_0 ?_
  refine lv_sipush (v := 198) hx hb (oc_17 2 (aq_2 shX12_beside_0) sgw_0_198) (by decide) ?_
  refine vp_callSi (runS_r (As := [.int v0, .int 0, .int 198]) (rest := []) S (q_in l D cI cB cZ v0 0 198 ) kS_RX12_214 hK hP [] rfl ⟨Nat.le_of_ble_eq_true rfl, Nat.le_of_ble_eq_true rfl⟩ ⟨Nat.le_of_ble_eq_true rfl, Nat.le_of_ble_eq_true rfl⟩ rfl hl.1 rfl (Nat.le_of_ble_eq_true rfl) (oc_184 5 (aq_5 shX12_beside_0) uw_0_214)) (fun r_1 h_2 => ?_)
  rcases h_2 with ⟨rfl, h_2⟩ | ⟨rfl, h_2⟩
  ·
    have h_2 : 0 ≤ v0.toInt ∧ v0.toInt ≤ 198 := h_2
    refine lv_if_eq (tgt := 22) hx hb (oc_153 8 (aq_8 shX12_beside_0) sgw_0_14) rfl (fun h => absurd h cq_eq_1_0) (fun _ => ?_)
    refine lv_iload_n hx hb (oc_28 11 (aq_11 shX12_beside_0)) rfl (lvA2 hl) ?_
    refine lv_iconst (v := 1) hx hb (oc_4 12 (aq_12 shX12_beside_0)) kic_1 ?_
    refine lv_sipush (v := 1000) hx hb (oc_17 13 (aq_13 shX12_beside_0) sgw_3_232) (by decide) ?_
    refine vp_callSi (runS_r (As := [.int v1, .int 1, .int 1000]) (rest := []) S (q_in l D cI cB cZ v1 1 1000 ) kS_RX12_214 hK hP [] rfl ⟨Nat.le_of_ble_eq_true rfl, Nat.le_of_ble_eq_true rfl⟩ ⟨Nat.le_of_ble_eq_true rfl, Nat.le_of_ble_eq_true rfl⟩ rfl hl.1 rfl (Nat.le_of_ble_eq_true rfl) (oc_184 16 (aq_16 shX12_beside_0) uw_0_214)) (fun r_3 h_4 => ?_)
    rcases h_4 with ⟨rfl, h_4⟩ | ⟨rfl, h_4⟩
    ·
      have h_4 : 1 ≤ v1.toInt ∧ v1.toInt ≤ 1000 := h_4
      refine lv_if_ne (tgt := 24) hx hb (oc_154 19 (aq_19 shX12_beside_0) sgw_0_5) rfl (fun _ => ?_) (fun h => absurd h cq_eq_1_0)
      refine lv_iconst (v := 0) hx hb (oc_3 24 shX12_beside_24) kic_0 ?_
      refine lv_istore_n (lv' := [(3, .int 0), (0, .ref (g 100)), (1, .int v0), (2, .int v1)]) hx hb (oc_62 25 (aq_1 shX12_beside_24)) rfl hl (ltb rfl) rfl (fun ls hl => ?_)
      refine lv_iconst (v := 0) hx hb (oc_3 26 (aq_2 shX12_beside_24)) kic_0 ?_
      refine lv_istore (lv' := [(4, .int 0), (3, .int 0), (0, .ref (g 100)), (1, .int v0), (2, .int v1)]) hx hb (oc_54 27 (aq_3 shX12_beside_24) ub_4) hl (ltb rfl) rfl (fun ls hl => ?_)
      have lp_29 : ∀ (n : Nat) (i29 : Nat) (x29_3 : Int32) , cn 1 - i29 < n → (i29 ≤ cn 1) → ∀ ls : Array Slot, lv_has ls 6 [(4, .int (nI i29)), (3, .int x29_3), (0, .ref (g 100)), (1, .int v0), (2, .int v1)] → W p l e (RM 1 0 0) s m ([.ref (g 100), .int v0, .int v1]).toArray below meth c s.heap [] 0 0 (MQ below (vp_Si (fun _ => True)) ([.ref (g 100), .int v0, .int v1]).toArray s 0 0 (fun _ => False)) (F0 m 29 ls []) := by
        intro n29
        induction n29 with
        | zero => intros; (first | omega | (have zz0 := Hid.u hi_cn; omega))
        | succ n29 ih29 =>
          intro i29 x29_3 hmu29 hinv29 ls hl
          have hr29 := hinv29
          have ti29 : (nI i29).toInt = (i29 : Int) := nI_toInt (by (first | omega | (have zz0 := Hid.u hi_cn; omega)))
          refine lv_iload hx hb (oc_21 29 (aq_5 shX12_beside_24) ub_4) (lvA0 hl) ?_
          refine lv_aload_n hx hb (oc_42 31 (aq_7 shX12_beside_24)) rfl (lvA2 hl) ?_
          refine gM_204 S hK hP (v := .int (nI (cn 1))) rfl (oc_180 32 (aq_8 shX12_beside_24) uw_0_204) ?_
          have : (nI (cn 1)).toInt = (((cn 1) : Nat) : Int) := nI_toInt (by (first | omega | (have zz0 := Hid.u hi_cn; omega)))
          refine lv_icmp_ge (tgt := 125) hx hb (oc_162 35 (aq_11 shX12_beside_24) sgw_0_90) rfl (fun c_5 => ?_) (fun c_5 => ?_)
          ·
            have tc_5 : ((nI (cn 1)).toInt : Int) ≤ (nI i29).toInt := Int32.le_iff_toInt_le.mp c_5
            refine lv_iload_n hx hb (oc_29 125 shX12_beside_125) rfl (lvA1 hl) ?_
            exact W.iret (v := x29_3) hx hb hr (fun t ht hW => ⟨x29_3, rfl, trivial, ht⟩) (fun _ h => absurd h List.not_mem_nil) (oc_172 126 (aq_1 shX12_beside_125))
          ·
            have tc_5 : ((nI i29).toInt : Int) < (nI (cn 1)).toInt := Int32.lt_iff_toInt_lt.mp (Int32.not_le.mp c_5)
            refine lv_iconst (v := 0) hx hb (oc_3 38 (aq_14 shX12_beside_24)) kic_0 ?_
            refine lv_istore (lv' := [(5, .int 0), (4, .int (nI i29)), (3, .int x29_3), (0, .ref (g 100)), (1, .int v0), (2, .int v1)]) hx hb (oc_54 39 (aq_15 shX12_beside_24) ub_5) hl (ltb rfl) rfl (fun ls hl => ?_)
            have lp_41 : ∀ (n : Nat) (i41 : Nat) (x41_3 : Int32) , cn 83 - i41 < n → (i41 ≤ cn 83) → ∀ ls : Array Slot, lv_has ls 6 [(5, .int (nI i41)), (4, .int (nI i29)), (3, .int x41_3), (0, .ref (g 100)), (1, .int v0), (2, .int v1)] → W p l e (RM 1 0 0) s m ([.ref (g 100), .int v0, .int v1]).toArray below meth c s.heap [] 0 0 (MQ below (vp_Si (fun _ => True)) ([.ref (g 100), .int v0, .int v1]).toArray s 0 0 (fun _ => False)) (F0 m 41 ls []) := by
              intro n41
              induction n41 with
              | zero => intros; (first | omega | (have zz0 := Hid.u hi_cn; omega))
              | succ n41 ih41 =>
                intro i41 x41_3 hmu41 hinv41 ls hl
                have hr41 := hinv41
                have ti41 : (nI i41).toInt = (i41 : Int) := nI_toInt (by (first | omega | (have zz0 := Hid.u hi_cn; omega)))
                refine lv_iload hx hb (oc_21 41 (aq_17 shX12_beside_24) ub_5) (lvA0 hl) ?_
                refine lv_aload_n hx hb (oc_42 43 (aq_19 shX12_beside_24)) rfl (lvA3 hl) ?_
                refine gM_478 S hK hP (v := .int (nI (cn 83))) rfl (oc_180 44 (aq_20 shX12_beside_24) uw_1_222) ?_
                have : (nI (cn 83)).toInt = (((cn 83) : Nat) : Int) := nI_toInt (by (first | omega | (have zz0 := Hid.u hi_cn; omega)))
                refine lv_icmp_ge (tgt := 119) hx hb (oc_162 47 (aq_23 shX12_beside_24) sgw_0_72) rfl (fun c_6 => ?_) (fun c_6 => ?_)
                ·
                  have tc_6 : ((nI (cn 83)).toInt : Int) ≤ (nI i41).toInt := Int32.le_iff_toInt_le.mp c_6
                  refine lv_iinc (v := (nI (i29 + 1))) (lv' := [(4, .int (nI (i29 + 1))), (5, .int (nI i41)), (3, .int x41_3), (0, .ref (g 100)), (1, .int v0), (2, .int v1)]) hx hb (oc_132 119 (aq_20 shX12_beside_99) ub_4 sgb_1) hl (k := 1) rfl (nI_1 _) (ltb rfl) rfl (fun ls hl => ?_)
                  refine lv_goto (tgt := 29) hx hb (oc_167 122 (aq_23 shX12_beside_99) sgw_255_163) rfl ?_
                  exact ih29 (i29 + 1) x41_3 (by (first | omega | (have zz0 := Hid.u hi_cn; omega))) (by (first | omega | (have zz0 := Hid.u hi_cn; omega))) ls (lv_sub hl [0, 2, 3, 4, 5] rfl)
                ·
                  have tc_6 : ((nI i41).toInt : Int) < (nI (cn 83)).toInt := Int32.lt_iff_toInt_lt.mp (Int32.not_le.mp c_6)
                  refine lv_aload_n hx hb (oc_42 50 shX12_beside_50) rfl (lvA3 hl) ?_
                  refine gM_16 S hK hP (v := .ref (g 5)) rfl (oc_180 51 (aq_1 shX12_beside_50) uw_0_16) ?_
                  refine lv_iload hx hb (oc_21 54 (aq_4 shX12_beside_50) ub_4) (lvA1 hl) ?_
                  have kb_1 : i29 < 10 := by (first | omega | (have zz0 := Hid.u hi_cn; omega))
                  refine ldM_5 hx hb hK hP (x := ((Fn 5) i29)) (vp_in_nI kb_1 (ltb rfl)) (nI_clamp (Nat.lt_trans kb_1 (ltb rfl))) rfl (oc_46 56 (aq_6 shX12_beside_50)) ?_
                  refine lv_if_ne (tgt := 113) hx hb (oc_154 57 (aq_7 shX12_beside_50) sgw_0_56) rfl (fun c_7 => ?_) (fun c_7 => ?_)
                  ·
                    have tc_7 : (((Fn 5) i29).toInt : Int) ≠ 0 := fun q => c_7 (Int32.toInt_inj.mp q)
                    refine lv_iinc (v := (nI (i41 + 1))) (lv' := [(5, .int (nI (i41 + 1))), (4, .int (nI i29)), (3, .int x41_3), (0, .ref (g 100)), (1, .int v0), (2, .int v1)]) hx hb dX12_beside_113 hl (k := 0) rfl (nI_1 _) (ltb rfl) rfl (fun ls hl => ?_)
                    refine lv_goto (tgt := 41) hx hb dX12_beside_116 rfl ?_
                    exact ih41 (i41 + 1) x41_3 (by (first | omega | (have zz0 := Hid.u hi_cn; omega))) (by (first | omega | (have zz0 := Hid.u hi_cn; omega))) ls (lv_sub hl [0, 1, 2, 3, 4, 5] rfl)
                  ·
                    have tc_7 : (((Fn 5) i29).toInt : Int) = 0 := congrArg Int32.toInt c_7
                    refine lv_aload_n hx hb (oc_42 60 (aq_10 shX12_beside_50)) rfl (lvA3 hl) ?_
                    refine gM_198 S hK hP (v := .ref (g 89)) rfl (oc_180 61 (aq_11 shX12_beside_50) uw_0_198) ?_
                    refine lv_iload hx hb (oc_21 64 (aq_14 shX12_beside_50) ub_5) (lvA0 hl) ?_
                    have kb_2 : i41 < 10 := by (first | omega | (have zz0 := Hid.u hi_cn; omega))
                    refine ldM_89 hx hb hK hP (x := ((Fn 89) i41)) (vp_in_nI kb_2 (ltb rfl)) (nI_clamp (Nat.lt_trans kb_2 (ltb rfl))) rfl (oc_46 66 (aq_16 shX12_beside_50)) ?_
                    refine lv_iload_n hx hb (oc_28 67 (aq_17 shX12_beside_50)) rfl (lvA5 hl) ?_
                    refine lv_icmp_lt (tgt := 113) hx hb (oc_161 68 (aq_18 shX12_beside_50) sgw_0_45) rfl (fun c_8 => ?_) (fun c_8 => ?_)
                    ·
                      have tc_8 : (((Fn 89) i41).toInt : Int) < v1.toInt := Int32.lt_iff_toInt_lt.mp c_8
                      refine lv_iinc (v := (nI (i41 + 1))) (lv' := [(5, .int (nI (i41 + 1))), (4, .int (nI i29)), (3, .int x41_3), (0, .ref (g 100)), (1, .int v0), (2, .int v1)]) hx hb dX12_beside_113 hl (k := 0) rfl (nI_1 _) (ltb rfl) rfl (fun ls hl => ?_)
                      refine lv_goto (tgt := 41) hx hb dX12_beside_116 rfl ?_
                      exact ih41 (i41 + 1) x41_3 (by (first | omega | (have zz0 := Hid.u hi_cn; omega))) (by (first | omega | (have zz0 := Hid.u hi_cn; omega))) ls (lv_sub hl [0, 1, 2, 3, 4, 5] rfl)
                    ·
                      have tc_8 : (v1.toInt : Int) ≤ ((Fn 89) i41).toInt := Int32.le_iff_toInt_le.mp (Int32.not_lt.mp c_8)
                      refine lv_aload_n hx hb (oc_42 71 (aq_21 shX12_beside_50)) rfl (lvA3 hl) ?_
                      refine gM_7 S hK hP (v := .ref (g 3)) rfl (oc_180 72 (aq_22 shX12_beside_50) uw_0_7) ?_
                      refine lv_iload hx hb (oc_21 75 shX12_beside_75 ub_4) (lvA1 hl) ?_
                      refine ldM_3 hx hb hK hP (x := ((Fn 3) i29)) (vp_in_nI kb_1 (ltb rfl)) (nI_clamp (Nat.lt_trans kb_1 (ltb rfl))) rfl (oc_46 77 (aq_2 shX12_beside_75)) ?_
                      refine lv_aload_n hx hb (oc_42 78 (aq_3 shX12_beside_75)) rfl (lvA3 hl) ?_
                      refine gM_13 S hK hP (v := .ref (g 4)) rfl (oc_180 79 (aq_4 shX12_beside_75) uw_0_13) ?_
                      refine lv_iload hx hb (oc_21 82 (aq_7 shX12_beside_75) ub_4) (lvA1 hl) ?_
                      refine ldM_4 hx hb hK hP (x := ((Fn 4) i29)) (vp_in_nI kb_1 (ltb rfl)) (nI_clamp (Nat.lt_trans kb_1 (ltb rfl))) rfl (oc_46 84 (aq_9 shX12_beside_75)) ?_
                      refine lv_aload_n hx hb (oc_42 85 (aq_10 shX12_beside_75)) rfl (lvA3 hl) ?_
                      refine gM_192 S hK hP (v := .ref (g 87)) rfl (oc_180 86 (aq_11 shX12_beside_75) uw_0_192) ?_
                      refine lv_iload hx hb (oc_21 89 (aq_14 shX12_beside_75) ub_5) (lvA0 hl) ?_
                      refine ldM_87 hx hb hK hP (x := ((Fn 87) i41)) (vp_in_nI kb_2 (ltb rfl)) (nI_clamp (Nat.lt_trans kb_2 (ltb rfl))) rfl (oc_46 91 (aq_16 shX12_beside_75)) ?_
                      refine lv_aload_n hx hb (oc_42 92 (aq_17 shX12_beside_75)) rfl (lvA3 hl) ?_
                      refine gM_195 S hK hP (v := .ref (g 88)) rfl (oc_180 93 (aq_18 shX12_beside_75) uw_0_195) ?_
                      refine lv_iload hx hb (oc_21 96 (aq_21 shX12_beside_75) ub_5) (lvA0 hl) ?_
                      refine ldM_88 hx hb hK hP (x := ((Fn 88) i41)) (vp_in_nI kb_2 (ltb rfl)) (nI_clamp (Nat.lt_trans kb_2 (ltb rfl))) rfl (oc_46 98 (aq_23 shX12_beside_75)) ?_
                      refine vp_callSi (runS_r (As := [.int ((Fn 3) i29), .int ((Fn 4) i29), .int ((Fn 87) i41), .int ((Fn 88) i41)]) (rest := []) S (q_apart l D cI cB cZ ((Fn 3) i29) ((Fn 4) i29) ((Fn 87) i41) ((Fn 88) i41) ) kS_RX12_360 hK hP [] rfl ⟨Nat.le_of_ble_eq_true rfl, Nat.le_of_ble_eq_true rfl⟩ ⟨Nat.le_of_ble_eq_true rfl, Nat.le_of_ble_eq_true rfl⟩ rfl hl.1 rfl (Nat.le_of_ble_eq_true rfl) (oc_184 99 shX12_beside_99 uw_1_104)) (fun r_9 h_10 => ?_)
                      subst h_10
                      refine lv_iload_n hx hb (oc_27 102 (aq_3 shX12_beside_99)) rfl (lvA4 hl) ?_
                      refine lv_icmp_gt (tgt := 113) hx hb (oc_163 103 (aq_4 shX12_beside_99) sgw_0_10) rfl (fun c_11 => ?_) (fun c_11 => ?_)
                      ·
                        have tc_11 : (v0.toInt : Int) < (apM ((Fn 3) i29) ((Fn 4) i29) ((Fn 87) i41) ((Fn 88) i41)).toInt := Int32.lt_iff_toInt_lt.mp c_11
                        refine lv_iinc (v := (nI (i41 + 1))) (lv' := [(5, .int (nI (i41 + 1))), (4, .int (nI i29)), (3, .int x41_3), (0, .ref (g 100)), (1, .int v0), (2, .int v1)]) hx hb dX12_beside_113 hl (k := 0) rfl (nI_1 _) (ltb rfl) rfl (fun ls hl => ?_)
                        refine lv_goto (tgt := 41) hx hb dX12_beside_116 rfl ?_
                        exact ih41 (i41 + 1) x41_3 (by (first | omega | (have zz0 := Hid.u hi_cn; omega))) (by (first | omega | (have zz0 := Hid.u hi_cn; omega))) ls (lv_sub hl [0, 1, 2, 3, 4, 5] rfl)
                      ·
                        have tc_11 : ((apM ((Fn 3) i29) ((Fn 4) i29) ((Fn 87) i41) ((Fn 88) i41)).toInt : Int) ≤ v0.toInt := Int32.le_iff_toInt_le.mp (Int32.not_lt.mp c_11)
                        refine lv_iload_n hx hb (oc_29 106 (aq_7 shX12_beside_99)) rfl (lvA2 hl) ?_
                        refine lv_iconst (v := 1) hx hb (oc_4 107 (aq_8 shX12_beside_99)) kic_1 ?_
                        refine lv_iload hx hb (oc_21 108 (aq_9 shX12_beside_99) ub_4) (lvA1 hl) ?_
                        refine lv_ishl hx hb (oc_120 110 (aq_11 shX12_beside_99)) ?_
                        refine lv_ior hx hb (oc_128 111 (aq_12 shX12_beside_99)) ?_
                        refine lv_istore_n (lv' := [(3, .int (x41_3 ||| (1 <<< ((nI i29) &&& 31)))), (5, .int (nI i41)), (4, .int (nI i29)), (0, .ref (g 100)), (1, .int v0), (2, .int v1)]) hx hb (oc_62 112 (aq_13 shX12_beside_99)) rfl hl (ltb rfl) rfl (fun ls hl => ?_)
                        refine lv_iinc (v := (nI (i41 + 1))) (lv' := [(5, .int (nI (i41 + 1))), (3, .int (x41_3 ||| (1 <<< ((nI i29) &&& 31)))), (4, .int (nI i29)), (0, .ref (g 100)), (1, .int v0), (2, .int v1)]) hx hb dX12_beside_113 hl (k := 1) rfl (nI_1 _) (ltb rfl) rfl (fun ls hl => ?_)
                        refine lv_goto (tgt := 41) hx hb dX12_beside_116 rfl ?_
                        exact ih41 (i41 + 1) (x41_3 ||| (1 <<< ((nI i29) &&& 31))) (by (first | omega | (have zz0 := Hid.u hi_cn; omega))) (by (first | omega | (have zz0 := Hid.u hi_cn; omega))) ls (lv_sub hl [0, 2, 1, 3, 4, 5] rfl)
            exact lp_41 _ 0 x29_3 (Nat.lt_succ_self _) (by (first | omega | (have zz0 := Hid.u hi_cn; omega))) ls (lv_sub hl [0, 1, 2, 3, 4, 5] rfl)
      exact lp_29 _ 0 0 (Nat.lt_succ_self _) (by (first | omega | (have zz0 := Hid.u hi_cn; omega))) ls (lv_sub hl [0, 1, 2, 3, 4] rfl)
    ·
      have h_4 : ¬ (1 ≤ v1.toInt ∧ v1.toInt ≤ 1000) := h_4
      refine lv_if_ne (tgt := 24) hx hb (oc_154 19 (aq_19 shX12_beside_0) sgw_0_5) rfl (fun h => absurd h cq_eq_0_0) (fun _ => ?_)
      refine lv_iconst (v := (-1)) hx hb (oc_2 22 (aq_22 shX12_beside_0)) kic_m1 ?_
      exact W.iret (v := (-1)) hx hb hr (fun t ht hW => ⟨(-1), rfl, trivial, ht⟩) (fun _ h => absurd h List.not_mem_nil) (oc_172 23 (aq_23 shX12_beside_0))
  ·
    have h_2 : ¬ (0 ≤ v0.toInt ∧ v0.toInt ≤ 198) := h_2
    refine lv_if_eq (tgt := 22) hx hb (oc_153 8 (aq_8 shX12_beside_0) sgw_0_14) rfl (fun _ => ?_) (fun h => absurd h cq_eq_0_0)
    refine lv_iconst (v := (-1)) hx hb (oc_2 22 (aq_22 shX12_beside_0)) kic_m1 ?_
    exact W.iret (v := (-1)) hx hb hr (fun t ht hW => ⟨(-1), rfl, trivial, ht⟩) (fun _ h => absurd h List.not_mem_nil) (oc_172 23 (aq_23 shX12_beside_0))
set_option maxRecDepth 100000 in
set_option maxHeartbeats 4000000 in
theorem q_late (l : Launch) (D : va_G) (cI cB cZ : ClassId) (g : Nat → Nat) (cn : Nat → Nat) (In : Nat → Int32) (Fn : Nat → Nat → Int32) (v0 v1 : Int32) (hI : IM cn Fn) : Met l yX12_late (CWS yX12_late cX12_late 5 (some .int)) (RM 1 0 0) (PBr [.ref (g 100), .int v0, .int v1] D cI cB cZ (wM cI cB cZ g cn In Fn)) (vp_Si (fun _ => True)) 0 0 (fun _ => False) := by
  refine en_r rfl pn_RX12 (Nat.le_of_ble_eq_true rfl) (fun p e s m below meth c hx hb hml hown S hr hlocks hnm hP hK hS ls hl => ?_)
  have hl : lv_has ls 5 [(0, .ref (g 100)), (1, .int v0), (2, .int v1)] := hl
  have hi_cn : Hid (CB cn) := hI.b
  refine lv_aload_n hx hb (oc_42 0 shX12_late_0) rfl (lvA0 hl) ?_
  refine lv_iload_n hx hb (oc_27 1 (aq_1 shX12_late_0)) rfl (lvA1 hl) ?_
  refine vp_callSi (runV_ra (As := [.int v0]) (rest := []) S (q_isKitchen l D cI cB cZ g cn In Fn v0 hI) kV_RX12_218 hK hP 0 rfl rfl rfl ⟨Nat.le_of_ble_eq_true rfl, Nat.le_of_ble_eq_true rfl⟩ ⟨Nat.le_of_ble_eq_true rfl, Nat.le_of_ble_eq_true rfl⟩ rfl hl.1 rfl (Nat.le_of_ble_eq_true rfl) (oc_182 2 (aq_2 shX12_late_0) uw_0_218)) (fun r_1 h_2 => ?_)
  rcases h_2 with ⟨rfl, h_2⟩ | ⟨rfl, h_2⟩
  ·
    have h_2 : 0 ≤ v0.toInt ∧ v0.toInt < ((cn 1) : Int) := h_2
    refine lv_if_eq (tgt := 19) hx hb (oc_153 5 (aq_5 shX12_late_0) sgw_0_14) rfl (fun h => absurd h cq_eq_1_0) (fun _ => ?_)
    refine lv_iload_n hx hb (oc_28 8 (aq_8 shX12_late_0)) rfl (lvA2 hl) ?_
    refine lv_bipush (v := (-40)) hx hb (oc_16 9 (aq_9 shX12_late_0) sgb_216) kbc_m40 ?_
    refine lv_bipush (v := 41) hx hb (oc_16 11 (aq_11 shX12_late_0) sgb_41) kbc_41 ?_
    refine vp_callSi (runS_r (As := [.int v1, .int (-40), .int 41]) (rest := []) S (q_in l D cI cB cZ v1 (-40) 41 ) kS_RX12_214 hK hP [] rfl ⟨Nat.le_of_ble_eq_true rfl, Nat.le_of_ble_eq_true rfl⟩ ⟨Nat.le_of_ble_eq_true rfl, Nat.le_of_ble_eq_true rfl⟩ rfl hl.1 rfl (Nat.le_of_ble_eq_true rfl) (oc_184 13 (aq_13 shX12_late_0) uw_0_214)) (fun r_3 h_4 => ?_)
    rcases h_4 with ⟨rfl, h_4⟩ | ⟨rfl, h_4⟩
    ·
      have h_4 : (-40) ≤ v1.toInt ∧ v1.toInt ≤ 41 := h_4
      refine lv_if_ne (tgt := 21) hx hb (oc_154 16 (aq_16 shX12_late_0) sgw_0_5) rfl (fun _ => ?_) (fun h => absurd h cq_eq_1_0)
      refine lv_iconst (v := 0) hx hb (oc_3 21 (aq_21 shX12_late_0)) kic_0 ?_
      refine lv_istore_n (lv' := [(3, .int 0), (0, .ref (g 100)), (1, .int v0), (2, .int v1)]) hx hb (oc_62 22 (aq_22 shX12_late_0)) rfl hl (ltb rfl) rfl (fun ls hl => ?_)
      refine lv_iconst (v := 0) hx hb (oc_3 23 (aq_23 shX12_late_0)) kic_0 ?_
      refine lv_istore (lv' := [(4, .int 0), (3, .int 0), (0, .ref (g 100)), (1, .int v0), (2, .int v1)]) hx hb (oc_54 24 shX12_late_24 ub_4) hl (ltb rfl) rfl (fun ls hl => ?_)
      have lp_26 : ∀ (n : Nat) (i26 : Nat) (x26_3 : Int32) , cn 2 - i26 < n → (i26 ≤ cn 2) → ∀ ls : Array Slot, lv_has ls 5 [(4, .int (nI i26)), (3, .int x26_3), (0, .ref (g 100)), (1, .int v0), (2, .int v1)] → W p l e (RM 1 0 0) s m ([.ref (g 100), .int v0, .int v1]).toArray below meth c s.heap [] 0 0 (MQ below (vp_Si (fun _ => True)) ([.ref (g 100), .int v0, .int v1]).toArray s 0 0 (fun _ => False)) (F0 m 26 ls []) := by
        intro n26
        induction n26 with
        | zero => intros; (first | omega | (have zz0 := Hid.u hi_cn; omega))
        | succ n26 ih26 =>
          intro i26 x26_3 hmu26 hinv26 ls hl
          have hr26 := hinv26
          have ti26 : (nI i26).toInt = (i26 : Int) := nI_toInt (by (first | omega | (have zz0 := Hid.u hi_cn; omega)))
          refine lv_iload hx hb (oc_21 26 (aq_2 shX12_late_24) ub_4) (lvA0 hl) ?_
          refine lv_aload_n hx hb (oc_42 28 (aq_4 shX12_late_24)) rfl (lvA2 hl) ?_
          refine gM_208 S hK hP (v := .int (nI (cn 2))) rfl (oc_180 29 (aq_5 shX12_late_24) uw_0_208) ?_
          have : (nI (cn 2)).toInt = (((cn 2) : Nat) : Int) := nI_toInt (by (first | omega | (have zz0 := Hid.u hi_cn; omega)))
          refine lv_icmp_ge (tgt := 76) hx hb (oc_162 32 (aq_8 shX12_late_24) sgw_0_44) rfl (fun c_5 => ?_) (fun c_5 => ?_)
          ·
            have tc_5 : ((nI (cn 2)).toInt : Int) ≤ (nI i26).toInt := Int32.le_iff_toInt_le.mp c_5
            refine lv_iload_n hx hb (oc_29 76 (aq_3 shX12_late_73)) rfl (lvA1 hl) ?_
            exact W.iret (v := x26_3) hx hb hr (fun t ht hW => ⟨x26_3, rfl, trivial, ht⟩) (fun _ h => absurd h List.not_mem_nil) (oc_172 77 (aq_4 shX12_late_73))
          ·
            have tc_5 : ((nI i26).toInt : Int) < (nI (cn 2)).toInt := Int32.lt_iff_toInt_lt.mp (Int32.not_le.mp c_5)
            refine lv_iload_n hx hb (oc_29 35 (aq_11 shX12_late_24)) rfl (lvA1 hl) ?_
            refine lv_aload_n hx hb (oc_42 36 (aq_12 shX12_late_24)) rfl (lvA2 hl) ?_
            refine gM_25 S hK hP (v := .ref (g 8)) rfl (oc_180 37 (aq_13 shX12_late_24) uw_0_25) ?_
            refine lv_iload hx hb (oc_21 40 (aq_16 shX12_late_24) ub_4) (lvA0 hl) ?_
            have kb_1 : i26 < 60 := by (first | omega | (have zz0 := Hid.u hi_cn; omega))
            obtain ⟨a_6, ha_6, ea_6⟩ := hI.e8 i26 (by (first | omega | (have zz0 := Hid.u hi_cn; omega)))
            refine ldM_8 hx hb hK hP (x := (nI a_6)) (vp_in_nI kb_1 (ltb rfl)) (nI_clamp (Nat.lt_trans kb_1 (ltb rfl))) ea_6 (oc_46 42 (aq_18 shX12_late_24)) ?_
            refine lv_iload_n hx hb (oc_27 43 (aq_19 shX12_late_24)) rfl (lvA3 hl) ?_
            have : (nI a_6).toInt = ((a_6 : Nat) : Int) := nI_toInt (by (first | omega | (have zz0 := Hid.u hi_cn; omega)))
            refine lv_icmp_ne (tgt := 67) hx hb (oc_160 44 (aq_20 shX12_late_24) sgw_0_23) rfl (fun c_7 => ?_) (fun c_7 => ?_)
            ·
              have tc_7 : ((nI a_6).toInt : Int) ≠ v0.toInt := fun q => c_7 (Int32.toInt_inj.mp q)
              refine lv_iconst (v := 0) hx hb (oc_3 67 (aq_19 shX12_late_48)) kic_0 ?_
              refine lv_iadd hx hb (oc_96 68 (aq_20 shX12_late_48)) ?_
              refine lv_istore_n (lv' := [(3, .int (x26_3 + 0)), (4, .int (nI i26)), (0, .ref (g 100)), (1, .int v0), (2, .int v1)]) hx hb (oc_62 69 (aq_21 shX12_late_48)) rfl hl (ltb rfl) rfl (fun ls hl => ?_)
              refine lv_iinc (v := (nI (i26 + 1))) (lv' := [(4, .int (nI (i26 + 1))), (3, .int (x26_3 + 0)), (0, .ref (g 100)), (1, .int v0), (2, .int v1)]) hx hb (oc_132 70 (aq_22 shX12_late_48) ub_4 sgb_1) hl (k := 1) rfl (nI_1 _) (ltb rfl) rfl (fun ls hl => ?_)
              refine lv_goto (tgt := 26) hx hb (oc_167 73 shX12_late_73 sgw_255_209) rfl ?_
              exact ih26 (i26 + 1) (x26_3 + 0) (by (first | omega | (have zz0 := Hid.u hi_cn; omega))) (by (first | omega | (have zz0 := Hid.u hi_cn; omega))) ls (lv_sub hl [0, 1, 2, 3, 4] rfl)
            ·
              have tc_7 : ((nI a_6).toInt : Int) = v0.toInt := congrArg Int32.toInt c_7
              refine lv_aload_n hx hb (oc_42 47 (aq_23 shX12_late_24)) rfl (lvA2 hl) ?_
              refine gM_201 S hK hP (v := .ref (g 90)) rfl (oc_180 48 shX12_late_48 uw_0_201) ?_
              refine lv_aload_n hx hb (oc_42 51 (aq_3 shX12_late_48)) rfl (lvA2 hl) ?_
              refine gM_28 S hK hP (v := .ref (g 9)) rfl (oc_180 52 (aq_4 shX12_late_48) uw_0_28) ?_
              refine lv_iload hx hb (oc_21 55 (aq_7 shX12_late_48) ub_4) (lvA0 hl) ?_
              obtain ⟨a_8, ha_8, ea_8⟩ := hI.e9 i26 (by (first | omega | (have zz0 := Hid.u hi_cn; omega)))
              refine ldM_9 hx hb hK hP (x := (nI a_8)) (vp_in_nI kb_1 (ltb rfl)) (nI_clamp (Nat.lt_trans kb_1 (ltb rfl))) ea_8 (oc_46 57 (aq_9 shX12_late_48)) ?_
              have kb_2 : a_8 < 400 := by (first | omega | (have zz0 := Hid.u hi_cn; omega))
              refine ldM_90 hx hb hK hP (x := ((Fn 90) a_8)) (vp_in_nI kb_2 (ltb rfl)) (nI_clamp (Nat.lt_trans kb_2 (ltb rfl))) rfl (oc_46 58 (aq_10 shX12_late_48)) ?_
              refine lv_iload_n hx hb (oc_28 59 (aq_11 shX12_late_48)) rfl (lvA4 hl) ?_
              refine lv_icmp_ge (tgt := 67) hx hb (oc_162 60 (aq_12 shX12_late_48) sgw_0_7) rfl (fun c_9 => ?_) (fun c_9 => ?_)
              ·
                have tc_9 : (v1.toInt : Int) ≤ ((Fn 90) a_8).toInt := Int32.le_iff_toInt_le.mp c_9
                refine lv_iconst (v := 0) hx hb (oc_3 67 (aq_19 shX12_late_48)) kic_0 ?_
                refine lv_iadd hx hb (oc_96 68 (aq_20 shX12_late_48)) ?_
                refine lv_istore_n (lv' := [(3, .int (x26_3 + 0)), (4, .int (nI i26)), (0, .ref (g 100)), (1, .int v0), (2, .int v1)]) hx hb (oc_62 69 (aq_21 shX12_late_48)) rfl hl (ltb rfl) rfl (fun ls hl => ?_)
                refine lv_iinc (v := (nI (i26 + 1))) (lv' := [(4, .int (nI (i26 + 1))), (3, .int (x26_3 + 0)), (0, .ref (g 100)), (1, .int v0), (2, .int v1)]) hx hb (oc_132 70 (aq_22 shX12_late_48) ub_4 sgb_1) hl (k := 1) rfl (nI_1 _) (ltb rfl) rfl (fun ls hl => ?_)
                refine lv_goto (tgt := 26) hx hb (oc_167 73 shX12_late_73 sgw_255_209) rfl ?_
                exact ih26 (i26 + 1) (x26_3 + 0) (by (first | omega | (have zz0 := Hid.u hi_cn; omega))) (by (first | omega | (have zz0 := Hid.u hi_cn; omega))) ls (lv_sub hl [0, 1, 2, 3, 4] rfl)
              ·
                have tc_9 : (((Fn 90) a_8).toInt : Int) < v1.toInt := Int32.lt_iff_toInt_lt.mp (Int32.not_le.mp c_9)
                refine lv_iconst (v := 1) hx hb (oc_4 63 (aq_15 shX12_late_48)) kic_1 ?_
                refine lv_goto (tgt := 68) hx hb (oc_167 64 (aq_16 shX12_late_48) sgw_0_4) rfl ?_
                refine lv_iadd hx hb (oc_96 68 (aq_20 shX12_late_48)) ?_
                refine lv_istore_n (lv' := [(3, .int (x26_3 + 1)), (4, .int (nI i26)), (0, .ref (g 100)), (1, .int v0), (2, .int v1)]) hx hb (oc_62 69 (aq_21 shX12_late_48)) rfl hl (ltb rfl) rfl (fun ls hl => ?_)
                refine lv_iinc (v := (nI (i26 + 1))) (lv' := [(4, .int (nI (i26 + 1))), (3, .int (x26_3 + 1)), (0, .ref (g 100)), (1, .int v0), (2, .int v1)]) hx hb (oc_132 70 (aq_22 shX12_late_48) ub_4 sgb_1) hl (k := 1) rfl (nI_1 _) (ltb rfl) rfl (fun ls hl => ?_)
                refine lv_goto (tgt := 26) hx hb (oc_167 73 shX12_late_73 sgw_255_209) rfl ?_
                exact ih26 (i26 + 1) (x26_3 + 1) (by (first | omega | (have zz0 := Hid.u hi_cn; omega))) (by (first | omega | (have zz0 := Hid.u hi_cn; omega))) ls (lv_sub hl [0, 1, 2, 3, 4] rfl)
      exact lp_26 _ 0 0 (Nat.lt_succ_self _) (by (first | omega | (have zz0 := Hid.u hi_cn; omega))) ls (lv_sub hl [0, 1, 2, 3, 4] rfl)
    ·
      have h_4 : ¬ ((-40) ≤ v1.toInt ∧ v1.toInt ≤ 41) := h_4
      refine lv_if_ne (tgt := 21) hx hb (oc_154 16 (aq_16 shX12_late_0) sgw_0_5) rfl (fun h => absurd h cq_eq_0_0) (fun _ => ?_)
      refine lv_iconst (v := (-1)) hx hb (oc_2 19 (aq_19 shX12_late_0)) kic_m1 ?_
      exact W.iret (v := (-1)) hx hb hr (fun t ht hW => ⟨(-1), rfl, trivial, ht⟩) (fun _ h => absurd h List.not_mem_nil) (oc_172 20 (aq_20 shX12_late_0))
  ·
    have h_2 : ¬ (0 ≤ v0.toInt ∧ v0.toInt < ((cn 1) : Int)) := h_2
    refine lv_if_eq (tgt := 19) hx hb (oc_153 5 (aq_5 shX12_late_0) sgw_0_14) rfl (fun _ => ?_) (fun h => absurd h cq_eq_0_0)
    refine lv_iconst (v := (-1)) hx hb (oc_2 19 (aq_19 shX12_late_0)) kic_m1 ?_
    exact W.iret (v := (-1)) hx hb hr (fun t ht hW => ⟨(-1), rfl, trivial, ht⟩) (fun _ h => absurd h List.not_mem_nil) (oc_172 20 (aq_20 shX12_late_0))
set_option maxRecDepth 100000 in
set_option maxHeartbeats 4000000 in
theorem q_first (l : Launch) (D : va_G) (cI cB cZ : ClassId) (g : Nat → Nat) (cn : Nat → Nat) (In : Nat → Int32) (Fn : Nat → Nat → Int32) (v0 v1 : Int32) (hI : IM cn Fn) : Met l yX12_first (CWS yX12_first cX12_first 4 (some .int)) (RM 1 0 0) (PBr [.ref (g 100), .int v0, .int v1] D cI cB cZ (wM cI cB cZ g cn In Fn)) (vp_Si (fun _ => True)) 0 0 (fun _ => False) := by
  refine en_r rfl pn_RX12 (Nat.le_of_ble_eq_true rfl) (fun p e s m below meth c hx hb hml hown S hr hlocks hnm hP hK hS ls hl => ?_)
  have hl : lv_has ls 4 [(0, .ref (g 100)), (1, .int v0), (2, .int v1)] := hl
  have hi_cn : Hid (CB cn) := hI.b
  refine lv_iload_n hx hb (oc_27 0 shX12_first_0) rfl (lvA1 hl) ?_
  refine vp_callSi (runS_r (As := [.int v0]) (rest := []) S (q_isDay l D cI cB cZ v0 ) kS_RX12_341 hK hP [] rfl ⟨Nat.le_of_ble_eq_true rfl, Nat.le_of_ble_eq_true rfl⟩ ⟨Nat.le_of_ble_eq_true rfl, Nat.le_of_ble_eq_true rfl⟩ rfl hl.1 rfl (Nat.le_of_ble_eq_true rfl) (oc_184 1 (aq_1 shX12_first_0) uw_1_85)) (fun r_1 h_2 => ?_)
  rcases h_2 with ⟨rfl, h_2⟩ | ⟨rfl, h_2⟩
  ·
    have h_2 : 0 ≤ v0.toInt ∧ v0.toInt ≤ 399 := h_2
    refine lv_if_eq (tgt := 18) hx hb (oc_153 4 (aq_4 shX12_first_0) sgw_0_14) rfl (fun h => absurd h cq_eq_1_0) (fun _ => ?_)
    refine lv_iload_n hx hb (oc_28 7 (aq_7 shX12_first_0)) rfl (lvA2 hl) ?_
    refine lv_bipush (v := (-40)) hx hb (oc_16 8 (aq_8 shX12_first_0) sgb_216) kbc_m40 ?_
    refine lv_bipush (v := 41) hx hb (oc_16 10 (aq_10 shX12_first_0) sgb_41) kbc_41 ?_
    refine vp_callSi (runS_r (As := [.int v1, .int (-40), .int 41]) (rest := []) S (q_in l D cI cB cZ v1 (-40) 41 ) kS_RX12_214 hK hP [] rfl ⟨Nat.le_of_ble_eq_true rfl, Nat.le_of_ble_eq_true rfl⟩ ⟨Nat.le_of_ble_eq_true rfl, Nat.le_of_ble_eq_true rfl⟩ rfl hl.1 rfl (Nat.le_of_ble_eq_true rfl) (oc_184 12 (aq_12 shX12_first_0) uw_0_214)) (fun r_3 h_4 => ?_)
    rcases h_4 with ⟨rfl, h_4⟩ | ⟨rfl, h_4⟩
    ·
      have h_4 : (-40) ≤ v1.toInt ∧ v1.toInt ≤ 41 := h_4
      refine lv_if_ne (tgt := 20) hx hb (oc_154 15 (aq_15 shX12_first_0) sgw_0_5) rfl (fun _ => ?_) (fun h => absurd h cq_eq_1_0)
      obtain ⟨d0, hd0, rfl⟩ := nI_of (x := v0) (fun q => by have := Int32.lt_iff_toInt_lt.mp q; have e : (0 : Int32).toInt = 0 := rfl; (first | omega | (have zz0 := Hid.u hi_cn; omega)))
      have td0 : (nI d0).toInt = (d0 : Int) := nI_toInt hd0
      have zd0 : (nI d0).toInt.toNat = d0 := by (first | omega | (have zz0 := Hid.u hi_cn; omega))
      refine lv_iload_n hx hb (oc_27 20 (aq_20 shX12_first_0)) rfl (lvA1 hl) ?_
      refine lv_istore_n (lv' := [(3, .int (nI d0)), (0, .ref (g 100)), (1, .int (nI d0)), (2, .int v1)]) hx hb (oc_62 21 (aq_21 shX12_first_0)) rfl hl (ltb rfl) rfl (fun ls hl => ?_)
      have lp_22 : ∀ (n : Nat) (i22 : Nat) , 400 - i22 < n → (i22 ≤ 400) → ∀ ls : Array Slot, lv_has ls 4 [(3, .int (nI i22)), (0, .ref (g 100)), (1, .int (nI d0)), (2, .int v1)] → W p l e (RM 1 0 0) s m ([.ref (g 100), .int (nI d0), .int v1]).toArray below meth c s.heap [] 0 0 (MQ below (vp_Si (fun _ => True)) ([.ref (g 100), .int (nI d0), .int v1]).toArray s 0 0 (fun _ => False)) (F0 m 22 ls []) := by
        intro n22
        induction n22 with
        | zero => intros; (first | omega | (have zz0 := Hid.u hi_cn; omega))
        | succ n22 ih22 =>
          intro i22 hmu22 hinv22 ls hl
          have hr22 := hinv22
          have ti22 : (nI i22).toInt = (i22 : Int) := nI_toInt (by (first | omega | (have zz0 := Hid.u hi_cn; omega)))
          refine lv_iload_n hx hb (oc_29 22 (aq_22 shX12_first_0)) rfl (lvA0 hl) ?_
          refine lv_sipush (v := 399) hx hb (oc_17 23 (aq_23 shX12_first_0) sgw_1_143) (by decide) ?_
          refine lv_icmp_gt (tgt := 47) hx hb (oc_163 26 shX12_first_26 sgw_0_21) rfl (fun c_5 => ?_) (fun c_5 => ?_)
          ·
            have tc_5 : (399 : Int) < (nI i22).toInt := Int32.lt_iff_toInt_lt.mp c_5
            refine lv_bipush (v := (-2)) hx hb (oc_16 47 (aq_21 shX12_first_26) sgb_254) kbc_m2 ?_
            exact W.iret (v := (-2)) hx hb hr (fun t ht hW => ⟨(-2), rfl, trivial, ht⟩) (fun _ h => absurd h List.not_mem_nil) (oc_172 49 (aq_23 shX12_first_26))
          ·
            have tc_5 : ((nI i22).toInt : Int) ≤ 399 := Int32.le_iff_toInt_le.mp (Int32.not_lt.mp c_5)
            refine lv_aload_n hx hb (oc_42 29 (aq_3 shX12_first_26)) rfl (lvA1 hl) ?_
            refine gM_201 S hK hP (v := .ref (g 90)) rfl (oc_180 30 (aq_4 shX12_first_26) uw_0_201) ?_
            refine lv_iload_n hx hb (oc_29 33 (aq_7 shX12_first_26)) rfl (lvA0 hl) ?_
            have kb_1 : i22 < 400 := by (first | omega | (have zz0 := Hid.u hi_cn; omega))
            refine ldM_90 hx hb hK hP (x := ((Fn 90) i22)) (vp_in_nI kb_1 (ltb rfl)) (nI_clamp (Nat.lt_trans kb_1 (ltb rfl))) rfl (oc_46 34 (aq_8 shX12_first_26)) ?_
            refine lv_iload_n hx hb (oc_28 35 (aq_9 shX12_first_26)) rfl (lvA3 hl) ?_
            refine lv_icmp_lt (tgt := 41) hx hb (oc_161 36 (aq_10 shX12_first_26) sgw_0_5) rfl (fun c_6 => ?_) (fun c_6 => ?_)
            ·
              have tc_6 : (((Fn 90) i22).toInt : Int) < v1.toInt := Int32.lt_iff_toInt_lt.mp c_6
              refine lv_iinc (v := (nI (i22 + 1))) (lv' := [(3, .int (nI (i22 + 1))), (0, .ref (g 100)), (1, .int (nI d0)), (2, .int v1)]) hx hb (oc_132 41 (aq_15 shX12_first_26) ub_3 sgb_1) hl (k := 0) rfl (nI_1 _) (ltb rfl) rfl (fun ls hl => ?_)
              refine lv_goto (tgt := 22) hx hb (oc_167 44 (aq_18 shX12_first_26) sgw_255_234) rfl ?_
              exact ih22 (i22 + 1) (by (first | omega | (have zz0 := Hid.u hi_cn; omega))) (by (first | omega | (have zz0 := Hid.u hi_cn; omega))) ls (lv_sub hl [0, 1, 2, 3] rfl)
            ·
              have tc_6 : (v1.toInt : Int) ≤ ((Fn 90) i22).toInt := Int32.le_iff_toInt_le.mp (Int32.not_lt.mp c_6)
              refine lv_iload_n hx hb (oc_29 39 (aq_13 shX12_first_26)) rfl (lvA0 hl) ?_
              exact W.iret (v := (nI i22)) hx hb hr (fun t ht hW => ⟨(nI i22), rfl, trivial, ht⟩) (fun _ h => absurd h List.not_mem_nil) (oc_172 40 (aq_14 shX12_first_26))
      exact lp_22 _ d0 (Nat.lt_succ_self _) (by (first | omega | (have zz0 := Hid.u hi_cn; omega))) ls (lv_sub hl [0, 1, 2, 3] rfl)
    ·
      have h_4 : ¬ ((-40) ≤ v1.toInt ∧ v1.toInt ≤ 41) := h_4
      refine lv_if_ne (tgt := 20) hx hb (oc_154 15 (aq_15 shX12_first_0) sgw_0_5) rfl (fun h => absurd h cq_eq_0_0) (fun _ => ?_)
      refine lv_iconst (v := (-1)) hx hb (oc_2 18 (aq_18 shX12_first_0)) kic_m1 ?_
      exact W.iret (v := (-1)) hx hb hr (fun t ht hW => ⟨(-1), rfl, trivial, ht⟩) (fun _ h => absurd h List.not_mem_nil) (oc_172 19 (aq_19 shX12_first_0))
  ·
    have h_2 : ¬ (0 ≤ v0.toInt ∧ v0.toInt ≤ 399) := h_2
    refine lv_if_eq (tgt := 18) hx hb (oc_153 4 (aq_4 shX12_first_0) sgw_0_14) rfl (fun _ => ?_) (fun h => absurd h cq_eq_0_0)
    refine lv_iconst (v := (-1)) hx hb (oc_2 18 (aq_18 shX12_first_0)) kic_m1 ?_
    exact W.iret (v := (-1)) hx hb hr (fun t ht hW => ⟨(-1), rfl, trivial, ht⟩) (fun _ h => absurd h List.not_mem_nil) (oc_172 19 (aq_19 shX12_first_0))
set_option maxRecDepth 100000 in
set_option maxHeartbeats 4000000 in
theorem q_claim (l : Launch) (D : va_G) (cI cB cZ : ClassId) (g : Nat → Nat) (cn : Nat → Nat) (In : Nat → Int32) (Fn : Nat → Nat → Int32) (v0 v1 v2 : Int32) (hI : IM cn Fn) : Met l yX12_claim (CWS yX12_claim cX12_claim 6 (some .int)) (RM 1 0 0) (PBr [.ref (g 100), .int v0, .int v1, .int v2] D cI cB cZ (wM cI cB cZ g cn In Fn)) (vp_Si (fun _ => True)) 0 0 (fun _ => False) := by
  refine en_r rfl pn_RX12 (Nat.le_of_ble_eq_true rfl) (fun p e s m below meth c hx hb hml hown S hr hlocks hnm hP hK hS ls hl => ?_)
  have hl : lv_has ls 6 [(0, .ref (g 100)), (1, .int v0), (2, .int v1), (3, .int v2)] := hl
  have hi_cn : Hid (CB cn) := hI.b
  refine lv_aload_n hx hb (oc_42 0 shX12_claim_0) rfl (lvA0 hl) ?_
  refine lv_iload_n hx hb (oc_27 1 (aq_1 shX12_claim_0)) rfl (lvA1 hl) ?_
  refine vp_callSi (runV_ra (As := [.int v0]) (rest := []) S (q_isBatch l D cI cB cZ g cn In Fn v0 hI) kV_RX12_450 hK hP 0 rfl rfl rfl ⟨Nat.le_of_ble_eq_true rfl, Nat.le_of_ble_eq_true rfl⟩ ⟨Nat.le_of_ble_eq_true rfl, Nat.le_of_ble_eq_true rfl⟩ rfl hl.1 rfl (Nat.le_of_ble_eq_true rfl) (oc_182 2 (aq_2 shX12_claim_0) uw_1_194)) (fun r_1 h_2 => ?_)
  rcases h_2 with ⟨rfl, h_2⟩ | ⟨rfl, h_2⟩
  ·
    have h_2 : 0 ≤ v0.toInt ∧ v0.toInt < ((cn 62) : Int) := h_2
    refine lv_if_eq (tgt := 30) hx hb (oc_153 5 (aq_5 shX12_claim_0) sgw_0_25) rfl (fun h => absurd h cq_eq_1_0) (fun _ => ?_)
    obtain ⟨d0, hd0, rfl⟩ := nI_of (x := v0) (fun q => by have := Int32.lt_iff_toInt_lt.mp q; have e : (0 : Int32).toInt = 0 := rfl; (first | omega | (have zz0 := Hid.u hi_cn; omega)))
    have td0 : (nI d0).toInt = (d0 : Int) := nI_toInt hd0
    have zd0 : (nI d0).toInt.toNat = d0 := by (first | omega | (have zz0 := Hid.u hi_cn; omega))
    refine lv_iload_n hx hb (oc_28 8 (aq_8 shX12_claim_0)) rfl (lvA2 hl) ?_
    refine lv_iconst (v := 0) hx hb (oc_3 9 (aq_9 shX12_claim_0)) kic_0 ?_
    refine lv_sipush (v := 1000) hx hb (oc_17 10 (aq_10 shX12_claim_0) sgw_3_232) (by decide) ?_
    refine vp_callSi (runS_r (As := [.int v1, .int 0, .int 1000]) (rest := []) S (q_in l D cI cB cZ v1 0 1000 ) kS_RX12_214 hK hP [] rfl ⟨Nat.le_of_ble_eq_true rfl, Nat.le_of_ble_eq_true rfl⟩ ⟨Nat.le_of_ble_eq_true rfl, Nat.le_of_ble_eq_true rfl⟩ rfl hl.1 rfl (Nat.le_of_ble_eq_true rfl) (oc_184 13 (aq_13 shX12_claim_0) uw_0_214)) (fun r_3 h_4 => ?_)
    rcases h_4 with ⟨rfl, h_4⟩ | ⟨rfl, h_4⟩
    ·
      have h_4 : 0 ≤ v1.toInt ∧ v1.toInt ≤ 1000 := h_4
      refine lv_if_eq (tgt := 30) hx hb (oc_153 16 (aq_16 shX12_claim_0) sgw_0_14) rfl (fun h => absurd h cq_eq_1_0) (fun _ => ?_)
      refine lv_iload_n hx hb (oc_29 19 (aq_19 shX12_claim_0)) rfl (lvA3 hl) ?_
      refine lv_iconst (v := 0) hx hb (oc_3 20 (aq_20 shX12_claim_0)) kic_0 ?_
      refine lv_sipush (v := 1000) hx hb (oc_17 21 (aq_21 shX12_claim_0) sgw_3_232) (by decide) ?_
      refine vp_callSi (runS_r (As := [.int v2, .int 0, .int 1000]) (rest := []) S (q_in l D cI cB cZ v2 0 1000 ) kS_RX12_214 hK hP [] rfl ⟨Nat.le_of_ble_eq_true rfl, Nat.le_of_ble_eq_true rfl⟩ ⟨Nat.le_of_ble_eq_true rfl, Nat.le_of_ble_eq_true rfl⟩ rfl hl.1 rfl (Nat.le_of_ble_eq_true rfl) (oc_184 24 shX12_claim_24 uw_0_214)) (fun r_5 h_6 => ?_)
      rcases h_6 with ⟨rfl, h_6⟩ | ⟨rfl, h_6⟩
      ·
        have h_6 : 0 ≤ v2.toInt ∧ v2.toInt ≤ 1000 := h_6
        refine lv_if_ne (tgt := 32) hx hb (oc_154 27 (aq_3 shX12_claim_24) sgw_0_5) rfl (fun _ => ?_) (fun h => absurd h cq_eq_1_0)
        refine lv_iconst (v := 0) hx hb (oc_3 32 (aq_8 shX12_claim_24)) kic_0 ?_
        refine lv_istore (lv' := [(4, .int 0), (0, .ref (g 100)), (1, .int (nI d0)), (2, .int v1), (3, .int v2)]) hx hb (oc_54 33 (aq_9 shX12_claim_24) ub_4) hl (ltb rfl) rfl (fun ls hl => ?_)
        refine lv_iconst (v := 0) hx hb (oc_3 35 (aq_11 shX12_claim_24)) kic_0 ?_
        refine lv_istore (lv' := [(5, .int 0), (4, .int 0), (0, .ref (g 100)), (1, .int (nI d0)), (2, .int v1), (3, .int v2)]) hx hb (oc_54 36 (aq_12 shX12_claim_24) ub_5) hl (ltb rfl) rfl (fun ls hl => ?_)
        have lp_38 : ∀ (n : Nat) (i38 : Nat) (x38_4 : Int32) , 12 - i38 < n → (i38 ≤ 12) → ∀ ls : Array Slot, lv_has ls 6 [(5, .int (nI i38)), (4, .int x38_4), (0, .ref (g 100)), (1, .int (nI d0)), (2, .int v1), (3, .int v2)] → W p l e (RM 1 0 0) s m ([.ref (g 100), .int (nI d0), .int v1, .int v2]).toArray below meth c s.heap [] 0 0 (MQ below (vp_Si (fun _ => True)) ([.ref (g 100), .int (nI d0), .int v1, .int v2]).toArray s 0 0 (fun _ => False)) (F0 m 38 ls []) := by
          intro n38
          induction n38 with
          | zero => intros; (first | omega | (have zz0 := Hid.u hi_cn; omega))
          | succ n38 ih38 =>
            intro i38 x38_4 hmu38 hinv38 ls hl
            have hr38 := hinv38
            have ti38 : (nI i38).toInt = (i38 : Int) := nI_toInt (by (first | omega | (have zz0 := Hid.u hi_cn; omega)))
            refine lv_iload hx hb (oc_21 38 (aq_14 shX12_claim_24) ub_5) (lvA0 hl) ?_
            refine lv_aload_n hx hb (oc_42 40 (aq_16 shX12_claim_24)) rfl (lvA2 hl) ?_
            refine gM_171 S hK hP (v := .ref (g 79)) rfl (oc_180 41 (aq_17 shX12_claim_24) uw_0_171) ?_
            refine lv_iload_n hx hb (oc_27 44 (aq_20 shX12_claim_24)) rfl (lvA3 hl) ?_
            have kb_1 : d0 < 10 := by (first | omega | (have zz0 := Hid.u hi_cn; omega))
            obtain ⟨a_7, ha_7, ea_7⟩ := hI.e79 d0 (by (first | omega | (have zz0 := Hid.u hi_cn; omega)))
            refine ldM_79 hx hb hK hP (x := (nI a_7)) (vp_in_nI kb_1 (ltb rfl)) (nI_clamp (Nat.lt_trans kb_1 (ltb rfl))) ea_7 (oc_46 45 (aq_21 shX12_claim_24)) ?_
            have : (nI a_7).toInt = ((a_7 : Nat) : Int) := nI_toInt (by (first | omega | (have zz0 := Hid.u hi_cn; omega)))
            refine lv_icmp_ge (tgt := 83) hx hb (oc_162 46 (aq_22 shX12_claim_24) sgw_0_37) rfl (fun c_8 => ?_) (fun c_8 => ?_)
            ·
              have tc_8 : ((nI a_7).toInt : Int) ≤ (nI i38).toInt := Int32.le_iff_toInt_le.mp c_8
              refine lv_aload_n hx hb (oc_42 83 (aq_10 shX12_claim_73)) rfl (lvA2 hl) ?_
              refine gM_171 S hK hP (v := .ref (g 79)) rfl (oc_180 84 (aq_11 shX12_claim_73) uw_0_171) ?_
              refine lv_iload_n hx hb (oc_27 87 (aq_14 shX12_claim_73)) rfl (lvA3 hl) ?_
              refine ldM_79 hx hb hK hP (x := (nI a_7)) (vp_in_nI kb_1 (ltb rfl)) (nI_clamp (Nat.lt_trans kb_1 (ltb rfl))) ea_7 (oc_46 88 (aq_15 shX12_claim_73)) ?_
              refine lv_iload hx hb (oc_21 89 (aq_16 shX12_claim_73) ub_4) (lvA1 hl) ?_
              refine lv_isub hx hb (oc_100 91 (aq_18 shX12_claim_73)) ?_
              refine lv_istore (lv' := [(5, .int ((nI a_7) - x38_4)), (4, .int x38_4), (0, .ref (g 100)), (1, .int (nI d0)), (2, .int v1), (3, .int v2)]) hx hb (oc_54 92 (aq_19 shX12_claim_73) ub_5) hl (ltb rfl) rfl (fun ls hl => ?_)
              refine lv_iload hx hb (oc_21 94 (aq_21 shX12_claim_73) ub_4) (lvA1 hl) ?_
              refine lv_iload hx hb (oc_21 96 (aq_23 shX12_claim_73) ub_5) (lvA0 hl) ?_
              refine lv_icmp_le (tgt := 105) hx hb (oc_164 98 shX12_claim_98 sgw_0_7) rfl (fun c_9 => ?_) (fun c_9 => ?_)
              ·
                have tc_9 : (x38_4.toInt : Int) ≤ ((nI a_7) - x38_4).toInt := Int32.le_iff_toInt_le.mp c_9
                refine lv_iload hx hb (oc_21 105 (aq_7 shX12_claim_98) ub_5) (lvA0 hl) ?_
                refine lv_iload hx hb (oc_21 107 (aq_9 shX12_claim_98) ub_4) (lvA1 hl) ?_
                refine lv_icmp_le (tgt := 116) hx hb (oc_164 109 (aq_11 shX12_claim_98) sgw_0_7) rfl (fun c_10 => ?_) (fun c_10 => ?_)
                ·
                  have tc_10 : (((nI a_7) - x38_4).toInt : Int) ≤ x38_4.toInt := Int32.le_iff_toInt_le.mp c_10
                  refine lv_iconst (v := 2) hx hb (oc_5 116 (aq_18 shX12_claim_98)) kic_2 ?_
                  exact W.iret (v := 2) hx hb hr (fun t ht hW => ⟨2, rfl, trivial, ht⟩) (fun _ h => absurd h List.not_mem_nil) (oc_172 117 (aq_19 shX12_claim_98))
                ·
                  have tc_10 : (x38_4.toInt : Int) < ((nI a_7) - x38_4).toInt := Int32.lt_iff_toInt_lt.mp (Int32.not_le.mp c_10)
                  refine lv_iconst (v := 0) hx hb (oc_3 112 (aq_14 shX12_claim_98)) kic_0 ?_
                  refine lv_goto (tgt := 117) hx hb (oc_167 113 (aq_15 shX12_claim_98) sgw_0_4) rfl ?_
                  exact W.iret (v := 0) hx hb hr (fun t ht hW => ⟨0, rfl, trivial, ht⟩) (fun _ h => absurd h List.not_mem_nil) (oc_172 117 (aq_19 shX12_claim_98))
              ·
                have tc_9 : (((nI a_7) - x38_4).toInt : Int) < x38_4.toInt := Int32.lt_iff_toInt_lt.mp (Int32.not_le.mp c_9)
                refine lv_iconst (v := 1) hx hb (oc_4 101 (aq_3 shX12_claim_98)) kic_1 ?_
                refine lv_goto (tgt := 117) hx hb (oc_167 102 (aq_4 shX12_claim_98) sgw_0_15) rfl ?_
                exact W.iret (v := 1) hx hb hr (fun t ht hW => ⟨1, rfl, trivial, ht⟩) (fun _ h => absurd h List.not_mem_nil) (oc_172 117 (aq_19 shX12_claim_98))
            ·
              have tc_8 : ((nI i38).toInt : Int) < (nI a_7).toInt := Int32.lt_iff_toInt_lt.mp (Int32.not_le.mp c_8)
              refine lv_iload hx hb (oc_21 49 shX12_claim_49 ub_4) (lvA1 hl) ?_
              refine lv_aload_n hx hb (oc_42 51 (aq_2 shX12_claim_49)) rfl (lvA2 hl) ?_
              refine gM_174 S hK hP (v := .ref (g 80)) rfl (oc_180 52 (aq_3 shX12_claim_49) uw_0_174) ?_
              refine lv_bipush (v := 12) hx hb (oc_16 55 (aq_6 shX12_claim_49) sgb_12) kbc_12 ?_
              refine lv_iload_n hx hb (oc_27 57 (aq_8 shX12_claim_49)) rfl (lvA3 hl) ?_
              refine lv_imul hx hb (oc_104 58 (aq_9 shX12_claim_49)) ?_
              refine lv_topi (fun y_11 ey_11 => ?_)
              obtain rfl : y_11 = (nI (12 * d0)) := ey_11.trans (pk_mul 12 d0)
              refine lv_iload hx hb (oc_21 59 (aq_10 shX12_claim_49) ub_5) (lvA0 hl) ?_
              refine lv_iadd hx hb (oc_96 61 (aq_12 shX12_claim_49)) ?_
              refine lv_topi (fun y_12 ey_12 => ?_)
              obtain rfl : y_12 = (nI ((12 * d0) + i38)) := ey_12.trans (nI_add (12 * d0) i38)
              have kb_2 : ((12 * d0) + i38) < 120 := by (first | omega | (have zz0 := Hid.u hi_cn; omega))
              refine ldM_80 hx hb hK hP (x := ((Fn 80) ((12 * d0) + i38))) (vp_in_nI kb_2 (ltb rfl)) (nI_clamp (Nat.lt_trans kb_2 (ltb rfl))) rfl (oc_46 62 (aq_13 shX12_claim_49)) ?_
              refine lv_iload_n hx hb (oc_28 63 (aq_14 shX12_claim_49)) rfl (lvA4 hl) ?_
              refine lv_iload_n hx hb (oc_29 64 (aq_15 shX12_claim_49)) rfl (lvA5 hl) ?_
              refine lv_isub hx hb (oc_100 65 (aq_16 shX12_claim_49)) ?_
              refine lv_icmp_lt (tgt := 73) hx hb (oc_161 66 (aq_17 shX12_claim_49) sgw_0_7) rfl (fun c_13 => ?_) (fun c_13 => ?_)
              ·
                have tc_13 : (((Fn 80) ((12 * d0) + i38)).toInt : Int) < (v1 - v2).toInt := Int32.lt_iff_toInt_lt.mp c_13
                refine lv_iconst (v := 0) hx hb (oc_3 73 shX12_claim_73) kic_0 ?_
                refine lv_iadd hx hb (oc_96 74 (aq_1 shX12_claim_73)) ?_
                refine lv_istore (lv' := [(4, .int (x38_4 + 0)), (5, .int (nI i38)), (0, .ref (g 100)), (1, .int (nI d0)), (2, .int v1), (3, .int v2)]) hx hb (oc_54 75 (aq_2 shX12_claim_73) ub_4) hl (ltb rfl) rfl (fun ls hl => ?_)
                refine lv_iinc (v := (nI (i38 + 1))) (lv' := [(5, .int (nI (i38 + 1))), (4, .int (x38_4 + 0)), (0, .ref (g 100)), (1, .int (nI d0)), (2, .int v1), (3, .int v2)]) hx hb (oc_132 77 (aq_4 shX12_claim_73) ub_5 sgb_1) hl (k := 1) rfl (nI_1 _) (ltb rfl) rfl (fun ls hl => ?_)
                refine lv_goto (tgt := 38) hx hb (oc_167 80 (aq_7 shX12_claim_73) sgw_255_214) rfl ?_
                exact ih38 (i38 + 1) (x38_4 + 0) (by (first | omega | (have zz0 := Hid.u hi_cn; omega))) (by (first | omega | (have zz0 := Hid.u hi_cn; omega))) ls (lv_sub hl [0, 1, 2, 3, 4, 5] rfl)
              ·
                have tc_13 : ((v1 - v2).toInt : Int) ≤ ((Fn 80) ((12 * d0) + i38)).toInt := Int32.le_iff_toInt_le.mp (Int32.not_lt.mp c_13)
                refine lv_iconst (v := 1) hx hb (oc_4 69 (aq_20 shX12_claim_49)) kic_1 ?_
                refine lv_goto (tgt := 74) hx hb (oc_167 70 (aq_21 shX12_claim_49) sgw_0_4) rfl ?_
                refine lv_iadd hx hb (oc_96 74 (aq_1 shX12_claim_73)) ?_
                refine lv_istore (lv' := [(4, .int (x38_4 + 1)), (5, .int (nI i38)), (0, .ref (g 100)), (1, .int (nI d0)), (2, .int v1), (3, .int v2)]) hx hb (oc_54 75 (aq_2 shX12_claim_73) ub_4) hl (ltb rfl) rfl (fun ls hl => ?_)
                refine lv_iinc (v := (nI (i38 + 1))) (lv' := [(5, .int (nI (i38 + 1))), (4, .int (x38_4 + 1)), (0, .ref (g 100)), (1, .int (nI d0)), (2, .int v1), (3, .int v2)]) hx hb (oc_132 77 (aq_4 shX12_claim_73) ub_5 sgb_1) hl (k := 1) rfl (nI_1 _) (ltb rfl) rfl (fun ls hl => ?_)
                refine lv_goto (tgt := 38) hx hb (oc_167 80 (aq_7 shX12_claim_73) sgw_255_214) rfl ?_
                exact ih38 (i38 + 1) (x38_4 + 1) (by (first | omega | (have zz0 := Hid.u hi_cn; omega))) (by (first | omega | (have zz0 := Hid.u hi_cn; omega))) ls (lv_sub hl [0, 1, 2, 3, 4, 5] rfl)
        exact lp_38 _ 0 0 (Nat.lt_succ_self _) (by (first | omega | (have zz0 := Hid.u hi_cn; omega))) ls (lv_sub hl [0, 1, 2, 3, 4, 5] rfl)
      ·
        have h_6 : ¬ (0 ≤ v2.toInt ∧ v2.toInt ≤ 1000) := h_6
        refine lv_if_ne (tgt := 32) hx hb (oc_154 27 (aq_3 shX12_claim_24) sgw_0_5) rfl (fun h => absurd h cq_eq_0_0) (fun _ => ?_)
        refine lv_iconst (v := (-1)) hx hb (oc_2 30 (aq_6 shX12_claim_24)) kic_m1 ?_
        exact W.iret (v := (-1)) hx hb hr (fun t ht hW => ⟨(-1), rfl, trivial, ht⟩) (fun _ h => absurd h List.not_mem_nil) (oc_172 31 (aq_7 shX12_claim_24))
    ·
      have h_4 : ¬ (0 ≤ v1.toInt ∧ v1.toInt ≤ 1000) := h_4
      refine lv_if_eq (tgt := 30) hx hb (oc_153 16 (aq_16 shX12_claim_0) sgw_0_14) rfl (fun _ => ?_) (fun h => absurd h cq_eq_0_0)
      refine lv_iconst (v := (-1)) hx hb (oc_2 30 (aq_6 shX12_claim_24)) kic_m1 ?_
      exact W.iret (v := (-1)) hx hb hr (fun t ht hW => ⟨(-1), rfl, trivial, ht⟩) (fun _ h => absurd h List.not_mem_nil) (oc_172 31 (aq_7 shX12_claim_24))
  ·
    have h_2 : ¬ (0 ≤ v0.toInt ∧ v0.toInt < ((cn 62) : Int)) := h_2
    refine lv_if_eq (tgt := 30) hx hb (oc_153 5 (aq_5 shX12_claim_0) sgw_0_25) rfl (fun _ => ?_) (fun h => absurd h cq_eq_0_0)
    refine lv_iconst (v := (-1)) hx hb (oc_2 30 (aq_6 shX12_claim_24)) kic_m1 ?_
    exact W.iret (v := (-1)) hx hb hr (fun t ht hW => ⟨(-1), rfl, trivial, ht⟩) (fun _ h => absurd h List.not_mem_nil) (oc_172 31 (aq_7 shX12_claim_24))
set_option maxRecDepth 100000 in
set_option maxHeartbeats 4000000 in
theorem q_twice (l : Launch) (D : va_G) (cI cB cZ : ClassId) (g : Nat → Nat) (cn : Nat → Nat) (In : Nat → Int32) (Fn : Nat → Nat → Int32) (v0 : Int32) (hI : IM cn Fn) : Met l yX12_twice (CWS yX12_twice cX12_twice 4 (some .int)) (RM 1 0 0) (PBr [.ref (g 100), .int v0] D cI cB cZ (wM cI cB cZ g cn In Fn)) (vp_Si (fun _ => True)) 0 0 (fun _ => False) := by
  refine en_r rfl pn_RX12 (Nat.le_of_ble_eq_true rfl) (fun p e s m below meth c hx hb hml hown S hr hlocks hnm hP hK hS ls hl => ?_)
  have hl : lv_has ls 4 [(0, .ref (g 100)), (1, .int v0)] := hl
  have hi_cn : Hid (CB cn) := hI.b
  refine lv_aload_n hx hb (oc_42 0 shX12_twice_0) rfl (lvA0 hl) ?_
  refine lv_iload_n hx hb (oc_27 1 (aq_1 shX12_twice_0)) rfl (lvA1 hl) ?_
  refine vp_callSi (runV_ra (As := [.int v0]) (rest := []) S (q_isBatch l D cI cB cZ g cn In Fn v0 hI) kV_RX12_450 hK hP 0 rfl rfl rfl ⟨Nat.le_of_ble_eq_true rfl, Nat.le_of_ble_eq_true rfl⟩ ⟨Nat.le_of_ble_eq_true rfl, Nat.le_of_ble_eq_true rfl⟩ rfl hl.1 rfl (Nat.le_of_ble_eq_true rfl) (oc_182 2 (aq_2 shX12_twice_0) uw_1_194)) (fun r_1 h_2 => ?_)
  rcases h_2 with ⟨rfl, h_2⟩ | ⟨rfl, h_2⟩
  ·
    have h_2 : 0 ≤ v0.toInt ∧ v0.toInt < ((cn 62) : Int) := h_2
    refine lv_if_ne (tgt := 10) hx hb (oc_154 5 (aq_5 shX12_twice_0) sgw_0_5) rfl (fun _ => ?_) (fun h => absurd h cq_eq_1_0)
    refine lv_iconst (v := 0) hx hb (oc_3 10 (aq_10 shX12_twice_0)) kic_0 ?_
    refine lv_istore_n (lv' := [(2, .int 0), (0, .ref (g 100)), (1, .int v0)]) hx hb (oc_61 11 (aq_11 shX12_twice_0)) rfl hl (ltb rfl) rfl (fun ls hl => ?_)
    have lp_12 : ∀ (n : Nat) (i12 : Nat) , cn 63 - i12 < n → (i12 ≤ cn 63) → ∀ ls : Array Slot, lv_has ls 4 [(2, .int (nI i12)), (0, .ref (g 100)), (1, .int v0)] → W p l e (RM 1 0 0) s m ([.ref (g 100), .int v0]).toArray below meth c s.heap [] 0 0 (MQ below (vp_Si (fun _ => True)) ([.ref (g 100), .int v0]).toArray s 0 0 (fun _ => False)) (F0 m 12 ls []) := by
      intro n12
      induction n12 with
      | zero => intros; (first | omega | (have zz0 := Hid.u hi_cn; omega))
      | succ n12 ih12 =>
        intro i12 hmu12 hinv12 ls hl
        have hr12 := hinv12
        have ti12 : (nI i12).toInt = (i12 : Int) := nI_toInt (by (first | omega | (have zz0 := Hid.u hi_cn; omega)))
        refine lv_iload_n hx hb (oc_28 12 (aq_12 shX12_twice_0)) rfl (lvA0 hl) ?_
        refine lv_aload_n hx hb (oc_42 13 (aq_13 shX12_twice_0)) rfl (lvA1 hl) ?_
        refine gM_447 S hK hP (v := .int (nI (cn 63))) rfl (oc_180 14 (aq_14 shX12_twice_0) uw_1_191) ?_
        have : (nI (cn 63)).toInt = (((cn 63) : Nat) : Int) := nI_toInt (by (first | omega | (have zz0 := Hid.u hi_cn; omega)))
        refine lv_icmp_ge (tgt := 91) hx hb (oc_162 17 (aq_17 shX12_twice_0) sgw_0_74) rfl (fun c_3 => ?_) (fun c_3 => ?_)
        ·
          have tc_3 : ((nI (cn 63)).toInt : Int) ≤ (nI i12).toInt := Int32.le_iff_toInt_le.mp c_3
          refine lv_iconst (v := (-1)) hx hb (oc_2 91 (aq_19 shX12_twice_72)) kic_m1 ?_
          exact W.iret (v := (-1)) hx hb hr (fun t ht hW => ⟨(-1), rfl, trivial, ht⟩) (fun _ h => absurd h List.not_mem_nil) (oc_172 92 (aq_20 shX12_twice_72))
        ·
          have tc_3 : ((nI i12).toInt : Int) < (nI (cn 63)).toInt := Int32.lt_iff_toInt_lt.mp (Int32.not_le.mp c_3)
          refine lv_iconst (v := 0) hx hb (oc_3 20 (aq_20 shX12_twice_0)) kic_0 ?_
          refine lv_istore_n (lv' := [(3, .int 0), (2, .int (nI i12)), (0, .ref (g 100)), (1, .int v0)]) hx hb (oc_62 21 (aq_21 shX12_twice_0)) rfl hl (ltb rfl) rfl (fun ls hl => ?_)
          have lp_22 : ∀ (n : Nat) (i22 : Nat) , i12 - i22 < n → ((i22 ≤ i12 ∧ i12 < cn 63)) → ∀ ls : Array Slot, lv_has ls 4 [(3, .int (nI i22)), (2, .int (nI i12)), (0, .ref (g 100)), (1, .int v0)] → W p l e (RM 1 0 0) s m ([.ref (g 100), .int v0]).toArray below meth c s.heap [] 0 0 (MQ below (vp_Si (fun _ => True)) ([.ref (g 100), .int v0]).toArray s 0 0 (fun _ => False)) (F0 m 22 ls []) := by
            intro n22
            induction n22 with
            | zero => intros; (first | omega | (have zz0 := Hid.u hi_cn; omega))
            | succ n22 ih22 =>
              intro i22 hmu22 hinv22 ls hl
              have hr22 := hinv22
              have ti22 : (nI i22).toInt = (i22 : Int) := nI_toInt (by (first | omega | (have zz0 := Hid.u hi_cn; omega)))
              refine lv_iload_n hx hb (oc_29 22 (aq_22 shX12_twice_0)) rfl (lvA0 hl) ?_
              refine lv_iload_n hx hb (oc_28 23 (aq_23 shX12_twice_0)) rfl (lvA1 hl) ?_
              refine lv_icmp_ge (tgt := 85) hx hb (oc_162 24 shX12_twice_24 sgw_0_61) rfl (fun c_4 => ?_) (fun c_4 => ?_)
              ·
                have tc_4 : ((nI i12).toInt : Int) ≤ (nI i22).toInt := Int32.le_iff_toInt_le.mp c_4
                refine lv_iinc (v := (nI (i12 + 1))) (lv' := [(2, .int (nI (i12 + 1))), (3, .int (nI i22)), (0, .ref (g 100)), (1, .int v0)]) hx hb (oc_132 85 (aq_13 shX12_twice_72) ub_2 sgb_1) hl (k := 1) rfl (nI_1 _) (ltb rfl) rfl (fun ls hl => ?_)
                refine lv_goto (tgt := 12) hx hb (oc_167 88 (aq_16 shX12_twice_72) sgw_255_180) rfl ?_
                exact ih12 (i12 + 1) (by (first | omega | (have zz0 := Hid.u hi_cn; omega))) (by (first | omega | (have zz0 := Hid.u hi_cn; omega))) ls (lv_sub hl [0, 2, 3] rfl)
              ·
                have tc_4 : ((nI i22).toInt : Int) < (nI i12).toInt := Int32.lt_iff_toInt_lt.mp (Int32.not_le.mp c_4)
                refine lv_aload_n hx hb (oc_42 27 (aq_3 shX12_twice_24)) rfl (lvA2 hl) ?_
                refine gM_147 S hK hP (v := .ref (g 67)) rfl (oc_180 28 (aq_4 shX12_twice_24) uw_0_147) ?_
                refine lv_iload_n hx hb (oc_28 31 (aq_7 shX12_twice_24)) rfl (lvA1 hl) ?_
                have kb_1 : i12 < 40 := by (first | omega | (have zz0 := Hid.u hi_cn; omega))
                obtain ⟨a_5, ha_5, ea_5⟩ := hI.e67 i12 (by (first | omega | (have zz0 := Hid.u hi_cn; omega)))
                refine ldM_67 hx hb hK hP (x := (nI a_5)) (vp_in_nI kb_1 (ltb rfl)) (nI_clamp (Nat.lt_trans kb_1 (ltb rfl))) ea_5 (oc_46 32 (aq_8 shX12_twice_24)) ?_
                refine lv_iload_n hx hb (oc_27 33 (aq_9 shX12_twice_24)) rfl (lvA3 hl) ?_
                have : (nI a_5).toInt = ((a_5 : Nat) : Int) := nI_toInt (by (first | omega | (have zz0 := Hid.u hi_cn; omega)))
                refine lv_icmp_ne (tgt := 79) hx hb (oc_160 34 (aq_10 shX12_twice_24) sgw_0_45) rfl (fun c_6 => ?_) (fun c_6 => ?_)
                ·
                  have tc_6 : ((nI a_5).toInt : Int) ≠ v0.toInt := fun q => c_6 (Int32.toInt_inj.mp q)
                  refine lv_iinc (v := (nI (i22 + 1))) (lv' := [(3, .int (nI (i22 + 1))), (2, .int (nI i12)), (0, .ref (g 100)), (1, .int v0)]) hx hb dX12_twice_79 hl (k := 0) rfl (nI_1 _) (ltb rfl) rfl (fun ls hl => ?_)
                  refine lv_goto (tgt := 22) hx hb dX12_twice_82 rfl ?_
                  exact ih22 (i22 + 1) (by (first | omega | (have zz0 := Hid.u hi_cn; omega))) (by (first | omega | (have zz0 := Hid.u hi_cn; omega))) ls (lv_sub hl [0, 1, 2, 3] rfl)
                ·
                  have tc_6 : ((nI a_5).toInt : Int) = v0.toInt := congrArg Int32.toInt c_6
                  refine lv_aload_n hx hb (oc_42 37 (aq_13 shX12_twice_24)) rfl (lvA2 hl) ?_
                  refine gM_147 S hK hP (v := .ref (g 67)) rfl (oc_180 38 (aq_14 shX12_twice_24) uw_0_147) ?_
                  refine lv_iload_n hx hb (oc_29 41 (aq_17 shX12_twice_24)) rfl (lvA0 hl) ?_
                  have kb_2 : i22 < 40 := by (first | omega | (have zz0 := Hid.u hi_cn; omega))
                  obtain ⟨a_7, ha_7, ea_7⟩ := hI.e67 i22 (by (first | omega | (have zz0 := Hid.u hi_cn; omega)))
                  refine ldM_67 hx hb hK hP (x := (nI a_7)) (vp_in_nI kb_2 (ltb rfl)) (nI_clamp (Nat.lt_trans kb_2 (ltb rfl))) ea_7 (oc_46 42 (aq_18 shX12_twice_24)) ?_
                  refine lv_iload_n hx hb (oc_27 43 (aq_19 shX12_twice_24)) rfl (lvA3 hl) ?_
                  have : (nI a_7).toInt = ((a_7 : Nat) : Int) := nI_toInt (by (first | omega | (have zz0 := Hid.u hi_cn; omega)))
                  refine lv_icmp_ne (tgt := 79) hx hb (oc_160 44 (aq_20 shX12_twice_24) sgw_0_35) rfl (fun c_8 => ?_) (fun c_8 => ?_)
                  ·
                    have tc_8 : ((nI a_7).toInt : Int) ≠ v0.toInt := fun q => c_8 (Int32.toInt_inj.mp q)
                    refine lv_iinc (v := (nI (i22 + 1))) (lv' := [(3, .int (nI (i22 + 1))), (2, .int (nI i12)), (0, .ref (g 100)), (1, .int v0)]) hx hb dX12_twice_79 hl (k := 0) rfl (nI_1 _) (ltb rfl) rfl (fun ls hl => ?_)
                    refine lv_goto (tgt := 22) hx hb dX12_twice_82 rfl ?_
                    exact ih22 (i22 + 1) (by (first | omega | (have zz0 := Hid.u hi_cn; omega))) (by (first | omega | (have zz0 := Hid.u hi_cn; omega))) ls (lv_sub hl [0, 1, 2, 3] rfl)
                  ·
                    have tc_8 : ((nI a_7).toInt : Int) = v0.toInt := congrArg Int32.toInt c_8
                    refine lv_aload_n hx hb (oc_42 47 (aq_23 shX12_twice_24)) rfl (lvA2 hl) ?_
                    refine gM_150 S hK hP (v := .ref (g 68)) rfl (oc_180 48 shX12_twice_48 uw_0_150) ?_
                    refine lv_iload_n hx hb (oc_28 51 (aq_3 shX12_twice_48)) rfl (lvA1 hl) ?_
                    obtain ⟨a_9, ha_9, ea_9⟩ := hI.e68 i12 (by (first | omega | (have zz0 := Hid.u hi_cn; omega)))
                    refine ldM_68 hx hb hK hP (x := (nI a_9)) (vp_in_nI kb_1 (ltb rfl)) (nI_clamp (Nat.lt_trans kb_1 (ltb rfl))) ea_9 (oc_46 52 (aq_4 shX12_twice_48)) ?_
                    refine lv_aload_n hx hb (oc_42 53 (aq_5 shX12_twice_48)) rfl (lvA2 hl) ?_
                    refine gM_153 S hK hP (v := .ref (g 69)) rfl (oc_180 54 (aq_6 shX12_twice_48) uw_0_153) ?_
                    refine lv_iload_n hx hb (oc_29 57 (aq_9 shX12_twice_48)) rfl (lvA0 hl) ?_
                    obtain ⟨a_10, ha_10, ea_10⟩ := hI.e69 i22 (by (first | omega | (have zz0 := Hid.u hi_cn; omega)))
                    refine ldM_69 hx hb hK hP (x := (nI a_10)) (vp_in_nI kb_2 (ltb rfl)) (nI_clamp (Nat.lt_trans kb_2 (ltb rfl))) ea_10 (oc_46 58 (aq_10 shX12_twice_48)) ?_
                    have : (nI a_9).toInt = ((a_9 : Nat) : Int) := nI_toInt (by (first | omega | (have zz0 := Hid.u hi_cn; omega)))
                    have : (nI a_10).toInt = ((a_10 : Nat) : Int) := nI_toInt (by (first | omega | (have zz0 := Hid.u hi_cn; omega)))
                    refine lv_icmp_ge (tgt := 79) hx hb (oc_162 59 (aq_11 shX12_twice_48) sgw_0_20) rfl (fun c_11 => ?_) (fun c_11 => ?_)
                    ·
                      have tc_11 : ((nI a_10).toInt : Int) ≤ (nI a_9).toInt := Int32.le_iff_toInt_le.mp c_11
                      refine lv_iinc (v := (nI (i22 + 1))) (lv' := [(3, .int (nI (i22 + 1))), (2, .int (nI i12)), (0, .ref (g 100)), (1, .int v0)]) hx hb dX12_twice_79 hl (k := 0) rfl (nI_1 _) (ltb rfl) rfl (fun ls hl => ?_)
                      refine lv_goto (tgt := 22) hx hb dX12_twice_82 rfl ?_
                      exact ih22 (i22 + 1) (by (first | omega | (have zz0 := Hid.u hi_cn; omega))) (by (first | omega | (have zz0 := Hid.u hi_cn; omega))) ls (lv_sub hl [0, 1, 2, 3] rfl)
                    ·
                      have tc_11 : ((nI a_9).toInt : Int) < (nI a_10).toInt := Int32.lt_iff_toInt_lt.mp (Int32.not_le.mp c_11)
                      refine lv_aload_n hx hb (oc_42 62 (aq_14 shX12_twice_48)) rfl (lvA2 hl) ?_
                      refine gM_150 S hK hP (v := .ref (g 68)) rfl (oc_180 63 (aq_15 shX12_twice_48) uw_0_150) ?_
                      refine lv_iload_n hx hb (oc_29 66 (aq_18 shX12_twice_48)) rfl (lvA0 hl) ?_
                      obtain ⟨a_12, ha_12, ea_12⟩ := hI.e68 i22 (by (first | omega | (have zz0 := Hid.u hi_cn; omega)))
                      refine ldM_68 hx hb hK hP (x := (nI a_12)) (vp_in_nI kb_2 (ltb rfl)) (nI_clamp (Nat.lt_trans kb_2 (ltb rfl))) ea_12 (oc_46 67 (aq_19 shX12_twice_48)) ?_
                      refine lv_aload_n hx hb (oc_42 68 (aq_20 shX12_twice_48)) rfl (lvA2 hl) ?_
                      refine gM_153 S hK hP (v := .ref (g 69)) rfl (oc_180 69 (aq_21 shX12_twice_48) uw_0_153) ?_
                      refine lv_iload_n hx hb (oc_28 72 shX12_twice_72) rfl (lvA1 hl) ?_
                      obtain ⟨a_13, ha_13, ea_13⟩ := hI.e69 i12 (by (first | omega | (have zz0 := Hid.u hi_cn; omega)))
                      refine ldM_69 hx hb hK hP (x := (nI a_13)) (vp_in_nI kb_1 (ltb rfl)) (nI_clamp (Nat.lt_trans kb_1 (ltb rfl))) ea_13 (oc_46 73 (aq_1 shX12_twice_72)) ?_
                      have : (nI a_12).toInt = ((a_12 : Nat) : Int) := nI_toInt (by (first | omega | (have zz0 := Hid.u hi_cn; omega)))
                      have : (nI a_13).toInt = ((a_13 : Nat) : Int) := nI_toInt (by (first | omega | (have zz0 := Hid.u hi_cn; omega)))
                      refine lv_icmp_ge (tgt := 79) hx hb (oc_162 74 (aq_2 shX12_twice_72) sgw_0_5) rfl (fun c_14 => ?_) (fun c_14 => ?_)
                      ·
                        have tc_14 : ((nI a_13).toInt : Int) ≤ (nI a_12).toInt := Int32.le_iff_toInt_le.mp c_14
                        refine lv_iinc (v := (nI (i22 + 1))) (lv' := [(3, .int (nI (i22 + 1))), (2, .int (nI i12)), (0, .ref (g 100)), (1, .int v0)]) hx hb dX12_twice_79 hl (k := 0) rfl (nI_1 _) (ltb rfl) rfl (fun ls hl => ?_)
                        refine lv_goto (tgt := 22) hx hb dX12_twice_82 rfl ?_
                        exact ih22 (i22 + 1) (by (first | omega | (have zz0 := Hid.u hi_cn; omega))) (by (first | omega | (have zz0 := Hid.u hi_cn; omega))) ls (lv_sub hl [0, 1, 2, 3] rfl)
                      ·
                        have tc_14 : ((nI a_12).toInt : Int) < (nI a_13).toInt := Int32.lt_iff_toInt_lt.mp (Int32.not_le.mp c_14)
                        refine lv_iload_n hx hb (oc_28 77 (aq_5 shX12_twice_72)) rfl (lvA1 hl) ?_
                        exact W.iret (v := (nI i12)) hx hb hr (fun t ht hW => ⟨(nI i12), rfl, trivial, ht⟩) (fun _ h => absurd h List.not_mem_nil) (oc_172 78 (aq_6 shX12_twice_72))
          exact lp_22 _ 0 (Nat.lt_succ_self _) (by (first | omega | (have zz0 := Hid.u hi_cn; omega))) ls (lv_sub hl [0, 1, 2, 3] rfl)
    exact lp_12 _ 0 (Nat.lt_succ_self _) (by (first | omega | (have zz0 := Hid.u hi_cn; omega))) ls (lv_sub hl [0, 1, 2] rfl)
  ·
    have h_2 : ¬ (0 ≤ v0.toInt ∧ v0.toInt < ((cn 62) : Int)) := h_2
    refine lv_if_ne (tgt := 10) hx hb (oc_154 5 (aq_5 shX12_twice_0) sgw_0_5) rfl (fun h => absurd h cq_eq_0_0) (fun _ => ?_)
    refine lv_iconst (v := (-1)) hx hb (oc_2 8 (aq_8 shX12_twice_0)) kic_m1 ?_
    exact W.iret (v := (-1)) hx hb hr (fun t ht hW => ⟨(-1), rfl, trivial, ht⟩) (fun _ h => absurd h List.not_mem_nil) (oc_172 9 (aq_9 shX12_twice_0))
set_option maxRecDepth 100000 in
set_option maxHeartbeats 4000000 in
theorem q_tax (l : Launch) (D : va_G) (cI cB cZ : ClassId) (g : Nat → Nat) (cn : Nat → Nat) (In : Nat → Int32) (Fn : Nat → Nat → Int32) (v0 : Int32) (hI : IM cn Fn) : Met l yX12_tax (CWS yX12_tax cX12_tax 2 (some .int)) (RM 1 0 0) (PBr [.ref (g 100), .int v0] D cI cB cZ (wM cI cB cZ g cn In Fn)) (vp_Si (fun _ => True)) 0 0 (fun _ => False) := by
  refine en_r rfl pn_RX12 (Nat.le_of_ble_eq_true rfl) (fun p e s m below meth c hx hb hml hown S hr hlocks hnm hP hK hS ls hl => ?_)
  have hl : lv_has ls 2 [(0, .ref (g 100)), (1, .int v0)] := hl
  have hi_cn : Hid (CB cn) := hI.b
  refine lv_aload_n hx hb (oc_42 0 shX12_tax_0) rfl (lvA0 hl) ?_
  refine lv_iload_n hx hb (oc_27 1 (aq_1 shX12_tax_0)) rfl (lvA1 hl) ?_
  refine vp_callSi (runV_ra (As := [.int v0]) (rest := []) S (q_isProof l D cI cB cZ g cn In Fn v0 hI) kV_RX12_459 hK hP 0 rfl rfl rfl ⟨Nat.le_of_ble_eq_true rfl, Nat.le_of_ble_eq_true rfl⟩ ⟨Nat.le_of_ble_eq_true rfl, Nat.le_of_ble_eq_true rfl⟩ rfl hl.1 rfl (Nat.le_of_ble_eq_true rfl) (oc_182 2 (aq_2 shX12_tax_0) uw_1_203)) (fun r_1 h_2 => ?_)
  rcases h_2 with ⟨rfl, h_2⟩ | ⟨rfl, h_2⟩
  ·
    have h_2 : 0 ≤ v0.toInt ∧ v0.toInt < ((cn 63) : Int) := h_2
    refine lv_if_eq (tgt := 57) hx hb (oc_153 5 (aq_5 shX12_tax_0) sgw_0_52) rfl (fun h => absurd h cq_eq_1_0) (fun _ => ?_)
    obtain ⟨d0, hd0, rfl⟩ := nI_of (x := v0) (fun q => by have := Int32.lt_iff_toInt_lt.mp q; have e : (0 : Int32).toInt = 0 := rfl; (first | omega | (have zz0 := Hid.u hi_cn; omega)))
    have td0 : (nI d0).toInt = (d0 : Int) := nI_toInt hd0
    have zd0 : (nI d0).toInt.toNat = d0 := by (first | omega | (have zz0 := Hid.u hi_cn; omega))
    refine lv_aload_n hx hb (oc_42 8 (aq_8 shX12_tax_0)) rfl (lvA0 hl) ?_
    refine gM_153 S hK hP (v := .ref (g 69)) rfl (oc_180 9 (aq_9 shX12_tax_0) uw_0_153) ?_
    refine lv_iload_n hx hb (oc_27 12 (aq_12 shX12_tax_0)) rfl (lvA1 hl) ?_
    have kb_1 : d0 < 40 := by (first | omega | (have zz0 := Hid.u hi_cn; omega))
    obtain ⟨a_3, ha_3, ea_3⟩ := hI.e69 d0 (by (first | omega | (have zz0 := Hid.u hi_cn; omega)))
    refine ldM_69 hx hb hK hP (x := (nI a_3)) (vp_in_nI kb_1 (ltb rfl)) (nI_clamp (Nat.lt_trans kb_1 (ltb rfl))) ea_3 (oc_46 13 (aq_13 shX12_tax_0)) ?_
    refine lv_aload_n hx hb (oc_42 14 (aq_14 shX12_tax_0)) rfl (lvA0 hl) ?_
    refine gM_150 S hK hP (v := .ref (g 68)) rfl (oc_180 15 (aq_15 shX12_tax_0) uw_0_150) ?_
    refine lv_iload_n hx hb (oc_27 18 (aq_18 shX12_tax_0)) rfl (lvA1 hl) ?_
    obtain ⟨a_4, ha_4, ea_4⟩ := hI.e68 d0 (by (first | omega | (have zz0 := Hid.u hi_cn; omega)))
    refine ldM_68 hx hb hK hP (x := (nI a_4)) (vp_in_nI kb_1 (ltb rfl)) (nI_clamp (Nat.lt_trans kb_1 (ltb rfl))) ea_4 (oc_46 19 (aq_19 shX12_tax_0)) ?_
    refine lv_isub hx hb (oc_100 20 (aq_20 shX12_tax_0)) ?_
    refine lv_aload_n hx hb (oc_42 21 (aq_21 shX12_tax_0)) rfl (lvA0 hl) ?_
    refine gM_165 S hK hP (v := .ref (g 77)) rfl (oc_180 22 (aq_22 shX12_tax_0) uw_0_165) ?_
    refine lv_bipush (v := 58) hx hb (oc_16 25 shX12_tax_25 sgb_58) kbc_58 ?_
    refine lv_aload_n hx hb (oc_42 27 (aq_2 shX12_tax_25)) rfl (lvA0 hl) ?_
    refine gM_162 S hK hP (v := .ref (g 76)) rfl (oc_180 28 (aq_3 shX12_tax_25) uw_0_162) ?_
    refine lv_aload_n hx hb (oc_42 31 (aq_6 shX12_tax_25)) rfl (lvA0 hl) ?_
    refine gM_156 S hK hP (v := .ref (g 70)) rfl (oc_180 32 (aq_7 shX12_tax_25) uw_0_156) ?_
    refine lv_iload_n hx hb (oc_27 35 (aq_10 shX12_tax_25)) rfl (lvA1 hl) ?_
    obtain ⟨a_5, ha_5, ea_5⟩ := hI.e70 d0 (by (first | omega | (have zz0 := Hid.u hi_cn; omega)))
    refine ldM_70 hx hb hK hP (x := (nI a_5)) (vp_in_nI kb_1 (ltb rfl)) (nI_clamp (Nat.lt_trans kb_1 (ltb rfl))) ea_5 (oc_46 36 (aq_11 shX12_tax_25)) ?_
    have kb_2 : a_5 < 10 := by (first | omega | (have zz0 := Hid.u hi_cn; omega))
    obtain ⟨a_6, ha_6, ea_6⟩ := hI.e76 a_5 (by (first | omega | (have zz0 := Hid.u hi_cn; omega)))
    refine ldM_76 hx hb hK hP (x := (nI a_6)) (vp_in_nI kb_2 (ltb rfl)) (nI_clamp (Nat.lt_trans kb_2 (ltb rfl))) ea_6 (oc_46 37 (aq_12 shX12_tax_25)) ?_
    refine lv_imul hx hb (oc_104 38 (aq_13 shX12_tax_25)) ?_
    refine lv_topi (fun y_7 ey_7 => ?_)
    obtain rfl : y_7 = (nI (58 * a_6)) := ey_7.trans (pk_mul 58 a_6)
    refine lv_aload_n hx hb (oc_42 39 (aq_14 shX12_tax_25)) rfl (lvA0 hl) ?_
    refine gM_144 S hK hP (v := .ref (g 66)) rfl (oc_180 40 (aq_15 shX12_tax_25) uw_0_144) ?_
    refine lv_iload_n hx hb (oc_27 43 (aq_18 shX12_tax_25)) rfl (lvA1 hl) ?_
    obtain ⟨a_8, ha_8, ea_8⟩ := hI.e66 d0 (by (first | omega | (have zz0 := Hid.u hi_cn; omega)))
    refine ldM_66 hx hb hK hP (x := (nI a_8)) (vp_in_nI kb_1 (ltb rfl)) (nI_clamp (Nat.lt_trans kb_1 (ltb rfl))) ea_8 (oc_46 44 (aq_19 shX12_tax_25)) ?_
    refine lv_bipush (v := 7) hx hb (oc_16 45 (aq_20 shX12_tax_25) sgb_7) kbc_7 ?_
    refine lv_idiv hx hb (oc_108 47 (aq_22 shX12_tax_25)) (by decide) ?_
    refine lv_topi (fun y_9 ey_9 => ?_)
    obtain rfl : y_9 = (nI (a_8 / 7)) := ey_9.trans (nI_div (by (first | omega | (have zz0 := Hid.u hi_cn; omega))) (by decide))
    refine lv_iadd hx hb (oc_96 48 (aq_23 shX12_tax_25)) ?_
    refine lv_topi (fun y_10 ey_10 => ?_)
    obtain rfl : y_10 = (nI ((58 * a_6) + (a_8 / 7))) := ey_10.trans (nI_add (58 * a_6) (a_8 / 7))
    have kb_3 : ((58 * a_6) + (a_8 / 7)) < 232 := by (first | omega | (have zz0 := Hid.u hi_cn; omega))
    refine ldM_77 hx hb hK hP (x := ((Fn 77) ((58 * a_6) + (a_8 / 7)))) (vp_in_nI kb_3 (ltb rfl)) (nI_clamp (Nat.lt_trans kb_3 (ltb rfl))) rfl (oc_46 49 shX12_tax_49) ?_
    refine lv_imul hx hb (oc_104 50 (aq_1 shX12_tax_49)) ?_
    refine lv_bipush (v := 100) hx hb (oc_16 51 (aq_2 shX12_tax_49) sgb_100) kbc_100 ?_
    refine lv_idiv hx hb (oc_108 53 (aq_4 shX12_tax_49)) (by decide) ?_
    refine lv_goto (tgt := 58) hx hb (oc_167 54 (aq_5 shX12_tax_49) sgw_0_4) rfl ?_
    exact W.iret (v := ((((nI a_3) - (nI a_4)) * ((Fn 77) ((58 * a_6) + (a_8 / 7)))) / 100)) hx hb hr (fun t ht hW => ⟨((((nI a_3) - (nI a_4)) * ((Fn 77) ((58 * a_6) + (a_8 / 7)))) / 100), rfl, trivial, ht⟩) (fun _ h => absurd h List.not_mem_nil) (oc_172 58 (aq_9 shX12_tax_49))
  ·
    have h_2 : ¬ (0 ≤ v0.toInt ∧ v0.toInt < ((cn 63) : Int)) := h_2
    refine lv_if_eq (tgt := 57) hx hb (oc_153 5 (aq_5 shX12_tax_0) sgw_0_52) rfl (fun _ => ?_) (fun h => absurd h cq_eq_0_0)
    refine lv_iconst (v := (-1)) hx hb (oc_2 57 (aq_8 shX12_tax_49)) kic_m1 ?_
    exact W.iret (v := (-1)) hx hb hr (fun t ht hW => ⟨(-1), rfl, trivial, ht⟩) (fun _ h => absurd h List.not_mem_nil) (oc_172 58 (aq_9 shX12_tax_49))
set_option maxRecDepth 100000 in
set_option maxHeartbeats 4000000 in
theorem q_overdrawn (l : Launch) (D : va_G) (cI cB cZ : ClassId) (g : Nat → Nat) (cn : Nat → Nat) (In : Nat → Int32) (Fn : Nat → Nat → Int32) (v0 : Int32) (hI : IM cn Fn) : Met l yX12_overdrawn (CWS yX12_overdrawn cX12_overdrawn 6 (some .int)) (RM 1 0 0) (PBr [.ref (g 100), .int v0] D cI cB cZ (wM cI cB cZ g cn In Fn)) (vp_Si (fun _ => True)) 0 0 (fun _ => False) := by
  refine en_r rfl pn_RX12 (Nat.le_of_ble_eq_true rfl) (fun p e s m below meth c hx hb hml hown S hr hlocks hnm hP hK hS ls hl => ?_)
  have hl : lv_has ls 6 [(0, .ref (g 100)), (1, .int v0)] := hl
  have hi_cn : Hid (CB cn) := hI.b
  refine lv_iload_n hx hb (oc_27 0 shX12_overdrawn_0) rfl (lvA1 hl) ?_
  refine lv_iconst (v := 0) hx hb (oc_3 1 (aq_1 shX12_overdrawn_0)) kic_0 ?_
  refine lv_bipush (v := 57) hx hb (oc_16 2 (aq_2 shX12_overdrawn_0) sgb_57) kbc_57 ?_
  refine vp_callSi (runS_r (As := [.int v0, .int 0, .int 57]) (rest := []) S (q_in l D cI cB cZ v0 0 57 ) kS_RX12_214 hK hP [] rfl ⟨Nat.le_of_ble_eq_true rfl, Nat.le_of_ble_eq_true rfl⟩ ⟨Nat.le_of_ble_eq_true rfl, Nat.le_of_ble_eq_true rfl⟩ rfl hl.1 rfl (Nat.le_of_ble_eq_true rfl) (oc_184 4 (aq_4 shX12_overdrawn_0) uw_0_214)) (fun r_1 h_2 => ?_)
  rcases h_2 with ⟨rfl, h_2⟩ | ⟨rfl, h_2⟩
  ·
    have h_2 : 0 ≤ v0.toInt ∧ v0.toInt ≤ 57 := h_2
    refine lv_if_ne (tgt := 12) hx hb (oc_154 7 (aq_7 shX12_overdrawn_0) sgw_0_5) rfl (fun _ => ?_) (fun h => absurd h cq_eq_1_0)
    refine lv_iconst (v := 0) hx hb (oc_3 12 (aq_12 shX12_overdrawn_0)) kic_0 ?_
    refine lv_istore_n (lv' := [(2, .int 0), (0, .ref (g 100)), (1, .int v0)]) hx hb (oc_61 13 (aq_13 shX12_overdrawn_0)) rfl hl (ltb rfl) rfl (fun ls hl => ?_)
    refine lv_iconst (v := 0) hx hb (oc_3 14 (aq_14 shX12_overdrawn_0)) kic_0 ?_
    refine lv_istore_n (lv' := [(3, .int 0), (2, .int 0), (0, .ref (g 100)), (1, .int v0)]) hx hb (oc_62 15 (aq_15 shX12_overdrawn_0)) rfl hl (ltb rfl) rfl (fun ls hl => ?_)
    have lp_16 : ∀ (n : Nat) (i16 : Nat) (x16_2 : Int32) , 10 - i16 < n → (i16 ≤ 10) → ∀ ls : Array Slot, lv_has ls 6 [(3, .int (nI i16)), (2, .int x16_2), (0, .ref (g 100)), (1, .int v0)] → W p l e (RM 1 0 0) s m ([.ref (g 100), .int v0]).toArray below meth c s.heap [] 0 0 (MQ below (vp_Si (fun _ => True)) ([.ref (g 100), .int v0]).toArray s 0 0 (fun _ => False)) (F0 m 16 ls []) := by
      intro n16
      induction n16 with
      | zero => intros; (first | omega | (have zz0 := Hid.u hi_cn; omega))
      | succ n16 ih16 =>
        intro i16 x16_2 hmu16 hinv16 ls hl
        have hr16 := hinv16
        have ti16 : (nI i16).toInt = (i16 : Int) := nI_toInt (by (first | omega | (have zz0 := Hid.u hi_cn; omega)))
        refine lv_iload_n hx hb (oc_29 16 (aq_16 shX12_overdrawn_0)) rfl (lvA0 hl) ?_
        refine lv_bipush (v := 10) hx hb (oc_16 17 (aq_17 shX12_overdrawn_0) sgb_10) kbc_10 ?_
        refine lv_icmp_ge (tgt := 119) hx hb (oc_162 19 (aq_19 shX12_overdrawn_0) sgw_0_100) rfl (fun c_3 => ?_) (fun c_3 => ?_)
        ·
          have tc_3 : (10 : Int) ≤ (nI i16).toInt := Int32.le_iff_toInt_le.mp c_3
          refine lv_iload_n hx hb (oc_28 119 (aq_20 shX12_overdrawn_99)) rfl (lvA1 hl) ?_
          exact W.iret (v := x16_2) hx hb hr (fun t ht hW => ⟨x16_2, rfl, trivial, ht⟩) (fun _ h => absurd h List.not_mem_nil) (oc_172 120 (aq_21 shX12_overdrawn_99))
        ·
          have tc_3 : ((nI i16).toInt : Int) < 10 := Int32.lt_iff_toInt_lt.mp (Int32.not_le.mp c_3)
          refine lv_iconst (v := 0) hx hb (oc_3 22 (aq_22 shX12_overdrawn_0)) kic_0 ?_
          refine lv_istore (lv' := [(4, .int 0), (3, .int (nI i16)), (2, .int x16_2), (0, .ref (g 100)), (1, .int v0)]) hx hb (oc_54 23 (aq_23 shX12_overdrawn_0) ub_4) hl (ltb rfl) rfl (fun ls hl => ?_)
          refine lv_iconst (v := 0) hx hb (oc_3 25 shX12_overdrawn_25) kic_0 ?_
          refine lv_istore (lv' := [(5, .int 0), (4, .int 0), (3, .int (nI i16)), (2, .int x16_2), (0, .ref (g 100)), (1, .int v0)]) hx hb (oc_54 26 (aq_1 shX12_overdrawn_25) ub_5) hl (ltb rfl) rfl (fun ls hl => ?_)
          have lp_28 : ∀ (n : Nat) (i28 : Nat) (x28_4 : Int32) , cn 63 - i28 < n → (i28 ≤ cn 63) → ∀ ls : Array Slot, lv_has ls 6 [(5, .int (nI i28)), (4, .int x28_4), (3, .int (nI i16)), (2, .int x16_2), (0, .ref (g 100)), (1, .int v0)] → W p l e (RM 1 0 0) s m ([.ref (g 100), .int v0]).toArray below meth c s.heap [] 0 0 (MQ below (vp_Si (fun _ => True)) ([.ref (g 100), .int v0]).toArray s 0 0 (fun _ => False)) (F0 m 28 ls []) := by
            intro n28
            induction n28 with
            | zero => intros; (first | omega | (have zz0 := Hid.u hi_cn; omega))
            | succ n28 ih28 =>
              intro i28 x28_4 hmu28 hinv28 ls hl
              have hr28 := hinv28
              have ti28 : (nI i28).toInt = (i28 : Int) := nI_toInt (by (first | omega | (have zz0 := Hid.u hi_cn; omega)))
              refine lv_iload hx hb (oc_21 28 (aq_3 shX12_overdrawn_25) ub_5) (lvA0 hl) ?_
              refine lv_aload_n hx hb (oc_42 30 (aq_5 shX12_overdrawn_25)) rfl (lvA4 hl) ?_
              refine gM_447 S hK hP (v := .int (nI (cn 63))) rfl (oc_180 31 (aq_6 shX12_overdrawn_25) uw_1_191) ?_
              have : (nI (cn 63)).toInt = (((cn 63) : Nat) : Int) := nI_toInt (by (first | omega | (have zz0 := Hid.u hi_cn; omega)))
              refine lv_icmp_ge (tgt := 92) hx hb (oc_162 34 (aq_9 shX12_overdrawn_25) sgw_0_58) rfl (fun c_4 => ?_) (fun c_4 => ?_)
              ·
                have tc_4 : ((nI (cn 63)).toInt : Int) ≤ (nI i28).toInt := Int32.le_iff_toInt_le.mp c_4
                refine lv_iload hx hb (oc_21 92 (aq_17 shX12_overdrawn_75) ub_4) (lvA1 hl) ?_
                refine lv_aload_n hx hb (oc_42 94 (aq_19 shX12_overdrawn_75)) rfl (lvA4 hl) ?_
                refine gM_168 S hK hP (v := .ref (g 78)) rfl (oc_180 95 (aq_20 shX12_overdrawn_75) uw_0_168) ?_
                refine lv_iload_n hx hb (oc_29 98 (aq_23 shX12_overdrawn_75)) rfl (lvA2 hl) ?_
                have kb_1 : i16 < 10 := by (first | omega | (have zz0 := Hid.u hi_cn; omega))
                refine ldM_78 hx hb hK hP (x := ((Fn 78) i16)) (vp_in_nI kb_1 (ltb rfl)) (nI_clamp (Nat.lt_trans kb_1 (ltb rfl))) rfl (oc_46 99 shX12_overdrawn_99) ?_
                refine lv_icmp_le (tgt := 111) hx hb (oc_164 100 (aq_1 shX12_overdrawn_99) sgw_0_11) rfl (fun c_5 => ?_) (fun c_5 => ?_)
                ·
                  have tc_5 : (x28_4.toInt : Int) ≤ ((Fn 78) i16).toInt := Int32.le_iff_toInt_le.mp c_5
                  refine lv_iload_n hx hb (oc_28 111 (aq_12 shX12_overdrawn_99)) rfl (lvA3 hl) ?_
                  refine lv_istore_n (lv' := [(2, .int x16_2), (5, .int (nI i28)), (4, .int x28_4), (3, .int (nI i16)), (0, .ref (g 100)), (1, .int v0)]) hx hb (oc_61 112 (aq_13 shX12_overdrawn_99)) rfl hl (ltb rfl) rfl (fun ls hl => ?_)
                  refine lv_iinc (v := (nI (i16 + 1))) (lv' := [(3, .int (nI (i16 + 1))), (2, .int x16_2), (5, .int (nI i28)), (4, .int x28_4), (0, .ref (g 100)), (1, .int v0)]) hx hb (oc_132 113 (aq_14 shX12_overdrawn_99) ub_3 sgb_1) hl (k := 3) rfl (nI_1 _) (ltb rfl) rfl (fun ls hl => ?_)
                  refine lv_goto (tgt := 16) hx hb (oc_167 116 (aq_17 shX12_overdrawn_99) sgw_255_156) rfl ?_
                  exact ih16 (i16 + 1) x16_2 (by (first | omega | (have zz0 := Hid.u hi_cn; omega))) (by (first | omega | (have zz0 := Hid.u hi_cn; omega))) ls (lv_sub hl [0, 1, 4, 5] rfl)
                ·
                  have tc_5 : (((Fn 78) i16).toInt : Int) < x28_4.toInt := Int32.lt_iff_toInt_lt.mp (Int32.not_le.mp c_5)
                  refine lv_iload_n hx hb (oc_28 103 (aq_4 shX12_overdrawn_99)) rfl (lvA3 hl) ?_
                  refine lv_iconst (v := 1) hx hb (oc_4 104 (aq_5 shX12_overdrawn_99)) kic_1 ?_
                  refine lv_iload_n hx hb (oc_29 105 (aq_6 shX12_overdrawn_99)) rfl (lvA2 hl) ?_
                  refine lv_ishl hx hb (oc_120 106 (aq_7 shX12_overdrawn_99)) ?_
                  refine lv_ior hx hb (oc_128 107 (aq_8 shX12_overdrawn_99)) ?_
                  refine lv_goto (tgt := 112) hx hb (oc_167 108 (aq_9 shX12_overdrawn_99) sgw_0_4) rfl ?_
                  refine lv_istore_n (lv' := [(2, .int (x16_2 ||| (1 <<< ((nI i16) &&& 31)))), (5, .int (nI i28)), (4, .int x28_4), (3, .int (nI i16)), (0, .ref (g 100)), (1, .int v0)]) hx hb (oc_61 112 (aq_13 shX12_overdrawn_99)) rfl hl (ltb rfl) rfl (fun ls hl => ?_)
                  refine lv_iinc (v := (nI (i16 + 1))) (lv' := [(3, .int (nI (i16 + 1))), (2, .int (x16_2 ||| (1 <<< ((nI i16) &&& 31)))), (5, .int (nI i28)), (4, .int x28_4), (0, .ref (g 100)), (1, .int v0)]) hx hb (oc_132 113 (aq_14 shX12_overdrawn_99) ub_3 sgb_1) hl (k := 3) rfl (nI_1 _) (ltb rfl) rfl (fun ls hl => ?_)
                  refine lv_goto (tgt := 16) hx hb (oc_167 116 (aq_17 shX12_overdrawn_99) sgw_255_156) rfl ?_
                  exact ih16 (i16 + 1) (x16_2 ||| (1 <<< ((nI i16) &&& 31))) (by (first | omega | (have zz0 := Hid.u hi_cn; omega))) (by (first | omega | (have zz0 := Hid.u hi_cn; omega))) ls (lv_sub hl [0, 1, 4, 5] rfl)
              ·
                have tc_4 : ((nI i28).toInt : Int) < (nI (cn 63)).toInt := Int32.lt_iff_toInt_lt.mp (Int32.not_le.mp c_4)
                refine lv_iload hx hb (oc_21 37 (aq_12 shX12_overdrawn_25) ub_4) (lvA1 hl) ?_
                refine lv_aload_n hx hb (oc_42 39 (aq_14 shX12_overdrawn_25)) rfl (lvA4 hl) ?_
                refine gM_156 S hK hP (v := .ref (g 70)) rfl (oc_180 40 (aq_15 shX12_overdrawn_25) uw_0_156) ?_
                refine lv_iload hx hb (oc_21 43 (aq_18 shX12_overdrawn_25) ub_5) (lvA0 hl) ?_
                have kb_2 : i28 < 40 := by (first | omega | (have zz0 := Hid.u hi_cn; omega))
                obtain ⟨a_6, ha_6, ea_6⟩ := hI.e70 i28 (by (first | omega | (have zz0 := Hid.u hi_cn; omega)))
                refine ldM_70 hx hb hK hP (x := (nI a_6)) (vp_in_nI kb_2 (ltb rfl)) (nI_clamp (Nat.lt_trans kb_2 (ltb rfl))) ea_6 (oc_46 45 (aq_20 shX12_overdrawn_25)) ?_
                refine lv_iload_n hx hb (oc_29 46 (aq_21 shX12_overdrawn_25)) rfl (lvA2 hl) ?_
                have : (nI a_6).toInt = ((a_6 : Nat) : Int) := nI_toInt (by (first | omega | (have zz0 := Hid.u hi_cn; omega)))
                refine lv_icmp_ne (tgt := 82) hx hb (oc_160 47 (aq_22 shX12_overdrawn_25) sgw_0_35) rfl (fun c_7 => ?_) (fun c_7 => ?_)
                ·
                  have tc_7 : ((nI a_6).toInt : Int) ≠ (nI i16).toInt := fun q => c_7 (Int32.toInt_inj.mp q)
                  refine lv_iconst (v := 0) hx hb (oc_3 82 (aq_7 shX12_overdrawn_75)) kic_0 ?_
                  refine lv_iadd hx hb (oc_96 83 (aq_8 shX12_overdrawn_75)) ?_
                  refine lv_istore (lv' := [(4, .int (x28_4 + 0)), (5, .int (nI i28)), (3, .int (nI i16)), (2, .int x16_2), (0, .ref (g 100)), (1, .int v0)]) hx hb (oc_54 84 (aq_9 shX12_overdrawn_75) ub_4) hl (ltb rfl) rfl (fun ls hl => ?_)
                  refine lv_iinc (v := (nI (i28 + 1))) (lv' := [(5, .int (nI (i28 + 1))), (4, .int (x28_4 + 0)), (3, .int (nI i16)), (2, .int x16_2), (0, .ref (g 100)), (1, .int v0)]) hx hb (oc_132 86 (aq_11 shX12_overdrawn_75) ub_5 sgb_1) hl (k := 1) rfl (nI_1 _) (ltb rfl) rfl (fun ls hl => ?_)
                  refine lv_goto (tgt := 28) hx hb (oc_167 89 (aq_14 shX12_overdrawn_75) sgw_255_195) rfl ?_
                  exact ih28 (i28 + 1) (x28_4 + 0) (by (first | omega | (have zz0 := Hid.u hi_cn; omega))) (by (first | omega | (have zz0 := Hid.u hi_cn; omega))) ls (lv_sub hl [0, 1, 2, 3, 4, 5] rfl)
                ·
                  have tc_7 : ((nI a_6).toInt : Int) = (nI i16).toInt := congrArg Int32.toInt c_7
                  refine lv_aload_n hx hb (oc_42 50 shX12_overdrawn_50) rfl (lvA4 hl) ?_
                  refine gM_144 S hK hP (v := .ref (g 66)) rfl (oc_180 51 (aq_1 shX12_overdrawn_50) uw_0_144) ?_
                  refine lv_iload hx hb (oc_21 54 (aq_4 shX12_overdrawn_50) ub_5) (lvA0 hl) ?_
                  obtain ⟨a_8, ha_8, ea_8⟩ := hI.e66 i28 (by (first | omega | (have zz0 := Hid.u hi_cn; omega)))
                  refine ldM_66 hx hb hK hP (x := (nI a_8)) (vp_in_nI kb_2 (ltb rfl)) (nI_clamp (Nat.lt_trans kb_2 (ltb rfl))) ea_8 (oc_46 56 (aq_6 shX12_overdrawn_50)) ?_
                  refine lv_bipush (v := 7) hx hb (oc_16 57 (aq_7 shX12_overdrawn_50) sgb_7) kbc_7 ?_
                  refine lv_idiv hx hb (oc_108 59 (aq_9 shX12_overdrawn_50)) (by decide) ?_
                  refine lv_topi (fun y_9 ey_9 => ?_)
                  obtain rfl : y_9 = (nI (a_8 / 7)) := ey_9.trans (nI_div (by (first | omega | (have zz0 := Hid.u hi_cn; omega))) (by decide))
                  refine lv_iload_n hx hb (oc_27 60 (aq_10 shX12_overdrawn_50)) rfl (lvA5 hl) ?_
                  have : (nI (a_8 / 7)).toInt = (((a_8 / 7) : Nat) : Int) := nI_toInt (by (first | omega | (have zz0 := Hid.u hi_cn; omega)))
                  refine lv_icmp_ne (tgt := 82) hx hb (oc_160 61 (aq_11 shX12_overdrawn_50) sgw_0_21) rfl (fun c_10 => ?_) (fun c_10 => ?_)
                  ·
                    have tc_10 : ((nI (a_8 / 7)).toInt : Int) ≠ v0.toInt := fun q => c_10 (Int32.toInt_inj.mp q)
                    refine lv_iconst (v := 0) hx hb (oc_3 82 (aq_7 shX12_overdrawn_75)) kic_0 ?_
                    refine lv_iadd hx hb (oc_96 83 (aq_8 shX12_overdrawn_75)) ?_
                    refine lv_istore (lv' := [(4, .int (x28_4 + 0)), (5, .int (nI i28)), (3, .int (nI i16)), (2, .int x16_2), (0, .ref (g 100)), (1, .int v0)]) hx hb (oc_54 84 (aq_9 shX12_overdrawn_75) ub_4) hl (ltb rfl) rfl (fun ls hl => ?_)
                    refine lv_iinc (v := (nI (i28 + 1))) (lv' := [(5, .int (nI (i28 + 1))), (4, .int (x28_4 + 0)), (3, .int (nI i16)), (2, .int x16_2), (0, .ref (g 100)), (1, .int v0)]) hx hb (oc_132 86 (aq_11 shX12_overdrawn_75) ub_5 sgb_1) hl (k := 1) rfl (nI_1 _) (ltb rfl) rfl (fun ls hl => ?_)
                    refine lv_goto (tgt := 28) hx hb (oc_167 89 (aq_14 shX12_overdrawn_75) sgw_255_195) rfl ?_
                    exact ih28 (i28 + 1) (x28_4 + 0) (by (first | omega | (have zz0 := Hid.u hi_cn; omega))) (by (first | omega | (have zz0 := Hid.u hi_cn; omega))) ls (lv_sub hl [0, 1, 2, 3, 4, 5] rfl)
                  ·
                    have tc_10 : ((nI (a_8 / 7)).toInt : Int) = v0.toInt := congrArg Int32.toInt c_10
                    refine lv_aload_n hx hb (oc_42 64 (aq_14 shX12_overdrawn_50)) rfl (lvA4 hl) ?_
                    refine gM_153 S hK hP (v := .ref (g 69)) rfl (oc_180 65 (aq_15 shX12_overdrawn_50) uw_0_153) ?_
                    refine lv_iload hx hb (oc_21 68 (aq_18 shX12_overdrawn_50) ub_5) (lvA0 hl) ?_
                    obtain ⟨a_11, ha_11, ea_11⟩ := hI.e69 i28 (by (first | omega | (have zz0 := Hid.u hi_cn; omega)))
                    refine ldM_69 hx hb hK hP (x := (nI a_11)) (vp_in_nI kb_2 (ltb rfl)) (nI_clamp (Nat.lt_trans kb_2 (ltb rfl))) ea_11 (oc_46 70 (aq_20 shX12_overdrawn_50)) ?_
                    refine lv_aload_n hx hb (oc_42 71 (aq_21 shX12_overdrawn_50)) rfl (lvA4 hl) ?_
                    refine gM_150 S hK hP (v := .ref (g 68)) rfl (oc_180 72 (aq_22 shX12_overdrawn_50) uw_0_150) ?_
                    refine lv_iload hx hb (oc_21 75 shX12_overdrawn_75 ub_5) (lvA0 hl) ?_
                    obtain ⟨a_12, ha_12, ea_12⟩ := hI.e68 i28 (by (first | omega | (have zz0 := Hid.u hi_cn; omega)))
                    refine ldM_68 hx hb hK hP (x := (nI a_12)) (vp_in_nI kb_2 (ltb rfl)) (nI_clamp (Nat.lt_trans kb_2 (ltb rfl))) ea_12 (oc_46 77 (aq_2 shX12_overdrawn_75)) ?_
                    refine lv_isub hx hb (oc_100 78 (aq_3 shX12_overdrawn_75)) ?_
                    refine lv_goto (tgt := 83) hx hb (oc_167 79 (aq_4 shX12_overdrawn_75) sgw_0_4) rfl ?_
                    refine lv_iadd hx hb (oc_96 83 (aq_8 shX12_overdrawn_75)) ?_
                    refine lv_istore (lv' := [(4, .int (x28_4 + ((nI a_11) - (nI a_12)))), (5, .int (nI i28)), (3, .int (nI i16)), (2, .int x16_2), (0, .ref (g 100)), (1, .int v0)]) hx hb (oc_54 84 (aq_9 shX12_overdrawn_75) ub_4) hl (ltb rfl) rfl (fun ls hl => ?_)
                    refine lv_iinc (v := (nI (i28 + 1))) (lv' := [(5, .int (nI (i28 + 1))), (4, .int (x28_4 + ((nI a_11) - (nI a_12)))), (3, .int (nI i16)), (2, .int x16_2), (0, .ref (g 100)), (1, .int v0)]) hx hb (oc_132 86 (aq_11 shX12_overdrawn_75) ub_5 sgb_1) hl (k := 1) rfl (nI_1 _) (ltb rfl) rfl (fun ls hl => ?_)
                    refine lv_goto (tgt := 28) hx hb (oc_167 89 (aq_14 shX12_overdrawn_75) sgw_255_195) rfl ?_
                    exact ih28 (i28 + 1) (x28_4 + ((nI a_11) - (nI a_12))) (by (first | omega | (have zz0 := Hid.u hi_cn; omega))) (by (first | omega | (have zz0 := Hid.u hi_cn; omega))) ls (lv_sub hl [0, 1, 2, 3, 4, 5] rfl)
          exact lp_28 _ 0 0 (Nat.lt_succ_self _) (by (first | omega | (have zz0 := Hid.u hi_cn; omega))) ls (lv_sub hl [0, 1, 2, 3, 4, 5] rfl)
    exact lp_16 _ 0 0 (Nat.lt_succ_self _) (by (first | omega | (have zz0 := Hid.u hi_cn; omega))) ls (lv_sub hl [0, 1, 2, 3] rfl)
  ·
    have h_2 : ¬ (0 ≤ v0.toInt ∧ v0.toInt ≤ 57) := h_2
    refine lv_if_ne (tgt := 12) hx hb (oc_154 7 (aq_7 shX12_overdrawn_0) sgw_0_5) rfl (fun h => absurd h cq_eq_0_0) (fun _ => ?_)
    refine lv_iconst (v := (-1)) hx hb (oc_2 10 (aq_10 shX12_overdrawn_0)) kic_m1 ?_
    exact W.iret (v := (-1)) hx hb hr (fun t ht hW => ⟨(-1), rfl, trivial, ht⟩) (fun _ h => absurd h List.not_mem_nil) (oc_172 11 (aq_11 shX12_overdrawn_0))
set_option maxRecDepth 100000 in
set_option maxHeartbeats 4000000 in
theorem q_tapeNumber (l : Launch) (D : va_G) (cI cB cZ : ClassId) (g : Nat → Nat) (cn : Nat → Nat) (In : Nat → Int32) (Fn : Nat → Nat → Int32) (k : Nat) (hI : IM cn Fn) (hk : 4 * k + 4 ≤ 200) : Met l yX12_tapeNumber (CWS yX12_tapeNumber cX12_tapeNumber 4 (some .int)) (RM 0 0 0) (PBr [.ref (g 100), .int (nI k)] D cI cB cZ (wM cI cB cZ g cn In Fn)) (vp_Si (fun _ => True)) 0 0 (fun _ => False) := by
  refine en_r rfl pn_RX12 (Nat.le_of_ble_eq_true rfl) (fun p e s m below meth c hx hb hml hown S hr hlocks hnm hP hK hS ls hl => ?_)
  have hl : lv_has ls 4 [(0, .ref (g 100)), (1, .int (nI k))] := hl
  have hi_cn : Hid (CB cn) := hI.b
  refine lv_iconst (v := 0) hx hb (oc_3 0 shX12_tapeNumber_0) kic_0 ?_
  refine lv_istore_n (lv' := [(2, .int 0), (0, .ref (g 100)), (1, .int (nI k))]) hx hb (oc_61 1 (aq_1 shX12_tapeNumber_0)) rfl hl (ltb rfl) rfl (fun ls hl => ?_)
  refine lv_iconst (v := 4) hx hb (oc_7 2 (aq_2 shX12_tapeNumber_0)) kic_4 ?_
  refine lv_iload_n hx hb (oc_27 3 (aq_3 shX12_tapeNumber_0)) rfl (lvA2 hl) ?_
  refine lv_imul hx hb (oc_104 4 (aq_4 shX12_tapeNumber_0)) ?_
  refine lv_topi (fun y_1 ey_1 => ?_)
  obtain rfl : y_1 = (nI (4 * k)) := ey_1.trans (pk_mul 4 k)
  refine lv_istore_n (lv' := [(3, .int (nI (4 * k))), (2, .int 0), (0, .ref (g 100)), (1, .int (nI k))]) hx hb (oc_62 5 (aq_5 shX12_tapeNumber_0)) rfl hl (ltb rfl) rfl (fun ls hl => ?_)
  have lp_6 : ∀ (n : Nat) (i6 : Nat) (x6_2 : Int32) , 4 * k + 4 - i6 < n → (i6 ≤ 4 * k + 4) → ∀ ls : Array Slot, lv_has ls 4 [(3, .int (nI i6)), (2, .int x6_2), (0, .ref (g 100)), (1, .int (nI k))] → W p l e (RM 0 0 0) s m ([.ref (g 100), .int (nI k)]).toArray below meth c s.heap [] 0 0 (MQ below (vp_Si (fun _ => True)) ([.ref (g 100), .int (nI k)]).toArray s 0 0 (fun _ => False)) (F0 m 6 ls []) := by
    intro n6
    induction n6 with
    | zero => intros; (first | omega | (have zz0 := Hid.u hi_cn; omega))
    | succ n6 ih6 =>
      intro i6 x6_2 hmu6 hinv6 ls hl
      have hr6 := hinv6
      have ti6 : (nI i6).toInt = (i6 : Int) := nI_toInt (by (first | omega | (have zz0 := Hid.u hi_cn; omega)))
      refine lv_iload_n hx hb (oc_29 6 (aq_6 shX12_tapeNumber_0)) rfl (lvA0 hl) ?_
      refine lv_iconst (v := 4) hx hb (oc_7 7 (aq_7 shX12_tapeNumber_0)) kic_4 ?_
      refine lv_iload_n hx hb (oc_27 8 (aq_8 shX12_tapeNumber_0)) rfl (lvA3 hl) ?_
      refine lv_imul hx hb (oc_104 9 (aq_9 shX12_tapeNumber_0)) ?_
      refine lv_topi (fun y_2 ey_2 => ?_)
      obtain rfl : y_2 = (nI (4 * k)) := ey_2.trans (pk_mul 4 k)
      refine lv_iconst (v := 4) hx hb (oc_7 10 (aq_10 shX12_tapeNumber_0)) kic_4 ?_
      refine lv_iadd hx hb (oc_96 11 (aq_11 shX12_tapeNumber_0)) ?_
      refine lv_topi (fun y_3 ey_3 => ?_)
      obtain rfl : y_3 = (nI ((4 * k) + 4)) := ey_3.trans (nI_add (4 * k) 4)
      have : (nI ((4 * k) + 4)).toInt = ((((4 * k) + 4) : Nat) : Int) := nI_toInt (by (first | omega | (have zz0 := Hid.u hi_cn; omega)))
      refine lv_icmp_ge (tgt := 37) hx hb (oc_162 12 (aq_12 shX12_tapeNumber_0) sgw_0_25) rfl (fun c_4 => ?_) (fun c_4 => ?_)
      ·
        have tc_4 : ((nI ((4 * k) + 4)).toInt : Int) ≤ (nI i6).toInt := Int32.le_iff_toInt_le.mp c_4
        refine lv_iload_n hx hb (oc_28 37 (aq_13 shX12_tapeNumber_24)) rfl (lvA1 hl) ?_
        exact W.iret (v := x6_2) hx hb hr (fun t ht hW => ⟨x6_2, rfl, trivial, ht⟩) (fun _ h => absurd h List.not_mem_nil) (oc_172 38 (aq_14 shX12_tapeNumber_24))
      ·
        have tc_4 : ((nI i6).toInt : Int) < (nI ((4 * k) + 4)).toInt := Int32.lt_iff_toInt_lt.mp (Int32.not_le.mp c_4)
        refine lv_iload_n hx hb (oc_28 15 (aq_15 shX12_tapeNumber_0)) rfl (lvA1 hl) ?_
        refine lv_bipush (v := 8) hx hb (oc_16 16 (aq_16 shX12_tapeNumber_0) sgb_8) kbc_8 ?_
        refine lv_ishl hx hb (oc_120 18 (aq_18 shX12_tapeNumber_0)) ?_
        refine lv_aload_n hx hb (oc_42 19 (aq_19 shX12_tapeNumber_0)) rfl (lvA2 hl) ?_
        refine gM_52 S hK hP (v := .ref (g 17)) rfl (oc_180 20 (aq_20 shX12_tapeNumber_0) uw_0_52) ?_
        refine lv_iload_n hx hb (oc_29 23 (aq_23 shX12_tapeNumber_0)) rfl (lvA0 hl) ?_
        have kb_1 : i6 < 200 := by (first | omega | (have zz0 := Hid.u hi_cn; omega))
        refine ldM_17 hx hb hK hP (x := ((Fn 17) i6)) (vp_in_nI kb_1 (ltb rfl)) (nI_clamp (Nat.lt_trans kb_1 (ltb rfl))) rfl (oc_51 24 shX12_tapeNumber_24) ?_
        refine lv_sipush (v := 255) hx hb (oc_17 25 (aq_1 shX12_tapeNumber_24) sgw_0_255) (by decide) ?_
        refine lv_iand hx hb (oc_126 28 (aq_4 shX12_tapeNumber_24)) ?_
        refine lv_ior hx hb (oc_128 29 (aq_5 shX12_tapeNumber_24)) ?_
        refine lv_istore_n (lv' := [(2, .int ((x6_2 <<< (8 &&& 31)) ||| (((Fn 17) i6) &&& 255))), (3, .int (nI i6)), (0, .ref (g 100)), (1, .int (nI k))]) hx hb (oc_61 30 (aq_6 shX12_tapeNumber_24)) rfl hl (ltb rfl) rfl (fun ls hl => ?_)
        refine lv_iinc (v := (nI (i6 + 1))) (lv' := [(3, .int (nI (i6 + 1))), (2, .int ((x6_2 <<< (8 &&& 31)) ||| (((Fn 17) i6) &&& 255))), (0, .ref (g 100)), (1, .int (nI k))]) hx hb (oc_132 31 (aq_7 shX12_tapeNumber_24) ub_3 sgb_1) hl (k := 1) rfl (nI_1 _) (ltb rfl) rfl (fun ls hl => ?_)
        refine lv_goto (tgt := 6) hx hb (oc_167 34 (aq_10 shX12_tapeNumber_24) sgw_255_228) rfl ?_
        exact ih6 (i6 + 1) ((x6_2 <<< (8 &&& 31)) ||| (((Fn 17) i6) &&& 255)) (by (first | omega | (have zz0 := Hid.u hi_cn; omega))) (by (first | omega | (have zz0 := Hid.u hi_cn; omega))) ls (lv_sub hl [0, 1, 2, 3] rfl)
  exact lp_6 _ (4 * k) 0 (Nat.lt_succ_self _) (by (first | omega | (have zz0 := Hid.u hi_cn; omega))) ls (lv_sub hl [0, 1, 2, 3] rfl)
set_option maxRecDepth 100000 in
set_option maxHeartbeats 4000000 in
theorem q_count (l : Launch) (D : va_G) (cI cB cZ : ClassId) (g : Nat → Nat) (cn : Nat → Nat) (In : Nat → Int32) (Fn : Nat → Nat → Int32) (v0 : Int32) (hI : IM cn Fn) : Met l yX12_count (CWS yX12_count cX12_count 2 (some .int)) (RM 1 0 0) (PBr [.ref (g 100), .int v0] D cI cB cZ (wM cI cB cZ g cn In Fn)) (vp_Si (fun _ => True)) 0 0 (fun _ => False) := by
  refine en_r rfl pn_RX12 (Nat.le_of_ble_eq_true rfl) (fun p e s m below meth c hx hb hml hown S hr hlocks hnm hP hK hS ls hl => ?_)
  have hl : lv_has ls 2 [(0, .ref (g 100)), (1, .int v0)] := hl
  have hi_cn : Hid (CB cn) := hI.b
  refine lv_iload_n hx hb (oc_27 0 shX12_count_0) rfl (lvA1 hl) ?_
  rcases (by (first | omega | (have zz0 := Hid.u hi_cn; omega)) : v0.toInt < 0 ∨ 9 < v0.toInt ∨ v0.toInt = 0 ∨ v0.toInt = 1 ∨ v0.toInt = 2 ∨ v0.toInt = 3 ∨ v0.toInt = 4 ∨ v0.toInt = 5 ∨ v0.toInt = 6 ∨ v0.toInt = 7 ∨ v0.toInt = 8 ∨ v0.toInt = 9) with c_1 | c_1 | c_1 | c_1 | c_1 | c_1 | c_1 | c_1 | c_1 | c_1 | c_1 | c_1
  ·
    refine lv_tableOut (tgt := 109) hx hb dX12_count_1 (Or.inl c_1) (by decide) ?_
    refine lv_iload_n hx hb (oc_27 109 (aq_5 shX12_count_104)) rfl (lvA1 hl) ?_
    refine lv_bipush (v := 10) hx hb (oc_16 110 (aq_6 shX12_count_104) sgb_10) kbc_10 ?_
    refine lv_bipush (v := 9) hx hb (oc_16 112 (aq_8 shX12_count_104) sgb_9) kbc_9 ?_
    refine lv_aload_n hx hb (oc_42 114 (aq_10 shX12_count_104)) rfl (lvA0 hl) ?_
    refine gM_204 S hK hP (v := .int (nI (cn 1))) rfl (oc_180 115 (aq_11 shX12_count_104) uw_0_204) ?_
    refine lv_iadd hx hb (oc_96 118 (aq_14 shX12_count_104)) ?_
    refine lv_topi (fun y_2 ey_2 => ?_)
    obtain rfl : y_2 = (nI (9 + (cn 1))) := ey_2.trans (nI_add 9 (cn 1))
    refine vp_callSi (runS_r (As := [.int v0, .int 10, .int (nI (9 + (cn 1)))]) (rest := []) S (q_in l D cI cB cZ v0 10 (nI (9 + (cn 1))) ) kS_RX12_214 hK hP [] rfl ⟨Nat.le_of_ble_eq_true rfl, Nat.le_of_ble_eq_true rfl⟩ ⟨Nat.le_of_ble_eq_true rfl, Nat.le_of_ble_eq_true rfl⟩ rfl hl.1 rfl (Nat.le_of_ble_eq_true rfl) (oc_184 119 (aq_15 shX12_count_104) uw_0_214)) (fun r_3 h_4 => ?_)
    have : (nI (9 + (cn 1))).toInt = (((9 + (cn 1)) : Nat) : Int) := nI_toInt (by (first | omega | (have zz0 := Hid.u hi_cn; omega)))
    rcases h_4 with ⟨rfl, h_4⟩ | ⟨rfl, h_4⟩
    ·
      have h_4 : 10 ≤ v0.toInt ∧ v0.toInt ≤ (nI (9 + (cn 1))).toInt := h_4
      refine lv_if_eq (tgt := 135) hx hb dX12_count_122 rfl (fun h => absurd h cq_eq_1_0) (fun _ => ?_)
      obtain ⟨d0, hd0, rfl⟩ := nI_of (x := v0) (fun q => by have := Int32.lt_iff_toInt_lt.mp q; have e : (0 : Int32).toInt = 0 := rfl; (first | omega | (have zz0 := Hid.u hi_cn; omega)))
      have td0 : (nI d0).toInt = (d0 : Int) := nI_toInt hd0
      have zd0 : (nI d0).toInt.toNat = d0 := by (first | omega | (have zz0 := Hid.u hi_cn; omega))
      refine lv_aload_n hx hb (oc_42 125 (aq_21 shX12_count_104)) rfl (lvA0 hl) ?_
      refine gM_74 S hK hP (v := .ref (g 33)) rfl (oc_180 126 (aq_22 shX12_count_104) uw_0_74) ?_
      refine lv_iload_n hx hb (oc_27 129 shX12_count_129) rfl (lvA1 hl) ?_
      refine lv_bipush (v := 10) hx hb (oc_16 130 (aq_1 shX12_count_129) sgb_10) kbc_10 ?_
      refine lv_isub hx hb (oc_100 132 (aq_3 shX12_count_129)) ?_
      refine lv_topi (fun y_5 ey_5 => ?_)
      obtain rfl : y_5 = (nI (d0 - 10)) := ey_5.trans (nI_sub (b := 10) (by (first | omega | (have zz0 := Hid.u hi_cn; omega))))
      have kb_1 : (d0 - 10) < 11 := by (first | omega | (have zz0 := Hid.u hi_cn; omega))
      obtain ⟨a_6, ha_6, ea_6⟩ := hI.e33 (d0 - 10) (by (first | omega | (have zz0 := Hid.u hi_cn; omega)))
      refine ldM_33 hx hb hK hP (x := (nI a_6)) (vp_in_nI kb_1 (ltb rfl)) (nI_clamp (Nat.lt_trans kb_1 (ltb rfl))) ea_6 (oc_46 133 (aq_4 shX12_count_129)) ?_
      exact W.iret (v := (nI a_6)) hx hb hr (fun t ht hW => ⟨(nI a_6), rfl, trivial, ht⟩) (fun _ h => absurd h List.not_mem_nil) (oc_172 134 (aq_5 shX12_count_129))
    ·
      have h_4 : ¬ (10 ≤ v0.toInt ∧ v0.toInt ≤ (nI (9 + (cn 1))).toInt) := h_4
      refine lv_if_eq (tgt := 135) hx hb dX12_count_122 rfl (fun _ => ?_) (fun h => absurd h cq_eq_0_0)
      refine lv_iload_n hx hb (oc_27 135 (aq_6 shX12_count_129)) rfl (lvA1 hl) ?_
      refine lv_bipush (v := 20) hx hb (oc_16 136 (aq_7 shX12_count_129) sgb_20) kbc_20 ?_
      refine lv_bipush (v := 19) hx hb (oc_16 138 (aq_9 shX12_count_129) sgb_19) kbc_19 ?_
      refine lv_aload_n hx hb (oc_42 140 (aq_11 shX12_count_129)) rfl (lvA0 hl) ?_
      refine gM_204 S hK hP (v := .int (nI (cn 1))) rfl (oc_180 141 (aq_12 shX12_count_129) uw_0_204) ?_
      refine lv_iadd hx hb (oc_96 144 (aq_15 shX12_count_129)) ?_
      refine lv_topi (fun y_7 ey_7 => ?_)
      obtain rfl : y_7 = (nI (19 + (cn 1))) := ey_7.trans (nI_add 19 (cn 1))
      refine vp_callSi (runS_r (As := [.int v0, .int 20, .int (nI (19 + (cn 1)))]) (rest := []) S (q_in l D cI cB cZ v0 20 (nI (19 + (cn 1))) ) kS_RX12_214 hK hP [] rfl ⟨Nat.le_of_ble_eq_true rfl, Nat.le_of_ble_eq_true rfl⟩ ⟨Nat.le_of_ble_eq_true rfl, Nat.le_of_ble_eq_true rfl⟩ rfl hl.1 rfl (Nat.le_of_ble_eq_true rfl) (oc_184 145 (aq_16 shX12_count_129) uw_0_214)) (fun r_8 h_9 => ?_)
      have : (nI (19 + (cn 1))).toInt = (((19 + (cn 1)) : Nat) : Int) := nI_toInt (by (first | omega | (have zz0 := Hid.u hi_cn; omega)))
      rcases h_9 with ⟨rfl, h_9⟩ | ⟨rfl, h_9⟩
      ·
        have h_9 : 20 ≤ v0.toInt ∧ v0.toInt ≤ (nI (19 + (cn 1))).toInt := h_9
        refine lv_if_eq (tgt := 161) hx hb dX12_count_148 rfl (fun h => absurd h cq_eq_1_0) (fun _ => ?_)
        obtain ⟨d0, hd0, rfl⟩ := nI_of (x := v0) (fun q => by have := Int32.lt_iff_toInt_lt.mp q; have e : (0 : Int32).toInt = 0 := rfl; (first | omega | (have zz0 := Hid.u hi_cn; omega)))
        have td0 : (nI d0).toInt = (d0 : Int) := nI_toInt hd0
        have zd0 : (nI d0).toInt.toNat = d0 := by (first | omega | (have zz0 := Hid.u hi_cn; omega))
        refine lv_aload_n hx hb (oc_42 151 (aq_22 shX12_count_129)) rfl (lvA0 hl) ?_
        refine gM_22 S hK hP (v := .ref (g 7)) rfl (oc_180 152 (aq_23 shX12_count_129) uw_0_22) ?_
        refine lv_iload_n hx hb (oc_27 155 shX12_count_155) rfl (lvA1 hl) ?_
        refine lv_bipush (v := 20) hx hb (oc_16 156 (aq_1 shX12_count_155) sgb_20) kbc_20 ?_
        refine lv_isub hx hb (oc_100 158 (aq_3 shX12_count_155)) ?_
        refine lv_topi (fun y_10 ey_10 => ?_)
        obtain rfl : y_10 = (nI (d0 - 20)) := ey_10.trans (nI_sub (b := 20) (by (first | omega | (have zz0 := Hid.u hi_cn; omega))))
        have kb_2 : (d0 - 20) < 10 := by (first | omega | (have zz0 := Hid.u hi_cn; omega))
        have b_11 := hI.e7 (d0 - 20) (by (first | omega | (have zz0 := Hid.u hi_cn; omega)))
        refine ldM_7 hx hb hK hP (x := ((Fn 7) (d0 - 20))) (vp_in_nI kb_2 (ltb rfl)) (nI_clamp (Nat.lt_trans kb_2 (ltb rfl))) rfl (oc_46 159 (aq_4 shX12_count_155)) ?_
        exact W.iret (v := ((Fn 7) (d0 - 20))) hx hb hr (fun t ht hW => ⟨((Fn 7) (d0 - 20)), rfl, trivial, ht⟩) (fun _ h => absurd h List.not_mem_nil) (oc_172 160 (aq_5 shX12_count_155))
      ·
        have h_9 : ¬ (20 ≤ v0.toInt ∧ v0.toInt ≤ (nI (19 + (cn 1))).toInt) := h_9
        refine lv_if_eq (tgt := 161) hx hb dX12_count_148 rfl (fun _ => ?_) (fun h => absurd h cq_eq_0_0)
        refine lv_iload_n hx hb (oc_27 161 (aq_6 shX12_count_155)) rfl (lvA1 hl) ?_
        refine lv_bipush (v := 30) hx hb (oc_16 162 (aq_7 shX12_count_155) sgb_30) kbc_30 ?_
        refine lv_bipush (v := 29) hx hb (oc_16 164 (aq_9 shX12_count_155) sgb_29) kbc_29 ?_
        refine lv_aload_n hx hb (oc_42 166 (aq_11 shX12_count_155)) rfl (lvA0 hl) ?_
        refine gM_204 S hK hP (v := .int (nI (cn 1))) rfl (oc_180 167 (aq_12 shX12_count_155) uw_0_204) ?_
        refine lv_iadd hx hb (oc_96 170 (aq_15 shX12_count_155)) ?_
        refine lv_topi (fun y_12 ey_12 => ?_)
        obtain rfl : y_12 = (nI (29 + (cn 1))) := ey_12.trans (nI_add 29 (cn 1))
        refine vp_callSi (runS_r (As := [.int v0, .int 30, .int (nI (29 + (cn 1)))]) (rest := []) S (q_in l D cI cB cZ v0 30 (nI (29 + (cn 1))) ) kS_RX12_214 hK hP [] rfl ⟨Nat.le_of_ble_eq_true rfl, Nat.le_of_ble_eq_true rfl⟩ ⟨Nat.le_of_ble_eq_true rfl, Nat.le_of_ble_eq_true rfl⟩ rfl hl.1 rfl (Nat.le_of_ble_eq_true rfl) (oc_184 171 (aq_16 shX12_count_155) uw_0_214)) (fun r_13 h_14 => ?_)
        have : (nI (29 + (cn 1))).toInt = (((29 + (cn 1)) : Nat) : Int) := nI_toInt (by (first | omega | (have zz0 := Hid.u hi_cn; omega)))
        rcases h_14 with ⟨rfl, h_14⟩ | ⟨rfl, h_14⟩
        ·
          have h_14 : 30 ≤ v0.toInt ∧ v0.toInt ≤ (nI (29 + (cn 1))).toInt := h_14
          refine lv_if_eq (tgt := 187) hx hb dX12_count_174 rfl (fun h => absurd h cq_eq_1_0) (fun _ => ?_)
          obtain ⟨d0, hd0, rfl⟩ := nI_of (x := v0) (fun q => by have := Int32.lt_iff_toInt_lt.mp q; have e : (0 : Int32).toInt = 0 := rfl; (first | omega | (have zz0 := Hid.u hi_cn; omega)))
          have td0 : (nI d0).toInt = (d0 : Int) := nI_toInt hd0
          have zd0 : (nI d0).toInt.toNat = d0 := by (first | omega | (have zz0 := Hid.u hi_cn; omega))
          refine lv_aload_n hx hb (oc_42 177 (aq_22 shX12_count_155)) rfl (lvA0 hl) ?_
          refine gM_95 S hK hP (v := .ref (g 40)) rfl (oc_180 178 (aq_23 shX12_count_155) uw_0_95) ?_
          refine lv_iload_n hx hb (oc_27 181 shX12_count_181) rfl (lvA1 hl) ?_
          refine lv_bipush (v := 30) hx hb (oc_16 182 (aq_1 shX12_count_181) sgb_30) kbc_30 ?_
          refine lv_isub hx hb (oc_100 184 (aq_3 shX12_count_181)) ?_
          refine lv_topi (fun y_15 ey_15 => ?_)
          obtain rfl : y_15 = (nI (d0 - 30)) := ey_15.trans (nI_sub (b := 30) (by (first | omega | (have zz0 := Hid.u hi_cn; omega))))
          have kb_3 : (d0 - 30) < 10 := by (first | omega | (have zz0 := Hid.u hi_cn; omega))
          refine ldM_40 hx hb hK hP (x := ((Fn 40) (d0 - 30))) (vp_in_nI kb_3 (ltb rfl)) (nI_clamp (Nat.lt_trans kb_3 (ltb rfl))) rfl (oc_46 185 (aq_4 shX12_count_181)) ?_
          exact W.iret (v := ((Fn 40) (d0 - 30))) hx hb hr (fun t ht hW => ⟨((Fn 40) (d0 - 30)), rfl, trivial, ht⟩) (fun _ h => absurd h List.not_mem_nil) (oc_172 186 (aq_5 shX12_count_181))
        ·
          have h_14 : ¬ (30 ≤ v0.toInt ∧ v0.toInt ≤ (nI (29 + (cn 1))).toInt) := h_14
          refine lv_if_eq (tgt := 187) hx hb dX12_count_174 rfl (fun _ => ?_) (fun h => absurd h cq_eq_0_0)
          refine lv_iload_n hx hb (oc_27 187 (aq_6 shX12_count_181)) rfl (lvA1 hl) ?_
          refine lv_bipush (v := 40) hx hb (oc_16 188 (aq_7 shX12_count_181) sgb_40) kbc_40 ?_
          refine lv_bipush (v := 39) hx hb (oc_16 190 (aq_9 shX12_count_181) sgb_39) kbc_39 ?_
          refine lv_aload_n hx hb (oc_42 192 (aq_11 shX12_count_181)) rfl (lvA0 hl) ?_
          refine gM_435 S hK hP (v := .int (nI (cn 62))) rfl (oc_180 193 (aq_12 shX12_count_181) uw_1_179) ?_
          refine lv_iadd hx hb (oc_96 196 (aq_15 shX12_count_181)) ?_
          refine lv_topi (fun y_16 ey_16 => ?_)
          obtain rfl : y_16 = (nI (39 + (cn 62))) := ey_16.trans (nI_add 39 (cn 62))
          refine vp_callSi (runS_r (As := [.int v0, .int 40, .int (nI (39 + (cn 62)))]) (rest := []) S (q_in l D cI cB cZ v0 40 (nI (39 + (cn 62))) ) kS_RX12_214 hK hP [] rfl ⟨Nat.le_of_ble_eq_true rfl, Nat.le_of_ble_eq_true rfl⟩ ⟨Nat.le_of_ble_eq_true rfl, Nat.le_of_ble_eq_true rfl⟩ rfl hl.1 rfl (Nat.le_of_ble_eq_true rfl) (oc_184 197 (aq_16 shX12_count_181) uw_0_214)) (fun r_17 h_18 => ?_)
          have : (nI (39 + (cn 62))).toInt = (((39 + (cn 62)) : Nat) : Int) := nI_toInt (by (first | omega | (have zz0 := Hid.u hi_cn; omega)))
          rcases h_18 with ⟨rfl, h_18⟩ | ⟨rfl, h_18⟩
          ·
            have h_18 : 40 ≤ v0.toInt ∧ v0.toInt ≤ (nI (39 + (cn 62))).toInt := h_18
            refine lv_if_eq (tgt := 213) hx hb dX12_count_200 rfl (fun h => absurd h cq_eq_1_0) (fun _ => ?_)
            obtain ⟨d0, hd0, rfl⟩ := nI_of (x := v0) (fun q => by have := Int32.lt_iff_toInt_lt.mp q; have e : (0 : Int32).toInt = 0 := rfl; (first | omega | (have zz0 := Hid.u hi_cn; omega)))
            have td0 : (nI d0).toInt = (d0 : Int) := nI_toInt hd0
            have zd0 : (nI d0).toInt.toNat = d0 := by (first | omega | (have zz0 := Hid.u hi_cn; omega))
            refine lv_aload_n hx hb (oc_42 203 (aq_22 shX12_count_181)) rfl (lvA0 hl) ?_
            refine gM_141 S hK hP (v := .ref (g 65)) rfl (oc_180 204 (aq_23 shX12_count_181) uw_0_141) ?_
            refine lv_iload_n hx hb (oc_27 207 shX12_count_207) rfl (lvA1 hl) ?_
            refine lv_bipush (v := 40) hx hb (oc_16 208 (aq_1 shX12_count_207) sgb_40) kbc_40 ?_
            refine lv_isub hx hb (oc_100 210 (aq_3 shX12_count_207)) ?_
            refine lv_topi (fun y_19 ey_19 => ?_)
            obtain rfl : y_19 = (nI (d0 - 40)) := ey_19.trans (nI_sub (b := 40) (by (first | omega | (have zz0 := Hid.u hi_cn; omega))))
            have kb_4 : (d0 - 40) < 10 := by (first | omega | (have zz0 := Hid.u hi_cn; omega))
            refine ldM_65 hx hb hK hP (x := ((Fn 65) (d0 - 40))) (vp_in_nI kb_4 (ltb rfl)) (nI_clamp (Nat.lt_trans kb_4 (ltb rfl))) rfl (oc_46 211 (aq_4 shX12_count_207)) ?_
            exact W.iret (v := ((Fn 65) (d0 - 40))) hx hb hr (fun t ht hW => ⟨((Fn 65) (d0 - 40)), rfl, trivial, ht⟩) (fun _ h => absurd h List.not_mem_nil) (oc_172 212 (aq_5 shX12_count_207))
          ·
            have h_18 : ¬ (40 ≤ v0.toInt ∧ v0.toInt ≤ (nI (39 + (cn 62))).toInt) := h_18
            refine lv_if_eq (tgt := 213) hx hb dX12_count_200 rfl (fun _ => ?_) (fun h => absurd h cq_eq_0_0)
            refine lv_iload_n hx hb (oc_27 213 (aq_6 shX12_count_207)) rfl (lvA1 hl) ?_
            refine lv_bipush (v := 50) hx hb (oc_16 214 (aq_7 shX12_count_207) sgb_50) kbc_50 ?_
            refine lv_bipush (v := 49) hx hb (oc_16 216 (aq_9 shX12_count_207) sgb_49) kbc_49 ?_
            refine lv_aload_n hx hb (oc_42 218 (aq_11 shX12_count_207)) rfl (lvA0 hl) ?_
            refine gM_447 S hK hP (v := .int (nI (cn 63))) rfl (oc_180 219 (aq_12 shX12_count_207) uw_1_191) ?_
            refine lv_iadd hx hb (oc_96 222 (aq_15 shX12_count_207)) ?_
            refine lv_topi (fun y_20 ey_20 => ?_)
            obtain rfl : y_20 = (nI (49 + (cn 63))) := ey_20.trans (nI_add 49 (cn 63))
            refine vp_callSi (runS_r (As := [.int v0, .int 50, .int (nI (49 + (cn 63)))]) (rest := []) S (q_in l D cI cB cZ v0 50 (nI (49 + (cn 63))) ) kS_RX12_214 hK hP [] rfl ⟨Nat.le_of_ble_eq_true rfl, Nat.le_of_ble_eq_true rfl⟩ ⟨Nat.le_of_ble_eq_true rfl, Nat.le_of_ble_eq_true rfl⟩ rfl hl.1 rfl (Nat.le_of_ble_eq_true rfl) (oc_184 223 (aq_16 shX12_count_207) uw_0_214)) (fun r_21 h_22 => ?_)
            have : (nI (49 + (cn 63))).toInt = (((49 + (cn 63)) : Nat) : Int) := nI_toInt (by (first | omega | (have zz0 := Hid.u hi_cn; omega)))
            rcases h_22 with ⟨rfl, h_22⟩ | ⟨rfl, h_22⟩
            ·
              have h_22 : 50 ≤ v0.toInt ∧ v0.toInt ≤ (nI (49 + (cn 63))).toInt := h_22
              refine lv_if_eq (tgt := 241) hx hb dX12_count_226 rfl (fun h => absurd h cq_eq_1_0) (fun _ => ?_)
              obtain ⟨d0, hd0, rfl⟩ := nI_of (x := v0) (fun q => by have := Int32.lt_iff_toInt_lt.mp q; have e : (0 : Int32).toInt = 0 := rfl; (first | omega | (have zz0 := Hid.u hi_cn; omega)))
              have td0 : (nI d0).toInt = (d0 : Int) := nI_toInt hd0
              have zd0 : (nI d0).toInt.toNat = d0 := by (first | omega | (have zz0 := Hid.u hi_cn; omega))
              refine lv_aload_n hx hb (oc_42 229 (aq_22 shX12_count_207)) rfl (lvA0 hl) ?_
              refine gM_144 S hK hP (v := .ref (g 66)) rfl (oc_180 230 (aq_23 shX12_count_207) uw_0_144) ?_
              refine lv_iload_n hx hb (oc_27 233 shX12_count_233) rfl (lvA1 hl) ?_
              refine lv_bipush (v := 50) hx hb (oc_16 234 (aq_1 shX12_count_233) sgb_50) kbc_50 ?_
              refine lv_isub hx hb (oc_100 236 (aq_3 shX12_count_233)) ?_
              refine lv_topi (fun y_23 ey_23 => ?_)
              obtain rfl : y_23 = (nI (d0 - 50)) := ey_23.trans (nI_sub (b := 50) (by (first | omega | (have zz0 := Hid.u hi_cn; omega))))
              have kb_5 : (d0 - 50) < 40 := by (first | omega | (have zz0 := Hid.u hi_cn; omega))
              obtain ⟨a_24, ha_24, ea_24⟩ := hI.e66 (d0 - 50) (by (first | omega | (have zz0 := Hid.u hi_cn; omega)))
              refine ldM_66 hx hb hK hP (x := (nI a_24)) (vp_in_nI kb_5 (ltb rfl)) (nI_clamp (Nat.lt_trans kb_5 (ltb rfl))) ea_24 (oc_46 237 (aq_4 shX12_count_233)) ?_
              refine lv_goto (tgt := 242) hx hb (oc_167 238 (aq_5 shX12_count_233) sgw_0_4) rfl ?_
              exact W.iret (v := (nI a_24)) hx hb hr (fun t ht hW => ⟨(nI a_24), rfl, trivial, ht⟩) (fun _ h => absurd h List.not_mem_nil) dX12_count_242
            ·
              have h_22 : ¬ (50 ≤ v0.toInt ∧ v0.toInt ≤ (nI (49 + (cn 63))).toInt) := h_22
              refine lv_if_eq (tgt := 241) hx hb dX12_count_226 rfl (fun _ => ?_) (fun h => absurd h cq_eq_0_0)
              refine lv_iconst (v := (-1)) hx hb (oc_2 241 (aq_8 shX12_count_233)) kic_m1 ?_
              exact W.iret (v := (-1)) hx hb hr (fun t ht hW => ⟨(-1), rfl, trivial, ht⟩) (fun _ h => absurd h List.not_mem_nil) dX12_count_242
  ·
    refine lv_tableOut (tgt := 109) hx hb dX12_count_1 (Or.inr c_1) (by decide) ?_
    refine lv_iload_n hx hb (oc_27 109 (aq_5 shX12_count_104)) rfl (lvA1 hl) ?_
    refine lv_bipush (v := 10) hx hb (oc_16 110 (aq_6 shX12_count_104) sgb_10) kbc_10 ?_
    refine lv_bipush (v := 9) hx hb (oc_16 112 (aq_8 shX12_count_104) sgb_9) kbc_9 ?_
    refine lv_aload_n hx hb (oc_42 114 (aq_10 shX12_count_104)) rfl (lvA0 hl) ?_
    refine gM_204 S hK hP (v := .int (nI (cn 1))) rfl (oc_180 115 (aq_11 shX12_count_104) uw_0_204) ?_
    refine lv_iadd hx hb (oc_96 118 (aq_14 shX12_count_104)) ?_
    refine lv_topi (fun y_25 ey_25 => ?_)
    obtain rfl : y_25 = (nI (9 + (cn 1))) := ey_25.trans (nI_add 9 (cn 1))
    refine vp_callSi (runS_r (As := [.int v0, .int 10, .int (nI (9 + (cn 1)))]) (rest := []) S (q_in l D cI cB cZ v0 10 (nI (9 + (cn 1))) ) kS_RX12_214 hK hP [] rfl ⟨Nat.le_of_ble_eq_true rfl, Nat.le_of_ble_eq_true rfl⟩ ⟨Nat.le_of_ble_eq_true rfl, Nat.le_of_ble_eq_true rfl⟩ rfl hl.1 rfl (Nat.le_of_ble_eq_true rfl) (oc_184 119 (aq_15 shX12_count_104) uw_0_214)) (fun r_26 h_27 => ?_)
    have : (nI (9 + (cn 1))).toInt = (((9 + (cn 1)) : Nat) : Int) := nI_toInt (by (first | omega | (have zz0 := Hid.u hi_cn; omega)))
    rcases h_27 with ⟨rfl, h_27⟩ | ⟨rfl, h_27⟩
    ·
      have h_27 : 10 ≤ v0.toInt ∧ v0.toInt ≤ (nI (9 + (cn 1))).toInt := h_27
      refine lv_if_eq (tgt := 135) hx hb dX12_count_122 rfl (fun h => absurd h cq_eq_1_0) (fun _ => ?_)
      obtain ⟨d0, hd0, rfl⟩ := nI_of (x := v0) (fun q => by have := Int32.lt_iff_toInt_lt.mp q; have e : (0 : Int32).toInt = 0 := rfl; (first | omega | (have zz0 := Hid.u hi_cn; omega)))
      have td0 : (nI d0).toInt = (d0 : Int) := nI_toInt hd0
      have zd0 : (nI d0).toInt.toNat = d0 := by (first | omega | (have zz0 := Hid.u hi_cn; omega))
      refine lv_aload_n hx hb (oc_42 125 (aq_21 shX12_count_104)) rfl (lvA0 hl) ?_
      refine gM_74 S hK hP (v := .ref (g 33)) rfl (oc_180 126 (aq_22 shX12_count_104) uw_0_74) ?_
      refine lv_iload_n hx hb (oc_27 129 shX12_count_129) rfl (lvA1 hl) ?_
      refine lv_bipush (v := 10) hx hb (oc_16 130 (aq_1 shX12_count_129) sgb_10) kbc_10 ?_
      refine lv_isub hx hb (oc_100 132 (aq_3 shX12_count_129)) ?_
      refine lv_topi (fun y_28 ey_28 => ?_)
      obtain rfl : y_28 = (nI (d0 - 10)) := ey_28.trans (nI_sub (b := 10) (by (first | omega | (have zz0 := Hid.u hi_cn; omega))))
      have kb_6 : (d0 - 10) < 11 := by (first | omega | (have zz0 := Hid.u hi_cn; omega))
      obtain ⟨a_29, ha_29, ea_29⟩ := hI.e33 (d0 - 10) (by (first | omega | (have zz0 := Hid.u hi_cn; omega)))
      refine ldM_33 hx hb hK hP (x := (nI a_29)) (vp_in_nI kb_6 (ltb rfl)) (nI_clamp (Nat.lt_trans kb_6 (ltb rfl))) ea_29 (oc_46 133 (aq_4 shX12_count_129)) ?_
      exact W.iret (v := (nI a_29)) hx hb hr (fun t ht hW => ⟨(nI a_29), rfl, trivial, ht⟩) (fun _ h => absurd h List.not_mem_nil) (oc_172 134 (aq_5 shX12_count_129))
    ·
      have h_27 : ¬ (10 ≤ v0.toInt ∧ v0.toInt ≤ (nI (9 + (cn 1))).toInt) := h_27
      refine lv_if_eq (tgt := 135) hx hb dX12_count_122 rfl (fun _ => ?_) (fun h => absurd h cq_eq_0_0)
      refine lv_iload_n hx hb (oc_27 135 (aq_6 shX12_count_129)) rfl (lvA1 hl) ?_
      refine lv_bipush (v := 20) hx hb (oc_16 136 (aq_7 shX12_count_129) sgb_20) kbc_20 ?_
      refine lv_bipush (v := 19) hx hb (oc_16 138 (aq_9 shX12_count_129) sgb_19) kbc_19 ?_
      refine lv_aload_n hx hb (oc_42 140 (aq_11 shX12_count_129)) rfl (lvA0 hl) ?_
      refine gM_204 S hK hP (v := .int (nI (cn 1))) rfl (oc_180 141 (aq_12 shX12_count_129) uw_0_204) ?_
      refine lv_iadd hx hb (oc_96 144 (aq_15 shX12_count_129)) ?_
      refine lv_topi (fun y_30 ey_30 => ?_)
      obtain rfl : y_30 = (nI (19 + (cn 1))) := ey_30.trans (nI_add 19 (cn 1))
      refine vp_callSi (runS_r (As := [.int v0, .int 20, .int (nI (19 + (cn 1)))]) (rest := []) S (q_in l D cI cB cZ v0 20 (nI (19 + (cn 1))) ) kS_RX12_214 hK hP [] rfl ⟨Nat.le_of_ble_eq_true rfl, Nat.le_of_ble_eq_true rfl⟩ ⟨Nat.le_of_ble_eq_true rfl, Nat.le_of_ble_eq_true rfl⟩ rfl hl.1 rfl (Nat.le_of_ble_eq_true rfl) (oc_184 145 (aq_16 shX12_count_129) uw_0_214)) (fun r_31 h_32 => ?_)
      have : (nI (19 + (cn 1))).toInt = (((19 + (cn 1)) : Nat) : Int) := nI_toInt (by (first | omega | (have zz0 := Hid.u hi_cn; omega)))
      rcases h_32 with ⟨rfl, h_32⟩ | ⟨rfl, h_32⟩
      ·
        have h_32 : 20 ≤ v0.toInt ∧ v0.toInt ≤ (nI (19 + (cn 1))).toInt := h_32
        refine lv_if_eq (tgt := 161) hx hb dX12_count_148 rfl (fun h => absurd h cq_eq_1_0) (fun _ => ?_)
        obtain ⟨d0, hd0, rfl⟩ := nI_of (x := v0) (fun q => by have := Int32.lt_iff_toInt_lt.mp q; have e : (0 : Int32).toInt = 0 := rfl; (first | omega | (have zz0 := Hid.u hi_cn; omega)))
        have td0 : (nI d0).toInt = (d0 : Int) := nI_toInt hd0
        have zd0 : (nI d0).toInt.toNat = d0 := by (first | omega | (have zz0 := Hid.u hi_cn; omega))
        refine lv_aload_n hx hb (oc_42 151 (aq_22 shX12_count_129)) rfl (lvA0 hl) ?_
        refine gM_22 S hK hP (v := .ref (g 7)) rfl (oc_180 152 (aq_23 shX12_count_129) uw_0_22) ?_
        refine lv_iload_n hx hb (oc_27 155 shX12_count_155) rfl (lvA1 hl) ?_
        refine lv_bipush (v := 20) hx hb (oc_16 156 (aq_1 shX12_count_155) sgb_20) kbc_20 ?_
        refine lv_isub hx hb (oc_100 158 (aq_3 shX12_count_155)) ?_
        refine lv_topi (fun y_33 ey_33 => ?_)
        obtain rfl : y_33 = (nI (d0 - 20)) := ey_33.trans (nI_sub (b := 20) (by (first | omega | (have zz0 := Hid.u hi_cn; omega))))
        have kb_7 : (d0 - 20) < 10 := by (first | omega | (have zz0 := Hid.u hi_cn; omega))
        have b_34 := hI.e7 (d0 - 20) (by (first | omega | (have zz0 := Hid.u hi_cn; omega)))
        refine ldM_7 hx hb hK hP (x := ((Fn 7) (d0 - 20))) (vp_in_nI kb_7 (ltb rfl)) (nI_clamp (Nat.lt_trans kb_7 (ltb rfl))) rfl (oc_46 159 (aq_4 shX12_count_155)) ?_
        exact W.iret (v := ((Fn 7) (d0 - 20))) hx hb hr (fun t ht hW => ⟨((Fn 7) (d0 - 20)), rfl, trivial, ht⟩) (fun _ h => absurd h List.not_mem_nil) (oc_172 160 (aq_5 shX12_count_155))
      ·
        have h_32 : ¬ (20 ≤ v0.toInt ∧ v0.toInt ≤ (nI (19 + (cn 1))).toInt) := h_32
        refine lv_if_eq (tgt := 161) hx hb dX12_count_148 rfl (fun _ => ?_) (fun h => absurd h cq_eq_0_0)
        refine lv_iload_n hx hb (oc_27 161 (aq_6 shX12_count_155)) rfl (lvA1 hl) ?_
        refine lv_bipush (v := 30) hx hb (oc_16 162 (aq_7 shX12_count_155) sgb_30) kbc_30 ?_
        refine lv_bipush (v := 29) hx hb (oc_16 164 (aq_9 shX12_count_155) sgb_29) kbc_29 ?_
        refine lv_aload_n hx hb (oc_42 166 (aq_11 shX12_count_155)) rfl (lvA0 hl) ?_
        refine gM_204 S hK hP (v := .int (nI (cn 1))) rfl (oc_180 167 (aq_12 shX12_count_155) uw_0_204) ?_
        refine lv_iadd hx hb (oc_96 170 (aq_15 shX12_count_155)) ?_
        refine lv_topi (fun y_35 ey_35 => ?_)
        obtain rfl : y_35 = (nI (29 + (cn 1))) := ey_35.trans (nI_add 29 (cn 1))
        refine vp_callSi (runS_r (As := [.int v0, .int 30, .int (nI (29 + (cn 1)))]) (rest := []) S (q_in l D cI cB cZ v0 30 (nI (29 + (cn 1))) ) kS_RX12_214 hK hP [] rfl ⟨Nat.le_of_ble_eq_true rfl, Nat.le_of_ble_eq_true rfl⟩ ⟨Nat.le_of_ble_eq_true rfl, Nat.le_of_ble_eq_true rfl⟩ rfl hl.1 rfl (Nat.le_of_ble_eq_true rfl) (oc_184 171 (aq_16 shX12_count_155) uw_0_214)) (fun r_36 h_37 => ?_)
        have : (nI (29 + (cn 1))).toInt = (((29 + (cn 1)) : Nat) : Int) := nI_toInt (by (first | omega | (have zz0 := Hid.u hi_cn; omega)))
        rcases h_37 with ⟨rfl, h_37⟩ | ⟨rfl, h_37⟩
        ·
          have h_37 : 30 ≤ v0.toInt ∧ v0.toInt ≤ (nI (29 + (cn 1))).toInt := h_37
          refine lv_if_eq (tgt := 187) hx hb dX12_count_174 rfl (fun h => absurd h cq_eq_1_0) (fun _ => ?_)
          obtain ⟨d0, hd0, rfl⟩ := nI_of (x := v0) (fun q => by have := Int32.lt_iff_toInt_lt.mp q; have e : (0 : Int32).toInt = 0 := rfl; (first | omega | (have zz0 := Hid.u hi_cn; omega)))
          have td0 : (nI d0).toInt = (d0 : Int) := nI_toInt hd0
          have zd0 : (nI d0).toInt.toNat = d0 := by (first | omega | (have zz0 := Hid.u hi_cn; omega))
          refine lv_aload_n hx hb (oc_42 177 (aq_22 shX12_count_155)) rfl (lvA0 hl) ?_
          refine gM_95 S hK hP (v := .ref (g 40)) rfl (oc_180 178 (aq_23 shX12_count_155) uw_0_95) ?_
          refine lv_iload_n hx hb (oc_27 181 shX12_count_181) rfl (lvA1 hl) ?_
          refine lv_bipush (v := 30) hx hb (oc_16 182 (aq_1 shX12_count_181) sgb_30) kbc_30 ?_
          refine lv_isub hx hb (oc_100 184 (aq_3 shX12_count_181)) ?_
          refine lv_topi (fun y_38 ey_38 => ?_)
          obtain rfl : y_38 = (nI (d0 - 30)) := ey_38.trans (nI_sub (b := 30) (by (first | omega | (have zz0 := Hid.u hi_cn; omega))))
          have kb_8 : (d0 - 30) < 10 := by (first | omega | (have zz0 := Hid.u hi_cn; omega))
          refine ldM_40 hx hb hK hP (x := ((Fn 40) (d0 - 30))) (vp_in_nI kb_8 (ltb rfl)) (nI_clamp (Nat.lt_trans kb_8 (ltb rfl))) rfl (oc_46 185 (aq_4 shX12_count_181)) ?_
          exact W.iret (v := ((Fn 40) (d0 - 30))) hx hb hr (fun t ht hW => ⟨((Fn 40) (d0 - 30)), rfl, trivial, ht⟩) (fun _ h => absurd h List.not_mem_nil) (oc_172 186 (aq_5 shX12_count_181))
        ·
          have h_37 : ¬ (30 ≤ v0.toInt ∧ v0.toInt ≤ (nI (29 + (cn 1))).toInt) := h_37
          refine lv_if_eq (tgt := 187) hx hb dX12_count_174 rfl (fun _ => ?_) (fun h => absurd h cq_eq_0_0)
          refine lv_iload_n hx hb (oc_27 187 (aq_6 shX12_count_181)) rfl (lvA1 hl) ?_
          refine lv_bipush (v := 40) hx hb (oc_16 188 (aq_7 shX12_count_181) sgb_40) kbc_40 ?_
          refine lv_bipush (v := 39) hx hb (oc_16 190 (aq_9 shX12_count_181) sgb_39) kbc_39 ?_
          refine lv_aload_n hx hb (oc_42 192 (aq_11 shX12_count_181)) rfl (lvA0 hl) ?_
          refine gM_435 S hK hP (v := .int (nI (cn 62))) rfl (oc_180 193 (aq_12 shX12_count_181) uw_1_179) ?_
          refine lv_iadd hx hb (oc_96 196 (aq_15 shX12_count_181)) ?_
          refine lv_topi (fun y_39 ey_39 => ?_)
          obtain rfl : y_39 = (nI (39 + (cn 62))) := ey_39.trans (nI_add 39 (cn 62))
          refine vp_callSi (runS_r (As := [.int v0, .int 40, .int (nI (39 + (cn 62)))]) (rest := []) S (q_in l D cI cB cZ v0 40 (nI (39 + (cn 62))) ) kS_RX12_214 hK hP [] rfl ⟨Nat.le_of_ble_eq_true rfl, Nat.le_of_ble_eq_true rfl⟩ ⟨Nat.le_of_ble_eq_true rfl, Nat.le_of_ble_eq_true rfl⟩ rfl hl.1 rfl (Nat.le_of_ble_eq_true rfl) (oc_184 197 (aq_16 shX12_count_181) uw_0_214)) (fun r_40 h_41 => ?_)
          have : (nI (39 + (cn 62))).toInt = (((39 + (cn 62)) : Nat) : Int) := nI_toInt (by (first | omega | (have zz0 := Hid.u hi_cn; omega)))
          rcases h_41 with ⟨rfl, h_41⟩ | ⟨rfl, h_41⟩
          ·
            have h_41 : 40 ≤ v0.toInt ∧ v0.toInt ≤ (nI (39 + (cn 62))).toInt := h_41
            refine lv_if_eq (tgt := 213) hx hb dX12_count_200 rfl (fun h => absurd h cq_eq_1_0) (fun _ => ?_)
            obtain ⟨d0, hd0, rfl⟩ := nI_of (x := v0) (fun q => by have := Int32.lt_iff_toInt_lt.mp q; have e : (0 : Int32).toInt = 0 := rfl; (first | omega | (have zz0 := Hid.u hi_cn; omega)))
            have td0 : (nI d0).toInt = (d0 : Int) := nI_toInt hd0
            have zd0 : (nI d0).toInt.toNat = d0 := by (first | omega | (have zz0 := Hid.u hi_cn; omega))
            refine lv_aload_n hx hb (oc_42 203 (aq_22 shX12_count_181)) rfl (lvA0 hl) ?_
            refine gM_141 S hK hP (v := .ref (g 65)) rfl (oc_180 204 (aq_23 shX12_count_181) uw_0_141) ?_
            refine lv_iload_n hx hb (oc_27 207 shX12_count_207) rfl (lvA1 hl) ?_
            refine lv_bipush (v := 40) hx hb (oc_16 208 (aq_1 shX12_count_207) sgb_40) kbc_40 ?_
            refine lv_isub hx hb (oc_100 210 (aq_3 shX12_count_207)) ?_
            refine lv_topi (fun y_42 ey_42 => ?_)
            obtain rfl : y_42 = (nI (d0 - 40)) := ey_42.trans (nI_sub (b := 40) (by (first | omega | (have zz0 := Hid.u hi_cn; omega))))
            have kb_9 : (d0 - 40) < 10 := by (first | omega | (have zz0 := Hid.u hi_cn; omega))
            refine ldM_65 hx hb hK hP (x := ((Fn 65) (d0 - 40))) (vp_in_nI kb_9 (ltb rfl)) (nI_clamp (Nat.lt_trans kb_9 (ltb rfl))) rfl (oc_46 211 (aq_4 shX12_count_207)) ?_
            exact W.iret (v := ((Fn 65) (d0 - 40))) hx hb hr (fun t ht hW => ⟨((Fn 65) (d0 - 40)), rfl, trivial, ht⟩) (fun _ h => absurd h List.not_mem_nil) (oc_172 212 (aq_5 shX12_count_207))
          ·
            have h_41 : ¬ (40 ≤ v0.toInt ∧ v0.toInt ≤ (nI (39 + (cn 62))).toInt) := h_41
            refine lv_if_eq (tgt := 213) hx hb dX12_count_200 rfl (fun _ => ?_) (fun h => absurd h cq_eq_0_0)
            refine lv_iload_n hx hb (oc_27 213 (aq_6 shX12_count_207)) rfl (lvA1 hl) ?_
            refine lv_bipush (v := 50) hx hb (oc_16 214 (aq_7 shX12_count_207) sgb_50) kbc_50 ?_
            refine lv_bipush (v := 49) hx hb (oc_16 216 (aq_9 shX12_count_207) sgb_49) kbc_49 ?_
            refine lv_aload_n hx hb (oc_42 218 (aq_11 shX12_count_207)) rfl (lvA0 hl) ?_
            refine gM_447 S hK hP (v := .int (nI (cn 63))) rfl (oc_180 219 (aq_12 shX12_count_207) uw_1_191) ?_
            refine lv_iadd hx hb (oc_96 222 (aq_15 shX12_count_207)) ?_
            refine lv_topi (fun y_43 ey_43 => ?_)
            obtain rfl : y_43 = (nI (49 + (cn 63))) := ey_43.trans (nI_add 49 (cn 63))
            refine vp_callSi (runS_r (As := [.int v0, .int 50, .int (nI (49 + (cn 63)))]) (rest := []) S (q_in l D cI cB cZ v0 50 (nI (49 + (cn 63))) ) kS_RX12_214 hK hP [] rfl ⟨Nat.le_of_ble_eq_true rfl, Nat.le_of_ble_eq_true rfl⟩ ⟨Nat.le_of_ble_eq_true rfl, Nat.le_of_ble_eq_true rfl⟩ rfl hl.1 rfl (Nat.le_of_ble_eq_true rfl) (oc_184 223 (aq_16 shX12_count_207) uw_0_214)) (fun r_44 h_45 => ?_)
            have : (nI (49 + (cn 63))).toInt = (((49 + (cn 63)) : Nat) : Int) := nI_toInt (by (first | omega | (have zz0 := Hid.u hi_cn; omega)))
            rcases h_45 with ⟨rfl, h_45⟩ | ⟨rfl, h_45⟩
            ·
              have h_45 : 50 ≤ v0.toInt ∧ v0.toInt ≤ (nI (49 + (cn 63))).toInt := h_45
              refine lv_if_eq (tgt := 241) hx hb dX12_count_226 rfl (fun h => absurd h cq_eq_1_0) (fun _ => ?_)
              obtain ⟨d0, hd0, rfl⟩ := nI_of (x := v0) (fun q => by have := Int32.lt_iff_toInt_lt.mp q; have e : (0 : Int32).toInt = 0 := rfl; (first | omega | (have zz0 := Hid.u hi_cn; omega)))
              have td0 : (nI d0).toInt = (d0 : Int) := nI_toInt hd0
              have zd0 : (nI d0).toInt.toNat = d0 := by (first | omega | (have zz0 := Hid.u hi_cn; omega))
              refine lv_aload_n hx hb (oc_42 229 (aq_22 shX12_count_207)) rfl (lvA0 hl) ?_
              refine gM_144 S hK hP (v := .ref (g 66)) rfl (oc_180 230 (aq_23 shX12_count_207) uw_0_144) ?_
              refine lv_iload_n hx hb (oc_27 233 shX12_count_233) rfl (lvA1 hl) ?_
              refine lv_bipush (v := 50) hx hb (oc_16 234 (aq_1 shX12_count_233) sgb_50) kbc_50 ?_
              refine lv_isub hx hb (oc_100 236 (aq_3 shX12_count_233)) ?_
              refine lv_topi (fun y_46 ey_46 => ?_)
              obtain rfl : y_46 = (nI (d0 - 50)) := ey_46.trans (nI_sub (b := 50) (by (first | omega | (have zz0 := Hid.u hi_cn; omega))))
              have kb_10 : (d0 - 50) < 40 := by (first | omega | (have zz0 := Hid.u hi_cn; omega))
              obtain ⟨a_47, ha_47, ea_47⟩ := hI.e66 (d0 - 50) (by (first | omega | (have zz0 := Hid.u hi_cn; omega)))
              refine ldM_66 hx hb hK hP (x := (nI a_47)) (vp_in_nI kb_10 (ltb rfl)) (nI_clamp (Nat.lt_trans kb_10 (ltb rfl))) ea_47 (oc_46 237 (aq_4 shX12_count_233)) ?_
              refine lv_goto (tgt := 242) hx hb (oc_167 238 (aq_5 shX12_count_233) sgw_0_4) rfl ?_
              exact W.iret (v := (nI a_47)) hx hb hr (fun t ht hW => ⟨(nI a_47), rfl, trivial, ht⟩) (fun _ h => absurd h List.not_mem_nil) dX12_count_242
            ·
              have h_45 : ¬ (50 ≤ v0.toInt ∧ v0.toInt ≤ (nI (49 + (cn 63))).toInt) := h_45
              refine lv_if_eq (tgt := 241) hx hb dX12_count_226 rfl (fun _ => ?_) (fun h => absurd h cq_eq_0_0)
              refine lv_iconst (v := (-1)) hx hb (oc_2 241 (aq_8 shX12_count_233)) kic_m1 ?_
              exact W.iret (v := (-1)) hx hb hr (fun t ht hW => ⟨(-1), rfl, trivial, ht⟩) (fun _ h => absurd h List.not_mem_nil) dX12_count_242
  ·
    refine lv_tableIn (tgt := 56) (off := 55) hx hb dX12_count_1 (by (first | omega | (have zz0 := Hid.u hi_cn; omega))) (by (first | omega | (have zz0 := Hid.u hi_cn; omega))) (by rw [c_1]; rfl) (by decide) ?_
    refine lv_aload_n hx hb (oc_42 56 shX12_count_56) rfl (lvA0 hl) ?_
    refine gM_211 S hK hP (v := .int (nI (cn 0))) rfl (oc_180 57 (aq_1 shX12_count_56) uw_0_211) ?_
    exact W.iret (v := (nI (cn 0))) hx hb hr (fun t ht hW => ⟨(nI (cn 0)), rfl, trivial, ht⟩) (fun _ h => absurd h List.not_mem_nil) (oc_172 60 (aq_4 shX12_count_56))
  ·
    refine lv_tableIn (tgt := 61) (off := 60) hx hb dX12_count_1 (by (first | omega | (have zz0 := Hid.u hi_cn; omega))) (by (first | omega | (have zz0 := Hid.u hi_cn; omega))) (by rw [c_1]; rfl) (by decide) ?_
    refine lv_aload_n hx hb (oc_42 61 (aq_5 shX12_count_56)) rfl (lvA0 hl) ?_
    refine gM_204 S hK hP (v := .int (nI (cn 1))) rfl (oc_180 62 (aq_6 shX12_count_56) uw_0_204) ?_
    exact W.iret (v := (nI (cn 1))) hx hb hr (fun t ht hW => ⟨(nI (cn 1)), rfl, trivial, ht⟩) (fun _ h => absurd h List.not_mem_nil) (oc_172 65 (aq_9 shX12_count_56))
  ·
    refine lv_tableIn (tgt := 66) (off := 65) hx hb dX12_count_1 (by (first | omega | (have zz0 := Hid.u hi_cn; omega))) (by (first | omega | (have zz0 := Hid.u hi_cn; omega))) (by rw [c_1]; rfl) (by decide) ?_
    refine lv_aload_n hx hb (oc_42 66 (aq_10 shX12_count_56)) rfl (lvA0 hl) ?_
    refine gM_208 S hK hP (v := .int (nI (cn 2))) rfl (oc_180 67 (aq_11 shX12_count_56) uw_0_208) ?_
    exact W.iret (v := (nI (cn 2))) hx hb hr (fun t ht hW => ⟨(nI (cn 2)), rfl, trivial, ht⟩) (fun _ h => absurd h List.not_mem_nil) (oc_172 70 (aq_14 shX12_count_56))
  ·
    refine lv_tableIn (tgt := 71) (off := 70) hx hb dX12_count_1 (by (first | omega | (have zz0 := Hid.u hi_cn; omega))) (by (first | omega | (have zz0 := Hid.u hi_cn; omega))) (by rw [c_1]; rfl) (by decide) ?_
    refine lv_aload_n hx hb (oc_42 71 (aq_15 shX12_count_56)) rfl (lvA0 hl) ?_
    refine gM_226 S hK hP (v := .int (nI (cn 18))) rfl (oc_180 72 (aq_16 shX12_count_56) uw_0_226) ?_
    exact W.iret (v := (nI (cn 18))) hx hb hr (fun t ht hW => ⟨(nI (cn 18)), rfl, trivial, ht⟩) (fun _ h => absurd h List.not_mem_nil) (oc_172 75 (aq_19 shX12_count_56))
  ·
    refine lv_tableIn (tgt := 76) (off := 75) hx hb dX12_count_1 (by (first | omega | (have zz0 := Hid.u hi_cn; omega))) (by (first | omega | (have zz0 := Hid.u hi_cn; omega))) (by rw [c_1]; rfl) (by decide) ?_
    refine lv_aload_n hx hb (oc_42 76 (aq_20 shX12_count_56)) rfl (lvA0 hl) ?_
    refine gM_74 S hK hP (v := .ref (g 33)) rfl (oc_180 77 (aq_21 shX12_count_56) uw_0_74) ?_
    refine lv_bipush (v := 10) hx hb (oc_16 80 shX12_count_80 sgb_10) kbc_10 ?_
    obtain ⟨a_48, ha_48, ea_48⟩ := hI.e33 10 (by (first | omega | (have zz0 := Hid.u hi_cn; omega)))
    refine ldM_33 hx hb hK hP (x := (nI a_48)) (by unfold vp_in; decide) (by decide) ea_48 (oc_46 82 (aq_2 shX12_count_80)) ?_
    exact W.iret (v := (nI a_48)) hx hb hr (fun t ht hW => ⟨(nI a_48), rfl, trivial, ht⟩) (fun _ h => absurd h List.not_mem_nil) (oc_172 83 (aq_3 shX12_count_80))
  ·
    refine lv_tableIn (tgt := 84) (off := 83) hx hb dX12_count_1 (by (first | omega | (have zz0 := Hid.u hi_cn; omega))) (by (first | omega | (have zz0 := Hid.u hi_cn; omega))) (by rw [c_1]; rfl) (by decide) ?_
    refine lv_aload_n hx hb (oc_42 84 (aq_4 shX12_count_80)) rfl (lvA0 hl) ?_
    refine gM_435 S hK hP (v := .int (nI (cn 62))) rfl (oc_180 85 (aq_5 shX12_count_80) uw_1_179) ?_
    exact W.iret (v := (nI (cn 62))) hx hb hr (fun t ht hW => ⟨(nI (cn 62)), rfl, trivial, ht⟩) (fun _ h => absurd h List.not_mem_nil) (oc_172 88 (aq_8 shX12_count_80))
  ·
    refine lv_tableIn (tgt := 89) (off := 88) hx hb dX12_count_1 (by (first | omega | (have zz0 := Hid.u hi_cn; omega))) (by (first | omega | (have zz0 := Hid.u hi_cn; omega))) (by rw [c_1]; rfl) (by decide) ?_
    refine lv_aload_n hx hb (oc_42 89 (aq_9 shX12_count_80)) rfl (lvA0 hl) ?_
    refine gM_447 S hK hP (v := .int (nI (cn 63))) rfl (oc_180 90 (aq_10 shX12_count_80) uw_1_191) ?_
    exact W.iret (v := (nI (cn 63))) hx hb hr (fun t ht hW => ⟨(nI (cn 63)), rfl, trivial, ht⟩) (fun _ h => absurd h List.not_mem_nil) (oc_172 93 (aq_13 shX12_count_80))
  ·
    refine lv_tableIn (tgt := 94) (off := 93) hx hb dX12_count_1 (by (first | omega | (have zz0 := Hid.u hi_cn; omega))) (by (first | omega | (have zz0 := Hid.u hi_cn; omega))) (by rw [c_1]; rfl) (by decide) ?_
    refine lv_aload_n hx hb (oc_42 94 (aq_14 shX12_count_80)) rfl (lvA0 hl) ?_
    refine gM_478 S hK hP (v := .int (nI (cn 83))) rfl (oc_180 95 (aq_15 shX12_count_80) uw_1_222) ?_
    exact W.iret (v := (nI (cn 83))) hx hb hr (fun t ht hW => ⟨(nI (cn 83)), rfl, trivial, ht⟩) (fun _ h => absurd h List.not_mem_nil) (oc_172 98 (aq_18 shX12_count_80))
  ·
    refine lv_tableIn (tgt := 99) (off := 98) hx hb dX12_count_1 (by (first | omega | (have zz0 := Hid.u hi_cn; omega))) (by (first | omega | (have zz0 := Hid.u hi_cn; omega))) (by rw [c_1]; rfl) (by decide) ?_
    refine lv_aload_n hx hb (oc_42 99 (aq_19 shX12_count_80)) rfl (lvA0 hl) ?_
    refine gM_386 S hK hP (v := .int (nI (cn 46))) rfl (oc_180 100 (aq_20 shX12_count_80) uw_1_130) ?_
    exact W.iret (v := (nI (cn 46))) hx hb hr (fun t ht hW => ⟨(nI (cn 46)), rfl, trivial, ht⟩) (fun _ h => absurd h List.not_mem_nil) (oc_172 103 (aq_23 shX12_count_80))
  ·
    refine lv_tableIn (tgt := 104) (off := 103) hx hb dX12_count_1 (by (first | omega | (have zz0 := Hid.u hi_cn; omega))) (by (first | omega | (have zz0 := Hid.u hi_cn; omega))) (by rw [c_1]; rfl) (by decide) ?_
    refine lv_aload_n hx hb (oc_42 104 shX12_count_104) rfl (lvA0 hl) ?_
    refine gM_407 S hK hP (v := .int (nI (cn 57))) rfl (oc_180 105 (aq_1 shX12_count_104) uw_1_151) ?_
    exact W.iret (v := (nI (cn 57))) hx hb hr (fun t ht hW => ⟨(nI (cn 57)), rfl, trivial, ht⟩) (fun _ h => absurd h List.not_mem_nil) (oc_172 108 (aq_4 shX12_count_104))
set_option maxRecDepth 100000 in
set_option maxHeartbeats 4000000 in
theorem q_sample (l : Launch) (D : va_G) (cI cB cZ : ClassId) (g : Nat → Nat) (cn : Nat → Nat) (In : Nat → Int32) (Fn : Nat → Nat → Int32) (v0 v1 : Int32) (sz : Nat) (hI : IM cn Fn) : Met l yX12_sample (CWS yX12_sample cX12_sample 3 (some .int)) (RM 1 0 0) (PBw [.ref (g 100), .int v0, .int v1] D cI cB cZ (wM cI cB cZ g cn In Fn) sz) (va_Qi (fun (r : Int32) (u : (Nat → Nat) × (Nat → Int32) × (Nat → Nat → Int32)) => (fun r c2 I2 F2 => (∃ k x : Nat, k < 10 ∧ x < 12 ∧ Fn 79 k = nI x ∧ r = nI (x + 1) ∧ c2 = cn ∧ I2 = In ∧ F2 = va_up (va_up Fn 80 (upd (Fn 80) (12 * k + x) v1)) 79 (upd (Fn 79) k (nI (x + 1)))) ∨ (r = -1 ∧ c2 = cn ∧ I2 = In ∧ F2 = Fn)) r u.1 u.2.1 u.2.2) (fun (u : (Nat → Nat) × (Nat → Int32) × (Nat → Nat → Int32)) (t : State) => va_P D vwCl (wM cI cB cZ g u.1 u.2.1 u.2.2) t.heap ∧ va_D (va_A (wM cI cB cZ g cn In Fn) sz) (wM cI cB cZ g u.1 u.2.1 u.2.2)) (va_A (wM cI cB cZ g cn In Fn) sz)) 0 0 (va_A (wM cI cB cZ g cn In Fn) sz) := by
  refine en_w (fun A => (va_Qi (fun (r : Int32) (u : (Nat → Nat) × (Nat → Int32) × (Nat → Nat → Int32)) => (fun (r : Int32) (c2 : Nat → Nat) (I2 : Nat → Int32) (F2 : Nat → Nat → Int32) => (∃ k x : Nat, k < 10 ∧ x < 12 ∧ Fn 79 k = nI x ∧ r = nI (x + 1) ∧ c2 = cn ∧ I2 = In ∧ F2 = va_up (va_up Fn 80 (upd (Fn 80) (12 * k + x) v1)) 79 (upd (Fn 79) k (nI (x + 1)))) ∨ (r = -1 ∧ c2 = cn ∧ I2 = In ∧ F2 = Fn)) r u.1 u.2.1 u.2.2) (fun (u : (Nat → Nat) × (Nat → Int32) × (Nat → Nat → Int32)) (t : State) => va_P D vwCl (wM cI cB cZ g u.1 u.2.1 u.2.2) t.heap ∧ va_D A (wM cI cB cZ g u.1 u.2.1 u.2.2)) A)) rfl rfl pn_RX12 (Nat.le_of_ble_eq_true rfl) (fun p e s m below meth c A hx hb hml hown S hr hlocks hnm hA hP hK hD hS ls hl => ?_)
  have hl : lv_has ls 3 [(0, .ref (g 100)), (1, .int v0), (2, .int v1)] := hl
  have hi_cn : Hid (CB cn) := hI.b
  refine lv_aload_n hx hb (oc_42 0 shX12_sample_0) rfl (lvA0 hl) ?_
  refine lv_iload_n hx hb (oc_27 1 (aq_1 shX12_sample_0)) rfl (lvA1 hl) ?_
  refine vp_callSi (runV_ra (As := [.int v0]) (rest := []) S (q_isBatch l D cI cB cZ g cn In Fn v0 hI) kV_RX12_450 hK hP 0 rfl rfl rfl ⟨Nat.le_of_ble_eq_true rfl, Nat.le_of_ble_eq_true rfl⟩ ⟨Nat.le_of_ble_eq_true rfl, Nat.le_of_ble_eq_true rfl⟩ rfl hl.1 rfl (Nat.le_of_ble_eq_true rfl) (oc_182 2 (aq_2 shX12_sample_0) uw_1_194)) (fun r_1 h_2 => ?_)
  rcases h_2 with ⟨rfl, h_2⟩ | ⟨rfl, h_2⟩
  ·
    have h_2 : 0 ≤ v0.toInt ∧ v0.toInt < ((cn 62) : Int) := h_2
    refine lv_if_eq (tgt := 30) hx hb (oc_153 5 (aq_5 shX12_sample_0) sgw_0_25) rfl (fun h => absurd h cq_eq_1_0) (fun _ => ?_)
    obtain ⟨d0, hd0, rfl⟩ := nI_of (x := v0) (fun q => by have := Int32.lt_iff_toInt_lt.mp q; have e : (0 : Int32).toInt = 0 := rfl; (first | omega | (have zz0 := Hid.u hi_cn; omega)))
    have td0 : (nI d0).toInt = (d0 : Int) := nI_toInt hd0
    have zd0 : (nI d0).toInt.toNat = d0 := by (first | omega | (have zz0 := Hid.u hi_cn; omega))
    refine lv_iload_n hx hb (oc_28 8 (aq_8 shX12_sample_0)) rfl (lvA2 hl) ?_
    refine lv_iconst (v := 0) hx hb (oc_3 9 (aq_9 shX12_sample_0)) kic_0 ?_
    refine lv_sipush (v := 1000) hx hb (oc_17 10 (aq_10 shX12_sample_0) sgw_3_232) (by decide) ?_
    refine vp_callSi (runS_r (As := [.int v1, .int 0, .int 1000]) (rest := []) S (q_in l D cI cB cZ v1 0 1000 ) kS_RX12_214 hK hP [] rfl ⟨Nat.le_of_ble_eq_true rfl, Nat.le_of_ble_eq_true rfl⟩ ⟨Nat.le_of_ble_eq_true rfl, Nat.le_of_ble_eq_true rfl⟩ rfl hl.1 rfl (Nat.le_of_ble_eq_true rfl) (oc_184 13 (aq_13 shX12_sample_0) uw_0_214)) (fun r_3 h_4 => ?_)
    rcases h_4 with ⟨rfl, h_4⟩ | ⟨rfl, h_4⟩
    ·
      have h_4 : 0 ≤ v1.toInt ∧ v1.toInt ≤ 1000 := h_4
      refine lv_if_eq (tgt := 30) hx hb (oc_153 16 (aq_16 shX12_sample_0) sgw_0_14) rfl (fun h => absurd h cq_eq_1_0) (fun _ => ?_)
      refine lv_aload_n hx hb (oc_42 19 (aq_19 shX12_sample_0)) rfl (lvA0 hl) ?_
      refine gM_171 S hK hP (v := .ref (g 79)) rfl (oc_180 20 (aq_20 shX12_sample_0) uw_0_171) ?_
      refine lv_iload_n hx hb (oc_27 23 (aq_23 shX12_sample_0)) rfl (lvA1 hl) ?_
      have kb_1 : d0 < 10 := by (first | omega | (have zz0 := Hid.u hi_cn; omega))
      obtain ⟨a_5, ha_5, ea_5⟩ := hI.e79 d0 (by (first | omega | (have zz0 := Hid.u hi_cn; omega)))
      refine ldM_79 hx hb hK hP (x := (nI a_5)) (vp_in_nI kb_1 (ltb rfl)) (nI_clamp (Nat.lt_trans kb_1 (ltb rfl))) ea_5 (oc_46 24 shX12_sample_24) ?_
      refine lv_bipush (v := 12) hx hb (oc_16 25 (aq_1 shX12_sample_24) sgb_12) kbc_12 ?_
      have : (nI a_5).toInt = ((a_5 : Nat) : Int) := nI_toInt (by (first | omega | (have zz0 := Hid.u hi_cn; omega)))
      refine lv_icmp_ne (tgt := 32) hx hb (oc_160 27 (aq_3 shX12_sample_24) sgw_0_5) rfl (fun c_6 => ?_) (fun c_6 => ?_)
      ·
        have tc_6 : ((nI a_5).toInt : Int) ≠ 12 := fun q => c_6 (Int32.toInt_inj.mp q)
        refine lv_aload_n hx hb (oc_42 32 (aq_8 shX12_sample_24)) rfl (lvA0 hl) ?_
        refine gM_174 S hK hP (v := .ref (g 80)) rfl (oc_180 33 (aq_9 shX12_sample_24) uw_0_174) ?_
        refine lv_bipush (v := 12) hx hb (oc_16 36 (aq_12 shX12_sample_24) sgb_12) kbc_12 ?_
        refine lv_iload_n hx hb (oc_27 38 (aq_14 shX12_sample_24)) rfl (lvA1 hl) ?_
        refine lv_imul hx hb (oc_104 39 (aq_15 shX12_sample_24)) ?_
        refine lv_topi (fun y_7 ey_7 => ?_)
        obtain rfl : y_7 = (nI (12 * d0)) := ey_7.trans (pk_mul 12 d0)
        refine lv_aload_n hx hb (oc_42 40 (aq_16 shX12_sample_24)) rfl (lvA0 hl) ?_
        refine gM_171 S hK hP (v := .ref (g 79)) rfl (oc_180 41 (aq_17 shX12_sample_24) uw_0_171) ?_
        refine lv_iload_n hx hb (oc_27 44 (aq_20 shX12_sample_24)) rfl (lvA1 hl) ?_
        refine ldM_79 hx hb hK hP (x := (nI a_5)) (vp_in_nI kb_1 (ltb rfl)) (nI_clamp (Nat.lt_trans kb_1 (ltb rfl))) ea_5 (oc_46 45 (aq_21 shX12_sample_24)) ?_
        refine lv_iadd hx hb (oc_96 46 (aq_22 shX12_sample_24)) ?_
        refine lv_topi (fun y_8 ey_8 => ?_)
        obtain rfl : y_8 = (nI ((12 * d0) + a_5)) := ey_8.trans (nI_add (12 * d0) a_5)
        refine lv_iload_n hx hb (oc_28 47 (aq_23 shX12_sample_24)) rfl (lvA2 hl) ?_
        have kb_2 : ((12 * d0) + a_5) < 120 := by (first | omega | (have zz0 := Hid.u hi_cn; omega))
        refine stM_80 hx hb hK hP hD hS (Fn2 := (va_up Fn 80 (upd (Fn 80) ((12 * d0) + a_5) v1))) (vp_in_nI kb_2 (ltb rfl)) (nI_clamp (Nat.lt_trans kb_2 (ltb rfl))) rfl (oc_79 48 shX12_sample_48) (fun H locs hP hD hS => ?_)
        refine lv_aload_n hx hb (oc_42 49 (aq_1 shX12_sample_48)) rfl (lvA0 hl) ?_
        refine gM_171 S hK hP (v := .ref (g 79)) rfl (oc_180 50 (aq_2 shX12_sample_48) uw_0_171) ?_
        refine lv_iload_n hx hb (oc_27 53 (aq_5 shX12_sample_48)) rfl (lvA1 hl) ?_
        refine lv_aload_n hx hb (oc_42 54 (aq_6 shX12_sample_48)) rfl (lvA0 hl) ?_
        refine gM_171 S hK hP (v := .ref (g 79)) rfl (oc_180 55 (aq_7 shX12_sample_48) uw_0_171) ?_
        refine lv_iload_n hx hb (oc_27 58 (aq_10 shX12_sample_48)) rfl (lvA1 hl) ?_
        refine ldM_79 hx hb hK hP (x := (nI a_5)) (vp_in_nI kb_1 (ltb rfl)) (nI_clamp (Nat.lt_trans kb_1 (ltb rfl))) ea_5 (oc_46 59 (aq_11 shX12_sample_48)) ?_
        refine lv_iconst (v := 1) hx hb (oc_4 60 (aq_12 shX12_sample_48)) kic_1 ?_
        refine lv_iadd hx hb (oc_96 61 (aq_13 shX12_sample_48)) ?_
        refine lv_topi (fun y_9 ey_9 => ?_)
        obtain rfl : y_9 = (nI (a_5 + 1)) := ey_9.trans (nI_add a_5 1)
        refine stM_79 hx hb hK hP hD hS (Fn2 := (va_up (va_up Fn 80 (upd (Fn 80) ((12 * d0) + a_5) v1)) 79 (upd (Fn 79) d0 (nI (a_5 + 1))))) (vp_in_nI kb_1 (ltb rfl)) (nI_clamp (Nat.lt_trans kb_1 (ltb rfl))) rfl (oc_79 62 (aq_14 shX12_sample_48)) (fun H locs hP hD hS => ?_)
        refine lv_aload_n hx hb (oc_42 63 (aq_15 shX12_sample_48)) rfl (lvA0 hl) ?_
        refine gM_171 S hK hP (v := .ref (g 79)) rfl (oc_180 64 (aq_16 shX12_sample_48) uw_0_171) ?_
        refine lv_iload_n hx hb (oc_27 67 (aq_19 shX12_sample_48)) rfl (lvA1 hl) ?_
        refine ldM_79 hx hb hK hP (x := ((upd (Fn 79) d0 (nI (a_5 + 1))) d0)) (vp_in_nI kb_1 (ltb rfl)) (nI_clamp (Nat.lt_trans kb_1 (ltb rfl))) rfl (oc_46 68 (aq_20 shX12_sample_48)) ?_
        refine lv_topi (fun y_10 ey_10 => ?_)
        obtain rfl : y_10 = nI (a_5 + 1) := ey_10.trans (upd_self _ _ _)
        exact W.iret (v := (nI (a_5 + 1))) hx hb hr (fun t ht hW => ⟨⟨(nI (a_5 + 1)), (cn, In, (va_up (va_up Fn 80 (upd (Fn 80) ((12 * d0) + a_5) v1)) 79 (upd (Fn 79) d0 (nI (a_5 + 1))))), rfl, (Or.inl ⟨d0, a_5, by (first | omega | (have zz0 := Hid.u hi_cn; omega)), by (first | omega | (have zz0 := Hid.u hi_cn; omega)), ea_5, rfl, rfl, rfl, rfl⟩), by rw [ht]; exact hP, hD⟩, hS.F ht⟩) hS.2.2 (oc_172 69 (aq_21 shX12_sample_48))
      ·
        have tc_6 : ((nI a_5).toInt : Int) = 12 := congrArg Int32.toInt c_6
        refine lv_iconst (v := (-1)) hx hb (oc_2 30 (aq_6 shX12_sample_24)) kic_m1 ?_
        exact W.iret (v := (-1)) hx hb hr (fun t ht hW => ⟨⟨(-1), (cn, In, Fn), rfl, (Or.inr ⟨rfl, rfl, rfl, rfl⟩), by rw [ht]; exact hP, hD⟩, hS.F ht⟩) hS.2.2 (oc_172 31 (aq_7 shX12_sample_24))
    ·
      have h_4 : ¬ (0 ≤ v1.toInt ∧ v1.toInt ≤ 1000) := h_4
      refine lv_if_eq (tgt := 30) hx hb (oc_153 16 (aq_16 shX12_sample_0) sgw_0_14) rfl (fun _ => ?_) (fun h => absurd h cq_eq_0_0)
      refine lv_iconst (v := (-1)) hx hb (oc_2 30 (aq_6 shX12_sample_24)) kic_m1 ?_
      exact W.iret (v := (-1)) hx hb hr (fun t ht hW => ⟨⟨(-1), (cn, In, Fn), rfl, (Or.inr ⟨rfl, rfl, rfl, rfl⟩), by rw [ht]; exact hP, hD⟩, hS.F ht⟩) hS.2.2 (oc_172 31 (aq_7 shX12_sample_24))
  ·
    have h_2 : ¬ (0 ≤ v0.toInt ∧ v0.toInt < ((cn 62) : Int)) := h_2
    refine lv_if_eq (tgt := 30) hx hb (oc_153 5 (aq_5 shX12_sample_0) sgw_0_25) rfl (fun _ => ?_) (fun h => absurd h cq_eq_0_0)
    refine lv_iconst (v := (-1)) hx hb (oc_2 30 (aq_6 shX12_sample_24)) kic_m1 ?_
    exact W.iret (v := (-1)) hx hb hr (fun t ht hW => ⟨⟨(-1), (cn, In, Fn), rfl, (Or.inr ⟨rfl, rfl, rfl, rfl⟩), by rw [ht]; exact hP, hD⟩, hS.F ht⟩) hS.2.2 (oc_172 31 (aq_7 shX12_sample_24))
