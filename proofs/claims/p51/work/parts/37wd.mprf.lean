

set_option maxRecDepth 100000 in
set_option maxHeartbeats 4000000 in
theorem q_tax9 (l : Launch) (D : va_G) (cI cB cZ : ClassId) (g : Nat → Nat) (cn : Nat → Nat) (In : Nat → Int32) (Fn : Nat → Nat → Int32) (v0 : Int32) (hI : IM cn Fn) : Met l yX12_tax (CWS yX12_tax cX12_tax 2 (some .int)) (RM 1 0 0) (PBr [.ref (g 100), .int v0] D cI cB cZ (wM cI cB cZ g cn In Fn)) (vp_Si (fun r => ((0 ≤ v0.toInt ∧ v0.toInt < (cn 63 : Int)) ∧ ∃ b u d : Nat, (Fn 70 v0.toInt.toNat = nI b ∧ b ≤ 9) ∧ (Fn 76 b = nI u ∧ u ≤ 3) ∧ (Fn 66 v0.toInt.toNat = nI d ∧ d ≤ 399) ∧ r = (Fn 69 v0.toInt.toNat - Fn 68 v0.toInt.toNat) * Fn 77 (58 * u + d / 7) / 100) ∨ (¬ (0 ≤ v0.toInt ∧ v0.toInt < (cn 63 : Int)) ∧ r = -1))) 0 0 (fun _ => False) := by
  refine en_r rfl pn_RX12 (Nat.le_of_ble_eq_true rfl) (fun p e s m below meth c hx hb hml hown S hr hlocks hnm hP hK hS ls hl => ?_)
  have hl : lv_has ls 2 [(0, .ref (g 100)), (1, .int v0)] := hl
  have hi_cn : Hid (CB cn) := hI.b
  refine lv_aload_n hx hb (oc_42 0 shX12_tax_0) rfl (lvA0 hl) ?_
  refine lv_iload_n hx hb (oc_27 1 (aq_1 shX12_tax_0)) rfl (lvA1 hl) ?_
  refine vp_callSi (runV_ra (As := [.int v0]) (rest := []) S (q_isProof l D cI cB cZ g cn In Fn v0 hI) kV_RX12_459 hK hP 0 rfl rfl rfl ⟨Nat.le_of_ble_eq_true rfl, Nat.le_of_ble_eq_true rfl⟩ ⟨Nat.le_of_ble_eq_true rfl, Nat.le_of_ble_eq_true rfl⟩ rfl hl.1 rfl (Nat.le_of_ble_eq_true rfl) (oc_182 2 (aq_2 shX12_tax_0) uw_1_203)) (fun r_1 h_2 => ?_)
  rcases h_2 with ⟨rfl, h_2⟩ | ⟨rfl, h_2⟩
  ·
    have h_2 : 0 ≤ v0.toInt ∧ v0.toInt < ((cn 63) : Int) := h_2
    refine lv_if_eq (tgt := 57) hx hb dX12_tax_5 rfl (fun h => absurd h cq_eq_1_0) (fun _ => ?_)
    obtain ⟨d0, hd0, rfl⟩ := nI_of (x := v0) (fun q => by have := Int32.lt_iff_toInt_lt.mp q; have e : (0 : Int32).toInt = 0 := rfl; (first | omega | (have zz0 := Hid.u hi_cn; omega)))
    have td0 : (nI d0).toInt = (d0 : Int) := nI_toInt hd0
    have zd0 : (nI d0).toInt.toNat = d0 := by (first | omega | (have zz0 := Hid.u hi_cn; omega))
    refine lv_aload_n hx hb (oc_42 8 (aq_8 shX12_tax_0)) rfl (lvA0 hl) ?_
    refine gM_153 S hK hP (v := .ref (g 69)) rfl (oc_180 9 (aq_9 shX12_tax_0) uw_0_153) ?_
    refine lv_iload_n hx hb (oc_27 12 (aq_12 shX12_tax_0)) rfl (lvA1 hl) ?_
    have kb_1 : d0 < 40 := by (first | omega | (have zz0 := Hid.u hi_cn; omega))
    refine ldM_69 hx hb hK hP (x := ((Fn 69) d0)) (vp_in_nI kb_1 (ltb rfl)) (nI_clamp (Nat.lt_trans kb_1 (ltb rfl))) rfl (oc_46 13 (aq_13 shX12_tax_0)) ?_
    refine lv_aload_n hx hb (oc_42 14 (aq_14 shX12_tax_0)) rfl (lvA0 hl) ?_
    refine gM_150 S hK hP (v := .ref (g 68)) rfl (oc_180 15 (aq_15 shX12_tax_0) uw_0_150) ?_
    refine lv_iload_n hx hb (oc_27 18 (aq_18 shX12_tax_0)) rfl (lvA1 hl) ?_
    refine ldM_68 hx hb hK hP (x := ((Fn 68) d0)) (vp_in_nI kb_1 (ltb rfl)) (nI_clamp (Nat.lt_trans kb_1 (ltb rfl))) rfl (oc_46 19 (aq_19 shX12_tax_0)) ?_
    refine lv_isub hx hb (oc_100 20 (aq_20 shX12_tax_0)) ?_
    refine lv_aload_n hx hb (oc_42 21 (aq_21 shX12_tax_0)) rfl (lvA0 hl) ?_
    refine gM_165 S hK hP (v := .ref (g 77)) rfl (oc_180 22 (aq_22 shX12_tax_0) uw_0_165) ?_
    refine lv_bipush (v := 58) hx hb (oc_16 25 shX12_tax_25 sgb_58) kbc_58 ?_
    refine lv_aload_n hx hb (oc_42 27 (aq_2 shX12_tax_25)) rfl (lvA0 hl) ?_
    refine gM_162 S hK hP (v := .ref (g 76)) rfl (oc_180 28 (aq_3 shX12_tax_25) uw_0_162) ?_
    refine lv_aload_n hx hb (oc_42 31 (aq_6 shX12_tax_25)) rfl (lvA0 hl) ?_
    refine gM_156 S hK hP (v := .ref (g 70)) rfl (oc_180 32 (aq_7 shX12_tax_25) uw_0_156) ?_
    refine lv_iload_n hx hb (oc_27 35 (aq_10 shX12_tax_25)) rfl (lvA1 hl) ?_
    obtain ⟨a_3, ha_3, ea_3⟩ := hI.e70 d0 (by (first | omega | (have zz0 := Hid.u hi_cn; omega)))
    refine ldM_70 hx hb hK hP (x := (nI a_3)) (vp_in_nI kb_1 (ltb rfl)) (nI_clamp (Nat.lt_trans kb_1 (ltb rfl))) ea_3 (oc_46 36 (aq_11 shX12_tax_25)) ?_
    have kb_2 : a_3 < 10 := by (first | omega | (have zz0 := Hid.u hi_cn; omega))
    obtain ⟨a_4, ha_4, ea_4⟩ := hI.e76 a_3 (by (first | omega | (have zz0 := Hid.u hi_cn; omega)))
    refine ldM_76 hx hb hK hP (x := (nI a_4)) (vp_in_nI kb_2 (ltb rfl)) (nI_clamp (Nat.lt_trans kb_2 (ltb rfl))) ea_4 (oc_46 37 (aq_12 shX12_tax_25)) ?_
    refine lv_imul hx hb (oc_104 38 (aq_13 shX12_tax_25)) ?_
    refine lv_topi (fun y_5 ey_5 => ?_)
    obtain rfl : y_5 = (nI (58 * a_4)) := ey_5.trans (pk_mul 58 a_4)
    refine lv_aload_n hx hb (oc_42 39 (aq_14 shX12_tax_25)) rfl (lvA0 hl) ?_
    refine gM_144 S hK hP (v := .ref (g 66)) rfl (oc_180 40 (aq_15 shX12_tax_25) uw_0_144) ?_
    refine lv_iload_n hx hb (oc_27 43 (aq_18 shX12_tax_25)) rfl (lvA1 hl) ?_
    obtain ⟨a_6, ha_6, ea_6⟩ := hI.e66 d0 (by (first | omega | (have zz0 := Hid.u hi_cn; omega)))
    refine ldM_66 hx hb hK hP (x := (nI a_6)) (vp_in_nI kb_1 (ltb rfl)) (nI_clamp (Nat.lt_trans kb_1 (ltb rfl))) ea_6 (oc_46 44 (aq_19 shX12_tax_25)) ?_
    refine lv_bipush (v := 7) hx hb (oc_16 45 (aq_20 shX12_tax_25) sgb_7) kbc_7 ?_
    refine lv_idiv hx hb (oc_108 47 (aq_22 shX12_tax_25)) (by decide) ?_
    refine lv_topi (fun y_7 ey_7 => ?_)
    obtain rfl : y_7 = (nI (a_6 / 7)) := ey_7.trans (nI_div (by (first | omega | (have zz0 := Hid.u hi_cn; omega))) (by decide))
    refine lv_iadd hx hb (oc_96 48 (aq_23 shX12_tax_25)) ?_
    refine lv_topi (fun y_8 ey_8 => ?_)
    obtain rfl : y_8 = (nI ((58 * a_4) + (a_6 / 7))) := ey_8.trans (nI_add (58 * a_4) (a_6 / 7))
    have kb_3 : ((58 * a_4) + (a_6 / 7)) < 232 := by (first | omega | (have zz0 := Hid.u hi_cn; omega))
    refine ldM_77 hx hb hK hP (x := ((Fn 77) ((58 * a_4) + (a_6 / 7)))) (vp_in_nI kb_3 (ltb rfl)) (nI_clamp (Nat.lt_trans kb_3 (ltb rfl))) rfl (oc_46 49 shX12_tax_49) ?_
    refine lv_imul hx hb (oc_104 50 (aq_1 shX12_tax_49)) ?_
    refine lv_bipush (v := 100) hx hb (oc_16 51 (aq_2 shX12_tax_49) sgb_100) kbc_100 ?_
    refine lv_idiv hx hb (oc_108 53 (aq_4 shX12_tax_49)) (by decide) ?_
    refine lv_goto (tgt := 58) hx hb (oc_167 54 (aq_5 shX12_tax_49) sgw_0_4) rfl ?_
    exact W.iret (v := (((((Fn 69) d0) - ((Fn 68) d0)) * ((Fn 77) ((58 * a_4) + (a_6 / 7)))) / 100)) hx hb hr (fun t ht hW => ⟨(((((Fn 69) d0) - ((Fn 68) d0)) * ((Fn 77) ((58 * a_4) + (a_6 / 7)))) / 100), rfl, (Or.inl ⟨by (first | omega | (have zz0 := Hid.u hi_cn; omega)), by simp only [zd0]; exact ⟨a_3, a_4, a_6, ⟨ea_3, by (first | omega | (have zz0 := Hid.u hi_cn; omega))⟩, ⟨ea_4, by (first | omega | (have zz0 := Hid.u hi_cn; omega))⟩, ⟨ea_6, by (first | omega | (have zz0 := Hid.u hi_cn; omega))⟩, rfl⟩⟩), ht⟩) (fun _ h => absurd h List.not_mem_nil) dX12_tax_58
  ·
    have h_2 : ¬ (0 ≤ v0.toInt ∧ v0.toInt < ((cn 63) : Int)) := h_2
    refine lv_if_eq (tgt := 57) hx hb dX12_tax_5 rfl (fun _ => ?_) (fun h => absurd h cq_eq_0_0)
    refine lv_iconst (v := (-1)) hx hb (oc_2 57 (aq_8 shX12_tax_49)) kic_m1 ?_
    exact W.iret (v := (-1)) hx hb hr (fun t ht hW => ⟨(-1), rfl, (Or.inr ⟨by (first | omega | (have zz0 := Hid.u hi_cn; omega)), rfl⟩), ht⟩) (fun _ h => absurd h List.not_mem_nil) dX12_tax_58
