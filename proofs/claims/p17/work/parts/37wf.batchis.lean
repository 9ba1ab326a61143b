

set_option maxRecDepth 100000 in
set_option maxHeartbeats 4000000 in
theorem q_Ewater (l : Launch) (D : va_G) (cI cB cZ : ClassId) (zz qq vv : Nat) (bt : Nat → Int32) (g : Nat → Nat) (ad : Nat → Nat → Nat) (cn : Nat → Nat) (In : Nat → Int32) (Fn : Nat → Nat → Int32) (k0 : Nat) (hB : CBX cn) (hk : k0 < cn 12) : Met l yX0_water (CWS yX0_water cX0_water 1 (some .int)) (RM 0 0 0) (PBrx [.ref (ad 12 k0)] D cI cB cZ zz qq vv bt (wX cI (D.1 99) zz g ad cn In Fn)) (vp_Si (fun r => r = (if Fn 146 k0 = 0 then 0 else Fn 141 k0 / Fn 146 k0))) 0 0 (fun _ => False) := by
  refine en_rx rfl pn_RX0 (Nat.le_of_ble_eq_true rfl) (fun p e s m below meth c hx hb hml hown S hr hlocks hnm hP hK hXS hS ls hl => ?_)
  have hl : lv_has ls 1 [(0, .ref (ad 12 k0))] := hl
  have hb_cn : Hid (CBX cn) := hB
  replace hB : CBXh cn := hB
  refine lv_aload_n hx hb (oc_42 0 shX0_water_0) rfl (lvA0 hl) ?_
  refine gf_RX0_24 S hK hP _ (xf_2 hk) (v := .int ((Fn 146) k0)) rfl (oc_180 1 (aq_1 shX0_water_0) uw_0_24) ?_
  refine lv_if_ne (tgt := 11) hx hb (oc_154 4 (aq_4 shX0_water_0) sgw_0_7) rfl (fun c_1 => ?_) (fun c_1 => ?_)
  ·
    have tc_1 : (((Fn 146) k0).toInt : Int) ≠ 0 := fun q => c_1 (Int32.toInt_inj.mp q)
    refine lv_aload_n hx hb (oc_42 11 (aq_11 shX0_water_0)) rfl (lvA0 hl) ?_
    refine gf_RX0_30 S hK hP _ (xf_2 hk) (v := .int ((Fn 141) k0)) rfl (oc_180 12 (aq_12 shX0_water_0) uw_0_30) ?_
    refine lv_aload_n hx hb (oc_42 15 (aq_15 shX0_water_0)) rfl (lvA0 hl) ?_
    refine gf_RX0_24 S hK hP _ (xf_2 hk) (v := .int ((Fn 146) k0)) rfl (oc_180 16 (aq_16 shX0_water_0) uw_0_24) ?_
    refine lv_idiv hx hb (oc_108 19 (aq_19 shX0_water_0)) (by assumption) ?_
    exact W.iret (v := (((Fn 141) k0) / ((Fn 146) k0))) hx hb hr (fun t ht hW => ⟨(((Fn 141) k0) / ((Fn 146) k0)), rfl, (if_neg (by first | assumption | exact fun q => absurd (congrArg Int32.toInt q) (by assumption))).symm, ht⟩) (fun _ h => absurd h List.not_mem_nil) dX0_water_20
  ·
    have tc_1 : (((Fn 146) k0).toInt : Int) = 0 := congrArg Int32.toInt c_1
    refine lv_iconst (v := 0) hx hb (oc_3 7 (aq_7 shX0_water_0)) kic_0 ?_
    refine lv_goto (tgt := 20) hx hb (oc_167 8 (aq_8 shX0_water_0) sgw_0_12) rfl ?_
    exact W.iret (v := 0) hx hb hr (fun t ht hW => ⟨0, rfl, (if_pos (by first | assumption | exact Int32.toInt_inj.mp (by assumption))).symm, ht⟩) (fun _ h => absurd h List.not_mem_nil) dX0_water_20
set_option maxRecDepth 100000 in
set_option maxHeartbeats 4000000 in
theorem q_Eacid (l : Launch) (D : va_G) (cI cB cZ : ClassId) (zz qq vv : Nat) (bt : Nat → Int32) (g : Nat → Nat) (ad : Nat → Nat → Nat) (cn : Nat → Nat) (In : Nat → Int32) (Fn : Nat → Nat → Int32) (k0 : Nat) (hB : CBX cn) (hk : k0 < cn 12) : Met l yX0_acid (CWS yX0_acid cX0_acid 1 (some .int)) (RM 0 0 0) (PBrx [.ref (ad 12 k0)] D cI cB cZ zz qq vv bt (wX cI (D.1 99) zz g ad cn In Fn)) (vp_Si (fun r => r = (if Fn 146 k0 = 0 then 0 else Fn 142 k0 / Fn 146 k0))) 0 0 (fun _ => False) := by
  refine en_rx rfl pn_RX0 (Nat.le_of_ble_eq_true rfl) (fun p e s m below meth c hx hb hml hown S hr hlocks hnm hP hK hXS hS ls hl => ?_)
  have hl : lv_has ls 1 [(0, .ref (ad 12 k0))] := hl
  have hb_cn : Hid (CBX cn) := hB
  replace hB : CBXh cn := hB
  refine lv_aload_n hx hb (oc_42 0 shX0_acid_0) rfl (lvA0 hl) ?_
  refine gf_RX0_24 S hK hP _ (xf_2 hk) (v := .int ((Fn 146) k0)) rfl (oc_180 1 (aq_1 shX0_acid_0) uw_0_24) ?_
  refine lv_if_ne (tgt := 11) hx hb (oc_154 4 (aq_4 shX0_acid_0) sgw_0_7) rfl (fun c_1 => ?_) (fun c_1 => ?_)
  ·
    have tc_1 : (((Fn 146) k0).toInt : Int) ≠ 0 := fun q => c_1 (Int32.toInt_inj.mp q)
    refine lv_aload_n hx hb (oc_42 11 (aq_11 shX0_acid_0)) rfl (lvA0 hl) ?_
    refine gf_RX0_36 S hK hP _ (xf_2 hk) (v := .int ((Fn 142) k0)) rfl (oc_180 12 (aq_12 shX0_acid_0) uw_0_36) ?_
    refine lv_aload_n hx hb (oc_42 15 (aq_15 shX0_acid_0)) rfl (lvA0 hl) ?_
    refine gf_RX0_24 S hK hP _ (xf_2 hk) (v := .int ((Fn 146) k0)) rfl (oc_180 16 (aq_16 shX0_acid_0) uw_0_24) ?_
    refine lv_idiv hx hb (oc_108 19 (aq_19 shX0_acid_0)) (by assumption) ?_
    exact W.iret (v := (((Fn 142) k0) / ((Fn 146) k0))) hx hb hr (fun t ht hW => ⟨(((Fn 142) k0) / ((Fn 146) k0)), rfl, (if_neg (by first | assumption | exact fun q => absurd (congrArg Int32.toInt q) (by assumption))).symm, ht⟩) (fun _ h => absurd h List.not_mem_nil) dX0_acid_20
  ·
    have tc_1 : (((Fn 146) k0).toInt : Int) = 0 := congrArg Int32.toInt c_1
    refine lv_iconst (v := 0) hx hb (oc_3 7 (aq_7 shX0_acid_0)) kic_0 ?_
    refine lv_goto (tgt := 20) hx hb (oc_167 8 (aq_8 shX0_acid_0) sgw_0_12) rfl ?_
    exact W.iret (v := 0) hx hb hr (fun t ht hW => ⟨0, rfl, (if_pos (by first | assumption | exact Int32.toInt_inj.mp (by assumption))).symm, ht⟩) (fun _ h => absurd h List.not_mem_nil) dX0_acid_20
set_option maxRecDepth 100000 in
set_option maxHeartbeats 4000000 in
theorem q_EbatchIs (l : Launch) (D : va_G) (cI cB cZ : ClassId) (zz qq vv : Nat) (bt : Nat → Int32) (g : Nat → Nat) (ad : Nat → Nat → Nat) (cn : Nat → Nat) (In : Nat → Int32) (Fn : Nat → Nat → Int32) (v0 v1 : Int32) (M0 : Nat) (hB : CBX cn) (hpf : ∀ p : Nat, p < cn 13 → ∃ a b : Nat, (Fn 161 p).toInt = (a : Int) ∧ (Fn 162 p).toInt = (b : Int) ∧ a < b ∧ b ≤ 8000 ∧ (Fn 160 p = v0 → b ≤ M0)) : Met l yX11_batchIs (CWS yX11_batchIs cX11_batchIs 4 (some .int)) (RM 5 0 0) (PBrx [.ref (g 0), .int v0, .int v1] D cI cB cZ zz qq vv bt (wX cI (D.1 99) zz g ad cn In Fn)) (vp_Si (fun r => (((0 ≤ v0.toInt ∧ v0.toInt < (cn 12 : Int)) ∧ 0 ≤ v1.toInt ∧ v1.toInt ≤ 4) ∧ ((v1.toInt = 0 ∧ r = Fn 146 v0.toInt.toNat) ∨ (v1.toInt = 1 ∧ r = (if Fn 146 v0.toInt.toNat = 0 then 0 else Fn 141 v0.toInt.toNat / Fn 146 v0.toInt.toNat)) ∨ (v1.toInt = 2 ∧ r = (if Fn 146 v0.toInt.toNat = 0 then 0 else Fn 142 v0.toInt.toNat / Fn 146 v0.toInt.toNat)) ∨ (v1.toInt = 3 ∧ ∃ x : Int32, (∃ n : Nat, n ≤ M0 ∧ CNT (COV (fun p => Fn 160 p = v0 ∧ ((-1 : Int32) = -1 ∨ Fn 163 p = (-1))) (Fn 161) (Fn 162) (cn 13)) n x ∧ ∀ q : Nat, q < cn 13 → (fun p => Fn 160 p = v0 ∧ ((-1 : Int32) = -1 ∨ Fn 163 p = (-1))) q → ¬ (n : Int) < (Fn 162 q).toInt) ∧ r = Fn 146 v0.toInt.toNat - x) ∨ (v1.toInt = 4 ∧ r = Fn 144 v0.toInt.toNat))) ∨ (¬ ((0 ≤ v0.toInt ∧ v0.toInt < (cn 12 : Int)) ∧ 0 ≤ v1.toInt ∧ v1.toInt ≤ 4) ∧ r = -1))) 0 0 (fun _ => False) := by
  refine en_rx rfl pn_RX11 (Nat.le_of_ble_eq_true rfl) (fun p e s m below meth c hx hb hml hown S hr hlocks hnm hP hK hXS hS ls hl => ?_)
  have hl : lv_has ls 4 [(0, .ref (g 0)), (1, .int v0), (2, .int v1)] := hl
  have hb_cn : Hid (CBX cn) := hB
  replace hB : CBXh cn := hB
  refine lv_aload_n hx hb (oc_42 0 shX11_batchIs_0) rfl (lvA0 hl) ?_
  refine lv_iload_n hx hb (oc_27 1 (aq_1 shX11_batchIs_0)) rfl (lvA1 hl) ?_
  refine va_csq (runV_rxa (As := [.int v0]) (rest := []) S (q_XbatchAt l D cI cB cZ zz qq vv bt g ad cn In Fn v0 hB) kV_RX11_382 hK hXS hS hP 0 xo_0 rfl rfl ⟨Nat.le_of_ble_eq_true rfl, Nat.le_of_ble_eq_true rfl⟩ ⟨Nat.le_of_ble_eq_true rfl, Nat.le_of_ble_eq_true rfl⟩ rfl hl.1 rfl (Nat.le_of_ble_eq_true rfl) (oc_182 2 (aq_2 shX11_batchIs_0) uw_1_126)) (fun r_1 h_2 => ?_)
  rcases h_2 with ⟨mr_1, er_1, hr_1, rfl⟩ | ⟨hr_1, rfl⟩
  ·
    refine lv_astore_n (lv' := [(3, .ref (ad 12 mr_1)), (0, .ref (g 0)), (1, .int v0), (2, .int v1)]) hx hb dX11_batchIs_5 rfl hl (ltb rfl) rfl (fun ls hl => ?_)
    refine lv_aload_n hx hb dX11_batchIs_6 rfl (lvA0 hl) ?_
    refine lv_ifnonnull (tgt := 12) hx hb dX11_batchIs_7 rfl ?_
    refine lv_iload_n hx hb (oc_28 12 (aq_12 shX11_batchIs_0)) rfl (lvA3 hl) ?_
    rcases (by (first | omega | (have zz0 := Hid.u hb_cn; omega)) : v1.toInt < 0 ∨ 4 < v1.toInt ∨ v1.toInt = 0 ∨ v1.toInt = 1 ∨ v1.toInt = 2 ∨ v1.toInt = 3 ∨ v1.toInt = 4) with c_3 | c_3 | c_3 | c_3 | c_3 | c_3 | c_3
    ·
      refine lv_tableOut (tgt := 80) hx hb dX11_batchIs_13 (Or.inl c_3) (by decide) ?_
      refine lv_iconst (v := (-1)) hx hb dX11_batchIs_80 kic_m1 ?_
      exact W.iret (v := (-1)) hx hb hr (fun t ht hW => ⟨(-1), rfl, (Or.inr ⟨by (first | omega | (have zz0 := Hid.u hb_cn; omega)), rfl⟩), ht⟩) (fun _ h => absurd h List.not_mem_nil) dX11_batchIs_81
    ·
      refine lv_tableOut (tgt := 80) hx hb dX11_batchIs_13 (Or.inr c_3) (by decide) ?_
      refine lv_iconst (v := (-1)) hx hb dX11_batchIs_80 kic_m1 ?_
      exact W.iret (v := (-1)) hx hb hr (fun t ht hW => ⟨(-1), rfl, (Or.inr ⟨by (first | omega | (have zz0 := Hid.u hb_cn; omega)), rfl⟩), ht⟩) (fun _ h => absurd h List.not_mem_nil) dX11_batchIs_81
    ·
      refine lv_tableIn (tgt := 48) (off := 35) hx hb dX11_batchIs_13 (by (first | omega | (have zz0 := Hid.u hb_cn; omega))) (by (first | omega | (have zz0 := Hid.u hb_cn; omega))) (by rw [c_3]; rfl) (by decide) ?_
      refine lv_aload_n hx hb (oc_45 48 shX11_batchIs_48) rfl (lvA0 hl) ?_
      have kf_1 : mr_1 < cn 12 := by (first | omega | (have zz0 := Hid.u hb_cn; omega))
      refine gf_RX11_342 S hK hP _ (xf_2 kf_1) (v := .int ((Fn 146) mr_1)) rfl (oc_180 49 (aq_1 shX11_batchIs_48) uw_1_86) ?_
      exact W.iret (v := ((Fn 146) mr_1)) hx hb hr (fun t ht hW => ⟨((Fn 146) mr_1), rfl, (Or.inl ⟨by (first | omega | (have zz0 := Hid.u hb_cn; omega)), by rw [show v0.toInt.toNat = mr_1 by (first | omega | (have zz0 := Hid.u hb_cn; omega))]; first | exact Or.inl ⟨by assumption, rfl⟩ | exact Or.inr (Or.inl ⟨by assumption, rfl⟩) | exact Or.inr (Or.inr (Or.inl ⟨by assumption, rfl⟩)) | exact Or.inr (Or.inr (Or.inr (Or.inr ⟨by assumption, rfl⟩)))⟩), ht⟩) (fun _ h => absurd h List.not_mem_nil) (oc_172 52 (aq_4 shX11_batchIs_48))
    ·
      refine lv_tableIn (tgt := 53) (off := 40) hx hb dX11_batchIs_13 (by (first | omega | (have zz0 := Hid.u hb_cn; omega))) (by (first | omega | (have zz0 := Hid.u hb_cn; omega))) (by rw [c_3]; rfl) (by decide) ?_
      refine lv_aload_n hx hb (oc_45 53 (aq_5 shX11_batchIs_48)) rfl (lvA0 hl) ?_
      have kf_2 : mr_1 < cn 12 := by (first | omega | (have zz0 := Hid.u hb_cn; omega))
      refine vp_callSi (runV_rxa (As := []) (rest := []) S (q_Ewater l D cI cB cZ zz qq vv bt g ad cn In Fn mr_1 hB (by (first | omega | (have zz0 := Hid.u hb_cn; omega)))) kV_RX11_343 hK hXS hS hP _ (xf_2 kf_2) rfl rfl ⟨Nat.le_of_ble_eq_true rfl, Nat.le_of_ble_eq_true rfl⟩ ⟨Nat.le_of_ble_eq_true rfl, Nat.le_of_ble_eq_true rfl⟩ rfl hl.1 rfl (Nat.le_of_ble_eq_true rfl) (oc_182 54 (aq_6 shX11_batchIs_48) uw_1_87)) (fun r_4 h_5 => ?_)
      subst h_5
      exact W.iret (v := ((if (Fn 146) mr_1 = 0 then 0 else (Fn 141) mr_1 / (Fn 146) mr_1))) hx hb hr (fun t ht hW => ⟨((if (Fn 146) mr_1 = 0 then 0 else (Fn 141) mr_1 / (Fn 146) mr_1)), rfl, (Or.inl ⟨by (first | omega | (have zz0 := Hid.u hb_cn; omega)), by rw [show v0.toInt.toNat = mr_1 by (first | omega | (have zz0 := Hid.u hb_cn; omega))]; first | exact Or.inl ⟨by assumption, rfl⟩ | exact Or.inr (Or.inl ⟨by assumption, rfl⟩) | exact Or.inr (Or.inr (Or.inl ⟨by assumption, rfl⟩)) | exact Or.inr (Or.inr (Or.inr (Or.inr ⟨by assumption, rfl⟩)))⟩), ht⟩) (fun _ h => absurd h List.not_mem_nil) (oc_172 57 (aq_9 shX11_batchIs_48))
    ·
      refine lv_tableIn (tgt := 58) (off := 45) hx hb dX11_batchIs_13 (by (first | omega | (have zz0 := Hid.u hb_cn; omega))) (by (first | omega | (have zz0 := Hid.u hb_cn; omega))) (by rw [c_3]; rfl) (by decide) ?_
      refine lv_aload_n hx hb (oc_45 58 (aq_10 shX11_batchIs_48)) rfl (lvA0 hl) ?_
      have kf_3 : mr_1 < cn 12 := by (first | omega | (have zz0 := Hid.u hb_cn; omega))
      refine vp_callSi (runV_rxa (As := []) (rest := []) S (q_Eacid l D cI cB cZ zz qq vv bt g ad cn In Fn mr_1 hB (by (first | omega | (have zz0 := Hid.u hb_cn; omega)))) kV_RX11_345 hK hXS hS hP _ (xf_2 kf_3) rfl rfl ⟨Nat.le_of_ble_eq_true rfl, Nat.le_of_ble_eq_true rfl⟩ ⟨Nat.le_of_ble_eq_true rfl, Nat.le_of_ble_eq_true rfl⟩ rfl hl.1 rfl (Nat.le_of_ble_eq_true rfl) (oc_182 59 (aq_11 shX11_batchIs_48) uw_1_89)) (fun r_6 h_7 => ?_)
      subst h_7
      exact W.iret (v := ((if (Fn 146) mr_1 = 0 then 0 else (Fn 142) mr_1 / (Fn 146) mr_1))) hx hb hr (fun t ht hW => ⟨((if (Fn 146) mr_1 = 0 then 0 else (Fn 142) mr_1 / (Fn 146) mr_1)), rfl, (Or.inl ⟨by (first | omega | (have zz0 := Hid.u hb_cn; omega)), by rw [show v0.toInt.toNat = mr_1 by (first | omega | (have zz0 := Hid.u hb_cn; omega))]; first | exact Or.inl ⟨by assumption, rfl⟩ | exact Or.inr (Or.inl ⟨by assumption, rfl⟩) | exact Or.inr (Or.inr (Or.inl ⟨by assumption, rfl⟩)) | exact Or.inr (Or.inr (Or.inr (Or.inr ⟨by assumption, rfl⟩)))⟩), ht⟩) (fun _ h => absurd h List.not_mem_nil) (oc_172 62 (aq_14 shX11_batchIs_48))
    ·
      refine lv_tableIn (tgt := 63) (off := 50) hx hb dX11_batchIs_13 (by (first | omega | (have zz0 := Hid.u hb_cn; omega))) (by (first | omega | (have zz0 := Hid.u hb_cn; omega))) (by rw [c_3]; rfl) (by decide) ?_
      refine lv_aload_n hx hb (oc_45 63 (aq_15 shX11_batchIs_48)) rfl (lvA0 hl) ?_
      have kf_4 : mr_1 < cn 12 := by (first | omega | (have zz0 := Hid.u hb_cn; omega))
      refine gf_RX11_342 S hK hP _ (xf_2 kf_4) (v := .int ((Fn 146) mr_1)) rfl (oc_180 64 (aq_16 shX11_batchIs_48) uw_1_86) ?_
      refine lv_aload_n hx hb (oc_42 67 (aq_19 shX11_batchIs_48)) rfl (lvA1 hl) ?_
      refine lv_iload_n hx hb (oc_27 68 (aq_20 shX11_batchIs_48)) rfl (lvA2 hl) ?_
      refine lv_iconst (v := (-1)) hx hb (oc_2 69 (aq_21 shX11_batchIs_48)) kic_m1 ?_
      refine vp_callSi (runV_rxa (As := [.int v0, .int (-1)]) (rest := [.int ((Fn 146) mr_1)]) S (q_EprovenLitres l D cI cB cZ zz qq vv bt g ad cn In Fn v0 (-1) M0 hB hpf) kV_RX11_385 hK hXS hS hP 0 xo_0 rfl rfl ⟨Nat.le_of_ble_eq_true rfl, Nat.le_of_ble_eq_true rfl⟩ ⟨Nat.le_of_ble_eq_true rfl, Nat.le_of_ble_eq_true rfl⟩ rfl hl.1 rfl (Nat.le_of_ble_eq_true rfl) (oc_182 70 (aq_22 shX11_batchIs_48) uw_1_129)) (fun r_8 h_9 => ?_)
      refine lv_isub hx hb (oc_100 73 shX11_batchIs_73) ?_
      exact W.iret (v := (((Fn 146) mr_1) - r_8)) hx hb hr (fun t ht hW => ⟨(((Fn 146) mr_1) - r_8), rfl, (Or.inl ⟨by (first | omega | (have zz0 := Hid.u hb_cn; omega)), by rw [show v0.toInt.toNat = mr_1 by (first | omega | (have zz0 := Hid.u hb_cn; omega))]; first | exact Or.inr (Or.inr (Or.inr (Or.inl ⟨by assumption, _, h_9, rfl⟩)))⟩), ht⟩) (fun _ h => absurd h List.not_mem_nil) (oc_172 74 (aq_1 shX11_batchIs_73))
    ·
      refine lv_tableIn (tgt := 75) (off := 62) hx hb dX11_batchIs_13 (by (first | omega | (have zz0 := Hid.u hb_cn; omega))) (by (first | omega | (have zz0 := Hid.u hb_cn; omega))) (by rw [c_3]; rfl) (by decide) ?_
      refine lv_aload_n hx hb (oc_45 75 (aq_2 shX11_batchIs_73)) rfl (lvA0 hl) ?_
      have kf_5 : mr_1 < cn 12 := by (first | omega | (have zz0 := Hid.u hb_cn; omega))
      refine gf_RX11_388 S hK hP _ (xf_2 kf_5) (v := .int ((Fn 144) mr_1)) rfl (oc_180 76 (aq_3 shX11_batchIs_73) uw_1_132) ?_
      exact W.iret (v := ((Fn 144) mr_1)) hx hb hr (fun t ht hW => ⟨((Fn 144) mr_1), rfl, (Or.inl ⟨by (first | omega | (have zz0 := Hid.u hb_cn; omega)), by rw [show v0.toInt.toNat = mr_1 by (first | omega | (have zz0 := Hid.u hb_cn; omega))]; first | exact Or.inl ⟨by assumption, rfl⟩ | exact Or.inr (Or.inl ⟨by assumption, rfl⟩) | exact Or.inr (Or.inr (Or.inl ⟨by assumption, rfl⟩)) | exact Or.inr (Or.inr (Or.inr (Or.inr ⟨by assumption, rfl⟩)))⟩), ht⟩) (fun _ h => absurd h List.not_mem_nil) (oc_172 79 (aq_6 shX11_batchIs_73))
  ·
    refine lv_astore_nN (lv' := [(3, .null), (0, .ref (g 0)), (1, .int v0), (2, .int v1)]) hx hb dX11_batchIs_5 rfl hl (ltb rfl) rfl (fun ls hl => ?_)
    refine lv_aload_nN hx hb dX11_batchIs_6 rfl (lvA0 hl) ?_
    refine lv_ifnonnullN hx hb dX11_batchIs_7 ?_
    refine lv_iconst (v := (-1)) hx hb (oc_2 10 (aq_10 shX11_batchIs_0)) kic_m1 ?_
    exact W.iret (v := (-1)) hx hb hr (fun t ht hW => ⟨(-1), rfl, (Or.inr ⟨by (first | omega | (have zz0 := Hid.u hb_cn; omega)), rfl⟩), ht⟩) (fun _ h => absurd h List.not_mem_nil) (oc_172 11 (aq_11 shX11_batchIs_0))
set_option maxRecDepth 100000 in
set_option maxHeartbeats 4000000 in
theorem q_batchIs9 (l : Launch) (D : va_G) (cI cB cZ : ClassId) (g : Nat → Nat) (cn : Nat → Nat) (In : Nat → Int32) (Fn : Nat → Nat → Int32) (v0 v1 : Int32) (sz : Nat) (hI : IM cn Fn) : Met l yX12_batchIs (CWS yX12_batchIs cX12_batchIs 3 (some .int)) (RM 3 0 0) (PBw [.ref (g 100), .int v0, .int v1] D cI cB cZ (wM cI cB cZ g cn In Fn) sz) (va_Qi (fun (r : Int32) (u : (Nat → Nat) × (Nat → Int32) × (Nat → Nat → Int32)) => (fun r c2 I2 F2 => Fr [] [71, 72, 73] [] cn In Fn c2 I2 F2 ∧ IM c2 F2 ∧ ((((0 ≤ v0.toInt ∧ v0.toInt < (cn 62 : Int)) ∧ 0 ≤ v1.toInt ∧ v1.toInt ≤ 4) ∧ ((v1.toInt = 0 ∧ r = mxI (Fn 10) (Fn 64 v0.toInt.toNat) 20) ∨ (v1.toInt = 1 ∧ r = (if mxI (Fn 10) (Fn 64 v0.toInt.toNat) 20 = 0 then 0 else mxI (fun i => Fn 10 i * Fn 11 i) (Fn 64 v0.toInt.toNat) 20 / mxI (Fn 10) (Fn 64 v0.toInt.toNat) 20)) ∨ (v1.toInt = 2 ∧ r = (if mxI (Fn 10) (Fn 64 v0.toInt.toNat) 20 = 0 then 0 else mxI (fun i => Fn 10 i * Fn 12 i) (Fn 64 v0.toInt.toNat) 20 / mxI (Fn 10) (Fn 64 v0.toInt.toNat) 20)) ∨ (v1.toInt = 3 ∧ ∃ x : Int32, CNT (COV (fun p => Fn 67 p = nI v0.toInt.toNat ∧ ((-1 : Int32) = -1 ∨ Fn 70 p = (-1))) (Fn 68) (Fn 69) (cn 63)) (mixN (Fn 10) (Fn 64 v0.toInt.toNat) 20) x ∧ r = nI (mixN (Fn 10) (Fn 64 v0.toInt.toNat) 20) - x) ∨ (v1.toInt = 4 ∧ r = Fn 64 v0.toInt.toNat))) ∨ (¬ ((0 ≤ v0.toInt ∧ v0.toInt < (cn 62 : Int)) ∧ 0 ≤ v1.toInt ∧ v1.toInt ≤ 4) ∧ r = -1))) r u.1 u.2.1 u.2.2) (fun (u : (Nat → Nat) × (Nat → Int32) × (Nat → Nat → Int32)) (t : State) => va_P D vwCl (wM cI cB cZ g u.1 u.2.1 u.2.2) t.heap ∧ va_D (va_A (wM cI cB cZ g cn In Fn) sz) (wM cI cB cZ g u.1 u.2.1 u.2.2)) (va_A (wM cI cB cZ g cn In Fn) sz)) 0 0 (va_A (wM cI cB cZ g cn In Fn) sz) := by
  refine en_w (fun A => (va_Qi (fun (r : Int32) (u : (Nat → Nat) × (Nat → Int32) × (Nat → Nat → Int32)) => (fun (r : Int32) (c2 : Nat → Nat) (I2 : Nat → Int32) (F2 : Nat → Nat → Int32) => Fr [] [71, 72, 73] [] cn In Fn c2 I2 F2 ∧ IM c2 F2 ∧ ((((0 ≤ v0.toInt ∧ v0.toInt < (cn 62 : Int)) ∧ 0 ≤ v1.toInt ∧ v1.toInt ≤ 4) ∧ ((v1.toInt = 0 ∧ r = mxI (Fn 10) (Fn 64 v0.toInt.toNat) 20) ∨ (v1.toInt = 1 ∧ r = (if mxI (Fn 10) (Fn 64 v0.toInt.toNat) 20 = 0 then 0 else mxI (fun i => Fn 10 i * Fn 11 i) (Fn 64 v0.toInt.toNat) 20 / mxI (Fn 10) (Fn 64 v0.toInt.toNat) 20)) ∨ (v1.toInt = 2 ∧ r = (if mxI (Fn 10) (Fn 64 v0.toInt.toNat) 20 = 0 then 0 else mxI (fun i => Fn 10 i * Fn 12 i) (Fn 64 v0.toInt.toNat) 20 / mxI (Fn 10) (Fn 64 v0.toInt.toNat) 20)) ∨ (v1.toInt = 3 ∧ ∃ x : Int32, CNT (COV (fun p => Fn 67 p = nI v0.toInt.toNat ∧ ((-1 : Int32) = -1 ∨ Fn 70 p = (-1))) (Fn 68) (Fn 69) (cn 63)) (mixN (Fn 10) (Fn 64 v0.toInt.toNat) 20) x ∧ r = nI (mixN (Fn 10) (Fn 64 v0.toInt.toNat) 20) - x) ∨ (v1.toInt = 4 ∧ r = Fn 64 v0.toInt.toNat))) ∨ (¬ ((0 ≤ v0.toInt ∧ v0.toInt < (cn 62 : Int)) ∧ 0 ≤ v1.toInt ∧ v1.toInt ≤ 4) ∧ r = -1))) r u.1 u.2.1 u.2.2) (fun (u : (Nat → Nat) × (Nat → Int32) × (Nat → Nat → Int32)) (t : State) => va_P D vwCl (wM cI cB cZ g u.1 u.2.1 u.2.2) t.heap ∧ va_D A (wM cI cB cZ g u.1 u.2.1 u.2.2)) A)) rfl rfl pn_RX12 (Nat.le_of_ble_eq_true rfl) (fun p e s m below meth c A hx hb hml hown S hr hlocks hnm hA hP hK hD hS ls hl => ?_)
  have hl : lv_has ls 3 [(0, .ref (g 100)), (1, .int v0), (2, .int v1)] := hl
  have hi_cn : Hid (CB cn) := hI.b
  refine lv_aload_n hx hb (oc_42 0 shX12_batchIs_0) rfl (lvA0 hl) ?_
  refine lv_iload_n hx hb (oc_27 1 (aq_1 shX12_batchIs_0)) rfl (lvA1 hl) ?_
  refine vp_callSi (runV_ra (As := [.int v0]) (rest := []) S (q_isBatch l D cI cB cZ g cn In Fn v0 hI) kV_RX12_450 hK hP 0 rfl rfl rfl ⟨Nat.le_of_ble_eq_true rfl, Nat.le_of_ble_eq_true rfl⟩ ⟨Nat.le_of_ble_eq_true rfl, Nat.le_of_ble_eq_true rfl⟩ rfl hl.1 rfl (Nat.le_of_ble_eq_true rfl) (oc_182 2 (aq_2 shX12_batchIs_0) uw_1_194)) (fun r_1 h_2 => ?_)
  rcases h_2 with ⟨rfl, h_2⟩ | ⟨rfl, h_2⟩
  ·
    have h_2 : 0 ≤ v0.toInt ∧ v0.toInt < ((cn 62) : Int) := h_2
    refine lv_if_eq (tgt := 17) hx hb dX12_batchIs_5 rfl (fun h => absurd h cq_eq_1_0) (fun _ => ?_)
    refine lv_iload_n hx hb (oc_28 8 (aq_8 shX12_batchIs_0)) rfl (lvA2 hl) ?_
    refine lv_iconst (v := 0) hx hb (oc_3 9 (aq_9 shX12_batchIs_0)) kic_0 ?_
    refine lv_iconst (v := 4) hx hb (oc_7 10 (aq_10 shX12_batchIs_0)) kic_4 ?_
    refine vp_callSi (runS_r (As := [.int v1, .int 0, .int 4]) (rest := []) S (q_in l D cI cB cZ v1 0 4 ) kS_RX12_214 hK hP [] rfl ⟨Nat.le_of_ble_eq_true rfl, Nat.le_of_ble_eq_true rfl⟩ ⟨Nat.le_of_ble_eq_true rfl, Nat.le_of_ble_eq_true rfl⟩ rfl hl.1 rfl (Nat.le_of_ble_eq_true rfl) (oc_184 11 (aq_11 shX12_batchIs_0) uw_0_214)) (fun r_3 h_4 => ?_)
    rcases h_4 with ⟨rfl, h_4⟩ | ⟨rfl, h_4⟩
    ·
      have h_4 : 0 ≤ v1.toInt ∧ v1.toInt ≤ 4 := h_4
      refine lv_if_ne (tgt := 19) hx hb dX12_batchIs_14 rfl (fun _ => ?_) (fun h => absurd h cq_eq_1_0)
      obtain ⟨d0, hd0, rfl⟩ := nI_of (x := v0) (fun q => by have := Int32.lt_iff_toInt_lt.mp q; have e : (0 : Int32).toInt = 0 := rfl; (first | omega | (have zz0 := Hid.u hi_cn; omega)))
      have td0 : (nI d0).toInt = (d0 : Int) := nI_toInt hd0
      have zd0 : (nI d0).toInt.toNat = d0 := by (first | omega | (have zz0 := Hid.u hi_cn; omega))
      refine lv_aload_n hx hb (oc_42 19 (aq_19 shX12_batchIs_0)) rfl (lvA0 hl) ?_
      refine lv_aload_n hx hb (oc_42 20 (aq_20 shX12_batchIs_0)) rfl (lvA0 hl) ?_
      refine gM_138 S hK hP (v := .ref (g 64)) rfl (oc_180 21 (aq_21 shX12_batchIs_0) uw_0_138) ?_
      refine lv_iload_n hx hb (oc_27 24 shX12_batchIs_24) rfl (lvA1 hl) ?_
      have kb_1 : d0 < 10 := by (first | omega | (have zz0 := Hid.u hi_cn; omega))
      refine ldM_64 hx hb hK hP (x := ((Fn 64) d0)) (vp_in_nI kb_1 (ltb rfl)) (nI_clamp (Nat.lt_trans kb_1 (ltb rfl))) rfl (oc_46 25 (aq_1 shX12_batchIs_24)) ?_
      have hFc := free_all hD hS hA
      refine va_callv (runV_a (As := [.int ((Fn 64) d0)]) (rest := []) S (q_mixes9 l D cI cB cZ g cn In Fn ((Fn 64) d0) s.heap.size hI) kV_RX12_428 hK hP hD 0 rfl rfl rfl ⟨Nat.le_of_ble_eq_true rfl, Nat.le_of_ble_eq_true rfl⟩ ⟨Nat.le_of_ble_eq_true rfl, Nat.le_of_ble_eq_true rfl⟩ rfl hl.1 rfl (Nat.le_of_ble_eq_true rfl) (oc_182 26 (aq_2 shX12_batchIs_24) uw_1_172)) hS (fun q _ h => hFc q h) hFc (fun u t H1 locs ht hvm wh_6 hB hz1 hk1 hS => ?_)
      obtain ⟨cn6, In6, Fn6⟩ := u
      obtain ⟨hP1, hD1⟩ := hB
      rw [ht] at hP1
      have hP : va_P D vwCl (wM cI cB cZ g cn6 In6 Fn6) H1 := hP1
      have hD : va_D A (wM cI cB cZ g cn6 In6 Fn6) := hD1.weaken (fun _ _ _ h => hFc _ h)
      generalize H1 = H at hP hS ⊢
      have vh_6 : (fun c2 I2 F2 => Fr [] [71, 72, 73] [] cn In Fn c2 I2 F2 ∧ IM c2 F2 ∧ (I2 71 = mxI ((Fn 10)) ((Fn 64) d0) 20 ∧ I2 72 = (if mxI ((Fn 10)) ((Fn 64) d0) 20 = 0 then 0 else mxI (fun i => (Fn 10) i * (Fn 11) i) ((Fn 64) d0) 20 / mxI ((Fn 10)) ((Fn 64) d0) 20) ∧ I2 73 = (if mxI ((Fn 10)) ((Fn 64) d0) 20 = 0 then 0 else mxI (fun i => (Fn 10) i * (Fn 12) i) ((Fn 64) d0) 20 / mxI ((Fn 10)) ((Fn 64) d0) 20))) cn6 In6 Fn6 := wh_6
      obtain ⟨hfc6, hIn6, h_6⟩ := vh_6
      obtain rfl : cn = cn6 := (funext (fun k => hfc6.1 k List.not_mem_nil)).symm
      obtain rfl : Fn = Fn6 := (funext (fun k => hfc6.2.2 k List.not_mem_nil)).symm
      have hf6 : Fr [] [71, 72, 73] [] cn In Fn cn In6 Fn := Fr.mo (Fr.tr (Fr.rf (cn := cn) (In := In) (Fn := Fn)) hfc6) (sbl rfl) (sbl rfl) (sbl rfl)
      have hi_cn : Hid (CB cn) := hIn6.b
      obtain ⟨hx71, hx72, hx73⟩ := h_6
      refine lv_iload_n hx hb (oc_28 29 (aq_5 shX12_batchIs_24)) rfl (lvA2 hl) ?_
      rcases (by (first | omega | (have zz0 := Hid.u hi_cn; omega)) : v1.toInt < 0 ∨ 3 < v1.toInt ∨ v1.toInt = 0 ∨ v1.toInt = 1 ∨ v1.toInt = 2 ∨ v1.toInt = 3) with c_7 | c_7 | c_7 | c_7 | c_7 | c_7
      ·
        exfalso; (first | omega | (have zz0 := Hid.u hi_cn; omega))
      ·
        refine lv_tableOut (tgt := 88) hx hb dX12_batchIs_30 (Or.inr c_7) (by decide) ?_
        refine lv_aload_n hx hb (oc_42 88 (aq_2 shX12_batchIs_86)) rfl (lvA0 hl) ?_
        refine gM_138 S hK hP (v := .ref (g 64)) rfl (oc_180 89 (aq_3 shX12_batchIs_86) uw_0_138) ?_
        refine lv_iload_n hx hb (oc_27 92 (aq_6 shX12_batchIs_86)) rfl (lvA1 hl) ?_
        refine ldM_64 hx hb hK hP (x := ((Fn 64) d0)) (vp_in_nI kb_1 (ltb rfl)) (nI_clamp (Nat.lt_trans kb_1 (ltb rfl))) rfl (oc_46 93 (aq_7 shX12_batchIs_86)) ?_
        exact W.iret (v := ((Fn 64) d0)) hx hb hr (fun t ht hW => ⟨⟨((Fn 64) d0), (cn, In6, Fn), rfl, ⟨(Fr.mo hf6 (sbl rfl) (sbl rfl) (sbl rfl)), hIn6, (by show (((0 ≤ (nI d0).toInt ∧ (nI d0).toInt < (cn 62 : Int)) ∧ 0 ≤ v1.toInt ∧ v1.toInt ≤ 4) ∧ ((v1.toInt = 0 ∧ ((Fn 64) d0) = mxI (Fn 10) (Fn 64 (nI d0).toInt.toNat) 20) ∨ (v1.toInt = 1 ∧ ((Fn 64) d0) = (if mxI (Fn 10) (Fn 64 (nI d0).toInt.toNat) 20 = 0 then 0 else mxI (fun i => Fn 10 i * Fn 11 i) (Fn 64 (nI d0).toInt.toNat) 20 / mxI (Fn 10) (Fn 64 (nI d0).toInt.toNat) 20)) ∨ (v1.toInt = 2 ∧ ((Fn 64) d0) = (if mxI (Fn 10) (Fn 64 (nI d0).toInt.toNat) 20 = 0 then 0 else mxI (fun i => Fn 10 i * Fn 12 i) (Fn 64 (nI d0).toInt.toNat) 20 / mxI (Fn 10) (Fn 64 (nI d0).toInt.toNat) 20)) ∨ (v1.toInt = 3 ∧ ∃ x : Int32, CNT (COV (fun p => Fn 67 p = nI (nI d0).toInt.toNat ∧ ((-1 : Int32) = -1 ∨ Fn 70 p = (-1))) (Fn 68) (Fn 69) (cn 63)) (mixN (Fn 10) (Fn 64 (nI d0).toInt.toNat) 20) x ∧ ((Fn 64) d0) = nI (mixN (Fn 10) (Fn 64 (nI d0).toInt.toNat) 20) - x) ∨ (v1.toInt = 4 ∧ ((Fn 64) d0) = Fn 64 (nI d0).toInt.toNat))) ∨ (¬ ((0 ≤ (nI d0).toInt ∧ (nI d0).toInt < (cn 62 : Int)) ∧ 0 ≤ v1.toInt ∧ v1.toInt ≤ 4) ∧ ((Fn 64) d0) = -1); exact Or.inl ⟨by (first | omega | (have zz0 := Hid.u hi_cn; omega)), by rw [zd0]; first | exact Or.inl ⟨by assumption, hx71⟩ | exact Or.inr (Or.inl ⟨by assumption, hx72⟩) | exact Or.inr (Or.inr (Or.inl ⟨by assumption, hx73⟩)) | exact Or.inr (Or.inr (Or.inr (Or.inr ⟨by (first | omega | (have zz0 := Hid.u hi_cn; omega)), rfl⟩)))⟩)⟩, by rw [ht]; exact hP, hD⟩, hS.F ht⟩) hS.2.2 (oc_172 94 (aq_8 shX12_batchIs_86))
      ·
        refine lv_tableIn (tgt := 60) (off := 30) hx hb dX12_batchIs_30 (by (first | omega | (have zz0 := Hid.u hi_cn; omega))) (by (first | omega | (have zz0 := Hid.u hi_cn; omega))) (by rw [c_7]; rfl) (by decide) ?_
        refine lv_aload_n hx hb (oc_42 60 shX12_batchIs_60) rfl (lvA0 hl) ?_
        refine gM_419 S hK hP (v := .int (In6 71)) rfl (oc_180 61 (aq_1 shX12_batchIs_60) uw_1_163) ?_
        exact W.iret (v := (In6 71)) hx hb hr (fun t ht hW => ⟨⟨(In6 71), (cn, In6, Fn), rfl, ⟨(Fr.mo hf6 (sbl rfl) (sbl rfl) (sbl rfl)), hIn6, (by show (((0 ≤ (nI d0).toInt ∧ (nI d0).toInt < (cn 62 : Int)) ∧ 0 ≤ v1.toInt ∧ v1.toInt ≤ 4) ∧ ((v1.toInt = 0 ∧ (In6 71) = mxI (Fn 10) (Fn 64 (nI d0).toInt.toNat) 20) ∨ (v1.toInt = 1 ∧ (In6 71) = (if mxI (Fn 10) (Fn 64 (nI d0).toInt.toNat) 20 = 0 then 0 else mxI (fun i => Fn 10 i * Fn 11 i) (Fn 64 (nI d0).toInt.toNat) 20 / mxI (Fn 10) (Fn 64 (nI d0).toInt.toNat) 20)) ∨ (v1.toInt = 2 ∧ (In6 71) = (if mxI (Fn 10) (Fn 64 (nI d0).toInt.toNat) 20 = 0 then 0 else mxI (fun i => Fn 10 i * Fn 12 i) (Fn 64 (nI d0).toInt.toNat) 20 / mxI (Fn 10) (Fn 64 (nI d0).toInt.toNat) 20)) ∨ (v1.toInt = 3 ∧ ∃ x : Int32, CNT (COV (fun p => Fn 67 p = nI (nI d0).toInt.toNat ∧ ((-1 : Int32) = -1 ∨ Fn 70 p = (-1))) (Fn 68) (Fn 69) (cn 63)) (mixN (Fn 10) (Fn 64 (nI d0).toInt.toNat) 20) x ∧ (In6 71) = nI (mixN (Fn 10) (Fn 64 (nI d0).toInt.toNat) 20) - x) ∨ (v1.toInt = 4 ∧ (In6 71) = Fn 64 (nI d0).toInt.toNat))) ∨ (¬ ((0 ≤ (nI d0).toInt ∧ (nI d0).toInt < (cn 62 : Int)) ∧ 0 ≤ v1.toInt ∧ v1.toInt ≤ 4) ∧ (In6 71) = -1); exact Or.inl ⟨by (first | omega | (have zz0 := Hid.u hi_cn; omega)), by rw [zd0]; first | exact Or.inl ⟨by assumption, hx71⟩ | exact Or.inr (Or.inl ⟨by assumption, hx72⟩) | exact Or.inr (Or.inr (Or.inl ⟨by assumption, hx73⟩)) | exact Or.inr (Or.inr (Or.inr (Or.inr ⟨by (first | omega | (have zz0 := Hid.u hi_cn; omega)), rfl⟩)))⟩)⟩, by rw [ht]; exact hP, hD⟩, hS.F ht⟩) hS.2.2 (oc_172 64 (aq_4 shX12_batchIs_60))
      ·
        refine lv_tableIn (tgt := 65) (off := 35) hx hb dX12_batchIs_30 (by (first | omega | (have zz0 := Hid.u hi_cn; omega))) (by (first | omega | (have zz0 := Hid.u hi_cn; omega))) (by rw [c_7]; rfl) (by decide) ?_
        refine lv_aload_n hx hb (oc_42 65 (aq_5 shX12_batchIs_60)) rfl (lvA0 hl) ?_
        refine gM_422 S hK hP (v := .int (In6 72)) rfl (oc_180 66 (aq_6 shX12_batchIs_60) uw_1_166) ?_
        exact W.iret (v := (In6 72)) hx hb hr (fun t ht hW => ⟨⟨(In6 72), (cn, In6, Fn), rfl, ⟨(Fr.mo hf6 (sbl rfl) (sbl rfl) (sbl rfl)), hIn6, (by show (((0 ≤ (nI d0).toInt ∧ (nI d0).toInt < (cn 62 : Int)) ∧ 0 ≤ v1.toInt ∧ v1.toInt ≤ 4) ∧ ((v1.toInt = 0 ∧ (In6 72) = mxI (Fn 10) (Fn 64 (nI d0).toInt.toNat) 20) ∨ (v1.toInt = 1 ∧ (In6 72) = (if mxI (Fn 10) (Fn 64 (nI d0).toInt.toNat) 20 = 0 then 0 else mxI (fun i => Fn 10 i * Fn 11 i) (Fn 64 (nI d0).toInt.toNat) 20 / mxI (Fn 10) (Fn 64 (nI d0).toInt.toNat) 20)) ∨ (v1.toInt = 2 ∧ (In6 72) = (if mxI (Fn 10) (Fn 64 (nI d0).toInt.toNat) 20 = 0 then 0 else mxI (fun i => Fn 10 i * Fn 12 i) (Fn 64 (nI d0).toInt.toNat) 20 / mxI (Fn 10) (Fn 64 (nI d0).toInt.toNat) 20)) ∨ (v1.toInt = 3 ∧ ∃ x : Int32, CNT (COV (fun p => Fn 67 p = nI (nI d0).toInt.toNat ∧ ((-1 : Int32) = -1 ∨ Fn 70 p = (-1))) (Fn 68) (Fn 69) (cn 63)) (mixN (Fn 10) (Fn 64 (nI d0).toInt.toNat) 20) x ∧ (In6 72) = nI (mixN (Fn 10) (Fn 64 (nI d0).toInt.toNat) 20) - x) ∨ (v1.toInt = 4 ∧ (In6 72) = Fn 64 (nI d0).toInt.toNat))) ∨ (¬ ((0 ≤ (nI d0).toInt ∧ (nI d0).toInt < (cn 62 : Int)) ∧ 0 ≤ v1.toInt ∧ v1.toInt ≤ 4) ∧ (In6 72) = -1); exact Or.inl ⟨by (first | omega | (have zz0 := Hid.u hi_cn; omega)), by rw [zd0]; first | exact Or.inl ⟨by assumption, hx71⟩ | exact Or.inr (Or.inl ⟨by assumption, hx72⟩) | exact Or.inr (Or.inr (Or.inl ⟨by assumption, hx73⟩)) | exact Or.inr (Or.inr (Or.inr (Or.inr ⟨by (first | omega | (have zz0 := Hid.u hi_cn; omega)), rfl⟩)))⟩)⟩, by rw [ht]; exact hP, hD⟩, hS.F ht⟩) hS.2.2 (oc_172 69 (aq_9 shX12_batchIs_60))
      ·
        refine lv_tableIn (tgt := 70) (off := 40) hx hb dX12_batchIs_30 (by (first | omega | (have zz0 := Hid.u hi_cn; omega))) (by (first | omega | (have zz0 := Hid.u hi_cn; omega))) (by rw [c_7]; rfl) (by decide) ?_
        refine lv_aload_n hx hb (oc_42 70 (aq_10 shX12_batchIs_60)) rfl (lvA0 hl) ?_
        refine gM_425 S hK hP (v := .int (In6 73)) rfl (oc_180 71 (aq_11 shX12_batchIs_60) uw_1_169) ?_
        exact W.iret (v := (In6 73)) hx hb hr (fun t ht hW => ⟨⟨(In6 73), (cn, In6, Fn), rfl, ⟨(Fr.mo hf6 (sbl rfl) (sbl rfl) (sbl rfl)), hIn6, (by show (((0 ≤ (nI d0).toInt ∧ (nI d0).toInt < (cn 62 : Int)) ∧ 0 ≤ v1.toInt ∧ v1.toInt ≤ 4) ∧ ((v1.toInt = 0 ∧ (In6 73) = mxI (Fn 10) (Fn 64 (nI d0).toInt.toNat) 20) ∨ (v1.toInt = 1 ∧ (In6 73) = (if mxI (Fn 10) (Fn 64 (nI d0).toInt.toNat) 20 = 0 then 0 else mxI (fun i => Fn 10 i * Fn 11 i) (Fn 64 (nI d0).toInt.toNat) 20 / mxI (Fn 10) (Fn 64 (nI d0).toInt.toNat) 20)) ∨ (v1.toInt = 2 ∧ (In6 73) = (if mxI (Fn 10) (Fn 64 (nI d0).toInt.toNat) 20 = 0 then 0 else mxI (fun i => Fn 10 i * Fn 12 i) (Fn 64 (nI d0).toInt.toNat) 20 / mxI (Fn 10) (Fn 64 (nI d0).toInt.toNat) 20)) ∨ (v1.toInt = 3 ∧ ∃ x : Int32, CNT (COV (fun p => Fn 67 p = nI (nI d0).toInt.toNat ∧ ((-1 : Int32) = -1 ∨ Fn 70 p = (-1))) (Fn 68) (Fn 69) (cn 63)) (mixN (Fn 10) (Fn 64 (nI d0).toInt.toNat) 20) x ∧ (In6 73) = nI (mixN (Fn 10) (Fn 64 (nI d0).toInt.toNat) 20) - x) ∨ (v1.toInt = 4 ∧ (In6 73) = Fn 64 (nI d0).toInt.toNat))) ∨ (¬ ((0 ≤ (nI d0).toInt ∧ (nI d0).toInt < (cn 62 : Int)) ∧ 0 ≤ v1.toInt ∧ v1.toInt ≤ 4) ∧ (In6 73) = -1); exact Or.inl ⟨by (first | omega | (have zz0 := Hid.u hi_cn; omega)), by rw [zd0]; first | exact Or.inl ⟨by assumption, hx71⟩ | exact Or.inr (Or.inl ⟨by assumption, hx72⟩) | exact Or.inr (Or.inr (Or.inl ⟨by assumption, hx73⟩)) | exact Or.inr (Or.inr (Or.inr (Or.inr ⟨by (first | omega | (have zz0 := Hid.u hi_cn; omega)), rfl⟩)))⟩)⟩, by rw [ht]; exact hP, hD⟩, hS.F ht⟩) hS.2.2 (oc_172 74 (aq_14 shX12_batchIs_60))
      ·
        refine lv_tableIn (tgt := 75) (off := 45) hx hb dX12_batchIs_30 (by (first | omega | (have zz0 := Hid.u hi_cn; omega))) (by (first | omega | (have zz0 := Hid.u hi_cn; omega))) (by rw [c_7]; rfl) (by decide) ?_
        refine lv_aload_n hx hb (oc_42 75 (aq_15 shX12_batchIs_60)) rfl (lvA0 hl) ?_
        refine lv_iload_n hx hb (oc_27 76 (aq_16 shX12_batchIs_60)) rfl (lvA1 hl) ?_
        have hFc := free_all hD hS hA
        refine va_calli (runV_a (As := [.int (nI d0)]) (rest := []) S (q_litresOf l D cI cB cZ g cn In6 Fn d0 H.size hIn6 (by (first | omega | (have zz0 := Hid.u hi_cn; omega)))) kV_RX12_444 hK hP hD 0 rfl rfl rfl ⟨Nat.le_of_ble_eq_true rfl, Nat.le_of_ble_eq_true rfl⟩ ⟨Nat.le_of_ble_eq_true rfl, Nat.le_of_ble_eq_true rfl⟩ rfl hl.1 rfl (Nat.le_of_ble_eq_true rfl) (oc_182 77 (aq_17 shX12_batchIs_60) uw_1_188)) hS (fun q _ h => hFc q h) hFc (fun r_8 u t H1 locs ht hvm wh_9 hB hz1 hk1 hS => ?_)
        obtain ⟨cn9, In9, Fn9⟩ := u
        obtain ⟨hP1, hD1⟩ := hB
        rw [ht] at hP1
        have hP : va_P D vwCl (wM cI cB cZ g cn9 In9 Fn9) H1 := hP1
        have hD : va_D A (wM cI cB cZ g cn9 In9 Fn9) := hD1.weaken (fun _ _ _ h => hFc _ h)
        generalize H1 = H at hP hS ⊢
        have vh_9 : (fun r c2 I2 F2 => Fr [] [71, 72, 73] [] cn In6 Fn c2 I2 F2 ∧ IM c2 F2 ∧ (r = nI (mixN ((Fn 10)) ((Fn 64) d0) 20))) r_8 cn9 In9 Fn9 := wh_9
        obtain ⟨hfc9, hIn9, h_9⟩ := vh_9
        obtain rfl : cn = cn9 := (funext (fun k => hfc9.1 k List.not_mem_nil)).symm
        obtain rfl : Fn = Fn9 := (funext (fun k => hfc9.2.2 k List.not_mem_nil)).symm
        have hf9 : Fr [] [71, 72, 73] [] cn In Fn cn In9 Fn := Fr.mo (Fr.tr hf6 hfc9) (sbl rfl) (sbl rfl) (sbl rfl)
        have hi_cn : Hid (CB cn) := hIn9.b
        subst h_9
        refine lv_aload_n hx hb (oc_42 80 (aq_20 shX12_batchIs_60)) rfl (lvA0 hl) ?_
        refine lv_iload_n hx hb (oc_27 81 (aq_21 shX12_batchIs_60)) rfl (lvA1 hl) ?_
        refine lv_iconst (v := (-1)) hx hb (oc_2 82 (aq_22 shX12_batchIs_60)) kic_m1 ?_
        have hFc := free_all hD hS hA
        refine va_calli (runV_a (As := [.int (nI d0), .int (-1)]) (rest := [.int (nI (mixN ((Fn 10)) ((Fn 64) d0) 20))]) S (q_proved9 l D cI cB cZ g cn In9 Fn d0 (-1) H.size hIn9 (by (first | omega | (have zz0 := Hid.u hi_cn; omega)))) kV_RX12_453 hK hP hD 0 rfl rfl rfl ⟨Nat.le_of_ble_eq_true rfl, Nat.le_of_ble_eq_true rfl⟩ ⟨Nat.le_of_ble_eq_true rfl, Nat.le_of_ble_eq_true rfl⟩ rfl hl.1 rfl (Nat.le_of_ble_eq_true rfl) (oc_182 83 (aq_23 shX12_batchIs_60) uw_1_197)) hS (fun q _ h => hFc q h) hFc (fun r_10 u t H1 locs ht hvm wh_11 hB hz1 hk1 hS => ?_)
        obtain ⟨cn11, In11, Fn11⟩ := u
        obtain ⟨hP1, hD1⟩ := hB
        rw [ht] at hP1
        have hP : va_P D vwCl (wM cI cB cZ g cn11 In11 Fn11) H1 := hP1
        have hD : va_D A (wM cI cB cZ g cn11 In11 Fn11) := hD1.weaken (fun _ _ _ h => hFc _ h)
        generalize H1 = H at hP hS ⊢
        have vh_11 : (fun r c2 I2 F2 => Fr [] [71, 72, 73] [] cn In9 Fn c2 I2 F2 ∧ IM c2 F2 ∧ (CNT (COV (fun p => (Fn 67) p = nI d0 ∧ (((-1) : Int32) = -1 ∨ (Fn 70) p = (-1))) ((Fn 68)) ((Fn 69)) ((cn 63))) (mixN ((Fn 10)) ((Fn 64) d0) 20) r)) r_10 cn11 In11 Fn11 := wh_11
        obtain ⟨hfc11, hIn11, h_11⟩ := vh_11
        obtain rfl : cn = cn11 := (funext (fun k => hfc11.1 k List.not_mem_nil)).symm
        obtain rfl : Fn = Fn11 := (funext (fun k => hfc11.2.2 k List.not_mem_nil)).symm
        have hf11 : Fr [] [71, 72, 73] [] cn In Fn cn In11 Fn := Fr.mo (Fr.tr hf9 hfc11) (sbl rfl) (sbl rfl) (sbl rfl)
        have hi_cn : Hid (CB cn) := hIn11.b
        refine lv_isub hx hb (oc_100 86 shX12_batchIs_86) ?_
        exact W.iret (v := ((nI (mixN ((Fn 10)) ((Fn 64) d0) 20)) - r_10)) hx hb hr (fun t ht hW => ⟨⟨((nI (mixN ((Fn 10)) ((Fn 64) d0) 20)) - r_10), (cn, In11, Fn), rfl, ⟨(Fr.mo hf11 (sbl rfl) (sbl rfl) (sbl rfl)), hIn11, (by show (((0 ≤ (nI d0).toInt ∧ (nI d0).toInt < (cn 62 : Int)) ∧ 0 ≤ v1.toInt ∧ v1.toInt ≤ 4) ∧ ((v1.toInt = 0 ∧ ((nI (mixN ((Fn 10)) ((Fn 64) d0) 20)) - r_10) = mxI (Fn 10) (Fn 64 (nI d0).toInt.toNat) 20) ∨ (v1.toInt = 1 ∧ ((nI (mixN ((Fn 10)) ((Fn 64) d0) 20)) - r_10) = (if mxI (Fn 10) (Fn 64 (nI d0).toInt.toNat) 20 = 0 then 0 else mxI (fun i => Fn 10 i * Fn 11 i) (Fn 64 (nI d0).toInt.toNat) 20 / mxI (Fn 10) (Fn 64 (nI d0).toInt.toNat) 20)) ∨ (v1.toInt = 2 ∧ ((nI (mixN ((Fn 10)) ((Fn 64) d0) 20)) - r_10) = (if mxI (Fn 10) (Fn 64 (nI d0).toInt.toNat) 20 = 0 then 0 else mxI (fun i => Fn 10 i * Fn 12 i) (Fn 64 (nI d0).toInt.toNat) 20 / mxI (Fn 10) (Fn 64 (nI d0).toInt.toNat) 20)) ∨ (v1.toInt = 3 ∧ ∃ x : Int32, CNT (COV (fun p => Fn 67 p = nI (nI d0).toInt.toNat ∧ ((-1 : Int32) = -1 ∨ Fn 70 p = (-1))) (Fn 68) (Fn 69) (cn 63)) (mixN (Fn 10) (Fn 64 (nI d0).toInt.toNat) 20) x ∧ ((nI (mixN ((Fn 10)) ((Fn 64) d0) 20)) - r_10) = nI (mixN (Fn 10) (Fn 64 (nI d0).toInt.toNat) 20) - x) ∨ (v1.toInt = 4 ∧ ((nI (mixN ((Fn 10)) ((Fn 64) d0) 20)) - r_10) = Fn 64 (nI d0).toInt.toNat))) ∨ (¬ ((0 ≤ (nI d0).toInt ∧ (nI d0).toInt < (cn 62 : Int)) ∧ 0 ≤ v1.toInt ∧ v1.toInt ≤ 4) ∧ ((nI (mixN ((Fn 10)) ((Fn 64) d0) 20)) - r_10) = -1); exact Or.inl ⟨by (first | omega | (have zz0 := Hid.u hi_cn; omega)), by rw [zd0]; exact Or.inr (Or.inr (Or.inr (Or.inl ⟨by assumption, _, h_11, rfl⟩)))⟩)⟩, by rw [ht]; exact hP, hD⟩, hS.F ht⟩) hS.2.2 (oc_172 87 (aq_1 shX12_batchIs_86))
    ·
      have h_4 : ¬ (0 ≤ v1.toInt ∧ v1.toInt ≤ 4) := h_4
      refine lv_if_ne (tgt := 19) hx hb dX12_batchIs_14 rfl (fun h => absurd h cq_eq_0_0) (fun _ => ?_)
      refine lv_iconst (v := (-1)) hx hb dX12_batchIs_17 kic_m1 ?_
      exact W.iret (v := (-1)) hx hb hr (fun t ht hW => ⟨⟨(-1), (cn, In, Fn), rfl, ⟨(Fr.mo Fr.rf (sbl rfl) (sbl rfl) (sbl rfl)), hI, (by show (((0 ≤ v0.toInt ∧ v0.toInt < (cn 62 : Int)) ∧ 0 ≤ v1.toInt ∧ v1.toInt ≤ 4) ∧ ((v1.toInt = 0 ∧ (-1) = mxI (Fn 10) (Fn 64 v0.toInt.toNat) 20) ∨ (v1.toInt = 1 ∧ (-1) = (if mxI (Fn 10) (Fn 64 v0.toInt.toNat) 20 = 0 then 0 else mxI (fun i => Fn 10 i * Fn 11 i) (Fn 64 v0.toInt.toNat) 20 / mxI (Fn 10) (Fn 64 v0.toInt.toNat) 20)) ∨ (v1.toInt = 2 ∧ (-1) = (if mxI (Fn 10) (Fn 64 v0.toInt.toNat) 20 = 0 then 0 else mxI (fun i => Fn 10 i * Fn 12 i) (Fn 64 v0.toInt.toNat) 20 / mxI (Fn 10) (Fn 64 v0.toInt.toNat) 20)) ∨ (v1.toInt = 3 ∧ ∃ x : Int32, CNT (COV (fun p => Fn 67 p = nI v0.toInt.toNat ∧ ((-1 : Int32) = -1 ∨ Fn 70 p = (-1))) (Fn 68) (Fn 69) (cn 63)) (mixN (Fn 10) (Fn 64 v0.toInt.toNat) 20) x ∧ (-1) = nI (mixN (Fn 10) (Fn 64 v0.toInt.toNat) 20) - x) ∨ (v1.toInt = 4 ∧ (-1) = Fn 64 v0.toInt.toNat))) ∨ (¬ ((0 ≤ v0.toInt ∧ v0.toInt < (cn 62 : Int)) ∧ 0 ≤ v1.toInt ∧ v1.toInt ≤ 4) ∧ (-1) = -1); exact Or.inr ⟨by (first | omega | (have zz0 := Hid.u hi_cn; omega)), rfl⟩)⟩, by rw [ht]; exact hP, hD⟩, hS.F ht⟩) hS.2.2 dX12_batchIs_18
  ·
    have h_2 : ¬ (0 ≤ v0.toInt ∧ v0.toInt < ((cn 62) : Int)) := h_2
    refine lv_if_eq (tgt := 17) hx hb dX12_batchIs_5 rfl (fun _ => ?_) (fun h => absurd h cq_eq_0_0)
    refine lv_iconst (v := (-1)) hx hb dX12_batchIs_17 kic_m1 ?_
    exact W.iret (v := (-1)) hx hb hr (fun t ht hW => ⟨⟨(-1), (cn, In, Fn), rfl, ⟨(Fr.mo Fr.rf (sbl rfl) (sbl rfl) (sbl rfl)), hI, (by show (((0 ≤ v0.toInt ∧ v0.toInt < (cn 62 : Int)) ∧ 0 ≤ v1.toInt ∧ v1.toInt ≤ 4) ∧ ((v1.toInt = 0 ∧ (-1) = mxI (Fn 10) (Fn 64 v0.toInt.toNat) 20) ∨ (v1.toInt = 1 ∧ (-1) = (if mxI (Fn 10) (Fn 64 v0.toInt.toNat) 20 = 0 then 0 else mxI (fun i => Fn 10 i * Fn 11 i) (Fn 64 v0.toInt.toNat) 20 / mxI (Fn 10) (Fn 64 v0.toInt.toNat) 20)) ∨ (v1.toInt = 2 ∧ (-1) = (if mxI (Fn 10) (Fn 64 v0.toInt.toNat) 20 = 0 then 0 else mxI (fun i => Fn 10 i * Fn 12 i) (Fn 64 v0.toInt.toNat) 20 / mxI (Fn 10) (Fn 64 v0.toInt.toNat) 20)) ∨ (v1.toInt = 3 ∧ ∃ x : Int32, CNT (COV (fun p => Fn 67 p = nI v0.toInt.toNat ∧ ((-1 : Int32) = -1 ∨ Fn 70 p = (-1))) (Fn 68) (Fn 69) (cn 63)) (mixN (Fn 10) (Fn 64 v0.toInt.toNat) 20) x ∧ (-1) = nI (mixN (Fn 10) (Fn 64 v0.toInt.toNat) 20) - x) ∨ (v1.toInt = 4 ∧ (-1) = Fn 64 v0.toInt.toNat))) ∨ (¬ ((0 ≤ v0.toInt ∧ v0.toInt < (cn 62 : Int)) ∧ 0 ≤ v1.toInt ∧ v1.toInt ≤ 4) ∧ (-1) = -1); exact Or.inr ⟨by (first | omega | (have zz0 := Hid.u hi_cn; omega)), rfl⟩)⟩, by rw [ht]; exact hP, hD⟩, hS.F ht⟩) hS.2.2 dX12_batchIs_18
