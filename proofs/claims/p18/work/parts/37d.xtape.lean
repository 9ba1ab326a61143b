

set_option maxRecDepth 100000 in
set_option maxHeartbeats 4000000 in
theorem q_Edriven (l : Launch) (D : va_G) (cI cB cZ : ClassId) (zz qq vv : Nat) (bt : Nat → Int32) (g : Nat → Nat) (ad : Nat → Nat → Nat) (cn : Nat → Nat) (In : Nat → Int32) (Fn : Nat → Nat → Int32) (v0 : Int32) (sz : Nat) (hB : CBX cn) : Met l yX11_driven (CWS yX11_driven cX11_driven 3 (some .int)) (RM 5 0 0) (PBx [.ref (g 0), .int v0] D cI cB cZ zz qq vv bt (wX cI (D.1 99) zz g ad cn In Fn) sz) (va_Qi (fun (r : Int32) (u : (Nat → Nat) × (Nat → Int32) × (Nat → Nat → Int32)) => (fun r c2 I2 F2 => Fr [3] [] [] cn In Fn c2 I2 F2 ∧ CBX c2 ∧ (((0 ≤ v0.toInt ∧ v0.toInt ≤ 20 ∧ v0.toInt ≤ (cn 3 : Int)) ∧ c2 3 = 0) ∨ (¬ (0 ≤ v0.toInt ∧ v0.toInt ≤ 20 ∧ v0.toInt ≤ (cn 3 : Int)) ∧ c2 3 = cn 3))) r u.1 u.2.1 u.2.2) (fun (u : (Nat → Nat) × (Nat → Int32) × (Nat → Nat → Int32)) (t : State) => va_P D vwCl (wX cI (D.1 99) zz g ad u.1 u.2.1 u.2.2) t.heap ∧ va_D (va_A (wX cI (D.1 99) zz g ad cn In Fn) sz) (wX cI (D.1 99) zz g ad u.1 u.2.1 u.2.2)) (va_A (wX cI (D.1 99) zz g ad cn In Fn) sz)) 0 0 (va_A (wX cI (D.1 99) zz g ad cn In Fn) sz) := by
  refine en_x (fun A => (va_Qi (fun (r : Int32) (u : (Nat → Nat) × (Nat → Int32) × (Nat → Nat → Int32)) => (fun (r : Int32) (c2 : Nat → Nat) (I2 : Nat → Int32) (F2 : Nat → Nat → Int32) => Fr [3] [] [] cn In Fn c2 I2 F2 ∧ CBX c2 ∧ (((0 ≤ v0.toInt ∧ v0.toInt ≤ 20 ∧ v0.toInt ≤ (cn 3 : Int)) ∧ c2 3 = 0) ∨ (¬ (0 ≤ v0.toInt ∧ v0.toInt ≤ 20 ∧ v0.toInt ≤ (cn 3 : Int)) ∧ c2 3 = cn 3))) r u.1 u.2.1 u.2.2) (fun (u : (Nat → Nat) × (Nat → Int32) × (Nat → Nat → Int32)) (t : State) => va_P D vwCl (wX cI (D.1 99) zz g ad u.1 u.2.1 u.2.2) t.heap ∧ va_D A (wX cI (D.1 99) zz g ad u.1 u.2.1 u.2.2)) A)) rfl rfl pn_RX11 (Nat.le_of_ble_eq_true rfl) (fun p e s m below meth c A hx hb hml hown S hr hlocks hnm hA hP hK hD hXS hS ls hl => ?_)
  have hl : lv_has ls 3 [(0, .ref (g 0)), (1, .int v0)] := hl
  have hb_cn : Hid (CBX cn) := hB
  replace hB : CBXh cn := hB
  refine lv_iload_n hx hb (oc_27 0 shX11_driven_0) rfl (lvA1 hl) ?_
  refine lv_iconst (v := 0) hx hb (oc_3 1 (aq_1 shX11_driven_0)) kic_0 ?_
  refine lv_bipush (v := 20) hx hb (oc_16 2 (aq_2 shX11_driven_0) sgb_20) kbc_20 ?_
  refine vp_callSi (runS_r (As := [.int v0, .int 0, .int 20]) (rest := []) S (q_l_within l D cI cB cZ v0 0 20) kS_RX11_80 hK hP [] rfl ⟨Nat.le_of_ble_eq_true rfl, Nat.le_of_ble_eq_true rfl⟩ ⟨Nat.le_of_ble_eq_true rfl, Nat.le_of_ble_eq_true rfl⟩ rfl hl.1 rfl (Nat.le_of_ble_eq_true rfl) (oc_184 4 (aq_4 shX11_driven_0) uw_0_80)) (fun r_1 h_2 => ?_)
  rcases h_2 with ⟨rfl, h_2⟩ | ⟨rfl, h_2⟩
  ·
    have h_2 : 0 ≤ v0.toInt ∧ v0.toInt ≤ 20 := h_2
    refine lv_if_eq (tgt := 21) hx hb dX11_driven_7 rfl (fun h => absurd h cq_eq_1_0) (fun _ => ?_)
    refine lv_iload_n hx hb (oc_27 10 (aq_10 shX11_driven_0)) rfl (lvA1 hl) ?_
    refine lv_aload_n hx hb (oc_42 11 (aq_11 shX11_driven_0)) rfl (lvA0 hl) ?_
    refine gf_RX11_21 S hK hP 0 xo_0 (v := .ref (g 5)) rfl (oc_180 12 (aq_12 shX11_driven_0) uw_0_21) ?_
    refine vp_callSi (runV_rxa (As := []) (rest := [.int v0]) S (q_Xlength l D cI cB cZ zz qq vv bt g ad cn In Fn  hB) kV_RX11_152 hK hXS hS hP 1 xo_1 rfl rfl ⟨Nat.le_of_ble_eq_true rfl, Nat.le_of_ble_eq_true rfl⟩ ⟨Nat.le_of_ble_eq_true rfl, Nat.le_of_ble_eq_true rfl⟩ rfl hl.1 rfl (Nat.le_of_ble_eq_true rfl) (oc_182 15 (aq_15 shX11_driven_0) uw_0_152)) (fun r_3 h_4 => ?_)
    subst h_4
    have : (nI ((cn 3))).toInt = ((((cn 3)) : Nat) : Int) := nI_toInt (by (first | omega | (have zz0 := Hid.u hb_cn; omega)))
    refine lv_icmp_le (tgt := 23) hx hb (oc_164 18 (aq_18 shX11_driven_0) sgw_0_5) rfl (fun c_5 => ?_) (fun c_5 => ?_)
    ·
      have tc_5 : (v0.toInt : Int) ≤ (nI ((cn 3))).toInt := Int32.le_iff_toInt_le.mp c_5
      obtain ⟨d0, hd0, rfl⟩ := nI_of (x := v0) (fun q => by have := Int32.lt_iff_toInt_lt.mp q; have e : (0 : Int32).toInt = 0 := rfl; (first | omega | (have zz0 := Hid.u hb_cn; omega)))
      have td0 : (nI d0).toInt = (d0 : Int) := nI_toInt hd0
      have zd0 : (nI d0).toInt.toNat = d0 := by (first | omega | (have zz0 := Hid.u hb_cn; omega))
      refine lv_aload_n hx hb (oc_42 23 (aq_23 shX11_driven_0)) rfl (lvA0 hl) ?_
      refine lv_iload_n hx hb (oc_27 24 shX11_driven_24) rfl (lvA1 hl) ?_
      refine vp_callSi (runV_rxa (As := [.int (nI d0)]) (rest := []) S (q_XdrivenLength l D cI cB cZ zz qq vv bt g ad cn In Fn d0 hB (by (first | omega | (have zz0 := Hid.u hb_cn; omega)))) kV_RX11_288 hK hXS hS hP 0 xo_0 rfl rfl ⟨Nat.le_of_ble_eq_true rfl, Nat.le_of_ble_eq_true rfl⟩ ⟨Nat.le_of_ble_eq_true rfl, Nat.le_of_ble_eq_true rfl⟩ rfl hl.1 rfl (Nat.le_of_ble_eq_true rfl) (oc_182 25 (aq_1 shX11_driven_24) uw_1_32)) (fun r_6 h_7 => ?_)
      refine lv_istore_n (lv' := [(2, .int r_6), (0, .ref (g 0)), (1, .int (nI d0))]) hx hb (oc_61 28 (aq_4 shX11_driven_24)) rfl hl (ltb rfl) rfl (fun ls hl => ?_)
      refine lv_aload_n hx hb (oc_42 29 (aq_5 shX11_driven_24)) rfl (lvA1 hl) ?_
      refine gf_RX11_21 S hK hP 0 xo_0 (v := .ref (g 5)) rfl (oc_180 30 (aq_6 shX11_driven_24) uw_0_21) ?_
      have hFc := free_all hD hS hA
      refine va_callv (runV_xa (As := []) (rest := []) S (q_Xclear l D cI cB cZ zz qq vv bt g ad cn In Fn  s.heap.size hB) kV_RX11_162 hK hXS hS hFc hP hD 1 xo_1 rfl rfl ⟨Nat.le_of_ble_eq_true rfl, Nat.le_of_ble_eq_true rfl⟩ ⟨Nat.le_of_ble_eq_true rfl, Nat.le_of_ble_eq_true rfl⟩ rfl hl.1 rfl (Nat.le_of_ble_eq_true rfl) (oc_182 33 (aq_9 shX11_driven_24) uw_0_162)) hS (fun q _ h => hFc q h) hFc (fun u t H1 locs ht hvm wh_9 hB1 hz1 hk1 hS => ?_)
      obtain ⟨cn9, In9, Fn9⟩ := u
      obtain ⟨hP1, hD1⟩ := hB1
      rw [ht] at hP1
      have hP : va_P D vwCl (wX cI (D.1 99) zz g ad cn9 In9 Fn9) H1 := hP1
      have hD : va_D A (wX cI (D.1 99) zz g ad cn9 In9 Fn9) := hD1.weaken (fun _ _ _ h => hFc _ h)
      generalize H1 = H at hP hS ⊢
      have vh_9 : (fun c2 I2 F2 => Fr [3] [] [] cn In Fn c2 I2 F2 ∧ CBX c2 ∧ (c2 3 = 0)) cn9 In9 Fn9 := wh_9
      obtain ⟨hfc9, hIn9, h_9⟩ := vh_9
      obtain rfl : In = In9 := (funext (fun k => hfc9.2.1 k List.not_mem_nil)).symm
      obtain rfl : Fn = Fn9 := (funext (fun k => hfc9.2.2 k List.not_mem_nil)).symm
      have hf9 : Fr [3] [] [] cn In Fn cn9 In Fn := Fr.mo (Fr.tr (Fr.rf (cn := cn) (In := In) (Fn := Fn)) hfc9) (sbl rfl) (sbl rfl) (sbl rfl)
      have hb_cn9 : Hid (CBX cn9) := hIn9
      replace hIn9 : CBXh cn9 := hIn9
      have : cn9 6 = (cn 6) := hfc9.1 6 (nml rfl)
      have : cn9 31 = (cn 31) := hfc9.1 31 (nml rfl)
      have : cn9 32 = (cn 32) := hfc9.1 32 (nml rfl)
      have hq_cn9 : Hid (cn9 0 = (cn 0) ∧ cn9 1 = (cn 1) ∧ cn9 2 = (cn 2) ∧ cn9 4 = (cn 4) ∧ cn9 5 = (cn 5) ∧ cn9 10 = (cn 10) ∧ cn9 11 = (cn 11) ∧ cn9 12 = (cn 12) ∧ cn9 13 = (cn 13) ∧ cn9 14 = (cn 14) ∧ cn9 15 = (cn 15) ∧ cn9 20 = (cn 20) ∧ cn9 21 = (cn 21) ∧ cn9 22 = (cn 22) ∧ cn9 23 = (cn 23) ∧ cn9 24 = (cn 24) ∧ cn9 25 = (cn 25)) := Hid.i (p := cn9 0 = (cn 0) ∧ cn9 1 = (cn 1) ∧ cn9 2 = (cn 2) ∧ cn9 4 = (cn 4) ∧ cn9 5 = (cn 5) ∧ cn9 10 = (cn 10) ∧ cn9 11 = (cn 11) ∧ cn9 12 = (cn 12) ∧ cn9 13 = (cn 13) ∧ cn9 14 = (cn 14) ∧ cn9 15 = (cn 15) ∧ cn9 20 = (cn 20) ∧ cn9 21 = (cn 21) ∧ cn9 22 = (cn 22) ∧ cn9 23 = (cn 23) ∧ cn9 24 = (cn 24) ∧ cn9 25 = (cn 25)) ⟨hfc9.1 0 (nml rfl), hfc9.1 1 (nml rfl), hfc9.1 2 (nml rfl), hfc9.1 4 (nml rfl), hfc9.1 5 (nml rfl), hfc9.1 10 (nml rfl), hfc9.1 11 (nml rfl), hfc9.1 12 (nml rfl), hfc9.1 13 (nml rfl), hfc9.1 14 (nml rfl), hfc9.1 15 (nml rfl), hfc9.1 20 (nml rfl), hfc9.1 21 (nml rfl), hfc9.1 22 (nml rfl), hfc9.1 23 (nml rfl), hfc9.1 24 (nml rfl), hfc9.1 25 (nml rfl)⟩
      refine lv_iload_n hx hb (oc_28 36 (aq_12 shX11_driven_24)) rfl (lvA0 hl) ?_
      exact W.iret (v := r_6) hx hb hr (fun t ht hW => ⟨⟨r_6, (cn9, In, Fn), rfl, ⟨(Fr.mo hf9 (sbl rfl) (sbl rfl) (sbl rfl)), hIn9, (by show ((0 ≤ (nI d0).toInt ∧ (nI d0).toInt ≤ 20 ∧ (nI d0).toInt ≤ (cn 3 : Int)) ∧ cn9 3 = 0) ∨ (¬ (0 ≤ (nI d0).toInt ∧ (nI d0).toInt ≤ 20 ∧ (nI d0).toInt ≤ (cn 3 : Int)) ∧ cn9 3 = cn 3); show ((0 ≤ (nI d0).toInt ∧ (nI d0).toInt ≤ 20 ∧ (nI d0).toInt ≤ (cn 3 : Int)) ∧ (cn9 3) = 0) ∨ (¬ (0 ≤ (nI d0).toInt ∧ (nI d0).toInt ≤ 20 ∧ (nI d0).toInt ≤ (cn 3 : Int)) ∧ (cn9 3) = cn 3); (first | omega | (have zz0 := Hid.u hb_cn; have zz1 := Hid.u hb_cn9; have zz2 := Hid.u hq_cn9; omega)))⟩, by rw [ht]; exact hP, hD⟩, hS.F ht⟩) hS.2.2 (oc_172 37 (aq_13 shX11_driven_24))
    ·
      have tc_5 : ((nI ((cn 3))).toInt : Int) < v0.toInt := Int32.lt_iff_toInt_lt.mp (Int32.not_le.mp c_5)
      refine lv_iconst (v := (-1)) hx hb dX11_driven_21 kic_m1 ?_
      exact W.iret (v := (-1)) hx hb hr (fun t ht hW => ⟨⟨(-1), (cn, In, Fn), rfl, ⟨(Fr.mo Fr.rf (sbl rfl) (sbl rfl) (sbl rfl)), hB, (by show ((0 ≤ v0.toInt ∧ v0.toInt ≤ 20 ∧ v0.toInt ≤ (cn 3 : Int)) ∧ cn 3 = 0) ∨ (¬ (0 ≤ v0.toInt ∧ v0.toInt ≤ 20 ∧ v0.toInt ≤ (cn 3 : Int)) ∧ cn 3 = cn 3); show ((0 ≤ v0.toInt ∧ v0.toInt ≤ 20 ∧ v0.toInt ≤ (cn 3 : Int)) ∧ (cn 3) = 0) ∨ (¬ (0 ≤ v0.toInt ∧ v0.toInt ≤ 20 ∧ v0.toInt ≤ (cn 3 : Int)) ∧ (cn 3) = cn 3); (first | omega | (have zz0 := Hid.u hb_cn; omega)))⟩, by rw [ht]; exact hP, hD⟩, hS.F ht⟩) hS.2.2 dX11_driven_22
  ·
    have h_2 : ¬ (0 ≤ v0.toInt ∧ v0.toInt ≤ 20) := h_2
    refine lv_if_eq (tgt := 21) hx hb dX11_driven_7 rfl (fun _ => ?_) (fun h => absurd h cq_eq_0_0)
    refine lv_iconst (v := (-1)) hx hb dX11_driven_21 kic_m1 ?_
    exact W.iret (v := (-1)) hx hb hr (fun t ht hW => ⟨⟨(-1), (cn, In, Fn), rfl, ⟨(Fr.mo Fr.rf (sbl rfl) (sbl rfl) (sbl rfl)), hB, (by show ((0 ≤ v0.toInt ∧ v0.toInt ≤ 20 ∧ v0.toInt ≤ (cn 3 : Int)) ∧ cn 3 = 0) ∨ (¬ (0 ≤ v0.toInt ∧ v0.toInt ≤ 20 ∧ v0.toInt ≤ (cn 3 : Int)) ∧ cn 3 = cn 3); show ((0 ≤ v0.toInt ∧ v0.toInt ≤ 20 ∧ v0.toInt ≤ (cn 3 : Int)) ∧ (cn 3) = 0) ∨ (¬ (0 ≤ v0.toInt ∧ v0.toInt ≤ 20 ∧ v0.toInt ≤ (cn 3 : Int)) ∧ (cn 3) = cn 3); (first | omega | (have zz0 := Hid.u hb_cn; omega)))⟩, by rw [ht]; exact hP, hD⟩, hS.F ht⟩) hS.2.2 dX11_driven_22
set_option maxRecDepth 100000 in
set_option maxHeartbeats 4000000 in
theorem q_Echeck (l : Launch) (D : va_G) (cI cB cZ : ClassId) (zz qq vv : Nat) (bt : Nat → Int32) (g : Nat → Nat) (ad : Nat → Nat → Nat) (cn : Nat → Nat) (In : Nat → Int32) (Fn : Nat → Nat → Int32) (v0 v1 : Int32) (sz : Nat) (hB : CBX cn) : Met l yX11_check (CWS yX11_check cX11_check 4 (some .int)) (RM 5 0 0) (PBx [.ref (g 0), .int v0, .int v1] D cI cB cZ zz qq vv bt (wX cI (D.1 99) zz g ad cn In Fn) sz) (va_Qi (fun (r : Int32) (u : (Nat → Nat) × (Nat → Int32) × (Nat → Nat → Int32)) => (fun r c2 I2 F2 => Fr [3] [] [] cn In Fn c2 I2 F2 ∧ CBX c2 ∧ (((0 ≤ v0.toInt ∧ v0.toInt < (cn 10 : Int) ∧ 0 ≤ v1.toInt ∧ 16 * v1.toInt ≤ (cn 3 : Int)) ∧ c2 3 = 0) ∨ (¬ (0 ≤ v0.toInt ∧ v0.toInt < (cn 10 : Int) ∧ 0 ≤ v1.toInt ∧ 16 * v1.toInt ≤ (cn 3 : Int)) ∧ c2 3 = cn 3))) r u.1 u.2.1 u.2.2) (fun (u : (Nat → Nat) × (Nat → Int32) × (Nat → Nat → Int32)) (t : State) => va_P D vwCl (wX cI (D.1 99) zz g ad u.1 u.2.1 u.2.2) t.heap ∧ va_D (va_A (wX cI (D.1 99) zz g ad cn In Fn) sz) (wX cI (D.1 99) zz g ad u.1 u.2.1 u.2.2)) (va_A (wX cI (D.1 99) zz g ad cn In Fn) sz)) 0 0 (va_A (wX cI (D.1 99) zz g ad cn In Fn) sz) := by
  refine en_x (fun A => (va_Qi (fun (r : Int32) (u : (Nat → Nat) × (Nat → Int32) × (Nat → Nat → Int32)) => (fun (r : Int32) (c2 : Nat → Nat) (I2 : Nat → Int32) (F2 : Nat → Nat → Int32) => Fr [3] [] [] cn In Fn c2 I2 F2 ∧ CBX c2 ∧ (((0 ≤ v0.toInt ∧ v0.toInt < (cn 10 : Int) ∧ 0 ≤ v1.toInt ∧ 16 * v1.toInt ≤ (cn 3 : Int)) ∧ c2 3 = 0) ∨ (¬ (0 ≤ v0.toInt ∧ v0.toInt < (cn 10 : Int) ∧ 0 ≤ v1.toInt ∧ 16 * v1.toInt ≤ (cn 3 : Int)) ∧ c2 3 = cn 3))) r u.1 u.2.1 u.2.2) (fun (u : (Nat → Nat) × (Nat → Int32) × (Nat → Nat → Int32)) (t : State) => va_P D vwCl (wX cI (D.1 99) zz g ad u.1 u.2.1 u.2.2) t.heap ∧ va_D A (wX cI (D.1 99) zz g ad u.1 u.2.1 u.2.2)) A)) rfl rfl pn_RX11 (Nat.le_of_ble_eq_true rfl) (fun p e s m below meth c A hx hb hml hown S hr hlocks hnm hA hP hK hD hXS hS ls hl => ?_)
  have hl : lv_has ls 4 [(0, .ref (g 0)), (1, .int v0), (2, .int v1)] := hl
  have hb_cn : Hid (CBX cn) := hB
  replace hB : CBXh cn := hB
  refine lv_aload_n hx hb (oc_42 0 shX11_check_0) rfl (lvA0 hl) ?_
  refine lv_iload_n hx hb (oc_27 1 (aq_1 shX11_check_0)) rfl (lvA1 hl) ?_
  refine va_csq (runV_rxa (As := [.int v0]) (rest := []) S (q_XkitchenAt l D cI cB cZ zz qq vv bt g ad cn In Fn v0 hB) kV_RX11_114 hK hXS hS hP 0 xo_0 rfl rfl ⟨Nat.le_of_ble_eq_true rfl, Nat.le_of_ble_eq_true rfl⟩ ⟨Nat.le_of_ble_eq_true rfl, Nat.le_of_ble_eq_true rfl⟩ rfl hl.1 rfl (Nat.le_of_ble_eq_true rfl) (oc_182 2 (aq_2 shX11_check_0) uw_0_114)) (fun r_1 h_2 => ?_)
  rcases h_2 with ⟨mr_1, er_1, hr_1, rfl⟩ | ⟨hr_1, rfl⟩
  ·
    refine lv_ifnull hx hb dX11_check_5 ?_
    refine lv_iload_n hx hb (oc_28 8 (aq_8 shX11_check_0)) rfl (lvA2 hl) ?_
    refine lv_if_lt (tgt := 26) hx hb (oc_155 9 (aq_9 shX11_check_0) sgw_0_17) rfl (fun c_3 => ?_) (fun c_3 => ?_)
    ·
      have tc_3 : (v1.toInt : Int) < 0 := Int32.lt_iff_toInt_lt.mp c_3
      refine lv_bipush (v := (-2)) hx hb dX11_check_26 kbc_m2 ?_
      exact W.iret (v := (-2)) hx hb hr (fun t ht hW => ⟨⟨(-2), (cn, In, Fn), rfl, ⟨(Fr.mo Fr.rf (sbl rfl) (sbl rfl) (sbl rfl)), hB, (by show ((0 ≤ v0.toInt ∧ v0.toInt < (cn 10 : Int) ∧ 0 ≤ v1.toInt ∧ 16 * v1.toInt ≤ (cn 3 : Int)) ∧ cn 3 = 0) ∨ (¬ (0 ≤ v0.toInt ∧ v0.toInt < (cn 10 : Int) ∧ 0 ≤ v1.toInt ∧ 16 * v1.toInt ≤ (cn 3 : Int)) ∧ cn 3 = cn 3); show ((0 ≤ v0.toInt ∧ v0.toInt < (cn 10 : Int) ∧ 0 ≤ v1.toInt ∧ 16 * v1.toInt ≤ (cn 3 : Int)) ∧ (cn 3) = 0) ∨ (¬ (0 ≤ v0.toInt ∧ v0.toInt < (cn 10 : Int) ∧ 0 ≤ v1.toInt ∧ 16 * v1.toInt ≤ (cn 3 : Int)) ∧ (cn 3) = cn 3); (first | omega | (have zz0 := Hid.u hb_cn; omega)))⟩, by rw [ht]; exact hP, hD⟩, hS.F ht⟩) hS.2.2 dX11_check_28
    ·
      have tc_3 : (0 : Int) ≤ v1.toInt := Int32.le_iff_toInt_le.mp (Int32.not_lt.mp c_3)
      refine lv_iload_n hx hb (oc_28 12 (aq_12 shX11_check_0)) rfl (lvA2 hl) ?_
      refine lv_aload_n hx hb (oc_42 13 (aq_13 shX11_check_0)) rfl (lvA0 hl) ?_
      refine gf_RX11_21 S hK hP 0 xo_0 (v := .ref (g 5)) rfl (oc_180 14 (aq_14 shX11_check_0) uw_0_21) ?_
      refine vp_callSi (runV_rxa (As := []) (rest := [.int v1]) S (q_Xlength l D cI cB cZ zz qq vv bt g ad cn In Fn  hB) kV_RX11_152 hK hXS hS hP 1 xo_1 rfl rfl ⟨Nat.le_of_ble_eq_true rfl, Nat.le_of_ble_eq_true rfl⟩ ⟨Nat.le_of_ble_eq_true rfl, Nat.le_of_ble_eq_true rfl⟩ rfl hl.1 rfl (Nat.le_of_ble_eq_true rfl) (oc_182 17 (aq_17 shX11_check_0) uw_0_152)) (fun r_4 h_5 => ?_)
      subst h_5
      refine lv_bipush (v := 16) hx hb (oc_16 20 (aq_20 shX11_check_0) sgb_16) kbc_16 ?_
      refine lv_idiv hx hb (oc_108 22 (aq_22 shX11_check_0)) (by decide) ?_
      refine lv_topi (fun y_6 ey_6 => ?_)
      obtain rfl : y_6 = (nI (((cn 3)) / 16)) := ey_6.trans (nI_div (by (first | omega | (have zz0 := Hid.u hb_cn; omega))) (by decide))
      have : (nI (((cn 3)) / 16)).toInt = (((((cn 3)) / 16) : Nat) : Int) := nI_toInt (by (first | omega | (have zz0 := Hid.u hb_cn; omega)))
      refine lv_icmp_le (tgt := 29) hx hb (oc_164 23 (aq_23 shX11_check_0) sgw_0_6) rfl (fun c_7 => ?_) (fun c_7 => ?_)
      ·
        have tc_7 : (v1.toInt : Int) ≤ (nI (((cn 3)) / 16)).toInt := Int32.le_iff_toInt_le.mp c_7
        refine lv_aload_n hx hb (oc_42 29 (aq_3 shX11_check_26)) rfl (lvA0 hl) ?_
        refine lv_iload_n hx hb (oc_27 30 (aq_4 shX11_check_26)) rfl (lvA1 hl) ?_
        refine lv_iconst (v := 4) hx hb (oc_7 31 (aq_5 shX11_check_26)) kic_4 ?_
        refine lv_iload_n hx hb (oc_28 32 (aq_6 shX11_check_26)) rfl (lvA2 hl) ?_
        refine lv_imul hx hb (oc_104 33 (aq_7 shX11_check_26)) ?_
        refine vp_callSi (runV_rxa (As := [.int v0, .int (4 * v1)]) (rest := []) S (q_XfirstWrong l D cI cB cZ zz qq vv bt g ad cn In Fn v0 (4 * v1) hB) kV_RX11_523 hK hXS hS hP 0 xo_0 rfl rfl ⟨Nat.le_of_ble_eq_true rfl, Nat.le_of_ble_eq_true rfl⟩ ⟨Nat.le_of_ble_eq_true rfl, Nat.le_of_ble_eq_true rfl⟩ rfl hl.1 rfl (Nat.le_of_ble_eq_true rfl) (oc_182 34 (aq_8 shX11_check_26) uw_2_11)) (fun r_8 h_9 => ?_)
        refine lv_istore_n (lv' := [(3, .int r_8), (0, .ref (g 0)), (1, .int v0), (2, .int v1)]) hx hb (oc_62 37 (aq_11 shX11_check_26)) rfl hl (ltb rfl) rfl (fun ls hl => ?_)
        refine lv_aload_n hx hb (oc_42 38 (aq_12 shX11_check_26)) rfl (lvA1 hl) ?_
        refine gf_RX11_21 S hK hP 0 xo_0 (v := .ref (g 5)) rfl (oc_180 39 (aq_13 shX11_check_26) uw_0_21) ?_
        have hFc := free_all hD hS hA
        refine va_callv (runV_xa (As := []) (rest := []) S (q_Xclear l D cI cB cZ zz qq vv bt g ad cn In Fn  s.heap.size hB) kV_RX11_162 hK hXS hS hFc hP hD 1 xo_1 rfl rfl ⟨Nat.le_of_ble_eq_true rfl, Nat.le_of_ble_eq_true rfl⟩ ⟨Nat.le_of_ble_eq_true rfl, Nat.le_of_ble_eq_true rfl⟩ rfl hl.1 rfl (Nat.le_of_ble_eq_true rfl) (oc_182 42 (aq_16 shX11_check_26) uw_0_162)) hS (fun q _ h => hFc q h) hFc (fun u t H1 locs ht hvm wh_11 hB1 hz1 hk1 hS => ?_)
        obtain ⟨cn11, In11, Fn11⟩ := u
        obtain ⟨hP1, hD1⟩ := hB1
        rw [ht] at hP1
        have hP : va_P D vwCl (wX cI (D.1 99) zz g ad cn11 In11 Fn11) H1 := hP1
        have hD : va_D A (wX cI (D.1 99) zz g ad cn11 In11 Fn11) := hD1.weaken (fun _ _ _ h => hFc _ h)
        generalize H1 = H at hP hS ⊢
        have vh_11 : (fun c2 I2 F2 => Fr [3] [] [] cn In Fn c2 I2 F2 ∧ CBX c2 ∧ (c2 3 = 0)) cn11 In11 Fn11 := wh_11
        obtain ⟨hfc11, hIn11, h_11⟩ := vh_11
        obtain rfl : In = In11 := (funext (fun k => hfc11.2.1 k List.not_mem_nil)).symm
        obtain rfl : Fn = Fn11 := (funext (fun k => hfc11.2.2 k List.not_mem_nil)).symm
        have hf11 : Fr [3] [] [] cn In Fn cn11 In Fn := Fr.mo (Fr.tr (Fr.rf (cn := cn) (In := In) (Fn := Fn)) hfc11) (sbl rfl) (sbl rfl) (sbl rfl)
        have hb_cn11 : Hid (CBX cn11) := hIn11
        replace hIn11 : CBXh cn11 := hIn11
        have : cn11 6 = (cn 6) := hfc11.1 6 (nml rfl)
        have : cn11 31 = (cn 31) := hfc11.1 31 (nml rfl)
        have : cn11 32 = (cn 32) := hfc11.1 32 (nml rfl)
        have hq_cn11 : Hid (cn11 0 = (cn 0) ∧ cn11 1 = (cn 1) ∧ cn11 2 = (cn 2) ∧ cn11 4 = (cn 4) ∧ cn11 5 = (cn 5) ∧ cn11 10 = (cn 10) ∧ cn11 11 = (cn 11) ∧ cn11 12 = (cn 12) ∧ cn11 13 = (cn 13) ∧ cn11 14 = (cn 14) ∧ cn11 15 = (cn 15) ∧ cn11 20 = (cn 20) ∧ cn11 21 = (cn 21) ∧ cn11 22 = (cn 22) ∧ cn11 23 = (cn 23) ∧ cn11 24 = (cn 24) ∧ cn11 25 = (cn 25)) := Hid.i (p := cn11 0 = (cn 0) ∧ cn11 1 = (cn 1) ∧ cn11 2 = (cn 2) ∧ cn11 4 = (cn 4) ∧ cn11 5 = (cn 5) ∧ cn11 10 = (cn 10) ∧ cn11 11 = (cn 11) ∧ cn11 12 = (cn 12) ∧ cn11 13 = (cn 13) ∧ cn11 14 = (cn 14) ∧ cn11 15 = (cn 15) ∧ cn11 20 = (cn 20) ∧ cn11 21 = (cn 21) ∧ cn11 22 = (cn 22) ∧ cn11 23 = (cn 23) ∧ cn11 24 = (cn 24) ∧ cn11 25 = (cn 25)) ⟨hfc11.1 0 (nml rfl), hfc11.1 1 (nml rfl), hfc11.1 2 (nml rfl), hfc11.1 4 (nml rfl), hfc11.1 5 (nml rfl), hfc11.1 10 (nml rfl), hfc11.1 11 (nml rfl), hfc11.1 12 (nml rfl), hfc11.1 13 (nml rfl), hfc11.1 14 (nml rfl), hfc11.1 15 (nml rfl), hfc11.1 20 (nml rfl), hfc11.1 21 (nml rfl), hfc11.1 22 (nml rfl), hfc11.1 23 (nml rfl), hfc11.1 24 (nml rfl), hfc11.1 25 (nml rfl)⟩
        refine lv_iload_n hx hb (oc_29 45 (aq_19 shX11_check_26)) rfl (lvA0 hl) ?_
        exact W.iret (v := r_8) hx hb hr (fun t ht hW => ⟨⟨r_8, (cn11, In, Fn), rfl, ⟨(Fr.mo hf11 (sbl rfl) (sbl rfl) (sbl rfl)), hIn11, (by show ((0 ≤ v0.toInt ∧ v0.toInt < (cn 10 : Int) ∧ 0 ≤ v1.toInt ∧ 16 * v1.toInt ≤ (cn 3 : Int)) ∧ cn11 3 = 0) ∨ (¬ (0 ≤ v0.toInt ∧ v0.toInt < (cn 10 : Int) ∧ 0 ≤ v1.toInt ∧ 16 * v1.toInt ≤ (cn 3 : Int)) ∧ cn11 3 = cn 3); show ((0 ≤ v0.toInt ∧ v0.toInt < (cn 10 : Int) ∧ 0 ≤ v1.toInt ∧ 16 * v1.toInt ≤ (cn 3 : Int)) ∧ (cn11 3) = 0) ∨ (¬ (0 ≤ v0.toInt ∧ v0.toInt < (cn 10 : Int) ∧ 0 ≤ v1.toInt ∧ 16 * v1.toInt ≤ (cn 3 : Int)) ∧ (cn11 3) = cn 3); (first | omega | (have zz0 := Hid.u hb_cn; have zz1 := Hid.u hb_cn11; have zz2 := Hid.u hq_cn11; omega)))⟩, by rw [ht]; exact hP, hD⟩, hS.F ht⟩) hS.2.2 (oc_172 46 (aq_20 shX11_check_26))
      ·
        have tc_7 : ((nI (((cn 3)) / 16)).toInt : Int) < v1.toInt := Int32.lt_iff_toInt_lt.mp (Int32.not_le.mp c_7)
        refine lv_bipush (v := (-2)) hx hb dX11_check_26 kbc_m2 ?_
        exact W.iret (v := (-2)) hx hb hr (fun t ht hW => ⟨⟨(-2), (cn, In, Fn), rfl, ⟨(Fr.mo Fr.rf (sbl rfl) (sbl rfl) (sbl rfl)), hB, (by show ((0 ≤ v0.toInt ∧ v0.toInt < (cn 10 : Int) ∧ 0 ≤ v1.toInt ∧ 16 * v1.toInt ≤ (cn 3 : Int)) ∧ cn 3 = 0) ∨ (¬ (0 ≤ v0.toInt ∧ v0.toInt < (cn 10 : Int) ∧ 0 ≤ v1.toInt ∧ 16 * v1.toInt ≤ (cn 3 : Int)) ∧ cn 3 = cn 3); show ((0 ≤ v0.toInt ∧ v0.toInt < (cn 10 : Int) ∧ 0 ≤ v1.toInt ∧ 16 * v1.toInt ≤ (cn 3 : Int)) ∧ (cn 3) = 0) ∨ (¬ (0 ≤ v0.toInt ∧ v0.toInt < (cn 10 : Int) ∧ 0 ≤ v1.toInt ∧ 16 * v1.toInt ≤ (cn 3 : Int)) ∧ (cn 3) = cn 3); (first | omega | (have zz0 := Hid.u hb_cn; omega)))⟩, by rw [ht]; exact hP, hD⟩, hS.F ht⟩) hS.2.2 dX11_check_28
  ·
    refine lv_ifnullN (tgt := 26) hx hb dX11_check_5 rfl ?_
    refine lv_bipush (v := (-2)) hx hb dX11_check_26 kbc_m2 ?_
    exact W.iret (v := (-2)) hx hb hr (fun t ht hW => ⟨⟨(-2), (cn, In, Fn), rfl, ⟨(Fr.mo Fr.rf (sbl rfl) (sbl rfl) (sbl rfl)), hB, (by show ((0 ≤ v0.toInt ∧ v0.toInt < (cn 10 : Int) ∧ 0 ≤ v1.toInt ∧ 16 * v1.toInt ≤ (cn 3 : Int)) ∧ cn 3 = 0) ∨ (¬ (0 ≤ v0.toInt ∧ v0.toInt < (cn 10 : Int) ∧ 0 ≤ v1.toInt ∧ 16 * v1.toInt ≤ (cn 3 : Int)) ∧ cn 3 = cn 3); show ((0 ≤ v0.toInt ∧ v0.toInt < (cn 10 : Int) ∧ 0 ≤ v1.toInt ∧ 16 * v1.toInt ≤ (cn 3 : Int)) ∧ (cn 3) = 0) ∨ (¬ (0 ≤ v0.toInt ∧ v0.toInt < (cn 10 : Int) ∧ 0 ≤ v1.toInt ∧ 16 * v1.toInt ≤ (cn 3 : Int)) ∧ (cn 3) = cn 3); (first | omega | (have zz0 := Hid.u hb_cn; omega)))⟩, by rw [ht]; exact hP, hD⟩, hS.F ht⟩) hS.2.2 dX11_check_28
set_option maxRecDepth 100000 in
set_option maxHeartbeats 4000000 in
theorem q_driven9 (l : Launch) (D : va_G) (cI cB cZ : ClassId) (g : Nat → Nat) (cn : Nat → Nat) (In : Nat → Int32) (Fn : Nat → Nat → Int32) (v0 : Int32) (sz : Nat) (hI : IM cn Fn) (h18 : cn 18 ≤ 200) : Met l yX12_driven (CWS yX12_driven cX12_driven 7 (some .int)) (RM 1 0 0) (PBw [.ref (g 100), .int v0] D cI cB cZ (wM cI cB cZ g cn In Fn) sz) (va_Qi (fun (r : Int32) (u : (Nat → Nat) × (Nat → Int32) × (Nat → Nat → Int32)) => (fun r c2 I2 F2 => Fr [18] [] [] cn In Fn c2 I2 F2 ∧ IM c2 F2 ∧ (((0 ≤ v0.toInt ∧ v0.toInt ≤ 20 ∧ v0.toInt ≤ (cn 18 : Int)) ∧ c2 18 = 0) ∨ (¬ (0 ≤ v0.toInt ∧ v0.toInt ≤ 20 ∧ v0.toInt ≤ (cn 18 : Int)) ∧ c2 18 = cn 18))) r u.1 u.2.1 u.2.2) (fun (u : (Nat → Nat) × (Nat → Int32) × (Nat → Nat → Int32)) (t : State) => va_P D vwCl (wM cI cB cZ g u.1 u.2.1 u.2.2) t.heap ∧ va_D (va_A (wM cI cB cZ g cn In Fn) sz) (wM cI cB cZ g u.1 u.2.1 u.2.2)) (va_A (wM cI cB cZ g cn In Fn) sz)) 0 0 (va_A (wM cI cB cZ g cn In Fn) sz) := by
  refine en_w (fun A => (va_Qi (fun (r : Int32) (u : (Nat → Nat) × (Nat → Int32) × (Nat → Nat → Int32)) => (fun (r : Int32) (c2 : Nat → Nat) (I2 : Nat → Int32) (F2 : Nat → Nat → Int32) => Fr [18] [] [] cn In Fn c2 I2 F2 ∧ IM c2 F2 ∧ (((0 ≤ v0.toInt ∧ v0.toInt ≤ 20 ∧ v0.toInt ≤ (cn 18 : Int)) ∧ c2 18 = 0) ∨ (¬ (0 ≤ v0.toInt ∧ v0.toInt ≤ 20 ∧ v0.toInt ≤ (cn 18 : Int)) ∧ c2 18 = cn 18))) r u.1 u.2.1 u.2.2) (fun (u : (Nat → Nat) × (Nat → Int32) × (Nat → Nat → Int32)) (t : State) => va_P D vwCl (wM cI cB cZ g u.1 u.2.1 u.2.2) t.heap ∧ va_D A (wM cI cB cZ g u.1 u.2.1 u.2.2)) A)) rfl rfl pn_RX12 (Nat.le_of_ble_eq_true rfl) (fun p e s m below meth c A hx hb hml hown S hr hlocks hnm hA hP hK hD hS ls hl => ?_)
  have hl : lv_has ls 7 [(0, .ref (g 100)), (1, .int v0)] := hl
  have hi_cn : Hid (CB cn) := hI.b
  refine lv_iload_n hx hb dX12_driven_0 rfl (lvA1 hl) ?_
  refine lv_iconst (v := 0) hx hb dX12_driven_1 kic_0 ?_
  refine lv_bipush (v := 20) hx hb dX12_driven_2 kbc_20 ?_
  refine vp_callSi (runS_r (As := [.int v0, .int 0, .int 20]) (rest := []) S (q_in l D cI cB cZ v0 0 20 ) kS_RX12_214 hK hP [] rfl ⟨Nat.le_of_ble_eq_true rfl, Nat.le_of_ble_eq_true rfl⟩ ⟨Nat.le_of_ble_eq_true rfl, Nat.le_of_ble_eq_true rfl⟩ rfl hl.1 rfl (Nat.le_of_ble_eq_true rfl) dX12_driven_4) (fun r_1 h_2 => ?_)
  rcases h_2 with ⟨rfl, h_2⟩ | ⟨rfl, h_2⟩
  ·
    have h_2 : 0 ≤ v0.toInt ∧ v0.toInt ≤ 20 := h_2
    refine lv_if_eq (tgt := 18) hx hb dX12_driven_7 rfl (fun h => absurd h cq_eq_1_0) (fun _ => ?_)
    refine lv_iload_n hx hb dX12_driven_10 rfl (lvA1 hl) ?_
    refine lv_aload_n hx hb dX12_driven_11 rfl (lvA0 hl) ?_
    refine gM_226 S hK hP (v := .int (nI (cn 18))) rfl dX12_driven_12 ?_
    have : (nI (cn 18)).toInt = (((cn 18) : Nat) : Int) := nI_toInt (by (first | omega | (have zz0 := Hid.u hi_cn; omega)))
    refine lv_icmp_le (tgt := 20) hx hb dX12_driven_15 rfl (fun c_3 => ?_) (fun c_3 => ?_)
    ·
      have tc_3 : (v0.toInt : Int) ≤ (nI (cn 18)).toInt := Int32.le_iff_toInt_le.mp c_3
      obtain ⟨d0, hd0, rfl⟩ := nI_of (x := v0) (fun q => by have := Int32.lt_iff_toInt_lt.mp q; have e : (0 : Int32).toInt = 0 := rfl; (first | omega | (have zz0 := Hid.u hi_cn; omega)))
      have td0 : (nI d0).toInt = (d0 : Int) := nI_toInt hd0
      have zd0 : (nI d0).toInt.toNat = d0 := by (first | omega | (have zz0 := Hid.u hi_cn; omega))
      refine lv_aload_n hx hb dX12_driven_20 rfl (lvA0 hl) ?_
      refine lv_iconst (v := 0) hx hb dX12_driven_21 kic_0 ?_
      refine pM_226 S hK hP hD hS (a := 0) (cn2 := (va_up cn 18 0)) rfl rfl dX12_driven_22 (fun H locs hP hD hS => ?_)
      refine lv_iconst (v := 0) hx hb dX12_driven_25 kic_0 ?_
      refine lv_istore_n (lv' := [(2, .int 0), (0, .ref (g 100)), (1, .int (nI d0))]) hx hb dX12_driven_26 rfl hl (ltb rfl) rfl (fun ls hl => ?_)
      refine lv_iconst (v := 0) hx hb dX12_driven_27 kic_0 ?_
      refine lv_istore_n (lv' := [(3, .int 0), (2, .int 0), (0, .ref (g 100)), (1, .int (nI d0))]) hx hb dX12_driven_28 rfl hl (ltb rfl) rfl (fun ls hl => ?_)
      refine lv_iconst (v := 0) hx hb dX12_driven_29 kic_0 ?_
      refine lv_istore (lv' := [(4, .int 0), (3, .int 0), (2, .int 0), (0, .ref (g 100)), (1, .int (nI d0))]) hx hb dX12_driven_30 hl (ltb rfl) rfl (fun ls hl => ?_)
      refine lv_iconst (v := 0) hx hb dX12_driven_32 kic_0 ?_
      refine lv_istore (lv' := [(5, .int 0), (4, .int 0), (3, .int 0), (2, .int 0), (0, .ref (g 100)), (1, .int (nI d0))]) hx hb dX12_driven_33 hl (ltb rfl) rfl (fun ls hl => ?_)
      have lp_35 : ∀ (n : Nat) (i35 : Nat) (x35_2 : Int32) (x35_3 : Int32) (x35_4 : Int32) , d0 - i35 < n → (i35 ≤ d0) → ∀ ls : Array Slot, lv_has ls 7 [(5, .int (nI i35)), (4, .int x35_4), (3, .int x35_3), (2, .int x35_2), (0, .ref (g 100)), (1, .int (nI d0))] → W p l e (RM 1 0 0) s m ([.ref (g 100), .int (nI d0)]).toArray below meth c H locs 0 0 (MQ below (va_Qi (fun (r : Int32) (u : (Nat → Nat) × (Nat → Int32) × (Nat → Nat → Int32)) => (fun r c2 I2 F2 => Fr [18] [] [] cn In Fn c2 I2 F2 ∧ IM c2 F2 ∧ (((0 ≤ (nI d0).toInt ∧ (nI d0).toInt ≤ 20 ∧ (nI d0).toInt ≤ (cn 18 : Int)) ∧ c2 18 = 0) ∨ (¬ (0 ≤ (nI d0).toInt ∧ (nI d0).toInt ≤ 20 ∧ (nI d0).toInt ≤ (cn 18 : Int)) ∧ c2 18 = cn 18))) r u.1 u.2.1 u.2.2) (fun (u : (Nat → Nat) × (Nat → Int32) × (Nat → Nat → Int32)) (t : State) => va_P D vwCl (wM cI cB cZ g u.1 u.2.1 u.2.2) t.heap ∧ va_D A (wM cI cB cZ g u.1 u.2.1 u.2.2)) A) ([.ref (g 100), .int (nI d0)]).toArray s 0 0 A) (F0 m 35 ls []) := by
        intro n35
        induction n35 with
        | zero => intros; (first | omega | (have zz0 := Hid.u hi_cn; omega))
        | succ n35 ih35 =>
          intro i35 x35_2 x35_3 x35_4 hmu35 hinv35 ls hl
          have hr35 := hinv35
          have ti35 : (nI i35).toInt = (i35 : Int) := nI_toInt (by (first | omega | (have zz0 := Hid.u hi_cn; omega)))
          refine lv_iload hx hb dX12_driven_35 (lvA0 hl) ?_
          refine lv_iload_n hx hb dX12_driven_37 rfl (lvA5 hl) ?_
          refine lv_icmp_ge (tgt := 111) hx hb dX12_driven_38 rfl (fun c_4 => ?_) (fun c_4 => ?_)
          ·
            have tc_4 : ((nI d0).toInt : Int) ≤ (nI i35).toInt := Int32.le_iff_toInt_le.mp c_4
            refine lv_iload_n hx hb dX12_driven_111 rfl (lvA3 hl) ?_
            refine lv_iload_n hx hb dX12_driven_112 rfl (lvA2 hl) ?_
            refine lv_iadd hx hb dX12_driven_113 ?_
            refine lv_iload hx hb dX12_driven_114 (lvA1 hl) ?_
            refine lv_iadd hx hb dX12_driven_116 ?_
            exact W.iret (v := ((x35_2 + x35_3) + x35_4)) hx hb hr (fun t ht hW => ⟨⟨((x35_2 + x35_3) + x35_4), ((va_up cn 18 0), In, Fn), rfl, ⟨(Fr.mo (Fr.c 18 Fr.rf) (sbl rfl) (sbl rfl) (sbl rfl)), (IM.fr (In := In) hI (Fr.c 18 Fr.rf) (by decide) (by decide)), (by show ((0 ≤ (nI d0).toInt ∧ (nI d0).toInt ≤ 20 ∧ (nI d0).toInt ≤ (cn 18 : Int)) ∧ (va_up cn 18 0) 18 = 0) ∨ (¬ (0 ≤ (nI d0).toInt ∧ (nI d0).toInt ≤ 20 ∧ (nI d0).toInt ≤ (cn 18 : Int)) ∧ (va_up cn 18 0) 18 = cn 18); show ((0 ≤ (nI d0).toInt ∧ (nI d0).toInt ≤ 20 ∧ (nI d0).toInt ≤ (cn 18 : Int)) ∧ 0 = 0) ∨ (¬ (0 ≤ (nI d0).toInt ∧ (nI d0).toInt ≤ 20 ∧ (nI d0).toInt ≤ (cn 18 : Int)) ∧ 0 = cn 18); (first | omega | (have zz0 := Hid.u hi_cn; omega)))⟩, by rw [ht]; exact hP, hD⟩, hS.F ht⟩) hS.2.2 dX12_driven_117
          ·
            have tc_4 : ((nI i35).toInt : Int) < (nI d0).toInt := Int32.lt_iff_toInt_lt.mp (Int32.not_le.mp c_4)
            refine lv_aload_n hx hb dX12_driven_41 rfl (lvA4 hl) ?_
            refine gM_52 S hK hP (v := .ref (g 17)) rfl dX12_driven_42 ?_
            refine lv_iload hx hb dX12_driven_45 (lvA0 hl) ?_
            have kb_1 : i35 < 200 := by (first | omega | (have zz0 := Hid.u hi_cn; omega))
            refine ldM_17 hx hb hK hP (x := ((Fn 17) i35)) (vp_in_nI kb_1 (ltb rfl)) (nI_clamp (Nat.lt_trans kb_1 (ltb rfl))) rfl dX12_driven_47 ?_
            refine lv_sipush (v := 255) hx hb dX12_driven_48 (by decide) ?_
            refine lv_iand hx hb dX12_driven_51 ?_
            refine lv_istore (lv' := [(6, .int (((Fn 17) i35) &&& 255)), (5, .int (nI i35)), (4, .int x35_4), (3, .int x35_3), (2, .int x35_2), (0, .ref (g 100)), (1, .int (nI d0))]) hx hb dX12_driven_52 hl (ltb rfl) rfl (fun ls hl => ?_)
            refine lv_aload_n hx hb dX12_driven_54 rfl (lvA5 hl) ?_
            refine lv_iload hx hb dX12_driven_55 (lvA0 hl) ?_
            refine vp_callSi (runV_ra (As := [.int (((Fn 17) i35) &&& 255)]) (rest := []) S (q_isKitchen l D cI cB cZ g (va_up cn 18 0) In Fn (((Fn 17) i35) &&& 255) (IM.fr (In := In) hI (Fr.c 18 Fr.rf) (by decide) (by decide))) kV_RX12_218 hK hP 0 rfl rfl rfl ⟨Nat.le_of_ble_eq_true rfl, Nat.le_of_ble_eq_true rfl⟩ ⟨Nat.le_of_ble_eq_true rfl, Nat.le_of_ble_eq_true rfl⟩ rfl hl.1 rfl (Nat.le_of_ble_eq_true rfl) dX12_driven_57) (fun r_5 h_6 => ?_)
            rcases h_6 with ⟨rfl, h_6⟩ | ⟨rfl, h_6⟩
            ·
              have h_6 : 0 ≤ (((Fn 17) i35) &&& 255).toInt ∧ (((Fn 17) i35) &&& 255).toInt < ((cn 1) : Int) := h_6
              refine lv_if_ne (tgt := 65) hx hb dX12_driven_60 rfl (fun _ => ?_) (fun h => absurd h cq_eq_1_0)
              refine lv_iload_n hx hb dX12_driven_65 rfl (lvA4 hl) ?_
              refine lv_iload_n hx hb dX12_driven_66 rfl (lvA3 hl) ?_
              refine lv_iload hx hb dX12_driven_67 (lvA2 hl) ?_
              refine lv_aload_n hx hb dX12_driven_69 rfl (lvA5 hl) ?_
              refine gM_7 S hK hP (v := .ref (g 3)) rfl dX12_driven_70 ?_
              refine lv_iload hx hb dX12_driven_73 (lvA0 hl) ?_
              refine ldM_3 hx hb hK hP (x := ((Fn 3) ((((Fn 17) i35) &&& 255).toNatClampNeg))) (vp_in_iff.mpr ⟨by (first | omega | (have zz0 := Hid.u hi_cn; omega)), by (first | omega | (have zz0 := Hid.u hi_cn; omega))⟩) rfl rfl dX12_driven_75 ?_
              refine lv_aload_n hx hb dX12_driven_76 rfl (lvA5 hl) ?_
              refine gM_13 S hK hP (v := .ref (g 4)) rfl dX12_driven_77 ?_
              refine lv_iload hx hb dX12_driven_80 (lvA0 hl) ?_
              refine ldM_4 hx hb hK hP (x := ((Fn 4) ((((Fn 17) i35) &&& 255).toNatClampNeg))) (vp_in_iff.mpr ⟨by (first | omega | (have zz0 := Hid.u hi_cn; omega)), by (first | omega | (have zz0 := Hid.u hi_cn; omega))⟩) rfl rfl dX12_driven_82 ?_
              refine vp_callSi (runS_r (As := [.int x35_3, .int x35_4, .int ((Fn 3) ((((Fn 17) i35) &&& 255).toNatClampNeg)), .int ((Fn 4) ((((Fn 17) i35) &&& 255).toNatClampNeg))]) (rest := [.int x35_2]) S (q_apart l D cI cB cZ x35_3 x35_4 ((Fn 3) ((((Fn 17) i35) &&& 255).toNatClampNeg)) ((Fn 4) ((((Fn 17) i35) &&& 255).toNatClampNeg)) ) kS_RX12_360 hK hP [] rfl ⟨Nat.le_of_ble_eq_true rfl, Nat.le_of_ble_eq_true rfl⟩ ⟨Nat.le_of_ble_eq_true rfl, Nat.le_of_ble_eq_true rfl⟩ rfl hl.1 rfl (Nat.le_of_ble_eq_true rfl) dX12_driven_83) (fun r_7 h_8 => ?_)
              subst h_8
              refine lv_iadd hx hb dX12_driven_86 ?_
              refine lv_istore_n (lv' := [(2, .int (x35_2 + (apM x35_3 x35_4 ((Fn 3) ((((Fn 17) i35) &&& 255).toNatClampNeg)) ((Fn 4) ((((Fn 17) i35) &&& 255).toNatClampNeg))))), (6, .int (((Fn 17) i35) &&& 255)), (5, .int (nI i35)), (4, .int x35_4), (3, .int x35_3), (0, .ref (g 100)), (1, .int (nI d0))]) hx hb dX12_driven_87 rfl hl (ltb rfl) rfl (fun ls hl => ?_)
              refine lv_aload_n hx hb dX12_driven_88 rfl (lvA5 hl) ?_
              refine gM_7 S hK hP (v := .ref (g 3)) rfl dX12_driven_89 ?_
              refine lv_iload hx hb dX12_driven_92 (lvA1 hl) ?_
              refine ldM_3 hx hb hK hP (x := ((Fn 3) ((((Fn 17) i35) &&& 255).toNatClampNeg))) (vp_in_iff.mpr ⟨by (first | omega | (have zz0 := Hid.u hi_cn; omega)), by (first | omega | (have zz0 := Hid.u hi_cn; omega))⟩) rfl rfl dX12_driven_94 ?_
              refine lv_istore_n (lv' := [(3, .int ((Fn 3) ((((Fn 17) i35) &&& 255).toNatClampNeg))), (2, .int (x35_2 + (apM x35_3 x35_4 ((Fn 3) ((((Fn 17) i35) &&& 255).toNatClampNeg)) ((Fn 4) ((((Fn 17) i35) &&& 255).toNatClampNeg))))), (6, .int (((Fn 17) i35) &&& 255)), (5, .int (nI i35)), (4, .int x35_4), (0, .ref (g 100)), (1, .int (nI d0))]) hx hb dX12_driven_95 rfl hl (ltb rfl) rfl (fun ls hl => ?_)
              refine lv_aload_n hx hb dX12_driven_96 rfl (lvA5 hl) ?_
              refine gM_13 S hK hP (v := .ref (g 4)) rfl dX12_driven_97 ?_
              refine lv_iload hx hb dX12_driven_100 (lvA2 hl) ?_
              refine ldM_4 hx hb hK hP (x := ((Fn 4) ((((Fn 17) i35) &&& 255).toNatClampNeg))) (vp_in_iff.mpr ⟨by (first | omega | (have zz0 := Hid.u hi_cn; omega)), by (first | omega | (have zz0 := Hid.u hi_cn; omega))⟩) rfl rfl dX12_driven_102 ?_
              refine lv_istore (lv' := [(4, .int ((Fn 4) ((((Fn 17) i35) &&& 255).toNatClampNeg))), (3, .int ((Fn 3) ((((Fn 17) i35) &&& 255).toNatClampNeg))), (2, .int (x35_2 + (apM x35_3 x35_4 ((Fn 3) ((((Fn 17) i35) &&& 255).toNatClampNeg)) ((Fn 4) ((((Fn 17) i35) &&& 255).toNatClampNeg))))), (6, .int (((Fn 17) i35) &&& 255)), (5, .int (nI i35)), (0, .ref (g 100)), (1, .int (nI d0))]) hx hb dX12_driven_103 hl (ltb rfl) rfl (fun ls hl => ?_)
              refine lv_iinc (v := (nI (i35 + 1))) (lv' := [(5, .int (nI (i35 + 1))), (4, .int ((Fn 4) ((((Fn 17) i35) &&& 255).toNatClampNeg))), (3, .int ((Fn 3) ((((Fn 17) i35) &&& 255).toNatClampNeg))), (2, .int (x35_2 + (apM x35_3 x35_4 ((Fn 3) ((((Fn 17) i35) &&& 255).toNatClampNeg)) ((Fn 4) ((((Fn 17) i35) &&& 255).toNatClampNeg))))), (6, .int (((Fn 17) i35) &&& 255)), (0, .ref (g 100)), (1, .int (nI d0))]) hx hb dX12_driven_105 hl (k := 4) rfl (nI_1 _) (ltb rfl) rfl (fun ls hl => ?_)
              refine lv_goto (tgt := 35) hx hb dX12_driven_108 rfl ?_
              exact ih35 (i35 + 1) (x35_2 + (apM x35_3 x35_4 ((Fn 3) ((((Fn 17) i35) &&& 255).toNatClampNeg)) ((Fn 4) ((((Fn 17) i35) &&& 255).toNatClampNeg)))) ((Fn 3) ((((Fn 17) i35) &&& 255).toNatClampNeg)) ((Fn 4) ((((Fn 17) i35) &&& 255).toNatClampNeg)) (by (first | omega | (have zz0 := Hid.u hi_cn; omega))) (by (first | omega | (have zz0 := Hid.u hi_cn; omega))) ls (lv_sub hl [0, 1, 2, 3, 5, 6] rfl)
            ·
              have h_6 : ¬ (0 ≤ (((Fn 17) i35) &&& 255).toInt ∧ (((Fn 17) i35) &&& 255).toInt < ((cn 1) : Int)) := h_6
              refine lv_if_ne (tgt := 65) hx hb dX12_driven_60 rfl (fun h => absurd h cq_eq_0_0) (fun _ => ?_)
              refine lv_iconst (v := (-1)) hx hb dX12_driven_63 kic_m1 ?_
              exact W.iret (v := (-1)) hx hb hr (fun t ht hW => ⟨⟨(-1), ((va_up cn 18 0), In, Fn), rfl, ⟨(Fr.mo (Fr.c 18 Fr.rf) (sbl rfl) (sbl rfl) (sbl rfl)), (IM.fr (In := In) hI (Fr.c 18 Fr.rf) (by decide) (by decide)), (by show ((0 ≤ (nI d0).toInt ∧ (nI d0).toInt ≤ 20 ∧ (nI d0).toInt ≤ (cn 18 : Int)) ∧ (va_up cn 18 0) 18 = 0) ∨ (¬ (0 ≤ (nI d0).toInt ∧ (nI d0).toInt ≤ 20 ∧ (nI d0).toInt ≤ (cn 18 : Int)) ∧ (va_up cn 18 0) 18 = cn 18); show ((0 ≤ (nI d0).toInt ∧ (nI d0).toInt ≤ 20 ∧ (nI d0).toInt ≤ (cn 18 : Int)) ∧ 0 = 0) ∨ (¬ (0 ≤ (nI d0).toInt ∧ (nI d0).toInt ≤ 20 ∧ (nI d0).toInt ≤ (cn 18 : Int)) ∧ 0 = cn 18); (first | omega | (have zz0 := Hid.u hi_cn; omega)))⟩, by rw [ht]; exact hP, hD⟩, hS.F ht⟩) hS.2.2 dX12_driven_64
      exact lp_35 _ 0 0 0 0 (Nat.lt_succ_self _) (by (first | omega | (have zz0 := Hid.u hi_cn; omega))) ls (lv_sub hl [0, 1, 2, 3, 4, 5] rfl)
    ·
      have tc_3 : ((nI (cn 18)).toInt : Int) < v0.toInt := Int32.lt_iff_toInt_lt.mp (Int32.not_le.mp c_3)
      refine lv_iconst (v := (-1)) hx hb dX12_driven_18 kic_m1 ?_
      exact W.iret (v := (-1)) hx hb hr (fun t ht hW => ⟨⟨(-1), (cn, In, Fn), rfl, ⟨(Fr.mo Fr.rf (sbl rfl) (sbl rfl) (sbl rfl)), hI, (by show ((0 ≤ v0.toInt ∧ v0.toInt ≤ 20 ∧ v0.toInt ≤ (cn 18 : Int)) ∧ cn 18 = 0) ∨ (¬ (0 ≤ v0.toInt ∧ v0.toInt ≤ 20 ∧ v0.toInt ≤ (cn 18 : Int)) ∧ cn 18 = cn 18); show ((0 ≤ v0.toInt ∧ v0.toInt ≤ 20 ∧ v0.toInt ≤ (cn 18 : Int)) ∧ (cn 18) = 0) ∨ (¬ (0 ≤ v0.toInt ∧ v0.toInt ≤ 20 ∧ v0.toInt ≤ (cn 18 : Int)) ∧ (cn 18) = cn 18); (first | omega | (have zz0 := Hid.u hi_cn; omega)))⟩, by rw [ht]; exact hP, hD⟩, hS.F ht⟩) hS.2.2 dX12_driven_19
  ·
    have h_2 : ¬ (0 ≤ v0.toInt ∧ v0.toInt ≤ 20) := h_2
    refine lv_if_eq (tgt := 18) hx hb dX12_driven_7 rfl (fun _ => ?_) (fun h => absurd h cq_eq_0_0)
    refine lv_iconst (v := (-1)) hx hb dX12_driven_18 kic_m1 ?_
    exact W.iret (v := (-1)) hx hb hr (fun t ht hW => ⟨⟨(-1), (cn, In, Fn), rfl, ⟨(Fr.mo Fr.rf (sbl rfl) (sbl rfl) (sbl rfl)), hI, (by show ((0 ≤ v0.toInt ∧ v0.toInt ≤ 20 ∧ v0.toInt ≤ (cn 18 : Int)) ∧ cn 18 = 0) ∨ (¬ (0 ≤ v0.toInt ∧ v0.toInt ≤ 20 ∧ v0.toInt ≤ (cn 18 : Int)) ∧ cn 18 = cn 18); show ((0 ≤ v0.toInt ∧ v0.toInt ≤ 20 ∧ v0.toInt ≤ (cn 18 : Int)) ∧ (cn 18) = 0) ∨ (¬ (0 ≤ v0.toInt ∧ v0.toInt ≤ 20 ∧ v0.toInt ≤ (cn 18 : Int)) ∧ (cn 18) = cn 18); (first | omega | (have zz0 := Hid.u hi_cn; omega)))⟩, by rw [ht]; exact hP, hD⟩, hS.F ht⟩) hS.2.2 dX12_driven_19
set_option maxRecDepth 100000 in
set_option maxHeartbeats 4000000 in
theorem q_check9 (l : Launch) (D : va_G) (cI cB cZ : ClassId) (g : Nat → Nat) (cn : Nat → Nat) (In : Nat → Int32) (Fn : Nat → Nat → Int32) (v0 v1 : Int32) (sz : Nat) (hI : IM cn Fn) (h18 : cn 18 ≤ 200) : Met l yX12_check (CWS yX12_check cX12_check 5 (some .int)) (RM 1 0 0) (PBw [.ref (g 100), .int v0, .int v1] D cI cB cZ (wM cI cB cZ g cn In Fn) sz) (va_Qi (fun (r : Int32) (u : (Nat → Nat) × (Nat → Int32) × (Nat → Nat → Int32)) => (fun r c2 I2 F2 => Fr [18] [] [] cn In Fn c2 I2 F2 ∧ IM c2 F2 ∧ (((0 ≤ v0.toInt ∧ v0.toInt < (cn 1 : Int) ∧ 0 ≤ v1.toInt ∧ 16 * v1.toInt ≤ (cn 18 : Int)) ∧ c2 18 = 0) ∨ (¬ (0 ≤ v0.toInt ∧ v0.toInt < (cn 1 : Int) ∧ 0 ≤ v1.toInt ∧ 16 * v1.toInt ≤ (cn 18 : Int)) ∧ c2 18 = cn 18))) r u.1 u.2.1 u.2.2) (fun (u : (Nat → Nat) × (Nat → Int32) × (Nat → Nat → Int32)) (t : State) => va_P D vwCl (wM cI cB cZ g u.1 u.2.1 u.2.2) t.heap ∧ va_D (va_A (wM cI cB cZ g cn In Fn) sz) (wM cI cB cZ g u.1 u.2.1 u.2.2)) (va_A (wM cI cB cZ g cn In Fn) sz)) 0 0 (va_A (wM cI cB cZ g cn In Fn) sz) := by
  refine en_w (fun A => (va_Qi (fun (r : Int32) (u : (Nat → Nat) × (Nat → Int32) × (Nat → Nat → Int32)) => (fun (r : Int32) (c2 : Nat → Nat) (I2 : Nat → Int32) (F2 : Nat → Nat → Int32) => Fr [18] [] [] cn In Fn c2 I2 F2 ∧ IM c2 F2 ∧ (((0 ≤ v0.toInt ∧ v0.toInt < (cn 1 : Int) ∧ 0 ≤ v1.toInt ∧ 16 * v1.toInt ≤ (cn 18 : Int)) ∧ c2 18 = 0) ∨ (¬ (0 ≤ v0.toInt ∧ v0.toInt < (cn 1 : Int) ∧ 0 ≤ v1.toInt ∧ 16 * v1.toInt ≤ (cn 18 : Int)) ∧ c2 18 = cn 18))) r u.1 u.2.1 u.2.2) (fun (u : (Nat → Nat) × (Nat → Int32) × (Nat → Nat → Int32)) (t : State) => va_P D vwCl (wM cI cB cZ g u.1 u.2.1 u.2.2) t.heap ∧ va_D A (wM cI cB cZ g u.1 u.2.1 u.2.2)) A)) rfl rfl pn_RX12 (Nat.le_of_ble_eq_true rfl) (fun p e s m below meth c A hx hb hml hown S hr hlocks hnm hA hP hK hD hS ls hl => ?_)
  have hl : lv_has ls 5 [(0, .ref (g 100)), (1, .int v0), (2, .int v1)] := hl
  have hi_cn : Hid (CB cn) := hI.b
  refine lv_aload_n hx hb dX12_check_0 rfl (lvA0 hl) ?_
  refine lv_iload_n hx hb dX12_check_1 rfl (lvA1 hl) ?_
  refine vp_callSi (runV_ra (As := [.int v0]) (rest := []) S (q_isKitchen l D cI cB cZ g cn In Fn v0 hI) kV_RX12_218 hK hP 0 rfl rfl rfl ⟨Nat.le_of_ble_eq_true rfl, Nat.le_of_ble_eq_true rfl⟩ ⟨Nat.le_of_ble_eq_true rfl, Nat.le_of_ble_eq_true rfl⟩ rfl hl.1 rfl (Nat.le_of_ble_eq_true rfl) dX12_check_2) (fun r_1 h_2 => ?_)
  rcases h_2 with ⟨rfl, h_2⟩ | ⟨rfl, h_2⟩
  ·
    have h_2 : 0 ≤ v0.toInt ∧ v0.toInt < ((cn 1) : Int) := h_2
    refine lv_if_eq (tgt := 23) hx hb dX12_check_5 rfl (fun h => absurd h cq_eq_1_0) (fun _ => ?_)
    refine lv_iload_n hx hb dX12_check_8 rfl (lvA2 hl) ?_
    refine lv_if_lt (tgt := 23) hx hb dX12_check_9 rfl (fun c_3 => ?_) (fun c_3 => ?_)
    ·
      have tc_3 : (v1.toInt : Int) < 0 := Int32.lt_iff_toInt_lt.mp c_3
      refine lv_bipush (v := (-2)) hx hb dX12_check_23 kbc_m2 ?_
      exact W.iret (v := (-2)) hx hb hr (fun t ht hW => ⟨⟨(-2), (cn, In, Fn), rfl, ⟨(Fr.mo Fr.rf (sbl rfl) (sbl rfl) (sbl rfl)), hI, (by show ((0 ≤ v0.toInt ∧ v0.toInt < (cn 1 : Int) ∧ 0 ≤ v1.toInt ∧ 16 * v1.toInt ≤ (cn 18 : Int)) ∧ cn 18 = 0) ∨ (¬ (0 ≤ v0.toInt ∧ v0.toInt < (cn 1 : Int) ∧ 0 ≤ v1.toInt ∧ 16 * v1.toInt ≤ (cn 18 : Int)) ∧ cn 18 = cn 18); show ((0 ≤ v0.toInt ∧ v0.toInt < (cn 1 : Int) ∧ 0 ≤ v1.toInt ∧ 16 * v1.toInt ≤ (cn 18 : Int)) ∧ (cn 18) = 0) ∨ (¬ (0 ≤ v0.toInt ∧ v0.toInt < (cn 1 : Int) ∧ 0 ≤ v1.toInt ∧ 16 * v1.toInt ≤ (cn 18 : Int)) ∧ (cn 18) = cn 18); (first | omega | (have zz0 := Hid.u hi_cn; omega)))⟩, by rw [ht]; exact hP, hD⟩, hS.F ht⟩) hS.2.2 dX12_check_25
    ·
      have tc_3 : (0 : Int) ≤ v1.toInt := Int32.le_iff_toInt_le.mp (Int32.not_lt.mp c_3)
      refine lv_iload_n hx hb dX12_check_12 rfl (lvA2 hl) ?_
      refine lv_aload_n hx hb dX12_check_13 rfl (lvA0 hl) ?_
      refine gM_226 S hK hP (v := .int (nI (cn 18))) rfl dX12_check_14 ?_
      refine lv_bipush (v := 16) hx hb dX12_check_17 kbc_16 ?_
      refine lv_idiv hx hb dX12_check_19 (by decide) ?_
      refine lv_topi (fun y_4 ey_4 => ?_)
      obtain rfl : y_4 = (nI ((cn 18) / 16)) := ey_4.trans (nI_div (by (first | omega | (have zz0 := Hid.u hi_cn; omega))) (by decide))
      have : (nI ((cn 18) / 16)).toInt = ((((cn 18) / 16) : Nat) : Int) := nI_toInt (by (first | omega | (have zz0 := Hid.u hi_cn; omega)))
      refine lv_icmp_le (tgt := 26) hx hb dX12_check_20 rfl (fun c_5 => ?_) (fun c_5 => ?_)
      ·
        have tc_5 : (v1.toInt : Int) ≤ (nI ((cn 18) / 16)).toInt := Int32.le_iff_toInt_le.mp c_5
        obtain ⟨d1, hd1, rfl⟩ := nI_of (x := v1) (fun q => by have := Int32.lt_iff_toInt_lt.mp q; have e : (0 : Int32).toInt = 0 := rfl; (first | omega | (have zz0 := Hid.u hi_cn; omega)))
        have td1 : (nI d1).toInt = (d1 : Int) := nI_toInt hd1
        have zd1 : (nI d1).toInt.toNat = d1 := by (first | omega | (have zz0 := Hid.u hi_cn; omega))
        refine lv_aload_n hx hb dX12_check_26 rfl (lvA0 hl) ?_
        refine lv_iconst (v := 0) hx hb dX12_check_27 kic_0 ?_
        refine pM_226 S hK hP hD hS (a := 0) (cn2 := (va_up cn 18 0)) rfl rfl dX12_check_28 (fun H locs hP hD hS => ?_)
        refine lv_iconst (v := 0) hx hb dX12_check_31 kic_0 ?_
        refine lv_istore_n (lv' := [(3, .int 0), (0, .ref (g 100)), (1, .int v0), (2, .int (nI d1))]) hx hb dX12_check_32 rfl hl (ltb rfl) rfl (fun ls hl => ?_)
        refine lv_iconst (v := 0) hx hb dX12_check_33 kic_0 ?_
        refine lv_istore (lv' := [(4, .int 0), (3, .int 0), (0, .ref (g 100)), (1, .int v0), (2, .int (nI d1))]) hx hb dX12_check_34 hl (ltb rfl) rfl (fun ls hl => ?_)
        have lp_36 : ∀ (n : Nat) (i36 : Nat) (n36 : Nat) , cn 2 - i36 < n → (i36 ≤ cn 2 ∧ (n36 % 4 = 0 ∧ n36 ≤ 4 * d1)) → ∀ ls : Array Slot, lv_has ls 5 [(4, .int (nI i36)), (3, .int (nI n36)), (0, .ref (g 100)), (1, .int v0), (2, .int (nI d1))] → W p l e (RM 1 0 0) s m ([.ref (g 100), .int v0, .int (nI d1)]).toArray below meth c H locs 0 0 (MQ below (va_Qi (fun (r : Int32) (u : (Nat → Nat) × (Nat → Int32) × (Nat → Nat → Int32)) => (fun r c2 I2 F2 => Fr [18] [] [] cn In Fn c2 I2 F2 ∧ IM c2 F2 ∧ (((0 ≤ v0.toInt ∧ v0.toInt < (cn 1 : Int) ∧ 0 ≤ (nI d1).toInt ∧ 16 * (nI d1).toInt ≤ (cn 18 : Int)) ∧ c2 18 = 0) ∨ (¬ (0 ≤ v0.toInt ∧ v0.toInt < (cn 1 : Int) ∧ 0 ≤ (nI d1).toInt ∧ 16 * (nI d1).toInt ≤ (cn 18 : Int)) ∧ c2 18 = cn 18))) r u.1 u.2.1 u.2.2) (fun (u : (Nat → Nat) × (Nat → Int32) × (Nat → Nat → Int32)) (t : State) => va_P D vwCl (wM cI cB cZ g u.1 u.2.1 u.2.2) t.heap ∧ va_D A (wM cI cB cZ g u.1 u.2.1 u.2.2)) A) ([.ref (g 100), .int v0, .int (nI d1)]).toArray s 0 0 A) (F0 m 36 ls []) := by
          intro n36
          induction n36 with
          | zero => intros; (first | omega | (have zz0 := Hid.u hi_cn; omega))
          | succ n36 ih36 =>
            intro i36 n36 hmu36 hinv36 ls hl
            obtain ⟨hr36, hx36_0⟩ := hinv36
            have ti36 : (nI i36).toInt = (i36 : Int) := nI_toInt (by (first | omega | (have zz0 := Hid.u hi_cn; omega)))
            refine lv_iload hx hb dX12_check_36 (lvA0 hl) ?_
            refine lv_aload_n hx hb dX12_check_38 rfl (lvA2 hl) ?_
            refine gM_208 S hK hP (v := .int (nI (cn 2))) rfl dX12_check_39 ?_
            have : (nI (cn 2)).toInt = (((cn 2) : Nat) : Int) := nI_toInt (by (first | omega | (have zz0 := Hid.u hi_cn; omega)))
            refine lv_icmp_ge (tgt := 151) hx hb dX12_check_42 rfl (fun c_6 => ?_) (fun c_6 => ?_)
            ·
              have tc_6 : ((nI (cn 2)).toInt : Int) ≤ (nI i36).toInt := Int32.le_iff_toInt_le.mp c_6
              refine lv_iload_n hx hb dX12_check_151 rfl (lvA1 hl) ?_
              refine lv_iconst (v := 4) hx hb dX12_check_152 kic_4 ?_
              refine lv_iload_n hx hb dX12_check_153 rfl (lvA4 hl) ?_
              refine lv_imul hx hb dX12_check_154 ?_
              refine lv_topi (fun y_7 ey_7 => ?_)
              obtain rfl : y_7 = (nI (4 * d1)) := ey_7.trans (pk_mul 4 d1)
              have : (nI n36).toInt = ((n36 : Nat) : Int) := nI_toInt (by (first | omega | (have zz0 := Hid.u hi_cn; omega)))
              have : (nI (4 * d1)).toInt = (((4 * d1) : Nat) : Int) := nI_toInt (by (first | omega | (have zz0 := Hid.u hi_cn; omega)))
              refine lv_icmp_ge (tgt := 162) hx hb dX12_check_155 rfl (fun c_8 => ?_) (fun c_8 => ?_)
              ·
                have tc_8 : ((nI (4 * d1)).toInt : Int) ≤ (nI n36).toInt := Int32.le_iff_toInt_le.mp c_8
                refine lv_iconst (v := (-1)) hx hb dX12_check_162 kic_m1 ?_
                exact W.iret (v := (-1)) hx hb hr (fun t ht hW => ⟨⟨(-1), ((va_up cn 18 0), In, Fn), rfl, ⟨(Fr.mo (Fr.c 18 Fr.rf) (sbl rfl) (sbl rfl) (sbl rfl)), (IM.fr (In := In) hI (Fr.c 18 Fr.rf) (by decide) (by decide)), (by show ((0 ≤ v0.toInt ∧ v0.toInt < (cn 1 : Int) ∧ 0 ≤ (nI d1).toInt ∧ 16 * (nI d1).toInt ≤ (cn 18 : Int)) ∧ (va_up cn 18 0) 18 = 0) ∨ (¬ (0 ≤ v0.toInt ∧ v0.toInt < (cn 1 : Int) ∧ 0 ≤ (nI d1).toInt ∧ 16 * (nI d1).toInt ≤ (cn 18 : Int)) ∧ (va_up cn 18 0) 18 = cn 18); show ((0 ≤ v0.toInt ∧ v0.toInt < (cn 1 : Int) ∧ 0 ≤ (nI d1).toInt ∧ 16 * (nI d1).toInt ≤ (cn 18 : Int)) ∧ 0 = 0) ∨ (¬ (0 ≤ v0.toInt ∧ v0.toInt < (cn 1 : Int) ∧ 0 ≤ (nI d1).toInt ∧ 16 * (nI d1).toInt ≤ (cn 18 : Int)) ∧ 0 = cn 18); (first | omega | (have zz0 := Hid.u hi_cn; omega)))⟩, by rw [ht]; exact hP, hD⟩, hS.F ht⟩) hS.2.2 dX12_check_163
              ·
                have tc_8 : ((nI n36).toInt : Int) < (nI (4 * d1)).toInt := Int32.lt_iff_toInt_lt.mp (Int32.not_le.mp c_8)
                refine lv_iload_n hx hb dX12_check_158 rfl (lvA1 hl) ?_
                refine lv_goto (tgt := 163) hx hb dX12_check_159 rfl ?_
                exact W.iret (v := (nI n36)) hx hb hr (fun t ht hW => ⟨⟨(nI n36), ((va_up cn 18 0), In, Fn), rfl, ⟨(Fr.mo (Fr.c 18 Fr.rf) (sbl rfl) (sbl rfl) (sbl rfl)), (IM.fr (In := In) hI (Fr.c 18 Fr.rf) (by decide) (by decide)), (by show ((0 ≤ v0.toInt ∧ v0.toInt < (cn 1 : Int) ∧ 0 ≤ (nI d1).toInt ∧ 16 * (nI d1).toInt ≤ (cn 18 : Int)) ∧ (va_up cn 18 0) 18 = 0) ∨ (¬ (0 ≤ v0.toInt ∧ v0.toInt < (cn 1 : Int) ∧ 0 ≤ (nI d1).toInt ∧ 16 * (nI d1).toInt ≤ (cn 18 : Int)) ∧ (va_up cn 18 0) 18 = cn 18); have t9 : (nI n36).toInt = ((n36 : Nat) : Int) := nI_toInt (by (first | omega | (have zz0 := Hid.u hi_cn; omega))); show ((0 ≤ v0.toInt ∧ v0.toInt < (cn 1 : Int) ∧ 0 ≤ (nI d1).toInt ∧ 16 * (nI d1).toInt ≤ (cn 18 : Int)) ∧ 0 = 0) ∨ (¬ (0 ≤ v0.toInt ∧ v0.toInt < (cn 1 : Int) ∧ 0 ≤ (nI d1).toInt ∧ 16 * (nI d1).toInt ≤ (cn 18 : Int)) ∧ 0 = cn 18); (first | omega | (have zz0 := Hid.u hi_cn; omega)))⟩, by rw [ht]; exact hP, hD⟩, hS.F ht⟩) hS.2.2 dX12_check_163
            ·
              have tc_6 : ((nI i36).toInt : Int) < (nI (cn 2)).toInt := Int32.lt_iff_toInt_lt.mp (Int32.not_le.mp c_6)
              refine lv_aload_n hx hb dX12_check_45 rfl (lvA2 hl) ?_
              refine gM_25 S hK hP (v := .ref (g 8)) rfl dX12_check_46 ?_
              refine lv_iload hx hb dX12_check_49 (lvA0 hl) ?_
              have kb_1 : i36 < 60 := by (first | omega | (have zz0 := Hid.u hi_cn; omega))
              obtain ⟨a_9, ha_9, ea_9⟩ := hI.e8 i36 (by (first | omega | (have zz0 := Hid.u hi_cn; omega)))
              refine ldM_8 hx hb hK hP (x := (nI a_9)) (vp_in_nI kb_1 (ltb rfl)) (nI_clamp (Nat.lt_trans kb_1 (ltb rfl))) ea_9 dX12_check_51 ?_
              refine lv_iload_n hx hb dX12_check_52 rfl (lvA3 hl) ?_
              have : (nI a_9).toInt = ((a_9 : Nat) : Int) := nI_toInt (by (first | omega | (have zz0 := Hid.u hi_cn; omega)))
              refine lv_icmp_eq (tgt := 59) hx hb dX12_check_53 rfl (fun c_10 => ?_) (fun c_10 => ?_)
              ·
                have tc_10 : ((nI a_9).toInt : Int) = v0.toInt := congrArg Int32.toInt c_10
                refine lv_iload_n hx hb dX12_check_59 rfl (lvA1 hl) ?_
                refine lv_iconst (v := 4) hx hb dX12_check_60 kic_4 ?_
                refine lv_iload_n hx hb dX12_check_61 rfl (lvA4 hl) ?_
                refine lv_imul hx hb dX12_check_62 ?_
                refine lv_topi (fun y_11 ey_11 => ?_)
                obtain rfl : y_11 = (nI (4 * d1)) := ey_11.trans (pk_mul 4 d1)
                have : (nI n36).toInt = ((n36 : Nat) : Int) := nI_toInt (by (first | omega | (have zz0 := Hid.u hi_cn; omega)))
                have : (nI (4 * d1)).toInt = (((4 * d1) : Nat) : Int) := nI_toInt (by (first | omega | (have zz0 := Hid.u hi_cn; omega)))
                refine lv_icmp_eq (tgt := 76) hx hb dX12_check_63 rfl (fun c_12 => ?_) (fun c_12 => ?_)
                ·
                  have tc_12 : ((nI n36).toInt : Int) = (nI (4 * d1)).toInt := congrArg Int32.toInt c_12
                  refine lv_iload_n hx hb dX12_check_76 rfl (lvA1 hl) ?_
                  exact W.iret (v := (nI n36)) hx hb hr (fun t ht hW => ⟨⟨(nI n36), ((va_up cn 18 0), In, Fn), rfl, ⟨(Fr.mo (Fr.c 18 Fr.rf) (sbl rfl) (sbl rfl) (sbl rfl)), (IM.fr (In := In) hI (Fr.c 18 Fr.rf) (by decide) (by decide)), (by show ((0 ≤ v0.toInt ∧ v0.toInt < (cn 1 : Int) ∧ 0 ≤ (nI d1).toInt ∧ 16 * (nI d1).toInt ≤ (cn 18 : Int)) ∧ (va_up cn 18 0) 18 = 0) ∨ (¬ (0 ≤ v0.toInt ∧ v0.toInt < (cn 1 : Int) ∧ 0 ≤ (nI d1).toInt ∧ 16 * (nI d1).toInt ≤ (cn 18 : Int)) ∧ (va_up cn 18 0) 18 = cn 18); have t9 : (nI n36).toInt = ((n36 : Nat) : Int) := nI_toInt (by (first | omega | (have zz0 := Hid.u hi_cn; omega))); show ((0 ≤ v0.toInt ∧ v0.toInt < (cn 1 : Int) ∧ 0 ≤ (nI d1).toInt ∧ 16 * (nI d1).toInt ≤ (cn 18 : Int)) ∧ 0 = 0) ∨ (¬ (0 ≤ v0.toInt ∧ v0.toInt < (cn 1 : Int) ∧ 0 ≤ (nI d1).toInt ∧ 16 * (nI d1).toInt ≤ (cn 18 : Int)) ∧ 0 = cn 18); (first | omega | (have zz0 := Hid.u hi_cn; omega)))⟩, by rw [ht]; exact hP, hD⟩, hS.F ht⟩) hS.2.2 dX12_check_77
                ·
                  have tc_12 : ((nI n36).toInt : Int) ≠ (nI (4 * d1)).toInt := fun q => c_12 (Int32.toInt_inj.mp q)
                  refine lv_aload_n hx hb dX12_check_66 rfl (lvA2 hl) ?_
                  refine lv_iload_n hx hb dX12_check_67 rfl (lvA1 hl) ?_
                  refine vp_callSi (runV_ra (As := [.int (nI n36)]) (rest := []) S (q_tapeNumber l D cI cB cZ g (va_up cn 18 0) In Fn n36 (IM.fr (In := In) hI (Fr.c 18 Fr.rf) (by decide) (by decide)) (show 4 * n36 + 4 ≤ 200 by (first | omega | (have zz0 := Hid.u hi_cn; omega)))) kV_RX12_481 hK hP 0 rfl rfl rfl ⟨Nat.le_of_ble_eq_true rfl, Nat.le_of_ble_eq_true rfl⟩ ⟨Nat.le_of_ble_eq_true rfl, Nat.le_of_ble_eq_true rfl⟩ rfl hl.1 rfl (Nat.le_of_ble_eq_true rfl) dX12_check_68) (fun r_13 h_14 => ?_)
                  refine lv_iload hx hb dX12_check_71 (lvA0 hl) ?_
                  refine lv_icmp_eq (tgt := 78) hx hb dX12_check_73 rfl (fun c_15 => ?_) (fun c_15 => ?_)
                  ·
                    have tc_15 : (r_13.toInt : Int) = (nI i36).toInt := congrArg Int32.toInt c_15
                    refine lv_aload_n hx hb dX12_check_78 rfl (lvA2 hl) ?_
                    refine lv_iload_n hx hb dX12_check_79 rfl (lvA1 hl) ?_
                    refine lv_iconst (v := 1) hx hb dX12_check_80 kic_1 ?_
                    refine lv_iadd hx hb dX12_check_81 ?_
                    refine lv_topi (fun y_16 ey_16 => ?_)
                    obtain rfl : y_16 = (nI (n36 + 1)) := ey_16.trans (nI_add n36 1)
                    refine vp_callSi (runV_ra (As := [.int (nI (n36 + 1))]) (rest := []) S (q_tapeNumber l D cI cB cZ g (va_up cn 18 0) In Fn (n36 + 1) (IM.fr (In := In) hI (Fr.c 18 Fr.rf) (by decide) (by decide)) (show 4 * (n36 + 1) + 4 ≤ 200 by (first | omega | (have zz0 := Hid.u hi_cn; omega)))) kV_RX12_481 hK hP 0 rfl rfl rfl ⟨Nat.le_of_ble_eq_true rfl, Nat.le_of_ble_eq_true rfl⟩ ⟨Nat.le_of_ble_eq_true rfl, Nat.le_of_ble_eq_true rfl⟩ rfl hl.1 rfl (Nat.le_of_ble_eq_true rfl) dX12_check_82) (fun r_17 h_18 => ?_)
                    refine lv_aload_n hx hb dX12_check_85 rfl (lvA2 hl) ?_
                    refine gM_28 S hK hP (v := .ref (g 9)) rfl dX12_check_86 ?_
                    refine lv_iload hx hb dX12_check_89 (lvA0 hl) ?_
                    obtain ⟨a_19, ha_19, ea_19⟩ := hI.e9 i36 (by (first | omega | (have zz0 := Hid.u hi_cn; omega)))
                    refine ldM_9 hx hb hK hP (x := (nI a_19)) (vp_in_nI kb_1 (ltb rfl)) (nI_clamp (Nat.lt_trans kb_1 (ltb rfl))) ea_19 dX12_check_91 ?_
                    have : (nI a_19).toInt = ((a_19 : Nat) : Int) := nI_toInt (by (first | omega | (have zz0 := Hid.u hi_cn; omega)))
                    refine lv_icmp_eq (tgt := 99) hx hb dX12_check_92 rfl (fun c_20 => ?_) (fun c_20 => ?_)
                    ·
                      have tc_20 : (r_17.toInt : Int) = (nI a_19).toInt := congrArg Int32.toInt c_20
                      refine lv_aload_n hx hb dX12_check_99 rfl (lvA2 hl) ?_
                      refine lv_iload_n hx hb dX12_check_100 rfl (lvA1 hl) ?_
                      refine lv_iconst (v := 2) hx hb dX12_check_101 kic_2 ?_
                      refine lv_iadd hx hb dX12_check_102 ?_
                      refine lv_topi (fun y_21 ey_21 => ?_)
                      obtain rfl : y_21 = (nI (n36 + 2)) := ey_21.trans (nI_add n36 2)
                      refine vp_callSi (runV_ra (As := [.int (nI (n36 + 2))]) (rest := []) S (q_tapeNumber l D cI cB cZ g (va_up cn 18 0) In Fn (n36 + 2) (IM.fr (In := In) hI (Fr.c 18 Fr.rf) (by decide) (by decide)) (show 4 * (n36 + 2) + 4 ≤ 200 by (first | omega | (have zz0 := Hid.u hi_cn; omega)))) kV_RX12_481 hK hP 0 rfl rfl rfl ⟨Nat.le_of_ble_eq_true rfl, Nat.le_of_ble_eq_true rfl⟩ ⟨Nat.le_of_ble_eq_true rfl, Nat.le_of_ble_eq_true rfl⟩ rfl hl.1 rfl (Nat.le_of_ble_eq_true rfl) dX12_check_103) (fun r_22 h_23 => ?_)
                      refine lv_aload_n hx hb dX12_check_106 rfl (lvA2 hl) ?_
                      refine gM_31 S hK hP (v := .ref (g 10)) rfl dX12_check_107 ?_
                      refine lv_iload hx hb dX12_check_110 (lvA0 hl) ?_
                      obtain ⟨a_24, ha_24, ea_24⟩ := hI.e10 i36 (by (first | omega | (have zz0 := Hid.u hi_cn; omega)))
                      refine ldM_10 hx hb hK hP (x := (nI a_24)) (vp_in_nI kb_1 (ltb rfl)) (nI_clamp (Nat.lt_trans kb_1 (ltb rfl))) ea_24 dX12_check_112 ?_
                      have : (nI a_24).toInt = ((a_24 : Nat) : Int) := nI_toInt (by (first | omega | (have zz0 := Hid.u hi_cn; omega)))
                      refine lv_icmp_eq (tgt := 120) hx hb dX12_check_113 rfl (fun c_25 => ?_) (fun c_25 => ?_)
                      ·
                        have tc_25 : (r_22.toInt : Int) = (nI a_24).toInt := congrArg Int32.toInt c_25
                        refine lv_aload_n hx hb dX12_check_120 rfl (lvA2 hl) ?_
                        refine lv_iload_n hx hb dX12_check_121 rfl (lvA1 hl) ?_
                        refine lv_iconst (v := 3) hx hb dX12_check_122 kic_3 ?_
                        refine lv_iadd hx hb dX12_check_123 ?_
                        refine lv_topi (fun y_26 ey_26 => ?_)
                        obtain rfl : y_26 = (nI (n36 + 3)) := ey_26.trans (nI_add n36 3)
                        refine vp_callSi (runV_ra (As := [.int (nI (n36 + 3))]) (rest := []) S (q_tapeNumber l D cI cB cZ g (va_up cn 18 0) In Fn (n36 + 3) (IM.fr (In := In) hI (Fr.c 18 Fr.rf) (by decide) (by decide)) (show 4 * (n36 + 3) + 4 ≤ 200 by (first | omega | (have zz0 := Hid.u hi_cn; omega)))) kV_RX12_481 hK hP 0 rfl rfl rfl ⟨Nat.le_of_ble_eq_true rfl, Nat.le_of_ble_eq_true rfl⟩ ⟨Nat.le_of_ble_eq_true rfl, Nat.le_of_ble_eq_true rfl⟩ rfl hl.1 rfl (Nat.le_of_ble_eq_true rfl) dX12_check_124) (fun r_27 h_28 => ?_)
                        refine lv_aload_n hx hb dX12_check_127 rfl (lvA2 hl) ?_
                        refine gM_43 S hK hP (v := .ref (g 14)) rfl dX12_check_128 ?_
                        refine lv_iload hx hb dX12_check_131 (lvA0 hl) ?_
                        refine ldM_14 hx hb hK hP (x := ((Fn 14) i36)) (vp_in_nI kb_1 (ltb rfl)) (nI_clamp (Nat.lt_trans kb_1 (ltb rfl))) rfl dX12_check_133 ?_
                        refine lv_icmp_eq (tgt := 141) hx hb dX12_check_134 rfl (fun c_29 => ?_) (fun c_29 => ?_)
                        ·
                          have tc_29 : (r_27.toInt : Int) = ((Fn 14) i36).toInt := congrArg Int32.toInt c_29
                          refine lv_iload_n hx hb dX12_check_141 rfl (lvA1 hl) ?_
                          refine lv_iconst (v := 4) hx hb dX12_check_142 kic_4 ?_
                          refine lv_iadd hx hb dX12_check_143 ?_
                          refine lv_topi (fun y_30 ey_30 => ?_)
                          obtain rfl : y_30 = (nI (n36 + 4)) := ey_30.trans (nI_add n36 4)
                          refine lv_istore_n (lv' := [(3, .int (nI (n36 + 4))), (4, .int (nI i36)), (0, .ref (g 100)), (1, .int v0), (2, .int (nI d1))]) hx hb dX12_check_144 rfl hl (ltb rfl) rfl (fun ls hl => ?_)
                          refine lv_iinc (v := (nI (i36 + 1))) (lv' := [(4, .int (nI (i36 + 1))), (3, .int (nI (n36 + 4))), (0, .ref (g 100)), (1, .int v0), (2, .int (nI d1))]) hx hb dX12_check_145 hl (k := 1) rfl (nI_1 _) (ltb rfl) rfl (fun ls hl => ?_)
                          refine lv_goto (tgt := 36) hx hb dX12_check_148 rfl ?_
                          exact ih36 (i36 + 1) (n36 + 4) (by (first | omega | (have zz0 := Hid.u hi_cn; omega))) ⟨(by (first | omega | (have zz0 := Hid.u hi_cn; omega))), ⟨by (first | omega | (have zz0 := Hid.u hi_cn; omega)), by (first | omega | (have zz0 := Hid.u hi_cn; omega))⟩⟩ ls (lv_sub hl [0, 1, 2, 3, 4] rfl)
                        ·
                          have tc_29 : (r_27.toInt : Int) ≠ ((Fn 14) i36).toInt := fun q => c_29 (Int32.toInt_inj.mp q)
                          refine lv_iload_n hx hb dX12_check_137 rfl (lvA1 hl) ?_
                          refine lv_iconst (v := 3) hx hb dX12_check_138 kic_3 ?_
                          refine lv_iadd hx hb dX12_check_139 ?_
                          refine lv_topi (fun y_31 ey_31 => ?_)
                          obtain rfl : y_31 = (nI (n36 + 3)) := ey_31.trans (nI_add n36 3)
                          exact W.iret (v := (nI (n36 + 3))) hx hb hr (fun t ht hW => ⟨⟨(nI (n36 + 3)), ((va_up cn 18 0), In, Fn), rfl, ⟨(Fr.mo (Fr.c 18 Fr.rf) (sbl rfl) (sbl rfl) (sbl rfl)), (IM.fr (In := In) hI (Fr.c 18 Fr.rf) (by decide) (by decide)), (by show ((0 ≤ v0.toInt ∧ v0.toInt < (cn 1 : Int) ∧ 0 ≤ (nI d1).toInt ∧ 16 * (nI d1).toInt ≤ (cn 18 : Int)) ∧ (va_up cn 18 0) 18 = 0) ∨ (¬ (0 ≤ v0.toInt ∧ v0.toInt < (cn 1 : Int) ∧ 0 ≤ (nI d1).toInt ∧ 16 * (nI d1).toInt ≤ (cn 18 : Int)) ∧ (va_up cn 18 0) 18 = cn 18); have t9 : (nI (n36 + 3)).toInt = (((n36 + 3) : Nat) : Int) := nI_toInt (by (first | omega | (have zz0 := Hid.u hi_cn; omega))); show ((0 ≤ v0.toInt ∧ v0.toInt < (cn 1 : Int) ∧ 0 ≤ (nI d1).toInt ∧ 16 * (nI d1).toInt ≤ (cn 18 : Int)) ∧ 0 = 0) ∨ (¬ (0 ≤ v0.toInt ∧ v0.toInt < (cn 1 : Int) ∧ 0 ≤ (nI d1).toInt ∧ 16 * (nI d1).toInt ≤ (cn 18 : Int)) ∧ 0 = cn 18); (first | omega | (have zz0 := Hid.u hi_cn; omega)))⟩, by rw [ht]; exact hP, hD⟩, hS.F ht⟩) hS.2.2 dX12_check_140
                      ·
                        have tc_25 : (r_22.toInt : Int) ≠ (nI a_24).toInt := fun q => c_25 (Int32.toInt_inj.mp q)
                        refine lv_iload_n hx hb dX12_check_116 rfl (lvA1 hl) ?_
                        refine lv_iconst (v := 2) hx hb dX12_check_117 kic_2 ?_
                        refine lv_iadd hx hb dX12_check_118 ?_
                        refine lv_topi (fun y_32 ey_32 => ?_)
                        obtain rfl : y_32 = (nI (n36 + 2)) := ey_32.trans (nI_add n36 2)
                        exact W.iret (v := (nI (n36 + 2))) hx hb hr (fun t ht hW => ⟨⟨(nI (n36 + 2)), ((va_up cn 18 0), In, Fn), rfl, ⟨(Fr.mo (Fr.c 18 Fr.rf) (sbl rfl) (sbl rfl) (sbl rfl)), (IM.fr (In := In) hI (Fr.c 18 Fr.rf) (by decide) (by decide)), (by show ((0 ≤ v0.toInt ∧ v0.toInt < (cn 1 : Int) ∧ 0 ≤ (nI d1).toInt ∧ 16 * (nI d1).toInt ≤ (cn 18 : Int)) ∧ (va_up cn 18 0) 18 = 0) ∨ (¬ (0 ≤ v0.toInt ∧ v0.toInt < (cn 1 : Int) ∧ 0 ≤ (nI d1).toInt ∧ 16 * (nI d1).toInt ≤ (cn 18 : Int)) ∧ (va_up cn 18 0) 18 = cn 18); have t9 : (nI (n36 + 2)).toInt = (((n36 + 2) : Nat) : Int) := nI_toInt (by (first | omega | (have zz0 := Hid.u hi_cn; omega))); show ((0 ≤ v0.toInt ∧ v0.toInt < (cn 1 : Int) ∧ 0 ≤ (nI d1).toInt ∧ 16 * (nI d1).toInt ≤ (cn 18 : Int)) ∧ 0 = 0) ∨ (¬ (0 ≤ v0.toInt ∧ v0.toInt < (cn 1 : Int) ∧ 0 ≤ (nI d1).toInt ∧ 16 * (nI d1).toInt ≤ (cn 18 : Int)) ∧ 0 = cn 18); (first | omega | (have zz0 := Hid.u hi_cn; omega)))⟩, by rw [ht]; exact hP, hD⟩, hS.F ht⟩) hS.2.2 dX12_check_119
                    ·
                      have tc_20 : (r_17.toInt : Int) ≠ (nI a_19).toInt := fun q => c_20 (Int32.toInt_inj.mp q)
                      refine lv_iload_n hx hb dX12_check_95 rfl (lvA1 hl) ?_
                      refine lv_iconst (v := 1) hx hb dX12_check_96 kic_1 ?_
                      refine lv_iadd hx hb dX12_check_97 ?_
                      refine lv_topi (fun y_33 ey_33 => ?_)
                      obtain rfl : y_33 = (nI (n36 + 1)) := ey_33.trans (nI_add n36 1)
                      exact W.iret (v := (nI (n36 + 1))) hx hb hr (fun t ht hW => ⟨⟨(nI (n36 + 1)), ((va_up cn 18 0), In, Fn), rfl, ⟨(Fr.mo (Fr.c 18 Fr.rf) (sbl rfl) (sbl rfl) (sbl rfl)), (IM.fr (In := In) hI (Fr.c 18 Fr.rf) (by decide) (by decide)), (by show ((0 ≤ v0.toInt ∧ v0.toInt < (cn 1 : Int) ∧ 0 ≤ (nI d1).toInt ∧ 16 * (nI d1).toInt ≤ (cn 18 : Int)) ∧ (va_up cn 18 0) 18 = 0) ∨ (¬ (0 ≤ v0.toInt ∧ v0.toInt < (cn 1 : Int) ∧ 0 ≤ (nI d1).toInt ∧ 16 * (nI d1).toInt ≤ (cn 18 : Int)) ∧ (va_up cn 18 0) 18 = cn 18); have t9 : (nI (n36 + 1)).toInt = (((n36 + 1) : Nat) : Int) := nI_toInt (by (first | omega | (have zz0 := Hid.u hi_cn; omega))); show ((0 ≤ v0.toInt ∧ v0.toInt < (cn 1 : Int) ∧ 0 ≤ (nI d1).toInt ∧ 16 * (nI d1).toInt ≤ (cn 18 : Int)) ∧ 0 = 0) ∨ (¬ (0 ≤ v0.toInt ∧ v0.toInt < (cn 1 : Int) ∧ 0 ≤ (nI d1).toInt ∧ 16 * (nI d1).toInt ≤ (cn 18 : Int)) ∧ 0 = cn 18); (first | omega | (have zz0 := Hid.u hi_cn; omega)))⟩, by rw [ht]; exact hP, hD⟩, hS.F ht⟩) hS.2.2 dX12_check_98
                  ·
                    have tc_15 : (r_13.toInt : Int) ≠ (nI i36).toInt := fun q => c_15 (Int32.toInt_inj.mp q)
                    refine lv_iload_n hx hb dX12_check_76 rfl (lvA1 hl) ?_
                    exact W.iret (v := (nI n36)) hx hb hr (fun t ht hW => ⟨⟨(nI n36), ((va_up cn 18 0), In, Fn), rfl, ⟨(Fr.mo (Fr.c 18 Fr.rf) (sbl rfl) (sbl rfl) (sbl rfl)), (IM.fr (In := In) hI (Fr.c 18 Fr.rf) (by decide) (by decide)), (by show ((0 ≤ v0.toInt ∧ v0.toInt < (cn 1 : Int) ∧ 0 ≤ (nI d1).toInt ∧ 16 * (nI d1).toInt ≤ (cn 18 : Int)) ∧ (va_up cn 18 0) 18 = 0) ∨ (¬ (0 ≤ v0.toInt ∧ v0.toInt < (cn 1 : Int) ∧ 0 ≤ (nI d1).toInt ∧ 16 * (nI d1).toInt ≤ (cn 18 : Int)) ∧ (va_up cn 18 0) 18 = cn 18); have t9 : (nI n36).toInt = ((n36 : Nat) : Int) := nI_toInt (by (first | omega | (have zz0 := Hid.u hi_cn; omega))); show ((0 ≤ v0.toInt ∧ v0.toInt < (cn 1 : Int) ∧ 0 ≤ (nI d1).toInt ∧ 16 * (nI d1).toInt ≤ (cn 18 : Int)) ∧ 0 = 0) ∨ (¬ (0 ≤ v0.toInt ∧ v0.toInt < (cn 1 : Int) ∧ 0 ≤ (nI d1).toInt ∧ 16 * (nI d1).toInt ≤ (cn 18 : Int)) ∧ 0 = cn 18); (first | omega | (have zz0 := Hid.u hi_cn; omega)))⟩, by rw [ht]; exact hP, hD⟩, hS.F ht⟩) hS.2.2 dX12_check_77
              ·
                have tc_10 : ((nI a_9).toInt : Int) ≠ v0.toInt := fun q => c_10 (Int32.toInt_inj.mp q)
                refine lv_goto (tgt := 145) hx hb dX12_check_56 rfl ?_
                refine lv_iinc (v := (nI (i36 + 1))) (lv' := [(4, .int (nI (i36 + 1))), (3, .int (nI n36)), (0, .ref (g 100)), (1, .int v0), (2, .int (nI d1))]) hx hb dX12_check_145 hl (k := 0) rfl (nI_1 _) (ltb rfl) rfl (fun ls hl => ?_)
                refine lv_goto (tgt := 36) hx hb dX12_check_148 rfl ?_
                exact ih36 (i36 + 1) n36 (by (first | omega | (have zz0 := Hid.u hi_cn; omega))) ⟨(by (first | omega | (have zz0 := Hid.u hi_cn; omega))), ⟨by (first | omega | (have zz0 := Hid.u hi_cn; omega)), by (first | omega | (have zz0 := Hid.u hi_cn; omega))⟩⟩ ls (lv_sub hl [0, 1, 2, 3, 4] rfl)
        exact lp_36 _ 0 0 (Nat.lt_succ_self _) ⟨(by (first | omega | (have zz0 := Hid.u hi_cn; omega))), ⟨rfl, Nat.zero_le _⟩⟩ ls (lv_sub hl [0, 1, 2, 3, 4] rfl)
      ·
        have tc_5 : ((nI ((cn 18) / 16)).toInt : Int) < v1.toInt := Int32.lt_iff_toInt_lt.mp (Int32.not_le.mp c_5)
        refine lv_bipush (v := (-2)) hx hb dX12_check_23 kbc_m2 ?_
        exact W.iret (v := (-2)) hx hb hr (fun t ht hW => ⟨⟨(-2), (cn, In, Fn), rfl, ⟨(Fr.mo Fr.rf (sbl rfl) (sbl rfl) (sbl rfl)), hI, (by show ((0 ≤ v0.toInt ∧ v0.toInt < (cn 1 : Int) ∧ 0 ≤ v1.toInt ∧ 16 * v1.toInt ≤ (cn 18 : Int)) ∧ cn 18 = 0) ∨ (¬ (0 ≤ v0.toInt ∧ v0.toInt < (cn 1 : Int) ∧ 0 ≤ v1.toInt ∧ 16 * v1.toInt ≤ (cn 18 : Int)) ∧ cn 18 = cn 18); show ((0 ≤ v0.toInt ∧ v0.toInt < (cn 1 : Int) ∧ 0 ≤ v1.toInt ∧ 16 * v1.toInt ≤ (cn 18 : Int)) ∧ (cn 18) = 0) ∨ (¬ (0 ≤ v0.toInt ∧ v0.toInt < (cn 1 : Int) ∧ 0 ≤ v1.toInt ∧ 16 * v1.toInt ≤ (cn 18 : Int)) ∧ (cn 18) = cn 18); (first | omega | (have zz0 := Hid.u hi_cn; omega)))⟩, by rw [ht]; exact hP, hD⟩, hS.F ht⟩) hS.2.2 dX12_check_25
  ·
    have h_2 : ¬ (0 ≤ v0.toInt ∧ v0.toInt < ((cn 1) : Int)) := h_2
    refine lv_if_eq (tgt := 23) hx hb dX12_check_5 rfl (fun _ => ?_) (fun h => absurd h cq_eq_0_0)
    refine lv_bipush (v := (-2)) hx hb dX12_check_23 kbc_m2 ?_
    exact W.iret (v := (-2)) hx hb hr (fun t ht hW => ⟨⟨(-2), (cn, In, Fn), rfl, ⟨(Fr.mo Fr.rf (sbl rfl) (sbl rfl) (sbl rfl)), hI, (by show ((0 ≤ v0.toInt ∧ v0.toInt < (cn 1 : Int) ∧ 0 ≤ v1.toInt ∧ 16 * v1.toInt ≤ (cn 18 : Int)) ∧ cn 18 = 0) ∨ (¬ (0 ≤ v0.toInt ∧ v0.toInt < (cn 1 : Int) ∧ 0 ≤ v1.toInt ∧ 16 * v1.toInt ≤ (cn 18 : Int)) ∧ cn 18 = cn 18); show ((0 ≤ v0.toInt ∧ v0.toInt < (cn 1 : Int) ∧ 0 ≤ v1.toInt ∧ 16 * v1.toInt ≤ (cn 18 : Int)) ∧ (cn 18) = 0) ∨ (¬ (0 ≤ v0.toInt ∧ v0.toInt < (cn 1 : Int) ∧ 0 ≤ v1.toInt ∧ 16 * v1.toInt ≤ (cn 18 : Int)) ∧ (cn 18) = cn 18); (first | omega | (have zz0 := Hid.u hi_cn; omega)))⟩, by rw [ht]; exact hP, hD⟩, hS.F ht⟩) hS.2.2 dX12_check_25
