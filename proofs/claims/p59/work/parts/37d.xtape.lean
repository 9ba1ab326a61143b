

set_option maxRecDepth 100000 in
set_option maxHeartbeats 4000000 in
theorem q_Edriven (l : Launch) (D : va_G) (cI cB cZ : ClassId) (zz qq vv : Nat) (bt : Nat → Int32) (g : Nat → Nat) (ad : Nat → Nat → Nat) (cn : Nat → Nat) (In : Nat → Int32) (Fn : Nat → Nat → Int32) (v0 : Int32) (sz : Nat) (hB : CBX cn) : Met l yX11_driven (CWS yX11_driven cX11_driven 3 (some .int)) (RM 5 0 0) (PBx [.ref (g 0), .int v0] D cI cB cZ zz qq vv bt (wX cI (D.1 99) zz g ad cn In Fn) sz) (va_Qi (fun (r : Int32) (u : (Nat → Nat) × (Nat → Int32) × (Nat → Nat → Int32)) => (fun r c2 I2 F2 => Fr [3] [] [] cn In Fn c2 I2 F2 ∧ CBX c2 ∧ (((0 ≤ v0.toInt ∧ v0.toInt ≤ 20 ∧ v0.toInt ≤ (cn 3 : Int)) ∧ c2 3 = 0) ∨ (¬ (0 ≤ v0.toInt ∧ v0.toInt ≤ 20 ∧ v0.toInt ≤ (cn 3 : Int)) ∧ c2 3 = cn 3))) r u.1 u.2.1 u.2.2) (fun (u : (Nat → Nat) × (Nat → Int32) × (Nat → Nat → Int32)) (t : State) => va_P D vwCl (wX cI (D.1 99) zz g ad u.1 u.2.1 u.2.2) t.heap ∧ va_D (va_A (wX cI (D.1 99) zz g ad cn In Fn) sz) (wX cI (D.1 99) zz g ad u.1 u.2.1 u.2.2)) (va_A (wX cI (D.1 99) zz g ad cn In Fn) sz)) 0 0 (va_A (wX cI (D.1 99) zz g ad cn In Fn) sz) := by
  refine en_x (fun A => (va_Qi (fun (r : Int32) (u : (Nat → Nat) × (Nat → Int32) × (Nat → Nat → Int32)) => (fun (r : Int32) (c2 : Nat → Nat) (I2 : Nat → Int32) (F2 : Nat → Nat → Int32) => Fr [3] [] [] cn In Fn c2 I2 F2 ∧ CBX c2 ∧ (((0 ≤ v0.toInt ∧ v0.toInt ≤ 20 ∧ v0.toInt ≤ (cn 3 : Int)) ∧ c2 3 = 0) ∨ (¬ (0 ≤ v0.toInt ∧ v0.toInt ≤ 20 ∧ v0.toInt ≤ (cn 3 : Int)) ∧ c2 3 = cn 3))) r u.1 u.2.1 u.2.2) (fun (u : (Nat → Nat) × (Nat → Int32) × (Nat → Nat → Int32)) (t : State) => va_P D vwCl (wX cI (D.1 99) zz g ad u.1 u.2.1 u.2.2) t.heap ∧ va_D A (wX cI (D.1 99) zz g ad u.1 u.2.1 u.2.2)) A)) rfl rfl pn_RX11 (Nat.le_of_ble_eq_true rfl) (fun p e s m below meth c A hx hb hml hown S hr hlocks hnm hA hP hK hD hXS hS ls hl => ?_)
  have hl : lv_has ls 3 [(0, .ref (g 0)), (1, .int v0)] := hl
  have hb_cn : Hid (CBX cn) := hB
  replace hB : CBXh cn := hB
  refine lv_iload_n hx hb (oc_27 0 shX11_driven_0) rfl (lvA1 hl) ?_
  refine lv_iconst (v := 0) hx hb (oc_3 1 (aq_1 shX11_driven_0)) kic_0 ?_
  refine lv_bipush (v := 20) hx hb (oc_16 2 (aq_2 shX11_driven_0) sgb_20) kbc_20 ?_
  refine vp_callSi (runS_r (As := [.int v0, .int 0, .int 20]) (rest := []) S (q_l_within l D cI cB cZ v0 0 20) kS_RX11_80 hK hP [] rfl ⟨Nat.le_of_ble_eq_true rfl, Nat.le_of_ble_eq_true rfl⟩ ⟨Nat.le_of_ble_eq_true rfl, Nat.le_of_ble_eq_true rfl⟩ rfl hl.1 rfl (Nat.le_of_ble_eq_true rfl) (oc_184 4 (aq_4 shX11_driven_0) uw_0_80)) (fun r_1 h_2 => ?_)
  rcases h_2 with ⟨rfl, h_2⟩ | ⟨rfl, h_2⟩
  ·
    have h_2 : 0 ≤ v0.toInt ∧ v0.toInt ≤ 20 := h_2
    refine lv_if_eq (tgt := 21) hx hb dX11_driven_7 rfl (fun h => absurd h cq_eq_1_0) (fun _ => ?_)
    refine lv_iload_n hx hb (oc_27 10 (aq_10 shX11_driven_0)) rfl (lvA1 hl) ?_
    refine lv_aload_n hx hb (oc_42 11 (aq_11 shX11_driven_0)) rfl (lvA0 hl) ?_
    refine gf_RX11_21 S hK hP 0 xo_0 (v := .ref (g 5)) rfl (oc_180 12 (aq_12 shX11_driven_0) uw_0_21) ?_
    refine vp_callSi (runV_rxa (As := []) (rest := [.int v0]) S (q_Xlength l D cI cB cZ zz qq vv bt g ad cn In Fn  hB) kV_RX11_152 hK hXS hS hP 1 xo_1 rfl rfl ⟨Nat.le_of_ble_eq_true rfl, Nat.le_of_ble_eq_true rfl⟩ ⟨Nat.le_of_ble_eq_true rfl, Nat.le_of_ble_eq_true rfl⟩ rfl hl.1 rfl (Nat.le_of_ble_eq_true rfl) (oc_182 15 (aq_15 shX11_driven_0) uw_0_152)) (fun r_3 h_4 => ?_)
    subst h_4
    have : (nI ((cn 3))).toInt = ((((cn 3)) : Nat) : Int) := nI_toInt (by (first | omega | (have zz0 := Hid.u hb_cn; omega)))
    refine lv_icmp_le (tgt := 23) hx hb (oc_164 18 (aq_18 shX11_driven_0) sgw_0_5) rfl (fun c_5 => ?_) (fun c_5 => ?_)
    ·
      have tc_5 : (v0.toInt : Int) ≤ (nI ((cn 3))).toInt := Int32.le_iff_toInt_le.mp c_5
      obtain ⟨d0, hd0, rfl⟩ := nI_of (x := v0) (fun q => by have := Int32.lt_iff_toInt_lt.mp q; have e : (0 : Int32).toInt = 0 := rfl; (first | omega | (have zz0 := Hid.u hb_cn; omega)))
      have td0 : (nI d0).toInt = (d0 : Int) := nI_toInt hd0
      have zd0 : (nI d0).toInt.toNat = d0 := by (first | omega | (have zz0 := Hid.u hb_cn; omega))
      refine lv_aload_n hx hb (oc_42 23 (aq_23 shX11_driven_0)) rfl (lvA0 hl) ?_
      refine lv_iload_n hx hb (oc_27 24 shX11_driven_24) rfl (lvA1 hl) ?_
      refine vp_callSi (runV_rxa (As := [.int (nI d0)]) (rest := []) S (q_XdrivenLength l D cI cB cZ zz qq vv bt g ad cn In Fn d0 hB (by (first | omega | (have zz0 := Hid.u hb_cn; omega)))) kV_RX11_288 hK hXS hS hP 0 xo_0 rfl rfl ⟨Nat.le_of_ble_eq_true rfl, Nat.le_of_ble_eq_true rfl⟩ ⟨Nat.le_of_ble_eq_true rfl, Nat.le_of_ble_eq_true rfl⟩ rfl hl.1 rfl (Nat.le_of_ble_eq_true rfl) (oc_182 25 (aq_1 shX11_driven_24) uw_1_32)) (fun r_6 h_7 => ?_)
      refine lv_istore_n (lv' := [(2, .int r_6), (0, .ref (g 0)), (1, .int (nI d0))]) hx hb (oc_61 28 (aq_4 shX11_driven_24)) rfl hl (ltb rfl) rfl (fun ls hl => ?_)
      refine lv_aload_n hx hb (oc_42 29 (aq_5 shX11_driven_24)) rfl (lvA1 hl) ?_
      refine gf_RX11_21 S hK hP 0 xo_0 (v := .ref (g 5)) rfl (oc_180 30 (aq_6 shX11_driven_24) uw_0_21) ?_
      have hFc := free_all hD hS hA
      refine va_callv (runV_xa (As := []) (rest := []) S (q_Xclear l D cI cB cZ zz qq vv bt g ad cn In Fn  s.heap.size hB) kV_RX11_162 hK hXS hS hFc hP hD 1 xo_1 rfl rfl ⟨Nat.le_of_ble_eq_true rfl, Nat.le_of_ble_eq_true rfl⟩ ⟨Nat.le_of_ble_eq_true rfl, Nat.le_of_ble_eq_true rfl⟩ rfl hl.1 rfl (Nat.le_of_ble_eq_true rfl) (oc_182 33 (aq_9 shX11_driven_24) uw_0_162)) hS (fun q _ h => hFc q h) hFc (fun u t H1 locs ht hvm wh_9 hB1 hz1 hk1 hS => ?_)
      obtain ⟨cn9, In9, Fn9⟩ := u
      obtain ⟨hP1, hD1⟩ := hB1
      rw [ht] at hP1
      have hP : va_P D vwCl (wX cI (D.1 99) zz g ad cn9 In9 Fn9) H1 := hP1
      have hD : va_D A (wX cI (D.1 99) zz g ad cn9 In9 Fn9) := hD1.weaken (fun _ _ _ h => hFc _ h)
      generalize H1 = H at hP hS ⊢
      have vh_9 : (fun c2 I2 F2 => Fr [3] [] [] cn In Fn c2 I2 F2 ∧ CBX c2 ∧ (c2 3 = 0)) cn9 In9 Fn9 := wh_9
      obtain ⟨hfc9, hIn9, h_9⟩ := vh_9
      obtain rfl : In = In9 := (funext (fun k => hfc9.2.1 k List.not_mem_nil)).symm
      obtain rfl : Fn = Fn9 := (funext (fun k => hfc9.2.2 k List.not_mem_nil)).symm
      have hf9 : Fr [3] [] [] cn In Fn cn9 In Fn := Fr.mo (Fr.tr (Fr.rf (cn := cn) (In := In) (Fn := Fn)) hfc9) (sbl rfl) (sbl rfl) (sbl rfl)
      have hb_cn9 : Hid (CBX cn9) := hIn9
      replace hIn9 : CBXh cn9 := hIn9
      have : cn9 6 = (cn 6) := hfc9.1 6 (nml rfl)
      have : cn9 31 = (cn 31) := hfc9.1 31 (nml rfl)
      have : cn9 32 = (cn 32) := hfc9.1 32 (nml rfl)
      have hq_cn9 : Hid (cn9 0 = (cn 0) ∧ cn9 1 = (cn 1) ∧ cn9 2 = (cn 2) ∧ cn9 4 = (cn 4) ∧ cn9 5 = (cn 5) ∧ cn9 10 = (cn 10) ∧ cn9 11 = (cn 11) ∧ cn9 12 = (cn 12) ∧ cn9 13 = (cn 13) ∧ cn9 14 = (cn 14) ∧ cn9 15 = (cn 15) ∧ cn9 20 = (cn 20) ∧ cn9 21 = (cn 21) ∧ cn9 22 = (cn 22) ∧ cn9 23 = (cn 23) ∧ cn9 24 = (cn 24) ∧ cn9 25 = (cn 25)) := Hid.i (p := cn9 0 = (cn 0) ∧ cn9 1 = (cn 1) ∧ cn9 2 = (cn 2) ∧ cn9 4 = (cn 4) ∧ cn9 5 = (cn 5) ∧ cn9 10 = (cn 10) ∧ cn9 11 = (cn 11) ∧ cn9 12 = (cn 12) ∧ cn9 13 = (cn 13) ∧ cn9 14 = (cn 14) ∧ cn9 15 = (cn 15) ∧ cn9 20 = (cn 20) ∧ cn9 21 = (cn 21) ∧ cn9 22 = (cn 22) ∧ cn9 23 = (cn 23) ∧ cn9 24 = (cn 24) ∧ cn9 25 = (cn 25)) ⟨hfc9.1 0 (nml rfl), hfc9.1 1 (nml rfl), hfc9.1 2 (nml rfl), hfc9.1 4 (nml rfl), hfc9.1 5 (nml rfl), hfc9.1 10 (nml rfl), hfc9.1 11 (nml rfl), hfc9.1 12 (nml rfl), hfc9.1 13 (nml rfl), hfc9.1 14 (nml rfl), hfc9.1 15 (nml rfl), hfc9.1 20 (nml rfl), hfc9.1 21 (nml rfl), hfc9.1 22 (nml rfl), hfc9.1 23 (nml rfl), hfc9.1 24 (nml rfl), hfc9.1 25 (nml rfl)⟩
      refine lv_iload_n hx hb (oc_28 36 (aq_12 shX11_driven_24)) rfl (lvA0 hl) ?_
      exact W.iret (v := r_6) hx hb hr (fun t ht hW => ⟨⟨r_6, (cn9, In, Fn), rfl, ⟨(Fr.mo hf9 (sbl rfl) (sbl rfl) (sbl rfl)), hIn9, (by show ((0 ≤ (nI d0).toInt ∧ (nI d0).toInt ≤ 20 ∧ (nI d0).toInt ≤ (cn 3 : Int)) ∧ cn9 3 = 0) ∨ (¬ (0 ≤ (nI d0).toInt ∧ (nI d0).toInt ≤ 20 ∧ (nI d0).toInt ≤ (cn 3 : Int)) ∧ cn9 3 = cn 3); show ((0 ≤ (nI d0).toInt ∧ (nI d0).toInt ≤ 20 ∧ (nI d0).toInt ≤ (cn 3 : Int)) ∧ (cn9 3) = 0) ∨ (¬ (0 ≤ (nI d0).toInt ∧ (nI d0).toInt ≤ 20 ∧ (nI d0).toInt ≤ (cn 3 : Int)) ∧ (cn9 3) = cn 3); (first | omega | (have zz0 := Hid.u hb_cn; have zz1 := Hid.u hb_cn9; have zz2 := Hid.u hq_cn9; omega)))⟩, by rw [ht]; exact hP, hD⟩, hS.F ht⟩) hS.2.2 (oc_172 37 (aq_13 shX11_driven_24))
    ·
      have tc_5 : ((nI ((cn 3))).toInt : Int) < v0.toInt := Int32.lt_iff_toInt_lt.mp (Int32.not_le.mp c_5)
      refine lv_iconst (v := (-1)) hx hb dX11_driven_21 kic_m1 ?_
      exact W.iret (v := (-1)) hx hb hr (fun t ht hW => ⟨⟨(-1), (cn, In, Fn), rfl, ⟨(Fr.mo Fr.rf (sbl rfl) (sbl rfl) (sbl rfl)), hB, (by show ((0 ≤ v0.toInt ∧ v0.toInt ≤ 20 ∧ v0.toInt ≤ (cn 3 : Int)) ∧ cn 3 = 0) ∨ (¬ (0 ≤ v0.toInt ∧ v0.toInt ≤ 20 ∧ v0.toInt ≤ (cn 3 : Int)) ∧ cn 3 = cn 3); show ((0 ≤ v0.toInt ∧ v0.toInt ≤ 20 ∧ v0.toInt ≤ (cn 3 : Int)) ∧ (cn 3) = 0) ∨ (¬ (0 ≤ v0.toInt ∧ v0.toInt ≤ 20 ∧ v0.toInt ≤ (cn 3 : Int)) ∧ (cn 3) = cn 3); (first | omega | (have zz0 := Hid.u hb_cn; omega)))⟩, by rw [ht]; exact hP, hD⟩, hS.F ht⟩) hS.2.2 dX11_driven_22
  ·
    have h_2 : ¬ (0 ≤ v0.toInt ∧ v0.toInt ≤ 20) := h_2
    refine lv_if_eq (tgt := 21) hx hb dX11_driven_7 rfl (fun _ => ?_) (fun h => absurd h cq_eq_0_0)
    refine lv_iconst (v := (-1)) hx hb dX11_driven_21 kic_m1 ?_
    exact W.iret (v := (-1)) hx hb hr (fun t ht hW => ⟨⟨(-1), (cn, In, Fn), rfl, ⟨(Fr.mo Fr.rf (sbl rfl) (sbl rfl) (sbl rfl)), hB, (by show ((0 ≤ v0.toInt ∧ v0.toInt ≤ 20 ∧ v0.toInt ≤ (cn 3 : Int)) ∧ cn 3 = 0) ∨ (¬ (0 ≤ v0.toInt ∧ v0.toInt ≤ 20 ∧ v0.toInt ≤ (cn 3 : Int)) ∧ cn 3 = cn 3); show ((0 ≤ v0.toInt ∧ v0.toInt ≤ 20 ∧ v0.toInt ≤ (cn 3 : Int)) ∧ (cn 3) = 0) ∨ (¬ (0 ≤ v0.toInt ∧ v0.toInt ≤ 20 ∧ v0.toInt ≤ (cn 3 : Int)) ∧ (cn 3) = cn 3); (first | omega | (have zz0 := Hid.u hb_cn; omega)))⟩, by rw [ht]; exact hP, hD⟩, hS.F ht⟩) hS.2.2 dX11_driven_22
set_option maxRecDepth 100000 in
set_option maxHeartbeats 4000000 in
theorem q_driven9 (l : Launch) (D : va_G) (cI cB cZ : ClassId) (g : Nat → Nat) (cn : Nat → Nat) (In : Nat → Int32) (Fn : Nat → Nat → Int32) (v0 : Int32) (sz : Nat) (hI : IM cn Fn) (h18 : cn 18 ≤ 200) : Met l yX12_driven (CWS yX12_driven cX12_driven 7 (some .int)) (RM 1 0 0) (PBw [.ref (g 100), .int v0] D cI cB cZ (wM cI cB cZ g cn In Fn) sz) (va_Qi (fun (r : Int32) (u : (Nat → Nat) × (Nat → Int32) × (Nat → Nat → Int32)) => (fun r c2 I2 F2 => Fr [18] [] [] cn In Fn c2 I2 F2 ∧ IM c2 F2 ∧ (((0 ≤ v0.toInt ∧ v0.toInt ≤ 20 ∧ v0.toInt ≤ (cn 18 : Int)) ∧ c2 18 = 0) ∨ (¬ (0 ≤ v0.toInt ∧ v0.toInt ≤ 20 ∧ v0.toInt ≤ (cn 18 : Int)) ∧ c2 18 = cn 18))) r u.1 u.2.1 u.2.2) (fun (u : (Nat → Nat) × (Nat → Int32) × (Nat → Nat → Int32)) (t : State) => va_P D vwCl (wM cI cB cZ g u.1 u.2.1 u.2.2) t.heap ∧ va_D (va_A (wM cI cB cZ g cn In Fn) sz) (wM cI cB cZ g u.1 u.2.1 u.2.2)) (va_A (wM cI cB cZ g cn In Fn) sz)) 0 0 (va_A (wM cI cB cZ g cn In Fn) sz) := by
  refine en_w (fun A => (va_Qi (fun (r : Int32) (u : (Nat → Nat) × (Nat → Int32) × (Nat → Nat → Int32)) => (fun (r : Int32) (c2 : Nat → Nat) (I2 : Nat → Int32) (F2 : Nat → Nat → Int32) => Fr [18] [] [] cn In Fn c2 I2 F2 ∧ IM c2 F2 ∧ (((0 ≤ v0.toInt ∧ v0.toInt ≤ 20 ∧ v0.toInt ≤ (cn 18 : Int)) ∧ c2 18 = 0) ∨ (¬ (0 ≤ v0.toInt ∧ v0.toInt ≤ 20 ∧ v0.toInt ≤ (cn 18 : Int)) ∧ c2 18 = cn 18))) r u.1 u.2.1 u.2.2) (fun (u : (Nat → Nat) × (Nat → Int32) × (Nat → Nat → Int32)) (t : State) => va_P D vwCl (wM cI cB cZ g u.1 u.2.1 u.2.2) t.heap ∧ va_D A (wM cI cB cZ g u.1 u.2.1 u.2.2)) A)) rfl rfl pn_RX12 (Nat.le_of_ble_eq_true rfl) (fun p e s m below meth c A hx hb hml hown S hr hlocks hnm hA hP hK hD hS ls hl => ?_)
  have hl : lv_has ls 7 [(0, .ref (g 100)), (1, .int v0)] := hl
  have hi_cn : Hid (CB cn) := hI.b
  refine lv_iload_n hx hb dX12_driven_0 rfl (lvA1 hl) ?_
  refine lv_iconst (v := 0) hx hb dX12_driven_1 kic_0 ?_
  refine lv_bipush (v := 20) hx hb dX12_driven_2 kbc_20 ?_
  refine vp_callSi (runS_r (As := [.int v0, .int 0, .int 20]) (rest := []) S (q_in l D cI cB cZ v0 0 20 ) kS_RX12_214 hK hP [] rfl ⟨Nat.le_of_ble_eq_true rfl, Nat.le_of_ble_eq_true rfl⟩ ⟨Nat.le_of_ble_eq_true rfl, Nat.le_of_ble_eq_true rfl⟩ rfl hl.1 rfl (Nat.le_of_ble_eq_true rfl) dX12_driven_4) (fun r_1 h_2 => ?_)
  rcases h_2 with ⟨rfl, h_2⟩ | ⟨rfl, h_2⟩
  ·
    have h_2 : 0 ≤ v0.toInt ∧ v0.toInt ≤ 20 := h_2
    refine lv_if_eq (tgt := 18) hx hb dX12_driven_7 rfl (fun h => absurd h cq_eq_1_0) (fun _ => ?_)
    refine lv_iload_n hx hb dX12_driven_10 rfl (lvA1 hl) ?_
    refine lv_aload_n hx hb dX12_driven_11 rfl (lvA0 hl) ?_
    refine gM_226 S hK hP (v := .int (nI (cn 18))) rfl dX12_driven_12 ?_
    have : (nI (cn 18)).toInt = (((cn 18) : Nat) : Int) := nI_toInt (by (first | omega | (have zz0 := Hid.u hi_cn; omega)))
    refine lv_icmp_le (tgt := 20) hx hb dX12_driven_15 rfl (fun c_3 => ?_) (fun c_3 => ?_)
    ·
      have tc_3 : (v0.toInt : Int) ≤ (nI (cn 18)).toInt := Int32.le_iff_toInt_le.mp c_3
      obtain ⟨d0, hd0, rfl⟩ := nI_of (x := v0) (fun q => by have := Int32.lt_iff_toInt_lt.mp q; have e : (0 : Int32).toInt = 0 := rfl; (first | omega | (have zz0 := Hid.u hi_cn; omega)))
      have td0 : (nI d0).toInt = (d0 : Int) := nI_toInt hd0
      have zd0 : (nI d0).toInt.toNat = d0 := by (first | omega | (have zz0 := Hid.u hi_cn; omega))
      refine lv_aload_n hx hb dX12_driven_20 rfl (lvA0 hl) ?_
      refine lv_iconst (v := 0) hx hb dX12_driven_21 kic_0 ?_
      refine pM_226 S hK hP hD hS (a := 0) (cn2 := (va_up cn 18 0)) rfl rfl dX12_driven_22 (fun H locs hP hD hS => ?_)
      refine lv_iconst (v := 0) hx hb dX12_driven_25 kic_0 ?_
      refine lv_istore_n (lv' := [(2, .int 0), (0, .ref (g 100)), (1, .int (nI d0))]) hx hb dX12_driven_26 rfl hl (ltb rfl) rfl (fun ls hl => ?_)
      refine lv_iconst (v := 0) hx hb dX12_driven_27 kic_0 ?_
      refine lv_istore_n (lv' := [(3, .int 0), (2, .int 0), (0, .ref (g 100)), (1, .int (nI d0))]) hx hb dX12_driven_28 rfl hl (ltb rfl) rfl (fun ls hl => ?_)
      refine lv_iconst (v := 0) hx hb dX12_driven_29 kic_0 ?_
      refine lv_istore (lv' := [(4, .int 0), (3, .int 0), (2, .int 0), (0, .ref (g 100)), (1, .int (nI d0))]) hx hb dX12_driven_30 hl (ltb rfl) rfl (fun ls hl => ?_)
      refine lv_iconst (v := 0) hx hb dX12_driven_32 kic_0 ?_
      refine lv_istore (lv' := [(5, .int 0), (4, .int 0), (3, .int 0), (2, .int 0), (0, .ref (g 100)), (1, .int (nI d0))]) hx hb dX12_driven_33 hl (ltb rfl) rfl (fun ls hl => ?_)
      have lp_35 : ∀ (n : Nat) (i35 : Nat) (x35_2 : Int32) (x35_3 : Int32) (x35_4 : Int32) , d0 - i35 < n → (i35 ≤ d0) → ∀ ls : Array Slot, lv_has ls 7 [(5, .int (nI i35)), (4, .int x35_4), (3, .int x35_3), (2, .int x35_2), (0, .ref (g 100)), (1, .int (nI d0))] → W p l e (RM 1 0 0) s m ([.ref (g 100), .int (nI d0)]).toArray below meth c H locs 0 0 (MQ below (va_Qi (fun (r : Int32) (u : (Nat → Nat) × (Nat → Int32) × (Nat → Nat → Int32)) => (fun r c2 I2 F2 => Fr [18] [] [] cn In Fn c2 I2 F2 ∧ IM c2 F2 ∧ (((0 ≤ (nI d0).toInt ∧ (nI d0).toInt ≤ 20 ∧ (nI d0).toInt ≤ (cn 18 : Int)) ∧ c2 18 = 0) ∨ (¬ (0 ≤ (nI d0).toInt ∧ (nI d0).toInt ≤ 20 ∧ (nI d0).toInt ≤ (cn 18 : Int)) ∧ c2 18 = cn 18))) r u.1 u.2.1 u.2.2) (fun (u : (Nat → Nat) × (Nat → Int32) × (Nat → Nat → Int32)) (t : State) => va_P D vwCl (wM cI cB cZ g u.1 u.2.1 u.2.2) t.heap ∧ va_D A (wM cI cB cZ g u.1 u.2.1 u.2.2)) A) ([.ref (g 100), .int (nI d0)]).toArray s 0 0 A) (F0 m 35 ls []) := by
        intro n35
        induction n35 with
        | zero => intros; (first | omega | (have zz0 := Hid.u hi_cn; omega))
        | succ n35 ih35 =>
          intro i35 x35_2 x35_3 x35_4 hmu35 hinv35 ls hl
          have hr35 := hinv35
          have ti35 : (nI i35).toInt = (i35 : Int) := nI_toInt (by (first | omega | (have zz0 := Hid.u hi_cn; omega)))
          refine lv_iload hx hb dX12_driven_35 (lvA0 hl) ?_
          refine lv_iload_n hx hb dX12_driven_37 rfl (lvA5 hl) ?_
          refine lv_icmp_ge (tgt := 111) hx hb dX12_driven_38 rfl (fun c_4 => ?_) (fun c_4 => ?_)
          ·
            have tc_4 : ((nI d0).toInt : Int) ≤ (nI i35).toInt := Int32.le_iff_toInt_le.mp c_4
            refine lv_iload_n hx hb dX12_driven_111 rfl (lvA3 hl) ?_
            refine lv_iload_n hx hb dX12_driven_112 rfl (lvA2 hl) ?_
            refine lv_iadd hx hb dX12_driven_113 ?_
            refine lv_iload hx hb dX12_driven_114 (lvA1 hl) ?_
            refine lv_iadd hx hb dX12_driven_116 ?_
            exact W.iret (v := ((x35_2 + x35_3) + x35_4)) hx hb hr (fun t ht hW => ⟨⟨((x35_2 + x35_3) + x35_4), ((va_up cn 18 0), In, Fn), rfl, ⟨(Fr.mo (Fr.c 18 Fr.rf) (sbl rfl) (sbl rfl) (sbl rfl)), (IM.fr (In := In) hI (Fr.c 18 Fr.rf) (by decide) (by decide)), (by show ((0 ≤ (nI d0).toInt ∧ (nI d0).toInt ≤ 20 ∧ (nI d0).toInt ≤ (cn 18 : Int)) ∧ (va_up cn 18 0) 18 = 0) ∨ (¬ (0 ≤ (nI d0).toInt ∧ (nI d0).toInt ≤ 20 ∧ (nI d0).toInt ≤ (cn 18 : Int)) ∧ (va_up cn 18 0) 18 = cn 18); show ((0 ≤ (nI d0).toInt ∧ (nI d0).toInt ≤ 20 ∧ (nI d0).toInt ≤ (cn 18 : Int)) ∧ 0 = 0) ∨ (¬ (0 ≤ (nI d0).toInt ∧ (nI d0).toInt ≤ 20 ∧ (nI d0).toInt ≤ (cn 18 : Int)) ∧ 0 = cn 18); (first | omega | (have zz0 := Hid.u hi_cn; omega)))⟩, by rw [ht]; exact hP, hD⟩, hS.F ht⟩) hS.2.2 dX12_driven_117
          ·
            have tc_4 : ((nI i35).toInt : Int) < (nI d0).toInt := Int32.lt_iff_toInt_lt.mp (Int32.not_le.mp c_4)
            refine lv_aload_n hx hb dX12_driven_41 rfl (lvA4 hl) ?_
            refine gM_52 S hK hP (v := .ref (g 17)) rfl dX12_driven_42 ?_
            refine lv_iload hx hb dX12_driven_45 (lvA0 hl) ?_
            have kb_1 : i35 < 200 := by (first | omega | (have zz0 := Hid.u hi_cn; omega))
            refine ldM_17 hx hb hK hP (x := ((Fn 17) i35)) (vp_in_nI kb_1 (ltb rfl)) (nI_clamp (Nat.lt_trans kb_1 (ltb rfl))) rfl dX12_driven_47 ?_
            refine lv_sipush (v := 255) hx hb dX12_driven_48 (by decide) ?_
            refine lv_iand hx hb dX12_driven_51 ?_
            refine lv_istore (lv' := [(6, .int (((Fn 17) i35) &&& 255)), (5, .int (nI i35)), (4, .int x35_4), (3, .int x35_3), (2, .int x35_2), (0, .ref (g 100)), (1, .int (nI d0))]) hx hb dX12_driven_52 hl (ltb rfl) rfl (fun ls hl => ?_)
            refine lv_aload_n hx hb dX12_driven_54 rfl (lvA5 hl) ?_
            refine lv_iload hx hb dX12_driven_55 (lvA0 hl) ?_
            refine vp_callSi (runV_ra (As := [.int (((Fn 17) i35) &&& 255)]) (rest := []) S (q_isKitchen l D cI cB cZ g (va_up cn 18 0) In Fn (((Fn 17) i35) &&& 255) (IM.fr (In := In) hI (Fr.c 18 Fr.rf) (by decide) (by decide))) kV_RX12_218 hK hP 0 rfl rfl rfl ⟨Nat.le_of_ble_eq_true rfl, Nat.le_of_ble_eq_true rfl⟩ ⟨Nat.le_of_ble_eq_true rfl, Nat.le_of_ble_eq_true rfl⟩ rfl hl.1 rfl (Nat.le_of_ble_eq_true rfl) dX12_driven_57) (fun r_5 h_6 => ?_)
            rcases h_6 with ⟨rfl, h_6⟩ | ⟨rfl, h_6⟩
            ·
              have h_6 : 0 ≤ (((Fn 17) i35) &&& 255).toInt ∧ (((Fn 17) i35) &&& 255).toInt < ((cn 1) : Int) := h_6
              refine lv_if_ne (tgt := 65) hx hb dX12_driven_60 rfl (fun _ => ?_) (fun h => absurd h cq_eq_1_0)
              refine lv_iload_n hx hb dX12_driven_65 rfl (lvA4 hl) ?_
              refine lv_iload_n hx hb dX12_driven_66 rfl (lvA3 hl) ?_
              refine lv_iload hx hb dX12_driven_67 (lvA2 hl) ?_
              refine lv_aload_n hx hb dX12_driven_69 rfl (lvA5 hl) ?_
              refine gM_7 S hK hP (v := .ref (g 3)) rfl dX12_driven_70 ?_
              refine lv_iload hx hb dX12_driven_73 (lvA0 hl) ?_
              refine ldM_3 hx hb hK hP (x := ((Fn 3) ((((Fn 17) i35) &&& 255).toNatClampNeg))) (vp_in_iff.mpr ⟨by (first | omega | (have zz0 := Hid.u hi_cn; omega)), by (first | omega | (have zz0 := Hid.u hi_cn; omega))⟩) rfl rfl dX12_driven_75 ?_
              refine lv_aload_n hx hb dX12_driven_76 rfl (lvA5 hl) ?_
              refine gM_13 S hK hP (v := .ref (g 4)) rfl dX12_driven_77 ?_
              refine lv_iload hx hb dX12_driven_80 (lvA0 hl) ?_
              refine ldM_4 hx hb hK hP (x := ((Fn 4) ((((Fn 17) i35) &&& 255).toNatClampNeg))) (vp_in_iff.mpr ⟨by (first | omega | (have zz0 := Hid.u hi_cn; omega)), by (first | omega | (have zz0 := Hid.u hi_cn; omega))⟩) rfl rfl dX12_driven_82 ?_
              refine vp_callSi (runS_r (As := [.int x35_3, .int x35_4, .int ((Fn 3) ((((Fn 17) i35) &&& 255).toNatClampNeg)), .int ((Fn 4) ((((Fn 17) i35) &&& 255).toNatClampNeg))]) (rest := [.int x35_2]) S (q_apart l D cI cB cZ x35_3 x35_4 ((Fn 3) ((((Fn 17) i35) &&& 255).toNatClampNeg)) ((Fn 4) ((((Fn 17) i35) &&& 255).toNatClampNeg)) ) kS_RX12_360 hK hP [] rfl ⟨Nat.le_of_ble_eq_true rfl, Nat.le_of_ble_eq_true rfl⟩ ⟨Nat.le_of_ble_eq_true rfl, Nat.le_of_ble_eq_true rfl⟩ rfl hl.1 rfl (Nat.le_of_ble_eq_true rfl) dX12_driven_83) (fun r_7 h_8 => ?_)
              subst h_8
              refine lv_iadd hx hb dX12_driven_86 ?_
              refine lv_istore_n (lv' := [(2, .int (x35_2 + (apM x35_3 x35_4 ((Fn 3) ((((Fn 17) i35) &&& 255).toNatClampNeg)) ((Fn 4) ((((Fn 17) i35) &&& 255).toNatClampNeg))))), (6, .int (((Fn 17) i35) &&& 255)), (5, .int (nI i35)), (4, .int x35_4), (3, .int x35_3), (0, .ref (g 100)), (1, .int (nI d0))]) hx hb dX12_driven_87 rfl hl (ltb rfl) rfl (fun ls hl => ?_)
              refine lv_aload_n hx hb dX12_driven_88 rfl (lvA5 hl) ?_
              refine gM_7 S hK hP (v := .ref (g 3)) rfl dX12_driven_89 ?_
              refine lv_iload hx hb dX12_driven_92 (lvA1 hl) ?_
              refine ldM_3 hx hb hK hP (x := ((Fn 3) ((((Fn 17) i35) &&& 255).toNatClampNeg))) (vp_in_iff.mpr ⟨by (first | omega | (have zz0 := Hid.u hi_cn; omega)), by (first | omega | (have zz0 := Hid.u hi_cn; omega))⟩) rfl rfl dX12_driven_94 ?_
              refine lv_istore_n (lv' := [(3, .int ((Fn 3) ((((Fn 17) i35) &&& 255).toNatClampNeg))), (2, .int (x35_2 + (apM x35_3 x35_4 ((Fn 3) ((((Fn 17) i35) &&& 255).toNatClampNeg)) ((Fn 4) ((((Fn 17) i35) &&& 255).toNatClampNeg))))), (6, .int (((Fn 17) i35) &&& 255)), (5, .int (nI i35)), (4, .int x35_4), (0, .ref (g 100)), (1, .int (nI d0))]) hx hb dX12_driven_95 rfl hl (ltb rfl) rfl (fun ls hl => ?_)
              refine lv_aload_n hx hb dX12_driven_96 rfl (lvA5 hl) ?_
              refine gM_13 S hK hP (v := .ref (g 4)) rfl dX12_driven_97 ?_
              refine lv_iload hx hb dX12_driven_100 (lvA2 hl) ?_
              refine ldM_4 hx hb hK hP (x := ((Fn 4) ((((Fn 17) i35) &&& 255).toNatClampNeg))) (vp_in_iff.mpr ⟨by (first | omega | (have zz0 := Hid.u hi_cn; omega)), by (first | omega | (have zz0 := Hid.u hi_cn; omega))⟩) rfl rfl dX12_driven_102 ?_
              refine lv_istore (lv' := [(4, .int ((Fn 4) ((((Fn 17) i35) &&& 255).toNatClampNeg))), (3, .int ((Fn 3) ((((Fn 17) i35) &&& 255).toNatClampNeg))), (2, .int (x35_2 + (apM x35_3 x35_4 ((Fn 3) ((((Fn 17) i35) &&& 255).toNatClampNeg)) ((Fn 4) ((((Fn 17) i35) &&& 255).toNatClampNeg))))), (6, .int (((Fn 17) i35) &&& 255)), (5, .int (nI i35)), (0, .ref (g 100)), (1, .int (nI d0))]) hx hb dX12_driven_103 hl (ltb rfl) rfl (fun ls hl => ?_)
              refine lv_iinc (v := (nI (i35 + 1))) (lv' := [(5, .int (nI (i35 + 1))), (4, .int ((Fn 4) ((((Fn 17) i35) &&& 255).toNatClampNeg))), (3, .int ((Fn 3) ((((Fn 17) i35) &&& 255).toNatClampNeg))), (2, .int (x35_2 + (apM x35_3 x35_4 ((Fn 3) ((((Fn 17) i35) &&& 255).toNatClampNeg)) ((Fn 4) ((((Fn 17) i35) &&& 255).toNatClampNeg))))), (6, .int (((Fn 17) i35) &&& 255)), (0, .ref (g 100)), (1, .int (nI d0))]) hx hb dX12_driven_105 hl (k := 4) rfl (nI_1 _) (ltb rfl) rfl (fun ls hl => ?_)
              refine lv_goto (tgt := 35) hx hb dX12_driven_108 rfl ?_
              exact ih35 (i35 + 1) (x35_2 + (apM x35_3 x35_4 ((Fn 3) ((((Fn 17) i35) &&& 255).toNatClampNeg)) ((Fn 4) ((((Fn 17) i35) &&& 255).toNatClampNeg)))) ((Fn 3) ((((Fn 17) i35) &&& 255).toNatClampNeg)) ((Fn 4) ((((Fn 17) i35) &&& 255).toNatClampNeg)) (by (first | omega | (have zz0 := Hid.u hi_cn; omega))) (by (first | omega | (have zz0 := Hid.u hi_cn; omega))) ls (lv_sub hl [0, 1, 2, 3, 5, 6] rfl)
            ·
              have h_6 : ¬ (0 ≤ (((Fn 17) i35) &&& 255).toInt ∧ (((Fn 17) i35) &&& 255).toInt < ((cn 1) : Int)) := h_6
              refine lv_if_ne (tgt := 65) hx hb dX12_driven_60 rfl (fun h => absurd h cq_eq_0_0) (fun _ => ?_)
              refine lv_iconst (v := (-1)) hx hb dX12_driven_63 kic_m1 ?_
              exact W.iret (v := (-1)) hx hb hr (fun t ht hW => ⟨⟨(-1), ((va_up cn 18 0), In, Fn), rfl, ⟨(Fr.mo (Fr.c 18 Fr.rf) (sbl rfl) (sbl rfl) (sbl rfl)), (IM.fr (In := In) hI (Fr.c 18 Fr.rf) (by decide) (by decide)), (by show ((0 ≤ (nI d0).toInt ∧ (nI d0).toInt ≤ 20 ∧ (nI d0).toInt ≤ (cn 18 : Int)) ∧ (va_up cn 18 0) 18 = 0) ∨ (¬ (0 ≤ (nI d0).toInt ∧ (nI d0).toInt ≤ 20 ∧ (nI d0).toInt ≤ (cn 18 : Int)) ∧ (va_up cn 18 0) 18 = cn 18); show ((0 ≤ (nI d0).toInt ∧ (nI d0).toInt ≤ 20 ∧ (nI d0).toInt ≤ (cn 18 : Int)) ∧ 0 = 0) ∨ (¬ (0 ≤ (nI d0).toInt ∧ (nI d0).toInt ≤ 20 ∧ (nI d0).toInt ≤ (cn 18 : Int)) ∧ 0 = cn 18); (first | omega | (have zz0 := Hid.u hi_cn; omega)))⟩, by rw [ht]; exact hP, hD⟩, hS.F ht⟩) hS.2.2 dX12_driven_64
      exact lp_35 _ 0 0 0 0 (Nat.lt_succ_self _) (by (first | omega | (have zz0 := Hid.u hi_cn; omega))) ls (lv_sub hl [0, 1, 2, 3, 4, 5] rfl)
    ·
      have tc_3 : ((nI (cn 18)).toInt : Int) < v0.toInt := Int32.lt_iff_toInt_lt.mp (Int32.not_le.mp c_3)
      refine lv_iconst (v := (-1)) hx hb dX12_driven_18 kic_m1 ?_
      exact W.iret (v := (-1)) hx hb hr (fun t ht hW => ⟨⟨(-1), (cn, In, Fn), rfl, ⟨(Fr.mo Fr.rf (sbl rfl) (sbl rfl) (sbl rfl)), hI, (by show ((0 ≤ v0.toInt ∧ v0.toInt ≤ 20 ∧ v0.toInt ≤ (cn 18 : Int)) ∧ cn 18 = 0) ∨ (¬ (0 ≤ v0.toInt ∧ v0.toInt ≤ 20 ∧ v0.toInt ≤ (cn 18 : Int)) ∧ cn 18 = cn 18); show ((0 ≤ v0.toInt ∧ v0.toInt ≤ 20 ∧ v0.toInt ≤ (cn 18 : Int)) ∧ (cn 18) = 0) ∨ (¬ (0 ≤ v0.toInt ∧ v0.toInt ≤ 20 ∧ v0.toInt ≤ (cn 18 : Int)) ∧ (cn 18) = cn 18); (first | omega | (have zz0 := Hid.u hi_cn; omega)))⟩, by rw [ht]; exact hP, hD⟩, hS.F ht⟩) hS.2.2 dX12_driven_19
  ·
    have h_2 : ¬ (0 ≤ v0.toInt ∧ v0.toInt ≤ 20) := h_2
    refine lv_if_eq (tgt := 18) hx hb dX12_driven_7 rfl (fun _ => ?_) (fun h => absurd h cq_eq_0_0)
    refine lv_iconst (v := (-1)) hx hb dX12_driven_18 kic_m1 ?_
    exact W.iret (v := (-1)) hx hb hr (fun t ht hW => ⟨⟨(-1), (cn, In, Fn), rfl, ⟨(Fr.mo Fr.rf (sbl rfl) (sbl rfl) (sbl rfl)), hI, (by show ((0 ≤ v0.toInt ∧ v0.toInt ≤ 20 ∧ v0.toInt ≤ (cn 18 : Int)) ∧ cn 18 = 0) ∨ (¬ (0 ≤ v0.toInt ∧ v0.toInt ≤ 20 ∧ v0.toInt ≤ (cn 18 : Int)) ∧ cn 18 = cn 18); show ((0 ≤ v0.toInt ∧ v0.toInt ≤ 20 ∧ v0.toInt ≤ (cn 18 : Int)) ∧ (cn 18) = 0) ∨ (¬ (0 ≤ v0.toInt ∧ v0.toInt ≤ 20 ∧ v0.toInt ≤ (cn 18 : Int)) ∧ (cn 18) = cn 18); (first | omega | (have zz0 := Hid.u hi_cn; omega)))⟩, by rw [ht]; exact hP, hD⟩, hS.F ht⟩) hS.2.2 dX12_driven_19
set_option maxRecDepth 100000 in
set_option maxHeartbeats 4000000 in
theorem q_reads9 (l : Launch) (D : va_G) (cI cB cZ : ClassId) (g : Nat → Nat) (cn : Nat → Nat) (In : Nat → Int32) (Fn : Nat → Nat → Int32) (k0 l0 : Nat) (sz : Nat) (hI : IM cn Fn) (hk0 : k0 ≤ 10) (hl0 : 1 ≤ l0 ∧ l0 ≤ 160) : Met l yX12_reads (CWS yX12_reads cX12_reads 6 (some .int)) (RM 8 0 0) (PBw [.ref (g 100), .int (nI k0), .int (nI l0)] D cI cB cZ (wM cI cB cZ g cn In Fn) sz) (va_Qi (fun (r : Int32) (u : (Nat → Nat) × (Nat → Int32) × (Nat → Nat → Int32)) => (fun r c2 I2 F2 => Fr [18, 19, 20, 23, 24, 25, 26] [21, 22] [27, 28, 29, 30, 31, 32, 33, 34, 35, 36] cn In Fn c2 I2 F2 ∧ IM c2 F2 ∧ (c2 18 = 0)) r u.1 u.2.1 u.2.2) (fun (u : (Nat → Nat) × (Nat → Int32) × (Nat → Nat → Int32)) (t : State) => va_P D vwCl (wM cI cB cZ g u.1 u.2.1 u.2.2) t.heap ∧ va_D (va_A (wM cI cB cZ g cn In Fn) sz) (wM cI cB cZ g u.1 u.2.1 u.2.2)) (va_A (wM cI cB cZ g cn In Fn) sz)) 0 0 (va_A (wM cI cB cZ g cn In Fn) sz) := by
  refine en_w (fun A => (va_Qi (fun (r : Int32) (u : (Nat → Nat) × (Nat → Int32) × (Nat → Nat → Int32)) => (fun (r : Int32) (c2 : Nat → Nat) (I2 : Nat → Int32) (F2 : Nat → Nat → Int32) => Fr [18, 19, 20, 23, 24, 25, 26] [21, 22] [27, 28, 29, 30, 31, 32, 33, 34, 35, 36] cn In Fn c2 I2 F2 ∧ IM c2 F2 ∧ (c2 18 = 0)) r u.1 u.2.1 u.2.2) (fun (u : (Nat → Nat) × (Nat → Int32) × (Nat → Nat → Int32)) (t : State) => va_P D vwCl (wM cI cB cZ g u.1 u.2.1 u.2.2) t.heap ∧ va_D A (wM cI cB cZ g u.1 u.2.1 u.2.2)) A)) rfl rfl pn_RX12 (Nat.le_of_ble_eq_true rfl) (fun p e s m below meth c A hx hb hml hown S hr hlocks hnm hA hP hK hD hS ls hl => ?_)
  have hl : lv_has ls 6 [(0, .ref (g 100)), (1, .int (nI k0)), (2, .int (nI l0))] := hl
  have hi_cn : Hid (CB cn) := hI.b
  refine lv_aload_n hx hb (oc_42 0 shX12_reads_0) rfl (lvA0 hl) ?_
  refine lv_iconst (v := 0) hx hb (oc_3 1 (aq_1 shX12_reads_0)) kic_0 ?_
  refine pM_233 S hK hP hD hS (a := 0) (cn2 := (va_up cn 19 0)) rfl rfl (oc_181 2 (aq_2 shX12_reads_0) uw_0_233) (fun H locs hP hD hS => ?_)
  refine lv_aload_n hx hb (oc_42 5 (aq_5 shX12_reads_0)) rfl (lvA0 hl) ?_
  refine lv_iload_n hx hb (oc_28 6 (aq_6 shX12_reads_0)) rfl (lvA2 hl) ?_
  refine pM_236 S hK hP hD hS (a := l0) (cn2 := (va_up (va_up cn 19 0) 20 l0)) rfl rfl (oc_181 7 (aq_7 shX12_reads_0) uw_0_236) (fun H locs hP hD hS => ?_)
  refine lv_aload_n hx hb (oc_42 10 (aq_10 shX12_reads_0)) rfl (lvA0 hl) ?_
  refine lv_iconst (v := 0) hx hb (oc_3 11 (aq_11 shX12_reads_0)) kic_0 ?_
  refine pM_257 S hK hP hD hS (a := 0) (cn2 := (va_up (va_up (va_up cn 19 0) 20 l0) 23 0)) rfl rfl (oc_181 12 (aq_12 shX12_reads_0) uw_1_1) (fun H locs hP hD hS => ?_)
  refine lv_aload_n hx hb (oc_42 15 (aq_15 shX12_reads_0)) rfl (lvA0 hl) ?_
  refine lv_iconst (v := 0) hx hb (oc_3 16 (aq_16 shX12_reads_0)) kic_0 ?_
  refine pM_312 S hK hP hD hS (a := 0) (cn2 := (va_up (va_up (va_up (va_up cn 19 0) 20 l0) 23 0) 25 0)) rfl rfl (oc_181 17 (aq_17 shX12_reads_0) uw_1_56) (fun H locs hP hD hS => ?_)
  refine lv_aload_n hx hb (oc_42 20 (aq_20 shX12_reads_0)) rfl (lvA0 hl) ?_
  refine lv_iload_n hx hb (oc_27 21 (aq_21 shX12_reads_0)) rfl (lvA1 hl) ?_
  refine lv_bipush (v := 10) hx hb (oc_16 22 (aq_22 shX12_reads_0) sgb_10) kbc_10 ?_
  have : (nI k0).toInt = ((k0 : Nat) : Int) := nI_toInt (by (first | omega | (have zz0 := Hid.u hi_cn; omega)))
  refine lv_icmp_ne (tgt := 31) hx hb (oc_160 24 shX12_reads_24 sgw_0_7) rfl (fun c_1 => ?_) (fun c_1 => ?_)
  ·
    have tc_1 : ((nI k0).toInt : Int) ≠ 10 := fun q => c_1 (Int32.toInt_inj.mp q)
    refine lv_iconst (v := 0) hx hb (oc_3 31 (aq_7 shX12_reads_24)) kic_0 ?_
    have hFc := free_all hD hS hA
    refine va_calli (runV_a (As := [.int 0]) (rest := []) S (q_readsClause l D cI cB cZ g (va_up (va_up (va_up (va_up cn 19 0) 20 l0) 23 0) 25 0) In Fn 0 H.size (IM.fr (In := In) hI (Fr.c 25 (Fr.c 23 (Fr.c 20 (Fr.c 19 Fr.rf)))) (by decide) (by decide)) (show 0 ≤ l0 by (first | omega | (have zz0 := Hid.u hi_cn; omega))) (show l0 ≤ 160 by (first | omega | (have zz0 := Hid.u hi_cn; omega))) (show 0 ≤ 0 by (first | omega | (have zz0 := Hid.u hi_cn; omega))) (show 0 ≤ 12 by (first | omega | (have zz0 := Hid.u hi_cn; omega))) (fun j hj => absurd (show j < 0 from hj) (Nat.not_lt_zero j))) kV_RX12_318 hK hP hD 0 rfl rfl rfl ⟨Nat.le_of_ble_eq_true rfl, Nat.le_of_ble_eq_true rfl⟩ ⟨Nat.le_of_ble_eq_true rfl, Nat.le_of_ble_eq_true rfl⟩ rfl hl.1 rfl (Nat.le_of_ble_eq_true rfl) dX12_reads_32) hS (fun q _ h => hFc q h) hFc (fun r_2 u t H1 locs ht hvm wh_3 hB hz1 hk1 hS => ?_)
    obtain ⟨cn3, In3, Fn3⟩ := u
    obtain ⟨hP1, hD1⟩ := hB
    rw [ht] at hP1
    have hP : va_P D vwCl (wM cI cB cZ g cn3 In3 Fn3) H1 := hP1
    have hD : va_D A (wM cI cB cZ g cn3 In3 Fn3) := hD1.weaken (fun _ _ _ h => hFc _ h)
    generalize H1 = H at hP hS ⊢
    have vh_3 : (fun r c2 I2 F2 => Fr [19, 23, 24, 25, 26] [21, 22] [27, 28, 29, 30, 31] (va_up (va_up (va_up (va_up cn 19 0) 20 l0) 23 0) 25 0) In Fn c2 I2 F2 ∧ IM c2 F2 ∧ (r = 0 ∨ (r = 1 ∧ 0 < c2 19 ∧ c2 19 ≤ l0 ∧ c2 23 ≤ c2 19 ∧ c2 25 ≤ 12 ∧ ALL (F2 27) (c2 23) (c2 25) (F2 29) (F2 30) (F2 31)))) r_2 cn3 In3 Fn3 := wh_3
    obtain ⟨hfc3, hIn3, h_3⟩ := vh_3
    have hf3 : Fr [18, 19, 20, 23, 24, 25, 26] [21, 22] [27, 28, 29, 30, 31, 32, 33, 34, 35, 36] cn In Fn cn3 In3 Fn3 := Fr.mo (Fr.tr (Fr.c 25 (Fr.c 23 (Fr.c 20 (Fr.c 19 (Fr.rf (cn := cn) (In := In) (Fn := Fn)))))) hfc3) (sbl rfl) (sbl rfl) (sbl rfl)
    have hi_cn3 : Hid (CB cn3) := hIn3.b
    have hq_cn3 := Hid.i (frq_18_19_20_23_24_25_26_0_1_2_46_57_58_62_63_75_83_44 hf3)
    have : cn3 20 = l0 := hfc3.1 20 (nml rfl)
    refine lv_istore_n (lv' := [(3, .int r_2), (0, .ref (g 100)), (1, .int (nI k0)), (2, .int (nI l0))]) hx hb dX12_reads_35 rfl hl (ltb rfl) rfl (fun ls hl => ?_)
    have lp_36 : ∀ (n : Nat) (x36_3 : Int32) (g36 : Nat) (c36 : Nat → Nat) (I36 : Nat → Int32) (F36 : Nat → Nat → Int32) (H : Heap) (locs : List Loc) , g36 < n → (Fr [18, 19, 20, 23, 24, 25, 26] [21, 22] [27, 28, 29, 30, 31, 32, 33, 34, 35, 36] cn In Fn c36 I36 F36 ∧ IM c36 F36 ∧ (x36_3 = 0 ∨ (x36_3 = 1 ∧ c36 19 ≤ l0 ∧ c36 23 ≤ c36 19 ∧ c36 25 ≤ 12 ∧ ALL (F36 27) (c36 23) (c36 25) (F36 29) (F36 30) (F36 31) ∧ l0 + 1 ≤ c36 19 + g36)) ∧ (c36 20 = l0) ∧ (∀ k : Nat, 32 ≤ k → k ≤ 36 → F36 k = Fn k)) → va_P D vwCl (wM cI cB cZ g c36 I36 F36) H → va_D A (wM cI cB cZ g c36 I36 F36) → va_S A s.heap H locs → ∀ ls : Array Slot, lv_has ls 6 [(3, .int x36_3), (0, .ref (g 100)), (1, .int (nI k0)), (2, .int (nI l0))] → W p l e (RM 8 0 0) s m ([.ref (g 100), .int (nI k0), .int (nI l0)]).toArray below meth c H locs 0 0 (MQ below (va_Qi (fun (r : Int32) (u : (Nat → Nat) × (Nat → Int32) × (Nat → Nat → Int32)) => (fun r c2 I2 F2 => Fr [18, 19, 20, 23, 24, 25, 26] [21, 22] [27, 28, 29, 30, 31, 32, 33, 34, 35, 36] cn In Fn c2 I2 F2 ∧ IM c2 F2 ∧ (c2 18 = 0)) r u.1 u.2.1 u.2.2) (fun (u : (Nat → Nat) × (Nat → Int32) × (Nat → Nat → Int32)) (t : State) => va_P D vwCl (wM cI cB cZ g u.1 u.2.1 u.2.2) t.heap ∧ va_D A (wM cI cB cZ g u.1 u.2.1 u.2.2)) A) ([.ref (g 100), .int (nI k0), .int (nI l0)]).toArray s 0 0 A) (F0 m 36 ls []) := by
      intro n36
      induction n36 with
      | zero => intros; (first | omega | (have zz0 := Hid.u hi_cn; have zz1 := Hid.u hi_cn3; have zz2 := Hid.u hq_cn3; omega))
      | succ n36 ih36 =>
        intro x36_3 g36 c36 I36 F36 H locs hmu36 hinv36 hP hD hS ls hl
        obtain ⟨hfr36, hI36, hx36_0, hx36_1, hx36_2⟩ := hinv36
        have hi_c36 : Hid (CB c36) := hI36.b
        have hq_c36 := Hid.i (frq_18_19_20_23_24_25_26_0_1_2_46_57_58_62_63_75_83_44 hfr36)
        refine lv_iload_n hx hb dX12_reads_36 rfl (lvA0 hl) ?_
        refine lv_if_eq (tgt := 87) hx hb dX12_reads_37 rfl (fun c_4 => ?_) (fun c_4 => ?_)
        ·
          have tc_4 : (x36_3.toInt : Int) = 0 := congrArg Int32.toInt c_4
          refine lv_aload_n hx hb dX12_reads_87 rfl (lvA1 hl) ?_
          refine lv_iconst (v := 0) hx hb dX12_reads_88 kic_0 ?_
          refine pM_226 S hK hP hD hS (a := 0) (cn2 := (va_up c36 18 0)) rfl rfl dX12_reads_89 (fun H locs hP hD hS => ?_)
          refine lv_iload_n hx hb dX12_reads_92 rfl (lvA0 hl) ?_
          refine lv_if_ne (tgt := 101) hx hb dX12_reads_93 rfl (fun c_5 => False.elim (by have tc_5 : (x36_3.toInt : Int) ≠ 0 := fun q => c_5 (Int32.toInt_inj.mp q); (first | omega | (have zz0 := Hid.u hi_c36; have zz1 := Hid.u hi_cn; have zz2 := Hid.u hi_cn3; have zz3 := Hid.u hq_c36; have zz4 := Hid.u hq_cn3; omega)))) (fun c_5 => ?_)
          have tc_5 : (x36_3.toInt : Int) = 0 := congrArg Int32.toInt c_5
          refine lv_aload_n hx hb dX12_reads_96 rfl (lvA1 hl) ?_
          refine gM_243 S hK hP (v := .int (I36 21)) rfl dX12_reads_97 ?_
          exact W.iret (v := (I36 21)) hx hb hr (fun t ht hW => ⟨⟨(I36 21), ((va_up c36 18 0), I36, F36), rfl, ⟨(Fr.mo (Fr.c 18 hfr36) (sbl rfl) (sbl rfl) (sbl rfl)), (IM.fr (In := I36) hI36 (Fr.c 18 Fr.rf) (by decide) (by decide)), (by show (va_up c36 18 0) 18 = 0; show 0 = 0; (first | omega | (have zz0 := Hid.u hi_c36; have zz1 := Hid.u hi_cn; have zz2 := Hid.u hi_cn3; have zz3 := Hid.u hq_c36; have zz4 := Hid.u hq_cn3; omega)))⟩, by rw [ht]; exact hP, hD⟩, hS.F ht⟩) hS.2.2 dX12_reads_100
        ·
          have tc_4 : (x36_3.toInt : Int) ≠ 0 := fun q => c_4 (Int32.toInt_inj.mp q)
          obtain ⟨hr1, hr2, hr3, hr4, hr5, hr6⟩ := hx36_0.resolve_left (by assumption)
          refine lv_aload_n hx hb dX12_reads_40 rfl (lvA1 hl) ?_
          refine gM_233 S hK hP (v := .int (nI (c36 19))) rfl dX12_reads_41 ?_
          refine lv_aload_n hx hb dX12_reads_44 rfl (lvA1 hl) ?_
          refine gM_236 S hK hP (v := .int (nI (c36 20))) rfl dX12_reads_45 ?_
          have : (nI (c36 19)).toInt = (((c36 19) : Nat) : Int) := nI_toInt (by (first | omega | (have zz0 := Hid.u hi_c36; have zz1 := Hid.u hi_cn; have zz2 := Hid.u hi_cn3; have zz3 := Hid.u hq_c36; have zz4 := Hid.u hq_cn3; omega)))
          have : (nI (c36 20)).toInt = (((c36 20) : Nat) : Int) := nI_toInt (by (first | omega | (have zz0 := Hid.u hi_c36; have zz1 := Hid.u hi_cn; have zz2 := Hid.u hi_cn3; have zz3 := Hid.u hq_c36; have zz4 := Hid.u hq_cn3; omega)))
          refine lv_icmp_ge (tgt := 87) hx hb dX12_reads_48 rfl (fun c_6 => ?_) (fun c_6 => ?_)
          ·
            have tc_6 : ((nI (c36 20)).toInt : Int) ≤ (nI (c36 19)).toInt := Int32.le_iff_toInt_le.mp c_6
            refine lv_aload_n hx hb dX12_reads_87 rfl (lvA1 hl) ?_
            refine lv_iconst (v := 0) hx hb dX12_reads_88 kic_0 ?_
            refine pM_226 S hK hP hD hS (a := 0) (cn2 := (va_up c36 18 0)) rfl rfl dX12_reads_89 (fun H locs hP hD hS => ?_)
            refine lv_iload_n hx hb dX12_reads_92 rfl (lvA0 hl) ?_
            refine lv_if_ne (tgt := 101) hx hb dX12_reads_93 rfl (fun c_7 => ?_) (fun c_7 => ?_)
            ·
              have tc_7 : (x36_3.toInt : Int) ≠ 0 := fun q => c_7 (Int32.toInt_inj.mp q)
              have g32_ : F36 32 = Fn 32 := hx36_2 32 (by decide) (by decide)
              have g33_ : F36 33 = Fn 33 := hx36_2 33 (by decide) (by decide)
              have g34_ : F36 34 = Fn 34 := hx36_2 34 (by decide) (by decide)
              have g35_ : F36 35 = Fn 35 := hx36_2 35 (by decide) (by decide)
              have g36_ : F36 36 = Fn 36 := hx36_2 36 (by decide) (by decide)
              refine lv_aload_n hx hb dX12_reads_101 rfl (lvA1 hl) ?_
              refine gM_74 S hK hP (v := .ref (g 33)) rfl dX12_reads_102 ?_
              refine lv_iload_n hx hb dX12_reads_105 rfl (lvA2 hl) ?_
              refine lv_aload_n hx hb dX12_reads_106 rfl (lvA1 hl) ?_
              refine gM_312 S hK hP (v := .int (nI (c36 25))) rfl dX12_reads_107 ?_
              have kb_1 : k0 < 11 := by (first | omega | (have zz0 := Hid.u hi_c36; have zz1 := Hid.u hi_cn; have zz2 := Hid.u hi_cn3; have zz3 := Hid.u hq_c36; have zz4 := Hid.u hq_cn3; omega))
              refine stM_33 hx hb hK hP hD hS (Fn2 := (va_up F36 33 (upd (F36 33) k0 (nI (c36 25))))) (vp_in_nI kb_1 (ltb rfl)) (nI_clamp (Nat.lt_trans kb_1 (ltb rfl))) rfl dX12_reads_110 (fun H locs hP hD hS => ?_)
              refine lv_iconst (v := 0) hx hb dX12_reads_111 kic_0 ?_
              refine lv_istore (lv' := [(4, .int 0), (3, .int x36_3), (0, .ref (g 100)), (1, .int (nI k0)), (2, .int (nI l0))]) hx hb dX12_reads_112 hl (ltb rfl) rfl (fun ls hl => ?_)
              have lp_114 : ∀ (n : Nat) (i114 : Nat) (F114 : Nat → Nat → Int32) (H : Heap) (locs : List Loc) , (c36 23) - i114 < n → (i114 ≤ (c36 23) ∧ Fr [18, 19, 20, 23, 24, 25, 26] [21, 22] [27, 28, 29, 30, 31, 32, 33, 34, 35, 36] cn In Fn c36 I36 F114 ∧ (∀ j : Nat, j < i114 → F114 32 (180 * k0 + j) = F36 27 j) ∧ (∀ j : Nat, j < 180 * k0 ∨ 180 * k0 + 180 ≤ j → F114 32 j = Fn 32 j) ∧ (∀ k : Nat, k ≠ 32 → F114 k = (va_up F36 33 (upd (F36 33) k0 (nI (c36 25)))) k)) → va_P D vwCl (wM cI cB cZ g (va_up c36 18 0) I36 F114) H → va_D A (wM cI cB cZ g (va_up c36 18 0) I36 F114) → va_S A s.heap H locs → ∀ ls : Array Slot, lv_has ls 6 [(4, .int (nI i114)), (3, .int x36_3), (0, .ref (g 100)), (1, .int (nI k0)), (2, .int (nI l0))] → W p l e (RM 8 0 0) s m ([.ref (g 100), .int (nI k0), .int (nI l0)]).toArray below meth c H locs 0 0 (MQ below (va_Qi (fun (r : Int32) (u : (Nat → Nat) × (Nat → Int32) × (Nat → Nat → Int32)) => (fun r c2 I2 F2 => Fr [18, 19, 20, 23, 24, 25, 26] [21, 22] [27, 28, 29, 30, 31, 32, 33, 34, 35, 36] cn In Fn c2 I2 F2 ∧ IM c2 F2 ∧ (c2 18 = 0)) r u.1 u.2.1 u.2.2) (fun (u : (Nat → Nat) × (Nat → Int32) × (Nat → Nat → Int32)) (t : State) => va_P D vwCl (wM cI cB cZ g u.1 u.2.1 u.2.2) t.heap ∧ va_D A (wM cI cB cZ g u.1 u.2.1 u.2.2)) A) ([.ref (g 100), .int (nI k0), .int (nI l0)]).toArray s 0 0 A) (F0 m 114 ls []) := by
                intro n114
                induction n114 with
                | zero => intros; (first | omega | (have zz0 := Hid.u hi_c36; have zz1 := Hid.u hi_cn; have zz2 := Hid.u hi_cn3; have zz3 := Hid.u hq_c36; have zz4 := Hid.u hq_cn3; omega))
                | succ n114 ih114 =>
                  intro i114 F114 H locs hmu114 hinv114 hP hD hS ls hl
                  obtain ⟨hr114, hfr114, hx114_0, hx114_1, hx114_2⟩ := hinv114
                  have ti114 : (nI i114).toInt = (i114 : Int) := nI_toInt (by (first | omega | (have zz0 := Hid.u hi_c36; have zz1 := Hid.u hi_cn; have zz2 := Hid.u hi_cn3; have zz3 := Hid.u hq_c36; have zz4 := Hid.u hq_cn3; omega)))
                  have hq_c36 := Hid.i (frq_18_19_20_23_24_25_26_0_1_2_46_57_58_62_63_75_83_44 hfr114)
                  refine lv_iload hx hb dX12_reads_114 (lvA0 hl) ?_
                  refine lv_aload_n hx hb dX12_reads_116 rfl (lvA2 hl) ?_
                  refine gM_257 S hK hP (v := .int (nI (c36 23))) rfl dX12_reads_117 ?_
                  have : (nI (c36 23)).toInt = (((c36 23) : Nat) : Int) := nI_toInt (by (first | omega | (have zz0 := Hid.u hi_c36; have zz1 := Hid.u hi_cn; have zz2 := Hid.u hi_cn3; have zz3 := Hid.u hq_c36; have zz4 := Hid.u hq_cn3; omega)))
                  refine lv_icmp_ge (tgt := 149) hx hb dX12_reads_120 rfl (fun c_8 => ?_) (fun c_8 => ?_)
                  ·
                    have tc_8 : ((nI (c36 23)).toInt : Int) ≤ (nI i114).toInt := Int32.le_iff_toInt_le.mp c_8
                    refine lv_iconst (v := 0) hx hb dX12_reads_149 kic_0 ?_
                    refine lv_istore (lv' := [(4, .int 0), (3, .int x36_3), (0, .ref (g 100)), (1, .int (nI k0)), (2, .int (nI l0))]) hx hb dX12_reads_150 hl (ltb rfl) rfl (fun ls hl => ?_)
                    have lp_152 : ∀ (n : Nat) (i152 : Nat) (F152 : Nat → Nat → Int32) (H : Heap) (locs : List Loc) , (c36 25) - i152 < n → (i152 ≤ (c36 25) ∧ Fr [18, 19, 20, 23, 24, 25, 26] [21, 22] [27, 28, 29, 30, 31, 32, 33, 34, 35, 36] cn In Fn c36 I36 F152 ∧ (∀ q : Nat, q < i152 → ClOK (F152 32) (180 * k0) (F152 34 (12 * k0 + q)) (F152 35 (12 * k0 + q)) (F152 36 (12 * k0 + q))) ∧ (∀ j : Nat, j < 12 * k0 ∨ 12 * k0 + 12 ≤ j → F152 34 j = Fn 34 j ∧ F152 35 j = Fn 35 j ∧ F152 36 j = Fn 36 j) ∧ (∀ k : Nat, k ≠ 34 ∧ k ≠ 35 ∧ k ≠ 36 → F152 k = F114 k)) → va_P D vwCl (wM cI cB cZ g (va_up c36 18 0) I36 F152) H → va_D A (wM cI cB cZ g (va_up c36 18 0) I36 F152) → va_S A s.heap H locs → ∀ ls : Array Slot, lv_has ls 6 [(4, .int (nI i152)), (3, .int x36_3), (0, .ref (g 100)), (1, .int (nI k0)), (2, .int (nI l0))] → W p l e (RM 8 0 0) s m ([.ref (g 100), .int (nI k0), .int (nI l0)]).toArray below meth c H locs 0 0 (MQ below (va_Qi (fun (r : Int32) (u : (Nat → Nat) × (Nat → Int32) × (Nat → Nat → Int32)) => (fun r c2 I2 F2 => Fr [18, 19, 20, 23, 24, 25, 26] [21, 22] [27, 28, 29, 30, 31, 32, 33, 34, 35, 36] cn In Fn c2 I2 F2 ∧ IM c2 F2 ∧ (c2 18 = 0)) r u.1 u.2.1 u.2.2) (fun (u : (Nat → Nat) × (Nat → Int32) × (Nat → Nat → Int32)) (t : State) => va_P D vwCl (wM cI cB cZ g u.1 u.2.1 u.2.2) t.heap ∧ va_D A (wM cI cB cZ g u.1 u.2.1 u.2.2)) A) ([.ref (g 100), .int (nI k0), .int (nI l0)]).toArray s 0 0 A) (F0 m 152 ls []) := by
                      intro n152
                      induction n152 with
                      | zero => intros; (first | omega | (have zz0 := Hid.u hi_c36; have zz1 := Hid.u hi_cn; have zz2 := Hid.u hi_cn3; have zz3 := Hid.u hq_c36; have zz4 := Hid.u hq_cn3; omega))
                      | succ n152 ih152 =>
                        intro i152 F152 H locs hmu152 hinv152 hP hD hS ls hl
                        obtain ⟨hr152, hfr152, hx152_0, hx152_1, hx152_2⟩ := hinv152
                        have ti152 : (nI i152).toInt = (i152 : Int) := nI_toInt (by (first | omega | (have zz0 := Hid.u hi_c36; have zz1 := Hid.u hi_cn; have zz2 := Hid.u hi_cn3; have zz3 := Hid.u hq_c36; have zz4 := Hid.u hq_cn3; omega)))
                        have hq_c36 := Hid.i (frq_18_19_20_23_24_25_26_0_1_2_46_57_58_62_63_75_83_44 hfr152)
                        refine lv_iload hx hb dX12_reads_152 (lvA0 hl) ?_
                        refine lv_aload_n hx hb dX12_reads_154 rfl (lvA2 hl) ?_
                        refine gM_312 S hK hP (v := .int (nI (c36 25))) rfl dX12_reads_155 ?_
                        have : (nI (c36 25)).toInt = (((c36 25) : Nat) : Int) := nI_toInt (by (first | omega | (have zz0 := Hid.u hi_c36; have zz1 := Hid.u hi_cn; have zz2 := Hid.u hi_cn3; have zz3 := Hid.u hq_c36; have zz4 := Hid.u hq_cn3; omega)))
                        refine lv_icmp_ge (tgt := 236) hx hb dX12_reads_158 rfl (fun c_9 => ?_) (fun c_9 => ?_)
                        ·
                          have tc_9 : ((nI (c36 25)).toInt : Int) ≤ (nI i152).toInt := Int32.le_iff_toInt_le.mp c_9
                          refine lv_aload_n hx hb dX12_reads_236 rfl (lvA2 hl) ?_
                          refine gM_312 S hK hP (v := .int (nI (c36 25))) rfl dX12_reads_237 ?_
                          exact W.iret (v := (nI (c36 25))) hx hb hr (fun t ht hW => ⟨⟨(nI (c36 25)), ((va_up c36 18 0), I36, F152), rfl, ⟨(Fr.mo (Fr.c 18 hfr152) (sbl rfl) (sbl rfl) (sbl rfl)), (IM.rd (t := k0) (sm := c36 25) hI (fun k hk => (Fr.c 18 hfr36).1 k (by revert k; decide)) (fun k hk => hfr152.2.2 k (by revert k; decide)) (by (first | omega | (have zz0 := Hid.u hi_c36; have zz1 := Hid.u hi_cn; have zz2 := Hid.u hi_cn3; have zz3 := Hid.u hq_c36; have zz4 := Hid.u hq_cn3; omega))) ((hx152_2 33 (by decide)).trans ((hx114_2 33 (by decide)).trans (by show upd (F36 33) k0 (nI (c36 25)) = _; rw [g33_]))) (fun j hj => (congrFun (hx152_2 32 (by decide)) j).trans (hx114_1 j hj)) hx152_1 (fun q hq => hx152_0 q (by (first | omega | (have zz0 := Hid.u hi_c36; have zz1 := Hid.u hi_cn; have zz2 := Hid.u hi_cn3; have zz3 := Hid.u hq_c36; have zz4 := Hid.u hq_cn3; omega))))), (by show (va_up c36 18 0) 18 = 0; have t9 : (nI (c36 25)).toInt = (((c36 25) : Nat) : Int) := nI_toInt (by (first | omega | (have zz0 := Hid.u hi_c36; have zz1 := Hid.u hi_cn; have zz2 := Hid.u hi_cn3; have zz3 := Hid.u hq_c36; have zz4 := Hid.u hq_cn3; omega))); show 0 = 0; (first | omega | (have zz0 := Hid.u hi_c36; have zz1 := Hid.u hi_cn; have zz2 := Hid.u hi_cn3; have zz3 := Hid.u hq_c36; have zz4 := Hid.u hq_cn3; omega)))⟩, by rw [ht]; exact hP, hD⟩, hS.F ht⟩) hS.2.2 dX12_reads_240
                        ·
                          have tc_9 : ((nI i152).toInt : Int) < (nI (c36 25)).toInt := Int32.lt_iff_toInt_lt.mp (Int32.not_le.mp c_9)
                          obtain ⟨a9, g9, b9, ea9, eg9, eb9, k1, k2, k3, s1, s2⟩ := hr5 i152 (by (first | omega | (have zz0 := Hid.u hi_c36; have zz1 := Hid.u hi_cn; have zz2 := Hid.u hi_cn3; have zz3 := Hid.u hq_c36; have zz4 := Hid.u hq_cn3; omega)))
                          refine lv_bipush (v := 12) hx hb dX12_reads_161 kbc_12 ?_
                          refine lv_iload_n hx hb dX12_reads_163 rfl (lvA3 hl) ?_
                          refine lv_imul hx hb dX12_reads_164 ?_
                          refine lv_topi (fun y_10 ey_10 => ?_)
                          obtain rfl : y_10 = (nI (12 * k0)) := ey_10.trans (pk_mul 12 k0)
                          refine lv_iload hx hb dX12_reads_165 (lvA0 hl) ?_
                          refine lv_iadd hx hb dX12_reads_167 ?_
                          refine lv_topi (fun y_11 ey_11 => ?_)
                          obtain rfl : y_11 = (nI ((12 * k0) + i152)) := ey_11.trans (nI_add (12 * k0) i152)
                          refine lv_istore (lv' := [(5, .int (nI ((12 * k0) + i152))), (4, .int (nI i152)), (3, .int x36_3), (0, .ref (g 100)), (1, .int (nI k0)), (2, .int (nI l0))]) hx hb dX12_reads_168 hl (ltb rfl) rfl (fun ls hl => ?_)
                          refine lv_aload_n hx hb dX12_reads_170 rfl (lvA3 hl) ?_
                          refine gM_77 S hK hP (v := .ref (g 34)) rfl dX12_reads_171 ?_
                          refine lv_iload hx hb dX12_reads_174 (lvA0 hl) ?_
                          refine lv_sipush (v := 180) hx hb dX12_reads_176 (by decide) ?_
                          refine lv_iload_n hx hb dX12_reads_179 rfl (lvA4 hl) ?_
                          refine lv_imul hx hb dX12_reads_180 ?_
                          refine lv_topi (fun y_12 ey_12 => ?_)
                          obtain rfl : y_12 = (nI (180 * k0)) := ey_12.trans (pk_mul 180 k0)
                          refine lv_aload_n hx hb dX12_reads_181 rfl (lvA3 hl) ?_
                          refine gM_62 S hK hP (v := .ref (g 29)) rfl dX12_reads_182 ?_
                          refine lv_iload hx hb dX12_reads_185 (lvA1 hl) ?_
                          have kb_2 : i152 < 12 := by (first | omega | (have zz0 := Hid.u hi_c36; have zz1 := Hid.u hi_cn; have zz2 := Hid.u hi_cn3; have zz3 := Hid.u hq_c36; have zz4 := Hid.u hq_cn3; omega))
                          refine ldM_29 hx hb hK hP (x := ((F152 29) i152)) (vp_in_nI kb_2 (ltb rfl)) (nI_clamp (Nat.lt_trans kb_2 (ltb rfl))) rfl dX12_reads_187 ?_
                          refine lv_topi (fun y_13 ey_13 => ?_)
                          obtain rfl : y_13 = (nI a9) := ey_13.trans ((congrFun ((hx152_2 29 (by decide)).trans (hx114_2 29 (by decide))) i152).trans ea9)
                          refine lv_iadd hx hb dX12_reads_188 ?_
                          refine lv_topi (fun y_14 ey_14 => ?_)
                          obtain rfl : y_14 = (nI ((180 * k0) + a9)) := ey_14.trans (nI_add (180 * k0) a9)
                          have kb_3 : ((12 * k0) + i152) < 132 := by (first | omega | (have zz0 := Hid.u hi_c36; have zz1 := Hid.u hi_cn; have zz2 := Hid.u hi_cn3; have zz3 := Hid.u hq_c36; have zz4 := Hid.u hq_cn3; omega))
                          refine stM_34 hx hb hK hP hD hS (Fn2 := (va_up F152 34 (upd (F152 34) ((12 * k0) + i152) (nI ((180 * k0) + a9))))) (vp_in_nI kb_3 (ltb rfl)) (nI_clamp (Nat.lt_trans kb_3 (ltb rfl))) rfl dX12_reads_189 (fun H locs hP hD hS => ?_)
                          refine lv_aload_n hx hb dX12_reads_190 rfl (lvA3 hl) ?_
                          refine gM_80 S hK hP (v := .ref (g 35)) rfl dX12_reads_191 ?_
                          refine lv_iload hx hb dX12_reads_194 (lvA0 hl) ?_
                          refine lv_sipush (v := 180) hx hb dX12_reads_196 (by decide) ?_
                          refine lv_iload_n hx hb dX12_reads_199 rfl (lvA4 hl) ?_
                          refine lv_imul hx hb dX12_reads_200 ?_
                          refine lv_topi (fun y_15 ey_15 => ?_)
                          obtain rfl : y_15 = (nI (180 * k0)) := ey_15.trans (pk_mul 180 k0)
                          refine lv_aload_n hx hb dX12_reads_201 rfl (lvA3 hl) ?_
                          refine gM_65 S hK hP (v := .ref (g 30)) rfl dX12_reads_202 ?_
                          refine lv_iload hx hb dX12_reads_205 (lvA1 hl) ?_
                          refine ldM_30 hx hb hK hP (x := ((F152 30) i152)) (vp_in_nI kb_2 (ltb rfl)) (nI_clamp (Nat.lt_trans kb_2 (ltb rfl))) rfl dX12_reads_207 ?_
                          refine lv_topi (fun y_16 ey_16 => ?_)
                          obtain rfl : y_16 = (nI g9) := ey_16.trans ((congrFun ((hx152_2 30 (by decide)).trans (hx114_2 30 (by decide))) i152).trans eg9)
                          refine lv_iadd hx hb dX12_reads_208 ?_
                          refine lv_topi (fun y_17 ey_17 => ?_)
                          obtain rfl : y_17 = (nI ((180 * k0) + g9)) := ey_17.trans (nI_add (180 * k0) g9)
                          refine stM_35 hx hb hK hP hD hS (Fn2 := (va_up (va_up F152 34 (upd (F152 34) ((12 * k0) + i152) (nI ((180 * k0) + a9)))) 35 (upd (F152 35) ((12 * k0) + i152) (nI ((180 * k0) + g9))))) (vp_in_nI kb_3 (ltb rfl)) (nI_clamp (Nat.lt_trans kb_3 (ltb rfl))) rfl dX12_reads_209 (fun H locs hP hD hS => ?_)
                          refine lv_aload_n hx hb dX12_reads_210 rfl (lvA3 hl) ?_
                          refine gM_83 S hK hP (v := .ref (g 36)) rfl dX12_reads_211 ?_
                          refine lv_iload hx hb dX12_reads_214 (lvA0 hl) ?_
                          refine lv_sipush (v := 180) hx hb dX12_reads_216 (by decide) ?_
                          refine lv_iload_n hx hb dX12_reads_219 rfl (lvA4 hl) ?_
                          refine lv_imul hx hb dX12_reads_220 ?_
                          refine lv_topi (fun y_18 ey_18 => ?_)
                          obtain rfl : y_18 = (nI (180 * k0)) := ey_18.trans (pk_mul 180 k0)
                          refine lv_aload_n hx hb dX12_reads_221 rfl (lvA3 hl) ?_
                          refine gM_68 S hK hP (v := .ref (g 31)) rfl dX12_reads_222 ?_
                          refine lv_iload hx hb dX12_reads_225 (lvA1 hl) ?_
                          refine ldM_31 hx hb hK hP (x := ((F152 31) i152)) (vp_in_nI kb_2 (ltb rfl)) (nI_clamp (Nat.lt_trans kb_2 (ltb rfl))) rfl dX12_reads_227 ?_
                          refine lv_topi (fun y_19 ey_19 => ?_)
                          obtain rfl : y_19 = (nI b9) := ey_19.trans ((congrFun ((hx152_2 31 (by decide)).trans (hx114_2 31 (by decide))) i152).trans eb9)
                          refine lv_iadd hx hb dX12_reads_228 ?_
                          refine lv_topi (fun y_20 ey_20 => ?_)
                          obtain rfl : y_20 = (nI ((180 * k0) + b9)) := ey_20.trans (nI_add (180 * k0) b9)
                          refine stM_36 hx hb hK hP hD hS (Fn2 := (va_up (va_up (va_up F152 34 (upd (F152 34) ((12 * k0) + i152) (nI ((180 * k0) + a9)))) 35 (upd (F152 35) ((12 * k0) + i152) (nI ((180 * k0) + g9)))) 36 (upd (F152 36) ((12 * k0) + i152) (nI ((180 * k0) + b9))))) (vp_in_nI kb_3 (ltb rfl)) (nI_clamp (Nat.lt_trans kb_3 (ltb rfl))) rfl dX12_reads_229 (fun H locs hP hD hS => ?_)
                          refine lv_iinc (v := (nI (i152 + 1))) (lv' := [(4, .int (nI (i152 + 1))), (5, .int (nI ((12 * k0) + i152))), (3, .int x36_3), (0, .ref (g 100)), (1, .int (nI k0)), (2, .int (nI l0))]) hx hb dX12_reads_230 hl (k := 1) rfl (nI_1 _) (ltb rfl) rfl (fun ls hl => ?_)
                          refine lv_goto (tgt := 152) hx hb dX12_reads_233 rfl ?_
                          exact ih152 (i152 + 1) (va_up (va_up (va_up F152 34 (upd (F152 34) ((12 * k0) + i152) (nI ((180 * k0) + a9)))) 35 (upd (F152 35) ((12 * k0) + i152) (nI ((180 * k0) + g9)))) 36 (upd (F152 36) ((12 * k0) + i152) (nI ((180 * k0) + b9)))) _ _ (by (first | omega | (have zz0 := Hid.u hi_c36; have zz1 := Hid.u hi_cn; have zz2 := Hid.u hi_cn3; have zz3 := Hid.u hq_c36; have zz4 := Hid.u hq_cn3; omega))) ⟨(by (first | omega | (have zz0 := Hid.u hi_c36; have zz1 := Hid.u hi_cn; have zz2 := Hid.u hi_cn3; have zz3 := Hid.u hq_c36; have zz4 := Hid.u hq_cn3; omega))), (Fr.mo (Fr.f 36 (Fr.f 35 (Fr.f 34 hfr152))) (sbl rfl) (sbl rfl) (sbl rfl)), (by have q := new_cl hx152_0 (C := F36 27) (cm := c36 23) (fun k hk => (congrFun (hx152_2 32 (by decide)) _).trans (hx114_0 k (by (first | omega | (have zz0 := Hid.u hi_c36; have zz1 := Hid.u hi_cn; have zz2 := Hid.u hi_cn3; have zz3 := Hid.u hq_c36; have zz4 := Hid.u hq_cn3; omega))))) (by (first | omega | (have zz0 := Hid.u hi_c36; have zz1 := Hid.u hi_cn; have zz2 := Hid.u hi_cn3; have zz3 := Hid.u hq_c36; have zz4 := Hid.u hq_cn3; omega))) k1 k2 k3 s1 s2; exact q), (fun j hj => ⟨(upd_nq (by (first | omega | (have zz0 := Hid.u hi_c36; have zz1 := Hid.u hi_cn; have zz2 := Hid.u hi_cn3; have zz3 := Hid.u hq_c36; have zz4 := Hid.u hq_cn3; omega)))).trans (hx152_1 j hj).1, (upd_nq (by (first | omega | (have zz0 := Hid.u hi_c36; have zz1 := Hid.u hi_cn; have zz2 := Hid.u hi_cn3; have zz3 := Hid.u hq_c36; have zz4 := Hid.u hq_cn3; omega)))).trans (hx152_1 j hj).2.1, (upd_nq (by (first | omega | (have zz0 := Hid.u hi_c36; have zz1 := Hid.u hi_cn; have zz2 := Hid.u hi_cn3; have zz3 := Hid.u hq_c36; have zz4 := Hid.u hq_cn3; omega)))).trans (hx152_1 j hj).2.2⟩), (fun k hk => (va_up_ne _ _ hk.2.2).trans ((va_up_ne _ _ hk.2.1).trans ((va_up_ne _ _ hk.1).trans (hx152_2 k hk))))⟩ hP hD hS ls (lv_sub hl [0, 2, 3, 4, 5] rfl)
                    exact lp_152 _ 0 F114 _ _ (Nat.lt_succ_self _) ⟨(by (first | omega | (have zz0 := Hid.u hi_c36; have zz1 := Hid.u hi_cn; have zz2 := Hid.u hi_cn3; have zz3 := Hid.u hq_c36; have zz4 := Hid.u hq_cn3; omega))), (Fr.mo hfr114 (sbl rfl) (sbl rfl) (sbl rfl)), (fun q hq => absurd hq (Nat.not_lt_zero q)), (fun j hj => ⟨(congrFun (hx114_2 34 (by decide)) j).trans (congrFun g34_ j), (congrFun (hx114_2 35 (by decide)) j).trans (congrFun g35_ j), (congrFun (hx114_2 36 (by decide)) j).trans (congrFun g36_ j)⟩), (fun k _ => rfl)⟩ hP hD hS ls (lv_sub hl [0, 1, 2, 3, 4] rfl)
                  ·
                    have tc_8 : ((nI i114).toInt : Int) < (nI (c36 23)).toInt := Int32.lt_iff_toInt_lt.mp (Int32.not_le.mp c_8)
                    refine lv_aload_n hx hb dX12_reads_123 rfl (lvA2 hl) ?_
                    refine gM_71 S hK hP (v := .ref (g 32)) rfl dX12_reads_124 ?_
                    refine lv_sipush (v := 180) hx hb dX12_reads_127 (by decide) ?_
                    refine lv_iload_n hx hb dX12_reads_130 rfl (lvA3 hl) ?_
                    refine lv_imul hx hb dX12_reads_131 ?_
                    refine lv_topi (fun y_21 ey_21 => ?_)
                    obtain rfl : y_21 = (nI (180 * k0)) := ey_21.trans (pk_mul 180 k0)
                    refine lv_iload hx hb dX12_reads_132 (lvA0 hl) ?_
                    refine lv_iadd hx hb dX12_reads_134 ?_
                    refine lv_topi (fun y_22 ey_22 => ?_)
                    obtain rfl : y_22 = (nI ((180 * k0) + i114)) := ey_22.trans (nI_add (180 * k0) i114)
                    refine lv_aload_n hx hb dX12_reads_135 rfl (lvA2 hl) ?_
                    refine gM_56 S hK hP (v := .ref (g 27)) rfl dX12_reads_136 ?_
                    refine lv_iload hx hb dX12_reads_139 (lvA0 hl) ?_
                    have kb_4 : i114 < 180 := by (first | omega | (have zz0 := Hid.u hi_c36; have zz1 := Hid.u hi_cn; have zz2 := Hid.u hi_cn3; have zz3 := Hid.u hq_c36; have zz4 := Hid.u hq_cn3; omega))
                    refine ldM_27 hx hb hK hP (x := ((F114 27) i114)) (vp_in_nI kb_4 (ltb rfl)) (nI_clamp (Nat.lt_trans kb_4 (ltb rfl))) rfl dX12_reads_141 ?_
                    have kb_5 : ((180 * k0) + i114) < 1980 := by (first | omega | (have zz0 := Hid.u hi_c36; have zz1 := Hid.u hi_cn; have zz2 := Hid.u hi_cn3; have zz3 := Hid.u hq_c36; have zz4 := Hid.u hq_cn3; omega))
                    refine stM_32 hx hb hK hP hD hS (Fn2 := (va_up F114 32 (upd (F114 32) ((180 * k0) + i114) ((F114 27) i114)))) (vp_in_nI kb_5 (ltb rfl)) (nI_clamp (Nat.lt_trans kb_5 (ltb rfl))) rfl dX12_reads_142 (fun H locs hP hD hS => ?_)
                    refine lv_iinc (v := (nI (i114 + 1))) (lv' := [(4, .int (nI (i114 + 1))), (3, .int x36_3), (0, .ref (g 100)), (1, .int (nI k0)), (2, .int (nI l0))]) hx hb dX12_reads_143 hl (k := 0) rfl (nI_1 _) (ltb rfl) rfl (fun ls hl => ?_)
                    refine lv_goto (tgt := 114) hx hb dX12_reads_146 rfl ?_
                    exact ih114 (i114 + 1) (va_up F114 32 (upd (F114 32) ((180 * k0) + i114) ((F114 27) i114))) _ _ (by (first | omega | (have zz0 := Hid.u hi_c36; have zz1 := Hid.u hi_cn; have zz2 := Hid.u hi_cn3; have zz3 := Hid.u hq_c36; have zz4 := Hid.u hq_cn3; omega))) ⟨(by (first | omega | (have zz0 := Hid.u hi_c36; have zz1 := Hid.u hi_cn; have zz2 := Hid.u hi_cn3; have zz3 := Hid.u hq_c36; have zz4 := Hid.u hq_cn3; omega))), (Fr.mo (Fr.f 32 hfr114) (sbl rfl) (sbl rfl) (sbl rfl)), (fun j hj => if e : j = i114 then by subst e; exact (upd_self _ _ _).trans (congrFun (hx114_2 27 (by decide)) j) else (upd_nq (by (first | omega | (have zz0 := Hid.u hi_c36; have zz1 := Hid.u hi_cn; have zz2 := Hid.u hi_cn3; have zz3 := Hid.u hq_c36; have zz4 := Hid.u hq_cn3; omega)))).trans (hx114_0 j (by (first | omega | (have zz0 := Hid.u hi_c36; have zz1 := Hid.u hi_cn; have zz2 := Hid.u hi_cn3; have zz3 := Hid.u hq_c36; have zz4 := Hid.u hq_cn3; omega))))), (fun j hj => (upd_nq (by (first | omega | (have zz0 := Hid.u hi_c36; have zz1 := Hid.u hi_cn; have zz2 := Hid.u hi_cn3; have zz3 := Hid.u hq_c36; have zz4 := Hid.u hq_cn3; omega)))).trans (hx114_1 j hj)), (fun k hk => (va_up_ne _ _ hk).trans (hx114_2 k hk))⟩ hP hD hS ls (lv_sub hl [0, 1, 2, 3, 4] rfl)
              exact lp_114 _ 0 (va_up F36 33 (upd (F36 33) k0 (nI (c36 25)))) _ _ (Nat.lt_succ_self _) ⟨(by (first | omega | (have zz0 := Hid.u hi_c36; have zz1 := Hid.u hi_cn; have zz2 := Hid.u hi_cn3; have zz3 := Hid.u hq_c36; have zz4 := Hid.u hq_cn3; omega))), (Fr.mo (Fr.f 33 hfr36) (sbl rfl) (sbl rfl) (sbl rfl)), (fun j hj => absurd hj (Nat.not_lt_zero j)), (fun j _ => congrFun g32_ j), (fun k _ => rfl)⟩ hP hD hS ls (lv_sub hl [0, 1, 2, 3, 4] rfl)
            ·
              have tc_7 : (x36_3.toInt : Int) = 0 := congrArg Int32.toInt c_7
              refine lv_aload_n hx hb dX12_reads_96 rfl (lvA1 hl) ?_
              refine gM_243 S hK hP (v := .int (I36 21)) rfl dX12_reads_97 ?_
              exact W.iret (v := (I36 21)) hx hb hr (fun t ht hW => ⟨⟨(I36 21), ((va_up c36 18 0), I36, F36), rfl, ⟨(Fr.mo (Fr.c 18 hfr36) (sbl rfl) (sbl rfl) (sbl rfl)), (IM.fr (In := I36) hI36 (Fr.c 18 Fr.rf) (by decide) (by decide)), (by show (va_up c36 18 0) 18 = 0; show 0 = 0; (first | omega | (have zz0 := Hid.u hi_c36; have zz1 := Hid.u hi_cn; have zz2 := Hid.u hi_cn3; have zz3 := Hid.u hq_c36; have zz4 := Hid.u hq_cn3; omega)))⟩, by rw [ht]; exact hP, hD⟩, hS.F ht⟩) hS.2.2 dX12_reads_100
          ·
            have tc_6 : ((nI (c36 19)).toInt : Int) < (nI (c36 20)).toInt := Int32.lt_iff_toInt_lt.mp (Int32.not_le.mp c_6)
            refine lv_aload_n hx hb dX12_reads_51 rfl (lvA1 hl) ?_
            refine lv_bipush (v := 59) hx hb dX12_reads_52 kbc_59 ?_
            have hFc := free_all hD hS hA
            refine va_calli (runV_a (As := [.int 59]) (rest := []) S (q_takes l D cI cB cZ g c36 I36 F36 59 H.size hI36 (by (first | omega | (have zz0 := Hid.u hi_c36; have zz1 := Hid.u hi_cn; have zz2 := Hid.u hi_cn3; have zz3 := Hid.u hq_c36; have zz4 := Hid.u hq_cn3; omega))) (by (first | omega | (have zz0 := Hid.u hi_c36; have zz1 := Hid.u hi_cn; have zz2 := Hid.u hi_cn3; have zz3 := Hid.u hq_c36; have zz4 := Hid.u hq_cn3; omega))) (by decide)) kV_RX12_322 hK hP hD 0 rfl rfl rfl ⟨Nat.le_of_ble_eq_true rfl, Nat.le_of_ble_eq_true rfl⟩ ⟨Nat.le_of_ble_eq_true rfl, Nat.le_of_ble_eq_true rfl⟩ rfl hl.1 rfl (Nat.le_of_ble_eq_true rfl) dX12_reads_54) hS (fun q _ h => hFc q h) hFc (fun r_23 u t H1 locs ht hvm wh_24 hB hz1 hk1 hS => ?_)
            obtain ⟨cn24, In24, Fn24⟩ := u
            obtain ⟨hP1, hD1⟩ := hB
            rw [ht] at hP1
            have vh_24 : (fun r c2 I2 F2 => (∀ k : Nat, k ∉ [21] → I2 k = I36 k) ∧ ((r = 0 ∧ (True) ∧ c36 = c2 ∧ F36 = F2) ∨ (r = 1 ∧ ((c36 19) < (c36 20)) ∧ (va_up c36 19 ((c36 19) + 1)) = c2 ∧ F36 = F2))) r_23 cn24 In24 Fn24 := wh_24
            obtain ⟨hI24_, vh_24⟩ := vh_24
            rcases vh_24 with ⟨rfl, h_24, rfl, rfl⟩ | ⟨rfl, h_24, rfl, rfl⟩
            ·
              have hf24 : Fr [18, 19, 20, 23, 24, 25, 26] [21, 22] [27, 28, 29, 30, 31, 32, 33, 34, 35, 36] cn In Fn c36 In24 F36 := Fr.mo (Fr.tr hfr36 (show Fr [] [21] [] c36 I36 F36 c36 In24 F36 from ⟨fun _ _ => rfl, hI24_, fun _ _ => rfl⟩)) (sbl rfl) (sbl rfl) (sbl rfl)
              have hP : va_P D vwCl (wM cI cB cZ g c36 In24 F36) H1 := hP1
              have hD : va_D A (wM cI cB cZ g c36 In24 F36) := hD1.weaken (fun _ _ _ h => hFc _ h)
              generalize H1 = H at hP hS ⊢
              refine lv_if_eq (tgt := 82) hx hb dX12_reads_57 rfl (fun _ => ?_) (fun h => absurd h cq_eq_0_0)
              refine lv_iconst (v := 0) hx hb dX12_reads_82 kic_0 ?_
              refine lv_istore_n (lv' := [(3, .int 0), (0, .ref (g 100)), (1, .int (nI k0)), (2, .int (nI l0))]) hx hb dX12_reads_83 rfl hl (ltb rfl) rfl (fun ls hl => ?_)
              refine lv_goto (tgt := 36) hx hb dX12_reads_84 rfl ?_
              exact ih36 0 (g36 - 1) c36 In24 F36 _ _ (by (first | omega | (have zz0 := Hid.u hi_c36; have zz1 := Hid.u hi_cn; have zz2 := Hid.u hi_cn3; have zz3 := Hid.u hq_c36; have zz4 := Hid.u hq_cn3; omega))) ⟨(Fr.mo hf24 (sbl rfl) (sbl rfl) (sbl rfl)), hI36, (Or.inl rfl), (by (first | omega | (have zz0 := Hid.u hi_c36; have zz1 := Hid.u hi_cn; have zz2 := Hid.u hi_cn3; have zz3 := Hid.u hq_c36; have zz4 := Hid.u hq_cn3; omega))), hx36_2⟩ hP hD hS ls (lv_sub hl [0, 1, 2, 3] rfl)
            ·
              have hf24 : Fr [18, 19, 20, 23, 24, 25, 26] [21, 22] [27, 28, 29, 30, 31, 32, 33, 34, 35, 36] cn In Fn c36 In24 F36 := Fr.mo (Fr.tr hfr36 (show Fr [] [21] [] c36 I36 F36 c36 In24 F36 from ⟨fun _ _ => rfl, hI24_, fun _ _ => rfl⟩)) (sbl rfl) (sbl rfl) (sbl rfl)
              have hP : va_P D vwCl (wM cI cB cZ g (va_up c36 19 ((c36 19) + 1)) In24 F36) H1 := hP1
              have hD : va_D A (wM cI cB cZ g (va_up c36 19 ((c36 19) + 1)) In24 F36) := hD1.weaken (fun _ _ _ h => hFc _ h)
              generalize H1 = H at hP hS ⊢
              refine lv_if_eq (tgt := 82) hx hb dX12_reads_57 rfl (fun h => absurd h cq_eq_1_0) (fun _ => ?_)
              refine lv_aload_n hx hb dX12_reads_60 rfl (lvA1 hl) ?_
              refine lv_iload_n hx hb dX12_reads_61 rfl (lvA2 hl) ?_
              refine lv_bipush (v := 10) hx hb dX12_reads_62 kbc_10 ?_
              refine lv_icmp_ne (tgt := 71) hx hb dX12_reads_64 rfl (fun c_25 => ?_) (fun c_25 => ?_)
              ·
                have tc_25 : ((nI k0).toInt : Int) ≠ 10 := fun q => c_25 (Int32.toInt_inj.mp q)
                refine lv_iconst (v := 0) hx hb (oc_3 71 (aq_23 shX12_reads_48)) kic_0 ?_
                have hFc := free_all hD hS hA
                refine va_calli (runV_a (As := [.int 0]) (rest := []) S (q_readsClause l D cI cB cZ g (va_up c36 19 ((c36 19) + 1)) In24 F36 0 H.size (IM.fr (In := In24) hI36 (Fr.c 19 Fr.rf) (by decide) (by decide)) (show c36 19 + 1 ≤ c36 20 by (first | omega | (have zz0 := Hid.u hi_c36; have zz1 := Hid.u hi_cn; have zz2 := Hid.u hi_cn3; have zz3 := Hid.u hq_c36; have zz4 := Hid.u hq_cn3; omega))) (show c36 20 ≤ 160 by (first | omega | (have zz0 := Hid.u hi_c36; have zz1 := Hid.u hi_cn; have zz2 := Hid.u hi_cn3; have zz3 := Hid.u hq_c36; have zz4 := Hid.u hq_cn3; omega))) (show c36 23 ≤ c36 19 + 1 by (first | omega | (have zz0 := Hid.u hi_c36; have zz1 := Hid.u hi_cn; have zz2 := Hid.u hi_cn3; have zz3 := Hid.u hq_c36; have zz4 := Hid.u hq_cn3; omega))) hr4 hr5) kV_RX12_318 hK hP hD 0 rfl rfl rfl ⟨Nat.le_of_ble_eq_true rfl, Nat.le_of_ble_eq_true rfl⟩ ⟨Nat.le_of_ble_eq_true rfl, Nat.le_of_ble_eq_true rfl⟩ rfl hl.1 rfl (Nat.le_of_ble_eq_true rfl) dX12_reads_72) hS (fun q _ h => hFc q h) hFc (fun r_26 u t H1 locs ht hvm wh_27 hB hz1 hk1 hS => ?_)
                obtain ⟨cn27, In27, Fn27⟩ := u
                obtain ⟨hP1, hD1⟩ := hB
                rw [ht] at hP1
                have hP : va_P D vwCl (wM cI cB cZ g cn27 In27 Fn27) H1 := hP1
                have hD : va_D A (wM cI cB cZ g cn27 In27 Fn27) := hD1.weaken (fun _ _ _ h => hFc _ h)
                generalize H1 = H at hP hS ⊢
                have vh_27 : (fun r c2 I2 F2 => Fr [19, 23, 24, 25, 26] [21, 22] [27, 28, 29, 30, 31] (va_up c36 19 ((c36 19) + 1)) In24 F36 c2 I2 F2 ∧ IM c2 F2 ∧ (r = 0 ∨ (r = 1 ∧ ((c36 19) + 1) < c2 19 ∧ c2 19 ≤ (c36 20) ∧ c2 23 ≤ c2 19 ∧ c2 25 ≤ 12 ∧ ALL (F2 27) (c2 23) (c2 25) (F2 29) (F2 30) (F2 31)))) r_26 cn27 In27 Fn27 := wh_27
                obtain ⟨hfc27, hIn27, h_27⟩ := vh_27
                have hf27 : Fr [18, 19, 20, 23, 24, 25, 26] [21, 22] [27, 28, 29, 30, 31, 32, 33, 34, 35, 36] cn In Fn cn27 In27 Fn27 := Fr.mo (Fr.tr (Fr.c 19 hf24) hfc27) (sbl rfl) (sbl rfl) (sbl rfl)
                have hi_cn27 : Hid (CB cn27) := hIn27.b
                have hq_cn27 := Hid.i (frq_18_19_20_23_24_25_26_0_1_2_46_57_58_62_63_75_83_44 hf27)
                have : cn27 20 = (c36 20) := hfc27.1 20 (nml rfl)
                rcases h_27 with rfl | ⟨rfl, kh_27⟩
                ·
                  refine lv_if_eq (tgt := 82) hx hb dX12_reads_75 rfl (fun _ => ?_) (fun h => absurd h cq_eq_0_0)
                  refine lv_iconst (v := 0) hx hb dX12_reads_82 kic_0 ?_
                  refine lv_istore_n (lv' := [(3, .int 0), (0, .ref (g 100)), (1, .int (nI k0)), (2, .int (nI l0))]) hx hb dX12_reads_83 rfl hl (ltb rfl) rfl (fun ls hl => ?_)
                  refine lv_goto (tgt := 36) hx hb dX12_reads_84 rfl ?_
                  exact ih36 0 (g36 - 1) cn27 In27 Fn27 _ _ (by (first | omega | (have zz0 := Hid.u hi_c36; have zz1 := Hid.u hi_cn; have zz2 := Hid.u hi_cn27; have zz3 := Hid.u hi_cn3; have zz4 := Hid.u hq_c36; have zz5 := Hid.u hq_cn27; have zz6 := Hid.u hq_cn3; omega))) ⟨(Fr.mo hf27 (sbl rfl) (sbl rfl) (sbl rfl)), hIn27, (Or.inl rfl), (by (first | omega | (have zz0 := Hid.u hi_c36; have zz1 := Hid.u hi_cn; have zz2 := Hid.u hi_cn27; have zz3 := Hid.u hi_cn3; have zz4 := Hid.u hq_c36; have zz5 := Hid.u hq_cn27; have zz6 := Hid.u hq_cn3; omega))), (fun k h1 h2 => (hfc27.2.2 k (nin31 h1)).trans (hx36_2 k h1 h2))⟩ hP hD hS ls (lv_sub hl [0, 1, 2, 3] rfl)
                ·
                  obtain ⟨kh_27a, kh_27b, kh_27c, kh_27d, kh_27e⟩ := kh_27
                  refine lv_if_eq (tgt := 82) hx hb dX12_reads_75 rfl (fun h => absurd h cq_eq_1_0) (fun _ => ?_)
                  refine lv_iconst (v := 1) hx hb dX12_reads_78 kic_1 ?_
                  refine lv_goto (tgt := 83) hx hb dX12_reads_79 rfl ?_
                  refine lv_istore_n (lv' := [(3, .int 1), (0, .ref (g 100)), (1, .int (nI k0)), (2, .int (nI l0))]) hx hb dX12_reads_83 rfl hl (ltb rfl) rfl (fun ls hl => ?_)
                  refine lv_goto (tgt := 36) hx hb dX12_reads_84 rfl ?_
                  exact ih36 1 (g36 - 1) cn27 In27 Fn27 _ _ (by (first | omega | (have zz0 := Hid.u hi_c36; have zz1 := Hid.u hi_cn; have zz2 := Hid.u hi_cn27; have zz3 := Hid.u hi_cn3; have zz4 := Hid.u hq_c36; have zz5 := Hid.u hq_cn27; have zz6 := Hid.u hq_cn3; omega))) ⟨(Fr.mo hf27 (sbl rfl) (sbl rfl) (sbl rfl)), hIn27, (Or.inr ⟨rfl, by (first | omega | (have zz0 := Hid.u hi_c36; have zz1 := Hid.u hi_cn; have zz2 := Hid.u hi_cn27; have zz3 := Hid.u hi_cn3; have zz4 := Hid.u hq_c36; have zz5 := Hid.u hq_cn27; have zz6 := Hid.u hq_cn3; omega)), kh_27c, kh_27d, kh_27e, by (first | omega | (have zz0 := Hid.u hi_c36; have zz1 := Hid.u hi_cn; have zz2 := Hid.u hi_cn27; have zz3 := Hid.u hi_cn3; have zz4 := Hid.u hq_c36; have zz5 := Hid.u hq_cn27; have zz6 := Hid.u hq_cn3; omega))⟩), (by (first | omega | (have zz0 := Hid.u hi_c36; have zz1 := Hid.u hi_cn; have zz2 := Hid.u hi_cn27; have zz3 := Hid.u hi_cn3; have zz4 := Hid.u hq_c36; have zz5 := Hid.u hq_cn27; have zz6 := Hid.u hq_cn3; omega))), (fun k h1 h2 => (hfc27.2.2 k (nin31 h1)).trans (hx36_2 k h1 h2))⟩ hP hD hS ls (lv_sub hl [0, 1, 2, 3] rfl)
              ·
                have tc_25 : ((nI k0).toInt : Int) = 10 := congrArg Int32.toInt c_25
                refine lv_iconst (v := 1) hx hb dX12_reads_67 kic_1 ?_
                refine lv_goto (tgt := 72) hx hb dX12_reads_68 rfl ?_
                have hFc := free_all hD hS hA
                refine va_calli (runV_a (As := [.int 1]) (rest := []) S (q_readsClause l D cI cB cZ g (va_up c36 19 ((c36 19) + 1)) In24 F36 1 H.size (IM.fr (In := In24) hI36 (Fr.c 19 Fr.rf) (by decide) (by decide)) (show c36 19 + 1 ≤ c36 20 by (first | omega | (have zz0 := Hid.u hi_c36; have zz1 := Hid.u hi_cn; have zz2 := Hid.u hi_cn3; have zz3 := Hid.u hq_c36; have zz4 := Hid.u hq_cn3; omega))) (show c36 20 ≤ 160 by (first | omega | (have zz0 := Hid.u hi_c36; have zz1 := Hid.u hi_cn; have zz2 := Hid.u hi_cn3; have zz3 := Hid.u hq_c36; have zz4 := Hid.u hq_cn3; omega))) (show c36 23 ≤ c36 19 + 1 by (first | omega | (have zz0 := Hid.u hi_c36; have zz1 := Hid.u hi_cn; have zz2 := Hid.u hi_cn3; have zz3 := Hid.u hq_c36; have zz4 := Hid.u hq_cn3; omega))) hr4 hr5) kV_RX12_318 hK hP hD 0 rfl rfl rfl ⟨Nat.le_of_ble_eq_true rfl, Nat.le_of_ble_eq_true rfl⟩ ⟨Nat.le_of_ble_eq_true rfl, Nat.le_of_ble_eq_true rfl⟩ rfl hl.1 rfl (Nat.le_of_ble_eq_true rfl) dX12_reads_72) hS (fun q _ h => hFc q h) hFc (fun r_28 u t H1 locs ht hvm wh_29 hB hz1 hk1 hS => ?_)
                obtain ⟨cn29, In29, Fn29⟩ := u
                obtain ⟨hP1, hD1⟩ := hB
                rw [ht] at hP1
                have hP : va_P D vwCl (wM cI cB cZ g cn29 In29 Fn29) H1 := hP1
                have hD : va_D A (wM cI cB cZ g cn29 In29 Fn29) := hD1.weaken (fun _ _ _ h => hFc _ h)
                generalize H1 = H at hP hS ⊢
                have vh_29 : (fun r c2 I2 F2 => Fr [19, 23, 24, 25, 26] [21, 22] [27, 28, 29, 30, 31] (va_up c36 19 ((c36 19) + 1)) In24 F36 c2 I2 F2 ∧ IM c2 F2 ∧ (r = 0 ∨ (r = 1 ∧ ((c36 19) + 1) < c2 19 ∧ c2 19 ≤ (c36 20) ∧ c2 23 ≤ c2 19 ∧ c2 25 ≤ 12 ∧ ALL (F2 27) (c2 23) (c2 25) (F2 29) (F2 30) (F2 31)))) r_28 cn29 In29 Fn29 := wh_29
                obtain ⟨hfc29, hIn29, h_29⟩ := vh_29
                have hf29 : Fr [18, 19, 20, 23, 24, 25, 26] [21, 22] [27, 28, 29, 30, 31, 32, 33, 34, 35, 36] cn In Fn cn29 In29 Fn29 := Fr.mo (Fr.tr (Fr.c 19 hf24) hfc29) (sbl rfl) (sbl rfl) (sbl rfl)
                have hi_cn29 : Hid (CB cn29) := hIn29.b
                have hq_cn29 := Hid.i (frq_18_19_20_23_24_25_26_0_1_2_46_57_58_62_63_75_83_44 hf29)
                have : cn29 20 = (c36 20) := hfc29.1 20 (nml rfl)
                rcases h_29 with rfl | ⟨rfl, kh_29⟩
                ·
                  refine lv_if_eq (tgt := 82) hx hb dX12_reads_75 rfl (fun _ => ?_) (fun h => absurd h cq_eq_0_0)
                  refine lv_iconst (v := 0) hx hb dX12_reads_82 kic_0 ?_
                  refine lv_istore_n (lv' := [(3, .int 0), (0, .ref (g 100)), (1, .int (nI k0)), (2, .int (nI l0))]) hx hb dX12_reads_83 rfl hl (ltb rfl) rfl (fun ls hl => ?_)
                  refine lv_goto (tgt := 36) hx hb dX12_reads_84 rfl ?_
                  exact ih36 0 (g36 - 1) cn29 In29 Fn29 _ _ (by (first | omega | (have zz0 := Hid.u hi_c36; have zz1 := Hid.u hi_cn; have zz2 := Hid.u hi_cn29; have zz3 := Hid.u hi_cn3; have zz4 := Hid.u hq_c36; have zz5 := Hid.u hq_cn29; have zz6 := Hid.u hq_cn3; omega))) ⟨(Fr.mo hf29 (sbl rfl) (sbl rfl) (sbl rfl)), hIn29, (Or.inl rfl), (by (first | omega | (have zz0 := Hid.u hi_c36; have zz1 := Hid.u hi_cn; have zz2 := Hid.u hi_cn29; have zz3 := Hid.u hi_cn3; have zz4 := Hid.u hq_c36; have zz5 := Hid.u hq_cn29; have zz6 := Hid.u hq_cn3; omega))), (fun k h1 h2 => (hfc29.2.2 k (nin31 h1)).trans (hx36_2 k h1 h2))⟩ hP hD hS ls (lv_sub hl [0, 1, 2, 3] rfl)
                ·
                  obtain ⟨kh_29a, kh_29b, kh_29c, kh_29d, kh_29e⟩ := kh_29
                  refine lv_if_eq (tgt := 82) hx hb dX12_reads_75 rfl (fun h => absurd h cq_eq_1_0) (fun _ => ?_)
                  refine lv_iconst (v := 1) hx hb dX12_reads_78 kic_1 ?_
                  refine lv_goto (tgt := 83) hx hb dX12_reads_79 rfl ?_
                  refine lv_istore_n (lv' := [(3, .int 1), (0, .ref (g 100)), (1, .int (nI k0)), (2, .int (nI l0))]) hx hb dX12_reads_83 rfl hl (ltb rfl) rfl (fun ls hl => ?_)
                  refine lv_goto (tgt := 36) hx hb dX12_reads_84 rfl ?_
                  exact ih36 1 (g36 - 1) cn29 In29 Fn29 _ _ (by (first | omega | (have zz0 := Hid.u hi_c36; have zz1 := Hid.u hi_cn; have zz2 := Hid.u hi_cn29; have zz3 := Hid.u hi_cn3; have zz4 := Hid.u hq_c36; have zz5 := Hid.u hq_cn29; have zz6 := Hid.u hq_cn3; omega))) ⟨(Fr.mo hf29 (sbl rfl) (sbl rfl) (sbl rfl)), hIn29, (Or.inr ⟨rfl, by (first | omega | (have zz0 := Hid.u hi_c36; have zz1 := Hid.u hi_cn; have zz2 := Hid.u hi_cn29; have zz3 := Hid.u hi_cn3; have zz4 := Hid.u hq_c36; have zz5 := Hid.u hq_cn29; have zz6 := Hid.u hq_cn3; omega)), kh_29c, kh_29d, kh_29e, by (first | omega | (have zz0 := Hid.u hi_c36; have zz1 := Hid.u hi_cn; have zz2 := Hid.u hi_cn29; have zz3 := Hid.u hi_cn3; have zz4 := Hid.u hq_c36; have zz5 := Hid.u hq_cn29; have zz6 := Hid.u hq_cn3; omega))⟩), (by (first | omega | (have zz0 := Hid.u hi_c36; have zz1 := Hid.u hi_cn; have zz2 := Hid.u hi_cn29; have zz3 := Hid.u hi_cn3; have zz4 := Hid.u hq_c36; have zz5 := Hid.u hq_cn29; have zz6 := Hid.u hq_cn3; omega))), (fun k h1 h2 => (hfc29.2.2 k (nin31 h1)).trans (hx36_2 k h1 h2))⟩ hP hD hS ls (lv_sub hl [0, 1, 2, 3] rfl)
    exact lp_36 _ r_2 (l0 + 1) cn3 In3 Fn3 _ _ (Nat.lt_succ_self _) ⟨(Fr.mo hf3 (sbl rfl) (sbl rfl) (sbl rfl)), hIn3, (h_3.elim Or.inl (fun q => Or.inr ⟨q.1, q.2.2.1, q.2.2.2.1, q.2.2.2.2.1, q.2.2.2.2.2, by (first | omega | (have zz0 := Hid.u hi_cn; have zz1 := Hid.u hi_cn3; have zz2 := Hid.u hq_cn3; omega))⟩)), (by (first | omega | (have zz0 := Hid.u hi_cn; have zz1 := Hid.u hi_cn3; have zz2 := Hid.u hq_cn3; omega))), (fun k h1 h2 => hfc3.2.2 k (nin31 h1))⟩ hP hD hS ls (lv_sub hl [0, 1, 2, 3] rfl)
  ·
    have tc_1 : ((nI k0).toInt : Int) = 10 := congrArg Int32.toInt c_1
    refine lv_iconst (v := 1) hx hb (oc_4 27 (aq_3 shX12_reads_24)) kic_1 ?_
    refine lv_goto (tgt := 32) hx hb (oc_167 28 (aq_4 shX12_reads_24) sgw_0_4) rfl ?_
    have hFc := free_all hD hS hA
    refine va_calli (runV_a (As := [.int 1]) (rest := []) S (q_readsClause l D cI cB cZ g (va_up (va_up (va_up (va_up cn 19 0) 20 l0) 23 0) 25 0) In Fn 1 H.size (IM.fr (In := In) hI (Fr.c 25 (Fr.c 23 (Fr.c 20 (Fr.c 19 Fr.rf)))) (by decide) (by decide)) (show 0 ≤ l0 by (first | omega | (have zz0 := Hid.u hi_cn; omega))) (show l0 ≤ 160 by (first | omega | (have zz0 := Hid.u hi_cn; omega))) (show 0 ≤ 0 by (first | omega | (have zz0 := Hid.u hi_cn; omega))) (show 0 ≤ 12 by (first | omega | (have zz0 := Hid.u hi_cn; omega))) (fun j hj => absurd (show j < 0 from hj) (Nat.not_lt_zero j))) kV_RX12_318 hK hP hD 0 rfl rfl rfl ⟨Nat.le_of_ble_eq_true rfl, Nat.le_of_ble_eq_true rfl⟩ ⟨Nat.le_of_ble_eq_true rfl, Nat.le_of_ble_eq_true rfl⟩ rfl hl.1 rfl (Nat.le_of_ble_eq_true rfl) dX12_reads_32) hS (fun q _ h => hFc q h) hFc (fun r_30 u t H1 locs ht hvm wh_31 hB hz1 hk1 hS => ?_)
    obtain ⟨cn31, In31, Fn31⟩ := u
    obtain ⟨hP1, hD1⟩ := hB
    rw [ht] at hP1
    have hP : va_P D vwCl (wM cI cB cZ g cn31 In31 Fn31) H1 := hP1
    have hD : va_D A (wM cI cB cZ g cn31 In31 Fn31) := hD1.weaken (fun _ _ _ h => hFc _ h)
    generalize H1 = H at hP hS ⊢
    have vh_31 : (fun r c2 I2 F2 => Fr [19, 23, 24, 25, 26] [21, 22] [27, 28, 29, 30, 31] (va_up (va_up (va_up (va_up cn 19 0) 20 l0) 23 0) 25 0) In Fn c2 I2 F2 ∧ IM c2 F2 ∧ (r = 0 ∨ (r = 1 ∧ 0 < c2 19 ∧ c2 19 ≤ l0 ∧ c2 23 ≤ c2 19 ∧ c2 25 ≤ 12 ∧ ALL (F2 27) (c2 23) (c2 25) (F2 29) (F2 30) (F2 31)))) r_30 cn31 In31 Fn31 := wh_31
    obtain ⟨hfc31, hIn31, h_31⟩ := vh_31
    have hf31 : Fr [18, 19, 20, 23, 24, 25, 26] [21, 22] [27, 28, 29, 30, 31, 32, 33, 34, 35, 36] cn In Fn cn31 In31 Fn31 := Fr.mo (Fr.tr (Fr.c 25 (Fr.c 23 (Fr.c 20 (Fr.c 19 (Fr.rf (cn := cn) (In := In) (Fn := Fn)))))) hfc31) (sbl rfl) (sbl rfl) (sbl rfl)
    have hi_cn31 : Hid (CB cn31) := hIn31.b
    have hq_cn31 := Hid.i (frq_18_19_20_23_24_25_26_0_1_2_46_57_58_62_63_75_83_44 hf31)
    have : cn31 20 = l0 := hfc31.1 20 (nml rfl)
    refine lv_istore_n (lv' := [(3, .int r_30), (0, .ref (g 100)), (1, .int (nI k0)), (2, .int (nI l0))]) hx hb dX12_reads_35 rfl hl (ltb rfl) rfl (fun ls hl => ?_)
    have lp_36 : ∀ (n : Nat) (x36_3 : Int32) (g36 : Nat) (c36 : Nat → Nat) (I36 : Nat → Int32) (F36 : Nat → Nat → Int32) (H : Heap) (locs : List Loc) , g36 < n → (Fr [18, 19, 20, 23, 24, 25, 26] [21, 22] [27, 28, 29, 30, 31, 32, 33, 34, 35, 36] cn In Fn c36 I36 F36 ∧ IM c36 F36 ∧ (x36_3 = 0 ∨ (x36_3 = 1 ∧ c36 19 ≤ l0 ∧ c36 23 ≤ c36 19 ∧ c36 25 ≤ 12 ∧ ALL (F36 27) (c36 23) (c36 25) (F36 29) (F36 30) (F36 31) ∧ l0 + 1 ≤ c36 19 + g36)) ∧ (c36 20 = l0) ∧ (∀ k : Nat, 32 ≤ k → k ≤ 36 → F36 k = Fn k)) → va_P D vwCl (wM cI cB cZ g c36 I36 F36) H → va_D A (wM cI cB cZ g c36 I36 F36) → va_S A s.heap H locs → ∀ ls : Array Slot, lv_has ls 6 [(3, .int x36_3), (0, .ref (g 100)), (1, .int (nI k0)), (2, .int (nI l0))] → W p l e (RM 8 0 0) s m ([.ref (g 100), .int (nI k0), .int (nI l0)]).toArray below meth c H locs 0 0 (MQ below (va_Qi (fun (r : Int32) (u : (Nat → Nat) × (Nat → Int32) × (Nat → Nat → Int32)) => (fun r c2 I2 F2 => Fr [18, 19, 20, 23, 24, 25, 26] [21, 22] [27, 28, 29, 30, 31, 32, 33, 34, 35, 36] cn In Fn c2 I2 F2 ∧ IM c2 F2 ∧ (c2 18 = 0)) r u.1 u.2.1 u.2.2) (fun (u : (Nat → Nat) × (Nat → Int32) × (Nat → Nat → Int32)) (t : State) => va_P D vwCl (wM cI cB cZ g u.1 u.2.1 u.2.2) t.heap ∧ va_D A (wM cI cB cZ g u.1 u.2.1 u.2.2)) A) ([.ref (g 100), .int (nI k0), .int (nI l0)]).toArray s 0 0 A) (F0 m 36 ls []) := by
      intro n36
      induction n36 with
      | zero => intros; (first | omega | (have zz0 := Hid.u hi_cn; have zz1 := Hid.u hi_cn31; have zz2 := Hid.u hq_cn31; omega))
      | succ n36 ih36 =>
        intro x36_3 g36 c36 I36 F36 H locs hmu36 hinv36 hP hD hS ls hl
        obtain ⟨hfr36, hI36, hx36_0, hx36_1, hx36_2⟩ := hinv36
        have hi_c36 : Hid (CB c36) := hI36.b
        have hq_c36 := Hid.i (frq_18_19_20_23_24_25_26_0_1_2_46_57_58_62_63_75_83_44 hfr36)
        refine lv_iload_n hx hb dX12_reads_36 rfl (lvA0 hl) ?_
        refine lv_if_eq (tgt := 87) hx hb dX12_reads_37 rfl (fun c_32 => ?_) (fun c_32 => ?_)
        ·
          have tc_32 : (x36_3.toInt : Int) = 0 := congrArg Int32.toInt c_32
          refine lv_aload_n hx hb dX12_reads_87 rfl (lvA1 hl) ?_
          refine lv_iconst (v := 0) hx hb dX12_reads_88 kic_0 ?_
          refine pM_226 S hK hP hD hS (a := 0) (cn2 := (va_up c36 18 0)) rfl rfl dX12_reads_89 (fun H locs hP hD hS => ?_)
          refine lv_iload_n hx hb dX12_reads_92 rfl (lvA0 hl) ?_
          refine lv_if_ne (tgt := 101) hx hb dX12_reads_93 rfl (fun c_33 => False.elim (by have tc_33 : (x36_3.toInt : Int) ≠ 0 := fun q => c_33 (Int32.toInt_inj.mp q); (first | omega | (have zz0 := Hid.u hi_c36; have zz1 := Hid.u hi_cn; have zz2 := Hid.u hi_cn31; have zz3 := Hid.u hq_c36; have zz4 := Hid.u hq_cn31; omega)))) (fun c_33 => ?_)
          have tc_33 : (x36_3.toInt : Int) = 0 := congrArg Int32.toInt c_33
          refine lv_aload_n hx hb dX12_reads_96 rfl (lvA1 hl) ?_
          refine gM_243 S hK hP (v := .int (I36 21)) rfl dX12_reads_97 ?_
          exact W.iret (v := (I36 21)) hx hb hr (fun t ht hW => ⟨⟨(I36 21), ((va_up c36 18 0), I36, F36), rfl, ⟨(Fr.mo (Fr.c 18 hfr36) (sbl rfl) (sbl rfl) (sbl rfl)), (IM.fr (In := I36) hI36 (Fr.c 18 Fr.rf) (by decide) (by decide)), (by show (va_up c36 18 0) 18 = 0; show 0 = 0; (first | omega | (have zz0 := Hid.u hi_c36; have zz1 := Hid.u hi_cn; have zz2 := Hid.u hi_cn31; have zz3 := Hid.u hq_c36; have zz4 := Hid.u hq_cn31; omega)))⟩, by rw [ht]; exact hP, hD⟩, hS.F ht⟩) hS.2.2 dX12_reads_100
        ·
          have tc_32 : (x36_3.toInt : Int) ≠ 0 := fun q => c_32 (Int32.toInt_inj.mp q)
          obtain ⟨hr1, hr2, hr3, hr4, hr5, hr6⟩ := hx36_0.resolve_left (by assumption)
          refine lv_aload_n hx hb dX12_reads_40 rfl (lvA1 hl) ?_
          refine gM_233 S hK hP (v := .int (nI (c36 19))) rfl dX12_reads_41 ?_
          refine lv_aload_n hx hb dX12_reads_44 rfl (lvA1 hl) ?_
          refine gM_236 S hK hP (v := .int (nI (c36 20))) rfl dX12_reads_45 ?_
          have : (nI (c36 19)).toInt = (((c36 19) : Nat) : Int) := nI_toInt (by (first | omega | (have zz0 := Hid.u hi_c36; have zz1 := Hid.u hi_cn; have zz2 := Hid.u hi_cn31; have zz3 := Hid.u hq_c36; have zz4 := Hid.u hq_cn31; omega)))
          have : (nI (c36 20)).toInt = (((c36 20) : Nat) : Int) := nI_toInt (by (first | omega | (have zz0 := Hid.u hi_c36; have zz1 := Hid.u hi_cn; have zz2 := Hid.u hi_cn31; have zz3 := Hid.u hq_c36; have zz4 := Hid.u hq_cn31; omega)))
          refine lv_icmp_ge (tgt := 87) hx hb dX12_reads_48 rfl (fun c_34 => ?_) (fun c_34 => ?_)
          ·
            have tc_34 : ((nI (c36 20)).toInt : Int) ≤ (nI (c36 19)).toInt := Int32.le_iff_toInt_le.mp c_34
            refine lv_aload_n hx hb dX12_reads_87 rfl (lvA1 hl) ?_
            refine lv_iconst (v := 0) hx hb dX12_reads_88 kic_0 ?_
            refine pM_226 S hK hP hD hS (a := 0) (cn2 := (va_up c36 18 0)) rfl rfl dX12_reads_89 (fun H locs hP hD hS => ?_)
            refine lv_iload_n hx hb dX12_reads_92 rfl (lvA0 hl) ?_
            refine lv_if_ne (tgt := 101) hx hb dX12_reads_93 rfl (fun c_35 => ?_) (fun c_35 => ?_)
            ·
              have tc_35 : (x36_3.toInt : Int) ≠ 0 := fun q => c_35 (Int32.toInt_inj.mp q)
              have g32_ : F36 32 = Fn 32 := hx36_2 32 (by decide) (by decide)
              have g33_ : F36 33 = Fn 33 := hx36_2 33 (by decide) (by decide)
              have g34_ : F36 34 = Fn 34 := hx36_2 34 (by decide) (by decide)
              have g35_ : F36 35 = Fn 35 := hx36_2 35 (by decide) (by decide)
              have g36_ : F36 36 = Fn 36 := hx36_2 36 (by decide) (by decide)
              refine lv_aload_n hx hb dX12_reads_101 rfl (lvA1 hl) ?_
              refine gM_74 S hK hP (v := .ref (g 33)) rfl dX12_reads_102 ?_
              refine lv_iload_n hx hb dX12_reads_105 rfl (lvA2 hl) ?_
              refine lv_aload_n hx hb dX12_reads_106 rfl (lvA1 hl) ?_
              refine gM_312 S hK hP (v := .int (nI (c36 25))) rfl dX12_reads_107 ?_
              have kb_6 : k0 < 11 := by (first | omega | (have zz0 := Hid.u hi_c36; have zz1 := Hid.u hi_cn; have zz2 := Hid.u hi_cn31; have zz3 := Hid.u hq_c36; have zz4 := Hid.u hq_cn31; omega))
              refine stM_33 hx hb hK hP hD hS (Fn2 := (va_up F36 33 (upd (F36 33) k0 (nI (c36 25))))) (vp_in_nI kb_6 (ltb rfl)) (nI_clamp (Nat.lt_trans kb_6 (ltb rfl))) rfl dX12_reads_110 (fun H locs hP hD hS => ?_)
              refine lv_iconst (v := 0) hx hb dX12_reads_111 kic_0 ?_
              refine lv_istore (lv' := [(4, .int 0), (3, .int x36_3), (0, .ref (g 100)), (1, .int (nI k0)), (2, .int (nI l0))]) hx hb dX12_reads_112 hl (ltb rfl) rfl (fun ls hl => ?_)
              have lp_114 : ∀ (n : Nat) (i114 : Nat) (F114 : Nat → Nat → Int32) (H : Heap) (locs : List Loc) , (c36 23) - i114 < n → (i114 ≤ (c36 23) ∧ Fr [18, 19, 20, 23, 24, 25, 26] [21, 22] [27, 28, 29, 30, 31, 32, 33, 34, 35, 36] cn In Fn c36 I36 F114 ∧ (∀ j : Nat, j < i114 → F114 32 (180 * k0 + j) = F36 27 j) ∧ (∀ j : Nat, j < 180 * k0 ∨ 180 * k0 + 180 ≤ j → F114 32 j = Fn 32 j) ∧ (∀ k : Nat, k ≠ 32 → F114 k = (va_up F36 33 (upd (F36 33) k0 (nI (c36 25)))) k)) → va_P D vwCl (wM cI cB cZ g (va_up c36 18 0) I36 F114) H → va_D A (wM cI cB cZ g (va_up c36 18 0) I36 F114) → va_S A s.heap H locs → ∀ ls : Array Slot, lv_has ls 6 [(4, .int (nI i114)), (3, .int x36_3), (0, .ref (g 100)), (1, .int (nI k0)), (2, .int (nI l0))] → W p l e (RM 8 0 0) s m ([.ref (g 100), .int (nI k0), .int (nI l0)]).toArray below meth c H locs 0 0 (MQ below (va_Qi (fun (r : Int32) (u : (Nat → Nat) × (Nat → Int32) × (Nat → Nat → Int32)) => (fun r c2 I2 F2 => Fr [18, 19, 20, 23, 24, 25, 26] [21, 22] [27, 28, 29, 30, 31, 32, 33, 34, 35, 36] cn In Fn c2 I2 F2 ∧ IM c2 F2 ∧ (c2 18 = 0)) r u.1 u.2.1 u.2.2) (fun (u : (Nat → Nat) × (Nat → Int32) × (Nat → Nat → Int32)) (t : State) => va_P D vwCl (wM cI cB cZ g u.1 u.2.1 u.2.2) t.heap ∧ va_D A (wM cI cB cZ g u.1 u.2.1 u.2.2)) A) ([.ref (g 100), .int (nI k0), .int (nI l0)]).toArray s 0 0 A) (F0 m 114 ls []) := by
                intro n114
                induction n114 with
                | zero => intros; (first | omega | (have zz0 := Hid.u hi_c36; have zz1 := Hid.u hi_cn; have zz2 := Hid.u hi_cn31; have zz3 := Hid.u hq_c36; have zz4 := Hid.u hq_cn31; omega))
                | succ n114 ih114 =>
                  intro i114 F114 H locs hmu114 hinv114 hP hD hS ls hl
                  obtain ⟨hr114, hfr114, hx114_0, hx114_1, hx114_2⟩ := hinv114
                  have ti114 : (nI i114).toInt = (i114 : Int) := nI_toInt (by (first | omega | (have zz0 := Hid.u hi_c36; have zz1 := Hid.u hi_cn; have zz2 := Hid.u hi_cn31; have zz3 := Hid.u hq_c36; have zz4 := Hid.u hq_cn31; omega)))
                  have hq_c36 := Hid.i (frq_18_19_20_23_24_25_26_0_1_2_46_57_58_62_63_75_83_44 hfr114)
                  refine lv_iload hx hb dX12_reads_114 (lvA0 hl) ?_
                  refine lv_aload_n hx hb dX12_reads_116 rfl (lvA2 hl) ?_
                  refine gM_257 S hK hP (v := .int (nI (c36 23))) rfl dX12_reads_117 ?_
                  have : (nI (c36 23)).toInt = (((c36 23) : Nat) : Int) := nI_toInt (by (first | omega | (have zz0 := Hid.u hi_c36; have zz1 := Hid.u hi_cn; have zz2 := Hid.u hi_cn31; have zz3 := Hid.u hq_c36; have zz4 := Hid.u hq_cn31; omega)))
                  refine lv_icmp_ge (tgt := 149) hx hb dX12_reads_120 rfl (fun c_36 => ?_) (fun c_36 => ?_)
                  ·
                    have tc_36 : ((nI (c36 23)).toInt : Int) ≤ (nI i114).toInt := Int32.le_iff_toInt_le.mp c_36
                    refine lv_iconst (v := 0) hx hb dX12_reads_149 kic_0 ?_
                    refine lv_istore (lv' := [(4, .int 0), (3, .int x36_3), (0, .ref (g 100)), (1, .int (nI k0)), (2, .int (nI l0))]) hx hb dX12_reads_150 hl (ltb rfl) rfl (fun ls hl => ?_)
                    have lp_152 : ∀ (n : Nat) (i152 : Nat) (F152 : Nat → Nat → Int32) (H : Heap) (locs : List Loc) , (c36 25) - i152 < n → (i152 ≤ (c36 25) ∧ Fr [18, 19, 20, 23, 24, 25, 26] [21, 22] [27, 28, 29, 30, 31, 32, 33, 34, 35, 36] cn In Fn c36 I36 F152 ∧ (∀ q : Nat, q < i152 → ClOK (F152 32) (180 * k0) (F152 34 (12 * k0 + q)) (F152 35 (12 * k0 + q)) (F152 36 (12 * k0 + q))) ∧ (∀ j : Nat, j < 12 * k0 ∨ 12 * k0 + 12 ≤ j → F152 34 j = Fn 34 j ∧ F152 35 j = Fn 35 j ∧ F152 36 j = Fn 36 j) ∧ (∀ k : Nat, k ≠ 34 ∧ k ≠ 35 ∧ k ≠ 36 → F152 k = F114 k)) → va_P D vwCl (wM cI cB cZ g (va_up c36 18 0) I36 F152) H → va_D A (wM cI cB cZ g (va_up c36 18 0) I36 F152) → va_S A s.heap H locs → ∀ ls : Array Slot, lv_has ls 6 [(4, .int (nI i152)), (3, .int x36_3), (0, .ref (g 100)), (1, .int (nI k0)), (2, .int (nI l0))] → W p l e (RM 8 0 0) s m ([.ref (g 100), .int (nI k0), .int (nI l0)]).toArray below meth c H locs 0 0 (MQ below (va_Qi (fun (r : Int32) (u : (Nat → Nat) × (Nat → Int32) × (Nat → Nat → Int32)) => (fun r c2 I2 F2 => Fr [18, 19, 20, 23, 24, 25, 26] [21, 22] [27, 28, 29, 30, 31, 32, 33, 34, 35, 36] cn In Fn c2 I2 F2 ∧ IM c2 F2 ∧ (c2 18 = 0)) r u.1 u.2.1 u.2.2) (fun (u : (Nat → Nat) × (Nat → Int32) × (Nat → Nat → Int32)) (t : State) => va_P D vwCl (wM cI cB cZ g u.1 u.2.1 u.2.2) t.heap ∧ va_D A (wM cI cB cZ g u.1 u.2.1 u.2.2)) A) ([.ref (g 100), .int (nI k0), .int (nI l0)]).toArray s 0 0 A) (F0 m 152 ls []) := by
                      intro n152
                      induction n152 with
                      | zero => intros; (first | omega | (have zz0 := Hid.u hi_c36; have zz1 := Hid.u hi_cn; have zz2 := Hid.u hi_cn31; have zz3 := Hid.u hq_c36; have zz4 := Hid.u hq_cn31; omega))
                      | succ n152 ih152 =>
                        intro i152 F152 H locs hmu152 hinv152 hP hD hS ls hl
                        obtain ⟨hr152, hfr152, hx152_0, hx152_1, hx152_2⟩ := hinv152
                        have ti152 : (nI i152).toInt = (i152 : Int) := nI_toInt (by (first | omega | (have zz0 := Hid.u hi_c36; have zz1 := Hid.u hi_cn; have zz2 := Hid.u hi_cn31; have zz3 := Hid.u hq_c36; have zz4 := Hid.u hq_cn31; omega)))
                        have hq_c36 := Hid.i (frq_18_19_20_23_24_25_26_0_1_2_46_57_58_62_63_75_83_44 hfr152)
                        refine lv_iload hx hb dX12_reads_152 (lvA0 hl) ?_
                        refine lv_aload_n hx hb dX12_reads_154 rfl (lvA2 hl) ?_
                        refine gM_312 S hK hP (v := .int (nI (c36 25))) rfl dX12_reads_155 ?_
                        have : (nI (c36 25)).toInt = (((c36 25) : Nat) : Int) := nI_toInt (by (first | omega | (have zz0 := Hid.u hi_c36; have zz1 := Hid.u hi_cn; have zz2 := Hid.u hi_cn31; have zz3 := Hid.u hq_c36; have zz4 := Hid.u hq_cn31; omega)))
                        refine lv_icmp_ge (tgt := 236) hx hb dX12_reads_158 rfl (fun c_37 => ?_) (fun c_37 => ?_)
                        ·
                          have tc_37 : ((nI (c36 25)).toInt : Int) ≤ (nI i152).toInt := Int32.le_iff_toInt_le.mp c_37
                          refine lv_aload_n hx hb dX12_reads_236 rfl (lvA2 hl) ?_
                          refine gM_312 S hK hP (v := .int (nI (c36 25))) rfl dX12_reads_237 ?_
                          exact W.iret (v := (nI (c36 25))) hx hb hr (fun t ht hW => ⟨⟨(nI (c36 25)), ((va_up c36 18 0), I36, F152), rfl, ⟨(Fr.mo (Fr.c 18 hfr152) (sbl rfl) (sbl rfl) (sbl rfl)), (IM.rd (t := k0) (sm := c36 25) hI (fun k hk => (Fr.c 18 hfr36).1 k (by revert k; decide)) (fun k hk => hfr152.2.2 k (by revert k; decide)) (by (first | omega | (have zz0 := Hid.u hi_c36; have zz1 := Hid.u hi_cn; have zz2 := Hid.u hi_cn31; have zz3 := Hid.u hq_c36; have zz4 := Hid.u hq_cn31; omega))) ((hx152_2 33 (by decide)).trans ((hx114_2 33 (by decide)).trans (by show upd (F36 33) k0 (nI (c36 25)) = _; rw [g33_]))) (fun j hj => (congrFun (hx152_2 32 (by decide)) j).trans (hx114_1 j hj)) hx152_1 (fun q hq => hx152_0 q (by (first | omega | (have zz0 := Hid.u hi_c36; have zz1 := Hid.u hi_cn; have zz2 := Hid.u hi_cn31; have zz3 := Hid.u hq_c36; have zz4 := Hid.u hq_cn31; omega))))), (by show (va_up c36 18 0) 18 = 0; have t9 : (nI (c36 25)).toInt = (((c36 25) : Nat) : Int) := nI_toInt (by (first | omega | (have zz0 := Hid.u hi_c36; have zz1 := Hid.u hi_cn; have zz2 := Hid.u hi_cn31; have zz3 := Hid.u hq_c36; have zz4 := Hid.u hq_cn31; omega))); show 0 = 0; (first | omega | (have zz0 := Hid.u hi_c36; have zz1 := Hid.u hi_cn; have zz2 := Hid.u hi_cn31; have zz3 := Hid.u hq_c36; have zz4 := Hid.u hq_cn31; omega)))⟩, by rw [ht]; exact hP, hD⟩, hS.F ht⟩) hS.2.2 dX12_reads_240
                        ·
                          have tc_37 : ((nI i152).toInt : Int) < (nI (c36 25)).toInt := Int32.lt_iff_toInt_lt.mp (Int32.not_le.mp c_37)
                          obtain ⟨a9, g9, b9, ea9, eg9, eb9, k1, k2, k3, s1, s2⟩ := hr5 i152 (by (first | omega | (have zz0 := Hid.u hi_c36; have zz1 := Hid.u hi_cn; have zz2 := Hid.u hi_cn31; have zz3 := Hid.u hq_c36; have zz4 := Hid.u hq_cn31; omega)))
                          refine lv_bipush (v := 12) hx hb dX12_reads_161 kbc_12 ?_
                          refine lv_iload_n hx hb dX12_reads_163 rfl (lvA3 hl) ?_
                          refine lv_imul hx hb dX12_reads_164 ?_
                          refine lv_topi (fun y_38 ey_38 => ?_)
                          obtain rfl : y_38 = (nI (12 * k0)) := ey_38.trans (pk_mul 12 k0)
                          refine lv_iload hx hb dX12_reads_165 (lvA0 hl) ?_
                          refine lv_iadd hx hb dX12_reads_167 ?_
                          refine lv_topi (fun y_39 ey_39 => ?_)
                          obtain rfl : y_39 = (nI ((12 * k0) + i152)) := ey_39.trans (nI_add (12 * k0) i152)
                          refine lv_istore (lv' := [(5, .int (nI ((12 * k0) + i152))), (4, .int (nI i152)), (3, .int x36_3), (0, .ref (g 100)), (1, .int (nI k0)), (2, .int (nI l0))]) hx hb dX12_reads_168 hl (ltb rfl) rfl (fun ls hl => ?_)
                          refine lv_aload_n hx hb dX12_reads_170 rfl (lvA3 hl) ?_
                          refine gM_77 S hK hP (v := .ref (g 34)) rfl dX12_reads_171 ?_
                          refine lv_iload hx hb dX12_reads_174 (lvA0 hl) ?_
                          refine lv_sipush (v := 180) hx hb dX12_reads_176 (by decide) ?_
                          refine lv_iload_n hx hb dX12_reads_179 rfl (lvA4 hl) ?_
                          refine lv_imul hx hb dX12_reads_180 ?_
                          refine lv_topi (fun y_40 ey_40 => ?_)
                          obtain rfl : y_40 = (nI (180 * k0)) := ey_40.trans (pk_mul 180 k0)
                          refine lv_aload_n hx hb dX12_reads_181 rfl (lvA3 hl) ?_
                          refine gM_62 S hK hP (v := .ref (g 29)) rfl dX12_reads_182 ?_
                          refine lv_iload hx hb dX12_reads_185 (lvA1 hl) ?_
                          have kb_7 : i152 < 12 := by (first | omega | (have zz0 := Hid.u hi_c36; have zz1 := Hid.u hi_cn; have zz2 := Hid.u hi_cn31; have zz3 := Hid.u hq_c36; have zz4 := Hid.u hq_cn31; omega))
                          refine ldM_29 hx hb hK hP (x := ((F152 29) i152)) (vp_in_nI kb_7 (ltb rfl)) (nI_clamp (Nat.lt_trans kb_7 (ltb rfl))) rfl dX12_reads_187 ?_
                          refine lv_topi (fun y_41 ey_41 => ?_)
                          obtain rfl : y_41 = (nI a9) := ey_41.trans ((congrFun ((hx152_2 29 (by decide)).trans (hx114_2 29 (by decide))) i152).trans ea9)
                          refine lv_iadd hx hb dX12_reads_188 ?_
                          refine lv_topi (fun y_42 ey_42 => ?_)
                          obtain rfl : y_42 = (nI ((180 * k0) + a9)) := ey_42.trans (nI_add (180 * k0) a9)
                          have kb_8 : ((12 * k0) + i152) < 132 := by (first | omega | (have zz0 := Hid.u hi_c36; have zz1 := Hid.u hi_cn; have zz2 := Hid.u hi_cn31; have zz3 := Hid.u hq_c36; have zz4 := Hid.u hq_cn31; omega))
                          refine stM_34 hx hb hK hP hD hS (Fn2 := (va_up F152 34 (upd (F152 34) ((12 * k0) + i152) (nI ((180 * k0) + a9))))) (vp_in_nI kb_8 (ltb rfl)) (nI_clamp (Nat.lt_trans kb_8 (ltb rfl))) rfl dX12_reads_189 (fun H locs hP hD hS => ?_)
                          refine lv_aload_n hx hb dX12_reads_190 rfl (lvA3 hl) ?_
                          refine gM_80 S hK hP (v := .ref (g 35)) rfl dX12_reads_191 ?_
                          refine lv_iload hx hb dX12_reads_194 (lvA0 hl) ?_
                          refine lv_sipush (v := 180) hx hb dX12_reads_196 (by decide) ?_
                          refine lv_iload_n hx hb dX12_reads_199 rfl (lvA4 hl) ?_
                          refine lv_imul hx hb dX12_reads_200 ?_
                          refine lv_topi (fun y_43 ey_43 => ?_)
                          obtain rfl : y_43 = (nI (180 * k0)) := ey_43.trans (pk_mul 180 k0)
                          refine lv_aload_n hx hb dX12_reads_201 rfl (lvA3 hl) ?_
                          refine gM_65 S hK hP (v := .ref (g 30)) rfl dX12_reads_202 ?_
                          refine lv_iload hx hb dX12_reads_205 (lvA1 hl) ?_
                          refine ldM_30 hx hb hK hP (x := ((F152 30) i152)) (vp_in_nI kb_7 (ltb rfl)) (nI_clamp (Nat.lt_trans kb_7 (ltb rfl))) rfl dX12_reads_207 ?_
                          refine lv_topi (fun y_44 ey_44 => ?_)
                          obtain rfl : y_44 = (nI g9) := ey_44.trans ((congrFun ((hx152_2 30 (by decide)).trans (hx114_2 30 (by decide))) i152).trans eg9)
                          refine lv_iadd hx hb dX12_reads_208 ?_
                          refine lv_topi (fun y_45 ey_45 => ?_)
                          obtain rfl : y_45 = (nI ((180 * k0) + g9)) := ey_45.trans (nI_add (180 * k0) g9)
                          refine stM_35 hx hb hK hP hD hS (Fn2 := (va_up (va_up F152 34 (upd (F152 34) ((12 * k0) + i152) (nI ((180 * k0) + a9)))) 35 (upd (F152 35) ((12 * k0) + i152) (nI ((180 * k0) + g9))))) (vp_in_nI kb_8 (ltb rfl)) (nI_clamp (Nat.lt_trans kb_8 (ltb rfl))) rfl dX12_reads_209 (fun H locs hP hD hS => ?_)
                          refine lv_aload_n hx hb dX12_reads_210 rfl (lvA3 hl) ?_
                          refine gM_83 S hK hP (v := .ref (g 36)) rfl dX12_reads_211 ?_
                          refine lv_iload hx hb dX12_reads_214 (lvA0 hl) ?_
                          refine lv_sipush (v := 180) hx hb dX12_reads_216 (by decide) ?_
                          refine lv_iload_n hx hb dX12_reads_219 rfl (lvA4 hl) ?_
                          refine lv_imul hx hb dX12_reads_220 ?_
                          refine lv_topi (fun y_46 ey_46 => ?_)
                          obtain rfl : y_46 = (nI (180 * k0)) := ey_46.trans (pk_mul 180 k0)
                          refine lv_aload_n hx hb dX12_reads_221 rfl (lvA3 hl) ?_
                          refine gM_68 S hK hP (v := .ref (g 31)) rfl dX12_reads_222 ?_
                          refine lv_iload hx hb dX12_reads_225 (lvA1 hl) ?_
                          refine ldM_31 hx hb hK hP (x := ((F152 31) i152)) (vp_in_nI kb_7 (ltb rfl)) (nI_clamp (Nat.lt_trans kb_7 (ltb rfl))) rfl dX12_reads_227 ?_
                          refine lv_topi (fun y_47 ey_47 => ?_)
                          obtain rfl : y_47 = (nI b9) := ey_47.trans ((congrFun ((hx152_2 31 (by decide)).trans (hx114_2 31 (by decide))) i152).trans eb9)
                          refine lv_iadd hx hb dX12_reads_228 ?_
                          refine lv_topi (fun y_48 ey_48 => ?_)
                          obtain rfl : y_48 = (nI ((180 * k0) + b9)) := ey_48.trans (nI_add (180 * k0) b9)
                          refine stM_36 hx hb hK hP hD hS (Fn2 := (va_up (va_up (va_up F152 34 (upd (F152 34) ((12 * k0) + i152) (nI ((180 * k0) + a9)))) 35 (upd (F152 35) ((12 * k0) + i152) (nI ((180 * k0) + g9)))) 36 (upd (F152 36) ((12 * k0) + i152) (nI ((180 * k0) + b9))))) (vp_in_nI kb_8 (ltb rfl)) (nI_clamp (Nat.lt_trans kb_8 (ltb rfl))) rfl dX12_reads_229 (fun H locs hP hD hS => ?_)
                          refine lv_iinc (v := (nI (i152 + 1))) (lv' := [(4, .int (nI (i152 + 1))), (5, .int (nI ((12 * k0) + i152))), (3, .int x36_3), (0, .ref (g 100)), (1, .int (nI k0)), (2, .int (nI l0))]) hx hb dX12_reads_230 hl (k := 1) rfl (nI_1 _) (ltb rfl) rfl (fun ls hl => ?_)
                          refine lv_goto (tgt := 152) hx hb dX12_reads_233 rfl ?_
                          exact ih152 (i152 + 1) (va_up (va_up (va_up F152 34 (upd (F152 34) ((12 * k0) + i152) (nI ((180 * k0) + a9)))) 35 (upd (F152 35) ((12 * k0) + i152) (nI ((180 * k0) + g9)))) 36 (upd (F152 36) ((12 * k0) + i152) (nI ((180 * k0) + b9)))) _ _ (by (first | omega | (have zz0 := Hid.u hi_c36; have zz1 := Hid.u hi_cn; have zz2 := Hid.u hi_cn31; have zz3 := Hid.u hq_c36; have zz4 := Hid.u hq_cn31; omega))) ⟨(by (first | omega | (have zz0 := Hid.u hi_c36; have zz1 := Hid.u hi_cn; have zz2 := Hid.u hi_cn31; have zz3 := Hid.u hq_c36; have zz4 := Hid.u hq_cn31; omega))), (Fr.mo (Fr.f 36 (Fr.f 35 (Fr.f 34 hfr152))) (sbl rfl) (sbl rfl) (sbl rfl)), (by have q := new_cl hx152_0 (C := F36 27) (cm := c36 23) (fun k hk => (congrFun (hx152_2 32 (by decide)) _).trans (hx114_0 k (by (first | omega | (have zz0 := Hid.u hi_c36; have zz1 := Hid.u hi_cn; have zz2 := Hid.u hi_cn31; have zz3 := Hid.u hq_c36; have zz4 := Hid.u hq_cn31; omega))))) (by (first | omega | (have zz0 := Hid.u hi_c36; have zz1 := Hid.u hi_cn; have zz2 := Hid.u hi_cn31; have zz3 := Hid.u hq_c36; have zz4 := Hid.u hq_cn31; omega))) k1 k2 k3 s1 s2; exact q), (fun j hj => ⟨(upd_nq (by (first | omega | (have zz0 := Hid.u hi_c36; have zz1 := Hid.u hi_cn; have zz2 := Hid.u hi_cn31; have zz3 := Hid.u hq_c36; have zz4 := Hid.u hq_cn31; omega)))).trans (hx152_1 j hj).1, (upd_nq (by (first | omega | (have zz0 := Hid.u hi_c36; have zz1 := Hid.u hi_cn; have zz2 := Hid.u hi_cn31; have zz3 := Hid.u hq_c36; have zz4 := Hid.u hq_cn31; omega)))).trans (hx152_1 j hj).2.1, (upd_nq (by (first | omega | (have zz0 := Hid.u hi_c36; have zz1 := Hid.u hi_cn; have zz2 := Hid.u hi_cn31; have zz3 := Hid.u hq_c36; have zz4 := Hid.u hq_cn31; omega)))).trans (hx152_1 j hj).2.2⟩), (fun k hk => (va_up_ne _ _ hk.2.2).trans ((va_up_ne _ _ hk.2.1).trans ((va_up_ne _ _ hk.1).trans (hx152_2 k hk))))⟩ hP hD hS ls (lv_sub hl [0, 2, 3, 4, 5] rfl)
                    exact lp_152 _ 0 F114 _ _ (Nat.lt_succ_self _) ⟨(by (first | omega | (have zz0 := Hid.u hi_c36; have zz1 := Hid.u hi_cn; have zz2 := Hid.u hi_cn31; have zz3 := Hid.u hq_c36; have zz4 := Hid.u hq_cn31; omega))), (Fr.mo hfr114 (sbl rfl) (sbl rfl) (sbl rfl)), (fun q hq => absurd hq (Nat.not_lt_zero q)), (fun j hj => ⟨(congrFun (hx114_2 34 (by decide)) j).trans (congrFun g34_ j), (congrFun (hx114_2 35 (by decide)) j).trans (congrFun g35_ j), (congrFun (hx114_2 36 (by decide)) j).trans (congrFun g36_ j)⟩), (fun k _ => rfl)⟩ hP hD hS ls (lv_sub hl [0, 1, 2, 3, 4] rfl)
                  ·
                    have tc_36 : ((nI i114).toInt : Int) < (nI (c36 23)).toInt := Int32.lt_iff_toInt_lt.mp (Int32.not_le.mp c_36)
                    refine lv_aload_n hx hb dX12_reads_123 rfl (lvA2 hl) ?_
                    refine gM_71 S hK hP (v := .ref (g 32)) rfl dX12_reads_124 ?_
                    refine lv_sipush (v := 180) hx hb dX12_reads_127 (by decide) ?_
                    refine lv_iload_n hx hb dX12_reads_130 rfl (lvA3 hl) ?_
                    refine lv_imul hx hb dX12_reads_131 ?_
                    refine lv_topi (fun y_49 ey_49 => ?_)
                    obtain rfl : y_49 = (nI (180 * k0)) := ey_49.trans (pk_mul 180 k0)
                    refine lv_iload hx hb dX12_reads_132 (lvA0 hl) ?_
                    refine lv_iadd hx hb dX12_reads_134 ?_
                    refine lv_topi (fun y_50 ey_50 => ?_)
                    obtain rfl : y_50 = (nI ((180 * k0) + i114)) := ey_50.trans (nI_add (180 * k0) i114)
                    refine lv_aload_n hx hb dX12_reads_135 rfl (lvA2 hl) ?_
                    refine gM_56 S hK hP (v := .ref (g 27)) rfl dX12_reads_136 ?_
                    refine lv_iload hx hb dX12_reads_139 (lvA0 hl) ?_
                    have kb_9 : i114 < 180 := by (first | omega | (have zz0 := Hid.u hi_c36; have zz1 := Hid.u hi_cn; have zz2 := Hid.u hi_cn31; have zz3 := Hid.u hq_c36; have zz4 := Hid.u hq_cn31; omega))
                    refine ldM_27 hx hb hK hP (x := ((F114 27) i114)) (vp_in_nI kb_9 (ltb rfl)) (nI_clamp (Nat.lt_trans kb_9 (ltb rfl))) rfl dX12_reads_141 ?_
                    have kb_10 : ((180 * k0) + i114) < 1980 := by (first | omega | (have zz0 := Hid.u hi_c36; have zz1 := Hid.u hi_cn; have zz2 := Hid.u hi_cn31; have zz3 := Hid.u hq_c36; have zz4 := Hid.u hq_cn31; omega))
                    refine stM_32 hx hb hK hP hD hS (Fn2 := (va_up F114 32 (upd (F114 32) ((180 * k0) + i114) ((F114 27) i114)))) (vp_in_nI kb_10 (ltb rfl)) (nI_clamp (Nat.lt_trans kb_10 (ltb rfl))) rfl dX12_reads_142 (fun H locs hP hD hS => ?_)
                    refine lv_iinc (v := (nI (i114 + 1))) (lv' := [(4, .int (nI (i114 + 1))), (3, .int x36_3), (0, .ref (g 100)), (1, .int (nI k0)), (2, .int (nI l0))]) hx hb dX12_reads_143 hl (k := 0) rfl (nI_1 _) (ltb rfl) rfl (fun ls hl => ?_)
                    refine lv_goto (tgt := 114) hx hb dX12_reads_146 rfl ?_
                    exact ih114 (i114 + 1) (va_up F114 32 (upd (F114 32) ((180 * k0) + i114) ((F114 27) i114))) _ _ (by (first | omega | (have zz0 := Hid.u hi_c36; have zz1 := Hid.u hi_cn; have zz2 := Hid.u hi_cn31; have zz3 := Hid.u hq_c36; have zz4 := Hid.u hq_cn31; omega))) ⟨(by (first | omega | (have zz0 := Hid.u hi_c36; have zz1 := Hid.u hi_cn; have zz2 := Hid.u hi_cn31; have zz3 := Hid.u hq_c36; have zz4 := Hid.u hq_cn31; omega))), (Fr.mo (Fr.f 32 hfr114) (sbl rfl) (sbl rfl) (sbl rfl)), (fun j hj => if e : j = i114 then by subst e; exact (upd_self _ _ _).trans (congrFun (hx114_2 27 (by decide)) j) else (upd_nq (by (first | omega | (have zz0 := Hid.u hi_c36; have zz1 := Hid.u hi_cn; have zz2 := Hid.u hi_cn31; have zz3 := Hid.u hq_c36; have zz4 := Hid.u hq_cn31; omega)))).trans (hx114_0 j (by (first | omega | (have zz0 := Hid.u hi_c36; have zz1 := Hid.u hi_cn; have zz2 := Hid.u hi_cn31; have zz3 := Hid.u hq_c36; have zz4 := Hid.u hq_cn31; omega))))), (fun j hj => (upd_nq (by (first | omega | (have zz0 := Hid.u hi_c36; have zz1 := Hid.u hi_cn; have zz2 := Hid.u hi_cn31; have zz3 := Hid.u hq_c36; have zz4 := Hid.u hq_cn31; omega)))).trans (hx114_1 j hj)), (fun k hk => (va_up_ne _ _ hk).trans (hx114_2 k hk))⟩ hP hD hS ls (lv_sub hl [0, 1, 2, 3, 4] rfl)
              exact lp_114 _ 0 (va_up F36 33 (upd (F36 33) k0 (nI (c36 25)))) _ _ (Nat.lt_succ_self _) ⟨(by (first | omega | (have zz0 := Hid.u hi_c36; have zz1 := Hid.u hi_cn; have zz2 := Hid.u hi_cn31; have zz3 := Hid.u hq_c36; have zz4 := Hid.u hq_cn31; omega))), (Fr.mo (Fr.f 33 hfr36) (sbl rfl) (sbl rfl) (sbl rfl)), (fun j hj => absurd hj (Nat.not_lt_zero j)), (fun j _ => congrFun g32_ j), (fun k _ => rfl)⟩ hP hD hS ls (lv_sub hl [0, 1, 2, 3, 4] rfl)
            ·
              have tc_35 : (x36_3.toInt : Int) = 0 := congrArg Int32.toInt c_35
              refine lv_aload_n hx hb dX12_reads_96 rfl (lvA1 hl) ?_
              refine gM_243 S hK hP (v := .int (I36 21)) rfl dX12_reads_97 ?_
              exact W.iret (v := (I36 21)) hx hb hr (fun t ht hW => ⟨⟨(I36 21), ((va_up c36 18 0), I36, F36), rfl, ⟨(Fr.mo (Fr.c 18 hfr36) (sbl rfl) (sbl rfl) (sbl rfl)), (IM.fr (In := I36) hI36 (Fr.c 18 Fr.rf) (by decide) (by decide)), (by show (va_up c36 18 0) 18 = 0; show 0 = 0; (first | omega | (have zz0 := Hid.u hi_c36; have zz1 := Hid.u hi_cn; have zz2 := Hid.u hi_cn31; have zz3 := Hid.u hq_c36; have zz4 := Hid.u hq_cn31; omega)))⟩, by rw [ht]; exact hP, hD⟩, hS.F ht⟩) hS.2.2 dX12_reads_100
          ·
            have tc_34 : ((nI (c36 19)).toInt : Int) < (nI (c36 20)).toInt := Int32.lt_iff_toInt_lt.mp (Int32.not_le.mp c_34)
            refine lv_aload_n hx hb dX12_reads_51 rfl (lvA1 hl) ?_
            refine lv_bipush (v := 59) hx hb dX12_reads_52 kbc_59 ?_
            have hFc := free_all hD hS hA
            refine va_calli (runV_a (As := [.int 59]) (rest := []) S (q_takes l D cI cB cZ g c36 I36 F36 59 H.size hI36 (by (first | omega | (have zz0 := Hid.u hi_c36; have zz1 := Hid.u hi_cn; have zz2 := Hid.u hi_cn31; have zz3 := Hid.u hq_c36; have zz4 := Hid.u hq_cn31; omega))) (by (first | omega | (have zz0 := Hid.u hi_c36; have zz1 := Hid.u hi_cn; have zz2 := Hid.u hi_cn31; have zz3 := Hid.u hq_c36; have zz4 := Hid.u hq_cn31; omega))) (by decide)) kV_RX12_322 hK hP hD 0 rfl rfl rfl ⟨Nat.le_of_ble_eq_true rfl, Nat.le_of_ble_eq_true rfl⟩ ⟨Nat.le_of_ble_eq_true rfl, Nat.le_of_ble_eq_true rfl⟩ rfl hl.1 rfl (Nat.le_of_ble_eq_true rfl) dX12_reads_54) hS (fun q _ h => hFc q h) hFc (fun r_51 u t H1 locs ht hvm wh_52 hB hz1 hk1 hS => ?_)
            obtain ⟨cn52, In52, Fn52⟩ := u
            obtain ⟨hP1, hD1⟩ := hB
            rw [ht] at hP1
            have vh_52 : (fun r c2 I2 F2 => (∀ k : Nat, k ∉ [21] → I2 k = I36 k) ∧ ((r = 0 ∧ (True) ∧ c36 = c2 ∧ F36 = F2) ∨ (r = 1 ∧ ((c36 19) < (c36 20)) ∧ (va_up c36 19 ((c36 19) + 1)) = c2 ∧ F36 = F2))) r_51 cn52 In52 Fn52 := wh_52
            obtain ⟨hI52_, vh_52⟩ := vh_52
            rcases vh_52 with ⟨rfl, h_52, rfl, rfl⟩ | ⟨rfl, h_52, rfl, rfl⟩
            ·
              have hf52 : Fr [18, 19, 20, 23, 24, 25, 26] [21, 22] [27, 28, 29, 30, 31, 32, 33, 34, 35, 36] cn In Fn c36 In52 F36 := Fr.mo (Fr.tr hfr36 (show Fr [] [21] [] c36 I36 F36 c36 In52 F36 from ⟨fun _ _ => rfl, hI52_, fun _ _ => rfl⟩)) (sbl rfl) (sbl rfl) (sbl rfl)
              have hP : va_P D vwCl (wM cI cB cZ g c36 In52 F36) H1 := hP1
              have hD : va_D A (wM cI cB cZ g c36 In52 F36) := hD1.weaken (fun _ _ _ h => hFc _ h)
              generalize H1 = H at hP hS ⊢
              refine lv_if_eq (tgt := 82) hx hb dX12_reads_57 rfl (fun _ => ?_) (fun h => absurd h cq_eq_0_0)
              refine lv_iconst (v := 0) hx hb dX12_reads_82 kic_0 ?_
              refine lv_istore_n (lv' := [(3, .int 0), (0, .ref (g 100)), (1, .int (nI k0)), (2, .int (nI l0))]) hx hb dX12_reads_83 rfl hl (ltb rfl) rfl (fun ls hl => ?_)
              refine lv_goto (tgt := 36) hx hb dX12_reads_84 rfl ?_
              exact ih36 0 (g36 - 1) c36 In52 F36 _ _ (by (first | omega | (have zz0 := Hid.u hi_c36; have zz1 := Hid.u hi_cn; have zz2 := Hid.u hi_cn31; have zz3 := Hid.u hq_c36; have zz4 := Hid.u hq_cn31; omega))) ⟨(Fr.mo hf52 (sbl rfl) (sbl rfl) (sbl rfl)), hI36, (Or.inl rfl), (by (first | omega | (have zz0 := Hid.u hi_c36; have zz1 := Hid.u hi_cn; have zz2 := Hid.u hi_cn31; have zz3 := Hid.u hq_c36; have zz4 := Hid.u hq_cn31; omega))), hx36_2⟩ hP hD hS ls (lv_sub hl [0, 1, 2, 3] rfl)
            ·
              have hf52 : Fr [18, 19, 20, 23, 24, 25, 26] [21, 22] [27, 28, 29, 30, 31, 32, 33, 34, 35, 36] cn In Fn c36 In52 F36 := Fr.mo (Fr.tr hfr36 (show Fr [] [21] [] c36 I36 F36 c36 In52 F36 from ⟨fun _ _ => rfl, hI52_, fun _ _ => rfl⟩)) (sbl rfl) (sbl rfl) (sbl rfl)
              have hP : va_P D vwCl (wM cI cB cZ g (va_up c36 19 ((c36 19) + 1)) In52 F36) H1 := hP1
              have hD : va_D A (wM cI cB cZ g (va_up c36 19 ((c36 19) + 1)) In52 F36) := hD1.weaken (fun _ _ _ h => hFc _ h)
              generalize H1 = H at hP hS ⊢
              refine lv_if_eq (tgt := 82) hx hb dX12_reads_57 rfl (fun h => absurd h cq_eq_1_0) (fun _ => ?_)
              refine lv_aload_n hx hb dX12_reads_60 rfl (lvA1 hl) ?_
              refine lv_iload_n hx hb dX12_reads_61 rfl (lvA2 hl) ?_
              refine lv_bipush (v := 10) hx hb dX12_reads_62 kbc_10 ?_
              refine lv_icmp_ne (tgt := 71) hx hb dX12_reads_64 rfl (fun c_53 => False.elim (by have tc_53 : ((nI k0).toInt : Int) ≠ 10 := fun q => c_53 (Int32.toInt_inj.mp q); (first | omega | (have zz0 := Hid.u hi_c36; have zz1 := Hid.u hi_cn; have zz2 := Hid.u hi_cn31; have zz3 := Hid.u hq_c36; have zz4 := Hid.u hq_cn31; omega)))) (fun c_53 => ?_)
              have tc_53 : ((nI k0).toInt : Int) = 10 := congrArg Int32.toInt c_53
              refine lv_iconst (v := 1) hx hb dX12_reads_67 kic_1 ?_
              refine lv_goto (tgt := 72) hx hb dX12_reads_68 rfl ?_
              have hFc := free_all hD hS hA
              refine va_calli (runV_a (As := [.int 1]) (rest := []) S (q_readsClause l D cI cB cZ g (va_up c36 19 ((c36 19) + 1)) In52 F36 1 H.size (IM.fr (In := In52) hI36 (Fr.c 19 Fr.rf) (by decide) (by decide)) (show c36 19 + 1 ≤ c36 20 by (first | omega | (have zz0 := Hid.u hi_c36; have zz1 := Hid.u hi_cn; have zz2 := Hid.u hi_cn31; have zz3 := Hid.u hq_c36; have zz4 := Hid.u hq_cn31; omega))) (show c36 20 ≤ 160 by (first | omega | (have zz0 := Hid.u hi_c36; have zz1 := Hid.u hi_cn; have zz2 := Hid.u hi_cn31; have zz3 := Hid.u hq_c36; have zz4 := Hid.u hq_cn31; omega))) (show c36 23 ≤ c36 19 + 1 by (first | omega | (have zz0 := Hid.u hi_c36; have zz1 := Hid.u hi_cn; have zz2 := Hid.u hi_cn31; have zz3 := Hid.u hq_c36; have zz4 := Hid.u hq_cn31; omega))) hr4 hr5) kV_RX12_318 hK hP hD 0 rfl rfl rfl ⟨Nat.le_of_ble_eq_true rfl, Nat.le_of_ble_eq_true rfl⟩ ⟨Nat.le_of_ble_eq_true rfl, Nat.le_of_ble_eq_true rfl⟩ rfl hl.1 rfl (Nat.le_of_ble_eq_true rfl) dX12_reads_72) hS (fun q _ h => hFc q h) hFc (fun r_54 u t H1 locs ht hvm wh_55 hB hz1 hk1 hS => ?_)
              obtain ⟨cn55, In55, Fn55⟩ := u
              obtain ⟨hP1, hD1⟩ := hB
              rw [ht] at hP1
              have hP : va_P D vwCl (wM cI cB cZ g cn55 In55 Fn55) H1 := hP1
              have hD : va_D A (wM cI cB cZ g cn55 In55 Fn55) := hD1.weaken (fun _ _ _ h => hFc _ h)
              generalize H1 = H at hP hS ⊢
              have vh_55 : (fun r c2 I2 F2 => Fr [19, 23, 24, 25, 26] [21, 22] [27, 28, 29, 30, 31] (va_up c36 19 ((c36 19) + 1)) In52 F36 c2 I2 F2 ∧ IM c2 F2 ∧ (r = 0 ∨ (r = 1 ∧ ((c36 19) + 1) < c2 19 ∧ c2 19 ≤ (c36 20) ∧ c2 23 ≤ c2 19 ∧ c2 25 ≤ 12 ∧ ALL (F2 27) (c2 23) (c2 25) (F2 29) (F2 30) (F2 31)))) r_54 cn55 In55 Fn55 := wh_55
              obtain ⟨hfc55, hIn55, h_55⟩ := vh_55
              have hf55 : Fr [18, 19, 20, 23, 24, 25, 26] [21, 22] [27, 28, 29, 30, 31, 32, 33, 34, 35, 36] cn In Fn cn55 In55 Fn55 := Fr.mo (Fr.tr (Fr.c 19 hf52) hfc55) (sbl rfl) (sbl rfl) (sbl rfl)
              have hi_cn55 : Hid (CB cn55) := hIn55.b
              have hq_cn55 := Hid.i (frq_18_19_20_23_24_25_26_0_1_2_46_57_58_62_63_75_83_44 hf55)
              have : cn55 20 = (c36 20) := hfc55.1 20 (nml rfl)
              rcases h_55 with rfl | ⟨rfl, kh_55⟩
              ·
                refine lv_if_eq (tgt := 82) hx hb dX12_reads_75 rfl (fun _ => ?_) (fun h => absurd h cq_eq_0_0)
                refine lv_iconst (v := 0) hx hb dX12_reads_82 kic_0 ?_
                refine lv_istore_n (lv' := [(3, .int 0), (0, .ref (g 100)), (1, .int (nI k0)), (2, .int (nI l0))]) hx hb dX12_reads_83 rfl hl (ltb rfl) rfl (fun ls hl => ?_)
                refine lv_goto (tgt := 36) hx hb dX12_reads_84 rfl ?_
                exact ih36 0 (g36 - 1) cn55 In55 Fn55 _ _ (by (first | omega | (have zz0 := Hid.u hi_c36; have zz1 := Hid.u hi_cn; have zz2 := Hid.u hi_cn31; have zz3 := Hid.u hi_cn55; have zz4 := Hid.u hq_c36; have zz5 := Hid.u hq_cn31; have zz6 := Hid.u hq_cn55; omega))) ⟨(Fr.mo hf55 (sbl rfl) (sbl rfl) (sbl rfl)), hIn55, (Or.inl rfl), (by (first | omega | (have zz0 := Hid.u hi_c36; have zz1 := Hid.u hi_cn; have zz2 := Hid.u hi_cn31; have zz3 := Hid.u hi_cn55; have zz4 := Hid.u hq_c36; have zz5 := Hid.u hq_cn31; have zz6 := Hid.u hq_cn55; omega))), (fun k h1 h2 => (hfc55.2.2 k (nin31 h1)).trans (hx36_2 k h1 h2))⟩ hP hD hS ls (lv_sub hl [0, 1, 2, 3] rfl)
              ·
                obtain ⟨kh_55a, kh_55b, kh_55c, kh_55d, kh_55e⟩ := kh_55
                refine lv_if_eq (tgt := 82) hx hb dX12_reads_75 rfl (fun h => absurd h cq_eq_1_0) (fun _ => ?_)
                refine lv_iconst (v := 1) hx hb dX12_reads_78 kic_1 ?_
                refine lv_goto (tgt := 83) hx hb dX12_reads_79 rfl ?_
                refine lv_istore_n (lv' := [(3, .int 1), (0, .ref (g 100)), (1, .int (nI k0)), (2, .int (nI l0))]) hx hb dX12_reads_83 rfl hl (ltb rfl) rfl (fun ls hl => ?_)
                refine lv_goto (tgt := 36) hx hb dX12_reads_84 rfl ?_
                exact ih36 1 (g36 - 1) cn55 In55 Fn55 _ _ (by (first | omega | (have zz0 := Hid.u hi_c36; have zz1 := Hid.u hi_cn; have zz2 := Hid.u hi_cn31; have zz3 := Hid.u hi_cn55; have zz4 := Hid.u hq_c36; have zz5 := Hid.u hq_cn31; have zz6 := Hid.u hq_cn55; omega))) ⟨(Fr.mo hf55 (sbl rfl) (sbl rfl) (sbl rfl)), hIn55, (Or.inr ⟨rfl, by (first | omega | (have zz0 := Hid.u hi_c36; have zz1 := Hid.u hi_cn; have zz2 := Hid.u hi_cn31; have zz3 := Hid.u hi_cn55; have zz4 := Hid.u hq_c36; have zz5 := Hid.u hq_cn31; have zz6 := Hid.u hq_cn55; omega)), kh_55c, kh_55d, kh_55e, by (first | omega | (have zz0 := Hid.u hi_c36; have zz1 := Hid.u hi_cn; have zz2 := Hid.u hi_cn31; have zz3 := Hid.u hi_cn55; have zz4 := Hid.u hq_c36; have zz5 := Hid.u hq_cn31; have zz6 := Hid.u hq_cn55; omega))⟩), (by (first | omega | (have zz0 := Hid.u hi_c36; have zz1 := Hid.u hi_cn; have zz2 := Hid.u hi_cn31; have zz3 := Hid.u hi_cn55; have zz4 := Hid.u hq_c36; have zz5 := Hid.u hq_cn31; have zz6 := Hid.u hq_cn55; omega))), (fun k h1 h2 => (hfc55.2.2 k (nin31 h1)).trans (hx36_2 k h1 h2))⟩ hP hD hS ls (lv_sub hl [0, 1, 2, 3] rfl)
    exact lp_36 _ r_30 (l0 + 1) cn31 In31 Fn31 _ _ (Nat.lt_succ_self _) ⟨(Fr.mo hf31 (sbl rfl) (sbl rfl) (sbl rfl)), hIn31, (h_31.elim Or.inl (fun q => Or.inr ⟨q.1, q.2.2.1, q.2.2.2.1, q.2.2.2.2.1, q.2.2.2.2.2, by (first | omega | (have zz0 := Hid.u hi_cn; have zz1 := Hid.u hi_cn31; have zz2 := Hid.u hq_cn31; omega))⟩)), (by (first | omega | (have zz0 := Hid.u hi_cn; have zz1 := Hid.u hi_cn31; have zz2 := Hid.u hq_cn31; omega))), (fun k h1 h2 => hfc31.2.2 k (nin31 h1))⟩ hP hD hS ls (lv_sub hl [0, 1, 2, 3] rfl)
set_option maxRecDepth 100000 in
set_option maxHeartbeats 4000000 in
theorem q_contract9 (l : Launch) (D : va_G) (cI cB cZ : ClassId) (g : Nat → Nat) (cn : Nat → Nat) (In : Nat → Int32) (Fn : Nat → Nat → Int32) (v0 v1 : Int32) (sz : Nat) (hI : IM cn Fn) (h18 : cn 18 ≤ 200) : Met l yX12_contract (CWS yX12_contract cX12_contract 3 (some .int)) (RM 9 0 0) (PBw [.ref (g 100), .int v0, .int v1] D cI cB cZ (wM cI cB cZ g cn In Fn) sz) (va_Qi (fun (r : Int32) (u : (Nat → Nat) × (Nat → Int32) × (Nat → Nat → Int32)) => (fun r c2 I2 F2 => Fr [18, 19, 20, 23, 24, 25, 26] [21, 22] [27, 28, 29, 30, 31, 32, 33, 34, 35, 36] cn In Fn c2 I2 F2 ∧ IM c2 F2 ∧ (((0 ≤ v0.toInt ∧ v0.toInt < (cn 1 : Int) ∧ 1 ≤ v1.toInt ∧ v1.toInt ≤ 160 ∧ v1.toInt ≤ (cn 18 : Int)) ∧ c2 18 = 0) ∨ (¬ (0 ≤ v0.toInt ∧ v0.toInt < (cn 1 : Int) ∧ 1 ≤ v1.toInt ∧ v1.toInt ≤ 160 ∧ v1.toInt ≤ (cn 18 : Int)) ∧ c2 18 = cn 18))) r u.1 u.2.1 u.2.2) (fun (u : (Nat → Nat) × (Nat → Int32) × (Nat → Nat → Int32)) (t : State) => va_P D vwCl (wM cI cB cZ g u.1 u.2.1 u.2.2) t.heap ∧ va_D (va_A (wM cI cB cZ g cn In Fn) sz) (wM cI cB cZ g u.1 u.2.1 u.2.2)) (va_A (wM cI cB cZ g cn In Fn) sz)) 0 0 (va_A (wM cI cB cZ g cn In Fn) sz) := by
  refine en_w (fun A => (va_Qi (fun (r : Int32) (u : (Nat → Nat) × (Nat → Int32) × (Nat → Nat → Int32)) => (fun (r : Int32) (c2 : Nat → Nat) (I2 : Nat → Int32) (F2 : Nat → Nat → Int32) => Fr [18, 19, 20, 23, 24, 25, 26] [21, 22] [27, 28, 29, 30, 31, 32, 33, 34, 35, 36] cn In Fn c2 I2 F2 ∧ IM c2 F2 ∧ (((0 ≤ v0.toInt ∧ v0.toInt < (cn 1 : Int) ∧ 1 ≤ v1.toInt ∧ v1.toInt ≤ 160 ∧ v1.toInt ≤ (cn 18 : Int)) ∧ c2 18 = 0) ∨ (¬ (0 ≤ v0.toInt ∧ v0.toInt < (cn 1 : Int) ∧ 1 ≤ v1.toInt ∧ v1.toInt ≤ 160 ∧ v1.toInt ≤ (cn 18 : Int)) ∧ c2 18 = cn 18))) r u.1 u.2.1 u.2.2) (fun (u : (Nat → Nat) × (Nat → Int32) × (Nat → Nat → Int32)) (t : State) => va_P D vwCl (wM cI cB cZ g u.1 u.2.1 u.2.2) t.heap ∧ va_D A (wM cI cB cZ g u.1 u.2.1 u.2.2)) A)) rfl rfl pn_RX12 (Nat.le_of_ble_eq_true rfl) (fun p e s m below meth c A hx hb hml hown S hr hlocks hnm hA hP hK hD hS ls hl => ?_)
  have hl : lv_has ls 3 [(0, .ref (g 100)), (1, .int v0), (2, .int v1)] := hl
  have hi_cn : Hid (CB cn) := hI.b
  refine lv_aload_n hx hb (oc_42 0 shX12_contract_0) rfl (lvA0 hl) ?_
  refine lv_iload_n hx hb (oc_27 1 (aq_1 shX12_contract_0)) rfl (lvA1 hl) ?_
  refine vp_callSi (runV_ra (As := [.int v0]) (rest := []) S (q_isKitchen l D cI cB cZ g cn In Fn v0 hI) kV_RX12_218 hK hP 0 rfl rfl rfl ⟨Nat.le_of_ble_eq_true rfl, Nat.le_of_ble_eq_true rfl⟩ ⟨Nat.le_of_ble_eq_true rfl, Nat.le_of_ble_eq_true rfl⟩ rfl hl.1 rfl (Nat.le_of_ble_eq_true rfl) (oc_182 2 (aq_2 shX12_contract_0) uw_0_218)) (fun r_1 h_2 => ?_)
  rcases h_2 with ⟨rfl, h_2⟩ | ⟨rfl, h_2⟩
  ·
    have h_2 : 0 ≤ v0.toInt ∧ v0.toInt < ((cn 1) : Int) := h_2
    refine lv_if_eq (tgt := 27) hx hb dX12_contract_5 rfl (fun h => absurd h cq_eq_1_0) (fun _ => ?_)
    refine lv_iload_n hx hb (oc_28 8 (aq_8 shX12_contract_0)) rfl (lvA2 hl) ?_
    refine lv_iconst (v := 1) hx hb (oc_4 9 (aq_9 shX12_contract_0)) kic_1 ?_
    refine lv_sipush (v := 160) hx hb (oc_17 10 (aq_10 shX12_contract_0) sgw_0_160) (by decide) ?_
    refine vp_callSi (runS_r (As := [.int v1, .int 1, .int 160]) (rest := []) S (q_in l D cI cB cZ v1 1 160 ) kS_RX12_214 hK hP [] rfl ⟨Nat.le_of_ble_eq_true rfl, Nat.le_of_ble_eq_true rfl⟩ ⟨Nat.le_of_ble_eq_true rfl, Nat.le_of_ble_eq_true rfl⟩ rfl hl.1 rfl (Nat.le_of_ble_eq_true rfl) (oc_184 13 (aq_13 shX12_contract_0) uw_0_214)) (fun r_3 h_4 => ?_)
    rcases h_4 with ⟨rfl, h_4⟩ | ⟨rfl, h_4⟩
    ·
      have h_4 : 1 ≤ v1.toInt ∧ v1.toInt ≤ 160 := h_4
      refine lv_if_eq (tgt := 27) hx hb dX12_contract_16 rfl (fun h => absurd h cq_eq_1_0) (fun _ => ?_)
      refine lv_iload_n hx hb (oc_28 19 (aq_19 shX12_contract_0)) rfl (lvA2 hl) ?_
      refine lv_aload_n hx hb (oc_42 20 (aq_20 shX12_contract_0)) rfl (lvA0 hl) ?_
      refine gM_226 S hK hP (v := .int (nI (cn 18))) rfl (oc_180 21 (aq_21 shX12_contract_0) uw_0_226) ?_
      have : (nI (cn 18)).toInt = (((cn 18) : Nat) : Int) := nI_toInt (by (first | omega | (have zz0 := Hid.u hi_cn; omega)))
      refine lv_icmp_le (tgt := 31) hx hb (oc_164 24 shX12_contract_24 sgw_0_7) rfl (fun c_5 => ?_) (fun c_5 => ?_)
      ·
        have tc_5 : (v1.toInt : Int) ≤ (nI (cn 18)).toInt := Int32.le_iff_toInt_le.mp c_5
        obtain ⟨d0, hd0, rfl⟩ := nI_of (x := v0) (fun q => by have := Int32.lt_iff_toInt_lt.mp q; have e : (0 : Int32).toInt = 0 := rfl; (first | omega | (have zz0 := Hid.u hi_cn; omega)))
        have td0 : (nI d0).toInt = (d0 : Int) := nI_toInt hd0
        have zd0 : (nI d0).toInt.toNat = d0 := by (first | omega | (have zz0 := Hid.u hi_cn; omega))
        obtain ⟨l0, hl0, rfl⟩ := nI_of (x := v1) (fun q => by have := Int32.lt_iff_toInt_lt.mp q; have e : (0 : Int32).toInt = 0 := rfl; (first | omega | (have zz0 := Hid.u hi_cn; omega)))
        have tl0 : (nI l0).toInt = (l0 : Int) := nI_toInt hl0
        have zl0 : (nI l0).toInt.toNat = l0 := by (first | omega | (have zz0 := Hid.u hi_cn; omega))
        refine lv_aload_n hx hb (oc_42 31 (aq_7 shX12_contract_24)) rfl (lvA0 hl) ?_
        refine lv_iload_n hx hb (oc_27 32 (aq_8 shX12_contract_24)) rfl (lvA1 hl) ?_
        refine lv_iload_n hx hb (oc_28 33 (aq_9 shX12_contract_24)) rfl (lvA2 hl) ?_
        have hFc := free_all hD hS hA
        refine va_calli (runV_a (As := [.int (nI d0), .int (nI l0)]) (rest := []) S (q_reads9 l D cI cB cZ g cn In Fn d0 l0 s.heap.size hI (by (first | omega | (have zz0 := Hid.u hi_cn; omega))) (by (first | omega | (have zz0 := Hid.u hi_cn; omega)))) kV_RX12_324 hK hP hD 0 rfl rfl rfl ⟨Nat.le_of_ble_eq_true rfl, Nat.le_of_ble_eq_true rfl⟩ ⟨Nat.le_of_ble_eq_true rfl, Nat.le_of_ble_eq_true rfl⟩ rfl hl.1 rfl (Nat.le_of_ble_eq_true rfl) (oc_182 34 (aq_10 shX12_contract_24) uw_1_68)) hS (fun q _ h => hFc q h) hFc (fun r_6 u t H1 locs ht hvm wh_7 hB hz1 hk1 hS => ?_)
        obtain ⟨cn7, In7, Fn7⟩ := u
        obtain ⟨hP1, hD1⟩ := hB
        rw [ht] at hP1
        have hP : va_P D vwCl (wM cI cB cZ g cn7 In7 Fn7) H1 := hP1
        have hD : va_D A (wM cI cB cZ g cn7 In7 Fn7) := hD1.weaken (fun _ _ _ h => hFc _ h)
        generalize H1 = H at hP hS ⊢
        have vh_7 : (fun r c2 I2 F2 => Fr [18, 19, 20, 23, 24, 25, 26] [21, 22] [27, 28, 29, 30, 31, 32, 33, 34, 35, 36] cn In Fn c2 I2 F2 ∧ IM c2 F2 ∧ (c2 18 = 0)) r_6 cn7 In7 Fn7 := wh_7
        obtain ⟨hfc7, hIn7, h_7⟩ := vh_7
        have hf7 : Fr [18, 19, 20, 23, 24, 25, 26] [21, 22] [27, 28, 29, 30, 31, 32, 33, 34, 35, 36] cn In Fn cn7 In7 Fn7 := Fr.mo (Fr.tr (Fr.rf (cn := cn) (In := In) (Fn := Fn)) hfc7) (sbl rfl) (sbl rfl) (sbl rfl)
        have hi_cn7 : Hid (CB cn7) := hIn7.b
        have hq_cn7 := Hid.i (frq_18_19_20_23_24_25_26_0_1_2_46_57_58_62_63_75_83_44 hf7)
        exact W.iret (v := r_6) hx hb hr (fun t ht hW => ⟨⟨r_6, (cn7, In7, Fn7), rfl, ⟨(Fr.mo hf7 (sbl rfl) (sbl rfl) (sbl rfl)), hIn7, (by show ((0 ≤ (nI d0).toInt ∧ (nI d0).toInt < (cn 1 : Int) ∧ 1 ≤ (nI l0).toInt ∧ (nI l0).toInt ≤ 160 ∧ (nI l0).toInt ≤ (cn 18 : Int)) ∧ cn7 18 = 0) ∨ (¬ (0 ≤ (nI d0).toInt ∧ (nI d0).toInt < (cn 1 : Int) ∧ 1 ≤ (nI l0).toInt ∧ (nI l0).toInt ≤ 160 ∧ (nI l0).toInt ≤ (cn 18 : Int)) ∧ cn7 18 = cn 18); show ((0 ≤ (nI d0).toInt ∧ (nI d0).toInt < (cn 1 : Int) ∧ 1 ≤ (nI l0).toInt ∧ (nI l0).toInt ≤ 160 ∧ (nI l0).toInt ≤ (cn 18 : Int)) ∧ (cn7 18) = 0) ∨ (¬ (0 ≤ (nI d0).toInt ∧ (nI d0).toInt < (cn 1 : Int) ∧ 1 ≤ (nI l0).toInt ∧ (nI l0).toInt ≤ 160 ∧ (nI l0).toInt ≤ (cn 18 : Int)) ∧ (cn7 18) = cn 18); (first | omega | (have zz0 := Hid.u hi_cn; have zz1 := Hid.u hi_cn7; have zz2 := Hid.u hq_cn7; omega)))⟩, by rw [ht]; exact hP, hD⟩, hS.F ht⟩) hS.2.2 dX12_contract_37
      ·
        have tc_5 : ((nI (cn 18)).toInt : Int) < v1.toInt := Int32.lt_iff_toInt_lt.mp (Int32.not_le.mp c_5)
        refine lv_iconst (v := (-1)) hx hb dX12_contract_27 kic_m1 ?_
        refine lv_goto (tgt := 37) hx hb dX12_contract_28 rfl ?_
        exact W.iret (v := (-1)) hx hb hr (fun t ht hW => ⟨⟨(-1), (cn, In, Fn), rfl, ⟨(Fr.mo Fr.rf (sbl rfl) (sbl rfl) (sbl rfl)), hI, (by show ((0 ≤ v0.toInt ∧ v0.toInt < (cn 1 : Int) ∧ 1 ≤ v1.toInt ∧ v1.toInt ≤ 160 ∧ v1.toInt ≤ (cn 18 : Int)) ∧ cn 18 = 0) ∨ (¬ (0 ≤ v0.toInt ∧ v0.toInt < (cn 1 : Int) ∧ 1 ≤ v1.toInt ∧ v1.toInt ≤ 160 ∧ v1.toInt ≤ (cn 18 : Int)) ∧ cn 18 = cn 18); show ((0 ≤ v0.toInt ∧ v0.toInt < (cn 1 : Int) ∧ 1 ≤ v1.toInt ∧ v1.toInt ≤ 160 ∧ v1.toInt ≤ (cn 18 : Int)) ∧ (cn 18) = 0) ∨ (¬ (0 ≤ v0.toInt ∧ v0.toInt < (cn 1 : Int) ∧ 1 ≤ v1.toInt ∧ v1.toInt ≤ 160 ∧ v1.toInt ≤ (cn 18 : Int)) ∧ (cn 18) = cn 18); (first | omega | (have zz0 := Hid.u hi_cn; omega)))⟩, by rw [ht]; exact hP, hD⟩, hS.F ht⟩) hS.2.2 dX12_contract_37
    ·
      have h_4 : ¬ (1 ≤ v1.toInt ∧ v1.toInt ≤ 160) := h_4
      refine lv_if_eq (tgt := 27) hx hb dX12_contract_16 rfl (fun _ => ?_) (fun h => absurd h cq_eq_0_0)
      refine lv_iconst (v := (-1)) hx hb dX12_contract_27 kic_m1 ?_
      refine lv_goto (tgt := 37) hx hb dX12_contract_28 rfl ?_
      exact W.iret (v := (-1)) hx hb hr (fun t ht hW => ⟨⟨(-1), (cn, In, Fn), rfl, ⟨(Fr.mo Fr.rf (sbl rfl) (sbl rfl) (sbl rfl)), hI, (by show ((0 ≤ v0.toInt ∧ v0.toInt < (cn 1 : Int) ∧ 1 ≤ v1.toInt ∧ v1.toInt ≤ 160 ∧ v1.toInt ≤ (cn 18 : Int)) ∧ cn 18 = 0) ∨ (¬ (0 ≤ v0.toInt ∧ v0.toInt < (cn 1 : Int) ∧ 1 ≤ v1.toInt ∧ v1.toInt ≤ 160 ∧ v1.toInt ≤ (cn 18 : Int)) ∧ cn 18 = cn 18); show ((0 ≤ v0.toInt ∧ v0.toInt < (cn 1 : Int) ∧ 1 ≤ v1.toInt ∧ v1.toInt ≤ 160 ∧ v1.toInt ≤ (cn 18 : Int)) ∧ (cn 18) = 0) ∨ (¬ (0 ≤ v0.toInt ∧ v0.toInt < (cn 1 : Int) ∧ 1 ≤ v1.toInt ∧ v1.toInt ≤ 160 ∧ v1.toInt ≤ (cn 18 : Int)) ∧ (cn 18) = cn 18); (first | omega | (have zz0 := Hid.u hi_cn; omega)))⟩, by rw [ht]; exact hP, hD⟩, hS.F ht⟩) hS.2.2 dX12_contract_37
  ·
    have h_2 : ¬ (0 ≤ v0.toInt ∧ v0.toInt < ((cn 1) : Int)) := h_2
    refine lv_if_eq (tgt := 27) hx hb dX12_contract_5 rfl (fun _ => ?_) (fun h => absurd h cq_eq_0_0)
    refine lv_iconst (v := (-1)) hx hb dX12_contract_27 kic_m1 ?_
    refine lv_goto (tgt := 37) hx hb dX12_contract_28 rfl ?_
    exact W.iret (v := (-1)) hx hb hr (fun t ht hW => ⟨⟨(-1), (cn, In, Fn), rfl, ⟨(Fr.mo Fr.rf (sbl rfl) (sbl rfl) (sbl rfl)), hI, (by show ((0 ≤ v0.toInt ∧ v0.toInt < (cn 1 : Int) ∧ 1 ≤ v1.toInt ∧ v1.toInt ≤ 160 ∧ v1.toInt ≤ (cn 18 : Int)) ∧ cn 18 = 0) ∨ (¬ (0 ≤ v0.toInt ∧ v0.toInt < (cn 1 : Int) ∧ 1 ≤ v1.toInt ∧ v1.toInt ≤ 160 ∧ v1.toInt ≤ (cn 18 : Int)) ∧ cn 18 = cn 18); show ((0 ≤ v0.toInt ∧ v0.toInt < (cn 1 : Int) ∧ 1 ≤ v1.toInt ∧ v1.toInt ≤ 160 ∧ v1.toInt ≤ (cn 18 : Int)) ∧ (cn 18) = 0) ∨ (¬ (0 ≤ v0.toInt ∧ v0.toInt < (cn 1 : Int) ∧ 1 ≤ v1.toInt ∧ v1.toInt ≤ 160 ∧ v1.toInt ≤ (cn 18 : Int)) ∧ (cn 18) = cn 18); (first | omega | (have zz0 := Hid.u hi_cn; omega)))⟩, by rw [ht]; exact hP, hD⟩, hS.F ht⟩) hS.2.2 dX12_contract_37
set_option maxRecDepth 100000 in
set_option maxHeartbeats 4000000 in
theorem q_law9 (l : Launch) (D : va_G) (cI cB cZ : ClassId) (g : Nat → Nat) (cn : Nat → Nat) (In : Nat → Int32) (Fn : Nat → Nat → Int32) (v0 : Int32) (sz : Nat) (hI : IM cn Fn) (h18 : cn 18 ≤ 200) : Met l yX12_law (CWS yX12_law cX12_law 2 (some .int)) (RM 9 0 0) (PBw [.ref (g 100), .int v0] D cI cB cZ (wM cI cB cZ g cn In Fn) sz) (va_Qi (fun (r : Int32) (u : (Nat → Nat) × (Nat → Int32) × (Nat → Nat → Int32)) => (fun r c2 I2 F2 => Fr [18, 19, 20, 23, 24, 25, 26] [21, 22] [27, 28, 29, 30, 31, 32, 33, 34, 35, 36] cn In Fn c2 I2 F2 ∧ IM c2 F2 ∧ (((1 ≤ v0.toInt ∧ v0.toInt ≤ 160 ∧ v0.toInt ≤ (cn 18 : Int)) ∧ c2 18 = 0) ∨ (¬ (1 ≤ v0.toInt ∧ v0.toInt ≤ 160 ∧ v0.toInt ≤ (cn 18 : Int)) ∧ c2 18 = cn 18))) r u.1 u.2.1 u.2.2) (fun (u : (Nat → Nat) × (Nat → Int32) × (Nat → Nat → Int32)) (t : State) => va_P D vwCl (wM cI cB cZ g u.1 u.2.1 u.2.2) t.heap ∧ va_D (va_A (wM cI cB cZ g cn In Fn) sz) (wM cI cB cZ g u.1 u.2.1 u.2.2)) (va_A (wM cI cB cZ g cn In Fn) sz)) 0 0 (va_A (wM cI cB cZ g cn In Fn) sz) := by
  refine en_w (fun A => (va_Qi (fun (r : Int32) (u : (Nat → Nat) × (Nat → Int32) × (Nat → Nat → Int32)) => (fun (r : Int32) (c2 : Nat → Nat) (I2 : Nat → Int32) (F2 : Nat → Nat → Int32) => Fr [18, 19, 20, 23, 24, 25, 26] [21, 22] [27, 28, 29, 30, 31, 32, 33, 34, 35, 36] cn In Fn c2 I2 F2 ∧ IM c2 F2 ∧ (((1 ≤ v0.toInt ∧ v0.toInt ≤ 160 ∧ v0.toInt ≤ (cn 18 : Int)) ∧ c2 18 = 0) ∨ (¬ (1 ≤ v0.toInt ∧ v0.toInt ≤ 160 ∧ v0.toInt ≤ (cn 18 : Int)) ∧ c2 18 = cn 18))) r u.1 u.2.1 u.2.2) (fun (u : (Nat → Nat) × (Nat → Int32) × (Nat → Nat → Int32)) (t : State) => va_P D vwCl (wM cI cB cZ g u.1 u.2.1 u.2.2) t.heap ∧ va_D A (wM cI cB cZ g u.1 u.2.1 u.2.2)) A)) rfl rfl pn_RX12 (Nat.le_of_ble_eq_true rfl) (fun p e s m below meth c A hx hb hml hown S hr hlocks hnm hA hP hK hD hS ls hl => ?_)
  have hl : lv_has ls 2 [(0, .ref (g 100)), (1, .int v0)] := hl
  have hi_cn : Hid (CB cn) := hI.b
  refine lv_iload_n hx hb (oc_27 0 shX12_law_0) rfl (lvA1 hl) ?_
  refine lv_iconst (v := 1) hx hb (oc_4 1 (aq_1 shX12_law_0)) kic_1 ?_
  refine lv_sipush (v := 160) hx hb (oc_17 2 (aq_2 shX12_law_0) sgw_0_160) (by decide) ?_
  refine vp_callSi (runS_r (As := [.int v0, .int 1, .int 160]) (rest := []) S (q_in l D cI cB cZ v0 1 160 ) kS_RX12_214 hK hP [] rfl ⟨Nat.le_of_ble_eq_true rfl, Nat.le_of_ble_eq_true rfl⟩ ⟨Nat.le_of_ble_eq_true rfl, Nat.le_of_ble_eq_true rfl⟩ rfl hl.1 rfl (Nat.le_of_ble_eq_true rfl) (oc_184 5 (aq_5 shX12_law_0) uw_0_214)) (fun r_1 h_2 => ?_)
  rcases h_2 with ⟨rfl, h_2⟩ | ⟨rfl, h_2⟩
  ·
    have h_2 : 1 ≤ v0.toInt ∧ v0.toInt ≤ 160 := h_2
    refine lv_if_eq (tgt := 19) hx hb dX12_law_8 rfl (fun h => absurd h cq_eq_1_0) (fun _ => ?_)
    refine lv_iload_n hx hb (oc_27 11 (aq_11 shX12_law_0)) rfl (lvA1 hl) ?_
    refine lv_aload_n hx hb (oc_42 12 (aq_12 shX12_law_0)) rfl (lvA0 hl) ?_
    refine gM_226 S hK hP (v := .int (nI (cn 18))) rfl (oc_180 13 (aq_13 shX12_law_0) uw_0_226) ?_
    have : (nI (cn 18)).toInt = (((cn 18) : Nat) : Int) := nI_toInt (by (first | omega | (have zz0 := Hid.u hi_cn; omega)))
    refine lv_icmp_le (tgt := 23) hx hb (oc_164 16 (aq_16 shX12_law_0) sgw_0_7) rfl (fun c_3 => ?_) (fun c_3 => ?_)
    ·
      have tc_3 : (v0.toInt : Int) ≤ (nI (cn 18)).toInt := Int32.le_iff_toInt_le.mp c_3
      obtain ⟨l0, hl0, rfl⟩ := nI_of (x := v0) (fun q => by have := Int32.lt_iff_toInt_lt.mp q; have e : (0 : Int32).toInt = 0 := rfl; (first | omega | (have zz0 := Hid.u hi_cn; omega)))
      have tl0 : (nI l0).toInt = (l0 : Int) := nI_toInt hl0
      have zl0 : (nI l0).toInt.toNat = l0 := by (first | omega | (have zz0 := Hid.u hi_cn; omega))
      refine lv_aload_n hx hb (oc_42 23 (aq_23 shX12_law_0)) rfl (lvA0 hl) ?_
      refine lv_bipush (v := 10) hx hb (oc_16 24 shX12_law_24 sgb_10) kbc_10 ?_
      refine lv_iload_n hx hb (oc_27 26 (aq_2 shX12_law_24)) rfl (lvA1 hl) ?_
      have hFc := free_all hD hS hA
      refine va_calli (runV_a (As := [.int 10, .int (nI l0)]) (rest := []) S (q_reads9 l D cI cB cZ g cn In Fn 10 l0 s.heap.size hI (by (first | omega | (have zz0 := Hid.u hi_cn; omega))) (by (first | omega | (have zz0 := Hid.u hi_cn; omega)))) kV_RX12_324 hK hP hD 0 rfl rfl rfl ⟨Nat.le_of_ble_eq_true rfl, Nat.le_of_ble_eq_true rfl⟩ ⟨Nat.le_of_ble_eq_true rfl, Nat.le_of_ble_eq_true rfl⟩ rfl hl.1 rfl (Nat.le_of_ble_eq_true rfl) (oc_182 27 (aq_3 shX12_law_24) uw_1_68)) hS (fun q _ h => hFc q h) hFc (fun r_4 u t H1 locs ht hvm wh_5 hB hz1 hk1 hS => ?_)
      obtain ⟨cn5, In5, Fn5⟩ := u
      obtain ⟨hP1, hD1⟩ := hB
      rw [ht] at hP1
      have hP : va_P D vwCl (wM cI cB cZ g cn5 In5 Fn5) H1 := hP1
      have hD : va_D A (wM cI cB cZ g cn5 In5 Fn5) := hD1.weaken (fun _ _ _ h => hFc _ h)
      generalize H1 = H at hP hS ⊢
      have vh_5 : (fun r c2 I2 F2 => Fr [18, 19, 20, 23, 24, 25, 26] [21, 22] [27, 28, 29, 30, 31, 32, 33, 34, 35, 36] cn In Fn c2 I2 F2 ∧ IM c2 F2 ∧ (c2 18 = 0)) r_4 cn5 In5 Fn5 := wh_5
      obtain ⟨hfc5, hIn5, h_5⟩ := vh_5
      have hf5 : Fr [18, 19, 20, 23, 24, 25, 26] [21, 22] [27, 28, 29, 30, 31, 32, 33, 34, 35, 36] cn In Fn cn5 In5 Fn5 := Fr.mo (Fr.tr (Fr.rf (cn := cn) (In := In) (Fn := Fn)) hfc5) (sbl rfl) (sbl rfl) (sbl rfl)
      have hi_cn5 : Hid (CB cn5) := hIn5.b
      have hq_cn5 := Hid.i (frq_18_19_20_23_24_25_26_0_1_2_46_57_58_62_63_75_83_44 hf5)
      exact W.iret (v := r_4) hx hb hr (fun t ht hW => ⟨⟨r_4, (cn5, In5, Fn5), rfl, ⟨(Fr.mo hf5 (sbl rfl) (sbl rfl) (sbl rfl)), hIn5, (by show ((1 ≤ (nI l0).toInt ∧ (nI l0).toInt ≤ 160 ∧ (nI l0).toInt ≤ (cn 18 : Int)) ∧ cn5 18 = 0) ∨ (¬ (1 ≤ (nI l0).toInt ∧ (nI l0).toInt ≤ 160 ∧ (nI l0).toInt ≤ (cn 18 : Int)) ∧ cn5 18 = cn 18); show ((1 ≤ (nI l0).toInt ∧ (nI l0).toInt ≤ 160 ∧ (nI l0).toInt ≤ (cn 18 : Int)) ∧ (cn5 18) = 0) ∨ (¬ (1 ≤ (nI l0).toInt ∧ (nI l0).toInt ≤ 160 ∧ (nI l0).toInt ≤ (cn 18 : Int)) ∧ (cn5 18) = cn 18); (first | omega | (have zz0 := Hid.u hi_cn; have zz1 := Hid.u hi_cn5; have zz2 := Hid.u hq_cn5; omega)))⟩, by rw [ht]; exact hP, hD⟩, hS.F ht⟩) hS.2.2 dX12_law_30
    ·
      have tc_3 : ((nI (cn 18)).toInt : Int) < v0.toInt := Int32.lt_iff_toInt_lt.mp (Int32.not_le.mp c_3)
      refine lv_iconst (v := (-1)) hx hb dX12_law_19 kic_m1 ?_
      refine lv_goto (tgt := 30) hx hb dX12_law_20 rfl ?_
      exact W.iret (v := (-1)) hx hb hr (fun t ht hW => ⟨⟨(-1), (cn, In, Fn), rfl, ⟨(Fr.mo Fr.rf (sbl rfl) (sbl rfl) (sbl rfl)), hI, (by show ((1 ≤ v0.toInt ∧ v0.toInt ≤ 160 ∧ v0.toInt ≤ (cn 18 : Int)) ∧ cn 18 = 0) ∨ (¬ (1 ≤ v0.toInt ∧ v0.toInt ≤ 160 ∧ v0.toInt ≤ (cn 18 : Int)) ∧ cn 18 = cn 18); show ((1 ≤ v0.toInt ∧ v0.toInt ≤ 160 ∧ v0.toInt ≤ (cn 18 : Int)) ∧ (cn 18) = 0) ∨ (¬ (1 ≤ v0.toInt ∧ v0.toInt ≤ 160 ∧ v0.toInt ≤ (cn 18 : Int)) ∧ (cn 18) = cn 18); (first | omega | (have zz0 := Hid.u hi_cn; omega)))⟩, by rw [ht]; exact hP, hD⟩, hS.F ht⟩) hS.2.2 dX12_law_30
  ·
    have h_2 : ¬ (1 ≤ v0.toInt ∧ v0.toInt ≤ 160) := h_2
    refine lv_if_eq (tgt := 19) hx hb dX12_law_8 rfl (fun _ => ?_) (fun h => absurd h cq_eq_0_0)
    refine lv_iconst (v := (-1)) hx hb dX12_law_19 kic_m1 ?_
    refine lv_goto (tgt := 30) hx hb dX12_law_20 rfl ?_
    exact W.iret (v := (-1)) hx hb hr (fun t ht hW => ⟨⟨(-1), (cn, In, Fn), rfl, ⟨(Fr.mo Fr.rf (sbl rfl) (sbl rfl) (sbl rfl)), hI, (by show ((1 ≤ v0.toInt ∧ v0.toInt ≤ 160 ∧ v0.toInt ≤ (cn 18 : Int)) ∧ cn 18 = 0) ∨ (¬ (1 ≤ v0.toInt ∧ v0.toInt ≤ 160 ∧ v0.toInt ≤ (cn 18 : Int)) ∧ cn 18 = cn 18); show ((1 ≤ v0.toInt ∧ v0.toInt ≤ 160 ∧ v0.toInt ≤ (cn 18 : Int)) ∧ (cn 18) = 0) ∨ (¬ (1 ≤ v0.toInt ∧ v0.toInt ≤ 160 ∧ v0.toInt ≤ (cn 18 : Int)) ∧ (cn 18) = cn 18); (first | omega | (have zz0 := Hid.u hi_cn; omega)))⟩, by rw [ht]; exact hP, hD⟩, hS.F ht⟩) hS.2.2 dX12_law_30
set_option maxRecDepth 100000 in
set_option maxHeartbeats 4000000 in
theorem q_Econtract (l : Launch) (D : va_G) (cI cB cZ : ClassId) (zz qq vv : Nat) (bt : Nat → Int32) (g : Nat → Nat) (ad : Nat → Nat → Nat) (cn : Nat → Nat) (In : Nat → Int32) (Fn : Nat → Nat → Int32) (v0 v1 : Int32) (sz : Nat) (hB : CBX cn) (hT : (∀ k : Nat, k < cn 10 → ad 3 k < cn 6) ∧ ad 4 0 < cn 6 ∧ ad 4 1 < cn 6) (hC : ∀ k : Nat, k < cn 6 → ∃ n : Nat, n ≤ 12 ∧ Fn 198 k = nI n) (hL : ∀ k : Nat, k < cn 6 → (Fn 199 k).toInt ≤ 160) : Met l yX11_contract (CWS yX11_contract cX11_contract 5 (some .int)) (RM 27 6 237) (PBx [.ref (g 0), .int v0, .int v1] D cI cB cZ zz qq vv bt (wX cI (D.1 99) zz g ad cn In Fn) sz) (va_Qi (fun (r : Int32) (u : (Nat → Nat → Nat) × (Nat → Nat) × (Nat → Int32) × (Nat → Nat → Int32)) => (fun r a2 c2 I2 F2 => Fr [3, 6, 31, 32] [30, 33] [195, 196, 197, 198, 199, 301, 302, 303, 304, 305] cn In Fn c2 I2 F2 ∧ CBX c2 ∧ ((∀ k : Nat, k < c2 10 → a2 3 k < c2 6) ∧ a2 4 0 < c2 6 ∧ a2 4 1 < c2 6) ∧ (∀ k : Nat, k < c2 6 → ∃ n : Nat, n ≤ 12 ∧ F2 198 k = nI n) ∧ (∀ k : Nat, k < c2 6 → (F2 199 k).toInt ≤ 160) ∧ (∀ i k : Nat, i ∉ [3, 4, 5, 60, 61, 62, 63, 64] → a2 i k = ad i k) ∧ (((0 ≤ v0.toInt ∧ v0.toInt < (cn 10 : Int) ∧ 1 ≤ v1.toInt ∧ v1.toInt ≤ 160 ∧ v1.toInt ≤ (cn 3 : Int)) ∧ c2 3 = 0) ∨ (¬ (0 ≤ v0.toInt ∧ v0.toInt < (cn 10 : Int) ∧ 1 ≤ v1.toInt ∧ v1.toInt ≤ 160 ∧ v1.toInt ≤ (cn 3 : Int)) ∧ c2 3 = cn 3))) r u.1 u.2.1 u.2.2.1 u.2.2.2) (fun (u : (Nat → Nat → Nat) × (Nat → Nat) × (Nat → Int32) × (Nat → Nat → Int32)) (t : State) => va_P D vwCl (wX cI (D.1 99) zz g u.1 u.2.1 u.2.2.1 u.2.2.2) t.heap ∧ va_D (va_A (wX cI (D.1 99) zz g ad cn In Fn) sz) (wX cI (D.1 99) zz g u.1 u.2.1 u.2.2.1 u.2.2.2)) (va_A (wX cI (D.1 99) zz g ad cn In Fn) sz)) 6 237 (va_A (wX cI (D.1 99) zz g ad cn In Fn) sz) := by
  refine en_x (fun A => (va_Qi (fun (r : Int32) (u : (Nat → Nat → Nat) × (Nat → Nat) × (Nat → Int32) × (Nat → Nat → Int32)) => (fun (r : Int32) (a2 : Nat → Nat → Nat) (c2 : Nat → Nat) (I2 : Nat → Int32) (F2 : Nat → Nat → Int32) => Fr [3, 6, 31, 32] [30, 33] [195, 196, 197, 198, 199, 301, 302, 303, 304, 305] cn In Fn c2 I2 F2 ∧ CBX c2 ∧ ((∀ k : Nat, k < c2 10 → a2 3 k < c2 6) ∧ a2 4 0 < c2 6 ∧ a2 4 1 < c2 6) ∧ (∀ k : Nat, k < c2 6 → ∃ n : Nat, n ≤ 12 ∧ F2 198 k = nI n) ∧ (∀ k : Nat, k < c2 6 → (F2 199 k).toInt ≤ 160) ∧ (∀ i k : Nat, i ∉ [3, 4, 5, 60, 61, 62, 63, 64] → a2 i k = ad i k) ∧ (((0 ≤ v0.toInt ∧ v0.toInt < (cn 10 : Int) ∧ 1 ≤ v1.toInt ∧ v1.toInt ≤ 160 ∧ v1.toInt ≤ (cn 3 : Int)) ∧ c2 3 = 0) ∨ (¬ (0 ≤ v0.toInt ∧ v0.toInt < (cn 10 : Int) ∧ 1 ≤ v1.toInt ∧ v1.toInt ≤ 160 ∧ v1.toInt ≤ (cn 3 : Int)) ∧ c2 3 = cn 3))) r u.1 u.2.1 u.2.2.1 u.2.2.2) (fun (u : (Nat → Nat → Nat) × (Nat → Nat) × (Nat → Int32) × (Nat → Nat → Int32)) (t : State) => va_P D vwCl (wX cI (D.1 99) zz g u.1 u.2.1 u.2.2.1 u.2.2.2) t.heap ∧ va_D A (wX cI (D.1 99) zz g u.1 u.2.1 u.2.2.1 u.2.2.2)) A)) rfl rfl pn_RX11 (Nat.le_of_ble_eq_true rfl) (fun p e s m below meth c A hx hb hml hown S hr hlocks hnm hA hP hK hD hXS hS ls hl => ?_)
  have hl : lv_has ls 5 [(0, .ref (g 0)), (1, .int v0), (2, .int v1)] := hl
  refine lv_aload_n hx hb (oc_42 0 shX11_contract_0) rfl (lvA0 hl) ?_
  refine lv_iload_n hx hb (oc_27 1 (aq_1 shX11_contract_0)) rfl (lvA1 hl) ?_
  refine va_csq (runV_rxa (As := [.int v0]) (rest := []) S (q_XkitchenAt l D cI cB cZ zz qq vv bt g ad cn In Fn v0 hB) kV_RX11_114 hK hXS hS hP 0 xo_0 rfl rfl ⟨Nat.le_of_ble_eq_true rfl, Nat.le_of_ble_eq_true rfl⟩ ⟨Nat.le_of_ble_eq_true rfl, Nat.le_of_ble_eq_true rfl⟩ rfl hl.1 rfl (Nat.le_of_ble_eq_true rfl) (oc_182 2 (aq_2 shX11_contract_0) uw_0_114)) (fun r_1 h_2 => ?_)
  rcases h_2 with ⟨mr_1, er_1, hr_1, rfl⟩ | ⟨hr_1, rfl⟩
  ·
    refine lv_astore_n (lv' := [(3, .ref (ad 10 mr_1)), (0, .ref (g 0)), (1, .int v0), (2, .int v1)]) hx hb dX11_contract_5 rfl hl (ltb rfl) rfl (fun ls hl => ?_)
    refine lv_aload_n hx hb dX11_contract_6 rfl (lvA0 hl) ?_
    refine lv_ifnull hx hb dX11_contract_7 ?_
    refine lv_aload_n hx hb (oc_42 10 (aq_10 shX11_contract_0)) rfl (lvA1 hl) ?_
    refine lv_iload_n hx hb (oc_28 11 (aq_11 shX11_contract_0)) rfl (lvA3 hl) ?_
    refine vp_callSi (runV_rxa (As := [.int v1]) (rest := []) S (q_XisText l D cI cB cZ zz qq vv bt g ad cn In Fn v1 hB) kV_RX11_155 hK hXS hS hP 0 xo_0 rfl rfl ⟨Nat.le_of_ble_eq_true rfl, Nat.le_of_ble_eq_true rfl⟩ ⟨Nat.le_of_ble_eq_true rfl, Nat.le_of_ble_eq_true rfl⟩ rfl hl.1 rfl (Nat.le_of_ble_eq_true rfl) (oc_182 12 (aq_12 shX11_contract_0) uw_0_155)) (fun r_3 h_4 => ?_)
    rcases h_4 with ⟨rfl, h_4⟩ | ⟨rfl, h_4⟩
    ·
      have h_4 : 1 ≤ v1.toInt ∧ v1.toInt ≤ 160 ∧ v1.toInt ≤ ((cn 3) : Int) := h_4
      refine lv_if_ne (tgt := 20) hx hb dX11_contract_15 rfl (fun _ => ?_) (fun h => absurd h cq_eq_1_0)
      obtain ⟨n0, hn0, rfl⟩ := nI_of (x := v1) (fun q => by have := Int32.lt_iff_toInt_lt.mp q; have e : (0 : Int32).toInt = 0 := rfl; omega)
      have tn0 : (nI n0).toInt = (n0 : Int) := nI_toInt hn0
      have zn0 : (nI n0).toInt.toNat = n0 := by omega
      refine lv_aload_n hx hb (oc_42 20 (aq_20 shX11_contract_0)) rfl (lvA1 hl) ?_
      refine gf_RX11_28 S hK hP 0 xo_0 (v := .ref (g 6)) rfl (oc_180 21 (aq_21 shX11_contract_0) uw_0_28) ?_
      refine lv_aload_n hx hb (oc_42 24 shX11_contract_24) rfl (lvA1 hl) ?_
      refine gf_RX11_21 S hK hP 0 xo_0 (v := .ref (g 5)) rfl (oc_180 25 (aq_1 shX11_contract_24) uw_0_21) ?_
      refine lv_iload_n hx hb (oc_28 28 (aq_4 shX11_contract_24)) rfl (lvA3 hl) ?_
      refine lv_bipush (v := 112) hx hb (oc_16 29 (aq_5 shX11_contract_24) sgb_112) kbc_112 ?_
      have hFc := free_all hD hS hA
      refine va_callq (runV_xa (As := [.ref (g 5), .int (nI n0), .int 112]) (rest := []) S (q_Rread l D cI cB cZ zz qq vv bt g ad cn In Fn n0 112 s.heap.size hB ⟨by omega, by omega⟩ (by decide) hT hC hL) kV_RX11_158 hK hXS hS hFc hP hD 3 xo_3 rfl rfl ⟨Nat.le_of_ble_eq_true rfl, Nat.le_of_ble_eq_true rfl⟩ ⟨Nat.le_of_ble_eq_true rfl, Nat.le_of_ble_eq_true rfl⟩ rfl hl.1 rfl (Nat.le_of_ble_eq_true rfl) (oc_182 31 (aq_7 shX11_contract_24) uw_0_158)) hS (fun q _ h => hFc q h) hFc (fun r4 u4 t H1 locs ht hvm h4 hB1 hz1 hk1 hS => ?_)
      obtain ⟨hP1, hD1⟩ := hB1
      rw [ht] at hP1
      obtain ⟨a4, c4, I4, F4⟩ := u4
      obtain ⟨hfc4, hIn4, hr4, h64, h414, hfa4, h404, hC4, hL4⟩ := h4
      subst hr4
      have hfm4 : Fr [3, 6, 31, 32] [30, 33] [195, 196, 197, 198, 199, 301, 302, 303, 304, 305] cn In Fn c4 I4 F4 := Fr.mo hfc4 (sbl rfl) (sbl rfl) (sbl rfl)
      have hi_4 := hIn4
      have : c4 0 = cn 0 := hfc4.1 0 (nml rfl)
      have : c4 1 = cn 1 := hfc4.1 1 (nml rfl)
      have : c4 2 = cn 2 := hfc4.1 2 (nml rfl)
      have : c4 3 = cn 3 := hfc4.1 3 (nml rfl)
      have : c4 4 = cn 4 := hfc4.1 4 (nml rfl)
      have : c4 5 = cn 5 := hfc4.1 5 (nml rfl)
      have : c4 10 = cn 10 := hfc4.1 10 (nml rfl)
      have : c4 11 = cn 11 := hfc4.1 11 (nml rfl)
      have : c4 12 = cn 12 := hfc4.1 12 (nml rfl)
      have : c4 13 = cn 13 := hfc4.1 13 (nml rfl)
      have : c4 14 = cn 14 := hfc4.1 14 (nml rfl)
      have : c4 15 = cn 15 := hfc4.1 15 (nml rfl)
      have : c4 20 = cn 20 := hfc4.1 20 (nml rfl)
      have : c4 21 = cn 21 := hfc4.1 21 (nml rfl)
      have : c4 22 = cn 22 := hfc4.1 22 (nml rfl)
      have : c4 23 = cn 23 := hfc4.1 23 (nml rfl)
      have : c4 24 = cn 24 := hfc4.1 24 (nml rfl)
      have : c4 25 = cn 25 := hfc4.1 25 (nml rfl)
      have h64 : c4 6 = cn 6 + 1 := h64
      have h414 : a4 4 1 = cn 6 := h414
      have h404 : a4 4 0 = ad 4 0 := h404
      have hfa4 : ∀ i k : Nat, i ∉ [4, 5, 60, 61, 62, 63, 64] → a4 i k = ad i k := hfa4
      have hC4 : ∀ k : Nat, k < c4 6 → ∃ n : Nat, n ≤ 12 ∧ F4 198 k = nI n := hC4
      have hL4 : ∀ k : Nat, k < c4 6 → (F4 199 k).toInt ≤ 160 := hL4
      have hT0 := hT
      have hT : (∀ k : Nat, k < c4 10 → a4 3 k < c4 6) ∧ a4 4 0 < c4 6 ∧ a4 4 1 < c4 6 := ht_new hT0 (fun k => hfa4 3 k (by decide)) h404 h414 h64 (by omega)
      have hT9 := hT.2.2
      have hC := hC4
      have hL := hL4
      have hl : lv_has ls 5 [(3, .ref (a4 10 mr_1)), (0, .ref (g 0)), (1, .int v0), (2, .int (nI n0))] := by rw [hfa4 10 mr_1 (by decide)]; exact hl
      have hP : va_P D vwCl (wX cI (D.1 99) zz g a4 c4 I4 F4) H1 := hP1
      have hD : va_D A (wX cI (D.1 99) zz g a4 c4 I4 F4) := hD1.weaken (fun _ _ _ h => hFc _ h)
      generalize H1 = H at hP hS ⊢
      refine lv_astore (lv' := [(4, .ref (a4 5 (a4 4 1))), (3, .ref (a4 10 mr_1)), (0, .ref (g 0)), (1, .int v0), (2, .int (nI n0))]) hx hb (oc_58 34 (aq_10 shX11_contract_24) ub_4) hl (ltb rfl) rfl (fun ls hl => ?_)
      refine lv_aload_n hx hb (oc_42 36 (aq_12 shX11_contract_24)) rfl (lvA2 hl) ?_
      refine gf_RX11_21 S hK hP 0 xo_0 (v := .ref (g 5)) rfl (oc_180 37 (aq_13 shX11_contract_24) uw_0_21) ?_
      have hFc := free_all hD hS hA
      refine va_callv (runV_xa (As := []) (rest := []) S (q_Xclear l D cI cB cZ zz qq vv bt g a4 c4 I4 F4  H.size hIn4) kV_RX11_162 hK hXS hS hFc hP hD 1 xo_1 rfl rfl ⟨Nat.le_of_ble_eq_true rfl, Nat.le_of_ble_eq_true rfl⟩ ⟨Nat.le_of_ble_eq_true rfl, Nat.le_of_ble_eq_true rfl⟩ rfl hl.1 rfl (Nat.le_of_ble_eq_true rfl) (oc_182 40 (aq_16 shX11_contract_24) uw_0_162)) hS (fun q _ h => hFc q h) hFc (fun u t H1 locs ht hvm wh_7 hB1 hz1 hk1 hS => ?_)
      obtain ⟨cn7, In7, Fn7⟩ := u
      obtain ⟨hP1, hD1⟩ := hB1
      rw [ht] at hP1
      have hP : va_P D vwCl (wX cI (D.1 99) zz g a4 cn7 In7 Fn7) H1 := hP1
      have hD : va_D A (wX cI (D.1 99) zz g a4 cn7 In7 Fn7) := hD1.weaken (fun _ _ _ h => hFc _ h)
      generalize H1 = H at hP hS ⊢
      have vh_7 : (fun c2 I2 F2 => Fr [3] [] [] c4 I4 F4 c2 I2 F2 ∧ CBX c2 ∧ (c2 3 = 0)) cn7 In7 Fn7 := wh_7
      obtain ⟨hfc7, hIn7, h_7⟩ := vh_7
      obtain rfl : I4 = In7 := (funext (fun k => hfc7.2.1 k List.not_mem_nil)).symm
      obtain rfl : F4 = Fn7 := (funext (fun k => hfc7.2.2 k List.not_mem_nil)).symm
      have hf7 : Fr [3, 6, 31, 32] [30, 33] [195, 196, 197, 198, 199, 301, 302, 303, 304, 305] cn In Fn cn7 I4 F4 := Fr.mo (Fr.tr hfm4 hfc7) (sbl rfl) (sbl rfl) (sbl rfl)
      have : cn7 0 = (c4 0) := hfc7.1 0 (nml rfl)
      have : cn7 1 = (c4 1) := hfc7.1 1 (nml rfl)
      have : cn7 2 = (c4 2) := hfc7.1 2 (nml rfl)
      have : cn7 4 = (c4 4) := hfc7.1 4 (nml rfl)
      have : cn7 5 = (c4 5) := hfc7.1 5 (nml rfl)
      have : cn7 10 = (c4 10) := hfc7.1 10 (nml rfl)
      have : cn7 11 = (c4 11) := hfc7.1 11 (nml rfl)
      have : cn7 12 = (c4 12) := hfc7.1 12 (nml rfl)
      have : cn7 13 = (c4 13) := hfc7.1 13 (nml rfl)
      have : cn7 14 = (c4 14) := hfc7.1 14 (nml rfl)
      have : cn7 15 = (c4 15) := hfc7.1 15 (nml rfl)
      have : cn7 20 = (c4 20) := hfc7.1 20 (nml rfl)
      have : cn7 21 = (c4 21) := hfc7.1 21 (nml rfl)
      have : cn7 22 = (c4 22) := hfc7.1 22 (nml rfl)
      have : cn7 23 = (c4 23) := hfc7.1 23 (nml rfl)
      have : cn7 24 = (c4 24) := hfc7.1 24 (nml rfl)
      have : cn7 25 = (c4 25) := hfc7.1 25 (nml rfl)
      have : cn7 6 = (c4 6) := hfc7.1 6 (nml rfl)
      have : cn7 31 = (c4 31) := hfc7.1 31 (nml rfl)
      have : cn7 32 = (c4 32) := hfc7.1 32 (nml rfl)
      refine lv_aload_n hx hb (oc_42 43 (aq_19 shX11_contract_24)) rfl (lvA2 hl) ?_
      refine gf_RX11_28 S hK hP 0 xo_0 (v := .ref (g 6)) rfl (oc_180 44 (aq_20 shX11_contract_24) uw_0_28) ?_
      refine gf_RX11_165 S hK hP 3 xo_3 (v := .int (I4 33)) rfl (oc_180 47 (aq_23 shX11_contract_24) uw_0_165) ?_
      refine lv_if_eq (tgt := 62) hx hb (oc_153 50 shX11_contract_50 sgw_0_12) rfl (fun c_8 => ?_) (fun c_8 => ?_)
      ·
        have tc_8 : ((I4 33).toInt : Int) = 0 := congrArg Int32.toInt c_8
        refine lv_aload_n hx hb (oc_45 62 (aq_12 shX11_contract_50)) rfl (lvA1 hl) ?_
        refine lv_aload hx hb (oc_25 63 (aq_13 shX11_contract_50) ub_4) (lvA0 hl) ?_
        refine pf_RX11_168 S hK hP hD hS _ (xf_0 (show mr_1 < (cn7 10) by omega)) (v := .ref (a4 5 (a4 4 1))) (Nat.le_of_ble_eq_true rfl) rfl rfl (oc_181 65 (aq_15 shX11_contract_50) uw_0_168) (fun H locs hP hD hS => ?_)
        have hP : va_P D vwCl (wX cI (D.1 99) zz g (adO a4 3 mr_1 (a4 4 1)) cn7 I4 F4) H := va_P_eq (xK3 (by omega)) hP
        have hD : va_D A (wX cI (D.1 99) zz g (adO a4 3 mr_1 (a4 4 1)) cn7 I4 F4) := va_D_eq (xK3 (by omega)) hD
        refine lv_aload hx hb (oc_25 68 (aq_18 shX11_contract_50) ub_4) (lvA0 hl) ?_
        refine gf_RX11_171 S hK hP _ (xf_7 (show (a4 4 1) < (cn7 6) by omega)) (v := .int ((F4 198) (a4 4 1))) rfl (oc_180 70 (aq_20 shX11_contract_50) uw_0_171) ?_
        have hT9 : (∀ k : Nat, k < cn7 10 → a4 3 k < cn7 6) ∧ a4 4 0 < cn7 6 ∧ a4 4 1 < cn7 6 := by
          have e6 : cn7 6 = c4 6 := by omega
          have e10 : cn7 10 = c4 10 := by omega
          rw [e6, e10]; exact hT
        have hC9 : ∀ k : Nat, k < cn7 6 → ∃ n : Nat, n ≤ 12 ∧ F4 198 k = nI n := fun k hk => hC k (by omega)
        have hL9 : ∀ k : Nat, k < cn7 6 → (F4 199 k).toInt ≤ 160 := fun k hk => hL k (by omega)
        exact W.iret (v := ((F4 198) (a4 4 1))) hx hb hr (fun t ht hW => ⟨⟨((F4 198) (a4 4 1)), ((adO a4 3 mr_1 (a4 4 1)), cn7, I4, F4), rfl, ⟨(Fr.mo hf7 (sbl rfl) (sbl rfl) (sbl rfl)), hIn7, (@ht_k3 a4 cn7 mr_1 (a4 4 1) hT9 hT9.2.2), hC9, hL9, (fun i k hi => (if_neg (fun q => hi (by rw [q.1]; decide))).trans (hfa4 i k (fun q => hi (List.mem_cons_of_mem _ q)))), (by show ((0 ≤ v0.toInt ∧ v0.toInt < (cn 10 : Int) ∧ 1 ≤ (nI n0).toInt ∧ (nI n0).toInt ≤ 160 ∧ (nI n0).toInt ≤ (cn 3 : Int)) ∧ (cn7 3) = 0) ∨ (¬ (0 ≤ v0.toInt ∧ v0.toInt < (cn 10 : Int) ∧ 1 ≤ (nI n0).toInt ∧ (nI n0).toInt ≤ 160 ∧ (nI n0).toInt ≤ (cn 3 : Int)) ∧ (cn7 3) = cn 3); omega)⟩, by rw [ht]; exact hP, hD⟩, hS.F ht⟩) hS.2.2 (oc_172 73 (aq_23 shX11_contract_50))
      ·
        have tc_8 : ((I4 33).toInt : Int) ≠ 0 := fun q => c_8 (Int32.toInt_inj.mp q)
        refine lv_aload_n hx hb (oc_42 53 (aq_3 shX11_contract_50)) rfl (lvA2 hl) ?_
        refine gf_RX11_28 S hK hP 0 xo_0 (v := .ref (g 6)) rfl (oc_180 54 (aq_4 shX11_contract_50) uw_0_28) ?_
        refine gf_RX11_165 S hK hP 3 xo_3 (v := .int (I4 33)) rfl (oc_180 57 (aq_7 shX11_contract_50) uw_0_165) ?_
        refine lv_ineg hx hb (oc_116 60 (aq_10 shX11_contract_50)) ?_
        have hT9 : (∀ k : Nat, k < cn7 10 → a4 3 k < cn7 6) ∧ a4 4 0 < cn7 6 ∧ a4 4 1 < cn7 6 := by
          have e6 : cn7 6 = c4 6 := by omega
          have e10 : cn7 10 = c4 10 := by omega
          rw [e6, e10]; exact hT
        have hC9 : ∀ k : Nat, k < cn7 6 → ∃ n : Nat, n ≤ 12 ∧ F4 198 k = nI n := fun k hk => hC k (by omega)
        have hL9 : ∀ k : Nat, k < cn7 6 → (F4 199 k).toInt ≤ 160 := fun k hk => hL k (by omega)
        exact W.iret (v := (-(I4 33))) hx hb hr (fun t ht hW => ⟨⟨(-(I4 33)), (a4, cn7, I4, F4), rfl, ⟨(Fr.mo hf7 (sbl rfl) (sbl rfl) (sbl rfl)), hIn7, hT9, hC9, hL9, (fun i k hi => hfa4 i k (fun q => hi (List.mem_cons_of_mem _ q))), (by show ((0 ≤ v0.toInt ∧ v0.toInt < (cn 10 : Int) ∧ 1 ≤ (nI n0).toInt ∧ (nI n0).toInt ≤ 160 ∧ (nI n0).toInt ≤ (cn 3 : Int)) ∧ (cn7 3) = 0) ∨ (¬ (0 ≤ v0.toInt ∧ v0.toInt < (cn 10 : Int) ∧ 1 ≤ (nI n0).toInt ∧ (nI n0).toInt ≤ 160 ∧ (nI n0).toInt ≤ (cn 3 : Int)) ∧ (cn7 3) = cn 3); omega)⟩, by rw [ht]; exact hP, hD⟩, hS.F ht⟩) hS.2.2 (oc_172 61 (aq_11 shX11_contract_50))
    ·
      have h_4 : ¬ (1 ≤ v1.toInt ∧ v1.toInt ≤ 160 ∧ v1.toInt ≤ ((cn 3) : Int)) := h_4
      refine lv_if_ne (tgt := 20) hx hb dX11_contract_15 rfl (fun h => absurd h cq_eq_0_0) (fun _ => ?_)
      refine lv_iconst (v := (-1)) hx hb dX11_contract_18 kic_m1 ?_
      refine W.widen (k := 6) (n := 237) (Nat.le_of_ble_eq_true rfl) (Nat.le_of_ble_eq_true rfl) ?_
      exact W.iret (v := (-1)) hx hb hr (fun t ht hW => ⟨⟨(-1), (ad, cn, In, Fn), rfl, ⟨(Fr.mo (Fr.rf (cn := cn) (In := In) (Fn := Fn)) (sbl rfl) (sbl rfl) (sbl rfl)), hB, hT, hC, hL, fun _ _ _ => rfl, (by show ((0 ≤ v0.toInt ∧ v0.toInt < (cn 10 : Int) ∧ 1 ≤ v1.toInt ∧ v1.toInt ≤ 160 ∧ v1.toInt ≤ (cn 3 : Int)) ∧ (cn 3) = 0) ∨ (¬ (0 ≤ v0.toInt ∧ v0.toInt < (cn 10 : Int) ∧ 1 ≤ v1.toInt ∧ v1.toInt ≤ 160 ∧ v1.toInt ≤ (cn 3 : Int)) ∧ (cn 3) = cn 3); omega)⟩, by rw [ht]; exact hP, hD⟩, hS.F ht⟩) hS.2.2 dX11_contract_19
  ·
    refine lv_astore_nN (lv' := [(3, .null), (0, .ref (g 0)), (1, .int v0), (2, .int v1)]) hx hb dX11_contract_5 rfl hl (ltb rfl) rfl (fun ls hl => ?_)
    refine lv_aload_nN hx hb dX11_contract_6 rfl (lvA0 hl) ?_
    refine lv_ifnullN (tgt := 18) hx hb dX11_contract_7 rfl ?_
    refine lv_iconst (v := (-1)) hx hb dX11_contract_18 kic_m1 ?_
    refine W.widen (k := 6) (n := 237) (Nat.le_of_ble_eq_true rfl) (Nat.le_of_ble_eq_true rfl) ?_
    exact W.iret (v := (-1)) hx hb hr (fun t ht hW => ⟨⟨(-1), (ad, cn, In, Fn), rfl, ⟨(Fr.mo (Fr.rf (cn := cn) (In := In) (Fn := Fn)) (sbl rfl) (sbl rfl) (sbl rfl)), hB, hT, hC, hL, fun _ _ _ => rfl, (by show ((0 ≤ v0.toInt ∧ v0.toInt < (cn 10 : Int) ∧ 1 ≤ v1.toInt ∧ v1.toInt ≤ 160 ∧ v1.toInt ≤ (cn 3 : Int)) ∧ (cn 3) = 0) ∨ (¬ (0 ≤ v0.toInt ∧ v0.toInt < (cn 10 : Int) ∧ 1 ≤ v1.toInt ∧ v1.toInt ≤ 160 ∧ v1.toInt ≤ (cn 3 : Int)) ∧ (cn 3) = cn 3); omega)⟩, by rw [ht]; exact hP, hD⟩, hS.F ht⟩) hS.2.2 dX11_contract_19
set_option maxRecDepth 100000 in
set_option maxHeartbeats 4000000 in
theorem q_Elaw (l : Launch) (D : va_G) (cI cB cZ : ClassId) (zz qq vv : Nat) (bt : Nat → Int32) (g : Nat → Nat) (ad : Nat → Nat → Nat) (cn : Nat → Nat) (In : Nat → Int32) (Fn : Nat → Nat → Int32) (v0 : Int32) (sz : Nat) (hB : CBX cn) (hT : (∀ k : Nat, k < cn 10 → ad 3 k < cn 6) ∧ ad 4 0 < cn 6 ∧ ad 4 1 < cn 6) (hC : ∀ k : Nat, k < cn 6 → ∃ n : Nat, n ≤ 12 ∧ Fn 198 k = nI n) (hL : ∀ k : Nat, k < cn 6 → (Fn 199 k).toInt ≤ 160) : Met l yX11_law (CWS yX11_law cX11_law 3 (some .int)) (RM 27 6 237) (PBx [.ref (g 0), .int v0] D cI cB cZ zz qq vv bt (wX cI (D.1 99) zz g ad cn In Fn) sz) (va_Qi (fun (r : Int32) (u : (Nat → Nat → Nat) × (Nat → Nat) × (Nat → Int32) × (Nat → Nat → Int32)) => (fun r a2 c2 I2 F2 => Fr [3, 6, 31, 32] [30, 33] [195, 196, 197, 198, 199, 301, 302, 303, 304, 305] cn In Fn c2 I2 F2 ∧ CBX c2 ∧ ((∀ k : Nat, k < c2 10 → a2 3 k < c2 6) ∧ a2 4 0 < c2 6 ∧ a2 4 1 < c2 6) ∧ (∀ k : Nat, k < c2 6 → ∃ n : Nat, n ≤ 12 ∧ F2 198 k = nI n) ∧ (∀ k : Nat, k < c2 6 → (F2 199 k).toInt ≤ 160) ∧ (∀ i k : Nat, i ∉ [3, 4, 5, 60, 61, 62, 63, 64] → a2 i k = ad i k) ∧ (((1 ≤ v0.toInt ∧ v0.toInt ≤ 160 ∧ v0.toInt ≤ (cn 3 : Int)) ∧ c2 3 = 0) ∨ (¬ (1 ≤ v0.toInt ∧ v0.toInt ≤ 160 ∧ v0.toInt ≤ (cn 3 : Int)) ∧ c2 3 = cn 3))) r u.1 u.2.1 u.2.2.1 u.2.2.2) (fun (u : (Nat → Nat → Nat) × (Nat → Nat) × (Nat → Int32) × (Nat → Nat → Int32)) (t : State) => va_P D vwCl (wX cI (D.1 99) zz g u.1 u.2.1 u.2.2.1 u.2.2.2) t.heap ∧ va_D (va_A (wX cI (D.1 99) zz g ad cn In Fn) sz) (wX cI (D.1 99) zz g u.1 u.2.1 u.2.2.1 u.2.2.2)) (va_A (wX cI (D.1 99) zz g ad cn In Fn) sz)) 6 237 (va_A (wX cI (D.1 99) zz g ad cn In Fn) sz) := by
  refine en_x (fun A => (va_Qi (fun (r : Int32) (u : (Nat → Nat → Nat) × (Nat → Nat) × (Nat → Int32) × (Nat → Nat → Int32)) => (fun (r : Int32) (a2 : Nat → Nat → Nat) (c2 : Nat → Nat) (I2 : Nat → Int32) (F2 : Nat → Nat → Int32) => Fr [3, 6, 31, 32] [30, 33] [195, 196, 197, 198, 199, 301, 302, 303, 304, 305] cn In Fn c2 I2 F2 ∧ CBX c2 ∧ ((∀ k : Nat, k < c2 10 → a2 3 k < c2 6) ∧ a2 4 0 < c2 6 ∧ a2 4 1 < c2 6) ∧ (∀ k : Nat, k < c2 6 → ∃ n : Nat, n ≤ 12 ∧ F2 198 k = nI n) ∧ (∀ k : Nat, k < c2 6 → (F2 199 k).toInt ≤ 160) ∧ (∀ i k : Nat, i ∉ [3, 4, 5, 60, 61, 62, 63, 64] → a2 i k = ad i k) ∧ (((1 ≤ v0.toInt ∧ v0.toInt ≤ 160 ∧ v0.toInt ≤ (cn 3 : Int)) ∧ c2 3 = 0) ∨ (¬ (1 ≤ v0.toInt ∧ v0.toInt ≤ 160 ∧ v0.toInt ≤ (cn 3 : Int)) ∧ c2 3 = cn 3))) r u.1 u.2.1 u.2.2.1 u.2.2.2) (fun (u : (Nat → Nat → Nat) × (Nat → Nat) × (Nat → Int32) × (Nat → Nat → Int32)) (t : State) => va_P D vwCl (wX cI (D.1 99) zz g u.1 u.2.1 u.2.2.1 u.2.2.2) t.heap ∧ va_D A (wX cI (D.1 99) zz g u.1 u.2.1 u.2.2.1 u.2.2.2)) A)) rfl rfl pn_RX11 (Nat.le_of_ble_eq_true rfl) (fun p e s m below meth c A hx hb hml hown S hr hlocks hnm hA hP hK hD hXS hS ls hl => ?_)
  have hl : lv_has ls 3 [(0, .ref (g 0)), (1, .int v0)] := hl
  refine lv_aload_n hx hb (oc_42 0 shX11_law_0) rfl (lvA0 hl) ?_
  refine lv_iload_n hx hb (oc_27 1 (aq_1 shX11_law_0)) rfl (lvA1 hl) ?_
  refine vp_callSi (runV_rxa (As := [.int v0]) (rest := []) S (q_XisText l D cI cB cZ zz qq vv bt g ad cn In Fn v0 hB) kV_RX11_155 hK hXS hS hP 0 xo_0 rfl rfl ⟨Nat.le_of_ble_eq_true rfl, Nat.le_of_ble_eq_true rfl⟩ ⟨Nat.le_of_ble_eq_true rfl, Nat.le_of_ble_eq_true rfl⟩ rfl hl.1 rfl (Nat.le_of_ble_eq_true rfl) (oc_182 2 (aq_2 shX11_law_0) uw_0_155)) (fun r_21 h_22 => ?_)
  rcases h_22 with ⟨rfl, h_22⟩ | ⟨rfl, h_22⟩
  ·
    have h_22 : 1 ≤ v0.toInt ∧ v0.toInt ≤ 160 ∧ v0.toInt ≤ ((cn 3) : Int) := h_22
    refine lv_if_ne (tgt := 10) hx hb dX11_law_5 rfl (fun _ => ?_) (fun h => absurd h cq_eq_1_0)
    obtain ⟨n0, hn0, rfl⟩ := nI_of (x := v0) (fun q => by have := Int32.lt_iff_toInt_lt.mp q; have e : (0 : Int32).toInt = 0 := rfl; omega)
    have tn0 : (nI n0).toInt = (n0 : Int) := nI_toInt hn0
    have zn0 : (nI n0).toInt.toNat = n0 := by omega
    refine lv_aload_n hx hb (oc_42 10 (aq_10 shX11_law_0)) rfl (lvA0 hl) ?_
    refine gf_RX11_28 S hK hP 0 xo_0 (v := .ref (g 6)) rfl (oc_180 11 (aq_11 shX11_law_0) uw_0_28) ?_
    refine lv_aload_n hx hb (oc_42 14 (aq_14 shX11_law_0)) rfl (lvA0 hl) ?_
    refine gf_RX11_21 S hK hP 0 xo_0 (v := .ref (g 5)) rfl (oc_180 15 (aq_15 shX11_law_0) uw_0_21) ?_
    refine lv_iload_n hx hb (oc_27 18 (aq_18 shX11_law_0)) rfl (lvA1 hl) ?_
    refine lv_bipush (v := 108) hx hb (oc_16 19 (aq_19 shX11_law_0) sgb_108) kbc_108 ?_
    have hFc := free_all hD hS hA
    refine va_callq (runV_xa (As := [.ref (g 5), .int (nI n0), .int 108]) (rest := []) S (q_Rread l D cI cB cZ zz qq vv bt g ad cn In Fn n0 108 s.heap.size hB ⟨by omega, by omega⟩ (by decide) hT hC hL) kV_RX11_158 hK hXS hS hFc hP hD 3 xo_3 rfl rfl ⟨Nat.le_of_ble_eq_true rfl, Nat.le_of_ble_eq_true rfl⟩ ⟨Nat.le_of_ble_eq_true rfl, Nat.le_of_ble_eq_true rfl⟩ rfl hl.1 rfl (Nat.le_of_ble_eq_true rfl) (oc_182 21 (aq_21 shX11_law_0) uw_0_158)) hS (fun q _ h => hFc q h) hFc (fun r22 u22 t H1 locs ht hvm h22 hB1 hz1 hk1 hS => ?_)
    obtain ⟨hP1, hD1⟩ := hB1
    rw [ht] at hP1
    obtain ⟨a22, c22, I22, F22⟩ := u22
    obtain ⟨hfc22, hIn22, hr22, h622, h4122, hfa22, h4022, hC22, hL22⟩ := h22
    subst hr22
    have hfm22 : Fr [3, 6, 31, 32] [30, 33] [195, 196, 197, 198, 199, 301, 302, 303, 304, 305] cn In Fn c22 I22 F22 := Fr.mo hfc22 (sbl rfl) (sbl rfl) (sbl rfl)
    have hi_22 := hIn22
    have : c22 0 = cn 0 := hfc22.1 0 (nml rfl)
    have : c22 1 = cn 1 := hfc22.1 1 (nml rfl)
    have : c22 2 = cn 2 := hfc22.1 2 (nml rfl)
    have : c22 3 = cn 3 := hfc22.1 3 (nml rfl)
    have : c22 4 = cn 4 := hfc22.1 4 (nml rfl)
    have : c22 5 = cn 5 := hfc22.1 5 (nml rfl)
    have : c22 10 = cn 10 := hfc22.1 10 (nml rfl)
    have : c22 11 = cn 11 := hfc22.1 11 (nml rfl)
    have : c22 12 = cn 12 := hfc22.1 12 (nml rfl)
    have : c22 13 = cn 13 := hfc22.1 13 (nml rfl)
    have : c22 14 = cn 14 := hfc22.1 14 (nml rfl)
    have : c22 15 = cn 15 := hfc22.1 15 (nml rfl)
    have : c22 20 = cn 20 := hfc22.1 20 (nml rfl)
    have : c22 21 = cn 21 := hfc22.1 21 (nml rfl)
    have : c22 22 = cn 22 := hfc22.1 22 (nml rfl)
    have : c22 23 = cn 23 := hfc22.1 23 (nml rfl)
    have : c22 24 = cn 24 := hfc22.1 24 (nml rfl)
    have : c22 25 = cn 25 := hfc22.1 25 (nml rfl)
    have h622 : c22 6 = cn 6 + 1 := h622
    have h4122 : a22 4 1 = cn 6 := h4122
    have h4022 : a22 4 0 = ad 4 0 := h4022
    have hfa22 : ∀ i k : Nat, i ∉ [4, 5, 60, 61, 62, 63, 64] → a22 i k = ad i k := hfa22
    have hC22 : ∀ k : Nat, k < c22 6 → ∃ n : Nat, n ≤ 12 ∧ F22 198 k = nI n := hC22
    have hL22 : ∀ k : Nat, k < c22 6 → (F22 199 k).toInt ≤ 160 := hL22
    have hT0 := hT
    have hT : (∀ k : Nat, k < c22 10 → a22 3 k < c22 6) ∧ a22 4 0 < c22 6 ∧ a22 4 1 < c22 6 := ht_new hT0 (fun k => hfa22 3 k (by decide)) h4022 h4122 h622 (by omega)
    have hT9 := hT.2.2
    have hC := hC22
    have hL := hL22
    have hP : va_P D vwCl (wX cI (D.1 99) zz g a22 c22 I22 F22) H1 := hP1
    have hD : va_D A (wX cI (D.1 99) zz g a22 c22 I22 F22) := hD1.weaken (fun _ _ _ h => hFc _ h)
    generalize H1 = H at hP hS ⊢
    refine lv_astore_n (lv' := [(2, .ref (a22 5 (a22 4 1))), (0, .ref (g 0)), (1, .int (nI n0))]) hx hb (oc_77 24 shX11_law_24) rfl hl (ltb rfl) rfl (fun ls hl => ?_)
    refine lv_aload_n hx hb (oc_42 25 (aq_1 shX11_law_24)) rfl (lvA1 hl) ?_
    refine gf_RX11_21 S hK hP 0 xo_0 (v := .ref (g 5)) rfl (oc_180 26 (aq_2 shX11_law_24) uw_0_21) ?_
    have hFc := free_all hD hS hA
    refine va_callv (runV_xa (As := []) (rest := []) S (q_Xclear l D cI cB cZ zz qq vv bt g a22 c22 I22 F22  H.size hIn22) kV_RX11_162 hK hXS hS hFc hP hD 1 xo_1 rfl rfl ⟨Nat.le_of_ble_eq_true rfl, Nat.le_of_ble_eq_true rfl⟩ ⟨Nat.le_of_ble_eq_true rfl, Nat.le_of_ble_eq_true rfl⟩ rfl hl.1 rfl (Nat.le_of_ble_eq_true rfl) (oc_182 29 (aq_5 shX11_law_24) uw_0_162)) hS (fun q _ h => hFc q h) hFc (fun u t H1 locs ht hvm wh_25 hB1 hz1 hk1 hS => ?_)
    obtain ⟨cn25, In25, Fn25⟩ := u
    obtain ⟨hP1, hD1⟩ := hB1
    rw [ht] at hP1
    have hP : va_P D vwCl (wX cI (D.1 99) zz g a22 cn25 In25 Fn25) H1 := hP1
    have hD : va_D A (wX cI (D.1 99) zz g a22 cn25 In25 Fn25) := hD1.weaken (fun _ _ _ h => hFc _ h)
    generalize H1 = H at hP hS ⊢
    have vh_25 : (fun c2 I2 F2 => Fr [3] [] [] c22 I22 F22 c2 I2 F2 ∧ CBX c2 ∧ (c2 3 = 0)) cn25 In25 Fn25 := wh_25
    obtain ⟨hfc25, hIn25, h_25⟩ := vh_25
    obtain rfl : I22 = In25 := (funext (fun k => hfc25.2.1 k List.not_mem_nil)).symm
    obtain rfl : F22 = Fn25 := (funext (fun k => hfc25.2.2 k List.not_mem_nil)).symm
    have hf25 : Fr [3, 6, 31, 32] [30, 33] [195, 196, 197, 198, 199, 301, 302, 303, 304, 305] cn In Fn cn25 I22 F22 := Fr.mo (Fr.tr hfm22 hfc25) (sbl rfl) (sbl rfl) (sbl rfl)
    have : cn25 0 = (c22 0) := hfc25.1 0 (nml rfl)
    have : cn25 1 = (c22 1) := hfc25.1 1 (nml rfl)
    have : cn25 2 = (c22 2) := hfc25.1 2 (nml rfl)
    have : cn25 4 = (c22 4) := hfc25.1 4 (nml rfl)
    have : cn25 5 = (c22 5) := hfc25.1 5 (nml rfl)
    have : cn25 10 = (c22 10) := hfc25.1 10 (nml rfl)
    have : cn25 11 = (c22 11) := hfc25.1 11 (nml rfl)
    have : cn25 12 = (c22 12) := hfc25.1 12 (nml rfl)
    have : cn25 13 = (c22 13) := hfc25.1 13 (nml rfl)
    have : cn25 14 = (c22 14) := hfc25.1 14 (nml rfl)
    have : cn25 15 = (c22 15) := hfc25.1 15 (nml rfl)
    have : cn25 20 = (c22 20) := hfc25.1 20 (nml rfl)
    have : cn25 21 = (c22 21) := hfc25.1 21 (nml rfl)
    have : cn25 22 = (c22 22) := hfc25.1 22 (nml rfl)
    have : cn25 23 = (c22 23) := hfc25.1 23 (nml rfl)
    have : cn25 24 = (c22 24) := hfc25.1 24 (nml rfl)
    have : cn25 25 = (c22 25) := hfc25.1 25 (nml rfl)
    have : cn25 6 = (c22 6) := hfc25.1 6 (nml rfl)
    have : cn25 31 = (c22 31) := hfc25.1 31 (nml rfl)
    have : cn25 32 = (c22 32) := hfc25.1 32 (nml rfl)
    refine lv_aload_n hx hb (oc_42 32 (aq_8 shX11_law_24)) rfl (lvA1 hl) ?_
    refine gf_RX11_28 S hK hP 0 xo_0 (v := .ref (g 6)) rfl (oc_180 33 (aq_9 shX11_law_24) uw_0_28) ?_
    refine gf_RX11_165 S hK hP 3 xo_3 (v := .int (I22 33)) rfl (oc_180 36 (aq_12 shX11_law_24) uw_0_165) ?_
    refine lv_if_eq (tgt := 51) hx hb (oc_153 39 (aq_15 shX11_law_24) sgw_0_12) rfl (fun c_26 => ?_) (fun c_26 => ?_)
    ·
      have tc_26 : ((I22 33).toInt : Int) = 0 := congrArg Int32.toInt c_26
      refine lv_aload_n hx hb (oc_42 51 (aq_2 shX11_law_49)) rfl (lvA1 hl) ?_
      refine lv_aload_n hx hb (oc_44 52 (aq_3 shX11_law_49)) rfl (lvA0 hl) ?_
      refine pf_RX11_12 S hK hP hD hS 0 xo_0 (v := .ref (a22 5 (a22 4 1))) (Nat.le_of_ble_eq_true rfl) rfl rfl (oc_181 53 (aq_4 shX11_law_49) uw_0_12) (fun H locs hP hD hS => ?_)
      have hP : va_P D vwCl (wX cI (D.1 99) zz g (adO a22 4 0 (a22 4 1)) cn25 I22 F22) H := va_P_eq xH40 hP
      have hD : va_D A (wX cI (D.1 99) zz g (adO a22 4 0 (a22 4 1)) cn25 I22 F22) := va_D_eq xH40 hD
      refine lv_aload_n hx hb (oc_44 56 (aq_7 shX11_law_49)) rfl (lvA0 hl) ?_
      refine gf_RX11_171 S hK hP _ (xf_7 (show (a22 4 1) < (cn25 6) by omega)) (v := .int ((F22 198) (a22 4 1))) rfl (oc_180 57 (aq_8 shX11_law_49) uw_0_171) ?_
      have hT9 : (∀ k : Nat, k < cn25 10 → a22 3 k < cn25 6) ∧ a22 4 0 < cn25 6 ∧ a22 4 1 < cn25 6 := by
        have e6 : cn25 6 = c22 6 := by omega
        have e10 : cn25 10 = c22 10 := by omega
        rw [e6, e10]; exact hT
      have hC9 : ∀ k : Nat, k < cn25 6 → ∃ n : Nat, n ≤ 12 ∧ F22 198 k = nI n := fun k hk => hC k (by omega)
      have hL9 : ∀ k : Nat, k < cn25 6 → (F22 199 k).toInt ≤ 160 := fun k hk => hL k (by omega)
      exact W.iret (v := ((F22 198) (a22 4 1))) hx hb hr (fun t ht hW => ⟨⟨((F22 198) (a22 4 1)), ((adO a22 4 0 (a22 4 1)), cn25, I22, F22), rfl, ⟨(Fr.mo hf25 (sbl rfl) (sbl rfl) (sbl rfl)), hIn25, (@ht_l a22 cn25 (a22 4 1) hT9 hT9.2.2), hC9, hL9, (fun i k hi => (if_neg (fun q => hi (by rw [q.1]; decide))).trans (hfa22 i k (fun q => hi (List.mem_cons_of_mem _ q)))), (by show ((1 ≤ (nI n0).toInt ∧ (nI n0).toInt ≤ 160 ∧ (nI n0).toInt ≤ (cn 3 : Int)) ∧ (cn25 3) = 0) ∨ (¬ (1 ≤ (nI n0).toInt ∧ (nI n0).toInt ≤ 160 ∧ (nI n0).toInt ≤ (cn 3 : Int)) ∧ (cn25 3) = cn 3); omega)⟩, by rw [ht]; exact hP, hD⟩, hS.F ht⟩) hS.2.2 (oc_172 60 (aq_11 shX11_law_49))
    ·
      have tc_26 : ((I22 33).toInt : Int) ≠ 0 := fun q => c_26 (Int32.toInt_inj.mp q)
      refine lv_aload_n hx hb (oc_42 42 (aq_18 shX11_law_24)) rfl (lvA1 hl) ?_
      refine gf_RX11_28 S hK hP 0 xo_0 (v := .ref (g 6)) rfl (oc_180 43 (aq_19 shX11_law_24) uw_0_28) ?_
      refine gf_RX11_165 S hK hP 3 xo_3 (v := .int (I22 33)) rfl (oc_180 46 (aq_22 shX11_law_24) uw_0_165) ?_
      refine lv_ineg hx hb (oc_116 49 shX11_law_49) ?_
      have hT9 : (∀ k : Nat, k < cn25 10 → a22 3 k < cn25 6) ∧ a22 4 0 < cn25 6 ∧ a22 4 1 < cn25 6 := by
        have e6 : cn25 6 = c22 6 := by omega
        have e10 : cn25 10 = c22 10 := by omega
        rw [e6, e10]; exact hT
      have hC9 : ∀ k : Nat, k < cn25 6 → ∃ n : Nat, n ≤ 12 ∧ F22 198 k = nI n := fun k hk => hC k (by omega)
      have hL9 : ∀ k : Nat, k < cn25 6 → (F22 199 k).toInt ≤ 160 := fun k hk => hL k (by omega)
      exact W.iret (v := (-(I22 33))) hx hb hr (fun t ht hW => ⟨⟨(-(I22 33)), (a22, cn25, I22, F22), rfl, ⟨(Fr.mo hf25 (sbl rfl) (sbl rfl) (sbl rfl)), hIn25, hT9, hC9, hL9, (fun i k hi => hfa22 i k (fun q => hi (List.mem_cons_of_mem _ q))), (by show ((1 ≤ (nI n0).toInt ∧ (nI n0).toInt ≤ 160 ∧ (nI n0).toInt ≤ (cn 3 : Int)) ∧ (cn25 3) = 0) ∨ (¬ (1 ≤ (nI n0).toInt ∧ (nI n0).toInt ≤ 160 ∧ (nI n0).toInt ≤ (cn 3 : Int)) ∧ (cn25 3) = cn 3); omega)⟩, by rw [ht]; exact hP, hD⟩, hS.F ht⟩) hS.2.2 (oc_172 50 (aq_1 shX11_law_49))
  ·
    have h_22 : ¬ (1 ≤ v0.toInt ∧ v0.toInt ≤ 160 ∧ v0.toInt ≤ ((cn 3) : Int)) := h_22
    refine lv_if_ne (tgt := 10) hx hb dX11_law_5 rfl (fun h => absurd h cq_eq_0_0) (fun _ => ?_)
    refine lv_iconst (v := (-1)) hx hb (oc_2 8 (aq_8 shX11_law_0)) kic_m1 ?_
    refine W.widen (k := 6) (n := 237) (Nat.le_of_ble_eq_true rfl) (Nat.le_of_ble_eq_true rfl) ?_
    exact W.iret (v := (-1)) hx hb hr (fun t ht hW => ⟨⟨(-1), (ad, cn, In, Fn), rfl, ⟨(Fr.mo (Fr.rf (cn := cn) (In := In) (Fn := Fn)) (sbl rfl) (sbl rfl) (sbl rfl)), hB, hT, hC, hL, fun _ _ _ => rfl, (by show ((1 ≤ v0.toInt ∧ v0.toInt ≤ 160 ∧ v0.toInt ≤ (cn 3 : Int)) ∧ (cn 3) = 0) ∨ (¬ (1 ≤ v0.toInt ∧ v0.toInt ≤ 160 ∧ v0.toInt ≤ (cn 3 : Int)) ∧ (cn 3) = cn 3); omega)⟩, by rw [ht]; exact hP, hD⟩, hS.F ht⟩) hS.2.2 (oc_172 9 (aq_9 shX11_law_0))
