

set_option maxRecDepth 100000 in
set_option maxHeartbeats 4000000 in
theorem q_XsampleM (l : Launch) (D : va_G) (cI cB cZ : ClassId) (zz qq vv : Nat) (bt : Nat → Int32) (g : Nat → Nat) (ad : Nat → Nat → Nat) (cn : Nat → Nat) (In : Nat → Int32) (Fn : Nat → Nat → Int32) (v0 v1 : Int32) (sz : Nat) (hB : CBX cn) (hM : ∀ k : Nat, k < cn 12 → ∃ n : Nat, n ≤ 12 ∧ Fn 143 k = nI n) : Met l yX11_sample (CWS yX11_sample cX11_sample 4 (some .int)) (RM 4 0 0) (PBx [.ref (g 0), .int v0, .int v1] D cI cB cZ zz qq vv bt (wX cI (D.1 99) zz g ad cn In Fn) sz) (va_Qi (fun (r : Int32) (u : (Nat → Nat) × (Nat → Int32) × (Nat → Nat → Int32)) => (fun r c2 I2 F2 => Fr [] [] [143, 150] cn In Fn c2 I2 F2 ∧ CBX c2 ∧ (∀ k : Nat, k < c2 12 → ∃ n : Nat, n ≤ 12 ∧ F2 143 k = nI n)) r u.1 u.2.1 u.2.2) (fun (u : (Nat → Nat) × (Nat → Int32) × (Nat → Nat → Int32)) (t : State) => va_P D vwCl (wX cI (D.1 99) zz g ad u.1 u.2.1 u.2.2) t.heap ∧ va_D (va_A (wX cI (D.1 99) zz g ad cn In Fn) sz) (wX cI (D.1 99) zz g ad u.1 u.2.1 u.2.2)) (va_A (wX cI (D.1 99) zz g ad cn In Fn) sz)) 0 0 (va_A (wX cI (D.1 99) zz g ad cn In Fn) sz) := by
  refine en_x (fun A => (va_Qi (fun (r : Int32) (u : (Nat → Nat) × (Nat → Int32) × (Nat → Nat → Int32)) => (fun (r : Int32) (c2 : Nat → Nat) (I2 : Nat → Int32) (F2 : Nat → Nat → Int32) => Fr [] [] [143, 150] cn In Fn c2 I2 F2 ∧ CBX c2 ∧ (∀ k : Nat, k < c2 12 → ∃ n : Nat, n ≤ 12 ∧ F2 143 k = nI n)) r u.1 u.2.1 u.2.2) (fun (u : (Nat → Nat) × (Nat → Int32) × (Nat → Nat → Int32)) (t : State) => va_P D vwCl (wX cI (D.1 99) zz g ad u.1 u.2.1 u.2.2) t.heap ∧ va_D A (wX cI (D.1 99) zz g ad u.1 u.2.1 u.2.2)) A)) rfl rfl pn_RX11 (Nat.le_of_ble_eq_true rfl) (fun p e s m below meth c A hx hb hml hown S hr hlocks hnm hA hP hK hD hXS hS ls hl => ?_)
  have hl : lv_has ls 4 [(0, .ref (g 0)), (1, .int v0), (2, .int v1)] := hl
  have hb_cn : Hid (CBX cn) := hB
  replace hB : CBXh cn := hB
  refine lv_aload_n hx hb (oc_42 0 shX11_sample_0) rfl (lvA0 hl) ?_
  refine lv_iload_n hx hb (oc_27 1 (aq_1 shX11_sample_0)) rfl (lvA1 hl) ?_
  refine va_csq (runV_rxa (As := [.int v0]) (rest := []) S (q_XbatchAt l D cI cB cZ zz qq vv bt g ad cn In Fn v0 hB) kV_RX11_382 hK hXS hS hP 0 xo_0 rfl rfl ⟨Nat.le_of_ble_eq_true rfl, Nat.le_of_ble_eq_true rfl⟩ ⟨Nat.le_of_ble_eq_true rfl, Nat.le_of_ble_eq_true rfl⟩ rfl hl.1 rfl (Nat.le_of_ble_eq_true rfl) (oc_182 2 (aq_2 shX11_sample_0) uw_1_126)) (fun r_1 h_2 => ?_)
  rcases h_2 with ⟨mr_1, er_1, hr_1, rfl⟩ | ⟨hr_1, rfl⟩
  ·
    refine lv_astore_n (lv' := [(3, .ref (ad 12 mr_1)), (0, .ref (g 0)), (1, .int v0), (2, .int v1)]) hx hb dX11_sample_5 rfl hl (ltb rfl) rfl (fun ls hl => ?_)
    refine lv_aload_n hx hb dX11_sample_6 rfl (lvA0 hl) ?_
    refine lv_ifnull hx hb dX11_sample_7 ?_
    refine lv_iload_n hx hb (oc_28 10 (aq_10 shX11_sample_0)) rfl (lvA3 hl) ?_
    refine lv_iconst (v := 0) hx hb (oc_3 11 (aq_11 shX11_sample_0)) kic_0 ?_
    refine lv_sipush (v := 1000) hx hb (oc_17 12 (aq_12 shX11_sample_0) sgw_3_232) (by decide) ?_
    refine vp_callSi (runS_r (As := [.int v1, .int 0, .int 1000]) (rest := []) S (q_l_within l D cI cB cZ v1 0 1000) kS_RX11_80 hK hP [] rfl ⟨Nat.le_of_ble_eq_true rfl, Nat.le_of_ble_eq_true rfl⟩ ⟨Nat.le_of_ble_eq_true rfl, Nat.le_of_ble_eq_true rfl⟩ rfl hl.1 rfl (Nat.le_of_ble_eq_true rfl) (oc_184 15 (aq_15 shX11_sample_0) uw_0_80)) (fun r_3 h_4 => ?_)
    rcases h_4 with ⟨rfl, h_4⟩ | ⟨rfl, h_4⟩
    ·
      have h_4 : 0 ≤ v1.toInt ∧ v1.toInt ≤ 1000 := h_4
      refine lv_if_eq (tgt := 30) hx hb dX11_sample_18 rfl (fun h => absurd h cq_eq_1_0) (fun _ => ?_)
      refine lv_aload_n hx hb (oc_45 21 (aq_21 shX11_sample_0)) rfl (lvA0 hl) ?_
      have kf_1 : mr_1 < cn 12 := by (first | omega | (have zz0 := Hid.u hb_cn; omega))
      refine gf_RX11_441 S hK hP _ (xf_2 kf_1) (v := .int ((Fn 143) mr_1)) rfl (oc_180 22 (aq_22 shX11_sample_0) uw_1_185) ?_
      refine lv_bipush (v := 12) hx hb (oc_16 25 shX11_sample_25 sgb_12) kbc_12 ?_
      refine lv_icmp_lt (tgt := 32) hx hb (oc_161 27 (aq_2 shX11_sample_25) sgw_0_5) rfl (fun c_5 => ?_) (fun c_5 => ?_)
      ·
        have tc_5 : (((Fn 143) mr_1).toInt : Int) < 12 := Int32.lt_iff_toInt_lt.mp c_5
        obtain ⟨n9, hn9, en9⟩ := hM mr_1 (by (first | omega | (have zz0 := Hid.u hb_cn; omega)))
        have tn9 : (Fn 143 mr_1).toInt = (n9 : Int) := by rw [en9]; exact nI_toInt (by (first | omega | (have zz0 := Hid.u hb_cn; omega)))
        refine lv_aload_n hx hb (oc_45 32 (aq_7 shX11_sample_25)) rfl (lvA0 hl) ?_
        refine lv_iload_n hx hb (oc_28 33 (aq_8 shX11_sample_25)) rfl (lvA3 hl) ?_
        have hFc := free_all hD hS hA
        refine va_callv (runV_xa (As := [.int v1]) (rest := []) S (q_XaddSample l D cI cB cZ zz qq vv bt g ad cn In Fn mr_1 v1 s.heap.size hB (by (first | omega | (have zz0 := Hid.u hb_cn; omega)))) kV_RX11_444 hK hXS hS hFc hP hD _ (xf_2 kf_1) rfl rfl ⟨Nat.le_of_ble_eq_true rfl, Nat.le_of_ble_eq_true rfl⟩ ⟨Nat.le_of_ble_eq_true rfl, Nat.le_of_ble_eq_true rfl⟩ rfl hl.1 rfl (Nat.le_of_ble_eq_true rfl) (oc_182 34 (aq_9 shX11_sample_25) uw_1_188)) hS (fun q _ h => hFc q h) hFc (fun u t H1 locs ht hvm wh_7 hB1 hz1 hk1 hS => ?_)
        obtain ⟨cn7, In7, Fn7⟩ := u
        obtain ⟨hP1, hD1⟩ := hB1
        rw [ht] at hP1
        have hP : va_P D vwCl (wX cI (D.1 99) zz g ad cn7 In7 Fn7) H1 := hP1
        have hD : va_D A (wX cI (D.1 99) zz g ad cn7 In7 Fn7) := hD1.weaken (fun _ _ _ h => hFc _ h)
        generalize H1 = H at hP hS ⊢
        have vh_7 : (fun c2 I2 F2 => Fr [] [] [143, 150] cn In Fn c2 I2 F2 ∧ CBX c2 ∧ (F2 143 = upd ((Fn 143)) mr_1 ((Fn 143) mr_1 + 1))) cn7 In7 Fn7 := wh_7
        obtain ⟨hfc7, hIn7, h_7⟩ := vh_7
        obtain rfl : cn = cn7 := (funext (fun k => hfc7.1 k List.not_mem_nil)).symm
        obtain rfl : In = In7 := (funext (fun k => hfc7.2.1 k List.not_mem_nil)).symm
        have hf7 : Fr [] [] [143, 150] cn In Fn cn In Fn7 := Fr.mo (Fr.tr (Fr.rf (cn := cn) (In := In) (Fn := Fn)) hfc7) (sbl rfl) (sbl rfl) (sbl rfl)
        replace hIn7 : CBXh cn := hIn7
        refine lv_aload_n hx hb (oc_45 37 (aq_12 shX11_sample_25)) rfl (lvA0 hl) ?_
        refine gf_RX11_441 S hK hP _ (xf_2 kf_1) (v := .int ((Fn7 143) mr_1)) rfl (oc_180 38 (aq_13 shX11_sample_25) uw_1_185) ?_
        exact W.iret (v := ((Fn7 143) mr_1)) hx hb hr (fun t ht hW => ⟨⟨((Fn7 143) mr_1), (cn, In, Fn7), rfl, ⟨(Fr.mo hf7 (sbl rfl) (sbl rfl) (sbl rfl)), hIn7, (by show ∀ k : Nat, k < cn 12 → ∃ n : Nat, n ≤ 12 ∧ Fn7 143 k = nI n; intro j hj; rw [h_7]; exact (if q : j = mr_1 then (by subst q; exact ⟨n9 + 1, by (first | omega | (have zz0 := Hid.u hb_cn; omega)), by rw [upd_self, en9, nI_1]⟩) else (by rw [upd_nq q]; exact hM j hj)))⟩, by rw [ht]; exact hP, hD⟩, hS.F ht⟩) hS.2.2 (oc_172 41 (aq_16 shX11_sample_25))
      ·
        have tc_5 : (12 : Int) ≤ ((Fn 143) mr_1).toInt := Int32.le_iff_toInt_le.mp (Int32.not_lt.mp c_5)
        refine lv_iconst (v := (-1)) hx hb dX11_sample_30 kic_m1 ?_
        exact W.iret (v := (-1)) hx hb hr (fun t ht hW => ⟨⟨(-1), (cn, In, Fn), rfl, ⟨(Fr.mo Fr.rf (sbl rfl) (sbl rfl) (sbl rfl)), hB, (by show ∀ k : Nat, k < cn 12 → ∃ n : Nat, n ≤ 12 ∧ Fn 143 k = nI n; exact hM)⟩, by rw [ht]; exact hP, hD⟩, hS.F ht⟩) hS.2.2 dX11_sample_31
    ·
      have h_4 : ¬ (0 ≤ v1.toInt ∧ v1.toInt ≤ 1000) := h_4
      refine lv_if_eq (tgt := 30) hx hb dX11_sample_18 rfl (fun _ => ?_) (fun h => absurd h cq_eq_0_0)
      refine lv_iconst (v := (-1)) hx hb dX11_sample_30 kic_m1 ?_
      exact W.iret (v := (-1)) hx hb hr (fun t ht hW => ⟨⟨(-1), (cn, In, Fn), rfl, ⟨(Fr.mo Fr.rf (sbl rfl) (sbl rfl) (sbl rfl)), hB, (by show ∀ k : Nat, k < cn 12 → ∃ n : Nat, n ≤ 12 ∧ Fn 143 k = nI n; exact hM)⟩, by rw [ht]; exact hP, hD⟩, hS.F ht⟩) hS.2.2 dX11_sample_31
  ·
    refine lv_astore_nN (lv' := [(3, .null), (0, .ref (g 0)), (1, .int v0), (2, .int v1)]) hx hb dX11_sample_5 rfl hl (ltb rfl) rfl (fun ls hl => ?_)
    refine lv_aload_nN hx hb dX11_sample_6 rfl (lvA0 hl) ?_
    refine lv_ifnullN (tgt := 30) hx hb dX11_sample_7 rfl ?_
    refine lv_iconst (v := (-1)) hx hb dX11_sample_30 kic_m1 ?_
    exact W.iret (v := (-1)) hx hb hr (fun t ht hW => ⟨⟨(-1), (cn, In, Fn), rfl, ⟨(Fr.mo Fr.rf (sbl rfl) (sbl rfl) (sbl rfl)), hB, (by show ∀ k : Nat, k < cn 12 → ∃ n : Nat, n ≤ 12 ∧ Fn 143 k = nI n; exact hM)⟩, by rw [ht]; exact hP, hD⟩, hS.F ht⟩) hS.2.2 dX11_sample_31
