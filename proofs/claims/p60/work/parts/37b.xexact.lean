

set_option maxRecDepth 100000 in
set_option maxHeartbeats 4000000 in
theorem q_Eprice (l : Launch) (D : va_G) (cI cB cZ : ClassId) (zz qq vv : Nat) (bt : Nat → Int32) (g : Nat → Nat) (ad : Nat → Nat → Nat) (cn : Nat → Nat) (In : Nat → Int32) (Fn : Nat → Nat → Int32) (v0 v1 : Int32) (sz : Nat) (hB : CBX cn) : Met l yX11_price (CWS yX11_price cX11_price 3 (some .boolean)) (RM 1 0 0) (PBx [.ref (g 0), .int v0, .int v1] D cI cB cZ zz qq vv bt (wX cI (D.1 99) zz g ad cn In Fn) sz) (va_Qi (fun (r : Int32) (u : (Nat → Nat) × (Nat → Int32) × (Nat → Nat → Int32)) => (fun r c2 I2 F2 => (∀ k : Nat, k ∉ [] → I2 k = In k) ∧ ((r = 1 ∧ (0 ≤ v0.toInt ∧ v0.toInt ≤ 57 ∧ 0 ≤ v1.toInt ∧ v1.toInt ≤ 1000) ∧ cn = c2 ∧ (va_up Fn 20 (upd (Fn 20) v0.toInt.toNat v1)) = F2) ∨ (r = 0 ∧ (¬ (0 ≤ v0.toInt ∧ v0.toInt ≤ 57 ∧ 0 ≤ v1.toInt ∧ v1.toInt ≤ 1000)) ∧ cn = c2 ∧ Fn = F2))) r u.1 u.2.1 u.2.2) (fun (u : (Nat → Nat) × (Nat → Int32) × (Nat → Nat → Int32)) (t : State) => va_P D vwCl (wX cI (D.1 99) zz g ad u.1 u.2.1 u.2.2) t.heap ∧ va_D (va_A (wX cI (D.1 99) zz g ad cn In Fn) sz) (wX cI (D.1 99) zz g ad u.1 u.2.1 u.2.2)) (va_A (wX cI (D.1 99) zz g ad cn In Fn) sz)) 0 0 (va_A (wX cI (D.1 99) zz g ad cn In Fn) sz) := by
  refine en_x (fun A => (va_Qi (fun (r : Int32) (u : (Nat → Nat) × (Nat → Int32) × (Nat → Nat → Int32)) => (fun (r : Int32) (c2 : Nat → Nat) (I2 : Nat → Int32) (F2 : Nat → Nat → Int32) => (∀ k : Nat, k ∉ [] → I2 k = In k) ∧ ((r = 1 ∧ (0 ≤ v0.toInt ∧ v0.toInt ≤ 57 ∧ 0 ≤ v1.toInt ∧ v1.toInt ≤ 1000) ∧ cn = c2 ∧ (va_up Fn 20 (upd (Fn 20) v0.toInt.toNat v1)) = F2) ∨ (r = 0 ∧ (¬ (0 ≤ v0.toInt ∧ v0.toInt ≤ 57 ∧ 0 ≤ v1.toInt ∧ v1.toInt ≤ 1000)) ∧ cn = c2 ∧ Fn = F2))) r u.1 u.2.1 u.2.2) (fun (u : (Nat → Nat) × (Nat → Int32) × (Nat → Nat → Int32)) (t : State) => va_P D vwCl (wX cI (D.1 99) zz g ad u.1 u.2.1 u.2.2) t.heap ∧ va_D A (wX cI (D.1 99) zz g ad u.1 u.2.1 u.2.2)) A)) rfl rfl pn_RX11 (Nat.le_of_ble_eq_true rfl) (fun p e s m below meth c A hx hb hml hown S hr hlocks hnm hA hP hK hD hXS hS ls hl => ?_)
  have hl : lv_has ls 3 [(0, .ref (g 0)), (1, .int v0), (2, .int v1)] := hl
  have hb_cn : Hid (CBX cn) := hB
  replace hB : CBXh cn := hB
  refine lv_aload_n hx hb (oc_42 0 shX11_price_0) rfl (lvA0 hl) ?_
  refine gf_RX11_47 S hK hP 0 xo_0 (v := .ref (g 8)) rfl (oc_180 1 (aq_1 shX11_price_0) uw_0_47) ?_
  refine gf_RX11_174 S hK hP 6 xo_6 (v := .ref (g 20)) rfl (oc_180 4 (aq_4 shX11_price_0) uw_0_174) ?_
  refine lv_iload_n hx hb (oc_27 7 (aq_7 shX11_price_0)) rfl (lvA1 hl) ?_
  refine lv_iload_n hx hb (oc_28 8 (aq_8 shX11_price_0)) rfl (lvA2 hl) ?_
  refine lv_iconst (v := 0) hx hb (oc_3 9 (aq_9 shX11_price_0)) kic_0 ?_
  refine lv_sipush (v := 1000) hx hb (oc_17 10 (aq_10 shX11_price_0) sgw_3_232) (by decide) ?_
  have hFc := va_free (wc := [((g 20), .inl (cI, 58, .inl (Fn 20)))]) hD hS hA [7] (one_im xo_7)
  refine va_calli (runS_w (As := [.ref (g 20), .int v0, .int v1, .int 0, .int 1000]) (rest := []) S (q_l_tell l D cI cB cZ (g 20) 58 (Fn 20) v0 v1 0 1000 s.heap.size (by (first | omega | (have zz0 := Hid.u hb_cn; omega)))) kS_RX11_177 hK hP hD [7] (one_is xo_7) (one_im xo_7) rfl ⟨Nat.le_of_ble_eq_true rfl, Nat.le_of_ble_eq_true rfl⟩ ⟨Nat.le_of_ble_eq_true rfl, Nat.le_of_ble_eq_true rfl⟩ rfl hl.1 rfl (Nat.le_of_ble_eq_true rfl) (oc_184 13 (aq_13 shX11_price_0) uw_0_177)) hS (fun q _ h => hFc q h) hFc (fun r_1 u_3 t H1 locs ht hvm h_2 hB1 hz1 hk1 hS => ?_)
  obtain ⟨hP1, hD1⟩ := hB1
  rw [ht] at hP1
  obtain ⟨hP, hD⟩ := wset1 hP hD xo_7 hk1 hP1
  rcases h_2 with ⟨rfl, h_2, rfl⟩ | ⟨rfl, h_2, rfl⟩
  ·
    have h_2 : 0 ≤ v0.toInt ∧ v0.toInt < (58 : Int) ∧ 0 ≤ v1.toInt ∧ v1.toInt ≤ 1000 := h_2
    generalize H1 = H at hP hS ⊢
    have hP : va_P D vwCl (wX cI (D.1 99) zz g ad cn In (va_up Fn 20 (upd (Fn 20) v0.toNatClampNeg v1))) H := va_P_eq xsa_7 hP
    have hD : va_D A (wX cI (D.1 99) zz g ad cn In (va_up Fn 20 (upd (Fn 20) v0.toNatClampNeg v1))) := va_D_eq xsa_7 hD
    exact W.zret (v := 1) hx hb hr rfl (fun t ht hW => ⟨⟨1, (cn, In, (va_up Fn 20 (upd (Fn 20) v0.toNatClampNeg v1))), rfl, ⟨(show Fr [] [] [20] cn In Fn cn In (va_up Fn 20 (upd (Fn 20) v0.toNatClampNeg v1)) from Fr.mo (Fr.f 20 (Fr.rf (cn := cn) (In := In) (Fn := Fn))) (sbl rfl) (sbl rfl) (sbl rfl)).2.1, (Or.inl ⟨rfl, (by first | trivial | (first | omega | (have zz0 := Hid.u hb_cn; omega)) | (simp only [zd0]; (first | omega | (have zz0 := Hid.u hb_cn; omega)))), (by first | rfl | simp only [zd0] | simp only [zd0, zd1]), (by first | rfl | simp only [zd0] | simp only [zd0, zd1])⟩)⟩, by rw [ht]; exact hP, hD⟩, hS.F ht⟩) hS.2.2 dX11_price_16
  ·
    have h_2 : ¬ (0 ≤ v0.toInt ∧ v0.toInt < (58 : Int) ∧ 0 ≤ v1.toInt ∧ v1.toInt ≤ 1000) := h_2
    generalize H1 = H at hP hS ⊢
    have hP : va_P D vwCl (wX cI (D.1 99) zz g ad cn In Fn) H := va_P_eq xsr_7 hP
    have hD : va_D A (wX cI (D.1 99) zz g ad cn In Fn) := va_D_eq xsr_7 hD
    exact W.zret (v := 0) hx hb hr rfl (fun t ht hW => ⟨⟨0, (cn, In, Fn), rfl, ⟨(show Fr [] [] [20] cn In Fn cn In Fn from Fr.mo (Fr.rf (cn := cn) (In := In) (Fn := Fn)) (sbl rfl) (sbl rfl) (sbl rfl)).2.1, (Or.inr ⟨rfl, (by first | trivial | (first | omega | (have zz0 := Hid.u hb_cn; omega)) | (simp only [zd0]; (first | omega | (have zz0 := Hid.u hb_cn; omega)))), (by first | rfl | simp only [zd0] | simp only [zd0, zd1]), (by first | rfl | simp only [zd0] | simp only [zd0, zd1])⟩)⟩, by rw [ht]; exact hP, hD⟩, hS.F ht⟩) hS.2.2 dX11_price_16
set_option maxRecDepth 100000 in
set_option maxHeartbeats 4000000 in
theorem q_Elorry (l : Launch) (D : va_G) (cI cB cZ : ClassId) (zz qq vv : Nat) (bt : Nat → Int32) (g : Nat → Nat) (ad : Nat → Nat → Nat) (cn : Nat → Nat) (In : Nat → Int32) (Fn : Nat → Nat → Int32) (v0 : Int32) (sz : Nat) (hB : CBX cn) : Met l yX11_lorry (CWS yX11_lorry cX11_lorry 2 (some .int)) (RM 1 0 0) (PBx [.ref (g 0), .int v0] D cI cB cZ zz qq vv bt (wX cI (D.1 99) zz g ad cn In Fn) sz) (va_Qi (fun (r : Int32) (u : (Nat → Nat) × (Nat → Int32) × (Nat → Nat → Int32)) => (fun r c2 I2 F2 => (∀ k : Nat, k ∉ [] → I2 k = In k) ∧ ((r = nI (cn 1) ∧ (20 ≤ v0.toInt ∧ v0.toInt ≤ 2000 ∧ cn 1 < 3) ∧ (va_up cn 1 (cn 1 + 1)) = c2 ∧ (va_up Fn 27 (putM (Fn 27) 3 (nI (cn 1)) v0)) = F2) ∨ (r = -1 ∧ (¬ (20 ≤ v0.toInt ∧ v0.toInt ≤ 2000 ∧ cn 1 < 3)) ∧ cn = c2 ∧ Fn = F2))) r u.1 u.2.1 u.2.2) (fun (u : (Nat → Nat) × (Nat → Int32) × (Nat → Nat → Int32)) (t : State) => va_P D vwCl (wX cI (D.1 99) zz g ad u.1 u.2.1 u.2.2) t.heap ∧ va_D (va_A (wX cI (D.1 99) zz g ad cn In Fn) sz) (wX cI (D.1 99) zz g ad u.1 u.2.1 u.2.2)) (va_A (wX cI (D.1 99) zz g ad cn In Fn) sz)) 0 0 (va_A (wX cI (D.1 99) zz g ad cn In Fn) sz) := by
  refine en_x (fun A => (va_Qi (fun (r : Int32) (u : (Nat → Nat) × (Nat → Int32) × (Nat → Nat → Int32)) => (fun (r : Int32) (c2 : Nat → Nat) (I2 : Nat → Int32) (F2 : Nat → Nat → Int32) => (∀ k : Nat, k ∉ [] → I2 k = In k) ∧ ((r = nI (cn 1) ∧ (20 ≤ v0.toInt ∧ v0.toInt ≤ 2000 ∧ cn 1 < 3) ∧ (va_up cn 1 (cn 1 + 1)) = c2 ∧ (va_up Fn 27 (putM (Fn 27) 3 (nI (cn 1)) v0)) = F2) ∨ (r = -1 ∧ (¬ (20 ≤ v0.toInt ∧ v0.toInt ≤ 2000 ∧ cn 1 < 3)) ∧ cn = c2 ∧ Fn = F2))) r u.1 u.2.1 u.2.2) (fun (u : (Nat → Nat) × (Nat → Int32) × (Nat → Nat → Int32)) (t : State) => va_P D vwCl (wX cI (D.1 99) zz g ad u.1 u.2.1 u.2.2) t.heap ∧ va_D A (wX cI (D.1 99) zz g ad u.1 u.2.1 u.2.2)) A)) rfl rfl pn_RX11 (Nat.le_of_ble_eq_true rfl) (fun p e s m below meth c A hx hb hml hown S hr hlocks hnm hA hP hK hD hXS hS ls hl => ?_)
  have hl : lv_has ls 2 [(0, .ref (g 0)), (1, .int v0)] := hl
  have hb_cn : Hid (CBX cn) := hB
  replace hB : CBXh cn := hB
  refine lv_iload_n hx hb (oc_27 0 shX11_lorry_0) rfl (lvA1 hl) ?_
  refine lv_bipush (v := 20) hx hb (oc_16 1 (aq_1 shX11_lorry_0) sgb_20) kbc_20 ?_
  refine lv_sipush (v := 2000) hx hb (oc_17 3 (aq_3 shX11_lorry_0) sgw_7_208) (by decide) ?_
  refine vp_callSi (runS_r (As := [.int v0, .int 20, .int 2000]) (rest := []) S (q_l_within l D cI cB cZ v0 20 2000) kS_RX11_80 hK hP [] rfl ⟨Nat.le_of_ble_eq_true rfl, Nat.le_of_ble_eq_true rfl⟩ ⟨Nat.le_of_ble_eq_true rfl, Nat.le_of_ble_eq_true rfl⟩ rfl hl.1 rfl (Nat.le_of_ble_eq_true rfl) (oc_184 6 (aq_6 shX11_lorry_0) uw_0_80)) (fun r_1 h_2 => ?_)
  rcases h_2 with ⟨rfl, h_2⟩ | ⟨rfl, h_2⟩
  ·
    have h_2 : 20 ≤ v0.toInt ∧ v0.toInt ≤ 2000 := h_2
    refine lv_if_eq (tgt := 20) hx hb dX11_lorry_9 rfl (fun h => absurd h cq_eq_1_0) (fun _ => ?_)
    refine lv_aload_n hx hb (oc_42 12 (aq_12 shX11_lorry_0)) rfl (lvA0 hl) ?_
    refine gf_RX11_311 S hK hP 0 xo_0 (v := .int (nI (cn 1))) rfl (oc_180 13 (aq_13 shX11_lorry_0) uw_1_55) ?_
    refine lv_iconst (v := 3) hx hb (oc_6 16 (aq_16 shX11_lorry_0)) kic_3 ?_
    have : (nI (cn 1)).toInt = (((cn 1) : Nat) : Int) := nI_toInt (by (first | omega | (have zz0 := Hid.u hb_cn; omega)))
    refine lv_icmp_lt (tgt := 22) hx hb (oc_161 17 (aq_17 shX11_lorry_0) sgw_0_5) rfl (fun c_3 => ?_) (fun c_3 => ?_)
    ·
      have tc_3 : ((nI (cn 1)).toInt : Int) < 3 := Int32.lt_iff_toInt_lt.mp c_3
      refine lv_aload_n hx hb (oc_42 22 (aq_22 shX11_lorry_0)) rfl (lvA0 hl) ?_
      refine gf_RX11_47 S hK hP 0 xo_0 (v := .ref (g 8)) rfl (oc_180 23 (aq_23 shX11_lorry_0) uw_0_47) ?_
      refine gf_RX11_314 S hK hP 6 xo_6 (v := .ref (g 27)) rfl (oc_180 26 shX11_lorry_26 uw_1_58) ?_
      refine lv_aload_n hx hb (oc_42 29 (aq_3 shX11_lorry_26)) rfl (lvA0 hl) ?_
      refine gf_RX11_311 S hK hP 0 xo_0 (v := .int (nI (cn 1))) rfl (oc_180 30 (aq_4 shX11_lorry_26) uw_1_55) ?_
      refine lv_iload_n hx hb (oc_27 33 (aq_7 shX11_lorry_26)) rfl (lvA1 hl) ?_
      have hFc := va_free (wc := [((g 27), .inl (cI, 3, .inl (Fn 27)))]) hD hS hA [14] (one_im xo_14)
      refine va_callv (runS_w (As := [.ref (g 27), .int (nI (cn 1)), .int v0]) (rest := []) S (q_l_put l D cI cB cZ (g 27) 3 (Fn 27) (nI (cn 1)) v0 s.heap.size (by (first | omega | (have zz0 := Hid.u hb_cn; omega)))) kS_RX11_184 hK hP hD [14] (one_is xo_14) (one_im xo_14) rfl ⟨Nat.le_of_ble_eq_true rfl, Nat.le_of_ble_eq_true rfl⟩ ⟨Nat.le_of_ble_eq_true rfl, Nat.le_of_ble_eq_true rfl⟩ rfl hl.1 rfl (Nat.le_of_ble_eq_true rfl) (oc_184 34 (aq_8 shX11_lorry_26) uw_0_184)) hS (fun q _ h => hFc q h) hFc (fun u_6 t H1 locs ht hvm h_5 hB1 hz1 hk1 hS => ?_)
      obtain ⟨hP1, hD1⟩ := hB1
      rw [ht] at hP1
      obtain ⟨hP, hD⟩ := wset1 hP hD xo_14 hk1 hP1
      obtain rfl : u_6 = (putM (Fn 27) 3 (nI (cn 1)) v0) := h_5
      generalize H1 = H at hP hS ⊢
      have hP : va_P D vwCl (wX cI (D.1 99) zz g ad cn In (va_up Fn 27 (putM (Fn 27) 3 (nI (cn 1)) v0))) H := va_P_eq xsa_14 hP
      have hD : va_D A (wX cI (D.1 99) zz g ad cn In (va_up Fn 27 (putM (Fn 27) 3 (nI (cn 1)) v0))) := va_D_eq xsa_14 hD
      refine lv_aload_n hx hb (oc_42 37 (aq_11 shX11_lorry_26)) rfl (lvA0 hl) ?_
      refine lv_dup hx hb (oc_89 38 (aq_12 shX11_lorry_26)) rfl ?_
      refine gf_RX11_311 S hK hP 0 xo_0 (v := .int (nI (cn 1))) rfl (oc_180 39 (aq_13 shX11_lorry_26) uw_1_55) ?_
      refine lv_iconst (v := 1) hx hb (oc_4 42 (aq_16 shX11_lorry_26)) kic_1 ?_
      refine lv_iadd hx hb (oc_96 43 (aq_17 shX11_lorry_26)) ?_
      refine lv_topi (fun y_7 ey_7 => ?_)
      obtain rfl : y_7 = (nI ((cn 1) + 1)) := ey_7.trans (nI_add (cn 1) 1)
      refine pf_RX11_311 S hK hP hD hS 0 xo_0 (v := .int (nI ((cn 1) + 1))) (Nat.le_of_ble_eq_true rfl) rfl rfl (oc_181 44 (aq_18 shX11_lorry_26) uw_1_55) (fun H locs hP hD hS => ?_)
      have hP : va_P D vwCl (wX cI (D.1 99) zz g ad (va_up cn 1 ((cn 1) + 1)) In (va_up Fn 27 (putM (Fn 27) 3 (nI (cn 1)) v0))) H := va_P_eq (xsf_0_1) hP
      have hD : va_D A (wX cI (D.1 99) zz g ad (va_up cn 1 ((cn 1) + 1)) In (va_up Fn 27 (putM (Fn 27) 3 (nI (cn 1)) v0))) := va_D_eq (xsf_0_1) hD
      refine lv_aload_n hx hb (oc_42 47 (aq_21 shX11_lorry_26)) rfl (lvA0 hl) ?_
      refine gf_RX11_311 S hK hP 0 xo_0 (v := .int (nI ((cn 1) + 1))) rfl (oc_180 48 (aq_22 shX11_lorry_26) uw_1_55) ?_
      refine lv_iconst (v := 1) hx hb (oc_4 51 shX11_lorry_51) kic_1 ?_
      refine lv_isub hx hb (oc_100 52 (aq_1 shX11_lorry_51)) ?_
      refine lv_topi (fun y_8 ey_8 => ?_)
      obtain rfl : y_8 = (nI (cn 1)) := ey_8.trans (nI_sub (b := 1) (by (first | omega | (have zz0 := Hid.u hb_cn; omega))))
      exact W.iret (v := (nI (cn 1))) hx hb hr (fun t ht hW => ⟨⟨(nI (cn 1)), ((va_up cn 1 ((cn 1) + 1)), In, (va_up Fn 27 (putM (Fn 27) 3 (nI (cn 1)) v0))), rfl, ⟨(show Fr [1] [] [27] cn In Fn (va_up cn 1 ((cn 1) + 1)) In (va_up Fn 27 (putM (Fn 27) 3 (nI (cn 1)) v0)) from Fr.mo (Fr.f 27 (Fr.c 1 (Fr.rf (cn := cn) (In := In) (Fn := Fn)))) (sbl rfl) (sbl rfl) (sbl rfl)).2.1, (Or.inl ⟨rfl, (by first | trivial | (first | omega | (have zz0 := Hid.u hb_cn; omega)) | (simp only [zd0]; (first | omega | (have zz0 := Hid.u hb_cn; omega)))), (by first | rfl | simp only [zd0] | simp only [zd0, zd1]), (by first | rfl | simp only [zd0] | simp only [zd0, zd1])⟩)⟩, by rw [ht]; exact hP, hD⟩, hS.F ht⟩) hS.2.2 (oc_172 53 (aq_2 shX11_lorry_51))
    ·
      have tc_3 : (3 : Int) ≤ (nI (cn 1)).toInt := Int32.le_iff_toInt_le.mp (Int32.not_lt.mp c_3)
      refine lv_iconst (v := (-1)) hx hb dX11_lorry_20 kic_m1 ?_
      exact W.iret (v := (-1)) hx hb hr (fun t ht hW => ⟨⟨(-1), (cn, In, Fn), rfl, ⟨(show Fr [1] [] [27] cn In Fn cn In Fn from Fr.mo (Fr.rf (cn := cn) (In := In) (Fn := Fn)) (sbl rfl) (sbl rfl) (sbl rfl)).2.1, (Or.inr ⟨rfl, (by first | trivial | (first | omega | (have zz0 := Hid.u hb_cn; omega)) | (simp only [zd0]; (first | omega | (have zz0 := Hid.u hb_cn; omega)))), (by first | rfl | simp only [zd0] | simp only [zd0, zd1]), (by first | rfl | simp only [zd0] | simp only [zd0, zd1])⟩)⟩, by rw [ht]; exact hP, hD⟩, hS.F ht⟩) hS.2.2 dX11_lorry_21
  ·
    have h_2 : ¬ (20 ≤ v0.toInt ∧ v0.toInt ≤ 2000) := h_2
    refine lv_if_eq (tgt := 20) hx hb dX11_lorry_9 rfl (fun _ => ?_) (fun h => absurd h cq_eq_0_0)
    refine lv_iconst (v := (-1)) hx hb dX11_lorry_20 kic_m1 ?_
    exact W.iret (v := (-1)) hx hb hr (fun t ht hW => ⟨⟨(-1), (cn, In, Fn), rfl, ⟨(show Fr [1] [] [27] cn In Fn cn In Fn from Fr.mo (Fr.rf (cn := cn) (In := In) (Fn := Fn)) (sbl rfl) (sbl rfl) (sbl rfl)).2.1, (Or.inr ⟨rfl, (by first | trivial | (first | omega | (have zz0 := Hid.u hb_cn; omega)) | (simp only [zd0]; (first | omega | (have zz0 := Hid.u hb_cn; omega)))), (by first | rfl | simp only [zd0] | simp only [zd0, zd1]), (by first | rfl | simp only [zd0] | simp only [zd0, zd1])⟩)⟩, by rw [ht]; exact hP, hD⟩, hS.F ht⟩) hS.2.2 dX11_lorry_21
set_option maxRecDepth 100000 in
set_option maxHeartbeats 4000000 in
theorem q_Edrum (l : Launch) (D : va_G) (cI cB cZ : ClassId) (zz qq vv : Nat) (bt : Nat → Int32) (g : Nat → Nat) (ad : Nat → Nat → Nat) (cn : Nat → Nat) (In : Nat → Int32) (Fn : Nat → Nat → Int32)  (sz : Nat) (hB : CBX cn) : Met l yX11_drum (CWS yX11_drum cX11_drum 1 (some .int)) (RM 0 0 0) (PBx [.ref (g 0)] D cI cB cZ zz qq vv bt (wX cI (D.1 99) zz g ad cn In Fn) sz) (va_Qi (fun (r : Int32) (u : (Nat → Nat) × (Nat → Int32) × (Nat → Nat → Int32)) => (fun r c2 I2 F2 => (∀ k : Nat, k ∉ [] → I2 k = In k) ∧ ((r = nI (cn 2) ∧ (cn 2 < 20) ∧ (va_up cn 2 (cn 2 + 1)) = c2 ∧ Fn = F2) ∨ (r = -1 ∧ (¬ cn 2 < 20) ∧ cn = c2 ∧ Fn = F2))) r u.1 u.2.1 u.2.2) (fun (u : (Nat → Nat) × (Nat → Int32) × (Nat → Nat → Int32)) (t : State) => va_P D vwCl (wX cI (D.1 99) zz g ad u.1 u.2.1 u.2.2) t.heap ∧ va_D (va_A (wX cI (D.1 99) zz g ad cn In Fn) sz) (wX cI (D.1 99) zz g ad u.1 u.2.1 u.2.2)) (va_A (wX cI (D.1 99) zz g ad cn In Fn) sz)) 0 0 (va_A (wX cI (D.1 99) zz g ad cn In Fn) sz) := by
  refine en_x (fun A => (va_Qi (fun (r : Int32) (u : (Nat → Nat) × (Nat → Int32) × (Nat → Nat → Int32)) => (fun (r : Int32) (c2 : Nat → Nat) (I2 : Nat → Int32) (F2 : Nat → Nat → Int32) => (∀ k : Nat, k ∉ [] → I2 k = In k) ∧ ((r = nI (cn 2) ∧ (cn 2 < 20) ∧ (va_up cn 2 (cn 2 + 1)) = c2 ∧ Fn = F2) ∨ (r = -1 ∧ (¬ cn 2 < 20) ∧ cn = c2 ∧ Fn = F2))) r u.1 u.2.1 u.2.2) (fun (u : (Nat → Nat) × (Nat → Int32) × (Nat → Nat → Int32)) (t : State) => va_P D vwCl (wX cI (D.1 99) zz g ad u.1 u.2.1 u.2.2) t.heap ∧ va_D A (wX cI (D.1 99) zz g ad u.1 u.2.1 u.2.2)) A)) rfl rfl pn_RX11 (Nat.le_of_ble_eq_true rfl) (fun p e s m below meth c A hx hb hml hown S hr hlocks hnm hA hP hK hD hXS hS ls hl => ?_)
  have hl : lv_has ls 1 [(0, .ref (g 0))] := hl
  have hb_cn : Hid (CBX cn) := hB
  replace hB : CBXh cn := hB
  refine lv_aload_n hx hb (oc_42 0 shX11_drum_0) rfl (lvA0 hl) ?_
  refine gf_RX11_502 S hK hP 0 xo_0 (v := .int (nI (cn 2))) rfl (oc_180 1 (aq_1 shX11_drum_0) uw_1_246) ?_
  refine lv_bipush (v := 20) hx hb (oc_16 4 (aq_4 shX11_drum_0) sgb_20) kbc_20 ?_
  have : (nI (cn 2)).toInt = (((cn 2) : Nat) : Int) := nI_toInt (by (first | omega | (have zz0 := Hid.u hb_cn; omega)))
  refine lv_icmp_lt (tgt := 11) hx hb (oc_161 6 (aq_6 shX11_drum_0) sgw_0_5) rfl (fun c_1 => ?_) (fun c_1 => ?_)
  ·
    have tc_1 : ((nI (cn 2)).toInt : Int) < 20 := Int32.lt_iff_toInt_lt.mp c_1
    refine lv_aload_n hx hb (oc_42 11 (aq_11 shX11_drum_0)) rfl (lvA0 hl) ?_
    refine lv_dup hx hb (oc_89 12 (aq_12 shX11_drum_0)) rfl ?_
    refine gf_RX11_502 S hK hP 0 xo_0 (v := .int (nI (cn 2))) rfl (oc_180 13 (aq_13 shX11_drum_0) uw_1_246) ?_
    refine lv_iconst (v := 1) hx hb (oc_4 16 (aq_16 shX11_drum_0)) kic_1 ?_
    refine lv_iadd hx hb (oc_96 17 (aq_17 shX11_drum_0)) ?_
    refine lv_topi (fun y_2 ey_2 => ?_)
    obtain rfl : y_2 = (nI ((cn 2) + 1)) := ey_2.trans (nI_add (cn 2) 1)
    refine pf_RX11_502 S hK hP hD hS 0 xo_0 (v := .int (nI ((cn 2) + 1))) (Nat.le_of_ble_eq_true rfl) rfl rfl (oc_181 18 (aq_18 shX11_drum_0) uw_1_246) (fun H locs hP hD hS => ?_)
    have hP : va_P D vwCl (wX cI (D.1 99) zz g ad (va_up cn 2 ((cn 2) + 1)) In Fn) H := va_P_eq (xsf_0_2) hP
    have hD : va_D A (wX cI (D.1 99) zz g ad (va_up cn 2 ((cn 2) + 1)) In Fn) := va_D_eq (xsf_0_2) hD
    refine lv_aload_n hx hb (oc_42 21 (aq_21 shX11_drum_0)) rfl (lvA0 hl) ?_
    refine gf_RX11_502 S hK hP 0 xo_0 (v := .int (nI ((cn 2) + 1))) rfl (oc_180 22 (aq_22 shX11_drum_0) uw_1_246) ?_
    refine lv_iconst (v := 1) hx hb (oc_4 25 shX11_drum_25) kic_1 ?_
    refine lv_isub hx hb (oc_100 26 (aq_1 shX11_drum_25)) ?_
    refine lv_topi (fun y_3 ey_3 => ?_)
    obtain rfl : y_3 = (nI (cn 2)) := ey_3.trans (nI_sub (b := 1) (by (first | omega | (have zz0 := Hid.u hb_cn; omega))))
    exact W.iret (v := (nI (cn 2))) hx hb hr (fun t ht hW => ⟨⟨(nI (cn 2)), ((va_up cn 2 ((cn 2) + 1)), In, Fn), rfl, ⟨(show Fr [2] [] [] cn In Fn (va_up cn 2 ((cn 2) + 1)) In Fn from Fr.mo (Fr.c 2 (Fr.rf (cn := cn) (In := In) (Fn := Fn))) (sbl rfl) (sbl rfl) (sbl rfl)).2.1, (Or.inl ⟨rfl, (by first | trivial | (first | omega | (have zz0 := Hid.u hb_cn; omega)) | (simp only [zd0]; (first | omega | (have zz0 := Hid.u hb_cn; omega)))), (by first | rfl | simp only [zd0] | simp only [zd0, zd1]), (by first | rfl | simp only [zd0] | simp only [zd0, zd1])⟩)⟩, by rw [ht]; exact hP, hD⟩, hS.F ht⟩) hS.2.2 (oc_172 27 (aq_2 shX11_drum_25))
  ·
    have tc_1 : (20 : Int) ≤ (nI (cn 2)).toInt := Int32.le_iff_toInt_le.mp (Int32.not_lt.mp c_1)
    refine lv_iconst (v := (-1)) hx hb (oc_2 9 (aq_9 shX11_drum_0)) kic_m1 ?_
    exact W.iret (v := (-1)) hx hb hr (fun t ht hW => ⟨⟨(-1), (cn, In, Fn), rfl, ⟨(show Fr [2] [] [] cn In Fn cn In Fn from Fr.mo (Fr.rf (cn := cn) (In := In) (Fn := Fn)) (sbl rfl) (sbl rfl) (sbl rfl)).2.1, (Or.inr ⟨rfl, (by first | trivial | (first | omega | (have zz0 := Hid.u hb_cn; omega)) | (simp only [zd0]; (first | omega | (have zz0 := Hid.u hb_cn; omega)))), (by first | rfl | simp only [zd0] | simp only [zd0, zd1]), (by first | rfl | simp only [zd0] | simp only [zd0, zd1])⟩)⟩, by rw [ht]; exact hP, hD⟩, hS.F ht⟩) hS.2.2 (oc_172 10 (aq_10 shX11_drum_0))
set_option maxRecDepth 100000 in
set_option maxHeartbeats 4000000 in
theorem q_Estreet (l : Launch) (D : va_G) (cI cB cZ : ClassId) (zz qq vv : Nat) (bt : Nat → Int32) (g : Nat → Nat) (ad : Nat → Nat → Nat) (cn : Nat → Nat) (In : Nat → Int32) (Fn : Nat → Nat → Int32) (v0 v1 : Int32) (sz : Nat) (hB : CBX cn) : Met l yX11_street (CWS yX11_street cX11_street 4 (some .boolean)) (RM 4 0 0) (PBx [.ref (g 0), .int v0, .int v1] D cI cB cZ zz qq vv bt (wX cI (D.1 99) zz g ad cn In Fn) sz) (va_Qi (fun (r : Int32) (u : (Nat → Nat) × (Nat → Int32) × (Nat → Nat → Int32)) => (fun r c2 I2 F2 => (∀ k : Nat, k ∉ [] → I2 k = In k) ∧ ((r = 1 ∧ (0 ≤ v0.toInt ∧ v0.toInt < (cn 10 : Int) ∧ 0 ≤ v1.toInt ∧ v1.toInt ≤ 9) ∧ cn = c2 ∧ (va_up Fn 109 (upd (Fn 109) v0.toInt.toNat v1)) = F2) ∨ (r = 0 ∧ (¬ (0 ≤ v0.toInt ∧ v0.toInt < (cn 10 : Int) ∧ 0 ≤ v1.toInt ∧ v1.toInt ≤ 9)) ∧ cn = c2 ∧ Fn = F2))) r u.1 u.2.1 u.2.2) (fun (u : (Nat → Nat) × (Nat → Int32) × (Nat → Nat → Int32)) (t : State) => va_P D vwCl (wX cI (D.1 99) zz g ad u.1 u.2.1 u.2.2) t.heap ∧ va_D (va_A (wX cI (D.1 99) zz g ad cn In Fn) sz) (wX cI (D.1 99) zz g ad u.1 u.2.1 u.2.2)) (va_A (wX cI (D.1 99) zz g ad cn In Fn) sz)) 0 0 (va_A (wX cI (D.1 99) zz g ad cn In Fn) sz) := by
  refine en_x (fun A => (va_Qi (fun (r : Int32) (u : (Nat → Nat) × (Nat → Int32) × (Nat → Nat → Int32)) => (fun (r : Int32) (c2 : Nat → Nat) (I2 : Nat → Int32) (F2 : Nat → Nat → Int32) => (∀ k : Nat, k ∉ [] → I2 k = In k) ∧ ((r = 1 ∧ (0 ≤ v0.toInt ∧ v0.toInt < (cn 10 : Int) ∧ 0 ≤ v1.toInt ∧ v1.toInt ≤ 9) ∧ cn = c2 ∧ (va_up Fn 109 (upd (Fn 109) v0.toInt.toNat v1)) = F2) ∨ (r = 0 ∧ (¬ (0 ≤ v0.toInt ∧ v0.toInt < (cn 10 : Int) ∧ 0 ≤ v1.toInt ∧ v1.toInt ≤ 9)) ∧ cn = c2 ∧ Fn = F2))) r u.1 u.2.1 u.2.2) (fun (u : (Nat → Nat) × (Nat → Int32) × (Nat → Nat → Int32)) (t : State) => va_P D vwCl (wX cI (D.1 99) zz g ad u.1 u.2.1 u.2.2) t.heap ∧ va_D A (wX cI (D.1 99) zz g ad u.1 u.2.1 u.2.2)) A)) rfl rfl pn_RX11 (Nat.le_of_ble_eq_true rfl) (fun p e s m below meth c A hx hb hml hown S hr hlocks hnm hA hP hK hD hXS hS ls hl => ?_)
  have hl : lv_has ls 4 [(0, .ref (g 0)), (1, .int v0), (2, .int v1)] := hl
  have hb_cn : Hid (CBX cn) := hB
  replace hB : CBXh cn := hB
  refine lv_aload_n hx hb (oc_42 0 shX11_street_0) rfl (lvA0 hl) ?_
  refine lv_iload_n hx hb (oc_27 1 (aq_1 shX11_street_0)) rfl (lvA1 hl) ?_
  refine va_csq (runV_rxa (As := [.int v0]) (rest := []) S (q_XkitchenAt l D cI cB cZ zz qq vv bt g ad cn In Fn v0 hB) kV_RX11_114 hK hXS hS hP 0 xo_0 rfl rfl ⟨Nat.le_of_ble_eq_true rfl, Nat.le_of_ble_eq_true rfl⟩ ⟨Nat.le_of_ble_eq_true rfl, Nat.le_of_ble_eq_true rfl⟩ rfl hl.1 rfl (Nat.le_of_ble_eq_true rfl) (oc_182 2 (aq_2 shX11_street_0) uw_0_114)) (fun r_1 h_2 => ?_)
  rcases h_2 with ⟨mr_1, er_1, hr_1, rfl⟩ | ⟨hr_1, rfl⟩
  ·
    refine lv_astore_n (lv' := [(3, .ref (ad 10 mr_1)), (0, .ref (g 0)), (1, .int v0), (2, .int v1)]) hx hb dX11_street_5 rfl hl (ltb rfl) rfl (fun ls hl => ?_)
    refine lv_aload_n hx hb dX11_street_6 rfl (lvA0 hl) ?_
    refine lv_ifnull hx hb dX11_street_7 ?_
    refine lv_iload_n hx hb (oc_28 10 (aq_10 shX11_street_0)) rfl (lvA3 hl) ?_
    refine lv_iconst (v := 0) hx hb (oc_3 11 (aq_11 shX11_street_0)) kic_0 ?_
    refine lv_bipush (v := 9) hx hb (oc_16 12 (aq_12 shX11_street_0) sgb_9) kbc_9 ?_
    refine vp_callSi (runS_r (As := [.int v1, .int 0, .int 9]) (rest := []) S (q_l_within l D cI cB cZ v1 0 9) kS_RX11_80 hK hP [] rfl ⟨Nat.le_of_ble_eq_true rfl, Nat.le_of_ble_eq_true rfl⟩ ⟨Nat.le_of_ble_eq_true rfl, Nat.le_of_ble_eq_true rfl⟩ rfl hl.1 rfl (Nat.le_of_ble_eq_true rfl) (oc_184 14 (aq_14 shX11_street_0) uw_0_80)) (fun r_3 h_4 => ?_)
    rcases h_4 with ⟨rfl, h_4⟩ | ⟨rfl, h_4⟩
    ·
      have h_4 : 0 ≤ v1.toInt ∧ v1.toInt ≤ 9 := h_4
      refine lv_if_ne (tgt := 22) hx hb dX11_street_17 rfl (fun _ => ?_) (fun h => absurd h cq_eq_1_0)
      have zd0 : v0.toInt.toNat = mr_1 := by (first | omega | (have zz0 := Hid.u hb_cn; omega))
      refine lv_aload_n hx hb (oc_45 22 (aq_22 shX11_street_0)) rfl (lvA0 hl) ?_
      refine lv_iload_n hx hb (oc_28 23 (aq_23 shX11_street_0)) rfl (lvA3 hl) ?_
      have kf_1 : mr_1 < cn 10 := by (first | omega | (have zz0 := Hid.u hb_cn; omega))
      refine pf_RX11_260 S hK hP hD hS _ (xf_0 kf_1) (v := .int v1) (Nat.le_of_ble_eq_true rfl) rfl rfl (oc_181 24 shX11_street_24 uw_1_4) (fun H locs hP hD hS => ?_)
      have hP : va_P D vwCl (wX cI (D.1 99) zz g ad cn In (va_up Fn 109 (upd (Fn 109) mr_1 v1))) H := va_P_eq (xs_109 (by (first | omega | (have zz0 := Hid.u hb_cn; omega)))) hP
      have hD : va_D A (wX cI (D.1 99) zz g ad cn In (va_up Fn 109 (upd (Fn 109) mr_1 v1))) := va_D_eq (xs_109 (by (first | omega | (have zz0 := Hid.u hb_cn; omega)))) hD
      refine lv_iconst (v := 1) hx hb (oc_4 27 (aq_3 shX11_street_24)) kic_1 ?_
      exact W.zret (v := 1) hx hb hr rfl (fun t ht hW => ⟨⟨1, (cn, In, (va_up Fn 109 (upd (Fn 109) mr_1 v1))), rfl, ⟨(show Fr [] [] [109] cn In Fn cn In (va_up Fn 109 (upd (Fn 109) mr_1 v1)) from Fr.mo (Fr.f 109 (Fr.rf (cn := cn) (In := In) (Fn := Fn))) (sbl rfl) (sbl rfl) (sbl rfl)).2.1, (Or.inl ⟨rfl, (by first | trivial | (first | omega | (have zz0 := Hid.u hb_cn; omega)) | (simp only [zd0]; (first | omega | (have zz0 := Hid.u hb_cn; omega)))), (by first | rfl | simp only [zd0] | simp only [zd0, zd1]), (by first | rfl | simp only [zd0] | simp only [zd0, zd1])⟩)⟩, by rw [ht]; exact hP, hD⟩, hS.F ht⟩) hS.2.2 (oc_172 28 (aq_4 shX11_street_24))
    ·
      have h_4 : ¬ (0 ≤ v1.toInt ∧ v1.toInt ≤ 9) := h_4
      refine lv_if_ne (tgt := 22) hx hb dX11_street_17 rfl (fun h => absurd h cq_eq_0_0) (fun _ => ?_)
      refine lv_iconst (v := 0) hx hb dX11_street_20 kic_0 ?_
      exact W.zret (v := 0) hx hb hr rfl (fun t ht hW => ⟨⟨0, (cn, In, Fn), rfl, ⟨(show Fr [] [] [109] cn In Fn cn In Fn from Fr.mo (Fr.rf (cn := cn) (In := In) (Fn := Fn)) (sbl rfl) (sbl rfl) (sbl rfl)).2.1, (Or.inr ⟨rfl, (by first | trivial | (first | omega | (have zz0 := Hid.u hb_cn; omega)) | (simp only [zd0]; (first | omega | (have zz0 := Hid.u hb_cn; omega)))), (by first | rfl | simp only [zd0] | simp only [zd0, zd1]), (by first | rfl | simp only [zd0] | simp only [zd0, zd1])⟩)⟩, by rw [ht]; exact hP, hD⟩, hS.F ht⟩) hS.2.2 dX11_street_21
  ·
    refine lv_astore_nN (lv' := [(3, .null), (0, .ref (g 0)), (1, .int v0), (2, .int v1)]) hx hb dX11_street_5 rfl hl (ltb rfl) rfl (fun ls hl => ?_)
    refine lv_aload_nN hx hb dX11_street_6 rfl (lvA0 hl) ?_
    refine lv_ifnullN (tgt := 20) hx hb dX11_street_7 rfl ?_
    refine lv_iconst (v := 0) hx hb dX11_street_20 kic_0 ?_
    exact W.zret (v := 0) hx hb hr rfl (fun t ht hW => ⟨⟨0, (cn, In, Fn), rfl, ⟨(show Fr [] [] [109] cn In Fn cn In Fn from Fr.mo (Fr.rf (cn := cn) (In := In) (Fn := Fn)) (sbl rfl) (sbl rfl) (sbl rfl)).2.1, (Or.inr ⟨rfl, (by first | trivial | (first | omega | (have zz0 := Hid.u hb_cn; omega)) | (simp only [zd0]; (first | omega | (have zz0 := Hid.u hb_cn; omega)))), (by first | rfl | simp only [zd0] | simp only [zd0, zd1]), (by first | rfl | simp only [zd0] | simp only [zd0, zd1])⟩)⟩, by rw [ht]; exact hP, hD⟩, hS.F ht⟩) hS.2.2 dX11_street_21
