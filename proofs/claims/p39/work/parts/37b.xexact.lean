

set_option maxRecDepth 100000 in
set_option maxHeartbeats 4000000 in
theorem q_Elorry (l : Launch) (D : va_G) (cI cB cZ : ClassId) (zz qq vv : Nat) (bt : Nat → Int32) (g : Nat → Nat) (ad : Nat → Nat → Nat) (cn : Nat → Nat) (In : Nat → Int32) (Fn : Nat → Nat → Int32) (v0 : Int32) (sz : Nat) (hB : CBX cn) : Met l yX11_lorry (CWS yX11_lorry cX11_lorry 2 (some .int)) (RM 1 0 0) (PBx [.ref (g 0), .int v0] D cI cB cZ zz qq vv bt (wX cI (D.1 99) zz g ad cn In Fn) sz) (va_Qi (fun (r : Int32) (u : (Nat → Nat) × (Nat → Int32) × (Nat → Nat → Int32)) => (fun r c2 I2 F2 => (∀ k : Nat, k ∉ [] → I2 k = In k) ∧ ((r = nI (cn 1) ∧ (20 ≤ v0.toInt ∧ v0.toInt ≤ 2000 ∧ cn 1 < 3) ∧ (va_up cn 1 (cn 1 + 1)) = c2 ∧ (va_up Fn 27 (putM (Fn 27) 3 (nI (cn 1)) v0)) = F2) ∨ (r = -1 ∧ (¬ (20 ≤ v0.toInt ∧ v0.toInt ≤ 2000 ∧ cn 1 < 3)) ∧ cn = c2 ∧ Fn = F2))) r u.1 u.2.1 u.2.2) (fun (u : (Nat → Nat) × (Nat → Int32) × (Nat → Nat → Int32)) (t : State) => va_P D vwCl (wX cI (D.1 99) zz g ad u.1 u.2.1 u.2.2) t.heap ∧ va_D (va_A (wX cI (D.1 99) zz g ad cn In Fn) sz) (wX cI (D.1 99) zz g ad u.1 u.2.1 u.2.2)) (va_A (wX cI (D.1 99) zz g ad cn In Fn) sz)) 0 0 (va_A (wX cI (D.1 99) zz g ad cn In Fn) sz) := by
  refine en_x (fun A => (va_Qi (fun (r : Int32) (u : (Nat → Nat) × (Nat → Int32) × (Nat → Nat → Int32)) => (fun (r : Int32) (c2 : Nat → Nat) (I2 : Nat → Int32) (F2 : Nat → Nat → Int32) => (∀ k : Nat, k ∉ [] → I2 k = In k) ∧ ((r = nI (cn 1) ∧ (20 ≤ v0.toInt ∧ v0.toInt ≤ 2000 ∧ cn 1 < 3) ∧ (va_up cn 1 (cn 1 + 1)) = c2 ∧ (va_up Fn 27 (putM (Fn 27) 3 (nI (cn 1)) v0)) = F2) ∨ (r = -1 ∧ (¬ (20 ≤ v0.toInt ∧ v0.toInt ≤ 2000 ∧ cn 1 < 3)) ∧ cn = c2 ∧ Fn = F2))) r u.1 u.2.1 u.2.2) (fun (u : (Nat → Nat) × (Nat → Int32) × (Nat → Nat → Int32)) (t : State) => va_P D vwCl (wX cI (D.1 99) zz g ad u.1 u.2.1 u.2.2) t.heap ∧ va_D A (wX cI (D.1 99) zz g ad u.1 u.2.1 u.2.2)) A)) rfl rfl pn_RX11 (Nat.le_of_ble_eq_true rfl) (fun p e s m below meth c A hx hb hml hown S hr hlocks hnm hA hP hK hD hXS hS ls hl => ?_)
  have hl : lv_has ls 2 [(0, .ref (g 0)), (1, .int v0)] := hl
  have hb_cn : Hid (CBX cn) := hB
  replace hB : CBXh cn := hB
  refine lv_iload_n hx hb (oc_27 0 shX11_lorry_0) rfl (lvA1 hl) ?_
  refine lv_bipush (v := 20) hx hb (oc_16 1 (aq_1 shX11_lorry_0) sgb_20) kbc_20 ?_
  refine lv_sipush (v := 2000) hx hb (oc_17 3 (aq_3 shX11_lorry_0) sgw_7_208) (by decide) ?_
  refine vp_callSi (runS_r (As := [.int v0, .int 20, .int 2000]) (rest := []) S (q_l_within l D cI cB cZ v0 20 2000) kS_RX11_80 hK hP [] rfl ⟨Nat.le_of_ble_eq_true rfl, Nat.le_of_ble_eq_true rfl⟩ ⟨Nat.le_of_ble_eq_true rfl, Nat.le_of_ble_eq_true rfl⟩ rfl hl.1 rfl (Nat.le_of_ble_eq_true rfl) (oc_184 6 (aq_6 shX11_lorry_0) uw_0_80)) (fun r_1 h_2 => ?_)
  rcases h_2 with ⟨rfl, h_2⟩ | ⟨rfl, h_2⟩
  ·
    have h_2 : 20 ≤ v0.toInt ∧ v0.toInt ≤ 2000 := h_2
    refine lv_if_eq (tgt := 20) hx hb dX11_lorry_9 rfl (fun h => absurd h cq_eq_1_0) (fun _ => ?_)
    refine lv_aload_n hx hb (oc_42 12 (aq_12 shX11_lorry_0)) rfl (lvA0 hl) ?_
    refine gf_RX11_311 S hK hP 0 xo_0 (v := .int (nI (cn 1))) rfl (oc_180 13 (aq_13 shX11_lorry_0) uw_1_55) ?_
    refine lv_iconst (v := 3) hx hb (oc_6 16 (aq_16 shX11_lorry_0)) kic_3 ?_
    have : (nI (cn 1)).toInt = (((cn 1) : Nat) : Int) := nI_toInt (by (first | omega | (have zz0 := Hid.u hb_cn; omega)))
    refine lv_icmp_lt (tgt := 22) hx hb (oc_161 17 (aq_17 shX11_lorry_0) sgw_0_5) rfl (fun c_3 => ?_) (fun c_3 => ?_)
    ·
      have tc_3 : ((nI (cn 1)).toInt : Int) < 3 := Int32.lt_iff_toInt_lt.mp c_3
      refine lv_aload_n hx hb (oc_42 22 (aq_22 shX11_lorry_0)) rfl (lvA0 hl) ?_
      refine gf_RX11_47 S hK hP 0 xo_0 (v := .ref (g 8)) rfl (oc_180 23 (aq_23 shX11_lorry_0) uw_0_47) ?_
      refine gf_RX11_314 S hK hP 6 xo_6 (v := .ref (g 27)) rfl (oc_180 26 shX11_lorry_26 uw_1_58) ?_
      refine lv_aload_n hx hb (oc_42 29 (aq_3 shX11_lorry_26)) rfl (lvA0 hl) ?_
      refine gf_RX11_311 S hK hP 0 xo_0 (v := .int (nI (cn 1))) rfl (oc_180 30 (aq_4 shX11_lorry_26) uw_1_55) ?_
      refine lv_iload_n hx hb (oc_27 33 (aq_7 shX11_lorry_26)) rfl (lvA1 hl) ?_
      have hFc := va_free (wc := [((g 27), .inl (cI, 3, .inl (Fn 27)))]) hD hS hA [14] (one_im xo_14)
      refine va_callv (runS_w (As := [.ref (g 27), .int (nI (cn 1)), .int v0]) (rest := []) S (q_l_put l D cI cB cZ (g 27) 3 (Fn 27) (nI (cn 1)) v0 s.heap.size (by (first | omega | (have zz0 := Hid.u hb_cn; omega)))) kS_RX11_184 hK hP hD [14] (one_is xo_14) (one_im xo_14) rfl ⟨Nat.le_of_ble_eq_true rfl, Nat.le_of_ble_eq_true rfl⟩ ⟨Nat.le_of_ble_eq_true rfl, Nat.le_of_ble_eq_true rfl⟩ rfl hl.1 rfl (Nat.le_of_ble_eq_true rfl) (oc_184 34 (aq_8 shX11_lorry_26) uw_0_184)) hS (fun q _ h => hFc q h) hFc (fun u_6 t H1 locs ht hvm h_5 hB1 hz1 hk1 hS => ?_)
      obtain ⟨hP1, hD1⟩ := hB1
      rw [ht] at hP1
      obtain ⟨hP, hD⟩ := wset1 hP hD xo_14 hk1 hP1
      obtain rfl : u_6 = (putM (Fn 27) 3 (nI (cn 1)) v0) := h_5
      generalize H1 = H at hP hS ⊢
      have hP : va_P D vwCl (wX cI (D.1 99) zz g ad cn In (va_up Fn 27 (putM (Fn 27) 3 (nI (cn 1)) v0))) H := va_P_eq xsa_14 hP
      have hD : va_D A (wX cI (D.1 99) zz g ad cn In (va_up Fn 27 (putM (Fn 27) 3 (nI (cn 1)) v0))) := va_D_eq xsa_14 hD
      refine lv_aload_n hx hb (oc_42 37 (aq_11 shX11_lorry_26)) rfl (lvA0 hl) ?_
      refine lv_dup hx hb (oc_89 38 (aq_12 shX11_lorry_26)) rfl ?_
      refine gf_RX11_311 S hK hP 0 xo_0 (v := .int (nI (cn 1))) rfl (oc_180 39 (aq_13 shX11_lorry_26) uw_1_55) ?_
      refine lv_iconst (v := 1) hx hb (oc_4 42 (aq_16 shX11_lorry_26)) kic_1 ?_
      refine lv_iadd hx hb (oc_96 43 (aq_17 shX11_lorry_26)) ?_
      refine lv_topi (fun y_7 ey_7 => ?_)
      obtain rfl : y_7 = (nI ((cn 1) + 1)) := ey_7.trans (nI_add (cn 1) 1)
      refine pf_RX11_311 S hK hP hD hS 0 xo_0 (v := .int (nI ((cn 1) + 1))) (Nat.le_of_ble_eq_true rfl) rfl rfl (oc_181 44 (aq_18 shX11_lorry_26) uw_1_55) (fun H locs hP hD hS => ?_)
      have hP : va_P D vwCl (wX cI (D.1 99) zz g ad (va_up cn 1 ((cn 1) + 1)) In (va_up Fn 27 (putM (Fn 27) 3 (nI (cn 1)) v0))) H := va_P_eq (xsf_0_1) hP
      have hD : va_D A (wX cI (D.1 99) zz g ad (va_up cn 1 ((cn 1) + 1)) In (va_up Fn 27 (putM (Fn 27) 3 (nI (cn 1)) v0))) := va_D_eq (xsf_0_1) hD
      refine lv_aload_n hx hb (oc_42 47 (aq_21 shX11_lorry_26)) rfl (lvA0 hl) ?_
      refine gf_RX11_311 S hK hP 0 xo_0 (v := .int (nI ((cn 1) + 1))) rfl (oc_180 48 (aq_22 shX11_lorry_26) uw_1_55) ?_
      refine lv_iconst (v := 1) hx hb (oc_4 51 shX11_lorry_51) kic_1 ?_
      refine lv_isub hx hb (oc_100 52 (aq_1 shX11_lorry_51)) ?_
      refine lv_topi (fun y_8 ey_8 => ?_)
      obtain rfl : y_8 = (nI (cn 1)) := ey_8.trans (nI_sub (b := 1) (by (first | omega | (have zz0 := Hid.u hb_cn; omega))))
      exact W.iret (v := (nI (cn 1))) hx hb hr (fun t ht hW => ⟨⟨(nI (cn 1)), ((va_up cn 1 ((cn 1) + 1)), In, (va_up Fn 27 (putM (Fn 27) 3 (nI (cn 1)) v0))), rfl, ⟨(show Fr [1] [] [27] cn In Fn (va_up cn 1 ((cn 1) + 1)) In (va_up Fn 27 (putM (Fn 27) 3 (nI (cn 1)) v0)) from Fr.mo (Fr.f 27 (Fr.c 1 (Fr.rf (cn := cn) (In := In) (Fn := Fn)))) (sbl rfl) (sbl rfl) (sbl rfl)).2.1, (Or.inl ⟨rfl, (by first | trivial | (first | omega | (have zz0 := Hid.u hb_cn; omega)) | (simp only [zd0]; (first | omega | (have zz0 := Hid.u hb_cn; omega)))), (by first | rfl | simp only [zd0] | simp only [zd0, zd1]), (by first | rfl | simp only [zd0] | simp only [zd0, zd1])⟩)⟩, by rw [ht]; exact hP, hD⟩, hS.F ht⟩) hS.2.2 (oc_172 53 (aq_2 shX11_lorry_51))
    ·
      have tc_3 : (3 : Int) ≤ (nI (cn 1)).toInt := Int32.le_iff_toInt_le.mp (Int32.not_lt.mp c_3)
      refine lv_iconst (v := (-1)) hx hb dX11_lorry_20 kic_m1 ?_
      exact W.iret (v := (-1)) hx hb hr (fun t ht hW => ⟨⟨(-1), (cn, In, Fn), rfl, ⟨(show Fr [1] [] [27] cn In Fn cn In Fn from Fr.mo (Fr.rf (cn := cn) (In := In) (Fn := Fn)) (sbl rfl) (sbl rfl) (sbl rfl)).2.1, (Or.inr ⟨rfl, (by first | trivial | (first | omega | (have zz0 := Hid.u hb_cn; omega)) | (simp only [zd0]; (first | omega | (have zz0 := Hid.u hb_cn; omega)))), (by first | rfl | simp only [zd0] | simp only [zd0, zd1]), (by first | rfl | simp only [zd0] | simp only [zd0, zd1])⟩)⟩, by rw [ht]; exact hP, hD⟩, hS.F ht⟩) hS.2.2 dX11_lorry_21
  ·
    have h_2 : ¬ (20 ≤ v0.toInt ∧ v0.toInt ≤ 2000) := h_2
    refine lv_if_eq (tgt := 20) hx hb dX11_lorry_9 rfl (fun _ => ?_) (fun h => absurd h cq_eq_0_0)
    refine lv_iconst (v := (-1)) hx hb dX11_lorry_20 kic_m1 ?_
    exact W.iret (v := (-1)) hx hb hr (fun t ht hW => ⟨⟨(-1), (cn, In, Fn), rfl, ⟨(show Fr [1] [] [27] cn In Fn cn In Fn from Fr.mo (Fr.rf (cn := cn) (In := In) (Fn := Fn)) (sbl rfl) (sbl rfl) (sbl rfl)).2.1, (Or.inr ⟨rfl, (by first | trivial | (first | omega | (have zz0 := Hid.u hb_cn; omega)) | (simp only [zd0]; (first | omega | (have zz0 := Hid.u hb_cn; omega)))), (by first | rfl | simp only [zd0] | simp only [zd0, zd1]), (by first | rfl | simp only [zd0] | simp only [zd0, zd1])⟩)⟩, by rw [ht]; exact hP, hD⟩, hS.F ht⟩) hS.2.2 dX11_lorry_21
