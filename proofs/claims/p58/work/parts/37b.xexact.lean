

set_option maxRecDepth 100000 in
set_option maxHeartbeats 4000000 in
theorem q_Eprice (l : Launch) (D : va_G) (cI cB cZ : ClassId) (zz qq vv : Nat) (bt : Nat → Int32) (g : Nat → Nat) (ad : Nat → Nat → Nat) (cn : Nat → Nat) (In : Nat → Int32) (Fn : Nat → Nat → Int32) (v0 v1 : Int32) (sz : Nat) (hB : CBX cn) : Met l yX11_price (CWS yX11_price cX11_price 3 (some .boolean)) (RM 1 0 0) (PBx [.ref (g 0), .int v0, .int v1] D cI cB cZ zz qq vv bt (wX cI (D.1 99) zz g ad cn In Fn) sz) (va_Qi (fun (r : Int32) (u : (Nat → Nat) × (Nat → Int32) × (Nat → Nat → Int32)) => (fun r c2 I2 F2 => (∀ k : Nat, k ∉ [] → I2 k = In k) ∧ ((r = 1 ∧ (0 ≤ v0.toInt ∧ v0.toInt ≤ 57 ∧ 0 ≤ v1.toInt ∧ v1.toInt ≤ 1000) ∧ cn = c2 ∧ (va_up Fn 20 (upd (Fn 20) v0.toInt.toNat v1)) = F2) ∨ (r = 0 ∧ (¬ (0 ≤ v0.toInt ∧ v0.toInt ≤ 57 ∧ 0 ≤ v1.toInt ∧ v1.toInt ≤ 1000)) ∧ cn = c2 ∧ Fn = F2))) r u.1 u.2.1 u.2.2) (fun (u : (Nat → Nat) × (Nat → Int32) × (Nat → Nat → Int32)) (t : State) => va_P D vwCl (wX cI (D.1 99) zz g ad u.1 u.2.1 u.2.2) t.heap ∧ va_D (va_A (wX cI (D.1 99) zz g ad cn In Fn) sz) (wX cI (D.1 99) zz g ad u.1 u.2.1 u.2.2)) (va_A (wX cI (D.1 99) zz g ad cn In Fn) sz)) 0 0 (va_A (wX cI (D.1 99) zz g ad cn In Fn) sz) := by
  refine en_x (fun A => (va_Qi (fun (r : Int32) (u : (Nat → Nat) × (Nat → Int32) × (Nat → Nat → Int32)) => (fun (r : Int32) (c2 : Nat → Nat) (I2 : Nat → Int32) (F2 : Nat → Nat → Int32) => (∀ k : Nat, k ∉ [] → I2 k = In k) ∧ ((r = 1 ∧ (0 ≤ v0.toInt ∧ v0.toInt ≤ 57 ∧ 0 ≤ v1.toInt ∧ v1.toInt ≤ 1000) ∧ cn = c2 ∧ (va_up Fn 20 (upd (Fn 20) v0.toInt.toNat v1)) = F2) ∨ (r = 0 ∧ (¬ (0 ≤ v0.toInt ∧ v0.toInt ≤ 57 ∧ 0 ≤ v1.toInt ∧ v1.toInt ≤ 1000)) ∧ cn = c2 ∧ Fn = F2))) r u.1 u.2.1 u.2.2) (fun (u : (Nat → Nat) × (Nat → Int32) × (Nat → Nat → Int32)) (t : State) => va_P D vwCl (wX cI (D.1 99) zz g ad u.1 u.2.1 u.2.2) t.heap ∧ va_D A (wX cI (D.1 99) zz g ad u.1 u.2.1 u.2.2)) A)) rfl rfl pn_RX11 (Nat.le_of_ble_eq_true rfl) (fun p e s m below meth c A hx hb hml hown S hr hlocks hnm hA hP hK hD hXS hS ls hl => ?_)
  have hl : lv_has ls 3 [(0, .ref (g 0)), (1, .int v0), (2, .int v1)] := hl
  have hb_cn : Hid (CBX cn) := hB
  replace hB : CBXh cn := hB
  refine lv_aload_n hx hb (oc_42 0 shX11_price_0) rfl (lvA0 hl) ?_
  refine gf_RX11_47 S hK hP 0 xo_0 (v := .ref (g 8)) rfl (oc_180 1 (aq_1 shX11_price_0) uw_0_47) ?_
  refine gf_RX11_174 S hK hP 6 xo_6 (v := .ref (g 20)) rfl (oc_180 4 (aq_4 shX11_price_0) uw_0_174) ?_
  refine lv_iload_n hx hb (oc_27 7 (aq_7 shX11_price_0)) rfl (lvA1 hl) ?_
  refine lv_iload_n hx hb (oc_28 8 (aq_8 shX11_price_0)) rfl (lvA2 hl) ?_
  refine lv_iconst (v := 0) hx hb (oc_3 9 (aq_9 shX11_price_0)) kic_0 ?_
  refine lv_sipush (v := 1000) hx hb (oc_17 10 (aq_10 shX11_price_0) sgw_3_232) (by decide) ?_
  have hFc := va_free (wc := [((g 20), .inl (cI, 58, .inl (Fn 20)))]) hD hS hA [7] (one_im xo_7)
  refine va_calli (runS_w (As := [.ref (g 20), .int v0, .int v1, .int 0, .int 1000]) (rest := []) S (q_l_tell l D cI cB cZ (g 20) 58 (Fn 20) v0 v1 0 1000 s.heap.size (by (first | omega | (have zz0 := Hid.u hb_cn; omega)))) kS_RX11_177 hK hP hD [7] (one_is xo_7) (one_im xo_7) rfl ⟨Nat.le_of_ble_eq_true rfl, Nat.le_of_ble_eq_true rfl⟩ ⟨Nat.le_of_ble_eq_true rfl, Nat.le_of_ble_eq_true rfl⟩ rfl hl.1 rfl (Nat.le_of_ble_eq_true rfl) (oc_184 13 (aq_13 shX11_price_0) uw_0_177)) hS (fun q _ h => hFc q h) hFc (fun r_1 u_3 t H1 locs ht hvm h_2 hB1 hz1 hk1 hS => ?_)
  obtain ⟨hP1, hD1⟩ := hB1
  rw [ht] at hP1
  obtain ⟨hP, hD⟩ := wset1 hP hD xo_7 hk1 hP1
  rcases h_2 with ⟨rfl, h_2, rfl⟩ | ⟨rfl, h_2, rfl⟩
  ·
    have h_2 : 0 ≤ v0.toInt ∧ v0.toInt < (58 : Int) ∧ 0 ≤ v1.toInt ∧ v1.toInt ≤ 1000 := h_2
    generalize H1 = H at hP hS ⊢
    have hP : va_P D vwCl (wX cI (D.1 99) zz g ad cn In (va_up Fn 20 (upd (Fn 20) v0.toNatClampNeg v1))) H := va_P_eq xsa_7 hP
    have hD : va_D A (wX cI (D.1 99) zz g ad cn In (va_up Fn 20 (upd (Fn 20) v0.toNatClampNeg v1))) := va_D_eq xsa_7 hD
    exact W.zret (v := 1) hx hb hr rfl (fun t ht hW => ⟨⟨1, (cn, In, (va_up Fn 20 (upd (Fn 20) v0.toNatClampNeg v1))), rfl, ⟨(show Fr [] [] [20] cn In Fn cn In (va_up Fn 20 (upd (Fn 20) v0.toNatClampNeg v1)) from Fr.mo (Fr.f 20 (Fr.rf (cn := cn) (In := In) (Fn := Fn))) (sbl rfl) (sbl rfl) (sbl rfl)).2.1, (Or.inl ⟨rfl, (by first | trivial | (first | omega | (have zz0 := Hid.u hb_cn; omega)) | (simp only [zd0]; (first | omega | (have zz0 := Hid.u hb_cn; omega)))), (by first | rfl | simp only [zd0] | simp only [zd0, zd1]), (by first | rfl | simp only [zd0] | simp only [zd0, zd1])⟩)⟩, by rw [ht]; exact hP, hD⟩, hS.F ht⟩) hS.2.2 dX11_price_16
  ·
    have h_2 : ¬ (0 ≤ v0.toInt ∧ v0.toInt < (58 : Int) ∧ 0 ≤ v1.toInt ∧ v1.toInt ≤ 1000) := h_2
    generalize H1 = H at hP hS ⊢
    have hP : va_P D vwCl (wX cI (D.1 99) zz g ad cn In Fn) H := va_P_eq xsr_7 hP
    have hD : va_D A (wX cI (D.1 99) zz g ad cn In Fn) := va_D_eq xsr_7 hD
    exact W.zret (v := 0) hx hb hr rfl (fun t ht hW => ⟨⟨0, (cn, In, Fn), rfl, ⟨(show Fr [] [] [20] cn In Fn cn In Fn from Fr.mo (Fr.rf (cn := cn) (In := In) (Fn := Fn)) (sbl rfl) (sbl rfl) (sbl rfl)).2.1, (Or.inr ⟨rfl, (by first | trivial | (first | omega | (have zz0 := Hid.u hb_cn; omega)) | (simp only [zd0]; (first | omega | (have zz0 := Hid.u hb_cn; omega)))), (by first | rfl | simp only [zd0] | simp only [zd0, zd1]), (by first | rfl | simp only [zd0] | simp only [zd0, zd1])⟩)⟩, by rw [ht]; exact hP, hD⟩, hS.F ht⟩) hS.2.2 dX11_price_16
set_option maxRecDepth 100000 in
set_option maxHeartbeats 4000000 in
theorem q_Espill (l : Launch) (D : va_G) (cI cB cZ : ClassId) (zz qq vv : Nat) (bt : Nat → Int32) (g : Nat → Nat) (ad : Nat → Nat → Nat) (cn : Nat → Nat) (In : Nat → Int32) (Fn : Nat → Nat → Int32) (v0 v1 : Int32) (sz : Nat) (hB : CBX cn) : Met l yX11_spill (CWS yX11_spill cX11_spill 3 (some .int)) (RM 2 0 0) (PBx [.ref (g 0), .int v0, .int v1] D cI cB cZ zz qq vv bt (wX cI (D.1 99) zz g ad cn In Fn) sz) (va_Qi (fun (r : Int32) (u : (Nat → Nat) × (Nat → Int32) × (Nat → Nat → Int32)) => (fun r c2 I2 F2 => (∀ k : Nat, k ∉ [] → I2 k = In k) ∧ ((r = nI (cn 5 + 1) ∧ (0 ≤ v0.toInt ∧ v0.toInt ≤ (cn 0 : Int) ∧ 1 ≤ v1.toInt ∧ v1.toInt ≤ 400 ∧ cn 5 < 40) ∧ (va_up cn 5 (cn 5 + 1)) = c2 ∧ (va_up Fn 29 (putM (Fn 29) 400 v0 (atM (Fn 29) 400 v0 + -v1))) = F2) ∨ (r = -1 ∧ (¬ (0 ≤ v0.toInt ∧ v0.toInt ≤ (cn 0 : Int) ∧ 1 ≤ v1.toInt ∧ v1.toInt ≤ 400 ∧ cn 5 < 40)) ∧ cn = c2 ∧ Fn = F2))) r u.1 u.2.1 u.2.2) (fun (u : (Nat → Nat) × (Nat → Int32) × (Nat → Nat → Int32)) (t : State) => va_P D vwCl (wX cI (D.1 99) zz g ad u.1 u.2.1 u.2.2) t.heap ∧ va_D (va_A (wX cI (D.1 99) zz g ad cn In Fn) sz) (wX cI (D.1 99) zz g ad u.1 u.2.1 u.2.2)) (va_A (wX cI (D.1 99) zz g ad cn In Fn) sz)) 0 0 (va_A (wX cI (D.1 99) zz g ad cn In Fn) sz) := by
  refine en_x (fun A => (va_Qi (fun (r : Int32) (u : (Nat → Nat) × (Nat → Int32) × (Nat → Nat → Int32)) => (fun (r : Int32) (c2 : Nat → Nat) (I2 : Nat → Int32) (F2 : Nat → Nat → Int32) => (∀ k : Nat, k ∉ [] → I2 k = In k) ∧ ((r = nI (cn 5 + 1) ∧ (0 ≤ v0.toInt ∧ v0.toInt ≤ (cn 0 : Int) ∧ 1 ≤ v1.toInt ∧ v1.toInt ≤ 400 ∧ cn 5 < 40) ∧ (va_up cn 5 (cn 5 + 1)) = c2 ∧ (va_up Fn 29 (putM (Fn 29) 400 v0 (atM (Fn 29) 400 v0 + -v1))) = F2) ∨ (r = -1 ∧ (¬ (0 ≤ v0.toInt ∧ v0.toInt ≤ (cn 0 : Int) ∧ 1 ≤ v1.toInt ∧ v1.toInt ≤ 400 ∧ cn 5 < 40)) ∧ cn = c2 ∧ Fn = F2))) r u.1 u.2.1 u.2.2) (fun (u : (Nat → Nat) × (Nat → Int32) × (Nat → Nat → Int32)) (t : State) => va_P D vwCl (wX cI (D.1 99) zz g ad u.1 u.2.1 u.2.2) t.heap ∧ va_D A (wX cI (D.1 99) zz g ad u.1 u.2.1 u.2.2)) A)) rfl rfl pn_RX11 (Nat.le_of_ble_eq_true rfl) (fun p e s m below meth c A hx hb hml hown S hr hlocks hnm hA hP hK hD hXS hS ls hl => ?_)
  have hl : lv_has ls 3 [(0, .ref (g 0)), (1, .int v0), (2, .int v1)] := hl
  have hb_cn : Hid (CBX cn) := hB
  replace hB : CBXh cn := hB
  refine lv_iload_n hx hb (oc_27 0 shX11_spill_0) rfl (lvA1 hl) ?_
  refine lv_iconst (v := 0) hx hb (oc_3 1 (aq_1 shX11_spill_0)) kic_0 ?_
  refine lv_aload_n hx hb (oc_42 2 (aq_2 shX11_spill_0)) rfl (lvA0 hl) ?_
  refine gf_RX11_103 S hK hP 0 xo_0 (v := .int (nI (cn 0))) rfl (oc_180 3 (aq_3 shX11_spill_0) uw_0_103) ?_
  refine vp_callSi (runS_r (As := [.int v0, .int 0, .int (nI (cn 0))]) (rest := []) S (q_l_within l D cI cB cZ v0 0 (nI (cn 0))) kS_RX11_80 hK hP [] rfl ⟨Nat.le_of_ble_eq_true rfl, Nat.le_of_ble_eq_true rfl⟩ ⟨Nat.le_of_ble_eq_true rfl, Nat.le_of_ble_eq_true rfl⟩ rfl hl.1 rfl (Nat.le_of_ble_eq_true rfl) (oc_184 6 (aq_6 shX11_spill_0) uw_0_80)) (fun r_1 h_2 => ?_)
  have : (nI (cn 0)).toInt = (((cn 0) : Nat) : Int) := nI_toInt (by (first | omega | (have zz0 := Hid.u hb_cn; omega)))
  rcases h_2 with ⟨rfl, h_2⟩ | ⟨rfl, h_2⟩
  ·
    have h_2 : 0 ≤ v0.toInt ∧ v0.toInt ≤ (nI (cn 0)).toInt := h_2
    refine lv_if_eq (tgt := 32) hx hb dX11_spill_9 rfl (fun h => absurd h cq_eq_1_0) (fun _ => ?_)
    refine lv_iload_n hx hb (oc_28 12 (aq_12 shX11_spill_0)) rfl (lvA2 hl) ?_
    refine lv_iconst (v := 1) hx hb (oc_4 13 (aq_13 shX11_spill_0)) kic_1 ?_
    refine lv_sipush (v := 400) hx hb (oc_17 14 (aq_14 shX11_spill_0) sgw_1_144) (by decide) ?_
    refine vp_callSi (runS_r (As := [.int v1, .int 1, .int 400]) (rest := []) S (q_l_within l D cI cB cZ v1 1 400) kS_RX11_80 hK hP [] rfl ⟨Nat.le_of_ble_eq_true rfl, Nat.le_of_ble_eq_true rfl⟩ ⟨Nat.le_of_ble_eq_true rfl, Nat.le_of_ble_eq_true rfl⟩ rfl hl.1 rfl (Nat.le_of_ble_eq_true rfl) (oc_184 17 (aq_17 shX11_spill_0) uw_0_80)) (fun r_3 h_4 => ?_)
    rcases h_4 with ⟨rfl, h_4⟩ | ⟨rfl, h_4⟩
    ·
      have h_4 : 1 ≤ v1.toInt ∧ v1.toInt ≤ 400 := h_4
      refine lv_if_eq (tgt := 32) hx hb dX11_spill_20 rfl (fun h => absurd h cq_eq_1_0) (fun _ => ?_)
      refine lv_aload_n hx hb (oc_42 23 (aq_23 shX11_spill_0)) rfl (lvA0 hl) ?_
      refine gf_RX11_517 S hK hP 0 xo_0 (v := .int (nI (cn 5))) rfl (oc_180 24 shX11_spill_24 uw_2_5) ?_
      refine lv_bipush (v := 40) hx hb (oc_16 27 (aq_3 shX11_spill_24) sgb_40) kbc_40 ?_
      have : (nI (cn 5)).toInt = (((cn 5) : Nat) : Int) := nI_toInt (by (first | omega | (have zz0 := Hid.u hb_cn; omega)))
      refine lv_icmp_lt (tgt := 34) hx hb (oc_161 29 (aq_5 shX11_spill_24) sgw_0_5) rfl (fun c_5 => ?_) (fun c_5 => ?_)
      ·
        have tc_5 : ((nI (cn 5)).toInt : Int) < 40 := Int32.lt_iff_toInt_lt.mp c_5
        refine lv_aload_n hx hb (oc_42 34 (aq_10 shX11_spill_24)) rfl (lvA0 hl) ?_
        refine gf_RX11_47 S hK hP 0 xo_0 (v := .ref (g 8)) rfl (oc_180 35 (aq_11 shX11_spill_24) uw_0_47) ?_
        refine lv_iload_n hx hb (oc_27 38 (aq_14 shX11_spill_24)) rfl (lvA1 hl) ?_
        refine lv_iload_n hx hb (oc_28 39 (aq_15 shX11_spill_24)) rfl (lvA2 hl) ?_
        refine lv_ineg hx hb (oc_116 40 (aq_16 shX11_spill_24)) ?_
        have hFc := free_all hD hS hA
        refine va_callv (runV_xa (As := [.int v0, .int (-v1)]) (rest := []) S (q_Xchange l D cI cB cZ zz qq vv bt g ad cn In Fn v0 (-v1) s.heap.size hB) kV_RX11_144 hK hXS hS hFc hP hD 6 xo_6 rfl rfl ⟨Nat.le_of_ble_eq_true rfl, Nat.le_of_ble_eq_true rfl⟩ ⟨Nat.le_of_ble_eq_true rfl, Nat.le_of_ble_eq_true rfl⟩ rfl hl.1 rfl (Nat.le_of_ble_eq_true rfl) (oc_182 41 (aq_17 shX11_spill_24) uw_0_144)) hS (fun q _ h => hFc q h) hFc (fun u t H1 locs ht hvm wh_7 hB1 hz1 hk1 hS => ?_)
        obtain ⟨cn7, In7, Fn7⟩ := u
        obtain ⟨hP1, hD1⟩ := hB1
        rw [ht] at hP1
        have vh_7 : (fun c2 I2 F2 => (∀ k : Nat, k ∉ [] → I2 k = In k) ∧ (((True) ∧ cn = c2 ∧ (va_up Fn 29 (putM ((Fn 29)) 400 v0 (atM ((Fn 29)) 400 v0 + (-v1)))) = F2))) cn7 In7 Fn7 := wh_7
        obtain ⟨hI7_, vh_7⟩ := vh_7
        obtain ⟨h_7, rfl, rfl⟩ := vh_7
        obtain rfl : In = In7 := (funext (fun k => hI7_ k List.not_mem_nil)).symm
        have hP : va_P D vwCl (wX cI (D.1 99) zz g ad cn In (va_up Fn 29 (putM ((Fn 29)) 400 v0 (atM ((Fn 29)) 400 v0 + (-v1))))) H1 := hP1
        have hD : va_D A (wX cI (D.1 99) zz g ad cn In (va_up Fn 29 (putM ((Fn 29)) 400 v0 (atM ((Fn 29)) 400 v0 + (-v1))))) := hD1.weaken (fun _ _ _ h => hFc _ h)
        generalize H1 = H at hP hS ⊢
        refine lv_aload_n hx hb (oc_42 44 (aq_20 shX11_spill_24)) rfl (lvA0 hl) ?_
        refine lv_dup hx hb (oc_89 45 (aq_21 shX11_spill_24)) rfl ?_
        refine gf_RX11_517 S hK hP 0 xo_0 (v := .int (nI (cn 5))) rfl (oc_180 46 (aq_22 shX11_spill_24) uw_2_5) ?_
        refine lv_iconst (v := 1) hx hb (oc_4 49 shX11_spill_49) kic_1 ?_
        refine lv_iadd hx hb (oc_96 50 (aq_1 shX11_spill_49)) ?_
        refine lv_topi (fun y_8 ey_8 => ?_)
        obtain rfl : y_8 = (nI ((cn 5) + 1)) := ey_8.trans (nI_add (cn 5) 1)
        refine pf_RX11_517 S hK hP hD hS 0 xo_0 (v := .int (nI ((cn 5) + 1))) (Nat.le_of_ble_eq_true rfl) rfl rfl (oc_181 51 (aq_2 shX11_spill_49) uw_2_5) (fun H locs hP hD hS => ?_)
        have hP : va_P D vwCl (wX cI (D.1 99) zz g ad (va_up cn 5 ((cn 5) + 1)) In (va_up Fn 29 (putM ((Fn 29)) 400 v0 (atM ((Fn 29)) 400 v0 + (-v1))))) H := va_P_eq (xsf_0_3) hP
        have hD : va_D A (wX cI (D.1 99) zz g ad (va_up cn 5 ((cn 5) + 1)) In (va_up Fn 29 (putM ((Fn 29)) 400 v0 (atM ((Fn 29)) 400 v0 + (-v1))))) := va_D_eq (xsf_0_3) hD
        refine lv_aload_n hx hb (oc_42 54 (aq_5 shX11_spill_49)) rfl (lvA0 hl) ?_
        refine gf_RX11_517 S hK hP 0 xo_0 (v := .int (nI ((cn 5) + 1))) rfl (oc_180 55 (aq_6 shX11_spill_49) uw_2_5) ?_
        exact W.iret (v := (nI ((cn 5) + 1))) hx hb hr (fun t ht hW => ⟨⟨(nI ((cn 5) + 1)), ((va_up cn 5 ((cn 5) + 1)), In, (va_up Fn 29 (putM ((Fn 29)) 400 v0 (atM ((Fn 29)) 400 v0 + (-v1))))), rfl, ⟨(show Fr [5] [] [29] cn In Fn (va_up cn 5 ((cn 5) + 1)) In (va_up Fn 29 (putM ((Fn 29)) 400 v0 (atM ((Fn 29)) 400 v0 + (-v1)))) from Fr.mo (Fr.f 29 (Fr.c 5 (Fr.rf (cn := cn) (In := In) (Fn := Fn)))) (sbl rfl) (sbl rfl) (sbl rfl)).2.1, (Or.inl ⟨rfl, (by first | trivial | (first | omega | (have zz0 := Hid.u hb_cn; omega)) | (simp only [zd0]; (first | omega | (have zz0 := Hid.u hb_cn; omega)))), (by first | rfl | simp only [zd0] | simp only [zd0, zd1]), (by first | rfl | simp only [zd0] | simp only [zd0, zd1])⟩)⟩, by rw [ht]; exact hP, hD⟩, hS.F ht⟩) hS.2.2 (oc_172 58 (aq_9 shX11_spill_49))
      ·
        have tc_5 : (40 : Int) ≤ (nI (cn 5)).toInt := Int32.le_iff_toInt_le.mp (Int32.not_lt.mp c_5)
        refine lv_iconst (v := (-1)) hx hb dX11_spill_32 kic_m1 ?_
        exact W.iret (v := (-1)) hx hb hr (fun t ht hW => ⟨⟨(-1), (cn, In, Fn), rfl, ⟨(show Fr [5] [] [29] cn In Fn cn In Fn from Fr.mo (Fr.rf (cn := cn) (In := In) (Fn := Fn)) (sbl rfl) (sbl rfl) (sbl rfl)).2.1, (Or.inr ⟨rfl, (by first | trivial | (first | omega | (have zz0 := Hid.u hb_cn; omega)) | (simp only [zd0]; (first | omega | (have zz0 := Hid.u hb_cn; omega)))), (by first | rfl | simp only [zd0] | simp only [zd0, zd1]), (by first | rfl | simp only [zd0] | simp only [zd0, zd1])⟩)⟩, by rw [ht]; exact hP, hD⟩, hS.F ht⟩) hS.2.2 dX11_spill_33
    ·
      have h_4 : ¬ (1 ≤ v1.toInt ∧ v1.toInt ≤ 400) := h_4
      refine lv_if_eq (tgt := 32) hx hb dX11_spill_20 rfl (fun _ => ?_) (fun h => absurd h cq_eq_0_0)
      refine lv_iconst (v := (-1)) hx hb dX11_spill_32 kic_m1 ?_
      exact W.iret (v := (-1)) hx hb hr (fun t ht hW => ⟨⟨(-1), (cn, In, Fn), rfl, ⟨(show Fr [5] [] [29] cn In Fn cn In Fn from Fr.mo (Fr.rf (cn := cn) (In := In) (Fn := Fn)) (sbl rfl) (sbl rfl) (sbl rfl)).2.1, (Or.inr ⟨rfl, (by first | trivial | (first | omega | (have zz0 := Hid.u hb_cn; omega)) | (simp only [zd0]; (first | omega | (have zz0 := Hid.u hb_cn; omega)))), (by first | rfl | simp only [zd0] | simp only [zd0, zd1]), (by first | rfl | simp only [zd0] | simp only [zd0, zd1])⟩)⟩, by rw [ht]; exact hP, hD⟩, hS.F ht⟩) hS.2.2 dX11_spill_33
  ·
    have h_2 : ¬ (0 ≤ v0.toInt ∧ v0.toInt ≤ (nI (cn 0)).toInt) := h_2
    refine lv_if_eq (tgt := 32) hx hb dX11_spill_9 rfl (fun _ => ?_) (fun h => absurd h cq_eq_0_0)
    refine lv_iconst (v := (-1)) hx hb dX11_spill_32 kic_m1 ?_
    exact W.iret (v := (-1)) hx hb hr (fun t ht hW => ⟨⟨(-1), (cn, In, Fn), rfl, ⟨(show Fr [5] [] [29] cn In Fn cn In Fn from Fr.mo (Fr.rf (cn := cn) (In := In) (Fn := Fn)) (sbl rfl) (sbl rfl) (sbl rfl)).2.1, (Or.inr ⟨rfl, (by first | trivial | (first | omega | (have zz0 := Hid.u hb_cn; omega)) | (simp only [zd0]; (first | omega | (have zz0 := Hid.u hb_cn; omega)))), (by first | rfl | simp only [zd0] | simp only [zd0, zd1]), (by first | rfl | simp only [zd0] | simp only [zd0, zd1])⟩)⟩, by rw [ht]; exact hP, hD⟩, hS.F ht⟩) hS.2.2 dX11_spill_33
