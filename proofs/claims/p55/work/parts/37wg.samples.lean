/-- which of two counts is more -/
def cl3 (a b : Int32) : Int32 := if b < a then 1 else if a < b then 0 else 2
theorem cl3_1 {a b : Int32} (h : b.toInt < a.toInt) : (1 : Int32) = cl3 a b := (if_pos (Int32.lt_iff_toInt_lt.mpr h)).symm
theorem cl3_0 {a b : Int32} (h : a.toInt < b.toInt) : (0 : Int32) = cl3 a b := by
  unfold cl3
  rw [if_neg (fun q => by have := Int32.lt_iff_toInt_lt.mp q; omega), if_pos (Int32.lt_iff_toInt_lt.mpr h)]
theorem cl3_2 {a b : Int32} (h : b.toInt ≤ a.toInt) (h2 : a.toInt ≤ b.toInt) : (2 : Int32) = cl3 a b := by
  unfold cl3
  rw [if_neg (fun q => by have := Int32.lt_iff_toInt_lt.mp q; omega), if_neg (fun q => by have := Int32.lt_iff_toInt_lt.mp q; omega)]
theorem gA_up {F : Nat → Int32} {z x k : Nat} {v : Int32} (hx : x < 12) : gA (upd F (12 * z + x) v) 12 k = if k = z then putM (gA F 12 z) 12 (nI x) v else gA F 12 k := by
  have t : (nI x).toInt = (x : Int) := nI_toInt (by omega)
  funext i
  by_cases q : k = z
  · subst q
    rw [if_pos rfl]
    have e : putM (gA F 12 k) 12 (nI x) v = upd (gA F 12 k) x v := by
      unfold putM
      rw [if_pos ⟨by omega, by omega⟩, nI_clamp (by omega)]
    rw [e]
    show (if i < 12 then (if 12 * k + i = 12 * k + x then v else F (12 * k + i)) else 0) = if i = x then v else (if i < 12 then F (12 * k + i) else 0)
    by_cases a : i = x
    · subst a
      rw [if_pos hx, if_pos rfl, if_pos rfl]
    · rw [if_neg a]
      by_cases b : i < 12
      · rw [if_pos b, if_pos b, if_neg (by omega)]
      · rw [if_neg b, if_neg b]
  · rw [if_neg q]
    show (if i < 12 then (if 12 * k + i = 12 * z + x then v else F (12 * k + i)) else 0) = if i < 12 then F (12 * k + i) else 0
    by_cases b : i < 12
    · rw [if_pos b, if_pos b, if_neg (by omega)]
    · rw [if_neg b, if_neg b]
theorem gA_fl {F : Nat → Int32} {z k : Nat} {f : Nat → Int32} (hf : ∀ i : Nat, 12 ≤ i → f i = 0) : gA (flat F 12 z f) 12 k = if k = z then f else gA F 12 k := by
  by_cases q : k = z
  · subst q
    rw [if_pos rfl]
    exact gA_flat (by decide) hf
  · rw [if_neg q]
    exact gA_flat_ne (by decide) q
theorem putM_z9 {F : Nat → Int32} {z : Nat} {v x : Int32} : ∀ i : Nat, 12 ≤ i → putM (gA F 12 z) 12 v x i = 0 := fun i hi => by
  have g : gA F 12 z i = 0 := if_neg (by omega)
  unfold putM
  split
  · rename_i q
    have e : v.toNatClampNeg = v.toInt.toNat := rfl
    unfold upd
    rw [if_neg (by omega)]
    exact g
  · exact g



set_option maxRecDepth 100000 in
set_option maxHeartbeats 4000000 in
theorem q_EaddSample (l : Launch) (D : va_G) (cI cB cZ : ClassId) (zz qq vv : Nat) (bt : Nat → Int32) (g : Nat → Nat) (ad : Nat → Nat → Nat) (cn : Nat → Nat) (In : Nat → Int32) (Fn : Nat → Nat → Int32) (k0 : Nat) (v0 : Int32) (sz : Nat) (hB : CBX cn) (hk : k0 < cn 12) : Met l yX0_addSample (CWS yX0_addSample cX0_addSample 2 none) (RM 1 0 0) (PBx [.ref (ad 12 k0), .int v0] D cI cB cZ zz qq vv bt (wX cI (D.1 99) zz g ad cn In Fn) sz) (va_Qv (fun (u : (Nat → Nat) × (Nat → Int32) × (Nat → Nat → Int32)) => (fun c2 I2 F2 => Fr [] [] [143, 150] cn In Fn c2 I2 F2 ∧ CBX c2 ∧ (F2 143 = upd (Fn 143) k0 (Fn 143 k0 + 1) ∧ F2 150 = flat (Fn 150) 12 k0 (putM (gA (Fn 150) 12 k0) 12 (Fn 143 k0) v0))) u.1 u.2.1 u.2.2) (fun (u : (Nat → Nat) × (Nat → Int32) × (Nat → Nat → Int32)) (t : State) => va_P D vwCl (wX cI (D.1 99) zz g ad u.1 u.2.1 u.2.2) t.heap ∧ va_D (va_A (wX cI (D.1 99) zz g ad cn In Fn) sz) (wX cI (D.1 99) zz g ad u.1 u.2.1 u.2.2)) (va_A (wX cI (D.1 99) zz g ad cn In Fn) sz)) 0 0 (va_A (wX cI (D.1 99) zz g ad cn In Fn) sz) := by
  refine en_x (fun A => (va_Qv (fun (u : (Nat → Nat) × (Nat → Int32) × (Nat → Nat → Int32)) => (fun (c2 : Nat → Nat) (I2 : Nat → Int32) (F2 : Nat → Nat → Int32) => Fr [] [] [143, 150] cn In Fn c2 I2 F2 ∧ CBX c2 ∧ (F2 143 = upd (Fn 143) k0 (Fn 143 k0 + 1) ∧ F2 150 = flat (Fn 150) 12 k0 (putM (gA (Fn 150) 12 k0) 12 (Fn 143 k0) v0))) u.1 u.2.1 u.2.2) (fun (u : (Nat → Nat) × (Nat → Int32) × (Nat → Nat → Int32)) (t : State) => va_P D vwCl (wX cI (D.1 99) zz g ad u.1 u.2.1 u.2.2) t.heap ∧ va_D A (wX cI (D.1 99) zz g ad u.1 u.2.1 u.2.2)) A)) rfl rfl pn_RX0 (Nat.le_of_ble_eq_true rfl) (fun p e s m below meth c A hx hb hml hown S hr hlocks hnm hA hP hK hD hXS hS ls hl => ?_)
  have hl : lv_has ls 2 [(0, .ref (ad 12 k0)), (1, .int v0)] := hl
  have hb_cn : Hid (CBX cn) := hB
  replace hB : CBXh cn := hB
  refine lv_aload_n hx hb (oc_42 0 shX0_addSample_0) rfl (lvA0 hl) ?_
  refine gf_RX0_9 S hK hP _ (xf_2 hk) (v := .ref (ad 1 k0)) rfl (oc_180 1 (aq_1 shX0_addSample_0) uw_0_9) ?_
  refine lv_aload_n hx hb (oc_42 4 (aq_4 shX0_addSample_0)) rfl (lvA0 hl) ?_
  refine gf_RX0_42 S hK hP _ (xf_2 hk) (v := .int ((Fn 143) k0)) rfl (oc_180 5 (aq_5 shX0_addSample_0) uw_0_42) ?_
  refine lv_iload_n hx hb (oc_27 8 (aq_8 shX0_addSample_0)) rfl (lvA1 hl) ?_
  have hFc := va_free (wc := [((ad 1 k0), .inl (cI, 12, .inl (gA (Fn 150) 12 k0)))]) hD hS hA _ (one_im (xf_6 hk))
  refine va_callv (runS_w (As := [.ref (ad 1 k0), .int ((Fn 143) k0), .int v0]) (rest := []) S (q_l_put l D cI cB cZ (ad 1 k0) 12 (gA (Fn 150) 12 k0) ((Fn 143) k0) v0 s.heap.size (by (first | omega | (have zz0 := Hid.u hb_cn; omega)))) kS_RX0_45 hK hP hD _ (one_is (xf_6 hk)) (one_im (xf_6 hk)) rfl ⟨Nat.le_of_ble_eq_true rfl, Nat.le_of_ble_eq_true rfl⟩ ⟨Nat.le_of_ble_eq_true rfl, Nat.le_of_ble_eq_true rfl⟩ rfl hl.1 rfl (Nat.le_of_ble_eq_true rfl) (oc_184 9 (aq_9 shX0_addSample_0) uw_0_45)) hS (fun q _ h => hFc q h) hFc (fun u_3 t H1 locs ht hvm h_2 hB1 hz1 hk1 hS => ?_)
  obtain ⟨hP1, hD1⟩ := hB1
  rw [ht] at hP1
  obtain ⟨hP, hD⟩ := wset1 hP hD (xf_6 hk) hk1 hP1
  obtain rfl : u_3 = (putM (gA (Fn 150) 12 k0) 12 ((Fn 143) k0) v0) := h_2
  generalize H1 = H at hP hS ⊢
  have hP : va_P D vwCl (wX cI (D.1 99) zz g ad cn In (va_up Fn 150 (flat (Fn 150) 12 k0 (putM (gA (Fn 150) 12 k0) 12 ((Fn 143) k0) v0)))) H := va_P_eq (xsg_6 (by (first | omega | (have zz0 := Hid.u hb_cn; omega))) (putM_z (by (first | omega | (have zz0 := Hid.u hb_cn; omega))) gA_z)) hP
  have hD : va_D A (wX cI (D.1 99) zz g ad cn In (va_up Fn 150 (flat (Fn 150) 12 k0 (putM (gA (Fn 150) 12 k0) 12 ((Fn 143) k0) v0)))) := va_D_eq (xsg_6 (by (first | omega | (have zz0 := Hid.u hb_cn; omega))) (putM_z (by (first | omega | (have zz0 := Hid.u hb_cn; omega))) gA_z)) hD
  refine lv_aload_n hx hb (oc_42 12 (aq_12 shX0_addSample_0)) rfl (lvA0 hl) ?_
  refine lv_dup hx hb (oc_89 13 (aq_13 shX0_addSample_0)) rfl ?_
  refine gf_RX0_42 S hK hP _ (xf_2 hk) (v := .int ((Fn 143) k0)) rfl (oc_180 14 (aq_14 shX0_addSample_0) uw_0_42) ?_
  refine lv_iconst (v := 1) hx hb (oc_4 17 (aq_17 shX0_addSample_0)) kic_1 ?_
  refine lv_iadd hx hb (oc_96 18 (aq_18 shX0_addSample_0)) ?_
  refine pf_RX0_42 S hK hP hD hS _ (xf_2 hk) (v := .int (((Fn 143) k0) + 1)) (Nat.le_of_ble_eq_true rfl) rfl rfl (oc_181 19 (aq_19 shX0_addSample_0) uw_0_42) (fun H locs hP hD hS => ?_)
  have hP : va_P D vwCl (wX cI (D.1 99) zz g ad cn In (va_up (va_up Fn 150 (flat (Fn 150) 12 k0 (putM (gA (Fn 150) 12 k0) 12 ((Fn 143) k0) v0))) 143 (upd (Fn 143) k0 (((Fn 143) k0) + 1)))) H := va_P_eq (xs_143 (by (first | omega | (have zz0 := Hid.u hb_cn; omega)))) hP
  have hD : va_D A (wX cI (D.1 99) zz g ad cn In (va_up (va_up Fn 150 (flat (Fn 150) 12 k0 (putM (gA (Fn 150) 12 k0) 12 ((Fn 143) k0) v0))) 143 (upd (Fn 143) k0 (((Fn 143) k0) + 1)))) := va_D_eq (xs_143 (by (first | omega | (have zz0 := Hid.u hb_cn; omega)))) hD
  exact W.vret hx hb hr (fun t ht hW => ⟨⟨(cn, In, (va_up (va_up Fn 150 (flat (Fn 150) 12 k0 (putM (gA (Fn 150) 12 k0) 12 ((Fn 143) k0) v0))) 143 (upd (Fn 143) k0 (((Fn 143) k0) + 1)))), rfl, ⟨(Fr.mo (Fr.f 143 (Fr.f 150 Fr.rf)) (sbl rfl) (sbl rfl) (sbl rfl)), hB, (by show (va_up (va_up Fn 150 (flat (Fn 150) 12 k0 (putM (gA (Fn 150) 12 k0) 12 ((Fn 143) k0) v0))) 143 (upd (Fn 143) k0 (((Fn 143) k0) + 1))) 143 = upd (Fn 143) k0 (Fn 143 k0 + 1) ∧ (va_up (va_up Fn 150 (flat (Fn 150) 12 k0 (putM (gA (Fn 150) 12 k0) 12 ((Fn 143) k0) v0))) 143 (upd (Fn 143) k0 (((Fn 143) k0) + 1))) 150 = flat (Fn 150) 12 k0 (putM (gA (Fn 150) 12 k0) 12 (Fn 143 k0) v0); exact ⟨rfl, rfl⟩)⟩, by rw [ht]; exact hP, hD⟩, hS.F ht⟩) hS.2.2 (oc_177 22 (aq_22 shX0_addSample_0))
set_option maxRecDepth 100000 in
set_option maxHeartbeats 4000000 in
theorem q_Esample (l : Launch) (D : va_G) (cI cB cZ : ClassId) (zz qq vv : Nat) (bt : Nat → Int32) (g : Nat → Nat) (ad : Nat → Nat → Nat) (cn : Nat → Nat) (In : Nat → Int32) (Fn : Nat → Nat → Int32) (v0 v1 : Int32) (sz : Nat) (hB : CBX cn) (hM : ∀ k : Nat, k < cn 12 → ∃ n : Nat, n ≤ 12 ∧ Fn 143 k = nI n) : Met l yX11_sample (CWS yX11_sample cX11_sample 4 (some .int)) (RM 4 0 0) (PBx [.ref (g 0), .int v0, .int v1] D cI cB cZ zz qq vv bt (wX cI (D.1 99) zz g ad cn In Fn) sz) (va_Qi (fun (r : Int32) (u : (Nat → Nat) × (Nat → Int32) × (Nat → Nat → Int32)) => (fun r c2 I2 F2 => Fr [] [] [143, 150] cn In Fn c2 I2 F2 ∧ CBX c2 ∧ (((0 ≤ v0.toInt ∧ v0.toInt < (cn 12 : Int) ∧ 0 ≤ v1.toInt ∧ v1.toInt ≤ 1000 ∧ (Fn 143 v0.toInt.toNat).toInt < 12) ∧ ∃ x : Nat, x < 12 ∧ Fn 143 v0.toInt.toNat = nI x ∧ r = nI (x + 1) ∧ F2 143 = upd (Fn 143) v0.toInt.toNat (nI (x + 1)) ∧ F2 150 = flat (Fn 150) 12 v0.toInt.toNat (putM (gA (Fn 150) 12 v0.toInt.toNat) 12 (nI x) v1)) ∨ (¬ (0 ≤ v0.toInt ∧ v0.toInt < (cn 12 : Int) ∧ 0 ≤ v1.toInt ∧ v1.toInt ≤ 1000 ∧ (Fn 143 v0.toInt.toNat).toInt < 12) ∧ r = -1 ∧ F2 143 = Fn 143 ∧ F2 150 = Fn 150))) r u.1 u.2.1 u.2.2) (fun (u : (Nat → Nat) × (Nat → Int32) × (Nat → Nat → Int32)) (t : State) => va_P D vwCl (wX cI (D.1 99) zz g ad u.1 u.2.1 u.2.2) t.heap ∧ va_D (va_A (wX cI (D.1 99) zz g ad cn In Fn) sz) (wX cI (D.1 99) zz g ad u.1 u.2.1 u.2.2)) (va_A (wX cI (D.1 99) zz g ad cn In Fn) sz)) 0 0 (va_A (wX cI (D.1 99) zz g ad cn In Fn) sz) := by
  refine en_x (fun A => (va_Qi (fun (r : Int32) (u : (Nat → Nat) × (Nat → Int32) × (Nat → Nat → Int32)) => (fun (r : Int32) (c2 : Nat → Nat) (I2 : Nat → Int32) (F2 : Nat → Nat → Int32) => Fr [] [] [143, 150] cn In Fn c2 I2 F2 ∧ CBX c2 ∧ (((0 ≤ v0.toInt ∧ v0.toInt < (cn 12 : Int) ∧ 0 ≤ v1.toInt ∧ v1.toInt ≤ 1000 ∧ (Fn 143 v0.toInt.toNat).toInt < 12) ∧ ∃ x : Nat, x < 12 ∧ Fn 143 v0.toInt.toNat = nI x ∧ r = nI (x + 1) ∧ F2 143 = upd (Fn 143) v0.toInt.toNat (nI (x + 1)) ∧ F2 150 = flat (Fn 150) 12 v0.toInt.toNat (putM (gA (Fn 150) 12 v0.toInt.toNat) 12 (nI x) v1)) ∨ (¬ (0 ≤ v0.toInt ∧ v0.toInt < (cn 12 : Int) ∧ 0 ≤ v1.toInt ∧ v1.toInt ≤ 1000 ∧ (Fn 143 v0.toInt.toNat).toInt < 12) ∧ r = -1 ∧ F2 143 = Fn 143 ∧ F2 150 = Fn 150))) r u.1 u.2.1 u.2.2) (fun (u : (Nat → Nat) × (Nat → Int32) × (Nat → Nat → Int32)) (t : State) => va_P D vwCl (wX cI (D.1 99) zz g ad u.1 u.2.1 u.2.2) t.heap ∧ va_D A (wX cI (D.1 99) zz g ad u.1 u.2.1 u.2.2)) A)) rfl rfl pn_RX11 (Nat.le_of_ble_eq_true rfl) (fun p e s m below meth c A hx hb hml hown S hr hlocks hnm hA hP hK hD hXS hS ls hl => ?_)
  have hl : lv_has ls 4 [(0, .ref (g 0)), (1, .int v0), (2, .int v1)] := hl
  have hb_cn : Hid (CBX cn) := hB
  replace hB : CBXh cn := hB
  refine lv_aload_n hx hb (oc_42 0 shX11_sample_0) rfl (lvA0 hl) ?_
  refine lv_iload_n hx hb (oc_27 1 (aq_1 shX11_sample_0)) rfl (lvA1 hl) ?_
  refine va_csq (runV_rxa (As := [.int v0]) (rest := []) S (q_XbatchAt l D cI cB cZ zz qq vv bt g ad cn In Fn v0 hB) kV_RX11_382 hK hXS hS hP 0 xo_0 rfl rfl ⟨Nat.le_of_ble_eq_true rfl, Nat.le_of_ble_eq_true rfl⟩ ⟨Nat.le_of_ble_eq_true rfl, Nat.le_of_ble_eq_true rfl⟩ rfl hl.1 rfl (Nat.le_of_ble_eq_true rfl) (oc_182 2 (aq_2 shX11_sample_0) uw_1_126)) (fun r_1 h_2 => ?_)
  rcases h_2 with ⟨mr_1, er_1, hr_1, rfl⟩ | ⟨hr_1, rfl⟩
  ·
    refine lv_astore_n (lv' := [(3, .ref (ad 12 mr_1)), (0, .ref (g 0)), (1, .int v0), (2, .int v1)]) hx hb dX11_sample_5 rfl hl (ltb rfl) rfl (fun ls hl => ?_)
    refine lv_aload_n hx hb dX11_sample_6 rfl (lvA0 hl) ?_
    refine lv_ifnull hx hb dX11_sample_7 ?_
    refine lv_iload_n hx hb (oc_28 10 (aq_10 shX11_sample_0)) rfl (lvA3 hl) ?_
    refine lv_iconst (v := 0) hx hb (oc_3 11 (aq_11 shX11_sample_0)) kic_0 ?_
    refine lv_sipush (v := 1000) hx hb (oc_17 12 (aq_12 shX11_sample_0) sgw_3_232) (by decide) ?_
    refine vp_callSi (runS_r (As := [.int v1, .int 0, .int 1000]) (rest := []) S (q_l_within l D cI cB cZ v1 0 1000) kS_RX11_80 hK hP [] rfl ⟨Nat.le_of_ble_eq_true rfl, Nat.le_of_ble_eq_true rfl⟩ ⟨Nat.le_of_ble_eq_true rfl, Nat.le_of_ble_eq_true rfl⟩ rfl hl.1 rfl (Nat.le_of_ble_eq_true rfl) (oc_184 15 (aq_15 shX11_sample_0) uw_0_80)) (fun r_3 h_4 => ?_)
    rcases h_4 with ⟨rfl, h_4⟩ | ⟨rfl, h_4⟩
    ·
      have h_4 : 0 ≤ v1.toInt ∧ v1.toInt ≤ 1000 := h_4
      refine lv_if_eq (tgt := 30) hx hb dX11_sample_18 rfl (fun h => absurd h cq_eq_1_0) (fun _ => ?_)
      refine lv_aload_n hx hb (oc_45 21 (aq_21 shX11_sample_0)) rfl (lvA0 hl) ?_
      have kf_1 : mr_1 < cn 12 := by (first | omega | (have zz0 := Hid.u hb_cn; omega))
      refine gf_RX11_441 S hK hP _ (xf_2 kf_1) (v := .int ((Fn 143) mr_1)) rfl (oc_180 22 (aq_22 shX11_sample_0) uw_1_185) ?_
      refine lv_bipush (v := 12) hx hb (oc_16 25 shX11_sample_25 sgb_12) kbc_12 ?_
      refine lv_icmp_lt (tgt := 32) hx hb (oc_161 27 (aq_2 shX11_sample_25) sgw_0_5) rfl (fun c_5 => ?_) (fun c_5 => ?_)
      ·
        have tc_5 : (((Fn 143) mr_1).toInt : Int) < 12 := Int32.lt_iff_toInt_lt.mp c_5
        obtain ⟨n9, hn9, en9⟩ := hM mr_1 (by (first | omega | (have zz0 := Hid.u hb_cn; omega)))
        have tn9 : (Fn 143 mr_1).toInt = (n9 : Int) := by rw [en9]; exact nI_toInt (by (first | omega | (have zz0 := Hid.u hb_cn; omega)))
        refine lv_aload_n hx hb (oc_45 32 (aq_7 shX11_sample_25)) rfl (lvA0 hl) ?_
        refine lv_iload_n hx hb (oc_28 33 (aq_8 shX11_sample_25)) rfl (lvA3 hl) ?_
        have hFc := free_all hD hS hA
        refine va_callv (runV_xa (As := [.int v1]) (rest := []) S (q_EaddSample l D cI cB cZ zz qq vv bt g ad cn In Fn mr_1 v1 s.heap.size hB (by (first | omega | (have zz0 := Hid.u hb_cn; omega)))) kV_RX11_444 hK hXS hS hFc hP hD _ (xf_2 kf_1) rfl rfl ⟨Nat.le_of_ble_eq_true rfl, Nat.le_of_ble_eq_true rfl⟩ ⟨Nat.le_of_ble_eq_true rfl, Nat.le_of_ble_eq_true rfl⟩ rfl hl.1 rfl (Nat.le_of_ble_eq_true rfl) (oc_182 34 (aq_9 shX11_sample_25) uw_1_188)) hS (fun q _ h => hFc q h) hFc (fun u t H1 locs ht hvm wh_7 hB1 hz1 hk1 hS => ?_)
        obtain ⟨cn7, In7, Fn7⟩ := u
        obtain ⟨hP1, hD1⟩ := hB1
        rw [ht] at hP1
        have hP : va_P D vwCl (wX cI (D.1 99) zz g ad cn7 In7 Fn7) H1 := hP1
        have hD : va_D A (wX cI (D.1 99) zz g ad cn7 In7 Fn7) := hD1.weaken (fun _ _ _ h => hFc _ h)
        generalize H1 = H at hP hS ⊢
        have vh_7 : (fun c2 I2 F2 => Fr [] [] [143, 150] cn In Fn c2 I2 F2 ∧ CBX c2 ∧ (F2 143 = upd ((Fn 143)) mr_1 ((Fn 143) mr_1 + 1) ∧ F2 150 = flat ((Fn 150)) 12 mr_1 (putM (gA ((Fn 150)) 12 mr_1) 12 ((Fn 143) mr_1) v1))) cn7 In7 Fn7 := wh_7
        obtain ⟨hfc7, hIn7, h_7⟩ := vh_7
        obtain rfl : cn = cn7 := (funext (fun k => hfc7.1 k List.not_mem_nil)).symm
        obtain rfl : In = In7 := (funext (fun k => hfc7.2.1 k List.not_mem_nil)).symm
        have hf7 : Fr [] [] [143, 150] cn In Fn cn In Fn7 := Fr.mo (Fr.tr (Fr.rf (cn := cn) (In := In) (Fn := Fn)) hfc7) (sbl rfl) (sbl rfl) (sbl rfl)
        replace hIn7 : CBXh cn := hIn7
        refine lv_aload_n hx hb (oc_45 37 (aq_12 shX11_sample_25)) rfl (lvA0 hl) ?_
        refine gf_RX11_441 S hK hP _ (xf_2 kf_1) (v := .int ((Fn7 143) mr_1)) rfl (oc_180 38 (aq_13 shX11_sample_25) uw_1_185) ?_
        refine lv_topi (fun y_8 ey_8 => ?_)
        obtain rfl : y_8 = (nI (n9 + 1)) := ey_8.trans (by rw [h_7.1, upd_self, en9, nI_1])
        exact W.iret (v := (nI (n9 + 1))) hx hb hr (fun t ht hW => ⟨⟨(nI (n9 + 1)), (cn, In, Fn7), rfl, ⟨(Fr.mo hf7 (sbl rfl) (sbl rfl) (sbl rfl)), hIn7, (by show ((0 ≤ v0.toInt ∧ v0.toInt < (cn 12 : Int) ∧ 0 ≤ v1.toInt ∧ v1.toInt ≤ 1000 ∧ (Fn 143 v0.toInt.toNat).toInt < 12) ∧ ∃ x : Nat, x < 12 ∧ Fn 143 v0.toInt.toNat = nI x ∧ (nI (n9 + 1)) = nI (x + 1) ∧ Fn7 143 = upd (Fn 143) v0.toInt.toNat (nI (x + 1)) ∧ Fn7 150 = flat (Fn 150) 12 v0.toInt.toNat (putM (gA (Fn 150) 12 v0.toInt.toNat) 12 (nI x) v1)) ∨ (¬ (0 ≤ v0.toInt ∧ v0.toInt < (cn 12 : Int) ∧ 0 ≤ v1.toInt ∧ v1.toInt ≤ 1000 ∧ (Fn 143 v0.toInt.toNat).toInt < 12) ∧ (nI (n9 + 1)) = -1 ∧ Fn7 143 = Fn 143 ∧ Fn7 150 = Fn 150); rw [show v0.toInt.toNat = mr_1 by (first | omega | (have zz0 := Hid.u hb_cn; omega))]; exact Or.inl ⟨by (first | omega | (have zz0 := Hid.u hb_cn; omega)), n9, by (first | omega | (have zz0 := Hid.u hb_cn; omega)), en9, rfl, (by rw [h_7.1, en9, nI_1]), (by rw [h_7.2, en9])⟩)⟩, by rw [ht]; exact hP, hD⟩, hS.F ht⟩) hS.2.2 (oc_172 41 (aq_16 shX11_sample_25))
      ·
        have tc_5 : (12 : Int) ≤ ((Fn 143) mr_1).toInt := Int32.le_iff_toInt_le.mp (Int32.not_lt.mp c_5)
        refine lv_iconst (v := (-1)) hx hb dX11_sample_30 kic_m1 ?_
        exact W.iret (v := (-1)) hx hb hr (fun t ht hW => ⟨⟨(-1), (cn, In, Fn), rfl, ⟨(Fr.mo Fr.rf (sbl rfl) (sbl rfl) (sbl rfl)), hB, (by show ((0 ≤ v0.toInt ∧ v0.toInt < (cn 12 : Int) ∧ 0 ≤ v1.toInt ∧ v1.toInt ≤ 1000 ∧ (Fn 143 v0.toInt.toNat).toInt < 12) ∧ ∃ x : Nat, x < 12 ∧ Fn 143 v0.toInt.toNat = nI x ∧ (-1) = nI (x + 1) ∧ Fn 143 = upd (Fn 143) v0.toInt.toNat (nI (x + 1)) ∧ Fn 150 = flat (Fn 150) 12 v0.toInt.toNat (putM (gA (Fn 150) 12 v0.toInt.toNat) 12 (nI x) v1)) ∨ (¬ (0 ≤ v0.toInt ∧ v0.toInt < (cn 12 : Int) ∧ 0 ≤ v1.toInt ∧ v1.toInt ≤ 1000 ∧ (Fn 143 v0.toInt.toNat).toInt < 12) ∧ (-1) = -1 ∧ Fn 143 = Fn 143 ∧ Fn 150 = Fn 150); exact Or.inr ⟨fun w9 => by first | (first | omega | (have zz0 := Hid.u hb_cn; omega)) | (rw [show v0.toInt.toNat = mr_1 by (first | omega | (have zz0 := Hid.u hb_cn; omega))] at w9; (first | omega | (have zz0 := Hid.u hb_cn; omega))), rfl, rfl, rfl⟩)⟩, by rw [ht]; exact hP, hD⟩, hS.F ht⟩) hS.2.2 dX11_sample_31
    ·
      have h_4 : ¬ (0 ≤ v1.toInt ∧ v1.toInt ≤ 1000) := h_4
      refine lv_if_eq (tgt := 30) hx hb dX11_sample_18 rfl (fun _ => ?_) (fun h => absurd h cq_eq_0_0)
      refine lv_iconst (v := (-1)) hx hb dX11_sample_30 kic_m1 ?_
      exact W.iret (v := (-1)) hx hb hr (fun t ht hW => ⟨⟨(-1), (cn, In, Fn), rfl, ⟨(Fr.mo Fr.rf (sbl rfl) (sbl rfl) (sbl rfl)), hB, (by show ((0 ≤ v0.toInt ∧ v0.toInt < (cn 12 : Int) ∧ 0 ≤ v1.toInt ∧ v1.toInt ≤ 1000 ∧ (Fn 143 v0.toInt.toNat).toInt < 12) ∧ ∃ x : Nat, x < 12 ∧ Fn 143 v0.toInt.toNat = nI x ∧ (-1) = nI (x + 1) ∧ Fn 143 = upd (Fn 143) v0.toInt.toNat (nI (x + 1)) ∧ Fn 150 = flat (Fn 150) 12 v0.toInt.toNat (putM (gA (Fn 150) 12 v0.toInt.toNat) 12 (nI x) v1)) ∨ (¬ (0 ≤ v0.toInt ∧ v0.toInt < (cn 12 : Int) ∧ 0 ≤ v1.toInt ∧ v1.toInt ≤ 1000 ∧ (Fn 143 v0.toInt.toNat).toInt < 12) ∧ (-1) = -1 ∧ Fn 143 = Fn 143 ∧ Fn 150 = Fn 150); exact Or.inr ⟨fun w9 => by first | (first | omega | (have zz0 := Hid.u hb_cn; omega)) | (rw [show v0.toInt.toNat = mr_1 by (first | omega | (have zz0 := Hid.u hb_cn; omega))] at w9; (first | omega | (have zz0 := Hid.u hb_cn; omega))), rfl, rfl, rfl⟩)⟩, by rw [ht]; exact hP, hD⟩, hS.F ht⟩) hS.2.2 dX11_sample_31
  ·
    refine lv_astore_nN (lv' := [(3, .null), (0, .ref (g 0)), (1, .int v0), (2, .int v1)]) hx hb dX11_sample_5 rfl hl (ltb rfl) rfl (fun ls hl => ?_)
    refine lv_aload_nN hx hb dX11_sample_6 rfl (lvA0 hl) ?_
    refine lv_ifnullN (tgt := 30) hx hb dX11_sample_7 rfl ?_
    refine lv_iconst (v := (-1)) hx hb dX11_sample_30 kic_m1 ?_
    exact W.iret (v := (-1)) hx hb hr (fun t ht hW => ⟨⟨(-1), (cn, In, Fn), rfl, ⟨(Fr.mo Fr.rf (sbl rfl) (sbl rfl) (sbl rfl)), hB, (by show ((0 ≤ v0.toInt ∧ v0.toInt < (cn 12 : Int) ∧ 0 ≤ v1.toInt ∧ v1.toInt ≤ 1000 ∧ (Fn 143 v0.toInt.toNat).toInt < 12) ∧ ∃ x : Nat, x < 12 ∧ Fn 143 v0.toInt.toNat = nI x ∧ (-1) = nI (x + 1) ∧ Fn 143 = upd (Fn 143) v0.toInt.toNat (nI (x + 1)) ∧ Fn 150 = flat (Fn 150) 12 v0.toInt.toNat (putM (gA (Fn 150) 12 v0.toInt.toNat) 12 (nI x) v1)) ∨ (¬ (0 ≤ v0.toInt ∧ v0.toInt < (cn 12 : Int) ∧ 0 ≤ v1.toInt ∧ v1.toInt ≤ 1000 ∧ (Fn 143 v0.toInt.toNat).toInt < 12) ∧ (-1) = -1 ∧ Fn 143 = Fn 143 ∧ Fn 150 = Fn 150); exact Or.inr ⟨fun w9 => by first | (first | omega | (have zz0 := Hid.u hb_cn; omega)) | (rw [show v0.toInt.toNat = mr_1 by (first | omega | (have zz0 := Hid.u hb_cn; omega))] at w9; (first | omega | (have zz0 := Hid.u hb_cn; omega))), rfl, rfl, rfl⟩)⟩, by rw [ht]; exact hP, hD⟩, hS.F ht⟩) hS.2.2 dX11_sample_31
set_option maxRecDepth 100000 in
set_option maxHeartbeats 4000000 in
theorem q_sample9 (l : Launch) (D : va_G) (cI cB cZ : ClassId) (g : Nat → Nat) (cn : Nat → Nat) (In : Nat → Int32) (Fn : Nat → Nat → Int32) (v0 v1 : Int32) (sz : Nat) (hI : IM cn Fn) : Met l yX12_sample (CWS yX12_sample cX12_sample 3 (some .int)) (RM 1 0 0) (PBw [.ref (g 100), .int v0, .int v1] D cI cB cZ (wM cI cB cZ g cn In Fn) sz) (va_Qi (fun (r : Int32) (u : (Nat → Nat) × (Nat → Int32) × (Nat → Nat → Int32)) => (fun r c2 I2 F2 => (∃ x : Nat, (0 ≤ v0.toInt ∧ v0.toInt < (cn 62 : Int) ∧ 0 ≤ v1.toInt ∧ v1.toInt ≤ 1000 ∧ (Fn 79 v0.toInt.toNat).toInt < 12) ∧ x < 12 ∧ Fn 79 v0.toInt.toNat = nI x ∧ r = nI (x + 1) ∧ c2 = cn ∧ I2 = In ∧ F2 = va_up (va_up Fn 80 (upd (Fn 80) (12 * v0.toInt.toNat + x) v1)) 79 (upd (Fn 79) v0.toInt.toNat (nI (x + 1)))) ∨ (¬ (0 ≤ v0.toInt ∧ v0.toInt < (cn 62 : Int) ∧ 0 ≤ v1.toInt ∧ v1.toInt ≤ 1000 ∧ (Fn 79 v0.toInt.toNat).toInt < 12) ∧ r = -1 ∧ c2 = cn ∧ I2 = In ∧ F2 = Fn)) r u.1 u.2.1 u.2.2) (fun (u : (Nat → Nat) × (Nat → Int32) × (Nat → Nat → Int32)) (t : State) => va_P D vwCl (wM cI cB cZ g u.1 u.2.1 u.2.2) t.heap ∧ va_D (va_A (wM cI cB cZ g cn In Fn) sz) (wM cI cB cZ g u.1 u.2.1 u.2.2)) (va_A (wM cI cB cZ g cn In Fn) sz)) 0 0 (va_A (wM cI cB cZ g cn In Fn) sz) := by
  refine en_w (fun A => (va_Qi (fun (r : Int32) (u : (Nat → Nat) × (Nat → Int32) × (Nat → Nat → Int32)) => (fun (r : Int32) (c2 : Nat → Nat) (I2 : Nat → Int32) (F2 : Nat → Nat → Int32) => (∃ x : Nat, (0 ≤ v0.toInt ∧ v0.toInt < (cn 62 : Int) ∧ 0 ≤ v1.toInt ∧ v1.toInt ≤ 1000 ∧ (Fn 79 v0.toInt.toNat).toInt < 12) ∧ x < 12 ∧ Fn 79 v0.toInt.toNat = nI x ∧ r = nI (x + 1) ∧ c2 = cn ∧ I2 = In ∧ F2 = va_up (va_up Fn 80 (upd (Fn 80) (12 * v0.toInt.toNat + x) v1)) 79 (upd (Fn 79) v0.toInt.toNat (nI (x + 1)))) ∨ (¬ (0 ≤ v0.toInt ∧ v0.toInt < (cn 62 : Int) ∧ 0 ≤ v1.toInt ∧ v1.toInt ≤ 1000 ∧ (Fn 79 v0.toInt.toNat).toInt < 12) ∧ r = -1 ∧ c2 = cn ∧ I2 = In ∧ F2 = Fn)) r u.1 u.2.1 u.2.2) (fun (u : (Nat → Nat) × (Nat → Int32) × (Nat → Nat → Int32)) (t : State) => va_P D vwCl (wM cI cB cZ g u.1 u.2.1 u.2.2) t.heap ∧ va_D A (wM cI cB cZ g u.1 u.2.1 u.2.2)) A)) rfl rfl pn_RX12 (Nat.le_of_ble_eq_true rfl) (fun p e s m below meth c A hx hb hml hown S hr hlocks hnm hA hP hK hD hS ls hl => ?_)
  have hl : lv_has ls 3 [(0, .ref (g 100)), (1, .int v0), (2, .int v1)] := hl
  have hi_cn : Hid (CB cn) := hI.b
  refine lv_aload_n hx hb (oc_42 0 shX12_sample_0) rfl (lvA0 hl) ?_
  refine lv_iload_n hx hb (oc_27 1 (aq_1 shX12_sample_0)) rfl (lvA1 hl) ?_
  refine vp_callSi (runV_ra (As := [.int v0]) (rest := []) S (q_isBatch l D cI cB cZ g cn In Fn v0 hI) kV_RX12_450 hK hP 0 rfl rfl rfl ⟨Nat.le_of_ble_eq_true rfl, Nat.le_of_ble_eq_true rfl⟩ ⟨Nat.le_of_ble_eq_true rfl, Nat.le_of_ble_eq_true rfl⟩ rfl hl.1 rfl (Nat.le_of_ble_eq_true rfl) (oc_182 2 (aq_2 shX12_sample_0) uw_1_194)) (fun r_1 h_2 => ?_)
  rcases h_2 with ⟨rfl, h_2⟩ | ⟨rfl, h_2⟩
  ·
    have h_2 : 0 ≤ v0.toInt ∧ v0.toInt < ((cn 62) : Int) := h_2
    refine lv_if_eq (tgt := 30) hx hb dX12_sample_5 rfl (fun h => absurd h cq_eq_1_0) (fun _ => ?_)
    obtain ⟨d0, hd0, rfl⟩ := nI_of (x := v0) (fun q => by have := Int32.lt_iff_toInt_lt.mp q; have e : (0 : Int32).toInt = 0 := rfl; (first | omega | (have zz0 := Hid.u hi_cn; omega)))
    have td0 : (nI d0).toInt = (d0 : Int) := nI_toInt hd0
    have zd0 : (nI d0).toInt.toNat = d0 := by (first | omega | (have zz0 := Hid.u hi_cn; omega))
    refine lv_iload_n hx hb (oc_28 8 (aq_8 shX12_sample_0)) rfl (lvA2 hl) ?_
    refine lv_iconst (v := 0) hx hb (oc_3 9 (aq_9 shX12_sample_0)) kic_0 ?_
    refine lv_sipush (v := 1000) hx hb (oc_17 10 (aq_10 shX12_sample_0) sgw_3_232) (by decide) ?_
    refine vp_callSi (runS_r (As := [.int v1, .int 0, .int 1000]) (rest := []) S (q_in l D cI cB cZ v1 0 1000 ) kS_RX12_214 hK hP [] rfl ⟨Nat.le_of_ble_eq_true rfl, Nat.le_of_ble_eq_true rfl⟩ ⟨Nat.le_of_ble_eq_true rfl, Nat.le_of_ble_eq_true rfl⟩ rfl hl.1 rfl (Nat.le_of_ble_eq_true rfl) (oc_184 13 (aq_13 shX12_sample_0) uw_0_214)) (fun r_3 h_4 => ?_)
    rcases h_4 with ⟨rfl, h_4⟩ | ⟨rfl, h_4⟩
    ·
      have h_4 : 0 ≤ v1.toInt ∧ v1.toInt ≤ 1000 := h_4
      refine lv_if_eq (tgt := 30) hx hb dX12_sample_16 rfl (fun h => absurd h cq_eq_1_0) (fun _ => ?_)
      refine lv_aload_n hx hb (oc_42 19 (aq_19 shX12_sample_0)) rfl (lvA0 hl) ?_
      refine gM_171 S hK hP (v := .ref (g 79)) rfl (oc_180 20 (aq_20 shX12_sample_0) uw_0_171) ?_
      refine lv_iload_n hx hb (oc_27 23 (aq_23 shX12_sample_0)) rfl (lvA1 hl) ?_
      have kb_1 : d0 < 10 := by (first | omega | (have zz0 := Hid.u hi_cn; omega))
      obtain ⟨a_5, ha_5, ea_5⟩ := hI.e79 d0 (by (first | omega | (have zz0 := Hid.u hi_cn; omega)))
      refine ldM_79 hx hb hK hP (x := (nI a_5)) (vp_in_nI kb_1 (ltb rfl)) (nI_clamp (Nat.lt_trans kb_1 (ltb rfl))) ea_5 (oc_46 24 shX12_sample_24) ?_
      refine lv_bipush (v := 12) hx hb (oc_16 25 (aq_1 shX12_sample_24) sgb_12) kbc_12 ?_
      have : (nI a_5).toInt = ((a_5 : Nat) : Int) := nI_toInt (by (first | omega | (have zz0 := Hid.u hi_cn; omega)))
      refine lv_icmp_ne (tgt := 32) hx hb (oc_160 27 (aq_3 shX12_sample_24) sgw_0_5) rfl (fun c_6 => ?_) (fun c_6 => ?_)
      ·
        have tc_6 : ((nI a_5).toInt : Int) ≠ 12 := fun q => c_6 (Int32.toInt_inj.mp q)
        refine lv_aload_n hx hb (oc_42 32 (aq_8 shX12_sample_24)) rfl (lvA0 hl) ?_
        refine gM_174 S hK hP (v := .ref (g 80)) rfl (oc_180 33 (aq_9 shX12_sample_24) uw_0_174) ?_
        refine lv_bipush (v := 12) hx hb (oc_16 36 (aq_12 shX12_sample_24) sgb_12) kbc_12 ?_
        refine lv_iload_n hx hb (oc_27 38 (aq_14 shX12_sample_24)) rfl (lvA1 hl) ?_
        refine lv_imul hx hb (oc_104 39 (aq_15 shX12_sample_24)) ?_
        refine lv_topi (fun y_7 ey_7 => ?_)
        obtain rfl : y_7 = (nI (12 * d0)) := ey_7.trans (pk_mul 12 d0)
        refine lv_aload_n hx hb (oc_42 40 (aq_16 shX12_sample_24)) rfl (lvA0 hl) ?_
        refine gM_171 S hK hP (v := .ref (g 79)) rfl (oc_180 41 (aq_17 shX12_sample_24) uw_0_171) ?_
        refine lv_iload_n hx hb (oc_27 44 (aq_20 shX12_sample_24)) rfl (lvA1 hl) ?_
        refine ldM_79 hx hb hK hP (x := (nI a_5)) (vp_in_nI kb_1 (ltb rfl)) (nI_clamp (Nat.lt_trans kb_1 (ltb rfl))) ea_5 (oc_46 45 (aq_21 shX12_sample_24)) ?_
        refine lv_iadd hx hb (oc_96 46 (aq_22 shX12_sample_24)) ?_
        refine lv_topi (fun y_8 ey_8 => ?_)
        obtain rfl : y_8 = (nI ((12 * d0) + a_5)) := ey_8.trans (nI_add (12 * d0) a_5)
        refine lv_iload_n hx hb (oc_28 47 (aq_23 shX12_sample_24)) rfl (lvA2 hl) ?_
        have kb_2 : ((12 * d0) + a_5) < 120 := by (first | omega | (have zz0 := Hid.u hi_cn; omega))
        refine stM_80 hx hb hK hP hD hS (Fn2 := (va_up Fn 80 (upd (Fn 80) ((12 * d0) + a_5) v1))) (vp_in_nI kb_2 (ltb rfl)) (nI_clamp (Nat.lt_trans kb_2 (ltb rfl))) rfl (oc_79 48 shX12_sample_48) (fun H locs hP hD hS => ?_)
        refine lv_aload_n hx hb (oc_42 49 (aq_1 shX12_sample_48)) rfl (lvA0 hl) ?_
        refine gM_171 S hK hP (v := .ref (g 79)) rfl (oc_180 50 (aq_2 shX12_sample_48) uw_0_171) ?_
        refine lv_iload_n hx hb (oc_27 53 (aq_5 shX12_sample_48)) rfl (lvA1 hl) ?_
        refine lv_aload_n hx hb (oc_42 54 (aq_6 shX12_sample_48)) rfl (lvA0 hl) ?_
        refine gM_171 S hK hP (v := .ref (g 79)) rfl (oc_180 55 (aq_7 shX12_sample_48) uw_0_171) ?_
        refine lv_iload_n hx hb (oc_27 58 (aq_10 shX12_sample_48)) rfl (lvA1 hl) ?_
        refine ldM_79 hx hb hK hP (x := (nI a_5)) (vp_in_nI kb_1 (ltb rfl)) (nI_clamp (Nat.lt_trans kb_1 (ltb rfl))) ea_5 (oc_46 59 (aq_11 shX12_sample_48)) ?_
        refine lv_iconst (v := 1) hx hb (oc_4 60 (aq_12 shX12_sample_48)) kic_1 ?_
        refine lv_iadd hx hb (oc_96 61 (aq_13 shX12_sample_48)) ?_
        refine lv_topi (fun y_9 ey_9 => ?_)
        obtain rfl : y_9 = (nI (a_5 + 1)) := ey_9.trans (nI_add a_5 1)
        refine stM_79 hx hb hK hP hD hS (Fn2 := (va_up (va_up Fn 80 (upd (Fn 80) ((12 * d0) + a_5) v1)) 79 (upd (Fn 79) d0 (nI (a_5 + 1))))) (vp_in_nI kb_1 (ltb rfl)) (nI_clamp (Nat.lt_trans kb_1 (ltb rfl))) rfl (oc_79 62 (aq_14 shX12_sample_48)) (fun H locs hP hD hS => ?_)
        refine lv_aload_n hx hb (oc_42 63 (aq_15 shX12_sample_48)) rfl (lvA0 hl) ?_
        refine gM_171 S hK hP (v := .ref (g 79)) rfl (oc_180 64 (aq_16 shX12_sample_48) uw_0_171) ?_
        refine lv_iload_n hx hb (oc_27 67 (aq_19 shX12_sample_48)) rfl (lvA1 hl) ?_
        refine ldM_79 hx hb hK hP (x := ((upd (Fn 79) d0 (nI (a_5 + 1))) d0)) (vp_in_nI kb_1 (ltb rfl)) (nI_clamp (Nat.lt_trans kb_1 (ltb rfl))) rfl (oc_46 68 (aq_20 shX12_sample_48)) ?_
        refine lv_topi (fun y_10 ey_10 => ?_)
        obtain rfl : y_10 = nI (a_5 + 1) := ey_10.trans (upd_self _ _ _)
        exact W.iret (v := (nI (a_5 + 1))) hx hb hr (fun t ht hW => ⟨⟨(nI (a_5 + 1)), (cn, In, (va_up (va_up Fn 80 (upd (Fn 80) ((12 * d0) + a_5) v1)) 79 (upd (Fn 79) d0 (nI (a_5 + 1))))), rfl, (Or.inl ⟨a_5, (by simp only [zd0]; rw [ea_5, nI_toInt (by (first | omega | (have zz0 := Hid.u hi_cn; omega)))]; (first | omega | (have zz0 := Hid.u hi_cn; omega))), by (first | omega | (have zz0 := Hid.u hi_cn; omega)), by rw [zd0]; exact ⟨ea_5, rfl, rfl, rfl, rfl⟩⟩), by rw [ht]; exact hP, hD⟩, hS.F ht⟩) hS.2.2 (oc_172 69 (aq_21 shX12_sample_48))
      ·
        have tc_6 : ((nI a_5).toInt : Int) = 12 := congrArg Int32.toInt c_6
        refine lv_iconst (v := (-1)) hx hb dX12_sample_30 kic_m1 ?_
        exact W.iret (v := (-1)) hx hb hr (fun t ht hW => ⟨⟨(-1), (cn, In, Fn), rfl, (Or.inr ⟨fun w9 => by first | (first | omega | (have zz0 := Hid.u hi_cn; omega)) | (simp only [zd0] at w9; (first | omega | (have zz0 := Hid.u hi_cn; omega))) | (simp only [zd0] at w9; rw [ea_5, nI_toInt (by (first | omega | (have zz0 := Hid.u hi_cn; omega)))] at w9; (first | omega | (have zz0 := Hid.u hi_cn; omega))), rfl, rfl, rfl, rfl⟩), by rw [ht]; exact hP, hD⟩, hS.F ht⟩) hS.2.2 dX12_sample_31
    ·
      have h_4 : ¬ (0 ≤ v1.toInt ∧ v1.toInt ≤ 1000) := h_4
      refine lv_if_eq (tgt := 30) hx hb dX12_sample_16 rfl (fun _ => ?_) (fun h => absurd h cq_eq_0_0)
      refine lv_iconst (v := (-1)) hx hb dX12_sample_30 kic_m1 ?_
      exact W.iret (v := (-1)) hx hb hr (fun t ht hW => ⟨⟨(-1), (cn, In, Fn), rfl, (Or.inr ⟨fun w9 => by first | (first | omega | (have zz0 := Hid.u hi_cn; omega)) | (simp only [zd0] at w9; (first | omega | (have zz0 := Hid.u hi_cn; omega))), rfl, rfl, rfl, rfl⟩), by rw [ht]; exact hP, hD⟩, hS.F ht⟩) hS.2.2 dX12_sample_31
  ·
    have h_2 : ¬ (0 ≤ v0.toInt ∧ v0.toInt < ((cn 62) : Int)) := h_2
    refine lv_if_eq (tgt := 30) hx hb dX12_sample_5 rfl (fun _ => ?_) (fun h => absurd h cq_eq_0_0)
    refine lv_iconst (v := (-1)) hx hb dX12_sample_30 kic_m1 ?_
    exact W.iret (v := (-1)) hx hb hr (fun t ht hW => ⟨⟨(-1), (cn, In, Fn), rfl, (Or.inr ⟨fun w9 => by first | (first | omega | (have zz0 := Hid.u hi_cn; omega)) | (simp only [zd0] at w9; (first | omega | (have zz0 := Hid.u hi_cn; omega))), rfl, rfl, rfl, rfl⟩), by rw [ht]; exact hP, hD⟩, hS.F ht⟩) hS.2.2 dX12_sample_31
set_option maxRecDepth 100000 in
set_option maxHeartbeats 4000000 in
theorem q_EsamplesFrom (l : Launch) (D : va_G) (cI cB cZ : ClassId) (zz qq vv : Nat) (bt : Nat → Int32) (g : Nat → Nat) (ad : Nat → Nat → Nat) (cn : Nat → Nat) (In : Nat → Int32) (Fn : Nat → Nat → Int32) (k0 n0 : Nat) (v0 : Int32) (hB : CBX cn) (hk : k0 < cn 12) (es : Fn 143 k0 = nI n0) (hn : n0 ≤ 12) : Met l yX0_samplesFrom (CWS yX0_samplesFrom cX0_samplesFrom 4 (some .int)) (RM 1 0 0) (PBrx [.ref (ad 12 k0), .int v0] D cI cB cZ zz qq vv bt (wX cI (D.1 99) zz g ad cn In Fn)) (vp_Si (fun r => r = sg (fun j => if (v0).toInt ≤ (gA (Fn 150) 12 k0 j).toInt then 1 else 0) n0)) 0 0 (fun _ => False) := by
  refine en_rx rfl pn_RX0 (Nat.le_of_ble_eq_true rfl) (fun p e s m below meth c hx hb hml hown S hr hlocks hnm hP hK hXS hS ls hl => ?_)
  have hl : lv_has ls 4 [(0, .ref (ad 12 k0)), (1, .int v0)] := hl
  have hb_cn : Hid (CBX cn) := hB
  replace hB : CBXh cn := hB
  refine lv_iconst (v := 0) hx hb (oc_3 0 shX0_samplesFrom_0) kic_0 ?_
  refine lv_istore_n (lv' := [(2, .int 0), (0, .ref (ad 12 k0)), (1, .int v0)]) hx hb (oc_61 1 (aq_1 shX0_samplesFrom_0)) rfl hl (ltb rfl) rfl (fun ls hl => ?_)
  refine lv_iconst (v := 0) hx hb (oc_3 2 (aq_2 shX0_samplesFrom_0)) kic_0 ?_
  refine lv_istore_n (lv' := [(3, .int 0), (2, .int 0), (0, .ref (ad 12 k0)), (1, .int v0)]) hx hb (oc_62 3 (aq_3 shX0_samplesFrom_0)) rfl hl (ltb rfl) rfl (fun ls hl => ?_)
  have lp_4 : ∀ (n : Nat) (i4 : Nat) (x4_2 : Int32) , n0 - i4 < n → (i4 ≤ n0 ∧ (x4_2 = sg (fun j => if (v0).toInt ≤ (gA (Fn 150) 12 k0 j).toInt then 1 else 0) i4)) → ∀ ls : Array Slot, lv_has ls 4 [(3, .int (nI i4)), (2, .int x4_2), (0, .ref (ad 12 k0)), (1, .int v0)] → W p l e (RM 1 0 0) s m ([.ref (ad 12 k0), .int v0]).toArray below meth c s.heap [] 0 0 (MQ below (vp_Si (fun r => r = sg (fun j => if (v0).toInt ≤ (gA (Fn 150) 12 k0 j).toInt then 1 else 0) n0)) ([.ref (ad 12 k0), .int v0]).toArray s 0 0 (fun _ => False)) (F0 m 4 ls []) := by
    intro n4
    induction n4 with
    | zero => intros; (first | omega | (have zz0 := Hid.u hb_cn; omega))
    | succ n4 ih4 =>
      intro i4 x4_2 hmu4 hinv4 ls hl
      obtain ⟨hr4, hx4_0⟩ := hinv4
      have ti4 : (nI i4).toInt = (i4 : Int) := nI_toInt (by (first | omega | (have zz0 := Hid.u hb_cn; omega)))
      refine lv_iload_n hx hb (oc_29 4 (aq_4 shX0_samplesFrom_0)) rfl (lvA0 hl) ?_
      refine lv_aload_n hx hb (oc_42 5 (aq_5 shX0_samplesFrom_0)) rfl (lvA2 hl) ?_
      refine gf_RX0_42 S hK hP _ (xf_2 hk) (v := .int ((Fn 143) k0)) rfl (oc_180 6 (aq_6 shX0_samplesFrom_0) uw_0_42) ?_
      refine lv_topi (fun y_1 ey_1 => ?_)
      obtain rfl : y_1 = (nI n0) := ey_1.trans es
      have : (nI n0).toInt = ((n0 : Nat) : Int) := nI_toInt (by (first | omega | (have zz0 := Hid.u hb_cn; omega)))
      refine lv_icmp_ge (tgt := 38) hx hb (oc_162 9 (aq_9 shX0_samplesFrom_0) sgw_0_29) rfl (fun c_2 => ?_) (fun c_2 => ?_)
      ·
        have tc_2 : ((nI n0).toInt : Int) ≤ (nI i4).toInt := Int32.le_iff_toInt_le.mp c_2
        refine lv_iload_n hx hb (oc_28 38 (aq_13 shX0_samplesFrom_25)) rfl (lvA1 hl) ?_
        exact W.iret (v := x4_2) hx hb hr (fun t ht hW => ⟨x4_2, rfl, (by have e9 : i4 = n0 := (by (first | omega | (have zz0 := Hid.u hb_cn; omega))); rw [← e9]; exact hx4_0), ht⟩) (fun _ h => absurd h List.not_mem_nil) (oc_172 39 (aq_14 shX0_samplesFrom_25))
      ·
        have tc_2 : ((nI i4).toInt : Int) < (nI n0).toInt := Int32.lt_iff_toInt_lt.mp (Int32.not_le.mp c_2)
        refine lv_iload_n hx hb (oc_28 12 (aq_12 shX0_samplesFrom_0)) rfl (lvA1 hl) ?_
        refine lv_aload_n hx hb (oc_42 13 (aq_13 shX0_samplesFrom_0)) rfl (lvA2 hl) ?_
        refine gf_RX0_9 S hK hP _ (xf_2 hk) (v := .ref (ad 1 k0)) rfl (oc_180 14 (aq_14 shX0_samplesFrom_0) uw_0_9) ?_
        refine lv_iload_n hx hb (oc_29 17 (aq_17 shX0_samplesFrom_0)) rfl (lvA0 hl) ?_
        refine vp_callSi (runS_r (As := [.ref (ad 1 k0), .int (nI i4)]) (rest := [.int x4_2]) S (q_l_at l D cI cB cZ (ad 1 k0) 12 (gA (Fn 150) 12 k0) (nI i4) (by (first | omega | (have zz0 := Hid.u hb_cn; omega)))) kS_RX0_51 hK hP _ (one_is (xf_6 hk)) ⟨Nat.le_of_ble_eq_true rfl, Nat.le_of_ble_eq_true rfl⟩ ⟨Nat.le_of_ble_eq_true rfl, Nat.le_of_ble_eq_true rfl⟩ rfl hl.1 rfl (Nat.le_of_ble_eq_true rfl) (oc_184 18 (aq_18 shX0_samplesFrom_0) uw_0_51)) (fun r_3 h_4 => ?_)
        obtain rfl : r_3 = gA (Fn 150) 12 k0 i4 := h_4.trans (atM_j rfl (by (first | omega | (have zz0 := Hid.u hb_cn; omega))) (by decide))
        refine lv_iload_n hx hb (oc_27 21 (aq_21 shX0_samplesFrom_0)) rfl (lvA3 hl) ?_
        refine lv_icmp_lt (tgt := 29) hx hb (oc_161 22 (aq_22 shX0_samplesFrom_0) sgw_0_7) rfl (fun c_5 => ?_) (fun c_5 => ?_)
        ·
          have tc_5 : ((gA (Fn 150) 12 k0 i4).toInt : Int) < v0.toInt := Int32.lt_iff_toInt_lt.mp c_5
          refine lv_iconst (v := 0) hx hb (oc_3 29 (aq_4 shX0_samplesFrom_25)) kic_0 ?_
          refine lv_iadd hx hb dX0_samplesFrom_30 ?_
          refine lv_istore_n (lv' := [(2, .int (x4_2 + 0)), (3, .int (nI i4)), (0, .ref (ad 12 k0)), (1, .int v0)]) hx hb dX0_samplesFrom_31 rfl hl (ltb rfl) rfl (fun ls hl => ?_)
          refine lv_iinc (v := (nI (i4 + 1))) (lv' := [(3, .int (nI (i4 + 1))), (2, .int (x4_2 + 0)), (0, .ref (ad 12 k0)), (1, .int v0)]) hx hb dX0_samplesFrom_32 hl (k := 1) rfl (nI_1 _) (ltb rfl) rfl (fun ls hl => ?_)
          refine lv_goto (tgt := 4) hx hb dX0_samplesFrom_35 rfl ?_
          exact ih4 (i4 + 1) (x4_2 + 0) (by (first | omega | (have zz0 := Hid.u hb_cn; omega))) ⟨(by (first | omega | (have zz0 := Hid.u hb_cn; omega))), (by refine sg_1 hx4_0 ?_; first | exact if_pos (by (first | omega | (have zz0 := Hid.u hb_cn; omega))) | exact if_neg (by (first | omega | (have zz0 := Hid.u hb_cn; omega))))⟩ ls (lv_sub hl [0, 1, 2, 3] rfl)
        ·
          have tc_5 : (v0.toInt : Int) ≤ (gA (Fn 150) 12 k0 i4).toInt := Int32.le_iff_toInt_le.mp (Int32.not_lt.mp c_5)
          refine lv_iconst (v := 1) hx hb (oc_4 25 shX0_samplesFrom_25) kic_1 ?_
          refine lv_goto (tgt := 30) hx hb (oc_167 26 (aq_1 shX0_samplesFrom_25) sgw_0_4) rfl ?_
          refine lv_iadd hx hb dX0_samplesFrom_30 ?_
          refine lv_istore_n (lv' := [(2, .int (x4_2 + 1)), (3, .int (nI i4)), (0, .ref (ad 12 k0)), (1, .int v0)]) hx hb dX0_samplesFrom_31 rfl hl (ltb rfl) rfl (fun ls hl => ?_)
          refine lv_iinc (v := (nI (i4 + 1))) (lv' := [(3, .int (nI (i4 + 1))), (2, .int (x4_2 + 1)), (0, .ref (ad 12 k0)), (1, .int v0)]) hx hb dX0_samplesFrom_32 hl (k := 1) rfl (nI_1 _) (ltb rfl) rfl (fun ls hl => ?_)
          refine lv_goto (tgt := 4) hx hb dX0_samplesFrom_35 rfl ?_
          exact ih4 (i4 + 1) (x4_2 + 1) (by (first | omega | (have zz0 := Hid.u hb_cn; omega))) ⟨(by (first | omega | (have zz0 := Hid.u hb_cn; omega))), (by refine sg_1 hx4_0 ?_; first | exact if_pos (by (first | omega | (have zz0 := Hid.u hb_cn; omega))) | exact if_neg (by (first | omega | (have zz0 := Hid.u hb_cn; omega))))⟩ ls (lv_sub hl [0, 1, 2, 3] rfl)
  exact lp_4 _ 0 0 (Nat.lt_succ_self _) ⟨(by (first | omega | (have zz0 := Hid.u hb_cn; omega))), rfl⟩ ls (lv_sub hl [0, 1, 2, 3] rfl)
set_option maxRecDepth 100000 in
set_option maxHeartbeats 4000000 in
theorem q_Eclaim (l : Launch) (D : va_G) (cI cB cZ : ClassId) (zz qq vv : Nat) (bt : Nat → Int32) (g : Nat → Nat) (ad : Nat → Nat → Nat) (cn : Nat → Nat) (In : Nat → Int32) (Fn : Nat → Nat → Int32) (v0 v1 v2 : Int32) (hB : CBX cn) (hM : ∀ k : Nat, k < cn 12 → ∃ n : Nat, n ≤ 12 ∧ Fn 143 k = nI n) : Met l yX11_claim (CWS yX11_claim cX11_claim 7 (some .int)) (RM 4 0 0) (PBrx [.ref (g 0), .int v0, .int v1, .int v2] D cI cB cZ zz qq vv bt (wX cI (D.1 99) zz g ad cn In Fn)) (vp_Si (fun r => (((0 ≤ v0.toInt ∧ v0.toInt < (cn 12 : Int)) ∧ (0 ≤ v1.toInt ∧ v1.toInt ≤ 1000) ∧ 0 ≤ v2.toInt ∧ v2.toInt ≤ 1000) ∧ ∃ n : Nat, n ≤ 12 ∧ Fn 143 v0.toInt.toNat = nI n ∧ r = cl3 (sg (fun j => if (v1 - v2).toInt ≤ (gA (Fn 150) 12 v0.toInt.toNat j).toInt then 1 else 0) n) (nI n - sg (fun j => if (v1 - v2).toInt ≤ (gA (Fn 150) 12 v0.toInt.toNat j).toInt then 1 else 0) n)) ∨ (¬ ((0 ≤ v0.toInt ∧ v0.toInt < (cn 12 : Int)) ∧ (0 ≤ v1.toInt ∧ v1.toInt ≤ 1000) ∧ 0 ≤ v2.toInt ∧ v2.toInt ≤ 1000) ∧ r = -1))) 0 0 (fun _ => False) := by
  refine en_rx rfl pn_RX11 (Nat.le_of_ble_eq_true rfl) (fun p e s m below meth c hx hb hml hown S hr hlocks hnm hP hK hXS hS ls hl => ?_)
  have hl : lv_has ls 7 [(0, .ref (g 0)), (1, .int v0), (2, .int v1), (3, .int v2)] := hl
  have hb_cn : Hid (CBX cn) := hB
  replace hB : CBXh cn := hB
  refine lv_aload_n hx hb (oc_42 0 shX11_claim_0) rfl (lvA0 hl) ?_
  refine lv_iload_n hx hb (oc_27 1 (aq_1 shX11_claim_0)) rfl (lvA1 hl) ?_
  refine va_csq (runV_rxa (As := [.int v0]) (rest := []) S (q_XbatchAt l D cI cB cZ zz qq vv bt g ad cn In Fn v0 hB) kV_RX11_382 hK hXS hS hP 0 xo_0 rfl rfl ⟨Nat.le_of_ble_eq_true rfl, Nat.le_of_ble_eq_true rfl⟩ ⟨Nat.le_of_ble_eq_true rfl, Nat.le_of_ble_eq_true rfl⟩ rfl hl.1 rfl (Nat.le_of_ble_eq_true rfl) (oc_182 2 (aq_2 shX11_claim_0) uw_1_126)) (fun r_1 h_2 => ?_)
  rcases h_2 with ⟨mr_1, er_1, hr_1, rfl⟩ | ⟨hr_1, rfl⟩
  ·
    refine lv_astore (lv' := [(4, .ref (ad 12 mr_1)), (0, .ref (g 0)), (1, .int v0), (2, .int v1), (3, .int v2)]) hx hb dX11_claim_5 hl (ltb rfl) rfl (fun ls hl => ?_)
    refine lv_aload hx hb dX11_claim_7 (lvA0 hl) ?_
    refine lv_ifnull hx hb dX11_claim_9 ?_
    refine lv_iload_n hx hb (oc_28 12 (aq_12 shX11_claim_0)) rfl (lvA3 hl) ?_
    refine lv_iconst (v := 0) hx hb (oc_3 13 (aq_13 shX11_claim_0)) kic_0 ?_
    refine lv_sipush (v := 1000) hx hb (oc_17 14 (aq_14 shX11_claim_0) sgw_3_232) (by decide) ?_
    refine vp_callSi (runS_r (As := [.int v1, .int 0, .int 1000]) (rest := []) S (q_l_within l D cI cB cZ v1 0 1000) kS_RX11_80 hK hP [] rfl ⟨Nat.le_of_ble_eq_true rfl, Nat.le_of_ble_eq_true rfl⟩ ⟨Nat.le_of_ble_eq_true rfl, Nat.le_of_ble_eq_true rfl⟩ rfl hl.1 rfl (Nat.le_of_ble_eq_true rfl) (oc_184 17 (aq_17 shX11_claim_0) uw_0_80)) (fun r_3 h_4 => ?_)
    rcases h_4 with ⟨rfl, h_4⟩ | ⟨rfl, h_4⟩
    ·
      have h_4 : 0 ≤ v1.toInt ∧ v1.toInt ≤ 1000 := h_4
      refine lv_if_eq (tgt := 34) hx hb dX11_claim_20 rfl (fun h => absurd h cq_eq_1_0) (fun _ => ?_)
      refine lv_iload_n hx hb (oc_29 23 (aq_23 shX11_claim_0)) rfl (lvA4 hl) ?_
      refine lv_iconst (v := 0) hx hb (oc_3 24 shX11_claim_24) kic_0 ?_
      refine lv_sipush (v := 1000) hx hb (oc_17 25 (aq_1 shX11_claim_24) sgw_3_232) (by decide) ?_
      refine vp_callSi (runS_r (As := [.int v2, .int 0, .int 1000]) (rest := []) S (q_l_within l D cI cB cZ v2 0 1000) kS_RX11_80 hK hP [] rfl ⟨Nat.le_of_ble_eq_true rfl, Nat.le_of_ble_eq_true rfl⟩ ⟨Nat.le_of_ble_eq_true rfl, Nat.le_of_ble_eq_true rfl⟩ rfl hl.1 rfl (Nat.le_of_ble_eq_true rfl) (oc_184 28 (aq_4 shX11_claim_24) uw_0_80)) (fun r_5 h_6 => ?_)
      rcases h_6 with ⟨rfl, h_6⟩ | ⟨rfl, h_6⟩
      ·
        have h_6 : 0 ≤ v2.toInt ∧ v2.toInt ≤ 1000 := h_6
        refine lv_if_ne (tgt := 36) hx hb dX11_claim_31 rfl (fun _ => ?_) (fun h => absurd h cq_eq_1_0)
        obtain ⟨n9, hn9, en9⟩ := hM mr_1 (by (first | omega | (have zz0 := Hid.u hb_cn; omega)))
        refine lv_aload hx hb (oc_25 36 (aq_12 shX11_claim_24) ub_4) (lvA0 hl) ?_
        refine lv_iload_n hx hb (oc_28 38 (aq_14 shX11_claim_24)) rfl (lvA3 hl) ?_
        refine lv_iload_n hx hb (oc_29 39 (aq_15 shX11_claim_24)) rfl (lvA4 hl) ?_
        refine lv_isub hx hb (oc_100 40 (aq_16 shX11_claim_24)) ?_
        have kf_1 : mr_1 < cn 12 := by (first | omega | (have zz0 := Hid.u hb_cn; omega))
        refine vp_callSi (runV_rxa (As := [.int (v1 - v2)]) (rest := []) S (q_EsamplesFrom l D cI cB cZ zz qq vv bt g ad cn In Fn mr_1 n9 (v1 - v2) hB (by (first | omega | (have zz0 := Hid.u hb_cn; omega))) en9 hn9) kV_RX11_447 hK hXS hS hP _ (xf_2 kf_1) rfl rfl ⟨Nat.le_of_ble_eq_true rfl, Nat.le_of_ble_eq_true rfl⟩ ⟨Nat.le_of_ble_eq_true rfl, Nat.le_of_ble_eq_true rfl⟩ rfl hl.1 rfl (Nat.le_of_ble_eq_true rfl) (oc_182 41 (aq_17 shX11_claim_24) uw_1_191)) (fun r_7 h_8 => ?_)
        obtain rfl : r_7 = (sg (fun j => if (v1 - v2).toInt ≤ (gA (Fn 150) 12 mr_1 j).toInt then 1 else 0) n9) := h_8
        refine lv_istore (lv' := [(5, .int (sg (fun j => if (v1 - v2).toInt ≤ (gA (Fn 150) 12 mr_1 j).toInt then 1 else 0) n9)), (4, .ref (ad 12 mr_1)), (0, .ref (g 0)), (1, .int v0), (2, .int v1), (3, .int v2)]) hx hb (oc_54 44 (aq_20 shX11_claim_24) ub_5) hl (ltb rfl) rfl (fun ls hl => ?_)
        refine lv_aload hx hb (oc_25 46 (aq_22 shX11_claim_24) ub_4) (lvA1 hl) ?_
        refine gf_RX11_441 S hK hP _ (xf_2 kf_1) (v := .int ((Fn 143) mr_1)) rfl (oc_180 48 shX11_claim_48 uw_1_185) ?_
        refine lv_topi (fun y_9 ey_9 => ?_)
        obtain rfl : y_9 = (nI n9) := ey_9.trans en9
        refine lv_iload hx hb (oc_21 51 (aq_3 shX11_claim_48) ub_5) (lvA0 hl) ?_
        refine lv_isub hx hb (oc_100 53 (aq_5 shX11_claim_48)) ?_
        refine lv_istore (lv' := [(6, .int ((nI n9) - (sg (fun j => if (v1 - v2).toInt ≤ (gA (Fn 150) 12 mr_1 j).toInt then 1 else 0) n9))), (5, .int (sg (fun j => if (v1 - v2).toInt ≤ (gA (Fn 150) 12 mr_1 j).toInt then 1 else 0) n9)), (4, .ref (ad 12 mr_1)), (0, .ref (g 0)), (1, .int v0), (2, .int v1), (3, .int v2)]) hx hb (oc_54 54 (aq_6 shX11_claim_48) ub_6) hl (ltb rfl) rfl (fun ls hl => ?_)
        refine lv_iload hx hb (oc_21 56 (aq_8 shX11_claim_48) ub_5) (lvA1 hl) ?_
        refine lv_iload hx hb (oc_21 58 (aq_10 shX11_claim_48) ub_6) (lvA0 hl) ?_
        refine lv_icmp_le (tgt := 67) hx hb (oc_164 60 (aq_12 shX11_claim_48) sgw_0_7) rfl (fun c_10 => ?_) (fun c_10 => ?_)
        ·
          have tc_10 : ((sg (fun j => if (v1 - v2).toInt ≤ (gA (Fn 150) 12 mr_1 j).toInt then 1 else 0) n9).toInt : Int) ≤ ((nI n9) - (sg (fun j => if (v1 - v2).toInt ≤ (gA (Fn 150) 12 mr_1 j).toInt then 1 else 0) n9)).toInt := Int32.le_iff_toInt_le.mp c_10
          refine lv_iload hx hb (oc_21 67 (aq_19 shX11_claim_48) ub_6) (lvA0 hl) ?_
          refine lv_iload hx hb (oc_21 69 (aq_21 shX11_claim_48) ub_5) (lvA1 hl) ?_
          refine lv_icmp_le (tgt := 78) hx hb (oc_164 71 (aq_23 shX11_claim_48) sgw_0_7) rfl (fun c_11 => ?_) (fun c_11 => ?_)
          ·
            have tc_11 : (((nI n9) - (sg (fun j => if (v1 - v2).toInt ≤ (gA (Fn 150) 12 mr_1 j).toInt then 1 else 0) n9)).toInt : Int) ≤ (sg (fun j => if (v1 - v2).toInt ≤ (gA (Fn 150) 12 mr_1 j).toInt then 1 else 0) n9).toInt := Int32.le_iff_toInt_le.mp c_11
            refine lv_iconst (v := 2) hx hb (oc_5 78 (aq_4 shX11_claim_74)) kic_2 ?_
            exact W.iret (v := 2) hx hb hr (fun t ht hW => ⟨2, rfl, (Or.inl ⟨by (first | omega | (have zz0 := Hid.u hb_cn; omega)), by rw [show v0.toInt.toNat = mr_1 by (first | omega | (have zz0 := Hid.u hb_cn; omega))]; exact ⟨n9, hn9, en9, cl3_2 (by assumption) (by assumption)⟩⟩), ht⟩) (fun _ h => absurd h List.not_mem_nil) dX11_claim_79
          ·
            have tc_11 : ((sg (fun j => if (v1 - v2).toInt ≤ (gA (Fn 150) 12 mr_1 j).toInt then 1 else 0) n9).toInt : Int) < ((nI n9) - (sg (fun j => if (v1 - v2).toInt ≤ (gA (Fn 150) 12 mr_1 j).toInt then 1 else 0) n9)).toInt := Int32.lt_iff_toInt_lt.mp (Int32.not_le.mp c_11)
            refine lv_iconst (v := 0) hx hb (oc_3 74 shX11_claim_74) kic_0 ?_
            refine lv_goto (tgt := 79) hx hb (oc_167 75 (aq_1 shX11_claim_74) sgw_0_4) rfl ?_
            exact W.iret (v := 0) hx hb hr (fun t ht hW => ⟨0, rfl, (Or.inl ⟨by (first | omega | (have zz0 := Hid.u hb_cn; omega)), by rw [show v0.toInt.toNat = mr_1 by (first | omega | (have zz0 := Hid.u hb_cn; omega))]; exact ⟨n9, hn9, en9, cl3_0 (by assumption)⟩⟩), ht⟩) (fun _ h => absurd h List.not_mem_nil) dX11_claim_79
        ·
          have tc_10 : (((nI n9) - (sg (fun j => if (v1 - v2).toInt ≤ (gA (Fn 150) 12 mr_1 j).toInt then 1 else 0) n9)).toInt : Int) < (sg (fun j => if (v1 - v2).toInt ≤ (gA (Fn 150) 12 mr_1 j).toInt then 1 else 0) n9).toInt := Int32.lt_iff_toInt_lt.mp (Int32.not_le.mp c_10)
          refine lv_iconst (v := 1) hx hb (oc_4 63 (aq_15 shX11_claim_48)) kic_1 ?_
          refine lv_goto (tgt := 79) hx hb (oc_167 64 (aq_16 shX11_claim_48) sgw_0_15) rfl ?_
          exact W.iret (v := 1) hx hb hr (fun t ht hW => ⟨1, rfl, (Or.inl ⟨by (first | omega | (have zz0 := Hid.u hb_cn; omega)), by rw [show v0.toInt.toNat = mr_1 by (first | omega | (have zz0 := Hid.u hb_cn; omega))]; exact ⟨n9, hn9, en9, cl3_1 (by assumption)⟩⟩), ht⟩) (fun _ h => absurd h List.not_mem_nil) dX11_claim_79
      ·
        have h_6 : ¬ (0 ≤ v2.toInt ∧ v2.toInt ≤ 1000) := h_6
        refine lv_if_ne (tgt := 36) hx hb dX11_claim_31 rfl (fun h => absurd h cq_eq_0_0) (fun _ => ?_)
        refine lv_iconst (v := (-1)) hx hb dX11_claim_34 kic_m1 ?_
        exact W.iret (v := (-1)) hx hb hr (fun t ht hW => ⟨(-1), rfl, (Or.inr ⟨by (first | omega | (have zz0 := Hid.u hb_cn; omega)), rfl⟩), ht⟩) (fun _ h => absurd h List.not_mem_nil) dX11_claim_35
    ·
      have h_4 : ¬ (0 ≤ v1.toInt ∧ v1.toInt ≤ 1000) := h_4
      refine lv_if_eq (tgt := 34) hx hb dX11_claim_20 rfl (fun _ => ?_) (fun h => absurd h cq_eq_0_0)
      refine lv_iconst (v := (-1)) hx hb dX11_claim_34 kic_m1 ?_
      exact W.iret (v := (-1)) hx hb hr (fun t ht hW => ⟨(-1), rfl, (Or.inr ⟨by (first | omega | (have zz0 := Hid.u hb_cn; omega)), rfl⟩), ht⟩) (fun _ h => absurd h List.not_mem_nil) dX11_claim_35
  ·
    refine lv_astoreN (lv' := [(4, .null), (0, .ref (g 0)), (1, .int v0), (2, .int v1), (3, .int v2)]) hx hb dX11_claim_5 hl (ltb rfl) rfl (fun ls hl => ?_)
    refine lv_aloadN hx hb dX11_claim_7 (lvA0 hl) ?_
    refine lv_ifnullN (tgt := 34) hx hb dX11_claim_9 rfl ?_
    refine lv_iconst (v := (-1)) hx hb dX11_claim_34 kic_m1 ?_
    exact W.iret (v := (-1)) hx hb hr (fun t ht hW => ⟨(-1), rfl, (Or.inr ⟨by (first | omega | (have zz0 := Hid.u hb_cn; omega)), rfl⟩), ht⟩) (fun _ h => absurd h List.not_mem_nil) dX11_claim_35
set_option maxRecDepth 100000 in
set_option maxHeartbeats 4000000 in
theorem q_claim9 (l : Launch) (D : va_G) (cI cB cZ : ClassId) (g : Nat → Nat) (cn : Nat → Nat) (In : Nat → Int32) (Fn : Nat → Nat → Int32) (v0 v1 v2 : Int32) (hI : IM cn Fn) : Met l yX12_claim (CWS yX12_claim cX12_claim 6 (some .int)) (RM 1 0 0) (PBr [.ref (g 100), .int v0, .int v1, .int v2] D cI cB cZ (wM cI cB cZ g cn In Fn)) (vp_Si (fun r => (((0 ≤ v0.toInt ∧ v0.toInt < (cn 62 : Int)) ∧ (0 ≤ v1.toInt ∧ v1.toInt ≤ 1000) ∧ 0 ≤ v2.toInt ∧ v2.toInt ≤ 1000) ∧ ∃ n : Nat, n ≤ 12 ∧ Fn 79 v0.toInt.toNat = nI n ∧ r = cl3 (sg (fun j => if (v1 - v2).toInt ≤ (gA (Fn 80) 12 v0.toInt.toNat j).toInt then 1 else 0) n) (nI n - sg (fun j => if (v1 - v2).toInt ≤ (gA (Fn 80) 12 v0.toInt.toNat j).toInt then 1 else 0) n)) ∨ (¬ ((0 ≤ v0.toInt ∧ v0.toInt < (cn 62 : Int)) ∧ (0 ≤ v1.toInt ∧ v1.toInt ≤ 1000) ∧ 0 ≤ v2.toInt ∧ v2.toInt ≤ 1000) ∧ r = -1))) 0 0 (fun _ => False) := by
  refine en_r rfl pn_RX12 (Nat.le_of_ble_eq_true rfl) (fun p e s m below meth c hx hb hml hown S hr hlocks hnm hP hK hS ls hl => ?_)
  have hl : lv_has ls 6 [(0, .ref (g 100)), (1, .int v0), (2, .int v1), (3, .int v2)] := hl
  have hi_cn : Hid (CB cn) := hI.b
  refine lv_aload_n hx hb (oc_42 0 shX12_claim_0) rfl (lvA0 hl) ?_
  refine lv_iload_n hx hb (oc_27 1 (aq_1 shX12_claim_0)) rfl (lvA1 hl) ?_
  refine vp_callSi (runV_ra (As := [.int v0]) (rest := []) S (q_isBatch l D cI cB cZ g cn In Fn v0 hI) kV_RX12_450 hK hP 0 rfl rfl rfl ⟨Nat.le_of_ble_eq_true rfl, Nat.le_of_ble_eq_true rfl⟩ ⟨Nat.le_of_ble_eq_true rfl, Nat.le_of_ble_eq_true rfl⟩ rfl hl.1 rfl (Nat.le_of_ble_eq_true rfl) (oc_182 2 (aq_2 shX12_claim_0) uw_1_194)) (fun r_1 h_2 => ?_)
  rcases h_2 with ⟨rfl, h_2⟩ | ⟨rfl, h_2⟩
  ·
    have h_2 : 0 ≤ v0.toInt ∧ v0.toInt < ((cn 62) : Int) := h_2
    refine lv_if_eq (tgt := 30) hx hb dX12_claim_5 rfl (fun h => absurd h cq_eq_1_0) (fun _ => ?_)
    obtain ⟨d0, hd0, rfl⟩ := nI_of (x := v0) (fun q => by have := Int32.lt_iff_toInt_lt.mp q; have e : (0 : Int32).toInt = 0 := rfl; (first | omega | (have zz0 := Hid.u hi_cn; omega)))
    have td0 : (nI d0).toInt = (d0 : Int) := nI_toInt hd0
    have zd0 : (nI d0).toInt.toNat = d0 := by (first | omega | (have zz0 := Hid.u hi_cn; omega))
    refine lv_iload_n hx hb (oc_28 8 (aq_8 shX12_claim_0)) rfl (lvA2 hl) ?_
    refine lv_iconst (v := 0) hx hb (oc_3 9 (aq_9 shX12_claim_0)) kic_0 ?_
    refine lv_sipush (v := 1000) hx hb (oc_17 10 (aq_10 shX12_claim_0) sgw_3_232) (by decide) ?_
    refine vp_callSi (runS_r (As := [.int v1, .int 0, .int 1000]) (rest := []) S (q_in l D cI cB cZ v1 0 1000 ) kS_RX12_214 hK hP [] rfl ⟨Nat.le_of_ble_eq_true rfl, Nat.le_of_ble_eq_true rfl⟩ ⟨Nat.le_of_ble_eq_true rfl, Nat.le_of_ble_eq_true rfl⟩ rfl hl.1 rfl (Nat.le_of_ble_eq_true rfl) (oc_184 13 (aq_13 shX12_claim_0) uw_0_214)) (fun r_3 h_4 => ?_)
    rcases h_4 with ⟨rfl, h_4⟩ | ⟨rfl, h_4⟩
    ·
      have h_4 : 0 ≤ v1.toInt ∧ v1.toInt ≤ 1000 := h_4
      refine lv_if_eq (tgt := 30) hx hb dX12_claim_16 rfl (fun h => absurd h cq_eq_1_0) (fun _ => ?_)
      refine lv_iload_n hx hb (oc_29 19 (aq_19 shX12_claim_0)) rfl (lvA3 hl) ?_
      refine lv_iconst (v := 0) hx hb (oc_3 20 (aq_20 shX12_claim_0)) kic_0 ?_
      refine lv_sipush (v := 1000) hx hb (oc_17 21 (aq_21 shX12_claim_0) sgw_3_232) (by decide) ?_
      refine vp_callSi (runS_r (As := [.int v2, .int 0, .int 1000]) (rest := []) S (q_in l D cI cB cZ v2 0 1000 ) kS_RX12_214 hK hP [] rfl ⟨Nat.le_of_ble_eq_true rfl, Nat.le_of_ble_eq_true rfl⟩ ⟨Nat.le_of_ble_eq_true rfl, Nat.le_of_ble_eq_true rfl⟩ rfl hl.1 rfl (Nat.le_of_ble_eq_true rfl) (oc_184 24 shX12_claim_24 uw_0_214)) (fun r_5 h_6 => ?_)
      rcases h_6 with ⟨rfl, h_6⟩ | ⟨rfl, h_6⟩
      ·
        have h_6 : 0 ≤ v2.toInt ∧ v2.toInt ≤ 1000 := h_6
        refine lv_if_ne (tgt := 32) hx hb dX12_claim_27 rfl (fun _ => ?_) (fun h => absurd h cq_eq_1_0)
        obtain ⟨b79, hb79, eb79⟩ := hI.e79 d0 (by (first | omega | (have zz0 := Hid.u hi_cn; omega)))
        refine lv_iconst (v := 0) hx hb (oc_3 32 (aq_8 shX12_claim_24)) kic_0 ?_
        refine lv_istore (lv' := [(4, .int 0), (0, .ref (g 100)), (1, .int (nI d0)), (2, .int v1), (3, .int v2)]) hx hb (oc_54 33 (aq_9 shX12_claim_24) ub_4) hl (ltb rfl) rfl (fun ls hl => ?_)
        refine lv_iconst (v := 0) hx hb (oc_3 35 (aq_11 shX12_claim_24)) kic_0 ?_
        refine lv_istore (lv' := [(5, .int 0), (4, .int 0), (0, .ref (g 100)), (1, .int (nI d0)), (2, .int v1), (3, .int v2)]) hx hb (oc_54 36 (aq_12 shX12_claim_24) ub_5) hl (ltb rfl) rfl (fun ls hl => ?_)
        have lp_38 : ∀ (n : Nat) (i38 : Nat) (x38_4 : Int32) , b79 - i38 < n → (i38 ≤ b79 ∧ (x38_4 = sg (fun j => if (v1 - v2).toInt ≤ (gA (Fn 80) 12 d0 j).toInt then 1 else 0) i38)) → ∀ ls : Array Slot, lv_has ls 6 [(5, .int (nI i38)), (4, .int x38_4), (0, .ref (g 100)), (1, .int (nI d0)), (2, .int v1), (3, .int v2)] → W p l e (RM 1 0 0) s m ([.ref (g 100), .int (nI d0), .int v1, .int v2]).toArray below meth c s.heap [] 0 0 (MQ below (vp_Si (fun r => (((0 ≤ (nI d0).toInt ∧ (nI d0).toInt < (cn 62 : Int)) ∧ (0 ≤ v1.toInt ∧ v1.toInt ≤ 1000) ∧ 0 ≤ v2.toInt ∧ v2.toInt ≤ 1000) ∧ ∃ n : Nat, n ≤ 12 ∧ Fn 79 (nI d0).toInt.toNat = nI n ∧ r = cl3 (sg (fun j => if (v1 - v2).toInt ≤ (gA (Fn 80) 12 (nI d0).toInt.toNat j).toInt then 1 else 0) n) (nI n - sg (fun j => if (v1 - v2).toInt ≤ (gA (Fn 80) 12 (nI d0).toInt.toNat j).toInt then 1 else 0) n)) ∨ (¬ ((0 ≤ (nI d0).toInt ∧ (nI d0).toInt < (cn 62 : Int)) ∧ (0 ≤ v1.toInt ∧ v1.toInt ≤ 1000) ∧ 0 ≤ v2.toInt ∧ v2.toInt ≤ 1000) ∧ r = -1))) ([.ref (g 100), .int (nI d0), .int v1, .int v2]).toArray s 0 0 (fun _ => False)) (F0 m 38 ls []) := by
          intro n38
          induction n38 with
          | zero => intros; (first | omega | (have zz0 := Hid.u hi_cn; omega))
          | succ n38 ih38 =>
            intro i38 x38_4 hmu38 hinv38 ls hl
            obtain ⟨hr38, hx38_0⟩ := hinv38
            have ti38 : (nI i38).toInt = (i38 : Int) := nI_toInt (by (first | omega | (have zz0 := Hid.u hi_cn; omega)))
            refine lv_iload hx hb (oc_21 38 (aq_14 shX12_claim_24) ub_5) (lvA0 hl) ?_
            refine lv_aload_n hx hb (oc_42 40 (aq_16 shX12_claim_24)) rfl (lvA2 hl) ?_
            refine gM_171 S hK hP (v := .ref (g 79)) rfl (oc_180 41 (aq_17 shX12_claim_24) uw_0_171) ?_
            refine lv_iload_n hx hb (oc_27 44 (aq_20 shX12_claim_24)) rfl (lvA3 hl) ?_
            have kb_1 : d0 < 10 := by (first | omega | (have zz0 := Hid.u hi_cn; omega))
            refine ldM_79 hx hb hK hP (x := (nI b79)) (vp_in_nI kb_1 (ltb rfl)) (nI_clamp (Nat.lt_trans kb_1 (ltb rfl))) eb79 (oc_46 45 (aq_21 shX12_claim_24)) ?_
            have : (nI b79).toInt = ((b79 : Nat) : Int) := nI_toInt (by (first | omega | (have zz0 := Hid.u hi_cn; omega)))
            refine lv_icmp_ge (tgt := 83) hx hb (oc_162 46 (aq_22 shX12_claim_24) sgw_0_37) rfl (fun c_7 => ?_) (fun c_7 => ?_)
            ·
              have tc_7 : ((nI b79).toInt : Int) ≤ (nI i38).toInt := Int32.le_iff_toInt_le.mp c_7
              refine lv_aload_n hx hb (oc_42 83 (aq_10 shX12_claim_73)) rfl (lvA2 hl) ?_
              refine gM_171 S hK hP (v := .ref (g 79)) rfl (oc_180 84 (aq_11 shX12_claim_73) uw_0_171) ?_
              refine lv_iload_n hx hb (oc_27 87 (aq_14 shX12_claim_73)) rfl (lvA3 hl) ?_
              refine ldM_79 hx hb hK hP (x := (nI b79)) (vp_in_nI kb_1 (ltb rfl)) (nI_clamp (Nat.lt_trans kb_1 (ltb rfl))) eb79 (oc_46 88 (aq_15 shX12_claim_73)) ?_
              refine lv_iload hx hb (oc_21 89 (aq_16 shX12_claim_73) ub_4) (lvA1 hl) ?_
              refine lv_isub hx hb (oc_100 91 (aq_18 shX12_claim_73)) ?_
              refine lv_istore (lv' := [(5, .int ((nI b79) - x38_4)), (4, .int x38_4), (0, .ref (g 100)), (1, .int (nI d0)), (2, .int v1), (3, .int v2)]) hx hb (oc_54 92 (aq_19 shX12_claim_73) ub_5) hl (ltb rfl) rfl (fun ls hl => ?_)
              refine lv_iload hx hb (oc_21 94 (aq_21 shX12_claim_73) ub_4) (lvA1 hl) ?_
              refine lv_iload hx hb (oc_21 96 (aq_23 shX12_claim_73) ub_5) (lvA0 hl) ?_
              refine lv_icmp_le (tgt := 105) hx hb (oc_164 98 shX12_claim_98 sgw_0_7) rfl (fun c_8 => ?_) (fun c_8 => ?_)
              ·
                have tc_8 : (x38_4.toInt : Int) ≤ ((nI b79) - x38_4).toInt := Int32.le_iff_toInt_le.mp c_8
                refine lv_iload hx hb (oc_21 105 (aq_7 shX12_claim_98) ub_5) (lvA0 hl) ?_
                refine lv_iload hx hb (oc_21 107 (aq_9 shX12_claim_98) ub_4) (lvA1 hl) ?_
                refine lv_icmp_le (tgt := 116) hx hb (oc_164 109 (aq_11 shX12_claim_98) sgw_0_7) rfl (fun c_9 => ?_) (fun c_9 => ?_)
                ·
                  have tc_9 : (((nI b79) - x38_4).toInt : Int) ≤ x38_4.toInt := Int32.le_iff_toInt_le.mp c_9
                  refine lv_iconst (v := 2) hx hb (oc_5 116 (aq_18 shX12_claim_98)) kic_2 ?_
                  exact W.iret (v := 2) hx hb hr (fun t ht hW => ⟨2, rfl, (Or.inl ⟨by (first | omega | (have zz0 := Hid.u hi_cn; omega)), by rw [zd0]; exact ⟨b79, by (first | omega | (have zz0 := Hid.u hi_cn; omega)), eb79, (by have e9 : i38 = b79 := (by (first | omega | (have zz0 := Hid.u hi_cn; omega))); rw [← e9]; rw [← hx38_0]; rw [e9]; exact cl3_2 (by assumption) (by assumption))⟩⟩), ht⟩) (fun _ h => absurd h List.not_mem_nil) dX12_claim_117
                ·
                  have tc_9 : (x38_4.toInt : Int) < ((nI b79) - x38_4).toInt := Int32.lt_iff_toInt_lt.mp (Int32.not_le.mp c_9)
                  refine lv_iconst (v := 0) hx hb (oc_3 112 (aq_14 shX12_claim_98)) kic_0 ?_
                  refine lv_goto (tgt := 117) hx hb (oc_167 113 (aq_15 shX12_claim_98) sgw_0_4) rfl ?_
                  exact W.iret (v := 0) hx hb hr (fun t ht hW => ⟨0, rfl, (Or.inl ⟨by (first | omega | (have zz0 := Hid.u hi_cn; omega)), by rw [zd0]; exact ⟨b79, by (first | omega | (have zz0 := Hid.u hi_cn; omega)), eb79, (by have e9 : i38 = b79 := (by (first | omega | (have zz0 := Hid.u hi_cn; omega))); rw [← e9]; rw [← hx38_0]; rw [e9]; exact cl3_0 (by assumption))⟩⟩), ht⟩) (fun _ h => absurd h List.not_mem_nil) dX12_claim_117
              ·
                have tc_8 : (((nI b79) - x38_4).toInt : Int) < x38_4.toInt := Int32.lt_iff_toInt_lt.mp (Int32.not_le.mp c_8)
                refine lv_iconst (v := 1) hx hb (oc_4 101 (aq_3 shX12_claim_98)) kic_1 ?_
                refine lv_goto (tgt := 117) hx hb (oc_167 102 (aq_4 shX12_claim_98) sgw_0_15) rfl ?_
                exact W.iret (v := 1) hx hb hr (fun t ht hW => ⟨1, rfl, (Or.inl ⟨by (first | omega | (have zz0 := Hid.u hi_cn; omega)), by rw [zd0]; exact ⟨b79, by (first | omega | (have zz0 := Hid.u hi_cn; omega)), eb79, (by have e9 : i38 = b79 := (by (first | omega | (have zz0 := Hid.u hi_cn; omega))); rw [← e9]; rw [← hx38_0]; rw [e9]; exact cl3_1 (by assumption))⟩⟩), ht⟩) (fun _ h => absurd h List.not_mem_nil) dX12_claim_117
            ·
              have tc_7 : ((nI i38).toInt : Int) < (nI b79).toInt := Int32.lt_iff_toInt_lt.mp (Int32.not_le.mp c_7)
              refine lv_iload hx hb (oc_21 49 shX12_claim_49 ub_4) (lvA1 hl) ?_
              refine lv_aload_n hx hb (oc_42 51 (aq_2 shX12_claim_49)) rfl (lvA2 hl) ?_
              refine gM_174 S hK hP (v := .ref (g 80)) rfl (oc_180 52 (aq_3 shX12_claim_49) uw_0_174) ?_
              refine lv_bipush (v := 12) hx hb (oc_16 55 (aq_6 shX12_claim_49) sgb_12) kbc_12 ?_
              refine lv_iload_n hx hb (oc_27 57 (aq_8 shX12_claim_49)) rfl (lvA3 hl) ?_
              refine lv_imul hx hb (oc_104 58 (aq_9 shX12_claim_49)) ?_
              refine lv_topi (fun y_10 ey_10 => ?_)
              obtain rfl : y_10 = (nI (12 * d0)) := ey_10.trans (pk_mul 12 d0)
              refine lv_iload hx hb (oc_21 59 (aq_10 shX12_claim_49) ub_5) (lvA0 hl) ?_
              refine lv_iadd hx hb (oc_96 61 (aq_12 shX12_claim_49)) ?_
              refine lv_topi (fun y_11 ey_11 => ?_)
              obtain rfl : y_11 = (nI ((12 * d0) + i38)) := ey_11.trans (nI_add (12 * d0) i38)
              have kb_2 : ((12 * d0) + i38) < 120 := by (first | omega | (have zz0 := Hid.u hi_cn; omega))
              refine ldM_80 hx hb hK hP (x := ((Fn 80) ((12 * d0) + i38))) (vp_in_nI kb_2 (ltb rfl)) (nI_clamp (Nat.lt_trans kb_2 (ltb rfl))) rfl (oc_46 62 (aq_13 shX12_claim_49)) ?_
              refine lv_topi (fun y_12 ey_12 => ?_)
              obtain rfl : y_12 = (gA (Fn 80) 12 d0 i38) := ey_12.trans (show (Fn 80) _ = gA (Fn 80) 12 d0 i38 from (if_pos (show i38 < 12 by (first | omega | (have zz0 := Hid.u hi_cn; omega)))).symm)
              refine lv_iload_n hx hb (oc_28 63 (aq_14 shX12_claim_49)) rfl (lvA4 hl) ?_
              refine lv_iload_n hx hb (oc_29 64 (aq_15 shX12_claim_49)) rfl (lvA5 hl) ?_
              refine lv_isub hx hb (oc_100 65 (aq_16 shX12_claim_49)) ?_
              refine lv_icmp_lt (tgt := 73) hx hb (oc_161 66 (aq_17 shX12_claim_49) sgw_0_7) rfl (fun c_13 => ?_) (fun c_13 => ?_)
              ·
                have tc_13 : ((gA (Fn 80) 12 d0 i38).toInt : Int) < (v1 - v2).toInt := Int32.lt_iff_toInt_lt.mp c_13
                refine lv_iconst (v := 0) hx hb (oc_3 73 shX12_claim_73) kic_0 ?_
                refine lv_iadd hx hb dX12_claim_74 ?_
                refine lv_istore (lv' := [(4, .int (x38_4 + 0)), (5, .int (nI i38)), (0, .ref (g 100)), (1, .int (nI d0)), (2, .int v1), (3, .int v2)]) hx hb dX12_claim_75 hl (ltb rfl) rfl (fun ls hl => ?_)
                refine lv_iinc (v := (nI (i38 + 1))) (lv' := [(5, .int (nI (i38 + 1))), (4, .int (x38_4 + 0)), (0, .ref (g 100)), (1, .int (nI d0)), (2, .int v1), (3, .int v2)]) hx hb dX12_claim_77 hl (k := 1) rfl (nI_1 _) (ltb rfl) rfl (fun ls hl => ?_)
                refine lv_goto (tgt := 38) hx hb dX12_claim_80 rfl ?_
                exact ih38 (i38 + 1) (x38_4 + 0) (by (first | omega | (have zz0 := Hid.u hi_cn; omega))) ⟨(by (first | omega | (have zz0 := Hid.u hi_cn; omega))), (by refine sg_1 hx38_0 ?_; first | exact if_pos (by (first | omega | (have zz0 := Hid.u hi_cn; omega))) | exact if_neg (by (first | omega | (have zz0 := Hid.u hi_cn; omega))))⟩ ls (lv_sub hl [0, 1, 2, 3, 4, 5] rfl)
              ·
                have tc_13 : ((v1 - v2).toInt : Int) ≤ (gA (Fn 80) 12 d0 i38).toInt := Int32.le_iff_toInt_le.mp (Int32.not_lt.mp c_13)
                refine lv_iconst (v := 1) hx hb (oc_4 69 (aq_20 shX12_claim_49)) kic_1 ?_
                refine lv_goto (tgt := 74) hx hb (oc_167 70 (aq_21 shX12_claim_49) sgw_0_4) rfl ?_
                refine lv_iadd hx hb dX12_claim_74 ?_
                refine lv_istore (lv' := [(4, .int (x38_4 + 1)), (5, .int (nI i38)), (0, .ref (g 100)), (1, .int (nI d0)), (2, .int v1), (3, .int v2)]) hx hb dX12_claim_75 hl (ltb rfl) rfl (fun ls hl => ?_)
                refine lv_iinc (v := (nI (i38 + 1))) (lv' := [(5, .int (nI (i38 + 1))), (4, .int (x38_4 + 1)), (0, .ref (g 100)), (1, .int (nI d0)), (2, .int v1), (3, .int v2)]) hx hb dX12_claim_77 hl (k := 1) rfl (nI_1 _) (ltb rfl) rfl (fun ls hl => ?_)
                refine lv_goto (tgt := 38) hx hb dX12_claim_80 rfl ?_
                exact ih38 (i38 + 1) (x38_4 + 1) (by (first | omega | (have zz0 := Hid.u hi_cn; omega))) ⟨(by (first | omega | (have zz0 := Hid.u hi_cn; omega))), (by refine sg_1 hx38_0 ?_; first | exact if_pos (by (first | omega | (have zz0 := Hid.u hi_cn; omega))) | exact if_neg (by (first | omega | (have zz0 := Hid.u hi_cn; omega))))⟩ ls (lv_sub hl [0, 1, 2, 3, 4, 5] rfl)
        exact lp_38 _ 0 0 (Nat.lt_succ_self _) ⟨(by (first | omega | (have zz0 := Hid.u hi_cn; omega))), rfl⟩ ls (lv_sub hl [0, 1, 2, 3, 4, 5] rfl)
      ·
        have h_6 : ¬ (0 ≤ v2.toInt ∧ v2.toInt ≤ 1000) := h_6
        refine lv_if_ne (tgt := 32) hx hb dX12_claim_27 rfl (fun h => absurd h cq_eq_0_0) (fun _ => ?_)
        refine lv_iconst (v := (-1)) hx hb dX12_claim_30 kic_m1 ?_
        exact W.iret (v := (-1)) hx hb hr (fun t ht hW => ⟨(-1), rfl, (Or.inr ⟨by (first | omega | (have zz0 := Hid.u hi_cn; omega)), rfl⟩), ht⟩) (fun _ h => absurd h List.not_mem_nil) dX12_claim_31
    ·
      have h_4 : ¬ (0 ≤ v1.toInt ∧ v1.toInt ≤ 1000) := h_4
      refine lv_if_eq (tgt := 30) hx hb dX12_claim_16 rfl (fun _ => ?_) (fun h => absurd h cq_eq_0_0)
      refine lv_iconst (v := (-1)) hx hb dX12_claim_30 kic_m1 ?_
      exact W.iret (v := (-1)) hx hb hr (fun t ht hW => ⟨(-1), rfl, (Or.inr ⟨by (first | omega | (have zz0 := Hid.u hi_cn; omega)), rfl⟩), ht⟩) (fun _ h => absurd h List.not_mem_nil) dX12_claim_31
  ·
    have h_2 : ¬ (0 ≤ v0.toInt ∧ v0.toInt < ((cn 62) : Int)) := h_2
    refine lv_if_eq (tgt := 30) hx hb dX12_claim_5 rfl (fun _ => ?_) (fun h => absurd h cq_eq_0_0)
    refine lv_iconst (v := (-1)) hx hb dX12_claim_30 kic_m1 ?_
    exact W.iret (v := (-1)) hx hb hr (fun t ht hW => ⟨(-1), rfl, (Or.inr ⟨by (first | omega | (have zz0 := Hid.u hi_cn; omega)), rfl⟩), ht⟩) (fun _ h => absurd h List.not_mem_nil) dX12_claim_31
