

set_option maxRecDepth 100000 in
set_option maxHeartbeats 4000000 in
theorem q_Eprice (l : Launch) (D : va_G) (cI cB cZ : ClassId) (zz qq vv : Nat) (bt : Nat → Int32) (g : Nat → Nat) (ad : Nat → Nat → Nat) (cn : Nat → Nat) (In : Nat → Int32) (Fn : Nat → Nat → Int32) (v0 v1 : Int32) (sz : Nat) (hB : CBX cn) : Met l yX11_price (CWS yX11_price cX11_price 3 (some .boolean)) (RM 1 0 0) (PBx [.ref (g 0), .int v0, .int v1] D cI cB cZ zz qq vv bt (wX cI (D.1 99) zz g ad cn In Fn) sz) (va_Qi (fun (r : Int32) (u : (Nat → Nat) × (Nat → Int32) × (Nat → Nat → Int32)) => (fun r c2 I2 F2 => (∀ k : Nat, k ∉ [] → I2 k = In k) ∧ ((r = 1 ∧ (0 ≤ v0.toInt ∧ v0.toInt ≤ 57 ∧ 0 ≤ v1.toInt ∧ v1.toInt ≤ 1000) ∧ cn = c2 ∧ (va_up Fn 20 (upd (Fn 20) v0.toInt.toNat v1)) = F2) ∨ (r = 0 ∧ (¬ (0 ≤ v0.toInt ∧ v0.toInt ≤ 57 ∧ 0 ≤ v1.toInt ∧ v1.toInt ≤ 1000)) ∧ cn = c2 ∧ Fn = F2))) r u.1 u.2.1 u.2.2) (fun (u : (Nat → Nat) × (Nat → Int32) × (Nat → Nat → Int32)) (t : State) => va_P D vwCl (wX cI (D.1 99) zz g ad u.1 u.2.1 u.2.2) t.heap ∧ va_D (va_A (wX cI (D.1 99) zz g ad cn In Fn) sz) (wX cI (D.1 99) zz g ad u.1 u.2.1 u.2.2)) (va_A (wX cI (D.1 99) zz g ad cn In Fn) sz)) 0 0 (va_A (wX cI (D.1 99) zz g ad cn In Fn) sz) := by
  refine en_x (fun A => (va_Qi (fun (r : Int32) (u : (Nat → Nat) × (Nat → Int32) × (Nat → Nat → Int32)) => (fun (r : Int32) (c2 : Nat → Nat) (I2 : Nat → Int32) (F2 : Nat → Nat → Int32) => (∀ k : Nat, k ∉ [] → I2 k = In k) ∧ ((r = 1 ∧ (0 ≤ v0.toInt ∧ v0.toInt ≤ 57 ∧ 0 ≤ v1.toInt ∧ v1.toInt ≤ 1000) ∧ cn = c2 ∧ (va_up Fn 20 (upd (Fn 20) v0.toInt.toNat v1)) = F2) ∨ (r = 0 ∧ (¬ (0 ≤ v0.toInt ∧ v0.toInt ≤ 57 ∧ 0 ≤ v1.toInt ∧ v1.toInt ≤ 1000)) ∧ cn = c2 ∧ Fn = F2))) r u.1 u.2.1 u.2.2) (fun (u : (Nat → Nat) × (Nat → Int32) × (Nat → Nat → Int32)) (t : State) => va_P D vwCl (wX cI (D.1 99) zz g ad u.1 u.2.1 u.2.2) t.heap ∧ va_D A (wX cI (D.1 99) zz g ad u.1 u.2.1 u.2.2)) A)) rfl rfl pn_RX11 (Nat.le_of_ble_eq_true rfl) (fun p e s m below meth c A hx hb hml hown S hr hlocks hnm hA hP hK hD hXS hS ls hl => ?_)
  have hl : lv_has ls 3 [(0, .ref (g 0)), (1, .int v0), (2, .int v1)] := hl
  have hb_cn : Hid (CBX cn) := hB
  replace hB : CBXh cn := hB
  refine lv_aload_n hx hb (oc_42 0 shX11_price_0) rfl (lvA0 hl) ?_
  refine gf_RX11_47 S hK hP 0 xo_0 (v := .ref (g 8)) rfl (oc_180 1 (aq_1 shX11_price_0) uw_0_47) ?_
  refine gf_RX11_174 S hK hP 6 xo_6 (v := .ref (g 20)) rfl (oc_180 4 (aq_4 shX11_price_0) uw_0_174) ?_
  refine lv_iload_n hx hb (oc_27 7 (aq_7 shX11_price_0)) rfl (lvA1 hl) ?_
  refine lv_iload_n hx hb (oc_28 8 (aq_8 shX11_price_0)) rfl (lvA2 hl) ?_
  refine lv_iconst (v := 0) hx hb (oc_3 9 (aq_9 shX11_price_0)) kic_0 ?_
  refine lv_sipush (v := 1000) hx hb (oc_17 10 (aq_10 shX11_price_0) sgw_3_232) (by decide) ?_
  have hFc := va_free (wc := [((g 20), .inl (cI, 58, .inl (Fn 20)))]) hD hS hA [7] (one_im xo_7)
  refine va_calli (runS_w (As := [.ref (g 20), .int v0, .int v1, .int 0, .int 1000]) (rest := []) S (q_l_tell l D cI cB cZ (g 20) 58 (Fn 20) v0 v1 0 1000 s.heap.size (by (first | omega | (have zz0 := Hid.u hb_cn; omega)))) kS_RX11_177 hK hP hD [7] (one_is xo_7) (one_im xo_7) rfl ⟨Nat.le_of_ble_eq_true rfl, Nat.le_of_ble_eq_true rfl⟩ ⟨Nat.le_of_ble_eq_true rfl, Nat.le_of_ble_eq_true rfl⟩ rfl hl.1 rfl (Nat.le_of_ble_eq_true rfl) (oc_184 13 (aq_13 shX11_price_0) uw_0_177)) hS (fun q _ h => hFc q h) hFc (fun r_1 u_3 t H1 locs ht hvm h_2 hB1 hz1 hk1 hS => ?_)
  obtain ⟨hP1, hD1⟩ := hB1
  rw [ht] at hP1
  obtain ⟨hP, hD⟩ := wset1 hP hD xo_7 hk1 hP1
  rcases h_2 with ⟨rfl, h_2, rfl⟩ | ⟨rfl, h_2, rfl⟩
  ·
    have h_2 : 0 ≤ v0.toInt ∧ v0.toInt < (58 : Int) ∧ 0 ≤ v1.toInt ∧ v1.toInt ≤ 1000 := h_2
    generalize H1 = H at hP hS ⊢
    have hP : va_P D vwCl (wX cI (D.1 99) zz g ad cn In (va_up Fn 20 (upd (Fn 20) v0.toNatClampNeg v1))) H := va_P_eq xsa_7 hP
    have hD : va_D A (wX cI (D.1 99) zz g ad cn In (va_up Fn 20 (upd (Fn 20) v0.toNatClampNeg v1))) := va_D_eq xsa_7 hD
    exact W.zret (v := 1) hx hb hr rfl (fun t ht hW => ⟨⟨1, (cn, In, (va_up Fn 20 (upd (Fn 20) v0.toNatClampNeg v1))), rfl, ⟨(show Fr [] [] [20] cn In Fn cn In (va_up Fn 20 (upd (Fn 20) v0.toNatClampNeg v1)) from Fr.mo (Fr.f 20 (Fr.rf (cn := cn) (In := In) (Fn := Fn))) (sbl rfl) (sbl rfl) (sbl rfl)).2.1, (Or.inl ⟨rfl, (by first | trivial | (first | omega | (have zz0 := Hid.u hb_cn; omega)) | (simp only [zd0]; (first | omega | (have zz0 := Hid.u hb_cn; omega)))), (by first | rfl | simp only [zd0] | simp only [zd0, zd1]), (by first | rfl | simp only [zd0] | simp only [zd0, zd1])⟩)⟩, by rw [ht]; exact hP, hD⟩, hS.F ht⟩) hS.2.2 dX11_price_16
  ·
    have h_2 : ¬ (0 ≤ v0.toInt ∧ v0.toInt < (58 : Int) ∧ 0 ≤ v1.toInt ∧ v1.toInt ≤ 1000) := h_2
    generalize H1 = H at hP hS ⊢
    have hP : va_P D vwCl (wX cI (D.1 99) zz g ad cn In Fn) H := va_P_eq xsr_7 hP
    have hD : va_D A (wX cI (D.1 99) zz g ad cn In Fn) := va_D_eq xsr_7 hD
    exact W.zret (v := 0) hx hb hr rfl (fun t ht hW => ⟨⟨0, (cn, In, Fn), rfl, ⟨(show Fr [] [] [20] cn In Fn cn In Fn from Fr.mo (Fr.rf (cn := cn) (In := In) (Fn := Fn)) (sbl rfl) (sbl rfl) (sbl rfl)).2.1, (Or.inr ⟨rfl, (by first | trivial | (first | omega | (have zz0 := Hid.u hb_cn; omega)) | (simp only [zd0]; (first | omega | (have zz0 := Hid.u hb_cn; omega)))), (by first | rfl | simp only [zd0] | simp only [zd0, zd1]), (by first | rfl | simp only [zd0] | simp only [zd0, zd1])⟩)⟩, by rw [ht]; exact hP, hD⟩, hS.F ht⟩) hS.2.2 dX11_price_16
set_option maxRecDepth 100000 in
set_option maxHeartbeats 4000000 in
theorem q_Euse (l : Launch) (D : va_G) (cI cB cZ : ClassId) (zz qq vv : Nat) (bt : Nat → Int32) (g : Nat → Nat) (ad : Nat → Nat → Nat) (cn : Nat → Nat) (In : Nat → Int32) (Fn : Nat → Nat → Int32) (v0 v1 : Int32) (sz : Nat) (hB : CBX cn) : Met l yX11_use (CWS yX11_use cX11_use 3 (some .boolean)) (RM 1 0 0) (PBx [.ref (g 0), .int v0, .int v1] D cI cB cZ zz qq vv bt (wX cI (D.1 99) zz g ad cn In Fn) sz) (va_Qi (fun (r : Int32) (u : (Nat → Nat) × (Nat → Int32) × (Nat → Nat → Int32)) => (fun r c2 I2 F2 => (∀ k : Nat, k ∉ [] → I2 k = In k) ∧ ((r = 1 ∧ (0 ≤ v0.toInt ∧ v0.toInt ≤ 9 ∧ 0 ≤ v1.toInt ∧ v1.toInt ≤ 3) ∧ cn = c2 ∧ (va_up Fn 24 (upd (Fn 24) v0.toInt.toNat v1)) = F2) ∨ (r = 0 ∧ (¬ (0 ≤ v0.toInt ∧ v0.toInt ≤ 9 ∧ 0 ≤ v1.toInt ∧ v1.toInt ≤ 3)) ∧ cn = c2 ∧ Fn = F2))) r u.1 u.2.1 u.2.2) (fun (u : (Nat → Nat) × (Nat → Int32) × (Nat → Nat → Int32)) (t : State) => va_P D vwCl (wX cI (D.1 99) zz g ad u.1 u.2.1 u.2.2) t.heap ∧ va_D (va_A (wX cI (D.1 99) zz g ad cn In Fn) sz) (wX cI (D.1 99) zz g ad u.1 u.2.1 u.2.2)) (va_A (wX cI (D.1 99) zz g ad cn In Fn) sz)) 0 0 (va_A (wX cI (D.1 99) zz g ad cn In Fn) sz) := by
  refine en_x (fun A => (va_Qi (fun (r : Int32) (u : (Nat → Nat) × (Nat → Int32) × (Nat → Nat → Int32)) => (fun (r : Int32) (c2 : Nat → Nat) (I2 : Nat → Int32) (F2 : Nat → Nat → Int32) => (∀ k : Nat, k ∉ [] → I2 k = In k) ∧ ((r = 1 ∧ (0 ≤ v0.toInt ∧ v0.toInt ≤ 9 ∧ 0 ≤ v1.toInt ∧ v1.toInt ≤ 3) ∧ cn = c2 ∧ (va_up Fn 24 (upd (Fn 24) v0.toInt.toNat v1)) = F2) ∨ (r = 0 ∧ (¬ (0 ≤ v0.toInt ∧ v0.toInt ≤ 9 ∧ 0 ≤ v1.toInt ∧ v1.toInt ≤ 3)) ∧ cn = c2 ∧ Fn = F2))) r u.1 u.2.1 u.2.2) (fun (u : (Nat → Nat) × (Nat → Int32) × (Nat → Nat → Int32)) (t : State) => va_P D vwCl (wX cI (D.1 99) zz g ad u.1 u.2.1 u.2.2) t.heap ∧ va_D A (wX cI (D.1 99) zz g ad u.1 u.2.1 u.2.2)) A)) rfl rfl pn_RX11 (Nat.le_of_ble_eq_true rfl) (fun p e s m below meth c A hx hb hml hown S hr hlocks hnm hA hP hK hD hXS hS ls hl => ?_)
  have hl : lv_has ls 3 [(0, .ref (g 0)), (1, .int v0), (2, .int v1)] := hl
  have hb_cn : Hid (CBX cn) := hB
  replace hB : CBXh cn := hB
  refine lv_aload_n hx hb (oc_42 0 shX11_use_0) rfl (lvA0 hl) ?_
  refine gf_RX11_47 S hK hP 0 xo_0 (v := .ref (g 8)) rfl (oc_180 1 (aq_1 shX11_use_0) uw_0_47) ?_
  refine gf_RX11_426 S hK hP 6 xo_6 (v := .ref (g 24)) rfl (oc_180 4 (aq_4 shX11_use_0) uw_1_170) ?_
  refine lv_iload_n hx hb (oc_27 7 (aq_7 shX11_use_0)) rfl (lvA1 hl) ?_
  refine lv_iload_n hx hb (oc_28 8 (aq_8 shX11_use_0)) rfl (lvA2 hl) ?_
  refine lv_iconst (v := 0) hx hb (oc_3 9 (aq_9 shX11_use_0)) kic_0 ?_
  refine lv_iconst (v := 3) hx hb (oc_6 10 (aq_10 shX11_use_0)) kic_3 ?_
  have hFc := va_free (wc := [((g 24), .inl (cI, 10, .inl (Fn 24)))]) hD hS hA [11] (one_im xo_11)
  refine va_calli (runS_w (As := [.ref (g 24), .int v0, .int v1, .int 0, .int 3]) (rest := []) S (q_l_tell l D cI cB cZ (g 24) 10 (Fn 24) v0 v1 0 3 s.heap.size (by (first | omega | (have zz0 := Hid.u hb_cn; omega)))) kS_RX11_177 hK hP hD [11] (one_is xo_11) (one_im xo_11) rfl ⟨Nat.le_of_ble_eq_true rfl, Nat.le_of_ble_eq_true rfl⟩ ⟨Nat.le_of_ble_eq_true rfl, Nat.le_of_ble_eq_true rfl⟩ rfl hl.1 rfl (Nat.le_of_ble_eq_true rfl) (oc_184 11 (aq_11 shX11_use_0) uw_0_177)) hS (fun q _ h => hFc q h) hFc (fun r_1 u_3 t H1 locs ht hvm h_2 hB1 hz1 hk1 hS => ?_)
  obtain ⟨hP1, hD1⟩ := hB1
  rw [ht] at hP1
  obtain ⟨hP, hD⟩ := wset1 hP hD xo_11 hk1 hP1
  rcases h_2 with ⟨rfl, h_2, rfl⟩ | ⟨rfl, h_2, rfl⟩
  ·
    have h_2 : 0 ≤ v0.toInt ∧ v0.toInt < (10 : Int) ∧ 0 ≤ v1.toInt ∧ v1.toInt ≤ 3 := h_2
    generalize H1 = H at hP hS ⊢
    have hP : va_P D vwCl (wX cI (D.1 99) zz g ad cn In (va_up Fn 24 (upd (Fn 24) v0.toNatClampNeg v1))) H := va_P_eq xsa_11 hP
    have hD : va_D A (wX cI (D.1 99) zz g ad cn In (va_up Fn 24 (upd (Fn 24) v0.toNatClampNeg v1))) := va_D_eq xsa_11 hD
    exact W.zret (v := 1) hx hb hr rfl (fun t ht hW => ⟨⟨1, (cn, In, (va_up Fn 24 (upd (Fn 24) v0.toNatClampNeg v1))), rfl, ⟨(show Fr [] [] [24] cn In Fn cn In (va_up Fn 24 (upd (Fn 24) v0.toNatClampNeg v1)) from Fr.mo (Fr.f 24 (Fr.rf (cn := cn) (In := In) (Fn := Fn))) (sbl rfl) (sbl rfl) (sbl rfl)).2.1, (Or.inl ⟨rfl, (by first | trivial | (first | omega | (have zz0 := Hid.u hb_cn; omega)) | (simp only [zd0]; (first | omega | (have zz0 := Hid.u hb_cn; omega)))), (by first | rfl | simp only [zd0] | simp only [zd0, zd1]), (by first | rfl | simp only [zd0] | simp only [zd0, zd1])⟩)⟩, by rw [ht]; exact hP, hD⟩, hS.F ht⟩) hS.2.2 dX11_use_14
  ·
    have h_2 : ¬ (0 ≤ v0.toInt ∧ v0.toInt < (10 : Int) ∧ 0 ≤ v1.toInt ∧ v1.toInt ≤ 3) := h_2
    generalize H1 = H at hP hS ⊢
    have hP : va_P D vwCl (wX cI (D.1 99) zz g ad cn In Fn) H := va_P_eq xsr_11 hP
    have hD : va_D A (wX cI (D.1 99) zz g ad cn In Fn) := va_D_eq xsr_11 hD
    exact W.zret (v := 0) hx hb hr rfl (fun t ht hW => ⟨⟨0, (cn, In, Fn), rfl, ⟨(show Fr [] [] [24] cn In Fn cn In Fn from Fr.mo (Fr.rf (cn := cn) (In := In) (Fn := Fn)) (sbl rfl) (sbl rfl) (sbl rfl)).2.1, (Or.inr ⟨rfl, (by first | trivial | (first | omega | (have zz0 := Hid.u hb_cn; omega)) | (simp only [zd0]; (first | omega | (have zz0 := Hid.u hb_cn; omega)))), (by first | rfl | simp only [zd0] | simp only [zd0, zd1]), (by first | rfl | simp only [zd0] | simp only [zd0, zd1])⟩)⟩, by rw [ht]; exact hP, hD⟩, hS.F ht⟩) hS.2.2 dX11_use_14
set_option maxRecDepth 100000 in
set_option maxHeartbeats 4000000 in
theorem q_Erate (l : Launch) (D : va_G) (cI cB cZ : ClassId) (zz qq vv : Nat) (bt : Nat → Int32) (g : Nat → Nat) (ad : Nat → Nat → Nat) (cn : Nat → Nat) (In : Nat → Int32) (Fn : Nat → Nat → Int32) (v0 v1 v2 : Int32) (sz : Nat) (hB : CBX cn) : Met l yX11_rate (CWS yX11_rate cX11_rate 5 (some .boolean)) (RM 1 0 0) (PBx [.ref (g 0), .int v0, .int v1, .int v2] D cI cB cZ zz qq vv bt (wX cI (D.1 99) zz g ad cn In Fn) sz) (va_Qi (fun (r : Int32) (u : (Nat → Nat) × (Nat → Int32) × (Nat → Nat → Int32)) => (fun r c2 I2 F2 => (∀ k : Nat, k ∉ [] → I2 k = In k) ∧ ((r = 1 ∧ (0 ≤ v0.toInt ∧ v0.toInt ≤ 3 ∧ 0 ≤ v1.toInt ∧ v1.toInt ≤ 57 ∧ 0 ≤ v2.toInt ∧ v2.toInt ≤ 1000) ∧ cn = c2 ∧ (va_up Fn 26 (upd (Fn 26) (v0.toInt.toNat * 58 + v1.toInt.toNat) v2)) = F2) ∨ (r = 0 ∧ (¬ (0 ≤ v0.toInt ∧ v0.toInt ≤ 3 ∧ 0 ≤ v1.toInt ∧ v1.toInt ≤ 57 ∧ 0 ≤ v2.toInt ∧ v2.toInt ≤ 1000)) ∧ cn = c2 ∧ Fn = F2))) r u.1 u.2.1 u.2.2) (fun (u : (Nat → Nat) × (Nat → Int32) × (Nat → Nat → Int32)) (t : State) => va_P D vwCl (wX cI (D.1 99) zz g ad u.1 u.2.1 u.2.2) t.heap ∧ va_D (va_A (wX cI (D.1 99) zz g ad cn In Fn) sz) (wX cI (D.1 99) zz g ad u.1 u.2.1 u.2.2)) (va_A (wX cI (D.1 99) zz g ad cn In Fn) sz)) 0 0 (va_A (wX cI (D.1 99) zz g ad cn In Fn) sz) := by
  refine en_x (fun A => (va_Qi (fun (r : Int32) (u : (Nat → Nat) × (Nat → Int32) × (Nat → Nat → Int32)) => (fun (r : Int32) (c2 : Nat → Nat) (I2 : Nat → Int32) (F2 : Nat → Nat → Int32) => (∀ k : Nat, k ∉ [] → I2 k = In k) ∧ ((r = 1 ∧ (0 ≤ v0.toInt ∧ v0.toInt ≤ 3 ∧ 0 ≤ v1.toInt ∧ v1.toInt ≤ 57 ∧ 0 ≤ v2.toInt ∧ v2.toInt ≤ 1000) ∧ cn = c2 ∧ (va_up Fn 26 (upd (Fn 26) (v0.toInt.toNat * 58 + v1.toInt.toNat) v2)) = F2) ∨ (r = 0 ∧ (¬ (0 ≤ v0.toInt ∧ v0.toInt ≤ 3 ∧ 0 ≤ v1.toInt ∧ v1.toInt ≤ 57 ∧ 0 ≤ v2.toInt ∧ v2.toInt ≤ 1000)) ∧ cn = c2 ∧ Fn = F2))) r u.1 u.2.1 u.2.2) (fun (u : (Nat → Nat) × (Nat → Int32) × (Nat → Nat → Int32)) (t : State) => va_P D vwCl (wX cI (D.1 99) zz g ad u.1 u.2.1 u.2.2) t.heap ∧ va_D A (wX cI (D.1 99) zz g ad u.1 u.2.1 u.2.2)) A)) rfl rfl pn_RX11 (Nat.le_of_ble_eq_true rfl) (fun p e s m below meth c A hx hb hml hown S hr hlocks hnm hA hP hK hD hXS hS ls hl => ?_)
  have hl : lv_has ls 5 [(0, .ref (g 0)), (1, .int v0), (2, .int v1), (3, .int v2)] := hl
  have hb_cn : Hid (CBX cn) := hB
  replace hB : CBXh cn := hB
  refine lv_iload_n hx hb (oc_27 0 shX11_rate_0) rfl (lvA1 hl) ?_
  refine lv_iconst (v := 0) hx hb (oc_3 1 (aq_1 shX11_rate_0)) kic_0 ?_
  refine lv_iconst (v := 3) hx hb (oc_6 2 (aq_2 shX11_rate_0)) kic_3 ?_
  refine vp_callSi (runS_r (As := [.int v0, .int 0, .int 3]) (rest := []) S (q_l_within l D cI cB cZ v0 0 3) kS_RX11_80 hK hP [] rfl ⟨Nat.le_of_ble_eq_true rfl, Nat.le_of_ble_eq_true rfl⟩ ⟨Nat.le_of_ble_eq_true rfl, Nat.le_of_ble_eq_true rfl⟩ rfl hl.1 rfl (Nat.le_of_ble_eq_true rfl) (oc_184 3 (aq_3 shX11_rate_0) uw_0_80)) (fun r_1 h_2 => ?_)
  rcases h_2 with ⟨rfl, h_2⟩ | ⟨rfl, h_2⟩
  ·
    have h_2 : 0 ≤ v0.toInt ∧ v0.toInt ≤ 3 := h_2
    refine lv_if_eq (tgt := 23) hx hb dX11_rate_6 rfl (fun h => absurd h cq_eq_1_0) (fun _ => ?_)
    refine lv_iload_n hx hb (oc_28 9 (aq_9 shX11_rate_0)) rfl (lvA2 hl) ?_
    refine lv_iconst (v := 0) hx hb (oc_3 10 (aq_10 shX11_rate_0)) kic_0 ?_
    refine lv_bipush (v := 57) hx hb (oc_16 11 (aq_11 shX11_rate_0) sgb_57) kbc_57 ?_
    refine vp_callSi (runS_r (As := [.int v1, .int 0, .int 57]) (rest := []) S (q_l_within l D cI cB cZ v1 0 57) kS_RX11_80 hK hP [] rfl ⟨Nat.le_of_ble_eq_true rfl, Nat.le_of_ble_eq_true rfl⟩ ⟨Nat.le_of_ble_eq_true rfl, Nat.le_of_ble_eq_true rfl⟩ rfl hl.1 rfl (Nat.le_of_ble_eq_true rfl) (oc_184 13 (aq_13 shX11_rate_0) uw_0_80)) (fun r_3 h_4 => ?_)
    rcases h_4 with ⟨rfl, h_4⟩ | ⟨rfl, h_4⟩
    ·
      have h_4 : 0 ≤ v1.toInt ∧ v1.toInt ≤ 57 := h_4
      refine lv_if_eq (tgt := 23) hx hb dX11_rate_16 rfl (fun h => absurd h cq_eq_1_0) (fun _ => ?_)
      refine lv_iconst (v := 1) hx hb (oc_4 19 (aq_19 shX11_rate_0)) kic_1 ?_
      refine lv_goto (tgt := 24) hx hb (oc_167 20 (aq_20 shX11_rate_0) sgw_0_4) rfl ?_
      refine lv_istore (lv' := [(4, .int 1), (0, .ref (g 0)), (1, .int v0), (2, .int v1), (3, .int v2)]) hx hb dX11_rate_24 hl (ltb rfl) rfl (fun ls hl => ?_)
      refine lv_iload hx hb dX11_rate_26 (lvA0 hl) ?_
      refine lv_if_eq (tgt := 59) hx hb dX11_rate_28 rfl (fun h => absurd h cq_eq_1_0) (fun _ => ?_)
      obtain ⟨d0, hd0, rfl⟩ := nI_of (x := v0) (fun q => by have := Int32.lt_iff_toInt_lt.mp q; have e : (0 : Int32).toInt = 0 := rfl; (first | omega | (have zz0 := Hid.u hb_cn; omega)))
      have td0 : (nI d0).toInt = (d0 : Int) := nI_toInt hd0
      have zd0 : (nI d0).toInt.toNat = d0 := by (first | omega | (have zz0 := Hid.u hb_cn; omega))
      obtain ⟨d1, hd1, rfl⟩ := nI_of (x := v1) (fun q => by have := Int32.lt_iff_toInt_lt.mp q; have e : (0 : Int32).toInt = 0 := rfl; (first | omega | (have zz0 := Hid.u hb_cn; omega)))
      have td1 : (nI d1).toInt = (d1 : Int) := nI_toInt hd1
      have zd1 : (nI d1).toInt.toNat = d1 := by (first | omega | (have zz0 := Hid.u hb_cn; omega))
      refine lv_aload_n hx hb (oc_42 31 (aq_7 shX11_rate_24)) rfl (lvA1 hl) ?_
      refine gf_RX11_47 S hK hP 0 xo_0 (v := .ref (g 8)) rfl (oc_180 32 (aq_8 shX11_rate_24) uw_0_47) ?_
      refine gf_RX11_429 S hK hP 6 xo_6 (v := .ref (g 26)) rfl (oc_180 35 (aq_11 shX11_rate_24) uw_1_173) ?_
      refine lv_iload_n hx hb (oc_27 38 (aq_14 shX11_rate_24)) rfl (lvA2 hl) ?_
      refine lv_bipush (v := 58) hx hb (oc_16 39 (aq_15 shX11_rate_24) sgb_58) kbc_58 ?_
      refine lv_imul hx hb (oc_104 41 (aq_17 shX11_rate_24)) ?_
      refine lv_topi (fun y_5 ey_5 => ?_)
      obtain rfl : y_5 = (nI (d0 * 58)) := ey_5.trans (pk_mul d0 58)
      refine lv_iload_n hx hb (oc_28 42 (aq_18 shX11_rate_24)) rfl (lvA3 hl) ?_
      refine lv_iadd hx hb (oc_96 43 (aq_19 shX11_rate_24)) ?_
      refine lv_topi (fun y_6 ey_6 => ?_)
      obtain rfl : y_6 = (nI ((d0 * 58) + d1)) := ey_6.trans (nI_add (d0 * 58) d1)
      refine lv_iload_n hx hb (oc_29 44 (aq_20 shX11_rate_24)) rfl (lvA4 hl) ?_
      have ti9 : (nI ((d0 * 58) + d1)).toInt = ((d0 * 58 + d1 : Nat) : Int) := nI_toInt (by (first | omega | (have zz0 := Hid.u hb_cn; omega)))
      refine lv_iconst (v := 0) hx hb (oc_3 45 (aq_21 shX11_rate_24)) kic_0 ?_
      refine lv_sipush (v := 1000) hx hb (oc_17 46 (aq_22 shX11_rate_24) sgw_3_232) (by decide) ?_
      have hFc := va_free (wc := [((g 26), .inl (cI, 232, .inl (Fn 26)))]) hD hS hA [13] (one_im xo_13)
      refine va_calli (runS_w (As := [.ref (g 26), .int (nI ((d0 * 58) + d1)), .int v2, .int 0, .int 1000]) (rest := []) S (q_l_tell l D cI cB cZ (g 26) 232 (Fn 26) (nI ((d0 * 58) + d1)) v2 0 1000 s.heap.size (by (first | omega | (have zz0 := Hid.u hb_cn; omega)))) kS_RX11_177 hK hP hD [13] (one_is xo_13) (one_im xo_13) rfl ⟨Nat.le_of_ble_eq_true rfl, Nat.le_of_ble_eq_true rfl⟩ ⟨Nat.le_of_ble_eq_true rfl, Nat.le_of_ble_eq_true rfl⟩ rfl hl.1 rfl (Nat.le_of_ble_eq_true rfl) (oc_184 49 shX11_rate_49 uw_0_177)) hS (fun q _ h => hFc q h) hFc (fun r_7 u_9 t H1 locs ht hvm h_8 hB1 hz1 hk1 hS => ?_)
      obtain ⟨hP1, hD1⟩ := hB1
      rw [ht] at hP1
      obtain ⟨hP, hD⟩ := wset1 hP hD xo_13 hk1 hP1
      rcases h_8 with ⟨rfl, h_8, rfl⟩ | ⟨rfl, h_8, rfl⟩
      ·
        have h_8 : 0 ≤ (nI ((d0 * 58) + d1)).toInt ∧ (nI ((d0 * 58) + d1)).toInt < (232 : Int) ∧ 0 ≤ v2.toInt ∧ v2.toInt ≤ 1000 := h_8
        generalize H1 = H at hP hS ⊢
        have hP : va_P D vwCl (wX cI (D.1 99) zz g ad cn In (va_up Fn 26 (upd (Fn 26) (nI ((d0 * 58) + d1)).toNatClampNeg v2))) H := va_P_eq xsa_13 hP
        have hD : va_D A (wX cI (D.1 99) zz g ad cn In (va_up Fn 26 (upd (Fn 26) (nI ((d0 * 58) + d1)).toNatClampNeg v2))) := va_D_eq xsa_13 hD
        refine lv_if_eq (tgt := 59) hx hb dX11_rate_52 rfl (fun h => absurd h cq_eq_1_0) (fun _ => ?_)
        refine lv_iconst (v := 1) hx hb (oc_4 55 (aq_6 shX11_rate_49)) kic_1 ?_
        refine lv_goto (tgt := 60) hx hb (oc_167 56 (aq_7 shX11_rate_49) sgw_0_4) rfl ?_
        exact W.zret (v := 1) hx hb hr rfl (fun t ht hW => ⟨⟨1, (cn, In, (va_up Fn 26 (upd (Fn 26) (nI ((d0 * 58) + d1)).toNatClampNeg v2))), rfl, ⟨(show Fr [] [] [26] cn In Fn cn In (va_up Fn 26 (upd (Fn 26) (nI ((d0 * 58) + d1)).toNatClampNeg v2)) from Fr.mo (Fr.f 26 (Fr.rf (cn := cn) (In := In) (Fn := Fn))) (sbl rfl) (sbl rfl) (sbl rfl)).2.1, (Or.inl ⟨rfl, (by first | trivial | (first | omega | (have zz0 := Hid.u hb_cn; omega)) | (simp only [zd0]; (first | omega | (have zz0 := Hid.u hb_cn; omega)))), (by first | rfl | (simp only [zd0]; done) | (simp only [zd0, zd1]; done) | (simp only [zd0, zd1]; rw [nI_clamp (by (first | omega | (have zz0 := Hid.u hb_cn; omega)))])), (by first | rfl | (simp only [zd0]; done) | (simp only [zd0, zd1]; done) | (simp only [zd0, zd1]; rw [nI_clamp (by (first | omega | (have zz0 := Hid.u hb_cn; omega)))]))⟩)⟩, by rw [ht]; exact hP, hD⟩, hS.F ht⟩) hS.2.2 dX11_rate_60
      ·
        have h_8 : ¬ (0 ≤ (nI ((d0 * 58) + d1)).toInt ∧ (nI ((d0 * 58) + d1)).toInt < (232 : Int) ∧ 0 ≤ v2.toInt ∧ v2.toInt ≤ 1000) := h_8
        generalize H1 = H at hP hS ⊢
        have hP : va_P D vwCl (wX cI (D.1 99) zz g ad cn In Fn) H := va_P_eq xsr_13 hP
        have hD : va_D A (wX cI (D.1 99) zz g ad cn In Fn) := va_D_eq xsr_13 hD
        refine lv_if_eq (tgt := 59) hx hb dX11_rate_52 rfl (fun _ => ?_) (fun h => absurd h cq_eq_0_0)
        refine lv_iconst (v := 0) hx hb dX11_rate_59 kic_0 ?_
        exact W.zret (v := 0) hx hb hr rfl (fun t ht hW => ⟨⟨0, (cn, In, Fn), rfl, ⟨(show Fr [] [] [26] cn In Fn cn In Fn from Fr.mo (Fr.rf (cn := cn) (In := In) (Fn := Fn)) (sbl rfl) (sbl rfl) (sbl rfl)).2.1, (Or.inr ⟨rfl, (by first | trivial | (first | omega | (have zz0 := Hid.u hb_cn; omega)) | (simp only [zd0]; (first | omega | (have zz0 := Hid.u hb_cn; omega)))), (by first | rfl | (simp only [zd0]; done) | (simp only [zd0, zd1]; done) | (simp only [zd0, zd1]; rw [nI_clamp (by (first | omega | (have zz0 := Hid.u hb_cn; omega)))])), (by first | rfl | (simp only [zd0]; done) | (simp only [zd0, zd1]; done) | (simp only [zd0, zd1]; rw [nI_clamp (by (first | omega | (have zz0 := Hid.u hb_cn; omega)))]))⟩)⟩, by rw [ht]; exact hP, hD⟩, hS.F ht⟩) hS.2.2 dX11_rate_60
    ·
      have h_4 : ¬ (0 ≤ v1.toInt ∧ v1.toInt ≤ 57) := h_4
      refine lv_if_eq (tgt := 23) hx hb dX11_rate_16 rfl (fun _ => ?_) (fun h => absurd h cq_eq_0_0)
      refine lv_iconst (v := 0) hx hb dX11_rate_23 kic_0 ?_
      refine lv_istore (lv' := [(4, .int 0), (0, .ref (g 0)), (1, .int v0), (2, .int v1), (3, .int v2)]) hx hb dX11_rate_24 hl (ltb rfl) rfl (fun ls hl => ?_)
      refine lv_iload hx hb dX11_rate_26 (lvA0 hl) ?_
      refine lv_if_eq (tgt := 59) hx hb dX11_rate_28 rfl (fun _ => ?_) (fun h => absurd h cq_eq_0_0)
      refine lv_iconst (v := 0) hx hb dX11_rate_59 kic_0 ?_
      exact W.zret (v := 0) hx hb hr rfl (fun t ht hW => ⟨⟨0, (cn, In, Fn), rfl, ⟨(show Fr [] [] [26] cn In Fn cn In Fn from Fr.mo (Fr.rf (cn := cn) (In := In) (Fn := Fn)) (sbl rfl) (sbl rfl) (sbl rfl)).2.1, (Or.inr ⟨rfl, (by first | trivial | (first | omega | (have zz0 := Hid.u hb_cn; omega)) | (simp only [zd0]; (first | omega | (have zz0 := Hid.u hb_cn; omega)))), (by first | rfl | (simp only [zd0]; done) | (simp only [zd0, zd1]; done) | (simp only [zd0, zd1]; rw [nI_clamp (by (first | omega | (have zz0 := Hid.u hb_cn; omega)))])), (by first | rfl | (simp only [zd0]; done) | (simp only [zd0, zd1]; done) | (simp only [zd0, zd1]; rw [nI_clamp (by (first | omega | (have zz0 := Hid.u hb_cn; omega)))]))⟩)⟩, by rw [ht]; exact hP, hD⟩, hS.F ht⟩) hS.2.2 dX11_rate_60
  ·
    have h_2 : ¬ (0 ≤ v0.toInt ∧ v0.toInt ≤ 3) := h_2
    refine lv_if_eq (tgt := 23) hx hb dX11_rate_6 rfl (fun _ => ?_) (fun h => absurd h cq_eq_0_0)
    refine lv_iconst (v := 0) hx hb dX11_rate_23 kic_0 ?_
    refine lv_istore (lv' := [(4, .int 0), (0, .ref (g 0)), (1, .int v0), (2, .int v1), (3, .int v2)]) hx hb dX11_rate_24 hl (ltb rfl) rfl (fun ls hl => ?_)
    refine lv_iload hx hb dX11_rate_26 (lvA0 hl) ?_
    refine lv_if_eq (tgt := 59) hx hb dX11_rate_28 rfl (fun _ => ?_) (fun h => absurd h cq_eq_0_0)
    refine lv_iconst (v := 0) hx hb dX11_rate_59 kic_0 ?_
    exact W.zret (v := 0) hx hb hr rfl (fun t ht hW => ⟨⟨0, (cn, In, Fn), rfl, ⟨(show Fr [] [] [26] cn In Fn cn In Fn from Fr.mo (Fr.rf (cn := cn) (In := In) (Fn := Fn)) (sbl rfl) (sbl rfl) (sbl rfl)).2.1, (Or.inr ⟨rfl, (by first | trivial | (first | omega | (have zz0 := Hid.u hb_cn; omega)) | (simp only [zd0]; (first | omega | (have zz0 := Hid.u hb_cn; omega)))), (by first | rfl | (simp only [zd0]; done) | (simp only [zd0, zd1]; done) | (simp only [zd0, zd1]; rw [nI_clamp (by (first | omega | (have zz0 := Hid.u hb_cn; omega)))])), (by first | rfl | (simp only [zd0]; done) | (simp only [zd0, zd1]; done) | (simp only [zd0, zd1]; rw [nI_clamp (by (first | omega | (have zz0 := Hid.u hb_cn; omega)))]))⟩)⟩, by rw [ht]; exact hP, hD⟩, hS.F ht⟩) hS.2.2 dX11_rate_60
