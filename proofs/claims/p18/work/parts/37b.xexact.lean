

set_option maxRecDepth 100000 in
set_option maxHeartbeats 4000000 in
theorem q_Eprice (l : Launch) (D : va_G) (cI cB cZ : ClassId) (zz qq vv : Nat) (bt : Nat → Int32) (g : Nat → Nat) (ad : Nat → Nat → Nat) (cn : Nat → Nat) (In : Nat → Int32) (Fn : Nat → Nat → Int32) (v0 v1 : Int32) (sz : Nat) (hB : CBX cn) : Met l yX11_price (CWS yX11_price cX11_price 3 (some .boolean)) (RM 1 0 0) (PBx [.ref (g 0), .int v0, .int v1] D cI cB cZ zz qq vv bt (wX cI (D.1 99) zz g ad cn In Fn) sz) (va_Qi (fun (r : Int32) (u : (Nat → Nat) × (Nat → Int32) × (Nat → Nat → Int32)) => (fun r c2 I2 F2 => (∀ k : Nat, k ∉ [] → I2 k = In k) ∧ ((r = 1 ∧ (0 ≤ v0.toInt ∧ v0.toInt ≤ 57 ∧ 0 ≤ v1.toInt ∧ v1.toInt ≤ 1000) ∧ cn = c2 ∧ (va_up Fn 20 (upd (Fn 20) v0.toInt.toNat v1)) = F2) ∨ (r = 0 ∧ (¬ (0 ≤ v0.toInt ∧ v0.toInt ≤ 57 ∧ 0 ≤ v1.toInt ∧ v1.toInt ≤ 1000)) ∧ cn = c2 ∧ Fn = F2))) r u.1 u.2.1 u.2.2) (fun (u : (Nat → Nat) × (Nat → Int32) × (Nat → Nat → Int32)) (t : State) => va_P D vwCl (wX cI (D.1 99) zz g ad u.1 u.2.1 u.2.2) t.heap ∧ va_D (va_A (wX cI (D.1 99) zz g ad cn In Fn) sz) (wX cI (D.1 99) zz g ad u.1 u.2.1 u.2.2)) (va_A (wX cI (D.1 99) zz g ad cn In Fn) sz)) 0 0 (va_A (wX cI (D.1 99) zz g ad cn In Fn) sz) := by
  refine en_x (fun A => (va_Qi (fun (r : Int32) (u : (Nat → Nat) × (Nat → Int32) × (Nat → Nat → Int32)) => (fun (r : Int32) (c2 : Nat → Nat) (I2 : Nat → Int32) (F2 : Nat → Nat → Int32) => (∀ k : Nat, k ∉ [] → I2 k = In k) ∧ ((r = 1 ∧ (0 ≤ v0.toInt ∧ v0.toInt ≤ 57 ∧ 0 ≤ v1.toInt ∧ v1.toInt ≤ 1000) ∧ cn = c2 ∧ (va_up Fn 20 (upd (Fn 20) v0.toInt.toNat v1)) = F2) ∨ (r = 0 ∧ (¬ (0 ≤ v0.toInt ∧ v0.toInt ≤ 57 ∧ 0 ≤ v1.toInt ∧ v1.toInt ≤ 1000)) ∧ cn = c2 ∧ Fn = F2))) r u.1 u.2.1 u.2.2) (fun (u : (Nat → Nat) × (Nat → Int32) × (Nat → Nat → Int32)) (t : State) => va_P D vwCl (wX cI (D.1 99) zz g ad u.1 u.2.1 u.2.2) t.heap ∧ va_D A (wX cI (D.1 99) zz g ad u.1 u.2.1 u.2.2)) A)) rfl rfl pn_RX11 (Nat.le_of_ble_eq_true rfl) (fun p e s m below meth c A hx hb hml hown S hr hlocks hnm hA hP hK hD hXS hS ls hl => ?_)
  have hl : lv_has ls 3 [(0, .ref (g 0)), (1, .int v0), (2, .int v1)] := hl
  have hb_cn : Hid (CBX cn) := hB
  replace hB : CBXh cn := hB
  refine lv_aload_n hx hb (oc_42 0 shX11_price_0) rfl (lvA0 hl) ?_
  refine gf_RX11_47 S hK hP 0 xo_0 (v := .ref (g 8)) rfl (oc_180 1 (aq_1 shX11_price_0) uw_0_47) ?_
  refine gf_RX11_174 S hK hP 6 xo_6 (v := .ref (g 20)) rfl (oc_180 4 (aq_4 shX11_price_0) uw_0_174) ?_
  refine lv_iload_n hx hb (oc_27 7 (aq_7 shX11_price_0)) rfl (lvA1 hl) ?_
  refine lv_iload_n hx hb (oc_28 8 (aq_8 shX11_price_0)) rfl (lvA2 hl) ?_
  refine lv_iconst (v := 0) hx hb (oc_3 9 (aq_9 shX11_price_0)) kic_0 ?_
  refine lv_sipush (v := 1000) hx hb (oc_17 10 (aq_10 shX11_price_0) sgw_3_232) (by decide) ?_
  have hFc := va_free (wc := [((g 20), .inl (cI, 58, .inl (Fn 20)))]) hD hS hA [7] (one_im xo_7)
  refine va_calli (runS_w (As := [.ref (g 20), .int v0, .int v1, .int 0, .int 1000]) (rest := []) S (q_l_tell l D cI cB cZ (g 20) 58 (Fn 20) v0 v1 0 1000 s.heap.size (by (first | omega | (have zz0 := Hid.u hb_cn; omega)))) kS_RX11_177 hK hP hD [7] (one_is xo_7) (one_im xo_7) rfl ⟨Nat.le_of_ble_eq_true rfl, Nat.le_of_ble_eq_true rfl⟩ ⟨Nat.le_of_ble_eq_true rfl, Nat.le_of_ble_eq_true rfl⟩ rfl hl.1 rfl (Nat.le_of_ble_eq_true rfl) (oc_184 13 (aq_13 shX11_price_0) uw_0_177)) hS (fun q _ h => hFc q h) hFc (fun r_1 u_3 t H1 locs ht hvm h_2 hB1 hz1 hk1 hS => ?_)
  obtain ⟨hP1, hD1⟩ := hB1
  rw [ht] at hP1
  obtain ⟨hP, hD⟩ := wset1 hP hD xo_7 hk1 hP1
  rcases h_2 with ⟨rfl, h_2, rfl⟩ | ⟨rfl, h_2, rfl⟩
  ·
    have h_2 : 0 ≤ v0.toInt ∧ v0.toInt < (58 : Int) ∧ 0 ≤ v1.toInt ∧ v1.toInt ≤ 1000 := h_2
    generalize H1 = H at hP hS ⊢
    have hP : va_P D vwCl (wX cI (D.1 99) zz g ad cn In (va_up Fn 20 (upd (Fn 20) v0.toNatClampNeg v1))) H := va_P_eq xsa_7 hP
    have hD : va_D A (wX cI (D.1 99) zz g ad cn In (va_up Fn 20 (upd (Fn 20) v0.toNatClampNeg v1))) := va_D_eq xsa_7 hD
    exact W.zret (v := 1) hx hb hr rfl (fun t ht hW => ⟨⟨1, (cn, In, (va_up Fn 20 (upd (Fn 20) v0.toNatClampNeg v1))), rfl, ⟨(show Fr [] [] [20] cn In Fn cn In (va_up Fn 20 (upd (Fn 20) v0.toNatClampNeg v1)) from Fr.mo (Fr.f 20 (Fr.rf (cn := cn) (In := In) (Fn := Fn))) (sbl rfl) (sbl rfl) (sbl rfl)).2.1, (Or.inl ⟨rfl, (by first | trivial | (first | omega | (have zz0 := Hid.u hb_cn; omega)) | (simp only [zd0]; (first | omega | (have zz0 := Hid.u hb_cn; omega)))), (by first | rfl | simp only [zd0] | simp only [zd0, zd1]), (by first | rfl | simp only [zd0] | simp only [zd0, zd1])⟩)⟩, by rw [ht]; exact hP, hD⟩, hS.F ht⟩) hS.2.2 dX11_price_16
  ·
    have h_2 : ¬ (0 ≤ v0.toInt ∧ v0.toInt < (58 : Int) ∧ 0 ≤ v1.toInt ∧ v1.toInt ≤ 1000) := h_2
    generalize H1 = H at hP hS ⊢
    have hP : va_P D vwCl (wX cI (D.1 99) zz g ad cn In Fn) H := va_P_eq xsr_7 hP
    have hD : va_D A (wX cI (D.1 99) zz g ad cn In Fn) := va_D_eq xsr_7 hD
    exact W.zret (v := 0) hx hb hr rfl (fun t ht hW => ⟨⟨0, (cn, In, Fn), rfl, ⟨(show Fr [] [] [20] cn In Fn cn In Fn from Fr.mo (Fr.rf (cn := cn) (In := In) (Fn := Fn)) (sbl rfl) (sbl rfl) (sbl rfl)).2.1, (Or.inr ⟨rfl, (by first | trivial | (first | omega | (have zz0 := Hid.u hb_cn; omega)) | (simp only [zd0]; (first | omega | (have zz0 := Hid.u hb_cn; omega)))), (by first | rfl | simp only [zd0] | simp only [zd0, zd1]), (by first | rfl | simp only [zd0] | simp only [zd0, zd1])⟩)⟩, by rw [ht]; exact hP, hD⟩, hS.F ht⟩) hS.2.2 dX11_price_16
