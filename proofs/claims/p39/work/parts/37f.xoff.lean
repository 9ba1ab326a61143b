theorem nIm1 {a : Nat} (h : a < 2 ^ 30) : (nI a - 1).toInt = (a : Int) - 1 := by
  rw [Int32.toInt_sub, nI_toInt (by omega)]
  exact Int.bmod_eq_of_le (by show -(2 ^ 31 : Int) ≤ (a : Int) - 1; omega) (by show (a : Int) - 1 < (2 ^ 31 : Int); omega)
theorem putM_i {f : Nat → Int32} {n i : Nat} {x : Int32} (h : i < n) (hn : n < 2 ^ 31) : putM f n (nI i) x = upd f i x := by
  unfold putM
  rw [nI_toInt (by omega), if_pos ⟨by omega, by omega⟩, nI_clamp (by omega)]
theorem i10 {x : Int32} (hv : x = 0 ∨ x = 1) (h : ¬ x = 1) : x = 0 := hv.resolve_right h

theorem cq_eq_0_1 : ¬((0 : Int32) = 1) := by decide

set_option maxRecDepth 100000 in
set_option maxHeartbeats 4000000 in
theorem q_EisOff (l : Launch) (D : va_G) (cI cB cZ : ClassId) (zz qq vv : Nat) (bt : Nat → Int32) (g : Nat → Nat) (ad : Nat → Nat → Nat) (cn : Nat → Nat) (In : Nat → Int32) (Fn : Nat → Nat → Int32) (k n0 : Nat) (hB : CBX cn) (hk : k < 3) (hn : n0 < 400) : Met l yX11_isOff (CWS yX11_isOff cX11_isOff 3 (some .boolean)) (RM 1 0 0) (PBrx [.ref (g 0), .int (nI k), .int (nI n0)] D cI cB cZ zz qq vv bt (wX cI (D.1 99) zz g ad cn In Fn)) (vp_Si (fun r => (r = 1 ∧ ¬ Fn 28 (k * 400 + n0) = 0) ∨ (r = 0 ∧ Fn 28 (k * 400 + n0) = 0))) 0 0 (fun _ => False) := by
  refine en_rx rfl pn_RX11 (Nat.le_of_ble_eq_true rfl) (fun p e s m below meth c hx hb hml hown S hr hlocks hnm hP hK hXS hS ls hl => ?_)
  have hl : lv_has ls 3 [(0, .ref (g 0)), (1, .int (nI k)), (2, .int (nI n0))] := hl
  have hb_cn : Hid (CBX cn) := hB
  replace hB : CBXh cn := hB
  refine lv_aload_n hx hb (oc_42 0 shX11_isOff_0) rfl (lvA0 hl) ?_
  refine gf_RX11_47 S hK hP 0 xo_0 (v := .ref (g 8)) rfl (oc_180 1 (aq_1 shX11_isOff_0) uw_0_47) ?_
  refine gf_RX11_321 S hK hP 6 xo_6 (v := .ref (g 28)) rfl (oc_180 4 (aq_4 shX11_isOff_0) uw_1_65) ?_
  refine lv_iload_n hx hb (oc_27 7 (aq_7 shX11_isOff_0)) rfl (lvA1 hl) ?_
  refine lv_sipush (v := 400) hx hb (oc_17 8 (aq_8 shX11_isOff_0) sgw_1_144) (by decide) ?_
  refine lv_imul hx hb (oc_104 11 (aq_11 shX11_isOff_0)) ?_
  refine lv_topi (fun y_1 ey_1 => ?_)
  obtain rfl : y_1 = (nI (k * 400)) := ey_1.trans (pk_mul k 400)
  refine lv_iload_n hx hb (oc_28 12 (aq_12 shX11_isOff_0)) rfl (lvA2 hl) ?_
  refine lv_iadd hx hb (oc_96 13 (aq_13 shX11_isOff_0)) ?_
  refine lv_topi (fun y_2 ey_2 => ?_)
  obtain rfl : y_2 = (nI ((k * 400) + n0)) := ey_2.trans (nI_add (k * 400) n0)
  refine vp_callSi (runS_r (As := [.ref (g 28), .int (nI ((k * 400) + n0))]) (rest := []) S (q_l_at l D cI cB cZ (g 28) 1200 (Fn 28) (nI ((k * 400) + n0)) (by (first | omega | (have zz0 := Hid.u hb_cn; omega)))) kS_RX11_192 hK hP [15] (one_is xo_15) ⟨Nat.le_of_ble_eq_true rfl, Nat.le_of_ble_eq_true rfl⟩ ⟨Nat.le_of_ble_eq_true rfl, Nat.le_of_ble_eq_true rfl⟩ rfl hl.1 rfl (Nat.le_of_ble_eq_true rfl) (oc_184 14 (aq_14 shX11_isOff_0) uw_0_192)) (fun r_3 h_4 => ?_)
  subst h_4
  refine lv_if_eq (tgt := 24) hx hb (oc_153 17 (aq_17 shX11_isOff_0) sgw_0_7) rfl (fun c_5 => ?_) (fun c_5 => ?_)
  ·
    have tc_5 : ((atM (Fn 28) 1200 (nI ((k * 400) + n0))).toInt : Int) = 0 := congrArg Int32.toInt c_5
    refine lv_iconst (v := 0) hx hb (oc_3 24 shX11_isOff_24) kic_0 ?_
    exact W.zret (v := 0) hx hb hr rfl (fun t ht hW => ⟨0, rfl, (Or.inr ⟨rfl, by rw [← atM_i (f := Fn 28) (n := 1200) (i := k * 400 + n0) (by (first | omega | (have zz0 := Hid.u hb_cn; omega))) (by decide)]; first | assumption | (intro q9; simp_all; done) | (first | omega | (have zz0 := Hid.u hb_cn; omega))⟩), ht⟩) (fun _ h => absurd h List.not_mem_nil) dX11_isOff_25
  ·
    have tc_5 : ((atM (Fn 28) 1200 (nI ((k * 400) + n0))).toInt : Int) ≠ 0 := fun q => c_5 (Int32.toInt_inj.mp q)
    refine lv_iconst (v := 1) hx hb (oc_4 20 (aq_20 shX11_isOff_0)) kic_1 ?_
    refine lv_goto (tgt := 25) hx hb (oc_167 21 (aq_21 shX11_isOff_0) sgw_0_4) rfl ?_
    exact W.zret (v := 1) hx hb hr rfl (fun t ht hW => ⟨1, rfl, (Or.inl ⟨rfl, by rw [← atM_i (f := Fn 28) (n := 1200) (i := k * 400 + n0) (by (first | omega | (have zz0 := Hid.u hb_cn; omega))) (by decide)]; first | assumption | (intro q9; simp_all; done) | (first | omega | (have zz0 := Hid.u hb_cn; omega))⟩), ht⟩) (fun _ h => absurd h List.not_mem_nil) dX11_isOff_25
set_option maxRecDepth 100000 in
set_option maxHeartbeats 4000000 in
theorem q_Eoff (l : Launch) (D : va_G) (cI cB cZ : ClassId) (zz qq vv : Nat) (bt : Nat → Int32) (g : Nat → Nat) (ad : Nat → Nat → Nat) (cn : Nat → Nat) (In : Nat → Int32) (Fn : Nat → Nat → Int32) (v0 v1 v2 : Int32) (sz : Nat) (hB : CBX cn) (hv : v2 = 0 ∨ v2 = 1) : Met l yX11_off (CWS yX11_off cX11_off 4 (some .boolean)) (RM 2 0 0) (PBx [.ref (g 0), .int v0, .int v1, .int v2] D cI cB cZ zz qq vv bt (wX cI (D.1 99) zz g ad cn In Fn) sz) (va_Qi (fun (r : Int32) (u : (Nat → Nat) × (Nat → Int32) × (Nat → Nat → Int32)) => (fun r c2 I2 F2 => (∀ k : Nat, k ∉ [] → I2 k = In k) ∧ ((r = 1 ∧ ((0 ≤ v0.toInt ∧ v0.toInt < (cn 1 : Int) ∧ 0 ≤ v1.toInt ∧ v1.toInt ≤ 399) ∧ ((¬ Fn 28 (v0.toInt.toNat * 400 + v1.toInt.toNat) = 0 ∧ v2 = 0) ∨ (Fn 28 (v0.toInt.toNat * 400 + v1.toInt.toNat) = 0 ∧ v2 = 1))) ∧ cn = c2 ∧ (va_up Fn 28 (upd (Fn 28) (v0.toInt.toNat * 400 + v1.toInt.toNat) v2)) = F2) ∨ (r = 0 ∧ (¬ (0 ≤ v0.toInt ∧ v0.toInt < (cn 1 : Int) ∧ 0 ≤ v1.toInt ∧ v1.toInt ≤ 399) ∨ (¬ Fn 28 (v0.toInt.toNat * 400 + v1.toInt.toNat) = 0 ∧ v2 = 1) ∨ (Fn 28 (v0.toInt.toNat * 400 + v1.toInt.toNat) = 0 ∧ v2 = 0)) ∧ cn = c2 ∧ Fn = F2))) r u.1 u.2.1 u.2.2) (fun (u : (Nat → Nat) × (Nat → Int32) × (Nat → Nat → Int32)) (t : State) => va_P D vwCl (wX cI (D.1 99) zz g ad u.1 u.2.1 u.2.2) t.heap ∧ va_D (va_A (wX cI (D.1 99) zz g ad cn In Fn) sz) (wX cI (D.1 99) zz g ad u.1 u.2.1 u.2.2)) (va_A (wX cI (D.1 99) zz g ad cn In Fn) sz)) 0 0 (va_A (wX cI (D.1 99) zz g ad cn In Fn) sz) := by
  refine en_x (fun A => (va_Qi (fun (r : Int32) (u : (Nat → Nat) × (Nat → Int32) × (Nat → Nat → Int32)) => (fun (r : Int32) (c2 : Nat → Nat) (I2 : Nat → Int32) (F2 : Nat → Nat → Int32) => (∀ k : Nat, k ∉ [] → I2 k = In k) ∧ ((r = 1 ∧ ((0 ≤ v0.toInt ∧ v0.toInt < (cn 1 : Int) ∧ 0 ≤ v1.toInt ∧ v1.toInt ≤ 399) ∧ ((¬ Fn 28 (v0.toInt.toNat * 400 + v1.toInt.toNat) = 0 ∧ v2 = 0) ∨ (Fn 28 (v0.toInt.toNat * 400 + v1.toInt.toNat) = 0 ∧ v2 = 1))) ∧ cn = c2 ∧ (va_up Fn 28 (upd (Fn 28) (v0.toInt.toNat * 400 + v1.toInt.toNat) v2)) = F2) ∨ (r = 0 ∧ (¬ (0 ≤ v0.toInt ∧ v0.toInt < (cn 1 : Int) ∧ 0 ≤ v1.toInt ∧ v1.toInt ≤ 399) ∨ (¬ Fn 28 (v0.toInt.toNat * 400 + v1.toInt.toNat) = 0 ∧ v2 = 1) ∨ (Fn 28 (v0.toInt.toNat * 400 + v1.toInt.toNat) = 0 ∧ v2 = 0)) ∧ cn = c2 ∧ Fn = F2))) r u.1 u.2.1 u.2.2) (fun (u : (Nat → Nat) × (Nat → Int32) × (Nat → Nat → Int32)) (t : State) => va_P D vwCl (wX cI (D.1 99) zz g ad u.1 u.2.1 u.2.2) t.heap ∧ va_D A (wX cI (D.1 99) zz g ad u.1 u.2.1 u.2.2)) A)) rfl rfl pn_RX11 (Nat.le_of_ble_eq_true rfl) (fun p e s m below meth c A hx hb hml hown S hr hlocks hnm hA hP hK hD hXS hS ls hl => ?_)
  have hl : lv_has ls 4 [(0, .ref (g 0)), (1, .int v0), (2, .int v1), (3, .int v2)] := hl
  have hb_cn : Hid (CBX cn) := hB
  replace hB : CBXh cn := hB
  rcases hv with rfl | rfl
  ·
    have hl : lv_has ls 4 [(0, .ref (g 0)), (1, .int v0), (2, .int v1), (3, .int 0)] := hl
    refine lv_iload_n hx hb (oc_27 0 shX11_off_0) rfl (lvA1 hl) ?_
    refine lv_iconst (v := 0) hx hb (oc_3 1 (aq_1 shX11_off_0)) kic_0 ?_
    refine lv_aload_n hx hb (oc_42 2 (aq_2 shX11_off_0)) rfl (lvA0 hl) ?_
    refine gf_RX11_311 S hK hP 0 xo_0 (v := .int (nI (cn 1))) rfl (oc_180 3 (aq_3 shX11_off_0) uw_1_55) ?_
    refine lv_iconst (v := 1) hx hb (oc_4 6 (aq_6 shX11_off_0)) kic_1 ?_
    refine lv_isub hx hb (oc_100 7 (aq_7 shX11_off_0)) ?_
    have e9 : ((nI (cn 1)) - 1).toInt = (cn 1 : Int) - 1 := nIm1 (by (first | omega | (have zz0 := Hid.u hb_cn; omega)))
    refine vp_callSi (runS_r (As := [.int v0, .int 0, .int ((nI (cn 1)) - 1)]) (rest := []) S (q_l_within l D cI cB cZ v0 0 ((nI (cn 1)) - 1)) kS_RX11_80 hK hP [] rfl ⟨Nat.le_of_ble_eq_true rfl, Nat.le_of_ble_eq_true rfl⟩ ⟨Nat.le_of_ble_eq_true rfl, Nat.le_of_ble_eq_true rfl⟩ rfl hl.1 rfl (Nat.le_of_ble_eq_true rfl) (oc_184 8 (aq_8 shX11_off_0) uw_0_80)) (fun r_1 h_2 => ?_)
    rcases h_2 with ⟨rfl, h_2⟩ | ⟨rfl, h_2⟩
    ·
      have h_2 : 0 ≤ v0.toInt ∧ v0.toInt ≤ ((nI (cn 1)) - 1).toInt := h_2
      refine lv_if_eq (tgt := 31) hx hb dX11_off_11 rfl (fun h => absurd h cq_eq_1_0) (fun _ => ?_)
      refine lv_iload_n hx hb (oc_28 14 (aq_14 shX11_off_0)) rfl (lvA2 hl) ?_
      refine vp_callSi (runS_r (As := [.int v1]) (rest := []) S (q_l_isDay l D cI cB cZ v1) kS_RX11_99 hK hP [] rfl ⟨Nat.le_of_ble_eq_true rfl, Nat.le_of_ble_eq_true rfl⟩ ⟨Nat.le_of_ble_eq_true rfl, Nat.le_of_ble_eq_true rfl⟩ rfl hl.1 rfl (Nat.le_of_ble_eq_true rfl) (oc_184 15 (aq_15 shX11_off_0) uw_0_99)) (fun r_3 h_4 => ?_)
      rcases h_4 with ⟨rfl, h_4⟩ | ⟨rfl, h_4⟩
      ·
        have h_4 : 0 ≤ v1.toInt ∧ v1.toInt ≤ 399 := h_4
        refine lv_if_eq (tgt := 31) hx hb dX11_off_18 rfl (fun h => absurd h cq_eq_1_0) (fun _ => ?_)
        obtain ⟨d0, hd0, rfl⟩ := nI_of (x := v0) (fun q => by have := Int32.lt_iff_toInt_lt.mp q; have e : (0 : Int32).toInt = 0 := rfl; (first | omega | (have zz0 := Hid.u hb_cn; omega)))
        have td0 : (nI d0).toInt = (d0 : Int) := nI_toInt hd0
        have zd0 : (nI d0).toInt.toNat = d0 := by (first | omega | (have zz0 := Hid.u hb_cn; omega))
        obtain ⟨d1, hd1, rfl⟩ := nI_of (x := v1) (fun q => by have := Int32.lt_iff_toInt_lt.mp q; have e : (0 : Int32).toInt = 0 := rfl; (first | omega | (have zz0 := Hid.u hb_cn; omega)))
        have td1 : (nI d1).toInt = (d1 : Int) := nI_toInt hd1
        have zd1 : (nI d1).toInt.toNat = d1 := by (first | omega | (have zz0 := Hid.u hb_cn; omega))
        refine lv_aload_n hx hb (oc_42 21 (aq_21 shX11_off_0)) rfl (lvA0 hl) ?_
        refine lv_iload_n hx hb (oc_27 22 (aq_22 shX11_off_0)) rfl (lvA1 hl) ?_
        refine lv_iload_n hx hb (oc_28 23 (aq_23 shX11_off_0)) rfl (lvA2 hl) ?_
        refine vp_callSi (runV_rxa (As := [.int (nI d0), .int (nI d1)]) (rest := []) S (q_EisOff l D cI cB cZ zz qq vv bt g ad cn In Fn d0 d1 hB (by (first | omega | (have zz0 := Hid.u hb_cn; omega))) (by (first | omega | (have zz0 := Hid.u hb_cn; omega)))) kV_RX11_317 hK hXS hS hP 0 xo_0 rfl rfl ⟨Nat.le_of_ble_eq_true rfl, Nat.le_of_ble_eq_true rfl⟩ ⟨Nat.le_of_ble_eq_true rfl, Nat.le_of_ble_eq_true rfl⟩ rfl hl.1 rfl (Nat.le_of_ble_eq_true rfl) (oc_182 24 shX11_off_24 uw_1_61)) (fun r_5 h_6 => ?_)
        rcases h_6 with ⟨rfl, hq9⟩ | ⟨rfl, hq9⟩
        ·
          refine lv_iload_n hx hb dX11_off_27 rfl (lvA3 hl) ?_
          refine lv_icmp_ne (tgt := 33) hx hb dX11_off_28 rfl (fun _ => ?_) (fun h => absurd h cq_eq_1_0)
          refine lv_aload_n hx hb (oc_42 33 (aq_9 shX11_off_24)) rfl (lvA0 hl) ?_
          refine gf_RX11_47 S hK hP 0 xo_0 (v := .ref (g 8)) rfl (oc_180 34 (aq_10 shX11_off_24) uw_0_47) ?_
          refine gf_RX11_321 S hK hP 6 xo_6 (v := .ref (g 28)) rfl (oc_180 37 (aq_13 shX11_off_24) uw_1_65) ?_
          refine lv_iload_n hx hb (oc_27 40 (aq_16 shX11_off_24)) rfl (lvA1 hl) ?_
          refine lv_sipush (v := 400) hx hb (oc_17 41 (aq_17 shX11_off_24) sgw_1_144) (by decide) ?_
          refine lv_imul hx hb (oc_104 44 (aq_20 shX11_off_24)) ?_
          refine lv_topi (fun y_7 ey_7 => ?_)
          obtain rfl : y_7 = (nI (d0 * 400)) := ey_7.trans (pk_mul d0 400)
          refine lv_iload_n hx hb (oc_28 45 (aq_21 shX11_off_24)) rfl (lvA2 hl) ?_
          refine lv_iadd hx hb (oc_96 46 (aq_22 shX11_off_24)) ?_
          refine lv_topi (fun y_8 ey_8 => ?_)
          obtain rfl : y_8 = (nI ((d0 * 400) + d1)) := ey_8.trans (nI_add (d0 * 400) d1)
          refine lv_iload_n hx hb (oc_29 47 (aq_23 shX11_off_24)) rfl (lvA3 hl) ?_
          refine lv_if_eq (tgt := 55) hx hb (oc_153 48 shX11_off_48 sgw_0_7) rfl (fun _ => ?_) (fun h => absurd h cq_eq_0_0)
          refine lv_iconst (v := 0) hx hb (oc_3 55 (aq_7 shX11_off_48)) kic_0 ?_
          have hFc := va_free (wc := [((g 28), .inl (cI, 1200, .inl (Fn 28)))]) hD hS hA [15] (one_im xo_15)
          refine va_callv (runS_w (As := [.ref (g 28), .int (nI ((d0 * 400) + d1)), .int 0]) (rest := []) S (q_l_put l D cI cB cZ (g 28) 1200 (Fn 28) (nI ((d0 * 400) + d1)) 0 s.heap.size (by (first | omega | (have zz0 := Hid.u hb_cn; omega)))) kS_RX11_184 hK hP hD [15] (one_is xo_15) (one_im xo_15) rfl ⟨Nat.le_of_ble_eq_true rfl, Nat.le_of_ble_eq_true rfl⟩ ⟨Nat.le_of_ble_eq_true rfl, Nat.le_of_ble_eq_true rfl⟩ rfl hl.1 rfl (Nat.le_of_ble_eq_true rfl) dX11_off_56) hS (fun q _ h => hFc q h) hFc (fun u_11 t H1 locs ht hvm h_10 hB1 hz1 hk1 hS => ?_)
          obtain ⟨hP1, hD1⟩ := hB1
          rw [ht] at hP1
          obtain ⟨hP, hD⟩ := wset1 hP hD xo_15 hk1 hP1
          obtain rfl : u_11 = (putM (Fn 28) 1200 (nI ((d0 * 400) + d1)) 0) := h_10
          generalize H1 = H at hP hS ⊢
          have hP : va_P D vwCl (wX cI (D.1 99) zz g ad cn In (va_up Fn 28 (putM (Fn 28) 1200 (nI ((d0 * 400) + d1)) 0))) H := va_P_eq xsa_15 hP
          have hD : va_D A (wX cI (D.1 99) zz g ad cn In (va_up Fn 28 (putM (Fn 28) 1200 (nI ((d0 * 400) + d1)) 0))) := va_D_eq xsa_15 hD
          refine lv_iconst (v := 1) hx hb dX11_off_59 kic_1 ?_
          exact W.zret (v := 1) hx hb hr rfl (fun t ht hW => ⟨⟨1, (cn, In, (va_up Fn 28 (putM (Fn 28) 1200 (nI ((d0 * 400) + d1)) 0))), rfl, ⟨(show Fr [] [] [28] cn In Fn cn In (va_up Fn 28 (putM (Fn 28) 1200 (nI ((d0 * 400) + d1)) 0)) from Fr.mo (Fr.f 28 (Fr.rf (cn := cn) (In := In) (Fn := Fn))) (sbl rfl) (sbl rfl) (sbl rfl)).2.1, (Or.inl ⟨rfl, (by first | exact Or.inl (by (first | omega | (have zz0 := Hid.u hb_cn; omega))) | (rw [zd0, zd1]; first | (first | exact ⟨⟨by (first | omega | (have zz0 := Hid.u hb_cn; omega)), by (first | omega | (have zz0 := Hid.u hb_cn; omega)), by (first | omega | (have zz0 := Hid.u hb_cn; omega)), by (first | omega | (have zz0 := Hid.u hb_cn; omega))⟩, Or.inl ⟨hq9, rfl⟩⟩ | exact ⟨⟨by (first | omega | (have zz0 := Hid.u hb_cn; omega)), by (first | omega | (have zz0 := Hid.u hb_cn; omega)), by (first | omega | (have zz0 := Hid.u hb_cn; omega)), by (first | omega | (have zz0 := Hid.u hb_cn; omega))⟩, Or.inr ⟨hq9, rfl⟩⟩ | exact Or.inr (Or.inl ⟨hq9, rfl⟩) | exact Or.inr (Or.inr ⟨hq9, rfl⟩)))), (by first | rfl | (simp only [zd0, zd1]; rw [putM_i (by (first | omega | (have zz0 := Hid.u hb_cn; omega))) (by decide)])), (by first | rfl | (simp only [zd0, zd1]; rw [putM_i (by (first | omega | (have zz0 := Hid.u hb_cn; omega))) (by decide)]))⟩)⟩, by rw [ht]; exact hP, hD⟩, hS.F ht⟩) hS.2.2 dX11_off_60
        ·
          refine lv_iload_n hx hb dX11_off_27 rfl (lvA3 hl) ?_
          refine lv_icmp_ne (tgt := 33) hx hb dX11_off_28 rfl (fun h => absurd h cq_eq_0_0) (fun _ => ?_)
          refine lv_iconst (v := 0) hx hb dX11_off_31 kic_0 ?_
          exact W.zret (v := 0) hx hb hr rfl (fun t ht hW => ⟨⟨0, (cn, In, Fn), rfl, ⟨(show Fr [] [] [28] cn In Fn cn In Fn from Fr.mo (Fr.rf (cn := cn) (In := In) (Fn := Fn)) (sbl rfl) (sbl rfl) (sbl rfl)).2.1, (Or.inr ⟨rfl, (by first | exact Or.inl (by (first | omega | (have zz0 := Hid.u hb_cn; omega))) | (rw [zd0, zd1]; first | (first | exact ⟨⟨by (first | omega | (have zz0 := Hid.u hb_cn; omega)), by (first | omega | (have zz0 := Hid.u hb_cn; omega)), by (first | omega | (have zz0 := Hid.u hb_cn; omega)), by (first | omega | (have zz0 := Hid.u hb_cn; omega))⟩, Or.inl ⟨hq9, rfl⟩⟩ | exact ⟨⟨by (first | omega | (have zz0 := Hid.u hb_cn; omega)), by (first | omega | (have zz0 := Hid.u hb_cn; omega)), by (first | omega | (have zz0 := Hid.u hb_cn; omega)), by (first | omega | (have zz0 := Hid.u hb_cn; omega))⟩, Or.inr ⟨hq9, rfl⟩⟩ | exact Or.inr (Or.inl ⟨hq9, rfl⟩) | exact Or.inr (Or.inr ⟨hq9, rfl⟩)))), (by first | rfl | (simp only [zd0, zd1]; rw [putM_i (by (first | omega | (have zz0 := Hid.u hb_cn; omega))) (by decide)])), (by first | rfl | (simp only [zd0, zd1]; rw [putM_i (by (first | omega | (have zz0 := Hid.u hb_cn; omega))) (by decide)]))⟩)⟩, by rw [ht]; exact hP, hD⟩, hS.F ht⟩) hS.2.2 dX11_off_32
      ·
        have h_4 : ¬ (0 ≤ v1.toInt ∧ v1.toInt ≤ 399) := h_4
        refine lv_if_eq (tgt := 31) hx hb dX11_off_18 rfl (fun _ => ?_) (fun h => absurd h cq_eq_0_0)
        refine lv_iconst (v := 0) hx hb dX11_off_31 kic_0 ?_
        exact W.zret (v := 0) hx hb hr rfl (fun t ht hW => ⟨⟨0, (cn, In, Fn), rfl, ⟨(show Fr [] [] [28] cn In Fn cn In Fn from Fr.mo (Fr.rf (cn := cn) (In := In) (Fn := Fn)) (sbl rfl) (sbl rfl) (sbl rfl)).2.1, (Or.inr ⟨rfl, (by first | exact Or.inl (by (first | omega | (have zz0 := Hid.u hb_cn; omega))) | (rw [zd0, zd1]; first | (first | exact ⟨⟨by (first | omega | (have zz0 := Hid.u hb_cn; omega)), by (first | omega | (have zz0 := Hid.u hb_cn; omega)), by (first | omega | (have zz0 := Hid.u hb_cn; omega)), by (first | omega | (have zz0 := Hid.u hb_cn; omega))⟩, Or.inl ⟨hq9, rfl⟩⟩ | exact ⟨⟨by (first | omega | (have zz0 := Hid.u hb_cn; omega)), by (first | omega | (have zz0 := Hid.u hb_cn; omega)), by (first | omega | (have zz0 := Hid.u hb_cn; omega)), by (first | omega | (have zz0 := Hid.u hb_cn; omega))⟩, Or.inr ⟨hq9, rfl⟩⟩ | exact Or.inr (Or.inl ⟨hq9, rfl⟩) | exact Or.inr (Or.inr ⟨hq9, rfl⟩)))), (by first | rfl | (simp only [zd0, zd1]; rw [putM_i (by (first | omega | (have zz0 := Hid.u hb_cn; omega))) (by decide)])), (by first | rfl | (simp only [zd0, zd1]; rw [putM_i (by (first | omega | (have zz0 := Hid.u hb_cn; omega))) (by decide)]))⟩)⟩, by rw [ht]; exact hP, hD⟩, hS.F ht⟩) hS.2.2 dX11_off_32
    ·
      have h_2 : ¬ (0 ≤ v0.toInt ∧ v0.toInt ≤ ((nI (cn 1)) - 1).toInt) := h_2
      refine lv_if_eq (tgt := 31) hx hb dX11_off_11 rfl (fun _ => ?_) (fun h => absurd h cq_eq_0_0)
      refine lv_iconst (v := 0) hx hb dX11_off_31 kic_0 ?_
      exact W.zret (v := 0) hx hb hr rfl (fun t ht hW => ⟨⟨0, (cn, In, Fn), rfl, ⟨(show Fr [] [] [28] cn In Fn cn In Fn from Fr.mo (Fr.rf (cn := cn) (In := In) (Fn := Fn)) (sbl rfl) (sbl rfl) (sbl rfl)).2.1, (Or.inr ⟨rfl, (by first | exact Or.inl (by (first | omega | (have zz0 := Hid.u hb_cn; omega))) | (rw [zd0, zd1]; first | (first | exact ⟨⟨by (first | omega | (have zz0 := Hid.u hb_cn; omega)), by (first | omega | (have zz0 := Hid.u hb_cn; omega)), by (first | omega | (have zz0 := Hid.u hb_cn; omega)), by (first | omega | (have zz0 := Hid.u hb_cn; omega))⟩, Or.inl ⟨hq9, rfl⟩⟩ | exact ⟨⟨by (first | omega | (have zz0 := Hid.u hb_cn; omega)), by (first | omega | (have zz0 := Hid.u hb_cn; omega)), by (first | omega | (have zz0 := Hid.u hb_cn; omega)), by (first | omega | (have zz0 := Hid.u hb_cn; omega))⟩, Or.inr ⟨hq9, rfl⟩⟩ | exact Or.inr (Or.inl ⟨hq9, rfl⟩) | exact Or.inr (Or.inr ⟨hq9, rfl⟩)))), (by first | rfl | (simp only [zd0, zd1]; rw [putM_i (by (first | omega | (have zz0 := Hid.u hb_cn; omega))) (by decide)])), (by first | rfl | (simp only [zd0, zd1]; rw [putM_i (by (first | omega | (have zz0 := Hid.u hb_cn; omega))) (by decide)]))⟩)⟩, by rw [ht]; exact hP, hD⟩, hS.F ht⟩) hS.2.2 dX11_off_32
  ·
    have hl : lv_has ls 4 [(0, .ref (g 0)), (1, .int v0), (2, .int v1), (3, .int 1)] := hl
    refine lv_iload_n hx hb (oc_27 0 shX11_off_0) rfl (lvA1 hl) ?_
    refine lv_iconst (v := 0) hx hb (oc_3 1 (aq_1 shX11_off_0)) kic_0 ?_
    refine lv_aload_n hx hb (oc_42 2 (aq_2 shX11_off_0)) rfl (lvA0 hl) ?_
    refine gf_RX11_311 S hK hP 0 xo_0 (v := .int (nI (cn 1))) rfl (oc_180 3 (aq_3 shX11_off_0) uw_1_55) ?_
    refine lv_iconst (v := 1) hx hb (oc_4 6 (aq_6 shX11_off_0)) kic_1 ?_
    refine lv_isub hx hb (oc_100 7 (aq_7 shX11_off_0)) ?_
    have e9 : ((nI (cn 1)) - 1).toInt = (cn 1 : Int) - 1 := nIm1 (by (first | omega | (have zz0 := Hid.u hb_cn; omega)))
    refine vp_callSi (runS_r (As := [.int v0, .int 0, .int ((nI (cn 1)) - 1)]) (rest := []) S (q_l_within l D cI cB cZ v0 0 ((nI (cn 1)) - 1)) kS_RX11_80 hK hP [] rfl ⟨Nat.le_of_ble_eq_true rfl, Nat.le_of_ble_eq_true rfl⟩ ⟨Nat.le_of_ble_eq_true rfl, Nat.le_of_ble_eq_true rfl⟩ rfl hl.1 rfl (Nat.le_of_ble_eq_true rfl) (oc_184 8 (aq_8 shX11_off_0) uw_0_80)) (fun r_12 h_13 => ?_)
    rcases h_13 with ⟨rfl, h_13⟩ | ⟨rfl, h_13⟩
    ·
      have h_13 : 0 ≤ v0.toInt ∧ v0.toInt ≤ ((nI (cn 1)) - 1).toInt := h_13
      refine lv_if_eq (tgt := 31) hx hb dX11_off_11 rfl (fun h => absurd h cq_eq_1_0) (fun _ => ?_)
      refine lv_iload_n hx hb (oc_28 14 (aq_14 shX11_off_0)) rfl (lvA2 hl) ?_
      refine vp_callSi (runS_r (As := [.int v1]) (rest := []) S (q_l_isDay l D cI cB cZ v1) kS_RX11_99 hK hP [] rfl ⟨Nat.le_of_ble_eq_true rfl, Nat.le_of_ble_eq_true rfl⟩ ⟨Nat.le_of_ble_eq_true rfl, Nat.le_of_ble_eq_true rfl⟩ rfl hl.1 rfl (Nat.le_of_ble_eq_true rfl) (oc_184 15 (aq_15 shX11_off_0) uw_0_99)) (fun r_14 h_15 => ?_)
      rcases h_15 with ⟨rfl, h_15⟩ | ⟨rfl, h_15⟩
      ·
        have h_15 : 0 ≤ v1.toInt ∧ v1.toInt ≤ 399 := h_15
        refine lv_if_eq (tgt := 31) hx hb dX11_off_18 rfl (fun h => absurd h cq_eq_1_0) (fun _ => ?_)
        obtain ⟨d0, hd0, rfl⟩ := nI_of (x := v0) (fun q => by have := Int32.lt_iff_toInt_lt.mp q; have e : (0 : Int32).toInt = 0 := rfl; (first | omega | (have zz0 := Hid.u hb_cn; omega)))
        have td0 : (nI d0).toInt = (d0 : Int) := nI_toInt hd0
        have zd0 : (nI d0).toInt.toNat = d0 := by (first | omega | (have zz0 := Hid.u hb_cn; omega))
        obtain ⟨d1, hd1, rfl⟩ := nI_of (x := v1) (fun q => by have := Int32.lt_iff_toInt_lt.mp q; have e : (0 : Int32).toInt = 0 := rfl; (first | omega | (have zz0 := Hid.u hb_cn; omega)))
        have td1 : (nI d1).toInt = (d1 : Int) := nI_toInt hd1
        have zd1 : (nI d1).toInt.toNat = d1 := by (first | omega | (have zz0 := Hid.u hb_cn; omega))
        refine lv_aload_n hx hb (oc_42 21 (aq_21 shX11_off_0)) rfl (lvA0 hl) ?_
        refine lv_iload_n hx hb (oc_27 22 (aq_22 shX11_off_0)) rfl (lvA1 hl) ?_
        refine lv_iload_n hx hb (oc_28 23 (aq_23 shX11_off_0)) rfl (lvA2 hl) ?_
        refine vp_callSi (runV_rxa (As := [.int (nI d0), .int (nI d1)]) (rest := []) S (q_EisOff l D cI cB cZ zz qq vv bt g ad cn In Fn d0 d1 hB (by (first | omega | (have zz0 := Hid.u hb_cn; omega))) (by (first | omega | (have zz0 := Hid.u hb_cn; omega)))) kV_RX11_317 hK hXS hS hP 0 xo_0 rfl rfl ⟨Nat.le_of_ble_eq_true rfl, Nat.le_of_ble_eq_true rfl⟩ ⟨Nat.le_of_ble_eq_true rfl, Nat.le_of_ble_eq_true rfl⟩ rfl hl.1 rfl (Nat.le_of_ble_eq_true rfl) (oc_182 24 shX11_off_24 uw_1_61)) (fun r_16 h_17 => ?_)
        rcases h_17 with ⟨rfl, hq9⟩ | ⟨rfl, hq9⟩
        ·
          refine lv_iload_n hx hb dX11_off_27 rfl (lvA3 hl) ?_
          refine lv_icmp_ne (tgt := 33) hx hb dX11_off_28 rfl (fun h => absurd h cq_eq_1_1) (fun _ => ?_)
          refine lv_iconst (v := 0) hx hb dX11_off_31 kic_0 ?_
          exact W.zret (v := 0) hx hb hr rfl (fun t ht hW => ⟨⟨0, (cn, In, Fn), rfl, ⟨(show Fr [] [] [28] cn In Fn cn In Fn from Fr.mo (Fr.rf (cn := cn) (In := In) (Fn := Fn)) (sbl rfl) (sbl rfl) (sbl rfl)).2.1, (Or.inr ⟨rfl, (by first | exact Or.inl (by (first | omega | (have zz0 := Hid.u hb_cn; omega))) | (rw [zd0, zd1]; first | (first | exact ⟨⟨by (first | omega | (have zz0 := Hid.u hb_cn; omega)), by (first | omega | (have zz0 := Hid.u hb_cn; omega)), by (first | omega | (have zz0 := Hid.u hb_cn; omega)), by (first | omega | (have zz0 := Hid.u hb_cn; omega))⟩, Or.inl ⟨hq9, rfl⟩⟩ | exact ⟨⟨by (first | omega | (have zz0 := Hid.u hb_cn; omega)), by (first | omega | (have zz0 := Hid.u hb_cn; omega)), by (first | omega | (have zz0 := Hid.u hb_cn; omega)), by (first | omega | (have zz0 := Hid.u hb_cn; omega))⟩, Or.inr ⟨hq9, rfl⟩⟩ | exact Or.inr (Or.inl ⟨hq9, rfl⟩) | exact Or.inr (Or.inr ⟨hq9, rfl⟩)))), (by first | rfl | (simp only [zd0, zd1]; rw [putM_i (by (first | omega | (have zz0 := Hid.u hb_cn; omega))) (by decide)])), (by first | rfl | (simp only [zd0, zd1]; rw [putM_i (by (first | omega | (have zz0 := Hid.u hb_cn; omega))) (by decide)]))⟩)⟩, by rw [ht]; exact hP, hD⟩, hS.F ht⟩) hS.2.2 dX11_off_32
        ·
          refine lv_iload_n hx hb dX11_off_27 rfl (lvA3 hl) ?_
          refine lv_icmp_ne (tgt := 33) hx hb dX11_off_28 rfl (fun _ => ?_) (fun h => absurd h cq_eq_0_1)
          refine lv_aload_n hx hb (oc_42 33 (aq_9 shX11_off_24)) rfl (lvA0 hl) ?_
          refine gf_RX11_47 S hK hP 0 xo_0 (v := .ref (g 8)) rfl (oc_180 34 (aq_10 shX11_off_24) uw_0_47) ?_
          refine gf_RX11_321 S hK hP 6 xo_6 (v := .ref (g 28)) rfl (oc_180 37 (aq_13 shX11_off_24) uw_1_65) ?_
          refine lv_iload_n hx hb (oc_27 40 (aq_16 shX11_off_24)) rfl (lvA1 hl) ?_
          refine lv_sipush (v := 400) hx hb (oc_17 41 (aq_17 shX11_off_24) sgw_1_144) (by decide) ?_
          refine lv_imul hx hb (oc_104 44 (aq_20 shX11_off_24)) ?_
          refine lv_topi (fun y_18 ey_18 => ?_)
          obtain rfl : y_18 = (nI (d0 * 400)) := ey_18.trans (pk_mul d0 400)
          refine lv_iload_n hx hb (oc_28 45 (aq_21 shX11_off_24)) rfl (lvA2 hl) ?_
          refine lv_iadd hx hb (oc_96 46 (aq_22 shX11_off_24)) ?_
          refine lv_topi (fun y_19 ey_19 => ?_)
          obtain rfl : y_19 = (nI ((d0 * 400) + d1)) := ey_19.trans (nI_add (d0 * 400) d1)
          refine lv_iload_n hx hb (oc_29 47 (aq_23 shX11_off_24)) rfl (lvA3 hl) ?_
          refine lv_if_eq (tgt := 55) hx hb (oc_153 48 shX11_off_48 sgw_0_7) rfl (fun h => absurd h cq_eq_1_0) (fun _ => ?_)
          refine lv_iconst (v := 1) hx hb (oc_4 51 (aq_3 shX11_off_48)) kic_1 ?_
          refine lv_goto (tgt := 56) hx hb (oc_167 52 (aq_4 shX11_off_48) sgw_0_4) rfl ?_
          have hFc := va_free (wc := [((g 28), .inl (cI, 1200, .inl (Fn 28)))]) hD hS hA [15] (one_im xo_15)
          refine va_callv (runS_w (As := [.ref (g 28), .int (nI ((d0 * 400) + d1)), .int 1]) (rest := []) S (q_l_put l D cI cB cZ (g 28) 1200 (Fn 28) (nI ((d0 * 400) + d1)) 1 s.heap.size (by (first | omega | (have zz0 := Hid.u hb_cn; omega)))) kS_RX11_184 hK hP hD [15] (one_is xo_15) (one_im xo_15) rfl ⟨Nat.le_of_ble_eq_true rfl, Nat.le_of_ble_eq_true rfl⟩ ⟨Nat.le_of_ble_eq_true rfl, Nat.le_of_ble_eq_true rfl⟩ rfl hl.1 rfl (Nat.le_of_ble_eq_true rfl) dX11_off_56) hS (fun q _ h => hFc q h) hFc (fun u_22 t H1 locs ht hvm h_21 hB1 hz1 hk1 hS => ?_)
          obtain ⟨hP1, hD1⟩ := hB1
          rw [ht] at hP1
          obtain ⟨hP, hD⟩ := wset1 hP hD xo_15 hk1 hP1
          obtain rfl : u_22 = (putM (Fn 28) 1200 (nI ((d0 * 400) + d1)) 1) := h_21
          generalize H1 = H at hP hS ⊢
          have hP : va_P D vwCl (wX cI (D.1 99) zz g ad cn In (va_up Fn 28 (putM (Fn 28) 1200 (nI ((d0 * 400) + d1)) 1))) H := va_P_eq xsa_15 hP
          have hD : va_D A (wX cI (D.1 99) zz g ad cn In (va_up Fn 28 (putM (Fn 28) 1200 (nI ((d0 * 400) + d1)) 1))) := va_D_eq xsa_15 hD
          refine lv_iconst (v := 1) hx hb dX11_off_59 kic_1 ?_
          exact W.zret (v := 1) hx hb hr rfl (fun t ht hW => ⟨⟨1, (cn, In, (va_up Fn 28 (putM (Fn 28) 1200 (nI ((d0 * 400) + d1)) 1))), rfl, ⟨(show Fr [] [] [28] cn In Fn cn In (va_up Fn 28 (putM (Fn 28) 1200 (nI ((d0 * 400) + d1)) 1)) from Fr.mo (Fr.f 28 (Fr.rf (cn := cn) (In := In) (Fn := Fn))) (sbl rfl) (sbl rfl) (sbl rfl)).2.1, (Or.inl ⟨rfl, (by first | exact Or.inl (by (first | omega | (have zz0 := Hid.u hb_cn; omega))) | (rw [zd0, zd1]; first | (first | exact ⟨⟨by (first | omega | (have zz0 := Hid.u hb_cn; omega)), by (first | omega | (have zz0 := Hid.u hb_cn; omega)), by (first | omega | (have zz0 := Hid.u hb_cn; omega)), by (first | omega | (have zz0 := Hid.u hb_cn; omega))⟩, Or.inl ⟨hq9, rfl⟩⟩ | exact ⟨⟨by (first | omega | (have zz0 := Hid.u hb_cn; omega)), by (first | omega | (have zz0 := Hid.u hb_cn; omega)), by (first | omega | (have zz0 := Hid.u hb_cn; omega)), by (first | omega | (have zz0 := Hid.u hb_cn; omega))⟩, Or.inr ⟨hq9, rfl⟩⟩ | exact Or.inr (Or.inl ⟨hq9, rfl⟩) | exact Or.inr (Or.inr ⟨hq9, rfl⟩)))), (by first | rfl | (simp only [zd0, zd1]; rw [putM_i (by (first | omega | (have zz0 := Hid.u hb_cn; omega))) (by decide)])), (by first | rfl | (simp only [zd0, zd1]; rw [putM_i (by (first | omega | (have zz0 := Hid.u hb_cn; omega))) (by decide)]))⟩)⟩, by rw [ht]; exact hP, hD⟩, hS.F ht⟩) hS.2.2 dX11_off_60
      ·
        have h_15 : ¬ (0 ≤ v1.toInt ∧ v1.toInt ≤ 399) := h_15
        refine lv_if_eq (tgt := 31) hx hb dX11_off_18 rfl (fun _ => ?_) (fun h => absurd h cq_eq_0_0)
        refine lv_iconst (v := 0) hx hb dX11_off_31 kic_0 ?_
        exact W.zret (v := 0) hx hb hr rfl (fun t ht hW => ⟨⟨0, (cn, In, Fn), rfl, ⟨(show Fr [] [] [28] cn In Fn cn In Fn from Fr.mo (Fr.rf (cn := cn) (In := In) (Fn := Fn)) (sbl rfl) (sbl rfl) (sbl rfl)).2.1, (Or.inr ⟨rfl, (by first | exact Or.inl (by (first | omega | (have zz0 := Hid.u hb_cn; omega))) | (rw [zd0, zd1]; first | (first | exact ⟨⟨by (first | omega | (have zz0 := Hid.u hb_cn; omega)), by (first | omega | (have zz0 := Hid.u hb_cn; omega)), by (first | omega | (have zz0 := Hid.u hb_cn; omega)), by (first | omega | (have zz0 := Hid.u hb_cn; omega))⟩, Or.inl ⟨hq9, rfl⟩⟩ | exact ⟨⟨by (first | omega | (have zz0 := Hid.u hb_cn; omega)), by (first | omega | (have zz0 := Hid.u hb_cn; omega)), by (first | omega | (have zz0 := Hid.u hb_cn; omega)), by (first | omega | (have zz0 := Hid.u hb_cn; omega))⟩, Or.inr ⟨hq9, rfl⟩⟩ | exact Or.inr (Or.inl ⟨hq9, rfl⟩) | exact Or.inr (Or.inr ⟨hq9, rfl⟩)))), (by first | rfl | (simp only [zd0, zd1]; rw [putM_i (by (first | omega | (have zz0 := Hid.u hb_cn; omega))) (by decide)])), (by first | rfl | (simp only [zd0, zd1]; rw [putM_i (by (first | omega | (have zz0 := Hid.u hb_cn; omega))) (by decide)]))⟩)⟩, by rw [ht]; exact hP, hD⟩, hS.F ht⟩) hS.2.2 dX11_off_32
    ·
      have h_13 : ¬ (0 ≤ v0.toInt ∧ v0.toInt ≤ ((nI (cn 1)) - 1).toInt) := h_13
      refine lv_if_eq (tgt := 31) hx hb dX11_off_11 rfl (fun _ => ?_) (fun h => absurd h cq_eq_0_0)
      refine lv_iconst (v := 0) hx hb dX11_off_31 kic_0 ?_
      exact W.zret (v := 0) hx hb hr rfl (fun t ht hW => ⟨⟨0, (cn, In, Fn), rfl, ⟨(show Fr [] [] [28] cn In Fn cn In Fn from Fr.mo (Fr.rf (cn := cn) (In := In) (Fn := Fn)) (sbl rfl) (sbl rfl) (sbl rfl)).2.1, (Or.inr ⟨rfl, (by first | exact Or.inl (by (first | omega | (have zz0 := Hid.u hb_cn; omega))) | (rw [zd0, zd1]; first | (first | exact ⟨⟨by (first | omega | (have zz0 := Hid.u hb_cn; omega)), by (first | omega | (have zz0 := Hid.u hb_cn; omega)), by (first | omega | (have zz0 := Hid.u hb_cn; omega)), by (first | omega | (have zz0 := Hid.u hb_cn; omega))⟩, Or.inl ⟨hq9, rfl⟩⟩ | exact ⟨⟨by (first | omega | (have zz0 := Hid.u hb_cn; omega)), by (first | omega | (have zz0 := Hid.u hb_cn; omega)), by (first | omega | (have zz0 := Hid.u hb_cn; omega)), by (first | omega | (have zz0 := Hid.u hb_cn; omega))⟩, Or.inr ⟨hq9, rfl⟩⟩ | exact Or.inr (Or.inl ⟨hq9, rfl⟩) | exact Or.inr (Or.inr ⟨hq9, rfl⟩)))), (by first | rfl | (simp only [zd0, zd1]; rw [putM_i (by (first | omega | (have zz0 := Hid.u hb_cn; omega))) (by decide)])), (by first | rfl | (simp only [zd0, zd1]; rw [putM_i (by (first | omega | (have zz0 := Hid.u hb_cn; omega))) (by decide)]))⟩)⟩, by rw [ht]; exact hP, hD⟩, hS.F ht⟩) hS.2.2 dX11_off_32
