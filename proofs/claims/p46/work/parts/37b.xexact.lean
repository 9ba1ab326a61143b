

set_option maxRecDepth 100000 in
set_option maxHeartbeats 4000000 in
theorem q_Edrum (l : Launch) (D : va_G) (cI cB cZ : ClassId) (zz qq vv : Nat) (bt : Nat → Int32) (g : Nat → Nat) (ad : Nat → Nat → Nat) (cn : Nat → Nat) (In : Nat → Int32) (Fn : Nat → Nat → Int32)  (sz : Nat) (hB : CBX cn) : Met l yX11_drum (CWS yX11_drum cX11_drum 1 (some .int)) (RM 0 0 0) (PBx [.ref (g 0)] D cI cB cZ zz qq vv bt (wX cI (D.1 99) zz g ad cn In Fn) sz) (va_Qi (fun (r : Int32) (u : (Nat → Nat) × (Nat → Int32) × (Nat → Nat → Int32)) => (fun r c2 I2 F2 => (∀ k : Nat, k ∉ [] → I2 k = In k) ∧ ((r = nI (cn 2) ∧ (cn 2 < 20) ∧ (va_up cn 2 (cn 2 + 1)) = c2 ∧ Fn = F2) ∨ (r = -1 ∧ (¬ cn 2 < 20) ∧ cn = c2 ∧ Fn = F2))) r u.1 u.2.1 u.2.2) (fun (u : (Nat → Nat) × (Nat → Int32) × (Nat → Nat → Int32)) (t : State) => va_P D vwCl (wX cI (D.1 99) zz g ad u.1 u.2.1 u.2.2) t.heap ∧ va_D (va_A (wX cI (D.1 99) zz g ad cn In Fn) sz) (wX cI (D.1 99) zz g ad u.1 u.2.1 u.2.2)) (va_A (wX cI (D.1 99) zz g ad cn In Fn) sz)) 0 0 (va_A (wX cI (D.1 99) zz g ad cn In Fn) sz) := by
  refine en_x (fun A => (va_Qi (fun (r : Int32) (u : (Nat → Nat) × (Nat → Int32) × (Nat → Nat → Int32)) => (fun (r : Int32) (c2 : Nat → Nat) (I2 : Nat → Int32) (F2 : Nat → Nat → Int32) => (∀ k : Nat, k ∉ [] → I2 k = In k) ∧ ((r = nI (cn 2) ∧ (cn 2 < 20) ∧ (va_up cn 2 (cn 2 + 1)) = c2 ∧ Fn = F2) ∨ (r = -1 ∧ (¬ cn 2 < 20) ∧ cn = c2 ∧ Fn = F2))) r u.1 u.2.1 u.2.2) (fun (u : (Nat → Nat) × (Nat → Int32) × (Nat → Nat → Int32)) (t : State) => va_P D vwCl (wX cI (D.1 99) zz g ad u.1 u.2.1 u.2.2) t.heap ∧ va_D A (wX cI (D.1 99) zz g ad u.1 u.2.1 u.2.2)) A)) rfl rfl pn_RX11 (Nat.le_of_ble_eq_true rfl) (fun p e s m below meth c A hx hb hml hown S hr hlocks hnm hA hP hK hD hXS hS ls hl => ?_)
  have hl : lv_has ls 1 [(0, .ref (g 0))] := hl
  have hb_cn : Hid (CBX cn) := hB
  replace hB : CBXh cn := hB
  refine lv_aload_n hx hb (oc_42 0 shX11_drum_0) rfl (lvA0 hl) ?_
  refine gf_RX11_502 S hK hP 0 xo_0 (v := .int (nI (cn 2))) rfl (oc_180 1 (aq_1 shX11_drum_0) uw_1_246) ?_
  refine lv_bipush (v := 20) hx hb (oc_16 4 (aq_4 shX11_drum_0) sgb_20) kbc_20 ?_
  have : (nI (cn 2)).toInt = (((cn 2) : Nat) : Int) := nI_toInt (by (first | omega | (have zz0 := Hid.u hb_cn; omega)))
  refine lv_icmp_lt (tgt := 11) hx hb (oc_161 6 (aq_6 shX11_drum_0) sgw_0_5) rfl (fun c_1 => ?_) (fun c_1 => ?_)
  ·
    have tc_1 : ((nI (cn 2)).toInt : Int) < 20 := Int32.lt_iff_toInt_lt.mp c_1
    refine lv_aload_n hx hb (oc_42 11 (aq_11 shX11_drum_0)) rfl (lvA0 hl) ?_
    refine lv_dup hx hb (oc_89 12 (aq_12 shX11_drum_0)) rfl ?_
    refine gf_RX11_502 S hK hP 0 xo_0 (v := .int (nI (cn 2))) rfl (oc_180 13 (aq_13 shX11_drum_0) uw_1_246) ?_
    refine lv_iconst (v := 1) hx hb (oc_4 16 (aq_16 shX11_drum_0)) kic_1 ?_
    refine lv_iadd hx hb (oc_96 17 (aq_17 shX11_drum_0)) ?_
    refine lv_topi (fun y_2 ey_2 => ?_)
    obtain rfl : y_2 = (nI ((cn 2) + 1)) := ey_2.trans (nI_add (cn 2) 1)
    refine pf_RX11_502 S hK hP hD hS 0 xo_0 (v := .int (nI ((cn 2) + 1))) (Nat.le_of_ble_eq_true rfl) rfl rfl (oc_181 18 (aq_18 shX11_drum_0) uw_1_246) (fun H locs hP hD hS => ?_)
    have hP : va_P D vwCl (wX cI (D.1 99) zz g ad (va_up cn 2 ((cn 2) + 1)) In Fn) H := va_P_eq (xsf_0_2) hP
    have hD : va_D A (wX cI (D.1 99) zz g ad (va_up cn 2 ((cn 2) + 1)) In Fn) := va_D_eq (xsf_0_2) hD
    refine lv_aload_n hx hb (oc_42 21 (aq_21 shX11_drum_0)) rfl (lvA0 hl) ?_
    refine gf_RX11_502 S hK hP 0 xo_0 (v := .int (nI ((cn 2) + 1))) rfl (oc_180 22 (aq_22 shX11_drum_0) uw_1_246) ?_
    refine lv_iconst (v := 1) hx hb (oc_4 25 shX11_drum_25) kic_1 ?_
    refine lv_isub hx hb (oc_100 26 (aq_1 shX11_drum_25)) ?_
    refine lv_topi (fun y_3 ey_3 => ?_)
    obtain rfl : y_3 = (nI (cn 2)) := ey_3.trans (nI_sub (b := 1) (by (first | omega | (have zz0 := Hid.u hb_cn; omega))))
    exact W.iret (v := (nI (cn 2))) hx hb hr (fun t ht hW => ⟨⟨(nI (cn 2)), ((va_up cn 2 ((cn 2) + 1)), In, Fn), rfl, ⟨(show Fr [2] [] [] cn In Fn (va_up cn 2 ((cn 2) + 1)) In Fn from Fr.mo (Fr.c 2 (Fr.rf (cn := cn) (In := In) (Fn := Fn))) (sbl rfl) (sbl rfl) (sbl rfl)).2.1, (Or.inl ⟨rfl, (by first | trivial | (first | omega | (have zz0 := Hid.u hb_cn; omega)) | (simp only [zd0]; (first | omega | (have zz0 := Hid.u hb_cn; omega)))), (by first | rfl | simp only [zd0] | simp only [zd0, zd1]), (by first | rfl | simp only [zd0] | simp only [zd0, zd1])⟩)⟩, by rw [ht]; exact hP, hD⟩, hS.F ht⟩) hS.2.2 (oc_172 27 (aq_2 shX11_drum_25))
  ·
    have tc_1 : (20 : Int) ≤ (nI (cn 2)).toInt := Int32.le_iff_toInt_le.mp (Int32.not_lt.mp c_1)
    refine lv_iconst (v := (-1)) hx hb (oc_2 9 (aq_9 shX11_drum_0)) kic_m1 ?_
    exact W.iret (v := (-1)) hx hb hr (fun t ht hW => ⟨⟨(-1), (cn, In, Fn), rfl, ⟨(show Fr [2] [] [] cn In Fn cn In Fn from Fr.mo (Fr.rf (cn := cn) (In := In) (Fn := Fn)) (sbl rfl) (sbl rfl) (sbl rfl)).2.1, (Or.inr ⟨rfl, (by first | trivial | (first | omega | (have zz0 := Hid.u hb_cn; omega)) | (simp only [zd0]; (first | omega | (have zz0 := Hid.u hb_cn; omega)))), (by first | rfl | simp only [zd0] | simp only [zd0, zd1]), (by first | rfl | simp only [zd0] | simp only [zd0, zd1])⟩)⟩, by rw [ht]; exact hP, hD⟩, hS.F ht⟩) hS.2.2 (oc_172 10 (aq_10 shX11_drum_0))
