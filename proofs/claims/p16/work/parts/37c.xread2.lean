

set_option maxRecDepth 100000 in
set_option maxHeartbeats 4000000 in
theorem q_Elikely (l : Launch) (D : va_G) (cI cB cZ : ClassId) (zz qq vv : Nat) (bt : Nat → Int32) (g : Nat → Nat) (ad : Nat → Nat → Nat) (cn : Nat → Nat) (In : Nat → Int32) (Fn : Nat → Nat → Int32) (v0 v1 : Int32) (hB : CBX cn) : Met l yX11_likely (CWS yX11_likely cX11_likely 4 (some .int)) (RM 4 0 0) (PBrx [.ref (g 0), .int v0, .int v1] D cI cB cZ zz qq vv bt (wX cI (D.1 99) zz g ad cn In Fn)) (vp_Si (fun r => ((0 ≤ v0.toInt ∧ v0.toInt < (cn 10 : Int) ∧ (Fn 104 v0.toInt.toNat).toInt ≤ v1.toInt ∧ 0 ≤ v1.toInt ∧ v1.toInt ≤ 399) ∧ r = (if (Fn 102 v0.toInt.toNat * (v1 - Fn 104 v0.toInt.toNat)) < Fn 103 v0.toInt.toNat then Fn 102 v0.toInt.toNat * (v1 - Fn 104 v0.toInt.toNat) else Fn 103 v0.toInt.toNat)) ∨ (¬ (0 ≤ v0.toInt ∧ v0.toInt < (cn 10 : Int) ∧ (Fn 104 v0.toInt.toNat).toInt ≤ v1.toInt ∧ 0 ≤ v1.toInt ∧ v1.toInt ≤ 399) ∧ r = -1))) 0 0 (fun _ => False) := by
  refine Met.ofW (cc := cX11_likely) (maxL := 4) (ret := (some .int)) (by decide) rfl ?_
  intro p e s m args below meth c s₁ B hml hv
  obtain ⟨rfl, hP, hK, hXS⟩ := hv
  have hS : va_S (fun _ => False) s.heap s.heap [] := va_S.rf
  have hx := B.exec
  have hb := B.bytes
  have hr := B.returns
  have hts := atoms_spec (ws := (CWS yX11_likely cX11_likely 4 (some .int))) B.pre
  have hown : s.vm.findClass RX11 = some m.cls := findClass_of_methodNamed B.named
  have hlocks := B.notSynchronized
  have S : SF p m c cX11_likely 4 s ([.ref (g 0), .int v0, .int v1]).toArray RX11 := ⟨hx, hb, hml, hown, fun w h => hts w (List.mem_cons_of_mem _ h)⟩
  have hl := lv_entry ([.ref (g 0), .int v0, .int v1]) (n := 4) (Nat.le_of_ble_eq_true rfl)
  rw [lg_entry_eq]
  generalize (lg_sl ([.ref (g 0), .int v0, .int v1]) ++ List.replicate (4 - (lg_sl ([.ref (g 0), .int v0, .int v1])).length) Slot.unset).toArray = ls at hl ⊢
  have hl : lv_has ls 4 [(0, .ref (g 0)), (1, .int v0), (2, .int v1)] := hl
  have hb_cn : Hid (CBX cn) := hB
  replace hB : CBXh cn := hB
  refine lv_aload_n hx hb dX11_likely_0 rfl (lvA0 hl) ?_
  refine lv_iload_n hx hb dX11_likely_1 rfl (lvA1 hl) ?_
  refine va_csq (runV_rxa (As := [.int v0]) (rest := []) S (q_XkitchenAt l D cI cB cZ zz qq vv bt g ad cn In Fn v0 hB) kV_RX11_114 hK hXS hS hP 0 xo_0 rfl rfl ⟨Nat.le_of_ble_eq_true rfl, Nat.le_of_ble_eq_true rfl⟩ ⟨Nat.le_of_ble_eq_true rfl, Nat.le_of_ble_eq_true rfl⟩ rfl hl.1 rfl (Nat.le_of_ble_eq_true rfl) dX11_likely_2) (fun r_1 h_2 => ?_)
  rcases h_2 with ⟨mr_1, er_1, hr_1, rfl⟩ | ⟨hr_1, rfl⟩
  ·
    refine lv_astore_n (lv' := [(3, .ref (ad 10 mr_1)), (0, .ref (g 0)), (1, .int v0), (2, .int v1)]) hx hb dX11_likely_5 rfl hl (ltb rfl) rfl (fun ls hl => ?_)
    refine lv_aload_n hx hb dX11_likely_6 rfl (lvA0 hl) ?_
    refine lv_ifnull hx hb dX11_likely_7 ?_
    have zd0 : v0.toInt.toNat = mr_1 := by (first | omega | (have zz0 := Hid.u hb_cn; omega))
    refine lv_iload_n hx hb dX11_likely_10 rfl (lvA3 hl) ?_
    refine vp_callSi (runS_r (As := [.int v1]) (rest := []) S (q_l_isDay l D cI cB cZ v1) kS_RX11_99 hK hP [] rfl ⟨Nat.le_of_ble_eq_true rfl, Nat.le_of_ble_eq_true rfl⟩ ⟨Nat.le_of_ble_eq_true rfl, Nat.le_of_ble_eq_true rfl⟩ rfl hl.1 rfl (Nat.le_of_ble_eq_true rfl) dX11_likely_11) (fun r_3 h_4 => ?_)
    rcases h_4 with ⟨rfl, h_4⟩ | ⟨rfl, h_4⟩
    ·
      have h_4 : 0 ≤ v1.toInt ∧ v1.toInt ≤ 399 := h_4
      refine lv_if_eq (tgt := 25) hx hb dX11_likely_14 rfl (fun h => absurd h cq_eq_1_0) (fun _ => ?_)
      refine lv_iload_n hx hb dX11_likely_17 rfl (lvA3 hl) ?_
      refine lv_aload_n hx hb dX11_likely_18 rfl (lvA0 hl) ?_
      have kf_1 : mr_1 < cn 10 := by (first | omega | (have zz0 := Hid.u hb_cn; omega))
      refine gf_RX11_118 S hK hP _ (xf_0 kf_1) (v := .int ((Fn 104) mr_1)) rfl dX11_likely_19 ?_
      refine lv_icmp_ge (tgt := 27) hx hb dX11_likely_22 rfl (fun c_5 => ?_) (fun c_5 => ?_)
      ·
        have tc_5 : (((Fn 104) mr_1).toInt : Int) ≤ v1.toInt := Int32.le_iff_toInt_le.mp c_5
        refine lv_aload_n hx hb dX11_likely_27 rfl (lvA0 hl) ?_
        refine lv_iload_n hx hb dX11_likely_28 rfl (lvA3 hl) ?_
        refine lv_aload_n hx hb dX11_likely_29 rfl (lvA0 hl) ?_
        refine gf_RX11_118 S hK hP _ (xf_0 kf_1) (v := .int ((Fn 104) mr_1)) rfl dX11_likely_30 ?_
        refine vp_callSi (runV_rxa (As := [.int v1, .int ((Fn 104) mr_1)]) (rest := []) S (q_XfillOn l D cI cB cZ zz qq vv bt g ad cn In Fn mr_1 v1 ((Fn 104) mr_1) hB (by (first | omega | (have zz0 := Hid.u hb_cn; omega)))) kV_RX11_121 hK hXS hS hP _ (xf_0 kf_1) rfl rfl ⟨Nat.le_of_ble_eq_true rfl, Nat.le_of_ble_eq_true rfl⟩ ⟨Nat.le_of_ble_eq_true rfl, Nat.le_of_ble_eq_true rfl⟩ rfl hl.1 rfl (Nat.le_of_ble_eq_true rfl) dX11_likely_33) (fun r_6 h_7 => ?_)
        subst h_7
        exact W.iret (v := ((if ((Fn 102) mr_1 * (v1 - ((Fn 104) mr_1))) < (Fn 103) mr_1 then (Fn 102) mr_1 * (v1 - ((Fn 104) mr_1)) else (Fn 103) mr_1))) hx hb hr (fun t ht hW => ⟨((if ((Fn 102) mr_1 * (v1 - ((Fn 104) mr_1))) < (Fn 103) mr_1 then (Fn 102) mr_1 * (v1 - ((Fn 104) mr_1)) else (Fn 103) mr_1)), rfl, (Or.inl ⟨(by first | (first | omega | (have zz0 := Hid.u hb_cn; omega)) | (rw [zd0]; (first | omega | (have zz0 := Hid.u hb_cn; omega)))), by rw [zd0]⟩), ht⟩) (fun _ h => absurd h List.not_mem_nil) dX11_likely_36
      ·
        have tc_5 : (v1.toInt : Int) < ((Fn 104) mr_1).toInt := Int32.lt_iff_toInt_lt.mp (Int32.not_le.mp c_5)
        refine lv_iconst (v := (-1)) hx hb dX11_likely_25 kic_m1 ?_
        exact W.iret (v := (-1)) hx hb hr (fun t ht hW => ⟨(-1), rfl, (Or.inr ⟨(by first | (first | omega | (have zz0 := Hid.u hb_cn; omega)) | (rw [zd0]; (first | omega | (have zz0 := Hid.u hb_cn; omega)))), rfl⟩), ht⟩) (fun _ h => absurd h List.not_mem_nil) dX11_likely_26
    ·
      have h_4 : ¬ (0 ≤ v1.toInt ∧ v1.toInt ≤ 399) := h_4
      refine lv_if_eq (tgt := 25) hx hb dX11_likely_14 rfl (fun _ => ?_) (fun h => absurd h cq_eq_0_0)
      refine lv_iconst (v := (-1)) hx hb dX11_likely_25 kic_m1 ?_
      exact W.iret (v := (-1)) hx hb hr (fun t ht hW => ⟨(-1), rfl, (Or.inr ⟨(by first | (first | omega | (have zz0 := Hid.u hb_cn; omega)) | (rw [zd0]; (first | omega | (have zz0 := Hid.u hb_cn; omega)))), rfl⟩), ht⟩) (fun _ h => absurd h List.not_mem_nil) dX11_likely_26
  ·
    refine lv_astore_nN (lv' := [(3, .null), (0, .ref (g 0)), (1, .int v0), (2, .int v1)]) hx hb dX11_likely_5 rfl hl (ltb rfl) rfl (fun ls hl => ?_)
    refine lv_aload_nN hx hb dX11_likely_6 rfl (lvA0 hl) ?_
    refine lv_ifnullN (tgt := 25) hx hb dX11_likely_7 rfl ?_
    refine lv_iconst (v := (-1)) hx hb dX11_likely_25 kic_m1 ?_
    exact W.iret (v := (-1)) hx hb hr (fun t ht hW => ⟨(-1), rfl, (Or.inr ⟨(by (first | omega | (have zz0 := Hid.u hb_cn; omega))), rfl⟩), ht⟩) (fun _ h => absurd h List.not_mem_nil) dX11_likely_26
set_option maxRecDepth 100000 in
set_option maxHeartbeats 4000000 in
theorem q_Emissing (l : Launch) (D : va_G) (cI cB cZ : ClassId) (zz qq vv : Nat) (bt : Nat → Int32) (g : Nat → Nat) (ad : Nat → Nat → Nat) (cn : Nat → Nat) (In : Nat → Int32) (Fn : Nat → Nat → Int32) (v0 : Int32) (hB : CBX cn) : Met l yX11_missing (CWS yX11_missing cX11_missing 3 (some .int)) (RM 4 0 0) (PBrx [.ref (g 0), .int v0] D cI cB cZ zz qq vv bt (wX cI (D.1 99) zz g ad cn In Fn)) (vp_Si (fun r => ((0 ≤ v0.toInt ∧ v0.toInt < (cn 11 : Int)) ∧ r = Fn 128 v0.toInt.toNat) ∨ (¬ (0 ≤ v0.toInt ∧ v0.toInt < (cn 11 : Int)) ∧ r = -1))) 0 0 (fun _ => False) := by
  refine Met.ofW (cc := cX11_missing) (maxL := 3) (ret := (some .int)) (by decide) rfl ?_
  intro p e s m args below meth c s₁ B hml hv
  obtain ⟨rfl, hP, hK, hXS⟩ := hv
  have hS : va_S (fun _ => False) s.heap s.heap [] := va_S.rf
  have hx := B.exec
  have hb := B.bytes
  have hr := B.returns
  have hts := atoms_spec (ws := (CWS yX11_missing cX11_missing 3 (some .int))) B.pre
  have hown : s.vm.findClass RX11 = some m.cls := findClass_of_methodNamed B.named
  have hlocks := B.notSynchronized
  have S : SF p m c cX11_missing 3 s ([.ref (g 0), .int v0]).toArray RX11 := ⟨hx, hb, hml, hown, fun w h => hts w (List.mem_cons_of_mem _ h)⟩
  have hl := lv_entry ([.ref (g 0), .int v0]) (n := 3) (Nat.le_of_ble_eq_true rfl)
  rw [lg_entry_eq]
  generalize (lg_sl ([.ref (g 0), .int v0]) ++ List.replicate (3 - (lg_sl ([.ref (g 0), .int v0])).length) Slot.unset).toArray = ls at hl ⊢
  have hl : lv_has ls 3 [(0, .ref (g 0)), (1, .int v0)] := hl
  have hb_cn : Hid (CBX cn) := hB
  replace hB : CBXh cn := hB
  refine lv_aload_n hx hb dX11_missing_0 rfl (lvA0 hl) ?_
  refine lv_iload_n hx hb dX11_missing_1 rfl (lvA1 hl) ?_
  refine va_csq (runV_rxa (As := [.int v0]) (rest := []) S (q_XloadAt l D cI cB cZ zz qq vv bt g ad cn In Fn v0 hB) kV_RX11_148 hK hXS hS hP 0 xo_0 rfl rfl ⟨Nat.le_of_ble_eq_true rfl, Nat.le_of_ble_eq_true rfl⟩ ⟨Nat.le_of_ble_eq_true rfl, Nat.le_of_ble_eq_true rfl⟩ rfl hl.1 rfl (Nat.le_of_ble_eq_true rfl) dX11_missing_2) (fun r_1 h_2 => ?_)
  rcases h_2 with ⟨mr_1, er_1, hr_1, rfl⟩ | ⟨hr_1, rfl⟩
  ·
    refine lv_astore_n (lv' := [(2, .ref (ad 11 mr_1)), (0, .ref (g 0)), (1, .int v0)]) hx hb dX11_missing_5 rfl hl (ltb rfl) rfl (fun ls hl => ?_)
    refine lv_aload_n hx hb dX11_missing_6 rfl (lvA0 hl) ?_
    refine lv_ifnonnull (tgt := 14) hx hb dX11_missing_7 rfl ?_
    have zd0 : v0.toInt.toNat = mr_1 := by (first | omega | (have zz0 := Hid.u hb_cn; omega))
    refine lv_aload_n hx hb dX11_missing_14 rfl (lvA0 hl) ?_
    have kf_1 : mr_1 < cn 11 := by (first | omega | (have zz0 := Hid.u hb_cn; omega))
    refine gf_RX11_141 S hK hP _ (xf_1 kf_1) (v := .int ((Fn 128) mr_1)) rfl dX11_missing_15 ?_
    exact W.iret (v := ((Fn 128) mr_1)) hx hb hr (fun t ht hW => ⟨((Fn 128) mr_1), rfl, (Or.inl ⟨(by first | (first | omega | (have zz0 := Hid.u hb_cn; omega)) | (rw [zd0]; (first | omega | (have zz0 := Hid.u hb_cn; omega)))), by rw [zd0]⟩), ht⟩) (fun _ h => absurd h List.not_mem_nil) dX11_missing_18
  ·
    refine lv_astore_nN (lv' := [(2, .null), (0, .ref (g 0)), (1, .int v0)]) hx hb dX11_missing_5 rfl hl (ltb rfl) rfl (fun ls hl => ?_)
    refine lv_aload_nN hx hb dX11_missing_6 rfl (lvA0 hl) ?_
    refine lv_ifnonnullN hx hb dX11_missing_7 ?_
    refine lv_iconst (v := (-1)) hx hb dX11_missing_10 kic_m1 ?_
    refine lv_goto (tgt := 18) hx hb dX11_missing_11 rfl ?_
    exact W.iret (v := (-1)) hx hb hr (fun t ht hW => ⟨(-1), rfl, (Or.inr ⟨(by (first | omega | (have zz0 := Hid.u hb_cn; omega))), rfl⟩), ht⟩) (fun _ h => absurd h List.not_mem_nil) dX11_missing_18
set_option maxRecDepth 100000 in
set_option maxHeartbeats 4000000 in
theorem q_Eblocked (l : Launch) (D : va_G) (cI cB cZ : ClassId) (zz qq vv : Nat) (bt : Nat → Int32) (g : Nat → Nat) (ad : Nat → Nat → Nat) (cn : Nat → Nat) (In : Nat → Int32) (Fn : Nat → Nat → Int32) (v0 : Int32) (sz : Nat) (hB : CBX cn) : Met l yX11_blocked (CWS yX11_blocked cX11_blocked 3 (some .int)) (RM 3 0 0) (PBx [.ref (g 0), .int v0] D cI cB cZ zz qq vv bt (wX cI (D.1 99) zz g ad cn In Fn) sz) (va_Qi (fun (r : Int32) (u : (Nat → Nat) × (Nat → Int32) × (Nat → Nat → Int32)) => (fun r c2 I2 F2 => (∀ k : Nat, k ∉ [] → I2 k = In k) ∧ ((r = (Fn 172 v0.toInt.toNat + 1) ∧ (0 ≤ v0.toInt ∧ v0.toInt < (cn 14 : Int)) ∧ cn = c2 ∧ (va_up Fn 172 (upd (Fn 172) v0.toInt.toNat (Fn 172 v0.toInt.toNat + 1))) = F2) ∨ (r = -1 ∧ (¬ (0 ≤ v0.toInt ∧ v0.toInt < (cn 14 : Int))) ∧ cn = c2 ∧ Fn = F2))) r u.1 u.2.1 u.2.2) (fun (u : (Nat → Nat) × (Nat → Int32) × (Nat → Nat → Int32)) (t : State) => va_P D vwCl (wX cI (D.1 99) zz g ad u.1 u.2.1 u.2.2) t.heap ∧ va_D (va_A (wX cI (D.1 99) zz g ad cn In Fn) sz) (wX cI (D.1 99) zz g ad u.1 u.2.1 u.2.2)) (va_A (wX cI (D.1 99) zz g ad cn In Fn) sz)) 0 0 (va_A (wX cI (D.1 99) zz g ad cn In Fn) sz) := by
  refine Met.ofW (cc := cX11_blocked) (maxL := 3) (ret := (some .int)) (by decide) rfl ?_
  intro p e s m args below meth c s₁ B hml hv
  obtain ⟨rfl, hsz, hP, hK, hD0, hXS⟩ := hv
  have hx := B.exec
  have hb := B.bytes
  have hr := B.returns
  have hts := atoms_spec (ws := (CWS yX11_blocked cX11_blocked 3 (some .int))) B.pre
  have hown : s.vm.findClass RX11 = some m.cls := findClass_of_methodNamed B.named
  have hlocks := B.notSynchronized
  have S : SF p m c cX11_blocked 3 s ([.ref (g 0), .int v0]).toArray RX11 := ⟨hx, hb, hml, hown, fun w h => hts w (List.mem_cons_of_mem _ h)⟩
  subst hsz
  have hD := hD0.self (sz := s.heap.size)
  generalize hAe : va_A (wX cI (D.1 99) zz g ad cn In Fn) s.heap.size = A at hD hXS ⊢
  have hA : ∀ q : Nat, s.heap.size ≤ q → A q := fun q h => by rw [← hAe]; exact Or.inr h
  have hS : va_S A s.heap s.heap [] := va_S.rf
  have hl := lv_entry ([.ref (g 0), .int v0]) (n := 3) (Nat.le_of_ble_eq_true rfl)
  rw [lg_entry_eq]
  generalize (lg_sl ([.ref (g 0), .int v0]) ++ List.replicate (3 - (lg_sl ([.ref (g 0), .int v0])).length) Slot.unset).toArray = ls at hl ⊢
  have hl : lv_has ls 3 [(0, .ref (g 0)), (1, .int v0)] := hl
  have hb_cn : Hid (CBX cn) := hB
  replace hB : CBXh cn := hB
  refine lv_iload_n hx hb dX11_blocked_0 rfl (lvA1 hl) ?_
  refine lv_if_lt (tgt := 15) hx hb dX11_blocked_1 rfl (fun c_1 => ?_) (fun c_1 => ?_)
  ·
    have tc_1 : (v0.toInt : Int) < 0 := Int32.lt_iff_toInt_lt.mp c_1
    refine lv_iconst (v := (-1)) hx hb dX11_blocked_15 kic_m1 ?_
    exact W.iret (v := (-1)) hx hb hr (fun t ht hW => ⟨⟨(-1), (cn, In, Fn), rfl, ⟨(show Fr [] [] [172] cn In Fn cn In Fn from Fr.mo (Fr.rf (cn := cn) (In := In) (Fn := Fn)) (sbl rfl) (sbl rfl) (sbl rfl)).2.1, (Or.inr ⟨rfl, (by first | trivial | (first | omega | (have zz0 := Hid.u hb_cn; omega)) | (simp only [zd0]; (first | omega | (have zz0 := Hid.u hb_cn; omega)))), (by first | rfl | simp only [zd0] | simp only [zd0, zd1]), (by first | rfl | simp only [zd0] | simp only [zd0, zd1])⟩)⟩, by rw [ht]; exact hP, hD⟩, hS.F ht⟩) hS.2.2 dX11_blocked_16
  ·
    have tc_1 : (0 : Int) ≤ v0.toInt := Int32.le_iff_toInt_le.mp (Int32.not_lt.mp c_1)
    refine lv_iload_n hx hb dX11_blocked_4 rfl (lvA1 hl) ?_
    refine lv_aload_n hx hb dX11_blocked_5 rfl (lvA0 hl) ?_
    refine gf_RX11_74 S hK hP 0 xo_0 (v := .ref (g 14)) rfl dX11_blocked_6 ?_
    refine vp_callSi (runV_r (As := []) (rest := [.int v0]) S (q_l_size l D cI cB cZ (g 14) (if (cn 14) = 0 then zz else ad 2 4) (In 14) (nI (cn 14))) kV_RX11_84 hK hP [28] (one_is xo_28) 28 xo_28 rfl rfl ⟨Nat.le_of_ble_eq_true rfl, Nat.le_of_ble_eq_true rfl⟩ ⟨Nat.le_of_ble_eq_true rfl, Nat.le_of_ble_eq_true rfl⟩ rfl hl.1 rfl (Nat.le_of_ble_eq_true rfl) dX11_blocked_9) (fun r_2 h_3 => ?_)
    subst h_3
    have : (nI (cn 14)).toInt = (((cn 14) : Nat) : Int) := nI_toInt (by (first | omega | (have zz0 := Hid.u hb_cn; omega)))
    refine lv_icmp_lt (tgt := 17) hx hb dX11_blocked_12 rfl (fun c_4 => ?_) (fun c_4 => ?_)
    ·
      have tc_4 : (v0.toInt : Int) < (nI (cn 14)).toInt := Int32.lt_iff_toInt_lt.mp c_4
      obtain ⟨d0, hd0, rfl⟩ := nI_of (x := v0) (fun q => by have := Int32.lt_iff_toInt_lt.mp q; have e : (0 : Int32).toInt = 0 := rfl; (first | omega | (have zz0 := Hid.u hb_cn; omega)))
      have td0 : (nI d0).toInt = (d0 : Int) := nI_toInt hd0
      have zd0 : (nI d0).toInt.toNat = d0 := by (first | omega | (have zz0 := Hid.u hb_cn; omega))
      refine lv_aload_n hx hb dX11_blocked_17 rfl (lvA0 hl) ?_
      refine gf_RX11_74 S hK hP 0 xo_0 (v := .ref (g 14)) rfl dX11_blocked_18 ?_
      refine lv_iload_n hx hb dX11_blocked_21 rfl (lvA1 hl) ?_
      refine va_csq (runV_rx (As := [.int (nI d0)]) (rest := []) S (q_l_get l D cI cB cZ zz qq vv bt (g 14) (ad 2 4) (cn 24) (cn 14) d0 (ad 14 d0) (In 14) (fun i => if i < (cn 14) then some (ad 14 i) else none) (by (first | omega | (have zz0 := Hid.u hb_cn; omega))) (if_pos (by (first | omega | (have zz0 := Hid.u hb_cn; omega)))) (by (first | omega | (have zz0 := Hid.u hb_cn; omega))) (by (first | omega | (have zz0 := Hid.u hb_cn; omega)))) kV_RX11_87 hK hXS hS hP _ (two_is (xl_4 (by (first | omega | (have zz0 := Hid.u hb_cn; omega)))) (xf_17 (k := 0) (by (first | omega | (have zz0 := Hid.u hb_cn; omega))))) (va_recv hK.1 hP (ci := 0) rfl xo_28) ⟨Nat.le_of_ble_eq_true rfl, Nat.le_of_ble_eq_true rfl⟩ ⟨Nat.le_of_ble_eq_true rfl, Nat.le_of_ble_eq_true rfl⟩ rfl hl.1 rfl (Nat.le_of_ble_eq_true rfl) dX11_blocked_22) (fun r_5 h_6 => ?_)
      subst h_6
      have kf_1 : d0 < cn 14 := by (first | omega | (have zz0 := Hid.u hb_cn; omega))
      refine va_castS hx hb hown (S.2.2.2.2 _ (wk5_17 5 rfl rfl)) (xclass hK.1 (ci := 7) rfl) (va_recv hK.1 hP (ci := 7) rfl (xf_4 kf_1)) dX11_blocked_25 ?_
      refine lv_astore_n (lv' := [(2, .ref (ad 14 d0)), (0, .ref (g 0)), (1, .int (nI d0))]) hx hb dX11_blocked_28 rfl hl (ltb rfl) rfl (fun ls hl => ?_)
      refine lv_aload_n hx hb dX11_blocked_29 rfl (lvA0 hl) ?_
      refine lv_dup hx hb dX11_blocked_30 rfl ?_
      refine gf_RX11_477 S hK hP _ (xf_4 kf_1) (v := .int ((Fn 172) d0)) rfl dX11_blocked_31 ?_
      refine lv_iconst (v := 1) hx hb dX11_blocked_34 kic_1 ?_
      refine lv_iadd hx hb dX11_blocked_35 ?_
      refine pf_RX11_477 S hK hP hD hS _ (xf_4 kf_1) (v := .int (((Fn 172) d0) + 1)) (Nat.le_of_ble_eq_true rfl) rfl rfl dX11_blocked_36 (fun H locs hP hD hS => ?_)
      have hP : va_P D vwCl (wX cI (D.1 99) zz g ad cn In (va_up Fn 172 (upd (Fn 172) d0 (((Fn 172) d0) + 1)))) H := va_P_eq (xs_172 (by (first | omega | (have zz0 := Hid.u hb_cn; omega)))) hP
      have hD : va_D A (wX cI (D.1 99) zz g ad cn In (va_up Fn 172 (upd (Fn 172) d0 (((Fn 172) d0) + 1)))) := va_D_eq (xs_172 (by (first | omega | (have zz0 := Hid.u hb_cn; omega)))) hD
      refine lv_aload_n hx hb dX11_blocked_39 rfl (lvA0 hl) ?_
      refine gf_RX11_477 S hK hP _ (xf_4 kf_1) (v := .int ((upd (Fn 172) d0 (((Fn 172) d0) + 1)) d0)) rfl dX11_blocked_40 ?_
      refine lv_topi (fun y_7 ey_7 => ?_)
      obtain rfl : y_7 = ((Fn 172) d0 + 1) := ey_7.trans (upd_self _ _ _)
      exact W.iret (v := ((Fn 172) d0 + 1)) hx hb hr (fun t ht hW => ⟨⟨((Fn 172) d0 + 1), (cn, In, (va_up Fn 172 (upd (Fn 172) d0 (((Fn 172) d0) + 1)))), rfl, ⟨(show Fr [] [] [172] cn In Fn cn In (va_up Fn 172 (upd (Fn 172) d0 (((Fn 172) d0) + 1))) from Fr.mo (Fr.f 172 (Fr.rf (cn := cn) (In := In) (Fn := Fn))) (sbl rfl) (sbl rfl) (sbl rfl)).2.1, (Or.inl ⟨by simp only [zd0], (by first | trivial | (first | omega | (have zz0 := Hid.u hb_cn; omega)) | (simp only [zd0]; (first | omega | (have zz0 := Hid.u hb_cn; omega)))), (by first | rfl | simp only [zd0] | simp only [zd0, zd1]), (by first | rfl | simp only [zd0] | simp only [zd0, zd1])⟩)⟩, by rw [ht]; exact hP, hD⟩, hS.F ht⟩) hS.2.2 dX11_blocked_43
    ·
      have tc_4 : ((nI (cn 14)).toInt : Int) ≤ v0.toInt := Int32.le_iff_toInt_le.mp (Int32.not_lt.mp c_4)
      refine lv_iconst (v := (-1)) hx hb dX11_blocked_15 kic_m1 ?_
      exact W.iret (v := (-1)) hx hb hr (fun t ht hW => ⟨⟨(-1), (cn, In, Fn), rfl, ⟨(show Fr [] [] [172] cn In Fn cn In Fn from Fr.mo (Fr.rf (cn := cn) (In := In) (Fn := Fn)) (sbl rfl) (sbl rfl) (sbl rfl)).2.1, (Or.inr ⟨rfl, (by first | trivial | (first | omega | (have zz0 := Hid.u hb_cn; omega)) | (simp only [zd0]; (first | omega | (have zz0 := Hid.u hb_cn; omega)))), (by first | rfl | simp only [zd0] | simp only [zd0, zd1]), (by first | rfl | simp only [zd0] | simp only [zd0, zd1])⟩)⟩, by rw [ht]; exact hP, hD⟩, hS.F ht⟩) hS.2.2 dX11_blocked_16
set_option maxRecDepth 100000 in
set_option maxHeartbeats 4000000 in
theorem q_Efetch (l : Launch) (D : va_G) (cI cB cZ : ClassId) (zz qq vv : Nat) (bt : Nat → Int32) (g : Nat → Nat) (ad : Nat → Nat → Nat) (cn : Nat → Nat) (In : Nat → Int32) (Fn : Nat → Nat → Int32) (v0 v1 v2 v3 v4 v5 : Int32) (sz : Nat) (hB : CBX cn) : Met l yX11_fetch (CWS yX11_fetch cX11_fetch 9 (some .int)) (RM 8 2 110) (PBx [.ref (g 0), .int v0, .int v1, .int v2, .int v3, .int v4, .int v5] D cI cB cZ zz qq vv bt (wX cI (D.1 99) zz g ad cn In Fn) sz) (va_Qi (fun (r : Int32) (u : (Nat → Nat → Nat) × (Nat → Nat) × (Nat → Int32) × (Nat → Nat → Int32)) => (fun r a2 c2 I2 F2 => (r = -1 ∧ (¬ ∃ m : Nat, v0.toInt = (m : Int) ∧ m < cn 10 ∧ (Fn 104 m).toInt ≤ v1.toInt ∧ v1.toInt ≤ (cn 0 : Int) ∧ v1.toInt ≤ v5.toInt ∧ v5.toInt ≤ 399 ∧ 0 ≤ v2.toInt ∧ v2.toInt ≤ 400 ∧ 0 ≤ v3.toInt ∧ v3.toInt ≤ 1000 ∧ 0 ≤ v4.toInt ∧ v4.toInt ≤ 1000 ∧ cn 11 < 60) ∧ ad = a2 ∧ cn = c2 ∧ In = I2 ∧ Fn = F2) ∨ (r = nI (cn 11) ∧ ∃ (q z c : Nat) (y : Int32) (m : Nat), (v0.toInt = (m : Int) ∧ m < cn 10 ∧ (Fn 104 m).toInt ≤ v1.toInt ∧ v1.toInt ≤ (cn 0 : Int) ∧ v1.toInt ≤ v5.toInt ∧ v5.toInt ≤ 399 ∧ 0 ≤ v2.toInt ∧ v2.toInt ≤ 400 ∧ 0 ≤ v3.toInt ∧ v3.toInt ≤ 1000 ∧ 0 ≤ v4.toInt ∧ v4.toInt ≤ 1000 ∧ cn 11 < 60) ∧ (cn 11 < c ∧ c ≤ 100) ∧ (adP ad 11 (cn 11) q 1 z) = a2 ∧ (va_up (va_up cn 11 ((cn 11) + 1)) 21 c) = c2 ∧ (va_up In 11 y) = I2 ∧ (va_up (va_up (va_up (va_up (va_up (va_up (va_up (va_up (va_up (va_up (va_up (va_up (va_up Fn 104 (upd (Fn 104) m v1)) 106 (upd (Fn 106) m (Fn 106 m + v2))) 29 (putM (Fn 29) 400 v1 (atM (Fn 29) 400 v1 + v2))) 120 (upd ((va_up (va_up (va_up Fn 104 (upd (Fn 104) m v1)) 106 (upd (Fn 106) m (Fn 106 m + v2))) 29 (putM (Fn 29) 400 v1 (atM (Fn 29) 400 v1 + v2))) 120) (cn 11) v0)) 121 (upd ((va_up (va_up (va_up Fn 104 (upd (Fn 104) m v1)) 106 (upd (Fn 106) m (Fn 106 m + v2))) 29 (putM (Fn 29) 400 v1 (atM (Fn 29) 400 v1 + v2))) 121) (cn 11) v1)) 122 (upd ((va_up (va_up (va_up Fn 104 (upd (Fn 104) m v1)) 106 (upd (Fn 106) m (Fn 106 m + v2))) 29 (putM (Fn 29) 400 v1 (atM (Fn 29) 400 v1 + v2))) 122) (cn 11) v2)) 123 (upd ((va_up (va_up (va_up Fn 104 (upd (Fn 104) m v1)) 106 (upd (Fn 106) m (Fn 106 m + v2))) 29 (putM (Fn 29) 400 v1 (atM (Fn 29) 400 v1 + v2))) 123) (cn 11) v3)) 124 (upd ((va_up (va_up (va_up Fn 104 (upd (Fn 104) m v1)) 106 (upd (Fn 106) m (Fn 106 m + v2))) 29 (putM (Fn 29) 400 v1 (atM (Fn 29) 400 v1 + v2))) 124) (cn 11) v4)) 125 (upd ((va_up (va_up (va_up Fn 104 (upd (Fn 104) m v1)) 106 (upd (Fn 106) m (Fn 106 m + v2))) 29 (putM (Fn 29) 400 v1 (atM (Fn 29) 400 v1 + v2))) 125) (cn 11) v5)) 126 (upd ((va_up (va_up (va_up Fn 104 (upd (Fn 104) m v1)) 106 (upd (Fn 106) m (Fn 106 m + v2))) 29 (putM (Fn 29) 400 v1 (atM (Fn 29) 400 v1 + v2))) 126) (cn 11) (Fn 104 m))) 127 (upd ((va_up (va_up (va_up Fn 104 (upd (Fn 104) m v1)) 106 (upd (Fn 106) m (Fn 106 m + v2))) 29 (putM (Fn 29) 400 v1 (atM (Fn 29) 400 v1 + v2))) 127) (cn 11) (Fn 106 m))) 128 (upd ((va_up (va_up (va_up Fn 104 (upd (Fn 104) m v1)) 106 (upd (Fn 106) m (Fn 106 m + v2))) 29 (putM (Fn 29) 400 v1 (atM (Fn 29) 400 v1 + v2))) 128) (cn 11) (if 0 < ((if (Fn 102 m * (v1 - Fn 104 m)) < Fn 103 m then Fn 102 m * (v1 - Fn 104 m) else Fn 103 m) - v2) - (if (Fn 102 m * (v1 - Fn 104 m)) < Fn 103 m then Fn 102 m * (v1 - Fn 104 m) else Fn 103 m) / 10 then ((if (Fn 102 m * (v1 - Fn 104 m)) < Fn 103 m then Fn 102 m * (v1 - Fn 104 m) else Fn 103 m) - v2) - (if (Fn 102 m * (v1 - Fn 104 m)) < Fn 103 m then Fn 102 m * (v1 - Fn 104 m) else Fn 103 m) / 10 else 0))) 129 (upd ((va_up (va_up (va_up Fn 104 (upd (Fn 104) m v1)) 106 (upd (Fn 106) m (Fn 106 m + v2))) 29 (putM (Fn 29) 400 v1 (atM (Fn 29) 400 v1 + v2))) 129) (cn 11) 0)) = F2)) r u.1 u.2.1 u.2.2.1 u.2.2.2) (fun (u : (Nat → Nat → Nat) × (Nat → Nat) × (Nat → Int32) × (Nat → Nat → Int32)) (t : State) => va_P D vwCl (wX cI (D.1 99) zz g u.1 u.2.1 u.2.2.1 u.2.2.2) t.heap ∧ va_D (va_A (wX cI (D.1 99) zz g ad cn In Fn) sz) (wX cI (D.1 99) zz g u.1 u.2.1 u.2.2.1 u.2.2.2)) (va_A (wX cI (D.1 99) zz g ad cn In Fn) sz)) 2 110 (va_A (wX cI (D.1 99) zz g ad cn In Fn) sz) := by
  refine Met.ofW (cc := cX11_fetch) (maxL := 9) (ret := (some .int)) (by decide) rfl ?_
  intro p e s m args below meth c s₁ B hml hv
  obtain ⟨rfl, hsz, hP, hK, hD0, hXS⟩ := hv
  have hx := B.exec
  have hb := B.bytes
  have hr := B.returns
  have hts := atoms_spec (ws := (CWS yX11_fetch cX11_fetch 9 (some .int))) B.pre
  have hown : s.vm.findClass RX11 = some m.cls := findClass_of_methodNamed B.named
  have hlocks := B.notSynchronized
  have S : SF p m c cX11_fetch 9 s ([.ref (g 0), .int v0, .int v1, .int v2, .int v3, .int v4, .int v5]).toArray RX11 := ⟨hx, hb, hml, hown, fun w h => hts w (List.mem_cons_of_mem _ h)⟩
  subst hsz
  have hD := hD0.self (sz := s.heap.size)
  generalize hAe : va_A (wX cI (D.1 99) zz g ad cn In Fn) s.heap.size = A at hD hXS ⊢
  have hA : ∀ q : Nat, s.heap.size ≤ q → A q := fun q h => by rw [← hAe]; exact Or.inr h
  have hS : va_S A s.heap s.heap [] := va_S.rf
  have hl := lv_entry ([.ref (g 0), .int v0, .int v1, .int v2, .int v3, .int v4, .int v5]) (n := 9) (Nat.le_of_ble_eq_true rfl)
  rw [lg_entry_eq]
  generalize (lg_sl ([.ref (g 0), .int v0, .int v1, .int v2, .int v3, .int v4, .int v5]) ++ List.replicate (9 - (lg_sl ([.ref (g 0), .int v0, .int v1, .int v2, .int v3, .int v4, .int v5])).length) Slot.unset).toArray = ls at hl ⊢
  have hl : lv_has ls 9 [(0, .ref (g 0)), (1, .int v0), (2, .int v1), (3, .int v2), (4, .int v3), (5, .int v4), (6, .int v5)] := hl
  refine lv_aload_n hx hb dX11_fetch_0 rfl (lvA0 hl) ?_
  refine lv_iload_n hx hb dX11_fetch_1 rfl (lvA1 hl) ?_
  refine va_csq (runV_rxa (As := [.int v0]) (rest := []) S (q_XkitchenAt l D cI cB cZ zz qq vv bt g ad cn In Fn v0 hB) kV_RX11_114 hK hXS hS hP 0 xo_0 rfl rfl ⟨Nat.le_of_ble_eq_true rfl, Nat.le_of_ble_eq_true rfl⟩ ⟨Nat.le_of_ble_eq_true rfl, Nat.le_of_ble_eq_true rfl⟩ rfl hl.1 rfl (Nat.le_of_ble_eq_true rfl) dX11_fetch_2) (fun r_1 h_2 => ?_)
  rcases h_2 with ⟨mr_1, er_1, hr_1, rfl⟩ | ⟨hr_1, rfl⟩
  ·
    refine lv_astore (lv' := [(7, .ref (ad 10 mr_1)), (0, .ref (g 0)), (1, .int v0), (2, .int v1), (3, .int v2), (4, .int v3), (5, .int v4), (6, .int v5)]) hx hb dX11_fetch_5 hl (ltb rfl) rfl (fun ls hl => ?_)
    refine lv_aload hx hb dX11_fetch_7 (lvA0 hl) ?_
    refine lv_ifnull hx hb dX11_fetch_9 ?_
    refine lv_aload_n hx hb dX11_fetch_12 rfl (lvA1 hl) ?_
    refine gf_RX11_65 S hK hP 0 xo_0 (v := .ref (g 11)) rfl dX11_fetch_13 ?_
    refine vp_callSi (runV_r (As := []) (rest := []) S (q_l_size l D cI cB cZ (g 11) (if (cn 11) = 0 then zz else ad 2 1) (In 11) (nI (cn 11))) kV_RX11_84 hK hP [25] (one_is xo_25) 25 xo_25 rfl rfl ⟨Nat.le_of_ble_eq_true rfl, Nat.le_of_ble_eq_true rfl⟩ ⟨Nat.le_of_ble_eq_true rfl, Nat.le_of_ble_eq_true rfl⟩ rfl hl.1 rfl (Nat.le_of_ble_eq_true rfl) dX11_fetch_16) (fun r_3 h_4 => ?_)
    subst h_4
    refine lv_bipush (v := 60) hx hb dX11_fetch_19 kbc_60 ?_
    have : (nI (cn 11)).toInt = (((cn 11) : Nat) : Int) := nI_toInt (by omega)
    refine lv_icmp_ge (tgt := 87) hx hb dX11_fetch_21 rfl (fun c_5 => ?_) (fun c_5 => ?_)
    ·
      have tc_5 : (60 : Int) ≤ (nI (cn 11)).toInt := Int32.le_iff_toInt_le.mp c_5
      refine lv_iconst (v := (-1)) hx hb dX11_fetch_87 kic_m1 ?_
      refine W.widen (k := 2) (n := 110) (Nat.le_of_ble_eq_true rfl) (Nat.le_of_ble_eq_true rfl) ?_
      exact W.iret (v := (-1)) hx hb hr (fun t ht hW => ⟨⟨(-1), (ad, cn, In, Fn), rfl, (Or.inl ⟨rfl, by rintro ⟨m9, hm9⟩; first | omega | (have e9 : m9 = mr_1 := (by omega); subst e9; omega), rfl, rfl, rfl, rfl⟩), by rw [ht]; exact hP, hD⟩, hS.F ht⟩) hS.2.2 dX11_fetch_88
    ·
      have tc_5 : ((nI (cn 11)).toInt : Int) < 60 := Int32.lt_iff_toInt_lt.mp (Int32.not_le.mp c_5)
      refine lv_iload_n hx hb dX11_fetch_24 rfl (lvA3 hl) ?_
      refine lv_aload hx hb dX11_fetch_25 (lvA0 hl) ?_
      refine gf_RX11_118 S hK hP _ (xf_0 (by omega)) (v := .int ((Fn 104) mr_1)) rfl dX11_fetch_27 ?_
      refine lv_aload_n hx hb dX11_fetch_30 rfl (lvA1 hl) ?_
      refine gf_RX11_103 S hK hP 0 xo_0 (v := .int (nI (cn 0))) rfl dX11_fetch_31 ?_
      refine vp_callSi (runS_r (As := [.int v1, .int ((Fn 104) mr_1), .int (nI (cn 0))]) (rest := []) S (q_l_within l D cI cB cZ v1 ((Fn 104) mr_1) (nI (cn 0))) kS_RX11_80 hK hP [] rfl ⟨Nat.le_of_ble_eq_true rfl, Nat.le_of_ble_eq_true rfl⟩ ⟨Nat.le_of_ble_eq_true rfl, Nat.le_of_ble_eq_true rfl⟩ rfl hl.1 rfl (Nat.le_of_ble_eq_true rfl) dX11_fetch_34) (fun r_6 h_7 => ?_)
      have : (nI (cn 0)).toInt = (((cn 0) : Nat) : Int) := nI_toInt (by omega)
      rcases h_7 with ⟨rfl, h_7⟩ | ⟨rfl, h_7⟩
      ·
        have h_7 : ((Fn 104) mr_1).toInt ≤ v1.toInt ∧ v1.toInt ≤ (nI (cn 0)).toInt := h_7
        refine lv_if_eq (tgt := 87) hx hb dX11_fetch_37 rfl (fun h => absurd h cq_eq_1_0) (fun _ => ?_)
        refine lv_iload hx hb dX11_fetch_40 (lvA7 hl) ?_
        refine lv_iload_n hx hb dX11_fetch_42 rfl (lvA3 hl) ?_
        refine lv_sipush (v := 399) hx hb dX11_fetch_43 (by decide) ?_
        refine vp_callSi (runS_r (As := [.int v5, .int v1, .int 399]) (rest := []) S (q_l_within l D cI cB cZ v5 v1 399) kS_RX11_80 hK hP [] rfl ⟨Nat.le_of_ble_eq_true rfl, Nat.le_of_ble_eq_true rfl⟩ ⟨Nat.le_of_ble_eq_true rfl, Nat.le_of_ble_eq_true rfl⟩ rfl hl.1 rfl (Nat.le_of_ble_eq_true rfl) dX11_fetch_46) (fun r_8 h_9 => ?_)
        rcases h_9 with ⟨rfl, h_9⟩ | ⟨rfl, h_9⟩
        ·
          have h_9 : v1.toInt ≤ v5.toInt ∧ v5.toInt ≤ 399 := h_9
          refine lv_if_eq (tgt := 87) hx hb dX11_fetch_49 rfl (fun h => absurd h cq_eq_1_0) (fun _ => ?_)
          refine lv_iload_n hx hb dX11_fetch_52 rfl (lvA4 hl) ?_
          refine lv_iconst (v := 0) hx hb dX11_fetch_53 kic_0 ?_
          refine lv_sipush (v := 400) hx hb dX11_fetch_54 (by decide) ?_
          refine vp_callSi (runS_r (As := [.int v2, .int 0, .int 400]) (rest := []) S (q_l_within l D cI cB cZ v2 0 400) kS_RX11_80 hK hP [] rfl ⟨Nat.le_of_ble_eq_true rfl, Nat.le_of_ble_eq_true rfl⟩ ⟨Nat.le_of_ble_eq_true rfl, Nat.le_of_ble_eq_true rfl⟩ rfl hl.1 rfl (Nat.le_of_ble_eq_true rfl) dX11_fetch_57) (fun r_10 h_11 => ?_)
          rcases h_11 with ⟨rfl, h_11⟩ | ⟨rfl, h_11⟩
          ·
            have h_11 : 0 ≤ v2.toInt ∧ v2.toInt ≤ 400 := h_11
            refine lv_if_eq (tgt := 87) hx hb dX11_fetch_60 rfl (fun h => absurd h cq_eq_1_0) (fun _ => ?_)
            refine lv_iload hx hb dX11_fetch_63 (lvA5 hl) ?_
            refine lv_iconst (v := 0) hx hb dX11_fetch_65 kic_0 ?_
            refine lv_sipush (v := 1000) hx hb dX11_fetch_66 (by decide) ?_
            refine vp_callSi (runS_r (As := [.int v3, .int 0, .int 1000]) (rest := []) S (q_l_within l D cI cB cZ v3 0 1000) kS_RX11_80 hK hP [] rfl ⟨Nat.le_of_ble_eq_true rfl, Nat.le_of_ble_eq_true rfl⟩ ⟨Nat.le_of_ble_eq_true rfl, Nat.le_of_ble_eq_true rfl⟩ rfl hl.1 rfl (Nat.le_of_ble_eq_true rfl) dX11_fetch_69) (fun r_12 h_13 => ?_)
            rcases h_13 with ⟨rfl, h_13⟩ | ⟨rfl, h_13⟩
            ·
              have h_13 : 0 ≤ v3.toInt ∧ v3.toInt ≤ 1000 := h_13
              refine lv_if_eq (tgt := 87) hx hb dX11_fetch_72 rfl (fun h => absurd h cq_eq_1_0) (fun _ => ?_)
              refine lv_iload hx hb dX11_fetch_75 (lvA6 hl) ?_
              refine lv_iconst (v := 0) hx hb dX11_fetch_77 kic_0 ?_
              refine lv_sipush (v := 1000) hx hb dX11_fetch_78 (by decide) ?_
              refine vp_callSi (runS_r (As := [.int v4, .int 0, .int 1000]) (rest := []) S (q_l_within l D cI cB cZ v4 0 1000) kS_RX11_80 hK hP [] rfl ⟨Nat.le_of_ble_eq_true rfl, Nat.le_of_ble_eq_true rfl⟩ ⟨Nat.le_of_ble_eq_true rfl, Nat.le_of_ble_eq_true rfl⟩ rfl hl.1 rfl (Nat.le_of_ble_eq_true rfl) dX11_fetch_81) (fun r_14 h_15 => ?_)
              rcases h_15 with ⟨rfl, h_15⟩ | ⟨rfl, h_15⟩
              ·
                have h_15 : 0 ≤ v4.toInt ∧ v4.toInt ≤ 1000 := h_15
                refine lv_if_ne (tgt := 89) hx hb dX11_fetch_84 rfl (fun _ => ?_) (fun h => absurd h cq_eq_1_0)
                refine va_new (ci := 3) (fs := [.int 0, .int 0, .int 0, .int 0, .int 0, .int 0, .int 0, .int 0, .int 0, .int 0]) (C := RX2) (T := TX2) (N := 10) hx hb S.2.2.2.2 hin_RX2 tyX2 tyX2_ok hown (S.2.2.2.2 _ (wk2_17 0 rfl rfl)) (S.2.2.2.2 _ (wk2_17 1 rfl rfl)) (S.2.2.2.2 _ (wk1_1 7 rfl rfl)) hK.1 hP hD hS hA rfl (by decide +kernel) (Nat.le_of_ble_eq_true rfl) (Nat.le_of_ble_eq_true rfl) dX11_fetch_89 (fun q89 H hP hD hS => ?_)
                have hP : va_P D vwCl ((wX cI (D.1 99) zz g ad cn In Fn) ++ ([(q89, .inr (3, [.int 0, .int 0, .int 0, .int 0, .int 0, .int 0, .int 0, .int 0, .int 0, .int 0]))] : va_W)) H := hP
                have hD : va_D A ((wX cI (D.1 99) zz g ad cn In Fn) ++ ([(q89, .inr (3, [.int 0, .int 0, .int 0, .int 0, .int 0, .int 0, .int 0, .int 0, .int 0, .int 0]))] : va_W)) := hD
                refine lv_dup hx hb dX11_fetch_92 rfl ?_
                refine lv_iload_n hx hb dX11_fetch_93 rfl (lvA2 hl) ?_
                refine lv_iload_n hx hb dX11_fetch_94 rfl (lvA3 hl) ?_
                refine lv_iload_n hx hb dX11_fetch_95 rfl (lvA4 hl) ?_
                refine lv_iload hx hb dX11_fetch_96 (lvA5 hl) ?_
                refine lv_iload hx hb dX11_fetch_98 (lvA6 hl) ?_
                refine lv_iload hx hb dX11_fetch_100 (lvA7 hl) ?_
                have hFc := va_free (wc := [(q89, .inr (3, [.int 0, .int 0, .int 0, .int 0, .int 0, .int 0, .int 0, .int 0, .int 0, .int 0]))]) hD hS hA [_] (one_im (exr (m := 0) rfl))
                refine va_callv (runI_w (As := [.int v0, .int v1, .int v2, .int v3, .int v4, .int v5]) (rest := [.ref q89]) S (q_l_Load l D cI cB cZ q89 v0 v1 v2 v3 v4 v5 H.size) kI_RX11_125 hK hP hD [_] (one_is (exr (m := 0) rfl)) (one_im (exr (m := 0) rfl)) rfl ⟨Nat.le_of_ble_eq_true rfl, Nat.le_of_ble_eq_true rfl⟩ ⟨Nat.le_of_ble_eq_true rfl, Nat.le_of_ble_eq_true rfl⟩ rfl hl.1 rfl (Nat.le_of_ble_eq_true rfl) dX11_fetch_102) hS (fun q _ h => hFc q h) hFc (fun u_16 t H1 locs ht hvm h_17 hB1 hz1 hk1 hS => ?_)
                obtain ⟨hP1, hD1⟩ := hB1
                rw [ht] at hP1
                obtain ⟨hP, hD⟩ := exjoin hP hD hk1 hFc hP1 hD1
                generalize H1 = H at hP hS ⊢
                have hP : va_P D vwCl ((wX cI (D.1 99) zz g ad cn In Fn) ++ ([(q89, .inr (3, [.int v0, .int v1, .int v2, .int v3, .int v4, .int v5, .int 0, .int 0, .int 0, .int 0]))] : va_W)) H := hP
                have hD : va_D A ((wX cI (D.1 99) zz g ad cn In Fn) ++ ([(q89, .inr (3, [.int v0, .int v1, .int v2, .int v3, .int v4, .int v5, .int 0, .int 0, .int 0, .int 0]))] : va_W)) := hD
                refine lv_astore (lv' := [(8, .ref q89), (7, .ref (ad 10 mr_1)), (0, .ref (g 0)), (1, .int v0), (2, .int v1), (3, .int v2), (4, .int v3), (5, .int v4), (6, .int v5)]) hx hb dX11_fetch_105 hl (ltb rfl) rfl (fun ls hl => ?_)
                refine lv_aload hx hb dX11_fetch_107 (lvA0 hl) ?_
                refine lv_aload hx hb dX11_fetch_109 (lvA1 hl) ?_
                refine gf_RX11_118 S hK hP _ (exl (xf_0 (by omega))) (v := .int ((Fn 104) mr_1)) rfl dX11_fetch_111 ?_
                refine pf_RX11_128 S hK hP hD hS _ (exr (m := 0) rfl) (v := .int ((Fn 104) mr_1)) (Nat.le_of_ble_eq_true rfl) rfl rfl dX11_fetch_114 (fun H locs hP hD hS => ?_)
                have hP : va_P D vwCl ((wX cI (D.1 99) zz g ad cn In Fn) ++ ([(q89, .inr (3, [.int v0, .int v1, .int v2, .int v3, .int v4, .int v5, .int ((Fn 104) mr_1), .int 0, .int 0, .int 0]))] : va_W)) H := va_P_eq (exs_r rfl) hP
                have hD : va_D A ((wX cI (D.1 99) zz g ad cn In Fn) ++ ([(q89, .inr (3, [.int v0, .int v1, .int v2, .int v3, .int v4, .int v5, .int ((Fn 104) mr_1), .int 0, .int 0, .int 0]))] : va_W)) := va_D_eq (exs_r rfl) hD
                refine lv_aload hx hb dX11_fetch_117 (lvA0 hl) ?_
                refine lv_aload hx hb dX11_fetch_119 (lvA1 hl) ?_
                refine gf_RX11_131 S hK hP _ (exl (xf_0 (by omega))) (v := .int ((Fn 106) mr_1)) rfl dX11_fetch_121 ?_
                refine pf_RX11_134 S hK hP hD hS _ (exr (m := 0) rfl) (v := .int ((Fn 106) mr_1)) (Nat.le_of_ble_eq_true rfl) rfl rfl dX11_fetch_124 (fun H locs hP hD hS => ?_)
                have hP : va_P D vwCl ((wX cI (D.1 99) zz g ad cn In Fn) ++ ([(q89, .inr (3, [.int v0, .int v1, .int v2, .int v3, .int v4, .int v5, .int ((Fn 104) mr_1), .int ((Fn 106) mr_1), .int 0, .int 0]))] : va_W)) H := va_P_eq (exs_r rfl) hP
                have hD : va_D A ((wX cI (D.1 99) zz g ad cn In Fn) ++ ([(q89, .inr (3, [.int v0, .int v1, .int v2, .int v3, .int v4, .int v5, .int ((Fn 104) mr_1), .int ((Fn 106) mr_1), .int 0, .int 0]))] : va_W)) := va_D_eq (exs_r rfl) hD
                refine lv_aload hx hb dX11_fetch_127 (lvA0 hl) ?_
                refine lv_aload hx hb dX11_fetch_129 (lvA0 hl) ?_
                refine lv_aload hx hb dX11_fetch_131 (lvA1 hl) ?_
                refine lv_iload_n hx hb dX11_fetch_133 rfl (lvA4 hl) ?_
                refine lv_aload hx hb dX11_fetch_134 (lvA1 hl) ?_
                refine gf_RX11_118 S hK hP _ (exl (xf_0 (by omega))) (v := .int ((Fn 104) mr_1)) rfl dX11_fetch_136 ?_
                refine vp_callSi (runV_rxa (As := [.int v1, .int ((Fn 104) mr_1)]) (rest := [.ref q89, .ref q89]) S (q_XfillOn l D cI cB cZ zz qq vv bt g ad cn In Fn mr_1 v1 ((Fn 104) mr_1) hB (by omega)) kV_RX11_121 hK hXS hS (exP hP) _ (xf_0 (by omega)) rfl rfl ⟨Nat.le_of_ble_eq_true rfl, Nat.le_of_ble_eq_true rfl⟩ ⟨Nat.le_of_ble_eq_true rfl, Nat.le_of_ble_eq_true rfl⟩ rfl hl.1 rfl (Nat.le_of_ble_eq_true rfl) dX11_fetch_139) (fun r_18 h_19 => ?_)
                subst h_19
                refine vp_callSi (runV_r (As := [.int ((if ((Fn 102) mr_1 * (v1 - ((Fn 104) mr_1))) < (Fn 103) mr_1 then (Fn 102) mr_1 * (v1 - ((Fn 104) mr_1)) else (Fn 103) mr_1))]) (rest := [.ref q89]) S (q_l_shortOf l D cI cB cZ q89 v0 v1 v2 v3 v4 v5 ((Fn 104) mr_1) ((Fn 106) mr_1) 0 0 ((if ((Fn 102) mr_1 * (v1 - ((Fn 104) mr_1))) < (Fn 103) mr_1 then (Fn 102) mr_1 * (v1 - ((Fn 104) mr_1)) else (Fn 103) mr_1))) kV_RX11_137 hK hP _ (one_is (exr (m := 0) rfl)) _ (exr (m := 0) rfl) rfl rfl ⟨Nat.le_of_ble_eq_true rfl, Nat.le_of_ble_eq_true rfl⟩ ⟨Nat.le_of_ble_eq_true rfl, Nat.le_of_ble_eq_true rfl⟩ rfl hl.1 rfl (Nat.le_of_ble_eq_true rfl) dX11_fetch_142) (fun r_20 h_21 => ?_)
                subst h_21
                refine pf_RX11_141 S hK hP hD hS _ (exr (m := 0) rfl) (v := .int (if 0 < (((if ((Fn 102) mr_1 * (v1 - ((Fn 104) mr_1))) < (Fn 103) mr_1 then (Fn 102) mr_1 * (v1 - ((Fn 104) mr_1)) else (Fn 103) mr_1)) - v2) - ((if ((Fn 102) mr_1 * (v1 - ((Fn 104) mr_1))) < (Fn 103) mr_1 then (Fn 102) mr_1 * (v1 - ((Fn 104) mr_1)) else (Fn 103) mr_1)) / 10 then (((if ((Fn 102) mr_1 * (v1 - ((Fn 104) mr_1))) < (Fn 103) mr_1 then (Fn 102) mr_1 * (v1 - ((Fn 104) mr_1)) else (Fn 103) mr_1)) - v2) - ((if ((Fn 102) mr_1 * (v1 - ((Fn 104) mr_1))) < (Fn 103) mr_1 then (Fn 102) mr_1 * (v1 - ((Fn 104) mr_1)) else (Fn 103) mr_1)) / 10 else 0)) (Nat.le_of_ble_eq_true rfl) rfl rfl dX11_fetch_145 (fun H locs hP hD hS => ?_)
                have hP : va_P D vwCl ((wX cI (D.1 99) zz g ad cn In Fn) ++ ([(q89, .inr (3, [.int v0, .int v1, .int v2, .int v3, .int v4, .int v5, .int ((Fn 104) mr_1), .int ((Fn 106) mr_1), .int (if 0 < (((if ((Fn 102) mr_1 * (v1 - ((Fn 104) mr_1))) < (Fn 103) mr_1 then (Fn 102) mr_1 * (v1 - ((Fn 104) mr_1)) else (Fn 103) mr_1)) - v2) - ((if ((Fn 102) mr_1 * (v1 - ((Fn 104) mr_1))) < (Fn 103) mr_1 then (Fn 102) mr_1 * (v1 - ((Fn 104) mr_1)) else (Fn 103) mr_1)) / 10 then (((if ((Fn 102) mr_1 * (v1 - ((Fn 104) mr_1))) < (Fn 103) mr_1 then (Fn 102) mr_1 * (v1 - ((Fn 104) mr_1)) else (Fn 103) mr_1)) - v2) - ((if ((Fn 102) mr_1 * (v1 - ((Fn 104) mr_1))) < (Fn 103) mr_1 then (Fn 102) mr_1 * (v1 - ((Fn 104) mr_1)) else (Fn 103) mr_1)) / 10 else 0), .int 0]))] : va_W)) H := va_P_eq (exs_r rfl) hP
                have hD : va_D A ((wX cI (D.1 99) zz g ad cn In Fn) ++ ([(q89, .inr (3, [.int v0, .int v1, .int v2, .int v3, .int v4, .int v5, .int ((Fn 104) mr_1), .int ((Fn 106) mr_1), .int (if 0 < (((if ((Fn 102) mr_1 * (v1 - ((Fn 104) mr_1))) < (Fn 103) mr_1 then (Fn 102) mr_1 * (v1 - ((Fn 104) mr_1)) else (Fn 103) mr_1)) - v2) - ((if ((Fn 102) mr_1 * (v1 - ((Fn 104) mr_1))) < (Fn 103) mr_1 then (Fn 102) mr_1 * (v1 - ((Fn 104) mr_1)) else (Fn 103) mr_1)) / 10 then (((if ((Fn 102) mr_1 * (v1 - ((Fn 104) mr_1))) < (Fn 103) mr_1 then (Fn 102) mr_1 * (v1 - ((Fn 104) mr_1)) else (Fn 103) mr_1)) - v2) - ((if ((Fn 102) mr_1 * (v1 - ((Fn 104) mr_1))) < (Fn 103) mr_1 then (Fn 102) mr_1 * (v1 - ((Fn 104) mr_1)) else (Fn 103) mr_1)) / 10 else 0), .int 0]))] : va_W)) := va_D_eq (exs_r rfl) hD
                refine lv_aload hx hb dX11_fetch_148 (lvA1 hl) ?_
                refine lv_iload_n hx hb dX11_fetch_150 rfl (lvA4 hl) ?_
                refine pf_RX11_118 S hK hP hD hS _ (exl (xf_0 (by omega))) (v := .int v1) (Nat.le_of_ble_eq_true rfl) rfl rfl dX11_fetch_151 (fun H locs hP hD hS => ?_)
                have hP : va_P D vwCl ((wX cI (D.1 99) zz g ad cn In (va_up Fn 104 (upd (Fn 104) mr_1 v1))) ++ ([(q89, .inr (3, [.int v0, .int v1, .int v2, .int v3, .int v4, .int v5, .int ((Fn 104) mr_1), .int ((Fn 106) mr_1), .int (if 0 < (((if ((Fn 102) mr_1 * (v1 - ((Fn 104) mr_1))) < (Fn 103) mr_1 then (Fn 102) mr_1 * (v1 - ((Fn 104) mr_1)) else (Fn 103) mr_1)) - v2) - ((if ((Fn 102) mr_1 * (v1 - ((Fn 104) mr_1))) < (Fn 103) mr_1 then (Fn 102) mr_1 * (v1 - ((Fn 104) mr_1)) else (Fn 103) mr_1)) / 10 then (((if ((Fn 102) mr_1 * (v1 - ((Fn 104) mr_1))) < (Fn 103) mr_1 then (Fn 102) mr_1 * (v1 - ((Fn 104) mr_1)) else (Fn 103) mr_1)) - v2) - ((if ((Fn 102) mr_1 * (v1 - ((Fn 104) mr_1))) < (Fn 103) mr_1 then (Fn 102) mr_1 * (v1 - ((Fn 104) mr_1)) else (Fn 103) mr_1)) / 10 else 0), .int 0]))] : va_W)) H := va_P_eq (exs_l (xf_0 (by omega)) (xs_104 (by omega))) hP
                have hD : va_D A ((wX cI (D.1 99) zz g ad cn In (va_up Fn 104 (upd (Fn 104) mr_1 v1))) ++ ([(q89, .inr (3, [.int v0, .int v1, .int v2, .int v3, .int v4, .int v5, .int ((Fn 104) mr_1), .int ((Fn 106) mr_1), .int (if 0 < (((if ((Fn 102) mr_1 * (v1 - ((Fn 104) mr_1))) < (Fn 103) mr_1 then (Fn 102) mr_1 * (v1 - ((Fn 104) mr_1)) else (Fn 103) mr_1)) - v2) - ((if ((Fn 102) mr_1 * (v1 - ((Fn 104) mr_1))) < (Fn 103) mr_1 then (Fn 102) mr_1 * (v1 - ((Fn 104) mr_1)) else (Fn 103) mr_1)) / 10 then (((if ((Fn 102) mr_1 * (v1 - ((Fn 104) mr_1))) < (Fn 103) mr_1 then (Fn 102) mr_1 * (v1 - ((Fn 104) mr_1)) else (Fn 103) mr_1)) - v2) - ((if ((Fn 102) mr_1 * (v1 - ((Fn 104) mr_1))) < (Fn 103) mr_1 then (Fn 102) mr_1 * (v1 - ((Fn 104) mr_1)) else (Fn 103) mr_1)) / 10 else 0), .int 0]))] : va_W)) := va_D_eq (exs_l (xf_0 (by omega)) (xs_104 (by omega))) hD
                refine lv_aload hx hb dX11_fetch_154 (lvA1 hl) ?_
                refine lv_dup hx hb dX11_fetch_156 rfl ?_
                refine gf_RX11_131 S hK hP _ (exl (xf_0 (by omega))) (v := .int ((Fn 106) mr_1)) rfl dX11_fetch_157 ?_
                refine lv_iload_n hx hb dX11_fetch_160 rfl (lvA5 hl) ?_
                refine lv_iadd hx hb dX11_fetch_161 ?_
                refine pf_RX11_131 S hK hP hD hS _ (exl (xf_0 (by omega))) (v := .int (((Fn 106) mr_1) + v2)) (Nat.le_of_ble_eq_true rfl) rfl rfl dX11_fetch_162 (fun H locs hP hD hS => ?_)
                have hP : va_P D vwCl ((wX cI (D.1 99) zz g ad cn In (va_up (va_up Fn 104 (upd (Fn 104) mr_1 v1)) 106 (upd (Fn 106) mr_1 (((Fn 106) mr_1) + v2)))) ++ ([(q89, .inr (3, [.int v0, .int v1, .int v2, .int v3, .int v4, .int v5, .int ((Fn 104) mr_1), .int ((Fn 106) mr_1), .int (if 0 < (((if ((Fn 102) mr_1 * (v1 - ((Fn 104) mr_1))) < (Fn 103) mr_1 then (Fn 102) mr_1 * (v1 - ((Fn 104) mr_1)) else (Fn 103) mr_1)) - v2) - ((if ((Fn 102) mr_1 * (v1 - ((Fn 104) mr_1))) < (Fn 103) mr_1 then (Fn 102) mr_1 * (v1 - ((Fn 104) mr_1)) else (Fn 103) mr_1)) / 10 then (((if ((Fn 102) mr_1 * (v1 - ((Fn 104) mr_1))) < (Fn 103) mr_1 then (Fn 102) mr_1 * (v1 - ((Fn 104) mr_1)) else (Fn 103) mr_1)) - v2) - ((if ((Fn 102) mr_1 * (v1 - ((Fn 104) mr_1))) < (Fn 103) mr_1 then (Fn 102) mr_1 * (v1 - ((Fn 104) mr_1)) else (Fn 103) mr_1)) / 10 else 0), .int 0]))] : va_W)) H := va_P_eq (exs_l (xf_0 (by omega)) (xs_106 (by omega))) hP
                have hD : va_D A ((wX cI (D.1 99) zz g ad cn In (va_up (va_up Fn 104 (upd (Fn 104) mr_1 v1)) 106 (upd (Fn 106) mr_1 (((Fn 106) mr_1) + v2)))) ++ ([(q89, .inr (3, [.int v0, .int v1, .int v2, .int v3, .int v4, .int v5, .int ((Fn 104) mr_1), .int ((Fn 106) mr_1), .int (if 0 < (((if ((Fn 102) mr_1 * (v1 - ((Fn 104) mr_1))) < (Fn 103) mr_1 then (Fn 102) mr_1 * (v1 - ((Fn 104) mr_1)) else (Fn 103) mr_1)) - v2) - ((if ((Fn 102) mr_1 * (v1 - ((Fn 104) mr_1))) < (Fn 103) mr_1 then (Fn 102) mr_1 * (v1 - ((Fn 104) mr_1)) else (Fn 103) mr_1)) / 10 then (((if ((Fn 102) mr_1 * (v1 - ((Fn 104) mr_1))) < (Fn 103) mr_1 then (Fn 102) mr_1 * (v1 - ((Fn 104) mr_1)) else (Fn 103) mr_1)) - v2) - ((if ((Fn 102) mr_1 * (v1 - ((Fn 104) mr_1))) < (Fn 103) mr_1 then (Fn 102) mr_1 * (v1 - ((Fn 104) mr_1)) else (Fn 103) mr_1)) / 10 else 0), .int 0]))] : va_W)) := va_D_eq (exs_l (xf_0 (by omega)) (xs_106 (by omega))) hD
                refine lv_aload_n hx hb dX11_fetch_165 rfl (lvA2 hl) ?_
                refine gf_RX11_47 S hK hP _ (exl xo_0) (v := .ref (g 8)) rfl dX11_fetch_166 ?_
                refine lv_iload_n hx hb dX11_fetch_169 rfl (lvA4 hl) ?_
                refine lv_iload_n hx hb dX11_fetch_170 rfl (lvA5 hl) ?_
                have hFc := free_all (exD hD) hS hA
                refine va_callv (runV_xa (As := [.int v1, .int v2]) (rest := []) S (q_Xchange l D cI cB cZ zz qq vv bt g ad cn In (va_up (va_up Fn 104 (upd (Fn 104) mr_1 v1)) 106 (upd (Fn 106) mr_1 (((Fn 106) mr_1) + v2))) v1 v2 H.size hB) kV_RX11_144 hK hXS hS hFc (exP hP) (exD hD) 6 xo_6 rfl rfl ⟨Nat.le_of_ble_eq_true rfl, Nat.le_of_ble_eq_true rfl⟩ ⟨Nat.le_of_ble_eq_true rfl, Nat.le_of_ble_eq_true rfl⟩ rfl hl.1 rfl (Nat.le_of_ble_eq_true rfl) dX11_fetch_171) hS (fun q _ h => hFc q h) hFc (fun u t H1 locs ht hvm wh_23 hB1 hz1 hk1 hS => ?_)
                obtain ⟨cn23, In23, Fn23⟩ := u
                obtain ⟨hP1, hD1⟩ := hB1
                rw [ht] at hP1
                have vh_23 : (fun c2 I2 F2 => (∀ k : Nat, k ∉ [] → I2 k = In k) ∧ (((True) ∧ cn = c2 ∧ (va_up (va_up (va_up Fn 104 (upd (Fn 104) mr_1 v1)) 106 (upd (Fn 106) mr_1 (((Fn 106) mr_1) + v2))) 29 (putM ((Fn 29)) 400 v1 (atM ((Fn 29)) 400 v1 + v2))) = F2))) cn23 In23 Fn23 := wh_23
                obtain ⟨hI23_, vh_23⟩ := vh_23
                obtain ⟨h_23, rfl, rfl⟩ := vh_23
                obtain rfl : In = In23 := (funext (fun k => hI23_ k List.not_mem_nil)).symm
                obtain ⟨hP, hD⟩ := exjoinL hP hD hk1 hFc hP1 hD1
                have hP : va_P D vwCl ((wX cI (D.1 99) zz g ad cn In (va_up (va_up (va_up Fn 104 (upd (Fn 104) mr_1 v1)) 106 (upd (Fn 106) mr_1 (((Fn 106) mr_1) + v2))) 29 (putM ((Fn 29)) 400 v1 (atM ((Fn 29)) 400 v1 + v2)))) ++ ([(q89, .inr (3, [.int v0, .int v1, .int v2, .int v3, .int v4, .int v5, .int ((Fn 104) mr_1), .int ((Fn 106) mr_1), .int (if 0 < (((if ((Fn 102) mr_1 * (v1 - ((Fn 104) mr_1))) < (Fn 103) mr_1 then (Fn 102) mr_1 * (v1 - ((Fn 104) mr_1)) else (Fn 103) mr_1)) - v2) - ((if ((Fn 102) mr_1 * (v1 - ((Fn 104) mr_1))) < (Fn 103) mr_1 then (Fn 102) mr_1 * (v1 - ((Fn 104) mr_1)) else (Fn 103) mr_1)) / 10 then (((if ((Fn 102) mr_1 * (v1 - ((Fn 104) mr_1))) < (Fn 103) mr_1 then (Fn 102) mr_1 * (v1 - ((Fn 104) mr_1)) else (Fn 103) mr_1)) - v2) - ((if ((Fn 102) mr_1 * (v1 - ((Fn 104) mr_1))) < (Fn 103) mr_1 then (Fn 102) mr_1 * (v1 - ((Fn 104) mr_1)) else (Fn 103) mr_1)) / 10 else 0), .int 0]))] : va_W)) H1 := hP
                have hD : va_D A ((wX cI (D.1 99) zz g ad cn In (va_up (va_up (va_up Fn 104 (upd (Fn 104) mr_1 v1)) 106 (upd (Fn 106) mr_1 (((Fn 106) mr_1) + v2))) 29 (putM ((Fn 29)) 400 v1 (atM ((Fn 29)) 400 v1 + v2)))) ++ ([(q89, .inr (3, [.int v0, .int v1, .int v2, .int v3, .int v4, .int v5, .int ((Fn 104) mr_1), .int ((Fn 106) mr_1), .int (if 0 < (((if ((Fn 102) mr_1 * (v1 - ((Fn 104) mr_1))) < (Fn 103) mr_1 then (Fn 102) mr_1 * (v1 - ((Fn 104) mr_1)) else (Fn 103) mr_1)) - v2) - ((if ((Fn 102) mr_1 * (v1 - ((Fn 104) mr_1))) < (Fn 103) mr_1 then (Fn 102) mr_1 * (v1 - ((Fn 104) mr_1)) else (Fn 103) mr_1)) / 10 then (((if ((Fn 102) mr_1 * (v1 - ((Fn 104) mr_1))) < (Fn 103) mr_1 then (Fn 102) mr_1 * (v1 - ((Fn 104) mr_1)) else (Fn 103) mr_1)) - v2) - ((if ((Fn 102) mr_1 * (v1 - ((Fn 104) mr_1))) < (Fn 103) mr_1 then (Fn 102) mr_1 * (v1 - ((Fn 104) mr_1)) else (Fn 103) mr_1)) / 10 else 0), .int 0]))] : va_W)) := hD
                generalize H1 = H at hP hS ⊢
                refine lv_aload_n hx hb dX11_fetch_174 rfl (lvA2 hl) ?_
                refine gf_RX11_65 S hK hP _ (exl xo_0) (v := .ref (g 11)) rfl dX11_fetch_175 ?_
                refine lv_aload hx hb dX11_fetch_178 (lvA0 hl) ?_
                rcases Nat.eq_zero_or_pos (cn 11) with hz0 | hz0
                ·
                  have hi9 : (wX cI (D.1 99) zz g ad cn In (va_up (va_up (va_up Fn 104 (upd (Fn 104) mr_1 v1)) 106 (upd (Fn 106) mr_1 (((Fn 106) mr_1) + v2))) 29 (putM ((Fn 29)) 400 v1 (atM ((Fn 29)) 400 v1 + v2))))[25]? = _ := xlz_1 hz0
                  have hp2P := pick2P hP (exl hi9) (exr (m := 0) rfl)
                  have hp2D := pick2D hD (exl hi9) (exr (m := 0) rfl) (ne_ex hi9)
                  have hFc := free_all hp2D hS hA
                  refine va_calli (runV_xa (As := [.ref q89]) (rest := []) S (q_l_addZL l D cI cB cZ zz qq vv bt (g 11) q89 (In 11) v0 v1 v2 v3 v4 v5 ((Fn 104) mr_1) ((Fn 106) mr_1) (if 0 < (((if ((Fn 102) mr_1 * (v1 - ((Fn 104) mr_1))) < (Fn 103) mr_1 then (Fn 102) mr_1 * (v1 - ((Fn 104) mr_1)) else (Fn 103) mr_1)) - v2) - ((if ((Fn 102) mr_1 * (v1 - ((Fn 104) mr_1))) < (Fn 103) mr_1 then (Fn 102) mr_1 * (v1 - ((Fn 104) mr_1)) else (Fn 103) mr_1)) / 10 then (((if ((Fn 102) mr_1 * (v1 - ((Fn 104) mr_1))) < (Fn 103) mr_1 then (Fn 102) mr_1 * (v1 - ((Fn 104) mr_1)) else (Fn 103) mr_1)) - v2) - ((if ((Fn 102) mr_1 * (v1 - ((Fn 104) mr_1))) < (Fn 103) mr_1 then (Fn 102) mr_1 * (v1 - ((Fn 104) mr_1)) else (Fn 103) mr_1)) / 10 else 0) 0 H.size) kV_RX11_110 hK hXS hS hFc hp2P hp2D 0 rfl rfl rfl ⟨Nat.le_of_ble_eq_true rfl, Nat.le_of_ble_eq_true rfl⟩ ⟨Nat.le_of_ble_eq_true rfl, Nat.le_of_ble_eq_true rfl⟩ rfl hl.1 rfl (Nat.le_of_ble_eq_true rfl) dX11_fetch_180) hS (fun q _ h => hFc q h) hFc (fun r23 u23 t H1 locs ht hvm h23 hB1 hz1 hk1 hS => ?_)
                  obtain ⟨hP1, hD1⟩ := hB1
                  rw [ht] at hP1
                  obtain rfl : r23 = 1 := h23
                  obtain ⟨hP, hD⟩ := add0_join hP hD hi9 rfl hk1 hFc hP1 hD1 rfl (xu_1 (z := u23) (c := 10) (y := (In 11) + 1) (q := q89) (x0 := v0) (x1 := v1) (x2 := v2) (x3 := v3) (x4 := v4) (x5 := v5) (x6 := ((Fn 104) mr_1)) (x7 := ((Fn 106) mr_1)) (x8 := (if 0 < (((if ((Fn 102) mr_1 * (v1 - ((Fn 104) mr_1))) < (Fn 103) mr_1 then (Fn 102) mr_1 * (v1 - ((Fn 104) mr_1)) else (Fn 103) mr_1)) - v2) - ((if ((Fn 102) mr_1 * (v1 - ((Fn 104) mr_1))) < (Fn 103) mr_1 then (Fn 102) mr_1 * (v1 - ((Fn 104) mr_1)) else (Fn 103) mr_1)) / 10 then (((if ((Fn 102) mr_1 * (v1 - ((Fn 104) mr_1))) < (Fn 103) mr_1 then (Fn 102) mr_1 * (v1 - ((Fn 104) mr_1)) else (Fn 103) mr_1)) - v2) - ((if ((Fn 102) mr_1 * (v1 - ((Fn 104) mr_1))) < (Fn 103) mr_1 then (Fn 102) mr_1 * (v1 - ((Fn 104) mr_1)) else (Fn 103) mr_1)) / 10 else 0)) (x9 := 0) hz0)
                  have hP : va_P D vwCl (wX cI (D.1 99) zz g (adP ad 11 (cn 11) q89 1 u23) (va_up (va_up cn 11 ((cn 11) + 1)) 21 10) (va_up In 11 ((In 11) + 1)) (va_up (va_up (va_up (va_up (va_up (va_up (va_up (va_up (va_up (va_up (va_up (va_up (va_up Fn 104 (upd (Fn 104) mr_1 v1)) 106 (upd (Fn 106) mr_1 (((Fn 106) mr_1) + v2))) 29 (putM ((Fn 29)) 400 v1 (atM ((Fn 29)) 400 v1 + v2))) 120 (upd ((va_up (va_up (va_up Fn 104 (upd (Fn 104) mr_1 v1)) 106 (upd (Fn 106) mr_1 (((Fn 106) mr_1) + v2))) 29 (putM ((Fn 29)) 400 v1 (atM ((Fn 29)) 400 v1 + v2))) 120) (cn 11) v0)) 121 (upd ((va_up (va_up (va_up Fn 104 (upd (Fn 104) mr_1 v1)) 106 (upd (Fn 106) mr_1 (((Fn 106) mr_1) + v2))) 29 (putM ((Fn 29)) 400 v1 (atM ((Fn 29)) 400 v1 + v2))) 121) (cn 11) v1)) 122 (upd ((va_up (va_up (va_up Fn 104 (upd (Fn 104) mr_1 v1)) 106 (upd (Fn 106) mr_1 (((Fn 106) mr_1) + v2))) 29 (putM ((Fn 29)) 400 v1 (atM ((Fn 29)) 400 v1 + v2))) 122) (cn 11) v2)) 123 (upd ((va_up (va_up (va_up Fn 104 (upd (Fn 104) mr_1 v1)) 106 (upd (Fn 106) mr_1 (((Fn 106) mr_1) + v2))) 29 (putM ((Fn 29)) 400 v1 (atM ((Fn 29)) 400 v1 + v2))) 123) (cn 11) v3)) 124 (upd ((va_up (va_up (va_up Fn 104 (upd (Fn 104) mr_1 v1)) 106 (upd (Fn 106) mr_1 (((Fn 106) mr_1) + v2))) 29 (putM ((Fn 29)) 400 v1 (atM ((Fn 29)) 400 v1 + v2))) 124) (cn 11) v4)) 125 (upd ((va_up (va_up (va_up Fn 104 (upd (Fn 104) mr_1 v1)) 106 (upd (Fn 106) mr_1 (((Fn 106) mr_1) + v2))) 29 (putM ((Fn 29)) 400 v1 (atM ((Fn 29)) 400 v1 + v2))) 125) (cn 11) v5)) 126 (upd ((va_up (va_up (va_up Fn 104 (upd (Fn 104) mr_1 v1)) 106 (upd (Fn 106) mr_1 (((Fn 106) mr_1) + v2))) 29 (putM ((Fn 29)) 400 v1 (atM ((Fn 29)) 400 v1 + v2))) 126) (cn 11) ((Fn 104) mr_1))) 127 (upd ((va_up (va_up (va_up Fn 104 (upd (Fn 104) mr_1 v1)) 106 (upd (Fn 106) mr_1 (((Fn 106) mr_1) + v2))) 29 (putM ((Fn 29)) 400 v1 (atM ((Fn 29)) 400 v1 + v2))) 127) (cn 11) ((Fn 106) mr_1))) 128 (upd ((va_up (va_up (va_up Fn 104 (upd (Fn 104) mr_1 v1)) 106 (upd (Fn 106) mr_1 (((Fn 106) mr_1) + v2))) 29 (putM ((Fn 29)) 400 v1 (atM ((Fn 29)) 400 v1 + v2))) 128) (cn 11) (if 0 < (((if ((Fn 102) mr_1 * (v1 - ((Fn 104) mr_1))) < (Fn 103) mr_1 then (Fn 102) mr_1 * (v1 - ((Fn 104) mr_1)) else (Fn 103) mr_1)) - v2) - ((if ((Fn 102) mr_1 * (v1 - ((Fn 104) mr_1))) < (Fn 103) mr_1 then (Fn 102) mr_1 * (v1 - ((Fn 104) mr_1)) else (Fn 103) mr_1)) / 10 then (((if ((Fn 102) mr_1 * (v1 - ((Fn 104) mr_1))) < (Fn 103) mr_1 then (Fn 102) mr_1 * (v1 - ((Fn 104) mr_1)) else (Fn 103) mr_1)) - v2) - ((if ((Fn 102) mr_1 * (v1 - ((Fn 104) mr_1))) < (Fn 103) mr_1 then (Fn 102) mr_1 * (v1 - ((Fn 104) mr_1)) else (Fn 103) mr_1)) / 10 else 0))) 129 (upd ((va_up (va_up (va_up Fn 104 (upd (Fn 104) mr_1 v1)) 106 (upd (Fn 106) mr_1 (((Fn 106) mr_1) + v2))) 29 (putM ((Fn 29)) 400 v1 (atM ((Fn 29)) 400 v1 + v2))) 129) (cn 11) 0))) H1 := hP
                  have hD : va_D A (wX cI (D.1 99) zz g (adP ad 11 (cn 11) q89 1 u23) (va_up (va_up cn 11 ((cn 11) + 1)) 21 10) (va_up In 11 ((In 11) + 1)) (va_up (va_up (va_up (va_up (va_up (va_up (va_up (va_up (va_up (va_up (va_up (va_up (va_up Fn 104 (upd (Fn 104) mr_1 v1)) 106 (upd (Fn 106) mr_1 (((Fn 106) mr_1) + v2))) 29 (putM ((Fn 29)) 400 v1 (atM ((Fn 29)) 400 v1 + v2))) 120 (upd ((va_up (va_up (va_up Fn 104 (upd (Fn 104) mr_1 v1)) 106 (upd (Fn 106) mr_1 (((Fn 106) mr_1) + v2))) 29 (putM ((Fn 29)) 400 v1 (atM ((Fn 29)) 400 v1 + v2))) 120) (cn 11) v0)) 121 (upd ((va_up (va_up (va_up Fn 104 (upd (Fn 104) mr_1 v1)) 106 (upd (Fn 106) mr_1 (((Fn 106) mr_1) + v2))) 29 (putM ((Fn 29)) 400 v1 (atM ((Fn 29)) 400 v1 + v2))) 121) (cn 11) v1)) 122 (upd ((va_up (va_up (va_up Fn 104 (upd (Fn 104) mr_1 v1)) 106 (upd (Fn 106) mr_1 (((Fn 106) mr_1) + v2))) 29 (putM ((Fn 29)) 400 v1 (atM ((Fn 29)) 400 v1 + v2))) 122) (cn 11) v2)) 123 (upd ((va_up (va_up (va_up Fn 104 (upd (Fn 104) mr_1 v1)) 106 (upd (Fn 106) mr_1 (((Fn 106) mr_1) + v2))) 29 (putM ((Fn 29)) 400 v1 (atM ((Fn 29)) 400 v1 + v2))) 123) (cn 11) v3)) 124 (upd ((va_up (va_up (va_up Fn 104 (upd (Fn 104) mr_1 v1)) 106 (upd (Fn 106) mr_1 (((Fn 106) mr_1) + v2))) 29 (putM ((Fn 29)) 400 v1 (atM ((Fn 29)) 400 v1 + v2))) 124) (cn 11) v4)) 125 (upd ((va_up (va_up (va_up Fn 104 (upd (Fn 104) mr_1 v1)) 106 (upd (Fn 106) mr_1 (((Fn 106) mr_1) + v2))) 29 (putM ((Fn 29)) 400 v1 (atM ((Fn 29)) 400 v1 + v2))) 125) (cn 11) v5)) 126 (upd ((va_up (va_up (va_up Fn 104 (upd (Fn 104) mr_1 v1)) 106 (upd (Fn 106) mr_1 (((Fn 106) mr_1) + v2))) 29 (putM ((Fn 29)) 400 v1 (atM ((Fn 29)) 400 v1 + v2))) 126) (cn 11) ((Fn 104) mr_1))) 127 (upd ((va_up (va_up (va_up Fn 104 (upd (Fn 104) mr_1 v1)) 106 (upd (Fn 106) mr_1 (((Fn 106) mr_1) + v2))) 29 (putM ((Fn 29)) 400 v1 (atM ((Fn 29)) 400 v1 + v2))) 127) (cn 11) ((Fn 106) mr_1))) 128 (upd ((va_up (va_up (va_up Fn 104 (upd (Fn 104) mr_1 v1)) 106 (upd (Fn 106) mr_1 (((Fn 106) mr_1) + v2))) 29 (putM ((Fn 29)) 400 v1 (atM ((Fn 29)) 400 v1 + v2))) 128) (cn 11) (if 0 < (((if ((Fn 102) mr_1 * (v1 - ((Fn 104) mr_1))) < (Fn 103) mr_1 then (Fn 102) mr_1 * (v1 - ((Fn 104) mr_1)) else (Fn 103) mr_1)) - v2) - ((if ((Fn 102) mr_1 * (v1 - ((Fn 104) mr_1))) < (Fn 103) mr_1 then (Fn 102) mr_1 * (v1 - ((Fn 104) mr_1)) else (Fn 103) mr_1)) / 10 then (((if ((Fn 102) mr_1 * (v1 - ((Fn 104) mr_1))) < (Fn 103) mr_1 then (Fn 102) mr_1 * (v1 - ((Fn 104) mr_1)) else (Fn 103) mr_1)) - v2) - ((if ((Fn 102) mr_1 * (v1 - ((Fn 104) mr_1))) < (Fn 103) mr_1 then (Fn 102) mr_1 * (v1 - ((Fn 104) mr_1)) else (Fn 103) mr_1)) / 10 else 0))) 129 (upd ((va_up (va_up (va_up Fn 104 (upd (Fn 104) mr_1 v1)) 106 (upd (Fn 106) mr_1 (((Fn 106) mr_1) + v2))) 29 (putM ((Fn 29)) 400 v1 (atM ((Fn 29)) 400 v1 + v2))) 129) (cn 11) 0))) := hD
                  generalize H1 = H at hP hS ⊢
                  refine W.widen (k := 2) (n := 110) (Nat.le_of_ble_eq_true rfl) (Nat.le_of_ble_eq_true rfl) ?_
                  refine lv_pop hx hb dX11_fetch_183 rfl ?_
                  refine lv_aload_n hx hb dX11_fetch_184 rfl (lvA2 hl) ?_
                  refine gf_RX11_65 S hK hP 0 xo_0 (v := .ref (g 11)) rfl dX11_fetch_185 ?_
                  refine vp_callSi (runV_r (As := []) (rest := []) S (q_l_size l D cI cB cZ (g 11) (if ((cn 11) + 1) = 0 then zz else (adP ad 11 (cn 11) q89 1 u23) 2 1) ((In 11) + 1) (nI ((cn 11) + 1))) kV_RX11_84 hK hP [25] (one_is xo_25) 25 xo_25 rfl rfl ⟨Nat.le_of_ble_eq_true rfl, Nat.le_of_ble_eq_true rfl⟩ ⟨Nat.le_of_ble_eq_true rfl, Nat.le_of_ble_eq_true rfl⟩ rfl hl.1 rfl (Nat.le_of_ble_eq_true rfl) dX11_fetch_188) (fun r_25 h_26 => ?_)
                  subst h_26
                  refine lv_iconst (v := 1) hx hb dX11_fetch_191 kic_1 ?_
                  refine lv_isub hx hb dX11_fetch_192 ?_
                  refine lv_topi (fun y_27 ey_27 => ?_)
                  obtain rfl : y_27 = (nI (cn 11)) := ey_27.trans (nI_sub (b := 1) (by omega))
                  exact W.iret (v := (nI (cn 11))) hx hb hr (fun t ht hW => ⟨⟨(nI (cn 11)), ((adP ad 11 (cn 11) q89 1 u23), (va_up (va_up cn 11 ((cn 11) + 1)) 21 10), (va_up In 11 ((In 11) + 1)), (va_up (va_up (va_up (va_up (va_up (va_up (va_up (va_up (va_up (va_up (va_up (va_up (va_up Fn 104 (upd (Fn 104) mr_1 v1)) 106 (upd (Fn 106) mr_1 (((Fn 106) mr_1) + v2))) 29 (putM ((Fn 29)) 400 v1 (atM ((Fn 29)) 400 v1 + v2))) 120 (upd ((va_up (va_up (va_up Fn 104 (upd (Fn 104) mr_1 v1)) 106 (upd (Fn 106) mr_1 (((Fn 106) mr_1) + v2))) 29 (putM ((Fn 29)) 400 v1 (atM ((Fn 29)) 400 v1 + v2))) 120) (cn 11) v0)) 121 (upd ((va_up (va_up (va_up Fn 104 (upd (Fn 104) mr_1 v1)) 106 (upd (Fn 106) mr_1 (((Fn 106) mr_1) + v2))) 29 (putM ((Fn 29)) 400 v1 (atM ((Fn 29)) 400 v1 + v2))) 121) (cn 11) v1)) 122 (upd ((va_up (va_up (va_up Fn 104 (upd (Fn 104) mr_1 v1)) 106 (upd (Fn 106) mr_1 (((Fn 106) mr_1) + v2))) 29 (putM ((Fn 29)) 400 v1 (atM ((Fn 29)) 400 v1 + v2))) 122) (cn 11) v2)) 123 (upd ((va_up (va_up (va_up Fn 104 (upd (Fn 104) mr_1 v1)) 106 (upd (Fn 106) mr_1 (((Fn 106) mr_1) + v2))) 29 (putM ((Fn 29)) 400 v1 (atM ((Fn 29)) 400 v1 + v2))) 123) (cn 11) v3)) 124 (upd ((va_up (va_up (va_up Fn 104 (upd (Fn 104) mr_1 v1)) 106 (upd (Fn 106) mr_1 (((Fn 106) mr_1) + v2))) 29 (putM ((Fn 29)) 400 v1 (atM ((Fn 29)) 400 v1 + v2))) 124) (cn 11) v4)) 125 (upd ((va_up (va_up (va_up Fn 104 (upd (Fn 104) mr_1 v1)) 106 (upd (Fn 106) mr_1 (((Fn 106) mr_1) + v2))) 29 (putM ((Fn 29)) 400 v1 (atM ((Fn 29)) 400 v1 + v2))) 125) (cn 11) v5)) 126 (upd ((va_up (va_up (va_up Fn 104 (upd (Fn 104) mr_1 v1)) 106 (upd (Fn 106) mr_1 (((Fn 106) mr_1) + v2))) 29 (putM ((Fn 29)) 400 v1 (atM ((Fn 29)) 400 v1 + v2))) 126) (cn 11) ((Fn 104) mr_1))) 127 (upd ((va_up (va_up (va_up Fn 104 (upd (Fn 104) mr_1 v1)) 106 (upd (Fn 106) mr_1 (((Fn 106) mr_1) + v2))) 29 (putM ((Fn 29)) 400 v1 (atM ((Fn 29)) 400 v1 + v2))) 127) (cn 11) ((Fn 106) mr_1))) 128 (upd ((va_up (va_up (va_up Fn 104 (upd (Fn 104) mr_1 v1)) 106 (upd (Fn 106) mr_1 (((Fn 106) mr_1) + v2))) 29 (putM ((Fn 29)) 400 v1 (atM ((Fn 29)) 400 v1 + v2))) 128) (cn 11) (if 0 < (((if ((Fn 102) mr_1 * (v1 - ((Fn 104) mr_1))) < (Fn 103) mr_1 then (Fn 102) mr_1 * (v1 - ((Fn 104) mr_1)) else (Fn 103) mr_1)) - v2) - ((if ((Fn 102) mr_1 * (v1 - ((Fn 104) mr_1))) < (Fn 103) mr_1 then (Fn 102) mr_1 * (v1 - ((Fn 104) mr_1)) else (Fn 103) mr_1)) / 10 then (((if ((Fn 102) mr_1 * (v1 - ((Fn 104) mr_1))) < (Fn 103) mr_1 then (Fn 102) mr_1 * (v1 - ((Fn 104) mr_1)) else (Fn 103) mr_1)) - v2) - ((if ((Fn 102) mr_1 * (v1 - ((Fn 104) mr_1))) < (Fn 103) mr_1 then (Fn 102) mr_1 * (v1 - ((Fn 104) mr_1)) else (Fn 103) mr_1)) / 10 else 0))) 129 (upd ((va_up (va_up (va_up Fn 104 (upd (Fn 104) mr_1 v1)) 106 (upd (Fn 106) mr_1 (((Fn 106) mr_1) + v2))) 29 (putM ((Fn 29)) 400 v1 (atM ((Fn 29)) 400 v1 + v2))) 129) (cn 11) 0))), rfl, (Or.inr ⟨rfl, q89, u23, 10, ((In 11) + 1), mr_1, by omega, ⟨by omega, by omega⟩, rfl, rfl, rfl, rfl⟩), by rw [ht]; exact hP, hD⟩, hS.F ht⟩) hS.2.2 dX11_fetch_193
                ·
                  have hi9 : (wX cI (D.1 99) zz g ad cn In (va_up (va_up (va_up Fn 104 (upd (Fn 104) mr_1 v1)) 106 (upd (Fn 106) mr_1 (((Fn 106) mr_1) + v2))) 29 (putM ((Fn 29)) 400 v1 (atM ((Fn 29)) 400 v1 + v2))))[25]? = _ := xl_1 hz0
                  have hj9 : (wX cI (D.1 99) zz g ad cn In (va_up (va_up (va_up Fn 104 (upd (Fn 104) mr_1 v1)) 106 (upd (Fn 106) mr_1 (((Fn 106) mr_1) + v2))) 29 (putM ((Fn 29)) 400 v1 (atM ((Fn 29)) 400 v1 + v2))))[_]? = _ := xf_14 (k := 0) (show 0 < min 1 (cn 11) by omega)
                  obtain ⟨ws9, hp1, hp2⟩ := pickG (W := ((wX cI (D.1 99) zz g ad cn In (va_up (va_up (va_up Fn 104 (upd (Fn 104) mr_1 v1)) 106 (upd (Fn 106) mr_1 (((Fn 106) mr_1) + v2))) 29 (putM ((Fn 29)) 400 v1 (atM ((Fn 29)) 400 v1 + v2)))) ++ ([(q89, .inr (3, [.int v0, .int v1, .int v2, .int v3, .int v4, .int v5, .int ((Fn 104) mr_1), .int ((Fn 106) mr_1), .int (if 0 < (((if ((Fn 102) mr_1 * (v1 - ((Fn 104) mr_1))) < (Fn 103) mr_1 then (Fn 102) mr_1 * (v1 - ((Fn 104) mr_1)) else (Fn 103) mr_1)) - v2) - ((if ((Fn 102) mr_1 * (v1 - ((Fn 104) mr_1))) < (Fn 103) mr_1 then (Fn 102) mr_1 * (v1 - ((Fn 104) mr_1)) else (Fn 103) mr_1)) / 10 then (((if ((Fn 102) mr_1 * (v1 - ((Fn 104) mr_1))) < (Fn 103) mr_1 then (Fn 102) mr_1 * (v1 - ((Fn 104) mr_1)) else (Fn 103) mr_1)) - v2) - ((if ((Fn 102) mr_1 * (v1 - ((Fn 104) mr_1))) < (Fn 103) mr_1 then (Fn 102) mr_1 * (v1 - ((Fn 104) mr_1)) else (Fn 103) mr_1)) / 10 else 0), .int 0]))] : va_W))) (exl hi9) (exl hj9) (exr (m := 0) rfl) (xij (by decide)) (ne_ex hi9) (ne_ex hj9)
                  have hP9 := va_P_perm hp1 hP
                  have hD9 := va_D_perm hp1 hD
                  have hFc := free_all hD9 hS hA
                  refine va_calli (runV_xa (As := [.ref q89]) (rest := []) S (q_l_addGL l D cI cB cZ zz qq vv bt (cn 21) (g 11) (ad 2 1) (cn 11) q89 (In 11) (ad 11) v0 v1 v2 v3 v4 v5 ((Fn 104) mr_1) ((Fn 106) mr_1) (if 0 < (((if ((Fn 102) mr_1 * (v1 - ((Fn 104) mr_1))) < (Fn 103) mr_1 then (Fn 102) mr_1 * (v1 - ((Fn 104) mr_1)) else (Fn 103) mr_1)) - v2) - ((if ((Fn 102) mr_1 * (v1 - ((Fn 104) mr_1))) < (Fn 103) mr_1 then (Fn 102) mr_1 * (v1 - ((Fn 104) mr_1)) else (Fn 103) mr_1)) / 10 then (((if ((Fn 102) mr_1 * (v1 - ((Fn 104) mr_1))) < (Fn 103) mr_1 then (Fn 102) mr_1 * (v1 - ((Fn 104) mr_1)) else (Fn 103) mr_1)) - v2) - ((if ((Fn 102) mr_1 * (v1 - ((Fn 104) mr_1))) < (Fn 103) mr_1 then (Fn 102) mr_1 * (v1 - ((Fn 104) mr_1)) else (Fn 103) mr_1)) / 10 else 0) 0 ws9 H.size (by omega) (by omega) hz0 (by omega) (fun i hi => ⟨_, g_mem (hp1.mem_iff.mp (List.mem_of_getElem? (exl (xf_1 (k := i) hi)))) (by decide)⟩)) kV_RX11_110 hK hXS hS hFc hP9 hD9 0 rfl rfl rfl ⟨Nat.le_of_ble_eq_true rfl, Nat.le_of_ble_eq_true rfl⟩ ⟨Nat.le_of_ble_eq_true rfl, Nat.le_of_ble_eq_true rfl⟩ rfl hl.1 rfl (Nat.le_of_ble_eq_true rfl) dX11_fetch_180) hS (fun q _ h => hFc q h) hFc (fun r23 u23 t H1 locs ht hvm h23 hB1 hz1 hk1 hS => ?_)
                  obtain ⟨hP1, hD1⟩ := hB1
                  rw [ht] at hP1
                  obtain ⟨hr23, h23⟩ := h23
                  obtain rfl : r23 = 1 := hr23
                  obtain ⟨ua23, uc23⟩ := u23
                  have hu23 : cn 11 < uc23 ∧ uc23 ≤ 100 := h23
                  obtain ⟨hP, hD⟩ := addG_join hp2 hi9 hj9 hP1 hD1 hFc (xadd_1 (z := ua23) (c := uc23) (y := (In 11) + 1) (q := q89) (x0 := v0) (x1 := v1) (x2 := v2) (x3 := v3) (x4 := v4) (x5 := v5) (x6 := ((Fn 104) mr_1)) (x7 := ((Fn 106) mr_1)) (x8 := (if 0 < (((if ((Fn 102) mr_1 * (v1 - ((Fn 104) mr_1))) < (Fn 103) mr_1 then (Fn 102) mr_1 * (v1 - ((Fn 104) mr_1)) else (Fn 103) mr_1)) - v2) - ((if ((Fn 102) mr_1 * (v1 - ((Fn 104) mr_1))) < (Fn 103) mr_1 then (Fn 102) mr_1 * (v1 - ((Fn 104) mr_1)) else (Fn 103) mr_1)) / 10 then (((if ((Fn 102) mr_1 * (v1 - ((Fn 104) mr_1))) < (Fn 103) mr_1 then (Fn 102) mr_1 * (v1 - ((Fn 104) mr_1)) else (Fn 103) mr_1)) - v2) - ((if ((Fn 102) mr_1 * (v1 - ((Fn 104) mr_1))) < (Fn 103) mr_1 then (Fn 102) mr_1 * (v1 - ((Fn 104) mr_1)) else (Fn 103) mr_1)) / 10 else 0)) (x9 := 0) hz0)
                  have hP : va_P D vwCl (wX cI (D.1 99) zz g (adP ad 11 (cn 11) q89 1 ua23) (va_up (va_up cn 11 ((cn 11) + 1)) 21 uc23) (va_up In 11 ((In 11) + 1)) (va_up (va_up (va_up (va_up (va_up (va_up (va_up (va_up (va_up (va_up (va_up (va_up (va_up Fn 104 (upd (Fn 104) mr_1 v1)) 106 (upd (Fn 106) mr_1 (((Fn 106) mr_1) + v2))) 29 (putM ((Fn 29)) 400 v1 (atM ((Fn 29)) 400 v1 + v2))) 120 (upd ((va_up (va_up (va_up Fn 104 (upd (Fn 104) mr_1 v1)) 106 (upd (Fn 106) mr_1 (((Fn 106) mr_1) + v2))) 29 (putM ((Fn 29)) 400 v1 (atM ((Fn 29)) 400 v1 + v2))) 120) (cn 11) v0)) 121 (upd ((va_up (va_up (va_up Fn 104 (upd (Fn 104) mr_1 v1)) 106 (upd (Fn 106) mr_1 (((Fn 106) mr_1) + v2))) 29 (putM ((Fn 29)) 400 v1 (atM ((Fn 29)) 400 v1 + v2))) 121) (cn 11) v1)) 122 (upd ((va_up (va_up (va_up Fn 104 (upd (Fn 104) mr_1 v1)) 106 (upd (Fn 106) mr_1 (((Fn 106) mr_1) + v2))) 29 (putM ((Fn 29)) 400 v1 (atM ((Fn 29)) 400 v1 + v2))) 122) (cn 11) v2)) 123 (upd ((va_up (va_up (va_up Fn 104 (upd (Fn 104) mr_1 v1)) 106 (upd (Fn 106) mr_1 (((Fn 106) mr_1) + v2))) 29 (putM ((Fn 29)) 400 v1 (atM ((Fn 29)) 400 v1 + v2))) 123) (cn 11) v3)) 124 (upd ((va_up (va_up (va_up Fn 104 (upd (Fn 104) mr_1 v1)) 106 (upd (Fn 106) mr_1 (((Fn 106) mr_1) + v2))) 29 (putM ((Fn 29)) 400 v1 (atM ((Fn 29)) 400 v1 + v2))) 124) (cn 11) v4)) 125 (upd ((va_up (va_up (va_up Fn 104 (upd (Fn 104) mr_1 v1)) 106 (upd (Fn 106) mr_1 (((Fn 106) mr_1) + v2))) 29 (putM ((Fn 29)) 400 v1 (atM ((Fn 29)) 400 v1 + v2))) 125) (cn 11) v5)) 126 (upd ((va_up (va_up (va_up Fn 104 (upd (Fn 104) mr_1 v1)) 106 (upd (Fn 106) mr_1 (((Fn 106) mr_1) + v2))) 29 (putM ((Fn 29)) 400 v1 (atM ((Fn 29)) 400 v1 + v2))) 126) (cn 11) ((Fn 104) mr_1))) 127 (upd ((va_up (va_up (va_up Fn 104 (upd (Fn 104) mr_1 v1)) 106 (upd (Fn 106) mr_1 (((Fn 106) mr_1) + v2))) 29 (putM ((Fn 29)) 400 v1 (atM ((Fn 29)) 400 v1 + v2))) 127) (cn 11) ((Fn 106) mr_1))) 128 (upd ((va_up (va_up (va_up Fn 104 (upd (Fn 104) mr_1 v1)) 106 (upd (Fn 106) mr_1 (((Fn 106) mr_1) + v2))) 29 (putM ((Fn 29)) 400 v1 (atM ((Fn 29)) 400 v1 + v2))) 128) (cn 11) (if 0 < (((if ((Fn 102) mr_1 * (v1 - ((Fn 104) mr_1))) < (Fn 103) mr_1 then (Fn 102) mr_1 * (v1 - ((Fn 104) mr_1)) else (Fn 103) mr_1)) - v2) - ((if ((Fn 102) mr_1 * (v1 - ((Fn 104) mr_1))) < (Fn 103) mr_1 then (Fn 102) mr_1 * (v1 - ((Fn 104) mr_1)) else (Fn 103) mr_1)) / 10 then (((if ((Fn 102) mr_1 * (v1 - ((Fn 104) mr_1))) < (Fn 103) mr_1 then (Fn 102) mr_1 * (v1 - ((Fn 104) mr_1)) else (Fn 103) mr_1)) - v2) - ((if ((Fn 102) mr_1 * (v1 - ((Fn 104) mr_1))) < (Fn 103) mr_1 then (Fn 102) mr_1 * (v1 - ((Fn 104) mr_1)) else (Fn 103) mr_1)) / 10 else 0))) 129 (upd ((va_up (va_up (va_up Fn 104 (upd (Fn 104) mr_1 v1)) 106 (upd (Fn 106) mr_1 (((Fn 106) mr_1) + v2))) 29 (putM ((Fn 29)) 400 v1 (atM ((Fn 29)) 400 v1 + v2))) 129) (cn 11) 0))) H1 := hP
                  have hD : va_D A (wX cI (D.1 99) zz g (adP ad 11 (cn 11) q89 1 ua23) (va_up (va_up cn 11 ((cn 11) + 1)) 21 uc23) (va_up In 11 ((In 11) + 1)) (va_up (va_up (va_up (va_up (va_up (va_up (va_up (va_up (va_up (va_up (va_up (va_up (va_up Fn 104 (upd (Fn 104) mr_1 v1)) 106 (upd (Fn 106) mr_1 (((Fn 106) mr_1) + v2))) 29 (putM ((Fn 29)) 400 v1 (atM ((Fn 29)) 400 v1 + v2))) 120 (upd ((va_up (va_up (va_up Fn 104 (upd (Fn 104) mr_1 v1)) 106 (upd (Fn 106) mr_1 (((Fn 106) mr_1) + v2))) 29 (putM ((Fn 29)) 400 v1 (atM ((Fn 29)) 400 v1 + v2))) 120) (cn 11) v0)) 121 (upd ((va_up (va_up (va_up Fn 104 (upd (Fn 104) mr_1 v1)) 106 (upd (Fn 106) mr_1 (((Fn 106) mr_1) + v2))) 29 (putM ((Fn 29)) 400 v1 (atM ((Fn 29)) 400 v1 + v2))) 121) (cn 11) v1)) 122 (upd ((va_up (va_up (va_up Fn 104 (upd (Fn 104) mr_1 v1)) 106 (upd (Fn 106) mr_1 (((Fn 106) mr_1) + v2))) 29 (putM ((Fn 29)) 400 v1 (atM ((Fn 29)) 400 v1 + v2))) 122) (cn 11) v2)) 123 (upd ((va_up (va_up (va_up Fn 104 (upd (Fn 104) mr_1 v1)) 106 (upd (Fn 106) mr_1 (((Fn 106) mr_1) + v2))) 29 (putM ((Fn 29)) 400 v1 (atM ((Fn 29)) 400 v1 + v2))) 123) (cn 11) v3)) 124 (upd ((va_up (va_up (va_up Fn 104 (upd (Fn 104) mr_1 v1)) 106 (upd (Fn 106) mr_1 (((Fn 106) mr_1) + v2))) 29 (putM ((Fn 29)) 400 v1 (atM ((Fn 29)) 400 v1 + v2))) 124) (cn 11) v4)) 125 (upd ((va_up (va_up (va_up Fn 104 (upd (Fn 104) mr_1 v1)) 106 (upd (Fn 106) mr_1 (((Fn 106) mr_1) + v2))) 29 (putM ((Fn 29)) 400 v1 (atM ((Fn 29)) 400 v1 + v2))) 125) (cn 11) v5)) 126 (upd ((va_up (va_up (va_up Fn 104 (upd (Fn 104) mr_1 v1)) 106 (upd (Fn 106) mr_1 (((Fn 106) mr_1) + v2))) 29 (putM ((Fn 29)) 400 v1 (atM ((Fn 29)) 400 v1 + v2))) 126) (cn 11) ((Fn 104) mr_1))) 127 (upd ((va_up (va_up (va_up Fn 104 (upd (Fn 104) mr_1 v1)) 106 (upd (Fn 106) mr_1 (((Fn 106) mr_1) + v2))) 29 (putM ((Fn 29)) 400 v1 (atM ((Fn 29)) 400 v1 + v2))) 127) (cn 11) ((Fn 106) mr_1))) 128 (upd ((va_up (va_up (va_up Fn 104 (upd (Fn 104) mr_1 v1)) 106 (upd (Fn 106) mr_1 (((Fn 106) mr_1) + v2))) 29 (putM ((Fn 29)) 400 v1 (atM ((Fn 29)) 400 v1 + v2))) 128) (cn 11) (if 0 < (((if ((Fn 102) mr_1 * (v1 - ((Fn 104) mr_1))) < (Fn 103) mr_1 then (Fn 102) mr_1 * (v1 - ((Fn 104) mr_1)) else (Fn 103) mr_1)) - v2) - ((if ((Fn 102) mr_1 * (v1 - ((Fn 104) mr_1))) < (Fn 103) mr_1 then (Fn 102) mr_1 * (v1 - ((Fn 104) mr_1)) else (Fn 103) mr_1)) / 10 then (((if ((Fn 102) mr_1 * (v1 - ((Fn 104) mr_1))) < (Fn 103) mr_1 then (Fn 102) mr_1 * (v1 - ((Fn 104) mr_1)) else (Fn 103) mr_1)) - v2) - ((if ((Fn 102) mr_1 * (v1 - ((Fn 104) mr_1))) < (Fn 103) mr_1 then (Fn 102) mr_1 * (v1 - ((Fn 104) mr_1)) else (Fn 103) mr_1)) / 10 else 0))) 129 (upd ((va_up (va_up (va_up Fn 104 (upd (Fn 104) mr_1 v1)) 106 (upd (Fn 106) mr_1 (((Fn 106) mr_1) + v2))) 29 (putM ((Fn 29)) 400 v1 (atM ((Fn 29)) 400 v1 + v2))) 129) (cn 11) 0))) := hD
                  generalize H1 = H at hP hS ⊢
                  refine lv_pop hx hb dX11_fetch_183 rfl ?_
                  refine lv_aload_n hx hb dX11_fetch_184 rfl (lvA2 hl) ?_
                  refine gf_RX11_65 S hK hP 0 xo_0 (v := .ref (g 11)) rfl dX11_fetch_185 ?_
                  refine vp_callSi (runV_r (As := []) (rest := []) S (q_l_size l D cI cB cZ (g 11) (if ((cn 11) + 1) = 0 then zz else (adP ad 11 (cn 11) q89 1 ua23) 2 1) ((In 11) + 1) (nI ((cn 11) + 1))) kV_RX11_84 hK hP [25] (one_is xo_25) 25 xo_25 rfl rfl ⟨Nat.le_of_ble_eq_true rfl, Nat.le_of_ble_eq_true rfl⟩ ⟨Nat.le_of_ble_eq_true rfl, Nat.le_of_ble_eq_true rfl⟩ rfl hl.1 rfl (Nat.le_of_ble_eq_true rfl) dX11_fetch_188) (fun r_28 h_29 => ?_)
                  subst h_29
                  refine lv_iconst (v := 1) hx hb dX11_fetch_191 kic_1 ?_
                  refine lv_isub hx hb dX11_fetch_192 ?_
                  refine lv_topi (fun y_30 ey_30 => ?_)
                  obtain rfl : y_30 = (nI (cn 11)) := ey_30.trans (nI_sub (b := 1) (by omega))
                  exact W.iret (v := (nI (cn 11))) hx hb hr (fun t ht hW => ⟨⟨(nI (cn 11)), ((adP ad 11 (cn 11) q89 1 ua23), (va_up (va_up cn 11 ((cn 11) + 1)) 21 uc23), (va_up In 11 ((In 11) + 1)), (va_up (va_up (va_up (va_up (va_up (va_up (va_up (va_up (va_up (va_up (va_up (va_up (va_up Fn 104 (upd (Fn 104) mr_1 v1)) 106 (upd (Fn 106) mr_1 (((Fn 106) mr_1) + v2))) 29 (putM ((Fn 29)) 400 v1 (atM ((Fn 29)) 400 v1 + v2))) 120 (upd ((va_up (va_up (va_up Fn 104 (upd (Fn 104) mr_1 v1)) 106 (upd (Fn 106) mr_1 (((Fn 106) mr_1) + v2))) 29 (putM ((Fn 29)) 400 v1 (atM ((Fn 29)) 400 v1 + v2))) 120) (cn 11) v0)) 121 (upd ((va_up (va_up (va_up Fn 104 (upd (Fn 104) mr_1 v1)) 106 (upd (Fn 106) mr_1 (((Fn 106) mr_1) + v2))) 29 (putM ((Fn 29)) 400 v1 (atM ((Fn 29)) 400 v1 + v2))) 121) (cn 11) v1)) 122 (upd ((va_up (va_up (va_up Fn 104 (upd (Fn 104) mr_1 v1)) 106 (upd (Fn 106) mr_1 (((Fn 106) mr_1) + v2))) 29 (putM ((Fn 29)) 400 v1 (atM ((Fn 29)) 400 v1 + v2))) 122) (cn 11) v2)) 123 (upd ((va_up (va_up (va_up Fn 104 (upd (Fn 104) mr_1 v1)) 106 (upd (Fn 106) mr_1 (((Fn 106) mr_1) + v2))) 29 (putM ((Fn 29)) 400 v1 (atM ((Fn 29)) 400 v1 + v2))) 123) (cn 11) v3)) 124 (upd ((va_up (va_up (va_up Fn 104 (upd (Fn 104) mr_1 v1)) 106 (upd (Fn 106) mr_1 (((Fn 106) mr_1) + v2))) 29 (putM ((Fn 29)) 400 v1 (atM ((Fn 29)) 400 v1 + v2))) 124) (cn 11) v4)) 125 (upd ((va_up (va_up (va_up Fn 104 (upd (Fn 104) mr_1 v1)) 106 (upd (Fn 106) mr_1 (((Fn 106) mr_1) + v2))) 29 (putM ((Fn 29)) 400 v1 (atM ((Fn 29)) 400 v1 + v2))) 125) (cn 11) v5)) 126 (upd ((va_up (va_up (va_up Fn 104 (upd (Fn 104) mr_1 v1)) 106 (upd (Fn 106) mr_1 (((Fn 106) mr_1) + v2))) 29 (putM ((Fn 29)) 400 v1 (atM ((Fn 29)) 400 v1 + v2))) 126) (cn 11) ((Fn 104) mr_1))) 127 (upd ((va_up (va_up (va_up Fn 104 (upd (Fn 104) mr_1 v1)) 106 (upd (Fn 106) mr_1 (((Fn 106) mr_1) + v2))) 29 (putM ((Fn 29)) 400 v1 (atM ((Fn 29)) 400 v1 + v2))) 127) (cn 11) ((Fn 106) mr_1))) 128 (upd ((va_up (va_up (va_up Fn 104 (upd (Fn 104) mr_1 v1)) 106 (upd (Fn 106) mr_1 (((Fn 106) mr_1) + v2))) 29 (putM ((Fn 29)) 400 v1 (atM ((Fn 29)) 400 v1 + v2))) 128) (cn 11) (if 0 < (((if ((Fn 102) mr_1 * (v1 - ((Fn 104) mr_1))) < (Fn 103) mr_1 then (Fn 102) mr_1 * (v1 - ((Fn 104) mr_1)) else (Fn 103) mr_1)) - v2) - ((if ((Fn 102) mr_1 * (v1 - ((Fn 104) mr_1))) < (Fn 103) mr_1 then (Fn 102) mr_1 * (v1 - ((Fn 104) mr_1)) else (Fn 103) mr_1)) / 10 then (((if ((Fn 102) mr_1 * (v1 - ((Fn 104) mr_1))) < (Fn 103) mr_1 then (Fn 102) mr_1 * (v1 - ((Fn 104) mr_1)) else (Fn 103) mr_1)) - v2) - ((if ((Fn 102) mr_1 * (v1 - ((Fn 104) mr_1))) < (Fn 103) mr_1 then (Fn 102) mr_1 * (v1 - ((Fn 104) mr_1)) else (Fn 103) mr_1)) / 10 else 0))) 129 (upd ((va_up (va_up (va_up Fn 104 (upd (Fn 104) mr_1 v1)) 106 (upd (Fn 106) mr_1 (((Fn 106) mr_1) + v2))) 29 (putM ((Fn 29)) 400 v1 (atM ((Fn 29)) 400 v1 + v2))) 129) (cn 11) 0))), rfl, (Or.inr ⟨rfl, q89, ua23, uc23, ((In 11) + 1), mr_1, by omega, ⟨by omega, by omega⟩, rfl, rfl, rfl, rfl⟩), by rw [ht]; exact hP, hD⟩, hS.F ht⟩) hS.2.2 dX11_fetch_193
              ·
                have h_15 : ¬ (0 ≤ v4.toInt ∧ v4.toInt ≤ 1000) := h_15
                refine lv_if_ne (tgt := 89) hx hb dX11_fetch_84 rfl (fun h => absurd h cq_eq_0_0) (fun _ => ?_)
                refine lv_iconst (v := (-1)) hx hb dX11_fetch_87 kic_m1 ?_
                refine W.widen (k := 2) (n := 110) (Nat.le_of_ble_eq_true rfl) (Nat.le_of_ble_eq_true rfl) ?_
                exact W.iret (v := (-1)) hx hb hr (fun t ht hW => ⟨⟨(-1), (ad, cn, In, Fn), rfl, (Or.inl ⟨rfl, by rintro ⟨m9, hm9⟩; first | omega | (have e9 : m9 = mr_1 := (by omega); subst e9; omega), rfl, rfl, rfl, rfl⟩), by rw [ht]; exact hP, hD⟩, hS.F ht⟩) hS.2.2 dX11_fetch_88
            ·
              have h_13 : ¬ (0 ≤ v3.toInt ∧ v3.toInt ≤ 1000) := h_13
              refine lv_if_eq (tgt := 87) hx hb dX11_fetch_72 rfl (fun _ => ?_) (fun h => absurd h cq_eq_0_0)
              refine lv_iconst (v := (-1)) hx hb dX11_fetch_87 kic_m1 ?_
              refine W.widen (k := 2) (n := 110) (Nat.le_of_ble_eq_true rfl) (Nat.le_of_ble_eq_true rfl) ?_
              exact W.iret (v := (-1)) hx hb hr (fun t ht hW => ⟨⟨(-1), (ad, cn, In, Fn), rfl, (Or.inl ⟨rfl, by rintro ⟨m9, hm9⟩; first | omega | (have e9 : m9 = mr_1 := (by omega); subst e9; omega), rfl, rfl, rfl, rfl⟩), by rw [ht]; exact hP, hD⟩, hS.F ht⟩) hS.2.2 dX11_fetch_88
          ·
            have h_11 : ¬ (0 ≤ v2.toInt ∧ v2.toInt ≤ 400) := h_11
            refine lv_if_eq (tgt := 87) hx hb dX11_fetch_60 rfl (fun _ => ?_) (fun h => absurd h cq_eq_0_0)
            refine lv_iconst (v := (-1)) hx hb dX11_fetch_87 kic_m1 ?_
            refine W.widen (k := 2) (n := 110) (Nat.le_of_ble_eq_true rfl) (Nat.le_of_ble_eq_true rfl) ?_
            exact W.iret (v := (-1)) hx hb hr (fun t ht hW => ⟨⟨(-1), (ad, cn, In, Fn), rfl, (Or.inl ⟨rfl, by rintro ⟨m9, hm9⟩; first | omega | (have e9 : m9 = mr_1 := (by omega); subst e9; omega), rfl, rfl, rfl, rfl⟩), by rw [ht]; exact hP, hD⟩, hS.F ht⟩) hS.2.2 dX11_fetch_88
        ·
          have h_9 : ¬ (v1.toInt ≤ v5.toInt ∧ v5.toInt ≤ 399) := h_9
          refine lv_if_eq (tgt := 87) hx hb dX11_fetch_49 rfl (fun _ => ?_) (fun h => absurd h cq_eq_0_0)
          refine lv_iconst (v := (-1)) hx hb dX11_fetch_87 kic_m1 ?_
          refine W.widen (k := 2) (n := 110) (Nat.le_of_ble_eq_true rfl) (Nat.le_of_ble_eq_true rfl) ?_
          exact W.iret (v := (-1)) hx hb hr (fun t ht hW => ⟨⟨(-1), (ad, cn, In, Fn), rfl, (Or.inl ⟨rfl, by rintro ⟨m9, hm9⟩; first | omega | (have e9 : m9 = mr_1 := (by omega); subst e9; omega), rfl, rfl, rfl, rfl⟩), by rw [ht]; exact hP, hD⟩, hS.F ht⟩) hS.2.2 dX11_fetch_88
      ·
        have h_7 : ¬ (((Fn 104) mr_1).toInt ≤ v1.toInt ∧ v1.toInt ≤ (nI (cn 0)).toInt) := h_7
        refine lv_if_eq (tgt := 87) hx hb dX11_fetch_37 rfl (fun _ => ?_) (fun h => absurd h cq_eq_0_0)
        refine lv_iconst (v := (-1)) hx hb dX11_fetch_87 kic_m1 ?_
        refine W.widen (k := 2) (n := 110) (Nat.le_of_ble_eq_true rfl) (Nat.le_of_ble_eq_true rfl) ?_
        exact W.iret (v := (-1)) hx hb hr (fun t ht hW => ⟨⟨(-1), (ad, cn, In, Fn), rfl, (Or.inl ⟨rfl, by rintro ⟨m9, hm9⟩; first | omega | (have e9 : m9 = mr_1 := (by omega); subst e9; omega), rfl, rfl, rfl, rfl⟩), by rw [ht]; exact hP, hD⟩, hS.F ht⟩) hS.2.2 dX11_fetch_88
  ·
    refine lv_astoreN (lv' := [(7, .null), (0, .ref (g 0)), (1, .int v0), (2, .int v1), (3, .int v2), (4, .int v3), (5, .int v4), (6, .int v5)]) hx hb dX11_fetch_5 hl (ltb rfl) rfl (fun ls hl => ?_)
    refine lv_aloadN hx hb dX11_fetch_7 (lvA0 hl) ?_
    refine lv_ifnullN (tgt := 87) hx hb dX11_fetch_9 rfl ?_
    refine lv_iconst (v := (-1)) hx hb dX11_fetch_87 kic_m1 ?_
    refine W.widen (k := 2) (n := 110) (Nat.le_of_ble_eq_true rfl) (Nat.le_of_ble_eq_true rfl) ?_
    exact W.iret (v := (-1)) hx hb hr (fun t ht hW => ⟨⟨(-1), (ad, cn, In, Fn), rfl, (Or.inl ⟨rfl, by rintro ⟨m9, hm9⟩; first | omega, rfl, rfl, rfl, rfl⟩), by rw [ht]; exact hP, hD⟩, hS.F ht⟩) hS.2.2 dX11_fetch_88
