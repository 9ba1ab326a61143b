

set_option maxRecDepth 100000 in
set_option maxHeartbeats 4000000 in
theorem q_Eblocked (l : Launch) (D : va_G) (cI cB cZ : ClassId) (zz qq vv : Nat) (bt : Nat → Int32) (g : Nat → Nat) (ad : Nat → Nat → Nat) (cn : Nat → Nat) (In : Nat → Int32) (Fn : Nat → Nat → Int32) (v0 : Int32) (sz : Nat) (hB : CBX cn) : Met l yX11_blocked (CWS yX11_blocked cX11_blocked 3 (some .int)) (RM 3 0 0) (PBx [.ref (g 0), .int v0] D cI cB cZ zz qq vv bt (wX cI (D.1 99) zz g ad cn In Fn) sz) (va_Qi (fun (r : Int32) (u : (Nat → Nat) × (Nat → Int32) × (Nat → Nat → Int32)) => (fun r c2 I2 F2 => (∀ k : Nat, k ∉ [] → I2 k = In k) ∧ ((r = (Fn 172 v0.toInt.toNat + 1) ∧ (0 ≤ v0.toInt ∧ v0.toInt < (cn 14 : Int)) ∧ cn = c2 ∧ (va_up Fn 172 (upd (Fn 172) v0.toInt.toNat (Fn 172 v0.toInt.toNat + 1))) = F2) ∨ (r = -1 ∧ (¬ (0 ≤ v0.toInt ∧ v0.toInt < (cn 14 : Int))) ∧ cn = c2 ∧ Fn = F2))) r u.1 u.2.1 u.2.2) (fun (u : (Nat → Nat) × (Nat → Int32) × (Nat → Nat → Int32)) (t : State) => va_P D vwCl (wX cI (D.1 99) zz g ad u.1 u.2.1 u.2.2) t.heap ∧ va_D (va_A (wX cI (D.1 99) zz g ad cn In Fn) sz) (wX cI (D.1 99) zz g ad u.1 u.2.1 u.2.2)) (va_A (wX cI (D.1 99) zz g ad cn In Fn) sz)) 0 0 (va_A (wX cI (D.1 99) zz g ad cn In Fn) sz) := by
  refine Met.ofW (cc := cX11_blocked) (maxL := 3) (ret := (some .int)) (by decide) rfl ?_
  intro p e s m args below meth c s₁ B hml hv
  obtain ⟨rfl, hsz, hP, hK, hD0, hXS⟩ := hv
  have hx := B.exec
  have hb := B.bytes
  have hr := B.returns
  have hts := atoms_spec (ws := (CWS yX11_blocked cX11_blocked 3 (some .int))) B.pre
  have hown : s.vm.findClass RX11 = some m.cls := findClass_of_methodNamed B.named
  have hlocks := B.notSynchronized
  have S : SF p m c cX11_blocked 3 s ([.ref (g 0), .int v0]).toArray RX11 := ⟨hx, hb, hml, hown, fun w h => hts w (List.mem_cons_of_mem _ h)⟩
  subst hsz
  have hD := hD0.self (sz := s.heap.size)
  generalize hAe : va_A (wX cI (D.1 99) zz g ad cn In Fn) s.heap.size = A at hD hXS ⊢
  have hA : ∀ q : Nat, s.heap.size ≤ q → A q := fun q h => by rw [← hAe]; exact Or.inr h
  have hS : va_S A s.heap s.heap [] := va_S.rf
  have hl := lv_entry ([.ref (g 0), .int v0]) (n := 3) (Nat.le_of_ble_eq_true rfl)
  rw [lg_entry_eq]
  generalize (lg_sl ([.ref (g 0), .int v0]) ++ List.replicate (3 - (lg_sl ([.ref (g 0), .int v0])).length) Slot.unset).toArray = ls at hl ⊢
  have hl : lv_has ls 3 [(0, .ref (g 0)), (1, .int v0)] := hl
  have hb_cn : Hid (CBX cn) := hB
  replace hB : CBXh cn := hB
  refine lv_iload_n hx hb dX11_blocked_0 rfl (lvA1 hl) ?_
  refine lv_if_lt (tgt := 15) hx hb dX11_blocked_1 rfl (fun c_1 => ?_) (fun c_1 => ?_)
  ·
    have tc_1 : (v0.toInt : Int) < 0 := Int32.lt_iff_toInt_lt.mp c_1
    refine lv_iconst (v := (-1)) hx hb dX11_blocked_15 kic_m1 ?_
    exact W.iret (v := (-1)) hx hb hr (fun t ht hW => ⟨⟨(-1), (cn, In, Fn), rfl, ⟨(show Fr [] [] [172] cn In Fn cn In Fn from Fr.mo (Fr.rf (cn := cn) (In := In) (Fn := Fn)) (sbl rfl) (sbl rfl) (sbl rfl)).2.1, (Or.inr ⟨rfl, (by first | trivial | (first | omega | (have zz0 := Hid.u hb_cn; omega)) | (simp only [zd0]; (first | omega | (have zz0 := Hid.u hb_cn; omega)))), (by first | rfl | simp only [zd0] | simp only [zd0, zd1]), (by first | rfl | simp only [zd0] | simp only [zd0, zd1])⟩)⟩, by rw [ht]; exact hP, hD⟩, hS.F ht⟩) hS.2.2 dX11_blocked_16
  ·
    have tc_1 : (0 : Int) ≤ v0.toInt := Int32.le_iff_toInt_le.mp (Int32.not_lt.mp c_1)
    refine lv_iload_n hx hb dX11_blocked_4 rfl (lvA1 hl) ?_
    refine lv_aload_n hx hb dX11_blocked_5 rfl (lvA0 hl) ?_
    refine gf_RX11_74 S hK hP 0 xo_0 (v := .ref (g 14)) rfl dX11_blocked_6 ?_
    refine vp_callSi (runV_r (As := []) (rest := [.int v0]) S (q_l_size l D cI cB cZ (g 14) (if (cn 14) = 0 then zz else ad 2 4) (In 14) (nI (cn 14))) kV_RX11_84 hK hP [28] (one_is xo_28) 28 xo_28 rfl rfl ⟨Nat.le_of_ble_eq_true rfl, Nat.le_of_ble_eq_true rfl⟩ ⟨Nat.le_of_ble_eq_true rfl, Nat.le_of_ble_eq_true rfl⟩ rfl hl.1 rfl (Nat.le_of_ble_eq_true rfl) dX11_blocked_9) (fun r_2 h_3 => ?_)
    subst h_3
    have : (nI (cn 14)).toInt = (((cn 14) : Nat) : Int) := nI_toInt (by (first | omega | (have zz0 := Hid.u hb_cn; omega)))
    refine lv_icmp_lt (tgt := 17) hx hb dX11_blocked_12 rfl (fun c_4 => ?_) (fun c_4 => ?_)
    ·
      have tc_4 : (v0.toInt : Int) < (nI (cn 14)).toInt := Int32.lt_iff_toInt_lt.mp c_4
      obtain ⟨d0, hd0, rfl⟩ := nI_of (x := v0) (fun q => by have := Int32.lt_iff_toInt_lt.mp q; have e : (0 : Int32).toInt = 0 := rfl; (first | omega | (have zz0 := Hid.u hb_cn; omega)))
      have td0 : (nI d0).toInt = (d0 : Int) := nI_toInt hd0
      have zd0 : (nI d0).toInt.toNat = d0 := by (first | omega | (have zz0 := Hid.u hb_cn; omega))
      refine lv_aload_n hx hb dX11_blocked_17 rfl (lvA0 hl) ?_
      refine gf_RX11_74 S hK hP 0 xo_0 (v := .ref (g 14)) rfl dX11_blocked_18 ?_
      refine lv_iload_n hx hb dX11_blocked_21 rfl (lvA1 hl) ?_
      refine va_csq (runV_rx (As := [.int (nI d0)]) (rest := []) S (q_l_get l D cI cB cZ zz qq vv bt (g 14) (ad 2 4) (cn 24) (cn 14) d0 (ad 14 d0) (In 14) (fun i => if i < (cn 14) then some (ad 14 i) else none) (by (first | omega | (have zz0 := Hid.u hb_cn; omega))) (if_pos (by (first | omega | (have zz0 := Hid.u hb_cn; omega)))) (by (first | omega | (have zz0 := Hid.u hb_cn; omega))) (by (first | omega | (have zz0 := Hid.u hb_cn; omega)))) kV_RX11_87 hK hXS hS hP _ (two_is (xl_4 (by (first | omega | (have zz0 := Hid.u hb_cn; omega)))) (xf_17 (k := 0) (by (first | omega | (have zz0 := Hid.u hb_cn; omega))))) (va_recv hK.1 hP (ci := 0) rfl xo_28) ⟨Nat.le_of_ble_eq_true rfl, Nat.le_of_ble_eq_true rfl⟩ ⟨Nat.le_of_ble_eq_true rfl, Nat.le_of_ble_eq_true rfl⟩ rfl hl.1 rfl (Nat.le_of_ble_eq_true rfl) dX11_blocked_22) (fun r_5 h_6 => ?_)
      subst h_6
      have kf_1 : d0 < cn 14 := by (first | omega | (have zz0 := Hid.u hb_cn; omega))
      refine va_castS hx hb hown (S.2.2.2.2 _ (wk5_17 5 rfl rfl)) (xclass hK.1 (ci := 7) rfl) (va_recv hK.1 hP (ci := 7) rfl (xf_4 kf_1)) dX11_blocked_25 ?_
      refine lv_astore_n (lv' := [(2, .ref (ad 14 d0)), (0, .ref (g 0)), (1, .int (nI d0))]) hx hb dX11_blocked_28 rfl hl (ltb rfl) rfl (fun ls hl => ?_)
      refine lv_aload_n hx hb dX11_blocked_29 rfl (lvA0 hl) ?_
      refine lv_dup hx hb dX11_blocked_30 rfl ?_
      refine gf_RX11_477 S hK hP _ (xf_4 kf_1) (v := .int ((Fn 172) d0)) rfl dX11_blocked_31 ?_
      refine lv_iconst (v := 1) hx hb dX11_blocked_34 kic_1 ?_
      refine lv_iadd hx hb dX11_blocked_35 ?_
      refine pf_RX11_477 S hK hP hD hS _ (xf_4 kf_1) (v := .int (((Fn 172) d0) + 1)) (Nat.le_of_ble_eq_true rfl) rfl rfl dX11_blocked_36 (fun H locs hP hD hS => ?_)
      have hP : va_P D vwCl (wX cI (D.1 99) zz g ad cn In (va_up Fn 172 (upd (Fn 172) d0 (((Fn 172) d0) + 1)))) H := va_P_eq (xs_172 (by (first | omega | (have zz0 := Hid.u hb_cn; omega)))) hP
      have hD : va_D A (wX cI (D.1 99) zz g ad cn In (va_up Fn 172 (upd (Fn 172) d0 (((Fn 172) d0) + 1)))) := va_D_eq (xs_172 (by (first | omega | (have zz0 := Hid.u hb_cn; omega)))) hD
      refine lv_aload_n hx hb dX11_blocked_39 rfl (lvA0 hl) ?_
      refine gf_RX11_477 S hK hP _ (xf_4 kf_1) (v := .int ((upd (Fn 172) d0 (((Fn 172) d0) + 1)) d0)) rfl dX11_blocked_40 ?_
      refine lv_topi (fun y_7 ey_7 => ?_)
      obtain rfl : y_7 = ((Fn 172) d0 + 1) := ey_7.trans (upd_self _ _ _)
      exact W.iret (v := ((Fn 172) d0 + 1)) hx hb hr (fun t ht hW => ⟨⟨((Fn 172) d0 + 1), (cn, In, (va_up Fn 172 (upd (Fn 172) d0 (((Fn 172) d0) + 1)))), rfl, ⟨(show Fr [] [] [172] cn In Fn cn In (va_up Fn 172 (upd (Fn 172) d0 (((Fn 172) d0) + 1))) from Fr.mo (Fr.f 172 (Fr.rf (cn := cn) (In := In) (Fn := Fn))) (sbl rfl) (sbl rfl) (sbl rfl)).2.1, (Or.inl ⟨by simp only [zd0], (by first | trivial | (first | omega | (have zz0 := Hid.u hb_cn; omega)) | (simp only [zd0]; (first | omega | (have zz0 := Hid.u hb_cn; omega)))), (by first | rfl | simp only [zd0] | simp only [zd0, zd1]), (by first | rfl | simp only [zd0] | simp only [zd0, zd1])⟩)⟩, by rw [ht]; exact hP, hD⟩, hS.F ht⟩) hS.2.2 dX11_blocked_43
    ·
      have tc_4 : ((nI (cn 14)).toInt : Int) ≤ v0.toInt := Int32.le_iff_toInt_le.mp (Int32.not_lt.mp c_4)
      refine lv_iconst (v := (-1)) hx hb dX11_blocked_15 kic_m1 ?_
      exact W.iret (v := (-1)) hx hb hr (fun t ht hW => ⟨⟨(-1), (cn, In, Fn), rfl, ⟨(show Fr [] [] [172] cn In Fn cn In Fn from Fr.mo (Fr.rf (cn := cn) (In := In) (Fn := Fn)) (sbl rfl) (sbl rfl) (sbl rfl)).2.1, (Or.inr ⟨rfl, (by first | trivial | (first | omega | (have zz0 := Hid.u hb_cn; omega)) | (simp only [zd0]; (first | omega | (have zz0 := Hid.u hb_cn; omega)))), (by first | rfl | simp only [zd0] | simp only [zd0, zd1]), (by first | rfl | simp only [zd0] | simp only [zd0, zd1])⟩)⟩, by rw [ht]; exact hP, hD⟩, hS.F ht⟩) hS.2.2 dX11_blocked_16
