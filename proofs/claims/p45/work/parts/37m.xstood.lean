def stv (h : Nat → Int32) : Option Nat → Int32
  | none => -2
  | some m => if h m = -1 then -2 else h m
section STV
variable {h h' : Nat → Int32} {o : Option Nat} {m n : Nat}
theorem stv_n (e : o = none) : stv h o = -2 := by subst e; rfl
theorem stv_1 (e : o = some m) (q : h m = -1) : stv h o = -2 := by subst e; exact if_pos q
theorem stv_2 (e : o = some m) (q : ¬ h m = -1) : stv h o = h m := by subst e; exact if_neg q
theorem stv_eq (l : ∀ m : Nat, o = some m → m < n) (e : ∀ i : Nat, i < n → h i = h' i) : stv h o = stv h' o := by
  cases o with
  | none => rfl
  | some m => show (if h m = -1 then -2 else h m) = (if h' m = -1 then -2 else h' m); rw [e m (l m rfl)]
end STV
theorem m1_of {x : Int32} (h : x.toInt = -1) : x = -1 := Int32.toInt_inj.mp h
theorem m1_to {x : Int32} (h : x = -1) : x.toInt = -1 := by subst h; rfl



set_option maxRecDepth 100000 in
set_option maxHeartbeats 4000000 in
theorem q_Estood (l : Launch) (D : va_G) (cI cB cZ : ClassId) (zz qq vv : Nat) (bt : Nat → Int32) (g : Nat → Nat) (ad : Nat → Nat → Nat) (cn : Nat → Nat) (In : Nat → Int32) (Fn : Nat → Nat → Int32) (v0 v1 : Int32) (hB : CBX cn) : Met l yX11_stood (CWS yX11_stood cX11_stood 4 (some .int)) (RM 4 0 0) (PBrx [.ref (g 0), .int v0, .int v1] D cI cB cZ zz qq vv bt (wX cI (D.1 99) zz g ad cn In Fn)) (vp_Si (fun r => ((0 ≤ v0.toInt ∧ v0.toInt < (cn 2 : Int) ∧ 0 ≤ v1.toInt ∧ v1.toInt ≤ 399) ∧ r = stv (Fn 181) (lat (Fn 180) (Fn 182) v0 v1 (cn 15))) ∨ (¬ (0 ≤ v0.toInt ∧ v0.toInt < (cn 2 : Int) ∧ 0 ≤ v1.toInt ∧ v1.toInt ≤ 399) ∧ r = -1))) 0 0 (fun _ => False) := by
  refine en_rx rfl pn_RX11 (Nat.le_of_ble_eq_true rfl) (fun p e s m below meth c hx hb hml hown S hr hlocks hnm hP hK hXS hS ls hl => ?_)
  have hl : lv_has ls 4 [(0, .ref (g 0)), (1, .int v0), (2, .int v1)] := hl
  have hb_cn : Hid (CBX cn) := hB
  replace hB : CBXh cn := hB
  refine lv_iload_n hx hb dX11_stood_0 rfl (lvA1 hl) ?_
  refine lv_iconst (v := 0) hx hb dX11_stood_1 kic_0 ?_
  refine lv_aload_n hx hb dX11_stood_2 rfl (lvA0 hl) ?_
  refine gf_RX11_502 S hK hP 0 xo_0 (v := .int (nI (cn 2))) rfl dX11_stood_3 ?_
  refine lv_iconst (v := 1) hx hb dX11_stood_6 kic_1 ?_
  refine lv_isub hx hb dX11_stood_7 ?_
  have tm1 := nI_mt (c := cn 2) (by (first | omega | (have zz0 := Hid.u hb_cn; omega)))
  refine vp_callSi (runS_r (As := [.int v0, .int 0, .int ((nI (cn 2)) - 1)]) (rest := []) S (q_l_within l D cI cB cZ v0 0 ((nI (cn 2)) - 1)) kS_RX11_80 hK hP [] rfl ⟨Nat.le_of_ble_eq_true rfl, Nat.le_of_ble_eq_true rfl⟩ ⟨Nat.le_of_ble_eq_true rfl, Nat.le_of_ble_eq_true rfl⟩ rfl hl.1 rfl (Nat.le_of_ble_eq_true rfl) dX11_stood_8) (fun r_1 h_2 => ?_)
  rcases h_2 with ⟨rfl, h_2⟩ | ⟨rfl, h_2⟩
  ·
    have h_2 : 0 ≤ v0.toInt ∧ v0.toInt ≤ ((nI (cn 2)) - 1).toInt := h_2
    refine lv_if_eq (tgt := 21) hx hb dX11_stood_11 rfl (fun h => absurd h cq_eq_1_0) (fun _ => ?_)
    refine lv_iload_n hx hb dX11_stood_14 rfl (lvA2 hl) ?_
    refine vp_callSi (runS_r (As := [.int v1]) (rest := []) S (q_l_isDay l D cI cB cZ v1) kS_RX11_99 hK hP [] rfl ⟨Nat.le_of_ble_eq_true rfl, Nat.le_of_ble_eq_true rfl⟩ ⟨Nat.le_of_ble_eq_true rfl, Nat.le_of_ble_eq_true rfl⟩ rfl hl.1 rfl (Nat.le_of_ble_eq_true rfl) dX11_stood_15) (fun r_3 h_4 => ?_)
    rcases h_4 with ⟨rfl, h_4⟩ | ⟨rfl, h_4⟩
    ·
      have h_4 : 0 ≤ v1.toInt ∧ v1.toInt ≤ 399 := h_4
      refine lv_if_ne (tgt := 23) hx hb dX11_stood_18 rfl (fun _ => ?_) (fun h => absurd h cq_eq_1_0)
      refine lv_aload_n hx hb dX11_stood_23 rfl (lvA0 hl) ?_
      refine lv_iload_n hx hb dX11_stood_24 rfl (lvA1 hl) ?_
      refine lv_iload_n hx hb dX11_stood_25 rfl (lvA2 hl) ?_
      refine va_csq (runV_rxa (As := [.int v0, .int v1]) (rest := []) S (q_EmoveBy l D cI cB cZ zz qq vv bt g ad cn In Fn v0 v1 hB) kV_RX11_509 hK hXS hS hP 0 xo_0 rfl rfl ⟨Nat.le_of_ble_eq_true rfl, Nat.le_of_ble_eq_true rfl⟩ ⟨Nat.le_of_ble_eq_true rfl, Nat.le_of_ble_eq_true rfl⟩ rfl hl.1 rfl (Nat.le_of_ble_eq_true rfl) dX11_stood_26) (fun r_5 h_6 => ?_)
      rcases h_6 with ⟨mr_5, er_5, hr_5, rfl⟩ | ⟨hr_5, rfl⟩
      ·
        refine lv_astore_n (lv' := [(3, .ref (ad 15 mr_5)), (0, .ref (g 0)), (1, .int v0), (2, .int v1)]) hx hb dX11_stood_29 rfl hl (ltb rfl) rfl (fun ls hl => ?_)
        refine lv_aload_n hx hb dX11_stood_30 rfl (lvA0 hl) ?_
        refine lv_ifnull hx hb dX11_stood_31 ?_
        refine lv_aload_n hx hb dX11_stood_34 rfl (lvA0 hl) ?_
        have kf_1 : mr_5 < cn 15 := by (first | omega | (have zz0 := Hid.u hb_cn; omega))
        refine gf_RX11_516 S hK hP _ (xf_5 kf_1) (v := .int ((Fn 181) mr_5)) rfl dX11_stood_35 ?_
        refine lv_iconst (v := (-1)) hx hb dX11_stood_38 kic_m1 ?_
        refine lv_icmp_ne (tgt := 47) hx hb dX11_stood_39 rfl (fun c_7 => ?_) (fun c_7 => ?_)
        ·
          have tc_7 : (((Fn 181) mr_5).toInt : Int) ≠ (-1) := fun q => c_7 (Int32.toInt_inj.mp q)
          refine lv_aload_n hx hb dX11_stood_47 rfl (lvA0 hl) ?_
          refine gf_RX11_516 S hK hP _ (xf_5 kf_1) (v := .int ((Fn 181) mr_5)) rfl dX11_stood_48 ?_
          exact W.iret (v := ((Fn 181) mr_5)) hx hb hr (fun t ht hW => ⟨((Fn 181) mr_5), rfl, (Or.inl ⟨by (first | omega | (have zz0 := Hid.u hb_cn; omega)), (stv_2 (by assumption) (fun q9 => by have := m1_to q9; (first | omega | (have zz0 := Hid.u hb_cn; omega)))).symm⟩), ht⟩) (fun _ h => absurd h List.not_mem_nil) dX11_stood_51
        ·
          have tc_7 : (((Fn 181) mr_5).toInt : Int) = (-1) := congrArg Int32.toInt c_7
          refine lv_bipush (v := (-2)) hx hb dX11_stood_42 kbc_m2 ?_
          refine lv_goto (tgt := 51) hx hb dX11_stood_44 rfl ?_
          exact W.iret (v := (-2)) hx hb hr (fun t ht hW => ⟨(-2), rfl, (Or.inl ⟨by (first | omega | (have zz0 := Hid.u hb_cn; omega)), by first | exact (stv_n (by assumption)).symm | exact (stv_1 (by assumption) (m1_of (by (first | omega | (have zz0 := Hid.u hb_cn; omega))))).symm⟩), ht⟩) (fun _ h => absurd h List.not_mem_nil) dX11_stood_51
      ·
        refine lv_astore_nN (lv' := [(3, .null), (0, .ref (g 0)), (1, .int v0), (2, .int v1)]) hx hb dX11_stood_29 rfl hl (ltb rfl) rfl (fun ls hl => ?_)
        refine lv_aload_nN hx hb dX11_stood_30 rfl (lvA0 hl) ?_
        refine lv_ifnullN (tgt := 42) hx hb dX11_stood_31 rfl ?_
        refine lv_bipush (v := (-2)) hx hb dX11_stood_42 kbc_m2 ?_
        refine lv_goto (tgt := 51) hx hb dX11_stood_44 rfl ?_
        exact W.iret (v := (-2)) hx hb hr (fun t ht hW => ⟨(-2), rfl, (Or.inl ⟨by (first | omega | (have zz0 := Hid.u hb_cn; omega)), by first | exact (stv_n (by assumption)).symm | exact (stv_1 (by assumption) (m1_of (by (first | omega | (have zz0 := Hid.u hb_cn; omega))))).symm⟩), ht⟩) (fun _ h => absurd h List.not_mem_nil) dX11_stood_51
    ·
      have h_4 : ¬ (0 ≤ v1.toInt ∧ v1.toInt ≤ 399) := h_4
      refine lv_if_ne (tgt := 23) hx hb dX11_stood_18 rfl (fun h => absurd h cq_eq_0_0) (fun _ => ?_)
      refine lv_iconst (v := (-1)) hx hb dX11_stood_21 kic_m1 ?_
      exact W.iret (v := (-1)) hx hb hr (fun t ht hW => ⟨(-1), rfl, (Or.inr ⟨by (first | omega | (have zz0 := Hid.u hb_cn; omega)), rfl⟩), ht⟩) (fun _ h => absurd h List.not_mem_nil) dX11_stood_22
  ·
    have h_2 : ¬ (0 ≤ v0.toInt ∧ v0.toInt ≤ ((nI (cn 2)) - 1).toInt) := h_2
    refine lv_if_eq (tgt := 21) hx hb dX11_stood_11 rfl (fun _ => ?_) (fun h => absurd h cq_eq_0_0)
    refine lv_iconst (v := (-1)) hx hb dX11_stood_21 kic_m1 ?_
    exact W.iret (v := (-1)) hx hb hr (fun t ht hW => ⟨(-1), rfl, (Or.inr ⟨by (first | omega | (have zz0 := Hid.u hb_cn; omega)), rfl⟩), ht⟩) (fun _ h => absurd h List.not_mem_nil) dX11_stood_22
set_option maxRecDepth 100000 in
set_option maxHeartbeats 4000000 in
theorem q_stood9 (l : Launch) (D : va_G) (cI cB cZ : ClassId) (g : Nat → Nat) (cn : Nat → Nat) (In : Nat → Int32) (Fn : Nat → Nat → Int32) (v0 v1 : Int32) (hI : IM cn Fn) : Met l yX12_stood (CWS yX12_stood cX12_stood 4 (some .int)) (RM 1 0 0) (PBr [.ref (g 100), .int v0, .int v1] D cI cB cZ (wM cI cB cZ g cn In Fn)) (vp_Si (fun r => ((0 ≤ v0.toInt ∧ v0.toInt < (cn 57 : Int) ∧ 0 ≤ v1.toInt ∧ v1.toInt ≤ 399) ∧ r = stv (Fn 60) (lat (Fn 59) (Fn 61) v0 v1 (cn 58))) ∨ (¬ (0 ≤ v0.toInt ∧ v0.toInt < (cn 57 : Int) ∧ 0 ≤ v1.toInt ∧ v1.toInt ≤ 399) ∧ r = -1))) 0 0 (fun _ => False) := by
  refine en_r rfl pn_RX12 (Nat.le_of_ble_eq_true rfl) (fun p e s m below meth c hx hb hml hown S hr hlocks hnm hP hK hS ls hl => ?_)
  have hl : lv_has ls 4 [(0, .ref (g 100)), (1, .int v0), (2, .int v1)] := hl
  have hi_cn : Hid (CB cn) := hI.b
  refine lv_aload_n hx hb dX12_stood_0 rfl (lvA0 hl) ?_
  refine lv_iload_n hx hb dX12_stood_1 rfl (lvA1 hl) ?_
  refine vp_callSi (runV_ra (As := [.int v0]) (rest := []) S (q_isDrum l D cI cB cZ g cn In Fn v0 hI) kV_RX12_413 hK hP 0 rfl rfl rfl ⟨Nat.le_of_ble_eq_true rfl, Nat.le_of_ble_eq_true rfl⟩ ⟨Nat.le_of_ble_eq_true rfl, Nat.le_of_ble_eq_true rfl⟩ rfl hl.1 rfl (Nat.le_of_ble_eq_true rfl) dX12_stood_2) (fun r_1 h_2 => ?_)
  rcases h_2 with ⟨rfl, h_2⟩ | ⟨rfl, h_2⟩
  ·
    have h_2 : 0 ≤ v0.toInt ∧ v0.toInt < ((cn 57) : Int) := h_2
    refine lv_if_eq (tgt := 15) hx hb dX12_stood_5 rfl (fun h => absurd h cq_eq_1_0) (fun _ => ?_)
    refine lv_iload_n hx hb dX12_stood_8 rfl (lvA2 hl) ?_
    refine vp_callSi (runS_r (As := [.int v1]) (rest := []) S (q_isDay l D cI cB cZ v1 ) kS_RX12_341 hK hP [] rfl ⟨Nat.le_of_ble_eq_true rfl, Nat.le_of_ble_eq_true rfl⟩ ⟨Nat.le_of_ble_eq_true rfl, Nat.le_of_ble_eq_true rfl⟩ rfl hl.1 rfl (Nat.le_of_ble_eq_true rfl) dX12_stood_9) (fun r_3 h_4 => ?_)
    rcases h_4 with ⟨rfl, h_4⟩ | ⟨rfl, h_4⟩
    ·
      have h_4 : 0 ≤ v1.toInt ∧ v1.toInt ≤ 399 := h_4
      refine lv_if_ne (tgt := 17) hx hb dX12_stood_12 rfl (fun _ => ?_) (fun h => absurd h cq_eq_1_0)
      refine lv_aload_n hx hb dX12_stood_17 rfl (lvA0 hl) ?_
      refine lv_iload_n hx hb dX12_stood_18 rfl (lvA1 hl) ?_
      refine lv_iload_n hx hb dX12_stood_19 rfl (lvA2 hl) ?_
      refine vp_callSi (runV_ra (As := [.int v0, .int v1]) (rest := []) S (q_latest9 l D cI cB cZ g cn In Fn v0 v1 hI) kV_RX12_416 hK hP 0 rfl rfl rfl ⟨Nat.le_of_ble_eq_true rfl, Nat.le_of_ble_eq_true rfl⟩ ⟨Nat.le_of_ble_eq_true rfl, Nat.le_of_ble_eq_true rfl⟩ rfl hl.1 rfl (Nat.le_of_ble_eq_true rfl) dX12_stood_20) (fun r_5 h_6 => ?_)
      rcases h_6 with ⟨rfl, g8⟩ | ⟨m8, h8, rfl, g8⟩
      ·
        refine lv_istore_n (lv' := [(3, .int (-1)), (0, .ref (g 100)), (1, .int v0), (2, .int v1)]) hx hb dX12_stood_23 rfl hl (ltb rfl) rfl (fun ls hl => ?_)
        refine lv_iload_n hx hb dX12_stood_24 rfl (lvA0 hl) ?_
        refine lv_iconst (v := (-1)) hx hb dX12_stood_25 kic_m1 ?_
        refine lv_icmp_eq (tgt := 39) hx hb dX12_stood_26 rfl (fun _ => ?_) (fun h => absurd h cq_eq_m1_m1)
        refine lv_bipush (v := (-2)) hx hb dX12_stood_39 kbc_m2 ?_
        refine lv_goto (tgt := 50) hx hb dX12_stood_41 rfl ?_
        exact W.iret (v := (-2)) hx hb hr (fun t ht hW => ⟨(-2), rfl, (Or.inl ⟨by (first | omega | (have zz0 := Hid.u hi_cn; omega)), by first | exact (stv_n (by assumption)).symm | exact (stv_1 (by assumption) (m1_of (by (first | omega | (have zz0 := Hid.u hi_cn; omega))))).symm⟩), ht⟩) (fun _ h => absurd h List.not_mem_nil) dX12_stood_50
      ·
        have t8 : (nI m8).toInt = (m8 : Int) := nI_toInt (by (first | omega | (have zz0 := Hid.u hi_cn; omega)))
        refine lv_istore_n (lv' := [(3, .int (nI m8)), (0, .ref (g 100)), (1, .int v0), (2, .int v1)]) hx hb dX12_stood_23 rfl hl (ltb rfl) rfl (fun ls hl => ?_)
        refine lv_iload_n hx hb dX12_stood_24 rfl (lvA0 hl) ?_
        refine lv_iconst (v := (-1)) hx hb dX12_stood_25 kic_m1 ?_
        refine lv_icmp_eq (tgt := 39) hx hb dX12_stood_26 rfl (fun c_7 => False.elim (by have tc_7 : ((nI m8).toInt : Int) = (-1) := congrArg Int32.toInt c_7; (first | omega | (have zz0 := Hid.u hi_cn; omega)))) (fun c_7 => ?_)
        have tc_7 : ((nI m8).toInt : Int) ≠ (-1) := fun q => c_7 (Int32.toInt_inj.mp q)
        refine lv_aload_n hx hb dX12_stood_29 rfl (lvA1 hl) ?_
        refine gM_132 S hK hP (v := .ref (g 60)) rfl dX12_stood_30 ?_
        refine lv_iload_n hx hb dX12_stood_33 rfl (lvA0 hl) ?_
        have kb_1 : m8 < 60 := by (first | omega | (have zz0 := Hid.u hi_cn; omega))
        refine ldM_60 hx hb hK hP (x := ((Fn 60) m8)) (vp_in_nI kb_1 (ltb rfl)) (nI_clamp (Nat.lt_trans kb_1 (ltb rfl))) rfl dX12_stood_34 ?_
        refine lv_iconst (v := (-1)) hx hb dX12_stood_35 kic_m1 ?_
        refine lv_icmp_ne (tgt := 44) hx hb dX12_stood_36 rfl (fun c_8 => ?_) (fun c_8 => ?_)
        ·
          have tc_8 : (((Fn 60) m8).toInt : Int) ≠ (-1) := fun q => c_8 (Int32.toInt_inj.mp q)
          refine lv_aload_n hx hb dX12_stood_44 rfl (lvA1 hl) ?_
          refine gM_132 S hK hP (v := .ref (g 60)) rfl dX12_stood_45 ?_
          refine lv_iload_n hx hb dX12_stood_48 rfl (lvA0 hl) ?_
          refine ldM_60 hx hb hK hP (x := ((Fn 60) m8)) (vp_in_nI kb_1 (ltb rfl)) (nI_clamp (Nat.lt_trans kb_1 (ltb rfl))) rfl dX12_stood_49 ?_
          exact W.iret (v := ((Fn 60) m8)) hx hb hr (fun t ht hW => ⟨((Fn 60) m8), rfl, (Or.inl ⟨by (first | omega | (have zz0 := Hid.u hi_cn; omega)), (stv_2 (by assumption) (fun q9 => by have := m1_to q9; (first | omega | (have zz0 := Hid.u hi_cn; omega)))).symm⟩), ht⟩) (fun _ h => absurd h List.not_mem_nil) dX12_stood_50
        ·
          have tc_8 : (((Fn 60) m8).toInt : Int) = (-1) := congrArg Int32.toInt c_8
          refine lv_bipush (v := (-2)) hx hb dX12_stood_39 kbc_m2 ?_
          refine lv_goto (tgt := 50) hx hb dX12_stood_41 rfl ?_
          exact W.iret (v := (-2)) hx hb hr (fun t ht hW => ⟨(-2), rfl, (Or.inl ⟨by (first | omega | (have zz0 := Hid.u hi_cn; omega)), by first | exact (stv_n (by assumption)).symm | exact (stv_1 (by assumption) (m1_of (by (first | omega | (have zz0 := Hid.u hi_cn; omega))))).symm⟩), ht⟩) (fun _ h => absurd h List.not_mem_nil) dX12_stood_50
    ·
      have h_4 : ¬ (0 ≤ v1.toInt ∧ v1.toInt ≤ 399) := h_4
      refine lv_if_ne (tgt := 17) hx hb dX12_stood_12 rfl (fun h => absurd h cq_eq_0_0) (fun _ => ?_)
      refine lv_iconst (v := (-1)) hx hb dX12_stood_15 kic_m1 ?_
      exact W.iret (v := (-1)) hx hb hr (fun t ht hW => ⟨(-1), rfl, (Or.inr ⟨by (first | omega | (have zz0 := Hid.u hi_cn; omega)), rfl⟩), ht⟩) (fun _ h => absurd h List.not_mem_nil) dX12_stood_16
  ·
    have h_2 : ¬ (0 ≤ v0.toInt ∧ v0.toInt < ((cn 57) : Int)) := h_2
    refine lv_if_eq (tgt := 15) hx hb dX12_stood_5 rfl (fun _ => ?_) (fun h => absurd h cq_eq_0_0)
    refine lv_iconst (v := (-1)) hx hb dX12_stood_15 kic_m1 ?_
    exact W.iret (v := (-1)) hx hb hr (fun t ht hW => ⟨(-1), rfl, (Or.inr ⟨by (first | omega | (have zz0 := Hid.u hi_cn; omega)), rfl⟩), ht⟩) (fun _ h => absurd h List.not_mem_nil) dX12_stood_16
