

set_option maxRecDepth 100000 in
set_option maxHeartbeats 4000000 in
theorem q_isFree9 (l : Launch) (D : va_G) (cI cB cZ : ClassId) (g : Nat → Nat) (cn : Nat → Nat) (In : Nat → Int32) (Fn : Nat → Nat → Int32) (v0 : Int32) (hI : IM cn Fn) : Met l yX12_isFree (CWS yX12_isFree cX12_isFree 2 (some .boolean)) (RM 1 0 0) (PBr [.ref (g 100), .int v0] D cI cB cZ (wM cI cB cZ g cn In Fn)) (vp_Si (fun r => (r = 1 ∧ 0 ≤ v0.toInt ∧ v0.toInt < (cn 2 : Int) ∧ Fn 15 v0.toInt.toNat = -1 ∧ (Fn 13 v0.toInt.toNat).toInt ≤ (cn 0 : Int)) ∨ (r = 0 ∧ ¬ (0 ≤ v0.toInt ∧ v0.toInt < (cn 2 : Int) ∧ Fn 15 v0.toInt.toNat = -1 ∧ (Fn 13 v0.toInt.toNat).toInt ≤ (cn 0 : Int))))) 0 0 (fun _ => False) := by
  refine en_r rfl pn_RX12 (Nat.le_of_ble_eq_true rfl) (fun p e s m below meth c hx hb hml hown S hr hlocks hnm hP hK hS ls hl => ?_)
  have hl : lv_has ls 2 [(0, .ref (g 100)), (1, .int v0)] := hl
  have hi_cn : Hid (CB cn) := hI.b
  refine lv_aload_n hx hb (oc_42 0 shX12_isFree_0) rfl (lvA0 hl) ?_
  refine lv_iload_n hx hb (oc_27 1 (aq_1 shX12_isFree_0)) rfl (lvA1 hl) ?_
  refine vp_callSi (runV_ra (As := [.int v0]) (rest := []) S (q_isLoad l D cI cB cZ g cn In Fn v0 hI) kV_RX12_335 hK hP 0 rfl rfl rfl ⟨Nat.le_of_ble_eq_true rfl, Nat.le_of_ble_eq_true rfl⟩ ⟨Nat.le_of_ble_eq_true rfl, Nat.le_of_ble_eq_true rfl⟩ rfl hl.1 rfl (Nat.le_of_ble_eq_true rfl) (oc_182 2 (aq_2 shX12_isFree_0) uw_1_79)) (fun r_1 h_2 => ?_)
  rcases h_2 with ⟨rfl, h_2⟩ | ⟨rfl, h_2⟩
  ·
    have h_2 : 0 ≤ v0.toInt ∧ v0.toInt < ((cn 2) : Int) := h_2
    refine lv_if_eq (tgt := 35) hx hb dX12_isFree_5 rfl (fun h => absurd h cq_eq_1_0) (fun _ => ?_)
    obtain ⟨d0, hd0, rfl⟩ := nI_of (x := v0) (fun q => by have := Int32.lt_iff_toInt_lt.mp q; have e : (0 : Int32).toInt = 0 := rfl; (first | omega | (have zz0 := Hid.u hi_cn; omega)))
    have td0 : (nI d0).toInt = (d0 : Int) := nI_toInt hd0
    have zd0 : (nI d0).toInt.toNat = d0 := by (first | omega | (have zz0 := Hid.u hi_cn; omega))
    refine lv_aload_n hx hb (oc_42 8 (aq_8 shX12_isFree_0)) rfl (lvA0 hl) ?_
    refine gM_46 S hK hP (v := .ref (g 15)) rfl (oc_180 9 (aq_9 shX12_isFree_0) uw_0_46) ?_
    refine lv_iload_n hx hb (oc_27 12 (aq_12 shX12_isFree_0)) rfl (lvA1 hl) ?_
    have kb_1 : d0 < 60 := by (first | omega | (have zz0 := Hid.u hi_cn; omega))
    refine ldM_15 hx hb hK hP (x := ((Fn 15) d0)) (vp_in_nI kb_1 (ltb rfl)) (nI_clamp (Nat.lt_trans kb_1 (ltb rfl))) rfl (oc_46 13 (aq_13 shX12_isFree_0)) ?_
    refine lv_iconst (v := (-1)) hx hb (oc_2 14 (aq_14 shX12_isFree_0)) kic_m1 ?_
    refine lv_icmp_ne (tgt := 35) hx hb (oc_160 15 (aq_15 shX12_isFree_0) sgw_0_20) rfl (fun c_3 => ?_) (fun c_3 => ?_)
    ·
      have tc_3 : (((Fn 15) d0).toInt : Int) ≠ (-1) := fun q => c_3 (Int32.toInt_inj.mp q)
      refine lv_iconst (v := 0) hx hb dX12_isFree_35 kic_0 ?_
      exact W.zret (v := 0) hx hb hr rfl (fun t ht hW => ⟨0, rfl, (Or.inr ⟨rfl, fun q9 => by first | (first | omega | (have zz0 := Hid.u hi_cn; omega)) | (simp only [zd0] at q9; (first | omega | (have zz0 := Hid.u hi_cn; omega))) | (simp only [zd0] at q9; exact absurd q9.2.2.1 (by first | assumption | exact fun q => absurd (congrArg Int32.toInt q) (by assumption)))⟩), ht⟩) (fun _ h => absurd h List.not_mem_nil) dX12_isFree_36
    ·
      have tc_3 : (((Fn 15) d0).toInt : Int) = (-1) := congrArg Int32.toInt c_3
      refine lv_aload_n hx hb (oc_42 18 (aq_18 shX12_isFree_0)) rfl (lvA0 hl) ?_
      refine gM_40 S hK hP (v := .ref (g 13)) rfl (oc_180 19 (aq_19 shX12_isFree_0) uw_0_40) ?_
      refine lv_iload_n hx hb (oc_27 22 (aq_22 shX12_isFree_0)) rfl (lvA1 hl) ?_
      refine ldM_13 hx hb hK hP (x := ((Fn 13) d0)) (vp_in_nI kb_1 (ltb rfl)) (nI_clamp (Nat.lt_trans kb_1 (ltb rfl))) rfl (oc_46 23 (aq_23 shX12_isFree_0)) ?_
      refine lv_aload_n hx hb (oc_42 24 shX12_isFree_24) rfl (lvA0 hl) ?_
      refine gM_211 S hK hP (v := .int (nI (cn 0))) rfl (oc_180 25 (aq_1 shX12_isFree_24) uw_0_211) ?_
      have : (nI (cn 0)).toInt = (((cn 0) : Nat) : Int) := nI_toInt (by (first | omega | (have zz0 := Hid.u hi_cn; omega)))
      refine lv_icmp_gt (tgt := 35) hx hb (oc_163 28 (aq_4 shX12_isFree_24) sgw_0_7) rfl (fun c_4 => ?_) (fun c_4 => ?_)
      ·
        have tc_4 : ((nI (cn 0)).toInt : Int) < ((Fn 13) d0).toInt := Int32.lt_iff_toInt_lt.mp c_4
        refine lv_iconst (v := 0) hx hb dX12_isFree_35 kic_0 ?_
        exact W.zret (v := 0) hx hb hr rfl (fun t ht hW => ⟨0, rfl, (Or.inr ⟨rfl, fun q9 => by first | (first | omega | (have zz0 := Hid.u hi_cn; omega)) | (simp only [zd0] at q9; (first | omega | (have zz0 := Hid.u hi_cn; omega))) | (simp only [zd0] at q9; exact absurd q9.2.2.1 (by first | assumption | exact fun q => absurd (congrArg Int32.toInt q) (by assumption)))⟩), ht⟩) (fun _ h => absurd h List.not_mem_nil) dX12_isFree_36
      ·
        have tc_4 : (((Fn 13) d0).toInt : Int) ≤ (nI (cn 0)).toInt := Int32.le_iff_toInt_le.mp (Int32.not_lt.mp c_4)
        refine lv_iconst (v := 1) hx hb (oc_4 31 (aq_7 shX12_isFree_24)) kic_1 ?_
        refine lv_goto (tgt := 36) hx hb (oc_167 32 (aq_8 shX12_isFree_24) sgw_0_4) rfl ?_
        exact W.zret (v := 1) hx hb hr rfl (fun t ht hW => ⟨1, rfl, (Or.inl ⟨rfl, by (first | omega | (have zz0 := Hid.u hi_cn; omega)), by (first | omega | (have zz0 := Hid.u hi_cn; omega)), (by simp only [zd0]; exact (by first | assumption | exact Int32.toInt_inj.mp (by assumption))), (by simp only [zd0]; (first | omega | (have zz0 := Hid.u hi_cn; omega)))⟩), ht⟩) (fun _ h => absurd h List.not_mem_nil) dX12_isFree_36
  ·
    have h_2 : ¬ (0 ≤ v0.toInt ∧ v0.toInt < ((cn 2) : Int)) := h_2
    refine lv_if_eq (tgt := 35) hx hb dX12_isFree_5 rfl (fun _ => ?_) (fun h => absurd h cq_eq_0_0)
    refine lv_iconst (v := 0) hx hb dX12_isFree_35 kic_0 ?_
    exact W.zret (v := 0) hx hb hr rfl (fun t ht hW => ⟨0, rfl, (Or.inr ⟨rfl, fun q9 => by first | (first | omega | (have zz0 := Hid.u hi_cn; omega)) | (simp only [zd0] at q9; (first | omega | (have zz0 := Hid.u hi_cn; omega))) | (simp only [zd0] at q9; exact absurd q9.2.2.1 (by first | assumption | exact fun q => absurd (congrArg Int32.toInt q) (by assumption)))⟩), ht⟩) (fun _ h => absurd h List.not_mem_nil) dX12_isFree_36
set_option maxRecDepth 100000 in
set_option maxHeartbeats 4000000 in
theorem q_bits9 (l : Launch) (D : va_G) (cI cB cZ : ClassId) (v0 : Int32)  : Met l yX12_bits (CWS yX12_bits cX12_bits 3 (some .int)) (RM 0 0 0) (PBr [.int v0] D cI cB cZ []) (vp_Si (fun r => r = mxI (fun _ => 1) v0 20)) 0 0 (fun _ => False) := by
  refine en_r rfl pn_RX12 (Nat.le_of_ble_eq_true rfl) (fun p e s m below meth c hx hb hml hown S hr hlocks hnm hP hK hS ls hl => ?_)
  have hl : lv_has ls 3 [(0, .int v0)] := hl
  refine lv_iconst (v := 0) hx hb (oc_3 0 shX12_bits_0) kic_0 ?_
  refine lv_istore_n (lv' := [(1, .int 0), (0, .int v0)]) hx hb (oc_60 1 (aq_1 shX12_bits_0)) rfl hl (ltb rfl) rfl (fun ls hl => ?_)
  refine lv_iconst (v := 0) hx hb (oc_3 2 (aq_2 shX12_bits_0)) kic_0 ?_
  refine lv_istore_n (lv' := [(2, .int 0), (1, .int 0), (0, .int v0)]) hx hb (oc_61 3 (aq_3 shX12_bits_0)) rfl hl (ltb rfl) rfl (fun ls hl => ?_)
  have lp_4 : ∀ (n : Nat) (i4 : Nat) (x4_1 : Int32) , 20 - i4 < n → (i4 ≤ 20 ∧ (x4_1 = mxI (fun _ => 1) v0 i4)) → ∀ ls : Array Slot, lv_has ls 3 [(2, .int (nI i4)), (1, .int x4_1), (0, .int v0)] → W p l e (RM 0 0 0) s m ([.int v0]).toArray below meth c s.heap [] 0 0 (MQ below (vp_Si (fun r => r = mxI (fun _ => 1) v0 20)) ([.int v0]).toArray s 0 0 (fun _ => False)) (F0 m 4 ls []) := by
    intro n4
    induction n4 with
    | zero => intros; omega
    | succ n4 ih4 =>
      intro i4 x4_1 hmu4 hinv4 ls hl
      obtain ⟨hr4, hx4_0⟩ := hinv4
      have ti4 : (nI i4).toInt = (i4 : Int) := nI_toInt (by omega)
      refine lv_iload_n hx hb (oc_28 4 (aq_4 shX12_bits_0)) rfl (lvA0 hl) ?_
      refine lv_bipush (v := 20) hx hb (oc_16 5 (aq_5 shX12_bits_0) sgb_20) kbc_20 ?_
      refine lv_icmp_ge (tgt := 24) hx hb (oc_162 7 (aq_7 shX12_bits_0) sgw_0_17) rfl (fun c_1 => ?_) (fun c_1 => ?_)
      ·
        have tc_1 : (20 : Int) ≤ (nI i4).toInt := Int32.le_iff_toInt_le.mp c_1
        refine lv_iload_n hx hb (oc_27 24 shX12_bits_24) rfl (lvA1 hl) ?_
        exact W.iret (v := x4_1) hx hb hr (fun t ht hW => ⟨x4_1, rfl, (by have e9 : i4 = 20 := (by omega); rw [← e9]; exact hx4_0), ht⟩) (fun _ h => absurd h List.not_mem_nil) (oc_172 25 (aq_1 shX12_bits_24))
      ·
        have tc_1 : ((nI i4).toInt : Int) < 20 := Int32.lt_iff_toInt_lt.mp (Int32.not_le.mp c_1)
        refine lv_iload_n hx hb (oc_27 10 (aq_10 shX12_bits_0)) rfl (lvA1 hl) ?_
        refine lv_iload_n hx hb (oc_26 11 (aq_11 shX12_bits_0)) rfl (lvA2 hl) ?_
        refine lv_iload_n hx hb (oc_28 12 (aq_12 shX12_bits_0)) rfl (lvA0 hl) ?_
        refine lv_ishr hx hb (oc_122 13 (aq_13 shX12_bits_0)) ?_
        refine lv_iconst (v := 1) hx hb (oc_4 14 (aq_14 shX12_bits_0)) kic_1 ?_
        refine lv_iand hx hb (oc_126 15 (aq_15 shX12_bits_0)) ?_
        refine lv_iadd hx hb (oc_96 16 (aq_16 shX12_bits_0)) ?_
        refine lv_istore_n (lv' := [(1, .int (x4_1 + ((v0 >>> ((nI i4) &&& 31)) &&& 1))), (2, .int (nI i4)), (0, .int v0)]) hx hb (oc_60 17 (aq_17 shX12_bits_0)) rfl hl (ltb rfl) rfl (fun ls hl => ?_)
        refine lv_iinc (v := (nI (i4 + 1))) (lv' := [(2, .int (nI (i4 + 1))), (1, .int (x4_1 + ((v0 >>> ((nI i4) &&& 31)) &&& 1))), (0, .int v0)]) hx hb (oc_132 18 (aq_18 shX12_bits_0) ub_2 sgb_1) hl (k := 1) rfl (nI_1 _) (ltb rfl) rfl (fun ls hl => ?_)
        refine lv_goto (tgt := 4) hx hb (oc_167 21 (aq_21 shX12_bits_0) sgw_255_239) rfl ?_
        exact ih4 (i4 + 1) (x4_1 + ((v0 >>> ((nI i4) &&& 31)) &&& 1)) (by omega) ⟨(by omega), (mxI_b (by omega) hx4_0)⟩ ls (lv_sub hl [0, 1, 2] rfl)
  exact lp_4 _ 0 0 (Nat.lt_succ_self _) ⟨(by omega), rfl⟩ ls (lv_sub hl [0, 1, 2] rfl)
set_option maxRecDepth 100000 in
set_option maxHeartbeats 4000000 in
theorem q_mixes9 (l : Launch) (D : va_G) (cI cB cZ : ClassId) (g : Nat → Nat) (cn : Nat → Nat) (In : Nat → Int32) (Fn : Nat → Nat → Int32) (v0 : Int32) (sz : Nat) (hI : IM cn Fn) : Met l yX12_mixes (CWS yX12_mixes cX12_mixes 5 none) (RM 0 0 0) (PBw [.ref (g 100), .int v0] D cI cB cZ (wM cI cB cZ g cn In Fn) sz) (va_Qv (fun (u : (Nat → Nat) × (Nat → Int32) × (Nat → Nat → Int32)) => (fun c2 I2 F2 => Fr [] [71, 72, 73] [] cn In Fn c2 I2 F2 ∧ IM c2 F2 ∧ (I2 71 = mxI (Fn 10) v0 20 ∧ I2 72 = (if mxI (Fn 10) v0 20 = 0 then 0 else mxI (fun i => Fn 10 i * Fn 11 i) v0 20 / mxI (Fn 10) v0 20) ∧ I2 73 = (if mxI (Fn 10) v0 20 = 0 then 0 else mxI (fun i => Fn 10 i * Fn 12 i) v0 20 / mxI (Fn 10) v0 20))) u.1 u.2.1 u.2.2) (fun (u : (Nat → Nat) × (Nat → Int32) × (Nat → Nat → Int32)) (t : State) => va_P D vwCl (wM cI cB cZ g u.1 u.2.1 u.2.2) t.heap ∧ va_D (va_A (wM cI cB cZ g cn In Fn) sz) (wM cI cB cZ g u.1 u.2.1 u.2.2)) (va_A (wM cI cB cZ g cn In Fn) sz)) 0 0 (va_A (wM cI cB cZ g cn In Fn) sz) := by
  refine en_w (fun A => (va_Qv (fun (u : (Nat → Nat) × (Nat → Int32) × (Nat → Nat → Int32)) => (fun (c2 : Nat → Nat) (I2 : Nat → Int32) (F2 : Nat → Nat → Int32) => Fr [] [71, 72, 73] [] cn In Fn c2 I2 F2 ∧ IM c2 F2 ∧ (I2 71 = mxI (Fn 10) v0 20 ∧ I2 72 = (if mxI (Fn 10) v0 20 = 0 then 0 else mxI (fun i => Fn 10 i * Fn 11 i) v0 20 / mxI (Fn 10) v0 20) ∧ I2 73 = (if mxI (Fn 10) v0 20 = 0 then 0 else mxI (fun i => Fn 10 i * Fn 12 i) v0 20 / mxI (Fn 10) v0 20))) u.1 u.2.1 u.2.2) (fun (u : (Nat → Nat) × (Nat → Int32) × (Nat → Nat → Int32)) (t : State) => va_P D vwCl (wM cI cB cZ g u.1 u.2.1 u.2.2) t.heap ∧ va_D A (wM cI cB cZ g u.1 u.2.1 u.2.2)) A)) rfl rfl pn_RX12 (Nat.le_of_ble_eq_true rfl) (fun p e s m below meth c A hx hb hml hown S hr hlocks hnm hA hP hK hD hS ls hl => ?_)
  have hl : lv_has ls 5 [(0, .ref (g 100)), (1, .int v0)] := hl
  have hi_cn : Hid (CB cn) := hI.b
  refine lv_iconst (v := 0) hx hb (oc_3 0 shX12_mixes_0) kic_0 ?_
  refine lv_istore_n (lv' := [(2, .int 0), (0, .ref (g 100)), (1, .int v0)]) hx hb (oc_61 1 (aq_1 shX12_mixes_0)) rfl hl (ltb rfl) rfl (fun ls hl => ?_)
  refine lv_iconst (v := 0) hx hb (oc_3 2 (aq_2 shX12_mixes_0)) kic_0 ?_
  refine lv_istore_n (lv' := [(3, .int 0), (2, .int 0), (0, .ref (g 100)), (1, .int v0)]) hx hb (oc_62 3 (aq_3 shX12_mixes_0)) rfl hl (ltb rfl) rfl (fun ls hl => ?_)
  refine lv_aload_n hx hb (oc_42 4 (aq_4 shX12_mixes_0)) rfl (lvA2 hl) ?_
  refine lv_iconst (v := 0) hx hb (oc_3 5 (aq_5 shX12_mixes_0)) kic_0 ?_
  refine pM_419 S hK hP hD hS (In2 := (va_up In 71 0)) rfl (oc_181 6 (aq_6 shX12_mixes_0) uw_1_163) (fun H locs hP hD hS => ?_)
  refine lv_iconst (v := 0) hx hb (oc_3 9 (aq_9 shX12_mixes_0)) kic_0 ?_
  refine lv_istore (lv' := [(4, .int 0), (3, .int 0), (2, .int 0), (0, .ref (g 100)), (1, .int v0)]) hx hb (oc_54 10 (aq_10 shX12_mixes_0) ub_4) hl (ltb rfl) rfl (fun ls hl => ?_)
  have lp_12 : ∀ (n : Nat) (i12 : Nat) (x12_2 : Int32) (x12_3 : Int32) (I12 : Nat → Int32) (H : Heap) (locs : List Loc) , 20 - i12 < n → (i12 ≤ 20 ∧ Fr [] [71, 72, 73] [] cn In Fn cn I12 Fn ∧ IM cn Fn ∧ (I12 71 = mxI (Fn 10) v0 i12) ∧ (x12_2 = mxI (fun i => Fn 10 i * Fn 11 i) v0 i12) ∧ (x12_3 = mxI (fun i => Fn 10 i * Fn 12 i) v0 i12)) → va_P D vwCl (wM cI cB cZ g cn I12 Fn) H → va_D A (wM cI cB cZ g cn I12 Fn) → va_S A s.heap H locs → ∀ ls : Array Slot, lv_has ls 5 [(4, .int (nI i12)), (3, .int x12_3), (2, .int x12_2), (0, .ref (g 100)), (1, .int v0)] → W p l e (RM 0 0 0) s m ([.ref (g 100), .int v0]).toArray below meth c H locs 0 0 (MQ below (va_Qv (fun (u : (Nat → Nat) × (Nat → Int32) × (Nat → Nat → Int32)) => (fun c2 I2 F2 => Fr [] [71, 72, 73] [] cn In Fn c2 I2 F2 ∧ IM c2 F2 ∧ (I2 71 = mxI (Fn 10) v0 20 ∧ I2 72 = (if mxI (Fn 10) v0 20 = 0 then 0 else mxI (fun i => Fn 10 i * Fn 11 i) v0 20 / mxI (Fn 10) v0 20) ∧ I2 73 = (if mxI (Fn 10) v0 20 = 0 then 0 else mxI (fun i => Fn 10 i * Fn 12 i) v0 20 / mxI (Fn 10) v0 20))) u.1 u.2.1 u.2.2) (fun (u : (Nat → Nat) × (Nat → Int32) × (Nat → Nat → Int32)) (t : State) => va_P D vwCl (wM cI cB cZ g u.1 u.2.1 u.2.2) t.heap ∧ va_D A (wM cI cB cZ g u.1 u.2.1 u.2.2)) A) ([.ref (g 100), .int v0]).toArray s 0 0 A) (F0 m 12 ls []) := by
    intro n12
    induction n12 with
    | zero => intros; (first | omega | (have zz0 := Hid.u hi_cn; omega))
    | succ n12 ih12 =>
      intro i12 x12_2 x12_3 I12 H locs hmu12 hinv12 hP hD hS ls hl
      obtain ⟨hr12, hfr12, hI12, hx12_0, hx12_1, hx12_2⟩ := hinv12
      have ti12 : (nI i12).toInt = (i12 : Int) := nI_toInt (by (first | omega | (have zz0 := Hid.u hi_cn; omega)))
      have hi_cn : Hid (CB cn) := hI12.b
      refine lv_iload hx hb (oc_21 12 (aq_12 shX12_mixes_0) ub_4) (lvA0 hl) ?_
      refine lv_bipush (v := 20) hx hb (oc_16 14 (aq_14 shX12_mixes_0) sgb_20) kbc_20 ?_
      refine lv_icmp_ge (tgt := 89) hx hb (oc_162 16 (aq_16 shX12_mixes_0) sgw_0_73) rfl (fun c_1 => ?_) (fun c_1 => ?_)
      ·
        have tc_1 : (20 : Int) ≤ (nI i12).toInt := Int32.le_iff_toInt_le.mp c_1
        refine lv_aload_n hx hb (oc_42 89 (aq_17 shX12_mixes_72)) rfl (lvA3 hl) ?_
        refine lv_aload_n hx hb (oc_42 90 (aq_18 shX12_mixes_72)) rfl (lvA3 hl) ?_
        refine gM_419 S hK hP (v := .int (I12 71)) rfl (oc_180 91 (aq_19 shX12_mixes_72) uw_1_163) ?_
        refine lv_if_ne (tgt := 101) hx hb (oc_154 94 (aq_22 shX12_mixes_72) sgw_0_7) rfl (fun c_2 => ?_) (fun c_2 => ?_)
        ·
          have tc_2 : ((I12 71).toInt : Int) ≠ 0 := fun q => c_2 (Int32.toInt_inj.mp q)
          refine lv_iload_n hx hb (oc_28 101 (aq_4 shX12_mixes_97)) rfl (lvA2 hl) ?_
          refine lv_aload_n hx hb (oc_42 102 (aq_5 shX12_mixes_97)) rfl (lvA3 hl) ?_
          refine gM_419 S hK hP (v := .int (I12 71)) rfl (oc_180 103 (aq_6 shX12_mixes_97) uw_1_163) ?_
          refine lv_idiv hx hb (oc_108 106 (aq_9 shX12_mixes_97)) (by assumption) ?_
          refine pM_422 S hK hP hD hS (In2 := (va_up I12 72 (x12_2 / (I12 71)))) rfl dX12_mixes_107 (fun H locs hP hD hS => ?_)
          refine lv_aload_n hx hb dX12_mixes_110 rfl (lvA3 hl) ?_
          refine lv_aload_n hx hb dX12_mixes_111 rfl (lvA3 hl) ?_
          refine gM_419 S hK hP (v := .int (I12 71)) rfl dX12_mixes_112 ?_
          refine lv_if_ne (tgt := 122) hx hb dX12_mixes_115 rfl (fun c_3 => ?_) (fun c_3 => ?_)
          ·
            have tc_3 : ((I12 71).toInt : Int) ≠ 0 := fun q => c_3 (Int32.toInt_inj.mp q)
            refine lv_iload_n hx hb (oc_29 122 shX12_mixes_122) rfl (lvA1 hl) ?_
            refine lv_aload_n hx hb (oc_42 123 (aq_1 shX12_mixes_122)) rfl (lvA3 hl) ?_
            refine gM_419 S hK hP (v := .int (I12 71)) rfl (oc_180 124 (aq_2 shX12_mixes_122) uw_1_163) ?_
            refine lv_idiv hx hb (oc_108 127 (aq_5 shX12_mixes_122)) (by assumption) ?_
            refine pM_425 S hK hP hD hS (In2 := (va_up (va_up I12 72 (x12_2 / (I12 71))) 73 (x12_3 / (I12 71)))) rfl dX12_mixes_128 (fun H locs hP hD hS => ?_)
            exact W.vret hx hb hr (fun t ht hW => ⟨⟨(cn, (va_up (va_up I12 72 (x12_2 / (I12 71))) 73 (x12_3 / (I12 71))), Fn), rfl, ⟨(Fr.mo (Fr.i 73 (Fr.i 72 hfr12)) (sbl rfl) (sbl rfl) (sbl rfl)), hI12, (by show (va_up (va_up I12 72 (x12_2 / (I12 71))) 73 (x12_3 / (I12 71))) 71 = mxI (Fn 10) v0 20 ∧ (va_up (va_up I12 72 (x12_2 / (I12 71))) 73 (x12_3 / (I12 71))) 72 = (if mxI (Fn 10) v0 20 = 0 then 0 else mxI (fun i => Fn 10 i * Fn 11 i) v0 20 / mxI (Fn 10) v0 20) ∧ (va_up (va_up I12 72 (x12_2 / (I12 71))) 73 (x12_3 / (I12 71))) 73 = (if mxI (Fn 10) v0 20 = 0 then 0 else mxI (fun i => Fn 10 i * Fn 12 i) v0 20 / mxI (Fn 10) v0 20); have e9 : i12 = 20 := (by (first | omega | (have zz0 := Hid.u hi_cn; omega))); subst e9; exact ⟨hx12_0, (by rw [← hx12_0, ← hx12_1]; first | exact (if_pos (by first | assumption | exact Int32.toInt_inj.mp (by assumption))).symm | exact (if_neg (by first | assumption | exact fun q => absurd (congrArg Int32.toInt q) (by assumption))).symm), (by rw [← hx12_0, ← hx12_2]; first | exact (if_pos (by first | assumption | exact Int32.toInt_inj.mp (by assumption))).symm | exact (if_neg (by first | assumption | exact fun q => absurd (congrArg Int32.toInt q) (by assumption))).symm)⟩)⟩, by rw [ht]; exact hP, hD⟩, hS.F ht⟩) hS.2.2 dX12_mixes_131
          ·
            have tc_3 : ((I12 71).toInt : Int) = 0 := congrArg Int32.toInt c_3
            refine lv_iconst (v := 0) hx hb dX12_mixes_118 kic_0 ?_
            refine lv_goto (tgt := 128) hx hb dX12_mixes_119 rfl ?_
            refine pM_425 S hK hP hD hS (In2 := (va_up (va_up I12 72 (x12_2 / (I12 71))) 73 0)) rfl dX12_mixes_128 (fun H locs hP hD hS => ?_)
            exact W.vret hx hb hr (fun t ht hW => ⟨⟨(cn, (va_up (va_up I12 72 (x12_2 / (I12 71))) 73 0), Fn), rfl, ⟨(Fr.mo (Fr.i 73 (Fr.i 72 hfr12)) (sbl rfl) (sbl rfl) (sbl rfl)), hI12, (by show (va_up (va_up I12 72 (x12_2 / (I12 71))) 73 0) 71 = mxI (Fn 10) v0 20 ∧ (va_up (va_up I12 72 (x12_2 / (I12 71))) 73 0) 72 = (if mxI (Fn 10) v0 20 = 0 then 0 else mxI (fun i => Fn 10 i * Fn 11 i) v0 20 / mxI (Fn 10) v0 20) ∧ (va_up (va_up I12 72 (x12_2 / (I12 71))) 73 0) 73 = (if mxI (Fn 10) v0 20 = 0 then 0 else mxI (fun i => Fn 10 i * Fn 12 i) v0 20 / mxI (Fn 10) v0 20); have e9 : i12 = 20 := (by (first | omega | (have zz0 := Hid.u hi_cn; omega))); subst e9; exact ⟨hx12_0, (by rw [← hx12_0, ← hx12_1]; first | exact (if_pos (by first | assumption | exact Int32.toInt_inj.mp (by assumption))).symm | exact (if_neg (by first | assumption | exact fun q => absurd (congrArg Int32.toInt q) (by assumption))).symm), (by rw [← hx12_0, ← hx12_2]; first | exact (if_pos (by first | assumption | exact Int32.toInt_inj.mp (by assumption))).symm | exact (if_neg (by first | assumption | exact fun q => absurd (congrArg Int32.toInt q) (by assumption))).symm)⟩)⟩, by rw [ht]; exact hP, hD⟩, hS.F ht⟩) hS.2.2 dX12_mixes_131
        ·
          have tc_2 : ((I12 71).toInt : Int) = 0 := congrArg Int32.toInt c_2
          refine lv_iconst (v := 0) hx hb (oc_3 97 shX12_mixes_97) kic_0 ?_
          refine lv_goto (tgt := 107) hx hb (oc_167 98 (aq_1 shX12_mixes_97) sgw_0_9) rfl ?_
          refine pM_422 S hK hP hD hS (In2 := (va_up I12 72 0)) rfl dX12_mixes_107 (fun H locs hP hD hS => ?_)
          refine lv_aload_n hx hb dX12_mixes_110 rfl (lvA3 hl) ?_
          refine lv_aload_n hx hb dX12_mixes_111 rfl (lvA3 hl) ?_
          refine gM_419 S hK hP (v := .int (I12 71)) rfl dX12_mixes_112 ?_
          refine lv_if_ne (tgt := 122) hx hb dX12_mixes_115 rfl (fun c_4 => False.elim (by have tc_4 : ((I12 71).toInt : Int) ≠ 0 := fun q => c_4 (Int32.toInt_inj.mp q); (first | omega | (have zz0 := Hid.u hi_cn; omega)))) (fun c_4 => ?_)
          have tc_4 : ((I12 71).toInt : Int) = 0 := congrArg Int32.toInt c_4
          refine lv_iconst (v := 0) hx hb dX12_mixes_118 kic_0 ?_
          refine lv_goto (tgt := 128) hx hb dX12_mixes_119 rfl ?_
          refine pM_425 S hK hP hD hS (In2 := (va_up (va_up I12 72 0) 73 0)) rfl dX12_mixes_128 (fun H locs hP hD hS => ?_)
          exact W.vret hx hb hr (fun t ht hW => ⟨⟨(cn, (va_up (va_up I12 72 0) 73 0), Fn), rfl, ⟨(Fr.mo (Fr.i 73 (Fr.i 72 hfr12)) (sbl rfl) (sbl rfl) (sbl rfl)), hI12, (by show (va_up (va_up I12 72 0) 73 0) 71 = mxI (Fn 10) v0 20 ∧ (va_up (va_up I12 72 0) 73 0) 72 = (if mxI (Fn 10) v0 20 = 0 then 0 else mxI (fun i => Fn 10 i * Fn 11 i) v0 20 / mxI (Fn 10) v0 20) ∧ (va_up (va_up I12 72 0) 73 0) 73 = (if mxI (Fn 10) v0 20 = 0 then 0 else mxI (fun i => Fn 10 i * Fn 12 i) v0 20 / mxI (Fn 10) v0 20); have e9 : i12 = 20 := (by (first | omega | (have zz0 := Hid.u hi_cn; omega))); subst e9; exact ⟨hx12_0, (by rw [← hx12_0, ← hx12_1]; first | exact (if_pos (by first | assumption | exact Int32.toInt_inj.mp (by assumption))).symm | exact (if_neg (by first | assumption | exact fun q => absurd (congrArg Int32.toInt q) (by assumption))).symm), (by rw [← hx12_0, ← hx12_2]; first | exact (if_pos (by first | assumption | exact Int32.toInt_inj.mp (by assumption))).symm | exact (if_neg (by first | assumption | exact fun q => absurd (congrArg Int32.toInt q) (by assumption))).symm)⟩)⟩, by rw [ht]; exact hP, hD⟩, hS.F ht⟩) hS.2.2 dX12_mixes_131
      ·
        have tc_1 : ((nI i12).toInt : Int) < 20 := Int32.lt_iff_toInt_lt.mp (Int32.not_le.mp c_1)
        refine lv_iload_n hx hb (oc_27 19 (aq_19 shX12_mixes_0)) rfl (lvA4 hl) ?_
        refine lv_iload hx hb (oc_21 20 (aq_20 shX12_mixes_0) ub_4) (lvA0 hl) ?_
        refine lv_ishr hx hb (oc_122 22 (aq_22 shX12_mixes_0)) ?_
        refine lv_iconst (v := 1) hx hb (oc_4 23 (aq_23 shX12_mixes_0)) kic_1 ?_
        refine lv_iand hx hb (oc_126 24 shX12_mixes_24) ?_
        refine lv_if_ne (tgt := 31) hx hb (oc_154 25 (aq_1 shX12_mixes_24) sgw_0_6) rfl (fun c_5 => ?_) (fun c_5 => ?_)
        ·
          have tc_5 : (((v0 >>> ((nI i12) &&& 31)) &&& 1).toInt : Int) ≠ 0 := fun q => c_5 (Int32.toInt_inj.mp q)
          refine lv_aload_n hx hb (oc_42 31 (aq_7 shX12_mixes_24)) rfl (lvA3 hl) ?_
          refine lv_aload_n hx hb (oc_42 32 (aq_8 shX12_mixes_24)) rfl (lvA3 hl) ?_
          refine gM_419 S hK hP (v := .int (I12 71)) rfl (oc_180 33 (aq_9 shX12_mixes_24) uw_1_163) ?_
          refine lv_aload_n hx hb (oc_42 36 (aq_12 shX12_mixes_24)) rfl (lvA3 hl) ?_
          refine gM_31 S hK hP (v := .ref (g 10)) rfl (oc_180 37 (aq_13 shX12_mixes_24) uw_0_31) ?_
          refine lv_iload hx hb (oc_21 40 (aq_16 shX12_mixes_24) ub_4) (lvA0 hl) ?_
          have kb_1 : i12 < 60 := by (first | omega | (have zz0 := Hid.u hi_cn; omega))
          refine ldM_10 hx hb hK hP (x := ((Fn 10) i12)) (vp_in_nI kb_1 (ltb rfl)) (nI_clamp (Nat.lt_trans kb_1 (ltb rfl))) rfl (oc_46 42 (aq_18 shX12_mixes_24)) ?_
          refine lv_iadd hx hb (oc_96 43 (aq_19 shX12_mixes_24)) ?_
          refine pM_419 S hK hP hD hS (In2 := (va_up I12 71 ((I12 71) + ((Fn 10) i12)))) rfl (oc_181 44 (aq_20 shX12_mixes_24) uw_1_163) (fun H locs hP hD hS => ?_)
          refine lv_iload_n hx hb (oc_28 47 (aq_23 shX12_mixes_24)) rfl (lvA2 hl) ?_
          refine lv_aload_n hx hb (oc_42 48 shX12_mixes_48) rfl (lvA3 hl) ?_
          refine gM_31 S hK hP (v := .ref (g 10)) rfl (oc_180 49 (aq_1 shX12_mixes_48) uw_0_31) ?_
          refine lv_iload hx hb (oc_21 52 (aq_4 shX12_mixes_48) ub_4) (lvA0 hl) ?_
          refine ldM_10 hx hb hK hP (x := ((Fn 10) i12)) (vp_in_nI kb_1 (ltb rfl)) (nI_clamp (Nat.lt_trans kb_1 (ltb rfl))) rfl (oc_46 54 (aq_6 shX12_mixes_48)) ?_
          refine lv_aload_n hx hb (oc_42 55 (aq_7 shX12_mixes_48)) rfl (lvA3 hl) ?_
          refine gM_34 S hK hP (v := .ref (g 11)) rfl (oc_180 56 (aq_8 shX12_mixes_48) uw_0_34) ?_
          refine lv_iload hx hb (oc_21 59 (aq_11 shX12_mixes_48) ub_4) (lvA0 hl) ?_
          refine ldM_11 hx hb hK hP (x := ((Fn 11) i12)) (vp_in_nI kb_1 (ltb rfl)) (nI_clamp (Nat.lt_trans kb_1 (ltb rfl))) rfl (oc_46 61 (aq_13 shX12_mixes_48)) ?_
          refine lv_imul hx hb (oc_104 62 (aq_14 shX12_mixes_48)) ?_
          refine lv_iadd hx hb (oc_96 63 (aq_15 shX12_mixes_48)) ?_
          refine lv_istore_n (lv' := [(2, .int (x12_2 + (((Fn 10) i12) * ((Fn 11) i12)))), (4, .int (nI i12)), (3, .int x12_3), (0, .ref (g 100)), (1, .int v0)]) hx hb (oc_61 64 (aq_16 shX12_mixes_48)) rfl hl (ltb rfl) rfl (fun ls hl => ?_)
          refine lv_iload_n hx hb (oc_29 65 (aq_17 shX12_mixes_48)) rfl (lvA2 hl) ?_
          refine lv_aload_n hx hb (oc_42 66 (aq_18 shX12_mixes_48)) rfl (lvA3 hl) ?_
          refine gM_31 S hK hP (v := .ref (g 10)) rfl (oc_180 67 (aq_19 shX12_mixes_48) uw_0_31) ?_
          refine lv_iload hx hb (oc_21 70 (aq_22 shX12_mixes_48) ub_4) (lvA1 hl) ?_
          refine ldM_10 hx hb hK hP (x := ((Fn 10) i12)) (vp_in_nI kb_1 (ltb rfl)) (nI_clamp (Nat.lt_trans kb_1 (ltb rfl))) rfl (oc_46 72 shX12_mixes_72) ?_
          refine lv_aload_n hx hb (oc_42 73 (aq_1 shX12_mixes_72)) rfl (lvA3 hl) ?_
          refine gM_37 S hK hP (v := .ref (g 12)) rfl (oc_180 74 (aq_2 shX12_mixes_72) uw_0_37) ?_
          refine lv_iload hx hb (oc_21 77 (aq_5 shX12_mixes_72) ub_4) (lvA1 hl) ?_
          refine ldM_12 hx hb hK hP (x := ((Fn 12) i12)) (vp_in_nI kb_1 (ltb rfl)) (nI_clamp (Nat.lt_trans kb_1 (ltb rfl))) rfl (oc_46 79 (aq_7 shX12_mixes_72)) ?_
          refine lv_imul hx hb (oc_104 80 (aq_8 shX12_mixes_72)) ?_
          refine lv_iadd hx hb (oc_96 81 (aq_9 shX12_mixes_72)) ?_
          refine lv_istore_n (lv' := [(3, .int (x12_3 + (((Fn 10) i12) * ((Fn 12) i12)))), (2, .int (x12_2 + (((Fn 10) i12) * ((Fn 11) i12)))), (4, .int (nI i12)), (0, .ref (g 100)), (1, .int v0)]) hx hb (oc_62 82 (aq_10 shX12_mixes_72)) rfl hl (ltb rfl) rfl (fun ls hl => ?_)
          refine lv_iinc (v := (nI (i12 + 1))) (lv' := [(4, .int (nI (i12 + 1))), (3, .int (x12_3 + (((Fn 10) i12) * ((Fn 12) i12)))), (2, .int (x12_2 + (((Fn 10) i12) * ((Fn 11) i12)))), (0, .ref (g 100)), (1, .int v0)]) hx hb dX12_mixes_83 hl (k := 2) rfl (nI_1 _) (ltb rfl) rfl (fun ls hl => ?_)
          refine lv_goto (tgt := 12) hx hb dX12_mixes_86 rfl ?_
          exact ih12 (i12 + 1) (x12_2 + (((Fn 10) i12) * ((Fn 11) i12))) (x12_3 + (((Fn 10) i12) * ((Fn 12) i12))) (va_up I12 71 ((I12 71) + ((Fn 10) i12))) _ _ (by (first | omega | (have zz0 := Hid.u hi_cn; omega))) ⟨(by (first | omega | (have zz0 := Hid.u hi_cn; omega))), (Fr.mo (Fr.i 71 hfr12) (sbl rfl) (sbl rfl) (sbl rfl)), hI12, (by show I12 71 + Fn 10 i12 = _; exact mxI_s (by first | assumption | exact fun q => absurd (congrArg Int32.toInt q) (by assumption)) hx12_0 rfl), (mxI_s (by first | assumption | exact fun q => absurd (congrArg Int32.toInt q) (by assumption)) hx12_1 rfl), (mxI_s (by first | assumption | exact fun q => absurd (congrArg Int32.toInt q) (by assumption)) hx12_2 rfl)⟩ hP hD hS ls (lv_sub hl [0, 1, 2, 3, 4] rfl)
        ·
          have tc_5 : (((v0 >>> ((nI i12) &&& 31)) &&& 1).toInt : Int) = 0 := congrArg Int32.toInt c_5
          refine lv_goto (tgt := 83) hx hb (oc_167 28 (aq_4 shX12_mixes_24) sgw_0_55) rfl ?_
          refine lv_iinc (v := (nI (i12 + 1))) (lv' := [(4, .int (nI (i12 + 1))), (3, .int x12_3), (2, .int x12_2), (0, .ref (g 100)), (1, .int v0)]) hx hb dX12_mixes_83 hl (k := 0) rfl (nI_1 _) (ltb rfl) rfl (fun ls hl => ?_)
          refine lv_goto (tgt := 12) hx hb dX12_mixes_86 rfl ?_
          exact ih12 (i12 + 1) x12_2 x12_3 I12 _ _ (by (first | omega | (have zz0 := Hid.u hi_cn; omega))) ⟨(by (first | omega | (have zz0 := Hid.u hi_cn; omega))), (Fr.mo hfr12 (sbl rfl) (sbl rfl) (sbl rfl)), hI12, (mxI_k (by first | assumption | exact Int32.toInt_inj.mp (by assumption)) hx12_0), (mxI_k (by first | assumption | exact Int32.toInt_inj.mp (by assumption)) hx12_1), (mxI_k (by first | assumption | exact Int32.toInt_inj.mp (by assumption)) hx12_2)⟩ hP hD hS ls (lv_sub hl [0, 1, 2, 3, 4] rfl)
  exact lp_12 _ 0 0 0 (va_up In 71 0) _ _ (Nat.lt_succ_self _) ⟨(by (first | omega | (have zz0 := Hid.u hi_cn; omega))), (Fr.mo (Fr.i 71 Fr.rf) (sbl rfl) (sbl rfl) (sbl rfl)), hI, rfl, rfl, rfl⟩ hP hD hS ls (lv_sub hl [0, 1, 2, 3, 4] rfl)
set_option maxRecDepth 100000 in
set_option maxHeartbeats 4000000 in
theorem q_whyNot9 (l : Launch) (D : va_G) (cI cB cZ : ClassId) (g : Nat → Nat) (cn : Nat → Nat) (In : Nat → Int32) (Fn : Nat → Nat → Int32) (v0 : Int32) (o : OutT) (cl : ClsT) (sz : Nat) (hI : IM cn Fn) (hM : MTx Fn 10 o cl) (hG : CLG 108 o cl) (hL : o.length ≤ 160 ∧ cl.length ≤ 12) : Met l yX12_whyNot (CWS yX12_whyNot cX12_whyNot 3 (some .int)) (RM 2 0 0) (PBw [.ref (g 100), .int v0] D cI cB cZ (wM cI cB cZ g cn In Fn) sz) (va_Qi (fun (r : Int32) (u : (Nat → Nat) × (Nat → Int32) × (Nat → Nat → Int32)) => (fun r c2 I2 F2 => Fr [] [71, 72, 73] [37, 38] cn In Fn c2 I2 F2 ∧ IM c2 F2 ∧ (FTX o (cut (mxL (Fn 10) (Fn 11) (Fn 12) (Fn 39) v0 (cn 0))) cl 0 r)) r u.1 u.2.1 u.2.2) (fun (u : (Nat → Nat) × (Nat → Int32) × (Nat → Nat → Int32)) (t : State) => va_P D vwCl (wM cI cB cZ g u.1 u.2.1 u.2.2) t.heap ∧ va_D (va_A (wM cI cB cZ g cn In Fn) sz) (wM cI cB cZ g u.1 u.2.1 u.2.2)) (va_A (wM cI cB cZ g cn In Fn) sz)) 0 0 (va_A (wM cI cB cZ g cn In Fn) sz) := by
  refine en_w (fun A => (va_Qi (fun (r : Int32) (u : (Nat → Nat) × (Nat → Int32) × (Nat → Nat → Int32)) => (fun (r : Int32) (c2 : Nat → Nat) (I2 : Nat → Int32) (F2 : Nat → Nat → Int32) => Fr [] [71, 72, 73] [37, 38] cn In Fn c2 I2 F2 ∧ IM c2 F2 ∧ (FTX o (cut (mxL (Fn 10) (Fn 11) (Fn 12) (Fn 39) v0 (cn 0))) cl 0 r)) r u.1 u.2.1 u.2.2) (fun (u : (Nat → Nat) × (Nat → Int32) × (Nat → Nat → Int32)) (t : State) => va_P D vwCl (wM cI cB cZ g u.1 u.2.1 u.2.2) t.heap ∧ va_D A (wM cI cB cZ g u.1 u.2.1 u.2.2)) A)) rfl rfl pn_RX12 (Nat.le_of_ble_eq_true rfl) (fun p e s m below meth c A hx hb hml hown S hr hlocks hnm hA hP hK hD hS ls hl => ?_)
  have hl : lv_has ls 3 [(0, .ref (g 100)), (1, .int v0)] := hl
  have hi_cn : Hid (CB cn) := hI.b
  refine lv_aload_n hx hb (oc_42 0 shX12_whyNot_0) rfl (lvA0 hl) ?_
  refine lv_iload_n hx hb (oc_27 1 (aq_1 shX12_whyNot_0)) rfl (lvA1 hl) ?_
  have hFc := free_all hD hS hA
  refine va_callv (runV_a (As := [.int v0]) (rest := []) S (q_mixes9 l D cI cB cZ g cn In Fn v0 s.heap.size hI) kV_RX12_428 hK hP hD 0 rfl rfl rfl ⟨Nat.le_of_ble_eq_true rfl, Nat.le_of_ble_eq_true rfl⟩ ⟨Nat.le_of_ble_eq_true rfl, Nat.le_of_ble_eq_true rfl⟩ rfl hl.1 rfl (Nat.le_of_ble_eq_true rfl) (oc_182 2 (aq_2 shX12_whyNot_0) uw_1_172)) hS (fun q _ h => hFc q h) hFc (fun u t H1 locs ht hvm wh_2 hB hz1 hk1 hS => ?_)
  obtain ⟨cn2, In2, Fn2⟩ := u
  obtain ⟨hP1, hD1⟩ := hB
  rw [ht] at hP1
  have hP : va_P D vwCl (wM cI cB cZ g cn2 In2 Fn2) H1 := hP1
  have hD : va_D A (wM cI cB cZ g cn2 In2 Fn2) := hD1.weaken (fun _ _ _ h => hFc _ h)
  generalize H1 = H at hP hS ⊢
  have vh_2 : (fun c2 I2 F2 => Fr [] [71, 72, 73] [] cn In Fn c2 I2 F2 ∧ IM c2 F2 ∧ (I2 71 = mxI ((Fn 10)) v0 20 ∧ I2 72 = (if mxI ((Fn 10)) v0 20 = 0 then 0 else mxI (fun i => (Fn 10) i * (Fn 11) i) v0 20 / mxI ((Fn 10)) v0 20) ∧ I2 73 = (if mxI ((Fn 10)) v0 20 = 0 then 0 else mxI (fun i => (Fn 10) i * (Fn 12) i) v0 20 / mxI ((Fn 10)) v0 20))) cn2 In2 Fn2 := wh_2
  obtain ⟨hfc2, hIn2, h_2⟩ := vh_2
  obtain rfl : cn = cn2 := (funext (fun k => hfc2.1 k List.not_mem_nil)).symm
  obtain rfl : Fn = Fn2 := (funext (fun k => hfc2.2.2 k List.not_mem_nil)).symm
  have hf2 : Fr [] [71, 72, 73] [37, 38] cn In Fn cn In2 Fn := Fr.mo (Fr.tr (Fr.rf (cn := cn) (In := In) (Fn := Fn)) hfc2) (sbl rfl) (sbl rfl) (sbl rfl)
  have hi_cn : Hid (CB cn) := hIn2.b
  obtain ⟨hx71, hx72, hx73⟩ := h_2
  refine lv_aload_n hx hb (oc_42 5 (aq_5 shX12_whyNot_0)) rfl (lvA0 hl) ?_
  refine gM_89 S hK hP (v := .ref (g 38)) rfl (oc_180 6 (aq_6 shX12_whyNot_0) uw_0_89) ?_
  refine lv_iconst (v := 0) hx hb (oc_3 9 (aq_9 shX12_whyNot_0)) kic_0 ?_
  refine lv_aload_n hx hb (oc_42 10 (aq_10 shX12_whyNot_0)) rfl (lvA0 hl) ?_
  refine gM_419 S hK hP (v := .int (In2 71)) rfl (oc_180 11 (aq_11 shX12_whyNot_0) uw_1_163) ?_
  refine stM_38 hx hb hK hP hD hS (Fn2 := (va_up Fn 38 (upd (Fn 38) 0 (In2 71)))) (by unfold vp_in; decide) (by decide) rfl (oc_79 14 (aq_14 shX12_whyNot_0)) (fun H locs hP hD hS => ?_)
  refine lv_aload_n hx hb (oc_42 15 (aq_15 shX12_whyNot_0)) rfl (lvA0 hl) ?_
  refine gM_89 S hK hP (v := .ref (g 38)) rfl (oc_180 16 (aq_16 shX12_whyNot_0) uw_0_89) ?_
  refine lv_iconst (v := 1) hx hb (oc_4 19 (aq_19 shX12_whyNot_0)) kic_1 ?_
  refine lv_aload_n hx hb (oc_42 20 (aq_20 shX12_whyNot_0)) rfl (lvA0 hl) ?_
  refine gM_422 S hK hP (v := .int (In2 72)) rfl (oc_180 21 (aq_21 shX12_whyNot_0) uw_1_166) ?_
  refine stM_38 hx hb hK hP hD hS (Fn2 := (va_up Fn 38 (upd (upd (Fn 38) 0 (In2 71)) 1 (In2 72)))) (by unfold vp_in; decide) (by decide) (bx_uu _ _ _ _) (oc_79 24 shX12_whyNot_24) (fun H locs hP hD hS => ?_)
  refine lv_aload_n hx hb (oc_42 25 (aq_1 shX12_whyNot_24)) rfl (lvA0 hl) ?_
  refine gM_89 S hK hP (v := .ref (g 38)) rfl (oc_180 26 (aq_2 shX12_whyNot_24) uw_0_89) ?_
  refine lv_iconst (v := 2) hx hb (oc_5 29 (aq_5 shX12_whyNot_24)) kic_2 ?_
  refine lv_aload_n hx hb (oc_42 30 (aq_6 shX12_whyNot_24)) rfl (lvA0 hl) ?_
  refine gM_425 S hK hP (v := .int (In2 73)) rfl (oc_180 31 (aq_7 shX12_whyNot_24) uw_1_169) ?_
  refine stM_38 hx hb hK hP hD hS (Fn2 := (va_up Fn 38 (upd (upd (upd (Fn 38) 0 (In2 71)) 1 (In2 72)) 2 (In2 73)))) (by unfold vp_in; decide) (by decide) (bx_uu _ _ _ _) (oc_79 34 (aq_10 shX12_whyNot_24)) (fun H locs hP hD hS => ?_)
  refine lv_aload_n hx hb (oc_42 35 (aq_11 shX12_whyNot_24)) rfl (lvA0 hl) ?_
  refine gM_89 S hK hP (v := .ref (g 38)) rfl (oc_180 36 (aq_12 shX12_whyNot_24) uw_0_89) ?_
  refine lv_iconst (v := 3) hx hb (oc_6 39 (aq_15 shX12_whyNot_24)) kic_3 ?_
  refine lv_aload_n hx hb (oc_42 40 (aq_16 shX12_whyNot_24)) rfl (lvA0 hl) ?_
  refine gM_211 S hK hP (v := .int (nI (cn 0))) rfl (oc_180 41 (aq_17 shX12_whyNot_24) uw_0_211) ?_
  refine stM_38 hx hb hK hP hD hS (Fn2 := (va_up Fn 38 (upd (upd (upd (upd (Fn 38) 0 (In2 71)) 1 (In2 72)) 2 (In2 73)) 3 (nI (cn 0))))) (by unfold vp_in; decide) (by decide) (bx_uu _ _ _ _) (oc_79 44 (aq_20 shX12_whyNot_24)) (fun H locs hP hD hS => ?_)
  refine lv_aload_n hx hb (oc_42 45 (aq_21 shX12_whyNot_24)) rfl (lvA0 hl) ?_
  refine gM_89 S hK hP (v := .ref (g 38)) rfl (oc_180 46 (aq_22 shX12_whyNot_24) uw_0_89) ?_
  refine lv_iconst (v := 4) hx hb (oc_7 49 shX12_whyNot_49) kic_4 ?_
  refine lv_aload_n hx hb (oc_42 50 (aq_1 shX12_whyNot_49)) rfl (lvA0 hl) ?_
  refine gM_211 S hK hP (v := .int (nI (cn 0))) rfl (oc_180 51 (aq_2 shX12_whyNot_49) uw_0_211) ?_
  refine lv_bipush (v := 7) hx hb (oc_16 54 (aq_5 shX12_whyNot_49) sgb_7) kbc_7 ?_
  refine lv_idiv hx hb (oc_108 56 (aq_7 shX12_whyNot_49)) (by decide) ?_
  refine lv_topi (fun y_3 ey_3 => ?_)
  obtain rfl : y_3 = (nI ((cn 0) / 7)) := ey_3.trans (nI_div (by (first | omega | (have zz0 := Hid.u hi_cn; omega))) (by decide))
  refine stM_38 hx hb hK hP hD hS (Fn2 := (va_up Fn 38 (upd (upd (upd (upd (upd (Fn 38) 0 (In2 71)) 1 (In2 72)) 2 (In2 73)) 3 (nI (cn 0))) 4 (nI ((cn 0) / 7))))) (by unfold vp_in; decide) (by decide) (bx_uu _ _ _ _) (oc_79 57 (aq_8 shX12_whyNot_49)) (fun H locs hP hD hS => ?_)
  refine lv_aload_n hx hb (oc_42 58 (aq_9 shX12_whyNot_49)) rfl (lvA0 hl) ?_
  refine gM_89 S hK hP (v := .ref (g 38)) rfl (oc_180 59 (aq_10 shX12_whyNot_49) uw_0_89) ?_
  refine lv_iconst (v := 5) hx hb (oc_8 62 (aq_13 shX12_whyNot_49)) kic_5 ?_
  refine lv_aload_n hx hb (oc_42 63 (aq_14 shX12_whyNot_49)) rfl (lvA0 hl) ?_
  refine gM_211 S hK hP (v := .int (nI (cn 0))) rfl (oc_180 64 (aq_15 shX12_whyNot_49) uw_0_211) ?_
  refine lv_bipush (v := 7) hx hb (oc_16 67 (aq_18 shX12_whyNot_49) sgb_7) kbc_7 ?_
  refine lv_irem hx hb (oc_112 69 (aq_20 shX12_whyNot_49)) (by decide) ?_
  refine lv_topi (fun y_4 ey_4 => ?_)
  obtain rfl : y_4 = (nI ((cn 0) % 7)) := ey_4.trans (nI_rem (by (first | omega | (have zz0 := Hid.u hi_cn; omega))) (by decide))
  refine stM_38 hx hb hK hP hD hS (Fn2 := (va_up Fn 38 (upd (upd (upd (upd (upd (upd (Fn 38) 0 (In2 71)) 1 (In2 72)) 2 (In2 73)) 3 (nI (cn 0))) 4 (nI ((cn 0) / 7))) 5 (nI ((cn 0) % 7))))) (by unfold vp_in; decide) (by decide) (bx_uu _ _ _ _) (oc_79 70 (aq_21 shX12_whyNot_49)) (fun H locs hP hD hS => ?_)
  refine lv_aload_n hx hb (oc_42 71 (aq_22 shX12_whyNot_49)) rfl (lvA0 hl) ?_
  refine gM_89 S hK hP (v := .ref (g 38)) rfl (oc_180 72 (aq_23 shX12_whyNot_49) uw_0_89) ?_
  refine lv_bipush (v := 6) hx hb (oc_16 75 shX12_whyNot_75 sgb_6) kbc_6 ?_
  refine lv_iconst (v := 0) hx hb (oc_3 77 (aq_2 shX12_whyNot_75)) kic_0 ?_
  refine stM_38 hx hb hK hP hD hS (Fn2 := (va_up Fn 38 (upd (upd (upd (upd (upd (upd (upd (Fn 38) 0 (In2 71)) 1 (In2 72)) 2 (In2 73)) 3 (nI (cn 0))) 4 (nI ((cn 0) / 7))) 5 (nI ((cn 0) % 7))) 6 0))) (by unfold vp_in; decide) (by decide) (bx_uu _ _ _ _) (oc_79 78 (aq_3 shX12_whyNot_75)) (fun H locs hP hD hS => ?_)
  refine lv_aload_n hx hb (oc_42 79 (aq_4 shX12_whyNot_75)) rfl (lvA0 hl) ?_
  refine gM_89 S hK hP (v := .ref (g 38)) rfl (oc_180 80 (aq_5 shX12_whyNot_75) uw_0_89) ?_
  refine lv_bipush (v := 7) hx hb (oc_16 83 (aq_8 shX12_whyNot_75) sgb_7) kbc_7 ?_
  refine lv_iconst (v := 0) hx hb (oc_3 85 (aq_10 shX12_whyNot_75)) kic_0 ?_
  refine stM_38 hx hb hK hP hD hS (Fn2 := (va_up Fn 38 (upd (upd (upd (upd (upd (upd (upd (upd (Fn 38) 0 (In2 71)) 1 (In2 72)) 2 (In2 73)) 3 (nI (cn 0))) 4 (nI ((cn 0) / 7))) 5 (nI ((cn 0) % 7))) 6 0) 7 0))) (by unfold vp_in; decide) (by decide) (bx_uu _ _ _ _) (oc_79 86 (aq_11 shX12_whyNot_75)) (fun H locs hP hD hS => ?_)
  refine lv_aload_n hx hb (oc_42 87 (aq_12 shX12_whyNot_75)) rfl (lvA0 hl) ?_
  refine gM_89 S hK hP (v := .ref (g 38)) rfl (oc_180 88 (aq_13 shX12_whyNot_75) uw_0_89) ?_
  refine lv_bipush (v := 8) hx hb (oc_16 91 (aq_16 shX12_whyNot_75) sgb_8) kbc_8 ?_
  refine lv_iconst (v := 0) hx hb (oc_3 93 (aq_18 shX12_whyNot_75)) kic_0 ?_
  refine stM_38 hx hb hK hP hD hS (Fn2 := (va_up Fn 38 (upd (upd (upd (upd (upd (upd (upd (upd (upd (Fn 38) 0 (In2 71)) 1 (In2 72)) 2 (In2 73)) 3 (nI (cn 0))) 4 (nI ((cn 0) / 7))) 5 (nI ((cn 0) % 7))) 6 0) 7 0) 8 0))) (by unfold vp_in; decide) (by decide) (bx_uu _ _ _ _) (oc_79 94 (aq_19 shX12_whyNot_75)) (fun H locs hP hD hS => ?_)
  refine lv_aload_n hx hb (oc_42 95 (aq_20 shX12_whyNot_75)) rfl (lvA0 hl) ?_
  refine gM_89 S hK hP (v := .ref (g 38)) rfl (oc_180 96 (aq_21 shX12_whyNot_75) uw_0_89) ?_
  refine lv_bipush (v := 9) hx hb (oc_16 99 shX12_whyNot_99 sgb_9) kbc_9 ?_
  refine lv_aload_n hx hb (oc_42 101 (aq_2 shX12_whyNot_99)) rfl (lvA0 hl) ?_
  refine gM_92 S hK hP (v := .ref (g 39)) rfl (oc_180 102 (aq_3 shX12_whyNot_99) uw_0_92) ?_
  refine lv_aload_n hx hb (oc_42 105 (aq_6 shX12_whyNot_99)) rfl (lvA0 hl) ?_
  refine gM_211 S hK hP (v := .int (nI (cn 0))) rfl (oc_180 106 (aq_7 shX12_whyNot_99) uw_0_211) ?_
  refine lv_bipush (v := 7) hx hb (oc_16 109 (aq_10 shX12_whyNot_99) sgb_7) kbc_7 ?_
  refine lv_idiv hx hb (oc_108 111 (aq_12 shX12_whyNot_99)) (by decide) ?_
  refine lv_topi (fun y_5 ey_5 => ?_)
  obtain rfl : y_5 = (nI ((cn 0) / 7)) := ey_5.trans (nI_div (by (first | omega | (have zz0 := Hid.u hi_cn; omega))) (by decide))
  have kb_1 : ((cn 0) / 7) < 58 := by (first | omega | (have zz0 := Hid.u hi_cn; omega))
  refine ldM_39 hx hb hK hP (x := ((Fn 39) ((cn 0) / 7))) (vp_in_nI kb_1 (ltb rfl)) (nI_clamp (Nat.lt_trans kb_1 (ltb rfl))) rfl (oc_46 112 (aq_13 shX12_whyNot_99)) ?_
  refine stM_38 hx hb hK hP hD hS (Fn2 := (va_up Fn 38 (upd (upd (upd (upd (upd (upd (upd (upd (upd (upd (Fn 38) 0 (In2 71)) 1 (In2 72)) 2 (In2 73)) 3 (nI (cn 0))) 4 (nI ((cn 0) / 7))) 5 (nI ((cn 0) % 7))) 6 0) 7 0) 8 0) 9 ((Fn 39) ((cn 0) / 7))))) (by unfold vp_in; decide) (by decide) (bx_uu _ _ _ _) (oc_79 113 (aq_14 shX12_whyNot_99)) (fun H locs hP hD hS => ?_)
  refine lv_aload_n hx hb (oc_42 114 (aq_15 shX12_whyNot_99)) rfl (lvA0 hl) ?_
  refine gM_89 S hK hP (v := .ref (g 38)) rfl (oc_180 115 (aq_16 shX12_whyNot_99) uw_0_89) ?_
  refine lv_bipush (v := 10) hx hb (oc_16 118 (aq_19 shX12_whyNot_99) sgb_10) kbc_10 ?_
  refine lv_iload_n hx hb (oc_27 120 (aq_21 shX12_whyNot_99)) rfl (lvA1 hl) ?_
  refine vp_callSi (runS_r (As := [.int v0]) (rest := [.int 10, .ref (g 38)]) S (q_bits9 l D cI cB cZ v0 ) kS_RX12_431 hK hP [] rfl ⟨Nat.le_of_ble_eq_true rfl, Nat.le_of_ble_eq_true rfl⟩ ⟨Nat.le_of_ble_eq_true rfl, Nat.le_of_ble_eq_true rfl⟩ rfl hl.1 rfl (Nat.le_of_ble_eq_true rfl) (oc_184 121 (aq_22 shX12_whyNot_99) uw_1_175)) (fun r_6 h_7 => ?_)
  obtain rfl : r_6 = (mxI (fun _ => 1) v0 20) := h_7
  refine stM_38 hx hb hK hP hD hS (Fn2 := (va_up Fn 38 (upd (upd (upd (upd (upd (upd (upd (upd (upd (upd (upd (Fn 38) 0 (In2 71)) 1 (In2 72)) 2 (In2 73)) 3 (nI (cn 0))) 4 (nI ((cn 0) / 7))) 5 (nI ((cn 0) % 7))) 6 0) 7 0) 8 0) 9 ((Fn 39) ((cn 0) / 7))) 10 (mxI (fun _ => 1) v0 20)))) (by unfold vp_in; decide) (by decide) (bx_uu _ _ _ _) (oc_79 124 shX12_whyNot_124) (fun H locs hP hD hS => ?_)
  have hft : cut (upd (upd (upd (upd (upd (upd (upd (upd (upd (upd (upd (Fn 38) 0 (In2 71)) 1 (In2 72)) 2 (In2 73)) 3 (nI (cn 0))) 4 (nI ((cn 0) / 7))) 5 (nI ((cn 0) % 7))) 6 0) 7 0) 8 0) 9 ((Fn 39) ((cn 0) / 7))) 10 (mxI (fun _ => 1) v0 20)) = cut (mxL (Fn 10) (Fn 11) (Fn 12) (Fn 39) v0 (cn 0)) := by rw [hx71, hx72, hx73]; exact lfb_mo (by (first | omega | (have zz0 := Hid.u hi_cn; omega)))
  refine lv_bipush (v := 120) hx hb (oc_16 125 (aq_1 shX12_whyNot_124) sgb_120) kbc_120 ?_
  refine lv_istore_n (lv' := [(2, .int 120), (0, .ref (g 100)), (1, .int v0)]) hx hb (oc_61 127 (aq_3 shX12_whyNot_124)) rfl hl (ltb rfl) rfl (fun ls hl => ?_)
  have lp_128 : ∀ (n : Nat) (i128 : Nat) (F128 : Nat → Nat → Int32) (H : Heap) (locs : List Loc) , 120 + cl.length - i128 < n → ((120 ≤ i128 ∧ i128 ≤ 120 + cl.length) ∧ Fr [] [71, 72, 73] [37, 38] cn In Fn cn In2 F128 ∧ IM cn F128 ∧ (∀ (i : Nat) (w : Nat × Nat × Nat), 120 + i < i128 → cl[i]? = some w → ¬ b01 (MV o (cut (mxL (Fn 10) (Fn 11) (Fn 12) (Fn 39) v0 (cn 0))) w.2.1 w.2.2) = 0) ∧ (cut (F128 38) = cut (mxL (Fn 10) (Fn 11) (Fn 12) (Fn 39) v0 (cn 0)))) → va_P D vwCl (wM cI cB cZ g cn In2 F128) H → va_D A (wM cI cB cZ g cn In2 F128) → va_S A s.heap H locs → ∀ ls : Array Slot, lv_has ls 3 [(2, .int (nI i128)), (0, .ref (g 100)), (1, .int v0)] → W p l e (RM 2 0 0) s m ([.ref (g 100), .int v0]).toArray below meth c H locs 0 0 (MQ below (va_Qi (fun (r : Int32) (u : (Nat → Nat) × (Nat → Int32) × (Nat → Nat → Int32)) => (fun r c2 I2 F2 => Fr [] [71, 72, 73] [37, 38] cn In Fn c2 I2 F2 ∧ IM c2 F2 ∧ (FTX o (cut (mxL (Fn 10) (Fn 11) (Fn 12) (Fn 39) v0 (cn 0))) cl 0 r)) r u.1 u.2.1 u.2.2) (fun (u : (Nat → Nat) × (Nat → Int32) × (Nat → Nat → Int32)) (t : State) => va_P D vwCl (wM cI cB cZ g u.1 u.2.1 u.2.2) t.heap ∧ va_D A (wM cI cB cZ g u.1 u.2.1 u.2.2)) A) ([.ref (g 100), .int v0]).toArray s 0 0 A) (F0 m 128 ls []) := by
    intro n128
    induction n128 with
    | zero => intros; (first | omega | (have zz0 := Hid.u hi_cn; omega))
    | succ n128 ih128 =>
      intro i128 F128 H locs hmu128 hinv128 hP hD hS ls hl
      obtain ⟨hr128, hfr128, hI128, hx128_0, hx128_1⟩ := hinv128
      have ti128 : (nI i128).toInt = (i128 : Int) := nI_toInt (by (first | omega | (have zz0 := Hid.u hi_cn; omega)))
      have hi_cn : Hid (CB cn) := hI128.b
      refine lv_iload_n hx hb (oc_28 128 (aq_4 shX12_whyNot_124)) rfl (lvA0 hl) ?_
      refine lv_bipush (v := 120) hx hb (oc_16 129 (aq_5 shX12_whyNot_124) sgb_120) kbc_120 ?_
      refine lv_aload_n hx hb (oc_42 131 (aq_7 shX12_whyNot_124)) rfl (lvA1 hl) ?_
      refine gM_74 S hK hP (v := .ref (g 33)) rfl (oc_180 132 (aq_8 shX12_whyNot_124) uw_0_74) ?_
      refine lv_bipush (v := 10) hx hb (oc_16 135 (aq_11 shX12_whyNot_124) sgb_10) kbc_10 ?_
      refine ldM_33 hx hb hK hP (x := ((F128 33) 10)) (by unfold vp_in; decide) (by decide) rfl (oc_46 137 (aq_13 shX12_whyNot_124)) ?_
      refine lv_topi (fun y_8 ey_8 => ?_)
      obtain rfl : y_8 = (nI cl.length) := ey_8.trans ((congrFun (hfr128.2.2 33 (nml rfl)) 10).trans hM.1)
      refine lv_iadd hx hb (oc_96 138 (aq_14 shX12_whyNot_124)) ?_
      refine lv_topi (fun y_9 ey_9 => ?_)
      obtain rfl : y_9 = (nI (120 + cl.length)) := ey_9.trans (nI_add 120 cl.length)
      have : (nI (120 + cl.length)).toInt = (((120 + cl.length) : Nat) : Int) := nI_toInt (by (first | omega | (have zz0 := Hid.u hi_cn; omega)))
      refine lv_icmp_ge (tgt := 173) hx hb (oc_162 139 (aq_15 shX12_whyNot_124) sgw_0_34) rfl (fun c_10 => ?_) (fun c_10 => ?_)
      ·
        have tc_10 : ((nI (120 + cl.length)).toInt : Int) ≤ (nI i128).toInt := Int32.le_iff_toInt_le.mp c_10
        refine lv_iconst (v := (-1)) hx hb (oc_2 173 shX12_whyNot_173) kic_m1 ?_
        exact W.iret (v := (-1)) hx hb hr (fun t ht hW => ⟨⟨(-1), (cn, In2, F128), rfl, ⟨(Fr.mo hfr128 (sbl rfl) (sbl rfl) (sbl rfl)), hI128, (by show FTX o (cut (mxL (Fn 10) (Fn 11) (Fn 12) (Fn 39) v0 (cn 0))) cl 0 (-1); exact Or.inr ⟨fun i w hw => hx128_0 i w (by have := (List.getElem?_eq_some_iff.mp hw).1; (first | omega | (have zz0 := Hid.u hi_cn; omega))) hw, rfl⟩)⟩, by rw [ht]; exact hP, hD⟩, hS.F ht⟩) hS.2.2 (oc_172 174 (aq_1 shX12_whyNot_173))
      ·
        have tc_10 : ((nI i128).toInt : Int) < (nI (120 + cl.length)).toInt := Int32.lt_iff_toInt_lt.mp (Int32.not_le.mp c_10)
        obtain ⟨z9, hz9⟩ : ∃ z : Nat × Nat × Nat, cl[i128 - 120]? = some z := ⟨_, List.getElem?_eq_getElem (by (first | omega | (have zz0 := Hid.u hi_cn; omega)))⟩
        obtain ⟨hc34, hc35, hc36⟩ := hM.clp (F2 := F128) (k := i128) (by exact hz9) (by (first | omega | (have zz0 := Hid.u hi_cn; omega))) (hfr128.2.2 34 (nml rfl)) (hfr128.2.2 35 (nml rfl)) (hfr128.2.2 36 (nml rfl))
        refine lv_aload_n hx hb (oc_42 142 (aq_18 shX12_whyNot_124)) rfl (lvA1 hl) ?_
        refine lv_aload_n hx hb (oc_42 143 (aq_19 shX12_whyNot_124)) rfl (lvA1 hl) ?_
        refine gM_80 S hK hP (v := .ref (g 35)) rfl (oc_180 144 (aq_20 shX12_whyNot_124) uw_0_80) ?_
        refine lv_iload_n hx hb (oc_28 147 (aq_23 shX12_whyNot_124)) rfl (lvA0 hl) ?_
        have kb_2 : i128 < 132 := by (first | omega | (have zz0 := Hid.u hi_cn; omega))
        refine ldM_35 hx hb hK hP (x := ((F128 35) i128)) (vp_in_nI kb_2 (ltb rfl)) (nI_clamp (Nat.lt_trans kb_2 (ltb rfl))) rfl (oc_46 148 shX12_whyNot_148) ?_
        refine lv_topi (fun y_11 ey_11 => ?_)
        obtain rfl : y_11 = (nI (180 * 10 + z9.2.1)) := ey_11.trans hc35
        refine lv_aload_n hx hb (oc_42 149 (aq_1 shX12_whyNot_148)) rfl (lvA1 hl) ?_
        refine gM_83 S hK hP (v := .ref (g 36)) rfl (oc_180 150 (aq_2 shX12_whyNot_148) uw_0_83) ?_
        refine lv_iload_n hx hb (oc_28 153 (aq_5 shX12_whyNot_148)) rfl (lvA0 hl) ?_
        refine ldM_36 hx hb hK hP (x := ((F128 36) i128)) (vp_in_nI kb_2 (ltb rfl)) (nI_clamp (Nat.lt_trans kb_2 (ltb rfl))) rfl (oc_46 154 (aq_6 shX12_whyNot_148)) ?_
        refine lv_topi (fun y_12 ey_12 => ?_)
        obtain rfl : y_12 = (nI (180 * 10 + z9.2.2)) := ey_12.trans hc36
        have hFc := free_all hD hS hA
        refine va_calli (runV_a (As := [.int (nI (180 * 10 + z9.2.1)), .int (nI (180 * 10 + z9.2.2))]) (rest := []) S (q_comesTo9 l D cI cB cZ g cn In2 F128 10 z9.2.1 z9.2.2 (180 * 10 + z9.2.1) (180 * 10 + z9.2.2) o cl true H.size hI128 (hM.cf (hfr128.2.2 32 (nml rfl)) (hfr128.2.2 33 (nml rfl)) (hfr128.2.2 34 (nml rfl)) (hfr128.2.2 35 (nml rfl)) (hfr128.2.2 36 (nml rfl))) (hG _ (List.mem_of_getElem? hz9)).2 (by decide) hL.1 ⟨rfl, rfl⟩) kV_RX12_331 hK hP hD 0 rfl rfl rfl ⟨Nat.le_of_ble_eq_true rfl, Nat.le_of_ble_eq_true rfl⟩ ⟨Nat.le_of_ble_eq_true rfl, Nat.le_of_ble_eq_true rfl⟩ rfl hl.1 rfl (Nat.le_of_ble_eq_true rfl) (oc_182 155 (aq_7 shX12_whyNot_148) uw_1_75)) hS (fun q _ h => hFc q h) hFc (fun r_13 u t H1 locs ht hvm wh_14 hB hz1 hk1 hS => ?_)
        obtain ⟨cn14, In14, Fn14⟩ := u
        obtain ⟨hP1, hD1⟩ := hB
        rw [ht] at hP1
        have hP : va_P D vwCl (wM cI cB cZ g cn14 In14 Fn14) H1 := hP1
        have hD : va_D A (wM cI cB cZ g cn14 In14 Fn14) := hD1.weaken (fun _ _ _ h => hFc _ h)
        generalize H1 = H at hP hS ⊢
        have vh_14 : (fun r c2 I2 F2 => Fr [] [] [37] cn In2 F128 c2 I2 F2 ∧ IM c2 F2 ∧ (r = MV o (cut ((F128 38))) z9.2.1 z9.2.2 ∧ (true = true → r = 0 ∨ r = 1))) r_13 cn14 In14 Fn14 := wh_14
        obtain ⟨hfc14, hIn14, h_14⟩ := vh_14
        obtain rfl : cn = cn14 := (funext (fun k => hfc14.1 k List.not_mem_nil)).symm
        obtain rfl : In2 = In14 := (funext (fun k => hfc14.2.1 k List.not_mem_nil)).symm
        have hf14 : Fr [] [71, 72, 73] [37, 38] cn In Fn cn In2 Fn14 := Fr.mo (Fr.tr hfr128 hfc14) (sbl rfl) (sbl rfl) (sbl rfl)
        have hi_cn : Hid (CB cn) := hIn14.b
        have hm1 := h_14.1
        rw [hx128_1] at hm1
        have hm01 := h_14.2 rfl
        refine lv_iconst (v := 1) hx hb (oc_4 158 (aq_10 shX12_whyNot_148)) kic_1 ?_
        refine lv_icmp_eq (tgt := 167) hx hb (oc_159 159 (aq_11 shX12_whyNot_148) sgw_0_8) rfl (fun c_15 => ?_) (fun c_15 => ?_)
        ·
          have tc_15 : (r_13.toInt : Int) = 1 := congrArg Int32.toInt c_15
          refine lv_iinc (v := (nI (i128 + 1))) (lv' := [(2, .int (nI (i128 + 1))), (0, .ref (g 100)), (1, .int v0)]) hx hb (oc_132 167 (aq_19 shX12_whyNot_148) ub_2 sgb_1) hl (k := 0) rfl (nI_1 _) (ltb rfl) rfl (fun ls hl => ?_)
          refine lv_goto (tgt := 128) hx hb (oc_167 170 (aq_22 shX12_whyNot_148) sgw_255_214) rfl ?_
          exact ih128 (i128 + 1) Fn14 _ _ (by (first | omega | (have zz0 := Hid.u hi_cn; omega))) ⟨(by (first | omega | (have zz0 := Hid.u hi_cn; omega))), (Fr.mo hf14 (sbl rfl) (sbl rfl) (sbl rfl)), hIn14, (fun i w hi hw => if q : 120 + i < i128 then hx128_0 i w q hw else (by obtain rfl : i = i128 - 120 := (by (first | omega | (have zz0 := Hid.u hi_cn; omega))); rw [hz9] at hw; obtain rfl : z9 = w := Option.some.inj hw; rw [← hm1, show r_13 = 1 from (by first | assumption | exact Int32.toInt_inj.mp (by assumption))]; decide)), (by rw [show Fn14 38 = F128 38 from hfc14.2.2 38 (nml rfl)]; exact hx128_1)⟩ hP hD hS ls (lv_sub hl [0, 1, 2] rfl)
        ·
          have tc_15 : (r_13.toInt : Int) ≠ 1 := fun q => c_15 (Int32.toInt_inj.mp q)
          refine lv_iload_n hx hb (oc_28 162 (aq_14 shX12_whyNot_148)) rfl (lvA0 hl) ?_
          refine lv_bipush (v := 120) hx hb (oc_16 163 (aq_15 shX12_whyNot_148) sgb_120) kbc_120 ?_
          refine lv_isub hx hb (oc_100 165 (aq_17 shX12_whyNot_148)) ?_
          refine lv_topi (fun y_16 ey_16 => ?_)
          obtain rfl : y_16 = (nI (i128 - 120)) := ey_16.trans (nI_sub (b := 120) (by (first | omega | (have zz0 := Hid.u hi_cn; omega))))
          exact W.iret (v := (nI (i128 - 120))) hx hb hr (fun t ht hW => ⟨⟨(nI (i128 - 120)), (cn, In2, Fn14), rfl, ⟨(Fr.mo hf14 (sbl rfl) (sbl rfl) (sbl rfl)), hIn14, (by show FTX o (cut (mxL (Fn 10) (Fn 11) (Fn 12) (Fn 39) v0 (cn 0))) cl 0 (nI (i128 - 120)); exact Or.inl ⟨i128 - 120, z9, hz9, (by rw [← hm1, hm01.resolve_right (by first | assumption | exact fun q => absurd (congrArg Int32.toInt q) (by assumption))]; rfl), fun i w hi hw => hx128_0 i w (by (first | omega | (have zz0 := Hid.u hi_cn; omega))) hw, rfl⟩)⟩, by rw [ht]; exact hP, hD⟩, hS.F ht⟩) hS.2.2 (oc_172 166 (aq_18 shX12_whyNot_148))
  exact lp_128 _ 120 (va_up Fn 38 (upd (upd (upd (upd (upd (upd (upd (upd (upd (upd (upd (Fn 38) 0 (In2 71)) 1 (In2 72)) 2 (In2 73)) 3 (nI (cn 0))) 4 (nI ((cn 0) / 7))) 5 (nI ((cn 0) % 7))) 6 0) 7 0) 8 0) 9 ((Fn 39) ((cn 0) / 7))) 10 (mxI (fun _ => 1) v0 20))) _ _ (Nat.lt_succ_self _) ⟨(by (first | omega | (have zz0 := Hid.u hi_cn; omega))), (Fr.mo (Fr.f 38 hf2) (sbl rfl) (sbl rfl) (sbl rfl)), (IM.fr (In := In2) hIn2 (Fr.f 38 Fr.rf) (by decide) (by decide)), (fun i w hi hw => by (first | omega | (have zz0 := Hid.u hi_cn; omega))), hft⟩ hP hD hS ls (lv_sub hl [0, 1, 2] rfl)
set_option maxRecDepth 100000 in
set_option maxHeartbeats 4000000 in
theorem q_batch9 (l : Launch) (D : va_G) (cI cB cZ : ClassId) (g : Nat → Nat) (cn : Nat → Nat) (In : Nat → Int32) (Fn : Nat → Nat → Int32) (v0 : Int32) (o : OutT) (cl : ClsT) (sz : Nat) (hI : IM cn Fn) (hM : MTx Fn 10 o cl) (hG : CLG 108 o cl) (hL : o.length ≤ 160 ∧ cl.length ≤ 12) : Met l yX12_batch (CWS yX12_batch cX12_batch 4 (some .int)) (RM 3 0 0) (PBw [.ref (g 100), .int v0] D cI cB cZ (wM cI cB cZ g cn In Fn) sz) (va_Qi (fun (r : Int32) (u : (Nat → Nat) × (Nat → Int32) × (Nat → Nat → Int32)) => (fun r c2 I2 F2 => Fr [62] [71, 72, 73] [15, 37, 38, 64, 65] cn In Fn c2 I2 F2 ∧ IM c2 F2 ∧ ((¬ ((1 ≤ v0.toInt ∧ v0.toInt ≤ 1048575) ∧ cn 62 < 10 ∧ (∀ i : Nat, i < 20 → ¬ (v0 >>> (nI i &&& 31)) &&& 1 = 0 → i < cn 2 ∧ Fn 15 i = -1 ∧ (Fn 13 i).toInt ≤ (cn 0 : Int))) ∧ r = -1 ∧ c2 62 = cn 62 ∧ F2 15 = Fn 15 ∧ F2 64 = Fn 64 ∧ F2 65 = Fn 65) ∨ (((1 ≤ v0.toInt ∧ v0.toInt ≤ 1048575) ∧ cn 62 < 10 ∧ (∀ i : Nat, i < 20 → ¬ (v0 >>> (nI i &&& 31)) &&& 1 = 0 → i < cn 2 ∧ Fn 15 i = -1 ∧ (Fn 13 i).toInt ≤ (cn 0 : Int))) ∧ ∃ rr : Int32, FTX o (cut (mxL (Fn 10) (Fn 11) (Fn 12) (Fn 39) v0 (cn 0))) cl 0 rr ∧ ((¬ rr = -1 ∧ r = -10 - rr ∧ c2 62 = cn 62 ∧ F2 15 = Fn 15 ∧ F2 64 = Fn 64 ∧ F2 65 = Fn 65) ∨ (rr = -1 ∧ r = nI (cn 62) ∧ c2 62 = cn 62 + 1 ∧ F2 64 = upd (Fn 64) (cn 62) v0 ∧ F2 65 = upd (Fn 65) (cn 62) (nI (cn 0)) ∧ ∀ k : Nat, F2 15 k = if k < 20 ∧ ¬ (v0 >>> (nI k &&& 31)) &&& 1 = 0 then nI (cn 62) else Fn 15 k))))) r u.1 u.2.1 u.2.2) (fun (u : (Nat → Nat) × (Nat → Int32) × (Nat → Nat → Int32)) (t : State) => va_P D vwCl (wM cI cB cZ g u.1 u.2.1 u.2.2) t.heap ∧ va_D (va_A (wM cI cB cZ g cn In Fn) sz) (wM cI cB cZ g u.1 u.2.1 u.2.2)) (va_A (wM cI cB cZ g cn In Fn) sz)) 0 0 (va_A (wM cI cB cZ g cn In Fn) sz) := by
  refine en_w (fun A => (va_Qi (fun (r : Int32) (u : (Nat → Nat) × (Nat → Int32) × (Nat → Nat → Int32)) => (fun (r : Int32) (c2 : Nat → Nat) (I2 : Nat → Int32) (F2 : Nat → Nat → Int32) => Fr [62] [71, 72, 73] [15, 37, 38, 64, 65] cn In Fn c2 I2 F2 ∧ IM c2 F2 ∧ ((¬ ((1 ≤ v0.toInt ∧ v0.toInt ≤ 1048575) ∧ cn 62 < 10 ∧ (∀ i : Nat, i < 20 → ¬ (v0 >>> (nI i &&& 31)) &&& 1 = 0 → i < cn 2 ∧ Fn 15 i = -1 ∧ (Fn 13 i).toInt ≤ (cn 0 : Int))) ∧ r = -1 ∧ c2 62 = cn 62 ∧ F2 15 = Fn 15 ∧ F2 64 = Fn 64 ∧ F2 65 = Fn 65) ∨ (((1 ≤ v0.toInt ∧ v0.toInt ≤ 1048575) ∧ cn 62 < 10 ∧ (∀ i : Nat, i < 20 → ¬ (v0 >>> (nI i &&& 31)) &&& 1 = 0 → i < cn 2 ∧ Fn 15 i = -1 ∧ (Fn 13 i).toInt ≤ (cn 0 : Int))) ∧ ∃ rr : Int32, FTX o (cut (mxL (Fn 10) (Fn 11) (Fn 12) (Fn 39) v0 (cn 0))) cl 0 rr ∧ ((¬ rr = -1 ∧ r = -10 - rr ∧ c2 62 = cn 62 ∧ F2 15 = Fn 15 ∧ F2 64 = Fn 64 ∧ F2 65 = Fn 65) ∨ (rr = -1 ∧ r = nI (cn 62) ∧ c2 62 = cn 62 + 1 ∧ F2 64 = upd (Fn 64) (cn 62) v0 ∧ F2 65 = upd (Fn 65) (cn 62) (nI (cn 0)) ∧ ∀ k : Nat, F2 15 k = if k < 20 ∧ ¬ (v0 >>> (nI k &&& 31)) &&& 1 = 0 then nI (cn 62) else Fn 15 k))))) r u.1 u.2.1 u.2.2) (fun (u : (Nat → Nat) × (Nat → Int32) × (Nat → Nat → Int32)) (t : State) => va_P D vwCl (wM cI cB cZ g u.1 u.2.1 u.2.2) t.heap ∧ va_D A (wM cI cB cZ g u.1 u.2.1 u.2.2)) A)) rfl rfl pn_RX12 (Nat.le_of_ble_eq_true rfl) (fun p e s m below meth c A hx hb hml hown S hr hlocks hnm hA hP hK hD hS ls hl => ?_)
  have hl : lv_has ls 4 [(0, .ref (g 100)), (1, .int v0)] := hl
  have hi_cn : Hid (CB cn) := hI.b
  refine lv_iload_n hx hb (oc_27 0 shX12_batch_0) rfl (lvA1 hl) ?_
  refine lv_iconst (v := 1) hx hb (oc_4 1 (aq_1 shX12_batch_0)) kic_1 ?_
  refine lv_ldcw (v := 1048575) hx hb hown (S.2.2.2.2 _ (wk8_16 9 rfl rfl)) (oc_19 2 (aq_2 shX12_batch_0) uw_1_178) ?_
  refine vp_callSi (runS_r (As := [.int v0, .int 1, .int 1048575]) (rest := []) S (q_in l D cI cB cZ v0 1 1048575 ) kS_RX12_214 hK hP [] rfl ⟨Nat.le_of_ble_eq_true rfl, Nat.le_of_ble_eq_true rfl⟩ ⟨Nat.le_of_ble_eq_true rfl, Nat.le_of_ble_eq_true rfl⟩ rfl hl.1 rfl (Nat.le_of_ble_eq_true rfl) (oc_184 5 (aq_5 shX12_batch_0) uw_0_214)) (fun r_1 h_2 => ?_)
  rcases h_2 with ⟨rfl, h_2⟩ | ⟨rfl, h_2⟩
  ·
    have h_2 : 1 ≤ v0.toInt ∧ v0.toInt ≤ 1048575 := h_2
    refine lv_if_eq (tgt := 20) hx hb dX12_batch_8 rfl (fun h => absurd h cq_eq_1_0) (fun _ => ?_)
    refine lv_aload_n hx hb (oc_42 11 (aq_11 shX12_batch_0)) rfl (lvA0 hl) ?_
    refine gM_435 S hK hP (v := .int (nI (cn 62))) rfl (oc_180 12 (aq_12 shX12_batch_0) uw_1_179) ?_
    refine lv_bipush (v := 10) hx hb (oc_16 15 (aq_15 shX12_batch_0) sgb_10) kbc_10 ?_
    have : (nI (cn 62)).toInt = (((cn 62) : Nat) : Int) := nI_toInt (by (first | omega | (have zz0 := Hid.u hi_cn; omega)))
    refine lv_icmp_ne (tgt := 22) hx hb (oc_160 17 (aq_17 shX12_batch_0) sgw_0_5) rfl (fun c_3 => ?_) (fun c_3 => ?_)
    ·
      have tc_3 : ((nI (cn 62)).toInt : Int) ≠ 10 := fun q => c_3 (Int32.toInt_inj.mp q)
      refine lv_iconst (v := 0) hx hb (oc_3 22 (aq_22 shX12_batch_0)) kic_0 ?_
      refine lv_istore_n (lv' := [(2, .int 0), (0, .ref (g 100)), (1, .int v0)]) hx hb (oc_61 23 (aq_23 shX12_batch_0)) rfl hl (ltb rfl) rfl (fun ls hl => ?_)
      have lp_24 : ∀ (n : Nat) (i24 : Nat) , 20 - i24 < n → (i24 ≤ 20 ∧ (∀ i : Nat, i < i24 → ¬ (v0 >>> (nI i &&& 31)) &&& 1 = 0 → i < cn 2) ∧ (∀ i : Nat, i < i24 → ¬ (v0 >>> (nI i &&& 31)) &&& 1 = 0 → i < cn 2 ∧ Fn 15 i = -1 ∧ (Fn 13 i).toInt ≤ (cn 0 : Int))) → ∀ ls : Array Slot, lv_has ls 4 [(2, .int (nI i24)), (0, .ref (g 100)), (1, .int v0)] → W p l e (RM 3 0 0) s m ([.ref (g 100), .int v0]).toArray below meth c s.heap [] 0 0 (MQ below (va_Qi (fun (r : Int32) (u : (Nat → Nat) × (Nat → Int32) × (Nat → Nat → Int32)) => (fun r c2 I2 F2 => Fr [62] [71, 72, 73] [15, 37, 38, 64, 65] cn In Fn c2 I2 F2 ∧ IM c2 F2 ∧ ((¬ ((1 ≤ v0.toInt ∧ v0.toInt ≤ 1048575) ∧ cn 62 < 10 ∧ (∀ i : Nat, i < 20 → ¬ (v0 >>> (nI i &&& 31)) &&& 1 = 0 → i < cn 2 ∧ Fn 15 i = -1 ∧ (Fn 13 i).toInt ≤ (cn 0 : Int))) ∧ r = -1 ∧ c2 62 = cn 62 ∧ F2 15 = Fn 15 ∧ F2 64 = Fn 64 ∧ F2 65 = Fn 65) ∨ (((1 ≤ v0.toInt ∧ v0.toInt ≤ 1048575) ∧ cn 62 < 10 ∧ (∀ i : Nat, i < 20 → ¬ (v0 >>> (nI i &&& 31)) &&& 1 = 0 → i < cn 2 ∧ Fn 15 i = -1 ∧ (Fn 13 i).toInt ≤ (cn 0 : Int))) ∧ ∃ rr : Int32, FTX o (cut (mxL (Fn 10) (Fn 11) (Fn 12) (Fn 39) v0 (cn 0))) cl 0 rr ∧ ((¬ rr = -1 ∧ r = -10 - rr ∧ c2 62 = cn 62 ∧ F2 15 = Fn 15 ∧ F2 64 = Fn 64 ∧ F2 65 = Fn 65) ∨ (rr = -1 ∧ r = nI (cn 62) ∧ c2 62 = cn 62 + 1 ∧ F2 64 = upd (Fn 64) (cn 62) v0 ∧ F2 65 = upd (Fn 65) (cn 62) (nI (cn 0)) ∧ ∀ k : Nat, F2 15 k = if k < 20 ∧ ¬ (v0 >>> (nI k &&& 31)) &&& 1 = 0 then nI (cn 62) else Fn 15 k))))) r u.1 u.2.1 u.2.2) (fun (u : (Nat → Nat) × (Nat → Int32) × (Nat → Nat → Int32)) (t : State) => va_P D vwCl (wM cI cB cZ g u.1 u.2.1 u.2.2) t.heap ∧ va_D A (wM cI cB cZ g u.1 u.2.1 u.2.2)) A) ([.ref (g 100), .int v0]).toArray s 0 0 A) (F0 m 24 ls []) := by
        intro n24
        induction n24 with
        | zero => intros; (first | omega | (have zz0 := Hid.u hi_cn; omega))
        | succ n24 ih24 =>
          intro i24 hmu24 hinv24 ls hl
          obtain ⟨hr24, hx24_0, hx24_1⟩ := hinv24
          have ti24 : (nI i24).toInt = (i24 : Int) := nI_toInt (by (first | omega | (have zz0 := Hid.u hi_cn; omega)))
          refine lv_iload_n hx hb (oc_28 24 shX12_batch_24) rfl (lvA0 hl) ?_
          refine lv_bipush (v := 20) hx hb (oc_16 25 (aq_1 shX12_batch_24) sgb_20) kbc_20 ?_
          refine lv_icmp_ge (tgt := 55) hx hb (oc_162 27 (aq_3 shX12_batch_24) sgw_0_28) rfl (fun c_4 => ?_) (fun c_4 => ?_)
          ·
            have tc_4 : (20 : Int) ≤ (nI i24).toInt := Int32.le_iff_toInt_le.mp c_4
            refine lv_aload_n hx hb (oc_42 55 (aq_7 shX12_batch_48)) rfl (lvA1 hl) ?_
            refine lv_iload_n hx hb (oc_27 56 (aq_8 shX12_batch_48)) rfl (lvA2 hl) ?_
            have hFc := free_all hD hS hA
            refine va_calli (runV_a (As := [.int v0]) (rest := []) S (q_whyNot9 l D cI cB cZ g cn In Fn v0 o cl s.heap.size hI hM hG hL) kV_RX12_441 hK hP hD 0 rfl rfl rfl ⟨Nat.le_of_ble_eq_true rfl, Nat.le_of_ble_eq_true rfl⟩ ⟨Nat.le_of_ble_eq_true rfl, Nat.le_of_ble_eq_true rfl⟩ rfl hl.1 rfl (Nat.le_of_ble_eq_true rfl) (oc_182 57 (aq_9 shX12_batch_48) uw_1_185)) hS (fun q _ h => hFc q h) hFc (fun r_5 u t H1 locs ht hvm wh_6 hB hz1 hk1 hS => ?_)
            obtain ⟨cn6, In6, Fn6⟩ := u
            obtain ⟨hP1, hD1⟩ := hB
            rw [ht] at hP1
            have hP : va_P D vwCl (wM cI cB cZ g cn6 In6 Fn6) H1 := hP1
            have hD : va_D A (wM cI cB cZ g cn6 In6 Fn6) := hD1.weaken (fun _ _ _ h => hFc _ h)
            generalize H1 = H at hP hS ⊢
            have vh_6 : (fun r c2 I2 F2 => Fr [] [71, 72, 73] [37, 38] cn In Fn c2 I2 F2 ∧ IM c2 F2 ∧ (FTX o (cut (mxL ((Fn 10)) ((Fn 11)) ((Fn 12)) ((Fn 39)) v0 ((cn 0)))) cl 0 r)) r_5 cn6 In6 Fn6 := wh_6
            obtain ⟨hfc6, hIn6, h_6⟩ := vh_6
            obtain rfl : cn = cn6 := (funext (fun k => hfc6.1 k List.not_mem_nil)).symm
            have hf6 : Fr [62] [71, 72, 73] [15, 37, 38, 64, 65] cn In Fn cn In6 Fn6 := Fr.mo (Fr.tr (Fr.rf (cn := cn) (In := In) (Fn := Fn)) hfc6) (sbl rfl) (sbl rfl) (sbl rfl)
            have hi_cn : Hid (CB cn) := hIn6.b
            refine lv_istore_n (lv' := [(2, .int r_5), (0, .ref (g 100)), (1, .int v0)]) hx hb (oc_61 60 (aq_12 shX12_batch_48)) rfl hl (ltb rfl) rfl (fun ls hl => ?_)
            refine lv_iload_n hx hb (oc_28 61 (aq_13 shX12_batch_48)) rfl (lvA0 hl) ?_
            refine lv_iconst (v := (-1)) hx hb (oc_2 62 (aq_14 shX12_batch_48)) kic_m1 ?_
            refine lv_icmp_eq (tgt := 71) hx hb (oc_159 63 (aq_15 shX12_batch_48) sgw_0_8) rfl (fun c_7 => ?_) (fun c_7 => ?_)
            ·
              have tc_7 : (r_5.toInt : Int) = (-1) := congrArg Int32.toInt c_7
              refine lv_iconst (v := 0) hx hb (oc_3 71 (aq_23 shX12_batch_48)) kic_0 ?_
              refine lv_istore_n (lv' := [(3, .int 0), (2, .int r_5), (0, .ref (g 100)), (1, .int v0)]) hx hb (oc_62 72 shX12_batch_72) rfl hl (ltb rfl) rfl (fun ls hl => ?_)
              have lp_73 : ∀ (n : Nat) (i73 : Nat) (F73 : Nat → Nat → Int32) (H : Heap) (locs : List Loc) , 20 - i73 < n → (i73 ≤ 20 ∧ Fr [62] [71, 72, 73] [15, 37, 38, 64, 65] cn In Fn cn In6 F73 ∧ IM cn F73 ∧ (∀ k : Nat, F73 15 k = if k < i73 ∧ ¬ (v0 >>> (nI k &&& 31)) &&& 1 = 0 then nI (cn 62) else Fn 15 k) ∧ (F73 64 = Fn 64) ∧ (F73 65 = Fn 65)) → va_P D vwCl (wM cI cB cZ g cn In6 F73) H → va_D A (wM cI cB cZ g cn In6 F73) → va_S A s.heap H locs → ∀ ls : Array Slot, lv_has ls 4 [(3, .int (nI i73)), (2, .int r_5), (0, .ref (g 100)), (1, .int v0)] → W p l e (RM 3 0 0) s m ([.ref (g 100), .int v0]).toArray below meth c H locs 0 0 (MQ below (va_Qi (fun (r : Int32) (u : (Nat → Nat) × (Nat → Int32) × (Nat → Nat → Int32)) => (fun r c2 I2 F2 => Fr [62] [71, 72, 73] [15, 37, 38, 64, 65] cn In Fn c2 I2 F2 ∧ IM c2 F2 ∧ ((¬ ((1 ≤ v0.toInt ∧ v0.toInt ≤ 1048575) ∧ cn 62 < 10 ∧ (∀ i : Nat, i < 20 → ¬ (v0 >>> (nI i &&& 31)) &&& 1 = 0 → i < cn 2 ∧ Fn 15 i = -1 ∧ (Fn 13 i).toInt ≤ (cn 0 : Int))) ∧ r = -1 ∧ c2 62 = cn 62 ∧ F2 15 = Fn 15 ∧ F2 64 = Fn 64 ∧ F2 65 = Fn 65) ∨ (((1 ≤ v0.toInt ∧ v0.toInt ≤ 1048575) ∧ cn 62 < 10 ∧ (∀ i : Nat, i < 20 → ¬ (v0 >>> (nI i &&& 31)) &&& 1 = 0 → i < cn 2 ∧ Fn 15 i = -1 ∧ (Fn 13 i).toInt ≤ (cn 0 : Int))) ∧ ∃ rr : Int32, FTX o (cut (mxL (Fn 10) (Fn 11) (Fn 12) (Fn 39) v0 (cn 0))) cl 0 rr ∧ ((¬ rr = -1 ∧ r = -10 - rr ∧ c2 62 = cn 62 ∧ F2 15 = Fn 15 ∧ F2 64 = Fn 64 ∧ F2 65 = Fn 65) ∨ (rr = -1 ∧ r = nI (cn 62) ∧ c2 62 = cn 62 + 1 ∧ F2 64 = upd (Fn 64) (cn 62) v0 ∧ F2 65 = upd (Fn 65) (cn 62) (nI (cn 0)) ∧ ∀ k : Nat, F2 15 k = if k < 20 ∧ ¬ (v0 >>> (nI k &&& 31)) &&& 1 = 0 then nI (cn 62) else Fn 15 k))))) r u.1 u.2.1 u.2.2) (fun (u : (Nat → Nat) × (Nat → Int32) × (Nat → Nat → Int32)) (t : State) => va_P D vwCl (wM cI cB cZ g u.1 u.2.1 u.2.2) t.heap ∧ va_D A (wM cI cB cZ g u.1 u.2.1 u.2.2)) A) ([.ref (g 100), .int v0]).toArray s 0 0 A) (F0 m 73 ls []) := by
                intro n73
                induction n73 with
                | zero => intros; (first | omega | (have zz0 := Hid.u hi_cn; omega))
                | succ n73 ih73 =>
                  intro i73 F73 H locs hmu73 hinv73 hP hD hS ls hl
                  obtain ⟨hr73, hfr73, hI73, hx73_0, hx73_1, hx73_2⟩ := hinv73
                  have ti73 : (nI i73).toInt = (i73 : Int) := nI_toInt (by (first | omega | (have zz0 := Hid.u hi_cn; omega)))
                  have hi_cn : Hid (CB cn) := hI73.b
                  refine lv_iload_n hx hb (oc_29 73 (aq_1 shX12_batch_72)) rfl (lvA0 hl) ?_
                  refine lv_bipush (v := 20) hx hb (oc_16 74 (aq_2 shX12_batch_72) sgb_20) kbc_20 ?_
                  refine lv_icmp_ge (tgt := 104) hx hb (oc_162 76 (aq_4 shX12_batch_72) sgw_0_28) rfl (fun c_8 => ?_) (fun c_8 => ?_)
                  ·
                    have tc_8 : (20 : Int) ≤ (nI i73).toInt := Int32.le_iff_toInt_le.mp c_8
                    refine lv_aload_n hx hb (oc_42 104 (aq_7 shX12_batch_97)) rfl (lvA2 hl) ?_
                    refine gM_138 S hK hP (v := .ref (g 64)) rfl (oc_180 105 (aq_8 shX12_batch_97) uw_0_138) ?_
                    refine lv_aload_n hx hb (oc_42 108 (aq_11 shX12_batch_97)) rfl (lvA2 hl) ?_
                    refine gM_435 S hK hP (v := .int (nI (cn 62))) rfl (oc_180 109 (aq_12 shX12_batch_97) uw_1_179) ?_
                    refine lv_iload_n hx hb (oc_27 112 (aq_15 shX12_batch_97)) rfl (lvA3 hl) ?_
                    have kb_1 : (cn 62) < 10 := by (first | omega | (have zz0 := Hid.u hi_cn; omega))
                    refine stM_64 hx hb hK hP hD hS (Fn2 := (va_up F73 64 (upd (F73 64) (cn 62) v0))) (vp_in_nI kb_1 (ltb rfl)) (nI_clamp (Nat.lt_trans kb_1 (ltb rfl))) rfl (oc_79 113 (aq_16 shX12_batch_97)) (fun H locs hP hD hS => ?_)
                    refine lv_aload_n hx hb (oc_42 114 (aq_17 shX12_batch_97)) rfl (lvA2 hl) ?_
                    refine gM_141 S hK hP (v := .ref (g 65)) rfl (oc_180 115 (aq_18 shX12_batch_97) uw_0_141) ?_
                    refine lv_aload_n hx hb (oc_42 118 (aq_21 shX12_batch_97)) rfl (lvA2 hl) ?_
                    refine gM_435 S hK hP (v := .int (nI (cn 62))) rfl (oc_180 119 (aq_22 shX12_batch_97) uw_1_179) ?_
                    refine lv_aload_n hx hb (oc_42 122 shX12_batch_122) rfl (lvA2 hl) ?_
                    refine gM_211 S hK hP (v := .int (nI (cn 0))) rfl (oc_180 123 (aq_1 shX12_batch_122) uw_0_211) ?_
                    refine stM_65 hx hb hK hP hD hS (Fn2 := (va_up (va_up F73 64 (upd (F73 64) (cn 62) v0)) 65 (upd (F73 65) (cn 62) (nI (cn 0))))) (vp_in_nI kb_1 (ltb rfl)) (nI_clamp (Nat.lt_trans kb_1 (ltb rfl))) rfl (oc_79 126 (aq_4 shX12_batch_122)) (fun H locs hP hD hS => ?_)
                    refine lv_aload_n hx hb (oc_42 127 (aq_5 shX12_batch_122)) rfl (lvA2 hl) ?_
                    refine lv_aload_n hx hb (oc_42 128 (aq_6 shX12_batch_122)) rfl (lvA2 hl) ?_
                    refine gM_435 S hK hP (v := .int (nI (cn 62))) rfl (oc_180 129 (aq_7 shX12_batch_122) uw_1_179) ?_
                    refine lv_iconst (v := 1) hx hb (oc_4 132 (aq_10 shX12_batch_122)) kic_1 ?_
                    refine lv_iadd hx hb (oc_96 133 (aq_11 shX12_batch_122)) ?_
                    refine lv_topi (fun y_9 ey_9 => ?_)
                    obtain rfl : y_9 = (nI ((cn 62) + 1)) := ey_9.trans (nI_add (cn 62) 1)
                    refine pM_435 S hK hP hD hS (a := ((cn 62) + 1)) (cn2 := (va_up cn 62 ((cn 62) + 1))) rfl rfl (oc_181 134 (aq_12 shX12_batch_122) uw_1_179) (fun H locs hP hD hS => ?_)
                    refine lv_aload_n hx hb (oc_42 137 (aq_15 shX12_batch_122)) rfl (lvA2 hl) ?_
                    refine gM_435 S hK hP (v := .int (nI ((cn 62) + 1))) rfl (oc_180 138 (aq_16 shX12_batch_122) uw_1_179) ?_
                    refine lv_iconst (v := 1) hx hb (oc_4 141 (aq_19 shX12_batch_122)) kic_1 ?_
                    refine lv_isub hx hb (oc_100 142 (aq_20 shX12_batch_122)) ?_
                    refine lv_topi (fun y_10 ey_10 => ?_)
                    obtain rfl : y_10 = (nI (cn 62)) := ey_10.trans (nI_pred _)
                    exact W.iret (v := (nI (cn 62))) hx hb hr (fun t ht hW => ⟨⟨(nI (cn 62)), ((va_up cn 62 ((cn 62) + 1)), In6, (va_up (va_up F73 64 (upd (F73 64) (cn 62) v0)) 65 (upd (F73 65) (cn 62) (nI (cn 0))))), rfl, ⟨(Fr.mo (Fr.f 65 (Fr.f 64 (Fr.c 62 hfr73))) (sbl rfl) (sbl rfl) (sbl rfl)), (IM.bt hI73 (by (first | omega | (have zz0 := Hid.u hi_cn; omega))) (v := v0) (fun i hi hb => by have := hx24_0 i (by (first | omega | (have zz0 := Hid.u hi_cn; omega))) hb; (first | omega | (have zz0 := Hid.u hi_cn; omega)))), (by show (¬ ((1 ≤ v0.toInt ∧ v0.toInt ≤ 1048575) ∧ cn 62 < 10 ∧ (∀ i : Nat, i < 20 → ¬ (v0 >>> (nI i &&& 31)) &&& 1 = 0 → i < cn 2 ∧ Fn 15 i = -1 ∧ (Fn 13 i).toInt ≤ (cn 0 : Int))) ∧ (nI (cn 62)) = -1 ∧ (va_up cn 62 ((cn 62) + 1)) 62 = cn 62 ∧ (va_up (va_up F73 64 (upd (F73 64) (cn 62) v0)) 65 (upd (F73 65) (cn 62) (nI (cn 0)))) 15 = Fn 15 ∧ (va_up (va_up F73 64 (upd (F73 64) (cn 62) v0)) 65 (upd (F73 65) (cn 62) (nI (cn 0)))) 64 = Fn 64 ∧ (va_up (va_up F73 64 (upd (F73 64) (cn 62) v0)) 65 (upd (F73 65) (cn 62) (nI (cn 0)))) 65 = Fn 65) ∨ (((1 ≤ v0.toInt ∧ v0.toInt ≤ 1048575) ∧ cn 62 < 10 ∧ (∀ i : Nat, i < 20 → ¬ (v0 >>> (nI i &&& 31)) &&& 1 = 0 → i < cn 2 ∧ Fn 15 i = -1 ∧ (Fn 13 i).toInt ≤ (cn 0 : Int))) ∧ ∃ rr : Int32, FTX o (cut (mxL (Fn 10) (Fn 11) (Fn 12) (Fn 39) v0 (cn 0))) cl 0 rr ∧ ((¬ rr = -1 ∧ (nI (cn 62)) = -10 - rr ∧ (va_up cn 62 ((cn 62) + 1)) 62 = cn 62 ∧ (va_up (va_up F73 64 (upd (F73 64) (cn 62) v0)) 65 (upd (F73 65) (cn 62) (nI (cn 0)))) 15 = Fn 15 ∧ (va_up (va_up F73 64 (upd (F73 64) (cn 62) v0)) 65 (upd (F73 65) (cn 62) (nI (cn 0)))) 64 = Fn 64 ∧ (va_up (va_up F73 64 (upd (F73 64) (cn 62) v0)) 65 (upd (F73 65) (cn 62) (nI (cn 0)))) 65 = Fn 65) ∨ (rr = -1 ∧ (nI (cn 62)) = nI (cn 62) ∧ (va_up cn 62 ((cn 62) + 1)) 62 = cn 62 + 1 ∧ (va_up (va_up F73 64 (upd (F73 64) (cn 62) v0)) 65 (upd (F73 65) (cn 62) (nI (cn 0)))) 64 = upd (Fn 64) (cn 62) v0 ∧ (va_up (va_up F73 64 (upd (F73 64) (cn 62) v0)) 65 (upd (F73 65) (cn 62) (nI (cn 0)))) 65 = upd (Fn 65) (cn 62) (nI (cn 0)) ∧ ∀ k : Nat, (va_up (va_up F73 64 (upd (F73 64) (cn 62) v0)) 65 (upd (F73 65) (cn 62) (nI (cn 0)))) 15 k = if k < 20 ∧ ¬ (v0 >>> (nI k &&& 31)) &&& 1 = 0 then nI (cn 62) else Fn 15 k))); exact Or.inr ⟨⟨⟨by (first | omega | (have zz0 := Hid.u hi_cn; omega)), by (first | omega | (have zz0 := Hid.u hi_cn; omega))⟩, by (first | omega | (have zz0 := Hid.u hi_cn; omega)), fun i hi hb => hx24_1 i (by (first | omega | (have zz0 := Hid.u hi_cn; omega))) hb⟩, r_5, h_6, Or.inr ⟨(by first | assumption | exact Int32.toInt_inj.mp (by assumption)), rfl, rfl, (by show upd (F73 64) (cn 62) v0 = _; rw [hx73_1]), (by show upd (F73 65) (cn 62) (nI (cn 0)) = _; rw [hx73_2]), fun k => (hx73_0 k).trans (ifcg9 ⟨fun w => ⟨by (first | omega | (have zz0 := Hid.u hi_cn; omega)), w.2⟩, fun w => ⟨by (first | omega | (have zz0 := Hid.u hi_cn; omega)), w.2⟩⟩)⟩⟩)⟩, by rw [ht]; exact hP, hD⟩, hS.F ht⟩) hS.2.2 (oc_172 143 (aq_21 shX12_batch_122))
                  ·
                    have tc_8 : ((nI i73).toInt : Int) < 20 := Int32.lt_iff_toInt_lt.mp (Int32.not_le.mp c_8)
                    refine lv_iload_n hx hb (oc_27 79 (aq_7 shX12_batch_72)) rfl (lvA3 hl) ?_
                    refine lv_iload_n hx hb (oc_29 80 (aq_8 shX12_batch_72)) rfl (lvA0 hl) ?_
                    refine lv_ishr hx hb (oc_122 81 (aq_9 shX12_batch_72)) ?_
                    refine lv_iconst (v := 1) hx hb (oc_4 82 (aq_10 shX12_batch_72)) kic_1 ?_
                    refine lv_iand hx hb (oc_126 83 (aq_11 shX12_batch_72)) ?_
                    refine lv_iconst (v := 1) hx hb (oc_4 84 (aq_12 shX12_batch_72)) kic_1 ?_
                    refine lv_icmp_ne (tgt := 98) hx hb (oc_160 85 (aq_13 shX12_batch_72) sgw_0_13) rfl (fun c_11 => ?_) (fun c_11 => ?_)
                    ·
                      have tc_11 : (((v0 >>> ((nI i73) &&& 31)) &&& 1).toInt : Int) ≠ 1 := fun q => c_11 (Int32.toInt_inj.mp q)
                      refine lv_iinc (v := (nI (i73 + 1))) (lv' := [(3, .int (nI (i73 + 1))), (2, .int r_5), (0, .ref (g 100)), (1, .int v0)]) hx hb dX12_batch_98 hl (k := 0) rfl (nI_1 _) (ltb rfl) rfl (fun ls hl => ?_)
                      refine lv_goto (tgt := 73) hx hb dX12_batch_101 rfl ?_
                      exact ih73 (i73 + 1) F73 _ _ (by (first | omega | (have zz0 := Hid.u hi_cn; omega))) ⟨(by (first | omega | (have zz0 := Hid.u hi_cn; omega))), (Fr.mo hfr73 (sbl rfl) (sbl rfl) (sbl rfl)), hI73, (fun k => (hx73_0 k).trans (ifcg9 ⟨fun w => ⟨by (first | omega | (have zz0 := Hid.u hi_cn; omega)), w.2⟩, fun w => ⟨by have q9 : ¬ k = i73 := (fun e9 => by subst e9; exact w.2 (bit_0 (by (first | omega | (have zz0 := Hid.u hi_cn; omega))) (by first | assumption | exact fun q => absurd (congrArg Int32.toInt q) (by assumption)))); (first | omega | (have zz0 := Hid.u hi_cn; omega)), w.2⟩⟩)), hx73_1, hx73_2⟩ hP hD hS ls (lv_sub hl [0, 1, 2, 3] rfl)
                    ·
                      have tc_11 : (((v0 >>> ((nI i73) &&& 31)) &&& 1).toInt : Int) = 1 := congrArg Int32.toInt c_11
                      refine lv_aload_n hx hb (oc_42 88 (aq_16 shX12_batch_72)) rfl (lvA2 hl) ?_
                      refine gM_46 S hK hP (v := .ref (g 15)) rfl (oc_180 89 (aq_17 shX12_batch_72) uw_0_46) ?_
                      refine lv_iload_n hx hb (oc_29 92 (aq_20 shX12_batch_72)) rfl (lvA0 hl) ?_
                      refine lv_aload_n hx hb (oc_42 93 (aq_21 shX12_batch_72)) rfl (lvA2 hl) ?_
                      refine gM_435 S hK hP (v := .int (nI (cn 62))) rfl (oc_180 94 (aq_22 shX12_batch_72) uw_1_179) ?_
                      have kb_2 : i73 < 60 := by (first | omega | (have zz0 := Hid.u hi_cn; omega))
                      refine stM_15 hx hb hK hP hD hS (Fn2 := (va_up F73 15 (upd (F73 15) i73 (nI (cn 62))))) (vp_in_nI kb_2 (ltb rfl)) (nI_clamp (Nat.lt_trans kb_2 (ltb rfl))) rfl (oc_79 97 shX12_batch_97) (fun H locs hP hD hS => ?_)
                      refine lv_iinc (v := (nI (i73 + 1))) (lv' := [(3, .int (nI (i73 + 1))), (2, .int r_5), (0, .ref (g 100)), (1, .int v0)]) hx hb dX12_batch_98 hl (k := 0) rfl (nI_1 _) (ltb rfl) rfl (fun ls hl => ?_)
                      refine lv_goto (tgt := 73) hx hb dX12_batch_101 rfl ?_
                      exact ih73 (i73 + 1) (va_up F73 15 (upd (F73 15) i73 (nI (cn 62)))) _ _ (by (first | omega | (have zz0 := Hid.u hi_cn; omega))) ⟨(by (first | omega | (have zz0 := Hid.u hi_cn; omega))), (Fr.mo (Fr.f 15 hfr73) (sbl rfl) (sbl rfl) (sbl rfl)), (IM.fr (In := In6) hI73 (Fr.f 15 Fr.rf) (by decide) (by decide)), (fun k => if q9 : k = i73 then (by subst q9; show upd (F73 15) k (nI (cn 62)) k = _; rw [upd_self, if_pos ⟨by (first | omega | (have zz0 := Hid.u hi_cn; omega)), (fun w9 => absurd (w9.symm.trans (show _ = (1 : Int32) from (by first | assumption | exact Int32.toInt_inj.mp (by assumption)))) (by decide))⟩]) else (by show upd (F73 15) i73 (nI (cn 62)) k = _; rw [show upd (F73 15) i73 (nI (cn 62)) k = F73 15 k from if_neg q9, hx73_0 k]; exact ifcg9 ⟨fun w => ⟨by (first | omega | (have zz0 := Hid.u hi_cn; omega)), w.2⟩, fun w => ⟨by (first | omega | (have zz0 := Hid.u hi_cn; omega)), w.2⟩⟩)), hx73_1, hx73_2⟩ hP hD hS ls (lv_sub hl [0, 1, 2, 3] rfl)
              exact lp_73 _ 0 Fn6 _ _ (Nat.lt_succ_self _) ⟨(by (first | omega | (have zz0 := Hid.u hi_cn; omega))), (Fr.mo hf6 (sbl rfl) (sbl rfl) (sbl rfl)), hIn6, (fun k => (congrFun (hfc6.2.2 15 (nml rfl)) k).trans (if_neg (fun w => absurd w.1 (Nat.not_lt_zero k))).symm), (hfc6.2.2 64 (nml rfl)), (hfc6.2.2 65 (nml rfl))⟩ hP hD hS ls (lv_sub hl [0, 1, 2, 3] rfl)
            ·
              have tc_7 : (r_5.toInt : Int) ≠ (-1) := fun q => c_7 (Int32.toInt_inj.mp q)
              refine lv_bipush (v := (-10)) hx hb (oc_16 66 (aq_18 shX12_batch_48) sgb_246) kbc_m10 ?_
              refine lv_iload_n hx hb (oc_28 68 (aq_20 shX12_batch_48)) rfl (lvA0 hl) ?_
              refine lv_isub hx hb (oc_100 69 (aq_21 shX12_batch_48)) ?_
              exact W.iret (v := ((-10) - r_5)) hx hb hr (fun t ht hW => ⟨⟨((-10) - r_5), (cn, In6, Fn6), rfl, ⟨(Fr.mo hf6 (sbl rfl) (sbl rfl) (sbl rfl)), hIn6, (by show (¬ ((1 ≤ v0.toInt ∧ v0.toInt ≤ 1048575) ∧ cn 62 < 10 ∧ (∀ i : Nat, i < 20 → ¬ (v0 >>> (nI i &&& 31)) &&& 1 = 0 → i < cn 2 ∧ Fn 15 i = -1 ∧ (Fn 13 i).toInt ≤ (cn 0 : Int))) ∧ ((-10) - r_5) = -1 ∧ cn 62 = cn 62 ∧ Fn6 15 = Fn 15 ∧ Fn6 64 = Fn 64 ∧ Fn6 65 = Fn 65) ∨ (((1 ≤ v0.toInt ∧ v0.toInt ≤ 1048575) ∧ cn 62 < 10 ∧ (∀ i : Nat, i < 20 → ¬ (v0 >>> (nI i &&& 31)) &&& 1 = 0 → i < cn 2 ∧ Fn 15 i = -1 ∧ (Fn 13 i).toInt ≤ (cn 0 : Int))) ∧ ∃ rr : Int32, FTX o (cut (mxL (Fn 10) (Fn 11) (Fn 12) (Fn 39) v0 (cn 0))) cl 0 rr ∧ ((¬ rr = -1 ∧ ((-10) - r_5) = -10 - rr ∧ cn 62 = cn 62 ∧ Fn6 15 = Fn 15 ∧ Fn6 64 = Fn 64 ∧ Fn6 65 = Fn 65) ∨ (rr = -1 ∧ ((-10) - r_5) = nI (cn 62) ∧ cn 62 = cn 62 + 1 ∧ Fn6 64 = upd (Fn 64) (cn 62) v0 ∧ Fn6 65 = upd (Fn 65) (cn 62) (nI (cn 0)) ∧ ∀ k : Nat, Fn6 15 k = if k < 20 ∧ ¬ (v0 >>> (nI k &&& 31)) &&& 1 = 0 then nI (cn 62) else Fn 15 k))); exact Or.inr ⟨⟨⟨by (first | omega | (have zz0 := Hid.u hi_cn; omega)), by (first | omega | (have zz0 := Hid.u hi_cn; omega))⟩, by (first | omega | (have zz0 := Hid.u hi_cn; omega)), fun i hi hb => hx24_1 i (by (first | omega | (have zz0 := Hid.u hi_cn; omega))) hb⟩, r_5, h_6, Or.inl ⟨(by first | assumption | exact fun q => absurd (congrArg Int32.toInt q) (by assumption)), rfl, rfl, hfc6.2.2 15 (nml rfl), hfc6.2.2 64 (nml rfl), hfc6.2.2 65 (nml rfl)⟩⟩)⟩, by rw [ht]; exact hP, hD⟩, hS.F ht⟩) hS.2.2 (oc_172 70 (aq_22 shX12_batch_48))
          ·
            have tc_4 : ((nI i24).toInt : Int) < 20 := Int32.lt_iff_toInt_lt.mp (Int32.not_le.mp c_4)
            refine lv_iload_n hx hb (oc_27 30 (aq_6 shX12_batch_24)) rfl (lvA2 hl) ?_
            refine lv_iload_n hx hb (oc_28 31 (aq_7 shX12_batch_24)) rfl (lvA0 hl) ?_
            refine lv_ishr hx hb (oc_122 32 (aq_8 shX12_batch_24)) ?_
            refine lv_iconst (v := 1) hx hb (oc_4 33 (aq_9 shX12_batch_24)) kic_1 ?_
            refine lv_iand hx hb (oc_126 34 (aq_10 shX12_batch_24)) ?_
            refine lv_iconst (v := 1) hx hb (oc_4 35 (aq_11 shX12_batch_24)) kic_1 ?_
            refine lv_icmp_ne (tgt := 49) hx hb (oc_160 36 (aq_12 shX12_batch_24) sgw_0_13) rfl (fun c_12 => ?_) (fun c_12 => ?_)
            ·
              have tc_12 : (((v0 >>> ((nI i24) &&& 31)) &&& 1).toInt : Int) ≠ 1 := fun q => c_12 (Int32.toInt_inj.mp q)
              refine lv_iinc (v := (nI (i24 + 1))) (lv' := [(2, .int (nI (i24 + 1))), (0, .ref (g 100)), (1, .int v0)]) hx hb dX12_batch_49 hl (k := 0) rfl (nI_1 _) (ltb rfl) rfl (fun ls hl => ?_)
              refine lv_goto (tgt := 24) hx hb dX12_batch_52 rfl ?_
              exact ih24 (i24 + 1) (by (first | omega | (have zz0 := Hid.u hi_cn; omega))) ⟨(by (first | omega | (have zz0 := Hid.u hi_cn; omega))), (fun i hi hb => if q : i < i24 then hx24_0 i q hb else (by have e9 : i = i24 := (by (first | omega | (have zz0 := Hid.u hi_cn; omega))); rw [e9] at hb ⊢; first | (first | omega | (have zz0 := Hid.u hi_cn; omega)) | exact absurd ((bit01 _).resolve_right (by assumption)) hb)), (fun i hi hb => if q : i < i24 then hx24_1 i q hb else (by have e9 : i = i24 := (by (first | omega | (have zz0 := Hid.u hi_cn; omega))); rw [e9] at hb ⊢; exact absurd (bit_0 (by (first | omega | (have zz0 := Hid.u hi_cn; omega))) (by first | assumption | exact fun q => absurd (congrArg Int32.toInt q) (by assumption))) hb))⟩ ls (lv_sub hl [0, 1, 2] rfl)
            ·
              have tc_12 : (((v0 >>> ((nI i24) &&& 31)) &&& 1).toInt : Int) = 1 := congrArg Int32.toInt c_12
              refine lv_aload_n hx hb (oc_42 39 (aq_15 shX12_batch_24)) rfl (lvA1 hl) ?_
              refine lv_iload_n hx hb (oc_28 40 (aq_16 shX12_batch_24)) rfl (lvA0 hl) ?_
              refine vp_callSi (runV_ra (As := [.int (nI i24)]) (rest := []) S (q_isFree9 l D cI cB cZ g cn In Fn (nI i24) hI) kV_RX12_438 hK hP 0 rfl rfl rfl ⟨Nat.le_of_ble_eq_true rfl, Nat.le_of_ble_eq_true rfl⟩ ⟨Nat.le_of_ble_eq_true rfl, Nat.le_of_ble_eq_true rfl⟩ rfl hl.1 rfl (Nat.le_of_ble_eq_true rfl) (oc_182 41 (aq_17 shX12_batch_24) uw_1_182)) (fun r_13 h_14 => ?_)
              rcases h_14 with ⟨rfl, h_14⟩ | ⟨rfl, h_14⟩
              ·
                rw [show (nI i24).toInt.toNat = i24 from nI_tn (by (first | omega | (have zz0 := Hid.u hi_cn; omega)))] at h_14
                refine lv_if_ne (tgt := 49) hx hb dX12_batch_44 rfl (fun _ => ?_) (fun h => absurd h cq_eq_1_0)
                refine lv_iinc (v := (nI (i24 + 1))) (lv' := [(2, .int (nI (i24 + 1))), (0, .ref (g 100)), (1, .int v0)]) hx hb dX12_batch_49 hl (k := 0) rfl (nI_1 _) (ltb rfl) rfl (fun ls hl => ?_)
                refine lv_goto (tgt := 24) hx hb dX12_batch_52 rfl ?_
                exact ih24 (i24 + 1) (by (first | omega | (have zz0 := Hid.u hi_cn; omega))) ⟨(by (first | omega | (have zz0 := Hid.u hi_cn; omega))), (fun i hi hb => if q : i < i24 then hx24_0 i q hb else (by have e9 : i = i24 := (by (first | omega | (have zz0 := Hid.u hi_cn; omega))); rw [e9] at hb ⊢; first | (first | omega | (have zz0 := Hid.u hi_cn; omega)) | exact absurd ((bit01 _).resolve_right (by assumption)) hb)), (fun i hi hb => if q : i < i24 then hx24_1 i q hb else (by have e9 : i = i24 := (by (first | omega | (have zz0 := Hid.u hi_cn; omega))); rw [e9] at hb ⊢; exact ⟨by (first | omega | (have zz0 := Hid.u hi_cn; omega)), h_14.2.2⟩))⟩ ls (lv_sub hl [0, 1, 2] rfl)
              ·
                rw [show (nI i24).toInt.toNat = i24 from nI_tn (by (first | omega | (have zz0 := Hid.u hi_cn; omega)))] at h_14
                refine lv_if_ne (tgt := 49) hx hb dX12_batch_44 rfl (fun h => absurd h cq_eq_0_0) (fun _ => ?_)
                refine lv_iconst (v := (-1)) hx hb (oc_2 47 (aq_23 shX12_batch_24)) kic_m1 ?_
                exact W.iret (v := (-1)) hx hb hr (fun t ht hW => ⟨⟨(-1), (cn, In, Fn), rfl, ⟨(Fr.mo Fr.rf (sbl rfl) (sbl rfl) (sbl rfl)), hI, (by show (¬ ((1 ≤ v0.toInt ∧ v0.toInt ≤ 1048575) ∧ cn 62 < 10 ∧ (∀ i : Nat, i < 20 → ¬ (v0 >>> (nI i &&& 31)) &&& 1 = 0 → i < cn 2 ∧ Fn 15 i = -1 ∧ (Fn 13 i).toInt ≤ (cn 0 : Int))) ∧ (-1) = -1 ∧ cn 62 = cn 62 ∧ Fn 15 = Fn 15 ∧ Fn 64 = Fn 64 ∧ Fn 65 = Fn 65) ∨ (((1 ≤ v0.toInt ∧ v0.toInt ≤ 1048575) ∧ cn 62 < 10 ∧ (∀ i : Nat, i < 20 → ¬ (v0 >>> (nI i &&& 31)) &&& 1 = 0 → i < cn 2 ∧ Fn 15 i = -1 ∧ (Fn 13 i).toInt ≤ (cn 0 : Int))) ∧ ∃ rr : Int32, FTX o (cut (mxL (Fn 10) (Fn 11) (Fn 12) (Fn 39) v0 (cn 0))) cl 0 rr ∧ ((¬ rr = -1 ∧ (-1) = -10 - rr ∧ cn 62 = cn 62 ∧ Fn 15 = Fn 15 ∧ Fn 64 = Fn 64 ∧ Fn 65 = Fn 65) ∨ (rr = -1 ∧ (-1) = nI (cn 62) ∧ cn 62 = cn 62 + 1 ∧ Fn 64 = upd (Fn 64) (cn 62) v0 ∧ Fn 65 = upd (Fn 65) (cn 62) (nI (cn 0)) ∧ ∀ k : Nat, Fn 15 k = if k < 20 ∧ ¬ (v0 >>> (nI k &&& 31)) &&& 1 = 0 then nI (cn 62) else Fn 15 k))); exact Or.inl ⟨fun q9 => by have q8 := q9.2.2 i24 (by (first | omega | (have zz0 := Hid.u hi_cn; omega))) (fun w9 => absurd (w9.symm.trans (show _ = (1 : Int32) from (by first | assumption | exact Int32.toInt_inj.mp (by assumption)))) (by decide)); exact h_14 ⟨by (first | omega | (have zz0 := Hid.u hi_cn; omega)), by (first | omega | (have zz0 := Hid.u hi_cn; omega)), q8.2.1, q8.2.2⟩, rfl, rfl, rfl, rfl, rfl⟩)⟩, by rw [ht]; exact hP, hD⟩, hS.F ht⟩) hS.2.2 (oc_172 48 shX12_batch_48)
      exact lp_24 _ 0 (Nat.lt_succ_self _) ⟨(by (first | omega | (have zz0 := Hid.u hi_cn; omega))), (fun i hi => absurd hi (Nat.not_lt_zero i)), (fun i hi => absurd hi (Nat.not_lt_zero i))⟩ ls (lv_sub hl [0, 1, 2] rfl)
    ·
      have tc_3 : ((nI (cn 62)).toInt : Int) = 10 := congrArg Int32.toInt c_3
      refine lv_iconst (v := (-1)) hx hb dX12_batch_20 kic_m1 ?_
      exact W.iret (v := (-1)) hx hb hr (fun t ht hW => ⟨⟨(-1), (cn, In, Fn), rfl, ⟨(Fr.mo Fr.rf (sbl rfl) (sbl rfl) (sbl rfl)), hI, (by show (¬ ((1 ≤ v0.toInt ∧ v0.toInt ≤ 1048575) ∧ cn 62 < 10 ∧ (∀ i : Nat, i < 20 → ¬ (v0 >>> (nI i &&& 31)) &&& 1 = 0 → i < cn 2 ∧ Fn 15 i = -1 ∧ (Fn 13 i).toInt ≤ (cn 0 : Int))) ∧ (-1) = -1 ∧ cn 62 = cn 62 ∧ Fn 15 = Fn 15 ∧ Fn 64 = Fn 64 ∧ Fn 65 = Fn 65) ∨ (((1 ≤ v0.toInt ∧ v0.toInt ≤ 1048575) ∧ cn 62 < 10 ∧ (∀ i : Nat, i < 20 → ¬ (v0 >>> (nI i &&& 31)) &&& 1 = 0 → i < cn 2 ∧ Fn 15 i = -1 ∧ (Fn 13 i).toInt ≤ (cn 0 : Int))) ∧ ∃ rr : Int32, FTX o (cut (mxL (Fn 10) (Fn 11) (Fn 12) (Fn 39) v0 (cn 0))) cl 0 rr ∧ ((¬ rr = -1 ∧ (-1) = -10 - rr ∧ cn 62 = cn 62 ∧ Fn 15 = Fn 15 ∧ Fn 64 = Fn 64 ∧ Fn 65 = Fn 65) ∨ (rr = -1 ∧ (-1) = nI (cn 62) ∧ cn 62 = cn 62 + 1 ∧ Fn 64 = upd (Fn 64) (cn 62) v0 ∧ Fn 65 = upd (Fn 65) (cn 62) (nI (cn 0)) ∧ ∀ k : Nat, Fn 15 k = if k < 20 ∧ ¬ (v0 >>> (nI k &&& 31)) &&& 1 = 0 then nI (cn 62) else Fn 15 k))); exact Or.inl ⟨fun q9 => by (first | omega | (have zz0 := Hid.u hi_cn; omega)), rfl, rfl, rfl, rfl, rfl⟩)⟩, by rw [ht]; exact hP, hD⟩, hS.F ht⟩) hS.2.2 dX12_batch_21
  ·
    have h_2 : ¬ (1 ≤ v0.toInt ∧ v0.toInt ≤ 1048575) := h_2
    refine lv_if_eq (tgt := 20) hx hb dX12_batch_8 rfl (fun _ => ?_) (fun h => absurd h cq_eq_0_0)
    refine lv_iconst (v := (-1)) hx hb dX12_batch_20 kic_m1 ?_
    exact W.iret (v := (-1)) hx hb hr (fun t ht hW => ⟨⟨(-1), (cn, In, Fn), rfl, ⟨(Fr.mo Fr.rf (sbl rfl) (sbl rfl) (sbl rfl)), hI, (by show (¬ ((1 ≤ v0.toInt ∧ v0.toInt ≤ 1048575) ∧ cn 62 < 10 ∧ (∀ i : Nat, i < 20 → ¬ (v0 >>> (nI i &&& 31)) &&& 1 = 0 → i < cn 2 ∧ Fn 15 i = -1 ∧ (Fn 13 i).toInt ≤ (cn 0 : Int))) ∧ (-1) = -1 ∧ cn 62 = cn 62 ∧ Fn 15 = Fn 15 ∧ Fn 64 = Fn 64 ∧ Fn 65 = Fn 65) ∨ (((1 ≤ v0.toInt ∧ v0.toInt ≤ 1048575) ∧ cn 62 < 10 ∧ (∀ i : Nat, i < 20 → ¬ (v0 >>> (nI i &&& 31)) &&& 1 = 0 → i < cn 2 ∧ Fn 15 i = -1 ∧ (Fn 13 i).toInt ≤ (cn 0 : Int))) ∧ ∃ rr : Int32, FTX o (cut (mxL (Fn 10) (Fn 11) (Fn 12) (Fn 39) v0 (cn 0))) cl 0 rr ∧ ((¬ rr = -1 ∧ (-1) = -10 - rr ∧ cn 62 = cn 62 ∧ Fn 15 = Fn 15 ∧ Fn 64 = Fn 64 ∧ Fn 65 = Fn 65) ∨ (rr = -1 ∧ (-1) = nI (cn 62) ∧ cn 62 = cn 62 + 1 ∧ Fn 64 = upd (Fn 64) (cn 62) v0 ∧ Fn 65 = upd (Fn 65) (cn 62) (nI (cn 0)) ∧ ∀ k : Nat, Fn 15 k = if k < 20 ∧ ¬ (v0 >>> (nI k &&& 31)) &&& 1 = 0 then nI (cn 62) else Fn 15 k))); exact Or.inl ⟨fun q9 => by (first | omega | (have zz0 := Hid.u hi_cn; omega)), rfl, rfl, rfl, rfl, rfl⟩)⟩, by rw [ht]; exact hP, hD⟩, hS.F ht⟩) hS.2.2 dX12_batch_21
