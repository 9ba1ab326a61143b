

set_option maxRecDepth 100000 in
set_option maxHeartbeats 4000000 in
theorem q_loadAt9 (l : Launch) (D : va_G) (cI cB cZ : ClassId) (g : Nat → Nat) (cn : Nat → Nat) (In : Nat → Int32) (Fn : Nat → Nat → Int32) (b0 l0 : Nat) (hI : IM cn Fn) (hb0 : b0 < 10) (hl0 : l0 < 2147483648) : Met l yX12_loadAt (CWS yX12_loadAt cX12_loadAt 5 (some .int)) (RM 0 0 0) (PBr [.ref (g 100), .int (nI b0), .int (nI l0)] D cI cB cZ (wM cI cB cZ g cn In Fn)) (vp_Si (fun r => TWF (fun i => l0 < mixN (Fn 10) (Fn 64 b0) (i + 1)) 20 r)) 0 0 (fun _ => False) := by
  refine en_r rfl pn_RX12 (Nat.le_of_ble_eq_true rfl) (fun p e s m below meth c hx hb hml hown S hr hlocks hnm hP hK hS ls hl => ?_)
  have hl : lv_has ls 5 [(0, .ref (g 100)), (1, .int (nI b0)), (2, .int (nI l0))] := hl
  have hi_cn : Hid (CB cn) := hI.b
  refine lv_iload_n hx hb (oc_28 0 shX12_loadAt_0) rfl (lvA2 hl) ?_
  refine lv_istore_n (lv' := [(3, .int (nI l0)), (0, .ref (g 100)), (1, .int (nI b0)), (2, .int (nI l0))]) hx hb (oc_62 1 (aq_1 shX12_loadAt_0)) rfl hl (ltb rfl) rfl (fun ls hl => ?_)
  refine lv_iconst (v := 0) hx hb (oc_3 2 (aq_2 shX12_loadAt_0)) kic_0 ?_
  refine lv_istore (lv' := [(4, .int 0), (3, .int (nI l0)), (0, .ref (g 100)), (1, .int (nI b0)), (2, .int (nI l0))]) hx hb (oc_54 3 (aq_3 shX12_loadAt_0) ub_4) hl (ltb rfl) rfl (fun ls hl => ?_)
  have lp_5 : ∀ (n : Nat) (i5 : Nat) (n5 : Nat) , 20 - i5 < n → (i5 ≤ 20 ∧ (l0 = n5 + mixN (Fn 10) (Fn 64 b0) i5) ∧ (∀ q : Nat, q < i5 → ¬ l0 < mixN (Fn 10) (Fn 64 b0) (q + 1))) → ∀ ls : Array Slot, lv_has ls 5 [(4, .int (nI i5)), (3, .int (nI n5)), (0, .ref (g 100)), (1, .int (nI b0)), (2, .int (nI l0))] → W p l e (RM 0 0 0) s m ([.ref (g 100), .int (nI b0), .int (nI l0)]).toArray below meth c s.heap [] 0 0 (MQ below (vp_Si (fun r => TWF (fun i => l0 < mixN (Fn 10) (Fn 64 b0) (i + 1)) 20 r)) ([.ref (g 100), .int (nI b0), .int (nI l0)]).toArray s 0 0 (fun _ => False)) (F0 m 5 ls []) := by
    intro n5
    induction n5 with
    | zero => intros; (first | omega | (have zz0 := Hid.u hi_cn; omega))
    | succ n5 ih5 =>
      intro i5 n5 hmu5 hinv5 ls hl
      obtain ⟨hr5, hx5_0, hx5_1⟩ := hinv5
      have ti5 : (nI i5).toInt = (i5 : Int) := nI_toInt (by (first | omega | (have zz0 := Hid.u hi_cn; omega)))
      refine lv_iload hx hb (oc_21 5 (aq_5 shX12_loadAt_0) ub_4) (lvA0 hl) ?_
      refine lv_bipush (v := 20) hx hb (oc_16 7 (aq_7 shX12_loadAt_0) sgb_20) kbc_20 ?_
      refine lv_icmp_ge (tgt := 59) hx hb (oc_162 9 (aq_9 shX12_loadAt_0) sgw_0_50) rfl (fun c_1 => ?_) (fun c_1 => ?_)
      ·
        have tc_1 : (20 : Int) ≤ (nI i5).toInt := Int32.le_iff_toInt_le.mp c_1
        refine lv_iconst (v := (-1)) hx hb (oc_2 59 (aq_9 shX12_loadAt_50)) kic_m1 ?_
        exact W.iret (v := (-1)) hx hb hr (fun t ht hW => ⟨(-1), rfl, (Or.inr ⟨fun q hq => hx5_1 q (by (first | omega | (have zz0 := Hid.u hi_cn; omega))), rfl⟩), ht⟩) (fun _ h => absurd h List.not_mem_nil) (oc_172 60 (aq_10 shX12_loadAt_50))
      ·
        have tc_1 : ((nI i5).toInt : Int) < 20 := Int32.lt_iff_toInt_lt.mp (Int32.not_le.mp c_1)
        refine lv_aload_n hx hb (oc_42 12 (aq_12 shX12_loadAt_0)) rfl (lvA2 hl) ?_
        refine gM_138 S hK hP (v := .ref (g 64)) rfl (oc_180 13 (aq_13 shX12_loadAt_0) uw_0_138) ?_
        refine lv_iload_n hx hb (oc_27 16 (aq_16 shX12_loadAt_0)) rfl (lvA3 hl) ?_
        have kb_1 : b0 < 10 := by (first | omega | (have zz0 := Hid.u hi_cn; omega))
        refine ldM_64 hx hb hK hP (x := ((Fn 64) b0)) (vp_in_nI kb_1 (ltb rfl)) (nI_clamp (Nat.lt_trans kb_1 (ltb rfl))) rfl (oc_46 17 (aq_17 shX12_loadAt_0)) ?_
        refine lv_iload hx hb (oc_21 18 (aq_18 shX12_loadAt_0) ub_4) (lvA0 hl) ?_
        refine lv_ishr hx hb (oc_122 20 (aq_20 shX12_loadAt_0)) ?_
        refine lv_iconst (v := 1) hx hb (oc_4 21 (aq_21 shX12_loadAt_0)) kic_1 ?_
        refine lv_iand hx hb (oc_126 22 (aq_22 shX12_loadAt_0)) ?_
        refine lv_if_ne (tgt := 29) hx hb (oc_154 23 (aq_23 shX12_loadAt_0) sgw_0_6) rfl (fun c_2 => ?_) (fun c_2 => ?_)
        ·
          have tc_2 : (((((Fn 64) b0) >>> ((nI i5) &&& 31)) &&& 1).toInt : Int) ≠ 0 := fun q => c_2 (Int32.toInt_inj.mp q)
          refine lv_iload_n hx hb (oc_29 29 (aq_3 shX12_loadAt_26)) rfl (lvA1 hl) ?_
          refine lv_aload_n hx hb (oc_42 30 (aq_4 shX12_loadAt_26)) rfl (lvA2 hl) ?_
          refine gM_31 S hK hP (v := .ref (g 10)) rfl (oc_180 31 (aq_5 shX12_loadAt_26) uw_0_31) ?_
          refine lv_iload hx hb (oc_21 34 (aq_8 shX12_loadAt_26) ub_4) (lvA0 hl) ?_
          have kb_2 : i5 < 60 := by (first | omega | (have zz0 := Hid.u hi_cn; omega))
          obtain ⟨a_3, ha_3, ea_3⟩ := hI.e10 i5 (by (first | omega | (have zz0 := Hid.u hi_cn; omega)))
          refine ldM_10 hx hb hK hP (x := (nI a_3)) (vp_in_nI kb_2 (ltb rfl)) (nI_clamp (Nat.lt_trans kb_2 (ltb rfl))) ea_3 (oc_46 36 (aq_10 shX12_loadAt_26)) ?_
          have : (nI n5).toInt = ((n5 : Nat) : Int) := nI_toInt (by (first | omega | (have zz0 := Hid.u hi_cn; omega)))
          have : (nI a_3).toInt = ((a_3 : Nat) : Int) := nI_toInt (by (first | omega | (have zz0 := Hid.u hi_cn; omega)))
          refine lv_icmp_ge (tgt := 43) hx hb (oc_162 37 (aq_11 shX12_loadAt_26) sgw_0_6) rfl (fun c_4 => ?_) (fun c_4 => ?_)
          ·
            have tc_4 : ((nI a_3).toInt : Int) ≤ (nI n5).toInt := Int32.le_iff_toInt_le.mp c_4
            refine lv_iload_n hx hb (oc_29 43 (aq_17 shX12_loadAt_26)) rfl (lvA1 hl) ?_
            refine lv_aload_n hx hb (oc_42 44 (aq_18 shX12_loadAt_26)) rfl (lvA2 hl) ?_
            refine gM_31 S hK hP (v := .ref (g 10)) rfl (oc_180 45 (aq_19 shX12_loadAt_26) uw_0_31) ?_
            refine lv_iload hx hb (oc_21 48 (aq_22 shX12_loadAt_26) ub_4) (lvA0 hl) ?_
            refine ldM_10 hx hb hK hP (x := (nI a_3)) (vp_in_nI kb_2 (ltb rfl)) (nI_clamp (Nat.lt_trans kb_2 (ltb rfl))) ea_3 (oc_46 50 shX12_loadAt_50) ?_
            refine lv_isub hx hb (oc_100 51 (aq_1 shX12_loadAt_50)) ?_
            refine lv_topi (fun y_5 ey_5 => ?_)
            obtain rfl : y_5 = (nI (n5 - a_3)) := ey_5.trans (nI_sub (by (first | omega | (have zz0 := Hid.u hi_cn; omega))))
            refine lv_istore_n (lv' := [(3, .int (nI (n5 - a_3))), (4, .int (nI i5)), (0, .ref (g 100)), (1, .int (nI b0)), (2, .int (nI l0))]) hx hb (oc_62 52 (aq_2 shX12_loadAt_50)) rfl hl (ltb rfl) rfl (fun ls hl => ?_)
            refine lv_iinc (v := (nI (i5 + 1))) (lv' := [(4, .int (nI (i5 + 1))), (3, .int (nI (n5 - a_3))), (0, .ref (g 100)), (1, .int (nI b0)), (2, .int (nI l0))]) hx hb dX12_loadAt_53 hl (k := 1) rfl (nI_1 _) (ltb rfl) rfl (fun ls hl => ?_)
            refine lv_goto (tgt := 5) hx hb dX12_loadAt_56 rfl ?_
            exact ih5 (i5 + 1) (n5 - a_3) (by (first | omega | (have zz0 := Hid.u hi_cn; omega))) ⟨(by (first | omega | (have zz0 := Hid.u hi_cn; omega))), (by first | (rw [mixN_0 (by assumption)]; (first | omega | (have zz0 := Hid.u hi_cn; omega))) | (rw [mixN_1 (by assumption) (by assumption) (by (first | omega | (have zz0 := Hid.u hi_cn; omega)))]; (first | omega | (have zz0 := Hid.u hi_cn; omega)))), (fun q h9 => if q9 : q < i5 then hx5_1 q q9 else (by have e9 : q = i5 := (by (first | omega | (have zz0 := Hid.u hi_cn; omega))); rw [e9]; first | (rw [mixN_0 (by assumption)]; (first | omega | (have zz0 := Hid.u hi_cn; omega))) | (rw [mixN_1 (by assumption) (by assumption) (by (first | omega | (have zz0 := Hid.u hi_cn; omega)))]; (first | omega | (have zz0 := Hid.u hi_cn; omega)))))⟩ ls (lv_sub hl [0, 1, 2, 3, 4] rfl)
          ·
            have tc_4 : ((nI n5).toInt : Int) < (nI a_3).toInt := Int32.lt_iff_toInt_lt.mp (Int32.not_le.mp c_4)
            refine lv_iload hx hb (oc_21 40 (aq_14 shX12_loadAt_26) ub_4) (lvA0 hl) ?_
            exact W.iret (v := (nI i5)) hx hb hr (fun t ht hW => ⟨(nI i5), rfl, (Or.inl ⟨i5, by (first | omega | (have zz0 := Hid.u hi_cn; omega)), (by show l0 < mixN (Fn 10) (Fn 64 b0) (i5 + 1); rw [mixN_1 (by assumption) (by assumption) (by (first | omega | (have zz0 := Hid.u hi_cn; omega)))]; (first | omega | (have zz0 := Hid.u hi_cn; omega))), hx5_1, rfl⟩), ht⟩) (fun _ h => absurd h List.not_mem_nil) (oc_172 42 (aq_16 shX12_loadAt_26))
        ·
          have tc_2 : (((((Fn 64) b0) >>> ((nI i5) &&& 31)) &&& 1).toInt : Int) = 0 := congrArg Int32.toInt c_2
          refine lv_goto (tgt := 53) hx hb (oc_167 26 shX12_loadAt_26 sgw_0_27) rfl ?_
          refine lv_iinc (v := (nI (i5 + 1))) (lv' := [(4, .int (nI (i5 + 1))), (3, .int (nI n5)), (0, .ref (g 100)), (1, .int (nI b0)), (2, .int (nI l0))]) hx hb dX12_loadAt_53 hl (k := 0) rfl (nI_1 _) (ltb rfl) rfl (fun ls hl => ?_)
          refine lv_goto (tgt := 5) hx hb dX12_loadAt_56 rfl ?_
          exact ih5 (i5 + 1) n5 (by (first | omega | (have zz0 := Hid.u hi_cn; omega))) ⟨(by (first | omega | (have zz0 := Hid.u hi_cn; omega))), (by first | (rw [mixN_0 (by assumption)]; (first | omega | (have zz0 := Hid.u hi_cn; omega))) | (rw [mixN_1 (by assumption) (by assumption) (by (first | omega | (have zz0 := Hid.u hi_cn; omega)))]; (first | omega | (have zz0 := Hid.u hi_cn; omega)))), (fun q h9 => if q9 : q < i5 then hx5_1 q q9 else (by have e9 : q = i5 := (by (first | omega | (have zz0 := Hid.u hi_cn; omega))); rw [e9]; first | (rw [mixN_0 (by assumption)]; (first | omega | (have zz0 := Hid.u hi_cn; omega))) | (rw [mixN_1 (by assumption) (by assumption) (by (first | omega | (have zz0 := Hid.u hi_cn; omega)))]; (first | omega | (have zz0 := Hid.u hi_cn; omega)))))⟩ ls (lv_sub hl [0, 1, 2, 3, 4] rfl)
  exact lp_5 _ 0 l0 (Nat.lt_succ_self _) ⟨(by (first | omega | (have zz0 := Hid.u hi_cn; omega))), rfl, (fun q h9 => absurd h9 (Nat.not_lt_zero q))⟩ ls (lv_sub hl [0, 1, 2, 3, 4] rfl)
set_option maxRecDepth 100000 in
set_option maxHeartbeats 4000000 in
theorem q_whence9 (l : Launch) (D : va_G) (cI cB cZ : ClassId) (g : Nat → Nat) (cn : Nat → Nat) (In : Nat → Int32) (Fn : Nat → Nat → Int32) (v0 v1 : Int32) (sz : Nat) (hI : IM cn Fn) : Met l yX12_whence (CWS yX12_whence cX12_whence 3 (some .int)) (RM 2 0 0) (PBw [.ref (g 100), .int v0, .int v1] D cI cB cZ (wM cI cB cZ g cn In Fn) sz) (va_Qi (fun (r : Int32) (u : (Nat → Nat) × (Nat → Int32) × (Nat → Nat → Int32)) => (fun r c2 I2 F2 => Fr [] [71, 72, 73] [] cn In Fn c2 I2 F2 ∧ IM c2 F2 ∧ (((0 ≤ v0.toInt ∧ v0.toInt < (cn 62 : Int) ∧ 0 ≤ v1.toInt ∧ v1.toInt < ((mixN (Fn 10) (Fn 64 v0.toInt.toNat) 20 : Nat) : Int)) ∧ TWF (fun i => v1.toInt.toNat < mixN (Fn 10) (Fn 64 v0.toInt.toNat) (i + 1)) 20 r) ∨ (¬ (0 ≤ v0.toInt ∧ v0.toInt < (cn 62 : Int) ∧ 0 ≤ v1.toInt ∧ v1.toInt < ((mixN (Fn 10) (Fn 64 v0.toInt.toNat) 20 : Nat) : Int)) ∧ r = -1))) r u.1 u.2.1 u.2.2) (fun (u : (Nat → Nat) × (Nat → Int32) × (Nat → Nat → Int32)) (t : State) => va_P D vwCl (wM cI cB cZ g u.1 u.2.1 u.2.2) t.heap ∧ va_D (va_A (wM cI cB cZ g cn In Fn) sz) (wM cI cB cZ g u.1 u.2.1 u.2.2)) (va_A (wM cI cB cZ g cn In Fn) sz)) 0 0 (va_A (wM cI cB cZ g cn In Fn) sz) := by
  refine en_w (fun A => (va_Qi (fun (r : Int32) (u : (Nat → Nat) × (Nat → Int32) × (Nat → Nat → Int32)) => (fun (r : Int32) (c2 : Nat → Nat) (I2 : Nat → Int32) (F2 : Nat → Nat → Int32) => Fr [] [71, 72, 73] [] cn In Fn c2 I2 F2 ∧ IM c2 F2 ∧ (((0 ≤ v0.toInt ∧ v0.toInt < (cn 62 : Int) ∧ 0 ≤ v1.toInt ∧ v1.toInt < ((mixN (Fn 10) (Fn 64 v0.toInt.toNat) 20 : Nat) : Int)) ∧ TWF (fun i => v1.toInt.toNat < mixN (Fn 10) (Fn 64 v0.toInt.toNat) (i + 1)) 20 r) ∨ (¬ (0 ≤ v0.toInt ∧ v0.toInt < (cn 62 : Int) ∧ 0 ≤ v1.toInt ∧ v1.toInt < ((mixN (Fn 10) (Fn 64 v0.toInt.toNat) 20 : Nat) : Int)) ∧ r = -1))) r u.1 u.2.1 u.2.2) (fun (u : (Nat → Nat) × (Nat → Int32) × (Nat → Nat → Int32)) (t : State) => va_P D vwCl (wM cI cB cZ g u.1 u.2.1 u.2.2) t.heap ∧ va_D A (wM cI cB cZ g u.1 u.2.1 u.2.2)) A)) rfl rfl pn_RX12 (Nat.le_of_ble_eq_true rfl) (fun p e s m below meth c A hx hb hml hown S hr hlocks hnm hA hP hK hD hS ls hl => ?_)
  have hl : lv_has ls 3 [(0, .ref (g 100)), (1, .int v0), (2, .int v1)] := hl
  have hi_cn : Hid (CB cn) := hI.b
  refine lv_aload_n hx hb (oc_42 0 shX12_whence_0) rfl (lvA0 hl) ?_
  refine lv_iload_n hx hb (oc_27 1 (aq_1 shX12_whence_0)) rfl (lvA1 hl) ?_
  refine vp_callSi (runV_ra (As := [.int v0]) (rest := []) S (q_isBatch l D cI cB cZ g cn In Fn v0 hI) kV_RX12_450 hK hP 0 rfl rfl rfl ⟨Nat.le_of_ble_eq_true rfl, Nat.le_of_ble_eq_true rfl⟩ ⟨Nat.le_of_ble_eq_true rfl, Nat.le_of_ble_eq_true rfl⟩ rfl hl.1 rfl (Nat.le_of_ble_eq_true rfl) (oc_182 2 (aq_2 shX12_whence_0) uw_1_194)) (fun r_1 h_2 => ?_)
  rcases h_2 with ⟨rfl, h_2⟩ | ⟨rfl, h_2⟩
  ·
    have h_2 : 0 ≤ v0.toInt ∧ v0.toInt < ((cn 62) : Int) := h_2
    refine lv_if_eq (tgt := 32) hx hb dX12_whence_5 rfl (fun h => absurd h cq_eq_1_0) (fun _ => ?_)
    obtain ⟨d0, hd0, rfl⟩ := nI_of (x := v0) (fun q => by have := Int32.lt_iff_toInt_lt.mp q; have e : (0 : Int32).toInt = 0 := rfl; (first | omega | (have zz0 := Hid.u hi_cn; omega)))
    have td0 : (nI d0).toInt = (d0 : Int) := nI_toInt hd0
    have zd0 : (nI d0).toInt.toNat = d0 := by (first | omega | (have zz0 := Hid.u hi_cn; omega))
    refine lv_iload_n hx hb (oc_28 8 (aq_8 shX12_whence_0)) rfl (lvA2 hl) ?_
    refine lv_iconst (v := 0) hx hb (oc_3 9 (aq_9 shX12_whence_0)) kic_0 ?_
    refine lv_aload_n hx hb (oc_42 10 (aq_10 shX12_whence_0)) rfl (lvA0 hl) ?_
    refine lv_iload_n hx hb (oc_27 11 (aq_11 shX12_whence_0)) rfl (lvA1 hl) ?_
    have hFc := free_all hD hS hA
    refine va_calli (runV_a (As := [.int (nI d0)]) (rest := [.int 0, .int v1]) S (q_litresOf l D cI cB cZ g cn In Fn d0 s.heap.size hI (by (first | omega | (have zz0 := Hid.u hi_cn; omega)))) kV_RX12_444 hK hP hD 0 rfl rfl rfl ⟨Nat.le_of_ble_eq_true rfl, Nat.le_of_ble_eq_true rfl⟩ ⟨Nat.le_of_ble_eq_true rfl, Nat.le_of_ble_eq_true rfl⟩ rfl hl.1 rfl (Nat.le_of_ble_eq_true rfl) (oc_182 12 (aq_12 shX12_whence_0) uw_1_188)) hS (fun q _ h => hFc q h) hFc (fun r_3 u t H1 locs ht hvm wh_4 hB hz1 hk1 hS => ?_)
    obtain ⟨cn4, In4, Fn4⟩ := u
    obtain ⟨hP1, hD1⟩ := hB
    rw [ht] at hP1
    have hP : va_P D vwCl (wM cI cB cZ g cn4 In4 Fn4) H1 := hP1
    have hD : va_D A (wM cI cB cZ g cn4 In4 Fn4) := hD1.weaken (fun _ _ _ h => hFc _ h)
    generalize H1 = H at hP hS ⊢
    have vh_4 : (fun r c2 I2 F2 => Fr [] [71, 72, 73] [] cn In Fn c2 I2 F2 ∧ IM c2 F2 ∧ (r = nI (mixN ((Fn 10)) ((Fn 64) d0) 20))) r_3 cn4 In4 Fn4 := wh_4
    obtain ⟨hfc4, hIn4, h_4⟩ := vh_4
    obtain rfl : cn = cn4 := (funext (fun k => hfc4.1 k List.not_mem_nil)).symm
    obtain rfl : Fn = Fn4 := (funext (fun k => hfc4.2.2 k List.not_mem_nil)).symm
    have hf4 : Fr [] [71, 72, 73] [] cn In Fn cn In4 Fn := Fr.mo (Fr.tr (Fr.rf (cn := cn) (In := In) (Fn := Fn)) hfc4) (sbl rfl) (sbl rfl) (sbl rfl)
    have hi_cn : Hid (CB cn) := hIn4.b
    subst h_4
    have tm9 := nI_mt (c := mixN (Fn 10) (Fn 64 d0) 20) (by have := IM.mx hI (Fn 64 d0); (first | omega | (have zz0 := Hid.u hi_cn; omega)))
    refine lv_iconst (v := 1) hx hb (oc_4 15 (aq_15 shX12_whence_0)) kic_1 ?_
    refine lv_isub hx hb (oc_100 16 (aq_16 shX12_whence_0)) ?_
    refine vp_callSi (runS_r (As := [.int v1, .int 0, .int ((nI (mixN ((Fn 10)) ((Fn 64) d0) 20)) - 1)]) (rest := []) S (q_in l D cI cB cZ v1 0 ((nI (mixN ((Fn 10)) ((Fn 64) d0) 20)) - 1) ) kS_RX12_214 hK hP [] rfl ⟨Nat.le_of_ble_eq_true rfl, Nat.le_of_ble_eq_true rfl⟩ ⟨Nat.le_of_ble_eq_true rfl, Nat.le_of_ble_eq_true rfl⟩ rfl hl.1 rfl (Nat.le_of_ble_eq_true rfl) (oc_184 17 (aq_17 shX12_whence_0) uw_0_214)) (fun r_5 h_6 => ?_)
    rcases h_6 with ⟨rfl, h_6⟩ | ⟨rfl, h_6⟩
    ·
      have h_6 : 0 ≤ v1.toInt ∧ v1.toInt ≤ ((nI (mixN ((Fn 10)) ((Fn 64) d0) 20)) - 1).toInt := h_6
      refine lv_if_eq (tgt := 32) hx hb dX12_whence_20 rfl (fun h => absurd h cq_eq_1_0) (fun _ => ?_)
      obtain ⟨d1, hd1, rfl⟩ := nI_of (x := v1) (fun q => by have := Int32.lt_iff_toInt_lt.mp q; have e : (0 : Int32).toInt = 0 := rfl; (first | omega | (have zz0 := Hid.u hi_cn; omega)))
      have td1 : (nI d1).toInt = (d1 : Int) := nI_toInt hd1
      have zd1 : (nI d1).toInt.toNat = d1 := by (first | omega | (have zz0 := Hid.u hi_cn; omega))
      refine lv_aload_n hx hb (oc_42 23 (aq_23 shX12_whence_0)) rfl (lvA0 hl) ?_
      refine lv_iload_n hx hb (oc_27 24 shX12_whence_24) rfl (lvA1 hl) ?_
      refine lv_iload_n hx hb (oc_28 25 (aq_1 shX12_whence_24)) rfl (lvA2 hl) ?_
      refine vp_callSi (runV_ra (As := [.int (nI d0), .int (nI d1)]) (rest := []) S (q_loadAt9 l D cI cB cZ g cn In4 Fn d0 d1 hIn4 (by (first | omega | (have zz0 := Hid.u hi_cn; omega))) (by (first | omega | (have zz0 := Hid.u hi_cn; omega)))) kV_RX12_456 hK hP 0 rfl rfl rfl ⟨Nat.le_of_ble_eq_true rfl, Nat.le_of_ble_eq_true rfl⟩ ⟨Nat.le_of_ble_eq_true rfl, Nat.le_of_ble_eq_true rfl⟩ rfl hl.1 rfl (Nat.le_of_ble_eq_true rfl) (oc_182 26 (aq_2 shX12_whence_24) uw_1_200)) (fun r_7 h_8 => ?_)
      refine lv_goto (tgt := 33) hx hb (oc_167 29 (aq_5 shX12_whence_24) sgw_0_4) rfl ?_
      exact W.iret (v := r_7) hx hb hr (fun t ht hW => ⟨⟨r_7, (cn, In4, Fn), rfl, ⟨(Fr.mo hf4 (sbl rfl) (sbl rfl) (sbl rfl)), hIn4, (by show ((0 ≤ (nI d0).toInt ∧ (nI d0).toInt < (cn 62 : Int) ∧ 0 ≤ (nI d1).toInt ∧ (nI d1).toInt < ((mixN (Fn 10) (Fn 64 (nI d0).toInt.toNat) 20 : Nat) : Int)) ∧ TWF (fun i => (nI d1).toInt.toNat < mixN (Fn 10) (Fn 64 (nI d0).toInt.toNat) (i + 1)) 20 r_7) ∨ (¬ (0 ≤ (nI d0).toInt ∧ (nI d0).toInt < (cn 62 : Int) ∧ 0 ≤ (nI d1).toInt ∧ (nI d1).toInt < ((mixN (Fn 10) (Fn 64 (nI d0).toInt.toNat) 20 : Nat) : Int)) ∧ r_7 = -1); exact Or.inl ⟨by simp only [zd0]; (first | omega | (have zz0 := Hid.u hi_cn; omega)), by simp only [zd0, zd1]; exact h_8⟩)⟩, by rw [ht]; exact hP, hD⟩, hS.F ht⟩) hS.2.2 dX12_whence_33
    ·
      have h_6 : ¬ (0 ≤ v1.toInt ∧ v1.toInt ≤ ((nI (mixN ((Fn 10)) ((Fn 64) d0) 20)) - 1).toInt) := h_6
      refine lv_if_eq (tgt := 32) hx hb dX12_whence_20 rfl (fun _ => ?_) (fun h => absurd h cq_eq_0_0)
      refine lv_iconst (v := (-1)) hx hb dX12_whence_32 kic_m1 ?_
      exact W.iret (v := (-1)) hx hb hr (fun t ht hW => ⟨⟨(-1), (cn, In4, Fn), rfl, ⟨(Fr.mo hf4 (sbl rfl) (sbl rfl) (sbl rfl)), hIn4, (by show ((0 ≤ (nI d0).toInt ∧ (nI d0).toInt < (cn 62 : Int) ∧ 0 ≤ v1.toInt ∧ v1.toInt < ((mixN (Fn 10) (Fn 64 (nI d0).toInt.toNat) 20 : Nat) : Int)) ∧ TWF (fun i => v1.toInt.toNat < mixN (Fn 10) (Fn 64 (nI d0).toInt.toNat) (i + 1)) 20 (-1)) ∨ (¬ (0 ≤ (nI d0).toInt ∧ (nI d0).toInt < (cn 62 : Int) ∧ 0 ≤ v1.toInt ∧ v1.toInt < ((mixN (Fn 10) (Fn 64 (nI d0).toInt.toNat) 20 : Nat) : Int)) ∧ (-1) = -1); exact Or.inr ⟨fun w9 => by first | (first | omega | (have zz0 := Hid.u hi_cn; omega)) | (simp only [zd0] at w9; (first | omega | (have zz0 := Hid.u hi_cn; omega))), rfl⟩)⟩, by rw [ht]; exact hP, hD⟩, hS.F ht⟩) hS.2.2 dX12_whence_33
  ·
    have h_2 : ¬ (0 ≤ v0.toInt ∧ v0.toInt < ((cn 62) : Int)) := h_2
    refine lv_if_eq (tgt := 32) hx hb dX12_whence_5 rfl (fun _ => ?_) (fun h => absurd h cq_eq_0_0)
    refine lv_iconst (v := (-1)) hx hb dX12_whence_32 kic_m1 ?_
    exact W.iret (v := (-1)) hx hb hr (fun t ht hW => ⟨⟨(-1), (cn, In, Fn), rfl, ⟨(Fr.mo Fr.rf (sbl rfl) (sbl rfl) (sbl rfl)), hI, (by show ((0 ≤ v0.toInt ∧ v0.toInt < (cn 62 : Int) ∧ 0 ≤ v1.toInt ∧ v1.toInt < ((mixN (Fn 10) (Fn 64 v0.toInt.toNat) 20 : Nat) : Int)) ∧ TWF (fun i => v1.toInt.toNat < mixN (Fn 10) (Fn 64 v0.toInt.toNat) (i + 1)) 20 (-1)) ∨ (¬ (0 ≤ v0.toInt ∧ v0.toInt < (cn 62 : Int) ∧ 0 ≤ v1.toInt ∧ v1.toInt < ((mixN (Fn 10) (Fn 64 v0.toInt.toNat) 20 : Nat) : Int)) ∧ (-1) = -1); exact Or.inr ⟨fun w9 => by first | (first | omega | (have zz0 := Hid.u hi_cn; omega)) | (simp only [zd0] at w9; (first | omega | (have zz0 := Hid.u hi_cn; omega))), rfl⟩)⟩, by rw [ht]; exact hP, hD⟩, hS.F ht⟩) hS.2.2 dX12_whence_33
