theorem cq_eq_1_0 : ¬((1 : Int32) = 0) := by decide
theorem cq_eq_0_0 : ¬¬((0 : Int32) = 0) := by decide

set_option maxRecDepth 100000 in
set_option maxHeartbeats 4000000 in
theorem q_in (l : Launch) (D : va_G) (cI cB cZ : ClassId) (v0 v1 v2 : Int32)  : Met l yX12_in (CWS yX12_in cX12_in 3 (some .boolean)) (RM 0 0 0) (PBr [.int v0, .int v1, .int v2] D cI cB cZ []) (vp_Si (fun r => (r = 1 ∧ (v1.toInt ≤ v0.toInt ∧ v0.toInt ≤ v2.toInt)) ∨ (r = 0 ∧ ¬ (v1.toInt ≤ v0.toInt ∧ v0.toInt ≤ v2.toInt)))) 0 0 (fun _ => False) := by
  refine en_r rfl pn_RX12 (Nat.le_of_ble_eq_true rfl) (fun p e s m below meth c hx hb hml hown S hr hlocks hnm hP hK hS ls hl => ?_)
  have hl : lv_has ls 3 [(0, .int v0), (1, .int v1), (2, .int v2)] := hl
  refine lv_iload_n hx hb (oc_26 0 shX12_in_0) rfl (lvA0 hl) ?_
  refine lv_iload_n hx hb (oc_27 1 (aq_1 shX12_in_0)) rfl (lvA1 hl) ?_
  refine lv_icmp_lt (tgt := 14) hx hb (oc_161 2 (aq_2 shX12_in_0) sgw_0_12) rfl (fun c_1 => ?_) (fun c_1 => ?_)
  ·
    have tc_1 : (v0.toInt : Int) < v1.toInt := Int32.lt_iff_toInt_lt.mp c_1
    refine lv_iconst (v := 0) hx hb (oc_3 14 (aq_14 shX12_in_0)) kic_0 ?_
    exact W.zret (v := 0) hx hb hr rfl (fun t ht hW => ⟨0, rfl, (Or.inr ⟨rfl, by omega⟩), ht⟩) (fun _ h => absurd h List.not_mem_nil) (oc_172 15 (aq_15 shX12_in_0))
  ·
    have tc_1 : (v1.toInt : Int) ≤ v0.toInt := Int32.le_iff_toInt_le.mp (Int32.not_lt.mp c_1)
    refine lv_iload_n hx hb (oc_26 5 (aq_5 shX12_in_0)) rfl (lvA0 hl) ?_
    refine lv_iload_n hx hb (oc_28 6 (aq_6 shX12_in_0)) rfl (lvA2 hl) ?_
    refine lv_icmp_gt (tgt := 14) hx hb (oc_163 7 (aq_7 shX12_in_0) sgw_0_7) rfl (fun c_2 => ?_) (fun c_2 => ?_)
    ·
      have tc_2 : (v2.toInt : Int) < v0.toInt := Int32.lt_iff_toInt_lt.mp c_2
      refine lv_iconst (v := 0) hx hb (oc_3 14 (aq_14 shX12_in_0)) kic_0 ?_
      exact W.zret (v := 0) hx hb hr rfl (fun t ht hW => ⟨0, rfl, (Or.inr ⟨rfl, by omega⟩), ht⟩) (fun _ h => absurd h List.not_mem_nil) (oc_172 15 (aq_15 shX12_in_0))
    ·
      have tc_2 : (v0.toInt : Int) ≤ v2.toInt := Int32.le_iff_toInt_le.mp (Int32.not_lt.mp c_2)
      refine lv_iconst (v := 1) hx hb (oc_4 10 (aq_10 shX12_in_0)) kic_1 ?_
      refine lv_goto (tgt := 15) hx hb (oc_167 11 (aq_11 shX12_in_0) sgw_0_4) rfl ?_
      exact W.zret (v := 1) hx hb hr rfl (fun t ht hW => ⟨1, rfl, (Or.inl ⟨rfl, by omega⟩), ht⟩) (fun _ h => absurd h List.not_mem_nil) (oc_172 15 (aq_15 shX12_in_0))
set_option maxRecDepth 100000 in
set_option maxHeartbeats 4000000 in
theorem q_isDay (l : Launch) (D : va_G) (cI cB cZ : ClassId) (v0 : Int32)  : Met l yX12_isDay (CWS yX12_isDay cX12_isDay 1 (some .boolean)) (RM 0 0 0) (PBr [.int v0] D cI cB cZ []) (vp_Si (fun r => (r = 1 ∧ (0 ≤ v0.toInt ∧ v0.toInt ≤ 399)) ∨ (r = 0 ∧ ¬ (0 ≤ v0.toInt ∧ v0.toInt ≤ 399)))) 0 0 (fun _ => False) := by
  refine en_r rfl pn_RX12 (Nat.le_of_ble_eq_true rfl) (fun p e s m below meth c hx hb hml hown S hr hlocks hnm hP hK hS ls hl => ?_)
  have hl : lv_has ls 1 [(0, .int v0)] := hl
  refine lv_iload_n hx hb (oc_26 0 shX12_isDay_0) rfl (lvA0 hl) ?_
  refine lv_if_lt (tgt := 15) hx hb (oc_155 1 (aq_1 shX12_isDay_0) sgw_0_14) rfl (fun c_1 => ?_) (fun c_1 => ?_)
  ·
    have tc_1 : (v0.toInt : Int) < 0 := Int32.lt_iff_toInt_lt.mp c_1
    refine lv_iconst (v := 0) hx hb (oc_3 15 (aq_15 shX12_isDay_0)) kic_0 ?_
    exact W.zret (v := 0) hx hb hr rfl (fun t ht hW => ⟨0, rfl, (Or.inr ⟨rfl, by omega⟩), ht⟩) (fun _ h => absurd h List.not_mem_nil) (oc_172 16 (aq_16 shX12_isDay_0))
  ·
    have tc_1 : (0 : Int) ≤ v0.toInt := Int32.le_iff_toInt_le.mp (Int32.not_lt.mp c_1)
    refine lv_iload_n hx hb (oc_26 4 (aq_4 shX12_isDay_0)) rfl (lvA0 hl) ?_
    refine lv_sipush (v := 399) hx hb (oc_17 5 (aq_5 shX12_isDay_0) sgw_1_143) (by decide) ?_
    refine lv_icmp_gt (tgt := 15) hx hb (oc_163 8 (aq_8 shX12_isDay_0) sgw_0_7) rfl (fun c_2 => ?_) (fun c_2 => ?_)
    ·
      have tc_2 : (399 : Int) < v0.toInt := Int32.lt_iff_toInt_lt.mp c_2
      refine lv_iconst (v := 0) hx hb (oc_3 15 (aq_15 shX12_isDay_0)) kic_0 ?_
      exact W.zret (v := 0) hx hb hr rfl (fun t ht hW => ⟨0, rfl, (Or.inr ⟨rfl, by omega⟩), ht⟩) (fun _ h => absurd h List.not_mem_nil) (oc_172 16 (aq_16 shX12_isDay_0))
    ·
      have tc_2 : (v0.toInt : Int) ≤ 399 := Int32.le_iff_toInt_le.mp (Int32.not_lt.mp c_2)
      refine lv_iconst (v := 1) hx hb (oc_4 11 (aq_11 shX12_isDay_0)) kic_1 ?_
      refine lv_goto (tgt := 16) hx hb (oc_167 12 (aq_12 shX12_isDay_0) sgw_0_4) rfl ?_
      exact W.zret (v := 1) hx hb hr rfl (fun t ht hW => ⟨1, rfl, (Or.inl ⟨rfl, by omega⟩), ht⟩) (fun _ h => absurd h List.not_mem_nil) (oc_172 16 (aq_16 shX12_isDay_0))
set_option maxRecDepth 100000 in
set_option maxHeartbeats 4000000 in
theorem q_isKitchen (l : Launch) (D : va_G) (cI cB cZ : ClassId) (g : Nat → Nat) (cn : Nat → Nat) (In : Nat → Int32) (Fn : Nat → Nat → Int32) (v0 : Int32) (hI : IM cn Fn) : Met l yX12_isKitchen (CWS yX12_isKitchen cX12_isKitchen 2 (some .boolean)) (RM 0 0 0) (PBr [.ref (g 100), .int v0] D cI cB cZ (wM cI cB cZ g cn In Fn)) (vp_Si (fun r => (r = 1 ∧ (0 ≤ v0.toInt ∧ v0.toInt < (cn 1 : Int))) ∨ (r = 0 ∧ ¬ (0 ≤ v0.toInt ∧ v0.toInt < (cn 1 : Int))))) 0 0 (fun _ => False) := by
  refine en_r rfl pn_RX12 (Nat.le_of_ble_eq_true rfl) (fun p e s m below meth c hx hb hml hown S hr hlocks hnm hP hK hS ls hl => ?_)
  have hl : lv_has ls 2 [(0, .ref (g 100)), (1, .int v0)] := hl
  have hi_cn : Hid (CB cn) := hI.b
  refine lv_iload_n hx hb (oc_27 0 shX12_isKitchen_0) rfl (lvA1 hl) ?_
  refine lv_if_lt (tgt := 16) hx hb (oc_155 1 (aq_1 shX12_isKitchen_0) sgw_0_15) rfl (fun c_1 => ?_) (fun c_1 => ?_)
  ·
    have tc_1 : (v0.toInt : Int) < 0 := Int32.lt_iff_toInt_lt.mp c_1
    refine lv_iconst (v := 0) hx hb (oc_3 16 (aq_16 shX12_isKitchen_0)) kic_0 ?_
    exact W.zret (v := 0) hx hb hr rfl (fun t ht hW => ⟨0, rfl, (Or.inr ⟨rfl, by (first | omega | (have zz0 := Hid.u hi_cn; omega))⟩), ht⟩) (fun _ h => absurd h List.not_mem_nil) (oc_172 17 (aq_17 shX12_isKitchen_0))
  ·
    have tc_1 : (0 : Int) ≤ v0.toInt := Int32.le_iff_toInt_le.mp (Int32.not_lt.mp c_1)
    refine lv_iload_n hx hb (oc_27 4 (aq_4 shX12_isKitchen_0)) rfl (lvA1 hl) ?_
    refine lv_aload_n hx hb (oc_42 5 (aq_5 shX12_isKitchen_0)) rfl (lvA0 hl) ?_
    refine gM_204 S hK hP (v := .int (nI (cn 1))) rfl (oc_180 6 (aq_6 shX12_isKitchen_0) uw_0_204) ?_
    have : (nI (cn 1)).toInt = (((cn 1) : Nat) : Int) := nI_toInt (by (first | omega | (have zz0 := Hid.u hi_cn; omega)))
    refine lv_icmp_ge (tgt := 16) hx hb (oc_162 9 (aq_9 shX12_isKitchen_0) sgw_0_7) rfl (fun c_2 => ?_) (fun c_2 => ?_)
    ·
      have tc_2 : ((nI (cn 1)).toInt : Int) ≤ v0.toInt := Int32.le_iff_toInt_le.mp c_2
      refine lv_iconst (v := 0) hx hb (oc_3 16 (aq_16 shX12_isKitchen_0)) kic_0 ?_
      exact W.zret (v := 0) hx hb hr rfl (fun t ht hW => ⟨0, rfl, (Or.inr ⟨rfl, by (first | omega | (have zz0 := Hid.u hi_cn; omega))⟩), ht⟩) (fun _ h => absurd h List.not_mem_nil) (oc_172 17 (aq_17 shX12_isKitchen_0))
    ·
      have tc_2 : (v0.toInt : Int) < (nI (cn 1)).toInt := Int32.lt_iff_toInt_lt.mp (Int32.not_le.mp c_2)
      refine lv_iconst (v := 1) hx hb (oc_4 12 (aq_12 shX12_isKitchen_0)) kic_1 ?_
      refine lv_goto (tgt := 17) hx hb (oc_167 13 (aq_13 shX12_isKitchen_0) sgw_0_4) rfl ?_
      exact W.zret (v := 1) hx hb hr rfl (fun t ht hW => ⟨1, rfl, (Or.inl ⟨rfl, by (first | omega | (have zz0 := Hid.u hi_cn; omega))⟩), ht⟩) (fun _ h => absurd h List.not_mem_nil) (oc_172 17 (aq_17 shX12_isKitchen_0))
set_option maxRecDepth 100000 in
set_option maxHeartbeats 4000000 in
theorem q_isLoad (l : Launch) (D : va_G) (cI cB cZ : ClassId) (g : Nat → Nat) (cn : Nat → Nat) (In : Nat → Int32) (Fn : Nat → Nat → Int32) (v0 : Int32) (hI : IM cn Fn) : Met l yX12_isLoad (CWS yX12_isLoad cX12_isLoad 2 (some .boolean)) (RM 0 0 0) (PBr [.ref (g 100), .int v0] D cI cB cZ (wM cI cB cZ g cn In Fn)) (vp_Si (fun r => (r = 1 ∧ (0 ≤ v0.toInt ∧ v0.toInt < (cn 2 : Int))) ∨ (r = 0 ∧ ¬ (0 ≤ v0.toInt ∧ v0.toInt < (cn 2 : Int))))) 0 0 (fun _ => False) := by
  refine en_r rfl pn_RX12 (Nat.le_of_ble_eq_true rfl) (fun p e s m below meth c hx hb hml hown S hr hlocks hnm hP hK hS ls hl => ?_)
  have hl : lv_has ls 2 [(0, .ref (g 100)), (1, .int v0)] := hl
  have hi_cn : Hid (CB cn) := hI.b
  refine lv_iload_n hx hb (oc_27 0 shX12_isLoad_0) rfl (lvA1 hl) ?_
  refine lv_if_lt (tgt := 16) hx hb (oc_155 1 (aq_1 shX12_isLoad_0) sgw_0_15) rfl (fun c_1 => ?_) (fun c_1 => ?_)
  ·
    have tc_1 : (v0.toInt : Int) < 0 := Int32.lt_iff_toInt_lt.mp c_1
    refine lv_iconst (v := 0) hx hb (oc_3 16 (aq_16 shX12_isLoad_0)) kic_0 ?_
    exact W.zret (v := 0) hx hb hr rfl (fun t ht hW => ⟨0, rfl, (Or.inr ⟨rfl, by (first | omega | (have zz0 := Hid.u hi_cn; omega))⟩), ht⟩) (fun _ h => absurd h List.not_mem_nil) (oc_172 17 (aq_17 shX12_isLoad_0))
  ·
    have tc_1 : (0 : Int) ≤ v0.toInt := Int32.le_iff_toInt_le.mp (Int32.not_lt.mp c_1)
    refine lv_iload_n hx hb (oc_27 4 (aq_4 shX12_isLoad_0)) rfl (lvA1 hl) ?_
    refine lv_aload_n hx hb (oc_42 5 (aq_5 shX12_isLoad_0)) rfl (lvA0 hl) ?_
    refine gM_208 S hK hP (v := .int (nI (cn 2))) rfl (oc_180 6 (aq_6 shX12_isLoad_0) uw_0_208) ?_
    have : (nI (cn 2)).toInt = (((cn 2) : Nat) : Int) := nI_toInt (by (first | omega | (have zz0 := Hid.u hi_cn; omega)))
    refine lv_icmp_ge (tgt := 16) hx hb (oc_162 9 (aq_9 shX12_isLoad_0) sgw_0_7) rfl (fun c_2 => ?_) (fun c_2 => ?_)
    ·
      have tc_2 : ((nI (cn 2)).toInt : Int) ≤ v0.toInt := Int32.le_iff_toInt_le.mp c_2
      refine lv_iconst (v := 0) hx hb (oc_3 16 (aq_16 shX12_isLoad_0)) kic_0 ?_
      exact W.zret (v := 0) hx hb hr rfl (fun t ht hW => ⟨0, rfl, (Or.inr ⟨rfl, by (first | omega | (have zz0 := Hid.u hi_cn; omega))⟩), ht⟩) (fun _ h => absurd h List.not_mem_nil) (oc_172 17 (aq_17 shX12_isLoad_0))
    ·
      have tc_2 : (v0.toInt : Int) < (nI (cn 2)).toInt := Int32.lt_iff_toInt_lt.mp (Int32.not_le.mp c_2)
      refine lv_iconst (v := 1) hx hb (oc_4 12 (aq_12 shX12_isLoad_0)) kic_1 ?_
      refine lv_goto (tgt := 17) hx hb (oc_167 13 (aq_13 shX12_isLoad_0) sgw_0_4) rfl ?_
      exact W.zret (v := 1) hx hb hr rfl (fun t ht hW => ⟨1, rfl, (Or.inl ⟨rfl, by (first | omega | (have zz0 := Hid.u hi_cn; omega))⟩), ht⟩) (fun _ h => absurd h List.not_mem_nil) (oc_172 17 (aq_17 shX12_isLoad_0))
set_option maxRecDepth 100000 in
set_option maxHeartbeats 4000000 in
theorem q_isBatch (l : Launch) (D : va_G) (cI cB cZ : ClassId) (g : Nat → Nat) (cn : Nat → Nat) (In : Nat → Int32) (Fn : Nat → Nat → Int32) (v0 : Int32) (hI : IM cn Fn) : Met l yX12_isBatch (CWS yX12_isBatch cX12_isBatch 2 (some .boolean)) (RM 0 0 0) (PBr [.ref (g 100), .int v0] D cI cB cZ (wM cI cB cZ g cn In Fn)) (vp_Si (fun r => (r = 1 ∧ (0 ≤ v0.toInt ∧ v0.toInt < (cn 62 : Int))) ∨ (r = 0 ∧ ¬ (0 ≤ v0.toInt ∧ v0.toInt < (cn 62 : Int))))) 0 0 (fun _ => False) := by
  refine en_r rfl pn_RX12 (Nat.le_of_ble_eq_true rfl) (fun p e s m below meth c hx hb hml hown S hr hlocks hnm hP hK hS ls hl => ?_)
  have hl : lv_has ls 2 [(0, .ref (g 100)), (1, .int v0)] := hl
  have hi_cn : Hid (CB cn) := hI.b
  refine lv_iload_n hx hb (oc_27 0 shX12_isBatch_0) rfl (lvA1 hl) ?_
  refine lv_if_lt (tgt := 16) hx hb (oc_155 1 (aq_1 shX12_isBatch_0) sgw_0_15) rfl (fun c_1 => ?_) (fun c_1 => ?_)
  ·
    have tc_1 : (v0.toInt : Int) < 0 := Int32.lt_iff_toInt_lt.mp c_1
    refine lv_iconst (v := 0) hx hb (oc_3 16 (aq_16 shX12_isBatch_0)) kic_0 ?_
    exact W.zret (v := 0) hx hb hr rfl (fun t ht hW => ⟨0, rfl, (Or.inr ⟨rfl, by (first | omega | (have zz0 := Hid.u hi_cn; omega))⟩), ht⟩) (fun _ h => absurd h List.not_mem_nil) (oc_172 17 (aq_17 shX12_isBatch_0))
  ·
    have tc_1 : (0 : Int) ≤ v0.toInt := Int32.le_iff_toInt_le.mp (Int32.not_lt.mp c_1)
    refine lv_iload_n hx hb (oc_27 4 (aq_4 shX12_isBatch_0)) rfl (lvA1 hl) ?_
    refine lv_aload_n hx hb (oc_42 5 (aq_5 shX12_isBatch_0)) rfl (lvA0 hl) ?_
    refine gM_435 S hK hP (v := .int (nI (cn 62))) rfl (oc_180 6 (aq_6 shX12_isBatch_0) uw_1_179) ?_
    have : (nI (cn 62)).toInt = (((cn 62) : Nat) : Int) := nI_toInt (by (first | omega | (have zz0 := Hid.u hi_cn; omega)))
    refine lv_icmp_ge (tgt := 16) hx hb (oc_162 9 (aq_9 shX12_isBatch_0) sgw_0_7) rfl (fun c_2 => ?_) (fun c_2 => ?_)
    ·
      have tc_2 : ((nI (cn 62)).toInt : Int) ≤ v0.toInt := Int32.le_iff_toInt_le.mp c_2
      refine lv_iconst (v := 0) hx hb (oc_3 16 (aq_16 shX12_isBatch_0)) kic_0 ?_
      exact W.zret (v := 0) hx hb hr rfl (fun t ht hW => ⟨0, rfl, (Or.inr ⟨rfl, by (first | omega | (have zz0 := Hid.u hi_cn; omega))⟩), ht⟩) (fun _ h => absurd h List.not_mem_nil) (oc_172 17 (aq_17 shX12_isBatch_0))
    ·
      have tc_2 : (v0.toInt : Int) < (nI (cn 62)).toInt := Int32.lt_iff_toInt_lt.mp (Int32.not_le.mp c_2)
      refine lv_iconst (v := 1) hx hb (oc_4 12 (aq_12 shX12_isBatch_0)) kic_1 ?_
      refine lv_goto (tgt := 17) hx hb (oc_167 13 (aq_13 shX12_isBatch_0) sgw_0_4) rfl ?_
      exact W.zret (v := 1) hx hb hr rfl (fun t ht hW => ⟨1, rfl, (Or.inl ⟨rfl, by (first | omega | (have zz0 := Hid.u hi_cn; omega))⟩), ht⟩) (fun _ h => absurd h List.not_mem_nil) (oc_172 17 (aq_17 shX12_isBatch_0))
set_option maxRecDepth 100000 in
set_option maxHeartbeats 4000000 in
theorem q_isProof (l : Launch) (D : va_G) (cI cB cZ : ClassId) (g : Nat → Nat) (cn : Nat → Nat) (In : Nat → Int32) (Fn : Nat → Nat → Int32) (v0 : Int32) (hI : IM cn Fn) : Met l yX12_isProof (CWS yX12_isProof cX12_isProof 2 (some .boolean)) (RM 0 0 0) (PBr [.ref (g 100), .int v0] D cI cB cZ (wM cI cB cZ g cn In Fn)) (vp_Si (fun r => (r = 1 ∧ (0 ≤ v0.toInt ∧ v0.toInt < (cn 63 : Int))) ∨ (r = 0 ∧ ¬ (0 ≤ v0.toInt ∧ v0.toInt < (cn 63 : Int))))) 0 0 (fun _ => False) := by
  refine en_r rfl pn_RX12 (Nat.le_of_ble_eq_true rfl) (fun p e s m below meth c hx hb hml hown S hr hlocks hnm hP hK hS ls hl => ?_)
  have hl : lv_has ls 2 [(0, .ref (g 100)), (1, .int v0)] := hl
  have hi_cn : Hid (CB cn) := hI.b
  refine lv_iload_n hx hb (oc_27 0 shX12_isProof_0) rfl (lvA1 hl) ?_
  refine lv_if_lt (tgt := 16) hx hb (oc_155 1 (aq_1 shX12_isProof_0) sgw_0_15) rfl (fun c_1 => ?_) (fun c_1 => ?_)
  ·
    have tc_1 : (v0.toInt : Int) < 0 := Int32.lt_iff_toInt_lt.mp c_1
    refine lv_iconst (v := 0) hx hb (oc_3 16 (aq_16 shX12_isProof_0)) kic_0 ?_
    exact W.zret (v := 0) hx hb hr rfl (fun t ht hW => ⟨0, rfl, (Or.inr ⟨rfl, by (first | omega | (have zz0 := Hid.u hi_cn; omega))⟩), ht⟩) (fun _ h => absurd h List.not_mem_nil) (oc_172 17 (aq_17 shX12_isProof_0))
  ·
    have tc_1 : (0 : Int) ≤ v0.toInt := Int32.le_iff_toInt_le.mp (Int32.not_lt.mp c_1)
    refine lv_iload_n hx hb (oc_27 4 (aq_4 shX12_isProof_0)) rfl (lvA1 hl) ?_
    refine lv_aload_n hx hb (oc_42 5 (aq_5 shX12_isProof_0)) rfl (lvA0 hl) ?_
    refine gM_447 S hK hP (v := .int (nI (cn 63))) rfl (oc_180 6 (aq_6 shX12_isProof_0) uw_1_191) ?_
    have : (nI (cn 63)).toInt = (((cn 63) : Nat) : Int) := nI_toInt (by (first | omega | (have zz0 := Hid.u hi_cn; omega)))
    refine lv_icmp_ge (tgt := 16) hx hb (oc_162 9 (aq_9 shX12_isProof_0) sgw_0_7) rfl (fun c_2 => ?_) (fun c_2 => ?_)
    ·
      have tc_2 : ((nI (cn 63)).toInt : Int) ≤ v0.toInt := Int32.le_iff_toInt_le.mp c_2
      refine lv_iconst (v := 0) hx hb (oc_3 16 (aq_16 shX12_isProof_0)) kic_0 ?_
      exact W.zret (v := 0) hx hb hr rfl (fun t ht hW => ⟨0, rfl, (Or.inr ⟨rfl, by (first | omega | (have zz0 := Hid.u hi_cn; omega))⟩), ht⟩) (fun _ h => absurd h List.not_mem_nil) (oc_172 17 (aq_17 shX12_isProof_0))
    ·
      have tc_2 : (v0.toInt : Int) < (nI (cn 63)).toInt := Int32.lt_iff_toInt_lt.mp (Int32.not_le.mp c_2)
      refine lv_iconst (v := 1) hx hb (oc_4 12 (aq_12 shX12_isProof_0)) kic_1 ?_
      refine lv_goto (tgt := 17) hx hb (oc_167 13 (aq_13 shX12_isProof_0) sgw_0_4) rfl ?_
      exact W.zret (v := 1) hx hb hr rfl (fun t ht hW => ⟨1, rfl, (Or.inl ⟨rfl, by (first | omega | (have zz0 := Hid.u hi_cn; omega))⟩), ht⟩) (fun _ h => absurd h List.not_mem_nil) (oc_172 17 (aq_17 shX12_isProof_0))
set_option maxRecDepth 100000 in
set_option maxHeartbeats 4000000 in
theorem q_isDrum (l : Launch) (D : va_G) (cI cB cZ : ClassId) (g : Nat → Nat) (cn : Nat → Nat) (In : Nat → Int32) (Fn : Nat → Nat → Int32) (v0 : Int32) (hI : IM cn Fn) : Met l yX12_isDrum (CWS yX12_isDrum cX12_isDrum 2 (some .boolean)) (RM 0 0 0) (PBr [.ref (g 100), .int v0] D cI cB cZ (wM cI cB cZ g cn In Fn)) (vp_Si (fun r => (r = 1 ∧ (0 ≤ v0.toInt ∧ v0.toInt < (cn 57 : Int))) ∨ (r = 0 ∧ ¬ (0 ≤ v0.toInt ∧ v0.toInt < (cn 57 : Int))))) 0 0 (fun _ => False) := by
  refine en_r rfl pn_RX12 (Nat.le_of_ble_eq_true rfl) (fun p e s m below meth c hx hb hml hown S hr hlocks hnm hP hK hS ls hl => ?_)
  have hl : lv_has ls 2 [(0, .ref (g 100)), (1, .int v0)] := hl
  have hi_cn : Hid (CB cn) := hI.b
  refine lv_iload_n hx hb (oc_27 0 shX12_isDrum_0) rfl (lvA1 hl) ?_
  refine lv_if_lt (tgt := 16) hx hb (oc_155 1 (aq_1 shX12_isDrum_0) sgw_0_15) rfl (fun c_1 => ?_) (fun c_1 => ?_)
  ·
    have tc_1 : (v0.toInt : Int) < 0 := Int32.lt_iff_toInt_lt.mp c_1
    refine lv_iconst (v := 0) hx hb (oc_3 16 (aq_16 shX12_isDrum_0)) kic_0 ?_
    exact W.zret (v := 0) hx hb hr rfl (fun t ht hW => ⟨0, rfl, (Or.inr ⟨rfl, by (first | omega | (have zz0 := Hid.u hi_cn; omega))⟩), ht⟩) (fun _ h => absurd h List.not_mem_nil) (oc_172 17 (aq_17 shX12_isDrum_0))
  ·
    have tc_1 : (0 : Int) ≤ v0.toInt := Int32.le_iff_toInt_le.mp (Int32.not_lt.mp c_1)
    refine lv_iload_n hx hb (oc_27 4 (aq_4 shX12_isDrum_0)) rfl (lvA1 hl) ?_
    refine lv_aload_n hx hb (oc_42 5 (aq_5 shX12_isDrum_0)) rfl (lvA0 hl) ?_
    refine gM_407 S hK hP (v := .int (nI (cn 57))) rfl (oc_180 6 (aq_6 shX12_isDrum_0) uw_1_151) ?_
    have : (nI (cn 57)).toInt = (((cn 57) : Nat) : Int) := nI_toInt (by (first | omega | (have zz0 := Hid.u hi_cn; omega)))
    refine lv_icmp_ge (tgt := 16) hx hb (oc_162 9 (aq_9 shX12_isDrum_0) sgw_0_7) rfl (fun c_2 => ?_) (fun c_2 => ?_)
    ·
      have tc_2 : ((nI (cn 57)).toInt : Int) ≤ v0.toInt := Int32.le_iff_toInt_le.mp c_2
      refine lv_iconst (v := 0) hx hb (oc_3 16 (aq_16 shX12_isDrum_0)) kic_0 ?_
      exact W.zret (v := 0) hx hb hr rfl (fun t ht hW => ⟨0, rfl, (Or.inr ⟨rfl, by (first | omega | (have zz0 := Hid.u hi_cn; omega))⟩), ht⟩) (fun _ h => absurd h List.not_mem_nil) (oc_172 17 (aq_17 shX12_isDrum_0))
    ·
      have tc_2 : (v0.toInt : Int) < (nI (cn 57)).toInt := Int32.lt_iff_toInt_lt.mp (Int32.not_le.mp c_2)
      refine lv_iconst (v := 1) hx hb (oc_4 12 (aq_12 shX12_isDrum_0)) kic_1 ?_
      refine lv_goto (tgt := 17) hx hb (oc_167 13 (aq_13 shX12_isDrum_0) sgw_0_4) rfl ?_
      exact W.zret (v := 1) hx hb hr rfl (fun t ht hW => ⟨1, rfl, (Or.inl ⟨rfl, by (first | omega | (have zz0 := Hid.u hi_cn; omega))⟩), ht⟩) (fun _ h => absurd h List.not_mem_nil) (oc_172 17 (aq_17 shX12_isDrum_0))
set_option maxRecDepth 100000 in
set_option maxHeartbeats 4000000 in
theorem q_now (l : Launch) (D : va_G) (cI cB cZ : ClassId) (g : Nat → Nat) (cn : Nat → Nat) (In : Nat → Int32) (Fn : Nat → Nat → Int32) (v0 : Int32) (sz : Nat) (hI : IM cn Fn) : Met l yX12_now (CWS yX12_now cX12_now 2 (some .boolean)) (RM 1 0 0) (PBw [.ref (g 100), .int v0] D cI cB cZ (wM cI cB cZ g cn In Fn) sz) (va_Qi (fun (r : Int32) (u : (Nat → Nat) × (Nat → Int32) × (Nat → Nat → Int32)) => (fun r c2 I2 F2 => (((cn 0 : Int) ≤ v0.toInt ∧ v0.toInt ≤ 399) ∧ r = 1 ∧ c2 = va_up cn 0 v0.toInt.toNat ∧ I2 = In ∧ F2 = Fn) ∨ ((¬ ((cn 0 : Int) ≤ v0.toInt ∧ v0.toInt ≤ 399)) ∧ r = 0 ∧ c2 = cn ∧ I2 = In ∧ F2 = Fn)) r u.1 u.2.1 u.2.2) (fun (u : (Nat → Nat) × (Nat → Int32) × (Nat → Nat → Int32)) (t : State) => va_P D vwCl (wM cI cB cZ g u.1 u.2.1 u.2.2) t.heap ∧ va_D (va_A (wM cI cB cZ g cn In Fn) sz) (wM cI cB cZ g u.1 u.2.1 u.2.2)) (va_A (wM cI cB cZ g cn In Fn) sz)) 0 0 (va_A (wM cI cB cZ g cn In Fn) sz) := by
  refine en_w (fun A => (va_Qi (fun (r : Int32) (u : (Nat → Nat) × (Nat → Int32) × (Nat → Nat → Int32)) => (fun (r : Int32) (c2 : Nat → Nat) (I2 : Nat → Int32) (F2 : Nat → Nat → Int32) => (((cn 0 : Int) ≤ v0.toInt ∧ v0.toInt ≤ 399) ∧ r = 1 ∧ c2 = va_up cn 0 v0.toInt.toNat ∧ I2 = In ∧ F2 = Fn) ∨ ((¬ ((cn 0 : Int) ≤ v0.toInt ∧ v0.toInt ≤ 399)) ∧ r = 0 ∧ c2 = cn ∧ I2 = In ∧ F2 = Fn)) r u.1 u.2.1 u.2.2) (fun (u : (Nat → Nat) × (Nat → Int32) × (Nat → Nat → Int32)) (t : State) => va_P D vwCl (wM cI cB cZ g u.1 u.2.1 u.2.2) t.heap ∧ va_D A (wM cI cB cZ g u.1 u.2.1 u.2.2)) A)) rfl rfl pn_RX12 (Nat.le_of_ble_eq_true rfl) (fun p e s m below meth c A hx hb hml hown S hr hlocks hnm hA hP hK hD hS ls hl => ?_)
  have hl : lv_has ls 2 [(0, .ref (g 100)), (1, .int v0)] := hl
  have hi_cn : Hid (CB cn) := hI.b
  refine lv_iload_n hx hb (oc_27 0 shX12_now_0) rfl (lvA1 hl) ?_
  refine lv_aload_n hx hb (oc_42 1 (aq_1 shX12_now_0)) rfl (lvA0 hl) ?_
  refine gM_211 S hK hP (v := .int (nI (cn 0))) rfl (oc_180 2 (aq_2 shX12_now_0) uw_0_211) ?_
  refine lv_sipush (v := 399) hx hb (oc_17 5 (aq_5 shX12_now_0) sgw_1_143) (by decide) ?_
  refine vp_callSi (runS_r (As := [.int v0, .int (nI (cn 0)), .int 399]) (rest := []) S (q_in l D cI cB cZ v0 (nI (cn 0)) 399 ) kS_RX12_214 hK hP [] rfl ⟨Nat.le_of_ble_eq_true rfl, Nat.le_of_ble_eq_true rfl⟩ ⟨Nat.le_of_ble_eq_true rfl, Nat.le_of_ble_eq_true rfl⟩ rfl hl.1 rfl (Nat.le_of_ble_eq_true rfl) (oc_184 8 (aq_8 shX12_now_0) uw_0_214)) (fun r_1 h_2 => ?_)
  have : (nI (cn 0)).toInt = (((cn 0) : Nat) : Int) := nI_toInt (by (first | omega | (have zz0 := Hid.u hi_cn; omega)))
  rcases h_2 with ⟨rfl, h_2⟩ | ⟨rfl, h_2⟩
  ·
    have h_2 : (nI (cn 0)).toInt ≤ v0.toInt ∧ v0.toInt ≤ 399 := h_2
    refine lv_if_ne (tgt := 16) hx hb (oc_154 11 (aq_11 shX12_now_0) sgw_0_5) rfl (fun _ => ?_) (fun h => absurd h cq_eq_1_0)
    obtain ⟨d0, hd0, rfl⟩ := nI_of (x := v0) (fun q => by have := Int32.lt_iff_toInt_lt.mp q; have e : (0 : Int32).toInt = 0 := rfl; (first | omega | (have zz0 := Hid.u hi_cn; omega)))
    have td0 : (nI d0).toInt = (d0 : Int) := nI_toInt hd0
    have zd0 : (nI d0).toInt.toNat = d0 := by (first | omega | (have zz0 := Hid.u hi_cn; omega))
    refine lv_aload_n hx hb (oc_42 16 (aq_16 shX12_now_0)) rfl (lvA0 hl) ?_
    refine lv_iload_n hx hb (oc_27 17 (aq_17 shX12_now_0)) rfl (lvA1 hl) ?_
    refine pM_211 S hK hP hD hS (a := d0) (cn2 := (va_up cn 0 d0)) rfl rfl (oc_181 18 (aq_18 shX12_now_0) uw_0_211) (fun H locs hP hD hS => ?_)
    refine lv_iconst (v := 1) hx hb (oc_4 21 (aq_21 shX12_now_0)) kic_1 ?_
    exact W.zret (v := 1) hx hb hr rfl (fun t ht hW => ⟨⟨1, ((va_up cn 0 d0), In, Fn), rfl, (Or.inl ⟨by (first | omega | (have zz0 := Hid.u hi_cn; omega)), rfl, by rw [show (nI d0).toInt.toNat = d0 by (first | omega | (have zz0 := Hid.u hi_cn; omega))], rfl, rfl⟩), by rw [ht]; exact hP, hD⟩, hS.F ht⟩) hS.2.2 (oc_172 22 (aq_22 shX12_now_0))
  ·
    have h_2 : ¬ ((nI (cn 0)).toInt ≤ v0.toInt ∧ v0.toInt ≤ 399) := h_2
    refine lv_if_ne (tgt := 16) hx hb (oc_154 11 (aq_11 shX12_now_0) sgw_0_5) rfl (fun h => absurd h cq_eq_0_0) (fun _ => ?_)
    refine lv_iconst (v := 0) hx hb (oc_3 14 (aq_14 shX12_now_0)) kic_0 ?_
    exact W.zret (v := 0) hx hb hr rfl (fun t ht hW => ⟨⟨0, (cn, In, Fn), rfl, (Or.inr ⟨by (first | omega | (have zz0 := Hid.u hi_cn; omega)), rfl, rfl, rfl, rfl⟩), by rw [ht]; exact hP, hD⟩, hS.F ht⟩) hS.2.2 (oc_172 15 (aq_15 shX12_now_0))
set_option maxRecDepth 100000 in
set_option maxHeartbeats 4000000 in
theorem q_kitchen (l : Launch) (D : va_G) (cI cB cZ : ClassId) (g : Nat → Nat) (cn : Nat → Nat) (In : Nat → Int32) (Fn : Nat → Nat → Int32) (v0 v1 v2 v3 : Int32) (sz : Nat) (hI : IM cn Fn) : Met l yX12_kitchen (CWS yX12_kitchen cX12_kitchen 5 (some .int)) (RM 1 0 0) (PBw [.ref (g 100), .int v0, .int v1, .int v2, .int v3] D cI cB cZ (wM cI cB cZ g cn In Fn) sz) (va_Qi (fun (r : Int32) (u : (Nat → Nat) × (Nat → Int32) × (Nat → Nat → Int32)) => (fun r c2 I2 F2 => (((0 ≤ v0.toInt ∧ v0.toInt ≤ 99) ∧ (0 ≤ v1.toInt ∧ v1.toInt ≤ 99) ∧ (0 ≤ v2.toInt ∧ v2.toInt ≤ 50) ∧ (20 ≤ v3.toInt ∧ v3.toInt ≤ 400) ∧ cn 1 < 10) ∧ r = nI (cn 1) ∧ c2 = va_up cn 1 (cn 1 + 1) ∧ I2 = In ∧ F2 = va_up (va_up (va_up (va_up Fn 3 (upd (Fn 3) (cn 1) v0)) 4 (upd (Fn 4) (cn 1) v1)) 5 (upd (Fn 5) (cn 1) v2)) 6 (upd (Fn 6) (cn 1) v3)) ∨ ((¬ ((0 ≤ v0.toInt ∧ v0.toInt ≤ 99) ∧ (0 ≤ v1.toInt ∧ v1.toInt ≤ 99) ∧ (0 ≤ v2.toInt ∧ v2.toInt ≤ 50) ∧ (20 ≤ v3.toInt ∧ v3.toInt ≤ 400) ∧ cn 1 < 10)) ∧ r = -1 ∧ c2 = cn ∧ I2 = In ∧ F2 = Fn)) r u.1 u.2.1 u.2.2) (fun (u : (Nat → Nat) × (Nat → Int32) × (Nat → Nat → Int32)) (t : State) => va_P D vwCl (wM cI cB cZ g u.1 u.2.1 u.2.2) t.heap ∧ va_D (va_A (wM cI cB cZ g cn In Fn) sz) (wM cI cB cZ g u.1 u.2.1 u.2.2)) (va_A (wM cI cB cZ g cn In Fn) sz)) 0 0 (va_A (wM cI cB cZ g cn In Fn) sz) := by
  refine en_w (fun A => (va_Qi (fun (r : Int32) (u : (Nat → Nat) × (Nat → Int32) × (Nat → Nat → Int32)) => (fun (r : Int32) (c2 : Nat → Nat) (I2 : Nat → Int32) (F2 : Nat → Nat → Int32) => (((0 ≤ v0.toInt ∧ v0.toInt ≤ 99) ∧ (0 ≤ v1.toInt ∧ v1.toInt ≤ 99) ∧ (0 ≤ v2.toInt ∧ v2.toInt ≤ 50) ∧ (20 ≤ v3.toInt ∧ v3.toInt ≤ 400) ∧ cn 1 < 10) ∧ r = nI (cn 1) ∧ c2 = va_up cn 1 (cn 1 + 1) ∧ I2 = In ∧ F2 = va_up (va_up (va_up (va_up Fn 3 (upd (Fn 3) (cn 1) v0)) 4 (upd (Fn 4) (cn 1) v1)) 5 (upd (Fn 5) (cn 1) v2)) 6 (upd (Fn 6) (cn 1) v3)) ∨ ((¬ ((0 ≤ v0.toInt ∧ v0.toInt ≤ 99) ∧ (0 ≤ v1.toInt ∧ v1.toInt ≤ 99) ∧ (0 ≤ v2.toInt ∧ v2.toInt ≤ 50) ∧ (20 ≤ v3.toInt ∧ v3.toInt ≤ 400) ∧ cn 1 < 10)) ∧ r = -1 ∧ c2 = cn ∧ I2 = In ∧ F2 = Fn)) r u.1 u.2.1 u.2.2) (fun (u : (Nat → Nat) × (Nat → Int32) × (Nat → Nat → Int32)) (t : State) => va_P D vwCl (wM cI cB cZ g u.1 u.2.1 u.2.2) t.heap ∧ va_D A (wM cI cB cZ g u.1 u.2.1 u.2.2)) A)) rfl rfl pn_RX12 (Nat.le_of_ble_eq_true rfl) (fun p e s m below meth c A hx hb hml hown S hr hlocks hnm hA hP hK hD hS ls hl => ?_)
  have hl : lv_has ls 5 [(0, .ref (g 100)), (1, .int v0), (2, .int v1), (3, .int v2), (4, .int v3)] := hl
  have hi_cn : Hid (CB cn) := hI.b
  refine lv_iload_n hx hb (oc_27 0 shX12_kitchen_0) rfl (lvA1 hl) ?_
  refine lv_iconst (v := 0) hx hb (oc_3 1 (aq_1 shX12_kitchen_0)) kic_0 ?_
  refine lv_bipush (v := 99) hx hb (oc_16 2 (aq_2 shX12_kitchen_0) sgb_99) kbc_99 ?_
  refine vp_callSi (runS_r (As := [.int v0, .int 0, .int 99]) (rest := []) S (q_in l D cI cB cZ v0 0 99 ) kS_RX12_214 hK hP [] rfl ⟨Nat.le_of_ble_eq_true rfl, Nat.le_of_ble_eq_true rfl⟩ ⟨Nat.le_of_ble_eq_true rfl, Nat.le_of_ble_eq_true rfl⟩ rfl hl.1 rfl (Nat.le_of_ble_eq_true rfl) (oc_184 4 (aq_4 shX12_kitchen_0) uw_0_214)) (fun r_1 h_2 => ?_)
  rcases h_2 with ⟨rfl, h_2⟩ | ⟨rfl, h_2⟩
  ·
    have h_2 : 0 ≤ v0.toInt ∧ v0.toInt ≤ 99 := h_2
    refine lv_if_eq (tgt := 52) hx hb (oc_153 7 (aq_7 shX12_kitchen_0) sgw_0_45) rfl (fun h => absurd h cq_eq_1_0) (fun _ => ?_)
    refine lv_iload_n hx hb (oc_28 10 (aq_10 shX12_kitchen_0)) rfl (lvA2 hl) ?_
    refine lv_iconst (v := 0) hx hb (oc_3 11 (aq_11 shX12_kitchen_0)) kic_0 ?_
    refine lv_bipush (v := 99) hx hb (oc_16 12 (aq_12 shX12_kitchen_0) sgb_99) kbc_99 ?_
    refine vp_callSi (runS_r (As := [.int v1, .int 0, .int 99]) (rest := []) S (q_in l D cI cB cZ v1 0 99 ) kS_RX12_214 hK hP [] rfl ⟨Nat.le_of_ble_eq_true rfl, Nat.le_of_ble_eq_true rfl⟩ ⟨Nat.le_of_ble_eq_true rfl, Nat.le_of_ble_eq_true rfl⟩ rfl hl.1 rfl (Nat.le_of_ble_eq_true rfl) (oc_184 14 (aq_14 shX12_kitchen_0) uw_0_214)) (fun r_3 h_4 => ?_)
    rcases h_4 with ⟨rfl, h_4⟩ | ⟨rfl, h_4⟩
    ·
      have h_4 : 0 ≤ v1.toInt ∧ v1.toInt ≤ 99 := h_4
      refine lv_if_eq (tgt := 52) hx hb (oc_153 17 (aq_17 shX12_kitchen_0) sgw_0_35) rfl (fun h => absurd h cq_eq_1_0) (fun _ => ?_)
      refine lv_iload_n hx hb (oc_29 20 (aq_20 shX12_kitchen_0)) rfl (lvA3 hl) ?_
      refine lv_iconst (v := 0) hx hb (oc_3 21 (aq_21 shX12_kitchen_0)) kic_0 ?_
      refine lv_bipush (v := 50) hx hb (oc_16 22 (aq_22 shX12_kitchen_0) sgb_50) kbc_50 ?_
      refine vp_callSi (runS_r (As := [.int v2, .int 0, .int 50]) (rest := []) S (q_in l D cI cB cZ v2 0 50 ) kS_RX12_214 hK hP [] rfl ⟨Nat.le_of_ble_eq_true rfl, Nat.le_of_ble_eq_true rfl⟩ ⟨Nat.le_of_ble_eq_true rfl, Nat.le_of_ble_eq_true rfl⟩ rfl hl.1 rfl (Nat.le_of_ble_eq_true rfl) (oc_184 24 shX12_kitchen_24 uw_0_214)) (fun r_5 h_6 => ?_)
      rcases h_6 with ⟨rfl, h_6⟩ | ⟨rfl, h_6⟩
      ·
        have h_6 : 0 ≤ v2.toInt ∧ v2.toInt ≤ 50 := h_6
        refine lv_if_eq (tgt := 52) hx hb (oc_153 27 (aq_3 shX12_kitchen_24) sgw_0_25) rfl (fun h => absurd h cq_eq_1_0) (fun _ => ?_)
        refine lv_iload hx hb (oc_21 30 (aq_6 shX12_kitchen_24) ub_4) (lvA4 hl) ?_
        refine lv_bipush (v := 20) hx hb (oc_16 32 (aq_8 shX12_kitchen_24) sgb_20) kbc_20 ?_
        refine lv_sipush (v := 400) hx hb (oc_17 34 (aq_10 shX12_kitchen_24) sgw_1_144) (by decide) ?_
        refine vp_callSi (runS_r (As := [.int v3, .int 20, .int 400]) (rest := []) S (q_in l D cI cB cZ v3 20 400 ) kS_RX12_214 hK hP [] rfl ⟨Nat.le_of_ble_eq_true rfl, Nat.le_of_ble_eq_true rfl⟩ ⟨Nat.le_of_ble_eq_true rfl, Nat.le_of_ble_eq_true rfl⟩ rfl hl.1 rfl (Nat.le_of_ble_eq_true rfl) (oc_184 37 (aq_13 shX12_kitchen_24) uw_0_214)) (fun r_7 h_8 => ?_)
        rcases h_8 with ⟨rfl, h_8⟩ | ⟨rfl, h_8⟩
        ·
          have h_8 : 20 ≤ v3.toInt ∧ v3.toInt ≤ 400 := h_8
          refine lv_if_eq (tgt := 52) hx hb (oc_153 40 (aq_16 shX12_kitchen_24) sgw_0_12) rfl (fun h => absurd h cq_eq_1_0) (fun _ => ?_)
          refine lv_aload_n hx hb (oc_42 43 (aq_19 shX12_kitchen_24)) rfl (lvA0 hl) ?_
          refine gM_204 S hK hP (v := .int (nI (cn 1))) rfl (oc_180 44 (aq_20 shX12_kitchen_24) uw_0_204) ?_
          refine lv_bipush (v := 10) hx hb (oc_16 47 (aq_23 shX12_kitchen_24) sgb_10) kbc_10 ?_
          have : (nI (cn 1)).toInt = (((cn 1) : Nat) : Int) := nI_toInt (by (first | omega | (have zz0 := Hid.u hi_cn; omega)))
          refine lv_icmp_ne (tgt := 54) hx hb (oc_160 49 shX12_kitchen_49 sgw_0_5) rfl (fun c_9 => ?_) (fun c_9 => ?_)
          ·
            have tc_9 : ((nI (cn 1)).toInt : Int) ≠ 10 := fun q => c_9 (Int32.toInt_inj.mp q)
            refine lv_aload_n hx hb (oc_42 54 (aq_5 shX12_kitchen_49)) rfl (lvA0 hl) ?_
            refine gM_7 S hK hP (v := .ref (g 3)) rfl (oc_180 55 (aq_6 shX12_kitchen_49) uw_0_7) ?_
            refine lv_aload_n hx hb (oc_42 58 (aq_9 shX12_kitchen_49)) rfl (lvA0 hl) ?_
            refine gM_204 S hK hP (v := .int (nI (cn 1))) rfl (oc_180 59 (aq_10 shX12_kitchen_49) uw_0_204) ?_
            refine lv_iload_n hx hb (oc_27 62 (aq_13 shX12_kitchen_49)) rfl (lvA1 hl) ?_
            have kb_1 : (cn 1) < 10 := by (first | omega | (have zz0 := Hid.u hi_cn; omega))
            refine stM_3 hx hb hK hP hD hS (Fn2 := (va_up Fn 3 (upd (Fn 3) (cn 1) v0))) (vp_in_nI kb_1 (ltb rfl)) (nI_clamp (Nat.lt_trans kb_1 (ltb rfl))) rfl (oc_79 63 (aq_14 shX12_kitchen_49)) (fun H locs hP hD hS => ?_)
            refine lv_aload_n hx hb (oc_42 64 (aq_15 shX12_kitchen_49)) rfl (lvA0 hl) ?_
            refine gM_13 S hK hP (v := .ref (g 4)) rfl (oc_180 65 (aq_16 shX12_kitchen_49) uw_0_13) ?_
            refine lv_aload_n hx hb (oc_42 68 (aq_19 shX12_kitchen_49)) rfl (lvA0 hl) ?_
            refine gM_204 S hK hP (v := .int (nI (cn 1))) rfl (oc_180 69 (aq_20 shX12_kitchen_49) uw_0_204) ?_
            refine lv_iload_n hx hb (oc_28 72 (aq_23 shX12_kitchen_49)) rfl (lvA2 hl) ?_
            refine stM_4 hx hb hK hP hD hS (Fn2 := (va_up (va_up Fn 3 (upd (Fn 3) (cn 1) v0)) 4 (upd (Fn 4) (cn 1) v1))) (vp_in_nI kb_1 (ltb rfl)) (nI_clamp (Nat.lt_trans kb_1 (ltb rfl))) rfl (oc_79 73 shX12_kitchen_73) (fun H locs hP hD hS => ?_)
            refine lv_aload_n hx hb (oc_42 74 (aq_1 shX12_kitchen_73)) rfl (lvA0 hl) ?_
            refine gM_16 S hK hP (v := .ref (g 5)) rfl (oc_180 75 (aq_2 shX12_kitchen_73) uw_0_16) ?_
            refine lv_aload_n hx hb (oc_42 78 (aq_5 shX12_kitchen_73)) rfl (lvA0 hl) ?_
            refine gM_204 S hK hP (v := .int (nI (cn 1))) rfl (oc_180 79 (aq_6 shX12_kitchen_73) uw_0_204) ?_
            refine lv_iload_n hx hb (oc_29 82 (aq_9 shX12_kitchen_73)) rfl (lvA3 hl) ?_
            refine stM_5 hx hb hK hP hD hS (Fn2 := (va_up (va_up (va_up Fn 3 (upd (Fn 3) (cn 1) v0)) 4 (upd (Fn 4) (cn 1) v1)) 5 (upd (Fn 5) (cn 1) v2))) (vp_in_nI kb_1 (ltb rfl)) (nI_clamp (Nat.lt_trans kb_1 (ltb rfl))) rfl (oc_79 83 (aq_10 shX12_kitchen_73)) (fun H locs hP hD hS => ?_)
            refine lv_aload_n hx hb (oc_42 84 (aq_11 shX12_kitchen_73)) rfl (lvA0 hl) ?_
            refine gM_19 S hK hP (v := .ref (g 6)) rfl (oc_180 85 (aq_12 shX12_kitchen_73) uw_0_19) ?_
            refine lv_aload_n hx hb (oc_42 88 (aq_15 shX12_kitchen_73)) rfl (lvA0 hl) ?_
            refine gM_204 S hK hP (v := .int (nI (cn 1))) rfl (oc_180 89 (aq_16 shX12_kitchen_73) uw_0_204) ?_
            refine lv_iload hx hb (oc_21 92 (aq_19 shX12_kitchen_73) ub_4) (lvA4 hl) ?_
            refine stM_6 hx hb hK hP hD hS (Fn2 := (va_up (va_up (va_up (va_up Fn 3 (upd (Fn 3) (cn 1) v0)) 4 (upd (Fn 4) (cn 1) v1)) 5 (upd (Fn 5) (cn 1) v2)) 6 (upd (Fn 6) (cn 1) v3))) (vp_in_nI kb_1 (ltb rfl)) (nI_clamp (Nat.lt_trans kb_1 (ltb rfl))) rfl (oc_79 94 (aq_21 shX12_kitchen_73)) (fun H locs hP hD hS => ?_)
            refine lv_aload_n hx hb (oc_42 95 (aq_22 shX12_kitchen_73)) rfl (lvA0 hl) ?_
            refine lv_aload_n hx hb (oc_42 96 (aq_23 shX12_kitchen_73)) rfl (lvA0 hl) ?_
            refine gM_204 S hK hP (v := .int (nI (cn 1))) rfl (oc_180 97 shX12_kitchen_97 uw_0_204) ?_
            refine lv_iconst (v := 1) hx hb (oc_4 100 (aq_3 shX12_kitchen_97)) kic_1 ?_
            refine lv_iadd hx hb (oc_96 101 (aq_4 shX12_kitchen_97)) ?_
            refine lv_topi (fun y_10 ey_10 => ?_)
            obtain rfl : y_10 = (nI ((cn 1) + 1)) := ey_10.trans (nI_add (cn 1) 1)
            refine pM_204 S hK hP hD hS (a := ((cn 1) + 1)) (cn2 := (va_up cn 1 ((cn 1) + 1))) rfl rfl (oc_181 102 (aq_5 shX12_kitchen_97) uw_0_204) (fun H locs hP hD hS => ?_)
            refine lv_aload_n hx hb (oc_42 105 (aq_8 shX12_kitchen_97)) rfl (lvA0 hl) ?_
            refine gM_204 S hK hP (v := .int (nI ((cn 1) + 1))) rfl (oc_180 106 (aq_9 shX12_kitchen_97) uw_0_204) ?_
            refine lv_iconst (v := 1) hx hb (oc_4 109 (aq_12 shX12_kitchen_97)) kic_1 ?_
            refine lv_isub hx hb (oc_100 110 (aq_13 shX12_kitchen_97)) ?_
            refine lv_topi (fun y_11 ey_11 => ?_)
            obtain rfl : y_11 = (nI (cn 1)) := ey_11.trans (nI_pred _)
            exact W.iret (v := (nI (cn 1))) hx hb hr (fun t ht hW => ⟨⟨(nI (cn 1)), ((va_up cn 1 ((cn 1) + 1)), In, (va_up (va_up (va_up (va_up Fn 3 (upd (Fn 3) (cn 1) v0)) 4 (upd (Fn 4) (cn 1) v1)) 5 (upd (Fn 5) (cn 1) v2)) 6 (upd (Fn 6) (cn 1) v3))), rfl, (Or.inl ⟨by (first | omega | (have zz0 := Hid.u hi_cn; omega)), rfl, rfl, rfl, rfl⟩), by rw [ht]; exact hP, hD⟩, hS.F ht⟩) hS.2.2 (oc_172 111 (aq_14 shX12_kitchen_97))
          ·
            have tc_9 : ((nI (cn 1)).toInt : Int) = 10 := congrArg Int32.toInt c_9
            refine lv_iconst (v := (-1)) hx hb dX12_kitchen_52 kic_m1 ?_
            exact W.iret (v := (-1)) hx hb hr (fun t ht hW => ⟨⟨(-1), (cn, In, Fn), rfl, (Or.inr ⟨by (first | omega | (have zz0 := Hid.u hi_cn; omega)), rfl, rfl, rfl, rfl⟩), by rw [ht]; exact hP, hD⟩, hS.F ht⟩) hS.2.2 dX12_kitchen_53
        ·
          have h_8 : ¬ (20 ≤ v3.toInt ∧ v3.toInt ≤ 400) := h_8
          refine lv_if_eq (tgt := 52) hx hb (oc_153 40 (aq_16 shX12_kitchen_24) sgw_0_12) rfl (fun _ => ?_) (fun h => absurd h cq_eq_0_0)
          refine lv_iconst (v := (-1)) hx hb dX12_kitchen_52 kic_m1 ?_
          exact W.iret (v := (-1)) hx hb hr (fun t ht hW => ⟨⟨(-1), (cn, In, Fn), rfl, (Or.inr ⟨by (first | omega | (have zz0 := Hid.u hi_cn; omega)), rfl, rfl, rfl, rfl⟩), by rw [ht]; exact hP, hD⟩, hS.F ht⟩) hS.2.2 dX12_kitchen_53
      ·
        have h_6 : ¬ (0 ≤ v2.toInt ∧ v2.toInt ≤ 50) := h_6
        refine lv_if_eq (tgt := 52) hx hb (oc_153 27 (aq_3 shX12_kitchen_24) sgw_0_25) rfl (fun _ => ?_) (fun h => absurd h cq_eq_0_0)
        refine lv_iconst (v := (-1)) hx hb dX12_kitchen_52 kic_m1 ?_
        exact W.iret (v := (-1)) hx hb hr (fun t ht hW => ⟨⟨(-1), (cn, In, Fn), rfl, (Or.inr ⟨by (first | omega | (have zz0 := Hid.u hi_cn; omega)), rfl, rfl, rfl, rfl⟩), by rw [ht]; exact hP, hD⟩, hS.F ht⟩) hS.2.2 dX12_kitchen_53
    ·
      have h_4 : ¬ (0 ≤ v1.toInt ∧ v1.toInt ≤ 99) := h_4
      refine lv_if_eq (tgt := 52) hx hb (oc_153 17 (aq_17 shX12_kitchen_0) sgw_0_35) rfl (fun _ => ?_) (fun h => absurd h cq_eq_0_0)
      refine lv_iconst (v := (-1)) hx hb dX12_kitchen_52 kic_m1 ?_
      exact W.iret (v := (-1)) hx hb hr (fun t ht hW => ⟨⟨(-1), (cn, In, Fn), rfl, (Or.inr ⟨by (first | omega | (have zz0 := Hid.u hi_cn; omega)), rfl, rfl, rfl, rfl⟩), by rw [ht]; exact hP, hD⟩, hS.F ht⟩) hS.2.2 dX12_kitchen_53
  ·
    have h_2 : ¬ (0 ≤ v0.toInt ∧ v0.toInt ≤ 99) := h_2
    refine lv_if_eq (tgt := 52) hx hb (oc_153 7 (aq_7 shX12_kitchen_0) sgw_0_45) rfl (fun _ => ?_) (fun h => absurd h cq_eq_0_0)
    refine lv_iconst (v := (-1)) hx hb dX12_kitchen_52 kic_m1 ?_
    exact W.iret (v := (-1)) hx hb hr (fun t ht hW => ⟨⟨(-1), (cn, In, Fn), rfl, (Or.inr ⟨by (first | omega | (have zz0 := Hid.u hi_cn; omega)), rfl, rfl, rfl, rfl⟩), by rw [ht]; exact hP, hD⟩, hS.F ht⟩) hS.2.2 dX12_kitchen_53
