section
theorem cq_eq_1_0 : ¬((1 : Int32) = 0) := by decide
theorem cq_eq_0_0 : ¬¬((0 : Int32) = 0) := by decide

set_option maxRecDepth 100000 in
set_option maxHeartbeats 4000000 in
theorem q_in (l : Launch) (D : va_G) (cI cB cZ : ClassId) (v0 v1 v2 : Int32)  : Met l yX12_in (CWS yX12_in cX12_in 3 (some .boolean)) (RM 0 0 0) (PBr [.int v0, .int v1, .int v2] D cI cB cZ []) (vp_Si (fun r => (r = 1 ∧ (v1.toInt ≤ v0.toInt ∧ v0.toInt ≤ v2.toInt)) ∨ (r = 0 ∧ ¬ (v1.toInt ≤ v0.toInt ∧ v0.toInt ≤ v2.toInt)))) 0 0 (fun _ => False) := by
  refine en_r rfl pn_RX12 (Nat.le_of_ble_eq_true rfl) (fun p e s m below meth c hx hb hml hown S hr hlocks hnm hP hK hS ls hl => ?_)
  have hl : lv_has ls 3 [(0, .int v0), (1, .int v1), (2, .int v2)] := hl
  refine lv_iload_n hx hb (oc_26 0 shX12_in_0) rfl (lvA0 hl) ?_
  refine lv_iload_n hx hb (oc_27 1 (aq_1 shX12_in_0)) rfl (lvA1 hl) ?_
  refine lv_icmp_lt (tgt := 14) hx hb (oc_161 2 (aq_2 shX12_in_0) sgw_0_12) rfl (fun c_1 => ?_) (fun c_1 => ?_)
  ·
    have tc_1 : (v0.toInt : Int) < v1.toInt := Int32.lt_iff_toInt_lt.mp c_1
    refine lv_iconst (v := 0) hx hb (oc_3 14 (aq_14 shX12_in_0)) kic_0 ?_
    exact W.zret (v := 0) hx hb hr rfl (fun t ht hW => ⟨0, rfl, (Or.inr ⟨rfl, by omega⟩), ht⟩) (fun _ h => absurd h List.not_mem_nil) (oc_172 15 (aq_15 shX12_in_0))
  ·
    have tc_1 : (v1.toInt : Int) ≤ v0.toInt := Int32.le_iff_toInt_le.mp (Int32.not_lt.mp c_1)
    refine lv_iload_n hx hb (oc_26 5 (aq_5 shX12_in_0)) rfl (lvA0 hl) ?_
    refine lv_iload_n hx hb (oc_28 6 (aq_6 shX12_in_0)) rfl (lvA2 hl) ?_
    refine lv_icmp_gt (tgt := 14) hx hb (oc_163 7 (aq_7 shX12_in_0) sgw_0_7) rfl (fun c_2 => ?_) (fun c_2 => ?_)
    ·
      have tc_2 : (v2.toInt : Int) < v0.toInt := Int32.lt_iff_toInt_lt.mp c_2
      refine lv_iconst (v := 0) hx hb (oc_3 14 (aq_14 shX12_in_0)) kic_0 ?_
      exact W.zret (v := 0) hx hb hr rfl (fun t ht hW => ⟨0, rfl, (Or.inr ⟨rfl, by omega⟩), ht⟩) (fun _ h => absurd h List.not_mem_nil) (oc_172 15 (aq_15 shX12_in_0))
    ·
      have tc_2 : (v0.toInt : Int) ≤ v2.toInt := Int32.le_iff_toInt_le.mp (Int32.not_lt.mp c_2)
      refine lv_iconst (v := 1) hx hb (oc_4 10 (aq_10 shX12_in_0)) kic_1 ?_
      refine lv_goto (tgt := 15) hx hb (oc_167 11 (aq_11 shX12_in_0) sgw_0_4) rfl ?_
      exact W.zret (v := 1) hx hb hr rfl (fun t ht hW => ⟨1, rfl, (Or.inl ⟨rfl, by omega⟩), ht⟩) (fun _ h => absurd h List.not_mem_nil) (oc_172 15 (aq_15 shX12_in_0))
set_option maxRecDepth 100000 in
set_option maxHeartbeats 4000000 in
theorem q_isDay (l : Launch) (D : va_G) (cI cB cZ : ClassId) (v0 : Int32)  : Met l yX12_isDay (CWS yX12_isDay cX12_isDay 1 (some .boolean)) (RM 0 0 0) (PBr [.int v0] D cI cB cZ []) (vp_Si (fun r => (r = 1 ∧ (0 ≤ v0.toInt ∧ v0.toInt ≤ 399)) ∨ (r = 0 ∧ ¬ (0 ≤ v0.toInt ∧ v0.toInt ≤ 399)))) 0 0 (fun _ => False) := by
  refine en_r rfl pn_RX12 (Nat.le_of_ble_eq_true rfl) (fun p e s m below meth c hx hb hml hown S hr hlocks hnm hP hK hS ls hl => ?_)
  have hl : lv_has ls 1 [(0, .int v0)] := hl
  refine lv_iload_n hx hb (oc_26 0 shX12_isDay_0) rfl (lvA0 hl) ?_
  refine lv_if_lt (tgt := 15) hx hb (oc_155 1 (aq_1 shX12_isDay_0) sgw_0_14) rfl (fun c_1 => ?_) (fun c_1 => ?_)
  ·
    have tc_1 : (v0.toInt : Int) < 0 := Int32.lt_iff_toInt_lt.mp c_1
    refine lv_iconst (v := 0) hx hb (oc_3 15 (aq_15 shX12_isDay_0)) kic_0 ?_
    exact W.zret (v := 0) hx hb hr rfl (fun t ht hW => ⟨0, rfl, (Or.inr ⟨rfl, by omega⟩), ht⟩) (fun _ h => absurd h List.not_mem_nil) (oc_172 16 (aq_16 shX12_isDay_0))
  ·
    have tc_1 : (0 : Int) ≤ v0.toInt := Int32.le_iff_toInt_le.mp (Int32.not_lt.mp c_1)
    refine lv_iload_n hx hb (oc_26 4 (aq_4 shX12_isDay_0)) rfl (lvA0 hl) ?_
    refine lv_sipush (v := 399) hx hb (oc_17 5 (aq_5 shX12_isDay_0) sgw_1_143) (by decide) ?_
    refine lv_icmp_gt (tgt := 15) hx hb (oc_163 8 (aq_8 shX12_isDay_0) sgw_0_7) rfl (fun c_2 => ?_) (fun c_2 => ?_)
    ·
      have tc_2 : (399 : Int) < v0.toInt := Int32.lt_iff_toInt_lt.mp c_2
      refine lv_iconst (v := 0) hx hb (oc_3 15 (aq_15 shX12_isDay_0)) kic_0 ?_
      exact W.zret (v := 0) hx hb hr rfl (fun t ht hW => ⟨0, rfl, (Or.inr ⟨rfl, by omega⟩), ht⟩) (fun _ h => absurd h List.not_mem_nil) (oc_172 16 (aq_16 shX12_isDay_0))
    ·
      have tc_2 : (v0.toInt : Int) ≤ 399 := Int32.le_iff_toInt_le.mp (Int32.not_lt.mp c_2)
      refine lv_iconst (v := 1) hx hb (oc_4 11 (aq_11 shX12_isDay_0)) kic_1 ?_
      refine lv_goto (tgt := 16) hx hb (oc_167 12 (aq_12 shX12_isDay_0) sgw_0_4) rfl ?_
      exact W.zret (v := 1) hx hb hr rfl (fun t ht hW => ⟨1, rfl, (Or.inl ⟨rfl, by omega⟩), ht⟩) (fun _ h => absurd h List.not_mem_nil) (oc_172 16 (aq_16 shX12_isDay_0))
set_option maxRecDepth 100000 in
set_option maxHeartbeats 4000000 in
theorem q_isKitchen (l : Launch) (D : va_G) (cI cB cZ : ClassId) (g : Nat → Nat) (cn : Nat → Nat) (In : Nat → Int32) (Fn : Nat → Nat → Int32) (v0 : Int32) (hI : IM cn Fn) : Met l yX12_isKitchen (CWS yX12_isKitchen cX12_isKitchen 2 (some .boolean)) (RM 0 0 0) (PBr [.ref (g 100), .int v0] D cI cB cZ (wM cI cB cZ g cn In Fn)) (vp_Si (fun r => (r = 1 ∧ (0 ≤ v0.toInt ∧ v0.toInt < (cn 1 : Int))) ∨ (r = 0 ∧ ¬ (0 ≤ v0.toInt ∧ v0.toInt < (cn 1 : Int))))) 0 0 (fun _ => False) := by
  refine en_r rfl pn_RX12 (Nat.le_of_ble_eq_true rfl) (fun p e s m below meth c hx hb hml hown S hr hlocks hnm hP hK hS ls hl => ?_)
  have hl : lv_has ls 2 [(0, .ref (g 100)), (1, .int v0)] := hl
  have hi_cn : Hid (CB cn) := hI.b
  refine lv_iload_n hx hb (oc_27 0 shX12_isKitchen_0) rfl (lvA1 hl) ?_
  refine lv_if_lt (tgt := 16) hx hb (oc_155 1 (aq_1 shX12_isKitchen_0) sgw_0_15) rfl (fun c_1 => ?_) (fun c_1 => ?_)
  ·
    have tc_1 : (v0.toInt : Int) < 0 := Int32.lt_iff_toInt_lt.mp c_1
    refine lv_iconst (v := 0) hx hb (oc_3 16 (aq_16 shX12_isKitchen_0)) kic_0 ?_
    exact W.zret (v := 0) hx hb hr rfl (fun t ht hW => ⟨0, rfl, (Or.inr ⟨rfl, by (first | omega | (have zz0 := Hid.u hi_cn; omega))⟩), ht⟩) (fun _ h => absurd h List.not_mem_nil) (oc_172 17 (aq_17 shX12_isKitchen_0))
  ·
    have tc_1 : (0 : Int) ≤ v0.toInt := Int32.le_iff_toInt_le.mp (Int32.not_lt.mp c_1)
    refine lv_iload_n hx hb (oc_27 4 (aq_4 shX12_isKitchen_0)) rfl (lvA1 hl) ?_
    refine lv_aload_n hx hb (oc_42 5 (aq_5 shX12_isKitchen_0)) rfl (lvA0 hl) ?_
    refine gM_204 S hK hP (v := .int (nI (cn 1))) rfl (oc_180 6 (aq_6 shX12_isKitchen_0) uw_0_204) ?_
    have : (nI (cn 1)).toInt = (((cn 1) : Nat) : Int) := nI_toInt (by (first | omega | (have zz0 := Hid.u hi_cn; omega)))
    refine lv_icmp_ge (tgt := 16) hx hb (oc_162 9 (aq_9 shX12_isKitchen_0) sgw_0_7) rfl (fun c_2 => ?_) (fun c_2 => ?_)
    ·
      have tc_2 : ((nI (cn 1)).toInt : Int) ≤ v0.toInt := Int32.le_iff_toInt_le.mp c_2
      refine lv_iconst (v := 0) hx hb (oc_3 16 (aq_16 shX12_isKitchen_0)) kic_0 ?_
      exact W.zret (v := 0) hx hb hr rfl (fun t ht hW => ⟨0, rfl, (Or.inr ⟨rfl, by (first | omega | (have zz0 := Hid.u hi_cn; omega))⟩), ht⟩) (fun _ h => absurd h List.not_mem_nil) (oc_172 17 (aq_17 shX12_isKitchen_0))
    ·
      have tc_2 : (v0.toInt : Int) < (nI (cn 1)).toInt := Int32.lt_iff_toInt_lt.mp (Int32.not_le.mp c_2)
      refine lv_iconst (v := 1) hx hb (oc_4 12 (aq_12 shX12_isKitchen_0)) kic_1 ?_
      refine lv_goto (tgt := 17) hx hb (oc_167 13 (aq_13 shX12_isKitchen_0) sgw_0_4) rfl ?_
      exact W.zret (v := 1) hx hb hr rfl (fun t ht hW => ⟨1, rfl, (Or.inl ⟨rfl, by (first | omega | (have zz0 := Hid.u hi_cn; omega))⟩), ht⟩) (fun _ h => absurd h List.not_mem_nil) (oc_172 17 (aq_17 shX12_isKitchen_0))
set_option maxRecDepth 100000 in
set_option maxHeartbeats 4000000 in
theorem q_isLoad (l : Launch) (D : va_G) (cI cB cZ : ClassId) (g : Nat → Nat) (cn : Nat → Nat) (In : Nat → Int32) (Fn : Nat → Nat → Int32) (v0 : Int32) (hI : IM cn Fn) : Met l yX12_isLoad (CWS yX12_isLoad cX12_isLoad 2 (some .boolean)) (RM 0 0 0) (PBr [.ref (g 100), .int v0] D cI cB cZ (wM cI cB cZ g cn In Fn)) (vp_Si (fun r => (r = 1 ∧ (0 ≤ v0.toInt ∧ v0.toInt < (cn 2 : Int))) ∨ (r = 0 ∧ ¬ (0 ≤ v0.toInt ∧ v0.toInt < (cn 2 : Int))))) 0 0 (fun _ => False) := by
  refine en_r rfl pn_RX12 (Nat.le_of_ble_eq_true rfl) (fun p e s m below meth c hx hb hml hown S hr hlocks hnm hP hK hS ls hl => ?_)
  have hl : lv_has ls 2 [(0, .ref (g 100)), (1, .int v0)] := hl
  have hi_cn : Hid (CB cn) := hI.b
  refine lv_iload_n hx hb (oc_27 0 shX12_isLoad_0) rfl (lvA1 hl) ?_
  refine lv_if_lt (tgt := 16) hx hb (oc_155 1 (aq_1 shX12_isLoad_0) sgw_0_15) rfl (fun c_1 => ?_) (fun c_1 => ?_)
  ·
    have tc_1 : (v0.toInt : Int) < 0 := Int32.lt_iff_toInt_lt.mp c_1
    refine lv_iconst (v := 0) hx hb (oc_3 16 (aq_16 shX12_isLoad_0)) kic_0 ?_
    exact W.zret (v := 0) hx hb hr rfl (fun t ht hW => ⟨0, rfl, (Or.inr ⟨rfl, by (first | omega | (have zz0 := Hid.u hi_cn; omega))⟩), ht⟩) (fun _ h => absurd h List.not_mem_nil) (oc_172 17 (aq_17 shX12_isLoad_0))
  ·
    have tc_1 : (0 : Int) ≤ v0.toInt := Int32.le_iff_toInt_le.mp (Int32.not_lt.mp c_1)
    refine lv_iload_n hx hb (oc_27 4 (aq_4 shX12_isLoad_0)) rfl (lvA1 hl) ?_
    refine lv_aload_n hx hb (oc_42 5 (aq_5 shX12_isLoad_0)) rfl (lvA0 hl) ?_
    refine gM_208 S hK hP (v := .int (nI (cn 2))) rfl (oc_180 6 (aq_6 shX12_isLoad_0) uw_0_208) ?_
    have : (nI (cn 2)).toInt = (((cn 2) : Nat) : Int) := nI_toInt (by (first | omega | (have zz0 := Hid.u hi_cn; omega)))
    refine lv_icmp_ge (tgt := 16) hx hb (oc_162 9 (aq_9 shX12_isLoad_0) sgw_0_7) rfl (fun c_2 => ?_) (fun c_2 => ?_)
    ·
      have tc_2 : ((nI (cn 2)).toInt : Int) ≤ v0.toInt := Int32.le_iff_toInt_le.mp c_2
      refine lv_iconst (v := 0) hx hb (oc_3 16 (aq_16 shX12_isLoad_0)) kic_0 ?_
      exact W.zret (v := 0) hx hb hr rfl (fun t ht hW => ⟨0, rfl, (Or.inr ⟨rfl, by (first | omega | (have zz0 := Hid.u hi_cn; omega))⟩), ht⟩) (fun _ h => absurd h List.not_mem_nil) (oc_172 17 (aq_17 shX12_isLoad_0))
    ·
      have tc_2 : (v0.toInt : Int) < (nI (cn 2)).toInt := Int32.lt_iff_toInt_lt.mp (Int32.not_le.mp c_2)
      refine lv_iconst (v := 1) hx hb (oc_4 12 (aq_12 shX12_isLoad_0)) kic_1 ?_
      refine lv_goto (tgt := 17) hx hb (oc_167 13 (aq_13 shX12_isLoad_0) sgw_0_4) rfl ?_
      exact W.zret (v := 1) hx hb hr rfl (fun t ht hW => ⟨1, rfl, (Or.inl ⟨rfl, by (first | omega | (have zz0 := Hid.u hi_cn; omega))⟩), ht⟩) (fun _ h => absurd h List.not_mem_nil) (oc_172 17 (aq_17 shX12_isLoad_0))
set_option maxRecDepth 100000 in
set_option maxHeartbeats 4000000 in
theorem q_isBatch (l : Launch) (D : va_G) (cI cB cZ : ClassId) (g : Nat → Nat) (cn : Nat → Nat) (In : Nat → Int32) (Fn : Nat → Nat → Int32) (v0 : Int32) (hI : IM cn Fn) : Met l yX12_isBatch (CWS yX12_isBatch cX12_isBatch 2 (some .boolean)) (RM 0 0 0) (PBr [.ref (g 100), .int v0] D cI cB cZ (wM cI cB cZ g cn In Fn)) (vp_Si (fun r => (r = 1 ∧ (0 ≤ v0.toInt ∧ v0.toInt < (cn 62 : Int))) ∨ (r = 0 ∧ ¬ (0 ≤ v0.toInt ∧ v0.toInt < (cn 62 : Int))))) 0 0 (fun _ => False) := by
  refine en_r rfl pn_RX12 (Nat.le_of_ble_eq_true rfl) (fun p e s m below meth c hx hb hml hown S hr hlocks hnm hP hK hS ls hl => ?_)
  have hl : lv_has ls 2 [(0, .ref (g 100)), (1, .int v0)] := hl
  have hi_cn : Hid (CB cn) := hI.b
  refine lv_iload_n hx hb (oc_27 0 shX12_isBatch_0) rfl (lvA1 hl) ?_
  refine lv_if_lt (tgt := 16) hx hb (oc_155 1 (aq_1 shX12_isBatch_0) sgw_0_15) rfl (fun c_1 => ?_) (fun c_1 => ?_)
  ·
    have tc_1 : (v0.toInt : Int) < 0 := Int32.lt_iff_toInt_lt.mp c_1
    refine lv_iconst (v := 0) hx hb (oc_3 16 (aq_16 shX12_isBatch_0)) kic_0 ?_
    exact W.zret (v := 0) hx hb hr rfl (fun t ht hW => ⟨0, rfl, (Or.inr ⟨rfl, by (first | omega | (have zz0 := Hid.u hi_cn; omega))⟩), ht⟩) (fun _ h => absurd h List.not_mem_nil) (oc_172 17 (aq_17 shX12_isBatch_0))
  ·
    have tc_1 : (0 : Int) ≤ v0.toInt := Int32.le_iff_toInt_le.mp (Int32.not_lt.mp c_1)
    refine lv_iload_n hx hb (oc_27 4 (aq_4 shX12_isBatch_0)) rfl (lvA1 hl) ?_
    refine lv_aload_n hx hb (oc_42 5 (aq_5 shX12_isBatch_0)) rfl (lvA0 hl) ?_
    refine gM_435 S hK hP (v := .int (nI (cn 62))) rfl (oc_180 6 (aq_6 shX12_isBatch_0) uw_1_179) ?_
    have : (nI (cn 62)).toInt = (((cn 62) : Nat) : Int) := nI_toInt (by (first | omega | (have zz0 := Hid.u hi_cn; omega)))
    refine lv_icmp_ge (tgt := 16) hx hb (oc_162 9 (aq_9 shX12_isBatch_0) sgw_0_7) rfl (fun c_2 => ?_) (fun c_2 => ?_)
    ·
      have tc_2 : ((nI (cn 62)).toInt : Int) ≤ v0.toInt := Int32.le_iff_toInt_le.mp c_2
      refine lv_iconst (v := 0) hx hb (oc_3 16 (aq_16 shX12_isBatch_0)) kic_0 ?_
      exact W.zret (v := 0) hx hb hr rfl (fun t ht hW => ⟨0, rfl, (Or.inr ⟨rfl, by (first | omega | (have zz0 := Hid.u hi_cn; omega))⟩), ht⟩) (fun _ h => absurd h List.not_mem_nil) (oc_172 17 (aq_17 shX12_isBatch_0))
    ·
      have tc_2 : (v0.toInt : Int) < (nI (cn 62)).toInt := Int32.lt_iff_toInt_lt.mp (Int32.not_le.mp c_2)
      refine lv_iconst (v := 1) hx hb (oc_4 12 (aq_12 shX12_isBatch_0)) kic_1 ?_
      refine lv_goto (tgt := 17) hx hb (oc_167 13 (aq_13 shX12_isBatch_0) sgw_0_4) rfl ?_
      exact W.zret (v := 1) hx hb hr rfl (fun t ht hW => ⟨1, rfl, (Or.inl ⟨rfl, by (first | omega | (have zz0 := Hid.u hi_cn; omega))⟩), ht⟩) (fun _ h => absurd h List.not_mem_nil) (oc_172 17 (aq_17 shX12_isBatch_0))
set_option maxRecDepth 100000 in
set_option maxHeartbeats 4000000 in
theorem q_isProof (l : Launch) (D : va_G) (cI cB cZ : ClassId) (g : Nat → Nat) (cn : Nat → Nat) (In : Nat → Int32) (Fn : Nat → Nat → Int32) (v0 : Int32) (hI : IM cn Fn) : Met l yX12_isProof (CWS yX12_isProof cX12_isProof 2 (some .boolean)) (RM 0 0 0) (PBr [.ref (g 100), .int v0] D cI cB cZ (wM cI cB cZ g cn In Fn)) (vp_Si (fun r => (r = 1 ∧ (0 ≤ v0.toInt ∧ v0.toInt < (cn 63 : Int))) ∨ (r = 0 ∧ ¬ (0 ≤ v0.toInt ∧ v0.toInt < (cn 63 : Int))))) 0 0 (fun _ => False) := by
  refine en_r rfl pn_RX12 (Nat.le_of_ble_eq_true rfl) (fun p e s m below meth c hx hb hml hown S hr hlocks hnm hP hK hS ls hl => ?_)
  have hl : lv_has ls 2 [(0, .ref (g 100)), (1, .int v0)] := hl
  have hi_cn : Hid (CB cn) := hI.b
  refine lv_iload_n hx hb (oc_27 0 shX12_isProof_0) rfl (lvA1 hl) ?_
  refine lv_if_lt (tgt := 16) hx hb (oc_155 1 (aq_1 shX12_isProof_0) sgw_0_15) rfl (fun c_1 => ?_) (fun c_1 => ?_)
  ·
    have tc_1 : (v0.toInt : Int) < 0 := Int32.lt_iff_toInt_lt.mp c_1
    refine lv_iconst (v := 0) hx hb (oc_3 16 (aq_16 shX12_isProof_0)) kic_0 ?_
    exact W.zret (v := 0) hx hb hr rfl (fun t ht hW => ⟨0, rfl, (Or.inr ⟨rfl, by (first | omega | (have zz0 := Hid.u hi_cn; omega))⟩), ht⟩) (fun _ h => absurd h List.not_mem_nil) (oc_172 17 (aq_17 shX12_isProof_0))
  ·
    have tc_1 : (0 : Int) ≤ v0.toInt := Int32.le_iff_toInt_le.mp (Int32.not_lt.mp c_1)
    refine lv_iload_n hx hb (oc_27 4 (aq_4 shX12_isProof_0)) rfl (lvA1 hl) ?_
    refine lv_aload_n hx hb (oc_42 5 (aq_5 shX12_isProof_0)) rfl (lvA0 hl) ?_
    refine gM_447 S hK hP (v := .int (nI (cn 63))) rfl (oc_180 6 (aq_6 shX12_isProof_0) uw_1_191) ?_
    have : (nI (cn 63)).toInt = (((cn 63) : Nat) : Int) := nI_toInt (by (first | omega | (have zz0 := Hid.u hi_cn; omega)))
    refine lv_icmp_ge (tgt := 16) hx hb (oc_162 9 (aq_9 shX12_isProof_0) sgw_0_7) rfl (fun c_2 => ?_) (fun c_2 => ?_)
    ·
      have tc_2 : ((nI (cn 63)).toInt : Int) ≤ v0.toInt := Int32.le_iff_toInt_le.mp c_2
      refine lv_iconst (v := 0) hx hb (oc_3 16 (aq_16 shX12_isProof_0)) kic_0 ?_
      exact W.zret (v := 0) hx hb hr rfl (fun t ht hW => ⟨0, rfl, (Or.inr ⟨rfl, by (first | omega | (have zz0 := Hid.u hi_cn; omega))⟩), ht⟩) (fun _ h => absurd h List.not_mem_nil) (oc_172 17 (aq_17 shX12_isProof_0))
    ·
      have tc_2 : (v0.toInt : Int) < (nI (cn 63)).toInt := Int32.lt_iff_toInt_lt.mp (Int32.not_le.mp c_2)
      refine lv_iconst (v := 1) hx hb (oc_4 12 (aq_12 shX12_isProof_0)) kic_1 ?_
      refine lv_goto (tgt := 17) hx hb (oc_167 13 (aq_13 shX12_isProof_0) sgw_0_4) rfl ?_
      exact W.zret (v := 1) hx hb hr rfl (fun t ht hW => ⟨1, rfl, (Or.inl ⟨rfl, by (first | omega | (have zz0 := Hid.u hi_cn; omega))⟩), ht⟩) (fun _ h => absurd h List.not_mem_nil) (oc_172 17 (aq_17 shX12_isProof_0))
set_option maxRecDepth 100000 in
set_option maxHeartbeats 4000000 in
theorem q_isDrum (l : Launch) (D : va_G) (cI cB cZ : ClassId) (g : Nat → Nat) (cn : Nat → Nat) (In : Nat → Int32) (Fn : Nat → Nat → Int32) (v0 : Int32) (hI : IM cn Fn) : Met l yX12_isDrum (CWS yX12_isDrum cX12_isDrum 2 (some .boolean)) (RM 0 0 0) (PBr [.ref (g 100), .int v0] D cI cB cZ (wM cI cB cZ g cn In Fn)) (vp_Si (fun r => (r = 1 ∧ (0 ≤ v0.toInt ∧ v0.toInt < (cn 57 : Int))) ∨ (r = 0 ∧ ¬ (0 ≤ v0.toInt ∧ v0.toInt < (cn 57 : Int))))) 0 0 (fun _ => False) := by
  refine en_r rfl pn_RX12 (Nat.le_of_ble_eq_true rfl) (fun p e s m below meth c hx hb hml hown S hr hlocks hnm hP hK hS ls hl => ?_)
  have hl : lv_has ls 2 [(0, .ref (g 100)), (1, .int v0)] := hl
  have hi_cn : Hid (CB cn) := hI.b
  refine lv_iload_n hx hb (oc_27 0 shX12_isDrum_0) rfl (lvA1 hl) ?_
  refine lv_if_lt (tgt := 16) hx hb (oc_155 1 (aq_1 shX12_isDrum_0) sgw_0_15) rfl (fun c_1 => ?_) (fun c_1 => ?_)
  ·
    have tc_1 : (v0.toInt : Int) < 0 := Int32.lt_iff_toInt_lt.mp c_1
    refine lv_iconst (v := 0) hx hb (oc_3 16 (aq_16 shX12_isDrum_0)) kic_0 ?_
    exact W.zret (v := 0) hx hb hr rfl (fun t ht hW => ⟨0, rfl, (Or.inr ⟨rfl, by (first | omega | (have zz0 := Hid.u hi_cn; omega))⟩), ht⟩) (fun _ h => absurd h List.not_mem_nil) (oc_172 17 (aq_17 shX12_isDrum_0))
  ·
    have tc_1 : (0 : Int) ≤ v0.toInt := Int32.le_iff_toInt_le.mp (Int32.not_lt.mp c_1)
    refine lv_iload_n hx hb (oc_27 4 (aq_4 shX12_isDrum_0)) rfl (lvA1 hl) ?_
    refine lv_aload_n hx hb (oc_42 5 (aq_5 shX12_isDrum_0)) rfl (lvA0 hl) ?_
    refine gM_407 S hK hP (v := .int (nI (cn 57))) rfl (oc_180 6 (aq_6 shX12_isDrum_0) uw_1_151) ?_
    have : (nI (cn 57)).toInt = (((cn 57) : Nat) : Int) := nI_toInt (by (first | omega | (have zz0 := Hid.u hi_cn; omega)))
    refine lv_icmp_ge (tgt := 16) hx hb (oc_162 9 (aq_9 shX12_isDrum_0) sgw_0_7) rfl (fun c_2 => ?_) (fun c_2 => ?_)
    ·
      have tc_2 : ((nI (cn 57)).toInt : Int) ≤ v0.toInt := Int32.le_iff_toInt_le.mp c_2
      refine lv_iconst (v := 0) hx hb (oc_3 16 (aq_16 shX12_isDrum_0)) kic_0 ?_
      exact W.zret (v := 0) hx hb hr rfl (fun t ht hW => ⟨0, rfl, (Or.inr ⟨rfl, by (first | omega | (have zz0 := Hid.u hi_cn; omega))⟩), ht⟩) (fun _ h => absurd h List.not_mem_nil) (oc_172 17 (aq_17 shX12_isDrum_0))
    ·
      have tc_2 : (v0.toInt : Int) < (nI (cn 57)).toInt := Int32.lt_iff_toInt_lt.mp (Int32.not_le.mp c_2)
      refine lv_iconst (v := 1) hx hb (oc_4 12 (aq_12 shX12_isDrum_0)) kic_1 ?_
      refine lv_goto (tgt := 17) hx hb (oc_167 13 (aq_13 shX12_isDrum_0) sgw_0_4) rfl ?_
      exact W.zret (v := 1) hx hb hr rfl (fun t ht hW => ⟨1, rfl, (Or.inl ⟨rfl, by (first | omega | (have zz0 := Hid.u hi_cn; omega))⟩), ht⟩) (fun _ h => absurd h List.not_mem_nil) (oc_172 17 (aq_17 shX12_isDrum_0))
set_option maxRecDepth 100000 in
set_option maxHeartbeats 4000000 in
theorem q_now (l : Launch) (D : va_G) (cI cB cZ : ClassId) (g : Nat → Nat) (cn : Nat → Nat) (In : Nat → Int32) (Fn : Nat → Nat → Int32) (v0 : Int32) (sz : Nat) (hI : IM cn Fn) : Met l yX12_now (CWS yX12_now cX12_now 2 (some .boolean)) (RM 1 0 0) (PBw [.ref (g 100), .int v0] D cI cB cZ (wM cI cB cZ g cn In Fn) sz) (va_Qi (fun (r : Int32) (u : (Nat → Nat) × (Nat → Int32) × (Nat → Nat → Int32)) => (fun r c2 I2 F2 => (((cn 0 : Int) ≤ v0.toInt ∧ v0.toInt ≤ 399) ∧ r = 1 ∧ c2 = va_up cn 0 v0.toInt.toNat ∧ I2 = In ∧ F2 = Fn) ∨ ((¬ ((cn 0 : Int) ≤ v0.toInt ∧ v0.toInt ≤ 399)) ∧ r = 0 ∧ c2 = cn ∧ I2 = In ∧ F2 = Fn)) r u.1 u.2.1 u.2.2) (fun (u : (Nat → Nat) × (Nat → Int32) × (Nat → Nat → Int32)) (t : State) => va_P D vwCl (wM cI cB cZ g u.1 u.2.1 u.2.2) t.heap ∧ va_D (va_A (wM cI cB cZ g cn In Fn) sz) (wM cI cB cZ g u.1 u.2.1 u.2.2)) (va_A (wM cI cB cZ g cn In Fn) sz)) 0 0 (va_A (wM cI cB cZ g cn In Fn) sz) := by
  refine en_w (fun A => (va_Qi (fun (r : Int32) (u : (Nat → Nat) × (Nat → Int32) × (Nat → Nat → Int32)) => (fun (r : Int32) (c2 : Nat → Nat) (I2 : Nat → Int32) (F2 : Nat → Nat → Int32) => (((cn 0 : Int) ≤ v0.toInt ∧ v0.toInt ≤ 399) ∧ r = 1 ∧ c2 = va_up cn 0 v0.toInt.toNat ∧ I2 = In ∧ F2 = Fn) ∨ ((¬ ((cn 0 : Int) ≤ v0.toInt ∧ v0.toInt ≤ 399)) ∧ r = 0 ∧ c2 = cn ∧ I2 = In ∧ F2 = Fn)) r u.1 u.2.1 u.2.2) (fun (u : (Nat → Nat) × (Nat → Int32) × (Nat → Nat → Int32)) (t : State) => va_P D vwCl (wM cI cB cZ g u.1 u.2.1 u.2.2) t.heap ∧ va_D A (wM cI cB cZ g u.1 u.2.1 u.2.2)) A)) rfl rfl pn_RX12 (Nat.le_of_ble_eq_true rfl) (fun p e s m below meth c A hx hb hml hown S hr hlocks hnm hA hP hK hD hS ls hl => ?_)
  have hl : lv_has ls 2 [(0, .ref (g 100)), (1, .int v0)] := hl
  have hi_cn : Hid (CB cn) := hI.b
  refine lv_iload_n hx hb (oc_27 0 shX12_now_0) rfl (lvA1 hl) ?_
  refine lv_aload_n hx hb (oc_42 1 (aq_1 shX12_now_0)) rfl (lvA0 hl) ?_
  refine gM_211 S hK hP (v := .int (nI (cn 0))) rfl (oc_180 2 (aq_2 shX12_now_0) uw_0_211) ?_
  refine lv_sipush (v := 399) hx hb (oc_17 5 (aq_5 shX12_now_0) sgw_1_143) (by decide) ?_
  refine vp_callSi (runS_r (As := [.int v0, .int (nI (cn 0)), .int 399]) (rest := []) S (q_in l D cI cB cZ v0 (nI (cn 0)) 399 ) kS_RX12_214 hK hP [] rfl ⟨Nat.le_of_ble_eq_true rfl, Nat.le_of_ble_eq_true rfl⟩ ⟨Nat.le_of_ble_eq_true rfl, Nat.le_of_ble_eq_true rfl⟩ rfl hl.1 rfl (Nat.le_of_ble_eq_true rfl) (oc_184 8 (aq_8 shX12_now_0) uw_0_214)) (fun r_1 h_2 => ?_)
  have : (nI (cn 0)).toInt = (((cn 0) : Nat) : Int) := nI_toInt (by (first | omega | (have zz0 := Hid.u hi_cn; omega)))
  rcases h_2 with ⟨rfl, h_2⟩ | ⟨rfl, h_2⟩
  ·
    have h_2 : (nI (cn 0)).toInt ≤ v0.toInt ∧ v0.toInt ≤ 399 := h_2
    refine lv_if_ne (tgt := 16) hx hb (oc_154 11 (aq_11 shX12_now_0) sgw_0_5) rfl (fun _ => ?_) (fun h => absurd h cq_eq_1_0)
    obtain ⟨d0, hd0, rfl⟩ := nI_of (x := v0) (fun q => by have := Int32.lt_iff_toInt_lt.mp q; have e : (0 : Int32).toInt = 0 := rfl; (first | omega | (have zz0 := Hid.u hi_cn; omega)))
    have td0 : (nI d0).toInt = (d0 : Int) := nI_toInt hd0
    have zd0 : (nI d0).toInt.toNat = d0 := by (first | omega | (have zz0 := Hid.u hi_cn; omega))
    refine lv_aload_n hx hb (oc_42 16 (aq_16 shX12_now_0)) rfl (lvA0 hl) ?_
    refine lv_iload_n hx hb (oc_27 17 (aq_17 shX12_now_0)) rfl (lvA1 hl) ?_
    refine pM_211 S hK hP hD hS (a := d0) (cn2 := (va_up cn 0 d0)) rfl rfl (oc_181 18 (aq_18 shX12_now_0) uw_0_211) (fun H locs hP hD hS => ?_)
    refine lv_iconst (v := 1) hx hb (oc_4 21 (aq_21 shX12_now_0)) kic_1 ?_
    exact W.zret (v := 1) hx hb hr rfl (fun t ht hW => ⟨⟨1, ((va_up cn 0 d0), In, Fn), rfl, (Or.inl ⟨by (first | omega | (have zz0 := Hid.u hi_cn; omega)), rfl, by rw [show (nI d0).toInt.toNat = d0 by (first | omega | (have zz0 := Hid.u hi_cn; omega))], rfl, rfl⟩), by rw [ht]; exact hP, hD⟩, hS.F ht⟩) hS.2.2 (oc_172 22 (aq_22 shX12_now_0))
  ·
    have h_2 : ¬ ((nI (cn 0)).toInt ≤ v0.toInt ∧ v0.toInt ≤ 399) := h_2
    refine lv_if_ne (tgt := 16) hx hb (oc_154 11 (aq_11 shX12_now_0) sgw_0_5) rfl (fun h => absurd h cq_eq_0_0) (fun _ => ?_)
    refine lv_iconst (v := 0) hx hb (oc_3 14 (aq_14 shX12_now_0)) kic_0 ?_
    exact W.zret (v := 0) hx hb hr rfl (fun t ht hW => ⟨⟨0, (cn, In, Fn), rfl, (Or.inr ⟨by (first | omega | (have zz0 := Hid.u hi_cn; omega)), rfl, rfl, rfl, rfl⟩), by rw [ht]; exact hP, hD⟩, hS.F ht⟩) hS.2.2 (oc_172 15 (aq_15 shX12_now_0))
set_option maxRecDepth 100000 in
set_option maxHeartbeats 4000000 in
theorem q_kitchen (l : Launch) (D : va_G) (cI cB cZ : ClassId) (g : Nat → Nat) (cn : Nat → Nat) (In : Nat → Int32) (Fn : Nat → Nat → Int32) (v0 v1 v2 v3 : Int32) (sz : Nat) (hI : IM cn Fn) : Met l yX12_kitchen (CWS yX12_kitchen cX12_kitchen 5 (some .int)) (RM 1 0 0) (PBw [.ref (g 100), .int v0, .int v1, .int v2, .int v3] D cI cB cZ (wM cI cB cZ g cn In Fn) sz) (va_Qi (fun (r : Int32) (u : (Nat → Nat) × (Nat → Int32) × (Nat → Nat → Int32)) => (fun r c2 I2 F2 => (((0 ≤ v0.toInt ∧ v0.toInt ≤ 99) ∧ (0 ≤ v1.toInt ∧ v1.toInt ≤ 99) ∧ (0 ≤ v2.toInt ∧ v2.toInt ≤ 50) ∧ (20 ≤ v3.toInt ∧ v3.toInt ≤ 400) ∧ cn 1 < 10) ∧ r = nI (cn 1) ∧ c2 = va_up cn 1 (cn 1 + 1) ∧ I2 = In ∧ F2 = va_up (va_up (va_up (va_up Fn 3 (upd (Fn 3) (cn 1) v0)) 4 (upd (Fn 4) (cn 1) v1)) 5 (upd (Fn 5) (cn 1) v2)) 6 (upd (Fn 6) (cn 1) v3)) ∨ ((¬ ((0 ≤ v0.toInt ∧ v0.toInt ≤ 99) ∧ (0 ≤ v1.toInt ∧ v1.toInt ≤ 99) ∧ (0 ≤ v2.toInt ∧ v2.toInt ≤ 50) ∧ (20 ≤ v3.toInt ∧ v3.toInt ≤ 400) ∧ cn 1 < 10)) ∧ r = -1 ∧ c2 = cn ∧ I2 = In ∧ F2 = Fn)) r u.1 u.2.1 u.2.2) (fun (u : (Nat → Nat) × (Nat → Int32) × (Nat → Nat → Int32)) (t : State) => va_P D vwCl (wM cI cB cZ g u.1 u.2.1 u.2.2) t.heap ∧ va_D (va_A (wM cI cB cZ g cn In Fn) sz) (wM cI cB cZ g u.1 u.2.1 u.2.2)) (va_A (wM cI cB cZ g cn In Fn) sz)) 0 0 (va_A (wM cI cB cZ g cn In Fn) sz) := by
  refine en_w (fun A => (va_Qi (fun (r : Int32) (u : (Nat → Nat) × (Nat → Int32) × (Nat → Nat → Int32)) => (fun (r : Int32) (c2 : Nat → Nat) (I2 : Nat → Int32) (F2 : Nat → Nat → Int32) => (((0 ≤ v0.toInt ∧ v0.toInt ≤ 99) ∧ (0 ≤ v1.toInt ∧ v1.toInt ≤ 99) ∧ (0 ≤ v2.toInt ∧ v2.toInt ≤ 50) ∧ (20 ≤ v3.toInt ∧ v3.toInt ≤ 400) ∧ cn 1 < 10) ∧ r = nI (cn 1) ∧ c2 = va_up cn 1 (cn 1 + 1) ∧ I2 = In ∧ F2 = va_up (va_up (va_up (va_up Fn 3 (upd (Fn 3) (cn 1) v0)) 4 (upd (Fn 4) (cn 1) v1)) 5 (upd (Fn 5) (cn 1) v2)) 6 (upd (Fn 6) (cn 1) v3)) ∨ ((¬ ((0 ≤ v0.toInt ∧ v0.toInt ≤ 99) ∧ (0 ≤ v1.toInt ∧ v1.toInt ≤ 99) ∧ (0 ≤ v2.toInt ∧ v2.toInt ≤ 50) ∧ (20 ≤ v3.toInt ∧ v3.toInt ≤ 400) ∧ cn 1 < 10)) ∧ r = -1 ∧ c2 = cn ∧ I2 = In ∧ F2 = Fn)) r u.1 u.2.1 u.2.2) (fun (u : (Nat → Nat) × (Nat → Int32) × (Nat → Nat → Int32)) (t : State) => va_P D vwCl (wM cI cB cZ g u.1 u.2.1 u.2.2) t.heap ∧ va_D A (wM cI cB cZ g u.1 u.2.1 u.2.2)) A)) rfl rfl pn_RX12 (Nat.le_of_ble_eq_true rfl) (fun p e s m below meth c A hx hb hml hown S hr hlocks hnm hA hP hK hD hS ls hl => ?_)
  have hl : lv_has ls 5 [(0, .ref (g 100)), (1, .int v0), (2, .int v1), (3, .int v2), (4, .int v3)] := hl
  have hi_cn : Hid (CB cn) := hI.b
  refine lv_iload_n hx hb (oc_27 0 shX12_kitchen_0) rfl (lvA1 hl) ?_
  refine lv_iconst (v := 0) hx hb (oc_3 1 (aq_1 shX12_kitchen_0)) kic_0 ?_
  refine lv_bipush (v := 99) hx hb (oc_16 2 (aq_2 shX12_kitchen_0) sgb_99) kbc_99 ?_
  refine vp_callSi (runS_r (As := [.int v0, .int 0, .int 99]) (rest := []) S (q_in l D cI cB cZ v0 0 99 ) kS_RX12_214 hK hP [] rfl ⟨Nat.le_of_ble_eq_true rfl, Nat.le_of_ble_eq_true rfl⟩ ⟨Nat.le_of_ble_eq_true rfl, Nat.le_of_ble_eq_true rfl⟩ rfl hl.1 rfl (Nat.le_of_ble_eq_true rfl) (oc_184 4 (aq_4 shX12_kitchen_0) uw_0_214)) (fun r_1 h_2 => ?_)
  rcases h_2 with ⟨rfl, h_2⟩ | ⟨rfl, h_2⟩
  ·
    have h_2 : 0 ≤ v0.toInt ∧ v0.toInt ≤ 99 := h_2
    refine lv_if_eq (tgt := 52) hx hb (oc_153 7 (aq_7 shX12_kitchen_0) sgw_0_45) rfl (fun h => absurd h cq_eq_1_0) (fun _ => ?_)
    refine lv_iload_n hx hb (oc_28 10 (aq_10 shX12_kitchen_0)) rfl (lvA2 hl) ?_
    refine lv_iconst (v := 0) hx hb (oc_3 11 (aq_11 shX12_kitchen_0)) kic_0 ?_
    refine lv_bipush (v := 99) hx hb (oc_16 12 (aq_12 shX12_kitchen_0) sgb_99) kbc_99 ?_
    refine vp_callSi (runS_r (As := [.int v1, .int 0, .int 99]) (rest := []) S (q_in l D cI cB cZ v1 0 99 ) kS_RX12_214 hK hP [] rfl ⟨Nat.le_of_ble_eq_true rfl, Nat.le_of_ble_eq_true rfl⟩ ⟨Nat.le_of_ble_eq_true rfl, Nat.le_of_ble_eq_true rfl⟩ rfl hl.1 rfl (Nat.le_of_ble_eq_true rfl) (oc_184 14 (aq_14 shX12_kitchen_0) uw_0_214)) (fun r_3 h_4 => ?_)
    rcases h_4 with ⟨rfl, h_4⟩ | ⟨rfl, h_4⟩
    ·
      have h_4 : 0 ≤ v1.toInt ∧ v1.toInt ≤ 99 := h_4
      refine lv_if_eq (tgt := 52) hx hb (oc_153 17 (aq_17 shX12_kitchen_0) sgw_0_35) rfl (fun h => absurd h cq_eq_1_0) (fun _ => ?_)
      refine lv_iload_n hx hb (oc_29 20 (aq_20 shX12_kitchen_0)) rfl (lvA3 hl) ?_
      refine lv_iconst (v := 0) hx hb (oc_3 21 (aq_21 shX12_kitchen_0)) kic_0 ?_
      refine lv_bipush (v := 50) hx hb (oc_16 22 (aq_22 shX12_kitchen_0) sgb_50) kbc_50 ?_
      refine vp_callSi (runS_r (As := [.int v2, .int 0, .int 50]) (rest := []) S (q_in l D cI cB cZ v2 0 50 ) kS_RX12_214 hK hP [] rfl ⟨Nat.le_of_ble_eq_true rfl, Nat.le_of_ble_eq_true rfl⟩ ⟨Nat.le_of_ble_eq_true rfl, Nat.le_of_ble_eq_true rfl⟩ rfl hl.1 rfl (Nat.le_of_ble_eq_true rfl) (oc_184 24 shX12_kitchen_24 uw_0_214)) (fun r_5 h_6 => ?_)
      rcases h_6 with ⟨rfl, h_6⟩ | ⟨rfl, h_6⟩
      ·
        have h_6 : 0 ≤ v2.toInt ∧ v2.toInt ≤ 50 := h_6
        refine lv_if_eq (tgt := 52) hx hb (oc_153 27 (aq_3 shX12_kitchen_24) sgw_0_25) rfl (fun h => absurd h cq_eq_1_0) (fun _ => ?_)
        refine lv_iload hx hb (oc_21 30 (aq_6 shX12_kitchen_24) ub_4) (lvA4 hl) ?_
        refine lv_bipush (v := 20) hx hb (oc_16 32 (aq_8 shX12_kitchen_24) sgb_20) kbc_20 ?_
        refine lv_sipush (v := 400) hx hb (oc_17 34 (aq_10 shX12_kitchen_24) sgw_1_144) (by decide) ?_
        refine vp_callSi (runS_r (As := [.int v3, .int 20, .int 400]) (rest := []) S (q_in l D cI cB cZ v3 20 400 ) kS_RX12_214 hK hP [] rfl ⟨Nat.le_of_ble_eq_true rfl, Nat.le_of_ble_eq_true rfl⟩ ⟨Nat.le_of_ble_eq_true rfl, Nat.le_of_ble_eq_true rfl⟩ rfl hl.1 rfl (Nat.le_of_ble_eq_true rfl) (oc_184 37 (aq_13 shX12_kitchen_24) uw_0_214)) (fun r_7 h_8 => ?_)
        rcases h_8 with ⟨rfl, h_8⟩ | ⟨rfl, h_8⟩
        ·
          have h_8 : 20 ≤ v3.toInt ∧ v3.toInt ≤ 400 := h_8
          refine lv_if_eq (tgt := 52) hx hb (oc_153 40 (aq_16 shX12_kitchen_24) sgw_0_12) rfl (fun h => absurd h cq_eq_1_0) (fun _ => ?_)
          refine lv_aload_n hx hb (oc_42 43 (aq_19 shX12_kitchen_24)) rfl (lvA0 hl) ?_
          refine gM_204 S hK hP (v := .int (nI (cn 1))) rfl (oc_180 44 (aq_20 shX12_kitchen_24) uw_0_204) ?_
          refine lv_bipush (v := 10) hx hb (oc_16 47 (aq_23 shX12_kitchen_24) sgb_10) kbc_10 ?_
          have : (nI (cn 1)).toInt = (((cn 1) : Nat) : Int) := nI_toInt (by (first | omega | (have zz0 := Hid.u hi_cn; omega)))
          refine lv_icmp_ne (tgt := 54) hx hb (oc_160 49 shX12_kitchen_49 sgw_0_5) rfl (fun c_9 => ?_) (fun c_9 => ?_)
          ·
            have tc_9 : ((nI (cn 1)).toInt : Int) ≠ 10 := fun q => c_9 (Int32.toInt_inj.mp q)
            refine lv_aload_n hx hb (oc_42 54 (aq_5 shX12_kitchen_49)) rfl (lvA0 hl) ?_
            refine gM_7 S hK hP (v := .ref (g 3)) rfl (oc_180 55 (aq_6 shX12_kitchen_49) uw_0_7) ?_
            refine lv_aload_n hx hb (oc_42 58 (aq_9 shX12_kitchen_49)) rfl (lvA0 hl) ?_
            refine gM_204 S hK hP (v := .int (nI (cn 1))) rfl (oc_180 59 (aq_10 shX12_kitchen_49) uw_0_204) ?_
            refine lv_iload_n hx hb (oc_27 62 (aq_13 shX12_kitchen_49)) rfl (lvA1 hl) ?_
            have kb_1 : (cn 1) < 10 := by (first | omega | (have zz0 := Hid.u hi_cn; omega))
            refine stM_3 hx hb hK hP hD hS (Fn2 := (va_up Fn 3 (upd (Fn 3) (cn 1) v0))) (vp_in_nI kb_1 (ltb rfl)) (nI_clamp (Nat.lt_trans kb_1 (ltb rfl))) rfl (oc_79 63 (aq_14 shX12_kitchen_49)) (fun H locs hP hD hS => ?_)
            refine lv_aload_n hx hb (oc_42 64 (aq_15 shX12_kitchen_49)) rfl (lvA0 hl) ?_
            refine gM_13 S hK hP (v := .ref (g 4)) rfl (oc_180 65 (aq_16 shX12_kitchen_49) uw_0_13) ?_
            refine lv_aload_n hx hb (oc_42 68 (aq_19 shX12_kitchen_49)) rfl (lvA0 hl) ?_
            refine gM_204 S hK hP (v := .int (nI (cn 1))) rfl (oc_180 69 (aq_20 shX12_kitchen_49) uw_0_204) ?_
            refine lv_iload_n hx hb (oc_28 72 (aq_23 shX12_kitchen_49)) rfl (lvA2 hl) ?_
            refine stM_4 hx hb hK hP hD hS (Fn2 := (va_up (va_up Fn 3 (upd (Fn 3) (cn 1) v0)) 4 (upd (Fn 4) (cn 1) v1))) (vp_in_nI kb_1 (ltb rfl)) (nI_clamp (Nat.lt_trans kb_1 (ltb rfl))) rfl (oc_79 73 shX12_kitchen_73) (fun H locs hP hD hS => ?_)
            refine lv_aload_n hx hb (oc_42 74 (aq_1 shX12_kitchen_73)) rfl (lvA0 hl) ?_
            refine gM_16 S hK hP (v := .ref (g 5)) rfl (oc_180 75 (aq_2 shX12_kitchen_73) uw_0_16) ?_
            refine lv_aload_n hx hb (oc_42 78 (aq_5 shX12_kitchen_73)) rfl (lvA0 hl) ?_
            refine gM_204 S hK hP (v := .int (nI (cn 1))) rfl (oc_180 79 (aq_6 shX12_kitchen_73) uw_0_204) ?_
            refine lv_iload_n hx hb (oc_29 82 (aq_9 shX12_kitchen_73)) rfl (lvA3 hl) ?_
            refine stM_5 hx hb hK hP hD hS (Fn2 := (va_up (va_up (va_up Fn 3 (upd (Fn 3) (cn 1) v0)) 4 (upd (Fn 4) (cn 1) v1)) 5 (upd (Fn 5) (cn 1) v2))) (vp_in_nI kb_1 (ltb rfl)) (nI_clamp (Nat.lt_trans kb_1 (ltb rfl))) rfl (oc_79 83 (aq_10 shX12_kitchen_73)) (fun H locs hP hD hS => ?_)
            refine lv_aload_n hx hb (oc_42 84 (aq_11 shX12_kitchen_73)) rfl (lvA0 hl) ?_
            refine gM_19 S hK hP (v := .ref (g 6)) rfl (oc_180 85 (aq_12 shX12_kitchen_73) uw_0_19) ?_
            refine lv_aload_n hx hb (oc_42 88 (aq_15 shX12_kitchen_73)) rfl (lvA0 hl) ?_
            refine gM_204 S hK hP (v := .int (nI (cn 1))) rfl (oc_180 89 (aq_16 shX12_kitchen_73) uw_0_204) ?_
            refine lv_iload hx hb (oc_21 92 (aq_19 shX12_kitchen_73) ub_4) (lvA4 hl) ?_
            refine stM_6 hx hb hK hP hD hS (Fn2 := (va_up (va_up (va_up (va_up Fn 3 (upd (Fn 3) (cn 1) v0)) 4 (upd (Fn 4) (cn 1) v1)) 5 (upd (Fn 5) (cn 1) v2)) 6 (upd (Fn 6) (cn 1) v3))) (vp_in_nI kb_1 (ltb rfl)) (nI_clamp (Nat.lt_trans kb_1 (ltb rfl))) rfl (oc_79 94 (aq_21 shX12_kitchen_73)) (fun H locs hP hD hS => ?_)
            refine lv_aload_n hx hb (oc_42 95 (aq_22 shX12_kitchen_73)) rfl (lvA0 hl) ?_
            refine lv_aload_n hx hb (oc_42 96 (aq_23 shX12_kitchen_73)) rfl (lvA0 hl) ?_
            refine gM_204 S hK hP (v := .int (nI (cn 1))) rfl (oc_180 97 shX12_kitchen_97 uw_0_204) ?_
            refine lv_iconst (v := 1) hx hb (oc_4 100 (aq_3 shX12_kitchen_97)) kic_1 ?_
            refine lv_iadd hx hb (oc_96 101 (aq_4 shX12_kitchen_97)) ?_
            refine lv_topi (fun y_10 ey_10 => ?_)
            obtain rfl : y_10 = (nI ((cn 1) + 1)) := ey_10.trans (nI_add (cn 1) 1)
            refine pM_204 S hK hP hD hS (a := ((cn 1) + 1)) (cn2 := (va_up cn 1 ((cn 1) + 1))) rfl rfl (oc_181 102 (aq_5 shX12_kitchen_97) uw_0_204) (fun H locs hP hD hS => ?_)
            refine lv_aload_n hx hb (oc_42 105 (aq_8 shX12_kitchen_97)) rfl (lvA0 hl) ?_
            refine gM_204 S hK hP (v := .int (nI ((cn 1) + 1))) rfl (oc_180 106 (aq_9 shX12_kitchen_97) uw_0_204) ?_
            refine lv_iconst (v := 1) hx hb (oc_4 109 (aq_12 shX12_kitchen_97)) kic_1 ?_
            refine lv_isub hx hb (oc_100 110 (aq_13 shX12_kitchen_97)) ?_
            refine lv_topi (fun y_11 ey_11 => ?_)
            obtain rfl : y_11 = (nI (cn 1)) := ey_11.trans (nI_pred _)
            exact W.iret (v := (nI (cn 1))) hx hb hr (fun t ht hW => ⟨⟨(nI (cn 1)), ((va_up cn 1 ((cn 1) + 1)), In, (va_up (va_up (va_up (va_up Fn 3 (upd (Fn 3) (cn 1) v0)) 4 (upd (Fn 4) (cn 1) v1)) 5 (upd (Fn 5) (cn 1) v2)) 6 (upd (Fn 6) (cn 1) v3))), rfl, (Or.inl ⟨by (first | omega | (have zz0 := Hid.u hi_cn; omega)), rfl, rfl, rfl, rfl⟩), by rw [ht]; exact hP, hD⟩, hS.F ht⟩) hS.2.2 (oc_172 111 (aq_14 shX12_kitchen_97))
          ·
            have tc_9 : ((nI (cn 1)).toInt : Int) = 10 := congrArg Int32.toInt c_9
            refine lv_iconst (v := (-1)) hx hb dX12_kitchen_52 kic_m1 ?_
            exact W.iret (v := (-1)) hx hb hr (fun t ht hW => ⟨⟨(-1), (cn, In, Fn), rfl, (Or.inr ⟨by (first | omega | (have zz0 := Hid.u hi_cn; omega)), rfl, rfl, rfl, rfl⟩), by rw [ht]; exact hP, hD⟩, hS.F ht⟩) hS.2.2 dX12_kitchen_53
        ·
          have h_8 : ¬ (20 ≤ v3.toInt ∧ v3.toInt ≤ 400) := h_8
          refine lv_if_eq (tgt := 52) hx hb (oc_153 40 (aq_16 shX12_kitchen_24) sgw_0_12) rfl (fun _ => ?_) (fun h => absurd h cq_eq_0_0)
          refine lv_iconst (v := (-1)) hx hb dX12_kitchen_52 kic_m1 ?_
          exact W.iret (v := (-1)) hx hb hr (fun t ht hW => ⟨⟨(-1), (cn, In, Fn), rfl, (Or.inr ⟨by (first | omega | (have zz0 := Hid.u hi_cn; omega)), rfl, rfl, rfl, rfl⟩), by rw [ht]; exact hP, hD⟩, hS.F ht⟩) hS.2.2 dX12_kitchen_53
      ·
        have h_6 : ¬ (0 ≤ v2.toInt ∧ v2.toInt ≤ 50) := h_6
        refine lv_if_eq (tgt := 52) hx hb (oc_153 27 (aq_3 shX12_kitchen_24) sgw_0_25) rfl (fun _ => ?_) (fun h => absurd h cq_eq_0_0)
        refine lv_iconst (v := (-1)) hx hb dX12_kitchen_52 kic_m1 ?_
        exact W.iret (v := (-1)) hx hb hr (fun t ht hW => ⟨⟨(-1), (cn, In, Fn), rfl, (Or.inr ⟨by (first | omega | (have zz0 := Hid.u hi_cn; omega)), rfl, rfl, rfl, rfl⟩), by rw [ht]; exact hP, hD⟩, hS.F ht⟩) hS.2.2 dX12_kitchen_53
    ·
      have h_4 : ¬ (0 ≤ v1.toInt ∧ v1.toInt ≤ 99) := h_4
      refine lv_if_eq (tgt := 52) hx hb (oc_153 17 (aq_17 shX12_kitchen_0) sgw_0_35) rfl (fun _ => ?_) (fun h => absurd h cq_eq_0_0)
      refine lv_iconst (v := (-1)) hx hb dX12_kitchen_52 kic_m1 ?_
      exact W.iret (v := (-1)) hx hb hr (fun t ht hW => ⟨⟨(-1), (cn, In, Fn), rfl, (Or.inr ⟨by (first | omega | (have zz0 := Hid.u hi_cn; omega)), rfl, rfl, rfl, rfl⟩), by rw [ht]; exact hP, hD⟩, hS.F ht⟩) hS.2.2 dX12_kitchen_53
  ·
    have h_2 : ¬ (0 ≤ v0.toInt ∧ v0.toInt ≤ 99) := h_2
    refine lv_if_eq (tgt := 52) hx hb (oc_153 7 (aq_7 shX12_kitchen_0) sgw_0_45) rfl (fun _ => ?_) (fun h => absurd h cq_eq_0_0)
    refine lv_iconst (v := (-1)) hx hb dX12_kitchen_52 kic_m1 ?_
    exact W.iret (v := (-1)) hx hb hr (fun t ht hW => ⟨⟨(-1), (cn, In, Fn), rfl, (Or.inr ⟨by (first | omega | (have zz0 := Hid.u hi_cn; omega)), rfl, rfl, rfl, rfl⟩), by rw [ht]; exact hP, hD⟩, hS.F ht⟩) hS.2.2 dX12_kitchen_53
end

section
theorem upd_self (f : Nat → Int32) (k : Nat) (x : Int32) : upd f k x k = x := by simp [upd]
/-- what is likely in kitchen k on day d -/
def lkM (Fn : Nat → Nat → Int32) (k : Nat) (d : Int32) : Int32 := if Fn 5 k * (d - Fn 7 k) < Fn 6 k then Fn 5 k * (d - Fn 7 k) else Fn 6 k
def lackM (sh l : Int32) : Int32 := if 0 < sh - l - sh / 10 then sh - l - sh / 10 else 0
def apM (x y u v : Int32) : Int32 := (if x < u then u - x else x - u) + (if y < v then v - y else y - v)
theorem ifl_t {α : Type} {a b : Int32} {x y : α} (h : a < b) : (if a < b then x else y) = x := if_pos h
theorem ifl_f {α : Type} {a b : Int32} {x y : α} (h : b ≤ a) : (if a < b then x else y) = y := if_neg (Int32.not_lt.mpr h)
theorem sh1 {k : Nat} (h : k ≤ 30) : (1 : Int32) <<< (nI k &&& 31) = nI (2 ^ k) := by
  have : ∀ j : Fin 31, (1 : Int32) <<< (nI j.val &&& 31) = nI (2 ^ j.val) := by decide +kernel
  exact this ⟨k, by omega⟩
theorem lcmp0 {a b : Int64} {y : Int32} (e : y = lg_cmp a b) : (y = 0 ↔ a = b) := by
  subst e
  unfold lg_cmp
  constructor
  · intro h
    split at h
    · exact absurd h (by decide)
    · split at h
      · rename_i q; exact q
      · exact absurd h (by decide)
  · intro h; subst h
    have : ¬ a > a := fun q => by have := Int64.lt_iff_toInt_lt.mp q; omega
    simp [this]

theorem cq_lt_3_0 : ¬((3 : Int32) < 0) := by decide
theorem cq_lt_2_0 : ¬((2 : Int32) < 0) := by decide
theorem cq_lt_1_0 : ¬((1 : Int32) < 0) := by decide
theorem cq_lt_0_0 : ¬((0 : Int32) < 0) := by decide
theorem cq_lt_m1_0 : ¬¬((-1 : Int32) < (0)) := by decide

set_option maxRecDepth 100000 in
set_option maxHeartbeats 4000000 in
theorem q_likelyOn (l : Launch) (D : va_G) (cI cB cZ : ClassId) (g : Nat → Nat) (cn : Nat → Nat) (In : Nat → Int32) (Fn : Nat → Nat → Int32) (k : Nat) (v1 : Int32) (hI : IM cn Fn) (hk : k < 10) : Met l yX12_likelyOn (CWS yX12_likelyOn cX12_likelyOn 4 (some .int)) (RM 0 0 0) (PBr [.ref (g 100), .int (nI k), .int v1] D cI cB cZ (wM cI cB cZ g cn In Fn)) (vp_Si (fun r => r = lkM Fn k v1)) 0 0 (fun _ => False) := by
  refine en_r rfl pn_RX12 (Nat.le_of_ble_eq_true rfl) (fun p e s m below meth c hx hb hml hown S hr hlocks hnm hP hK hS ls hl => ?_)
  have hl : lv_has ls 4 [(0, .ref (g 100)), (1, .int (nI k)), (2, .int v1)] := hl
  have hi_cn : Hid (CB cn) := hI.b
  refine lv_aload_n hx hb (oc_42 0 shX12_likelyOn_0) rfl (lvA0 hl) ?_
  refine gM_16 S hK hP (v := .ref (g 5)) rfl (oc_180 1 (aq_1 shX12_likelyOn_0) uw_0_16) ?_
  refine lv_iload_n hx hb (oc_27 4 (aq_4 shX12_likelyOn_0)) rfl (lvA1 hl) ?_
  have kb_1 : k < 10 := by (first | omega | (have zz0 := Hid.u hi_cn; omega))
  refine ldM_5 hx hb hK hP (x := ((Fn 5) k)) (vp_in_nI kb_1 (ltb rfl)) (nI_clamp (Nat.lt_trans kb_1 (ltb rfl))) rfl (oc_46 5 (aq_5 shX12_likelyOn_0)) ?_
  refine lv_iload_n hx hb (oc_28 6 (aq_6 shX12_likelyOn_0)) rfl (lvA2 hl) ?_
  refine lv_aload_n hx hb (oc_42 7 (aq_7 shX12_likelyOn_0)) rfl (lvA0 hl) ?_
  refine gM_22 S hK hP (v := .ref (g 7)) rfl (oc_180 8 (aq_8 shX12_likelyOn_0) uw_0_22) ?_
  refine lv_iload_n hx hb (oc_27 11 (aq_11 shX12_likelyOn_0)) rfl (lvA1 hl) ?_
  have b_1 := hI.e7 k (by (first | omega | (have zz0 := Hid.u hi_cn; omega)))
  refine ldM_7 hx hb hK hP (x := ((Fn 7) k)) (vp_in_nI kb_1 (ltb rfl)) (nI_clamp (Nat.lt_trans kb_1 (ltb rfl))) rfl (oc_46 12 (aq_12 shX12_likelyOn_0)) ?_
  refine lv_isub hx hb (oc_100 13 (aq_13 shX12_likelyOn_0)) ?_
  refine lv_imul hx hb (oc_104 14 (aq_14 shX12_likelyOn_0)) ?_
  refine lv_istore_n (lv' := [(3, .int (((Fn 5) k) * (v1 - ((Fn 7) k)))), (0, .ref (g 100)), (1, .int (nI k)), (2, .int v1)]) hx hb (oc_62 15 (aq_15 shX12_likelyOn_0)) rfl hl (ltb rfl) rfl (fun ls hl => ?_)
  refine lv_iload_n hx hb (oc_29 16 (aq_16 shX12_likelyOn_0)) rfl (lvA0 hl) ?_
  refine lv_aload_n hx hb (oc_42 17 (aq_17 shX12_likelyOn_0)) rfl (lvA1 hl) ?_
  refine gM_19 S hK hP (v := .ref (g 6)) rfl (oc_180 18 (aq_18 shX12_likelyOn_0) uw_0_19) ?_
  refine lv_iload_n hx hb (oc_27 21 (aq_21 shX12_likelyOn_0)) rfl (lvA2 hl) ?_
  refine ldM_6 hx hb hK hP (x := ((Fn 6) k)) (vp_in_nI kb_1 (ltb rfl)) (nI_clamp (Nat.lt_trans kb_1 (ltb rfl))) rfl (oc_46 22 (aq_22 shX12_likelyOn_0)) ?_
  refine lv_icmp_ge (tgt := 30) hx hb (oc_162 23 (aq_23 shX12_likelyOn_0) sgw_0_7) rfl (fun c_2 => ?_) (fun c_2 => ?_)
  ·
    have tc_2 : (((Fn 6) k).toInt : Int) ≤ (((Fn 5) k) * (v1 - ((Fn 7) k))).toInt := Int32.le_iff_toInt_le.mp c_2
    refine lv_aload_n hx hb (oc_42 30 (aq_4 shX12_likelyOn_26)) rfl (lvA1 hl) ?_
    refine gM_19 S hK hP (v := .ref (g 6)) rfl (oc_180 31 (aq_5 shX12_likelyOn_26) uw_0_19) ?_
    refine lv_iload_n hx hb (oc_27 34 (aq_8 shX12_likelyOn_26)) rfl (lvA2 hl) ?_
    refine ldM_6 hx hb hK hP (x := ((Fn 6) k)) (vp_in_nI kb_1 (ltb rfl)) (nI_clamp (Nat.lt_trans kb_1 (ltb rfl))) rfl (oc_46 35 (aq_9 shX12_likelyOn_26)) ?_
    exact W.iret (v := ((Fn 6) k)) hx hb hr (fun t ht hW => ⟨((Fn 6) k), rfl, (by first | exact (ifl_t (by assumption)).symm | exact (ifl_f (by assumption)).symm | exact (ifl_t (Int32.not_le.mp (by assumption))).symm), ht⟩) (fun _ h => absurd h List.not_mem_nil) (oc_172 36 (aq_10 shX12_likelyOn_26))
  ·
    have tc_2 : ((((Fn 5) k) * (v1 - ((Fn 7) k))).toInt : Int) < ((Fn 6) k).toInt := Int32.lt_iff_toInt_lt.mp (Int32.not_le.mp c_2)
    refine lv_iload_n hx hb (oc_29 26 shX12_likelyOn_26) rfl (lvA0 hl) ?_
    refine lv_goto (tgt := 36) hx hb (oc_167 27 (aq_1 shX12_likelyOn_26) sgw_0_9) rfl ?_
    exact W.iret (v := (((Fn 5) k) * (v1 - ((Fn 7) k)))) hx hb hr (fun t ht hW => ⟨(((Fn 5) k) * (v1 - ((Fn 7) k))), rfl, (by first | exact (ifl_t (by assumption)).symm | exact (ifl_f (by assumption)).symm | exact (ifl_t (Int32.not_le.mp (by assumption))).symm), ht⟩) (fun _ h => absurd h List.not_mem_nil) (oc_172 36 (aq_10 shX12_likelyOn_26))
set_option maxRecDepth 100000 in
set_option maxHeartbeats 4000000 in
theorem q_likely (l : Launch) (D : va_G) (cI cB cZ : ClassId) (g : Nat → Nat) (cn : Nat → Nat) (In : Nat → Int32) (Fn : Nat → Nat → Int32) (v0 v1 : Int32) (hI : IM cn Fn) : Met l yX12_likely (CWS yX12_likely cX12_likely 3 (some .int)) (RM 1 0 0) (PBr [.ref (g 100), .int v0, .int v1] D cI cB cZ (wM cI cB cZ g cn In Fn)) (vp_Si (fun r => ((0 ≤ v0.toInt ∧ v0.toInt < (cn 1 : Int) ∧ (Fn 7 v0.toInt.toNat).toInt ≤ v1.toInt ∧ v1.toInt ≤ 399) ∧ r = lkM Fn v0.toInt.toNat v1) ∨ (¬ (0 ≤ v0.toInt ∧ v0.toInt < (cn 1 : Int) ∧ (Fn 7 v0.toInt.toNat).toInt ≤ v1.toInt ∧ v1.toInt ≤ 399) ∧ r = -1))) 0 0 (fun _ => False) := by
  refine en_r rfl pn_RX12 (Nat.le_of_ble_eq_true rfl) (fun p e s m below meth c hx hb hml hown S hr hlocks hnm hP hK hS ls hl => ?_)
  have hl : lv_has ls 3 [(0, .ref (g 100)), (1, .int v0), (2, .int v1)] := hl
  have hi_cn : Hid (CB cn) := hI.b
  refine lv_aload_n hx hb (oc_42 0 shX12_likely_0) rfl (lvA0 hl) ?_
  refine lv_iload_n hx hb (oc_27 1 (aq_1 shX12_likely_0)) rfl (lvA1 hl) ?_
  refine vp_callSi (runV_ra (As := [.int v0]) (rest := []) S (q_isKitchen l D cI cB cZ g cn In Fn v0 hI) kV_RX12_218 hK hP 0 rfl rfl rfl ⟨Nat.le_of_ble_eq_true rfl, Nat.le_of_ble_eq_true rfl⟩ ⟨Nat.le_of_ble_eq_true rfl, Nat.le_of_ble_eq_true rfl⟩ rfl hl.1 rfl (Nat.le_of_ble_eq_true rfl) (oc_182 2 (aq_2 shX12_likely_0) uw_0_218)) (fun r_1 h_2 => ?_)
  rcases h_2 with ⟨rfl, h_2⟩ | ⟨rfl, h_2⟩
  ·
    have h_2 : 0 ≤ v0.toInt ∧ v0.toInt < ((cn 1) : Int) := h_2
    refine lv_if_eq (tgt := 24) hx hb (oc_153 5 (aq_5 shX12_likely_0) sgw_0_19) rfl (fun h => absurd h cq_eq_1_0) (fun _ => ?_)
    obtain ⟨d0, hd0, rfl⟩ := nI_of (x := v0) (fun q => by have := Int32.lt_iff_toInt_lt.mp q; have e : (0 : Int32).toInt = 0 := rfl; (first | omega | (have zz0 := Hid.u hi_cn; omega)))
    have td0 : (nI d0).toInt = (d0 : Int) := nI_toInt hd0
    have zd0 : (nI d0).toInt.toNat = d0 := by (first | omega | (have zz0 := Hid.u hi_cn; omega))
    refine lv_iload_n hx hb (oc_28 8 (aq_8 shX12_likely_0)) rfl (lvA2 hl) ?_
    refine lv_aload_n hx hb (oc_42 9 (aq_9 shX12_likely_0)) rfl (lvA0 hl) ?_
    refine gM_22 S hK hP (v := .ref (g 7)) rfl (oc_180 10 (aq_10 shX12_likely_0) uw_0_22) ?_
    refine lv_iload_n hx hb (oc_27 13 (aq_13 shX12_likely_0)) rfl (lvA1 hl) ?_
    have kb_1 : d0 < 10 := by (first | omega | (have zz0 := Hid.u hi_cn; omega))
    have b_3 := hI.e7 d0 (by (first | omega | (have zz0 := Hid.u hi_cn; omega)))
    refine ldM_7 hx hb hK hP (x := ((Fn 7) d0)) (vp_in_nI kb_1 (ltb rfl)) (nI_clamp (Nat.lt_trans kb_1 (ltb rfl))) rfl (oc_46 14 (aq_14 shX12_likely_0)) ?_
    refine lv_sipush (v := 399) hx hb (oc_17 15 (aq_15 shX12_likely_0) sgw_1_143) (by decide) ?_
    refine vp_callSi (runS_r (As := [.int v1, .int ((Fn 7) d0), .int 399]) (rest := []) S (q_in l D cI cB cZ v1 ((Fn 7) d0) 399 ) kS_RX12_214 hK hP [] rfl ⟨Nat.le_of_ble_eq_true rfl, Nat.le_of_ble_eq_true rfl⟩ ⟨Nat.le_of_ble_eq_true rfl, Nat.le_of_ble_eq_true rfl⟩ rfl hl.1 rfl (Nat.le_of_ble_eq_true rfl) (oc_184 18 (aq_18 shX12_likely_0) uw_0_214)) (fun r_4 h_5 => ?_)
    rcases h_5 with ⟨rfl, h_5⟩ | ⟨rfl, h_5⟩
    ·
      have h_5 : ((Fn 7) d0).toInt ≤ v1.toInt ∧ v1.toInt ≤ 399 := h_5
      refine lv_if_ne (tgt := 28) hx hb (oc_154 21 (aq_21 shX12_likely_0) sgw_0_7) rfl (fun _ => ?_) (fun h => absurd h cq_eq_1_0)
      refine lv_aload_n hx hb (oc_42 28 (aq_4 shX12_likely_24)) rfl (lvA0 hl) ?_
      refine lv_iload_n hx hb (oc_27 29 (aq_5 shX12_likely_24)) rfl (lvA1 hl) ?_
      refine lv_iload_n hx hb (oc_28 30 (aq_6 shX12_likely_24)) rfl (lvA2 hl) ?_
      refine vp_callSi (runV_ra (As := [.int (nI d0), .int v1]) (rest := []) S (q_likelyOn l D cI cB cZ g cn In Fn d0 v1 hI (by (first | omega | (have zz0 := Hid.u hi_cn; omega)))) kV_RX12_222 hK hP 0 rfl rfl rfl ⟨Nat.le_of_ble_eq_true rfl, Nat.le_of_ble_eq_true rfl⟩ ⟨Nat.le_of_ble_eq_true rfl, Nat.le_of_ble_eq_true rfl⟩ rfl hl.1 rfl (Nat.le_of_ble_eq_true rfl) (oc_182 31 (aq_7 shX12_likely_24) uw_0_222)) (fun r_6 h_7 => ?_)
      subst h_7
      exact W.iret (v := (lkM Fn d0 v1)) hx hb hr (fun t ht hW => ⟨(lkM Fn d0 v1), rfl, (Or.inl ⟨(by first | (first | omega | (have zz0 := Hid.u hi_cn; omega)) | (simp only [zd0]; (first | omega | (have zz0 := Hid.u hi_cn; omega)))), by rw [zd0]⟩), ht⟩) (fun _ h => absurd h List.not_mem_nil) (oc_172 34 (aq_10 shX12_likely_24))
    ·
      have h_5 : ¬ (((Fn 7) d0).toInt ≤ v1.toInt ∧ v1.toInt ≤ 399) := h_5
      refine lv_if_ne (tgt := 28) hx hb (oc_154 21 (aq_21 shX12_likely_0) sgw_0_7) rfl (fun h => absurd h cq_eq_0_0) (fun _ => ?_)
      refine lv_iconst (v := (-1)) hx hb (oc_2 24 shX12_likely_24) kic_m1 ?_
      refine lv_goto (tgt := 34) hx hb (oc_167 25 (aq_1 shX12_likely_24) sgw_0_9) rfl ?_
      exact W.iret (v := (-1)) hx hb hr (fun t ht hW => ⟨(-1), rfl, (Or.inr ⟨(by first | (first | omega | (have zz0 := Hid.u hi_cn; omega)) | (simp only [zd0]; (first | omega | (have zz0 := Hid.u hi_cn; omega)))), rfl⟩), ht⟩) (fun _ h => absurd h List.not_mem_nil) (oc_172 34 (aq_10 shX12_likely_24))
  ·
    have h_2 : ¬ (0 ≤ v0.toInt ∧ v0.toInt < ((cn 1) : Int)) := h_2
    refine lv_if_eq (tgt := 24) hx hb (oc_153 5 (aq_5 shX12_likely_0) sgw_0_19) rfl (fun _ => ?_) (fun h => absurd h cq_eq_0_0)
    refine lv_iconst (v := (-1)) hx hb (oc_2 24 shX12_likely_24) kic_m1 ?_
    refine lv_goto (tgt := 34) hx hb (oc_167 25 (aq_1 shX12_likely_24) sgw_0_9) rfl ?_
    exact W.iret (v := (-1)) hx hb hr (fun t ht hW => ⟨(-1), rfl, (Or.inr ⟨(by first | (first | omega | (have zz0 := Hid.u hi_cn; omega)) | (simp only [zd0]; (first | omega | (have zz0 := Hid.u hi_cn; omega)))), rfl⟩), ht⟩) (fun _ h => absurd h List.not_mem_nil) (oc_172 34 (aq_10 shX12_likely_24))
set_option maxRecDepth 100000 in
set_option maxHeartbeats 4000000 in
theorem q_fetch (l : Launch) (D : va_G) (cI cB cZ : ClassId) (g : Nat → Nat) (cn : Nat → Nat) (In : Nat → Int32) (Fn : Nat → Nat → Int32) (v0 v1 v2 v3 v4 v5 : Int32) (sz : Nat) (hI : IM cn Fn) : Met l yX12_fetch (CWS yX12_fetch cX12_fetch 9 (some .int)) (RM 1 0 0) (PBw [.ref (g 100), .int v0, .int v1, .int v2, .int v3, .int v4, .int v5] D cI cB cZ (wM cI cB cZ g cn In Fn) sz) (va_Qi (fun (r : Int32) (u : (Nat → Nat) × (Nat → Int32) × (Nat → Nat → Int32)) => (fun r c2 I2 F2 => ((0 ≤ v0.toInt ∧ v0.toInt < (cn 1 : Int) ∧ (Fn 7 v0.toInt.toNat).toInt ≤ v1.toInt ∧ v1.toInt ≤ (cn 0 : Int) ∧ (0 ≤ v2.toInt ∧ v2.toInt ≤ 400) ∧ (0 ≤ v3.toInt ∧ v3.toInt ≤ 1000) ∧ (0 ≤ v4.toInt ∧ v4.toInt ≤ 1000) ∧ v1.toInt ≤ v5.toInt ∧ v5.toInt ≤ 399 ∧ cn 2 < 60) ∧ r = nI (cn 2) ∧ c2 = va_up cn 2 (cn 2 + 1) ∧ I2 = In ∧ F2 = (va_up (va_up (va_up (va_up (va_up (va_up (va_up (va_up (va_up (va_up Fn 8 (upd (Fn 8) (cn 2) v0)) 9 (upd (Fn 9) (cn 2) v1)) 10 (upd (Fn 10) (cn 2) v2)) 11 (upd (Fn 11) (cn 2) v3)) 12 (upd (Fn 12) (cn 2) v4)) 13 (upd (Fn 13) (cn 2) v5)) 14 (upd (Fn 14) (cn 2) (lackM (lkM Fn v0.toInt.toNat v1) v2))) 15 (upd (Fn 15) (cn 2) (-1))) 16 (upd (Fn 16) (cn 2) (Fn 7 v0.toInt.toNat))) 7 (upd (Fn 7) v0.toInt.toNat v1))) ∨ ((¬ (0 ≤ v0.toInt ∧ v0.toInt < (cn 1 : Int) ∧ (Fn 7 v0.toInt.toNat).toInt ≤ v1.toInt ∧ v1.toInt ≤ (cn 0 : Int) ∧ (0 ≤ v2.toInt ∧ v2.toInt ≤ 400) ∧ (0 ≤ v3.toInt ∧ v3.toInt ≤ 1000) ∧ (0 ≤ v4.toInt ∧ v4.toInt ≤ 1000) ∧ v1.toInt ≤ v5.toInt ∧ v5.toInt ≤ 399 ∧ cn 2 < 60)) ∧ r = -1 ∧ c2 = cn ∧ I2 = In ∧ F2 = Fn)) r u.1 u.2.1 u.2.2) (fun (u : (Nat → Nat) × (Nat → Int32) × (Nat → Nat → Int32)) (t : State) => va_P D vwCl (wM cI cB cZ g u.1 u.2.1 u.2.2) t.heap ∧ va_D (va_A (wM cI cB cZ g cn In Fn) sz) (wM cI cB cZ g u.1 u.2.1 u.2.2)) (va_A (wM cI cB cZ g cn In Fn) sz)) 0 0 (va_A (wM cI cB cZ g cn In Fn) sz) := by
  refine en_w (fun A => (va_Qi (fun (r : Int32) (u : (Nat → Nat) × (Nat → Int32) × (Nat → Nat → Int32)) => (fun (r : Int32) (c2 : Nat → Nat) (I2 : Nat → Int32) (F2 : Nat → Nat → Int32) => ((0 ≤ v0.toInt ∧ v0.toInt < (cn 1 : Int) ∧ (Fn 7 v0.toInt.toNat).toInt ≤ v1.toInt ∧ v1.toInt ≤ (cn 0 : Int) ∧ (0 ≤ v2.toInt ∧ v2.toInt ≤ 400) ∧ (0 ≤ v3.toInt ∧ v3.toInt ≤ 1000) ∧ (0 ≤ v4.toInt ∧ v4.toInt ≤ 1000) ∧ v1.toInt ≤ v5.toInt ∧ v5.toInt ≤ 399 ∧ cn 2 < 60) ∧ r = nI (cn 2) ∧ c2 = va_up cn 2 (cn 2 + 1) ∧ I2 = In ∧ F2 = (va_up (va_up (va_up (va_up (va_up (va_up (va_up (va_up (va_up (va_up Fn 8 (upd (Fn 8) (cn 2) v0)) 9 (upd (Fn 9) (cn 2) v1)) 10 (upd (Fn 10) (cn 2) v2)) 11 (upd (Fn 11) (cn 2) v3)) 12 (upd (Fn 12) (cn 2) v4)) 13 (upd (Fn 13) (cn 2) v5)) 14 (upd (Fn 14) (cn 2) (lackM (lkM Fn v0.toInt.toNat v1) v2))) 15 (upd (Fn 15) (cn 2) (-1))) 16 (upd (Fn 16) (cn 2) (Fn 7 v0.toInt.toNat))) 7 (upd (Fn 7) v0.toInt.toNat v1))) ∨ ((¬ (0 ≤ v0.toInt ∧ v0.toInt < (cn 1 : Int) ∧ (Fn 7 v0.toInt.toNat).toInt ≤ v1.toInt ∧ v1.toInt ≤ (cn 0 : Int) ∧ (0 ≤ v2.toInt ∧ v2.toInt ≤ 400) ∧ (0 ≤ v3.toInt ∧ v3.toInt ≤ 1000) ∧ (0 ≤ v4.toInt ∧ v4.toInt ≤ 1000) ∧ v1.toInt ≤ v5.toInt ∧ v5.toInt ≤ 399 ∧ cn 2 < 60)) ∧ r = -1 ∧ c2 = cn ∧ I2 = In ∧ F2 = Fn)) r u.1 u.2.1 u.2.2) (fun (u : (Nat → Nat) × (Nat → Int32) × (Nat → Nat → Int32)) (t : State) => va_P D vwCl (wM cI cB cZ g u.1 u.2.1 u.2.2) t.heap ∧ va_D A (wM cI cB cZ g u.1 u.2.1 u.2.2)) A)) rfl rfl pn_RX12 (Nat.le_of_ble_eq_true rfl) (fun p e s m below meth c A hx hb hml hown S hr hlocks hnm hA hP hK hD hS ls hl => ?_)
  have hl : lv_has ls 9 [(0, .ref (g 100)), (1, .int v0), (2, .int v1), (3, .int v2), (4, .int v3), (5, .int v4), (6, .int v5)] := hl
  have hi_cn : Hid (CB cn) := hI.b
  refine lv_aload_n hx hb (oc_42 0 shX12_fetch_0) rfl (lvA0 hl) ?_
  refine lv_iload_n hx hb (oc_27 1 (aq_1 shX12_fetch_0)) rfl (lvA1 hl) ?_
  refine vp_callSi (runV_ra (As := [.int v0]) (rest := []) S (q_isKitchen l D cI cB cZ g cn In Fn v0 hI) kV_RX12_218 hK hP 0 rfl rfl rfl ⟨Nat.le_of_ble_eq_true rfl, Nat.le_of_ble_eq_true rfl⟩ ⟨Nat.le_of_ble_eq_true rfl, Nat.le_of_ble_eq_true rfl⟩ rfl hl.1 rfl (Nat.le_of_ble_eq_true rfl) (oc_182 2 (aq_2 shX12_fetch_0) uw_0_218)) (fun r_1 h_2 => ?_)
  rcases h_2 with ⟨rfl, h_2⟩ | ⟨rfl, h_2⟩
  ·
    have h_2 : 0 ≤ v0.toInt ∧ v0.toInt < ((cn 1) : Int) := h_2
    refine lv_if_eq (tgt := 81) hx hb (oc_153 5 (aq_5 shX12_fetch_0) sgw_0_76) rfl (fun h => absurd h cq_eq_1_0) (fun _ => ?_)
    obtain ⟨d0, hd0, rfl⟩ := nI_of (x := v0) (fun q => by have := Int32.lt_iff_toInt_lt.mp q; have e : (0 : Int32).toInt = 0 := rfl; (first | omega | (have zz0 := Hid.u hi_cn; omega)))
    have td0 : (nI d0).toInt = (d0 : Int) := nI_toInt hd0
    have zd0 : (nI d0).toInt.toNat = d0 := by (first | omega | (have zz0 := Hid.u hi_cn; omega))
    refine lv_iload_n hx hb (oc_28 8 (aq_8 shX12_fetch_0)) rfl (lvA2 hl) ?_
    refine lv_aload_n hx hb (oc_42 9 (aq_9 shX12_fetch_0)) rfl (lvA0 hl) ?_
    refine gM_22 S hK hP (v := .ref (g 7)) rfl (oc_180 10 (aq_10 shX12_fetch_0) uw_0_22) ?_
    refine lv_iload_n hx hb (oc_27 13 (aq_13 shX12_fetch_0)) rfl (lvA1 hl) ?_
    have kb_1 : d0 < 10 := by (first | omega | (have zz0 := Hid.u hi_cn; omega))
    have b_3 := hI.e7 d0 (by (first | omega | (have zz0 := Hid.u hi_cn; omega)))
    refine ldM_7 hx hb hK hP (x := ((Fn 7) d0)) (vp_in_nI kb_1 (ltb rfl)) (nI_clamp (Nat.lt_trans kb_1 (ltb rfl))) rfl (oc_46 14 (aq_14 shX12_fetch_0)) ?_
    refine lv_aload_n hx hb (oc_42 15 (aq_15 shX12_fetch_0)) rfl (lvA0 hl) ?_
    refine gM_211 S hK hP (v := .int (nI (cn 0))) rfl (oc_180 16 (aq_16 shX12_fetch_0) uw_0_211) ?_
    refine vp_callSi (runS_r (As := [.int v1, .int ((Fn 7) d0), .int (nI (cn 0))]) (rest := []) S (q_in l D cI cB cZ v1 ((Fn 7) d0) (nI (cn 0)) ) kS_RX12_214 hK hP [] rfl ⟨Nat.le_of_ble_eq_true rfl, Nat.le_of_ble_eq_true rfl⟩ ⟨Nat.le_of_ble_eq_true rfl, Nat.le_of_ble_eq_true rfl⟩ rfl hl.1 rfl (Nat.le_of_ble_eq_true rfl) (oc_184 19 (aq_19 shX12_fetch_0) uw_0_214)) (fun r_4 h_5 => ?_)
    have : (nI (cn 0)).toInt = (((cn 0) : Nat) : Int) := nI_toInt (by (first | omega | (have zz0 := Hid.u hi_cn; omega)))
    rcases h_5 with ⟨rfl, h_5⟩ | ⟨rfl, h_5⟩
    ·
      have h_5 : ((Fn 7) d0).toInt ≤ v1.toInt ∧ v1.toInt ≤ (nI (cn 0)).toInt := h_5
      refine lv_if_eq (tgt := 81) hx hb (oc_153 22 (aq_22 shX12_fetch_0) sgw_0_59) rfl (fun h => absurd h cq_eq_1_0) (fun _ => ?_)
      refine lv_iload_n hx hb (oc_29 25 shX12_fetch_25) rfl (lvA3 hl) ?_
      refine lv_iconst (v := 0) hx hb (oc_3 26 (aq_1 shX12_fetch_25)) kic_0 ?_
      refine lv_sipush (v := 400) hx hb (oc_17 27 (aq_2 shX12_fetch_25) sgw_1_144) (by decide) ?_
      refine vp_callSi (runS_r (As := [.int v2, .int 0, .int 400]) (rest := []) S (q_in l D cI cB cZ v2 0 400 ) kS_RX12_214 hK hP [] rfl ⟨Nat.le_of_ble_eq_true rfl, Nat.le_of_ble_eq_true rfl⟩ ⟨Nat.le_of_ble_eq_true rfl, Nat.le_of_ble_eq_true rfl⟩ rfl hl.1 rfl (Nat.le_of_ble_eq_true rfl) (oc_184 30 (aq_5 shX12_fetch_25) uw_0_214)) (fun r_6 h_7 => ?_)
      rcases h_7 with ⟨rfl, h_7⟩ | ⟨rfl, h_7⟩
      ·
        have h_7 : 0 ≤ v2.toInt ∧ v2.toInt ≤ 400 := h_7
        refine lv_if_eq (tgt := 81) hx hb (oc_153 33 (aq_8 shX12_fetch_25) sgw_0_48) rfl (fun h => absurd h cq_eq_1_0) (fun _ => ?_)
        refine lv_iload hx hb (oc_21 36 (aq_11 shX12_fetch_25) ub_4) (lvA4 hl) ?_
        refine lv_iconst (v := 0) hx hb (oc_3 38 (aq_13 shX12_fetch_25)) kic_0 ?_
        refine lv_sipush (v := 1000) hx hb (oc_17 39 (aq_14 shX12_fetch_25) sgw_3_232) (by decide) ?_
        refine vp_callSi (runS_r (As := [.int v3, .int 0, .int 1000]) (rest := []) S (q_in l D cI cB cZ v3 0 1000 ) kS_RX12_214 hK hP [] rfl ⟨Nat.le_of_ble_eq_true rfl, Nat.le_of_ble_eq_true rfl⟩ ⟨Nat.le_of_ble_eq_true rfl, Nat.le_of_ble_eq_true rfl⟩ rfl hl.1 rfl (Nat.le_of_ble_eq_true rfl) (oc_184 42 (aq_17 shX12_fetch_25) uw_0_214)) (fun r_8 h_9 => ?_)
        rcases h_9 with ⟨rfl, h_9⟩ | ⟨rfl, h_9⟩
        ·
          have h_9 : 0 ≤ v3.toInt ∧ v3.toInt ≤ 1000 := h_9
          refine lv_if_eq (tgt := 81) hx hb (oc_153 45 (aq_20 shX12_fetch_25) sgw_0_36) rfl (fun h => absurd h cq_eq_1_0) (fun _ => ?_)
          refine lv_iload hx hb (oc_21 48 (aq_23 shX12_fetch_25) ub_5) (lvA5 hl) ?_
          refine lv_iconst (v := 0) hx hb (oc_3 50 shX12_fetch_50) kic_0 ?_
          refine lv_sipush (v := 1000) hx hb (oc_17 51 (aq_1 shX12_fetch_50) sgw_3_232) (by decide) ?_
          refine vp_callSi (runS_r (As := [.int v4, .int 0, .int 1000]) (rest := []) S (q_in l D cI cB cZ v4 0 1000 ) kS_RX12_214 hK hP [] rfl ⟨Nat.le_of_ble_eq_true rfl, Nat.le_of_ble_eq_true rfl⟩ ⟨Nat.le_of_ble_eq_true rfl, Nat.le_of_ble_eq_true rfl⟩ rfl hl.1 rfl (Nat.le_of_ble_eq_true rfl) (oc_184 54 (aq_4 shX12_fetch_50) uw_0_214)) (fun r_10 h_11 => ?_)
          rcases h_11 with ⟨rfl, h_11⟩ | ⟨rfl, h_11⟩
          ·
            have h_11 : 0 ≤ v4.toInt ∧ v4.toInt ≤ 1000 := h_11
            refine lv_if_eq (tgt := 81) hx hb (oc_153 57 (aq_7 shX12_fetch_50) sgw_0_24) rfl (fun h => absurd h cq_eq_1_0) (fun _ => ?_)
            refine lv_iload hx hb (oc_21 60 (aq_10 shX12_fetch_50) ub_6) (lvA6 hl) ?_
            refine lv_iload_n hx hb (oc_28 62 (aq_12 shX12_fetch_50)) rfl (lvA2 hl) ?_
            refine lv_sipush (v := 399) hx hb (oc_17 63 (aq_13 shX12_fetch_50) sgw_1_143) (by decide) ?_
            refine vp_callSi (runS_r (As := [.int v5, .int v1, .int 399]) (rest := []) S (q_in l D cI cB cZ v5 v1 399 ) kS_RX12_214 hK hP [] rfl ⟨Nat.le_of_ble_eq_true rfl, Nat.le_of_ble_eq_true rfl⟩ ⟨Nat.le_of_ble_eq_true rfl, Nat.le_of_ble_eq_true rfl⟩ rfl hl.1 rfl (Nat.le_of_ble_eq_true rfl) (oc_184 66 (aq_16 shX12_fetch_50) uw_0_214)) (fun r_12 h_13 => ?_)
            rcases h_13 with ⟨rfl, h_13⟩ | ⟨rfl, h_13⟩
            ·
              have h_13 : v1.toInt ≤ v5.toInt ∧ v5.toInt ≤ 399 := h_13
              refine lv_if_eq (tgt := 81) hx hb (oc_153 69 (aq_19 shX12_fetch_50) sgw_0_12) rfl (fun h => absurd h cq_eq_1_0) (fun _ => ?_)
              refine lv_aload_n hx hb (oc_42 72 (aq_22 shX12_fetch_50)) rfl (lvA0 hl) ?_
              refine gM_208 S hK hP (v := .int (nI (cn 2))) rfl (oc_180 73 (aq_23 shX12_fetch_50) uw_0_208) ?_
              refine lv_bipush (v := 60) hx hb (oc_16 76 shX12_fetch_76 sgb_60) kbc_60 ?_
              have : (nI (cn 2)).toInt = (((cn 2) : Nat) : Int) := nI_toInt (by (first | omega | (have zz0 := Hid.u hi_cn; omega)))
              refine lv_icmp_ne (tgt := 83) hx hb (oc_160 78 (aq_2 shX12_fetch_76) sgw_0_5) rfl (fun c_14 => ?_) (fun c_14 => ?_)
              ·
                have tc_14 : ((nI (cn 2)).toInt : Int) ≠ 60 := fun q => c_14 (Int32.toInt_inj.mp q)
                refine lv_aload_n hx hb (oc_42 83 (aq_7 shX12_fetch_76)) rfl (lvA0 hl) ?_
                refine lv_iload_n hx hb (oc_27 84 (aq_8 shX12_fetch_76)) rfl (lvA1 hl) ?_
                refine lv_iload_n hx hb (oc_28 85 (aq_9 shX12_fetch_76)) rfl (lvA2 hl) ?_
                refine vp_callSi (runV_ra (As := [.int (nI d0), .int v1]) (rest := []) S (q_likelyOn l D cI cB cZ g cn In Fn d0 v1 hI (by (first | omega | (have zz0 := Hid.u hi_cn; omega)))) kV_RX12_222 hK hP 0 rfl rfl rfl ⟨Nat.le_of_ble_eq_true rfl, Nat.le_of_ble_eq_true rfl⟩ ⟨Nat.le_of_ble_eq_true rfl, Nat.le_of_ble_eq_true rfl⟩ rfl hl.1 rfl (Nat.le_of_ble_eq_true rfl) (oc_182 86 (aq_10 shX12_fetch_76) uw_0_222)) (fun r_15 h_16 => ?_)
                subst h_16
                refine lv_istore (lv' := [(7, .int (lkM Fn d0 v1)), (0, .ref (g 100)), (1, .int (nI d0)), (2, .int v1), (3, .int v2), (4, .int v3), (5, .int v4), (6, .int v5)]) hx hb (oc_54 89 (aq_13 shX12_fetch_76) ub_7) hl (ltb rfl) rfl (fun ls hl => ?_)
                refine lv_iload hx hb (oc_21 91 (aq_15 shX12_fetch_76) ub_7) (lvA0 hl) ?_
                refine lv_iload_n hx hb (oc_29 93 (aq_17 shX12_fetch_76)) rfl (lvA4 hl) ?_
                refine lv_isub hx hb (oc_100 94 (aq_18 shX12_fetch_76)) ?_
                refine lv_iload hx hb (oc_21 95 (aq_19 shX12_fetch_76) ub_7) (lvA0 hl) ?_
                refine lv_bipush (v := 10) hx hb (oc_16 97 (aq_21 shX12_fetch_76) sgb_10) kbc_10 ?_
                refine lv_idiv hx hb (oc_108 99 (aq_23 shX12_fetch_76)) (by decide) ?_
                refine lv_isub hx hb (oc_100 100 shX12_fetch_100) ?_
                refine lv_istore (lv' := [(8, .int (((lkM Fn d0 v1) - v2) - ((lkM Fn d0 v1) / 10))), (7, .int (lkM Fn d0 v1)), (0, .ref (g 100)), (1, .int (nI d0)), (2, .int v1), (3, .int v2), (4, .int v3), (5, .int v4), (6, .int v5)]) hx hb (oc_54 101 (aq_1 shX12_fetch_100) ub_8) hl (ltb rfl) rfl (fun ls hl => ?_)
                refine lv_aload_n hx hb (oc_42 103 (aq_3 shX12_fetch_100)) rfl (lvA2 hl) ?_
                refine gM_25 S hK hP (v := .ref (g 8)) rfl (oc_180 104 (aq_4 shX12_fetch_100) uw_0_25) ?_
                refine lv_aload_n hx hb (oc_42 107 (aq_7 shX12_fetch_100)) rfl (lvA2 hl) ?_
                refine gM_208 S hK hP (v := .int (nI (cn 2))) rfl (oc_180 108 (aq_8 shX12_fetch_100) uw_0_208) ?_
                refine lv_iload_n hx hb (oc_27 111 (aq_11 shX12_fetch_100)) rfl (lvA3 hl) ?_
                have kb_2 : (cn 2) < 60 := by (first | omega | (have zz0 := Hid.u hi_cn; omega))
                refine stM_8 hx hb hK hP hD hS (Fn2 := (va_up Fn 8 (upd (Fn 8) (cn 2) (nI d0)))) (vp_in_nI kb_2 (ltb rfl)) (nI_clamp (Nat.lt_trans kb_2 (ltb rfl))) rfl (oc_79 112 (aq_12 shX12_fetch_100)) (fun H locs hP hD hS => ?_)
                refine lv_aload_n hx hb (oc_42 113 (aq_13 shX12_fetch_100)) rfl (lvA2 hl) ?_
                refine gM_28 S hK hP (v := .ref (g 9)) rfl (oc_180 114 (aq_14 shX12_fetch_100) uw_0_28) ?_
                refine lv_aload_n hx hb (oc_42 117 (aq_17 shX12_fetch_100)) rfl (lvA2 hl) ?_
                refine gM_208 S hK hP (v := .int (nI (cn 2))) rfl (oc_180 118 (aq_18 shX12_fetch_100) uw_0_208) ?_
                refine lv_iload_n hx hb (oc_28 121 (aq_21 shX12_fetch_100)) rfl (lvA4 hl) ?_
                refine stM_9 hx hb hK hP hD hS (Fn2 := (va_up (va_up Fn 8 (upd (Fn 8) (cn 2) (nI d0))) 9 (upd (Fn 9) (cn 2) v1))) (vp_in_nI kb_2 (ltb rfl)) (nI_clamp (Nat.lt_trans kb_2 (ltb rfl))) rfl (oc_79 122 (aq_22 shX12_fetch_100)) (fun H locs hP hD hS => ?_)
                refine lv_aload_n hx hb (oc_42 123 (aq_23 shX12_fetch_100)) rfl (lvA2 hl) ?_
                refine gM_31 S hK hP (v := .ref (g 10)) rfl (oc_180 124 shX12_fetch_124 uw_0_31) ?_
                refine lv_aload_n hx hb (oc_42 127 (aq_3 shX12_fetch_124)) rfl (lvA2 hl) ?_
                refine gM_208 S hK hP (v := .int (nI (cn 2))) rfl (oc_180 128 (aq_4 shX12_fetch_124) uw_0_208) ?_
                refine lv_iload_n hx hb (oc_29 131 (aq_7 shX12_fetch_124)) rfl (lvA5 hl) ?_
                refine stM_10 hx hb hK hP hD hS (Fn2 := (va_up (va_up (va_up Fn 8 (upd (Fn 8) (cn 2) (nI d0))) 9 (upd (Fn 9) (cn 2) v1)) 10 (upd (Fn 10) (cn 2) v2))) (vp_in_nI kb_2 (ltb rfl)) (nI_clamp (Nat.lt_trans kb_2 (ltb rfl))) rfl (oc_79 132 (aq_8 shX12_fetch_124)) (fun H locs hP hD hS => ?_)
                refine lv_aload_n hx hb (oc_42 133 (aq_9 shX12_fetch_124)) rfl (lvA2 hl) ?_
                refine gM_34 S hK hP (v := .ref (g 11)) rfl (oc_180 134 (aq_10 shX12_fetch_124) uw_0_34) ?_
                refine lv_aload_n hx hb (oc_42 137 (aq_13 shX12_fetch_124)) rfl (lvA2 hl) ?_
                refine gM_208 S hK hP (v := .int (nI (cn 2))) rfl (oc_180 138 (aq_14 shX12_fetch_124) uw_0_208) ?_
                refine lv_iload hx hb (oc_21 141 (aq_17 shX12_fetch_124) ub_4) (lvA6 hl) ?_
                refine stM_11 hx hb hK hP hD hS (Fn2 := (va_up (va_up (va_up (va_up Fn 8 (upd (Fn 8) (cn 2) (nI d0))) 9 (upd (Fn 9) (cn 2) v1)) 10 (upd (Fn 10) (cn 2) v2)) 11 (upd (Fn 11) (cn 2) v3))) (vp_in_nI kb_2 (ltb rfl)) (nI_clamp (Nat.lt_trans kb_2 (ltb rfl))) rfl (oc_79 143 (aq_19 shX12_fetch_124)) (fun H locs hP hD hS => ?_)
                refine lv_aload_n hx hb (oc_42 144 (aq_20 shX12_fetch_124)) rfl (lvA2 hl) ?_
                refine gM_37 S hK hP (v := .ref (g 12)) rfl (oc_180 145 (aq_21 shX12_fetch_124) uw_0_37) ?_
                refine lv_aload_n hx hb (oc_42 148 shX12_fetch_148) rfl (lvA2 hl) ?_
                refine gM_208 S hK hP (v := .int (nI (cn 2))) rfl (oc_180 149 (aq_1 shX12_fetch_148) uw_0_208) ?_
                refine lv_iload hx hb (oc_21 152 (aq_4 shX12_fetch_148) ub_5) (lvA7 hl) ?_
                refine stM_12 hx hb hK hP hD hS (Fn2 := (va_up (va_up (va_up (va_up (va_up Fn 8 (upd (Fn 8) (cn 2) (nI d0))) 9 (upd (Fn 9) (cn 2) v1)) 10 (upd (Fn 10) (cn 2) v2)) 11 (upd (Fn 11) (cn 2) v3)) 12 (upd (Fn 12) (cn 2) v4))) (vp_in_nI kb_2 (ltb rfl)) (nI_clamp (Nat.lt_trans kb_2 (ltb rfl))) rfl (oc_79 154 (aq_6 shX12_fetch_148)) (fun H locs hP hD hS => ?_)
                refine lv_aload_n hx hb (oc_42 155 (aq_7 shX12_fetch_148)) rfl (lvA2 hl) ?_
                refine gM_40 S hK hP (v := .ref (g 13)) rfl (oc_180 156 (aq_8 shX12_fetch_148) uw_0_40) ?_
                refine lv_aload_n hx hb (oc_42 159 (aq_11 shX12_fetch_148)) rfl (lvA2 hl) ?_
                refine gM_208 S hK hP (v := .int (nI (cn 2))) rfl (oc_180 160 (aq_12 shX12_fetch_148) uw_0_208) ?_
                refine lv_iload hx hb (oc_21 163 (aq_15 shX12_fetch_148) ub_6) (lvA8 hl) ?_
                refine stM_13 hx hb hK hP hD hS (Fn2 := (va_up (va_up (va_up (va_up (va_up (va_up Fn 8 (upd (Fn 8) (cn 2) (nI d0))) 9 (upd (Fn 9) (cn 2) v1)) 10 (upd (Fn 10) (cn 2) v2)) 11 (upd (Fn 11) (cn 2) v3)) 12 (upd (Fn 12) (cn 2) v4)) 13 (upd (Fn 13) (cn 2) v5))) (vp_in_nI kb_2 (ltb rfl)) (nI_clamp (Nat.lt_trans kb_2 (ltb rfl))) rfl (oc_79 165 (aq_17 shX12_fetch_148)) (fun H locs hP hD hS => ?_)
                refine lv_aload_n hx hb (oc_42 166 (aq_18 shX12_fetch_148)) rfl (lvA2 hl) ?_
                refine gM_43 S hK hP (v := .ref (g 14)) rfl (oc_180 167 (aq_19 shX12_fetch_148) uw_0_43) ?_
                refine lv_aload_n hx hb (oc_42 170 (aq_22 shX12_fetch_148)) rfl (lvA2 hl) ?_
                refine gM_208 S hK hP (v := .int (nI (cn 2))) rfl (oc_180 171 (aq_23 shX12_fetch_148) uw_0_208) ?_
                refine lv_iload hx hb (oc_21 174 shX12_fetch_174 ub_8) (lvA0 hl) ?_
                refine lv_if_le (tgt := 184) hx hb (oc_158 176 (aq_2 shX12_fetch_174) sgw_0_8) rfl (fun c_17 => ?_) (fun c_17 => ?_)
                ·
                  have tc_17 : ((((lkM Fn d0 v1) - v2) - ((lkM Fn d0 v1) / 10)).toInt : Int) ≤ 0 := Int32.le_iff_toInt_le.mp c_17
                  refine lv_iconst (v := 0) hx hb (oc_3 184 (aq_10 shX12_fetch_174)) kic_0 ?_
                  refine stM_14 hx hb hK hP hD hS (Fn2 := (va_up (va_up (va_up (va_up (va_up (va_up (va_up Fn 8 (upd (Fn 8) (cn 2) (nI d0))) 9 (upd (Fn 9) (cn 2) v1)) 10 (upd (Fn 10) (cn 2) v2)) 11 (upd (Fn 11) (cn 2) v3)) 12 (upd (Fn 12) (cn 2) v4)) 13 (upd (Fn 13) (cn 2) v5)) 14 (upd (Fn 14) (cn 2) 0))) (vp_in_nI kb_2 (ltb rfl)) (nI_clamp (Nat.lt_trans kb_2 (ltb rfl))) rfl (oc_79 185 (aq_11 shX12_fetch_174)) (fun H locs hP hD hS => ?_)
                  refine lv_aload_n hx hb (oc_42 186 (aq_12 shX12_fetch_174)) rfl (lvA2 hl) ?_
                  refine gM_46 S hK hP (v := .ref (g 15)) rfl (oc_180 187 (aq_13 shX12_fetch_174) uw_0_46) ?_
                  refine lv_aload_n hx hb (oc_42 190 (aq_16 shX12_fetch_174)) rfl (lvA2 hl) ?_
                  refine gM_208 S hK hP (v := .int (nI (cn 2))) rfl (oc_180 191 (aq_17 shX12_fetch_174) uw_0_208) ?_
                  refine lv_iconst (v := (-1)) hx hb (oc_2 194 (aq_20 shX12_fetch_174)) kic_m1 ?_
                  refine stM_15 hx hb hK hP hD hS (Fn2 := (va_up (va_up (va_up (va_up (va_up (va_up (va_up (va_up Fn 8 (upd (Fn 8) (cn 2) (nI d0))) 9 (upd (Fn 9) (cn 2) v1)) 10 (upd (Fn 10) (cn 2) v2)) 11 (upd (Fn 11) (cn 2) v3)) 12 (upd (Fn 12) (cn 2) v4)) 13 (upd (Fn 13) (cn 2) v5)) 14 (upd (Fn 14) (cn 2) 0)) 15 (upd (Fn 15) (cn 2) (-1)))) (vp_in_nI kb_2 (ltb rfl)) (nI_clamp (Nat.lt_trans kb_2 (ltb rfl))) rfl (oc_79 195 (aq_21 shX12_fetch_174)) (fun H locs hP hD hS => ?_)
                  refine lv_aload_n hx hb (oc_42 196 (aq_22 shX12_fetch_174)) rfl (lvA2 hl) ?_
                  refine gM_49 S hK hP (v := .ref (g 16)) rfl (oc_180 197 (aq_23 shX12_fetch_174) uw_0_49) ?_
                  refine lv_aload_n hx hb (oc_42 200 shX12_fetch_200) rfl (lvA2 hl) ?_
                  refine gM_208 S hK hP (v := .int (nI (cn 2))) rfl (oc_180 201 (aq_1 shX12_fetch_200) uw_0_208) ?_
                  refine lv_aload_n hx hb (oc_42 204 (aq_4 shX12_fetch_200)) rfl (lvA2 hl) ?_
                  refine gM_22 S hK hP (v := .ref (g 7)) rfl (oc_180 205 (aq_5 shX12_fetch_200) uw_0_22) ?_
                  refine lv_iload_n hx hb (oc_27 208 (aq_8 shX12_fetch_200)) rfl (lvA3 hl) ?_
                  have b_18 := hI.e7 d0 (by (first | omega | (have zz0 := Hid.u hi_cn; omega)))
                  refine ldM_7 hx hb hK hP (x := ((Fn 7) d0)) (vp_in_nI kb_1 (ltb rfl)) (nI_clamp (Nat.lt_trans kb_1 (ltb rfl))) rfl (oc_46 209 (aq_9 shX12_fetch_200)) ?_
                  refine stM_16 hx hb hK hP hD hS (Fn2 := (va_up (va_up (va_up (va_up (va_up (va_up (va_up (va_up (va_up Fn 8 (upd (Fn 8) (cn 2) (nI d0))) 9 (upd (Fn 9) (cn 2) v1)) 10 (upd (Fn 10) (cn 2) v2)) 11 (upd (Fn 11) (cn 2) v3)) 12 (upd (Fn 12) (cn 2) v4)) 13 (upd (Fn 13) (cn 2) v5)) 14 (upd (Fn 14) (cn 2) 0)) 15 (upd (Fn 15) (cn 2) (-1))) 16 (upd (Fn 16) (cn 2) ((Fn 7) d0)))) (vp_in_nI kb_2 (ltb rfl)) (nI_clamp (Nat.lt_trans kb_2 (ltb rfl))) rfl (oc_79 210 (aq_10 shX12_fetch_200)) (fun H locs hP hD hS => ?_)
                  refine lv_aload_n hx hb (oc_42 211 (aq_11 shX12_fetch_200)) rfl (lvA2 hl) ?_
                  refine gM_22 S hK hP (v := .ref (g 7)) rfl (oc_180 212 (aq_12 shX12_fetch_200) uw_0_22) ?_
                  refine lv_iload_n hx hb (oc_27 215 (aq_15 shX12_fetch_200)) rfl (lvA3 hl) ?_
                  refine lv_iload_n hx hb (oc_28 216 (aq_16 shX12_fetch_200)) rfl (lvA4 hl) ?_
                  refine stM_7 hx hb hK hP hD hS (Fn2 := (va_up (va_up (va_up (va_up (va_up (va_up (va_up (va_up (va_up (va_up Fn 8 (upd (Fn 8) (cn 2) (nI d0))) 9 (upd (Fn 9) (cn 2) v1)) 10 (upd (Fn 10) (cn 2) v2)) 11 (upd (Fn 11) (cn 2) v3)) 12 (upd (Fn 12) (cn 2) v4)) 13 (upd (Fn 13) (cn 2) v5)) 14 (upd (Fn 14) (cn 2) 0)) 15 (upd (Fn 15) (cn 2) (-1))) 16 (upd (Fn 16) (cn 2) ((Fn 7) d0))) 7 (upd (Fn 7) d0 v1))) (vp_in_nI kb_1 (ltb rfl)) (nI_clamp (Nat.lt_trans kb_1 (ltb rfl))) rfl (oc_79 217 (aq_17 shX12_fetch_200)) (fun H locs hP hD hS => ?_)
                  refine lv_aload_n hx hb (oc_42 218 (aq_18 shX12_fetch_200)) rfl (lvA2 hl) ?_
                  refine lv_aload_n hx hb (oc_42 219 (aq_19 shX12_fetch_200)) rfl (lvA2 hl) ?_
                  refine gM_208 S hK hP (v := .int (nI (cn 2))) rfl (oc_180 220 (aq_20 shX12_fetch_200) uw_0_208) ?_
                  refine lv_iconst (v := 1) hx hb (oc_4 223 (aq_23 shX12_fetch_200)) kic_1 ?_
                  refine lv_iadd hx hb (oc_96 224 shX12_fetch_224) ?_
                  refine lv_topi (fun y_19 ey_19 => ?_)
                  obtain rfl : y_19 = (nI ((cn 2) + 1)) := ey_19.trans (nI_add (cn 2) 1)
                  refine pM_208 S hK hP hD hS (a := ((cn 2) + 1)) (cn2 := (va_up cn 2 ((cn 2) + 1))) rfl rfl (oc_181 225 (aq_1 shX12_fetch_224) uw_0_208) (fun H locs hP hD hS => ?_)
                  refine lv_aload_n hx hb (oc_42 228 (aq_4 shX12_fetch_224)) rfl (lvA2 hl) ?_
                  refine gM_208 S hK hP (v := .int (nI ((cn 2) + 1))) rfl (oc_180 229 (aq_5 shX12_fetch_224) uw_0_208) ?_
                  refine lv_iconst (v := 1) hx hb (oc_4 232 (aq_8 shX12_fetch_224)) kic_1 ?_
                  refine lv_isub hx hb (oc_100 233 (aq_9 shX12_fetch_224)) ?_
                  refine lv_topi (fun y_20 ey_20 => ?_)
                  obtain rfl : y_20 = (nI (cn 2)) := ey_20.trans (nI_pred _)
                  exact W.iret (v := (nI (cn 2))) hx hb hr (fun t ht hW => ⟨⟨(nI (cn 2)), ((va_up cn 2 ((cn 2) + 1)), In, (va_up (va_up (va_up (va_up (va_up (va_up (va_up (va_up (va_up (va_up Fn 8 (upd (Fn 8) (cn 2) (nI d0))) 9 (upd (Fn 9) (cn 2) v1)) 10 (upd (Fn 10) (cn 2) v2)) 11 (upd (Fn 11) (cn 2) v3)) 12 (upd (Fn 12) (cn 2) v4)) 13 (upd (Fn 13) (cn 2) v5)) 14 (upd (Fn 14) (cn 2) 0)) 15 (upd (Fn 15) (cn 2) (-1))) 16 (upd (Fn 16) (cn 2) ((Fn 7) d0))) 7 (upd (Fn 7) d0 v1))), rfl, (Or.inl ⟨(by first | (first | omega | (have zz0 := Hid.u hi_cn; omega)) | (simp only [zd0]; (first | omega | (have zz0 := Hid.u hi_cn; omega)))), rfl, rfl, rfl, by simp only [zd0]; first | rw [lackM, if_pos (Int32.not_le.mp (by assumption))] | rw [lackM, if_neg (Int32.not_lt.mpr (by assumption))]⟩), by rw [ht]; exact hP, hD⟩, hS.F ht⟩) hS.2.2 (oc_172 234 (aq_10 shX12_fetch_224))
                ·
                  have tc_17 : (0 : Int) < (((lkM Fn d0 v1) - v2) - ((lkM Fn d0 v1) / 10)).toInt := Int32.lt_iff_toInt_lt.mp (Int32.not_le.mp c_17)
                  refine lv_iload hx hb (oc_21 179 (aq_5 shX12_fetch_174) ub_8) (lvA0 hl) ?_
                  refine lv_goto (tgt := 185) hx hb (oc_167 181 (aq_7 shX12_fetch_174) sgw_0_4) rfl ?_
                  refine stM_14 hx hb hK hP hD hS (Fn2 := (va_up (va_up (va_up (va_up (va_up (va_up (va_up Fn 8 (upd (Fn 8) (cn 2) (nI d0))) 9 (upd (Fn 9) (cn 2) v1)) 10 (upd (Fn 10) (cn 2) v2)) 11 (upd (Fn 11) (cn 2) v3)) 12 (upd (Fn 12) (cn 2) v4)) 13 (upd (Fn 13) (cn 2) v5)) 14 (upd (Fn 14) (cn 2) (((lkM Fn d0 v1) - v2) - ((lkM Fn d0 v1) / 10))))) (vp_in_nI kb_2 (ltb rfl)) (nI_clamp (Nat.lt_trans kb_2 (ltb rfl))) rfl (oc_79 185 (aq_11 shX12_fetch_174)) (fun H locs hP hD hS => ?_)
                  refine lv_aload_n hx hb (oc_42 186 (aq_12 shX12_fetch_174)) rfl (lvA2 hl) ?_
                  refine gM_46 S hK hP (v := .ref (g 15)) rfl (oc_180 187 (aq_13 shX12_fetch_174) uw_0_46) ?_
                  refine lv_aload_n hx hb (oc_42 190 (aq_16 shX12_fetch_174)) rfl (lvA2 hl) ?_
                  refine gM_208 S hK hP (v := .int (nI (cn 2))) rfl (oc_180 191 (aq_17 shX12_fetch_174) uw_0_208) ?_
                  refine lv_iconst (v := (-1)) hx hb (oc_2 194 (aq_20 shX12_fetch_174)) kic_m1 ?_
                  refine stM_15 hx hb hK hP hD hS (Fn2 := (va_up (va_up (va_up (va_up (va_up (va_up (va_up (va_up Fn 8 (upd (Fn 8) (cn 2) (nI d0))) 9 (upd (Fn 9) (cn 2) v1)) 10 (upd (Fn 10) (cn 2) v2)) 11 (upd (Fn 11) (cn 2) v3)) 12 (upd (Fn 12) (cn 2) v4)) 13 (upd (Fn 13) (cn 2) v5)) 14 (upd (Fn 14) (cn 2) (((lkM Fn d0 v1) - v2) - ((lkM Fn d0 v1) / 10)))) 15 (upd (Fn 15) (cn 2) (-1)))) (vp_in_nI kb_2 (ltb rfl)) (nI_clamp (Nat.lt_trans kb_2 (ltb rfl))) rfl (oc_79 195 (aq_21 shX12_fetch_174)) (fun H locs hP hD hS => ?_)
                  refine lv_aload_n hx hb (oc_42 196 (aq_22 shX12_fetch_174)) rfl (lvA2 hl) ?_
                  refine gM_49 S hK hP (v := .ref (g 16)) rfl (oc_180 197 (aq_23 shX12_fetch_174) uw_0_49) ?_
                  refine lv_aload_n hx hb (oc_42 200 shX12_fetch_200) rfl (lvA2 hl) ?_
                  refine gM_208 S hK hP (v := .int (nI (cn 2))) rfl (oc_180 201 (aq_1 shX12_fetch_200) uw_0_208) ?_
                  refine lv_aload_n hx hb (oc_42 204 (aq_4 shX12_fetch_200)) rfl (lvA2 hl) ?_
                  refine gM_22 S hK hP (v := .ref (g 7)) rfl (oc_180 205 (aq_5 shX12_fetch_200) uw_0_22) ?_
                  refine lv_iload_n hx hb (oc_27 208 (aq_8 shX12_fetch_200)) rfl (lvA3 hl) ?_
                  have b_21 := hI.e7 d0 (by (first | omega | (have zz0 := Hid.u hi_cn; omega)))
                  refine ldM_7 hx hb hK hP (x := ((Fn 7) d0)) (vp_in_nI kb_1 (ltb rfl)) (nI_clamp (Nat.lt_trans kb_1 (ltb rfl))) rfl (oc_46 209 (aq_9 shX12_fetch_200)) ?_
                  refine stM_16 hx hb hK hP hD hS (Fn2 := (va_up (va_up (va_up (va_up (va_up (va_up (va_up (va_up (va_up Fn 8 (upd (Fn 8) (cn 2) (nI d0))) 9 (upd (Fn 9) (cn 2) v1)) 10 (upd (Fn 10) (cn 2) v2)) 11 (upd (Fn 11) (cn 2) v3)) 12 (upd (Fn 12) (cn 2) v4)) 13 (upd (Fn 13) (cn 2) v5)) 14 (upd (Fn 14) (cn 2) (((lkM Fn d0 v1) - v2) - ((lkM Fn d0 v1) / 10)))) 15 (upd (Fn 15) (cn 2) (-1))) 16 (upd (Fn 16) (cn 2) ((Fn 7) d0)))) (vp_in_nI kb_2 (ltb rfl)) (nI_clamp (Nat.lt_trans kb_2 (ltb rfl))) rfl (oc_79 210 (aq_10 shX12_fetch_200)) (fun H locs hP hD hS => ?_)
                  refine lv_aload_n hx hb (oc_42 211 (aq_11 shX12_fetch_200)) rfl (lvA2 hl) ?_
                  refine gM_22 S hK hP (v := .ref (g 7)) rfl (oc_180 212 (aq_12 shX12_fetch_200) uw_0_22) ?_
                  refine lv_iload_n hx hb (oc_27 215 (aq_15 shX12_fetch_200)) rfl (lvA3 hl) ?_
                  refine lv_iload_n hx hb (oc_28 216 (aq_16 shX12_fetch_200)) rfl (lvA4 hl) ?_
                  refine stM_7 hx hb hK hP hD hS (Fn2 := (va_up (va_up (va_up (va_up (va_up (va_up (va_up (va_up (va_up (va_up Fn 8 (upd (Fn 8) (cn 2) (nI d0))) 9 (upd (Fn 9) (cn 2) v1)) 10 (upd (Fn 10) (cn 2) v2)) 11 (upd (Fn 11) (cn 2) v3)) 12 (upd (Fn 12) (cn 2) v4)) 13 (upd (Fn 13) (cn 2) v5)) 14 (upd (Fn 14) (cn 2) (((lkM Fn d0 v1) - v2) - ((lkM Fn d0 v1) / 10)))) 15 (upd (Fn 15) (cn 2) (-1))) 16 (upd (Fn 16) (cn 2) ((Fn 7) d0))) 7 (upd (Fn 7) d0 v1))) (vp_in_nI kb_1 (ltb rfl)) (nI_clamp (Nat.lt_trans kb_1 (ltb rfl))) rfl (oc_79 217 (aq_17 shX12_fetch_200)) (fun H locs hP hD hS => ?_)
                  refine lv_aload_n hx hb (oc_42 218 (aq_18 shX12_fetch_200)) rfl (lvA2 hl) ?_
                  refine lv_aload_n hx hb (oc_42 219 (aq_19 shX12_fetch_200)) rfl (lvA2 hl) ?_
                  refine gM_208 S hK hP (v := .int (nI (cn 2))) rfl (oc_180 220 (aq_20 shX12_fetch_200) uw_0_208) ?_
                  refine lv_iconst (v := 1) hx hb (oc_4 223 (aq_23 shX12_fetch_200)) kic_1 ?_
                  refine lv_iadd hx hb (oc_96 224 shX12_fetch_224) ?_
                  refine lv_topi (fun y_22 ey_22 => ?_)
                  obtain rfl : y_22 = (nI ((cn 2) + 1)) := ey_22.trans (nI_add (cn 2) 1)
                  refine pM_208 S hK hP hD hS (a := ((cn 2) + 1)) (cn2 := (va_up cn 2 ((cn 2) + 1))) rfl rfl (oc_181 225 (aq_1 shX12_fetch_224) uw_0_208) (fun H locs hP hD hS => ?_)
                  refine lv_aload_n hx hb (oc_42 228 (aq_4 shX12_fetch_224)) rfl (lvA2 hl) ?_
                  refine gM_208 S hK hP (v := .int (nI ((cn 2) + 1))) rfl (oc_180 229 (aq_5 shX12_fetch_224) uw_0_208) ?_
                  refine lv_iconst (v := 1) hx hb (oc_4 232 (aq_8 shX12_fetch_224)) kic_1 ?_
                  refine lv_isub hx hb (oc_100 233 (aq_9 shX12_fetch_224)) ?_
                  refine lv_topi (fun y_23 ey_23 => ?_)
                  obtain rfl : y_23 = (nI (cn 2)) := ey_23.trans (nI_pred _)
                  exact W.iret (v := (nI (cn 2))) hx hb hr (fun t ht hW => ⟨⟨(nI (cn 2)), ((va_up cn 2 ((cn 2) + 1)), In, (va_up (va_up (va_up (va_up (va_up (va_up (va_up (va_up (va_up (va_up Fn 8 (upd (Fn 8) (cn 2) (nI d0))) 9 (upd (Fn 9) (cn 2) v1)) 10 (upd (Fn 10) (cn 2) v2)) 11 (upd (Fn 11) (cn 2) v3)) 12 (upd (Fn 12) (cn 2) v4)) 13 (upd (Fn 13) (cn 2) v5)) 14 (upd (Fn 14) (cn 2) (((lkM Fn d0 v1) - v2) - ((lkM Fn d0 v1) / 10)))) 15 (upd (Fn 15) (cn 2) (-1))) 16 (upd (Fn 16) (cn 2) ((Fn 7) d0))) 7 (upd (Fn 7) d0 v1))), rfl, (Or.inl ⟨(by first | (first | omega | (have zz0 := Hid.u hi_cn; omega)) | (simp only [zd0]; (first | omega | (have zz0 := Hid.u hi_cn; omega)))), rfl, rfl, rfl, by simp only [zd0]; first | rw [lackM, if_pos (Int32.not_le.mp (by assumption))] | rw [lackM, if_neg (Int32.not_lt.mpr (by assumption))]⟩), by rw [ht]; exact hP, hD⟩, hS.F ht⟩) hS.2.2 (oc_172 234 (aq_10 shX12_fetch_224))
              ·
                have tc_14 : ((nI (cn 2)).toInt : Int) = 60 := congrArg Int32.toInt c_14
                refine lv_iconst (v := (-1)) hx hb dX12_fetch_81 kic_m1 ?_
                exact W.iret (v := (-1)) hx hb hr (fun t ht hW => ⟨⟨(-1), (cn, In, Fn), rfl, (Or.inr ⟨(by first | (first | omega | (have zz0 := Hid.u hi_cn; omega)) | (simp only [zd0]; (first | omega | (have zz0 := Hid.u hi_cn; omega)))), rfl, rfl, rfl, rfl⟩), by rw [ht]; exact hP, hD⟩, hS.F ht⟩) hS.2.2 dX12_fetch_82
            ·
              have h_13 : ¬ (v1.toInt ≤ v5.toInt ∧ v5.toInt ≤ 399) := h_13
              refine lv_if_eq (tgt := 81) hx hb (oc_153 69 (aq_19 shX12_fetch_50) sgw_0_12) rfl (fun _ => ?_) (fun h => absurd h cq_eq_0_0)
              refine lv_iconst (v := (-1)) hx hb dX12_fetch_81 kic_m1 ?_
              exact W.iret (v := (-1)) hx hb hr (fun t ht hW => ⟨⟨(-1), (cn, In, Fn), rfl, (Or.inr ⟨(by first | (first | omega | (have zz0 := Hid.u hi_cn; omega)) | (simp only [zd0]; (first | omega | (have zz0 := Hid.u hi_cn; omega)))), rfl, rfl, rfl, rfl⟩), by rw [ht]; exact hP, hD⟩, hS.F ht⟩) hS.2.2 dX12_fetch_82
          ·
            have h_11 : ¬ (0 ≤ v4.toInt ∧ v4.toInt ≤ 1000) := h_11
            refine lv_if_eq (tgt := 81) hx hb (oc_153 57 (aq_7 shX12_fetch_50) sgw_0_24) rfl (fun _ => ?_) (fun h => absurd h cq_eq_0_0)
            refine lv_iconst (v := (-1)) hx hb dX12_fetch_81 kic_m1 ?_
            exact W.iret (v := (-1)) hx hb hr (fun t ht hW => ⟨⟨(-1), (cn, In, Fn), rfl, (Or.inr ⟨(by first | (first | omega | (have zz0 := Hid.u hi_cn; omega)) | (simp only [zd0]; (first | omega | (have zz0 := Hid.u hi_cn; omega)))), rfl, rfl, rfl, rfl⟩), by rw [ht]; exact hP, hD⟩, hS.F ht⟩) hS.2.2 dX12_fetch_82
        ·
          have h_9 : ¬ (0 ≤ v3.toInt ∧ v3.toInt ≤ 1000) := h_9
          refine lv_if_eq (tgt := 81) hx hb (oc_153 45 (aq_20 shX12_fetch_25) sgw_0_36) rfl (fun _ => ?_) (fun h => absurd h cq_eq_0_0)
          refine lv_iconst (v := (-1)) hx hb dX12_fetch_81 kic_m1 ?_
          exact W.iret (v := (-1)) hx hb hr (fun t ht hW => ⟨⟨(-1), (cn, In, Fn), rfl, (Or.inr ⟨(by first | (first | omega | (have zz0 := Hid.u hi_cn; omega)) | (simp only [zd0]; (first | omega | (have zz0 := Hid.u hi_cn; omega)))), rfl, rfl, rfl, rfl⟩), by rw [ht]; exact hP, hD⟩, hS.F ht⟩) hS.2.2 dX12_fetch_82
      ·
        have h_7 : ¬ (0 ≤ v2.toInt ∧ v2.toInt ≤ 400) := h_7
        refine lv_if_eq (tgt := 81) hx hb (oc_153 33 (aq_8 shX12_fetch_25) sgw_0_48) rfl (fun _ => ?_) (fun h => absurd h cq_eq_0_0)
        refine lv_iconst (v := (-1)) hx hb dX12_fetch_81 kic_m1 ?_
        exact W.iret (v := (-1)) hx hb hr (fun t ht hW => ⟨⟨(-1), (cn, In, Fn), rfl, (Or.inr ⟨(by first | (first | omega | (have zz0 := Hid.u hi_cn; omega)) | (simp only [zd0]; (first | omega | (have zz0 := Hid.u hi_cn; omega)))), rfl, rfl, rfl, rfl⟩), by rw [ht]; exact hP, hD⟩, hS.F ht⟩) hS.2.2 dX12_fetch_82
    ·
      have h_5 : ¬ (((Fn 7) d0).toInt ≤ v1.toInt ∧ v1.toInt ≤ (nI (cn 0)).toInt) := h_5
      refine lv_if_eq (tgt := 81) hx hb (oc_153 22 (aq_22 shX12_fetch_0) sgw_0_59) rfl (fun _ => ?_) (fun h => absurd h cq_eq_0_0)
      refine lv_iconst (v := (-1)) hx hb dX12_fetch_81 kic_m1 ?_
      exact W.iret (v := (-1)) hx hb hr (fun t ht hW => ⟨⟨(-1), (cn, In, Fn), rfl, (Or.inr ⟨(by first | (first | omega | (have zz0 := Hid.u hi_cn; omega)) | (simp only [zd0]; (first | omega | (have zz0 := Hid.u hi_cn; omega)))), rfl, rfl, rfl, rfl⟩), by rw [ht]; exact hP, hD⟩, hS.F ht⟩) hS.2.2 dX12_fetch_82
  ·
    have h_2 : ¬ (0 ≤ v0.toInt ∧ v0.toInt < ((cn 1) : Int)) := h_2
    refine lv_if_eq (tgt := 81) hx hb (oc_153 5 (aq_5 shX12_fetch_0) sgw_0_76) rfl (fun _ => ?_) (fun h => absurd h cq_eq_0_0)
    refine lv_iconst (v := (-1)) hx hb dX12_fetch_81 kic_m1 ?_
    exact W.iret (v := (-1)) hx hb hr (fun t ht hW => ⟨⟨(-1), (cn, In, Fn), rfl, (Or.inr ⟨(by first | (first | omega | (have zz0 := Hid.u hi_cn; omega)) | (simp only [zd0]; (first | omega | (have zz0 := Hid.u hi_cn; omega)))), rfl, rfl, rfl, rfl⟩), by rw [ht]; exact hP, hD⟩, hS.F ht⟩) hS.2.2 dX12_fetch_82
set_option maxRecDepth 100000 in
set_option maxHeartbeats 4000000 in
theorem q_price (l : Launch) (D : va_G) (cI cB cZ : ClassId) (g : Nat → Nat) (cn : Nat → Nat) (In : Nat → Int32) (Fn : Nat → Nat → Int32) (v0 v1 : Int32) (sz : Nat) (hI : IM cn Fn) : Met l yX12_price (CWS yX12_price cX12_price 3 (some .boolean)) (RM 1 0 0) (PBw [.ref (g 100), .int v0, .int v1] D cI cB cZ (wM cI cB cZ g cn In Fn) sz) (va_Qi (fun (r : Int32) (u : (Nat → Nat) × (Nat → Int32) × (Nat → Nat → Int32)) => (fun r c2 I2 F2 => (((0 ≤ v0.toInt ∧ v0.toInt ≤ 57) ∧ (0 ≤ v1.toInt ∧ v1.toInt ≤ 1000)) ∧ r = 1 ∧ c2 = cn ∧ I2 = In ∧ F2 = (va_up Fn 39 (upd (Fn 39) v0.toInt.toNat v1))) ∨ ((¬ ((0 ≤ v0.toInt ∧ v0.toInt ≤ 57) ∧ (0 ≤ v1.toInt ∧ v1.toInt ≤ 1000))) ∧ r = 0 ∧ c2 = cn ∧ I2 = In ∧ F2 = Fn)) r u.1 u.2.1 u.2.2) (fun (u : (Nat → Nat) × (Nat → Int32) × (Nat → Nat → Int32)) (t : State) => va_P D vwCl (wM cI cB cZ g u.1 u.2.1 u.2.2) t.heap ∧ va_D (va_A (wM cI cB cZ g cn In Fn) sz) (wM cI cB cZ g u.1 u.2.1 u.2.2)) (va_A (wM cI cB cZ g cn In Fn) sz)) 0 0 (va_A (wM cI cB cZ g cn In Fn) sz) := by
  refine en_w (fun A => (va_Qi (fun (r : Int32) (u : (Nat → Nat) × (Nat → Int32) × (Nat → Nat → Int32)) => (fun (r : Int32) (c2 : Nat → Nat) (I2 : Nat → Int32) (F2 : Nat → Nat → Int32) => (((0 ≤ v0.toInt ∧ v0.toInt ≤ 57) ∧ (0 ≤ v1.toInt ∧ v1.toInt ≤ 1000)) ∧ r = 1 ∧ c2 = cn ∧ I2 = In ∧ F2 = (va_up Fn 39 (upd (Fn 39) v0.toInt.toNat v1))) ∨ ((¬ ((0 ≤ v0.toInt ∧ v0.toInt ≤ 57) ∧ (0 ≤ v1.toInt ∧ v1.toInt ≤ 1000))) ∧ r = 0 ∧ c2 = cn ∧ I2 = In ∧ F2 = Fn)) r u.1 u.2.1 u.2.2) (fun (u : (Nat → Nat) × (Nat → Int32) × (Nat → Nat → Int32)) (t : State) => va_P D vwCl (wM cI cB cZ g u.1 u.2.1 u.2.2) t.heap ∧ va_D A (wM cI cB cZ g u.1 u.2.1 u.2.2)) A)) rfl rfl pn_RX12 (Nat.le_of_ble_eq_true rfl) (fun p e s m below meth c A hx hb hml hown S hr hlocks hnm hA hP hK hD hS ls hl => ?_)
  have hl : lv_has ls 3 [(0, .ref (g 100)), (1, .int v0), (2, .int v1)] := hl
  have hi_cn : Hid (CB cn) := hI.b
  refine lv_iload_n hx hb (oc_27 0 shX12_price_0) rfl (lvA1 hl) ?_
  refine lv_iconst (v := 0) hx hb (oc_3 1 (aq_1 shX12_price_0)) kic_0 ?_
  refine lv_bipush (v := 57) hx hb (oc_16 2 (aq_2 shX12_price_0) sgb_57) kbc_57 ?_
  refine vp_callSi (runS_r (As := [.int v0, .int 0, .int 57]) (rest := []) S (q_in l D cI cB cZ v0 0 57 ) kS_RX12_214 hK hP [] rfl ⟨Nat.le_of_ble_eq_true rfl, Nat.le_of_ble_eq_true rfl⟩ ⟨Nat.le_of_ble_eq_true rfl, Nat.le_of_ble_eq_true rfl⟩ rfl hl.1 rfl (Nat.le_of_ble_eq_true rfl) (oc_184 4 (aq_4 shX12_price_0) uw_0_214)) (fun r_1 h_2 => ?_)
  rcases h_2 with ⟨rfl, h_2⟩ | ⟨rfl, h_2⟩
  ·
    have h_2 : 0 ≤ v0.toInt ∧ v0.toInt ≤ 57 := h_2
    refine lv_if_eq (tgt := 21) hx hb (oc_153 7 (aq_7 shX12_price_0) sgw_0_14) rfl (fun h => absurd h cq_eq_1_0) (fun _ => ?_)
    obtain ⟨d0, hd0, rfl⟩ := nI_of (x := v0) (fun q => by have := Int32.lt_iff_toInt_lt.mp q; have e : (0 : Int32).toInt = 0 := rfl; (first | omega | (have zz0 := Hid.u hi_cn; omega)))
    have td0 : (nI d0).toInt = (d0 : Int) := nI_toInt hd0
    have zd0 : (nI d0).toInt.toNat = d0 := by (first | omega | (have zz0 := Hid.u hi_cn; omega))
    refine lv_iload_n hx hb (oc_28 10 (aq_10 shX12_price_0)) rfl (lvA2 hl) ?_
    refine lv_iconst (v := 0) hx hb (oc_3 11 (aq_11 shX12_price_0)) kic_0 ?_
    refine lv_sipush (v := 1000) hx hb (oc_17 12 (aq_12 shX12_price_0) sgw_3_232) (by decide) ?_
    refine vp_callSi (runS_r (As := [.int v1, .int 0, .int 1000]) (rest := []) S (q_in l D cI cB cZ v1 0 1000 ) kS_RX12_214 hK hP [] rfl ⟨Nat.le_of_ble_eq_true rfl, Nat.le_of_ble_eq_true rfl⟩ ⟨Nat.le_of_ble_eq_true rfl, Nat.le_of_ble_eq_true rfl⟩ rfl hl.1 rfl (Nat.le_of_ble_eq_true rfl) (oc_184 15 (aq_15 shX12_price_0) uw_0_214)) (fun r_3 h_4 => ?_)
    rcases h_4 with ⟨rfl, h_4⟩ | ⟨rfl, h_4⟩
    ·
      have h_4 : 0 ≤ v1.toInt ∧ v1.toInt ≤ 1000 := h_4
      refine lv_if_ne (tgt := 23) hx hb (oc_154 18 (aq_18 shX12_price_0) sgw_0_5) rfl (fun _ => ?_) (fun h => absurd h cq_eq_1_0)
      refine lv_aload_n hx hb (oc_42 23 (aq_23 shX12_price_0)) rfl (lvA0 hl) ?_
      refine gM_92 S hK hP (v := .ref (g 39)) rfl (oc_180 24 shX12_price_24 uw_0_92) ?_
      refine lv_iload_n hx hb (oc_27 27 (aq_3 shX12_price_24)) rfl (lvA1 hl) ?_
      refine lv_iload_n hx hb (oc_28 28 (aq_4 shX12_price_24)) rfl (lvA2 hl) ?_
      have kb_1 : d0 < 58 := by (first | omega | (have zz0 := Hid.u hi_cn; omega))
      refine stM_39 hx hb hK hP hD hS (Fn2 := (va_up Fn 39 (upd (Fn 39) d0 v1))) (vp_in_nI kb_1 (ltb rfl)) (nI_clamp (Nat.lt_trans kb_1 (ltb rfl))) rfl (oc_79 29 (aq_5 shX12_price_24)) (fun H locs hP hD hS => ?_)
      refine lv_iconst (v := 1) hx hb (oc_4 30 (aq_6 shX12_price_24)) kic_1 ?_
      exact W.zret (v := 1) hx hb hr rfl (fun t ht hW => ⟨⟨1, (cn, In, (va_up Fn 39 (upd (Fn 39) d0 v1))), rfl, (Or.inl ⟨(by first | (first | omega | (have zz0 := Hid.u hi_cn; omega)) | (simp only [zd0]; (first | omega | (have zz0 := Hid.u hi_cn; omega)))), rfl, rfl, rfl, by first | rfl | simp only [zd0, zd1] | simp only [zd0]⟩), by rw [ht]; exact hP, hD⟩, hS.F ht⟩) hS.2.2 (oc_172 31 (aq_7 shX12_price_24))
    ·
      have h_4 : ¬ (0 ≤ v1.toInt ∧ v1.toInt ≤ 1000) := h_4
      refine lv_if_ne (tgt := 23) hx hb (oc_154 18 (aq_18 shX12_price_0) sgw_0_5) rfl (fun h => absurd h cq_eq_0_0) (fun _ => ?_)
      refine lv_iconst (v := 0) hx hb (oc_3 21 (aq_21 shX12_price_0)) kic_0 ?_
      exact W.zret (v := 0) hx hb hr rfl (fun t ht hW => ⟨⟨0, (cn, In, Fn), rfl, (Or.inr ⟨(by first | (first | omega | (have zz0 := Hid.u hi_cn; omega)) | (simp only [zd0]; (first | omega | (have zz0 := Hid.u hi_cn; omega)))), rfl, rfl, rfl, rfl⟩), by rw [ht]; exact hP, hD⟩, hS.F ht⟩) hS.2.2 (oc_172 22 (aq_22 shX12_price_0))
  ·
    have h_2 : ¬ (0 ≤ v0.toInt ∧ v0.toInt ≤ 57) := h_2
    refine lv_if_eq (tgt := 21) hx hb (oc_153 7 (aq_7 shX12_price_0) sgw_0_14) rfl (fun _ => ?_) (fun h => absurd h cq_eq_0_0)
    refine lv_iconst (v := 0) hx hb (oc_3 21 (aq_21 shX12_price_0)) kic_0 ?_
    exact W.zret (v := 0) hx hb hr rfl (fun t ht hW => ⟨⟨0, (cn, In, Fn), rfl, (Or.inr ⟨(by first | (first | omega | (have zz0 := Hid.u hi_cn; omega)) | (simp only [zd0]; (first | omega | (have zz0 := Hid.u hi_cn; omega)))), rfl, rfl, rfl, rfl⟩), by rw [ht]; exact hP, hD⟩, hS.F ht⟩) hS.2.2 (oc_172 22 (aq_22 shX12_price_0))
set_option maxRecDepth 100000 in
set_option maxHeartbeats 4000000 in
theorem q_street (l : Launch) (D : va_G) (cI cB cZ : ClassId) (g : Nat → Nat) (cn : Nat → Nat) (In : Nat → Int32) (Fn : Nat → Nat → Int32) (v0 v1 : Int32) (sz : Nat) (hI : IM cn Fn) : Met l yX12_street (CWS yX12_street cX12_street 3 (some .boolean)) (RM 1 0 0) (PBw [.ref (g 100), .int v0, .int v1] D cI cB cZ (wM cI cB cZ g cn In Fn) sz) (va_Qi (fun (r : Int32) (u : (Nat → Nat) × (Nat → Int32) × (Nat → Nat → Int32)) => (fun r c2 I2 F2 => (((0 ≤ v0.toInt ∧ v0.toInt < (cn 1 : Int)) ∧ (0 ≤ v1.toInt ∧ v1.toInt ≤ 9)) ∧ r = 1 ∧ c2 = cn ∧ I2 = In ∧ F2 = (va_up Fn 40 (upd (Fn 40) v0.toInt.toNat v1))) ∨ ((¬ ((0 ≤ v0.toInt ∧ v0.toInt < (cn 1 : Int)) ∧ (0 ≤ v1.toInt ∧ v1.toInt ≤ 9))) ∧ r = 0 ∧ c2 = cn ∧ I2 = In ∧ F2 = Fn)) r u.1 u.2.1 u.2.2) (fun (u : (Nat → Nat) × (Nat → Int32) × (Nat → Nat → Int32)) (t : State) => va_P D vwCl (wM cI cB cZ g u.1 u.2.1 u.2.2) t.heap ∧ va_D (va_A (wM cI cB cZ g cn In Fn) sz) (wM cI cB cZ g u.1 u.2.1 u.2.2)) (va_A (wM cI cB cZ g cn In Fn) sz)) 0 0 (va_A (wM cI cB cZ g cn In Fn) sz) := by
  refine en_w (fun A => (va_Qi (fun (r : Int32) (u : (Nat → Nat) × (Nat → Int32) × (Nat → Nat → Int32)) => (fun (r : Int32) (c2 : Nat → Nat) (I2 : Nat → Int32) (F2 : Nat → Nat → Int32) => (((0 ≤ v0.toInt ∧ v0.toInt < (cn 1 : Int)) ∧ (0 ≤ v1.toInt ∧ v1.toInt ≤ 9)) ∧ r = 1 ∧ c2 = cn ∧ I2 = In ∧ F2 = (va_up Fn 40 (upd (Fn 40) v0.toInt.toNat v1))) ∨ ((¬ ((0 ≤ v0.toInt ∧ v0.toInt < (cn 1 : Int)) ∧ (0 ≤ v1.toInt ∧ v1.toInt ≤ 9))) ∧ r = 0 ∧ c2 = cn ∧ I2 = In ∧ F2 = Fn)) r u.1 u.2.1 u.2.2) (fun (u : (Nat → Nat) × (Nat → Int32) × (Nat → Nat → Int32)) (t : State) => va_P D vwCl (wM cI cB cZ g u.1 u.2.1 u.2.2) t.heap ∧ va_D A (wM cI cB cZ g u.1 u.2.1 u.2.2)) A)) rfl rfl pn_RX12 (Nat.le_of_ble_eq_true rfl) (fun p e s m below meth c A hx hb hml hown S hr hlocks hnm hA hP hK hD hS ls hl => ?_)
  have hl : lv_has ls 3 [(0, .ref (g 100)), (1, .int v0), (2, .int v1)] := hl
  have hi_cn : Hid (CB cn) := hI.b
  refine lv_aload_n hx hb (oc_42 0 shX12_street_0) rfl (lvA0 hl) ?_
  refine lv_iload_n hx hb (oc_27 1 (aq_1 shX12_street_0)) rfl (lvA1 hl) ?_
  refine vp_callSi (runV_ra (As := [.int v0]) (rest := []) S (q_isKitchen l D cI cB cZ g cn In Fn v0 hI) kV_RX12_218 hK hP 0 rfl rfl rfl ⟨Nat.le_of_ble_eq_true rfl, Nat.le_of_ble_eq_true rfl⟩ ⟨Nat.le_of_ble_eq_true rfl, Nat.le_of_ble_eq_true rfl⟩ rfl hl.1 rfl (Nat.le_of_ble_eq_true rfl) (oc_182 2 (aq_2 shX12_street_0) uw_0_218)) (fun r_1 h_2 => ?_)
  rcases h_2 with ⟨rfl, h_2⟩ | ⟨rfl, h_2⟩
  ·
    have h_2 : 0 ≤ v0.toInt ∧ v0.toInt < ((cn 1) : Int) := h_2
    refine lv_if_eq (tgt := 18) hx hb (oc_153 5 (aq_5 shX12_street_0) sgw_0_13) rfl (fun h => absurd h cq_eq_1_0) (fun _ => ?_)
    obtain ⟨d0, hd0, rfl⟩ := nI_of (x := v0) (fun q => by have := Int32.lt_iff_toInt_lt.mp q; have e : (0 : Int32).toInt = 0 := rfl; (first | omega | (have zz0 := Hid.u hi_cn; omega)))
    have td0 : (nI d0).toInt = (d0 : Int) := nI_toInt hd0
    have zd0 : (nI d0).toInt.toNat = d0 := by (first | omega | (have zz0 := Hid.u hi_cn; omega))
    refine lv_iload_n hx hb (oc_28 8 (aq_8 shX12_street_0)) rfl (lvA2 hl) ?_
    refine lv_iconst (v := 0) hx hb (oc_3 9 (aq_9 shX12_street_0)) kic_0 ?_
    refine lv_bipush (v := 9) hx hb (oc_16 10 (aq_10 shX12_street_0) sgb_9) kbc_9 ?_
    refine vp_callSi (runS_r (As := [.int v1, .int 0, .int 9]) (rest := []) S (q_in l D cI cB cZ v1 0 9 ) kS_RX12_214 hK hP [] rfl ⟨Nat.le_of_ble_eq_true rfl, Nat.le_of_ble_eq_true rfl⟩ ⟨Nat.le_of_ble_eq_true rfl, Nat.le_of_ble_eq_true rfl⟩ rfl hl.1 rfl (Nat.le_of_ble_eq_true rfl) (oc_184 12 (aq_12 shX12_street_0) uw_0_214)) (fun r_3 h_4 => ?_)
    rcases h_4 with ⟨rfl, h_4⟩ | ⟨rfl, h_4⟩
    ·
      have h_4 : 0 ≤ v1.toInt ∧ v1.toInt ≤ 9 := h_4
      refine lv_if_ne (tgt := 20) hx hb (oc_154 15 (aq_15 shX12_street_0) sgw_0_5) rfl (fun _ => ?_) (fun h => absurd h cq_eq_1_0)
      refine lv_aload_n hx hb (oc_42 20 (aq_20 shX12_street_0)) rfl (lvA0 hl) ?_
      refine gM_95 S hK hP (v := .ref (g 40)) rfl (oc_180 21 (aq_21 shX12_street_0) uw_0_95) ?_
      refine lv_iload_n hx hb (oc_27 24 shX12_street_24) rfl (lvA1 hl) ?_
      refine lv_iload_n hx hb (oc_28 25 (aq_1 shX12_street_24)) rfl (lvA2 hl) ?_
      have kb_1 : d0 < 10 := by (first | omega | (have zz0 := Hid.u hi_cn; omega))
      refine stM_40 hx hb hK hP hD hS (Fn2 := (va_up Fn 40 (upd (Fn 40) d0 v1))) (vp_in_nI kb_1 (ltb rfl)) (nI_clamp (Nat.lt_trans kb_1 (ltb rfl))) rfl (oc_79 26 (aq_2 shX12_street_24)) (fun H locs hP hD hS => ?_)
      refine lv_iconst (v := 1) hx hb (oc_4 27 (aq_3 shX12_street_24)) kic_1 ?_
      exact W.zret (v := 1) hx hb hr rfl (fun t ht hW => ⟨⟨1, (cn, In, (va_up Fn 40 (upd (Fn 40) d0 v1))), rfl, (Or.inl ⟨(by first | (first | omega | (have zz0 := Hid.u hi_cn; omega)) | (simp only [zd0]; (first | omega | (have zz0 := Hid.u hi_cn; omega)))), rfl, rfl, rfl, by first | rfl | simp only [zd0, zd1] | simp only [zd0]⟩), by rw [ht]; exact hP, hD⟩, hS.F ht⟩) hS.2.2 (oc_172 28 (aq_4 shX12_street_24))
    ·
      have h_4 : ¬ (0 ≤ v1.toInt ∧ v1.toInt ≤ 9) := h_4
      refine lv_if_ne (tgt := 20) hx hb (oc_154 15 (aq_15 shX12_street_0) sgw_0_5) rfl (fun h => absurd h cq_eq_0_0) (fun _ => ?_)
      refine lv_iconst (v := 0) hx hb (oc_3 18 (aq_18 shX12_street_0)) kic_0 ?_
      exact W.zret (v := 0) hx hb hr rfl (fun t ht hW => ⟨⟨0, (cn, In, Fn), rfl, (Or.inr ⟨(by first | (first | omega | (have zz0 := Hid.u hi_cn; omega)) | (simp only [zd0]; (first | omega | (have zz0 := Hid.u hi_cn; omega)))), rfl, rfl, rfl, rfl⟩), by rw [ht]; exact hP, hD⟩, hS.F ht⟩) hS.2.2 (oc_172 19 (aq_19 shX12_street_0))
  ·
    have h_2 : ¬ (0 ≤ v0.toInt ∧ v0.toInt < ((cn 1) : Int)) := h_2
    refine lv_if_eq (tgt := 18) hx hb (oc_153 5 (aq_5 shX12_street_0) sgw_0_13) rfl (fun _ => ?_) (fun h => absurd h cq_eq_0_0)
    refine lv_iconst (v := 0) hx hb (oc_3 18 (aq_18 shX12_street_0)) kic_0 ?_
    exact W.zret (v := 0) hx hb hr rfl (fun t ht hW => ⟨⟨0, (cn, In, Fn), rfl, (Or.inr ⟨(by first | (first | omega | (have zz0 := Hid.u hi_cn; omega)) | (simp only [zd0]; (first | omega | (have zz0 := Hid.u hi_cn; omega)))), rfl, rfl, rfl, rfl⟩), by rw [ht]; exact hP, hD⟩, hS.F ht⟩) hS.2.2 (oc_172 19 (aq_19 shX12_street_0))
set_option maxRecDepth 100000 in
set_option maxHeartbeats 4000000 in
theorem q_feast (l : Launch) (D : va_G) (cI cB cZ : ClassId) (g : Nat → Nat) (cn : Nat → Nat) (In : Nat → Int32) (Fn : Nat → Nat → Int32) (v0 v1 : Int32) (sz : Nat) (hI : IM cn Fn) : Met l yX12_feast (CWS yX12_feast cX12_feast 3 (some .boolean)) (RM 1 0 0) (PBw [.ref (g 100), .int v0, .int v1] D cI cB cZ (wM cI cB cZ g cn In Fn) sz) (va_Qi (fun (r : Int32) (u : (Nat → Nat) × (Nat → Int32) × (Nat → Nat → Int32)) => (fun r c2 I2 F2 => (((0 ≤ v0.toInt ∧ v0.toInt ≤ 399) ∧ (0 ≤ v1.toInt ∧ v1.toInt ≤ 300)) ∧ r = 1 ∧ c2 = cn ∧ I2 = In ∧ F2 = (va_up Fn 41 (upd (Fn 41) v0.toInt.toNat v1))) ∨ ((¬ ((0 ≤ v0.toInt ∧ v0.toInt ≤ 399) ∧ (0 ≤ v1.toInt ∧ v1.toInt ≤ 300))) ∧ r = 0 ∧ c2 = cn ∧ I2 = In ∧ F2 = Fn)) r u.1 u.2.1 u.2.2) (fun (u : (Nat → Nat) × (Nat → Int32) × (Nat → Nat → Int32)) (t : State) => va_P D vwCl (wM cI cB cZ g u.1 u.2.1 u.2.2) t.heap ∧ va_D (va_A (wM cI cB cZ g cn In Fn) sz) (wM cI cB cZ g u.1 u.2.1 u.2.2)) (va_A (wM cI cB cZ g cn In Fn) sz)) 0 0 (va_A (wM cI cB cZ g cn In Fn) sz) := by
  refine en_w (fun A => (va_Qi (fun (r : Int32) (u : (Nat → Nat) × (Nat → Int32) × (Nat → Nat → Int32)) => (fun (r : Int32) (c2 : Nat → Nat) (I2 : Nat → Int32) (F2 : Nat → Nat → Int32) => (((0 ≤ v0.toInt ∧ v0.toInt ≤ 399) ∧ (0 ≤ v1.toInt ∧ v1.toInt ≤ 300)) ∧ r = 1 ∧ c2 = cn ∧ I2 = In ∧ F2 = (va_up Fn 41 (upd (Fn 41) v0.toInt.toNat v1))) ∨ ((¬ ((0 ≤ v0.toInt ∧ v0.toInt ≤ 399) ∧ (0 ≤ v1.toInt ∧ v1.toInt ≤ 300))) ∧ r = 0 ∧ c2 = cn ∧ I2 = In ∧ F2 = Fn)) r u.1 u.2.1 u.2.2) (fun (u : (Nat → Nat) × (Nat → Int32) × (Nat → Nat → Int32)) (t : State) => va_P D vwCl (wM cI cB cZ g u.1 u.2.1 u.2.2) t.heap ∧ va_D A (wM cI cB cZ g u.1 u.2.1 u.2.2)) A)) rfl rfl pn_RX12 (Nat.le_of_ble_eq_true rfl) (fun p e s m below meth c A hx hb hml hown S hr hlocks hnm hA hP hK hD hS ls hl => ?_)
  have hl : lv_has ls 3 [(0, .ref (g 100)), (1, .int v0), (2, .int v1)] := hl
  have hi_cn : Hid (CB cn) := hI.b
  refine lv_iload_n hx hb (oc_27 0 shX12_feast_0) rfl (lvA1 hl) ?_
  refine vp_callSi (runS_r (As := [.int v0]) (rest := []) S (q_isDay l D cI cB cZ v0 ) kS_RX12_341 hK hP [] rfl ⟨Nat.le_of_ble_eq_true rfl, Nat.le_of_ble_eq_true rfl⟩ ⟨Nat.le_of_ble_eq_true rfl, Nat.le_of_ble_eq_true rfl⟩ rfl hl.1 rfl (Nat.le_of_ble_eq_true rfl) (oc_184 1 (aq_1 shX12_feast_0) uw_1_85)) (fun r_1 h_2 => ?_)
  rcases h_2 with ⟨rfl, h_2⟩ | ⟨rfl, h_2⟩
  ·
    have h_2 : 0 ≤ v0.toInt ∧ v0.toInt ≤ 399 := h_2
    refine lv_if_eq (tgt := 18) hx hb (oc_153 4 (aq_4 shX12_feast_0) sgw_0_14) rfl (fun h => absurd h cq_eq_1_0) (fun _ => ?_)
    obtain ⟨d0, hd0, rfl⟩ := nI_of (x := v0) (fun q => by have := Int32.lt_iff_toInt_lt.mp q; have e : (0 : Int32).toInt = 0 := rfl; (first | omega | (have zz0 := Hid.u hi_cn; omega)))
    have td0 : (nI d0).toInt = (d0 : Int) := nI_toInt hd0
    have zd0 : (nI d0).toInt.toNat = d0 := by (first | omega | (have zz0 := Hid.u hi_cn; omega))
    refine lv_iload_n hx hb (oc_28 7 (aq_7 shX12_feast_0)) rfl (lvA2 hl) ?_
    refine lv_iconst (v := 0) hx hb (oc_3 8 (aq_8 shX12_feast_0)) kic_0 ?_
    refine lv_sipush (v := 300) hx hb (oc_17 9 (aq_9 shX12_feast_0) sgw_1_44) (by decide) ?_
    refine vp_callSi (runS_r (As := [.int v1, .int 0, .int 300]) (rest := []) S (q_in l D cI cB cZ v1 0 300 ) kS_RX12_214 hK hP [] rfl ⟨Nat.le_of_ble_eq_true rfl, Nat.le_of_ble_eq_true rfl⟩ ⟨Nat.le_of_ble_eq_true rfl, Nat.le_of_ble_eq_true rfl⟩ rfl hl.1 rfl (Nat.le_of_ble_eq_true rfl) (oc_184 12 (aq_12 shX12_feast_0) uw_0_214)) (fun r_3 h_4 => ?_)
    rcases h_4 with ⟨rfl, h_4⟩ | ⟨rfl, h_4⟩
    ·
      have h_4 : 0 ≤ v1.toInt ∧ v1.toInt ≤ 300 := h_4
      refine lv_if_ne (tgt := 20) hx hb (oc_154 15 (aq_15 shX12_feast_0) sgw_0_5) rfl (fun _ => ?_) (fun h => absurd h cq_eq_1_0)
      refine lv_aload_n hx hb (oc_42 20 (aq_20 shX12_feast_0)) rfl (lvA0 hl) ?_
      refine gM_98 S hK hP (v := .ref (g 41)) rfl (oc_180 21 (aq_21 shX12_feast_0) uw_0_98) ?_
      refine lv_iload_n hx hb (oc_27 24 shX12_feast_24) rfl (lvA1 hl) ?_
      refine lv_iload_n hx hb (oc_28 25 (aq_1 shX12_feast_24)) rfl (lvA2 hl) ?_
      have kb_1 : d0 < 400 := by (first | omega | (have zz0 := Hid.u hi_cn; omega))
      refine stM_41 hx hb hK hP hD hS (Fn2 := (va_up Fn 41 (upd (Fn 41) d0 v1))) (vp_in_nI kb_1 (ltb rfl)) (nI_clamp (Nat.lt_trans kb_1 (ltb rfl))) rfl (oc_79 26 (aq_2 shX12_feast_24)) (fun H locs hP hD hS => ?_)
      refine lv_iconst (v := 1) hx hb (oc_4 27 (aq_3 shX12_feast_24)) kic_1 ?_
      exact W.zret (v := 1) hx hb hr rfl (fun t ht hW => ⟨⟨1, (cn, In, (va_up Fn 41 (upd (Fn 41) d0 v1))), rfl, (Or.inl ⟨(by first | (first | omega | (have zz0 := Hid.u hi_cn; omega)) | (simp only [zd0]; (first | omega | (have zz0 := Hid.u hi_cn; omega)))), rfl, rfl, rfl, by first | rfl | simp only [zd0, zd1] | simp only [zd0]⟩), by rw [ht]; exact hP, hD⟩, hS.F ht⟩) hS.2.2 (oc_172 28 (aq_4 shX12_feast_24))
    ·
      have h_4 : ¬ (0 ≤ v1.toInt ∧ v1.toInt ≤ 300) := h_4
      refine lv_if_ne (tgt := 20) hx hb (oc_154 15 (aq_15 shX12_feast_0) sgw_0_5) rfl (fun h => absurd h cq_eq_0_0) (fun _ => ?_)
      refine lv_iconst (v := 0) hx hb (oc_3 18 (aq_18 shX12_feast_0)) kic_0 ?_
      exact W.zret (v := 0) hx hb hr rfl (fun t ht hW => ⟨⟨0, (cn, In, Fn), rfl, (Or.inr ⟨(by first | (first | omega | (have zz0 := Hid.u hi_cn; omega)) | (simp only [zd0]; (first | omega | (have zz0 := Hid.u hi_cn; omega)))), rfl, rfl, rfl, rfl⟩), by rw [ht]; exact hP, hD⟩, hS.F ht⟩) hS.2.2 (oc_172 19 (aq_19 shX12_feast_0))
  ·
    have h_2 : ¬ (0 ≤ v0.toInt ∧ v0.toInt ≤ 399) := h_2
    refine lv_if_eq (tgt := 18) hx hb (oc_153 4 (aq_4 shX12_feast_0) sgw_0_14) rfl (fun _ => ?_) (fun h => absurd h cq_eq_0_0)
    refine lv_iconst (v := 0) hx hb (oc_3 18 (aq_18 shX12_feast_0)) kic_0 ?_
    exact W.zret (v := 0) hx hb hr rfl (fun t ht hW => ⟨⟨0, (cn, In, Fn), rfl, (Or.inr ⟨(by first | (first | omega | (have zz0 := Hid.u hi_cn; omega)) | (simp only [zd0]; (first | omega | (have zz0 := Hid.u hi_cn; omega)))), rfl, rfl, rfl, rfl⟩), by rw [ht]; exact hP, hD⟩, hS.F ht⟩) hS.2.2 (oc_172 19 (aq_19 shX12_feast_0))
set_option maxRecDepth 100000 in
set_option maxHeartbeats 4000000 in
theorem q_lorry (l : Launch) (D : va_G) (cI cB cZ : ClassId) (g : Nat → Nat) (cn : Nat → Nat) (In : Nat → Int32) (Fn : Nat → Nat → Int32) (v0 : Int32) (sz : Nat) (hI : IM cn Fn) : Met l yX12_lorry (CWS yX12_lorry cX12_lorry 2 (some .int)) (RM 1 0 0) (PBw [.ref (g 100), .int v0] D cI cB cZ (wM cI cB cZ g cn In Fn) sz) (va_Qi (fun (r : Int32) (u : (Nat → Nat) × (Nat → Int32) × (Nat → Nat → Int32)) => (fun r c2 I2 F2 => (((20 ≤ v0.toInt ∧ v0.toInt ≤ 2000) ∧ cn 46 < 3) ∧ r = nI (cn 46) ∧ c2 = va_up cn 46 (cn 46 + 1) ∧ I2 = In ∧ F2 = (va_up Fn 47 (upd (Fn 47) (cn 46) v0))) ∨ ((¬ ((20 ≤ v0.toInt ∧ v0.toInt ≤ 2000) ∧ cn 46 < 3)) ∧ r = -1 ∧ c2 = cn ∧ I2 = In ∧ F2 = Fn)) r u.1 u.2.1 u.2.2) (fun (u : (Nat → Nat) × (Nat → Int32) × (Nat → Nat → Int32)) (t : State) => va_P D vwCl (wM cI cB cZ g u.1 u.2.1 u.2.2) t.heap ∧ va_D (va_A (wM cI cB cZ g cn In Fn) sz) (wM cI cB cZ g u.1 u.2.1 u.2.2)) (va_A (wM cI cB cZ g cn In Fn) sz)) 0 0 (va_A (wM cI cB cZ g cn In Fn) sz) := by
  refine en_w (fun A => (va_Qi (fun (r : Int32) (u : (Nat → Nat) × (Nat → Int32) × (Nat → Nat → Int32)) => (fun (r : Int32) (c2 : Nat → Nat) (I2 : Nat → Int32) (F2 : Nat → Nat → Int32) => (((20 ≤ v0.toInt ∧ v0.toInt ≤ 2000) ∧ cn 46 < 3) ∧ r = nI (cn 46) ∧ c2 = va_up cn 46 (cn 46 + 1) ∧ I2 = In ∧ F2 = (va_up Fn 47 (upd (Fn 47) (cn 46) v0))) ∨ ((¬ ((20 ≤ v0.toInt ∧ v0.toInt ≤ 2000) ∧ cn 46 < 3)) ∧ r = -1 ∧ c2 = cn ∧ I2 = In ∧ F2 = Fn)) r u.1 u.2.1 u.2.2) (fun (u : (Nat → Nat) × (Nat → Int32) × (Nat → Nat → Int32)) (t : State) => va_P D vwCl (wM cI cB cZ g u.1 u.2.1 u.2.2) t.heap ∧ va_D A (wM cI cB cZ g u.1 u.2.1 u.2.2)) A)) rfl rfl pn_RX12 (Nat.le_of_ble_eq_true rfl) (fun p e s m below meth c A hx hb hml hown S hr hlocks hnm hA hP hK hD hS ls hl => ?_)
  have hl : lv_has ls 2 [(0, .ref (g 100)), (1, .int v0)] := hl
  have hi_cn : Hid (CB cn) := hI.b
  refine lv_iload_n hx hb (oc_27 0 shX12_lorry_0) rfl (lvA1 hl) ?_
  refine lv_bipush (v := 20) hx hb (oc_16 1 (aq_1 shX12_lorry_0) sgb_20) kbc_20 ?_
  refine lv_sipush (v := 2000) hx hb (oc_17 3 (aq_3 shX12_lorry_0) sgw_7_208) (by decide) ?_
  refine vp_callSi (runS_r (As := [.int v0, .int 20, .int 2000]) (rest := []) S (q_in l D cI cB cZ v0 20 2000 ) kS_RX12_214 hK hP [] rfl ⟨Nat.le_of_ble_eq_true rfl, Nat.le_of_ble_eq_true rfl⟩ ⟨Nat.le_of_ble_eq_true rfl, Nat.le_of_ble_eq_true rfl⟩ rfl hl.1 rfl (Nat.le_of_ble_eq_true rfl) (oc_184 6 (aq_6 shX12_lorry_0) uw_0_214)) (fun r_1 h_2 => ?_)
  rcases h_2 with ⟨rfl, h_2⟩ | ⟨rfl, h_2⟩
  ·
    have h_2 : 20 ≤ v0.toInt ∧ v0.toInt ≤ 2000 := h_2
    refine lv_if_eq (tgt := 20) hx hb (oc_153 9 (aq_9 shX12_lorry_0) sgw_0_11) rfl (fun h => absurd h cq_eq_1_0) (fun _ => ?_)
    refine lv_aload_n hx hb (oc_42 12 (aq_12 shX12_lorry_0)) rfl (lvA0 hl) ?_
    refine gM_386 S hK hP (v := .int (nI (cn 46))) rfl (oc_180 13 (aq_13 shX12_lorry_0) uw_1_130) ?_
    refine lv_iconst (v := 3) hx hb (oc_6 16 (aq_16 shX12_lorry_0)) kic_3 ?_
    have : (nI (cn 46)).toInt = (((cn 46) : Nat) : Int) := nI_toInt (by (first | omega | (have zz0 := Hid.u hi_cn; omega)))
    refine lv_icmp_ne (tgt := 22) hx hb (oc_160 17 (aq_17 shX12_lorry_0) sgw_0_5) rfl (fun c_3 => ?_) (fun c_3 => ?_)
    ·
      have tc_3 : ((nI (cn 46)).toInt : Int) ≠ 3 := fun q => c_3 (Int32.toInt_inj.mp q)
      refine lv_aload_n hx hb (oc_42 22 (aq_22 shX12_lorry_0)) rfl (lvA0 hl) ?_
      refine gM_107 S hK hP (v := .ref (g 47)) rfl (oc_180 23 (aq_23 shX12_lorry_0) uw_0_107) ?_
      refine lv_aload_n hx hb (oc_42 26 shX12_lorry_26) rfl (lvA0 hl) ?_
      refine gM_386 S hK hP (v := .int (nI (cn 46))) rfl (oc_180 27 (aq_1 shX12_lorry_26) uw_1_130) ?_
      refine lv_iload_n hx hb (oc_27 30 (aq_4 shX12_lorry_26)) rfl (lvA1 hl) ?_
      have kb_1 : (cn 46) < 3 := by (first | omega | (have zz0 := Hid.u hi_cn; omega))
      refine stM_47 hx hb hK hP hD hS (Fn2 := (va_up Fn 47 (upd (Fn 47) (cn 46) v0))) (vp_in_nI kb_1 (ltb rfl)) (nI_clamp (Nat.lt_trans kb_1 (ltb rfl))) rfl (oc_79 31 (aq_5 shX12_lorry_26)) (fun H locs hP hD hS => ?_)
      refine lv_aload_n hx hb (oc_42 32 (aq_6 shX12_lorry_26)) rfl (lvA0 hl) ?_
      refine lv_aload_n hx hb (oc_42 33 (aq_7 shX12_lorry_26)) rfl (lvA0 hl) ?_
      refine gM_386 S hK hP (v := .int (nI (cn 46))) rfl (oc_180 34 (aq_8 shX12_lorry_26) uw_1_130) ?_
      refine lv_iconst (v := 1) hx hb (oc_4 37 (aq_11 shX12_lorry_26)) kic_1 ?_
      refine lv_iadd hx hb (oc_96 38 (aq_12 shX12_lorry_26)) ?_
      refine lv_topi (fun y_4 ey_4 => ?_)
      obtain rfl : y_4 = (nI ((cn 46) + 1)) := ey_4.trans (nI_add (cn 46) 1)
      refine pM_386 S hK hP hD hS (a := ((cn 46) + 1)) (cn2 := (va_up cn 46 ((cn 46) + 1))) rfl rfl (oc_181 39 (aq_13 shX12_lorry_26) uw_1_130) (fun H locs hP hD hS => ?_)
      refine lv_aload_n hx hb (oc_42 42 (aq_16 shX12_lorry_26)) rfl (lvA0 hl) ?_
      refine gM_386 S hK hP (v := .int (nI ((cn 46) + 1))) rfl (oc_180 43 (aq_17 shX12_lorry_26) uw_1_130) ?_
      refine lv_iconst (v := 1) hx hb (oc_4 46 (aq_20 shX12_lorry_26)) kic_1 ?_
      refine lv_isub hx hb (oc_100 47 (aq_21 shX12_lorry_26)) ?_
      refine lv_topi (fun y_5 ey_5 => ?_)
      obtain rfl : y_5 = (nI (cn 46)) := ey_5.trans (nI_pred _)
      exact W.iret (v := (nI (cn 46))) hx hb hr (fun t ht hW => ⟨⟨(nI (cn 46)), ((va_up cn 46 ((cn 46) + 1)), In, (va_up Fn 47 (upd (Fn 47) (cn 46) v0))), rfl, (Or.inl ⟨(by first | (first | omega | (have zz0 := Hid.u hi_cn; omega)) | (simp only [zd0]; (first | omega | (have zz0 := Hid.u hi_cn; omega)))), rfl, rfl, rfl, by first | rfl | simp only [zd0, zd1] | simp only [zd0]⟩), by rw [ht]; exact hP, hD⟩, hS.F ht⟩) hS.2.2 (oc_172 48 (aq_22 shX12_lorry_26))
    ·
      have tc_3 : ((nI (cn 46)).toInt : Int) = 3 := congrArg Int32.toInt c_3
      refine lv_iconst (v := (-1)) hx hb (oc_2 20 (aq_20 shX12_lorry_0)) kic_m1 ?_
      exact W.iret (v := (-1)) hx hb hr (fun t ht hW => ⟨⟨(-1), (cn, In, Fn), rfl, (Or.inr ⟨(by first | (first | omega | (have zz0 := Hid.u hi_cn; omega)) | (simp only [zd0]; (first | omega | (have zz0 := Hid.u hi_cn; omega)))), rfl, rfl, rfl, rfl⟩), by rw [ht]; exact hP, hD⟩, hS.F ht⟩) hS.2.2 (oc_172 21 (aq_21 shX12_lorry_0))
  ·
    have h_2 : ¬ (20 ≤ v0.toInt ∧ v0.toInt ≤ 2000) := h_2
    refine lv_if_eq (tgt := 20) hx hb (oc_153 9 (aq_9 shX12_lorry_0) sgw_0_11) rfl (fun _ => ?_) (fun h => absurd h cq_eq_0_0)
    refine lv_iconst (v := (-1)) hx hb (oc_2 20 (aq_20 shX12_lorry_0)) kic_m1 ?_
    exact W.iret (v := (-1)) hx hb hr (fun t ht hW => ⟨⟨(-1), (cn, In, Fn), rfl, (Or.inr ⟨(by first | (first | omega | (have zz0 := Hid.u hi_cn; omega)) | (simp only [zd0]; (first | omega | (have zz0 := Hid.u hi_cn; omega)))), rfl, rfl, rfl, rfl⟩), by rw [ht]; exact hP, hD⟩, hS.F ht⟩) hS.2.2 (oc_172 21 (aq_21 shX12_lorry_0))
set_option maxRecDepth 100000 in
set_option maxHeartbeats 4000000 in
theorem q_use (l : Launch) (D : va_G) (cI cB cZ : ClassId) (g : Nat → Nat) (cn : Nat → Nat) (In : Nat → Int32) (Fn : Nat → Nat → Int32) (v0 v1 : Int32) (sz : Nat) (hI : IM cn Fn) : Met l yX12_use (CWS yX12_use cX12_use 3 (some .boolean)) (RM 1 0 0) (PBw [.ref (g 100), .int v0, .int v1] D cI cB cZ (wM cI cB cZ g cn In Fn) sz) (va_Qi (fun (r : Int32) (u : (Nat → Nat) × (Nat → Int32) × (Nat → Nat → Int32)) => (fun r c2 I2 F2 => (((0 ≤ v0.toInt ∧ v0.toInt ≤ 9) ∧ (0 ≤ v1.toInt ∧ v1.toInt ≤ 3)) ∧ r = 1 ∧ c2 = cn ∧ I2 = In ∧ F2 = (va_up Fn 76 (upd (Fn 76) v0.toInt.toNat v1))) ∨ ((¬ ((0 ≤ v0.toInt ∧ v0.toInt ≤ 9) ∧ (0 ≤ v1.toInt ∧ v1.toInt ≤ 3))) ∧ r = 0 ∧ c2 = cn ∧ I2 = In ∧ F2 = Fn)) r u.1 u.2.1 u.2.2) (fun (u : (Nat → Nat) × (Nat → Int32) × (Nat → Nat → Int32)) (t : State) => va_P D vwCl (wM cI cB cZ g u.1 u.2.1 u.2.2) t.heap ∧ va_D (va_A (wM cI cB cZ g cn In Fn) sz) (wM cI cB cZ g u.1 u.2.1 u.2.2)) (va_A (wM cI cB cZ g cn In Fn) sz)) 0 0 (va_A (wM cI cB cZ g cn In Fn) sz) := by
  refine en_w (fun A => (va_Qi (fun (r : Int32) (u : (Nat → Nat) × (Nat → Int32) × (Nat → Nat → Int32)) => (fun (r : Int32) (c2 : Nat → Nat) (I2 : Nat → Int32) (F2 : Nat → Nat → Int32) => (((0 ≤ v0.toInt ∧ v0.toInt ≤ 9) ∧ (0 ≤ v1.toInt ∧ v1.toInt ≤ 3)) ∧ r = 1 ∧ c2 = cn ∧ I2 = In ∧ F2 = (va_up Fn 76 (upd (Fn 76) v0.toInt.toNat v1))) ∨ ((¬ ((0 ≤ v0.toInt ∧ v0.toInt ≤ 9) ∧ (0 ≤ v1.toInt ∧ v1.toInt ≤ 3))) ∧ r = 0 ∧ c2 = cn ∧ I2 = In ∧ F2 = Fn)) r u.1 u.2.1 u.2.2) (fun (u : (Nat → Nat) × (Nat → Int32) × (Nat → Nat → Int32)) (t : State) => va_P D vwCl (wM cI cB cZ g u.1 u.2.1 u.2.2) t.heap ∧ va_D A (wM cI cB cZ g u.1 u.2.1 u.2.2)) A)) rfl rfl pn_RX12 (Nat.le_of_ble_eq_true rfl) (fun p e s m below meth c A hx hb hml hown S hr hlocks hnm hA hP hK hD hS ls hl => ?_)
  have hl : lv_has ls 3 [(0, .ref (g 100)), (1, .int v0), (2, .int v1)] := hl
  have hi_cn : Hid (CB cn) := hI.b
  refine lv_iload_n hx hb (oc_27 0 shX12_use_0) rfl (lvA1 hl) ?_
  refine lv_iconst (v := 0) hx hb (oc_3 1 (aq_1 shX12_use_0)) kic_0 ?_
  refine lv_bipush (v := 9) hx hb (oc_16 2 (aq_2 shX12_use_0) sgb_9) kbc_9 ?_
  refine vp_callSi (runS_r (As := [.int v0, .int 0, .int 9]) (rest := []) S (q_in l D cI cB cZ v0 0 9 ) kS_RX12_214 hK hP [] rfl ⟨Nat.le_of_ble_eq_true rfl, Nat.le_of_ble_eq_true rfl⟩ ⟨Nat.le_of_ble_eq_true rfl, Nat.le_of_ble_eq_true rfl⟩ rfl hl.1 rfl (Nat.le_of_ble_eq_true rfl) (oc_184 4 (aq_4 shX12_use_0) uw_0_214)) (fun r_1 h_2 => ?_)
  rcases h_2 with ⟨rfl, h_2⟩ | ⟨rfl, h_2⟩
  ·
    have h_2 : 0 ≤ v0.toInt ∧ v0.toInt ≤ 9 := h_2
    refine lv_if_eq (tgt := 19) hx hb (oc_153 7 (aq_7 shX12_use_0) sgw_0_12) rfl (fun h => absurd h cq_eq_1_0) (fun _ => ?_)
    obtain ⟨d0, hd0, rfl⟩ := nI_of (x := v0) (fun q => by have := Int32.lt_iff_toInt_lt.mp q; have e : (0 : Int32).toInt = 0 := rfl; (first | omega | (have zz0 := Hid.u hi_cn; omega)))
    have td0 : (nI d0).toInt = (d0 : Int) := nI_toInt hd0
    have zd0 : (nI d0).toInt.toNat = d0 := by (first | omega | (have zz0 := Hid.u hi_cn; omega))
    refine lv_iload_n hx hb (oc_28 10 (aq_10 shX12_use_0)) rfl (lvA2 hl) ?_
    refine lv_iconst (v := 0) hx hb (oc_3 11 (aq_11 shX12_use_0)) kic_0 ?_
    refine lv_iconst (v := 3) hx hb (oc_6 12 (aq_12 shX12_use_0)) kic_3 ?_
    refine vp_callSi (runS_r (As := [.int v1, .int 0, .int 3]) (rest := []) S (q_in l D cI cB cZ v1 0 3 ) kS_RX12_214 hK hP [] rfl ⟨Nat.le_of_ble_eq_true rfl, Nat.le_of_ble_eq_true rfl⟩ ⟨Nat.le_of_ble_eq_true rfl, Nat.le_of_ble_eq_true rfl⟩ rfl hl.1 rfl (Nat.le_of_ble_eq_true rfl) (oc_184 13 (aq_13 shX12_use_0) uw_0_214)) (fun r_3 h_4 => ?_)
    rcases h_4 with ⟨rfl, h_4⟩ | ⟨rfl, h_4⟩
    ·
      have h_4 : 0 ≤ v1.toInt ∧ v1.toInt ≤ 3 := h_4
      refine lv_if_ne (tgt := 21) hx hb (oc_154 16 (aq_16 shX12_use_0) sgw_0_5) rfl (fun _ => ?_) (fun h => absurd h cq_eq_1_0)
      refine lv_aload_n hx hb (oc_42 21 (aq_21 shX12_use_0)) rfl (lvA0 hl) ?_
      refine gM_162 S hK hP (v := .ref (g 76)) rfl (oc_180 22 (aq_22 shX12_use_0) uw_0_162) ?_
      refine lv_iload_n hx hb (oc_27 25 shX12_use_25) rfl (lvA1 hl) ?_
      refine lv_iload_n hx hb (oc_28 26 (aq_1 shX12_use_25)) rfl (lvA2 hl) ?_
      have kb_1 : d0 < 10 := by (first | omega | (have zz0 := Hid.u hi_cn; omega))
      refine stM_76 hx hb hK hP hD hS (Fn2 := (va_up Fn 76 (upd (Fn 76) d0 v1))) (vp_in_nI kb_1 (ltb rfl)) (nI_clamp (Nat.lt_trans kb_1 (ltb rfl))) rfl (oc_79 27 (aq_2 shX12_use_25)) (fun H locs hP hD hS => ?_)
      refine lv_iconst (v := 1) hx hb (oc_4 28 (aq_3 shX12_use_25)) kic_1 ?_
      exact W.zret (v := 1) hx hb hr rfl (fun t ht hW => ⟨⟨1, (cn, In, (va_up Fn 76 (upd (Fn 76) d0 v1))), rfl, (Or.inl ⟨(by first | (first | omega | (have zz0 := Hid.u hi_cn; omega)) | (simp only [zd0]; (first | omega | (have zz0 := Hid.u hi_cn; omega)))), rfl, rfl, rfl, by first | rfl | simp only [zd0, zd1] | simp only [zd0]⟩), by rw [ht]; exact hP, hD⟩, hS.F ht⟩) hS.2.2 (oc_172 29 (aq_4 shX12_use_25))
    ·
      have h_4 : ¬ (0 ≤ v1.toInt ∧ v1.toInt ≤ 3) := h_4
      refine lv_if_ne (tgt := 21) hx hb (oc_154 16 (aq_16 shX12_use_0) sgw_0_5) rfl (fun h => absurd h cq_eq_0_0) (fun _ => ?_)
      refine lv_iconst (v := 0) hx hb (oc_3 19 (aq_19 shX12_use_0)) kic_0 ?_
      exact W.zret (v := 0) hx hb hr rfl (fun t ht hW => ⟨⟨0, (cn, In, Fn), rfl, (Or.inr ⟨(by first | (first | omega | (have zz0 := Hid.u hi_cn; omega)) | (simp only [zd0]; (first | omega | (have zz0 := Hid.u hi_cn; omega)))), rfl, rfl, rfl, rfl⟩), by rw [ht]; exact hP, hD⟩, hS.F ht⟩) hS.2.2 (oc_172 20 (aq_20 shX12_use_0))
  ·
    have h_2 : ¬ (0 ≤ v0.toInt ∧ v0.toInt ≤ 9) := h_2
    refine lv_if_eq (tgt := 19) hx hb (oc_153 7 (aq_7 shX12_use_0) sgw_0_12) rfl (fun _ => ?_) (fun h => absurd h cq_eq_0_0)
    refine lv_iconst (v := 0) hx hb (oc_3 19 (aq_19 shX12_use_0)) kic_0 ?_
    exact W.zret (v := 0) hx hb hr rfl (fun t ht hW => ⟨⟨0, (cn, In, Fn), rfl, (Or.inr ⟨(by first | (first | omega | (have zz0 := Hid.u hi_cn; omega)) | (simp only [zd0]; (first | omega | (have zz0 := Hid.u hi_cn; omega)))), rfl, rfl, rfl, rfl⟩), by rw [ht]; exact hP, hD⟩, hS.F ht⟩) hS.2.2 (oc_172 20 (aq_20 shX12_use_0))
set_option maxRecDepth 100000 in
set_option maxHeartbeats 4000000 in
theorem q_rate (l : Launch) (D : va_G) (cI cB cZ : ClassId) (g : Nat → Nat) (cn : Nat → Nat) (In : Nat → Int32) (Fn : Nat → Nat → Int32) (v0 v1 v2 : Int32) (sz : Nat) (hI : IM cn Fn) : Met l yX12_rate (CWS yX12_rate cX12_rate 4 (some .boolean)) (RM 1 0 0) (PBw [.ref (g 100), .int v0, .int v1, .int v2] D cI cB cZ (wM cI cB cZ g cn In Fn) sz) (va_Qi (fun (r : Int32) (u : (Nat → Nat) × (Nat → Int32) × (Nat → Nat → Int32)) => (fun r c2 I2 F2 => (((0 ≤ v0.toInt ∧ v0.toInt ≤ 3) ∧ (0 ≤ v1.toInt ∧ v1.toInt ≤ 57) ∧ (0 ≤ v2.toInt ∧ v2.toInt ≤ 1000)) ∧ r = 1 ∧ c2 = cn ∧ I2 = In ∧ F2 = (va_up Fn 77 (upd (Fn 77) (58 * v0.toInt.toNat + v1.toInt.toNat) v2))) ∨ ((¬ ((0 ≤ v0.toInt ∧ v0.toInt ≤ 3) ∧ (0 ≤ v1.toInt ∧ v1.toInt ≤ 57) ∧ (0 ≤ v2.toInt ∧ v2.toInt ≤ 1000))) ∧ r = 0 ∧ c2 = cn ∧ I2 = In ∧ F2 = Fn)) r u.1 u.2.1 u.2.2) (fun (u : (Nat → Nat) × (Nat → Int32) × (Nat → Nat → Int32)) (t : State) => va_P D vwCl (wM cI cB cZ g u.1 u.2.1 u.2.2) t.heap ∧ va_D (va_A (wM cI cB cZ g cn In Fn) sz) (wM cI cB cZ g u.1 u.2.1 u.2.2)) (va_A (wM cI cB cZ g cn In Fn) sz)) 0 0 (va_A (wM cI cB cZ g cn In Fn) sz) := by
  refine en_w (fun A => (va_Qi (fun (r : Int32) (u : (Nat → Nat) × (Nat → Int32) × (Nat → Nat → Int32)) => (fun (r : Int32) (c2 : Nat → Nat) (I2 : Nat → Int32) (F2 : Nat → Nat → Int32) => (((0 ≤ v0.toInt ∧ v0.toInt ≤ 3) ∧ (0 ≤ v1.toInt ∧ v1.toInt ≤ 57) ∧ (0 ≤ v2.toInt ∧ v2.toInt ≤ 1000)) ∧ r = 1 ∧ c2 = cn ∧ I2 = In ∧ F2 = (va_up Fn 77 (upd (Fn 77) (58 * v0.toInt.toNat + v1.toInt.toNat) v2))) ∨ ((¬ ((0 ≤ v0.toInt ∧ v0.toInt ≤ 3) ∧ (0 ≤ v1.toInt ∧ v1.toInt ≤ 57) ∧ (0 ≤ v2.toInt ∧ v2.toInt ≤ 1000))) ∧ r = 0 ∧ c2 = cn ∧ I2 = In ∧ F2 = Fn)) r u.1 u.2.1 u.2.2) (fun (u : (Nat → Nat) × (Nat → Int32) × (Nat → Nat → Int32)) (t : State) => va_P D vwCl (wM cI cB cZ g u.1 u.2.1 u.2.2) t.heap ∧ va_D A (wM cI cB cZ g u.1 u.2.1 u.2.2)) A)) rfl rfl pn_RX12 (Nat.le_of_ble_eq_true rfl) (fun p e s m below meth c A hx hb hml hown S hr hlocks hnm hA hP hK hD hS ls hl => ?_)
  have hl : lv_has ls 4 [(0, .ref (g 100)), (1, .int v0), (2, .int v1), (3, .int v2)] := hl
  have hi_cn : Hid (CB cn) := hI.b
  refine lv_iload_n hx hb (oc_27 0 shX12_rate_0) rfl (lvA1 hl) ?_
  refine lv_iconst (v := 0) hx hb (oc_3 1 (aq_1 shX12_rate_0)) kic_0 ?_
  refine lv_iconst (v := 3) hx hb (oc_6 2 (aq_2 shX12_rate_0)) kic_3 ?_
  refine vp_callSi (runS_r (As := [.int v0, .int 0, .int 3]) (rest := []) S (q_in l D cI cB cZ v0 0 3 ) kS_RX12_214 hK hP [] rfl ⟨Nat.le_of_ble_eq_true rfl, Nat.le_of_ble_eq_true rfl⟩ ⟨Nat.le_of_ble_eq_true rfl, Nat.le_of_ble_eq_true rfl⟩ rfl hl.1 rfl (Nat.le_of_ble_eq_true rfl) (oc_184 3 (aq_3 shX12_rate_0) uw_0_214)) (fun r_1 h_2 => ?_)
  rcases h_2 with ⟨rfl, h_2⟩ | ⟨rfl, h_2⟩
  ·
    have h_2 : 0 ≤ v0.toInt ∧ v0.toInt ≤ 3 := h_2
    refine lv_if_eq (tgt := 30) hx hb (oc_153 6 (aq_6 shX12_rate_0) sgw_0_24) rfl (fun h => absurd h cq_eq_1_0) (fun _ => ?_)
    obtain ⟨d0, hd0, rfl⟩ := nI_of (x := v0) (fun q => by have := Int32.lt_iff_toInt_lt.mp q; have e : (0 : Int32).toInt = 0 := rfl; (first | omega | (have zz0 := Hid.u hi_cn; omega)))
    have td0 : (nI d0).toInt = (d0 : Int) := nI_toInt hd0
    have zd0 : (nI d0).toInt.toNat = d0 := by (first | omega | (have zz0 := Hid.u hi_cn; omega))
    refine lv_iload_n hx hb (oc_28 9 (aq_9 shX12_rate_0)) rfl (lvA2 hl) ?_
    refine lv_iconst (v := 0) hx hb (oc_3 10 (aq_10 shX12_rate_0)) kic_0 ?_
    refine lv_bipush (v := 57) hx hb (oc_16 11 (aq_11 shX12_rate_0) sgb_57) kbc_57 ?_
    refine vp_callSi (runS_r (As := [.int v1, .int 0, .int 57]) (rest := []) S (q_in l D cI cB cZ v1 0 57 ) kS_RX12_214 hK hP [] rfl ⟨Nat.le_of_ble_eq_true rfl, Nat.le_of_ble_eq_true rfl⟩ ⟨Nat.le_of_ble_eq_true rfl, Nat.le_of_ble_eq_true rfl⟩ rfl hl.1 rfl (Nat.le_of_ble_eq_true rfl) (oc_184 13 (aq_13 shX12_rate_0) uw_0_214)) (fun r_3 h_4 => ?_)
    rcases h_4 with ⟨rfl, h_4⟩ | ⟨rfl, h_4⟩
    ·
      have h_4 : 0 ≤ v1.toInt ∧ v1.toInt ≤ 57 := h_4
      refine lv_if_eq (tgt := 30) hx hb (oc_153 16 (aq_16 shX12_rate_0) sgw_0_14) rfl (fun h => absurd h cq_eq_1_0) (fun _ => ?_)
      obtain ⟨d1, hd1, rfl⟩ := nI_of (x := v1) (fun q => by have := Int32.lt_iff_toInt_lt.mp q; have e : (0 : Int32).toInt = 0 := rfl; (first | omega | (have zz0 := Hid.u hi_cn; omega)))
      have td1 : (nI d1).toInt = (d1 : Int) := nI_toInt hd1
      have zd1 : (nI d1).toInt.toNat = d1 := by (first | omega | (have zz0 := Hid.u hi_cn; omega))
      refine lv_iload_n hx hb (oc_29 19 (aq_19 shX12_rate_0)) rfl (lvA3 hl) ?_
      refine lv_iconst (v := 0) hx hb (oc_3 20 (aq_20 shX12_rate_0)) kic_0 ?_
      refine lv_sipush (v := 1000) hx hb (oc_17 21 (aq_21 shX12_rate_0) sgw_3_232) (by decide) ?_
      refine vp_callSi (runS_r (As := [.int v2, .int 0, .int 1000]) (rest := []) S (q_in l D cI cB cZ v2 0 1000 ) kS_RX12_214 hK hP [] rfl ⟨Nat.le_of_ble_eq_true rfl, Nat.le_of_ble_eq_true rfl⟩ ⟨Nat.le_of_ble_eq_true rfl, Nat.le_of_ble_eq_true rfl⟩ rfl hl.1 rfl (Nat.le_of_ble_eq_true rfl) (oc_184 24 shX12_rate_24 uw_0_214)) (fun r_5 h_6 => ?_)
      rcases h_6 with ⟨rfl, h_6⟩ | ⟨rfl, h_6⟩
      ·
        have h_6 : 0 ≤ v2.toInt ∧ v2.toInt ≤ 1000 := h_6
        refine lv_if_ne (tgt := 32) hx hb (oc_154 27 (aq_3 shX12_rate_24) sgw_0_5) rfl (fun _ => ?_) (fun h => absurd h cq_eq_1_0)
        refine lv_aload_n hx hb (oc_42 32 (aq_8 shX12_rate_24)) rfl (lvA0 hl) ?_
        refine gM_165 S hK hP (v := .ref (g 77)) rfl (oc_180 33 (aq_9 shX12_rate_24) uw_0_165) ?_
        refine lv_bipush (v := 58) hx hb (oc_16 36 (aq_12 shX12_rate_24) sgb_58) kbc_58 ?_
        refine lv_iload_n hx hb (oc_27 38 (aq_14 shX12_rate_24)) rfl (lvA1 hl) ?_
        refine lv_imul hx hb (oc_104 39 (aq_15 shX12_rate_24)) ?_
        refine lv_topi (fun y_7 ey_7 => ?_)
        obtain rfl : y_7 = (nI (58 * d0)) := ey_7.trans (pk_mul 58 d0)
        refine lv_iload_n hx hb (oc_28 40 (aq_16 shX12_rate_24)) rfl (lvA2 hl) ?_
        refine lv_iadd hx hb (oc_96 41 (aq_17 shX12_rate_24)) ?_
        refine lv_topi (fun y_8 ey_8 => ?_)
        obtain rfl : y_8 = (nI ((58 * d0) + d1)) := ey_8.trans (nI_add (58 * d0) d1)
        refine lv_iload_n hx hb (oc_29 42 (aq_18 shX12_rate_24)) rfl (lvA3 hl) ?_
        have kb_1 : ((58 * d0) + d1) < 232 := by (first | omega | (have zz0 := Hid.u hi_cn; omega))
        refine stM_77 hx hb hK hP hD hS (Fn2 := (va_up Fn 77 (upd (Fn 77) ((58 * d0) + d1) v2))) (vp_in_nI kb_1 (ltb rfl)) (nI_clamp (Nat.lt_trans kb_1 (ltb rfl))) rfl (oc_79 43 (aq_19 shX12_rate_24)) (fun H locs hP hD hS => ?_)
        refine lv_iconst (v := 1) hx hb (oc_4 44 (aq_20 shX12_rate_24)) kic_1 ?_
        exact W.zret (v := 1) hx hb hr rfl (fun t ht hW => ⟨⟨1, (cn, In, (va_up Fn 77 (upd (Fn 77) ((58 * d0) + d1) v2))), rfl, (Or.inl ⟨(by first | (first | omega | (have zz0 := Hid.u hi_cn; omega)) | (simp only [zd0]; (first | omega | (have zz0 := Hid.u hi_cn; omega)))), rfl, rfl, rfl, by first | rfl | simp only [zd0, zd1] | simp only [zd0]⟩), by rw [ht]; exact hP, hD⟩, hS.F ht⟩) hS.2.2 (oc_172 45 (aq_21 shX12_rate_24))
      ·
        have h_6 : ¬ (0 ≤ v2.toInt ∧ v2.toInt ≤ 1000) := h_6
        refine lv_if_ne (tgt := 32) hx hb (oc_154 27 (aq_3 shX12_rate_24) sgw_0_5) rfl (fun h => absurd h cq_eq_0_0) (fun _ => ?_)
        refine lv_iconst (v := 0) hx hb (oc_3 30 (aq_6 shX12_rate_24)) kic_0 ?_
        exact W.zret (v := 0) hx hb hr rfl (fun t ht hW => ⟨⟨0, (cn, In, Fn), rfl, (Or.inr ⟨(by first | (first | omega | (have zz0 := Hid.u hi_cn; omega)) | (simp only [zd0]; (first | omega | (have zz0 := Hid.u hi_cn; omega)))), rfl, rfl, rfl, rfl⟩), by rw [ht]; exact hP, hD⟩, hS.F ht⟩) hS.2.2 (oc_172 31 (aq_7 shX12_rate_24))
    ·
      have h_4 : ¬ (0 ≤ v1.toInt ∧ v1.toInt ≤ 57) := h_4
      refine lv_if_eq (tgt := 30) hx hb (oc_153 16 (aq_16 shX12_rate_0) sgw_0_14) rfl (fun _ => ?_) (fun h => absurd h cq_eq_0_0)
      refine lv_iconst (v := 0) hx hb (oc_3 30 (aq_6 shX12_rate_24)) kic_0 ?_
      exact W.zret (v := 0) hx hb hr rfl (fun t ht hW => ⟨⟨0, (cn, In, Fn), rfl, (Or.inr ⟨(by first | (first | omega | (have zz0 := Hid.u hi_cn; omega)) | (simp only [zd0]; (first | omega | (have zz0 := Hid.u hi_cn; omega)))), rfl, rfl, rfl, rfl⟩), by rw [ht]; exact hP, hD⟩, hS.F ht⟩) hS.2.2 (oc_172 31 (aq_7 shX12_rate_24))
  ·
    have h_2 : ¬ (0 ≤ v0.toInt ∧ v0.toInt ≤ 3) := h_2
    refine lv_if_eq (tgt := 30) hx hb (oc_153 6 (aq_6 shX12_rate_0) sgw_0_24) rfl (fun _ => ?_) (fun h => absurd h cq_eq_0_0)
    refine lv_iconst (v := 0) hx hb (oc_3 30 (aq_6 shX12_rate_24)) kic_0 ?_
    exact W.zret (v := 0) hx hb hr rfl (fun t ht hW => ⟨⟨0, (cn, In, Fn), rfl, (Or.inr ⟨(by first | (first | omega | (have zz0 := Hid.u hi_cn; omega)) | (simp only [zd0]; (first | omega | (have zz0 := Hid.u hi_cn; omega)))), rfl, rfl, rfl, rfl⟩), by rw [ht]; exact hP, hD⟩, hS.F ht⟩) hS.2.2 (oc_172 31 (aq_7 shX12_rate_24))
set_option maxRecDepth 100000 in
set_option maxHeartbeats 4000000 in
theorem q_most (l : Launch) (D : va_G) (cI cB cZ : ClassId) (g : Nat → Nat) (cn : Nat → Nat) (In : Nat → Int32) (Fn : Nat → Nat → Int32) (v0 v1 : Int32) (sz : Nat) (hI : IM cn Fn) : Met l yX12_most (CWS yX12_most cX12_most 3 (some .boolean)) (RM 1 0 0) (PBw [.ref (g 100), .int v0, .int v1] D cI cB cZ (wM cI cB cZ g cn In Fn) sz) (va_Qi (fun (r : Int32) (u : (Nat → Nat) × (Nat → Int32) × (Nat → Nat → Int32)) => (fun r c2 I2 F2 => (((0 ≤ v0.toInt ∧ v0.toInt ≤ 9) ∧ (0 ≤ v1.toInt ∧ v1.toInt ≤ 100000)) ∧ r = 1 ∧ c2 = cn ∧ I2 = In ∧ F2 = (va_up Fn 78 (upd (Fn 78) v0.toInt.toNat v1))) ∨ ((¬ ((0 ≤ v0.toInt ∧ v0.toInt ≤ 9) ∧ (0 ≤ v1.toInt ∧ v1.toInt ≤ 100000))) ∧ r = 0 ∧ c2 = cn ∧ I2 = In ∧ F2 = Fn)) r u.1 u.2.1 u.2.2) (fun (u : (Nat → Nat) × (Nat → Int32) × (Nat → Nat → Int32)) (t : State) => va_P D vwCl (wM cI cB cZ g u.1 u.2.1 u.2.2) t.heap ∧ va_D (va_A (wM cI cB cZ g cn In Fn) sz) (wM cI cB cZ g u.1 u.2.1 u.2.2)) (va_A (wM cI cB cZ g cn In Fn) sz)) 0 0 (va_A (wM cI cB cZ g cn In Fn) sz) := by
  refine en_w (fun A => (va_Qi (fun (r : Int32) (u : (Nat → Nat) × (Nat → Int32) × (Nat → Nat → Int32)) => (fun (r : Int32) (c2 : Nat → Nat) (I2 : Nat → Int32) (F2 : Nat → Nat → Int32) => (((0 ≤ v0.toInt ∧ v0.toInt ≤ 9) ∧ (0 ≤ v1.toInt ∧ v1.toInt ≤ 100000)) ∧ r = 1 ∧ c2 = cn ∧ I2 = In ∧ F2 = (va_up Fn 78 (upd (Fn 78) v0.toInt.toNat v1))) ∨ ((¬ ((0 ≤ v0.toInt ∧ v0.toInt ≤ 9) ∧ (0 ≤ v1.toInt ∧ v1.toInt ≤ 100000))) ∧ r = 0 ∧ c2 = cn ∧ I2 = In ∧ F2 = Fn)) r u.1 u.2.1 u.2.2) (fun (u : (Nat → Nat) × (Nat → Int32) × (Nat → Nat → Int32)) (t : State) => va_P D vwCl (wM cI cB cZ g u.1 u.2.1 u.2.2) t.heap ∧ va_D A (wM cI cB cZ g u.1 u.2.1 u.2.2)) A)) rfl rfl pn_RX12 (Nat.le_of_ble_eq_true rfl) (fun p e s m below meth c A hx hb hml hown S hr hlocks hnm hA hP hK hD hS ls hl => ?_)
  have hl : lv_has ls 3 [(0, .ref (g 100)), (1, .int v0), (2, .int v1)] := hl
  have hi_cn : Hid (CB cn) := hI.b
  refine lv_iload_n hx hb (oc_27 0 shX12_most_0) rfl (lvA1 hl) ?_
  refine lv_iconst (v := 0) hx hb (oc_3 1 (aq_1 shX12_most_0)) kic_0 ?_
  refine lv_bipush (v := 9) hx hb (oc_16 2 (aq_2 shX12_most_0) sgb_9) kbc_9 ?_
  refine vp_callSi (runS_r (As := [.int v0, .int 0, .int 9]) (rest := []) S (q_in l D cI cB cZ v0 0 9 ) kS_RX12_214 hK hP [] rfl ⟨Nat.le_of_ble_eq_true rfl, Nat.le_of_ble_eq_true rfl⟩ ⟨Nat.le_of_ble_eq_true rfl, Nat.le_of_ble_eq_true rfl⟩ rfl hl.1 rfl (Nat.le_of_ble_eq_true rfl) (oc_184 4 (aq_4 shX12_most_0) uw_0_214)) (fun r_1 h_2 => ?_)
  rcases h_2 with ⟨rfl, h_2⟩ | ⟨rfl, h_2⟩
  ·
    have h_2 : 0 ≤ v0.toInt ∧ v0.toInt ≤ 9 := h_2
    refine lv_if_eq (tgt := 21) hx hb (oc_153 7 (aq_7 shX12_most_0) sgw_0_14) rfl (fun h => absurd h cq_eq_1_0) (fun _ => ?_)
    obtain ⟨d0, hd0, rfl⟩ := nI_of (x := v0) (fun q => by have := Int32.lt_iff_toInt_lt.mp q; have e : (0 : Int32).toInt = 0 := rfl; (first | omega | (have zz0 := Hid.u hi_cn; omega)))
    have td0 : (nI d0).toInt = (d0 : Int) := nI_toInt hd0
    have zd0 : (nI d0).toInt.toNat = d0 := by (first | omega | (have zz0 := Hid.u hi_cn; omega))
    refine lv_iload_n hx hb (oc_28 10 (aq_10 shX12_most_0)) rfl (lvA2 hl) ?_
    refine lv_iconst (v := 0) hx hb (oc_3 11 (aq_11 shX12_most_0)) kic_0 ?_
    refine lv_ldcw (v := 100000) hx hb hown (S.2.2.2.2 _ (wk8_4 9 rfl rfl)) (oc_19 12 (aq_12 shX12_most_0) uw_1_78) ?_
    refine vp_callSi (runS_r (As := [.int v1, .int 0, .int 100000]) (rest := []) S (q_in l D cI cB cZ v1 0 100000 ) kS_RX12_214 hK hP [] rfl ⟨Nat.le_of_ble_eq_true rfl, Nat.le_of_ble_eq_true rfl⟩ ⟨Nat.le_of_ble_eq_true rfl, Nat.le_of_ble_eq_true rfl⟩ rfl hl.1 rfl (Nat.le_of_ble_eq_true rfl) (oc_184 15 (aq_15 shX12_most_0) uw_0_214)) (fun r_3 h_4 => ?_)
    rcases h_4 with ⟨rfl, h_4⟩ | ⟨rfl, h_4⟩
    ·
      have h_4 : 0 ≤ v1.toInt ∧ v1.toInt ≤ 100000 := h_4
      refine lv_if_ne (tgt := 23) hx hb (oc_154 18 (aq_18 shX12_most_0) sgw_0_5) rfl (fun _ => ?_) (fun h => absurd h cq_eq_1_0)
      refine lv_aload_n hx hb (oc_42 23 (aq_23 shX12_most_0)) rfl (lvA0 hl) ?_
      refine gM_168 S hK hP (v := .ref (g 78)) rfl (oc_180 24 shX12_most_24 uw_0_168) ?_
      refine lv_iload_n hx hb (oc_27 27 (aq_3 shX12_most_24)) rfl (lvA1 hl) ?_
      refine lv_iload_n hx hb (oc_28 28 (aq_4 shX12_most_24)) rfl (lvA2 hl) ?_
      have kb_1 : d0 < 10 := by (first | omega | (have zz0 := Hid.u hi_cn; omega))
      refine stM_78 hx hb hK hP hD hS (Fn2 := (va_up Fn 78 (upd (Fn 78) d0 v1))) (vp_in_nI kb_1 (ltb rfl)) (nI_clamp (Nat.lt_trans kb_1 (ltb rfl))) rfl (oc_79 29 (aq_5 shX12_most_24)) (fun H locs hP hD hS => ?_)
      refine lv_iconst (v := 1) hx hb (oc_4 30 (aq_6 shX12_most_24)) kic_1 ?_
      exact W.zret (v := 1) hx hb hr rfl (fun t ht hW => ⟨⟨1, (cn, In, (va_up Fn 78 (upd (Fn 78) d0 v1))), rfl, (Or.inl ⟨(by first | (first | omega | (have zz0 := Hid.u hi_cn; omega)) | (simp only [zd0]; (first | omega | (have zz0 := Hid.u hi_cn; omega)))), rfl, rfl, rfl, by first | rfl | simp only [zd0, zd1] | simp only [zd0]⟩), by rw [ht]; exact hP, hD⟩, hS.F ht⟩) hS.2.2 (oc_172 31 (aq_7 shX12_most_24))
    ·
      have h_4 : ¬ (0 ≤ v1.toInt ∧ v1.toInt ≤ 100000) := h_4
      refine lv_if_ne (tgt := 23) hx hb (oc_154 18 (aq_18 shX12_most_0) sgw_0_5) rfl (fun h => absurd h cq_eq_0_0) (fun _ => ?_)
      refine lv_iconst (v := 0) hx hb (oc_3 21 (aq_21 shX12_most_0)) kic_0 ?_
      exact W.zret (v := 0) hx hb hr rfl (fun t ht hW => ⟨⟨0, (cn, In, Fn), rfl, (Or.inr ⟨(by first | (first | omega | (have zz0 := Hid.u hi_cn; omega)) | (simp only [zd0]; (first | omega | (have zz0 := Hid.u hi_cn; omega)))), rfl, rfl, rfl, rfl⟩), by rw [ht]; exact hP, hD⟩, hS.F ht⟩) hS.2.2 (oc_172 22 (aq_22 shX12_most_0))
  ·
    have h_2 : ¬ (0 ≤ v0.toInt ∧ v0.toInt ≤ 9) := h_2
    refine lv_if_eq (tgt := 21) hx hb (oc_153 7 (aq_7 shX12_most_0) sgw_0_14) rfl (fun _ => ?_) (fun h => absurd h cq_eq_0_0)
    refine lv_iconst (v := 0) hx hb (oc_3 21 (aq_21 shX12_most_0)) kic_0 ?_
    exact W.zret (v := 0) hx hb hr rfl (fun t ht hW => ⟨⟨0, (cn, In, Fn), rfl, (Or.inr ⟨(by first | (first | omega | (have zz0 := Hid.u hi_cn; omega)) | (simp only [zd0]; (first | omega | (have zz0 := Hid.u hi_cn; omega)))), rfl, rfl, rfl, rfl⟩), by rw [ht]; exact hP, hD⟩, hS.F ht⟩) hS.2.2 (oc_172 22 (aq_22 shX12_most_0))
set_option maxRecDepth 100000 in
set_option maxHeartbeats 4000000 in
theorem q_offers (l : Launch) (D : va_G) (cI cB cZ : ClassId) (g : Nat → Nat) (cn : Nat → Nat) (In : Nat → Int32) (Fn : Nat → Nat → Int32) (v0 v1 v2 : Int32) (sz : Nat) (hI : IM cn Fn) : Met l yX12_offers (CWS yX12_offers cX12_offers 4 (some .boolean)) (RM 1 0 0) (PBw [.ref (g 100), .int v0, .int v1, .int v2] D cI cB cZ (wM cI cB cZ g cn In Fn) sz) (va_Qi (fun (r : Int32) (u : (Nat → Nat) × (Nat → Int32) × (Nat → Nat → Int32)) => (fun r c2 I2 F2 => (((0 ≤ v0.toInt ∧ v0.toInt < (cn 1 : Int)) ∧ (0 ≤ v1.toInt ∧ v1.toInt ≤ 200) ∧ (0 ≤ v2.toInt ∧ v2.toInt ≤ 200)) ∧ r = 1 ∧ c2 = cn ∧ I2 = In ∧ F2 = (va_up (va_up Fn 84 (upd (Fn 84) v0.toInt.toNat v1)) 85 (upd (Fn 85) v0.toInt.toNat v2))) ∨ ((¬ ((0 ≤ v0.toInt ∧ v0.toInt < (cn 1 : Int)) ∧ (0 ≤ v1.toInt ∧ v1.toInt ≤ 200) ∧ (0 ≤ v2.toInt ∧ v2.toInt ≤ 200))) ∧ r = 0 ∧ c2 = cn ∧ I2 = In ∧ F2 = Fn)) r u.1 u.2.1 u.2.2) (fun (u : (Nat → Nat) × (Nat → Int32) × (Nat → Nat → Int32)) (t : State) => va_P D vwCl (wM cI cB cZ g u.1 u.2.1 u.2.2) t.heap ∧ va_D (va_A (wM cI cB cZ g cn In Fn) sz) (wM cI cB cZ g u.1 u.2.1 u.2.2)) (va_A (wM cI cB cZ g cn In Fn) sz)) 0 0 (va_A (wM cI cB cZ g cn In Fn) sz) := by
  refine en_w (fun A => (va_Qi (fun (r : Int32) (u : (Nat → Nat) × (Nat → Int32) × (Nat → Nat → Int32)) => (fun (r : Int32) (c2 : Nat → Nat) (I2 : Nat → Int32) (F2 : Nat → Nat → Int32) => (((0 ≤ v0.toInt ∧ v0.toInt < (cn 1 : Int)) ∧ (0 ≤ v1.toInt ∧ v1.toInt ≤ 200) ∧ (0 ≤ v2.toInt ∧ v2.toInt ≤ 200)) ∧ r = 1 ∧ c2 = cn ∧ I2 = In ∧ F2 = (va_up (va_up Fn 84 (upd (Fn 84) v0.toInt.toNat v1)) 85 (upd (Fn 85) v0.toInt.toNat v2))) ∨ ((¬ ((0 ≤ v0.toInt ∧ v0.toInt < (cn 1 : Int)) ∧ (0 ≤ v1.toInt ∧ v1.toInt ≤ 200) ∧ (0 ≤ v2.toInt ∧ v2.toInt ≤ 200))) ∧ r = 0 ∧ c2 = cn ∧ I2 = In ∧ F2 = Fn)) r u.1 u.2.1 u.2.2) (fun (u : (Nat → Nat) × (Nat → Int32) × (Nat → Nat → Int32)) (t : State) => va_P D vwCl (wM cI cB cZ g u.1 u.2.1 u.2.2) t.heap ∧ va_D A (wM cI cB cZ g u.1 u.2.1 u.2.2)) A)) rfl rfl pn_RX12 (Nat.le_of_ble_eq_true rfl) (fun p e s m below meth c A hx hb hml hown S hr hlocks hnm hA hP hK hD hS ls hl => ?_)
  have hl : lv_has ls 4 [(0, .ref (g 100)), (1, .int v0), (2, .int v1), (3, .int v2)] := hl
  have hi_cn : Hid (CB cn) := hI.b
  refine lv_aload_n hx hb (oc_42 0 shX12_offers_0) rfl (lvA0 hl) ?_
  refine lv_iload_n hx hb (oc_27 1 (aq_1 shX12_offers_0)) rfl (lvA1 hl) ?_
  refine vp_callSi (runV_ra (As := [.int v0]) (rest := []) S (q_isKitchen l D cI cB cZ g cn In Fn v0 hI) kV_RX12_218 hK hP 0 rfl rfl rfl ⟨Nat.le_of_ble_eq_true rfl, Nat.le_of_ble_eq_true rfl⟩ ⟨Nat.le_of_ble_eq_true rfl, Nat.le_of_ble_eq_true rfl⟩ rfl hl.1 rfl (Nat.le_of_ble_eq_true rfl) (oc_182 2 (aq_2 shX12_offers_0) uw_0_218)) (fun r_1 h_2 => ?_)
  rcases h_2 with ⟨rfl, h_2⟩ | ⟨rfl, h_2⟩
  ·
    have h_2 : 0 ≤ v0.toInt ∧ v0.toInt < ((cn 1) : Int) := h_2
    refine lv_if_eq (tgt := 30) hx hb (oc_153 5 (aq_5 shX12_offers_0) sgw_0_25) rfl (fun h => absurd h cq_eq_1_0) (fun _ => ?_)
    obtain ⟨d0, hd0, rfl⟩ := nI_of (x := v0) (fun q => by have := Int32.lt_iff_toInt_lt.mp q; have e : (0 : Int32).toInt = 0 := rfl; (first | omega | (have zz0 := Hid.u hi_cn; omega)))
    have td0 : (nI d0).toInt = (d0 : Int) := nI_toInt hd0
    have zd0 : (nI d0).toInt.toNat = d0 := by (first | omega | (have zz0 := Hid.u hi_cn; omega))
    refine lv_iload_n hx hb (oc_28 8 (aq_8 shX12_offers_0)) rfl (lvA2 hl) ?_
    refine lv_iconst (v := 0) hx hb (oc_3 9 (aq_9 shX12_offers_0)) kic_0 ?_
    refine lv_sipush (v := 200) hx hb (oc_17 10 (aq_10 shX12_offers_0) sgw_0_200) (by decide) ?_
    refine vp_callSi (runS_r (As := [.int v1, .int 0, .int 200]) (rest := []) S (q_in l D cI cB cZ v1 0 200 ) kS_RX12_214 hK hP [] rfl ⟨Nat.le_of_ble_eq_true rfl, Nat.le_of_ble_eq_true rfl⟩ ⟨Nat.le_of_ble_eq_true rfl, Nat.le_of_ble_eq_true rfl⟩ rfl hl.1 rfl (Nat.le_of_ble_eq_true rfl) (oc_184 13 (aq_13 shX12_offers_0) uw_0_214)) (fun r_3 h_4 => ?_)
    rcases h_4 with ⟨rfl, h_4⟩ | ⟨rfl, h_4⟩
    ·
      have h_4 : 0 ≤ v1.toInt ∧ v1.toInt ≤ 200 := h_4
      refine lv_if_eq (tgt := 30) hx hb (oc_153 16 (aq_16 shX12_offers_0) sgw_0_14) rfl (fun h => absurd h cq_eq_1_0) (fun _ => ?_)
      refine lv_iload_n hx hb (oc_29 19 (aq_19 shX12_offers_0)) rfl (lvA3 hl) ?_
      refine lv_iconst (v := 0) hx hb (oc_3 20 (aq_20 shX12_offers_0)) kic_0 ?_
      refine lv_sipush (v := 200) hx hb (oc_17 21 (aq_21 shX12_offers_0) sgw_0_200) (by decide) ?_
      refine vp_callSi (runS_r (As := [.int v2, .int 0, .int 200]) (rest := []) S (q_in l D cI cB cZ v2 0 200 ) kS_RX12_214 hK hP [] rfl ⟨Nat.le_of_ble_eq_true rfl, Nat.le_of_ble_eq_true rfl⟩ ⟨Nat.le_of_ble_eq_true rfl, Nat.le_of_ble_eq_true rfl⟩ rfl hl.1 rfl (Nat.le_of_ble_eq_true rfl) (oc_184 24 shX12_offers_24 uw_0_214)) (fun r_5 h_6 => ?_)
      rcases h_6 with ⟨rfl, h_6⟩ | ⟨rfl, h_6⟩
      ·
        have h_6 : 0 ≤ v2.toInt ∧ v2.toInt ≤ 200 := h_6
        refine lv_if_ne (tgt := 32) hx hb (oc_154 27 (aq_3 shX12_offers_24) sgw_0_5) rfl (fun _ => ?_) (fun h => absurd h cq_eq_1_0)
        refine lv_aload_n hx hb (oc_42 32 (aq_8 shX12_offers_24)) rfl (lvA0 hl) ?_
        refine gM_183 S hK hP (v := .ref (g 84)) rfl (oc_180 33 (aq_9 shX12_offers_24) uw_0_183) ?_
        refine lv_iload_n hx hb (oc_27 36 (aq_12 shX12_offers_24)) rfl (lvA1 hl) ?_
        refine lv_iload_n hx hb (oc_28 37 (aq_13 shX12_offers_24)) rfl (lvA2 hl) ?_
        have kb_1 : d0 < 10 := by (first | omega | (have zz0 := Hid.u hi_cn; omega))
        refine stM_84 hx hb hK hP hD hS (Fn2 := (va_up Fn 84 (upd (Fn 84) d0 v1))) (vp_in_nI kb_1 (ltb rfl)) (nI_clamp (Nat.lt_trans kb_1 (ltb rfl))) rfl (oc_79 38 (aq_14 shX12_offers_24)) (fun H locs hP hD hS => ?_)
        refine lv_aload_n hx hb (oc_42 39 (aq_15 shX12_offers_24)) rfl (lvA0 hl) ?_
        refine gM_186 S hK hP (v := .ref (g 85)) rfl (oc_180 40 (aq_16 shX12_offers_24) uw_0_186) ?_
        refine lv_iload_n hx hb (oc_27 43 (aq_19 shX12_offers_24)) rfl (lvA1 hl) ?_
        refine lv_iload_n hx hb (oc_29 44 (aq_20 shX12_offers_24)) rfl (lvA3 hl) ?_
        refine stM_85 hx hb hK hP hD hS (Fn2 := (va_up (va_up Fn 84 (upd (Fn 84) d0 v1)) 85 (upd (Fn 85) d0 v2))) (vp_in_nI kb_1 (ltb rfl)) (nI_clamp (Nat.lt_trans kb_1 (ltb rfl))) rfl (oc_79 45 (aq_21 shX12_offers_24)) (fun H locs hP hD hS => ?_)
        refine lv_iconst (v := 1) hx hb (oc_4 46 (aq_22 shX12_offers_24)) kic_1 ?_
        exact W.zret (v := 1) hx hb hr rfl (fun t ht hW => ⟨⟨1, (cn, In, (va_up (va_up Fn 84 (upd (Fn 84) d0 v1)) 85 (upd (Fn 85) d0 v2))), rfl, (Or.inl ⟨(by first | (first | omega | (have zz0 := Hid.u hi_cn; omega)) | (simp only [zd0]; (first | omega | (have zz0 := Hid.u hi_cn; omega)))), rfl, rfl, rfl, by first | rfl | simp only [zd0, zd1] | simp only [zd0]⟩), by rw [ht]; exact hP, hD⟩, hS.F ht⟩) hS.2.2 (oc_172 47 (aq_23 shX12_offers_24))
      ·
        have h_6 : ¬ (0 ≤ v2.toInt ∧ v2.toInt ≤ 200) := h_6
        refine lv_if_ne (tgt := 32) hx hb (oc_154 27 (aq_3 shX12_offers_24) sgw_0_5) rfl (fun h => absurd h cq_eq_0_0) (fun _ => ?_)
        refine lv_iconst (v := 0) hx hb (oc_3 30 (aq_6 shX12_offers_24)) kic_0 ?_
        exact W.zret (v := 0) hx hb hr rfl (fun t ht hW => ⟨⟨0, (cn, In, Fn), rfl, (Or.inr ⟨(by first | (first | omega | (have zz0 := Hid.u hi_cn; omega)) | (simp only [zd0]; (first | omega | (have zz0 := Hid.u hi_cn; omega)))), rfl, rfl, rfl, rfl⟩), by rw [ht]; exact hP, hD⟩, hS.F ht⟩) hS.2.2 (oc_172 31 (aq_7 shX12_offers_24))
    ·
      have h_4 : ¬ (0 ≤ v1.toInt ∧ v1.toInt ≤ 200) := h_4
      refine lv_if_eq (tgt := 30) hx hb (oc_153 16 (aq_16 shX12_offers_0) sgw_0_14) rfl (fun _ => ?_) (fun h => absurd h cq_eq_0_0)
      refine lv_iconst (v := 0) hx hb (oc_3 30 (aq_6 shX12_offers_24)) kic_0 ?_
      exact W.zret (v := 0) hx hb hr rfl (fun t ht hW => ⟨⟨0, (cn, In, Fn), rfl, (Or.inr ⟨(by first | (first | omega | (have zz0 := Hid.u hi_cn; omega)) | (simp only [zd0]; (first | omega | (have zz0 := Hid.u hi_cn; omega)))), rfl, rfl, rfl, rfl⟩), by rw [ht]; exact hP, hD⟩, hS.F ht⟩) hS.2.2 (oc_172 31 (aq_7 shX12_offers_24))
  ·
    have h_2 : ¬ (0 ≤ v0.toInt ∧ v0.toInt < ((cn 1) : Int)) := h_2
    refine lv_if_eq (tgt := 30) hx hb (oc_153 5 (aq_5 shX12_offers_0) sgw_0_25) rfl (fun _ => ?_) (fun h => absurd h cq_eq_0_0)
    refine lv_iconst (v := 0) hx hb (oc_3 30 (aq_6 shX12_offers_24)) kic_0 ?_
    exact W.zret (v := 0) hx hb hr rfl (fun t ht hW => ⟨⟨0, (cn, In, Fn), rfl, (Or.inr ⟨(by first | (first | omega | (have zz0 := Hid.u hi_cn; omega)) | (simp only [zd0]; (first | omega | (have zz0 := Hid.u hi_cn; omega)))), rfl, rfl, rfl, rfl⟩), by rw [ht]; exact hP, hD⟩, hS.F ht⟩) hS.2.2 (oc_172 31 (aq_7 shX12_offers_24))
set_option maxRecDepth 100000 in
set_option maxHeartbeats 4000000 in
theorem q_thefts (l : Launch) (D : va_G) (cI cB cZ : ClassId) (g : Nat → Nat) (cn : Nat → Nat) (In : Nat → Int32) (Fn : Nat → Nat → Int32) (v0 v1 : Int32) (sz : Nat) (hI : IM cn Fn) : Met l yX12_thefts (CWS yX12_thefts cX12_thefts 3 (some .boolean)) (RM 1 0 0) (PBw [.ref (g 100), .int v0, .int v1] D cI cB cZ (wM cI cB cZ g cn In Fn) sz) (va_Qi (fun (r : Int32) (u : (Nat → Nat) × (Nat → Int32) × (Nat → Nat → Int32)) => (fun r c2 I2 F2 => (((0 ≤ v0.toInt ∧ v0.toInt ≤ 23) ∧ (0 ≤ v1.toInt ∧ v1.toInt ≤ 1000)) ∧ r = 1 ∧ c2 = cn ∧ I2 = In ∧ F2 = (va_up Fn 86 (upd (Fn 86) v0.toInt.toNat v1))) ∨ ((¬ ((0 ≤ v0.toInt ∧ v0.toInt ≤ 23) ∧ (0 ≤ v1.toInt ∧ v1.toInt ≤ 1000))) ∧ r = 0 ∧ c2 = cn ∧ I2 = In ∧ F2 = Fn)) r u.1 u.2.1 u.2.2) (fun (u : (Nat → Nat) × (Nat → Int32) × (Nat → Nat → Int32)) (t : State) => va_P D vwCl (wM cI cB cZ g u.1 u.2.1 u.2.2) t.heap ∧ va_D (va_A (wM cI cB cZ g cn In Fn) sz) (wM cI cB cZ g u.1 u.2.1 u.2.2)) (va_A (wM cI cB cZ g cn In Fn) sz)) 0 0 (va_A (wM cI cB cZ g cn In Fn) sz) := by
  refine en_w (fun A => (va_Qi (fun (r : Int32) (u : (Nat → Nat) × (Nat → Int32) × (Nat → Nat → Int32)) => (fun (r : Int32) (c2 : Nat → Nat) (I2 : Nat → Int32) (F2 : Nat → Nat → Int32) => (((0 ≤ v0.toInt ∧ v0.toInt ≤ 23) ∧ (0 ≤ v1.toInt ∧ v1.toInt ≤ 1000)) ∧ r = 1 ∧ c2 = cn ∧ I2 = In ∧ F2 = (va_up Fn 86 (upd (Fn 86) v0.toInt.toNat v1))) ∨ ((¬ ((0 ≤ v0.toInt ∧ v0.toInt ≤ 23) ∧ (0 ≤ v1.toInt ∧ v1.toInt ≤ 1000))) ∧ r = 0 ∧ c2 = cn ∧ I2 = In ∧ F2 = Fn)) r u.1 u.2.1 u.2.2) (fun (u : (Nat → Nat) × (Nat → Int32) × (Nat → Nat → Int32)) (t : State) => va_P D vwCl (wM cI cB cZ g u.1 u.2.1 u.2.2) t.heap ∧ va_D A (wM cI cB cZ g u.1 u.2.1 u.2.2)) A)) rfl rfl pn_RX12 (Nat.le_of_ble_eq_true rfl) (fun p e s m below meth c A hx hb hml hown S hr hlocks hnm hA hP hK hD hS ls hl => ?_)
  have hl : lv_has ls 3 [(0, .ref (g 100)), (1, .int v0), (2, .int v1)] := hl
  have hi_cn : Hid (CB cn) := hI.b
  refine lv_iload_n hx hb (oc_27 0 shX12_thefts_0) rfl (lvA1 hl) ?_
  refine lv_iconst (v := 0) hx hb (oc_3 1 (aq_1 shX12_thefts_0)) kic_0 ?_
  refine lv_bipush (v := 23) hx hb (oc_16 2 (aq_2 shX12_thefts_0) sgb_23) kbc_23 ?_
  refine vp_callSi (runS_r (As := [.int v0, .int 0, .int 23]) (rest := []) S (q_in l D cI cB cZ v0 0 23 ) kS_RX12_214 hK hP [] rfl ⟨Nat.le_of_ble_eq_true rfl, Nat.le_of_ble_eq_true rfl⟩ ⟨Nat.le_of_ble_eq_true rfl, Nat.le_of_ble_eq_true rfl⟩ rfl hl.1 rfl (Nat.le_of_ble_eq_true rfl) (oc_184 4 (aq_4 shX12_thefts_0) uw_0_214)) (fun r_1 h_2 => ?_)
  rcases h_2 with ⟨rfl, h_2⟩ | ⟨rfl, h_2⟩
  ·
    have h_2 : 0 ≤ v0.toInt ∧ v0.toInt ≤ 23 := h_2
    refine lv_if_eq (tgt := 21) hx hb (oc_153 7 (aq_7 shX12_thefts_0) sgw_0_14) rfl (fun h => absurd h cq_eq_1_0) (fun _ => ?_)
    obtain ⟨d0, hd0, rfl⟩ := nI_of (x := v0) (fun q => by have := Int32.lt_iff_toInt_lt.mp q; have e : (0 : Int32).toInt = 0 := rfl; (first | omega | (have zz0 := Hid.u hi_cn; omega)))
    have td0 : (nI d0).toInt = (d0 : Int) := nI_toInt hd0
    have zd0 : (nI d0).toInt.toNat = d0 := by (first | omega | (have zz0 := Hid.u hi_cn; omega))
    refine lv_iload_n hx hb (oc_28 10 (aq_10 shX12_thefts_0)) rfl (lvA2 hl) ?_
    refine lv_iconst (v := 0) hx hb (oc_3 11 (aq_11 shX12_thefts_0)) kic_0 ?_
    refine lv_sipush (v := 1000) hx hb (oc_17 12 (aq_12 shX12_thefts_0) sgw_3_232) (by decide) ?_
    refine vp_callSi (runS_r (As := [.int v1, .int 0, .int 1000]) (rest := []) S (q_in l D cI cB cZ v1 0 1000 ) kS_RX12_214 hK hP [] rfl ⟨Nat.le_of_ble_eq_true rfl, Nat.le_of_ble_eq_true rfl⟩ ⟨Nat.le_of_ble_eq_true rfl, Nat.le_of_ble_eq_true rfl⟩ rfl hl.1 rfl (Nat.le_of_ble_eq_true rfl) (oc_184 15 (aq_15 shX12_thefts_0) uw_0_214)) (fun r_3 h_4 => ?_)
    rcases h_4 with ⟨rfl, h_4⟩ | ⟨rfl, h_4⟩
    ·
      have h_4 : 0 ≤ v1.toInt ∧ v1.toInt ≤ 1000 := h_4
      refine lv_if_ne (tgt := 23) hx hb (oc_154 18 (aq_18 shX12_thefts_0) sgw_0_5) rfl (fun _ => ?_) (fun h => absurd h cq_eq_1_0)
      refine lv_aload_n hx hb (oc_42 23 (aq_23 shX12_thefts_0)) rfl (lvA0 hl) ?_
      refine gM_189 S hK hP (v := .ref (g 86)) rfl (oc_180 24 shX12_thefts_24 uw_0_189) ?_
      refine lv_iload_n hx hb (oc_27 27 (aq_3 shX12_thefts_24)) rfl (lvA1 hl) ?_
      refine lv_iload_n hx hb (oc_28 28 (aq_4 shX12_thefts_24)) rfl (lvA2 hl) ?_
      have kb_1 : d0 < 24 := by (first | omega | (have zz0 := Hid.u hi_cn; omega))
      refine stM_86 hx hb hK hP hD hS (Fn2 := (va_up Fn 86 (upd (Fn 86) d0 v1))) (vp_in_nI kb_1 (ltb rfl)) (nI_clamp (Nat.lt_trans kb_1 (ltb rfl))) rfl (oc_79 29 (aq_5 shX12_thefts_24)) (fun H locs hP hD hS => ?_)
      refine lv_iconst (v := 1) hx hb (oc_4 30 (aq_6 shX12_thefts_24)) kic_1 ?_
      exact W.zret (v := 1) hx hb hr rfl (fun t ht hW => ⟨⟨1, (cn, In, (va_up Fn 86 (upd (Fn 86) d0 v1))), rfl, (Or.inl ⟨(by first | (first | omega | (have zz0 := Hid.u hi_cn; omega)) | (simp only [zd0]; (first | omega | (have zz0 := Hid.u hi_cn; omega)))), rfl, rfl, rfl, by first | rfl | simp only [zd0, zd1] | simp only [zd0]⟩), by rw [ht]; exact hP, hD⟩, hS.F ht⟩) hS.2.2 (oc_172 31 (aq_7 shX12_thefts_24))
    ·
      have h_4 : ¬ (0 ≤ v1.toInt ∧ v1.toInt ≤ 1000) := h_4
      refine lv_if_ne (tgt := 23) hx hb (oc_154 18 (aq_18 shX12_thefts_0) sgw_0_5) rfl (fun h => absurd h cq_eq_0_0) (fun _ => ?_)
      refine lv_iconst (v := 0) hx hb (oc_3 21 (aq_21 shX12_thefts_0)) kic_0 ?_
      exact W.zret (v := 0) hx hb hr rfl (fun t ht hW => ⟨⟨0, (cn, In, Fn), rfl, (Or.inr ⟨(by first | (first | omega | (have zz0 := Hid.u hi_cn; omega)) | (simp only [zd0]; (first | omega | (have zz0 := Hid.u hi_cn; omega)))), rfl, rfl, rfl, rfl⟩), by rw [ht]; exact hP, hD⟩, hS.F ht⟩) hS.2.2 (oc_172 22 (aq_22 shX12_thefts_0))
  ·
    have h_2 : ¬ (0 ≤ v0.toInt ∧ v0.toInt ≤ 23) := h_2
    refine lv_if_eq (tgt := 21) hx hb (oc_153 7 (aq_7 shX12_thefts_0) sgw_0_14) rfl (fun _ => ?_) (fun h => absurd h cq_eq_0_0)
    refine lv_iconst (v := 0) hx hb (oc_3 21 (aq_21 shX12_thefts_0)) kic_0 ?_
    exact W.zret (v := 0) hx hb hr rfl (fun t ht hW => ⟨⟨0, (cn, In, Fn), rfl, (Or.inr ⟨(by first | (first | omega | (have zz0 := Hid.u hi_cn; omega)) | (simp only [zd0]; (first | omega | (have zz0 := Hid.u hi_cn; omega)))), rfl, rfl, rfl, rfl⟩), by rw [ht]; exact hP, hD⟩, hS.F ht⟩) hS.2.2 (oc_172 22 (aq_22 shX12_thefts_0))
set_option maxRecDepth 100000 in
set_option maxHeartbeats 4000000 in
theorem q_sewer (l : Launch) (D : va_G) (cI cB cZ : ClassId) (g : Nat → Nat) (cn : Nat → Nat) (In : Nat → Int32) (Fn : Nat → Nat → Int32) (v0 v1 : Int32) (sz : Nat) (hI : IM cn Fn) : Met l yX12_sewer (CWS yX12_sewer cX12_sewer 3 (some .int)) (RM 1 0 0) (PBw [.ref (g 100), .int v0, .int v1] D cI cB cZ (wM cI cB cZ g cn In Fn) sz) (va_Qi (fun (r : Int32) (u : (Nat → Nat) × (Nat → Int32) × (Nat → Nat → Int32)) => (fun r c2 I2 F2 => (((0 ≤ v0.toInt ∧ v0.toInt ≤ 99) ∧ (0 ≤ v1.toInt ∧ v1.toInt ≤ 99) ∧ cn 83 < 10) ∧ r = nI (cn 83) ∧ c2 = va_up cn 83 (cn 83 + 1) ∧ I2 = In ∧ F2 = (va_up (va_up Fn 87 (upd (Fn 87) (cn 83) v0)) 88 (upd (Fn 88) (cn 83) v1))) ∨ ((¬ ((0 ≤ v0.toInt ∧ v0.toInt ≤ 99) ∧ (0 ≤ v1.toInt ∧ v1.toInt ≤ 99) ∧ cn 83 < 10)) ∧ r = -1 ∧ c2 = cn ∧ I2 = In ∧ F2 = Fn)) r u.1 u.2.1 u.2.2) (fun (u : (Nat → Nat) × (Nat → Int32) × (Nat → Nat → Int32)) (t : State) => va_P D vwCl (wM cI cB cZ g u.1 u.2.1 u.2.2) t.heap ∧ va_D (va_A (wM cI cB cZ g cn In Fn) sz) (wM cI cB cZ g u.1 u.2.1 u.2.2)) (va_A (wM cI cB cZ g cn In Fn) sz)) 0 0 (va_A (wM cI cB cZ g cn In Fn) sz) := by
  refine en_w (fun A => (va_Qi (fun (r : Int32) (u : (Nat → Nat) × (Nat → Int32) × (Nat → Nat → Int32)) => (fun (r : Int32) (c2 : Nat → Nat) (I2 : Nat → Int32) (F2 : Nat → Nat → Int32) => (((0 ≤ v0.toInt ∧ v0.toInt ≤ 99) ∧ (0 ≤ v1.toInt ∧ v1.toInt ≤ 99) ∧ cn 83 < 10) ∧ r = nI (cn 83) ∧ c2 = va_up cn 83 (cn 83 + 1) ∧ I2 = In ∧ F2 = (va_up (va_up Fn 87 (upd (Fn 87) (cn 83) v0)) 88 (upd (Fn 88) (cn 83) v1))) ∨ ((¬ ((0 ≤ v0.toInt ∧ v0.toInt ≤ 99) ∧ (0 ≤ v1.toInt ∧ v1.toInt ≤ 99) ∧ cn 83 < 10)) ∧ r = -1 ∧ c2 = cn ∧ I2 = In ∧ F2 = Fn)) r u.1 u.2.1 u.2.2) (fun (u : (Nat → Nat) × (Nat → Int32) × (Nat → Nat → Int32)) (t : State) => va_P D vwCl (wM cI cB cZ g u.1 u.2.1 u.2.2) t.heap ∧ va_D A (wM cI cB cZ g u.1 u.2.1 u.2.2)) A)) rfl rfl pn_RX12 (Nat.le_of_ble_eq_true rfl) (fun p e s m below meth c A hx hb hml hown S hr hlocks hnm hA hP hK hD hS ls hl => ?_)
  have hl : lv_has ls 3 [(0, .ref (g 100)), (1, .int v0), (2, .int v1)] := hl
  have hi_cn : Hid (CB cn) := hI.b
  refine lv_iload_n hx hb (oc_27 0 shX12_sewer_0) rfl (lvA1 hl) ?_
  refine lv_iconst (v := 0) hx hb (oc_3 1 (aq_1 shX12_sewer_0)) kic_0 ?_
  refine lv_bipush (v := 99) hx hb (oc_16 2 (aq_2 shX12_sewer_0) sgb_99) kbc_99 ?_
  refine vp_callSi (runS_r (As := [.int v0, .int 0, .int 99]) (rest := []) S (q_in l D cI cB cZ v0 0 99 ) kS_RX12_214 hK hP [] rfl ⟨Nat.le_of_ble_eq_true rfl, Nat.le_of_ble_eq_true rfl⟩ ⟨Nat.le_of_ble_eq_true rfl, Nat.le_of_ble_eq_true rfl⟩ rfl hl.1 rfl (Nat.le_of_ble_eq_true rfl) (oc_184 4 (aq_4 shX12_sewer_0) uw_0_214)) (fun r_1 h_2 => ?_)
  rcases h_2 with ⟨rfl, h_2⟩ | ⟨rfl, h_2⟩
  ·
    have h_2 : 0 ≤ v0.toInt ∧ v0.toInt ≤ 99 := h_2
    refine lv_if_eq (tgt := 29) hx hb (oc_153 7 (aq_7 shX12_sewer_0) sgw_0_22) rfl (fun h => absurd h cq_eq_1_0) (fun _ => ?_)
    refine lv_iload_n hx hb (oc_28 10 (aq_10 shX12_sewer_0)) rfl (lvA2 hl) ?_
    refine lv_iconst (v := 0) hx hb (oc_3 11 (aq_11 shX12_sewer_0)) kic_0 ?_
    refine lv_bipush (v := 99) hx hb (oc_16 12 (aq_12 shX12_sewer_0) sgb_99) kbc_99 ?_
    refine vp_callSi (runS_r (As := [.int v1, .int 0, .int 99]) (rest := []) S (q_in l D cI cB cZ v1 0 99 ) kS_RX12_214 hK hP [] rfl ⟨Nat.le_of_ble_eq_true rfl, Nat.le_of_ble_eq_true rfl⟩ ⟨Nat.le_of_ble_eq_true rfl, Nat.le_of_ble_eq_true rfl⟩ rfl hl.1 rfl (Nat.le_of_ble_eq_true rfl) (oc_184 14 (aq_14 shX12_sewer_0) uw_0_214)) (fun r_3 h_4 => ?_)
    rcases h_4 with ⟨rfl, h_4⟩ | ⟨rfl, h_4⟩
    ·
      have h_4 : 0 ≤ v1.toInt ∧ v1.toInt ≤ 99 := h_4
      refine lv_if_eq (tgt := 29) hx hb (oc_153 17 (aq_17 shX12_sewer_0) sgw_0_12) rfl (fun h => absurd h cq_eq_1_0) (fun _ => ?_)
      refine lv_aload_n hx hb (oc_42 20 (aq_20 shX12_sewer_0)) rfl (lvA0 hl) ?_
      refine gM_478 S hK hP (v := .int (nI (cn 83))) rfl (oc_180 21 (aq_21 shX12_sewer_0) uw_1_222) ?_
      refine lv_bipush (v := 10) hx hb (oc_16 24 shX12_sewer_24 sgb_10) kbc_10 ?_
      have : (nI (cn 83)).toInt = (((cn 83) : Nat) : Int) := nI_toInt (by (first | omega | (have zz0 := Hid.u hi_cn; omega)))
      refine lv_icmp_ne (tgt := 31) hx hb (oc_160 26 (aq_2 shX12_sewer_24) sgw_0_5) rfl (fun c_5 => ?_) (fun c_5 => ?_)
      ·
        have tc_5 : ((nI (cn 83)).toInt : Int) ≠ 10 := fun q => c_5 (Int32.toInt_inj.mp q)
        refine lv_aload_n hx hb (oc_42 31 (aq_7 shX12_sewer_24)) rfl (lvA0 hl) ?_
        refine gM_192 S hK hP (v := .ref (g 87)) rfl (oc_180 32 (aq_8 shX12_sewer_24) uw_0_192) ?_
        refine lv_aload_n hx hb (oc_42 35 (aq_11 shX12_sewer_24)) rfl (lvA0 hl) ?_
        refine gM_478 S hK hP (v := .int (nI (cn 83))) rfl (oc_180 36 (aq_12 shX12_sewer_24) uw_1_222) ?_
        refine lv_iload_n hx hb (oc_27 39 (aq_15 shX12_sewer_24)) rfl (lvA1 hl) ?_
        have kb_1 : (cn 83) < 10 := by (first | omega | (have zz0 := Hid.u hi_cn; omega))
        refine stM_87 hx hb hK hP hD hS (Fn2 := (va_up Fn 87 (upd (Fn 87) (cn 83) v0))) (vp_in_nI kb_1 (ltb rfl)) (nI_clamp (Nat.lt_trans kb_1 (ltb rfl))) rfl (oc_79 40 (aq_16 shX12_sewer_24)) (fun H locs hP hD hS => ?_)
        refine lv_aload_n hx hb (oc_42 41 (aq_17 shX12_sewer_24)) rfl (lvA0 hl) ?_
        refine gM_195 S hK hP (v := .ref (g 88)) rfl (oc_180 42 (aq_18 shX12_sewer_24) uw_0_195) ?_
        refine lv_aload_n hx hb (oc_42 45 (aq_21 shX12_sewer_24)) rfl (lvA0 hl) ?_
        refine gM_478 S hK hP (v := .int (nI (cn 83))) rfl (oc_180 46 (aq_22 shX12_sewer_24) uw_1_222) ?_
        refine lv_iload_n hx hb (oc_28 49 shX12_sewer_49) rfl (lvA2 hl) ?_
        refine stM_88 hx hb hK hP hD hS (Fn2 := (va_up (va_up Fn 87 (upd (Fn 87) (cn 83) v0)) 88 (upd (Fn 88) (cn 83) v1))) (vp_in_nI kb_1 (ltb rfl)) (nI_clamp (Nat.lt_trans kb_1 (ltb rfl))) rfl (oc_79 50 (aq_1 shX12_sewer_49)) (fun H locs hP hD hS => ?_)
        refine lv_aload_n hx hb (oc_42 51 (aq_2 shX12_sewer_49)) rfl (lvA0 hl) ?_
        refine lv_aload_n hx hb (oc_42 52 (aq_3 shX12_sewer_49)) rfl (lvA0 hl) ?_
        refine gM_478 S hK hP (v := .int (nI (cn 83))) rfl (oc_180 53 (aq_4 shX12_sewer_49) uw_1_222) ?_
        refine lv_iconst (v := 1) hx hb (oc_4 56 (aq_7 shX12_sewer_49)) kic_1 ?_
        refine lv_iadd hx hb (oc_96 57 (aq_8 shX12_sewer_49)) ?_
        refine lv_topi (fun y_6 ey_6 => ?_)
        obtain rfl : y_6 = (nI ((cn 83) + 1)) := ey_6.trans (nI_add (cn 83) 1)
        refine pM_478 S hK hP hD hS (a := ((cn 83) + 1)) (cn2 := (va_up cn 83 ((cn 83) + 1))) rfl rfl (oc_181 58 (aq_9 shX12_sewer_49) uw_1_222) (fun H locs hP hD hS => ?_)
        refine lv_aload_n hx hb (oc_42 61 (aq_12 shX12_sewer_49)) rfl (lvA0 hl) ?_
        refine gM_478 S hK hP (v := .int (nI ((cn 83) + 1))) rfl (oc_180 62 (aq_13 shX12_sewer_49) uw_1_222) ?_
        refine lv_iconst (v := 1) hx hb (oc_4 65 (aq_16 shX12_sewer_49)) kic_1 ?_
        refine lv_isub hx hb (oc_100 66 (aq_17 shX12_sewer_49)) ?_
        refine lv_topi (fun y_7 ey_7 => ?_)
        obtain rfl : y_7 = (nI (cn 83)) := ey_7.trans (nI_pred _)
        exact W.iret (v := (nI (cn 83))) hx hb hr (fun t ht hW => ⟨⟨(nI (cn 83)), ((va_up cn 83 ((cn 83) + 1)), In, (va_up (va_up Fn 87 (upd (Fn 87) (cn 83) v0)) 88 (upd (Fn 88) (cn 83) v1))), rfl, (Or.inl ⟨(by first | (first | omega | (have zz0 := Hid.u hi_cn; omega)) | (simp only [zd0]; (first | omega | (have zz0 := Hid.u hi_cn; omega)))), rfl, rfl, rfl, by first | rfl | simp only [zd0, zd1] | simp only [zd0]⟩), by rw [ht]; exact hP, hD⟩, hS.F ht⟩) hS.2.2 (oc_172 67 (aq_18 shX12_sewer_49))
      ·
        have tc_5 : ((nI (cn 83)).toInt : Int) = 10 := congrArg Int32.toInt c_5
        refine lv_iconst (v := (-1)) hx hb (oc_2 29 (aq_5 shX12_sewer_24)) kic_m1 ?_
        exact W.iret (v := (-1)) hx hb hr (fun t ht hW => ⟨⟨(-1), (cn, In, Fn), rfl, (Or.inr ⟨(by first | (first | omega | (have zz0 := Hid.u hi_cn; omega)) | (simp only [zd0]; (first | omega | (have zz0 := Hid.u hi_cn; omega)))), rfl, rfl, rfl, rfl⟩), by rw [ht]; exact hP, hD⟩, hS.F ht⟩) hS.2.2 (oc_172 30 (aq_6 shX12_sewer_24))
    ·
      have h_4 : ¬ (0 ≤ v1.toInt ∧ v1.toInt ≤ 99) := h_4
      refine lv_if_eq (tgt := 29) hx hb (oc_153 17 (aq_17 shX12_sewer_0) sgw_0_12) rfl (fun _ => ?_) (fun h => absurd h cq_eq_0_0)
      refine lv_iconst (v := (-1)) hx hb (oc_2 29 (aq_5 shX12_sewer_24)) kic_m1 ?_
      exact W.iret (v := (-1)) hx hb hr (fun t ht hW => ⟨⟨(-1), (cn, In, Fn), rfl, (Or.inr ⟨(by first | (first | omega | (have zz0 := Hid.u hi_cn; omega)) | (simp only [zd0]; (first | omega | (have zz0 := Hid.u hi_cn; omega)))), rfl, rfl, rfl, rfl⟩), by rw [ht]; exact hP, hD⟩, hS.F ht⟩) hS.2.2 (oc_172 30 (aq_6 shX12_sewer_24))
  ·
    have h_2 : ¬ (0 ≤ v0.toInt ∧ v0.toInt ≤ 99) := h_2
    refine lv_if_eq (tgt := 29) hx hb (oc_153 7 (aq_7 shX12_sewer_0) sgw_0_22) rfl (fun _ => ?_) (fun h => absurd h cq_eq_0_0)
    refine lv_iconst (v := (-1)) hx hb (oc_2 29 (aq_5 shX12_sewer_24)) kic_m1 ?_
    exact W.iret (v := (-1)) hx hb hr (fun t ht hW => ⟨⟨(-1), (cn, In, Fn), rfl, (Or.inr ⟨(by first | (first | omega | (have zz0 := Hid.u hi_cn; omega)) | (simp only [zd0]; (first | omega | (have zz0 := Hid.u hi_cn; omega)))), rfl, rfl, rfl, rfl⟩), by rw [ht]; exact hP, hD⟩, hS.F ht⟩) hS.2.2 (oc_172 30 (aq_6 shX12_sewer_24))
set_option maxRecDepth 100000 in
set_option maxHeartbeats 4000000 in
theorem q_degrees (l : Launch) (D : va_G) (cI cB cZ : ClassId) (g : Nat → Nat) (cn : Nat → Nat) (In : Nat → Int32) (Fn : Nat → Nat → Int32) (v0 v1 : Int32) (sz : Nat) (hI : IM cn Fn) : Met l yX12_degrees (CWS yX12_degrees cX12_degrees 3 (some .boolean)) (RM 1 0 0) (PBw [.ref (g 100), .int v0, .int v1] D cI cB cZ (wM cI cB cZ g cn In Fn) sz) (va_Qi (fun (r : Int32) (u : (Nat → Nat) × (Nat → Int32) × (Nat → Nat → Int32)) => (fun r c2 I2 F2 => (((0 ≤ v0.toInt ∧ v0.toInt ≤ 399) ∧ ((-40) ≤ v1.toInt ∧ v1.toInt ≤ 40)) ∧ r = 1 ∧ c2 = cn ∧ I2 = In ∧ F2 = (va_up Fn 90 (upd (Fn 90) v0.toInt.toNat v1))) ∨ ((¬ ((0 ≤ v0.toInt ∧ v0.toInt ≤ 399) ∧ ((-40) ≤ v1.toInt ∧ v1.toInt ≤ 40))) ∧ r = 0 ∧ c2 = cn ∧ I2 = In ∧ F2 = Fn)) r u.1 u.2.1 u.2.2) (fun (u : (Nat → Nat) × (Nat → Int32) × (Nat → Nat → Int32)) (t : State) => va_P D vwCl (wM cI cB cZ g u.1 u.2.1 u.2.2) t.heap ∧ va_D (va_A (wM cI cB cZ g cn In Fn) sz) (wM cI cB cZ g u.1 u.2.1 u.2.2)) (va_A (wM cI cB cZ g cn In Fn) sz)) 0 0 (va_A (wM cI cB cZ g cn In Fn) sz) := by
  refine en_w (fun A => (va_Qi (fun (r : Int32) (u : (Nat → Nat) × (Nat → Int32) × (Nat → Nat → Int32)) => (fun (r : Int32) (c2 : Nat → Nat) (I2 : Nat → Int32) (F2 : Nat → Nat → Int32) => (((0 ≤ v0.toInt ∧ v0.toInt ≤ 399) ∧ ((-40) ≤ v1.toInt ∧ v1.toInt ≤ 40)) ∧ r = 1 ∧ c2 = cn ∧ I2 = In ∧ F2 = (va_up Fn 90 (upd (Fn 90) v0.toInt.toNat v1))) ∨ ((¬ ((0 ≤ v0.toInt ∧ v0.toInt ≤ 399) ∧ ((-40) ≤ v1.toInt ∧ v1.toInt ≤ 40))) ∧ r = 0 ∧ c2 = cn ∧ I2 = In ∧ F2 = Fn)) r u.1 u.2.1 u.2.2) (fun (u : (Nat → Nat) × (Nat → Int32) × (Nat → Nat → Int32)) (t : State) => va_P D vwCl (wM cI cB cZ g u.1 u.2.1 u.2.2) t.heap ∧ va_D A (wM cI cB cZ g u.1 u.2.1 u.2.2)) A)) rfl rfl pn_RX12 (Nat.le_of_ble_eq_true rfl) (fun p e s m below meth c A hx hb hml hown S hr hlocks hnm hA hP hK hD hS ls hl => ?_)
  have hl : lv_has ls 3 [(0, .ref (g 100)), (1, .int v0), (2, .int v1)] := hl
  have hi_cn : Hid (CB cn) := hI.b
  refine lv_iload_n hx hb (oc_27 0 shX12_degrees_0) rfl (lvA1 hl) ?_
  refine vp_callSi (runS_r (As := [.int v0]) (rest := []) S (q_isDay l D cI cB cZ v0 ) kS_RX12_341 hK hP [] rfl ⟨Nat.le_of_ble_eq_true rfl, Nat.le_of_ble_eq_true rfl⟩ ⟨Nat.le_of_ble_eq_true rfl, Nat.le_of_ble_eq_true rfl⟩ rfl hl.1 rfl (Nat.le_of_ble_eq_true rfl) (oc_184 1 (aq_1 shX12_degrees_0) uw_1_85)) (fun r_1 h_2 => ?_)
  rcases h_2 with ⟨rfl, h_2⟩ | ⟨rfl, h_2⟩
  ·
    have h_2 : 0 ≤ v0.toInt ∧ v0.toInt ≤ 399 := h_2
    refine lv_if_eq (tgt := 18) hx hb (oc_153 4 (aq_4 shX12_degrees_0) sgw_0_14) rfl (fun h => absurd h cq_eq_1_0) (fun _ => ?_)
    obtain ⟨d0, hd0, rfl⟩ := nI_of (x := v0) (fun q => by have := Int32.lt_iff_toInt_lt.mp q; have e : (0 : Int32).toInt = 0 := rfl; (first | omega | (have zz0 := Hid.u hi_cn; omega)))
    have td0 : (nI d0).toInt = (d0 : Int) := nI_toInt hd0
    have zd0 : (nI d0).toInt.toNat = d0 := by (first | omega | (have zz0 := Hid.u hi_cn; omega))
    refine lv_iload_n hx hb (oc_28 7 (aq_7 shX12_degrees_0)) rfl (lvA2 hl) ?_
    refine lv_bipush (v := (-40)) hx hb (oc_16 8 (aq_8 shX12_degrees_0) sgb_216) kbc_m40 ?_
    refine lv_bipush (v := 40) hx hb (oc_16 10 (aq_10 shX12_degrees_0) sgb_40) kbc_40 ?_
    refine vp_callSi (runS_r (As := [.int v1, .int (-40), .int 40]) (rest := []) S (q_in l D cI cB cZ v1 (-40) 40 ) kS_RX12_214 hK hP [] rfl ⟨Nat.le_of_ble_eq_true rfl, Nat.le_of_ble_eq_true rfl⟩ ⟨Nat.le_of_ble_eq_true rfl, Nat.le_of_ble_eq_true rfl⟩ rfl hl.1 rfl (Nat.le_of_ble_eq_true rfl) (oc_184 12 (aq_12 shX12_degrees_0) uw_0_214)) (fun r_3 h_4 => ?_)
    rcases h_4 with ⟨rfl, h_4⟩ | ⟨rfl, h_4⟩
    ·
      have h_4 : (-40) ≤ v1.toInt ∧ v1.toInt ≤ 40 := h_4
      refine lv_if_ne (tgt := 20) hx hb (oc_154 15 (aq_15 shX12_degrees_0) sgw_0_5) rfl (fun _ => ?_) (fun h => absurd h cq_eq_1_0)
      refine lv_aload_n hx hb (oc_42 20 (aq_20 shX12_degrees_0)) rfl (lvA0 hl) ?_
      refine gM_201 S hK hP (v := .ref (g 90)) rfl (oc_180 21 (aq_21 shX12_degrees_0) uw_0_201) ?_
      refine lv_iload_n hx hb (oc_27 24 shX12_degrees_24) rfl (lvA1 hl) ?_
      refine lv_iload_n hx hb (oc_28 25 (aq_1 shX12_degrees_24)) rfl (lvA2 hl) ?_
      have kb_1 : d0 < 400 := by (first | omega | (have zz0 := Hid.u hi_cn; omega))
      refine stM_90 hx hb hK hP hD hS (Fn2 := (va_up Fn 90 (upd (Fn 90) d0 v1))) (vp_in_nI kb_1 (ltb rfl)) (nI_clamp (Nat.lt_trans kb_1 (ltb rfl))) rfl (oc_79 26 (aq_2 shX12_degrees_24)) (fun H locs hP hD hS => ?_)
      refine lv_iconst (v := 1) hx hb (oc_4 27 (aq_3 shX12_degrees_24)) kic_1 ?_
      exact W.zret (v := 1) hx hb hr rfl (fun t ht hW => ⟨⟨1, (cn, In, (va_up Fn 90 (upd (Fn 90) d0 v1))), rfl, (Or.inl ⟨(by first | (first | omega | (have zz0 := Hid.u hi_cn; omega)) | (simp only [zd0]; (first | omega | (have zz0 := Hid.u hi_cn; omega)))), rfl, rfl, rfl, by first | rfl | simp only [zd0, zd1] | simp only [zd0]⟩), by rw [ht]; exact hP, hD⟩, hS.F ht⟩) hS.2.2 (oc_172 28 (aq_4 shX12_degrees_24))
    ·
      have h_4 : ¬ ((-40) ≤ v1.toInt ∧ v1.toInt ≤ 40) := h_4
      refine lv_if_ne (tgt := 20) hx hb (oc_154 15 (aq_15 shX12_degrees_0) sgw_0_5) rfl (fun h => absurd h cq_eq_0_0) (fun _ => ?_)
      refine lv_iconst (v := 0) hx hb (oc_3 18 (aq_18 shX12_degrees_0)) kic_0 ?_
      exact W.zret (v := 0) hx hb hr rfl (fun t ht hW => ⟨⟨0, (cn, In, Fn), rfl, (Or.inr ⟨(by first | (first | omega | (have zz0 := Hid.u hi_cn; omega)) | (simp only [zd0]; (first | omega | (have zz0 := Hid.u hi_cn; omega)))), rfl, rfl, rfl, rfl⟩), by rw [ht]; exact hP, hD⟩, hS.F ht⟩) hS.2.2 (oc_172 19 (aq_19 shX12_degrees_0))
  ·
    have h_2 : ¬ (0 ≤ v0.toInt ∧ v0.toInt ≤ 399) := h_2
    refine lv_if_eq (tgt := 18) hx hb (oc_153 4 (aq_4 shX12_degrees_0) sgw_0_14) rfl (fun _ => ?_) (fun h => absurd h cq_eq_0_0)
    refine lv_iconst (v := 0) hx hb (oc_3 18 (aq_18 shX12_degrees_0)) kic_0 ?_
    exact W.zret (v := 0) hx hb hr rfl (fun t ht hW => ⟨⟨0, (cn, In, Fn), rfl, (Or.inr ⟨(by first | (first | omega | (have zz0 := Hid.u hi_cn; omega)) | (simp only [zd0]; (first | omega | (have zz0 := Hid.u hi_cn; omega)))), rfl, rfl, rfl, rfl⟩), by rw [ht]; exact hP, hD⟩, hS.F ht⟩) hS.2.2 (oc_172 19 (aq_19 shX12_degrees_0))
set_option maxRecDepth 100000 in
set_option maxHeartbeats 4000000 in
theorem q_drum (l : Launch) (D : va_G) (cI cB cZ : ClassId) (g : Nat → Nat) (cn : Nat → Nat) (In : Nat → Int32) (Fn : Nat → Nat → Int32)  (sz : Nat) (hI : IM cn Fn) : Met l yX12_drum (CWS yX12_drum cX12_drum 1 (some .int)) (RM 1 0 0) (PBw [.ref (g 100)] D cI cB cZ (wM cI cB cZ g cn In Fn) sz) (va_Qi (fun (r : Int32) (u : (Nat → Nat) × (Nat → Int32) × (Nat → Nat → Int32)) => (fun r c2 I2 F2 => ((cn 57 < 20) ∧ r = nI (cn 57) ∧ c2 = va_up cn 57 (cn 57 + 1) ∧ I2 = In ∧ F2 = Fn) ∨ ((¬ (cn 57 < 20)) ∧ r = -1 ∧ c2 = cn ∧ I2 = In ∧ F2 = Fn)) r u.1 u.2.1 u.2.2) (fun (u : (Nat → Nat) × (Nat → Int32) × (Nat → Nat → Int32)) (t : State) => va_P D vwCl (wM cI cB cZ g u.1 u.2.1 u.2.2) t.heap ∧ va_D (va_A (wM cI cB cZ g cn In Fn) sz) (wM cI cB cZ g u.1 u.2.1 u.2.2)) (va_A (wM cI cB cZ g cn In Fn) sz)) 0 0 (va_A (wM cI cB cZ g cn In Fn) sz) := by
  refine en_w (fun A => (va_Qi (fun (r : Int32) (u : (Nat → Nat) × (Nat → Int32) × (Nat → Nat → Int32)) => (fun (r : Int32) (c2 : Nat → Nat) (I2 : Nat → Int32) (F2 : Nat → Nat → Int32) => ((cn 57 < 20) ∧ r = nI (cn 57) ∧ c2 = va_up cn 57 (cn 57 + 1) ∧ I2 = In ∧ F2 = Fn) ∨ ((¬ (cn 57 < 20)) ∧ r = -1 ∧ c2 = cn ∧ I2 = In ∧ F2 = Fn)) r u.1 u.2.1 u.2.2) (fun (u : (Nat → Nat) × (Nat → Int32) × (Nat → Nat → Int32)) (t : State) => va_P D vwCl (wM cI cB cZ g u.1 u.2.1 u.2.2) t.heap ∧ va_D A (wM cI cB cZ g u.1 u.2.1 u.2.2)) A)) rfl rfl pn_RX12 (Nat.le_of_ble_eq_true rfl) (fun p e s m below meth c A hx hb hml hown S hr hlocks hnm hA hP hK hD hS ls hl => ?_)
  have hl : lv_has ls 1 [(0, .ref (g 100))] := hl
  have hi_cn : Hid (CB cn) := hI.b
  refine lv_aload_n hx hb (oc_42 0 shX12_drum_0) rfl (lvA0 hl) ?_
  refine gM_407 S hK hP (v := .int (nI (cn 57))) rfl (oc_180 1 (aq_1 shX12_drum_0) uw_1_151) ?_
  refine lv_bipush (v := 20) hx hb (oc_16 4 (aq_4 shX12_drum_0) sgb_20) kbc_20 ?_
  have : (nI (cn 57)).toInt = (((cn 57) : Nat) : Int) := nI_toInt (by (first | omega | (have zz0 := Hid.u hi_cn; omega)))
  refine lv_icmp_ne (tgt := 11) hx hb (oc_160 6 (aq_6 shX12_drum_0) sgw_0_5) rfl (fun c_1 => ?_) (fun c_1 => ?_)
  ·
    have tc_1 : ((nI (cn 57)).toInt : Int) ≠ 20 := fun q => c_1 (Int32.toInt_inj.mp q)
    refine lv_aload_n hx hb (oc_42 11 (aq_11 shX12_drum_0)) rfl (lvA0 hl) ?_
    refine lv_aload_n hx hb (oc_42 12 (aq_12 shX12_drum_0)) rfl (lvA0 hl) ?_
    refine gM_407 S hK hP (v := .int (nI (cn 57))) rfl (oc_180 13 (aq_13 shX12_drum_0) uw_1_151) ?_
    refine lv_iconst (v := 1) hx hb (oc_4 16 (aq_16 shX12_drum_0)) kic_1 ?_
    refine lv_iadd hx hb (oc_96 17 (aq_17 shX12_drum_0)) ?_
    refine lv_topi (fun y_2 ey_2 => ?_)
    obtain rfl : y_2 = (nI ((cn 57) + 1)) := ey_2.trans (nI_add (cn 57) 1)
    refine pM_407 S hK hP hD hS (a := ((cn 57) + 1)) (cn2 := (va_up cn 57 ((cn 57) + 1))) rfl rfl (oc_181 18 (aq_18 shX12_drum_0) uw_1_151) (fun H locs hP hD hS => ?_)
    refine lv_aload_n hx hb (oc_42 21 (aq_21 shX12_drum_0)) rfl (lvA0 hl) ?_
    refine gM_407 S hK hP (v := .int (nI ((cn 57) + 1))) rfl (oc_180 22 (aq_22 shX12_drum_0) uw_1_151) ?_
    refine lv_iconst (v := 1) hx hb (oc_4 25 shX12_drum_25) kic_1 ?_
    refine lv_isub hx hb (oc_100 26 (aq_1 shX12_drum_25)) ?_
    refine lv_topi (fun y_3 ey_3 => ?_)
    obtain rfl : y_3 = (nI (cn 57)) := ey_3.trans (nI_pred _)
    exact W.iret (v := (nI (cn 57))) hx hb hr (fun t ht hW => ⟨⟨(nI (cn 57)), ((va_up cn 57 ((cn 57) + 1)), In, Fn), rfl, (Or.inl ⟨(by first | (first | omega | (have zz0 := Hid.u hi_cn; omega)) | (simp only [zd0]; (first | omega | (have zz0 := Hid.u hi_cn; omega)))), rfl, rfl, rfl, by first | rfl | simp only [zd0, zd1] | simp only [zd0]⟩), by rw [ht]; exact hP, hD⟩, hS.F ht⟩) hS.2.2 (oc_172 27 (aq_2 shX12_drum_25))
  ·
    have tc_1 : ((nI (cn 57)).toInt : Int) = 20 := congrArg Int32.toInt c_1
    refine lv_iconst (v := (-1)) hx hb (oc_2 9 (aq_9 shX12_drum_0)) kic_m1 ?_
    exact W.iret (v := (-1)) hx hb hr (fun t ht hW => ⟨⟨(-1), (cn, In, Fn), rfl, (Or.inr ⟨(by first | (first | omega | (have zz0 := Hid.u hi_cn; omega)) | (simp only [zd0]; (first | omega | (have zz0 := Hid.u hi_cn; omega)))), rfl, rfl, rfl, rfl⟩), by rw [ht]; exact hP, hD⟩, hS.F ht⟩) hS.2.2 (oc_172 10 (aq_10 shX12_drum_0))
set_option maxRecDepth 100000 in
set_option maxHeartbeats 4000000 in
theorem q_spill (l : Launch) (D : va_G) (cI cB cZ : ClassId) (g : Nat → Nat) (cn : Nat → Nat) (In : Nat → Int32) (Fn : Nat → Nat → Int32) (v0 v1 : Int32) (sz : Nat) (hI : IM cn Fn) : Met l yX12_spill (CWS yX12_spill cX12_spill 3 (some .int)) (RM 1 0 0) (PBw [.ref (g 100), .int v0, .int v1] D cI cB cZ (wM cI cB cZ g cn In Fn) sz) (va_Qi (fun (r : Int32) (u : (Nat → Nat) × (Nat → Int32) × (Nat → Nat → Int32)) => (fun r c2 I2 F2 => (((0 ≤ v0.toInt ∧ v0.toInt ≤ (cn 0 : Int)) ∧ (1 ≤ v1.toInt ∧ v1.toInt ≤ 400) ∧ cn 75 < 40) ∧ r = nI (cn 75 + 1) ∧ c2 = va_up cn 75 (cn 75 + 1) ∧ I2 = In ∧ F2 = (va_up (va_up Fn 81 (upd (Fn 81) (cn 75) v0)) 82 (upd (Fn 82) (cn 75) v1))) ∨ ((¬ ((0 ≤ v0.toInt ∧ v0.toInt ≤ (cn 0 : Int)) ∧ (1 ≤ v1.toInt ∧ v1.toInt ≤ 400) ∧ cn 75 < 40)) ∧ r = -1 ∧ c2 = cn ∧ I2 = In ∧ F2 = Fn)) r u.1 u.2.1 u.2.2) (fun (u : (Nat → Nat) × (Nat → Int32) × (Nat → Nat → Int32)) (t : State) => va_P D vwCl (wM cI cB cZ g u.1 u.2.1 u.2.2) t.heap ∧ va_D (va_A (wM cI cB cZ g cn In Fn) sz) (wM cI cB cZ g u.1 u.2.1 u.2.2)) (va_A (wM cI cB cZ g cn In Fn) sz)) 0 0 (va_A (wM cI cB cZ g cn In Fn) sz) := by
  refine en_w (fun A => (va_Qi (fun (r : Int32) (u : (Nat → Nat) × (Nat → Int32) × (Nat → Nat → Int32)) => (fun (r : Int32) (c2 : Nat → Nat) (I2 : Nat → Int32) (F2 : Nat → Nat → Int32) => (((0 ≤ v0.toInt ∧ v0.toInt ≤ (cn 0 : Int)) ∧ (1 ≤ v1.toInt ∧ v1.toInt ≤ 400) ∧ cn 75 < 40) ∧ r = nI (cn 75 + 1) ∧ c2 = va_up cn 75 (cn 75 + 1) ∧ I2 = In ∧ F2 = (va_up (va_up Fn 81 (upd (Fn 81) (cn 75) v0)) 82 (upd (Fn 82) (cn 75) v1))) ∨ ((¬ ((0 ≤ v0.toInt ∧ v0.toInt ≤ (cn 0 : Int)) ∧ (1 ≤ v1.toInt ∧ v1.toInt ≤ 400) ∧ cn 75 < 40)) ∧ r = -1 ∧ c2 = cn ∧ I2 = In ∧ F2 = Fn)) r u.1 u.2.1 u.2.2) (fun (u : (Nat → Nat) × (Nat → Int32) × (Nat → Nat → Int32)) (t : State) => va_P D vwCl (wM cI cB cZ g u.1 u.2.1 u.2.2) t.heap ∧ va_D A (wM cI cB cZ g u.1 u.2.1 u.2.2)) A)) rfl rfl pn_RX12 (Nat.le_of_ble_eq_true rfl) (fun p e s m below meth c A hx hb hml hown S hr hlocks hnm hA hP hK hD hS ls hl => ?_)
  have hl : lv_has ls 3 [(0, .ref (g 100)), (1, .int v0), (2, .int v1)] := hl
  have hi_cn : Hid (CB cn) := hI.b
  refine lv_iload_n hx hb (oc_27 0 shX12_spill_0) rfl (lvA1 hl) ?_
  refine lv_iconst (v := 0) hx hb (oc_3 1 (aq_1 shX12_spill_0)) kic_0 ?_
  refine lv_aload_n hx hb (oc_42 2 (aq_2 shX12_spill_0)) rfl (lvA0 hl) ?_
  refine gM_211 S hK hP (v := .int (nI (cn 0))) rfl (oc_180 3 (aq_3 shX12_spill_0) uw_0_211) ?_
  refine vp_callSi (runS_r (As := [.int v0, .int 0, .int (nI (cn 0))]) (rest := []) S (q_in l D cI cB cZ v0 0 (nI (cn 0)) ) kS_RX12_214 hK hP [] rfl ⟨Nat.le_of_ble_eq_true rfl, Nat.le_of_ble_eq_true rfl⟩ ⟨Nat.le_of_ble_eq_true rfl, Nat.le_of_ble_eq_true rfl⟩ rfl hl.1 rfl (Nat.le_of_ble_eq_true rfl) (oc_184 6 (aq_6 shX12_spill_0) uw_0_214)) (fun r_1 h_2 => ?_)
  have : (nI (cn 0)).toInt = (((cn 0) : Nat) : Int) := nI_toInt (by (first | omega | (have zz0 := Hid.u hi_cn; omega)))
  rcases h_2 with ⟨rfl, h_2⟩ | ⟨rfl, h_2⟩
  ·
    have h_2 : 0 ≤ v0.toInt ∧ v0.toInt ≤ (nI (cn 0)).toInt := h_2
    refine lv_if_eq (tgt := 32) hx hb (oc_153 9 (aq_9 shX12_spill_0) sgw_0_23) rfl (fun h => absurd h cq_eq_1_0) (fun _ => ?_)
    refine lv_iload_n hx hb (oc_28 12 (aq_12 shX12_spill_0)) rfl (lvA2 hl) ?_
    refine lv_iconst (v := 1) hx hb (oc_4 13 (aq_13 shX12_spill_0)) kic_1 ?_
    refine lv_sipush (v := 400) hx hb (oc_17 14 (aq_14 shX12_spill_0) sgw_1_144) (by decide) ?_
    refine vp_callSi (runS_r (As := [.int v1, .int 1, .int 400]) (rest := []) S (q_in l D cI cB cZ v1 1 400 ) kS_RX12_214 hK hP [] rfl ⟨Nat.le_of_ble_eq_true rfl, Nat.le_of_ble_eq_true rfl⟩ ⟨Nat.le_of_ble_eq_true rfl, Nat.le_of_ble_eq_true rfl⟩ rfl hl.1 rfl (Nat.le_of_ble_eq_true rfl) (oc_184 17 (aq_17 shX12_spill_0) uw_0_214)) (fun r_3 h_4 => ?_)
    rcases h_4 with ⟨rfl, h_4⟩ | ⟨rfl, h_4⟩
    ·
      have h_4 : 1 ≤ v1.toInt ∧ v1.toInt ≤ 400 := h_4
      refine lv_if_eq (tgt := 32) hx hb (oc_153 20 (aq_20 shX12_spill_0) sgw_0_12) rfl (fun h => absurd h cq_eq_1_0) (fun _ => ?_)
      refine lv_aload_n hx hb (oc_42 23 (aq_23 shX12_spill_0)) rfl (lvA0 hl) ?_
      refine gM_462 S hK hP (v := .int (nI (cn 75))) rfl (oc_180 24 shX12_spill_24 uw_1_206) ?_
      refine lv_bipush (v := 40) hx hb (oc_16 27 (aq_3 shX12_spill_24) sgb_40) kbc_40 ?_
      have : (nI (cn 75)).toInt = (((cn 75) : Nat) : Int) := nI_toInt (by (first | omega | (have zz0 := Hid.u hi_cn; omega)))
      refine lv_icmp_ne (tgt := 34) hx hb (oc_160 29 (aq_5 shX12_spill_24) sgw_0_5) rfl (fun c_5 => ?_) (fun c_5 => ?_)
      ·
        have tc_5 : ((nI (cn 75)).toInt : Int) ≠ 40 := fun q => c_5 (Int32.toInt_inj.mp q)
        refine lv_aload_n hx hb (oc_42 34 (aq_10 shX12_spill_24)) rfl (lvA0 hl) ?_
        refine gM_177 S hK hP (v := .ref (g 81)) rfl (oc_180 35 (aq_11 shX12_spill_24) uw_0_177) ?_
        refine lv_aload_n hx hb (oc_42 38 (aq_14 shX12_spill_24)) rfl (lvA0 hl) ?_
        refine gM_462 S hK hP (v := .int (nI (cn 75))) rfl (oc_180 39 (aq_15 shX12_spill_24) uw_1_206) ?_
        refine lv_iload_n hx hb (oc_27 42 (aq_18 shX12_spill_24)) rfl (lvA1 hl) ?_
        have kb_1 : (cn 75) < 40 := by (first | omega | (have zz0 := Hid.u hi_cn; omega))
        refine stM_81 hx hb hK hP hD hS (Fn2 := (va_up Fn 81 (upd (Fn 81) (cn 75) v0))) (vp_in_nI kb_1 (ltb rfl)) (nI_clamp (Nat.lt_trans kb_1 (ltb rfl))) rfl (oc_79 43 (aq_19 shX12_spill_24)) (fun H locs hP hD hS => ?_)
        refine lv_aload_n hx hb (oc_42 44 (aq_20 shX12_spill_24)) rfl (lvA0 hl) ?_
        refine gM_180 S hK hP (v := .ref (g 82)) rfl (oc_180 45 (aq_21 shX12_spill_24) uw_0_180) ?_
        refine lv_aload_n hx hb (oc_42 48 shX12_spill_48) rfl (lvA0 hl) ?_
        refine gM_462 S hK hP (v := .int (nI (cn 75))) rfl (oc_180 49 (aq_1 shX12_spill_48) uw_1_206) ?_
        refine lv_iload_n hx hb (oc_28 52 (aq_4 shX12_spill_48)) rfl (lvA2 hl) ?_
        refine stM_82 hx hb hK hP hD hS (Fn2 := (va_up (va_up Fn 81 (upd (Fn 81) (cn 75) v0)) 82 (upd (Fn 82) (cn 75) v1))) (vp_in_nI kb_1 (ltb rfl)) (nI_clamp (Nat.lt_trans kb_1 (ltb rfl))) rfl (oc_79 53 (aq_5 shX12_spill_48)) (fun H locs hP hD hS => ?_)
        refine lv_aload_n hx hb (oc_42 54 (aq_6 shX12_spill_48)) rfl (lvA0 hl) ?_
        refine lv_aload_n hx hb (oc_42 55 (aq_7 shX12_spill_48)) rfl (lvA0 hl) ?_
        refine gM_462 S hK hP (v := .int (nI (cn 75))) rfl (oc_180 56 (aq_8 shX12_spill_48) uw_1_206) ?_
        refine lv_iconst (v := 1) hx hb (oc_4 59 (aq_11 shX12_spill_48)) kic_1 ?_
        refine lv_iadd hx hb (oc_96 60 (aq_12 shX12_spill_48)) ?_
        refine lv_topi (fun y_6 ey_6 => ?_)
        obtain rfl : y_6 = (nI ((cn 75) + 1)) := ey_6.trans (nI_add (cn 75) 1)
        refine pM_462 S hK hP hD hS (a := ((cn 75) + 1)) (cn2 := (va_up cn 75 ((cn 75) + 1))) rfl rfl (oc_181 61 (aq_13 shX12_spill_48) uw_1_206) (fun H locs hP hD hS => ?_)
        refine lv_aload_n hx hb (oc_42 64 (aq_16 shX12_spill_48)) rfl (lvA0 hl) ?_
        refine gM_462 S hK hP (v := .int (nI ((cn 75) + 1))) rfl (oc_180 65 (aq_17 shX12_spill_48) uw_1_206) ?_
        exact W.iret (v := (nI ((cn 75) + 1))) hx hb hr (fun t ht hW => ⟨⟨(nI ((cn 75) + 1)), ((va_up cn 75 ((cn 75) + 1)), In, (va_up (va_up Fn 81 (upd (Fn 81) (cn 75) v0)) 82 (upd (Fn 82) (cn 75) v1))), rfl, (Or.inl ⟨(by first | (first | omega | (have zz0 := Hid.u hi_cn; omega)) | (simp only [zd0]; (first | omega | (have zz0 := Hid.u hi_cn; omega)))), rfl, rfl, rfl, by first | rfl | simp only [zd0, zd1] | simp only [zd0]⟩), by rw [ht]; exact hP, hD⟩, hS.F ht⟩) hS.2.2 (oc_172 68 (aq_20 shX12_spill_48))
      ·
        have tc_5 : ((nI (cn 75)).toInt : Int) = 40 := congrArg Int32.toInt c_5
        refine lv_iconst (v := (-1)) hx hb (oc_2 32 (aq_8 shX12_spill_24)) kic_m1 ?_
        exact W.iret (v := (-1)) hx hb hr (fun t ht hW => ⟨⟨(-1), (cn, In, Fn), rfl, (Or.inr ⟨(by first | (first | omega | (have zz0 := Hid.u hi_cn; omega)) | (simp only [zd0]; (first | omega | (have zz0 := Hid.u hi_cn; omega)))), rfl, rfl, rfl, rfl⟩), by rw [ht]; exact hP, hD⟩, hS.F ht⟩) hS.2.2 (oc_172 33 (aq_9 shX12_spill_24))
    ·
      have h_4 : ¬ (1 ≤ v1.toInt ∧ v1.toInt ≤ 400) := h_4
      refine lv_if_eq (tgt := 32) hx hb (oc_153 20 (aq_20 shX12_spill_0) sgw_0_12) rfl (fun _ => ?_) (fun h => absurd h cq_eq_0_0)
      refine lv_iconst (v := (-1)) hx hb (oc_2 32 (aq_8 shX12_spill_24)) kic_m1 ?_
      exact W.iret (v := (-1)) hx hb hr (fun t ht hW => ⟨⟨(-1), (cn, In, Fn), rfl, (Or.inr ⟨(by first | (first | omega | (have zz0 := Hid.u hi_cn; omega)) | (simp only [zd0]; (first | omega | (have zz0 := Hid.u hi_cn; omega)))), rfl, rfl, rfl, rfl⟩), by rw [ht]; exact hP, hD⟩, hS.F ht⟩) hS.2.2 (oc_172 33 (aq_9 shX12_spill_24))
  ·
    have h_2 : ¬ (0 ≤ v0.toInt ∧ v0.toInt ≤ (nI (cn 0)).toInt) := h_2
    refine lv_if_eq (tgt := 32) hx hb (oc_153 9 (aq_9 shX12_spill_0) sgw_0_23) rfl (fun _ => ?_) (fun h => absurd h cq_eq_0_0)
    refine lv_iconst (v := (-1)) hx hb (oc_2 32 (aq_8 shX12_spill_24)) kic_m1 ?_
    exact W.iret (v := (-1)) hx hb hr (fun t ht hW => ⟨⟨(-1), (cn, In, Fn), rfl, (Or.inr ⟨(by first | (first | omega | (have zz0 := Hid.u hi_cn; omega)) | (simp only [zd0]; (first | omega | (have zz0 := Hid.u hi_cn; omega)))), rfl, rfl, rfl, rfl⟩), by rw [ht]; exact hP, hD⟩, hS.F ht⟩) hS.2.2 (oc_172 33 (aq_9 shX12_spill_24))
set_option maxRecDepth 100000 in
set_option maxHeartbeats 4000000 in
theorem q_blocked (l : Launch) (D : va_G) (cI cB cZ : ClassId) (g : Nat → Nat) (cn : Nat → Nat) (In : Nat → Int32) (Fn : Nat → Nat → Int32) (v0 : Int32) (sz : Nat) (hI : IM cn Fn) : Met l yX12_blocked (CWS yX12_blocked cX12_blocked 2 (some .int)) (RM 0 0 0) (PBw [.ref (g 100), .int v0] D cI cB cZ (wM cI cB cZ g cn In Fn) sz) (va_Qi (fun (r : Int32) (u : (Nat → Nat) × (Nat → Int32) × (Nat → Nat → Int32)) => (fun r c2 I2 F2 => ((0 ≤ v0.toInt ∧ v0.toInt < (cn 83 : Int)) ∧ r = Fn 89 v0.toInt.toNat + 1 ∧ c2 = cn ∧ I2 = In ∧ F2 = (va_up Fn 89 (upd (Fn 89) v0.toInt.toNat (Fn 89 v0.toInt.toNat + 1)))) ∨ ((¬ (0 ≤ v0.toInt ∧ v0.toInt < (cn 83 : Int))) ∧ r = -1 ∧ c2 = cn ∧ I2 = In ∧ F2 = Fn)) r u.1 u.2.1 u.2.2) (fun (u : (Nat → Nat) × (Nat → Int32) × (Nat → Nat → Int32)) (t : State) => va_P D vwCl (wM cI cB cZ g u.1 u.2.1 u.2.2) t.heap ∧ va_D (va_A (wM cI cB cZ g cn In Fn) sz) (wM cI cB cZ g u.1 u.2.1 u.2.2)) (va_A (wM cI cB cZ g cn In Fn) sz)) 0 0 (va_A (wM cI cB cZ g cn In Fn) sz) := by
  refine en_w (fun A => (va_Qi (fun (r : Int32) (u : (Nat → Nat) × (Nat → Int32) × (Nat → Nat → Int32)) => (fun (r : Int32) (c2 : Nat → Nat) (I2 : Nat → Int32) (F2 : Nat → Nat → Int32) => ((0 ≤ v0.toInt ∧ v0.toInt < (cn 83 : Int)) ∧ r = Fn 89 v0.toInt.toNat + 1 ∧ c2 = cn ∧ I2 = In ∧ F2 = (va_up Fn 89 (upd (Fn 89) v0.toInt.toNat (Fn 89 v0.toInt.toNat + 1)))) ∨ ((¬ (0 ≤ v0.toInt ∧ v0.toInt < (cn 83 : Int))) ∧ r = -1 ∧ c2 = cn ∧ I2 = In ∧ F2 = Fn)) r u.1 u.2.1 u.2.2) (fun (u : (Nat → Nat) × (Nat → Int32) × (Nat → Nat → Int32)) (t : State) => va_P D vwCl (wM cI cB cZ g u.1 u.2.1 u.2.2) t.heap ∧ va_D A (wM cI cB cZ g u.1 u.2.1 u.2.2)) A)) rfl rfl pn_RX12 (Nat.le_of_ble_eq_true rfl) (fun p e s m below meth c A hx hb hml hown S hr hlocks hnm hA hP hK hD hS ls hl => ?_)
  have hl : lv_has ls 2 [(0, .ref (g 100)), (1, .int v0)] := hl
  have hi_cn : Hid (CB cn) := hI.b
  refine lv_iload_n hx hb (oc_27 0 shX12_blocked_0) rfl (lvA1 hl) ?_
  refine lv_if_lt (tgt := 12) hx hb (oc_155 1 (aq_1 shX12_blocked_0) sgw_0_11) rfl (fun c_1 => ?_) (fun c_1 => ?_)
  ·
    have tc_1 : (v0.toInt : Int) < 0 := Int32.lt_iff_toInt_lt.mp c_1
    refine lv_iconst (v := (-1)) hx hb (oc_2 12 (aq_12 shX12_blocked_0)) kic_m1 ?_
    exact W.iret (v := (-1)) hx hb hr (fun t ht hW => ⟨⟨(-1), (cn, In, Fn), rfl, (Or.inr ⟨(by first | (first | omega | (have zz0 := Hid.u hi_cn; omega)) | (simp only [zd0]; (first | omega | (have zz0 := Hid.u hi_cn; omega)))), rfl, rfl, rfl, rfl⟩), by rw [ht]; exact hP, hD⟩, hS.F ht⟩) hS.2.2 (oc_172 13 (aq_13 shX12_blocked_0))
  ·
    have tc_1 : (0 : Int) ≤ v0.toInt := Int32.le_iff_toInt_le.mp (Int32.not_lt.mp c_1)
    refine lv_iload_n hx hb (oc_27 4 (aq_4 shX12_blocked_0)) rfl (lvA1 hl) ?_
    refine lv_aload_n hx hb (oc_42 5 (aq_5 shX12_blocked_0)) rfl (lvA0 hl) ?_
    refine gM_478 S hK hP (v := .int (nI (cn 83))) rfl (oc_180 6 (aq_6 shX12_blocked_0) uw_1_222) ?_
    have : (nI (cn 83)).toInt = (((cn 83) : Nat) : Int) := nI_toInt (by (first | omega | (have zz0 := Hid.u hi_cn; omega)))
    refine lv_icmp_lt (tgt := 14) hx hb (oc_161 9 (aq_9 shX12_blocked_0) sgw_0_5) rfl (fun c_2 => ?_) (fun c_2 => ?_)
    ·
      have tc_2 : (v0.toInt : Int) < (nI (cn 83)).toInt := Int32.lt_iff_toInt_lt.mp c_2
      obtain ⟨d0, hd0, rfl⟩ := nI_of (x := v0) (fun q => by have := Int32.lt_iff_toInt_lt.mp q; have e : (0 : Int32).toInt = 0 := rfl; (first | omega | (have zz0 := Hid.u hi_cn; omega)))
      have td0 : (nI d0).toInt = (d0 : Int) := nI_toInt hd0
      have zd0 : (nI d0).toInt.toNat = d0 := by (first | omega | (have zz0 := Hid.u hi_cn; omega))
      refine lv_aload_n hx hb (oc_42 14 (aq_14 shX12_blocked_0)) rfl (lvA0 hl) ?_
      refine gM_198 S hK hP (v := .ref (g 89)) rfl (oc_180 15 (aq_15 shX12_blocked_0) uw_0_198) ?_
      refine lv_iload_n hx hb (oc_27 18 (aq_18 shX12_blocked_0)) rfl (lvA1 hl) ?_
      refine lv_aload_n hx hb (oc_42 19 (aq_19 shX12_blocked_0)) rfl (lvA0 hl) ?_
      refine gM_198 S hK hP (v := .ref (g 89)) rfl (oc_180 20 (aq_20 shX12_blocked_0) uw_0_198) ?_
      refine lv_iload_n hx hb (oc_27 23 (aq_23 shX12_blocked_0)) rfl (lvA1 hl) ?_
      have kb_1 : d0 < 10 := by (first | omega | (have zz0 := Hid.u hi_cn; omega))
      refine ldM_89 hx hb hK hP (x := ((Fn 89) d0)) (vp_in_nI kb_1 (ltb rfl)) (nI_clamp (Nat.lt_trans kb_1 (ltb rfl))) rfl (oc_46 24 shX12_blocked_24) ?_
      refine lv_iconst (v := 1) hx hb (oc_4 25 (aq_1 shX12_blocked_24)) kic_1 ?_
      refine lv_iadd hx hb (oc_96 26 (aq_2 shX12_blocked_24)) ?_
      refine stM_89 hx hb hK hP hD hS (Fn2 := (va_up Fn 89 (upd (Fn 89) d0 (((Fn 89) d0) + 1)))) (vp_in_nI kb_1 (ltb rfl)) (nI_clamp (Nat.lt_trans kb_1 (ltb rfl))) rfl (oc_79 27 (aq_3 shX12_blocked_24)) (fun H locs hP hD hS => ?_)
      refine lv_aload_n hx hb (oc_42 28 (aq_4 shX12_blocked_24)) rfl (lvA0 hl) ?_
      refine gM_198 S hK hP (v := .ref (g 89)) rfl (oc_180 29 (aq_5 shX12_blocked_24) uw_0_198) ?_
      refine lv_iload_n hx hb (oc_27 32 (aq_8 shX12_blocked_24)) rfl (lvA1 hl) ?_
      refine ldM_89 hx hb hK hP (x := ((upd (Fn 89) d0 (((Fn 89) d0) + 1)) d0)) (vp_in_nI kb_1 (ltb rfl)) (nI_clamp (Nat.lt_trans kb_1 (ltb rfl))) rfl (oc_46 33 (aq_9 shX12_blocked_24)) ?_
      exact W.iret (v := ((upd (Fn 89) d0 (((Fn 89) d0) + 1)) d0)) hx hb hr (fun t ht hW => ⟨⟨((upd (Fn 89) d0 (((Fn 89) d0) + 1)) d0), (cn, In, (va_up Fn 89 (upd (Fn 89) d0 (((Fn 89) d0) + 1)))), rfl, (Or.inl ⟨(by first | (first | omega | (have zz0 := Hid.u hi_cn; omega)) | (simp only [zd0]; (first | omega | (have zz0 := Hid.u hi_cn; omega)))), by simp only [zd0, upd_self], rfl, rfl, by simp only [zd0]⟩), by rw [ht]; exact hP, hD⟩, hS.F ht⟩) hS.2.2 (oc_172 34 (aq_10 shX12_blocked_24))
    ·
      have tc_2 : ((nI (cn 83)).toInt : Int) ≤ v0.toInt := Int32.le_iff_toInt_le.mp (Int32.not_lt.mp c_2)
      refine lv_iconst (v := (-1)) hx hb (oc_2 12 (aq_12 shX12_blocked_0)) kic_m1 ?_
      exact W.iret (v := (-1)) hx hb hr (fun t ht hW => ⟨⟨(-1), (cn, In, Fn), rfl, (Or.inr ⟨(by first | (first | omega | (have zz0 := Hid.u hi_cn; omega)) | (simp only [zd0]; (first | omega | (have zz0 := Hid.u hi_cn; omega)))), rfl, rfl, rfl, rfl⟩), by rw [ht]; exact hP, hD⟩, hS.F ht⟩) hS.2.2 (oc_172 13 (aq_13 shX12_blocked_0))
set_option maxRecDepth 100000 in
set_option maxHeartbeats 4000000 in
theorem q_off (l : Launch) (D : va_G) (cI cB cZ : ClassId) (g : Nat → Nat) (cn : Nat → Nat) (In : Nat → Int32) (Fn : Nat → Nat → Int32) (v0 v1 v2 : Int32) (sz : Nat) (hI : IM cn Fn) : Met l yX12_off (CWS yX12_off cX12_off 4 (some .boolean)) (RM 1 0 0) (PBw [.ref (g 100), .int v0, .int v1, .int v2] D cI cB cZ (wM cI cB cZ g cn In Fn) sz) (va_Qi (fun (r : Int32) (u : (Nat → Nat) × (Nat → Int32) × (Nat → Nat → Int32)) => (fun r c2 I2 F2 => ((0 ≤ v0.toInt ∧ v0.toInt < (cn 46 : Int) ∧ 0 ≤ v1.toInt ∧ v1.toInt ≤ 399 ∧ Fn 53 (400 * v0.toInt.toNat + v1.toInt.toNat) ≠ v2) ∧ r = 1 ∧ c2 = cn ∧ I2 = In ∧ F2 = (va_up Fn 53 (upd (Fn 53) (400 * v0.toInt.toNat + v1.toInt.toNat) (vp_nar .boolean v2)))) ∨ ((¬ (0 ≤ v0.toInt ∧ v0.toInt < (cn 46 : Int) ∧ 0 ≤ v1.toInt ∧ v1.toInt ≤ 399 ∧ Fn 53 (400 * v0.toInt.toNat + v1.toInt.toNat) ≠ v2)) ∧ r = 0 ∧ c2 = cn ∧ I2 = In ∧ F2 = Fn)) r u.1 u.2.1 u.2.2) (fun (u : (Nat → Nat) × (Nat → Int32) × (Nat → Nat → Int32)) (t : State) => va_P D vwCl (wM cI cB cZ g u.1 u.2.1 u.2.2) t.heap ∧ va_D (va_A (wM cI cB cZ g cn In Fn) sz) (wM cI cB cZ g u.1 u.2.1 u.2.2)) (va_A (wM cI cB cZ g cn In Fn) sz)) 0 0 (va_A (wM cI cB cZ g cn In Fn) sz) := by
  refine en_w (fun A => (va_Qi (fun (r : Int32) (u : (Nat → Nat) × (Nat → Int32) × (Nat → Nat → Int32)) => (fun (r : Int32) (c2 : Nat → Nat) (I2 : Nat → Int32) (F2 : Nat → Nat → Int32) => ((0 ≤ v0.toInt ∧ v0.toInt < (cn 46 : Int) ∧ 0 ≤ v1.toInt ∧ v1.toInt ≤ 399 ∧ Fn 53 (400 * v0.toInt.toNat + v1.toInt.toNat) ≠ v2) ∧ r = 1 ∧ c2 = cn ∧ I2 = In ∧ F2 = (va_up Fn 53 (upd (Fn 53) (400 * v0.toInt.toNat + v1.toInt.toNat) (vp_nar .boolean v2)))) ∨ ((¬ (0 ≤ v0.toInt ∧ v0.toInt < (cn 46 : Int) ∧ 0 ≤ v1.toInt ∧ v1.toInt ≤ 399 ∧ Fn 53 (400 * v0.toInt.toNat + v1.toInt.toNat) ≠ v2)) ∧ r = 0 ∧ c2 = cn ∧ I2 = In ∧ F2 = Fn)) r u.1 u.2.1 u.2.2) (fun (u : (Nat → Nat) × (Nat → Int32) × (Nat → Nat → Int32)) (t : State) => va_P D vwCl (wM cI cB cZ g u.1 u.2.1 u.2.2) t.heap ∧ va_D A (wM cI cB cZ g u.1 u.2.1 u.2.2)) A)) rfl rfl pn_RX12 (Nat.le_of_ble_eq_true rfl) (fun p e s m below meth c A hx hb hml hown S hr hlocks hnm hA hP hK hD hS ls hl => ?_)
  have hl : lv_has ls 4 [(0, .ref (g 100)), (1, .int v0), (2, .int v1), (3, .int v2)] := hl
  have hi_cn : Hid (CB cn) := hI.b
  refine lv_iload_n hx hb (oc_27 0 shX12_off_0) rfl (lvA1 hl) ?_
  refine lv_if_lt (tgt := 35) hx hb (oc_155 1 (aq_1 shX12_off_0) sgw_0_34) rfl (fun c_1 => ?_) (fun c_1 => ?_)
  ·
    have tc_1 : (v0.toInt : Int) < 0 := Int32.lt_iff_toInt_lt.mp c_1
    refine lv_iconst (v := 0) hx hb dX12_off_35 kic_0 ?_
    exact W.zret (v := 0) hx hb hr rfl (fun t ht hW => ⟨⟨0, (cn, In, Fn), rfl, (Or.inr ⟨(by first | (first | omega | (have zz0 := Hid.u hi_cn; omega)) | (simp only [zd0]; (first | omega | (have zz0 := Hid.u hi_cn; omega))) | (simp only [zd0, zd1]; intro q; exact q.2.2.2.2 (by assumption))), rfl, rfl, rfl, rfl⟩), by rw [ht]; exact hP, hD⟩, hS.F ht⟩) hS.2.2 dX12_off_36
  ·
    have tc_1 : (0 : Int) ≤ v0.toInt := Int32.le_iff_toInt_le.mp (Int32.not_lt.mp c_1)
    refine lv_iload_n hx hb (oc_27 4 (aq_4 shX12_off_0)) rfl (lvA1 hl) ?_
    refine lv_aload_n hx hb (oc_42 5 (aq_5 shX12_off_0)) rfl (lvA0 hl) ?_
    refine gM_386 S hK hP (v := .int (nI (cn 46))) rfl (oc_180 6 (aq_6 shX12_off_0) uw_1_130) ?_
    have : (nI (cn 46)).toInt = (((cn 46) : Nat) : Int) := nI_toInt (by (first | omega | (have zz0 := Hid.u hi_cn; omega)))
    refine lv_icmp_ge (tgt := 35) hx hb (oc_162 9 (aq_9 shX12_off_0) sgw_0_26) rfl (fun c_2 => ?_) (fun c_2 => ?_)
    ·
      have tc_2 : ((nI (cn 46)).toInt : Int) ≤ v0.toInt := Int32.le_iff_toInt_le.mp c_2
      refine lv_iconst (v := 0) hx hb dX12_off_35 kic_0 ?_
      exact W.zret (v := 0) hx hb hr rfl (fun t ht hW => ⟨⟨0, (cn, In, Fn), rfl, (Or.inr ⟨(by first | (first | omega | (have zz0 := Hid.u hi_cn; omega)) | (simp only [zd0]; (first | omega | (have zz0 := Hid.u hi_cn; omega))) | (simp only [zd0, zd1]; intro q; exact q.2.2.2.2 (by assumption))), rfl, rfl, rfl, rfl⟩), by rw [ht]; exact hP, hD⟩, hS.F ht⟩) hS.2.2 dX12_off_36
    ·
      have tc_2 : (v0.toInt : Int) < (nI (cn 46)).toInt := Int32.lt_iff_toInt_lt.mp (Int32.not_le.mp c_2)
      obtain ⟨d0, hd0, rfl⟩ := nI_of (x := v0) (fun q => by have := Int32.lt_iff_toInt_lt.mp q; have e : (0 : Int32).toInt = 0 := rfl; (first | omega | (have zz0 := Hid.u hi_cn; omega)))
      have td0 : (nI d0).toInt = (d0 : Int) := nI_toInt hd0
      have zd0 : (nI d0).toInt.toNat = d0 := by (first | omega | (have zz0 := Hid.u hi_cn; omega))
      refine lv_iload_n hx hb (oc_28 12 (aq_12 shX12_off_0)) rfl (lvA2 hl) ?_
      refine vp_callSi (runS_r (As := [.int v1]) (rest := []) S (q_isDay l D cI cB cZ v1 ) kS_RX12_341 hK hP [] rfl ⟨Nat.le_of_ble_eq_true rfl, Nat.le_of_ble_eq_true rfl⟩ ⟨Nat.le_of_ble_eq_true rfl, Nat.le_of_ble_eq_true rfl⟩ rfl hl.1 rfl (Nat.le_of_ble_eq_true rfl) (oc_184 13 (aq_13 shX12_off_0) uw_1_85)) (fun r_3 h_4 => ?_)
      rcases h_4 with ⟨rfl, h_4⟩ | ⟨rfl, h_4⟩
      ·
        have h_4 : 0 ≤ v1.toInt ∧ v1.toInt ≤ 399 := h_4
        refine lv_if_eq (tgt := 35) hx hb (oc_153 16 (aq_16 shX12_off_0) sgw_0_19) rfl (fun h => absurd h cq_eq_1_0) (fun _ => ?_)
        obtain ⟨d1, hd1, rfl⟩ := nI_of (x := v1) (fun q => by have := Int32.lt_iff_toInt_lt.mp q; have e : (0 : Int32).toInt = 0 := rfl; (first | omega | (have zz0 := Hid.u hi_cn; omega)))
        have td1 : (nI d1).toInt = (d1 : Int) := nI_toInt hd1
        have zd1 : (nI d1).toInt.toNat = d1 := by (first | omega | (have zz0 := Hid.u hi_cn; omega))
        refine lv_aload_n hx hb (oc_42 19 (aq_19 shX12_off_0)) rfl (lvA0 hl) ?_
        refine gM_125 S hK hP (v := .ref (g 53)) rfl (oc_180 20 (aq_20 shX12_off_0) uw_0_125) ?_
        refine lv_sipush (v := 400) hx hb (oc_17 23 (aq_23 shX12_off_0) sgw_1_144) (by decide) ?_
        refine lv_iload_n hx hb (oc_27 26 shX12_off_26) rfl (lvA1 hl) ?_
        refine lv_imul hx hb (oc_104 27 (aq_1 shX12_off_26)) ?_
        refine lv_topi (fun y_5 ey_5 => ?_)
        obtain rfl : y_5 = (nI (400 * d0)) := ey_5.trans (pk_mul 400 d0)
        refine lv_iload_n hx hb (oc_28 28 (aq_2 shX12_off_26)) rfl (lvA2 hl) ?_
        refine lv_iadd hx hb (oc_96 29 (aq_3 shX12_off_26)) ?_
        refine lv_topi (fun y_6 ey_6 => ?_)
        obtain rfl : y_6 = (nI ((400 * d0) + d1)) := ey_6.trans (nI_add (400 * d0) d1)
        have kb_1 : ((400 * d0) + d1) < 1200 := by (first | omega | (have zz0 := Hid.u hi_cn; omega))
        refine ldM_53 hx hb hK hP (x := ((Fn 53) ((400 * d0) + d1))) (vp_in_nI kb_1 (ltb rfl)) (nI_clamp (Nat.lt_trans kb_1 (ltb rfl))) rfl (oc_51 30 (aq_4 shX12_off_26)) ?_
        refine lv_iload_n hx hb (oc_29 31 (aq_5 shX12_off_26)) rfl (lvA3 hl) ?_
        refine lv_icmp_ne (tgt := 37) hx hb (oc_160 32 (aq_6 shX12_off_26) sgw_0_5) rfl (fun c_7 => ?_) (fun c_7 => ?_)
        ·
          have tc_7 : (((Fn 53) ((400 * d0) + d1)).toInt : Int) ≠ v2.toInt := fun q => c_7 (Int32.toInt_inj.mp q)
          refine lv_aload_n hx hb (oc_42 37 (aq_11 shX12_off_26)) rfl (lvA0 hl) ?_
          refine gM_125 S hK hP (v := .ref (g 53)) rfl (oc_180 38 (aq_12 shX12_off_26) uw_0_125) ?_
          refine lv_sipush (v := 400) hx hb (oc_17 41 (aq_15 shX12_off_26) sgw_1_144) (by decide) ?_
          refine lv_iload_n hx hb (oc_27 44 (aq_18 shX12_off_26)) rfl (lvA1 hl) ?_
          refine lv_imul hx hb (oc_104 45 (aq_19 shX12_off_26)) ?_
          refine lv_topi (fun y_8 ey_8 => ?_)
          obtain rfl : y_8 = (nI (400 * d0)) := ey_8.trans (pk_mul 400 d0)
          refine lv_iload_n hx hb (oc_28 46 (aq_20 shX12_off_26)) rfl (lvA2 hl) ?_
          refine lv_iadd hx hb (oc_96 47 (aq_21 shX12_off_26)) ?_
          refine lv_topi (fun y_9 ey_9 => ?_)
          obtain rfl : y_9 = (nI ((400 * d0) + d1)) := ey_9.trans (nI_add (400 * d0) d1)
          refine lv_iload_n hx hb (oc_29 48 (aq_22 shX12_off_26)) rfl (lvA3 hl) ?_
          refine stM_53 hx hb hK hP hD hS (Fn2 := (va_up Fn 53 (upd (Fn 53) ((400 * d0) + d1) (vp_nar .boolean v2)))) (vp_in_nI kb_1 (ltb rfl)) (nI_clamp (Nat.lt_trans kb_1 (ltb rfl))) rfl (oc_84 49 (aq_23 shX12_off_26)) (fun H locs hP hD hS => ?_)
          refine lv_iconst (v := 1) hx hb (oc_4 50 shX12_off_50) kic_1 ?_
          exact W.zret (v := 1) hx hb hr rfl (fun t ht hW => ⟨⟨1, (cn, In, (va_up Fn 53 (upd (Fn 53) ((400 * d0) + d1) (vp_nar .boolean v2)))), rfl, (Or.inl ⟨⟨by (first | omega | (have zz0 := Hid.u hi_cn; omega)), by (first | omega | (have zz0 := Hid.u hi_cn; omega)), by (first | omega | (have zz0 := Hid.u hi_cn; omega)), by (first | omega | (have zz0 := Hid.u hi_cn; omega)), by simp only [zd0, zd1]; assumption⟩, rfl, rfl, rfl, by simp only [zd0, zd1]⟩), by rw [ht]; exact hP, hD⟩, hS.F ht⟩) hS.2.2 (oc_172 51 (aq_1 shX12_off_50))
        ·
          have tc_7 : (((Fn 53) ((400 * d0) + d1)).toInt : Int) = v2.toInt := congrArg Int32.toInt c_7
          refine lv_iconst (v := 0) hx hb dX12_off_35 kic_0 ?_
          exact W.zret (v := 0) hx hb hr rfl (fun t ht hW => ⟨⟨0, (cn, In, Fn), rfl, (Or.inr ⟨(by first | (first | omega | (have zz0 := Hid.u hi_cn; omega)) | (simp only [zd0]; (first | omega | (have zz0 := Hid.u hi_cn; omega))) | (simp only [zd0, zd1]; intro q; exact q.2.2.2.2 (by assumption))), rfl, rfl, rfl, rfl⟩), by rw [ht]; exact hP, hD⟩, hS.F ht⟩) hS.2.2 dX12_off_36
      ·
        have h_4 : ¬ (0 ≤ v1.toInt ∧ v1.toInt ≤ 399) := h_4
        refine lv_if_eq (tgt := 35) hx hb (oc_153 16 (aq_16 shX12_off_0) sgw_0_19) rfl (fun _ => ?_) (fun h => absurd h cq_eq_0_0)
        refine lv_iconst (v := 0) hx hb dX12_off_35 kic_0 ?_
        exact W.zret (v := 0) hx hb hr rfl (fun t ht hW => ⟨⟨0, (cn, In, Fn), rfl, (Or.inr ⟨(by first | (first | omega | (have zz0 := Hid.u hi_cn; omega)) | (simp only [zd0]; (first | omega | (have zz0 := Hid.u hi_cn; omega))) | (simp only [zd0, zd1]; intro q; exact q.2.2.2.2 (by assumption))), rfl, rfl, rfl, rfl⟩), by rw [ht]; exact hP, hD⟩, hS.F ht⟩) hS.2.2 dX12_off_36
set_option maxRecDepth 100000 in
set_option maxHeartbeats 4000000 in
theorem q_missing (l : Launch) (D : va_G) (cI cB cZ : ClassId) (g : Nat → Nat) (cn : Nat → Nat) (In : Nat → Int32) (Fn : Nat → Nat → Int32) (v0 : Int32) (hI : IM cn Fn) : Met l yX12_missing (CWS yX12_missing cX12_missing 2 (some .int)) (RM 1 0 0) (PBr [.ref (g 100), .int v0] D cI cB cZ (wM cI cB cZ g cn In Fn)) (vp_Si (fun r => ((0 ≤ v0.toInt ∧ v0.toInt < (cn 2 : Int)) ∧ r = Fn 14 v0.toInt.toNat) ∨ (¬ (0 ≤ v0.toInt ∧ v0.toInt < (cn 2 : Int)) ∧ r = -1))) 0 0 (fun _ => False) := by
  refine en_r rfl pn_RX12 (Nat.le_of_ble_eq_true rfl) (fun p e s m below meth c hx hb hml hown S hr hlocks hnm hP hK hS ls hl => ?_)
  have hl : lv_has ls 2 [(0, .ref (g 100)), (1, .int v0)] := hl
  have hi_cn : Hid (CB cn) := hI.b
  refine lv_aload_n hx hb (oc_42 0 shX12_missing_0) rfl (lvA0 hl) ?_
  refine lv_iload_n hx hb (oc_27 1 (aq_1 shX12_missing_0)) rfl (lvA1 hl) ?_
  refine vp_callSi (runV_ra (As := [.int v0]) (rest := []) S (q_isLoad l D cI cB cZ g cn In Fn v0 hI) kV_RX12_335 hK hP 0 rfl rfl rfl ⟨Nat.le_of_ble_eq_true rfl, Nat.le_of_ble_eq_true rfl⟩ ⟨Nat.le_of_ble_eq_true rfl, Nat.le_of_ble_eq_true rfl⟩ rfl hl.1 rfl (Nat.le_of_ble_eq_true rfl) (oc_182 2 (aq_2 shX12_missing_0) uw_1_79)) (fun r_1 h_2 => ?_)
  rcases h_2 with ⟨rfl, h_2⟩ | ⟨rfl, h_2⟩
  ·
    have h_2 : 0 ≤ v0.toInt ∧ v0.toInt < ((cn 2) : Int) := h_2
    refine lv_if_eq (tgt := 17) hx hb (oc_153 5 (aq_5 shX12_missing_0) sgw_0_12) rfl (fun h => absurd h cq_eq_1_0) (fun _ => ?_)
    obtain ⟨d0, hd0, rfl⟩ := nI_of (x := v0) (fun q => by have := Int32.lt_iff_toInt_lt.mp q; have e : (0 : Int32).toInt = 0 := rfl; (first | omega | (have zz0 := Hid.u hi_cn; omega)))
    have td0 : (nI d0).toInt = (d0 : Int) := nI_toInt hd0
    have zd0 : (nI d0).toInt.toNat = d0 := by (first | omega | (have zz0 := Hid.u hi_cn; omega))
    refine lv_aload_n hx hb (oc_42 8 (aq_8 shX12_missing_0)) rfl (lvA0 hl) ?_
    refine gM_43 S hK hP (v := .ref (g 14)) rfl (oc_180 9 (aq_9 shX12_missing_0) uw_0_43) ?_
    refine lv_iload_n hx hb (oc_27 12 (aq_12 shX12_missing_0)) rfl (lvA1 hl) ?_
    have kb_1 : d0 < 60 := by (first | omega | (have zz0 := Hid.u hi_cn; omega))
    refine ldM_14 hx hb hK hP (x := ((Fn 14) d0)) (vp_in_nI kb_1 (ltb rfl)) (nI_clamp (Nat.lt_trans kb_1 (ltb rfl))) rfl (oc_46 13 (aq_13 shX12_missing_0)) ?_
    refine lv_goto (tgt := 18) hx hb (oc_167 14 (aq_14 shX12_missing_0) sgw_0_4) rfl ?_
    exact W.iret (v := ((Fn 14) d0)) hx hb hr (fun t ht hW => ⟨((Fn 14) d0), rfl, (Or.inl ⟨(by first | (first | omega | (have zz0 := Hid.u hi_cn; omega)) | (simp only [zd0]; (first | omega | (have zz0 := Hid.u hi_cn; omega)))), by rw [zd0]⟩), ht⟩) (fun _ h => absurd h List.not_mem_nil) (oc_172 18 (aq_18 shX12_missing_0))
  ·
    have h_2 : ¬ (0 ≤ v0.toInt ∧ v0.toInt < ((cn 2) : Int)) := h_2
    refine lv_if_eq (tgt := 17) hx hb (oc_153 5 (aq_5 shX12_missing_0) sgw_0_12) rfl (fun _ => ?_) (fun h => absurd h cq_eq_0_0)
    refine lv_iconst (v := (-1)) hx hb (oc_2 17 (aq_17 shX12_missing_0)) kic_m1 ?_
    exact W.iret (v := (-1)) hx hb hr (fun t ht hW => ⟨(-1), rfl, (Or.inr ⟨(by first | (first | omega | (have zz0 := Hid.u hi_cn; omega)) | (simp only [zd0]; (first | omega | (have zz0 := Hid.u hi_cn; omega)))), rfl⟩), ht⟩) (fun _ h => absurd h List.not_mem_nil) (oc_172 18 (aq_18 shX12_missing_0))
set_option maxRecDepth 100000 in
set_option maxHeartbeats 4000000 in
theorem q_types (l : Launch) (D : va_G) (cI cB cZ : ClassId) (g : Nat → Nat) (cn : Nat → Nat) (In : Nat → Int32) (Fn : Nat → Nat → Int32) (v0 : Int32) (sz : Nat) (hI : IM cn Fn) (ht : cn 18 + 4 ≤ 200) : Met l yX12_types (CWS yX12_types cX12_types 3 none) (RM 0 0 0) (PBw [.ref (g 100), .int v0] D cI cB cZ (wM cI cB cZ g cn In Fn) sz) (va_Qv (fun (u : (Nat → Nat) × (Nat → Int32) × (Nat → Nat → Int32)) => (fun c2 I2 F2 => Fr [18] [] [17] cn In Fn c2 I2 F2 ∧ IM c2 F2 ∧ (c2 18 = cn 18 + 4)) u.1 u.2.1 u.2.2) (fun (u : (Nat → Nat) × (Nat → Int32) × (Nat → Nat → Int32)) (t : State) => va_P D vwCl (wM cI cB cZ g u.1 u.2.1 u.2.2) t.heap ∧ va_D (va_A (wM cI cB cZ g cn In Fn) sz) (wM cI cB cZ g u.1 u.2.1 u.2.2)) (va_A (wM cI cB cZ g cn In Fn) sz)) 0 0 (va_A (wM cI cB cZ g cn In Fn) sz) := by
  refine en_w (fun A => (va_Qv (fun (u : (Nat → Nat) × (Nat → Int32) × (Nat → Nat → Int32)) => (fun (c2 : Nat → Nat) (I2 : Nat → Int32) (F2 : Nat → Nat → Int32) => Fr [18] [] [17] cn In Fn c2 I2 F2 ∧ IM c2 F2 ∧ (c2 18 = cn 18 + 4)) u.1 u.2.1 u.2.2) (fun (u : (Nat → Nat) × (Nat → Int32) × (Nat → Nat → Int32)) (t : State) => va_P D vwCl (wM cI cB cZ g u.1 u.2.1 u.2.2) t.heap ∧ va_D A (wM cI cB cZ g u.1 u.2.1 u.2.2)) A)) rfl rfl pn_RX12 (Nat.le_of_ble_eq_true rfl) (fun p e s m below meth c A hx hb hml hown S hr hlocks hnm hA hP hK hD hS ls hl => ?_)
  have hl : lv_has ls 3 [(0, .ref (g 100)), (1, .int v0)] := hl
  have hi_cn : Hid (CB cn) := hI.b
  refine lv_iconst (v := 3) hx hb (oc_6 0 shX12_types_0) kic_3 ?_
  refine lv_istore_n (lv' := [(2, .int 3), (0, .ref (g 100)), (1, .int v0)]) hx hb (oc_61 1 (aq_1 shX12_types_0)) rfl hl (ltb rfl) rfl (fun ls hl => ?_)
  refine lv_iload_n hx hb dX12_types_2 rfl (lvA0 hl) ?_
  refine lv_if_lt (tgt := 38) hx hb dX12_types_3 rfl (fun h => absurd h cq_lt_3_0) (fun _ => ?_)
  refine lv_aload_n hx hb dX12_types_6 rfl (lvA1 hl) ?_
  refine gM_52 S hK hP (v := .ref (g 17)) rfl dX12_types_7 ?_
  refine lv_aload_n hx hb dX12_types_10 rfl (lvA1 hl) ?_
  refine gM_226 S hK hP (v := .int (nI (cn 18))) rfl dX12_types_11 ?_
  refine lv_iload_n hx hb dX12_types_14 rfl (lvA2 hl) ?_
  refine lv_bipush (v := 8) hx hb dX12_types_15 kbc_8 ?_
  refine lv_iload_n hx hb dX12_types_17 rfl (lvA0 hl) ?_
  refine lv_imul hx hb dX12_types_18 ?_
  refine lv_topi (fun y_1 ey_1 => ?_)
  obtain rfl : y_1 = 24 := ey_1.trans (by decide)
  refine lv_ishr hx hb dX12_types_19 ?_
  refine lv_i2b (v := (v0 >>> (24 &&& 31)).toInt8.toInt32) hx hb dX12_types_20 rfl ?_
  have kb_1 : (cn 18) < 200 := by (first | omega | (have zz0 := Hid.u hi_cn; omega))
  refine stM_17 hx hb hK hP hD hS (Fn2 := (va_up Fn 17 (upd (Fn 17) (cn 18) (vp_nar .byte (v0 >>> (24 &&& 31)).toInt8.toInt32)))) (vp_in_nI kb_1 (ltb rfl)) (nI_clamp (Nat.lt_trans kb_1 (ltb rfl))) rfl dX12_types_21 (fun H locs hP hD hS => ?_)
  refine lv_aload_n hx hb dX12_types_22 rfl (lvA1 hl) ?_
  refine lv_aload_n hx hb dX12_types_23 rfl (lvA1 hl) ?_
  refine gM_226 S hK hP (v := .int (nI (cn 18))) rfl dX12_types_24 ?_
  refine lv_iconst (v := 1) hx hb dX12_types_27 kic_1 ?_
  refine lv_iadd hx hb dX12_types_28 ?_
  refine lv_topi (fun y_2 ey_2 => ?_)
  obtain rfl : y_2 = (nI ((cn 18) + 1)) := ey_2.trans (nI_add (cn 18) 1)
  refine pM_226 S hK hP hD hS (a := ((cn 18) + 1)) (cn2 := (va_up cn 18 ((cn 18) + 1))) rfl rfl dX12_types_29 (fun H locs hP hD hS => ?_)
  refine lv_iinc (v := 2) (lv' := [(2, .int 2), (0, .ref (g 100)), (1, .int v0)]) hx hb dX12_types_32 hl (k := 0) rfl (by decide) (ltb rfl) rfl (fun ls hl => ?_)
  refine lv_goto (tgt := 2) hx hb dX12_types_35 rfl ?_
  refine lv_iload_n hx hb dX12_types_2 rfl (lvA0 hl) ?_
  refine lv_if_lt (tgt := 38) hx hb dX12_types_3 rfl (fun h => absurd h cq_lt_2_0) (fun _ => ?_)
  refine lv_aload_n hx hb dX12_types_6 rfl (lvA1 hl) ?_
  refine gM_52 S hK hP (v := .ref (g 17)) rfl dX12_types_7 ?_
  refine lv_aload_n hx hb dX12_types_10 rfl (lvA1 hl) ?_
  refine gM_226 S hK hP (v := .int (nI ((cn 18) + 1))) rfl dX12_types_11 ?_
  refine lv_iload_n hx hb dX12_types_14 rfl (lvA2 hl) ?_
  refine lv_bipush (v := 8) hx hb dX12_types_15 kbc_8 ?_
  refine lv_iload_n hx hb dX12_types_17 rfl (lvA0 hl) ?_
  refine lv_imul hx hb dX12_types_18 ?_
  refine lv_topi (fun y_3 ey_3 => ?_)
  obtain rfl : y_3 = 16 := ey_3.trans (by decide)
  refine lv_ishr hx hb dX12_types_19 ?_
  refine lv_i2b (v := (v0 >>> (16 &&& 31)).toInt8.toInt32) hx hb dX12_types_20 rfl ?_
  have kb_2 : ((cn 18) + 1) < 200 := by (first | omega | (have zz0 := Hid.u hi_cn; omega))
  refine stM_17 hx hb hK hP hD hS (Fn2 := (va_up Fn 17 (upd (upd (Fn 17) (cn 18) (vp_nar .byte (v0 >>> (24 &&& 31)).toInt8.toInt32)) ((cn 18) + 1) (vp_nar .byte (v0 >>> (16 &&& 31)).toInt8.toInt32)))) (vp_in_nI kb_2 (ltb rfl)) (nI_clamp (Nat.lt_trans kb_2 (ltb rfl))) (bx_uu _ _ _ _) dX12_types_21 (fun H locs hP hD hS => ?_)
  refine lv_aload_n hx hb dX12_types_22 rfl (lvA1 hl) ?_
  refine lv_aload_n hx hb dX12_types_23 rfl (lvA1 hl) ?_
  refine gM_226 S hK hP (v := .int (nI ((cn 18) + 1))) rfl dX12_types_24 ?_
  refine lv_iconst (v := 1) hx hb dX12_types_27 kic_1 ?_
  refine lv_iadd hx hb dX12_types_28 ?_
  refine lv_topi (fun y_4 ey_4 => ?_)
  obtain rfl : y_4 = (nI (((cn 18) + 1) + 1)) := ey_4.trans (nI_add ((cn 18) + 1) 1)
  refine pM_226 S hK hP hD hS (a := (((cn 18) + 1) + 1)) (cn2 := (va_up cn 18 (((cn 18) + 1) + 1))) rfl (bx_uu _ _ _ _) dX12_types_29 (fun H locs hP hD hS => ?_)
  refine lv_iinc (v := 1) (lv' := [(2, .int 1), (0, .ref (g 100)), (1, .int v0)]) hx hb dX12_types_32 hl (k := 0) rfl (by decide) (ltb rfl) rfl (fun ls hl => ?_)
  refine lv_goto (tgt := 2) hx hb dX12_types_35 rfl ?_
  refine lv_iload_n hx hb dX12_types_2 rfl (lvA0 hl) ?_
  refine lv_if_lt (tgt := 38) hx hb dX12_types_3 rfl (fun h => absurd h cq_lt_1_0) (fun _ => ?_)
  refine lv_aload_n hx hb dX12_types_6 rfl (lvA1 hl) ?_
  refine gM_52 S hK hP (v := .ref (g 17)) rfl dX12_types_7 ?_
  refine lv_aload_n hx hb dX12_types_10 rfl (lvA1 hl) ?_
  refine gM_226 S hK hP (v := .int (nI (((cn 18) + 1) + 1))) rfl dX12_types_11 ?_
  refine lv_iload_n hx hb dX12_types_14 rfl (lvA2 hl) ?_
  refine lv_bipush (v := 8) hx hb dX12_types_15 kbc_8 ?_
  refine lv_iload_n hx hb dX12_types_17 rfl (lvA0 hl) ?_
  refine lv_imul hx hb dX12_types_18 ?_
  refine lv_topi (fun y_5 ey_5 => ?_)
  obtain rfl : y_5 = 8 := ey_5.trans (by decide)
  refine lv_ishr hx hb dX12_types_19 ?_
  refine lv_i2b (v := (v0 >>> (8 &&& 31)).toInt8.toInt32) hx hb dX12_types_20 rfl ?_
  have kb_3 : (((cn 18) + 1) + 1) < 200 := by (first | omega | (have zz0 := Hid.u hi_cn; omega))
  refine stM_17 hx hb hK hP hD hS (Fn2 := (va_up Fn 17 (upd (upd (upd (Fn 17) (cn 18) (vp_nar .byte (v0 >>> (24 &&& 31)).toInt8.toInt32)) ((cn 18) + 1) (vp_nar .byte (v0 >>> (16 &&& 31)).toInt8.toInt32)) (((cn 18) + 1) + 1) (vp_nar .byte (v0 >>> (8 &&& 31)).toInt8.toInt32)))) (vp_in_nI kb_3 (ltb rfl)) (nI_clamp (Nat.lt_trans kb_3 (ltb rfl))) (bx_uu _ _ _ _) dX12_types_21 (fun H locs hP hD hS => ?_)
  refine lv_aload_n hx hb dX12_types_22 rfl (lvA1 hl) ?_
  refine lv_aload_n hx hb dX12_types_23 rfl (lvA1 hl) ?_
  refine gM_226 S hK hP (v := .int (nI (((cn 18) + 1) + 1))) rfl dX12_types_24 ?_
  refine lv_iconst (v := 1) hx hb dX12_types_27 kic_1 ?_
  refine lv_iadd hx hb dX12_types_28 ?_
  refine lv_topi (fun y_6 ey_6 => ?_)
  obtain rfl : y_6 = (nI ((((cn 18) + 1) + 1) + 1)) := ey_6.trans (nI_add (((cn 18) + 1) + 1) 1)
  refine pM_226 S hK hP hD hS (a := ((((cn 18) + 1) + 1) + 1)) (cn2 := (va_up cn 18 ((((cn 18) + 1) + 1) + 1))) rfl (bx_uu _ _ _ _) dX12_types_29 (fun H locs hP hD hS => ?_)
  refine lv_iinc (v := 0) (lv' := [(2, .int 0), (0, .ref (g 100)), (1, .int v0)]) hx hb dX12_types_32 hl (k := 0) rfl (by decide) (ltb rfl) rfl (fun ls hl => ?_)
  refine lv_goto (tgt := 2) hx hb dX12_types_35 rfl ?_
  refine lv_iload_n hx hb dX12_types_2 rfl (lvA0 hl) ?_
  refine lv_if_lt (tgt := 38) hx hb dX12_types_3 rfl (fun h => absurd h cq_lt_0_0) (fun _ => ?_)
  refine lv_aload_n hx hb dX12_types_6 rfl (lvA1 hl) ?_
  refine gM_52 S hK hP (v := .ref (g 17)) rfl dX12_types_7 ?_
  refine lv_aload_n hx hb dX12_types_10 rfl (lvA1 hl) ?_
  refine gM_226 S hK hP (v := .int (nI ((((cn 18) + 1) + 1) + 1))) rfl dX12_types_11 ?_
  refine lv_iload_n hx hb dX12_types_14 rfl (lvA2 hl) ?_
  refine lv_bipush (v := 8) hx hb dX12_types_15 kbc_8 ?_
  refine lv_iload_n hx hb dX12_types_17 rfl (lvA0 hl) ?_
  refine lv_imul hx hb dX12_types_18 ?_
  refine lv_topi (fun y_7 ey_7 => ?_)
  obtain rfl : y_7 = 0 := ey_7.trans (by decide)
  refine lv_ishr hx hb dX12_types_19 ?_
  refine lv_i2b (v := (v0 >>> (0 &&& 31)).toInt8.toInt32) hx hb dX12_types_20 rfl ?_
  have kb_4 : ((((cn 18) + 1) + 1) + 1) < 200 := by (first | omega | (have zz0 := Hid.u hi_cn; omega))
  refine stM_17 hx hb hK hP hD hS (Fn2 := (va_up Fn 17 (upd (upd (upd (upd (Fn 17) (cn 18) (vp_nar .byte (v0 >>> (24 &&& 31)).toInt8.toInt32)) ((cn 18) + 1) (vp_nar .byte (v0 >>> (16 &&& 31)).toInt8.toInt32)) (((cn 18) + 1) + 1) (vp_nar .byte (v0 >>> (8 &&& 31)).toInt8.toInt32)) ((((cn 18) + 1) + 1) + 1) (vp_nar .byte (v0 >>> (0 &&& 31)).toInt8.toInt32)))) (vp_in_nI kb_4 (ltb rfl)) (nI_clamp (Nat.lt_trans kb_4 (ltb rfl))) (bx_uu _ _ _ _) dX12_types_21 (fun H locs hP hD hS => ?_)
  refine lv_aload_n hx hb dX12_types_22 rfl (lvA1 hl) ?_
  refine lv_aload_n hx hb dX12_types_23 rfl (lvA1 hl) ?_
  refine gM_226 S hK hP (v := .int (nI ((((cn 18) + 1) + 1) + 1))) rfl dX12_types_24 ?_
  refine lv_iconst (v := 1) hx hb dX12_types_27 kic_1 ?_
  refine lv_iadd hx hb dX12_types_28 ?_
  refine lv_topi (fun y_8 ey_8 => ?_)
  obtain rfl : y_8 = (nI (((((cn 18) + 1) + 1) + 1) + 1)) := ey_8.trans (nI_add ((((cn 18) + 1) + 1) + 1) 1)
  refine pM_226 S hK hP hD hS (a := (((((cn 18) + 1) + 1) + 1) + 1)) (cn2 := (va_up cn 18 (((((cn 18) + 1) + 1) + 1) + 1))) rfl (bx_uu _ _ _ _) dX12_types_29 (fun H locs hP hD hS => ?_)
  refine lv_iinc (v := (-1)) (lv' := [(2, .int (-1)), (0, .ref (g 100)), (1, .int v0)]) hx hb dX12_types_32 hl (k := 0) rfl (by decide) (ltb rfl) rfl (fun ls hl => ?_)
  refine lv_goto (tgt := 2) hx hb dX12_types_35 rfl ?_
  refine lv_iload_n hx hb dX12_types_2 rfl (lvA0 hl) ?_
  refine lv_if_lt (tgt := 38) hx hb dX12_types_3 rfl (fun _ => ?_) (fun h => absurd h cq_lt_m1_0)
  exact W.vret hx hb hr (fun t ht hW => ⟨⟨((va_up cn 18 (((((cn 18) + 1) + 1) + 1) + 1)), In, (va_up Fn 17 (upd (upd (upd (upd (Fn 17) (cn 18) (vp_nar .byte (v0 >>> (24 &&& 31)).toInt8.toInt32)) ((cn 18) + 1) (vp_nar .byte (v0 >>> (16 &&& 31)).toInt8.toInt32)) (((cn 18) + 1) + 1) (vp_nar .byte (v0 >>> (8 &&& 31)).toInt8.toInt32)) ((((cn 18) + 1) + 1) + 1) (vp_nar .byte (v0 >>> (0 &&& 31)).toInt8.toInt32)))), rfl, ⟨(Fr.mo (Fr.f 17 (Fr.c 18 Fr.rf)) (sbl rfl) (sbl rfl) (sbl rfl)), (IM.fr (In := In) hI (Fr.f 17 (Fr.c 18 Fr.rf)) (by decide) (by decide)), (by show (va_up cn 18 (((((cn 18) + 1) + 1) + 1) + 1)) 18 = cn 18 + 4; rw [va_up_self])⟩, by rw [ht]; exact hP, hD⟩, hS.F ht⟩) hS.2.2 (oc_177 38 (aq_14 shX12_types_24))
end

section
theorem cq_eq_m1_m1 : ¬¬((-1 : Int32) = (-1)) := by decide

set_option maxRecDepth 100000 in
set_option maxHeartbeats 4000000 in
theorem q_apart (l : Launch) (D : va_G) (cI cB cZ : ClassId) (v0 v1 v2 v3 : Int32)  : Met l yX12_apart (CWS yX12_apart cX12_apart 4 (some .int)) (RM 0 0 0) (PBr [.int v0, .int v1, .int v2, .int v3] D cI cB cZ []) (vp_Si (fun r => r = apM v0 v1 v2 v3)) 0 0 (fun _ => False) := by
  refine en_r rfl pn_RX12 (Nat.le_of_ble_eq_true rfl) (fun p e s m below meth c hx hb hml hown S hr hlocks hnm hP hK hS ls hl => ?_)
  have hl : lv_has ls 4 [(0, .int v0), (1, .int v1), (2, .int v2), (3, .int v3)] := hl
  refine lv_iload_n hx hb (oc_26 0 shX12_apart_0) rfl (lvA0 hl) ?_
  refine lv_iload_n hx hb (oc_28 1 (aq_1 shX12_apart_0)) rfl (lvA2 hl) ?_
  refine lv_icmp_ge (tgt := 11) hx hb (oc_162 2 (aq_2 shX12_apart_0) sgw_0_9) rfl (fun c_1 => ?_) (fun c_1 => ?_)
  ·
    have tc_1 : (v2.toInt : Int) ≤ v0.toInt := Int32.le_iff_toInt_le.mp c_1
    refine lv_iload_n hx hb (oc_26 11 (aq_11 shX12_apart_0)) rfl (lvA0 hl) ?_
    refine lv_iload_n hx hb (oc_28 12 (aq_12 shX12_apart_0)) rfl (lvA2 hl) ?_
    refine lv_isub hx hb (oc_100 13 (aq_13 shX12_apart_0)) ?_
    refine lv_iload_n hx hb (oc_27 14 (aq_14 shX12_apart_0)) rfl (lvA1 hl) ?_
    refine lv_iload_n hx hb (oc_29 15 (aq_15 shX12_apart_0)) rfl (lvA3 hl) ?_
    refine lv_icmp_ge (tgt := 25) hx hb (oc_162 16 (aq_16 shX12_apart_0) sgw_0_9) rfl (fun c_2 => ?_) (fun c_2 => ?_)
    ·
      have tc_2 : (v3.toInt : Int) ≤ v1.toInt := Int32.le_iff_toInt_le.mp c_2
      refine lv_iload_n hx hb (oc_27 25 shX12_apart_25) rfl (lvA1 hl) ?_
      refine lv_iload_n hx hb (oc_29 26 (aq_1 shX12_apart_25)) rfl (lvA3 hl) ?_
      refine lv_isub hx hb (oc_100 27 (aq_2 shX12_apart_25)) ?_
      refine lv_iadd hx hb dX12_apart_28 ?_
      exact W.iret (v := ((v0 - v2) + (v1 - v3))) hx hb hr (fun t ht hW => ⟨((v0 - v2) + (v1 - v3)), rfl, (by unfold apM; (first | rw [ifl_t (Int32.not_le.mp c_1)] | rw [ifl_f c_1]); (first | rw [ifl_t (Int32.not_le.mp c_2)] | rw [ifl_f c_2] | rw [ifl_t (Int32.not_le.mp c_3)] | rw [ifl_f c_3])), ht⟩) (fun _ h => absurd h List.not_mem_nil) dX12_apart_29
    ·
      have tc_2 : (v1.toInt : Int) < v3.toInt := Int32.lt_iff_toInt_lt.mp (Int32.not_le.mp c_2)
      refine lv_iload_n hx hb (oc_29 19 (aq_19 shX12_apart_0)) rfl (lvA3 hl) ?_
      refine lv_iload_n hx hb (oc_27 20 (aq_20 shX12_apart_0)) rfl (lvA1 hl) ?_
      refine lv_isub hx hb (oc_100 21 (aq_21 shX12_apart_0)) ?_
      refine lv_goto (tgt := 28) hx hb (oc_167 22 (aq_22 shX12_apart_0) sgw_0_6) rfl ?_
      refine lv_iadd hx hb dX12_apart_28 ?_
      exact W.iret (v := ((v0 - v2) + (v3 - v1))) hx hb hr (fun t ht hW => ⟨((v0 - v2) + (v3 - v1)), rfl, (by unfold apM; (first | rw [ifl_t (Int32.not_le.mp c_1)] | rw [ifl_f c_1]); (first | rw [ifl_t (Int32.not_le.mp c_2)] | rw [ifl_f c_2] | rw [ifl_t (Int32.not_le.mp c_3)] | rw [ifl_f c_3])), ht⟩) (fun _ h => absurd h List.not_mem_nil) dX12_apart_29
  ·
    have tc_1 : (v0.toInt : Int) < v2.toInt := Int32.lt_iff_toInt_lt.mp (Int32.not_le.mp c_1)
    refine lv_iload_n hx hb (oc_28 5 (aq_5 shX12_apart_0)) rfl (lvA2 hl) ?_
    refine lv_iload_n hx hb (oc_26 6 (aq_6 shX12_apart_0)) rfl (lvA0 hl) ?_
    refine lv_isub hx hb (oc_100 7 (aq_7 shX12_apart_0)) ?_
    refine lv_goto (tgt := 14) hx hb (oc_167 8 (aq_8 shX12_apart_0) sgw_0_6) rfl ?_
    refine lv_iload_n hx hb (oc_27 14 (aq_14 shX12_apart_0)) rfl (lvA1 hl) ?_
    refine lv_iload_n hx hb (oc_29 15 (aq_15 shX12_apart_0)) rfl (lvA3 hl) ?_
    refine lv_icmp_ge (tgt := 25) hx hb (oc_162 16 (aq_16 shX12_apart_0) sgw_0_9) rfl (fun c_3 => ?_) (fun c_3 => ?_)
    ·
      have tc_3 : (v3.toInt : Int) ≤ v1.toInt := Int32.le_iff_toInt_le.mp c_3
      refine lv_iload_n hx hb (oc_27 25 shX12_apart_25) rfl (lvA1 hl) ?_
      refine lv_iload_n hx hb (oc_29 26 (aq_1 shX12_apart_25)) rfl (lvA3 hl) ?_
      refine lv_isub hx hb (oc_100 27 (aq_2 shX12_apart_25)) ?_
      refine lv_iadd hx hb dX12_apart_28 ?_
      exact W.iret (v := ((v2 - v0) + (v1 - v3))) hx hb hr (fun t ht hW => ⟨((v2 - v0) + (v1 - v3)), rfl, (by unfold apM; (first | rw [ifl_t (Int32.not_le.mp c_1)] | rw [ifl_f c_1]); (first | rw [ifl_t (Int32.not_le.mp c_2)] | rw [ifl_f c_2] | rw [ifl_t (Int32.not_le.mp c_3)] | rw [ifl_f c_3])), ht⟩) (fun _ h => absurd h List.not_mem_nil) dX12_apart_29
    ·
      have tc_3 : (v1.toInt : Int) < v3.toInt := Int32.lt_iff_toInt_lt.mp (Int32.not_le.mp c_3)
      refine lv_iload_n hx hb (oc_29 19 (aq_19 shX12_apart_0)) rfl (lvA3 hl) ?_
      refine lv_iload_n hx hb (oc_27 20 (aq_20 shX12_apart_0)) rfl (lvA1 hl) ?_
      refine lv_isub hx hb (oc_100 21 (aq_21 shX12_apart_0)) ?_
      refine lv_goto (tgt := 28) hx hb (oc_167 22 (aq_22 shX12_apart_0) sgw_0_6) rfl ?_
      refine lv_iadd hx hb dX12_apart_28 ?_
      exact W.iret (v := ((v2 - v0) + (v3 - v1))) hx hb hr (fun t ht hW => ⟨((v2 - v0) + (v3 - v1)), rfl, (by unfold apM; (first | rw [ifl_t (Int32.not_le.mp c_1)] | rw [ifl_f c_1]); (first | rw [ifl_t (Int32.not_le.mp c_2)] | rw [ifl_f c_2] | rw [ifl_t (Int32.not_le.mp c_3)] | rw [ifl_f c_3])), ht⟩) (fun _ h => absurd h List.not_mem_nil) dX12_apart_29
set_option maxRecDepth 100000 in
set_option maxHeartbeats 4000000 in
theorem q_toDepot (l : Launch) (D : va_G) (cI cB cZ : ClassId) (g : Nat → Nat) (cn : Nat → Nat) (In : Nat → Int32) (Fn : Nat → Nat → Int32) (k : Nat) (hI : IM cn Fn) (hk : k < 10) : Met l yX12_toDepot (CWS yX12_toDepot cX12_toDepot 2 (some .int)) (RM 0 0 0) (PBr [.ref (g 100), .int (nI k)] D cI cB cZ (wM cI cB cZ g cn In Fn)) (vp_Si (fun r => r = Fn 3 k + Fn 4 k)) 0 0 (fun _ => False) := by
  refine en_r rfl pn_RX12 (Nat.le_of_ble_eq_true rfl) (fun p e s m below meth c hx hb hml hown S hr hlocks hnm hP hK hS ls hl => ?_)
  have hl : lv_has ls 2 [(0, .ref (g 100)), (1, .int (nI k))] := hl
  have hi_cn : Hid (CB cn) := hI.b
  refine lv_aload_n hx hb (oc_42 0 shX12_toDepot_0) rfl (lvA0 hl) ?_
  refine gM_7 S hK hP (v := .ref (g 3)) rfl (oc_180 1 (aq_1 shX12_toDepot_0) uw_0_7) ?_
  refine lv_iload_n hx hb (oc_27 4 (aq_4 shX12_toDepot_0)) rfl (lvA1 hl) ?_
  have kb_1 : k < 10 := by (first | omega | (have zz0 := Hid.u hi_cn; omega))
  refine ldM_3 hx hb hK hP (x := ((Fn 3) k)) (vp_in_nI kb_1 (ltb rfl)) (nI_clamp (Nat.lt_trans kb_1 (ltb rfl))) rfl (oc_46 5 (aq_5 shX12_toDepot_0)) ?_
  refine lv_aload_n hx hb (oc_42 6 (aq_6 shX12_toDepot_0)) rfl (lvA0 hl) ?_
  refine gM_13 S hK hP (v := .ref (g 4)) rfl (oc_180 7 (aq_7 shX12_toDepot_0) uw_0_13) ?_
  refine lv_iload_n hx hb (oc_27 10 (aq_10 shX12_toDepot_0)) rfl (lvA1 hl) ?_
  refine ldM_4 hx hb hK hP (x := ((Fn 4) k)) (vp_in_nI kb_1 (ltb rfl)) (nI_clamp (Nat.lt_trans kb_1 (ltb rfl))) rfl (oc_46 11 (aq_11 shX12_toDepot_0)) ?_
  refine lv_iadd hx hb (oc_96 12 (aq_12 shX12_toDepot_0)) ?_
  exact W.iret (v := (((Fn 3) k) + ((Fn 4) k))) hx hb hr (fun t ht hW => ⟨(((Fn 3) k) + ((Fn 4) k)), rfl, rfl, ht⟩) (fun _ h => absurd h List.not_mem_nil) (oc_172 13 (aq_13 shX12_toDepot_0))
set_option maxRecDepth 100000 in
set_option maxHeartbeats 4000000 in
theorem q_way (l : Launch) (D : va_G) (cI cB cZ : ClassId) (g : Nat → Nat) (cn : Nat → Nat) (In : Nat → Int32) (Fn : Nat → Nat → Int32) (k j : Nat) (hI : IM cn Fn) (hk : k < 10) (hj : j < 10) : Met l yX12_way (CWS yX12_way cX12_way 3 (some .int)) (RM 1 0 0) (PBr [.ref (g 100), .int (nI k), .int (nI j)] D cI cB cZ (wM cI cB cZ g cn In Fn)) (vp_Si (fun r => r = apM (Fn 3 k) (Fn 4 k) (Fn 3 j) (Fn 4 j))) 0 0 (fun _ => False) := by
  refine en_r rfl pn_RX12 (Nat.le_of_ble_eq_true rfl) (fun p e s m below meth c hx hb hml hown S hr hlocks hnm hP hK hS ls hl => ?_)
  have hl : lv_has ls 3 [(0, .ref (g 100)), (1, .int (nI k)), (2, .int (nI j))] := hl
  have hi_cn : Hid (CB cn) := hI.b
  refine lv_aload_n hx hb (oc_42 0 shX12_way_0) rfl (lvA0 hl) ?_
  refine gM_7 S hK hP (v := .ref (g 3)) rfl (oc_180 1 (aq_1 shX12_way_0) uw_0_7) ?_
  refine lv_iload_n hx hb (oc_27 4 (aq_4 shX12_way_0)) rfl (lvA1 hl) ?_
  have kb_1 : k < 10 := by (first | omega | (have zz0 := Hid.u hi_cn; omega))
  refine ldM_3 hx hb hK hP (x := ((Fn 3) k)) (vp_in_nI kb_1 (ltb rfl)) (nI_clamp (Nat.lt_trans kb_1 (ltb rfl))) rfl (oc_46 5 (aq_5 shX12_way_0)) ?_
  refine lv_aload_n hx hb (oc_42 6 (aq_6 shX12_way_0)) rfl (lvA0 hl) ?_
  refine gM_13 S hK hP (v := .ref (g 4)) rfl (oc_180 7 (aq_7 shX12_way_0) uw_0_13) ?_
  refine lv_iload_n hx hb (oc_27 10 (aq_10 shX12_way_0)) rfl (lvA1 hl) ?_
  refine ldM_4 hx hb hK hP (x := ((Fn 4) k)) (vp_in_nI kb_1 (ltb rfl)) (nI_clamp (Nat.lt_trans kb_1 (ltb rfl))) rfl (oc_46 11 (aq_11 shX12_way_0)) ?_
  refine lv_aload_n hx hb (oc_42 12 (aq_12 shX12_way_0)) rfl (lvA0 hl) ?_
  refine gM_7 S hK hP (v := .ref (g 3)) rfl (oc_180 13 (aq_13 shX12_way_0) uw_0_7) ?_
  refine lv_iload_n hx hb (oc_28 16 (aq_16 shX12_way_0)) rfl (lvA2 hl) ?_
  have kb_2 : j < 10 := by (first | omega | (have zz0 := Hid.u hi_cn; omega))
  refine ldM_3 hx hb hK hP (x := ((Fn 3) j)) (vp_in_nI kb_2 (ltb rfl)) (nI_clamp (Nat.lt_trans kb_2 (ltb rfl))) rfl (oc_46 17 (aq_17 shX12_way_0)) ?_
  refine lv_aload_n hx hb (oc_42 18 (aq_18 shX12_way_0)) rfl (lvA0 hl) ?_
  refine gM_13 S hK hP (v := .ref (g 4)) rfl (oc_180 19 (aq_19 shX12_way_0) uw_0_13) ?_
  refine lv_iload_n hx hb (oc_28 22 (aq_22 shX12_way_0)) rfl (lvA2 hl) ?_
  refine ldM_4 hx hb hK hP (x := ((Fn 4) j)) (vp_in_nI kb_2 (ltb rfl)) (nI_clamp (Nat.lt_trans kb_2 (ltb rfl))) rfl (oc_46 23 (aq_23 shX12_way_0)) ?_
  refine vp_callSi (runS_r (As := [.int ((Fn 3) k), .int ((Fn 4) k), .int ((Fn 3) j), .int ((Fn 4) j)]) (rest := []) S (q_apart l D cI cB cZ ((Fn 3) k) ((Fn 4) k) ((Fn 3) j) ((Fn 4) j) ) kS_RX12_360 hK hP [] rfl ⟨Nat.le_of_ble_eq_true rfl, Nat.le_of_ble_eq_true rfl⟩ ⟨Nat.le_of_ble_eq_true rfl, Nat.le_of_ble_eq_true rfl⟩ rfl hl.1 rfl (Nat.le_of_ble_eq_true rfl) (oc_184 24 shX12_way_24 uw_1_104)) (fun r_1 h_2 => ?_)
  subst h_2
  exact W.iret (v := (apM ((Fn 3) k) ((Fn 4) k) ((Fn 3) j) ((Fn 4) j))) hx hb hr (fun t ht hW => ⟨(apM ((Fn 3) k) ((Fn 4) k) ((Fn 3) j) ((Fn 4) j)), rfl, rfl, ht⟩) (fun _ h => absurd h List.not_mem_nil) (oc_172 27 (aq_3 shX12_way_24))
set_option maxRecDepth 100000 in
set_option maxHeartbeats 4000000 in
theorem q_feastedOf (l : Launch) (D : va_G) (cI cB cZ : ClassId) (g : Nat → Nat) (cn : Nat → Nat) (In : Nat → Int32) (Fn : Nat → Nat → Int32) (k : Nat) (hI : IM cn Fn) (hk : k < cn 2) : Met l yX12_feastedOf (CWS yX12_feastedOf cX12_feastedOf 5 (some .int)) (RM 0 0 0) (PBr [.ref (g 100), .int (nI k)] D cI cB cZ (wM cI cB cZ g cn In Fn)) (vp_Si (fun _ => True)) 0 0 (fun _ => False) := by
  refine en_r rfl pn_RX12 (Nat.le_of_ble_eq_true rfl) (fun p e s m below meth c hx hb hml hown S hr hlocks hnm hP hK hS ls hl => ?_)
  have hl : lv_has ls 5 [(0, .ref (g 100)), (1, .int (nI k))] := hl
  have hi_cn : Hid (CB cn) := hI.b
  refine lv_aload_n hx hb (oc_42 0 shX12_feastedOf_0) rfl (lvA0 hl) ?_
  refine gM_25 S hK hP (v := .ref (g 8)) rfl (oc_180 1 (aq_1 shX12_feastedOf_0) uw_0_25) ?_
  refine lv_iload_n hx hb (oc_27 4 (aq_4 shX12_feastedOf_0)) rfl (lvA1 hl) ?_
  have kb_1 : k < 60 := by (first | omega | (have zz0 := Hid.u hi_cn; omega))
  obtain ⟨a_1, ha_1, ea_1⟩ := hI.e8 k (by (first | omega | (have zz0 := Hid.u hi_cn; omega)))
  refine ldM_8 hx hb hK hP (x := (nI a_1)) (vp_in_nI kb_1 (ltb rfl)) (nI_clamp (Nat.lt_trans kb_1 (ltb rfl))) ea_1 (oc_46 5 (aq_5 shX12_feastedOf_0)) ?_
  refine lv_istore_n (lv' := [(2, .int (nI a_1)), (0, .ref (g 100)), (1, .int (nI k))]) hx hb (oc_61 6 (aq_6 shX12_feastedOf_0)) rfl hl (ltb rfl) rfl (fun ls hl => ?_)
  refine lv_iconst (v := 0) hx hb (oc_3 7 (aq_7 shX12_feastedOf_0)) kic_0 ?_
  refine lv_istore_n (lv' := [(3, .int 0), (2, .int (nI a_1)), (0, .ref (g 100)), (1, .int (nI k))]) hx hb (oc_62 8 (aq_8 shX12_feastedOf_0)) rfl hl (ltb rfl) rfl (fun ls hl => ?_)
  refine lv_aload_n hx hb (oc_42 9 (aq_9 shX12_feastedOf_0)) rfl (lvA2 hl) ?_
  refine gM_49 S hK hP (v := .ref (g 16)) rfl (oc_180 10 (aq_10 shX12_feastedOf_0) uw_0_49) ?_
  refine lv_iload_n hx hb (oc_27 13 (aq_13 shX12_feastedOf_0)) rfl (lvA3 hl) ?_
  obtain ⟨a_2, ha_2, ea_2⟩ := hI.e16 k (by (first | omega | (have zz0 := Hid.u hi_cn; omega)))
  refine ldM_16 hx hb hK hP (x := (nI a_2)) (vp_in_nI kb_1 (ltb rfl)) (nI_clamp (Nat.lt_trans kb_1 (ltb rfl))) ea_2 (oc_46 14 (aq_14 shX12_feastedOf_0)) ?_
  refine lv_iconst (v := 1) hx hb (oc_4 15 (aq_15 shX12_feastedOf_0)) kic_1 ?_
  refine lv_iadd hx hb (oc_96 16 (aq_16 shX12_feastedOf_0)) ?_
  refine lv_topi (fun y_3 ey_3 => ?_)
  obtain rfl : y_3 = (nI (a_2 + 1)) := ey_3.trans (nI_add a_2 1)
  refine lv_istore (lv' := [(4, .int (nI (a_2 + 1))), (3, .int 0), (2, .int (nI a_1)), (0, .ref (g 100)), (1, .int (nI k))]) hx hb (oc_54 17 (aq_17 shX12_feastedOf_0) ub_4) hl (ltb rfl) rfl (fun ls hl => ?_)
  have lp_19 : ∀ (n : Nat) (i19 : Nat) (x19_3 : Int32) , 400 - i19 < n → (i19 ≤ 400) → ∀ ls : Array Slot, lv_has ls 5 [(4, .int (nI i19)), (3, .int x19_3), (2, .int (nI a_1)), (0, .ref (g 100)), (1, .int (nI k))] → W p l e (RM 0 0 0) s m ([.ref (g 100), .int (nI k)]).toArray below meth c s.heap [] 0 0 (MQ below (vp_Si (fun _ => True)) ([.ref (g 100), .int (nI k)]).toArray s 0 0 (fun _ => False)) (F0 m 19 ls []) := by
    intro n19
    induction n19 with
    | zero => intros; (first | omega | (have zz0 := Hid.u hi_cn; omega))
    | succ n19 ih19 =>
      intro i19 x19_3 hmu19 hinv19 ls hl
      have hr19 := hinv19
      have ti19 : (nI i19).toInt = (i19 : Int) := nI_toInt (by (first | omega | (have zz0 := Hid.u hi_cn; omega)))
      refine lv_iload hx hb (oc_21 19 (aq_19 shX12_feastedOf_0) ub_4) (lvA0 hl) ?_
      refine lv_aload_n hx hb (oc_42 21 (aq_21 shX12_feastedOf_0)) rfl (lvA3 hl) ?_
      refine gM_28 S hK hP (v := .ref (g 9)) rfl (oc_180 22 (aq_22 shX12_feastedOf_0) uw_0_28) ?_
      refine lv_iload_n hx hb (oc_27 25 shX12_feastedOf_25) rfl (lvA4 hl) ?_
      obtain ⟨a_4, ha_4, ea_4⟩ := hI.e9 k (by (first | omega | (have zz0 := Hid.u hi_cn; omega)))
      refine ldM_9 hx hb hK hP (x := (nI a_4)) (vp_in_nI kb_1 (ltb rfl)) (nI_clamp (Nat.lt_trans kb_1 (ltb rfl))) ea_4 (oc_46 26 (aq_1 shX12_feastedOf_25)) ?_
      have : (nI a_4).toInt = ((a_4 : Nat) : Int) := nI_toInt (by (first | omega | (have zz0 := Hid.u hi_cn; omega)))
      refine lv_icmp_gt (tgt := 59) hx hb (oc_163 27 (aq_2 shX12_feastedOf_25) sgw_0_32) rfl (fun c_5 => ?_) (fun c_5 => ?_)
      ·
        have tc_5 : ((nI a_4).toInt : Int) < (nI i19).toInt := Int32.lt_iff_toInt_lt.mp c_5
        refine lv_iload_n hx hb (oc_29 59 (aq_9 shX12_feastedOf_50)) rfl (lvA1 hl) ?_
        refine lv_aload_n hx hb (oc_42 60 (aq_10 shX12_feastedOf_50)) rfl (lvA3 hl) ?_
        refine gM_19 S hK hP (v := .ref (g 6)) rfl (oc_180 61 (aq_11 shX12_feastedOf_50) uw_0_19) ?_
        refine lv_iload_n hx hb (oc_28 64 (aq_14 shX12_feastedOf_50)) rfl (lvA2 hl) ?_
        have kb_2 : a_1 < 10 := by (first | omega | (have zz0 := Hid.u hi_cn; omega))
        refine ldM_6 hx hb hK hP (x := ((Fn 6) a_1)) (vp_in_nI kb_2 (ltb rfl)) (nI_clamp (Nat.lt_trans kb_2 (ltb rfl))) rfl (oc_46 65 (aq_15 shX12_feastedOf_50)) ?_
        refine lv_icmp_ge (tgt := 73) hx hb (oc_162 66 (aq_16 shX12_feastedOf_50) sgw_0_7) rfl (fun c_6 => ?_) (fun c_6 => ?_)
        ·
          have tc_6 : (((Fn 6) a_1).toInt : Int) ≤ x19_3.toInt := Int32.le_iff_toInt_le.mp c_6
          refine lv_aload_n hx hb (oc_42 73 (aq_23 shX12_feastedOf_50)) rfl (lvA3 hl) ?_
          refine gM_19 S hK hP (v := .ref (g 6)) rfl (oc_180 74 shX12_feastedOf_74 uw_0_19) ?_
          refine lv_iload_n hx hb (oc_28 77 (aq_3 shX12_feastedOf_74)) rfl (lvA2 hl) ?_
          refine ldM_6 hx hb hK hP (x := ((Fn 6) a_1)) (vp_in_nI kb_2 (ltb rfl)) (nI_clamp (Nat.lt_trans kb_2 (ltb rfl))) rfl (oc_46 78 (aq_4 shX12_feastedOf_74)) ?_
          exact W.iret (v := ((Fn 6) a_1)) hx hb hr (fun t ht hW => ⟨((Fn 6) a_1), rfl, trivial, ht⟩) (fun _ h => absurd h List.not_mem_nil) (oc_172 79 (aq_5 shX12_feastedOf_74))
        ·
          have tc_6 : (x19_3.toInt : Int) < ((Fn 6) a_1).toInt := Int32.lt_iff_toInt_lt.mp (Int32.not_le.mp c_6)
          refine lv_iload_n hx hb (oc_29 69 (aq_19 shX12_feastedOf_50)) rfl (lvA1 hl) ?_
          refine lv_goto (tgt := 79) hx hb (oc_167 70 (aq_20 shX12_feastedOf_50) sgw_0_9) rfl ?_
          exact W.iret (v := x19_3) hx hb hr (fun t ht hW => ⟨x19_3, rfl, trivial, ht⟩) (fun _ h => absurd h List.not_mem_nil) (oc_172 79 (aq_5 shX12_feastedOf_74))
      ·
        have tc_5 : ((nI i19).toInt : Int) ≤ (nI a_4).toInt := Int32.le_iff_toInt_le.mp (Int32.not_lt.mp c_5)
        refine lv_iload_n hx hb (oc_29 30 (aq_5 shX12_feastedOf_25)) rfl (lvA1 hl) ?_
        refine lv_aload_n hx hb (oc_42 31 (aq_6 shX12_feastedOf_25)) rfl (lvA3 hl) ?_
        refine gM_16 S hK hP (v := .ref (g 5)) rfl (oc_180 32 (aq_7 shX12_feastedOf_25) uw_0_16) ?_
        refine lv_iload_n hx hb (oc_28 35 (aq_10 shX12_feastedOf_25)) rfl (lvA2 hl) ?_
        have kb_3 : a_1 < 10 := by (first | omega | (have zz0 := Hid.u hi_cn; omega))
        refine ldM_5 hx hb hK hP (x := ((Fn 5) a_1)) (vp_in_nI kb_3 (ltb rfl)) (nI_clamp (Nat.lt_trans kb_3 (ltb rfl))) rfl (oc_46 36 (aq_11 shX12_feastedOf_25)) ?_
        refine lv_bipush (v := 100) hx hb (oc_16 37 (aq_12 shX12_feastedOf_25) sgb_100) kbc_100 ?_
        refine lv_aload_n hx hb (oc_42 39 (aq_14 shX12_feastedOf_25)) rfl (lvA3 hl) ?_
        refine gM_98 S hK hP (v := .ref (g 41)) rfl (oc_180 40 (aq_15 shX12_feastedOf_25) uw_0_98) ?_
        refine lv_iload hx hb (oc_21 43 (aq_18 shX12_feastedOf_25) ub_4) (lvA0 hl) ?_
        have kb_4 : i19 < 400 := by (first | omega | (have zz0 := Hid.u hi_cn; omega))
        refine ldM_41 hx hb hK hP (x := ((Fn 41) i19)) (vp_in_nI kb_4 (ltb rfl)) (nI_clamp (Nat.lt_trans kb_4 (ltb rfl))) rfl (oc_46 45 (aq_20 shX12_feastedOf_25)) ?_
        refine lv_iadd hx hb (oc_96 46 (aq_21 shX12_feastedOf_25)) ?_
        refine lv_imul hx hb (oc_104 47 (aq_22 shX12_feastedOf_25)) ?_
        refine lv_bipush (v := 100) hx hb (oc_16 48 (aq_23 shX12_feastedOf_25) sgb_100) kbc_100 ?_
        refine lv_idiv hx hb (oc_108 50 shX12_feastedOf_50) (by decide) ?_
        refine lv_iadd hx hb (oc_96 51 (aq_1 shX12_feastedOf_50)) ?_
        refine lv_istore_n (lv' := [(3, .int (x19_3 + ((((Fn 5) a_1) * (100 + ((Fn 41) i19))) / 100))), (4, .int (nI i19)), (2, .int (nI a_1)), (0, .ref (g 100)), (1, .int (nI k))]) hx hb (oc_62 52 (aq_2 shX12_feastedOf_50)) rfl hl (ltb rfl) rfl (fun ls hl => ?_)
        refine lv_iinc (v := (nI (i19 + 1))) (lv' := [(4, .int (nI (i19 + 1))), (3, .int (x19_3 + ((((Fn 5) a_1) * (100 + ((Fn 41) i19))) / 100))), (2, .int (nI a_1)), (0, .ref (g 100)), (1, .int (nI k))]) hx hb (oc_132 53 (aq_3 shX12_feastedOf_50) ub_4 sgb_1) hl (k := 1) rfl (nI_1 _) (ltb rfl) rfl (fun ls hl => ?_)
        refine lv_goto (tgt := 19) hx hb (oc_167 56 (aq_6 shX12_feastedOf_50) sgw_255_219) rfl ?_
        exact ih19 (i19 + 1) (x19_3 + ((((Fn 5) a_1) * (100 + ((Fn 41) i19))) / 100)) (by (first | omega | (have zz0 := Hid.u hi_cn; omega))) (by (first | omega | (have zz0 := Hid.u hi_cn; omega))) ls (lv_sub hl [0, 1, 2, 3, 4] rfl)
  exact lp_19 _ (a_2 + 1) 0 (Nat.lt_succ_self _) (by (first | omega | (have zz0 := Hid.u hi_cn; omega))) ls (lv_sub hl [0, 1, 2, 3, 4] rfl)
set_option maxRecDepth 100000 in
set_option maxHeartbeats 4000000 in
theorem q_feasted (l : Launch) (D : va_G) (cI cB cZ : ClassId) (g : Nat → Nat) (cn : Nat → Nat) (In : Nat → Int32) (Fn : Nat → Nat → Int32) (v0 v1 : Int32) (hI : IM cn Fn) : Met l yX12_feasted (CWS yX12_feasted cX12_feasted 5 (some .int)) (RM 1 0 0) (PBr [.ref (g 100), .int v0, .int v1] D cI cB cZ (wM cI cB cZ g cn In Fn)) (vp_Si (fun _ => True)) 0 0 (fun _ => False) := by
  refine en_r rfl pn_RX12 (Nat.le_of_ble_eq_true rfl) (fun p e s m below meth c hx hb hml hown S hr hlocks hnm hP hK hS ls hl => ?_)
  have hl : lv_has ls 5 [(0, .ref (g 100)), (1, .int v0), (2, .int v1)] := hl
  have hi_cn : Hid (CB cn) := hI.b
  refine lv_aload_n hx hb (oc_42 0 shX12_feasted_0) rfl (lvA0 hl) ?_
  refine lv_iload_n hx hb (oc_27 1 (aq_1 shX12_feasted_0)) rfl (lvA1 hl) ?_
  refine vp_callSi (runV_ra (As := [.int v0]) (rest := []) S (q_isLoad l D cI cB cZ g cn In Fn v0 hI) kV_RX12_335 hK hP 0 rfl rfl rfl ⟨Nat.le_of_ble_eq_true rfl, Nat.le_of_ble_eq_true rfl⟩ ⟨Nat.le_of_ble_eq_true rfl, Nat.le_of_ble_eq_true rfl⟩ rfl hl.1 rfl (Nat.le_of_ble_eq_true rfl) (oc_182 2 (aq_2 shX12_feasted_0) uw_1_79)) (fun r_1 h_2 => ?_)
  rcases h_2 with ⟨rfl, h_2⟩ | ⟨rfl, h_2⟩
  ·
    have h_2 : 0 ≤ v0.toInt ∧ v0.toInt < ((cn 2) : Int) := h_2
    refine lv_if_eq (tgt := 17) hx hb (oc_153 5 (aq_5 shX12_feasted_0) sgw_0_12) rfl (fun h => absurd h cq_eq_1_0) (fun _ => ?_)
    obtain ⟨d0, hd0, rfl⟩ := nI_of (x := v0) (fun q => by have := Int32.lt_iff_toInt_lt.mp q; have e : (0 : Int32).toInt = 0 := rfl; (first | omega | (have zz0 := Hid.u hi_cn; omega)))
    have td0 : (nI d0).toInt = (d0 : Int) := nI_toInt hd0
    have zd0 : (nI d0).toInt.toNat = d0 := by (first | omega | (have zz0 := Hid.u hi_cn; omega))
    refine lv_iload_n hx hb (oc_28 8 (aq_8 shX12_feasted_0)) rfl (lvA2 hl) ?_
    refine lv_iconst (v := 0) hx hb (oc_3 9 (aq_9 shX12_feasted_0)) kic_0 ?_
    refine lv_iconst (v := 1) hx hb (oc_4 10 (aq_10 shX12_feasted_0)) kic_1 ?_
    refine vp_callSi (runS_r (As := [.int v1, .int 0, .int 1]) (rest := []) S (q_in l D cI cB cZ v1 0 1 ) kS_RX12_214 hK hP [] rfl ⟨Nat.le_of_ble_eq_true rfl, Nat.le_of_ble_eq_true rfl⟩ ⟨Nat.le_of_ble_eq_true rfl, Nat.le_of_ble_eq_true rfl⟩ rfl hl.1 rfl (Nat.le_of_ble_eq_true rfl) (oc_184 11 (aq_11 shX12_feasted_0) uw_0_214)) (fun r_3 h_4 => ?_)
    rcases h_4 with ⟨rfl, h_4⟩ | ⟨rfl, h_4⟩
    ·
      have h_4 : 0 ≤ v1.toInt ∧ v1.toInt ≤ 1 := h_4
      refine lv_if_ne (tgt := 19) hx hb (oc_154 14 (aq_14 shX12_feasted_0) sgw_0_5) rfl (fun _ => ?_) (fun h => absurd h cq_eq_1_0)
      refine lv_aload_n hx hb (oc_42 19 (aq_19 shX12_feasted_0)) rfl (lvA0 hl) ?_
      refine lv_iload_n hx hb (oc_27 20 (aq_20 shX12_feasted_0)) rfl (lvA1 hl) ?_
      refine vp_callSi (runV_ra (As := [.int (nI d0)]) (rest := []) S (q_feastedOf l D cI cB cZ g cn In Fn d0 hI (by (first | omega | (have zz0 := Hid.u hi_cn; omega)))) kV_RX12_357 hK hP 0 rfl rfl rfl ⟨Nat.le_of_ble_eq_true rfl, Nat.le_of_ble_eq_true rfl⟩ ⟨Nat.le_of_ble_eq_true rfl, Nat.le_of_ble_eq_true rfl⟩ rfl hl.1 rfl (Nat.le_of_ble_eq_true rfl) (oc_182 21 (aq_21 shX12_feasted_0) uw_1_101)) (fun r_5 h_6 => ?_)
      refine lv_istore_n (lv' := [(3, .int r_5), (0, .ref (g 100)), (1, .int (nI d0)), (2, .int v1)]) hx hb (oc_62 24 shX12_feasted_24) rfl hl (ltb rfl) rfl (fun ls hl => ?_)
      refine lv_iload_n hx hb (oc_29 25 (aq_1 shX12_feasted_24)) rfl (lvA0 hl) ?_
      refine lv_aload_n hx hb (oc_42 26 (aq_2 shX12_feasted_24)) rfl (lvA1 hl) ?_
      refine gM_31 S hK hP (v := .ref (g 10)) rfl (oc_180 27 (aq_3 shX12_feasted_24) uw_0_31) ?_
      refine lv_iload_n hx hb (oc_27 30 (aq_6 shX12_feasted_24)) rfl (lvA2 hl) ?_
      have kb_1 : d0 < 60 := by (first | omega | (have zz0 := Hid.u hi_cn; omega))
      obtain ⟨a_7, ha_7, ea_7⟩ := hI.e10 d0 (by (first | omega | (have zz0 := Hid.u hi_cn; omega)))
      refine ldM_10 hx hb hK hP (x := (nI a_7)) (vp_in_nI kb_1 (ltb rfl)) (nI_clamp (Nat.lt_trans kb_1 (ltb rfl))) ea_7 (oc_46 31 (aq_7 shX12_feasted_24)) ?_
      refine lv_isub hx hb (oc_100 32 (aq_8 shX12_feasted_24)) ?_
      refine lv_iload_n hx hb (oc_29 33 (aq_9 shX12_feasted_24)) rfl (lvA0 hl) ?_
      refine lv_bipush (v := 10) hx hb (oc_16 34 (aq_10 shX12_feasted_24) sgb_10) kbc_10 ?_
      refine lv_idiv hx hb (oc_108 36 (aq_12 shX12_feasted_24)) (by decide) ?_
      refine lv_isub hx hb (oc_100 37 (aq_13 shX12_feasted_24)) ?_
      refine lv_istore (lv' := [(4, .int ((r_5 - (nI a_7)) - (r_5 / 10))), (3, .int r_5), (0, .ref (g 100)), (1, .int (nI d0)), (2, .int v1)]) hx hb (oc_54 38 (aq_14 shX12_feasted_24) ub_4) hl (ltb rfl) rfl (fun ls hl => ?_)
      refine lv_iload_n hx hb (oc_28 40 (aq_16 shX12_feasted_24)) rfl (lvA4 hl) ?_
      refine lv_if_ne (tgt := 48) hx hb (oc_154 41 (aq_17 shX12_feasted_24) sgw_0_7) rfl (fun c_8 => ?_) (fun c_8 => ?_)
      ·
        have tc_8 : (v1.toInt : Int) ≠ 0 := fun q => c_8 (Int32.toInt_inj.mp q)
        refine lv_iload hx hb (oc_21 48 shX12_feasted_48 ub_4) (lvA0 hl) ?_
        refine lv_if_le (tgt := 58) hx hb (oc_158 50 (aq_2 shX12_feasted_48) sgw_0_8) rfl (fun c_9 => ?_) (fun c_9 => ?_)
        ·
          have tc_9 : (((r_5 - (nI a_7)) - (r_5 / 10)).toInt : Int) ≤ 0 := Int32.le_iff_toInt_le.mp c_9
          refine lv_iconst (v := 0) hx hb (oc_3 58 (aq_10 shX12_feasted_48)) kic_0 ?_
          exact W.iret (v := 0) hx hb hr (fun t ht hW => ⟨0, rfl, trivial, ht⟩) (fun _ h => absurd h List.not_mem_nil) (oc_172 59 (aq_11 shX12_feasted_48))
        ·
          have tc_9 : (0 : Int) < ((r_5 - (nI a_7)) - (r_5 / 10)).toInt := Int32.lt_iff_toInt_lt.mp (Int32.not_le.mp c_9)
          refine lv_iload hx hb (oc_21 53 (aq_5 shX12_feasted_48) ub_4) (lvA0 hl) ?_
          refine lv_goto (tgt := 59) hx hb (oc_167 55 (aq_7 shX12_feasted_48) sgw_0_4) rfl ?_
          exact W.iret (v := ((r_5 - (nI a_7)) - (r_5 / 10))) hx hb hr (fun t ht hW => ⟨((r_5 - (nI a_7)) - (r_5 / 10)), rfl, trivial, ht⟩) (fun _ h => absurd h List.not_mem_nil) (oc_172 59 (aq_11 shX12_feasted_48))
      ·
        have tc_8 : (v1.toInt : Int) = 0 := congrArg Int32.toInt c_8
        refine lv_iload_n hx hb (oc_29 44 (aq_20 shX12_feasted_24)) rfl (lvA1 hl) ?_
        refine lv_goto (tgt := 59) hx hb (oc_167 45 (aq_21 shX12_feasted_24) sgw_0_14) rfl ?_
        exact W.iret (v := r_5) hx hb hr (fun t ht hW => ⟨r_5, rfl, trivial, ht⟩) (fun _ h => absurd h List.not_mem_nil) (oc_172 59 (aq_11 shX12_feasted_48))
    ·
      have h_4 : ¬ (0 ≤ v1.toInt ∧ v1.toInt ≤ 1) := h_4
      refine lv_if_ne (tgt := 19) hx hb (oc_154 14 (aq_14 shX12_feasted_0) sgw_0_5) rfl (fun h => absurd h cq_eq_0_0) (fun _ => ?_)
      refine lv_iconst (v := (-1)) hx hb (oc_2 17 (aq_17 shX12_feasted_0)) kic_m1 ?_
      exact W.iret (v := (-1)) hx hb hr (fun t ht hW => ⟨(-1), rfl, trivial, ht⟩) (fun _ h => absurd h List.not_mem_nil) (oc_172 18 (aq_18 shX12_feasted_0))
  ·
    have h_2 : ¬ (0 ≤ v0.toInt ∧ v0.toInt < ((cn 2) : Int)) := h_2
    refine lv_if_eq (tgt := 17) hx hb (oc_153 5 (aq_5 shX12_feasted_0) sgw_0_12) rfl (fun _ => ?_) (fun h => absurd h cq_eq_0_0)
    refine lv_iconst (v := (-1)) hx hb (oc_2 17 (aq_17 shX12_feasted_0)) kic_m1 ?_
    exact W.iret (v := (-1)) hx hb hr (fun t ht hW => ⟨(-1), rfl, trivial, ht⟩) (fun _ h => absurd h List.not_mem_nil) (oc_172 18 (aq_18 shX12_feasted_0))
set_option maxRecDepth 100000 in
set_option maxHeartbeats 4000000 in
theorem q_latest (l : Launch) (D : va_G) (cI cB cZ : ClassId) (g : Nat → Nat) (cn : Nat → Nat) (In : Nat → Int32) (Fn : Nat → Nat → Int32) (v0 v1 : Int32) (hI : IM cn Fn) : Met l yX12_latest (CWS yX12_latest cX12_latest 5 (some .int)) (RM 0 0 0) (PBr [.ref (g 100), .int v0, .int v1] D cI cB cZ (wM cI cB cZ g cn In Fn)) (vp_Si (fun r => r = -1 ∨ ∃ m : Nat, m < cn 58 ∧ r = nI m)) 0 0 (fun _ => False) := by
  refine en_r rfl pn_RX12 (Nat.le_of_ble_eq_true rfl) (fun p e s m below meth c hx hb hml hown S hr hlocks hnm hP hK hS ls hl => ?_)
  have hl : lv_has ls 5 [(0, .ref (g 100)), (1, .int v0), (2, .int v1)] := hl
  have hi_cn : Hid (CB cn) := hI.b
  refine lv_iconst (v := (-1)) hx hb (oc_2 0 shX12_latest_0) kic_m1 ?_
  refine lv_istore_n (lv' := [(3, .int (-1)), (0, .ref (g 100)), (1, .int v0), (2, .int v1)]) hx hb (oc_62 1 (aq_1 shX12_latest_0)) rfl hl (ltb rfl) rfl (fun ls hl => ?_)
  refine lv_iconst (v := 0) hx hb (oc_3 2 (aq_2 shX12_latest_0)) kic_0 ?_
  refine lv_istore (lv' := [(4, .int 0), (3, .int (-1)), (0, .ref (g 100)), (1, .int v0), (2, .int v1)]) hx hb (oc_54 3 (aq_3 shX12_latest_0) ub_4) hl (ltb rfl) rfl (fun ls hl => ?_)
  have lp_5 : ∀ (n : Nat) (i5 : Nat) (x5_3 : Int32) , cn 58 - i5 < n → (i5 ≤ cn 58 ∧ (x5_3 = -1 ∨ ∃ m : Nat, m < i5 ∧ x5_3 = nI m)) → ∀ ls : Array Slot, lv_has ls 5 [(4, .int (nI i5)), (3, .int x5_3), (0, .ref (g 100)), (1, .int v0), (2, .int v1)] → W p l e (RM 0 0 0) s m ([.ref (g 100), .int v0, .int v1]).toArray below meth c s.heap [] 0 0 (MQ below (vp_Si (fun r => r = -1 ∨ ∃ m : Nat, m < cn 58 ∧ r = nI m)) ([.ref (g 100), .int v0, .int v1]).toArray s 0 0 (fun _ => False)) (F0 m 5 ls []) := by
    intro n5
    induction n5 with
    | zero => intros; (first | omega | (have zz0 := Hid.u hi_cn; omega))
    | succ n5 ih5 =>
      intro i5 x5_3 hmu5 hinv5 ls hl
      obtain ⟨hr5, hx5_0⟩ := hinv5
      have ti5 : (nI i5).toInt = (i5 : Int) := nI_toInt (by (first | omega | (have zz0 := Hid.u hi_cn; omega)))
      refine lv_iload hx hb (oc_21 5 (aq_5 shX12_latest_0) ub_4) (lvA0 hl) ?_
      refine lv_aload_n hx hb (oc_42 7 (aq_7 shX12_latest_0)) rfl (lvA2 hl) ?_
      refine gM_410 S hK hP (v := .int (nI (cn 58))) rfl (oc_180 8 (aq_8 shX12_latest_0) uw_1_154) ?_
      have : (nI (cn 58)).toInt = (((cn 58) : Nat) : Int) := nI_toInt (by (first | omega | (have zz0 := Hid.u hi_cn; omega)))
      refine lv_icmp_ge (tgt := 45) hx hb (oc_162 11 (aq_11 shX12_latest_0) sgw_0_34) rfl (fun c_1 => ?_) (fun c_1 => ?_)
      ·
        have tc_1 : ((nI (cn 58)).toInt : Int) ≤ (nI i5).toInt := Int32.le_iff_toInt_le.mp c_1
        refine lv_iload_n hx hb (oc_29 45 (aq_20 shX12_latest_25)) rfl (lvA1 hl) ?_
        exact W.iret (v := x5_3) hx hb hr (fun t ht hW => ⟨x5_3, rfl, (hx5_0.elim Or.inl (fun ⟨m, h1, h2⟩ => Or.inr ⟨m, by (first | omega | (have zz0 := Hid.u hi_cn; omega)), h2⟩)), ht⟩) (fun _ h => absurd h List.not_mem_nil) (oc_172 46 (aq_21 shX12_latest_25))
      ·
        have tc_1 : ((nI i5).toInt : Int) < (nI (cn 58)).toInt := Int32.lt_iff_toInt_lt.mp (Int32.not_le.mp c_1)
        refine lv_aload_n hx hb (oc_42 14 (aq_14 shX12_latest_0)) rfl (lvA2 hl) ?_
        refine gM_129 S hK hP (v := .ref (g 59)) rfl (oc_180 15 (aq_15 shX12_latest_0) uw_0_129) ?_
        refine lv_iload hx hb (oc_21 18 (aq_18 shX12_latest_0) ub_4) (lvA0 hl) ?_
        have kb_1 : i5 < 60 := by (first | omega | (have zz0 := Hid.u hi_cn; omega))
        refine ldM_59 hx hb hK hP (x := ((Fn 59) i5)) (vp_in_nI kb_1 (ltb rfl)) (nI_clamp (Nat.lt_trans kb_1 (ltb rfl))) rfl (oc_46 20 (aq_20 shX12_latest_0)) ?_
        refine lv_iload_n hx hb (oc_27 21 (aq_21 shX12_latest_0)) rfl (lvA3 hl) ?_
        refine lv_icmp_ne (tgt := 39) hx hb (oc_160 22 (aq_22 shX12_latest_0) sgw_0_17) rfl (fun c_2 => ?_) (fun c_2 => ?_)
        ·
          have tc_2 : (((Fn 59) i5).toInt : Int) ≠ v0.toInt := fun q => c_2 (Int32.toInt_inj.mp q)
          refine lv_iinc (v := (nI (i5 + 1))) (lv' := [(4, .int (nI (i5 + 1))), (3, .int x5_3), (0, .ref (g 100)), (1, .int v0), (2, .int v1)]) hx hb (oc_132 39 (aq_14 shX12_latest_25) ub_4 sgb_1) hl (k := 0) rfl (nI_1 _) (ltb rfl) rfl (fun ls hl => ?_)
          refine lv_goto (tgt := 5) hx hb (oc_167 42 (aq_17 shX12_latest_25) sgw_255_219) rfl ?_
          exact ih5 (i5 + 1) x5_3 (by (first | omega | (have zz0 := Hid.u hi_cn; omega))) ⟨(by (first | omega | (have zz0 := Hid.u hi_cn; omega))), (by first | exact Or.inl rfl | exact Or.inr ⟨_, by (first | omega | (have zz0 := Hid.u hi_cn; omega)), rfl⟩ | exact hx5_0.elim Or.inl (fun ⟨m, h1, h2⟩ => Or.inr ⟨m, by (first | omega | (have zz0 := Hid.u hi_cn; omega)), h2⟩))⟩ ls (lv_sub hl [0, 1, 2, 3, 4] rfl)
        ·
          have tc_2 : (((Fn 59) i5).toInt : Int) = v0.toInt := congrArg Int32.toInt c_2
          refine lv_aload_n hx hb (oc_42 25 shX12_latest_25) rfl (lvA2 hl) ?_
          refine gM_135 S hK hP (v := .ref (g 61)) rfl (oc_180 26 (aq_1 shX12_latest_25) uw_0_135) ?_
          refine lv_iload hx hb (oc_21 29 (aq_4 shX12_latest_25) ub_4) (lvA0 hl) ?_
          refine ldM_61 hx hb hK hP (x := ((Fn 61) i5)) (vp_in_nI kb_1 (ltb rfl)) (nI_clamp (Nat.lt_trans kb_1 (ltb rfl))) rfl (oc_46 31 (aq_6 shX12_latest_25)) ?_
          refine lv_iload_n hx hb (oc_28 32 (aq_7 shX12_latest_25)) rfl (lvA4 hl) ?_
          refine lv_icmp_gt (tgt := 39) hx hb (oc_163 33 (aq_8 shX12_latest_25) sgw_0_6) rfl (fun c_3 => ?_) (fun c_3 => ?_)
          ·
            have tc_3 : (v1.toInt : Int) < ((Fn 61) i5).toInt := Int32.lt_iff_toInt_lt.mp c_3
            refine lv_iinc (v := (nI (i5 + 1))) (lv' := [(4, .int (nI (i5 + 1))), (3, .int x5_3), (0, .ref (g 100)), (1, .int v0), (2, .int v1)]) hx hb (oc_132 39 (aq_14 shX12_latest_25) ub_4 sgb_1) hl (k := 0) rfl (nI_1 _) (ltb rfl) rfl (fun ls hl => ?_)
            refine lv_goto (tgt := 5) hx hb (oc_167 42 (aq_17 shX12_latest_25) sgw_255_219) rfl ?_
            exact ih5 (i5 + 1) x5_3 (by (first | omega | (have zz0 := Hid.u hi_cn; omega))) ⟨(by (first | omega | (have zz0 := Hid.u hi_cn; omega))), (by first | exact Or.inl rfl | exact Or.inr ⟨_, by (first | omega | (have zz0 := Hid.u hi_cn; omega)), rfl⟩ | exact hx5_0.elim Or.inl (fun ⟨m, h1, h2⟩ => Or.inr ⟨m, by (first | omega | (have zz0 := Hid.u hi_cn; omega)), h2⟩))⟩ ls (lv_sub hl [0, 1, 2, 3, 4] rfl)
          ·
            have tc_3 : (((Fn 61) i5).toInt : Int) ≤ v1.toInt := Int32.le_iff_toInt_le.mp (Int32.not_lt.mp c_3)
            refine lv_iload hx hb (oc_21 36 (aq_11 shX12_latest_25) ub_4) (lvA0 hl) ?_
            refine lv_istore_n (lv' := [(3, .int (nI i5)), (4, .int (nI i5)), (0, .ref (g 100)), (1, .int v0), (2, .int v1)]) hx hb (oc_62 38 (aq_13 shX12_latest_25)) rfl hl (ltb rfl) rfl (fun ls hl => ?_)
            refine lv_iinc (v := (nI (i5 + 1))) (lv' := [(4, .int (nI (i5 + 1))), (3, .int (nI i5)), (0, .ref (g 100)), (1, .int v0), (2, .int v1)]) hx hb (oc_132 39 (aq_14 shX12_latest_25) ub_4 sgb_1) hl (k := 1) rfl (nI_1 _) (ltb rfl) rfl (fun ls hl => ?_)
            refine lv_goto (tgt := 5) hx hb (oc_167 42 (aq_17 shX12_latest_25) sgw_255_219) rfl ?_
            exact ih5 (i5 + 1) (nI i5) (by (first | omega | (have zz0 := Hid.u hi_cn; omega))) ⟨(by (first | omega | (have zz0 := Hid.u hi_cn; omega))), (by first | exact Or.inl rfl | exact Or.inr ⟨_, by (first | omega | (have zz0 := Hid.u hi_cn; omega)), rfl⟩ | exact hx5_0.elim Or.inl (fun ⟨m, h1, h2⟩ => Or.inr ⟨m, by (first | omega | (have zz0 := Hid.u hi_cn; omega)), h2⟩))⟩ ls (lv_sub hl [0, 1, 2, 3, 4] rfl)
  exact lp_5 _ 0 (-1) (Nat.lt_succ_self _) ⟨(by (first | omega | (have zz0 := Hid.u hi_cn; omega))), (by first | exact Or.inl rfl | exact Or.inr ⟨_, by (first | omega | (have zz0 := Hid.u hi_cn; omega)), rfl⟩ | exact (False.elim (by assumption) : True ∨ True).elim Or.inl (fun ⟨m, h1, h2⟩ => Or.inr ⟨m, by (first | omega | (have zz0 := Hid.u hi_cn; omega)), h2⟩))⟩ ls (lv_sub hl [0, 1, 2, 3, 4] rfl)
set_option maxRecDepth 100000 in
set_option maxHeartbeats 4000000 in
theorem q_stood (l : Launch) (D : va_G) (cI cB cZ : ClassId) (g : Nat → Nat) (cn : Nat → Nat) (In : Nat → Int32) (Fn : Nat → Nat → Int32) (v0 v1 : Int32) (hI : IM cn Fn) : Met l yX12_stood (CWS yX12_stood cX12_stood 4 (some .int)) (RM 2 0 0) (PBr [.ref (g 100), .int v0, .int v1] D cI cB cZ (wM cI cB cZ g cn In Fn)) (vp_Si (fun _ => True)) 0 0 (fun _ => False) := by
  refine en_r rfl pn_RX12 (Nat.le_of_ble_eq_true rfl) (fun p e s m below meth c hx hb hml hown S hr hlocks hnm hP hK hS ls hl => ?_)
  have hl : lv_has ls 4 [(0, .ref (g 100)), (1, .int v0), (2, .int v1)] := hl
  have hi_cn : Hid (CB cn) := hI.b
  refine lv_aload_n hx hb (oc_42 0 shX12_stood_0) rfl (lvA0 hl) ?_
  refine lv_iload_n hx hb (oc_27 1 (aq_1 shX12_stood_0)) rfl (lvA1 hl) ?_
  refine vp_callSi (runV_ra (As := [.int v0]) (rest := []) S (q_isDrum l D cI cB cZ g cn In Fn v0 hI) kV_RX12_413 hK hP 0 rfl rfl rfl ⟨Nat.le_of_ble_eq_true rfl, Nat.le_of_ble_eq_true rfl⟩ ⟨Nat.le_of_ble_eq_true rfl, Nat.le_of_ble_eq_true rfl⟩ rfl hl.1 rfl (Nat.le_of_ble_eq_true rfl) (oc_182 2 (aq_2 shX12_stood_0) uw_1_157)) (fun r_1 h_2 => ?_)
  rcases h_2 with ⟨rfl, h_2⟩ | ⟨rfl, h_2⟩
  ·
    have h_2 : 0 ≤ v0.toInt ∧ v0.toInt < ((cn 57) : Int) := h_2
    refine lv_if_eq (tgt := 15) hx hb (oc_153 5 (aq_5 shX12_stood_0) sgw_0_10) rfl (fun h => absurd h cq_eq_1_0) (fun _ => ?_)
    refine lv_iload_n hx hb (oc_28 8 (aq_8 shX12_stood_0)) rfl (lvA2 hl) ?_
    refine vp_callSi (runS_r (As := [.int v1]) (rest := []) S (q_isDay l D cI cB cZ v1 ) kS_RX12_341 hK hP [] rfl ⟨Nat.le_of_ble_eq_true rfl, Nat.le_of_ble_eq_true rfl⟩ ⟨Nat.le_of_ble_eq_true rfl, Nat.le_of_ble_eq_true rfl⟩ rfl hl.1 rfl (Nat.le_of_ble_eq_true rfl) (oc_184 9 (aq_9 shX12_stood_0) uw_1_85)) (fun r_3 h_4 => ?_)
    rcases h_4 with ⟨rfl, h_4⟩ | ⟨rfl, h_4⟩
    ·
      have h_4 : 0 ≤ v1.toInt ∧ v1.toInt ≤ 399 := h_4
      refine lv_if_ne (tgt := 17) hx hb (oc_154 12 (aq_12 shX12_stood_0) sgw_0_5) rfl (fun _ => ?_) (fun h => absurd h cq_eq_1_0)
      refine lv_aload_n hx hb (oc_42 17 (aq_17 shX12_stood_0)) rfl (lvA0 hl) ?_
      refine lv_iload_n hx hb (oc_27 18 (aq_18 shX12_stood_0)) rfl (lvA1 hl) ?_
      refine lv_iload_n hx hb (oc_28 19 (aq_19 shX12_stood_0)) rfl (lvA2 hl) ?_
      refine vp_callSi (runV_ra (As := [.int v0, .int v1]) (rest := []) S (q_latest l D cI cB cZ g cn In Fn v0 v1 hI) kV_RX12_416 hK hP 0 rfl rfl rfl ⟨Nat.le_of_ble_eq_true rfl, Nat.le_of_ble_eq_true rfl⟩ ⟨Nat.le_of_ble_eq_true rfl, Nat.le_of_ble_eq_true rfl⟩ rfl hl.1 rfl (Nat.le_of_ble_eq_true rfl) (oc_182 20 (aq_20 shX12_stood_0) uw_1_160)) (fun r_5 h_6 => ?_)
      rcases h_6 with rfl | ⟨mr_5, hr_5, rfl⟩
      ·
        refine lv_istore_n (lv' := [(3, .int (-1)), (0, .ref (g 100)), (1, .int v0), (2, .int v1)]) hx hb (oc_62 23 (aq_23 shX12_stood_0)) rfl hl (ltb rfl) rfl (fun ls hl => ?_)
        refine lv_iload_n hx hb (oc_29 24 shX12_stood_24) rfl (lvA0 hl) ?_
        refine lv_iconst (v := (-1)) hx hb (oc_2 25 (aq_1 shX12_stood_24)) kic_m1 ?_
        refine lv_icmp_eq (tgt := 39) hx hb (oc_159 26 (aq_2 shX12_stood_24) sgw_0_13) rfl (fun _ => ?_) (fun h => absurd h cq_eq_m1_m1)
        refine lv_bipush (v := (-2)) hx hb (oc_16 39 (aq_15 shX12_stood_24) sgb_254) kbc_m2 ?_
        refine lv_goto (tgt := 50) hx hb (oc_167 41 (aq_17 shX12_stood_24) sgw_0_9) rfl ?_
        exact W.iret (v := (-2)) hx hb hr (fun t ht hW => ⟨(-2), rfl, trivial, ht⟩) (fun _ h => absurd h List.not_mem_nil) (oc_172 50 (aq_2 shX12_stood_48))
      ·
        refine lv_istore_n (lv' := [(3, .int (nI mr_5)), (0, .ref (g 100)), (1, .int v0), (2, .int v1)]) hx hb (oc_62 23 (aq_23 shX12_stood_0)) rfl hl (ltb rfl) rfl (fun ls hl => ?_)
        refine lv_iload_n hx hb (oc_29 24 shX12_stood_24) rfl (lvA0 hl) ?_
        refine lv_iconst (v := (-1)) hx hb (oc_2 25 (aq_1 shX12_stood_24)) kic_m1 ?_
        have : (nI mr_5).toInt = ((mr_5 : Nat) : Int) := nI_toInt (by (first | omega | (have zz0 := Hid.u hi_cn; omega)))
        refine lv_icmp_eq (tgt := 39) hx hb (oc_159 26 (aq_2 shX12_stood_24) sgw_0_13) rfl (fun c_7 => False.elim (by have tc_7 : ((nI mr_5).toInt : Int) = (-1) := congrArg Int32.toInt c_7; (first | omega | (have zz0 := Hid.u hi_cn; omega)))) (fun c_7 => ?_)
        have tc_7 : ((nI mr_5).toInt : Int) ≠ (-1) := fun q => c_7 (Int32.toInt_inj.mp q)
        refine lv_aload_n hx hb (oc_42 29 (aq_5 shX12_stood_24)) rfl (lvA1 hl) ?_
        refine gM_132 S hK hP (v := .ref (g 60)) rfl (oc_180 30 (aq_6 shX12_stood_24) uw_0_132) ?_
        refine lv_iload_n hx hb (oc_29 33 (aq_9 shX12_stood_24)) rfl (lvA0 hl) ?_
        have kb_1 : mr_5 < 60 := by (first | omega | (have zz0 := Hid.u hi_cn; omega))
        refine ldM_60 hx hb hK hP (x := ((Fn 60) mr_5)) (vp_in_nI kb_1 (ltb rfl)) (nI_clamp (Nat.lt_trans kb_1 (ltb rfl))) rfl (oc_46 34 (aq_10 shX12_stood_24)) ?_
        refine lv_iconst (v := (-1)) hx hb (oc_2 35 (aq_11 shX12_stood_24)) kic_m1 ?_
        refine lv_icmp_ne (tgt := 44) hx hb (oc_160 36 (aq_12 shX12_stood_24) sgw_0_8) rfl (fun c_8 => ?_) (fun c_8 => ?_)
        ·
          have tc_8 : (((Fn 60) mr_5).toInt : Int) ≠ (-1) := fun q => c_8 (Int32.toInt_inj.mp q)
          refine lv_aload_n hx hb (oc_42 44 (aq_20 shX12_stood_24)) rfl (lvA1 hl) ?_
          refine gM_132 S hK hP (v := .ref (g 60)) rfl (oc_180 45 (aq_21 shX12_stood_24) uw_0_132) ?_
          refine lv_iload_n hx hb (oc_29 48 shX12_stood_48) rfl (lvA0 hl) ?_
          refine ldM_60 hx hb hK hP (x := ((Fn 60) mr_5)) (vp_in_nI kb_1 (ltb rfl)) (nI_clamp (Nat.lt_trans kb_1 (ltb rfl))) rfl (oc_46 49 (aq_1 shX12_stood_48)) ?_
          exact W.iret (v := ((Fn 60) mr_5)) hx hb hr (fun t ht hW => ⟨((Fn 60) mr_5), rfl, trivial, ht⟩) (fun _ h => absurd h List.not_mem_nil) (oc_172 50 (aq_2 shX12_stood_48))
        ·
          have tc_8 : (((Fn 60) mr_5).toInt : Int) = (-1) := congrArg Int32.toInt c_8
          refine lv_bipush (v := (-2)) hx hb (oc_16 39 (aq_15 shX12_stood_24) sgb_254) kbc_m2 ?_
          refine lv_goto (tgt := 50) hx hb (oc_167 41 (aq_17 shX12_stood_24) sgw_0_9) rfl ?_
          exact W.iret (v := (-2)) hx hb hr (fun t ht hW => ⟨(-2), rfl, trivial, ht⟩) (fun _ h => absurd h List.not_mem_nil) (oc_172 50 (aq_2 shX12_stood_48))
    ·
      have h_4 : ¬ (0 ≤ v1.toInt ∧ v1.toInt ≤ 399) := h_4
      refine lv_if_ne (tgt := 17) hx hb (oc_154 12 (aq_12 shX12_stood_0) sgw_0_5) rfl (fun h => absurd h cq_eq_0_0) (fun _ => ?_)
      refine lv_iconst (v := (-1)) hx hb (oc_2 15 (aq_15 shX12_stood_0)) kic_m1 ?_
      exact W.iret (v := (-1)) hx hb hr (fun t ht hW => ⟨(-1), rfl, trivial, ht⟩) (fun _ h => absurd h List.not_mem_nil) (oc_172 16 (aq_16 shX12_stood_0))
  ·
    have h_2 : ¬ (0 ≤ v0.toInt ∧ v0.toInt < ((cn 57) : Int)) := h_2
    refine lv_if_eq (tgt := 15) hx hb (oc_153 5 (aq_5 shX12_stood_0) sgw_0_10) rfl (fun _ => ?_) (fun h => absurd h cq_eq_0_0)
    refine lv_iconst (v := (-1)) hx hb (oc_2 15 (aq_15 shX12_stood_0)) kic_m1 ?_
    exact W.iret (v := (-1)) hx hb hr (fun t ht hW => ⟨(-1), rfl, trivial, ht⟩) (fun _ h => absurd h List.not_mem_nil) (oc_172 16 (aq_16 shX12_stood_0))
set_option maxRecDepth 100000 in
set_option maxHeartbeats 4000000 in
theorem q_stale (l : Launch) (D : va_G) (cI cB cZ : ClassId) (g : Nat → Nat) (cn : Nat → Nat) (In : Nat → Int32) (Fn : Nat → Nat → Int32) (v0 : Int32) (hI : IM cn Fn) : Met l yX12_stale (CWS yX12_stale cX12_stale 5 (some .int)) (RM 1 0 0) (PBr [.ref (g 100), .int v0] D cI cB cZ (wM cI cB cZ g cn In Fn)) (vp_Si (fun _ => True)) 0 0 (fun _ => False) := by
  refine en_r rfl pn_RX12 (Nat.le_of_ble_eq_true rfl) (fun p e s m below meth c hx hb hml hown S hr hlocks hnm hP hK hS ls hl => ?_)
  have hl : lv_has ls 5 [(0, .ref (g 100)), (1, .int v0)] := hl
  have hi_cn : Hid (CB cn) := hI.b
  refine lv_iload_n hx hb (oc_27 0 shX12_stale_0) rfl (lvA1 hl) ?_
  refine vp_callSi (runS_r (As := [.int v0]) (rest := []) S (q_isDay l D cI cB cZ v0 ) kS_RX12_341 hK hP [] rfl ⟨Nat.le_of_ble_eq_true rfl, Nat.le_of_ble_eq_true rfl⟩ ⟨Nat.le_of_ble_eq_true rfl, Nat.le_of_ble_eq_true rfl⟩ rfl hl.1 rfl (Nat.le_of_ble_eq_true rfl) (oc_184 1 (aq_1 shX12_stale_0) uw_1_85)) (fun r_1 h_2 => ?_)
  rcases h_2 with ⟨rfl, h_2⟩ | ⟨rfl, h_2⟩
  ·
    have h_2 : 0 ≤ v0.toInt ∧ v0.toInt ≤ 399 := h_2
    refine lv_if_ne (tgt := 9) hx hb (oc_154 4 (aq_4 shX12_stale_0) sgw_0_5) rfl (fun _ => ?_) (fun h => absurd h cq_eq_1_0)
    refine lv_iconst (v := 0) hx hb (oc_3 9 (aq_9 shX12_stale_0)) kic_0 ?_
    refine lv_istore_n (lv' := [(2, .int 0), (0, .ref (g 100)), (1, .int v0)]) hx hb (oc_61 10 (aq_10 shX12_stale_0)) rfl hl (ltb rfl) rfl (fun ls hl => ?_)
    refine lv_iconst (v := 0) hx hb (oc_3 11 (aq_11 shX12_stale_0)) kic_0 ?_
    refine lv_istore_n (lv' := [(3, .int 0), (2, .int 0), (0, .ref (g 100)), (1, .int v0)]) hx hb (oc_62 12 (aq_12 shX12_stale_0)) rfl hl (ltb rfl) rfl (fun ls hl => ?_)
    have lp_13 : ∀ (n : Nat) (i13 : Nat) (x13_2 : Int32) , cn 57 - i13 < n → (i13 ≤ cn 57) → ∀ ls : Array Slot, lv_has ls 5 [(3, .int (nI i13)), (2, .int x13_2), (0, .ref (g 100)), (1, .int v0)] → W p l e (RM 1 0 0) s m ([.ref (g 100), .int v0]).toArray below meth c s.heap [] 0 0 (MQ below (vp_Si (fun _ => True)) ([.ref (g 100), .int v0]).toArray s 0 0 (fun _ => False)) (F0 m 13 ls []) := by
      intro n13
      induction n13 with
      | zero => intros; (first | omega | (have zz0 := Hid.u hi_cn; omega))
      | succ n13 ih13 =>
        intro i13 x13_2 hmu13 hinv13 ls hl
        have hr13 := hinv13
        have ti13 : (nI i13).toInt = (i13 : Int) := nI_toInt (by (first | omega | (have zz0 := Hid.u hi_cn; omega)))
        refine lv_iload_n hx hb (oc_29 13 (aq_13 shX12_stale_0)) rfl (lvA0 hl) ?_
        refine lv_aload_n hx hb (oc_42 14 (aq_14 shX12_stale_0)) rfl (lvA2 hl) ?_
        refine gM_407 S hK hP (v := .int (nI (cn 57))) rfl (oc_180 15 (aq_15 shX12_stale_0) uw_1_151) ?_
        have : (nI (cn 57)).toInt = (((cn 57) : Nat) : Int) := nI_toInt (by (first | omega | (have zz0 := Hid.u hi_cn; omega)))
        refine lv_icmp_ge (tgt := 77) hx hb (oc_162 18 (aq_18 shX12_stale_0) sgw_0_59) rfl (fun c_3 => ?_) (fun c_3 => ?_)
        ·
          have tc_3 : ((nI (cn 57)).toInt : Int) ≤ (nI i13).toInt := Int32.le_iff_toInt_le.mp c_3
          refine lv_iload_n hx hb (oc_28 77 (aq_3 shX12_stale_74)) rfl (lvA1 hl) ?_
          exact W.iret (v := x13_2) hx hb hr (fun t ht hW => ⟨x13_2, rfl, trivial, ht⟩) (fun _ h => absurd h List.not_mem_nil) (oc_172 78 (aq_4 shX12_stale_74))
        ·
          have tc_3 : ((nI i13).toInt : Int) < (nI (cn 57)).toInt := Int32.lt_iff_toInt_lt.mp (Int32.not_le.mp c_3)
          refine lv_aload_n hx hb (oc_42 21 (aq_21 shX12_stale_0)) rfl (lvA2 hl) ?_
          refine lv_iload_n hx hb (oc_29 22 (aq_22 shX12_stale_0)) rfl (lvA0 hl) ?_
          refine lv_aload_n hx hb (oc_42 23 (aq_23 shX12_stale_0)) rfl (lvA2 hl) ?_
          refine gM_211 S hK hP (v := .int (nI (cn 0))) rfl (oc_180 24 shX12_stale_24 uw_0_211) ?_
          refine vp_callSi (runV_ra (As := [.int (nI i13), .int (nI (cn 0))]) (rest := []) S (q_latest l D cI cB cZ g cn In Fn (nI i13) (nI (cn 0)) hI) kV_RX12_416 hK hP 0 rfl rfl rfl ⟨Nat.le_of_ble_eq_true rfl, Nat.le_of_ble_eq_true rfl⟩ ⟨Nat.le_of_ble_eq_true rfl, Nat.le_of_ble_eq_true rfl⟩ rfl hl.1 rfl (Nat.le_of_ble_eq_true rfl) (oc_182 27 (aq_3 shX12_stale_24) uw_1_160)) (fun r_4 h_5 => ?_)
          rcases h_5 with rfl | ⟨mr_4, hr_4, rfl⟩
          ·
            refine lv_istore (lv' := [(4, .int (-1)), (3, .int (nI i13)), (2, .int x13_2), (0, .ref (g 100)), (1, .int v0)]) hx hb (oc_54 30 (aq_6 shX12_stale_24) ub_4) hl (ltb rfl) rfl (fun ls hl => ?_)
            refine lv_iload hx hb (oc_21 32 (aq_8 shX12_stale_24) ub_4) (lvA0 hl) ?_
            refine lv_iconst (v := (-1)) hx hb (oc_2 34 (aq_10 shX12_stale_24)) kic_m1 ?_
            refine lv_icmp_eq (tgt := 71) hx hb (oc_159 35 (aq_11 shX12_stale_24) sgw_0_36) rfl (fun _ => ?_) (fun h => absurd h cq_eq_m1_m1)
            refine lv_iinc (v := (nI (i13 + 1))) (lv' := [(3, .int (nI (i13 + 1))), (4, .int (-1)), (2, .int x13_2), (0, .ref (g 100)), (1, .int v0)]) hx hb dX12_stale_71 hl (k := 1) rfl (nI_1 _) (ltb rfl) rfl (fun ls hl => ?_)
            refine lv_goto (tgt := 13) hx hb dX12_stale_74 rfl ?_
            exact ih13 (i13 + 1) x13_2 (by (first | omega | (have zz0 := Hid.u hi_cn; omega))) (by (first | omega | (have zz0 := Hid.u hi_cn; omega))) ls (lv_sub hl [0, 2, 3, 4] rfl)
          ·
            refine lv_istore (lv' := [(4, .int (nI mr_4)), (3, .int (nI i13)), (2, .int x13_2), (0, .ref (g 100)), (1, .int v0)]) hx hb (oc_54 30 (aq_6 shX12_stale_24) ub_4) hl (ltb rfl) rfl (fun ls hl => ?_)
            refine lv_iload hx hb (oc_21 32 (aq_8 shX12_stale_24) ub_4) (lvA0 hl) ?_
            refine lv_iconst (v := (-1)) hx hb (oc_2 34 (aq_10 shX12_stale_24)) kic_m1 ?_
            have : (nI mr_4).toInt = ((mr_4 : Nat) : Int) := nI_toInt (by (first | omega | (have zz0 := Hid.u hi_cn; omega)))
            refine lv_icmp_eq (tgt := 71) hx hb (oc_159 35 (aq_11 shX12_stale_24) sgw_0_36) rfl (fun c_6 => False.elim (by have tc_6 : ((nI mr_4).toInt : Int) = (-1) := congrArg Int32.toInt c_6; (first | omega | (have zz0 := Hid.u hi_cn; omega)))) (fun c_6 => ?_)
            have tc_6 : ((nI mr_4).toInt : Int) ≠ (-1) := fun q => c_6 (Int32.toInt_inj.mp q)
            refine lv_aload_n hx hb (oc_42 38 (aq_14 shX12_stale_24)) rfl (lvA3 hl) ?_
            refine gM_132 S hK hP (v := .ref (g 60)) rfl (oc_180 39 (aq_15 shX12_stale_24) uw_0_132) ?_
            refine lv_iload hx hb (oc_21 42 (aq_18 shX12_stale_24) ub_4) (lvA0 hl) ?_
            have kb_1 : mr_4 < 60 := by (first | omega | (have zz0 := Hid.u hi_cn; omega))
            refine ldM_60 hx hb hK hP (x := ((Fn 60) mr_4)) (vp_in_nI kb_1 (ltb rfl)) (nI_clamp (Nat.lt_trans kb_1 (ltb rfl))) rfl (oc_46 44 (aq_20 shX12_stale_24)) ?_
            refine lv_iconst (v := (-1)) hx hb (oc_2 45 (aq_21 shX12_stale_24)) kic_m1 ?_
            refine lv_icmp_eq (tgt := 71) hx hb (oc_159 46 (aq_22 shX12_stale_24) sgw_0_25) rfl (fun c_7 => ?_) (fun c_7 => ?_)
            ·
              have tc_7 : (((Fn 60) mr_4).toInt : Int) = (-1) := congrArg Int32.toInt c_7
              refine lv_iinc (v := (nI (i13 + 1))) (lv' := [(3, .int (nI (i13 + 1))), (4, .int (nI mr_4)), (2, .int x13_2), (0, .ref (g 100)), (1, .int v0)]) hx hb dX12_stale_71 hl (k := 1) rfl (nI_1 _) (ltb rfl) rfl (fun ls hl => ?_)
              refine lv_goto (tgt := 13) hx hb dX12_stale_74 rfl ?_
              exact ih13 (i13 + 1) x13_2 (by (first | omega | (have zz0 := Hid.u hi_cn; omega))) (by (first | omega | (have zz0 := Hid.u hi_cn; omega))) ls (lv_sub hl [0, 2, 3, 4] rfl)
            ·
              have tc_7 : (((Fn 60) mr_4).toInt : Int) ≠ (-1) := fun q => c_7 (Int32.toInt_inj.mp q)
              refine lv_aload_n hx hb (oc_42 49 shX12_stale_49) rfl (lvA3 hl) ?_
              refine gM_211 S hK hP (v := .int (nI (cn 0))) rfl (oc_180 50 (aq_1 shX12_stale_49) uw_0_211) ?_
              refine lv_aload_n hx hb (oc_42 53 (aq_4 shX12_stale_49)) rfl (lvA3 hl) ?_
              refine gM_135 S hK hP (v := .ref (g 61)) rfl (oc_180 54 (aq_5 shX12_stale_49) uw_0_135) ?_
              refine lv_iload hx hb (oc_21 57 (aq_8 shX12_stale_49) ub_4) (lvA0 hl) ?_
              refine ldM_61 hx hb hK hP (x := ((Fn 61) mr_4)) (vp_in_nI kb_1 (ltb rfl)) (nI_clamp (Nat.lt_trans kb_1 (ltb rfl))) rfl (oc_46 59 (aq_10 shX12_stale_49)) ?_
              refine lv_isub hx hb (oc_100 60 (aq_11 shX12_stale_49)) ?_
              refine lv_iload_n hx hb (oc_27 61 (aq_12 shX12_stale_49)) rfl (lvA4 hl) ?_
              refine lv_icmp_lt (tgt := 71) hx hb (oc_161 62 (aq_13 shX12_stale_49) sgw_0_9) rfl (fun c_8 => ?_) (fun c_8 => ?_)
              ·
                have tc_8 : (((nI (cn 0)) - ((Fn 61) mr_4)).toInt : Int) < v0.toInt := Int32.lt_iff_toInt_lt.mp c_8
                refine lv_iinc (v := (nI (i13 + 1))) (lv' := [(3, .int (nI (i13 + 1))), (4, .int (nI mr_4)), (2, .int x13_2), (0, .ref (g 100)), (1, .int v0)]) hx hb dX12_stale_71 hl (k := 1) rfl (nI_1 _) (ltb rfl) rfl (fun ls hl => ?_)
                refine lv_goto (tgt := 13) hx hb dX12_stale_74 rfl ?_
                exact ih13 (i13 + 1) x13_2 (by (first | omega | (have zz0 := Hid.u hi_cn; omega))) (by (first | omega | (have zz0 := Hid.u hi_cn; omega))) ls (lv_sub hl [0, 2, 3, 4] rfl)
              ·
                have tc_8 : (v0.toInt : Int) ≤ ((nI (cn 0)) - ((Fn 61) mr_4)).toInt := Int32.le_iff_toInt_le.mp (Int32.not_lt.mp c_8)
                refine lv_iload_n hx hb (oc_28 65 (aq_16 shX12_stale_49)) rfl (lvA2 hl) ?_
                refine lv_iconst (v := 1) hx hb (oc_4 66 (aq_17 shX12_stale_49)) kic_1 ?_
                refine lv_iload_n hx hb (oc_29 67 (aq_18 shX12_stale_49)) rfl (lvA1 hl) ?_
                refine lv_ishl hx hb (oc_120 68 (aq_19 shX12_stale_49)) ?_
                refine lv_ior hx hb (oc_128 69 (aq_20 shX12_stale_49)) ?_
                refine lv_istore_n (lv' := [(2, .int (x13_2 ||| (1 <<< ((nI i13) &&& 31)))), (4, .int (nI mr_4)), (3, .int (nI i13)), (0, .ref (g 100)), (1, .int v0)]) hx hb (oc_61 70 (aq_21 shX12_stale_49)) rfl hl (ltb rfl) rfl (fun ls hl => ?_)
                refine lv_iinc (v := (nI (i13 + 1))) (lv' := [(3, .int (nI (i13 + 1))), (2, .int (x13_2 ||| (1 <<< ((nI i13) &&& 31)))), (4, .int (nI mr_4)), (0, .ref (g 100)), (1, .int v0)]) hx hb dX12_stale_71 hl (k := 2) rfl (nI_1 _) (ltb rfl) rfl (fun ls hl => ?_)
                refine lv_goto (tgt := 13) hx hb dX12_stale_74 rfl ?_
                exact ih13 (i13 + 1) (x13_2 ||| (1 <<< ((nI i13) &&& 31))) (by (first | omega | (have zz0 := Hid.u hi_cn; omega))) (by (first | omega | (have zz0 := Hid.u hi_cn; omega))) ls (lv_sub hl [0, 1, 3, 4] rfl)
    exact lp_13 _ 0 0 (Nat.lt_succ_self _) (by (first | omega | (have zz0 := Hid.u hi_cn; omega))) ls (lv_sub hl [0, 1, 2, 3] rfl)
  ·
    have h_2 : ¬ (0 ≤ v0.toInt ∧ v0.toInt ≤ 399) := h_2
    refine lv_if_ne (tgt := 9) hx hb (oc_154 4 (aq_4 shX12_stale_0) sgw_0_5) rfl (fun h => absurd h cq_eq_0_0) (fun _ => ?_)
    refine lv_iconst (v := (-1)) hx hb (oc_2 7 (aq_7 shX12_stale_0)) kic_m1 ?_
    exact W.iret (v := (-1)) hx hb hr (fun t ht hW => ⟨(-1), rfl, trivial, ht⟩) (fun _ h => absurd h List.not_mem_nil) (oc_172 8 (aq_8 shX12_stale_0))
set_option maxRecDepth 100000 in
set_option maxHeartbeats 4000000 in
theorem q_moves (l : Launch) (D : va_G) (cI cB cZ : ClassId) (g : Nat → Nat) (cn : Nat → Nat) (In : Nat → Int32) (Fn : Nat → Nat → Int32) (v0 v1 v2 : Int32) (sz : Nat) (hI : IM cn Fn) : Met l yX12_moves (CWS yX12_moves cX12_moves 5 (some .boolean)) (RM 2 0 0) (PBw [.ref (g 100), .int v0, .int v1, .int v2] D cI cB cZ (wM cI cB cZ g cn In Fn) sz) (va_Qi (fun (r : Int32) (u : (Nat → Nat) × (Nat → Int32) × (Nat → Nat → Int32)) => (fun r c2 I2 F2 => (r = 1 ∧ cn 58 < 60 ∧ c2 = va_up cn 58 (cn 58 + 1) ∧ I2 = In ∧ F2 = (va_up (va_up (va_up Fn 59 (upd (Fn 59) (cn 58) v0)) 60 (upd (Fn 60) (cn 58) v1)) 61 (upd (Fn 61) (cn 58) v2))) ∨ (r = 0 ∧ c2 = cn ∧ I2 = In ∧ F2 = Fn)) r u.1 u.2.1 u.2.2) (fun (u : (Nat → Nat) × (Nat → Int32) × (Nat → Nat → Int32)) (t : State) => va_P D vwCl (wM cI cB cZ g u.1 u.2.1 u.2.2) t.heap ∧ va_D (va_A (wM cI cB cZ g cn In Fn) sz) (wM cI cB cZ g u.1 u.2.1 u.2.2)) (va_A (wM cI cB cZ g cn In Fn) sz)) 0 0 (va_A (wM cI cB cZ g cn In Fn) sz) := by
  refine en_w (fun A => (va_Qi (fun (r : Int32) (u : (Nat → Nat) × (Nat → Int32) × (Nat → Nat → Int32)) => (fun (r : Int32) (c2 : Nat → Nat) (I2 : Nat → Int32) (F2 : Nat → Nat → Int32) => (r = 1 ∧ cn 58 < 60 ∧ c2 = va_up cn 58 (cn 58 + 1) ∧ I2 = In ∧ F2 = (va_up (va_up (va_up Fn 59 (upd (Fn 59) (cn 58) v0)) 60 (upd (Fn 60) (cn 58) v1)) 61 (upd (Fn 61) (cn 58) v2))) ∨ (r = 0 ∧ c2 = cn ∧ I2 = In ∧ F2 = Fn)) r u.1 u.2.1 u.2.2) (fun (u : (Nat → Nat) × (Nat → Int32) × (Nat → Nat → Int32)) (t : State) => va_P D vwCl (wM cI cB cZ g u.1 u.2.1 u.2.2) t.heap ∧ va_D A (wM cI cB cZ g u.1 u.2.1 u.2.2)) A)) rfl rfl pn_RX12 (Nat.le_of_ble_eq_true rfl) (fun p e s m below meth c A hx hb hml hown S hr hlocks hnm hA hP hK hD hS ls hl => ?_)
  have hl : lv_has ls 5 [(0, .ref (g 100)), (1, .int v0), (2, .int v1), (3, .int v2)] := hl
  have hi_cn : Hid (CB cn) := hI.b
  refine lv_aload_n hx hb (oc_42 0 shX12_moves_0) rfl (lvA0 hl) ?_
  refine lv_iload_n hx hb (oc_27 1 (aq_1 shX12_moves_0)) rfl (lvA1 hl) ?_
  refine vp_callSi (runV_ra (As := [.int v0]) (rest := []) S (q_isDrum l D cI cB cZ g cn In Fn v0 hI) kV_RX12_413 hK hP 0 rfl rfl rfl ⟨Nat.le_of_ble_eq_true rfl, Nat.le_of_ble_eq_true rfl⟩ ⟨Nat.le_of_ble_eq_true rfl, Nat.le_of_ble_eq_true rfl⟩ rfl hl.1 rfl (Nat.le_of_ble_eq_true rfl) (oc_182 2 (aq_2 shX12_moves_0) uw_1_157)) (fun r_1 h_2 => ?_)
  rcases h_2 with ⟨rfl, h_2⟩ | ⟨rfl, h_2⟩
  ·
    have h_2 : 0 ≤ v0.toInt ∧ v0.toInt < ((cn 57) : Int) := h_2
    refine lv_if_eq (tgt := 42) hx hb (oc_153 5 (aq_5 shX12_moves_0) sgw_0_37) rfl (fun h => absurd h cq_eq_1_0) (fun _ => ?_)
    refine lv_iload_n hx hb (oc_28 8 (aq_8 shX12_moves_0)) rfl (lvA2 hl) ?_
    refine lv_iconst (v := (-1)) hx hb (oc_2 9 (aq_9 shX12_moves_0)) kic_m1 ?_
    refine lv_icmp_eq (tgt := 21) hx hb (oc_159 10 (aq_10 shX12_moves_0) sgw_0_11) rfl (fun c_3 => ?_) (fun c_3 => ?_)
    ·
      have tc_3 : (v1.toInt : Int) = (-1) := congrArg Int32.toInt c_3
      refine lv_iload_n hx hb (oc_29 21 (aq_21 shX12_moves_0)) rfl (lvA3 hl) ?_
      refine lv_iconst (v := 0) hx hb (oc_3 22 (aq_22 shX12_moves_0)) kic_0 ?_
      refine lv_aload_n hx hb (oc_42 23 (aq_23 shX12_moves_0)) rfl (lvA0 hl) ?_
      refine gM_211 S hK hP (v := .int (nI (cn 0))) rfl (oc_180 24 shX12_moves_24 uw_0_211) ?_
      refine vp_callSi (runS_r (As := [.int v2, .int 0, .int (nI (cn 0))]) (rest := []) S (q_in l D cI cB cZ v2 0 (nI (cn 0)) ) kS_RX12_214 hK hP [] rfl ⟨Nat.le_of_ble_eq_true rfl, Nat.le_of_ble_eq_true rfl⟩ ⟨Nat.le_of_ble_eq_true rfl, Nat.le_of_ble_eq_true rfl⟩ rfl hl.1 rfl (Nat.le_of_ble_eq_true rfl) (oc_184 27 (aq_3 shX12_moves_24) uw_0_214)) (fun r_4 h_5 => ?_)
      have : (nI (cn 0)).toInt = (((cn 0) : Nat) : Int) := nI_toInt (by (first | omega | (have zz0 := Hid.u hi_cn; omega)))
      rcases h_5 with ⟨rfl, h_5⟩ | ⟨rfl, h_5⟩
      ·
        have h_5 : 0 ≤ v2.toInt ∧ v2.toInt ≤ (nI (cn 0)).toInt := h_5
        refine lv_if_eq (tgt := 42) hx hb dX12_moves_30 rfl (fun h => absurd h cq_eq_1_0) (fun _ => ?_)
        refine lv_aload_n hx hb (oc_42 33 (aq_9 shX12_moves_24)) rfl (lvA0 hl) ?_
        refine gM_410 S hK hP (v := .int (nI (cn 58))) rfl (oc_180 34 (aq_10 shX12_moves_24) uw_1_154) ?_
        refine lv_bipush (v := 60) hx hb (oc_16 37 (aq_13 shX12_moves_24) sgb_60) kbc_60 ?_
        have : (nI (cn 58)).toInt = (((cn 58) : Nat) : Int) := nI_toInt (by (first | omega | (have zz0 := Hid.u hi_cn; omega)))
        refine lv_icmp_ne (tgt := 44) hx hb (oc_160 39 (aq_15 shX12_moves_24) sgw_0_5) rfl (fun c_6 => ?_) (fun c_6 => ?_)
        ·
          have tc_6 : ((nI (cn 58)).toInt : Int) ≠ 60 := fun q => c_6 (Int32.toInt_inj.mp q)
          refine lv_aload_n hx hb (oc_42 44 (aq_20 shX12_moves_24)) rfl (lvA0 hl) ?_
          refine lv_iload_n hx hb (oc_27 45 (aq_21 shX12_moves_24)) rfl (lvA1 hl) ?_
          refine lv_sipush (v := 399) hx hb (oc_17 46 (aq_22 shX12_moves_24) sgw_1_143) (by decide) ?_
          refine vp_callSi (runV_ra (As := [.int v0, .int 399]) (rest := []) S (q_latest l D cI cB cZ g cn In Fn v0 399 hI) kV_RX12_416 hK hP 0 rfl rfl rfl ⟨Nat.le_of_ble_eq_true rfl, Nat.le_of_ble_eq_true rfl⟩ ⟨Nat.le_of_ble_eq_true rfl, Nat.le_of_ble_eq_true rfl⟩ rfl hl.1 rfl (Nat.le_of_ble_eq_true rfl) (oc_182 49 shX12_moves_49 uw_1_160)) (fun r_7 h_8 => ?_)
          rcases h_8 with rfl | ⟨mr_7, hr_7, rfl⟩
          ·
            refine lv_istore (lv' := [(4, .int (-1)), (0, .ref (g 100)), (1, .int v0), (2, .int v1), (3, .int v2)]) hx hb dX12_moves_52 hl (ltb rfl) rfl (fun ls hl => ?_)
            refine lv_iload hx hb dX12_moves_54 (lvA0 hl) ?_
            refine lv_iconst (v := (-1)) hx hb dX12_moves_56 kic_m1 ?_
            refine lv_icmp_eq (tgt := 73) hx hb dX12_moves_57 rfl (fun _ => ?_) (fun h => absurd h cq_eq_m1_m1)
            refine lv_aload_n hx hb dX12_moves_73 rfl (lvA1 hl) ?_
            refine gM_129 S hK hP (v := .ref (g 59)) rfl dX12_moves_74 ?_
            refine lv_aload_n hx hb dX12_moves_77 rfl (lvA1 hl) ?_
            refine gM_410 S hK hP (v := .int (nI (cn 58))) rfl dX12_moves_78 ?_
            refine lv_iload_n hx hb dX12_moves_81 rfl (lvA2 hl) ?_
            have kb_1 : (cn 58) < 60 := by (first | omega | (have zz0 := Hid.u hi_cn; omega))
            refine stM_59 hx hb hK hP hD hS (Fn2 := (va_up Fn 59 (upd (Fn 59) (cn 58) v0))) (vp_in_nI kb_1 (ltb rfl)) (nI_clamp (Nat.lt_trans kb_1 (ltb rfl))) rfl dX12_moves_82 (fun H locs hP hD hS => ?_)
            refine lv_aload_n hx hb dX12_moves_83 rfl (lvA1 hl) ?_
            refine gM_132 S hK hP (v := .ref (g 60)) rfl dX12_moves_84 ?_
            refine lv_aload_n hx hb dX12_moves_87 rfl (lvA1 hl) ?_
            refine gM_410 S hK hP (v := .int (nI (cn 58))) rfl dX12_moves_88 ?_
            refine lv_iload_n hx hb dX12_moves_91 rfl (lvA3 hl) ?_
            refine stM_60 hx hb hK hP hD hS (Fn2 := (va_up (va_up Fn 59 (upd (Fn 59) (cn 58) v0)) 60 (upd (Fn 60) (cn 58) v1))) (vp_in_nI kb_1 (ltb rfl)) (nI_clamp (Nat.lt_trans kb_1 (ltb rfl))) rfl dX12_moves_92 (fun H locs hP hD hS => ?_)
            refine lv_aload_n hx hb dX12_moves_93 rfl (lvA1 hl) ?_
            refine gM_135 S hK hP (v := .ref (g 61)) rfl dX12_moves_94 ?_
            refine lv_aload_n hx hb dX12_moves_97 rfl (lvA1 hl) ?_
            refine gM_410 S hK hP (v := .int (nI (cn 58))) rfl dX12_moves_98 ?_
            refine lv_iload_n hx hb dX12_moves_101 rfl (lvA4 hl) ?_
            refine stM_61 hx hb hK hP hD hS (Fn2 := (va_up (va_up (va_up Fn 59 (upd (Fn 59) (cn 58) v0)) 60 (upd (Fn 60) (cn 58) v1)) 61 (upd (Fn 61) (cn 58) v2))) (vp_in_nI kb_1 (ltb rfl)) (nI_clamp (Nat.lt_trans kb_1 (ltb rfl))) rfl dX12_moves_102 (fun H locs hP hD hS => ?_)
            refine lv_aload_n hx hb dX12_moves_103 rfl (lvA1 hl) ?_
            refine lv_aload_n hx hb dX12_moves_104 rfl (lvA1 hl) ?_
            refine gM_410 S hK hP (v := .int (nI (cn 58))) rfl dX12_moves_105 ?_
            refine lv_iconst (v := 1) hx hb dX12_moves_108 kic_1 ?_
            refine lv_iadd hx hb dX12_moves_109 ?_
            refine lv_topi (fun y_9 ey_9 => ?_)
            obtain rfl : y_9 = (nI ((cn 58) + 1)) := ey_9.trans (nI_add (cn 58) 1)
            refine pM_410 S hK hP hD hS (a := ((cn 58) + 1)) (cn2 := (va_up cn 58 ((cn 58) + 1))) rfl rfl dX12_moves_110 (fun H locs hP hD hS => ?_)
            refine lv_iconst (v := 1) hx hb dX12_moves_113 kic_1 ?_
            exact W.zret (v := 1) hx hb hr rfl (fun t ht hW => ⟨⟨1, ((va_up cn 58 ((cn 58) + 1)), In, (va_up (va_up (va_up Fn 59 (upd (Fn 59) (cn 58) v0)) 60 (upd (Fn 60) (cn 58) v1)) 61 (upd (Fn 61) (cn 58) v2))), rfl, (Or.inl ⟨rfl, by (first | omega | (have zz0 := Hid.u hi_cn; omega)), rfl, rfl, rfl⟩), by rw [ht]; exact hP, hD⟩, hS.F ht⟩) hS.2.2 dX12_moves_114
          ·
            refine lv_istore (lv' := [(4, .int (nI mr_7)), (0, .ref (g 100)), (1, .int v0), (2, .int v1), (3, .int v2)]) hx hb dX12_moves_52 hl (ltb rfl) rfl (fun ls hl => ?_)
            refine lv_iload hx hb dX12_moves_54 (lvA0 hl) ?_
            refine lv_iconst (v := (-1)) hx hb dX12_moves_56 kic_m1 ?_
            have : (nI mr_7).toInt = ((mr_7 : Nat) : Int) := nI_toInt (by (first | omega | (have zz0 := Hid.u hi_cn; omega)))
            refine lv_icmp_eq (tgt := 73) hx hb dX12_moves_57 rfl (fun c_10 => False.elim (by have tc_10 : ((nI mr_7).toInt : Int) = (-1) := congrArg Int32.toInt c_10; (first | omega | (have zz0 := Hid.u hi_cn; omega)))) (fun c_10 => ?_)
            have tc_10 : ((nI mr_7).toInt : Int) ≠ (-1) := fun q => c_10 (Int32.toInt_inj.mp q)
            refine lv_aload_n hx hb (oc_42 60 (aq_11 shX12_moves_49)) rfl (lvA1 hl) ?_
            refine gM_135 S hK hP (v := .ref (g 61)) rfl (oc_180 61 (aq_12 shX12_moves_49) uw_0_135) ?_
            refine lv_iload hx hb (oc_21 64 (aq_15 shX12_moves_49) ub_4) (lvA0 hl) ?_
            have kb_2 : mr_7 < 60 := by (first | omega | (have zz0 := Hid.u hi_cn; omega))
            refine ldM_61 hx hb hK hP (x := ((Fn 61) mr_7)) (vp_in_nI kb_2 (ltb rfl)) (nI_clamp (Nat.lt_trans kb_2 (ltb rfl))) rfl (oc_46 66 (aq_17 shX12_moves_49)) ?_
            refine lv_iload_n hx hb (oc_29 67 (aq_18 shX12_moves_49)) rfl (lvA4 hl) ?_
            refine lv_icmp_le (tgt := 73) hx hb (oc_164 68 (aq_19 shX12_moves_49) sgw_0_5) rfl (fun c_11 => ?_) (fun c_11 => ?_)
            ·
              have tc_11 : (((Fn 61) mr_7).toInt : Int) ≤ v2.toInt := Int32.le_iff_toInt_le.mp c_11
              refine lv_aload_n hx hb dX12_moves_73 rfl (lvA1 hl) ?_
              refine gM_129 S hK hP (v := .ref (g 59)) rfl dX12_moves_74 ?_
              refine lv_aload_n hx hb dX12_moves_77 rfl (lvA1 hl) ?_
              refine gM_410 S hK hP (v := .int (nI (cn 58))) rfl dX12_moves_78 ?_
              refine lv_iload_n hx hb dX12_moves_81 rfl (lvA2 hl) ?_
              have kb_3 : (cn 58) < 60 := by (first | omega | (have zz0 := Hid.u hi_cn; omega))
              refine stM_59 hx hb hK hP hD hS (Fn2 := (va_up Fn 59 (upd (Fn 59) (cn 58) v0))) (vp_in_nI kb_3 (ltb rfl)) (nI_clamp (Nat.lt_trans kb_3 (ltb rfl))) rfl dX12_moves_82 (fun H locs hP hD hS => ?_)
              refine lv_aload_n hx hb dX12_moves_83 rfl (lvA1 hl) ?_
              refine gM_132 S hK hP (v := .ref (g 60)) rfl dX12_moves_84 ?_
              refine lv_aload_n hx hb dX12_moves_87 rfl (lvA1 hl) ?_
              refine gM_410 S hK hP (v := .int (nI (cn 58))) rfl dX12_moves_88 ?_
              refine lv_iload_n hx hb dX12_moves_91 rfl (lvA3 hl) ?_
              refine stM_60 hx hb hK hP hD hS (Fn2 := (va_up (va_up Fn 59 (upd (Fn 59) (cn 58) v0)) 60 (upd (Fn 60) (cn 58) v1))) (vp_in_nI kb_3 (ltb rfl)) (nI_clamp (Nat.lt_trans kb_3 (ltb rfl))) rfl dX12_moves_92 (fun H locs hP hD hS => ?_)
              refine lv_aload_n hx hb dX12_moves_93 rfl (lvA1 hl) ?_
              refine gM_135 S hK hP (v := .ref (g 61)) rfl dX12_moves_94 ?_
              refine lv_aload_n hx hb dX12_moves_97 rfl (lvA1 hl) ?_
              refine gM_410 S hK hP (v := .int (nI (cn 58))) rfl dX12_moves_98 ?_
              refine lv_iload_n hx hb dX12_moves_101 rfl (lvA4 hl) ?_
              refine stM_61 hx hb hK hP hD hS (Fn2 := (va_up (va_up (va_up Fn 59 (upd (Fn 59) (cn 58) v0)) 60 (upd (Fn 60) (cn 58) v1)) 61 (upd (Fn 61) (cn 58) v2))) (vp_in_nI kb_3 (ltb rfl)) (nI_clamp (Nat.lt_trans kb_3 (ltb rfl))) rfl dX12_moves_102 (fun H locs hP hD hS => ?_)
              refine lv_aload_n hx hb dX12_moves_103 rfl (lvA1 hl) ?_
              refine lv_aload_n hx hb dX12_moves_104 rfl (lvA1 hl) ?_
              refine gM_410 S hK hP (v := .int (nI (cn 58))) rfl dX12_moves_105 ?_
              refine lv_iconst (v := 1) hx hb dX12_moves_108 kic_1 ?_
              refine lv_iadd hx hb dX12_moves_109 ?_
              refine lv_topi (fun y_12 ey_12 => ?_)
              obtain rfl : y_12 = (nI ((cn 58) + 1)) := ey_12.trans (nI_add (cn 58) 1)
              refine pM_410 S hK hP hD hS (a := ((cn 58) + 1)) (cn2 := (va_up cn 58 ((cn 58) + 1))) rfl rfl dX12_moves_110 (fun H locs hP hD hS => ?_)
              refine lv_iconst (v := 1) hx hb dX12_moves_113 kic_1 ?_
              exact W.zret (v := 1) hx hb hr rfl (fun t ht hW => ⟨⟨1, ((va_up cn 58 ((cn 58) + 1)), In, (va_up (va_up (va_up Fn 59 (upd (Fn 59) (cn 58) v0)) 60 (upd (Fn 60) (cn 58) v1)) 61 (upd (Fn 61) (cn 58) v2))), rfl, (Or.inl ⟨rfl, by (first | omega | (have zz0 := Hid.u hi_cn; omega)), rfl, rfl, rfl⟩), by rw [ht]; exact hP, hD⟩, hS.F ht⟩) hS.2.2 dX12_moves_114
            ·
              have tc_11 : (v2.toInt : Int) < ((Fn 61) mr_7).toInt := Int32.lt_iff_toInt_lt.mp (Int32.not_le.mp c_11)
              refine lv_iconst (v := 0) hx hb (oc_3 71 (aq_22 shX12_moves_49)) kic_0 ?_
              exact W.zret (v := 0) hx hb hr rfl (fun t ht hW => ⟨⟨0, (cn, In, Fn), rfl, (Or.inr ⟨rfl, rfl, rfl, rfl⟩), by rw [ht]; exact hP, hD⟩, hS.F ht⟩) hS.2.2 (oc_172 72 (aq_23 shX12_moves_49))
        ·
          have tc_6 : ((nI (cn 58)).toInt : Int) = 60 := congrArg Int32.toInt c_6
          refine lv_iconst (v := 0) hx hb dX12_moves_42 kic_0 ?_
          exact W.zret (v := 0) hx hb hr rfl (fun t ht hW => ⟨⟨0, (cn, In, Fn), rfl, (Or.inr ⟨rfl, rfl, rfl, rfl⟩), by rw [ht]; exact hP, hD⟩, hS.F ht⟩) hS.2.2 dX12_moves_43
      ·
        have h_5 : ¬ (0 ≤ v2.toInt ∧ v2.toInt ≤ (nI (cn 0)).toInt) := h_5
        refine lv_if_eq (tgt := 42) hx hb dX12_moves_30 rfl (fun _ => ?_) (fun h => absurd h cq_eq_0_0)
        refine lv_iconst (v := 0) hx hb dX12_moves_42 kic_0 ?_
        exact W.zret (v := 0) hx hb hr rfl (fun t ht hW => ⟨⟨0, (cn, In, Fn), rfl, (Or.inr ⟨rfl, rfl, rfl, rfl⟩), by rw [ht]; exact hP, hD⟩, hS.F ht⟩) hS.2.2 dX12_moves_43
    ·
      have tc_3 : (v1.toInt : Int) ≠ (-1) := fun q => c_3 (Int32.toInt_inj.mp q)
      refine lv_aload_n hx hb (oc_42 13 (aq_13 shX12_moves_0)) rfl (lvA0 hl) ?_
      refine lv_iload_n hx hb (oc_28 14 (aq_14 shX12_moves_0)) rfl (lvA2 hl) ?_
      refine vp_callSi (runV_ra (As := [.int v1]) (rest := []) S (q_isKitchen l D cI cB cZ g cn In Fn v1 hI) kV_RX12_218 hK hP 0 rfl rfl rfl ⟨Nat.le_of_ble_eq_true rfl, Nat.le_of_ble_eq_true rfl⟩ ⟨Nat.le_of_ble_eq_true rfl, Nat.le_of_ble_eq_true rfl⟩ rfl hl.1 rfl (Nat.le_of_ble_eq_true rfl) (oc_182 15 (aq_15 shX12_moves_0) uw_0_218)) (fun r_13 h_14 => ?_)
      rcases h_14 with ⟨rfl, h_14⟩ | ⟨rfl, h_14⟩
      ·
        have h_14 : 0 ≤ v1.toInt ∧ v1.toInt < ((cn 1) : Int) := h_14
        refine lv_if_eq (tgt := 42) hx hb (oc_153 18 (aq_18 shX12_moves_0) sgw_0_24) rfl (fun h => absurd h cq_eq_1_0) (fun _ => ?_)
        refine lv_iload_n hx hb (oc_29 21 (aq_21 shX12_moves_0)) rfl (lvA3 hl) ?_
        refine lv_iconst (v := 0) hx hb (oc_3 22 (aq_22 shX12_moves_0)) kic_0 ?_
        refine lv_aload_n hx hb (oc_42 23 (aq_23 shX12_moves_0)) rfl (lvA0 hl) ?_
        refine gM_211 S hK hP (v := .int (nI (cn 0))) rfl (oc_180 24 shX12_moves_24 uw_0_211) ?_
        refine vp_callSi (runS_r (As := [.int v2, .int 0, .int (nI (cn 0))]) (rest := []) S (q_in l D cI cB cZ v2 0 (nI (cn 0)) ) kS_RX12_214 hK hP [] rfl ⟨Nat.le_of_ble_eq_true rfl, Nat.le_of_ble_eq_true rfl⟩ ⟨Nat.le_of_ble_eq_true rfl, Nat.le_of_ble_eq_true rfl⟩ rfl hl.1 rfl (Nat.le_of_ble_eq_true rfl) (oc_184 27 (aq_3 shX12_moves_24) uw_0_214)) (fun r_15 h_16 => ?_)
        have : (nI (cn 0)).toInt = (((cn 0) : Nat) : Int) := nI_toInt (by (first | omega | (have zz0 := Hid.u hi_cn; omega)))
        rcases h_16 with ⟨rfl, h_16⟩ | ⟨rfl, h_16⟩
        ·
          have h_16 : 0 ≤ v2.toInt ∧ v2.toInt ≤ (nI (cn 0)).toInt := h_16
          refine lv_if_eq (tgt := 42) hx hb dX12_moves_30 rfl (fun h => absurd h cq_eq_1_0) (fun _ => ?_)
          refine lv_aload_n hx hb (oc_42 33 (aq_9 shX12_moves_24)) rfl (lvA0 hl) ?_
          refine gM_410 S hK hP (v := .int (nI (cn 58))) rfl (oc_180 34 (aq_10 shX12_moves_24) uw_1_154) ?_
          refine lv_bipush (v := 60) hx hb (oc_16 37 (aq_13 shX12_moves_24) sgb_60) kbc_60 ?_
          have : (nI (cn 58)).toInt = (((cn 58) : Nat) : Int) := nI_toInt (by (first | omega | (have zz0 := Hid.u hi_cn; omega)))
          refine lv_icmp_ne (tgt := 44) hx hb (oc_160 39 (aq_15 shX12_moves_24) sgw_0_5) rfl (fun c_17 => ?_) (fun c_17 => ?_)
          ·
            have tc_17 : ((nI (cn 58)).toInt : Int) ≠ 60 := fun q => c_17 (Int32.toInt_inj.mp q)
            refine lv_aload_n hx hb (oc_42 44 (aq_20 shX12_moves_24)) rfl (lvA0 hl) ?_
            refine lv_iload_n hx hb (oc_27 45 (aq_21 shX12_moves_24)) rfl (lvA1 hl) ?_
            refine lv_sipush (v := 399) hx hb (oc_17 46 (aq_22 shX12_moves_24) sgw_1_143) (by decide) ?_
            refine vp_callSi (runV_ra (As := [.int v0, .int 399]) (rest := []) S (q_latest l D cI cB cZ g cn In Fn v0 399 hI) kV_RX12_416 hK hP 0 rfl rfl rfl ⟨Nat.le_of_ble_eq_true rfl, Nat.le_of_ble_eq_true rfl⟩ ⟨Nat.le_of_ble_eq_true rfl, Nat.le_of_ble_eq_true rfl⟩ rfl hl.1 rfl (Nat.le_of_ble_eq_true rfl) (oc_182 49 shX12_moves_49 uw_1_160)) (fun r_18 h_19 => ?_)
            rcases h_19 with rfl | ⟨mr_18, hr_18, rfl⟩
            ·
              refine lv_istore (lv' := [(4, .int (-1)), (0, .ref (g 100)), (1, .int v0), (2, .int v1), (3, .int v2)]) hx hb dX12_moves_52 hl (ltb rfl) rfl (fun ls hl => ?_)
              refine lv_iload hx hb dX12_moves_54 (lvA0 hl) ?_
              refine lv_iconst (v := (-1)) hx hb dX12_moves_56 kic_m1 ?_
              refine lv_icmp_eq (tgt := 73) hx hb dX12_moves_57 rfl (fun _ => ?_) (fun h => absurd h cq_eq_m1_m1)
              refine lv_aload_n hx hb dX12_moves_73 rfl (lvA1 hl) ?_
              refine gM_129 S hK hP (v := .ref (g 59)) rfl dX12_moves_74 ?_
              refine lv_aload_n hx hb dX12_moves_77 rfl (lvA1 hl) ?_
              refine gM_410 S hK hP (v := .int (nI (cn 58))) rfl dX12_moves_78 ?_
              refine lv_iload_n hx hb dX12_moves_81 rfl (lvA2 hl) ?_
              have kb_4 : (cn 58) < 60 := by (first | omega | (have zz0 := Hid.u hi_cn; omega))
              refine stM_59 hx hb hK hP hD hS (Fn2 := (va_up Fn 59 (upd (Fn 59) (cn 58) v0))) (vp_in_nI kb_4 (ltb rfl)) (nI_clamp (Nat.lt_trans kb_4 (ltb rfl))) rfl dX12_moves_82 (fun H locs hP hD hS => ?_)
              refine lv_aload_n hx hb dX12_moves_83 rfl (lvA1 hl) ?_
              refine gM_132 S hK hP (v := .ref (g 60)) rfl dX12_moves_84 ?_
              refine lv_aload_n hx hb dX12_moves_87 rfl (lvA1 hl) ?_
              refine gM_410 S hK hP (v := .int (nI (cn 58))) rfl dX12_moves_88 ?_
              refine lv_iload_n hx hb dX12_moves_91 rfl (lvA3 hl) ?_
              refine stM_60 hx hb hK hP hD hS (Fn2 := (va_up (va_up Fn 59 (upd (Fn 59) (cn 58) v0)) 60 (upd (Fn 60) (cn 58) v1))) (vp_in_nI kb_4 (ltb rfl)) (nI_clamp (Nat.lt_trans kb_4 (ltb rfl))) rfl dX12_moves_92 (fun H locs hP hD hS => ?_)
              refine lv_aload_n hx hb dX12_moves_93 rfl (lvA1 hl) ?_
              refine gM_135 S hK hP (v := .ref (g 61)) rfl dX12_moves_94 ?_
              refine lv_aload_n hx hb dX12_moves_97 rfl (lvA1 hl) ?_
              refine gM_410 S hK hP (v := .int (nI (cn 58))) rfl dX12_moves_98 ?_
              refine lv_iload_n hx hb dX12_moves_101 rfl (lvA4 hl) ?_
              refine stM_61 hx hb hK hP hD hS (Fn2 := (va_up (va_up (va_up Fn 59 (upd (Fn 59) (cn 58) v0)) 60 (upd (Fn 60) (cn 58) v1)) 61 (upd (Fn 61) (cn 58) v2))) (vp_in_nI kb_4 (ltb rfl)) (nI_clamp (Nat.lt_trans kb_4 (ltb rfl))) rfl dX12_moves_102 (fun H locs hP hD hS => ?_)
              refine lv_aload_n hx hb dX12_moves_103 rfl (lvA1 hl) ?_
              refine lv_aload_n hx hb dX12_moves_104 rfl (lvA1 hl) ?_
              refine gM_410 S hK hP (v := .int (nI (cn 58))) rfl dX12_moves_105 ?_
              refine lv_iconst (v := 1) hx hb dX12_moves_108 kic_1 ?_
              refine lv_iadd hx hb dX12_moves_109 ?_
              refine lv_topi (fun y_20 ey_20 => ?_)
              obtain rfl : y_20 = (nI ((cn 58) + 1)) := ey_20.trans (nI_add (cn 58) 1)
              refine pM_410 S hK hP hD hS (a := ((cn 58) + 1)) (cn2 := (va_up cn 58 ((cn 58) + 1))) rfl rfl dX12_moves_110 (fun H locs hP hD hS => ?_)
              refine lv_iconst (v := 1) hx hb dX12_moves_113 kic_1 ?_
              exact W.zret (v := 1) hx hb hr rfl (fun t ht hW => ⟨⟨1, ((va_up cn 58 ((cn 58) + 1)), In, (va_up (va_up (va_up Fn 59 (upd (Fn 59) (cn 58) v0)) 60 (upd (Fn 60) (cn 58) v1)) 61 (upd (Fn 61) (cn 58) v2))), rfl, (Or.inl ⟨rfl, by (first | omega | (have zz0 := Hid.u hi_cn; omega)), rfl, rfl, rfl⟩), by rw [ht]; exact hP, hD⟩, hS.F ht⟩) hS.2.2 dX12_moves_114
            ·
              refine lv_istore (lv' := [(4, .int (nI mr_18)), (0, .ref (g 100)), (1, .int v0), (2, .int v1), (3, .int v2)]) hx hb dX12_moves_52 hl (ltb rfl) rfl (fun ls hl => ?_)
              refine lv_iload hx hb dX12_moves_54 (lvA0 hl) ?_
              refine lv_iconst (v := (-1)) hx hb dX12_moves_56 kic_m1 ?_
              have : (nI mr_18).toInt = ((mr_18 : Nat) : Int) := nI_toInt (by (first | omega | (have zz0 := Hid.u hi_cn; omega)))
              refine lv_icmp_eq (tgt := 73) hx hb dX12_moves_57 rfl (fun c_21 => False.elim (by have tc_21 : ((nI mr_18).toInt : Int) = (-1) := congrArg Int32.toInt c_21; (first | omega | (have zz0 := Hid.u hi_cn; omega)))) (fun c_21 => ?_)
              have tc_21 : ((nI mr_18).toInt : Int) ≠ (-1) := fun q => c_21 (Int32.toInt_inj.mp q)
              refine lv_aload_n hx hb (oc_42 60 (aq_11 shX12_moves_49)) rfl (lvA1 hl) ?_
              refine gM_135 S hK hP (v := .ref (g 61)) rfl (oc_180 61 (aq_12 shX12_moves_49) uw_0_135) ?_
              refine lv_iload hx hb (oc_21 64 (aq_15 shX12_moves_49) ub_4) (lvA0 hl) ?_
              have kb_5 : mr_18 < 60 := by (first | omega | (have zz0 := Hid.u hi_cn; omega))
              refine ldM_61 hx hb hK hP (x := ((Fn 61) mr_18)) (vp_in_nI kb_5 (ltb rfl)) (nI_clamp (Nat.lt_trans kb_5 (ltb rfl))) rfl (oc_46 66 (aq_17 shX12_moves_49)) ?_
              refine lv_iload_n hx hb (oc_29 67 (aq_18 shX12_moves_49)) rfl (lvA4 hl) ?_
              refine lv_icmp_le (tgt := 73) hx hb (oc_164 68 (aq_19 shX12_moves_49) sgw_0_5) rfl (fun c_22 => ?_) (fun c_22 => ?_)
              ·
                have tc_22 : (((Fn 61) mr_18).toInt : Int) ≤ v2.toInt := Int32.le_iff_toInt_le.mp c_22
                refine lv_aload_n hx hb dX12_moves_73 rfl (lvA1 hl) ?_
                refine gM_129 S hK hP (v := .ref (g 59)) rfl dX12_moves_74 ?_
                refine lv_aload_n hx hb dX12_moves_77 rfl (lvA1 hl) ?_
                refine gM_410 S hK hP (v := .int (nI (cn 58))) rfl dX12_moves_78 ?_
                refine lv_iload_n hx hb dX12_moves_81 rfl (lvA2 hl) ?_
                have kb_6 : (cn 58) < 60 := by (first | omega | (have zz0 := Hid.u hi_cn; omega))
                refine stM_59 hx hb hK hP hD hS (Fn2 := (va_up Fn 59 (upd (Fn 59) (cn 58) v0))) (vp_in_nI kb_6 (ltb rfl)) (nI_clamp (Nat.lt_trans kb_6 (ltb rfl))) rfl dX12_moves_82 (fun H locs hP hD hS => ?_)
                refine lv_aload_n hx hb dX12_moves_83 rfl (lvA1 hl) ?_
                refine gM_132 S hK hP (v := .ref (g 60)) rfl dX12_moves_84 ?_
                refine lv_aload_n hx hb dX12_moves_87 rfl (lvA1 hl) ?_
                refine gM_410 S hK hP (v := .int (nI (cn 58))) rfl dX12_moves_88 ?_
                refine lv_iload_n hx hb dX12_moves_91 rfl (lvA3 hl) ?_
                refine stM_60 hx hb hK hP hD hS (Fn2 := (va_up (va_up Fn 59 (upd (Fn 59) (cn 58) v0)) 60 (upd (Fn 60) (cn 58) v1))) (vp_in_nI kb_6 (ltb rfl)) (nI_clamp (Nat.lt_trans kb_6 (ltb rfl))) rfl dX12_moves_92 (fun H locs hP hD hS => ?_)
                refine lv_aload_n hx hb dX12_moves_93 rfl (lvA1 hl) ?_
                refine gM_135 S hK hP (v := .ref (g 61)) rfl dX12_moves_94 ?_
                refine lv_aload_n hx hb dX12_moves_97 rfl (lvA1 hl) ?_
                refine gM_410 S hK hP (v := .int (nI (cn 58))) rfl dX12_moves_98 ?_
                refine lv_iload_n hx hb dX12_moves_101 rfl (lvA4 hl) ?_
                refine stM_61 hx hb hK hP hD hS (Fn2 := (va_up (va_up (va_up Fn 59 (upd (Fn 59) (cn 58) v0)) 60 (upd (Fn 60) (cn 58) v1)) 61 (upd (Fn 61) (cn 58) v2))) (vp_in_nI kb_6 (ltb rfl)) (nI_clamp (Nat.lt_trans kb_6 (ltb rfl))) rfl dX12_moves_102 (fun H locs hP hD hS => ?_)
                refine lv_aload_n hx hb dX12_moves_103 rfl (lvA1 hl) ?_
                refine lv_aload_n hx hb dX12_moves_104 rfl (lvA1 hl) ?_
                refine gM_410 S hK hP (v := .int (nI (cn 58))) rfl dX12_moves_105 ?_
                refine lv_iconst (v := 1) hx hb dX12_moves_108 kic_1 ?_
                refine lv_iadd hx hb dX12_moves_109 ?_
                refine lv_topi (fun y_23 ey_23 => ?_)
                obtain rfl : y_23 = (nI ((cn 58) + 1)) := ey_23.trans (nI_add (cn 58) 1)
                refine pM_410 S hK hP hD hS (a := ((cn 58) + 1)) (cn2 := (va_up cn 58 ((cn 58) + 1))) rfl rfl dX12_moves_110 (fun H locs hP hD hS => ?_)
                refine lv_iconst (v := 1) hx hb dX12_moves_113 kic_1 ?_
                exact W.zret (v := 1) hx hb hr rfl (fun t ht hW => ⟨⟨1, ((va_up cn 58 ((cn 58) + 1)), In, (va_up (va_up (va_up Fn 59 (upd (Fn 59) (cn 58) v0)) 60 (upd (Fn 60) (cn 58) v1)) 61 (upd (Fn 61) (cn 58) v2))), rfl, (Or.inl ⟨rfl, by (first | omega | (have zz0 := Hid.u hi_cn; omega)), rfl, rfl, rfl⟩), by rw [ht]; exact hP, hD⟩, hS.F ht⟩) hS.2.2 dX12_moves_114
              ·
                have tc_22 : (v2.toInt : Int) < ((Fn 61) mr_18).toInt := Int32.lt_iff_toInt_lt.mp (Int32.not_le.mp c_22)
                refine lv_iconst (v := 0) hx hb (oc_3 71 (aq_22 shX12_moves_49)) kic_0 ?_
                exact W.zret (v := 0) hx hb hr rfl (fun t ht hW => ⟨⟨0, (cn, In, Fn), rfl, (Or.inr ⟨rfl, rfl, rfl, rfl⟩), by rw [ht]; exact hP, hD⟩, hS.F ht⟩) hS.2.2 (oc_172 72 (aq_23 shX12_moves_49))
          ·
            have tc_17 : ((nI (cn 58)).toInt : Int) = 60 := congrArg Int32.toInt c_17
            refine lv_iconst (v := 0) hx hb dX12_moves_42 kic_0 ?_
            exact W.zret (v := 0) hx hb hr rfl (fun t ht hW => ⟨⟨0, (cn, In, Fn), rfl, (Or.inr ⟨rfl, rfl, rfl, rfl⟩), by rw [ht]; exact hP, hD⟩, hS.F ht⟩) hS.2.2 dX12_moves_43
        ·
          have h_16 : ¬ (0 ≤ v2.toInt ∧ v2.toInt ≤ (nI (cn 0)).toInt) := h_16
          refine lv_if_eq (tgt := 42) hx hb dX12_moves_30 rfl (fun _ => ?_) (fun h => absurd h cq_eq_0_0)
          refine lv_iconst (v := 0) hx hb dX12_moves_42 kic_0 ?_
          exact W.zret (v := 0) hx hb hr rfl (fun t ht hW => ⟨⟨0, (cn, In, Fn), rfl, (Or.inr ⟨rfl, rfl, rfl, rfl⟩), by rw [ht]; exact hP, hD⟩, hS.F ht⟩) hS.2.2 dX12_moves_43
      ·
        have h_14 : ¬ (0 ≤ v1.toInt ∧ v1.toInt < ((cn 1) : Int)) := h_14
        refine lv_if_eq (tgt := 42) hx hb (oc_153 18 (aq_18 shX12_moves_0) sgw_0_24) rfl (fun _ => ?_) (fun h => absurd h cq_eq_0_0)
        refine lv_iconst (v := 0) hx hb dX12_moves_42 kic_0 ?_
        exact W.zret (v := 0) hx hb hr rfl (fun t ht hW => ⟨⟨0, (cn, In, Fn), rfl, (Or.inr ⟨rfl, rfl, rfl, rfl⟩), by rw [ht]; exact hP, hD⟩, hS.F ht⟩) hS.2.2 dX12_moves_43
  ·
    have h_2 : ¬ (0 ≤ v0.toInt ∧ v0.toInt < ((cn 57) : Int)) := h_2
    refine lv_if_eq (tgt := 42) hx hb (oc_153 5 (aq_5 shX12_moves_0) sgw_0_37) rfl (fun _ => ?_) (fun h => absurd h cq_eq_0_0)
    refine lv_iconst (v := 0) hx hb dX12_moves_42 kic_0 ?_
    exact W.zret (v := 0) hx hb hr rfl (fun t ht hW => ⟨⟨0, (cn, In, Fn), rfl, (Or.inr ⟨rfl, rfl, rfl, rfl⟩), by rw [ht]; exact hP, hD⟩, hS.F ht⟩) hS.2.2 dX12_moves_43
set_option maxRecDepth 100000 in
set_option maxHeartbeats 4000000 in
theorem q_isFree (l : Launch) (D : va_G) (cI cB cZ : ClassId) (g : Nat → Nat) (cn : Nat → Nat) (In : Nat → Int32) (Fn : Nat → Nat → Int32) (v0 : Int32) (hI : IM cn Fn) : Met l yX12_isFree (CWS yX12_isFree cX12_isFree 2 (some .boolean)) (RM 1 0 0) (PBr [.ref (g 100), .int v0] D cI cB cZ (wM cI cB cZ g cn In Fn)) (vp_Si (fun r => r = 0 ∨ (r = 1 ∧ 0 ≤ v0.toInt ∧ v0.toInt < (cn 2 : Int)))) 0 0 (fun _ => False) := by
  refine en_r rfl pn_RX12 (Nat.le_of_ble_eq_true rfl) (fun p e s m below meth c hx hb hml hown S hr hlocks hnm hP hK hS ls hl => ?_)
  have hl : lv_has ls 2 [(0, .ref (g 100)), (1, .int v0)] := hl
  have hi_cn : Hid (CB cn) := hI.b
  refine lv_aload_n hx hb (oc_42 0 shX12_isFree_0) rfl (lvA0 hl) ?_
  refine lv_iload_n hx hb (oc_27 1 (aq_1 shX12_isFree_0)) rfl (lvA1 hl) ?_
  refine vp_callSi (runV_ra (As := [.int v0]) (rest := []) S (q_isLoad l D cI cB cZ g cn In Fn v0 hI) kV_RX12_335 hK hP 0 rfl rfl rfl ⟨Nat.le_of_ble_eq_true rfl, Nat.le_of_ble_eq_true rfl⟩ ⟨Nat.le_of_ble_eq_true rfl, Nat.le_of_ble_eq_true rfl⟩ rfl hl.1 rfl (Nat.le_of_ble_eq_true rfl) (oc_182 2 (aq_2 shX12_isFree_0) uw_1_79)) (fun r_1 h_2 => ?_)
  rcases h_2 with ⟨rfl, h_2⟩ | ⟨rfl, h_2⟩
  ·
    have h_2 : 0 ≤ v0.toInt ∧ v0.toInt < ((cn 2) : Int) := h_2
    refine lv_if_eq (tgt := 35) hx hb (oc_153 5 (aq_5 shX12_isFree_0) sgw_0_30) rfl (fun h => absurd h cq_eq_1_0) (fun _ => ?_)
    obtain ⟨d0, hd0, rfl⟩ := nI_of (x := v0) (fun q => by have := Int32.lt_iff_toInt_lt.mp q; have e : (0 : Int32).toInt = 0 := rfl; (first | omega | (have zz0 := Hid.u hi_cn; omega)))
    have td0 : (nI d0).toInt = (d0 : Int) := nI_toInt hd0
    have zd0 : (nI d0).toInt.toNat = d0 := by (first | omega | (have zz0 := Hid.u hi_cn; omega))
    refine lv_aload_n hx hb (oc_42 8 (aq_8 shX12_isFree_0)) rfl (lvA0 hl) ?_
    refine gM_46 S hK hP (v := .ref (g 15)) rfl (oc_180 9 (aq_9 shX12_isFree_0) uw_0_46) ?_
    refine lv_iload_n hx hb (oc_27 12 (aq_12 shX12_isFree_0)) rfl (lvA1 hl) ?_
    have kb_1 : d0 < 60 := by (first | omega | (have zz0 := Hid.u hi_cn; omega))
    refine ldM_15 hx hb hK hP (x := ((Fn 15) d0)) (vp_in_nI kb_1 (ltb rfl)) (nI_clamp (Nat.lt_trans kb_1 (ltb rfl))) rfl (oc_46 13 (aq_13 shX12_isFree_0)) ?_
    refine lv_iconst (v := (-1)) hx hb (oc_2 14 (aq_14 shX12_isFree_0)) kic_m1 ?_
    refine lv_icmp_ne (tgt := 35) hx hb (oc_160 15 (aq_15 shX12_isFree_0) sgw_0_20) rfl (fun c_3 => ?_) (fun c_3 => ?_)
    ·
      have tc_3 : (((Fn 15) d0).toInt : Int) ≠ (-1) := fun q => c_3 (Int32.toInt_inj.mp q)
      refine lv_iconst (v := 0) hx hb (oc_3 35 (aq_11 shX12_isFree_24)) kic_0 ?_
      exact W.zret (v := 0) hx hb hr rfl (fun t ht hW => ⟨0, rfl, (Or.inl rfl), ht⟩) (fun _ h => absurd h List.not_mem_nil) dX12_isFree_36
    ·
      have tc_3 : (((Fn 15) d0).toInt : Int) = (-1) := congrArg Int32.toInt c_3
      refine lv_aload_n hx hb (oc_42 18 (aq_18 shX12_isFree_0)) rfl (lvA0 hl) ?_
      refine gM_40 S hK hP (v := .ref (g 13)) rfl (oc_180 19 (aq_19 shX12_isFree_0) uw_0_40) ?_
      refine lv_iload_n hx hb (oc_27 22 (aq_22 shX12_isFree_0)) rfl (lvA1 hl) ?_
      refine ldM_13 hx hb hK hP (x := ((Fn 13) d0)) (vp_in_nI kb_1 (ltb rfl)) (nI_clamp (Nat.lt_trans kb_1 (ltb rfl))) rfl (oc_46 23 (aq_23 shX12_isFree_0)) ?_
      refine lv_aload_n hx hb (oc_42 24 shX12_isFree_24) rfl (lvA0 hl) ?_
      refine gM_211 S hK hP (v := .int (nI (cn 0))) rfl (oc_180 25 (aq_1 shX12_isFree_24) uw_0_211) ?_
      have : (nI (cn 0)).toInt = (((cn 0) : Nat) : Int) := nI_toInt (by (first | omega | (have zz0 := Hid.u hi_cn; omega)))
      refine lv_icmp_gt (tgt := 35) hx hb (oc_163 28 (aq_4 shX12_isFree_24) sgw_0_7) rfl (fun c_4 => ?_) (fun c_4 => ?_)
      ·
        have tc_4 : ((nI (cn 0)).toInt : Int) < ((Fn 13) d0).toInt := Int32.lt_iff_toInt_lt.mp c_4
        refine lv_iconst (v := 0) hx hb (oc_3 35 (aq_11 shX12_isFree_24)) kic_0 ?_
        exact W.zret (v := 0) hx hb hr rfl (fun t ht hW => ⟨0, rfl, (Or.inl rfl), ht⟩) (fun _ h => absurd h List.not_mem_nil) dX12_isFree_36
      ·
        have tc_4 : (((Fn 13) d0).toInt : Int) ≤ (nI (cn 0)).toInt := Int32.le_iff_toInt_le.mp (Int32.not_lt.mp c_4)
        refine lv_iconst (v := 1) hx hb (oc_4 31 (aq_7 shX12_isFree_24)) kic_1 ?_
        refine lv_goto (tgt := 36) hx hb (oc_167 32 (aq_8 shX12_isFree_24) sgw_0_4) rfl ?_
        exact W.zret (v := 1) hx hb hr rfl (fun t ht hW => ⟨1, rfl, (Or.inr ⟨rfl, by (first | omega | (have zz0 := Hid.u hi_cn; omega))⟩), ht⟩) (fun _ h => absurd h List.not_mem_nil) dX12_isFree_36
  ·
    have h_2 : ¬ (0 ≤ v0.toInt ∧ v0.toInt < ((cn 2) : Int)) := h_2
    refine lv_if_eq (tgt := 35) hx hb (oc_153 5 (aq_5 shX12_isFree_0) sgw_0_30) rfl (fun _ => ?_) (fun h => absurd h cq_eq_0_0)
    refine lv_iconst (v := 0) hx hb (oc_3 35 (aq_11 shX12_isFree_24)) kic_0 ?_
    exact W.zret (v := 0) hx hb hr rfl (fun t ht hW => ⟨0, rfl, (Or.inl rfl), ht⟩) (fun _ h => absurd h List.not_mem_nil) dX12_isFree_36
set_option maxRecDepth 100000 in
set_option maxHeartbeats 4000000 in
theorem q_bits (l : Launch) (D : va_G) (cI cB cZ : ClassId) (v0 : Int32)  : Met l yX12_bits (CWS yX12_bits cX12_bits 3 (some .int)) (RM 0 0 0) (PBr [.int v0] D cI cB cZ []) (vp_Si (fun _ => True)) 0 0 (fun _ => False) := by
  refine en_r rfl pn_RX12 (Nat.le_of_ble_eq_true rfl) (fun p e s m below meth c hx hb hml hown S hr hlocks hnm hP hK hS ls hl => ?_)
  have hl : lv_has ls 3 [(0, .int v0)] := hl
  refine lv_iconst (v := 0) hx hb (oc_3 0 shX12_bits_0) kic_0 ?_
  refine lv_istore_n (lv' := [(1, .int 0), (0, .int v0)]) hx hb (oc_60 1 (aq_1 shX12_bits_0)) rfl hl (ltb rfl) rfl (fun ls hl => ?_)
  refine lv_iconst (v := 0) hx hb (oc_3 2 (aq_2 shX12_bits_0)) kic_0 ?_
  refine lv_istore_n (lv' := [(2, .int 0), (1, .int 0), (0, .int v0)]) hx hb (oc_61 3 (aq_3 shX12_bits_0)) rfl hl (ltb rfl) rfl (fun ls hl => ?_)
  have lp_4 : ∀ (n : Nat) (i4 : Nat) (x4_1 : Int32) , 20 - i4 < n → (i4 ≤ 20) → ∀ ls : Array Slot, lv_has ls 3 [(2, .int (nI i4)), (1, .int x4_1), (0, .int v0)] → W p l e (RM 0 0 0) s m ([.int v0]).toArray below meth c s.heap [] 0 0 (MQ below (vp_Si (fun _ => True)) ([.int v0]).toArray s 0 0 (fun _ => False)) (F0 m 4 ls []) := by
    intro n4
    induction n4 with
    | zero => intros; omega
    | succ n4 ih4 =>
      intro i4 x4_1 hmu4 hinv4 ls hl
      have hr4 := hinv4
      have ti4 : (nI i4).toInt = (i4 : Int) := nI_toInt (by omega)
      refine lv_iload_n hx hb (oc_28 4 (aq_4 shX12_bits_0)) rfl (lvA0 hl) ?_
      refine lv_bipush (v := 20) hx hb (oc_16 5 (aq_5 shX12_bits_0) sgb_20) kbc_20 ?_
      refine lv_icmp_ge (tgt := 24) hx hb (oc_162 7 (aq_7 shX12_bits_0) sgw_0_17) rfl (fun c_1 => ?_) (fun c_1 => ?_)
      ·
        have tc_1 : (20 : Int) ≤ (nI i4).toInt := Int32.le_iff_toInt_le.mp c_1
        refine lv_iload_n hx hb (oc_27 24 shX12_bits_24) rfl (lvA1 hl) ?_
        exact W.iret (v := x4_1) hx hb hr (fun t ht hW => ⟨x4_1, rfl, trivial, ht⟩) (fun _ h => absurd h List.not_mem_nil) (oc_172 25 (aq_1 shX12_bits_24))
      ·
        have tc_1 : ((nI i4).toInt : Int) < 20 := Int32.lt_iff_toInt_lt.mp (Int32.not_le.mp c_1)
        refine lv_iload_n hx hb (oc_27 10 (aq_10 shX12_bits_0)) rfl (lvA1 hl) ?_
        refine lv_iload_n hx hb (oc_26 11 (aq_11 shX12_bits_0)) rfl (lvA2 hl) ?_
        refine lv_iload_n hx hb (oc_28 12 (aq_12 shX12_bits_0)) rfl (lvA0 hl) ?_
        refine lv_ishr hx hb (oc_122 13 (aq_13 shX12_bits_0)) ?_
        refine lv_iconst (v := 1) hx hb (oc_4 14 (aq_14 shX12_bits_0)) kic_1 ?_
        refine lv_iand hx hb (oc_126 15 (aq_15 shX12_bits_0)) ?_
        refine lv_iadd hx hb (oc_96 16 (aq_16 shX12_bits_0)) ?_
        refine lv_istore_n (lv' := [(1, .int (x4_1 + ((v0 >>> ((nI i4) &&& 31)) &&& 1))), (2, .int (nI i4)), (0, .int v0)]) hx hb (oc_60 17 (aq_17 shX12_bits_0)) rfl hl (ltb rfl) rfl (fun ls hl => ?_)
        refine lv_iinc (v := (nI (i4 + 1))) (lv' := [(2, .int (nI (i4 + 1))), (1, .int (x4_1 + ((v0 >>> ((nI i4) &&& 31)) &&& 1))), (0, .int v0)]) hx hb (oc_132 18 (aq_18 shX12_bits_0) ub_2 sgb_1) hl (k := 1) rfl (nI_1 _) (ltb rfl) rfl (fun ls hl => ?_)
        refine lv_goto (tgt := 4) hx hb (oc_167 21 (aq_21 shX12_bits_0) sgw_255_239) rfl ?_
        exact ih4 (i4 + 1) (x4_1 + ((v0 >>> ((nI i4) &&& 31)) &&& 1)) (by omega) (by omega) ls (lv_sub hl [0, 1, 2] rfl)
  exact lp_4 _ 0 0 (Nat.lt_succ_self _) (by omega) ls (lv_sub hl [0, 1, 2] rfl)
set_option maxRecDepth 100000 in
set_option maxHeartbeats 4000000 in
theorem q_comers (l : Launch) (D : va_G) (cI cB cZ : ClassId) (g : Nat → Nat) (cn : Nat → Nat) (In : Nat → Int32) (Fn : Nat → Nat → Int32) (v0 : Int32) (hI : IM cn Fn) : Met l yX12_comers (CWS yX12_comers cX12_comers 4 (some .int)) (RM 0 0 0) (PBr [.ref (g 100), .int v0] D cI cB cZ (wM cI cB cZ g cn In Fn)) (vp_Si (fun _ => True)) 0 0 (fun _ => False) := by
  refine en_r rfl pn_RX12 (Nat.le_of_ble_eq_true rfl) (fun p e s m below meth c hx hb hml hown S hr hlocks hnm hP hK hS ls hl => ?_)
  have hl : lv_has ls 4 [(0, .ref (g 100)), (1, .int v0)] := hl
  have hi_cn : Hid (CB cn) := hI.b
  refine lv_iconst (v := 0) hx hb (oc_3 0 shX12_comers_0) kic_0 ?_
  refine lv_istore_n (lv' := [(2, .int 0), (0, .ref (g 100)), (1, .int v0)]) hx hb (oc_61 1 (aq_1 shX12_comers_0)) rfl hl (ltb rfl) rfl (fun ls hl => ?_)
  refine lv_iconst (v := 0) hx hb (oc_3 2 (aq_2 shX12_comers_0)) kic_0 ?_
  refine lv_istore_n (lv' := [(3, .int 0), (2, .int 0), (0, .ref (g 100)), (1, .int v0)]) hx hb (oc_62 3 (aq_3 shX12_comers_0)) rfl hl (ltb rfl) rfl (fun ls hl => ?_)
  have lp_4 : ∀ (n : Nat) (i4 : Nat) (x4_2 : Int32) , cn 1 - i4 < n → (i4 ≤ cn 1) → ∀ ls : Array Slot, lv_has ls 4 [(3, .int (nI i4)), (2, .int x4_2), (0, .ref (g 100)), (1, .int v0)] → W p l e (RM 0 0 0) s m ([.ref (g 100), .int v0]).toArray below meth c s.heap [] 0 0 (MQ below (vp_Si (fun _ => True)) ([.ref (g 100), .int v0]).toArray s 0 0 (fun _ => False)) (F0 m 4 ls []) := by
    intro n4
    induction n4 with
    | zero => intros; (first | omega | (have zz0 := Hid.u hi_cn; omega))
    | succ n4 ih4 =>
      intro i4 x4_2 hmu4 hinv4 ls hl
      have hr4 := hinv4
      have ti4 : (nI i4).toInt = (i4 : Int) := nI_toInt (by (first | omega | (have zz0 := Hid.u hi_cn; omega)))
      refine lv_iload_n hx hb (oc_29 4 (aq_4 shX12_comers_0)) rfl (lvA0 hl) ?_
      refine lv_aload_n hx hb (oc_42 5 (aq_5 shX12_comers_0)) rfl (lvA2 hl) ?_
      refine gM_204 S hK hP (v := .int (nI (cn 1))) rfl (oc_180 6 (aq_6 shX12_comers_0) uw_0_204) ?_
      have : (nI (cn 1)).toInt = (((cn 1) : Nat) : Int) := nI_toInt (by (first | omega | (have zz0 := Hid.u hi_cn; omega)))
      refine lv_icmp_ge (tgt := 48) hx hb (oc_162 9 (aq_9 shX12_comers_0) sgw_0_39) rfl (fun c_1 => ?_) (fun c_1 => ?_)
      ·
        have tc_1 : ((nI (cn 1)).toInt : Int) ≤ (nI i4).toInt := Int32.le_iff_toInt_le.mp c_1
        refine lv_iload_n hx hb (oc_28 48 (aq_22 shX12_comers_26)) rfl (lvA1 hl) ?_
        exact W.iret (v := x4_2) hx hb hr (fun t ht hW => ⟨x4_2, rfl, trivial, ht⟩) (fun _ h => absurd h List.not_mem_nil) (oc_172 49 (aq_23 shX12_comers_26))
      ·
        have tc_1 : ((nI i4).toInt : Int) < (nI (cn 1)).toInt := Int32.lt_iff_toInt_lt.mp (Int32.not_le.mp c_1)
        refine lv_aload_n hx hb (oc_42 12 (aq_12 shX12_comers_0)) rfl (lvA2 hl) ?_
        refine gM_183 S hK hP (v := .ref (g 84)) rfl (oc_180 13 (aq_13 shX12_comers_0) uw_0_183) ?_
        refine lv_iload_n hx hb (oc_29 16 (aq_16 shX12_comers_0)) rfl (lvA0 hl) ?_
        have kb_1 : i4 < 10 := by (first | omega | (have zz0 := Hid.u hi_cn; omega))
        refine ldM_84 hx hb hK hP (x := ((Fn 84) i4)) (vp_in_nI kb_1 (ltb rfl)) (nI_clamp (Nat.lt_trans kb_1 (ltb rfl))) rfl (oc_46 17 (aq_17 shX12_comers_0)) ?_
        refine lv_iload_n hx hb (oc_27 18 (aq_18 shX12_comers_0)) rfl (lvA3 hl) ?_
        refine lv_icmp_gt (tgt := 40) hx hb (oc_163 19 (aq_19 shX12_comers_0) sgw_0_21) rfl (fun c_2 => ?_) (fun c_2 => ?_)
        ·
          have tc_2 : (v0.toInt : Int) < ((Fn 84) i4).toInt := Int32.lt_iff_toInt_lt.mp c_2
          refine lv_iload_n hx hb (oc_28 40 (aq_14 shX12_comers_26)) rfl (lvA1 hl) ?_
          refine lv_istore_n (lv' := [(2, .int x4_2), (3, .int (nI i4)), (0, .ref (g 100)), (1, .int v0)]) hx hb (oc_61 41 (aq_15 shX12_comers_26)) rfl hl (ltb rfl) rfl (fun ls hl => ?_)
          refine lv_iinc (v := (nI (i4 + 1))) (lv' := [(3, .int (nI (i4 + 1))), (2, .int x4_2), (0, .ref (g 100)), (1, .int v0)]) hx hb (oc_132 42 (aq_16 shX12_comers_26) ub_3 sgb_1) hl (k := 1) rfl (nI_1 _) (ltb rfl) rfl (fun ls hl => ?_)
          refine lv_goto (tgt := 4) hx hb (oc_167 45 (aq_19 shX12_comers_26) sgw_255_215) rfl ?_
          exact ih4 (i4 + 1) x4_2 (by (first | omega | (have zz0 := Hid.u hi_cn; omega))) (by (first | omega | (have zz0 := Hid.u hi_cn; omega))) ls (lv_sub hl [0, 1, 2, 3] rfl)
        ·
          have tc_2 : (((Fn 84) i4).toInt : Int) ≤ v0.toInt := Int32.le_iff_toInt_le.mp (Int32.not_lt.mp c_2)
          refine lv_aload_n hx hb (oc_42 22 (aq_22 shX12_comers_0)) rfl (lvA2 hl) ?_
          refine gM_186 S hK hP (v := .ref (g 85)) rfl (oc_180 23 (aq_23 shX12_comers_0) uw_0_186) ?_
          refine lv_iload_n hx hb (oc_29 26 shX12_comers_26) rfl (lvA0 hl) ?_
          refine ldM_85 hx hb hK hP (x := ((Fn 85) i4)) (vp_in_nI kb_1 (ltb rfl)) (nI_clamp (Nat.lt_trans kb_1 (ltb rfl))) rfl (oc_46 27 (aq_1 shX12_comers_26)) ?_
          refine lv_iload_n hx hb (oc_27 28 (aq_2 shX12_comers_26)) rfl (lvA3 hl) ?_
          refine lv_icmp_gt (tgt := 40) hx hb (oc_163 29 (aq_3 shX12_comers_26) sgw_0_11) rfl (fun c_3 => ?_) (fun c_3 => ?_)
          ·
            have tc_3 : (v0.toInt : Int) < ((Fn 85) i4).toInt := Int32.lt_iff_toInt_lt.mp c_3
            refine lv_iload_n hx hb (oc_28 40 (aq_14 shX12_comers_26)) rfl (lvA1 hl) ?_
            refine lv_istore_n (lv' := [(2, .int x4_2), (3, .int (nI i4)), (0, .ref (g 100)), (1, .int v0)]) hx hb (oc_61 41 (aq_15 shX12_comers_26)) rfl hl (ltb rfl) rfl (fun ls hl => ?_)
            refine lv_iinc (v := (nI (i4 + 1))) (lv' := [(3, .int (nI (i4 + 1))), (2, .int x4_2), (0, .ref (g 100)), (1, .int v0)]) hx hb (oc_132 42 (aq_16 shX12_comers_26) ub_3 sgb_1) hl (k := 1) rfl (nI_1 _) (ltb rfl) rfl (fun ls hl => ?_)
            refine lv_goto (tgt := 4) hx hb (oc_167 45 (aq_19 shX12_comers_26) sgw_255_215) rfl ?_
            exact ih4 (i4 + 1) x4_2 (by (first | omega | (have zz0 := Hid.u hi_cn; omega))) (by (first | omega | (have zz0 := Hid.u hi_cn; omega))) ls (lv_sub hl [0, 1, 2, 3] rfl)
          ·
            have tc_3 : (((Fn 85) i4).toInt : Int) ≤ v0.toInt := Int32.le_iff_toInt_le.mp (Int32.not_lt.mp c_3)
            refine lv_iload_n hx hb (oc_28 32 (aq_6 shX12_comers_26)) rfl (lvA1 hl) ?_
            refine lv_iconst (v := 1) hx hb (oc_4 33 (aq_7 shX12_comers_26)) kic_1 ?_
            refine lv_iload_n hx hb (oc_29 34 (aq_8 shX12_comers_26)) rfl (lvA0 hl) ?_
            refine lv_ishl hx hb (oc_120 35 (aq_9 shX12_comers_26)) ?_
            refine lv_ior hx hb (oc_128 36 (aq_10 shX12_comers_26)) ?_
            refine lv_goto (tgt := 41) hx hb (oc_167 37 (aq_11 shX12_comers_26) sgw_0_4) rfl ?_
            refine lv_istore_n (lv' := [(2, .int (x4_2 ||| (1 <<< ((nI i4) &&& 31)))), (3, .int (nI i4)), (0, .ref (g 100)), (1, .int v0)]) hx hb (oc_61 41 (aq_15 shX12_comers_26)) rfl hl (ltb rfl) rfl (fun ls hl => ?_)
            refine lv_iinc (v := (nI (i4 + 1))) (lv' := [(3, .int (nI (i4 + 1))), (2, .int (x4_2 ||| (1 <<< ((nI i4) &&& 31)))), (0, .ref (g 100)), (1, .int v0)]) hx hb (oc_132 42 (aq_16 shX12_comers_26) ub_3 sgb_1) hl (k := 1) rfl (nI_1 _) (ltb rfl) rfl (fun ls hl => ?_)
            refine lv_goto (tgt := 4) hx hb (oc_167 45 (aq_19 shX12_comers_26) sgw_255_215) rfl ?_
            exact ih4 (i4 + 1) (x4_2 ||| (1 <<< ((nI i4) &&& 31))) (by (first | omega | (have zz0 := Hid.u hi_cn; omega))) (by (first | omega | (have zz0 := Hid.u hi_cn; omega))) ls (lv_sub hl [0, 1, 2, 3] rfl)
  exact lp_4 _ 0 0 (Nat.lt_succ_self _) (by (first | omega | (have zz0 := Hid.u hi_cn; omega))) ls (lv_sub hl [0, 1, 2, 3] rfl)
set_option maxRecDepth 100000 in
set_option maxHeartbeats 4000000 in
theorem q_worthOf (l : Launch) (D : va_G) (cI cB cZ : ClassId) (g : Nat → Nat) (cn : Nat → Nat) (In : Nat → Int32) (Fn : Nat → Nat → Int32) (v0 v1 : Int32) (hI : IM cn Fn) : Met l yX12_worthOf (CWS yX12_worthOf cX12_worthOf 6 (some .int)) (RM 1 0 0) (PBr [.ref (g 100), .int v0, .int v1] D cI cB cZ (wM cI cB cZ g cn In Fn)) (vp_Si (fun _ => True)) 0 0 (fun _ => False) := by
  refine en_r rfl pn_RX12 (Nat.le_of_ble_eq_true rfl) (fun p e s m below meth c hx hb hml hown S hr hlocks hnm hP hK hS ls hl => ?_)
  have hl : lv_has ls 6 [(0, .ref (g 100)), (1, .int v0), (2, .int v1)] := hl
  have hi_cn : Hid (CB cn) := hI.b
  refine lv_aload_n hx hb (oc_42 0 shX12_worthOf_0) rfl (lvA0 hl) ?_
  refine lv_iload_n hx hb (oc_27 1 (aq_1 shX12_worthOf_0)) rfl (lvA1 hl) ?_
  refine vp_callSi (runV_ra (As := [.int v0]) (rest := []) S (q_comers l D cI cB cZ g cn In Fn v0 hI) kV_RX12_469 hK hP 0 rfl rfl rfl ⟨Nat.le_of_ble_eq_true rfl, Nat.le_of_ble_eq_true rfl⟩ ⟨Nat.le_of_ble_eq_true rfl, Nat.le_of_ble_eq_true rfl⟩ rfl hl.1 rfl (Nat.le_of_ble_eq_true rfl) (oc_182 2 (aq_2 shX12_worthOf_0) uw_1_213)) (fun r_1 h_2 => ?_)
  refine lv_istore_n (lv' := [(3, .int r_1), (0, .ref (g 100)), (1, .int v0), (2, .int v1)]) hx hb (oc_62 5 (aq_5 shX12_worthOf_0)) rfl hl (ltb rfl) rfl (fun ls hl => ?_)
  refine lv_iconst (v := 0) hx hb (oc_3 6 (aq_6 shX12_worthOf_0)) kic_0 ?_
  refine lv_istore (lv' := [(4, .int 0), (3, .int r_1), (0, .ref (g 100)), (1, .int v0), (2, .int v1)]) hx hb (oc_54 7 (aq_7 shX12_worthOf_0) ub_4) hl (ltb rfl) rfl (fun ls hl => ?_)
  refine lv_iconst (v := 0) hx hb (oc_3 9 (aq_9 shX12_worthOf_0)) kic_0 ?_
  refine lv_istore (lv' := [(5, .int 0), (4, .int 0), (3, .int r_1), (0, .ref (g 100)), (1, .int v0), (2, .int v1)]) hx hb (oc_54 10 (aq_10 shX12_worthOf_0) ub_5) hl (ltb rfl) rfl (fun ls hl => ?_)
  have lp_12 : ∀ (n : Nat) (i12 : Nat) (x12_4 : Int32) , cn 1 - i12 < n → (i12 ≤ cn 1) → ∀ ls : Array Slot, lv_has ls 6 [(5, .int (nI i12)), (4, .int x12_4), (3, .int r_1), (0, .ref (g 100)), (1, .int v0), (2, .int v1)] → W p l e (RM 1 0 0) s m ([.ref (g 100), .int v0, .int v1]).toArray below meth c s.heap [] 0 0 (MQ below (vp_Si (fun _ => True)) ([.ref (g 100), .int v0, .int v1]).toArray s 0 0 (fun _ => False)) (F0 m 12 ls []) := by
    intro n12
    induction n12 with
    | zero => intros; (first | omega | (have zz0 := Hid.u hi_cn; omega))
    | succ n12 ih12 =>
      intro i12 x12_4 hmu12 hinv12 ls hl
      have hr12 := hinv12
      have ti12 : (nI i12).toInt = (i12 : Int) := nI_toInt (by (first | omega | (have zz0 := Hid.u hi_cn; omega)))
      refine lv_iload hx hb (oc_21 12 (aq_12 shX12_worthOf_0) ub_5) (lvA0 hl) ?_
      refine lv_aload_n hx hb (oc_42 14 (aq_14 shX12_worthOf_0)) rfl (lvA3 hl) ?_
      refine gM_204 S hK hP (v := .int (nI (cn 1))) rfl (oc_180 15 (aq_15 shX12_worthOf_0) uw_0_204) ?_
      have : (nI (cn 1)).toInt = (((cn 1) : Nat) : Int) := nI_toInt (by (first | omega | (have zz0 := Hid.u hi_cn; omega)))
      refine lv_icmp_ge (tgt := 50) hx hb (oc_162 18 (aq_18 shX12_worthOf_0) sgw_0_32) rfl (fun c_3 => ?_) (fun c_3 => ?_)
      ·
        have tc_3 : ((nI (cn 1)).toInt : Int) ≤ (nI i12).toInt := Int32.le_iff_toInt_le.mp c_3
        refine lv_iload hx hb (oc_21 50 shX12_worthOf_50 ub_4) (lvA1 hl) ?_
        exact W.iret (v := x12_4) hx hb hr (fun t ht hW => ⟨x12_4, rfl, trivial, ht⟩) (fun _ h => absurd h List.not_mem_nil) (oc_172 52 (aq_2 shX12_worthOf_50))
      ·
        have tc_3 : ((nI i12).toInt : Int) < (nI (cn 1)).toInt := Int32.lt_iff_toInt_lt.mp (Int32.not_le.mp c_3)
        refine lv_iload hx hb (oc_21 21 (aq_21 shX12_worthOf_0) ub_4) (lvA1 hl) ?_
        refine lv_iload_n hx hb (oc_29 23 (aq_23 shX12_worthOf_0)) rfl (lvA2 hl) ?_
        refine lv_iload hx hb (oc_21 24 shX12_worthOf_24 ub_5) (lvA0 hl) ?_
        refine lv_ishr hx hb (oc_122 26 (aq_2 shX12_worthOf_24)) ?_
        refine lv_iconst (v := 1) hx hb (oc_4 27 (aq_3 shX12_worthOf_24)) kic_1 ?_
        refine lv_iand hx hb (oc_126 28 (aq_4 shX12_worthOf_24)) ?_
        refine lv_aload_n hx hb (oc_42 29 (aq_5 shX12_worthOf_24)) rfl (lvA3 hl) ?_
        refine gM_16 S hK hP (v := .ref (g 5)) rfl (oc_180 30 (aq_6 shX12_worthOf_24) uw_0_16) ?_
        refine lv_iload hx hb (oc_21 33 (aq_9 shX12_worthOf_24) ub_5) (lvA0 hl) ?_
        have kb_1 : i12 < 10 := by (first | omega | (have zz0 := Hid.u hi_cn; omega))
        refine ldM_5 hx hb hK hP (x := ((Fn 5) i12)) (vp_in_nI kb_1 (ltb rfl)) (nI_clamp (Nat.lt_trans kb_1 (ltb rfl))) rfl (oc_46 35 (aq_11 shX12_worthOf_24)) ?_
        refine lv_imul hx hb (oc_104 36 (aq_12 shX12_worthOf_24)) ?_
        refine lv_iload_n hx hb (oc_28 37 (aq_13 shX12_worthOf_24)) rfl (lvA5 hl) ?_
        refine lv_iload_n hx hb (oc_27 38 (aq_14 shX12_worthOf_24)) rfl (lvA4 hl) ?_
        refine lv_isub hx hb (oc_100 39 (aq_15 shX12_worthOf_24)) ?_
        refine lv_imul hx hb (oc_104 40 (aq_16 shX12_worthOf_24)) ?_
        refine lv_iadd hx hb (oc_96 41 (aq_17 shX12_worthOf_24)) ?_
        refine lv_istore (lv' := [(4, .int (x12_4 + ((((r_1 >>> ((nI i12) &&& 31)) &&& 1) * ((Fn 5) i12)) * (v1 - v0)))), (5, .int (nI i12)), (3, .int r_1), (0, .ref (g 100)), (1, .int v0), (2, .int v1)]) hx hb (oc_54 42 (aq_18 shX12_worthOf_24) ub_4) hl (ltb rfl) rfl (fun ls hl => ?_)
        refine lv_iinc (v := (nI (i12 + 1))) (lv' := [(5, .int (nI (i12 + 1))), (4, .int (x12_4 + ((((r_1 >>> ((nI i12) &&& 31)) &&& 1) * ((Fn 5) i12)) * (v1 - v0)))), (3, .int r_1), (0, .ref (g 100)), (1, .int v0), (2, .int v1)]) hx hb (oc_132 44 (aq_20 shX12_worthOf_24) ub_5 sgb_1) hl (k := 1) rfl (nI_1 _) (ltb rfl) rfl (fun ls hl => ?_)
        refine lv_goto (tgt := 12) hx hb (oc_167 47 (aq_23 shX12_worthOf_24) sgw_255_221) rfl ?_
        exact ih12 (i12 + 1) (x12_4 + ((((r_1 >>> ((nI i12) &&& 31)) &&& 1) * ((Fn 5) i12)) * (v1 - v0))) (by (first | omega | (have zz0 := Hid.u hi_cn; omega))) (by (first | omega | (have zz0 := Hid.u hi_cn; omega))) ls (lv_sub hl [0, 1, 2, 3, 4, 5] rfl)
  exact lp_12 _ 0 0 (Nat.lt_succ_self _) (by (first | omega | (have zz0 := Hid.u hi_cn; omega))) ls (lv_sub hl [0, 1, 2, 3, 4, 5] rfl)
set_option maxRecDepth 100000 in
set_option maxHeartbeats 4000000 in
theorem q_worth (l : Launch) (D : va_G) (cI cB cZ : ClassId) (g : Nat → Nat) (cn : Nat → Nat) (In : Nat → Int32) (Fn : Nat → Nat → Int32) (v0 v1 : Int32) (hI : IM cn Fn) : Met l yX12_worth (CWS yX12_worth cX12_worth 3 (some .int)) (RM 2 0 0) (PBr [.ref (g 100), .int v0, .int v1] D cI cB cZ (wM cI cB cZ g cn In Fn)) (vp_Si (fun _ => True)) 0 0 (fun _ => False) := by
  refine en_r rfl pn_RX12 (Nat.le_of_ble_eq_true rfl) (fun p e s m below meth c hx hb hml hown S hr hlocks hnm hP hK hS ls hl => ?_)
  have hl : lv_has ls 3 [(0, .ref (g 100)), (1, .int v0), (2, .int v1)] := hl
  have hi_cn : Hid (CB cn) := hI.b
  refine lv_iload_n hx hb (oc_27 0 shX12_worth_0) rfl (lvA1 hl) ?_
  refine lv_iconst (v := 0) hx hb (oc_3 1 (aq_1 shX12_worth_0)) kic_0 ?_
  refine lv_sipush (v := 200) hx hb (oc_17 2 (aq_2 shX12_worth_0) sgw_0_200) (by decide) ?_
  refine vp_callSi (runS_r (As := [.int v0, .int 0, .int 200]) (rest := []) S (q_in l D cI cB cZ v0 0 200 ) kS_RX12_214 hK hP [] rfl ⟨Nat.le_of_ble_eq_true rfl, Nat.le_of_ble_eq_true rfl⟩ ⟨Nat.le_of_ble_eq_true rfl, Nat.le_of_ble_eq_true rfl⟩ rfl hl.1 rfl (Nat.le_of_ble_eq_true rfl) (oc_184 5 (aq_5 shX12_worth_0) uw_0_214)) (fun r_1 h_2 => ?_)
  rcases h_2 with ⟨rfl, h_2⟩ | ⟨rfl, h_2⟩
  ·
    have h_2 : 0 ≤ v0.toInt ∧ v0.toInt ≤ 200 := h_2
    refine lv_if_eq (tgt := 31) hx hb (oc_153 8 (aq_8 shX12_worth_0) sgw_0_23) rfl (fun h => absurd h cq_eq_1_0) (fun _ => ?_)
    refine lv_iload_n hx hb (oc_28 11 (aq_11 shX12_worth_0)) rfl (lvA2 hl) ?_
    refine lv_iconst (v := 0) hx hb (oc_3 12 (aq_12 shX12_worth_0)) kic_0 ?_
    refine lv_sipush (v := 1000) hx hb (oc_17 13 (aq_13 shX12_worth_0) sgw_3_232) (by decide) ?_
    refine vp_callSi (runS_r (As := [.int v1, .int 0, .int 1000]) (rest := []) S (q_in l D cI cB cZ v1 0 1000 ) kS_RX12_214 hK hP [] rfl ⟨Nat.le_of_ble_eq_true rfl, Nat.le_of_ble_eq_true rfl⟩ ⟨Nat.le_of_ble_eq_true rfl, Nat.le_of_ble_eq_true rfl⟩ rfl hl.1 rfl (Nat.le_of_ble_eq_true rfl) (oc_184 16 (aq_16 shX12_worth_0) uw_0_214)) (fun r_3 h_4 => ?_)
    rcases h_4 with ⟨rfl, h_4⟩ | ⟨rfl, h_4⟩
    ·
      have h_4 : 0 ≤ v1.toInt ∧ v1.toInt ≤ 1000 := h_4
      refine lv_if_eq (tgt := 31) hx hb (oc_153 19 (aq_19 shX12_worth_0) sgw_0_12) rfl (fun h => absurd h cq_eq_1_0) (fun _ => ?_)
      refine lv_aload_n hx hb (oc_42 22 (aq_22 shX12_worth_0)) rfl (lvA0 hl) ?_
      refine lv_iload_n hx hb (oc_27 23 (aq_23 shX12_worth_0)) rfl (lvA1 hl) ?_
      refine lv_iload_n hx hb (oc_28 24 shX12_worth_24) rfl (lvA2 hl) ?_
      refine vp_callSi (runV_ra (As := [.int v0, .int v1]) (rest := []) S (q_worthOf l D cI cB cZ g cn In Fn v0 v1 hI) kV_RX12_472 hK hP 0 rfl rfl rfl ⟨Nat.le_of_ble_eq_true rfl, Nat.le_of_ble_eq_true rfl⟩ ⟨Nat.le_of_ble_eq_true rfl, Nat.le_of_ble_eq_true rfl⟩ rfl hl.1 rfl (Nat.le_of_ble_eq_true rfl) (oc_182 25 (aq_1 shX12_worth_24) uw_1_216)) (fun r_5 h_6 => ?_)
      refine lv_goto (tgt := 34) hx hb (oc_167 28 (aq_4 shX12_worth_24) sgw_0_6) rfl ?_
      exact W.iret (v := r_5) hx hb hr (fun t ht hW => ⟨r_5, rfl, trivial, ht⟩) (fun _ h => absurd h List.not_mem_nil) (oc_172 34 (aq_10 shX12_worth_24))
    ·
      have h_4 : ¬ (0 ≤ v1.toInt ∧ v1.toInt ≤ 1000) := h_4
      refine lv_if_eq (tgt := 31) hx hb (oc_153 19 (aq_19 shX12_worth_0) sgw_0_12) rfl (fun _ => ?_) (fun h => absurd h cq_eq_0_0)
      refine lv_ldcw (v := (-1000000)) hx hb hown (S.2.2.2.2 _ (wk9_5 5 rfl rfl)) (oc_19 31 (aq_7 shX12_worth_24) uw_1_212) ?_
      exact W.iret (v := (-1000000)) hx hb hr (fun t ht hW => ⟨(-1000000), rfl, trivial, ht⟩) (fun _ h => absurd h List.not_mem_nil) (oc_172 34 (aq_10 shX12_worth_24))
  ·
    have h_2 : ¬ (0 ≤ v0.toInt ∧ v0.toInt ≤ 200) := h_2
    refine lv_if_eq (tgt := 31) hx hb (oc_153 8 (aq_8 shX12_worth_0) sgw_0_23) rfl (fun _ => ?_) (fun h => absurd h cq_eq_0_0)
    refine lv_ldcw (v := (-1000000)) hx hb hown (S.2.2.2.2 _ (wk9_5 5 rfl rfl)) (oc_19 31 (aq_7 shX12_worth_24) uw_1_212) ?_
    exact W.iret (v := (-1000000)) hx hb hr (fun t ht hW => ⟨(-1000000), rfl, trivial, ht⟩) (fun _ h => absurd h List.not_mem_nil) (oc_172 34 (aq_10 shX12_worth_24))
set_option maxRecDepth 100000 in
set_option maxHeartbeats 4000000 in
theorem q_offer (l : Launch) (D : va_G) (cI cB cZ : ClassId) (g : Nat → Nat) (cn : Nat → Nat) (In : Nat → Int32) (Fn : Nat → Nat → Int32) (v0 v1 : Int32) (hI : IM cn Fn) : Met l yX12_offer (CWS yX12_offer cX12_offer 5 (some .int)) (RM 2 0 0) (PBr [.ref (g 100), .int v0, .int v1] D cI cB cZ (wM cI cB cZ g cn In Fn)) (vp_Si (fun _ => True)) 0 0 (fun _ => False) := by
  refine en_r rfl pn_RX12 (Nat.le_of_ble_eq_true rfl) (fun p e s m below meth c hx hb hml hown S hr hlocks hnm hP hK hS ls hl => ?_)
  have hl : lv_has ls 5 [(0, .ref (g 100)), (1, .int v0), (2, .int v1)] := hl
  have hi_cn : Hid (CB cn) := hI.b
  refine lv_iload_n hx hb (oc_27 0 shX12_offer_0) rfl (lvA1 hl) ?_
  refine lv_iconst (v := 0) hx hb (oc_3 1 (aq_1 shX12_offer_0)) kic_0 ?_
  refine lv_sipush (v := 1000) hx hb (oc_17 2 (aq_2 shX12_offer_0) sgw_3_232) (by decide) ?_
  refine vp_callSi (runS_r (As := [.int v0, .int 0, .int 1000]) (rest := []) S (q_in l D cI cB cZ v0 0 1000 ) kS_RX12_214 hK hP [] rfl ⟨Nat.le_of_ble_eq_true rfl, Nat.le_of_ble_eq_true rfl⟩ ⟨Nat.le_of_ble_eq_true rfl, Nat.le_of_ble_eq_true rfl⟩ rfl hl.1 rfl (Nat.le_of_ble_eq_true rfl) (oc_184 5 (aq_5 shX12_offer_0) uw_0_214)) (fun r_1 h_2 => ?_)
  rcases h_2 with ⟨rfl, h_2⟩ | ⟨rfl, h_2⟩
  ·
    have h_2 : 0 ≤ v0.toInt ∧ v0.toInt ≤ 1000 := h_2
    refine lv_if_eq (tgt := 20) hx hb (oc_153 8 (aq_8 shX12_offer_0) sgw_0_12) rfl (fun h => absurd h cq_eq_1_0) (fun _ => ?_)
    refine lv_iload_n hx hb (oc_28 11 (aq_11 shX12_offer_0)) rfl (lvA2 hl) ?_
    refine lv_iconst (v := 0) hx hb (oc_3 12 (aq_12 shX12_offer_0)) kic_0 ?_
    refine lv_iconst (v := 2) hx hb (oc_5 13 (aq_13 shX12_offer_0)) kic_2 ?_
    refine vp_callSi (runS_r (As := [.int v1, .int 0, .int 2]) (rest := []) S (q_in l D cI cB cZ v1 0 2 ) kS_RX12_214 hK hP [] rfl ⟨Nat.le_of_ble_eq_true rfl, Nat.le_of_ble_eq_true rfl⟩ ⟨Nat.le_of_ble_eq_true rfl, Nat.le_of_ble_eq_true rfl⟩ rfl hl.1 rfl (Nat.le_of_ble_eq_true rfl) (oc_184 14 (aq_14 shX12_offer_0) uw_0_214)) (fun r_3 h_4 => ?_)
    rcases h_4 with ⟨rfl, h_4⟩ | ⟨rfl, h_4⟩
    ·
      have h_4 : 0 ≤ v1.toInt ∧ v1.toInt ≤ 2 := h_4
      refine lv_if_ne (tgt := 22) hx hb (oc_154 17 (aq_17 shX12_offer_0) sgw_0_5) rfl (fun _ => ?_) (fun h => absurd h cq_eq_1_0)
      refine lv_iconst (v := 0) hx hb (oc_3 22 (aq_22 shX12_offer_0)) kic_0 ?_
      refine lv_istore_n (lv' := [(3, .int 0), (0, .ref (g 100)), (1, .int v0), (2, .int v1)]) hx hb (oc_62 23 (aq_23 shX12_offer_0)) rfl hl (ltb rfl) rfl (fun ls hl => ?_)
      refine lv_iconst (v := 1) hx hb (oc_4 24 shX12_offer_24) kic_1 ?_
      refine lv_istore (lv' := [(4, .int 1), (3, .int 0), (0, .ref (g 100)), (1, .int v0), (2, .int v1)]) hx hb (oc_54 25 (aq_1 shX12_offer_24) ub_4) hl (ltb rfl) rfl (fun ls hl => ?_)
      have lp_27 : ∀ (n : Nat) (i27 : Nat) (x27_3 : Int32) , 201 - i27 < n → (i27 ≤ 201) → ∀ ls : Array Slot, lv_has ls 5 [(4, .int (nI i27)), (3, .int x27_3), (0, .ref (g 100)), (1, .int v0), (2, .int v1)] → W p l e (RM 2 0 0) s m ([.ref (g 100), .int v0, .int v1]).toArray below meth c s.heap [] 0 0 (MQ below (vp_Si (fun _ => True)) ([.ref (g 100), .int v0, .int v1]).toArray s 0 0 (fun _ => False)) (F0 m 27 ls []) := by
        intro n27
        induction n27 with
        | zero => intros; (first | omega | (have zz0 := Hid.u hi_cn; omega))
        | succ n27 ih27 =>
          intro i27 x27_3 hmu27 hinv27 ls hl
          have hr27 := hinv27
          have ti27 : (nI i27).toInt = (i27 : Int) := nI_toInt (by (first | omega | (have zz0 := Hid.u hi_cn; omega)))
          refine lv_iload hx hb (oc_21 27 (aq_3 shX12_offer_24) ub_4) (lvA0 hl) ?_
          refine lv_sipush (v := 200) hx hb (oc_17 29 (aq_5 shX12_offer_24) sgw_0_200) (by decide) ?_
          refine lv_icmp_gt (tgt := 64) hx hb (oc_163 32 (aq_8 shX12_offer_24) sgw_0_32) rfl (fun c_5 => ?_) (fun c_5 => ?_)
          ·
            have tc_5 : (200 : Int) < (nI i27).toInt := Int32.lt_iff_toInt_lt.mp c_5
            refine lv_iload_n hx hb (oc_28 64 (aq_16 shX12_offer_48)) rfl (lvA4 hl) ?_
            refine lv_if_ne (tgt := 72) hx hb (oc_154 65 (aq_17 shX12_offer_48) sgw_0_7) rfl (fun c_6 => ?_) (fun c_6 => ?_)
            ·
              have tc_6 : (v1.toInt : Int) ≠ 0 := fun q => c_6 (Int32.toInt_inj.mp q)
              refine lv_iload_n hx hb (oc_28 72 shX12_offer_72) rfl (lvA4 hl) ?_
              refine lv_iconst (v := 1) hx hb (oc_4 73 (aq_1 shX12_offer_72)) kic_1 ?_
              refine lv_icmp_ne (tgt := 86) hx hb (oc_160 74 (aq_2 shX12_offer_72) sgw_0_12) rfl (fun c_7 => ?_) (fun c_7 => ?_)
              ·
                have tc_7 : (v1.toInt : Int) ≠ 1 := fun q => c_7 (Int32.toInt_inj.mp q)
                refine lv_aload_n hx hb (oc_42 86 (aq_14 shX12_offer_72)) rfl (lvA2 hl) ?_
                refine lv_iload_n hx hb (oc_29 87 (aq_15 shX12_offer_72)) rfl (lvA1 hl) ?_
                refine vp_callSi (runV_ra (As := [.int x27_3]) (rest := []) S (q_comers l D cI cB cZ g cn In Fn x27_3 hI) kV_RX12_469 hK hP 0 rfl rfl rfl ⟨Nat.le_of_ble_eq_true rfl, Nat.le_of_ble_eq_true rfl⟩ ⟨Nat.le_of_ble_eq_true rfl, Nat.le_of_ble_eq_true rfl⟩ rfl hl.1 rfl (Nat.le_of_ble_eq_true rfl) (oc_182 88 (aq_16 shX12_offer_72) uw_1_213)) (fun r_8 h_9 => ?_)
                exact W.iret (v := r_8) hx hb hr (fun t ht hW => ⟨r_8, rfl, trivial, ht⟩) (fun _ h => absurd h List.not_mem_nil) (oc_172 91 (aq_19 shX12_offer_72))
              ·
                have tc_7 : (v1.toInt : Int) = 1 := congrArg Int32.toInt c_7
                refine lv_aload_n hx hb (oc_42 77 (aq_5 shX12_offer_72)) rfl (lvA2 hl) ?_
                refine lv_iload_n hx hb (oc_29 78 (aq_6 shX12_offer_72)) rfl (lvA1 hl) ?_
                refine lv_iload_n hx hb (oc_27 79 (aq_7 shX12_offer_72)) rfl (lvA3 hl) ?_
                refine vp_callSi (runV_ra (As := [.int x27_3, .int v0]) (rest := []) S (q_worthOf l D cI cB cZ g cn In Fn x27_3 v0 hI) kV_RX12_472 hK hP 0 rfl rfl rfl ⟨Nat.le_of_ble_eq_true rfl, Nat.le_of_ble_eq_true rfl⟩ ⟨Nat.le_of_ble_eq_true rfl, Nat.le_of_ble_eq_true rfl⟩ rfl hl.1 rfl (Nat.le_of_ble_eq_true rfl) (oc_182 80 (aq_8 shX12_offer_72) uw_1_216)) (fun r_10 h_11 => ?_)
                refine lv_goto (tgt := 91) hx hb (oc_167 83 (aq_11 shX12_offer_72) sgw_0_8) rfl ?_
                exact W.iret (v := r_10) hx hb hr (fun t ht hW => ⟨r_10, rfl, trivial, ht⟩) (fun _ h => absurd h List.not_mem_nil) (oc_172 91 (aq_19 shX12_offer_72))
            ·
              have tc_6 : (v1.toInt : Int) = 0 := congrArg Int32.toInt c_6
              refine lv_iload_n hx hb (oc_29 68 (aq_20 shX12_offer_48)) rfl (lvA1 hl) ?_
              refine lv_goto (tgt := 91) hx hb (oc_167 69 (aq_21 shX12_offer_48) sgw_0_22) rfl ?_
              exact W.iret (v := x27_3) hx hb hr (fun t ht hW => ⟨x27_3, rfl, trivial, ht⟩) (fun _ h => absurd h List.not_mem_nil) (oc_172 91 (aq_19 shX12_offer_72))
          ·
            have tc_5 : ((nI i27).toInt : Int) ≤ 200 := Int32.le_iff_toInt_le.mp (Int32.not_lt.mp c_5)
            refine lv_aload_n hx hb (oc_42 35 (aq_11 shX12_offer_24)) rfl (lvA2 hl) ?_
            refine lv_iload hx hb (oc_21 36 (aq_12 shX12_offer_24) ub_4) (lvA0 hl) ?_
            refine lv_iload_n hx hb (oc_27 38 (aq_14 shX12_offer_24)) rfl (lvA3 hl) ?_
            refine vp_callSi (runV_ra (As := [.int (nI i27), .int v0]) (rest := []) S (q_worthOf l D cI cB cZ g cn In Fn (nI i27) v0 hI) kV_RX12_472 hK hP 0 rfl rfl rfl ⟨Nat.le_of_ble_eq_true rfl, Nat.le_of_ble_eq_true rfl⟩ ⟨Nat.le_of_ble_eq_true rfl, Nat.le_of_ble_eq_true rfl⟩ rfl hl.1 rfl (Nat.le_of_ble_eq_true rfl) (oc_182 39 (aq_15 shX12_offer_24) uw_1_216)) (fun r_12 h_13 => ?_)
            refine lv_aload_n hx hb (oc_42 42 (aq_18 shX12_offer_24)) rfl (lvA2 hl) ?_
            refine lv_iload_n hx hb (oc_29 43 (aq_19 shX12_offer_24)) rfl (lvA1 hl) ?_
            refine lv_iload_n hx hb (oc_27 44 (aq_20 shX12_offer_24)) rfl (lvA3 hl) ?_
            refine vp_callSi (runV_ra (As := [.int x27_3, .int v0]) (rest := [.int r_12]) S (q_worthOf l D cI cB cZ g cn In Fn x27_3 v0 hI) kV_RX12_472 hK hP 0 rfl rfl rfl ⟨Nat.le_of_ble_eq_true rfl, Nat.le_of_ble_eq_true rfl⟩ ⟨Nat.le_of_ble_eq_true rfl, Nat.le_of_ble_eq_true rfl⟩ rfl hl.1 rfl (Nat.le_of_ble_eq_true rfl) (oc_182 45 (aq_21 shX12_offer_24) uw_1_216)) (fun r_14 h_15 => ?_)
            refine lv_icmp_le (tgt := 56) hx hb (oc_164 48 shX12_offer_48 sgw_0_8) rfl (fun c_16 => ?_) (fun c_16 => ?_)
            ·
              have tc_16 : (r_12.toInt : Int) ≤ r_14.toInt := Int32.le_iff_toInt_le.mp c_16
              refine lv_iload_n hx hb (oc_29 56 (aq_8 shX12_offer_48)) rfl (lvA1 hl) ?_
              refine lv_istore_n (lv' := [(3, .int x27_3), (4, .int (nI i27)), (0, .ref (g 100)), (1, .int v0), (2, .int v1)]) hx hb (oc_62 57 (aq_9 shX12_offer_48)) rfl hl (ltb rfl) rfl (fun ls hl => ?_)
              refine lv_iinc (v := (nI (i27 + 1))) (lv' := [(4, .int (nI (i27 + 1))), (3, .int x27_3), (0, .ref (g 100)), (1, .int v0), (2, .int v1)]) hx hb (oc_132 58 (aq_10 shX12_offer_48) ub_4 sgb_1) hl (k := 1) rfl (nI_1 _) (ltb rfl) rfl (fun ls hl => ?_)
              refine lv_goto (tgt := 27) hx hb (oc_167 61 (aq_13 shX12_offer_48) sgw_255_222) rfl ?_
              exact ih27 (i27 + 1) x27_3 (by (first | omega | (have zz0 := Hid.u hi_cn; omega))) (by (first | omega | (have zz0 := Hid.u hi_cn; omega))) ls (lv_sub hl [0, 1, 2, 3, 4] rfl)
            ·
              have tc_16 : (r_14.toInt : Int) < r_12.toInt := Int32.lt_iff_toInt_lt.mp (Int32.not_le.mp c_16)
              refine lv_iload hx hb (oc_21 51 (aq_3 shX12_offer_48) ub_4) (lvA0 hl) ?_
              refine lv_goto (tgt := 57) hx hb (oc_167 53 (aq_5 shX12_offer_48) sgw_0_4) rfl ?_
              refine lv_istore_n (lv' := [(3, .int (nI i27)), (4, .int (nI i27)), (0, .ref (g 100)), (1, .int v0), (2, .int v1)]) hx hb (oc_62 57 (aq_9 shX12_offer_48)) rfl hl (ltb rfl) rfl (fun ls hl => ?_)
              refine lv_iinc (v := (nI (i27 + 1))) (lv' := [(4, .int (nI (i27 + 1))), (3, .int (nI i27)), (0, .ref (g 100)), (1, .int v0), (2, .int v1)]) hx hb (oc_132 58 (aq_10 shX12_offer_48) ub_4 sgb_1) hl (k := 1) rfl (nI_1 _) (ltb rfl) rfl (fun ls hl => ?_)
              refine lv_goto (tgt := 27) hx hb (oc_167 61 (aq_13 shX12_offer_48) sgw_255_222) rfl ?_
              exact ih27 (i27 + 1) (nI i27) (by (first | omega | (have zz0 := Hid.u hi_cn; omega))) (by (first | omega | (have zz0 := Hid.u hi_cn; omega))) ls (lv_sub hl [0, 1, 2, 3, 4] rfl)
      exact lp_27 _ 1 0 (Nat.lt_succ_self _) (by (first | omega | (have zz0 := Hid.u hi_cn; omega))) ls (lv_sub hl [0, 1, 2, 3, 4] rfl)
    ·
      have h_4 : ¬ (0 ≤ v1.toInt ∧ v1.toInt ≤ 2) := h_4
      refine lv_if_ne (tgt := 22) hx hb (oc_154 17 (aq_17 shX12_offer_0) sgw_0_5) rfl (fun h => absurd h cq_eq_0_0) (fun _ => ?_)
      refine lv_iconst (v := (-1)) hx hb (oc_2 20 (aq_20 shX12_offer_0)) kic_m1 ?_
      exact W.iret (v := (-1)) hx hb hr (fun t ht hW => ⟨(-1), rfl, trivial, ht⟩) (fun _ h => absurd h List.not_mem_nil) (oc_172 21 (aq_21 shX12_offer_0))
  ·
    have h_2 : ¬ (0 ≤ v0.toInt ∧ v0.toInt ≤ 1000) := h_2
    refine lv_if_eq (tgt := 20) hx hb (oc_153 8 (aq_8 shX12_offer_0) sgw_0_12) rfl (fun _ => ?_) (fun h => absurd h cq_eq_0_0)
    refine lv_iconst (v := (-1)) hx hb (oc_2 20 (aq_20 shX12_offer_0)) kic_m1 ?_
    exact W.iret (v := (-1)) hx hb hr (fun t ht hW => ⟨(-1), rfl, trivial, ht⟩) (fun _ h => absurd h List.not_mem_nil) (oc_172 21 (aq_21 shX12_offer_0))
set_option maxRecDepth 100000 in
set_option maxHeartbeats 4000000 in
theorem q_saves (l : Launch) (D : va_G) (cI cB cZ : ClassId) (g : Nat → Nat) (cn : Nat → Nat) (In : Nat → Int32) (Fn : Nat → Nat → Int32) (k n0 : Nat) (hI : IM cn Fn) (hk : k < 24) (hn : n0 ≤ 12) : Met l yX12_saves (CWS yX12_saves cX12_saves 5 (some .int)) (RM 0 0 0) (PBr [.ref (g 100), .int (nI k), .int (nI n0)] D cI cB cZ (wM cI cB cZ g cn In Fn)) (vp_Si (fun _ => True)) 0 0 (fun _ => False) := by
  refine en_r rfl pn_RX12 (Nat.le_of_ble_eq_true rfl) (fun p e s m below meth c hx hb hml hown S hr hlocks hnm hP hK hS ls hl => ?_)
  have hl : lv_has ls 5 [(0, .ref (g 100)), (1, .int (nI k)), (2, .int (nI n0))] := hl
  have hi_cn : Hid (CB cn) := hI.b
  refine lv_iconst (v := 0) hx hb (oc_3 0 shX12_saves_0) kic_0 ?_
  refine lv_istore_n (lv' := [(3, .int 0), (0, .ref (g 100)), (1, .int (nI k)), (2, .int (nI n0))]) hx hb (oc_62 1 (aq_1 shX12_saves_0)) rfl hl (ltb rfl) rfl (fun ls hl => ?_)
  refine lv_iconst (v := 0) hx hb (oc_3 2 (aq_2 shX12_saves_0)) kic_0 ?_
  refine lv_istore (lv' := [(4, .int 0), (3, .int 0), (0, .ref (g 100)), (1, .int (nI k)), (2, .int (nI n0))]) hx hb (oc_54 3 (aq_3 shX12_saves_0) ub_4) hl (ltb rfl) rfl (fun ls hl => ?_)
  have lp_5 : ∀ (n : Nat) (i5 : Nat) (x5_3 : Int32) , n0 - i5 < n → (i5 ≤ n0) → ∀ ls : Array Slot, lv_has ls 5 [(4, .int (nI i5)), (3, .int x5_3), (0, .ref (g 100)), (1, .int (nI k)), (2, .int (nI n0))] → W p l e (RM 0 0 0) s m ([.ref (g 100), .int (nI k), .int (nI n0)]).toArray below meth c s.heap [] 0 0 (MQ below (vp_Si (fun _ => True)) ([.ref (g 100), .int (nI k), .int (nI n0)]).toArray s 0 0 (fun _ => False)) (F0 m 5 ls []) := by
    intro n5
    induction n5 with
    | zero => intros; (first | omega | (have zz0 := Hid.u hi_cn; omega))
    | succ n5 ih5 =>
      intro i5 x5_3 hmu5 hinv5 ls hl
      have hr5 := hinv5
      have ti5 : (nI i5).toInt = (i5 : Int) := nI_toInt (by (first | omega | (have zz0 := Hid.u hi_cn; omega)))
      refine lv_iload hx hb (oc_21 5 (aq_5 shX12_saves_0) ub_4) (lvA0 hl) ?_
      refine lv_iload_n hx hb (oc_28 7 (aq_7 shX12_saves_0)) rfl (lvA4 hl) ?_
      have : (nI n0).toInt = ((n0 : Nat) : Int) := nI_toInt (by (first | omega | (have zz0 := Hid.u hi_cn; omega)))
      refine lv_icmp_ge (tgt := 32) hx hb (oc_162 8 (aq_8 shX12_saves_0) sgw_0_24) rfl (fun c_1 => ?_) (fun c_1 => ?_)
      ·
        have tc_1 : ((nI n0).toInt : Int) ≤ (nI i5).toInt := Int32.le_iff_toInt_le.mp c_1
        refine lv_iload_n hx hb (oc_29 32 (aq_8 shX12_saves_24)) rfl (lvA1 hl) ?_
        exact W.iret (v := x5_3) hx hb hr (fun t ht hW => ⟨x5_3, rfl, trivial, ht⟩) (fun _ h => absurd h List.not_mem_nil) (oc_172 33 (aq_9 shX12_saves_24))
      ·
        have tc_1 : ((nI i5).toInt : Int) < (nI n0).toInt := Int32.lt_iff_toInt_lt.mp (Int32.not_le.mp c_1)
        refine lv_iload_n hx hb (oc_29 11 (aq_11 shX12_saves_0)) rfl (lvA1 hl) ?_
        refine lv_aload_n hx hb (oc_42 12 (aq_12 shX12_saves_0)) rfl (lvA2 hl) ?_
        refine gM_189 S hK hP (v := .ref (g 86)) rfl (oc_180 13 (aq_13 shX12_saves_0) uw_0_189) ?_
        refine lv_iload_n hx hb (oc_27 16 (aq_16 shX12_saves_0)) rfl (lvA3 hl) ?_
        refine lv_iload hx hb (oc_21 17 (aq_17 shX12_saves_0) ub_4) (lvA0 hl) ?_
        refine lv_iadd hx hb (oc_96 19 (aq_19 shX12_saves_0)) ?_
        refine lv_topi (fun y_2 ey_2 => ?_)
        obtain rfl : y_2 = (nI (k + i5)) := ey_2.trans (nI_add k i5)
        refine lv_bipush (v := 24) hx hb (oc_16 20 (aq_20 shX12_saves_0) sgb_24) kbc_24 ?_
        refine lv_irem hx hb (oc_112 22 (aq_22 shX12_saves_0)) (by decide) ?_
        refine lv_topi (fun y_3 ey_3 => ?_)
        obtain rfl : y_3 = (nI ((k + i5) % 24)) := ey_3.trans (nI_rem (by (first | omega | (have zz0 := Hid.u hi_cn; omega))) (by decide))
        have kb_1 : ((k + i5) % 24) < 24 := by (first | omega | (have zz0 := Hid.u hi_cn; omega))
        refine ldM_86 hx hb hK hP (x := ((Fn 86) ((k + i5) % 24))) (vp_in_nI kb_1 (ltb rfl)) (nI_clamp (Nat.lt_trans kb_1 (ltb rfl))) rfl (oc_46 23 (aq_23 shX12_saves_0)) ?_
        refine lv_iadd hx hb (oc_96 24 shX12_saves_24) ?_
        refine lv_istore_n (lv' := [(3, .int (x5_3 + ((Fn 86) ((k + i5) % 24)))), (4, .int (nI i5)), (0, .ref (g 100)), (1, .int (nI k)), (2, .int (nI n0))]) hx hb (oc_62 25 (aq_1 shX12_saves_24)) rfl hl (ltb rfl) rfl (fun ls hl => ?_)
        refine lv_iinc (v := (nI (i5 + 1))) (lv' := [(4, .int (nI (i5 + 1))), (3, .int (x5_3 + ((Fn 86) ((k + i5) % 24)))), (0, .ref (g 100)), (1, .int (nI k)), (2, .int (nI n0))]) hx hb (oc_132 26 (aq_2 shX12_saves_24) ub_4 sgb_1) hl (k := 1) rfl (nI_1 _) (ltb rfl) rfl (fun ls hl => ?_)
        refine lv_goto (tgt := 5) hx hb (oc_167 29 (aq_5 shX12_saves_24) sgw_255_232) rfl ?_
        exact ih5 (i5 + 1) (x5_3 + ((Fn 86) ((k + i5) % 24))) (by (first | omega | (have zz0 := Hid.u hi_cn; omega))) (by (first | omega | (have zz0 := Hid.u hi_cn; omega))) ls (lv_sub hl [0, 1, 2, 3, 4] rfl)
  exact lp_5 _ 0 0 (Nat.lt_succ_self _) (by (first | omega | (have zz0 := Hid.u hi_cn; omega))) ls (lv_sub hl [0, 1, 2, 3, 4] rfl)
set_option maxRecDepth 100000 in
set_option maxHeartbeats 4000000 in
theorem q_lock (l : Launch) (D : va_G) (cI cB cZ : ClassId) (g : Nat → Nat) (cn : Nat → Nat) (In : Nat → Int32) (Fn : Nat → Nat → Int32) (v0 v1 : Int32) (hI : IM cn Fn) : Met l yX12_lock (CWS yX12_lock cX12_lock 5 (some .int)) (RM 1 0 0) (PBr [.ref (g 100), .int v0, .int v1] D cI cB cZ (wM cI cB cZ g cn In Fn)) (vp_Si (fun _ => True)) 0 0 (fun _ => False) := by
  refine en_r rfl pn_RX12 (Nat.le_of_ble_eq_true rfl) (fun p e s m below meth c hx hb hml hown S hr hlocks hnm hP hK hS ls hl => ?_)
  have hl : lv_has ls 5 [(0, .ref (g 100)), (1, .int v0), (2, .int v1)] := hl
  have hi_cn : Hid (CB cn) := hI.b
  refine lv_iload_n hx hb (oc_27 0 shX12_lock_0) rfl (lvA1 hl) ?_
  refine lv_iconst (v := 1) hx hb (oc_4 1 (aq_1 shX12_lock_0)) kic_1 ?_
  refine lv_bipush (v := 12) hx hb (oc_16 2 (aq_2 shX12_lock_0) sgb_12) kbc_12 ?_
  refine vp_callSi (runS_r (As := [.int v0, .int 1, .int 12]) (rest := []) S (q_in l D cI cB cZ v0 1 12 ) kS_RX12_214 hK hP [] rfl ⟨Nat.le_of_ble_eq_true rfl, Nat.le_of_ble_eq_true rfl⟩ ⟨Nat.le_of_ble_eq_true rfl, Nat.le_of_ble_eq_true rfl⟩ rfl hl.1 rfl (Nat.le_of_ble_eq_true rfl) (oc_184 4 (aq_4 shX12_lock_0) uw_0_214)) (fun r_1 h_2 => ?_)
  rcases h_2 with ⟨rfl, h_2⟩ | ⟨rfl, h_2⟩
  ·
    have h_2 : 1 ≤ v0.toInt ∧ v0.toInt ≤ 12 := h_2
    refine lv_if_eq (tgt := 19) hx hb (oc_153 7 (aq_7 shX12_lock_0) sgw_0_12) rfl (fun h => absurd h cq_eq_1_0) (fun _ => ?_)
    obtain ⟨d0, hd0, rfl⟩ := nI_of (x := v0) (fun q => by have := Int32.lt_iff_toInt_lt.mp q; have e : (0 : Int32).toInt = 0 := rfl; (first | omega | (have zz0 := Hid.u hi_cn; omega)))
    have td0 : (nI d0).toInt = (d0 : Int) := nI_toInt hd0
    have zd0 : (nI d0).toInt.toNat = d0 := by (first | omega | (have zz0 := Hid.u hi_cn; omega))
    refine lv_iload_n hx hb (oc_28 10 (aq_10 shX12_lock_0)) rfl (lvA2 hl) ?_
    refine lv_iconst (v := 0) hx hb (oc_3 11 (aq_11 shX12_lock_0)) kic_0 ?_
    refine lv_iconst (v := 1) hx hb (oc_4 12 (aq_12 shX12_lock_0)) kic_1 ?_
    refine vp_callSi (runS_r (As := [.int v1, .int 0, .int 1]) (rest := []) S (q_in l D cI cB cZ v1 0 1 ) kS_RX12_214 hK hP [] rfl ⟨Nat.le_of_ble_eq_true rfl, Nat.le_of_ble_eq_true rfl⟩ ⟨Nat.le_of_ble_eq_true rfl, Nat.le_of_ble_eq_true rfl⟩ rfl hl.1 rfl (Nat.le_of_ble_eq_true rfl) (oc_184 13 (aq_13 shX12_lock_0) uw_0_214)) (fun r_3 h_4 => ?_)
    rcases h_4 with ⟨rfl, h_4⟩ | ⟨rfl, h_4⟩
    ·
      have h_4 : 0 ≤ v1.toInt ∧ v1.toInt ≤ 1 := h_4
      refine lv_if_ne (tgt := 21) hx hb (oc_154 16 (aq_16 shX12_lock_0) sgw_0_5) rfl (fun _ => ?_) (fun h => absurd h cq_eq_1_0)
      refine lv_iconst (v := 0) hx hb (oc_3 21 (aq_21 shX12_lock_0)) kic_0 ?_
      refine lv_istore_n (lv' := [(3, .int 0), (0, .ref (g 100)), (1, .int (nI d0)), (2, .int v1)]) hx hb (oc_62 22 (aq_22 shX12_lock_0)) rfl hl (ltb rfl) rfl (fun ls hl => ?_)
      refine lv_iconst (v := 1) hx hb (oc_4 23 (aq_23 shX12_lock_0)) kic_1 ?_
      refine lv_istore (lv' := [(4, .int 1), (3, .int 0), (0, .ref (g 100)), (1, .int (nI d0)), (2, .int v1)]) hx hb (oc_54 24 shX12_lock_24 ub_4) hl (ltb rfl) rfl (fun ls hl => ?_)
      have lp_26 : ∀ (n : Nat) (i26 : Nat) (b26 : Nat) , 24 - i26 < n → (i26 ≤ 24 ∧ (b26 < 24)) → ∀ ls : Array Slot, lv_has ls 5 [(4, .int (nI i26)), (3, .int (nI b26)), (0, .ref (g 100)), (1, .int (nI d0)), (2, .int v1)] → W p l e (RM 1 0 0) s m ([.ref (g 100), .int (nI d0), .int v1]).toArray below meth c s.heap [] 0 0 (MQ below (vp_Si (fun _ => True)) ([.ref (g 100), .int (nI d0), .int v1]).toArray s 0 0 (fun _ => False)) (F0 m 26 ls []) := by
        intro n26
        induction n26 with
        | zero => intros; (first | omega | (have zz0 := Hid.u hi_cn; omega))
        | succ n26 ih26 =>
          intro i26 b26 hmu26 hinv26 ls hl
          obtain ⟨hr26, hx26_0⟩ := hinv26
          have ti26 : (nI i26).toInt = (i26 : Int) := nI_toInt (by (first | omega | (have zz0 := Hid.u hi_cn; omega)))
          refine lv_iload hx hb (oc_21 26 (aq_2 shX12_lock_24) ub_4) (lvA0 hl) ?_
          refine lv_bipush (v := 24) hx hb (oc_16 28 (aq_4 shX12_lock_24) sgb_24) kbc_24 ?_
          refine lv_icmp_ge (tgt := 62) hx hb (oc_162 30 (aq_6 shX12_lock_24) sgw_0_32) rfl (fun c_5 => ?_) (fun c_5 => ?_)
          ·
            have tc_5 : (24 : Int) ≤ (nI i26).toInt := Int32.le_iff_toInt_le.mp c_5
            refine lv_iload_n hx hb (oc_28 62 (aq_13 shX12_lock_49)) rfl (lvA4 hl) ?_
            refine lv_if_ne (tgt := 70) hx hb (oc_154 63 (aq_14 shX12_lock_49) sgw_0_7) rfl (fun c_6 => ?_) (fun c_6 => ?_)
            ·
              have tc_6 : (v1.toInt : Int) ≠ 0 := fun q => c_6 (Int32.toInt_inj.mp q)
              refine lv_aload_n hx hb (oc_42 70 (aq_21 shX12_lock_49)) rfl (lvA2 hl) ?_
              refine lv_iload_n hx hb (oc_29 71 (aq_22 shX12_lock_49)) rfl (lvA1 hl) ?_
              refine lv_iload_n hx hb (oc_27 72 (aq_23 shX12_lock_49)) rfl (lvA3 hl) ?_
              refine vp_callSi (runV_ra (As := [.int (nI b26), .int (nI d0)]) (rest := []) S (q_saves l D cI cB cZ g cn In Fn b26 d0 hI (by (first | omega | (have zz0 := Hid.u hi_cn; omega))) (by (first | omega | (have zz0 := Hid.u hi_cn; omega)))) kV_RX12_475 hK hP 0 rfl rfl rfl ⟨Nat.le_of_ble_eq_true rfl, Nat.le_of_ble_eq_true rfl⟩ ⟨Nat.le_of_ble_eq_true rfl, Nat.le_of_ble_eq_true rfl⟩ rfl hl.1 rfl (Nat.le_of_ble_eq_true rfl) (oc_182 73 shX12_lock_73 uw_1_219)) (fun r_7 h_8 => ?_)
              exact W.iret (v := r_7) hx hb hr (fun t ht hW => ⟨r_7, rfl, trivial, ht⟩) (fun _ h => absurd h List.not_mem_nil) (oc_172 76 (aq_3 shX12_lock_73))
            ·
              have tc_6 : (v1.toInt : Int) = 0 := congrArg Int32.toInt c_6
              refine lv_iload_n hx hb (oc_29 66 (aq_17 shX12_lock_49)) rfl (lvA1 hl) ?_
              refine lv_goto (tgt := 76) hx hb (oc_167 67 (aq_18 shX12_lock_49) sgw_0_9) rfl ?_
              exact W.iret (v := (nI b26)) hx hb hr (fun t ht hW => ⟨(nI b26), rfl, trivial, ht⟩) (fun _ h => absurd h List.not_mem_nil) (oc_172 76 (aq_3 shX12_lock_73))
          ·
            have tc_5 : ((nI i26).toInt : Int) < 24 := Int32.lt_iff_toInt_lt.mp (Int32.not_le.mp c_5)
            refine lv_aload_n hx hb (oc_42 33 (aq_9 shX12_lock_24)) rfl (lvA2 hl) ?_
            refine lv_iload hx hb (oc_21 34 (aq_10 shX12_lock_24) ub_4) (lvA0 hl) ?_
            refine lv_iload_n hx hb (oc_27 36 (aq_12 shX12_lock_24)) rfl (lvA3 hl) ?_
            refine vp_callSi (runV_ra (As := [.int (nI i26), .int (nI d0)]) (rest := []) S (q_saves l D cI cB cZ g cn In Fn i26 d0 hI (by (first | omega | (have zz0 := Hid.u hi_cn; omega))) (by (first | omega | (have zz0 := Hid.u hi_cn; omega)))) kV_RX12_475 hK hP 0 rfl rfl rfl ⟨Nat.le_of_ble_eq_true rfl, Nat.le_of_ble_eq_true rfl⟩ ⟨Nat.le_of_ble_eq_true rfl, Nat.le_of_ble_eq_true rfl⟩ rfl hl.1 rfl (Nat.le_of_ble_eq_true rfl) (oc_182 37 (aq_13 shX12_lock_24) uw_1_219)) (fun r_9 h_10 => ?_)
            refine lv_aload_n hx hb (oc_42 40 (aq_16 shX12_lock_24)) rfl (lvA2 hl) ?_
            refine lv_iload_n hx hb (oc_29 41 (aq_17 shX12_lock_24)) rfl (lvA1 hl) ?_
            refine lv_iload_n hx hb (oc_27 42 (aq_18 shX12_lock_24)) rfl (lvA3 hl) ?_
            refine vp_callSi (runV_ra (As := [.int (nI b26), .int (nI d0)]) (rest := [.int r_9]) S (q_saves l D cI cB cZ g cn In Fn b26 d0 hI (by (first | omega | (have zz0 := Hid.u hi_cn; omega))) (by (first | omega | (have zz0 := Hid.u hi_cn; omega)))) kV_RX12_475 hK hP 0 rfl rfl rfl ⟨Nat.le_of_ble_eq_true rfl, Nat.le_of_ble_eq_true rfl⟩ ⟨Nat.le_of_ble_eq_true rfl, Nat.le_of_ble_eq_true rfl⟩ rfl hl.1 rfl (Nat.le_of_ble_eq_true rfl) (oc_182 43 (aq_19 shX12_lock_24) uw_1_219)) (fun r_11 h_12 => ?_)
            refine lv_icmp_le (tgt := 54) hx hb (oc_164 46 (aq_22 shX12_lock_24) sgw_0_8) rfl (fun c_13 => ?_) (fun c_13 => ?_)
            ·
              have tc_13 : (r_9.toInt : Int) ≤ r_11.toInt := Int32.le_iff_toInt_le.mp c_13
              refine lv_iload_n hx hb (oc_29 54 (aq_5 shX12_lock_49)) rfl (lvA1 hl) ?_
              refine lv_istore_n (lv' := [(3, .int (nI b26)), (4, .int (nI i26)), (0, .ref (g 100)), (1, .int (nI d0)), (2, .int v1)]) hx hb (oc_62 55 (aq_6 shX12_lock_49)) rfl hl (ltb rfl) rfl (fun ls hl => ?_)
              refine lv_iinc (v := (nI (i26 + 1))) (lv' := [(4, .int (nI (i26 + 1))), (3, .int (nI b26)), (0, .ref (g 100)), (1, .int (nI d0)), (2, .int v1)]) hx hb (oc_132 56 (aq_7 shX12_lock_49) ub_4 sgb_1) hl (k := 1) rfl (nI_1 _) (ltb rfl) rfl (fun ls hl => ?_)
              refine lv_goto (tgt := 26) hx hb (oc_167 59 (aq_10 shX12_lock_49) sgw_255_223) rfl ?_
              exact ih26 (i26 + 1) b26 (by (first | omega | (have zz0 := Hid.u hi_cn; omega))) ⟨(by (first | omega | (have zz0 := Hid.u hi_cn; omega))), (by (first | omega | (have zz0 := Hid.u hi_cn; omega)))⟩ ls (lv_sub hl [0, 1, 2, 3, 4] rfl)
            ·
              have tc_13 : (r_11.toInt : Int) < r_9.toInt := Int32.lt_iff_toInt_lt.mp (Int32.not_le.mp c_13)
              refine lv_iload hx hb (oc_21 49 shX12_lock_49 ub_4) (lvA0 hl) ?_
              refine lv_goto (tgt := 55) hx hb (oc_167 51 (aq_2 shX12_lock_49) sgw_0_4) rfl ?_
              refine lv_istore_n (lv' := [(3, .int (nI i26)), (4, .int (nI i26)), (0, .ref (g 100)), (1, .int (nI d0)), (2, .int v1)]) hx hb (oc_62 55 (aq_6 shX12_lock_49)) rfl hl (ltb rfl) rfl (fun ls hl => ?_)
              refine lv_iinc (v := (nI (i26 + 1))) (lv' := [(4, .int (nI (i26 + 1))), (3, .int (nI i26)), (0, .ref (g 100)), (1, .int (nI d0)), (2, .int v1)]) hx hb (oc_132 56 (aq_7 shX12_lock_49) ub_4 sgb_1) hl (k := 1) rfl (nI_1 _) (ltb rfl) rfl (fun ls hl => ?_)
              refine lv_goto (tgt := 26) hx hb (oc_167 59 (aq_10 shX12_lock_49) sgw_255_223) rfl ?_
              exact ih26 (i26 + 1) i26 (by (first | omega | (have zz0 := Hid.u hi_cn; omega))) ⟨(by (first | omega | (have zz0 := Hid.u hi_cn; omega))), (by (first | omega | (have zz0 := Hid.u hi_cn; omega)))⟩ ls (lv_sub hl [0, 1, 2, 3, 4] rfl)
      exact lp_26 _ 1 0 (Nat.lt_succ_self _) ⟨(by (first | omega | (have zz0 := Hid.u hi_cn; omega))), (by (first | omega | (have zz0 := Hid.u hi_cn; omega)))⟩ ls (lv_sub hl [0, 1, 2, 3, 4] rfl)
    ·
      have h_4 : ¬ (0 ≤ v1.toInt ∧ v1.toInt ≤ 1) := h_4
      refine lv_if_ne (tgt := 21) hx hb (oc_154 16 (aq_16 shX12_lock_0) sgw_0_5) rfl (fun h => absurd h cq_eq_0_0) (fun _ => ?_)
      refine lv_iconst (v := (-1)) hx hb (oc_2 19 (aq_19 shX12_lock_0)) kic_m1 ?_
      exact W.iret (v := (-1)) hx hb hr (fun t ht hW => ⟨(-1), rfl, trivial, ht⟩) (fun _ h => absurd h List.not_mem_nil) (oc_172 20 (aq_20 shX12_lock_0))
  ·
    have h_2 : ¬ (1 ≤ v0.toInt ∧ v0.toInt ≤ 12) := h_2
    refine lv_if_eq (tgt := 19) hx hb (oc_153 7 (aq_7 shX12_lock_0) sgw_0_12) rfl (fun _ => ?_) (fun h => absurd h cq_eq_0_0)
    refine lv_iconst (v := (-1)) hx hb (oc_2 19 (aq_19 shX12_lock_0)) kic_m1 ?_
    exact W.iret (v := (-1)) hx hb hr (fun t ht hW => ⟨(-1), rfl, trivial, ht⟩) (fun _ h => absurd h List.not_mem_nil) (oc_172 20 (aq_20 shX12_lock_0))
set_option maxRecDepth 100000 in
set_option maxHeartbeats 4000000 in
theorem q_beside (l : Launch) (D : va_G) (cI cB cZ : ClassId) (g : Nat → Nat) (cn : Nat → Nat) (In : Nat → Int32) (Fn : Nat → Nat → Int32) (v0 v1 : Int32) (hI : IM cn Fn) : Met l yX12_beside (CWS yX12_beside cX12_beside 6 (some .int)) (RM 1 0 0) (PBr [.ref (g 100), .int v0, .int v1] D cI cB cZ (wM cI cB cZ g cn In Fn)) (vp_Si (fun _ => True)) 0 0 (fun _ => False) := by
  refine en_r rfl pn_RX12 (Nat.le_of_ble_eq_true rfl) (fun p e s m below meth c hx hb hml hown S hr hlocks hnm hP hK hS ls hl => ?_)
  have hl : lv_has ls 6 [(0, .ref (g 100)), (1, .int v0), (2, .int v1)] := hl
  have hi_cn : Hid (CB cn) := hI.b
  refine lv_iload_n hx hb (oc_27 0 shX12_beside_0) rfl (lvA1 hl) ?_
  refine lv_iconst (v := 0) hx hb (oc_3 1 (aq_1 shX12_beside_0)) kic_0 ?_
  refine lv_sipush (v := 198) hx hb (oc_17 2 (aq_2 shX12_beside_0) sgw_0_198) (by decide) ?_
  refine vp_callSi (runS_r (As := [.int v0, .int 0, .int 198]) (rest := []) S (q_in l D cI cB cZ v0 0 198 ) kS_RX12_214 hK hP [] rfl ⟨Nat.le_of_ble_eq_true rfl, Nat.le_of_ble_eq_true rfl⟩ ⟨Nat.le_of_ble_eq_true rfl, Nat.le_of_ble_eq_true rfl⟩ rfl hl.1 rfl (Nat.le_of_ble_eq_true rfl) (oc_184 5 (aq_5 shX12_beside_0) uw_0_214)) (fun r_1 h_2 => ?_)
  rcases h_2 with ⟨rfl, h_2⟩ | ⟨rfl, h_2⟩
  ·
    have h_2 : 0 ≤ v0.toInt ∧ v0.toInt ≤ 198 := h_2
    refine lv_if_eq (tgt := 22) hx hb dX12_beside_8 rfl (fun h => absurd h cq_eq_1_0) (fun _ => ?_)
    refine lv_iload_n hx hb (oc_28 11 (aq_11 shX12_beside_0)) rfl (lvA2 hl) ?_
    refine lv_iconst (v := 1) hx hb (oc_4 12 (aq_12 shX12_beside_0)) kic_1 ?_
    refine lv_sipush (v := 1000) hx hb (oc_17 13 (aq_13 shX12_beside_0) sgw_3_232) (by decide) ?_
    refine vp_callSi (runS_r (As := [.int v1, .int 1, .int 1000]) (rest := []) S (q_in l D cI cB cZ v1 1 1000 ) kS_RX12_214 hK hP [] rfl ⟨Nat.le_of_ble_eq_true rfl, Nat.le_of_ble_eq_true rfl⟩ ⟨Nat.le_of_ble_eq_true rfl, Nat.le_of_ble_eq_true rfl⟩ rfl hl.1 rfl (Nat.le_of_ble_eq_true rfl) (oc_184 16 (aq_16 shX12_beside_0) uw_0_214)) (fun r_3 h_4 => ?_)
    rcases h_4 with ⟨rfl, h_4⟩ | ⟨rfl, h_4⟩
    ·
      have h_4 : 1 ≤ v1.toInt ∧ v1.toInt ≤ 1000 := h_4
      refine lv_if_ne (tgt := 24) hx hb dX12_beside_19 rfl (fun _ => ?_) (fun h => absurd h cq_eq_1_0)
      refine lv_iconst (v := 0) hx hb (oc_3 24 shX12_beside_24) kic_0 ?_
      refine lv_istore_n (lv' := [(3, .int 0), (0, .ref (g 100)), (1, .int v0), (2, .int v1)]) hx hb (oc_62 25 (aq_1 shX12_beside_24)) rfl hl (ltb rfl) rfl (fun ls hl => ?_)
      refine lv_iconst (v := 0) hx hb (oc_3 26 (aq_2 shX12_beside_24)) kic_0 ?_
      refine lv_istore (lv' := [(4, .int 0), (3, .int 0), (0, .ref (g 100)), (1, .int v0), (2, .int v1)]) hx hb (oc_54 27 (aq_3 shX12_beside_24) ub_4) hl (ltb rfl) rfl (fun ls hl => ?_)
      have lp_29 : ∀ (n : Nat) (i29 : Nat) (x29_3 : Int32) , cn 1 - i29 < n → (i29 ≤ cn 1) → ∀ ls : Array Slot, lv_has ls 6 [(4, .int (nI i29)), (3, .int x29_3), (0, .ref (g 100)), (1, .int v0), (2, .int v1)] → W p l e (RM 1 0 0) s m ([.ref (g 100), .int v0, .int v1]).toArray below meth c s.heap [] 0 0 (MQ below (vp_Si (fun _ => True)) ([.ref (g 100), .int v0, .int v1]).toArray s 0 0 (fun _ => False)) (F0 m 29 ls []) := by
        intro n29
        induction n29 with
        | zero => intros; (first | omega | (have zz0 := Hid.u hi_cn; omega))
        | succ n29 ih29 =>
          intro i29 x29_3 hmu29 hinv29 ls hl
          have hr29 := hinv29
          have ti29 : (nI i29).toInt = (i29 : Int) := nI_toInt (by (first | omega | (have zz0 := Hid.u hi_cn; omega)))
          refine lv_iload hx hb (oc_21 29 (aq_5 shX12_beside_24) ub_4) (lvA0 hl) ?_
          refine lv_aload_n hx hb (oc_42 31 (aq_7 shX12_beside_24)) rfl (lvA2 hl) ?_
          refine gM_204 S hK hP (v := .int (nI (cn 1))) rfl (oc_180 32 (aq_8 shX12_beside_24) uw_0_204) ?_
          have : (nI (cn 1)).toInt = (((cn 1) : Nat) : Int) := nI_toInt (by (first | omega | (have zz0 := Hid.u hi_cn; omega)))
          refine lv_icmp_ge (tgt := 125) hx hb (oc_162 35 (aq_11 shX12_beside_24) sgw_0_90) rfl (fun c_5 => ?_) (fun c_5 => ?_)
          ·
            have tc_5 : ((nI (cn 1)).toInt : Int) ≤ (nI i29).toInt := Int32.le_iff_toInt_le.mp c_5
            refine lv_iload_n hx hb (oc_29 125 shX12_beside_125) rfl (lvA1 hl) ?_
            exact W.iret (v := x29_3) hx hb hr (fun t ht hW => ⟨x29_3, rfl, trivial, ht⟩) (fun _ h => absurd h List.not_mem_nil) (oc_172 126 (aq_1 shX12_beside_125))
          ·
            have tc_5 : ((nI i29).toInt : Int) < (nI (cn 1)).toInt := Int32.lt_iff_toInt_lt.mp (Int32.not_le.mp c_5)
            refine lv_iconst (v := 0) hx hb (oc_3 38 (aq_14 shX12_beside_24)) kic_0 ?_
            refine lv_istore (lv' := [(5, .int 0), (4, .int (nI i29)), (3, .int x29_3), (0, .ref (g 100)), (1, .int v0), (2, .int v1)]) hx hb (oc_54 39 (aq_15 shX12_beside_24) ub_5) hl (ltb rfl) rfl (fun ls hl => ?_)
            have lp_41 : ∀ (n : Nat) (i41 : Nat) (x41_3 : Int32) , cn 83 - i41 < n → (i41 ≤ cn 83) → ∀ ls : Array Slot, lv_has ls 6 [(5, .int (nI i41)), (4, .int (nI i29)), (3, .int x41_3), (0, .ref (g 100)), (1, .int v0), (2, .int v1)] → W p l e (RM 1 0 0) s m ([.ref (g 100), .int v0, .int v1]).toArray below meth c s.heap [] 0 0 (MQ below (vp_Si (fun _ => True)) ([.ref (g 100), .int v0, .int v1]).toArray s 0 0 (fun _ => False)) (F0 m 41 ls []) := by
              intro n41
              induction n41 with
              | zero => intros; (first | omega | (have zz0 := Hid.u hi_cn; omega))
              | succ n41 ih41 =>
                intro i41 x41_3 hmu41 hinv41 ls hl
                have hr41 := hinv41
                have ti41 : (nI i41).toInt = (i41 : Int) := nI_toInt (by (first | omega | (have zz0 := Hid.u hi_cn; omega)))
                refine lv_iload hx hb (oc_21 41 (aq_17 shX12_beside_24) ub_5) (lvA0 hl) ?_
                refine lv_aload_n hx hb (oc_42 43 (aq_19 shX12_beside_24)) rfl (lvA3 hl) ?_
                refine gM_478 S hK hP (v := .int (nI (cn 83))) rfl (oc_180 44 (aq_20 shX12_beside_24) uw_1_222) ?_
                have : (nI (cn 83)).toInt = (((cn 83) : Nat) : Int) := nI_toInt (by (first | omega | (have zz0 := Hid.u hi_cn; omega)))
                refine lv_icmp_ge (tgt := 119) hx hb (oc_162 47 (aq_23 shX12_beside_24) sgw_0_72) rfl (fun c_6 => ?_) (fun c_6 => ?_)
                ·
                  have tc_6 : ((nI (cn 83)).toInt : Int) ≤ (nI i41).toInt := Int32.le_iff_toInt_le.mp c_6
                  refine lv_iinc (v := (nI (i29 + 1))) (lv' := [(4, .int (nI (i29 + 1))), (5, .int (nI i41)), (3, .int x41_3), (0, .ref (g 100)), (1, .int v0), (2, .int v1)]) hx hb (oc_132 119 (aq_20 shX12_beside_99) ub_4 sgb_1) hl (k := 1) rfl (nI_1 _) (ltb rfl) rfl (fun ls hl => ?_)
                  refine lv_goto (tgt := 29) hx hb (oc_167 122 (aq_23 shX12_beside_99) sgw_255_163) rfl ?_
                  exact ih29 (i29 + 1) x41_3 (by (first | omega | (have zz0 := Hid.u hi_cn; omega))) (by (first | omega | (have zz0 := Hid.u hi_cn; omega))) ls (lv_sub hl [0, 2, 3, 4, 5] rfl)
                ·
                  have tc_6 : ((nI i41).toInt : Int) < (nI (cn 83)).toInt := Int32.lt_iff_toInt_lt.mp (Int32.not_le.mp c_6)
                  refine lv_aload_n hx hb (oc_42 50 shX12_beside_50) rfl (lvA3 hl) ?_
                  refine gM_16 S hK hP (v := .ref (g 5)) rfl (oc_180 51 (aq_1 shX12_beside_50) uw_0_16) ?_
                  refine lv_iload hx hb (oc_21 54 (aq_4 shX12_beside_50) ub_4) (lvA1 hl) ?_
                  have kb_1 : i29 < 10 := by (first | omega | (have zz0 := Hid.u hi_cn; omega))
                  refine ldM_5 hx hb hK hP (x := ((Fn 5) i29)) (vp_in_nI kb_1 (ltb rfl)) (nI_clamp (Nat.lt_trans kb_1 (ltb rfl))) rfl (oc_46 56 (aq_6 shX12_beside_50)) ?_
                  refine lv_if_ne (tgt := 113) hx hb (oc_154 57 (aq_7 shX12_beside_50) sgw_0_56) rfl (fun c_7 => ?_) (fun c_7 => ?_)
                  ·
                    have tc_7 : (((Fn 5) i29).toInt : Int) ≠ 0 := fun q => c_7 (Int32.toInt_inj.mp q)
                    refine lv_iinc (v := (nI (i41 + 1))) (lv' := [(5, .int (nI (i41 + 1))), (4, .int (nI i29)), (3, .int x41_3), (0, .ref (g 100)), (1, .int v0), (2, .int v1)]) hx hb dX12_beside_113 hl (k := 0) rfl (nI_1 _) (ltb rfl) rfl (fun ls hl => ?_)
                    refine lv_goto (tgt := 41) hx hb dX12_beside_116 rfl ?_
                    exact ih41 (i41 + 1) x41_3 (by (first | omega | (have zz0 := Hid.u hi_cn; omega))) (by (first | omega | (have zz0 := Hid.u hi_cn; omega))) ls (lv_sub hl [0, 1, 2, 3, 4, 5] rfl)
                  ·
                    have tc_7 : (((Fn 5) i29).toInt : Int) = 0 := congrArg Int32.toInt c_7
                    refine lv_aload_n hx hb (oc_42 60 (aq_10 shX12_beside_50)) rfl (lvA3 hl) ?_
                    refine gM_198 S hK hP (v := .ref (g 89)) rfl (oc_180 61 (aq_11 shX12_beside_50) uw_0_198) ?_
                    refine lv_iload hx hb (oc_21 64 (aq_14 shX12_beside_50) ub_5) (lvA0 hl) ?_
                    have kb_2 : i41 < 10 := by (first | omega | (have zz0 := Hid.u hi_cn; omega))
                    refine ldM_89 hx hb hK hP (x := ((Fn 89) i41)) (vp_in_nI kb_2 (ltb rfl)) (nI_clamp (Nat.lt_trans kb_2 (ltb rfl))) rfl (oc_46 66 (aq_16 shX12_beside_50)) ?_
                    refine lv_iload_n hx hb (oc_28 67 (aq_17 shX12_beside_50)) rfl (lvA5 hl) ?_
                    refine lv_icmp_lt (tgt := 113) hx hb (oc_161 68 (aq_18 shX12_beside_50) sgw_0_45) rfl (fun c_8 => ?_) (fun c_8 => ?_)
                    ·
                      have tc_8 : (((Fn 89) i41).toInt : Int) < v1.toInt := Int32.lt_iff_toInt_lt.mp c_8
                      refine lv_iinc (v := (nI (i41 + 1))) (lv' := [(5, .int (nI (i41 + 1))), (4, .int (nI i29)), (3, .int x41_3), (0, .ref (g 100)), (1, .int v0), (2, .int v1)]) hx hb dX12_beside_113 hl (k := 0) rfl (nI_1 _) (ltb rfl) rfl (fun ls hl => ?_)
                      refine lv_goto (tgt := 41) hx hb dX12_beside_116 rfl ?_
                      exact ih41 (i41 + 1) x41_3 (by (first | omega | (have zz0 := Hid.u hi_cn; omega))) (by (first | omega | (have zz0 := Hid.u hi_cn; omega))) ls (lv_sub hl [0, 1, 2, 3, 4, 5] rfl)
                    ·
                      have tc_8 : (v1.toInt : Int) ≤ ((Fn 89) i41).toInt := Int32.le_iff_toInt_le.mp (Int32.not_lt.mp c_8)
                      refine lv_aload_n hx hb (oc_42 71 (aq_21 shX12_beside_50)) rfl (lvA3 hl) ?_
                      refine gM_7 S hK hP (v := .ref (g 3)) rfl (oc_180 72 (aq_22 shX12_beside_50) uw_0_7) ?_
                      refine lv_iload hx hb (oc_21 75 shX12_beside_75 ub_4) (lvA1 hl) ?_
                      refine ldM_3 hx hb hK hP (x := ((Fn 3) i29)) (vp_in_nI kb_1 (ltb rfl)) (nI_clamp (Nat.lt_trans kb_1 (ltb rfl))) rfl (oc_46 77 (aq_2 shX12_beside_75)) ?_
                      refine lv_aload_n hx hb (oc_42 78 (aq_3 shX12_beside_75)) rfl (lvA3 hl) ?_
                      refine gM_13 S hK hP (v := .ref (g 4)) rfl (oc_180 79 (aq_4 shX12_beside_75) uw_0_13) ?_
                      refine lv_iload hx hb (oc_21 82 (aq_7 shX12_beside_75) ub_4) (lvA1 hl) ?_
                      refine ldM_4 hx hb hK hP (x := ((Fn 4) i29)) (vp_in_nI kb_1 (ltb rfl)) (nI_clamp (Nat.lt_trans kb_1 (ltb rfl))) rfl (oc_46 84 (aq_9 shX12_beside_75)) ?_
                      refine lv_aload_n hx hb (oc_42 85 (aq_10 shX12_beside_75)) rfl (lvA3 hl) ?_
                      refine gM_192 S hK hP (v := .ref (g 87)) rfl (oc_180 86 (aq_11 shX12_beside_75) uw_0_192) ?_
                      refine lv_iload hx hb (oc_21 89 (aq_14 shX12_beside_75) ub_5) (lvA0 hl) ?_
                      refine ldM_87 hx hb hK hP (x := ((Fn 87) i41)) (vp_in_nI kb_2 (ltb rfl)) (nI_clamp (Nat.lt_trans kb_2 (ltb rfl))) rfl (oc_46 91 (aq_16 shX12_beside_75)) ?_
                      refine lv_aload_n hx hb (oc_42 92 (aq_17 shX12_beside_75)) rfl (lvA3 hl) ?_
                      refine gM_195 S hK hP (v := .ref (g 88)) rfl (oc_180 93 (aq_18 shX12_beside_75) uw_0_195) ?_
                      refine lv_iload hx hb (oc_21 96 (aq_21 shX12_beside_75) ub_5) (lvA0 hl) ?_
                      refine ldM_88 hx hb hK hP (x := ((Fn 88) i41)) (vp_in_nI kb_2 (ltb rfl)) (nI_clamp (Nat.lt_trans kb_2 (ltb rfl))) rfl (oc_46 98 (aq_23 shX12_beside_75)) ?_
                      refine vp_callSi (runS_r (As := [.int ((Fn 3) i29), .int ((Fn 4) i29), .int ((Fn 87) i41), .int ((Fn 88) i41)]) (rest := []) S (q_apart l D cI cB cZ ((Fn 3) i29) ((Fn 4) i29) ((Fn 87) i41) ((Fn 88) i41) ) kS_RX12_360 hK hP [] rfl ⟨Nat.le_of_ble_eq_true rfl, Nat.le_of_ble_eq_true rfl⟩ ⟨Nat.le_of_ble_eq_true rfl, Nat.le_of_ble_eq_true rfl⟩ rfl hl.1 rfl (Nat.le_of_ble_eq_true rfl) (oc_184 99 shX12_beside_99 uw_1_104)) (fun r_9 h_10 => ?_)
                      subst h_10
                      refine lv_iload_n hx hb (oc_27 102 (aq_3 shX12_beside_99)) rfl (lvA4 hl) ?_
                      refine lv_icmp_gt (tgt := 113) hx hb (oc_163 103 (aq_4 shX12_beside_99) sgw_0_10) rfl (fun c_11 => ?_) (fun c_11 => ?_)
                      ·
                        have tc_11 : (v0.toInt : Int) < (apM ((Fn 3) i29) ((Fn 4) i29) ((Fn 87) i41) ((Fn 88) i41)).toInt := Int32.lt_iff_toInt_lt.mp c_11
                        refine lv_iinc (v := (nI (i41 + 1))) (lv' := [(5, .int (nI (i41 + 1))), (4, .int (nI i29)), (3, .int x41_3), (0, .ref (g 100)), (1, .int v0), (2, .int v1)]) hx hb dX12_beside_113 hl (k := 0) rfl (nI_1 _) (ltb rfl) rfl (fun ls hl => ?_)
                        refine lv_goto (tgt := 41) hx hb dX12_beside_116 rfl ?_
                        exact ih41 (i41 + 1) x41_3 (by (first | omega | (have zz0 := Hid.u hi_cn; omega))) (by (first | omega | (have zz0 := Hid.u hi_cn; omega))) ls (lv_sub hl [0, 1, 2, 3, 4, 5] rfl)
                      ·
                        have tc_11 : ((apM ((Fn 3) i29) ((Fn 4) i29) ((Fn 87) i41) ((Fn 88) i41)).toInt : Int) ≤ v0.toInt := Int32.le_iff_toInt_le.mp (Int32.not_lt.mp c_11)
                        refine lv_iload_n hx hb (oc_29 106 (aq_7 shX12_beside_99)) rfl (lvA2 hl) ?_
                        refine lv_iconst (v := 1) hx hb (oc_4 107 (aq_8 shX12_beside_99)) kic_1 ?_
                        refine lv_iload hx hb (oc_21 108 (aq_9 shX12_beside_99) ub_4) (lvA1 hl) ?_
                        refine lv_ishl hx hb (oc_120 110 (aq_11 shX12_beside_99)) ?_
                        refine lv_ior hx hb (oc_128 111 (aq_12 shX12_beside_99)) ?_
                        refine lv_istore_n (lv' := [(3, .int (x41_3 ||| (1 <<< ((nI i29) &&& 31)))), (5, .int (nI i41)), (4, .int (nI i29)), (0, .ref (g 100)), (1, .int v0), (2, .int v1)]) hx hb (oc_62 112 (aq_13 shX12_beside_99)) rfl hl (ltb rfl) rfl (fun ls hl => ?_)
                        refine lv_iinc (v := (nI (i41 + 1))) (lv' := [(5, .int (nI (i41 + 1))), (3, .int (x41_3 ||| (1 <<< ((nI i29) &&& 31)))), (4, .int (nI i29)), (0, .ref (g 100)), (1, .int v0), (2, .int v1)]) hx hb dX12_beside_113 hl (k := 1) rfl (nI_1 _) (ltb rfl) rfl (fun ls hl => ?_)
                        refine lv_goto (tgt := 41) hx hb dX12_beside_116 rfl ?_
                        exact ih41 (i41 + 1) (x41_3 ||| (1 <<< ((nI i29) &&& 31))) (by (first | omega | (have zz0 := Hid.u hi_cn; omega))) (by (first | omega | (have zz0 := Hid.u hi_cn; omega))) ls (lv_sub hl [0, 2, 1, 3, 4, 5] rfl)
            exact lp_41 _ 0 x29_3 (Nat.lt_succ_self _) (by (first | omega | (have zz0 := Hid.u hi_cn; omega))) ls (lv_sub hl [0, 1, 2, 3, 4, 5] rfl)
      exact lp_29 _ 0 0 (Nat.lt_succ_self _) (by (first | omega | (have zz0 := Hid.u hi_cn; omega))) ls (lv_sub hl [0, 1, 2, 3, 4] rfl)
    ·
      have h_4 : ¬ (1 ≤ v1.toInt ∧ v1.toInt ≤ 1000) := h_4
      refine lv_if_ne (tgt := 24) hx hb dX12_beside_19 rfl (fun h => absurd h cq_eq_0_0) (fun _ => ?_)
      refine lv_iconst (v := (-1)) hx hb dX12_beside_22 kic_m1 ?_
      exact W.iret (v := (-1)) hx hb hr (fun t ht hW => ⟨(-1), rfl, trivial, ht⟩) (fun _ h => absurd h List.not_mem_nil) dX12_beside_23
  ·
    have h_2 : ¬ (0 ≤ v0.toInt ∧ v0.toInt ≤ 198) := h_2
    refine lv_if_eq (tgt := 22) hx hb dX12_beside_8 rfl (fun _ => ?_) (fun h => absurd h cq_eq_0_0)
    refine lv_iconst (v := (-1)) hx hb dX12_beside_22 kic_m1 ?_
    exact W.iret (v := (-1)) hx hb hr (fun t ht hW => ⟨(-1), rfl, trivial, ht⟩) (fun _ h => absurd h List.not_mem_nil) dX12_beside_23
set_option maxRecDepth 100000 in
set_option maxHeartbeats 4000000 in
theorem q_late (l : Launch) (D : va_G) (cI cB cZ : ClassId) (g : Nat → Nat) (cn : Nat → Nat) (In : Nat → Int32) (Fn : Nat → Nat → Int32) (v0 v1 : Int32) (hI : IM cn Fn) : Met l yX12_late (CWS yX12_late cX12_late 5 (some .int)) (RM 1 0 0) (PBr [.ref (g 100), .int v0, .int v1] D cI cB cZ (wM cI cB cZ g cn In Fn)) (vp_Si (fun _ => True)) 0 0 (fun _ => False) := by
  refine en_r rfl pn_RX12 (Nat.le_of_ble_eq_true rfl) (fun p e s m below meth c hx hb hml hown S hr hlocks hnm hP hK hS ls hl => ?_)
  have hl : lv_has ls 5 [(0, .ref (g 100)), (1, .int v0), (2, .int v1)] := hl
  have hi_cn : Hid (CB cn) := hI.b
  refine lv_aload_n hx hb (oc_42 0 shX12_late_0) rfl (lvA0 hl) ?_
  refine lv_iload_n hx hb (oc_27 1 (aq_1 shX12_late_0)) rfl (lvA1 hl) ?_
  refine vp_callSi (runV_ra (As := [.int v0]) (rest := []) S (q_isKitchen l D cI cB cZ g cn In Fn v0 hI) kV_RX12_218 hK hP 0 rfl rfl rfl ⟨Nat.le_of_ble_eq_true rfl, Nat.le_of_ble_eq_true rfl⟩ ⟨Nat.le_of_ble_eq_true rfl, Nat.le_of_ble_eq_true rfl⟩ rfl hl.1 rfl (Nat.le_of_ble_eq_true rfl) (oc_182 2 (aq_2 shX12_late_0) uw_0_218)) (fun r_1 h_2 => ?_)
  rcases h_2 with ⟨rfl, h_2⟩ | ⟨rfl, h_2⟩
  ·
    have h_2 : 0 ≤ v0.toInt ∧ v0.toInt < ((cn 1) : Int) := h_2
    refine lv_if_eq (tgt := 19) hx hb dX12_late_5 rfl (fun h => absurd h cq_eq_1_0) (fun _ => ?_)
    refine lv_iload_n hx hb (oc_28 8 (aq_8 shX12_late_0)) rfl (lvA2 hl) ?_
    refine lv_bipush (v := (-40)) hx hb (oc_16 9 (aq_9 shX12_late_0) sgb_216) kbc_m40 ?_
    refine lv_bipush (v := 41) hx hb (oc_16 11 (aq_11 shX12_late_0) sgb_41) kbc_41 ?_
    refine vp_callSi (runS_r (As := [.int v1, .int (-40), .int 41]) (rest := []) S (q_in l D cI cB cZ v1 (-40) 41 ) kS_RX12_214 hK hP [] rfl ⟨Nat.le_of_ble_eq_true rfl, Nat.le_of_ble_eq_true rfl⟩ ⟨Nat.le_of_ble_eq_true rfl, Nat.le_of_ble_eq_true rfl⟩ rfl hl.1 rfl (Nat.le_of_ble_eq_true rfl) (oc_184 13 (aq_13 shX12_late_0) uw_0_214)) (fun r_3 h_4 => ?_)
    rcases h_4 with ⟨rfl, h_4⟩ | ⟨rfl, h_4⟩
    ·
      have h_4 : (-40) ≤ v1.toInt ∧ v1.toInt ≤ 41 := h_4
      refine lv_if_ne (tgt := 21) hx hb dX12_late_16 rfl (fun _ => ?_) (fun h => absurd h cq_eq_1_0)
      refine lv_iconst (v := 0) hx hb (oc_3 21 (aq_21 shX12_late_0)) kic_0 ?_
      refine lv_istore_n (lv' := [(3, .int 0), (0, .ref (g 100)), (1, .int v0), (2, .int v1)]) hx hb (oc_62 22 (aq_22 shX12_late_0)) rfl hl (ltb rfl) rfl (fun ls hl => ?_)
      refine lv_iconst (v := 0) hx hb (oc_3 23 (aq_23 shX12_late_0)) kic_0 ?_
      refine lv_istore (lv' := [(4, .int 0), (3, .int 0), (0, .ref (g 100)), (1, .int v0), (2, .int v1)]) hx hb (oc_54 24 shX12_late_24 ub_4) hl (ltb rfl) rfl (fun ls hl => ?_)
      have lp_26 : ∀ (n : Nat) (i26 : Nat) (x26_3 : Int32) , cn 2 - i26 < n → (i26 ≤ cn 2) → ∀ ls : Array Slot, lv_has ls 5 [(4, .int (nI i26)), (3, .int x26_3), (0, .ref (g 100)), (1, .int v0), (2, .int v1)] → W p l e (RM 1 0 0) s m ([.ref (g 100), .int v0, .int v1]).toArray below meth c s.heap [] 0 0 (MQ below (vp_Si (fun _ => True)) ([.ref (g 100), .int v0, .int v1]).toArray s 0 0 (fun _ => False)) (F0 m 26 ls []) := by
        intro n26
        induction n26 with
        | zero => intros; (first | omega | (have zz0 := Hid.u hi_cn; omega))
        | succ n26 ih26 =>
          intro i26 x26_3 hmu26 hinv26 ls hl
          have hr26 := hinv26
          have ti26 : (nI i26).toInt = (i26 : Int) := nI_toInt (by (first | omega | (have zz0 := Hid.u hi_cn; omega)))
          refine lv_iload hx hb (oc_21 26 (aq_2 shX12_late_24) ub_4) (lvA0 hl) ?_
          refine lv_aload_n hx hb (oc_42 28 (aq_4 shX12_late_24)) rfl (lvA2 hl) ?_
          refine gM_208 S hK hP (v := .int (nI (cn 2))) rfl (oc_180 29 (aq_5 shX12_late_24) uw_0_208) ?_
          have : (nI (cn 2)).toInt = (((cn 2) : Nat) : Int) := nI_toInt (by (first | omega | (have zz0 := Hid.u hi_cn; omega)))
          refine lv_icmp_ge (tgt := 76) hx hb (oc_162 32 (aq_8 shX12_late_24) sgw_0_44) rfl (fun c_5 => ?_) (fun c_5 => ?_)
          ·
            have tc_5 : ((nI (cn 2)).toInt : Int) ≤ (nI i26).toInt := Int32.le_iff_toInt_le.mp c_5
            refine lv_iload_n hx hb (oc_29 76 (aq_3 shX12_late_73)) rfl (lvA1 hl) ?_
            exact W.iret (v := x26_3) hx hb hr (fun t ht hW => ⟨x26_3, rfl, trivial, ht⟩) (fun _ h => absurd h List.not_mem_nil) (oc_172 77 (aq_4 shX12_late_73))
          ·
            have tc_5 : ((nI i26).toInt : Int) < (nI (cn 2)).toInt := Int32.lt_iff_toInt_lt.mp (Int32.not_le.mp c_5)
            refine lv_iload_n hx hb (oc_29 35 (aq_11 shX12_late_24)) rfl (lvA1 hl) ?_
            refine lv_aload_n hx hb (oc_42 36 (aq_12 shX12_late_24)) rfl (lvA2 hl) ?_
            refine gM_25 S hK hP (v := .ref (g 8)) rfl (oc_180 37 (aq_13 shX12_late_24) uw_0_25) ?_
            refine lv_iload hx hb (oc_21 40 (aq_16 shX12_late_24) ub_4) (lvA0 hl) ?_
            have kb_1 : i26 < 60 := by (first | omega | (have zz0 := Hid.u hi_cn; omega))
            obtain ⟨a_6, ha_6, ea_6⟩ := hI.e8 i26 (by (first | omega | (have zz0 := Hid.u hi_cn; omega)))
            refine ldM_8 hx hb hK hP (x := (nI a_6)) (vp_in_nI kb_1 (ltb rfl)) (nI_clamp (Nat.lt_trans kb_1 (ltb rfl))) ea_6 (oc_46 42 (aq_18 shX12_late_24)) ?_
            refine lv_iload_n hx hb (oc_27 43 (aq_19 shX12_late_24)) rfl (lvA3 hl) ?_
            have : (nI a_6).toInt = ((a_6 : Nat) : Int) := nI_toInt (by (first | omega | (have zz0 := Hid.u hi_cn; omega)))
            refine lv_icmp_ne (tgt := 67) hx hb (oc_160 44 (aq_20 shX12_late_24) sgw_0_23) rfl (fun c_7 => ?_) (fun c_7 => ?_)
            ·
              have tc_7 : ((nI a_6).toInt : Int) ≠ v0.toInt := fun q => c_7 (Int32.toInt_inj.mp q)
              refine lv_iconst (v := 0) hx hb dX12_late_67 kic_0 ?_
              refine lv_iadd hx hb dX12_late_68 ?_
              refine lv_istore_n (lv' := [(3, .int (x26_3 + 0)), (4, .int (nI i26)), (0, .ref (g 100)), (1, .int v0), (2, .int v1)]) hx hb dX12_late_69 rfl hl (ltb rfl) rfl (fun ls hl => ?_)
              refine lv_iinc (v := (nI (i26 + 1))) (lv' := [(4, .int (nI (i26 + 1))), (3, .int (x26_3 + 0)), (0, .ref (g 100)), (1, .int v0), (2, .int v1)]) hx hb dX12_late_70 hl (k := 1) rfl (nI_1 _) (ltb rfl) rfl (fun ls hl => ?_)
              refine lv_goto (tgt := 26) hx hb dX12_late_73 rfl ?_
              exact ih26 (i26 + 1) (x26_3 + 0) (by (first | omega | (have zz0 := Hid.u hi_cn; omega))) (by (first | omega | (have zz0 := Hid.u hi_cn; omega))) ls (lv_sub hl [0, 1, 2, 3, 4] rfl)
            ·
              have tc_7 : ((nI a_6).toInt : Int) = v0.toInt := congrArg Int32.toInt c_7
              refine lv_aload_n hx hb (oc_42 47 (aq_23 shX12_late_24)) rfl (lvA2 hl) ?_
              refine gM_201 S hK hP (v := .ref (g 90)) rfl (oc_180 48 shX12_late_48 uw_0_201) ?_
              refine lv_aload_n hx hb (oc_42 51 (aq_3 shX12_late_48)) rfl (lvA2 hl) ?_
              refine gM_28 S hK hP (v := .ref (g 9)) rfl (oc_180 52 (aq_4 shX12_late_48) uw_0_28) ?_
              refine lv_iload hx hb (oc_21 55 (aq_7 shX12_late_48) ub_4) (lvA0 hl) ?_
              obtain ⟨a_8, ha_8, ea_8⟩ := hI.e9 i26 (by (first | omega | (have zz0 := Hid.u hi_cn; omega)))
              refine ldM_9 hx hb hK hP (x := (nI a_8)) (vp_in_nI kb_1 (ltb rfl)) (nI_clamp (Nat.lt_trans kb_1 (ltb rfl))) ea_8 (oc_46 57 (aq_9 shX12_late_48)) ?_
              have kb_2 : a_8 < 400 := by (first | omega | (have zz0 := Hid.u hi_cn; omega))
              refine ldM_90 hx hb hK hP (x := ((Fn 90) a_8)) (vp_in_nI kb_2 (ltb rfl)) (nI_clamp (Nat.lt_trans kb_2 (ltb rfl))) rfl (oc_46 58 (aq_10 shX12_late_48)) ?_
              refine lv_iload_n hx hb (oc_28 59 (aq_11 shX12_late_48)) rfl (lvA4 hl) ?_
              refine lv_icmp_ge (tgt := 67) hx hb (oc_162 60 (aq_12 shX12_late_48) sgw_0_7) rfl (fun c_9 => ?_) (fun c_9 => ?_)
              ·
                have tc_9 : (v1.toInt : Int) ≤ ((Fn 90) a_8).toInt := Int32.le_iff_toInt_le.mp c_9
                refine lv_iconst (v := 0) hx hb dX12_late_67 kic_0 ?_
                refine lv_iadd hx hb dX12_late_68 ?_
                refine lv_istore_n (lv' := [(3, .int (x26_3 + 0)), (4, .int (nI i26)), (0, .ref (g 100)), (1, .int v0), (2, .int v1)]) hx hb dX12_late_69 rfl hl (ltb rfl) rfl (fun ls hl => ?_)
                refine lv_iinc (v := (nI (i26 + 1))) (lv' := [(4, .int (nI (i26 + 1))), (3, .int (x26_3 + 0)), (0, .ref (g 100)), (1, .int v0), (2, .int v1)]) hx hb dX12_late_70 hl (k := 1) rfl (nI_1 _) (ltb rfl) rfl (fun ls hl => ?_)
                refine lv_goto (tgt := 26) hx hb dX12_late_73 rfl ?_
                exact ih26 (i26 + 1) (x26_3 + 0) (by (first | omega | (have zz0 := Hid.u hi_cn; omega))) (by (first | omega | (have zz0 := Hid.u hi_cn; omega))) ls (lv_sub hl [0, 1, 2, 3, 4] rfl)
              ·
                have tc_9 : (((Fn 90) a_8).toInt : Int) < v1.toInt := Int32.lt_iff_toInt_lt.mp (Int32.not_le.mp c_9)
                refine lv_iconst (v := 1) hx hb (oc_4 63 (aq_15 shX12_late_48)) kic_1 ?_
                refine lv_goto (tgt := 68) hx hb (oc_167 64 (aq_16 shX12_late_48) sgw_0_4) rfl ?_
                refine lv_iadd hx hb dX12_late_68 ?_
                refine lv_istore_n (lv' := [(3, .int (x26_3 + 1)), (4, .int (nI i26)), (0, .ref (g 100)), (1, .int v0), (2, .int v1)]) hx hb dX12_late_69 rfl hl (ltb rfl) rfl (fun ls hl => ?_)
                refine lv_iinc (v := (nI (i26 + 1))) (lv' := [(4, .int (nI (i26 + 1))), (3, .int (x26_3 + 1)), (0, .ref (g 100)), (1, .int v0), (2, .int v1)]) hx hb dX12_late_70 hl (k := 1) rfl (nI_1 _) (ltb rfl) rfl (fun ls hl => ?_)
                refine lv_goto (tgt := 26) hx hb dX12_late_73 rfl ?_
                exact ih26 (i26 + 1) (x26_3 + 1) (by (first | omega | (have zz0 := Hid.u hi_cn; omega))) (by (first | omega | (have zz0 := Hid.u hi_cn; omega))) ls (lv_sub hl [0, 1, 2, 3, 4] rfl)
      exact lp_26 _ 0 0 (Nat.lt_succ_self _) (by (first | omega | (have zz0 := Hid.u hi_cn; omega))) ls (lv_sub hl [0, 1, 2, 3, 4] rfl)
    ·
      have h_4 : ¬ ((-40) ≤ v1.toInt ∧ v1.toInt ≤ 41) := h_4
      refine lv_if_ne (tgt := 21) hx hb dX12_late_16 rfl (fun h => absurd h cq_eq_0_0) (fun _ => ?_)
      refine lv_iconst (v := (-1)) hx hb dX12_late_19 kic_m1 ?_
      exact W.iret (v := (-1)) hx hb hr (fun t ht hW => ⟨(-1), rfl, trivial, ht⟩) (fun _ h => absurd h List.not_mem_nil) dX12_late_20
  ·
    have h_2 : ¬ (0 ≤ v0.toInt ∧ v0.toInt < ((cn 1) : Int)) := h_2
    refine lv_if_eq (tgt := 19) hx hb dX12_late_5 rfl (fun _ => ?_) (fun h => absurd h cq_eq_0_0)
    refine lv_iconst (v := (-1)) hx hb dX12_late_19 kic_m1 ?_
    exact W.iret (v := (-1)) hx hb hr (fun t ht hW => ⟨(-1), rfl, trivial, ht⟩) (fun _ h => absurd h List.not_mem_nil) dX12_late_20
set_option maxRecDepth 100000 in
set_option maxHeartbeats 4000000 in
theorem q_first (l : Launch) (D : va_G) (cI cB cZ : ClassId) (g : Nat → Nat) (cn : Nat → Nat) (In : Nat → Int32) (Fn : Nat → Nat → Int32) (v0 v1 : Int32) (hI : IM cn Fn) : Met l yX12_first (CWS yX12_first cX12_first 4 (some .int)) (RM 1 0 0) (PBr [.ref (g 100), .int v0, .int v1] D cI cB cZ (wM cI cB cZ g cn In Fn)) (vp_Si (fun _ => True)) 0 0 (fun _ => False) := by
  refine en_r rfl pn_RX12 (Nat.le_of_ble_eq_true rfl) (fun p e s m below meth c hx hb hml hown S hr hlocks hnm hP hK hS ls hl => ?_)
  have hl : lv_has ls 4 [(0, .ref (g 100)), (1, .int v0), (2, .int v1)] := hl
  have hi_cn : Hid (CB cn) := hI.b
  refine lv_iload_n hx hb (oc_27 0 shX12_first_0) rfl (lvA1 hl) ?_
  refine vp_callSi (runS_r (As := [.int v0]) (rest := []) S (q_isDay l D cI cB cZ v0 ) kS_RX12_341 hK hP [] rfl ⟨Nat.le_of_ble_eq_true rfl, Nat.le_of_ble_eq_true rfl⟩ ⟨Nat.le_of_ble_eq_true rfl, Nat.le_of_ble_eq_true rfl⟩ rfl hl.1 rfl (Nat.le_of_ble_eq_true rfl) (oc_184 1 (aq_1 shX12_first_0) uw_1_85)) (fun r_1 h_2 => ?_)
  rcases h_2 with ⟨rfl, h_2⟩ | ⟨rfl, h_2⟩
  ·
    have h_2 : 0 ≤ v0.toInt ∧ v0.toInt ≤ 399 := h_2
    refine lv_if_eq (tgt := 18) hx hb dX12_first_4 rfl (fun h => absurd h cq_eq_1_0) (fun _ => ?_)
    refine lv_iload_n hx hb (oc_28 7 (aq_7 shX12_first_0)) rfl (lvA2 hl) ?_
    refine lv_bipush (v := (-40)) hx hb (oc_16 8 (aq_8 shX12_first_0) sgb_216) kbc_m40 ?_
    refine lv_bipush (v := 41) hx hb (oc_16 10 (aq_10 shX12_first_0) sgb_41) kbc_41 ?_
    refine vp_callSi (runS_r (As := [.int v1, .int (-40), .int 41]) (rest := []) S (q_in l D cI cB cZ v1 (-40) 41 ) kS_RX12_214 hK hP [] rfl ⟨Nat.le_of_ble_eq_true rfl, Nat.le_of_ble_eq_true rfl⟩ ⟨Nat.le_of_ble_eq_true rfl, Nat.le_of_ble_eq_true rfl⟩ rfl hl.1 rfl (Nat.le_of_ble_eq_true rfl) (oc_184 12 (aq_12 shX12_first_0) uw_0_214)) (fun r_3 h_4 => ?_)
    rcases h_4 with ⟨rfl, h_4⟩ | ⟨rfl, h_4⟩
    ·
      have h_4 : (-40) ≤ v1.toInt ∧ v1.toInt ≤ 41 := h_4
      refine lv_if_ne (tgt := 20) hx hb dX12_first_15 rfl (fun _ => ?_) (fun h => absurd h cq_eq_1_0)
      obtain ⟨d0, hd0, rfl⟩ := nI_of (x := v0) (fun q => by have := Int32.lt_iff_toInt_lt.mp q; have e : (0 : Int32).toInt = 0 := rfl; (first | omega | (have zz0 := Hid.u hi_cn; omega)))
      have td0 : (nI d0).toInt = (d0 : Int) := nI_toInt hd0
      have zd0 : (nI d0).toInt.toNat = d0 := by (first | omega | (have zz0 := Hid.u hi_cn; omega))
      refine lv_iload_n hx hb (oc_27 20 (aq_20 shX12_first_0)) rfl (lvA1 hl) ?_
      refine lv_istore_n (lv' := [(3, .int (nI d0)), (0, .ref (g 100)), (1, .int (nI d0)), (2, .int v1)]) hx hb (oc_62 21 (aq_21 shX12_first_0)) rfl hl (ltb rfl) rfl (fun ls hl => ?_)
      have lp_22 : ∀ (n : Nat) (i22 : Nat) , 400 - i22 < n → (i22 ≤ 400) → ∀ ls : Array Slot, lv_has ls 4 [(3, .int (nI i22)), (0, .ref (g 100)), (1, .int (nI d0)), (2, .int v1)] → W p l e (RM 1 0 0) s m ([.ref (g 100), .int (nI d0), .int v1]).toArray below meth c s.heap [] 0 0 (MQ below (vp_Si (fun _ => True)) ([.ref (g 100), .int (nI d0), .int v1]).toArray s 0 0 (fun _ => False)) (F0 m 22 ls []) := by
        intro n22
        induction n22 with
        | zero => intros; (first | omega | (have zz0 := Hid.u hi_cn; omega))
        | succ n22 ih22 =>
          intro i22 hmu22 hinv22 ls hl
          have hr22 := hinv22
          have ti22 : (nI i22).toInt = (i22 : Int) := nI_toInt (by (first | omega | (have zz0 := Hid.u hi_cn; omega)))
          refine lv_iload_n hx hb (oc_29 22 (aq_22 shX12_first_0)) rfl (lvA0 hl) ?_
          refine lv_sipush (v := 399) hx hb (oc_17 23 (aq_23 shX12_first_0) sgw_1_143) (by decide) ?_
          refine lv_icmp_gt (tgt := 47) hx hb (oc_163 26 shX12_first_26 sgw_0_21) rfl (fun c_5 => ?_) (fun c_5 => ?_)
          ·
            have tc_5 : (399 : Int) < (nI i22).toInt := Int32.lt_iff_toInt_lt.mp c_5
            refine lv_bipush (v := (-2)) hx hb (oc_16 47 (aq_21 shX12_first_26) sgb_254) kbc_m2 ?_
            exact W.iret (v := (-2)) hx hb hr (fun t ht hW => ⟨(-2), rfl, trivial, ht⟩) (fun _ h => absurd h List.not_mem_nil) (oc_172 49 (aq_23 shX12_first_26))
          ·
            have tc_5 : ((nI i22).toInt : Int) ≤ 399 := Int32.le_iff_toInt_le.mp (Int32.not_lt.mp c_5)
            refine lv_aload_n hx hb (oc_42 29 (aq_3 shX12_first_26)) rfl (lvA1 hl) ?_
            refine gM_201 S hK hP (v := .ref (g 90)) rfl (oc_180 30 (aq_4 shX12_first_26) uw_0_201) ?_
            refine lv_iload_n hx hb (oc_29 33 (aq_7 shX12_first_26)) rfl (lvA0 hl) ?_
            have kb_1 : i22 < 400 := by (first | omega | (have zz0 := Hid.u hi_cn; omega))
            refine ldM_90 hx hb hK hP (x := ((Fn 90) i22)) (vp_in_nI kb_1 (ltb rfl)) (nI_clamp (Nat.lt_trans kb_1 (ltb rfl))) rfl (oc_46 34 (aq_8 shX12_first_26)) ?_
            refine lv_iload_n hx hb (oc_28 35 (aq_9 shX12_first_26)) rfl (lvA3 hl) ?_
            refine lv_icmp_lt (tgt := 41) hx hb (oc_161 36 (aq_10 shX12_first_26) sgw_0_5) rfl (fun c_6 => ?_) (fun c_6 => ?_)
            ·
              have tc_6 : (((Fn 90) i22).toInt : Int) < v1.toInt := Int32.lt_iff_toInt_lt.mp c_6
              refine lv_iinc (v := (nI (i22 + 1))) (lv' := [(3, .int (nI (i22 + 1))), (0, .ref (g 100)), (1, .int (nI d0)), (2, .int v1)]) hx hb (oc_132 41 (aq_15 shX12_first_26) ub_3 sgb_1) hl (k := 0) rfl (nI_1 _) (ltb rfl) rfl (fun ls hl => ?_)
              refine lv_goto (tgt := 22) hx hb (oc_167 44 (aq_18 shX12_first_26) sgw_255_234) rfl ?_
              exact ih22 (i22 + 1) (by (first | omega | (have zz0 := Hid.u hi_cn; omega))) (by (first | omega | (have zz0 := Hid.u hi_cn; omega))) ls (lv_sub hl [0, 1, 2, 3] rfl)
            ·
              have tc_6 : (v1.toInt : Int) ≤ ((Fn 90) i22).toInt := Int32.le_iff_toInt_le.mp (Int32.not_lt.mp c_6)
              refine lv_iload_n hx hb (oc_29 39 (aq_13 shX12_first_26)) rfl (lvA0 hl) ?_
              exact W.iret (v := (nI i22)) hx hb hr (fun t ht hW => ⟨(nI i22), rfl, trivial, ht⟩) (fun _ h => absurd h List.not_mem_nil) (oc_172 40 (aq_14 shX12_first_26))
      exact lp_22 _ d0 (Nat.lt_succ_self _) (by (first | omega | (have zz0 := Hid.u hi_cn; omega))) ls (lv_sub hl [0, 1, 2, 3] rfl)
    ·
      have h_4 : ¬ ((-40) ≤ v1.toInt ∧ v1.toInt ≤ 41) := h_4
      refine lv_if_ne (tgt := 20) hx hb dX12_first_15 rfl (fun h => absurd h cq_eq_0_0) (fun _ => ?_)
      refine lv_iconst (v := (-1)) hx hb dX12_first_18 kic_m1 ?_
      exact W.iret (v := (-1)) hx hb hr (fun t ht hW => ⟨(-1), rfl, trivial, ht⟩) (fun _ h => absurd h List.not_mem_nil) dX12_first_19
  ·
    have h_2 : ¬ (0 ≤ v0.toInt ∧ v0.toInt ≤ 399) := h_2
    refine lv_if_eq (tgt := 18) hx hb dX12_first_4 rfl (fun _ => ?_) (fun h => absurd h cq_eq_0_0)
    refine lv_iconst (v := (-1)) hx hb dX12_first_18 kic_m1 ?_
    exact W.iret (v := (-1)) hx hb hr (fun t ht hW => ⟨(-1), rfl, trivial, ht⟩) (fun _ h => absurd h List.not_mem_nil) dX12_first_19
set_option maxRecDepth 100000 in
set_option maxHeartbeats 4000000 in
theorem q_claim (l : Launch) (D : va_G) (cI cB cZ : ClassId) (g : Nat → Nat) (cn : Nat → Nat) (In : Nat → Int32) (Fn : Nat → Nat → Int32) (v0 v1 v2 : Int32) (hI : IM cn Fn) : Met l yX12_claim (CWS yX12_claim cX12_claim 6 (some .int)) (RM 1 0 0) (PBr [.ref (g 100), .int v0, .int v1, .int v2] D cI cB cZ (wM cI cB cZ g cn In Fn)) (vp_Si (fun _ => True)) 0 0 (fun _ => False) := by
  refine en_r rfl pn_RX12 (Nat.le_of_ble_eq_true rfl) (fun p e s m below meth c hx hb hml hown S hr hlocks hnm hP hK hS ls hl => ?_)
  have hl : lv_has ls 6 [(0, .ref (g 100)), (1, .int v0), (2, .int v1), (3, .int v2)] := hl
  have hi_cn : Hid (CB cn) := hI.b
  refine lv_aload_n hx hb (oc_42 0 shX12_claim_0) rfl (lvA0 hl) ?_
  refine lv_iload_n hx hb (oc_27 1 (aq_1 shX12_claim_0)) rfl (lvA1 hl) ?_
  refine vp_callSi (runV_ra (As := [.int v0]) (rest := []) S (q_isBatch l D cI cB cZ g cn In Fn v0 hI) kV_RX12_450 hK hP 0 rfl rfl rfl ⟨Nat.le_of_ble_eq_true rfl, Nat.le_of_ble_eq_true rfl⟩ ⟨Nat.le_of_ble_eq_true rfl, Nat.le_of_ble_eq_true rfl⟩ rfl hl.1 rfl (Nat.le_of_ble_eq_true rfl) (oc_182 2 (aq_2 shX12_claim_0) uw_1_194)) (fun r_1 h_2 => ?_)
  rcases h_2 with ⟨rfl, h_2⟩ | ⟨rfl, h_2⟩
  ·
    have h_2 : 0 ≤ v0.toInt ∧ v0.toInt < ((cn 62) : Int) := h_2
    refine lv_if_eq (tgt := 30) hx hb (oc_153 5 (aq_5 shX12_claim_0) sgw_0_25) rfl (fun h => absurd h cq_eq_1_0) (fun _ => ?_)
    obtain ⟨d0, hd0, rfl⟩ := nI_of (x := v0) (fun q => by have := Int32.lt_iff_toInt_lt.mp q; have e : (0 : Int32).toInt = 0 := rfl; (first | omega | (have zz0 := Hid.u hi_cn; omega)))
    have td0 : (nI d0).toInt = (d0 : Int) := nI_toInt hd0
    have zd0 : (nI d0).toInt.toNat = d0 := by (first | omega | (have zz0 := Hid.u hi_cn; omega))
    refine lv_iload_n hx hb (oc_28 8 (aq_8 shX12_claim_0)) rfl (lvA2 hl) ?_
    refine lv_iconst (v := 0) hx hb (oc_3 9 (aq_9 shX12_claim_0)) kic_0 ?_
    refine lv_sipush (v := 1000) hx hb (oc_17 10 (aq_10 shX12_claim_0) sgw_3_232) (by decide) ?_
    refine vp_callSi (runS_r (As := [.int v1, .int 0, .int 1000]) (rest := []) S (q_in l D cI cB cZ v1 0 1000 ) kS_RX12_214 hK hP [] rfl ⟨Nat.le_of_ble_eq_true rfl, Nat.le_of_ble_eq_true rfl⟩ ⟨Nat.le_of_ble_eq_true rfl, Nat.le_of_ble_eq_true rfl⟩ rfl hl.1 rfl (Nat.le_of_ble_eq_true rfl) (oc_184 13 (aq_13 shX12_claim_0) uw_0_214)) (fun r_3 h_4 => ?_)
    rcases h_4 with ⟨rfl, h_4⟩ | ⟨rfl, h_4⟩
    ·
      have h_4 : 0 ≤ v1.toInt ∧ v1.toInt ≤ 1000 := h_4
      refine lv_if_eq (tgt := 30) hx hb (oc_153 16 (aq_16 shX12_claim_0) sgw_0_14) rfl (fun h => absurd h cq_eq_1_0) (fun _ => ?_)
      refine lv_iload_n hx hb (oc_29 19 (aq_19 shX12_claim_0)) rfl (lvA3 hl) ?_
      refine lv_iconst (v := 0) hx hb (oc_3 20 (aq_20 shX12_claim_0)) kic_0 ?_
      refine lv_sipush (v := 1000) hx hb (oc_17 21 (aq_21 shX12_claim_0) sgw_3_232) (by decide) ?_
      refine vp_callSi (runS_r (As := [.int v2, .int 0, .int 1000]) (rest := []) S (q_in l D cI cB cZ v2 0 1000 ) kS_RX12_214 hK hP [] rfl ⟨Nat.le_of_ble_eq_true rfl, Nat.le_of_ble_eq_true rfl⟩ ⟨Nat.le_of_ble_eq_true rfl, Nat.le_of_ble_eq_true rfl⟩ rfl hl.1 rfl (Nat.le_of_ble_eq_true rfl) (oc_184 24 shX12_claim_24 uw_0_214)) (fun r_5 h_6 => ?_)
      rcases h_6 with ⟨rfl, h_6⟩ | ⟨rfl, h_6⟩
      ·
        have h_6 : 0 ≤ v2.toInt ∧ v2.toInt ≤ 1000 := h_6
        refine lv_if_ne (tgt := 32) hx hb (oc_154 27 (aq_3 shX12_claim_24) sgw_0_5) rfl (fun _ => ?_) (fun h => absurd h cq_eq_1_0)
        refine lv_iconst (v := 0) hx hb (oc_3 32 (aq_8 shX12_claim_24)) kic_0 ?_
        refine lv_istore (lv' := [(4, .int 0), (0, .ref (g 100)), (1, .int (nI d0)), (2, .int v1), (3, .int v2)]) hx hb (oc_54 33 (aq_9 shX12_claim_24) ub_4) hl (ltb rfl) rfl (fun ls hl => ?_)
        refine lv_iconst (v := 0) hx hb (oc_3 35 (aq_11 shX12_claim_24)) kic_0 ?_
        refine lv_istore (lv' := [(5, .int 0), (4, .int 0), (0, .ref (g 100)), (1, .int (nI d0)), (2, .int v1), (3, .int v2)]) hx hb (oc_54 36 (aq_12 shX12_claim_24) ub_5) hl (ltb rfl) rfl (fun ls hl => ?_)
        have lp_38 : ∀ (n : Nat) (i38 : Nat) (x38_4 : Int32) , 12 - i38 < n → (i38 ≤ 12) → ∀ ls : Array Slot, lv_has ls 6 [(5, .int (nI i38)), (4, .int x38_4), (0, .ref (g 100)), (1, .int (nI d0)), (2, .int v1), (3, .int v2)] → W p l e (RM 1 0 0) s m ([.ref (g 100), .int (nI d0), .int v1, .int v2]).toArray below meth c s.heap [] 0 0 (MQ below (vp_Si (fun _ => True)) ([.ref (g 100), .int (nI d0), .int v1, .int v2]).toArray s 0 0 (fun _ => False)) (F0 m 38 ls []) := by
          intro n38
          induction n38 with
          | zero => intros; (first | omega | (have zz0 := Hid.u hi_cn; omega))
          | succ n38 ih38 =>
            intro i38 x38_4 hmu38 hinv38 ls hl
            have hr38 := hinv38
            have ti38 : (nI i38).toInt = (i38 : Int) := nI_toInt (by (first | omega | (have zz0 := Hid.u hi_cn; omega)))
            refine lv_iload hx hb (oc_21 38 (aq_14 shX12_claim_24) ub_5) (lvA0 hl) ?_
            refine lv_aload_n hx hb (oc_42 40 (aq_16 shX12_claim_24)) rfl (lvA2 hl) ?_
            refine gM_171 S hK hP (v := .ref (g 79)) rfl (oc_180 41 (aq_17 shX12_claim_24) uw_0_171) ?_
            refine lv_iload_n hx hb (oc_27 44 (aq_20 shX12_claim_24)) rfl (lvA3 hl) ?_
            have kb_1 : d0 < 10 := by (first | omega | (have zz0 := Hid.u hi_cn; omega))
            obtain ⟨a_7, ha_7, ea_7⟩ := hI.e79 d0 (by (first | omega | (have zz0 := Hid.u hi_cn; omega)))
            refine ldM_79 hx hb hK hP (x := (nI a_7)) (vp_in_nI kb_1 (ltb rfl)) (nI_clamp (Nat.lt_trans kb_1 (ltb rfl))) ea_7 (oc_46 45 (aq_21 shX12_claim_24)) ?_
            have : (nI a_7).toInt = ((a_7 : Nat) : Int) := nI_toInt (by (first | omega | (have zz0 := Hid.u hi_cn; omega)))
            refine lv_icmp_ge (tgt := 83) hx hb (oc_162 46 (aq_22 shX12_claim_24) sgw_0_37) rfl (fun c_8 => ?_) (fun c_8 => ?_)
            ·
              have tc_8 : ((nI a_7).toInt : Int) ≤ (nI i38).toInt := Int32.le_iff_toInt_le.mp c_8
              refine lv_aload_n hx hb (oc_42 83 (aq_10 shX12_claim_73)) rfl (lvA2 hl) ?_
              refine gM_171 S hK hP (v := .ref (g 79)) rfl (oc_180 84 (aq_11 shX12_claim_73) uw_0_171) ?_
              refine lv_iload_n hx hb (oc_27 87 (aq_14 shX12_claim_73)) rfl (lvA3 hl) ?_
              refine ldM_79 hx hb hK hP (x := (nI a_7)) (vp_in_nI kb_1 (ltb rfl)) (nI_clamp (Nat.lt_trans kb_1 (ltb rfl))) ea_7 (oc_46 88 (aq_15 shX12_claim_73)) ?_
              refine lv_iload hx hb (oc_21 89 (aq_16 shX12_claim_73) ub_4) (lvA1 hl) ?_
              refine lv_isub hx hb (oc_100 91 (aq_18 shX12_claim_73)) ?_
              refine lv_istore (lv' := [(5, .int ((nI a_7) - x38_4)), (4, .int x38_4), (0, .ref (g 100)), (1, .int (nI d0)), (2, .int v1), (3, .int v2)]) hx hb (oc_54 92 (aq_19 shX12_claim_73) ub_5) hl (ltb rfl) rfl (fun ls hl => ?_)
              refine lv_iload hx hb (oc_21 94 (aq_21 shX12_claim_73) ub_4) (lvA1 hl) ?_
              refine lv_iload hx hb (oc_21 96 (aq_23 shX12_claim_73) ub_5) (lvA0 hl) ?_
              refine lv_icmp_le (tgt := 105) hx hb (oc_164 98 shX12_claim_98 sgw_0_7) rfl (fun c_9 => ?_) (fun c_9 => ?_)
              ·
                have tc_9 : (x38_4.toInt : Int) ≤ ((nI a_7) - x38_4).toInt := Int32.le_iff_toInt_le.mp c_9
                refine lv_iload hx hb (oc_21 105 (aq_7 shX12_claim_98) ub_5) (lvA0 hl) ?_
                refine lv_iload hx hb (oc_21 107 (aq_9 shX12_claim_98) ub_4) (lvA1 hl) ?_
                refine lv_icmp_le (tgt := 116) hx hb (oc_164 109 (aq_11 shX12_claim_98) sgw_0_7) rfl (fun c_10 => ?_) (fun c_10 => ?_)
                ·
                  have tc_10 : (((nI a_7) - x38_4).toInt : Int) ≤ x38_4.toInt := Int32.le_iff_toInt_le.mp c_10
                  refine lv_iconst (v := 2) hx hb (oc_5 116 (aq_18 shX12_claim_98)) kic_2 ?_
                  exact W.iret (v := 2) hx hb hr (fun t ht hW => ⟨2, rfl, trivial, ht⟩) (fun _ h => absurd h List.not_mem_nil) (oc_172 117 (aq_19 shX12_claim_98))
                ·
                  have tc_10 : (x38_4.toInt : Int) < ((nI a_7) - x38_4).toInt := Int32.lt_iff_toInt_lt.mp (Int32.not_le.mp c_10)
                  refine lv_iconst (v := 0) hx hb (oc_3 112 (aq_14 shX12_claim_98)) kic_0 ?_
                  refine lv_goto (tgt := 117) hx hb (oc_167 113 (aq_15 shX12_claim_98) sgw_0_4) rfl ?_
                  exact W.iret (v := 0) hx hb hr (fun t ht hW => ⟨0, rfl, trivial, ht⟩) (fun _ h => absurd h List.not_mem_nil) (oc_172 117 (aq_19 shX12_claim_98))
              ·
                have tc_9 : (((nI a_7) - x38_4).toInt : Int) < x38_4.toInt := Int32.lt_iff_toInt_lt.mp (Int32.not_le.mp c_9)
                refine lv_iconst (v := 1) hx hb (oc_4 101 (aq_3 shX12_claim_98)) kic_1 ?_
                refine lv_goto (tgt := 117) hx hb (oc_167 102 (aq_4 shX12_claim_98) sgw_0_15) rfl ?_
                exact W.iret (v := 1) hx hb hr (fun t ht hW => ⟨1, rfl, trivial, ht⟩) (fun _ h => absurd h List.not_mem_nil) (oc_172 117 (aq_19 shX12_claim_98))
            ·
              have tc_8 : ((nI i38).toInt : Int) < (nI a_7).toInt := Int32.lt_iff_toInt_lt.mp (Int32.not_le.mp c_8)
              refine lv_iload hx hb (oc_21 49 shX12_claim_49 ub_4) (lvA1 hl) ?_
              refine lv_aload_n hx hb (oc_42 51 (aq_2 shX12_claim_49)) rfl (lvA2 hl) ?_
              refine gM_174 S hK hP (v := .ref (g 80)) rfl (oc_180 52 (aq_3 shX12_claim_49) uw_0_174) ?_
              refine lv_bipush (v := 12) hx hb (oc_16 55 (aq_6 shX12_claim_49) sgb_12) kbc_12 ?_
              refine lv_iload_n hx hb (oc_27 57 (aq_8 shX12_claim_49)) rfl (lvA3 hl) ?_
              refine lv_imul hx hb (oc_104 58 (aq_9 shX12_claim_49)) ?_
              refine lv_topi (fun y_11 ey_11 => ?_)
              obtain rfl : y_11 = (nI (12 * d0)) := ey_11.trans (pk_mul 12 d0)
              refine lv_iload hx hb (oc_21 59 (aq_10 shX12_claim_49) ub_5) (lvA0 hl) ?_
              refine lv_iadd hx hb (oc_96 61 (aq_12 shX12_claim_49)) ?_
              refine lv_topi (fun y_12 ey_12 => ?_)
              obtain rfl : y_12 = (nI ((12 * d0) + i38)) := ey_12.trans (nI_add (12 * d0) i38)
              have kb_2 : ((12 * d0) + i38) < 120 := by (first | omega | (have zz0 := Hid.u hi_cn; omega))
              refine ldM_80 hx hb hK hP (x := ((Fn 80) ((12 * d0) + i38))) (vp_in_nI kb_2 (ltb rfl)) (nI_clamp (Nat.lt_trans kb_2 (ltb rfl))) rfl (oc_46 62 (aq_13 shX12_claim_49)) ?_
              refine lv_iload_n hx hb (oc_28 63 (aq_14 shX12_claim_49)) rfl (lvA4 hl) ?_
              refine lv_iload_n hx hb (oc_29 64 (aq_15 shX12_claim_49)) rfl (lvA5 hl) ?_
              refine lv_isub hx hb (oc_100 65 (aq_16 shX12_claim_49)) ?_
              refine lv_icmp_lt (tgt := 73) hx hb (oc_161 66 (aq_17 shX12_claim_49) sgw_0_7) rfl (fun c_13 => ?_) (fun c_13 => ?_)
              ·
                have tc_13 : (((Fn 80) ((12 * d0) + i38)).toInt : Int) < (v1 - v2).toInt := Int32.lt_iff_toInt_lt.mp c_13
                refine lv_iconst (v := 0) hx hb (oc_3 73 shX12_claim_73) kic_0 ?_
                refine lv_iadd hx hb (oc_96 74 (aq_1 shX12_claim_73)) ?_
                refine lv_istore (lv' := [(4, .int (x38_4 + 0)), (5, .int (nI i38)), (0, .ref (g 100)), (1, .int (nI d0)), (2, .int v1), (3, .int v2)]) hx hb (oc_54 75 (aq_2 shX12_claim_73) ub_4) hl (ltb rfl) rfl (fun ls hl => ?_)
                refine lv_iinc (v := (nI (i38 + 1))) (lv' := [(5, .int (nI (i38 + 1))), (4, .int (x38_4 + 0)), (0, .ref (g 100)), (1, .int (nI d0)), (2, .int v1), (3, .int v2)]) hx hb (oc_132 77 (aq_4 shX12_claim_73) ub_5 sgb_1) hl (k := 1) rfl (nI_1 _) (ltb rfl) rfl (fun ls hl => ?_)
                refine lv_goto (tgt := 38) hx hb (oc_167 80 (aq_7 shX12_claim_73) sgw_255_214) rfl ?_
                exact ih38 (i38 + 1) (x38_4 + 0) (by (first | omega | (have zz0 := Hid.u hi_cn; omega))) (by (first | omega | (have zz0 := Hid.u hi_cn; omega))) ls (lv_sub hl [0, 1, 2, 3, 4, 5] rfl)
              ·
                have tc_13 : ((v1 - v2).toInt : Int) ≤ ((Fn 80) ((12 * d0) + i38)).toInt := Int32.le_iff_toInt_le.mp (Int32.not_lt.mp c_13)
                refine lv_iconst (v := 1) hx hb (oc_4 69 (aq_20 shX12_claim_49)) kic_1 ?_
                refine lv_goto (tgt := 74) hx hb (oc_167 70 (aq_21 shX12_claim_49) sgw_0_4) rfl ?_
                refine lv_iadd hx hb (oc_96 74 (aq_1 shX12_claim_73)) ?_
                refine lv_istore (lv' := [(4, .int (x38_4 + 1)), (5, .int (nI i38)), (0, .ref (g 100)), (1, .int (nI d0)), (2, .int v1), (3, .int v2)]) hx hb (oc_54 75 (aq_2 shX12_claim_73) ub_4) hl (ltb rfl) rfl (fun ls hl => ?_)
                refine lv_iinc (v := (nI (i38 + 1))) (lv' := [(5, .int (nI (i38 + 1))), (4, .int (x38_4 + 1)), (0, .ref (g 100)), (1, .int (nI d0)), (2, .int v1), (3, .int v2)]) hx hb (oc_132 77 (aq_4 shX12_claim_73) ub_5 sgb_1) hl (k := 1) rfl (nI_1 _) (ltb rfl) rfl (fun ls hl => ?_)
                refine lv_goto (tgt := 38) hx hb (oc_167 80 (aq_7 shX12_claim_73) sgw_255_214) rfl ?_
                exact ih38 (i38 + 1) (x38_4 + 1) (by (first | omega | (have zz0 := Hid.u hi_cn; omega))) (by (first | omega | (have zz0 := Hid.u hi_cn; omega))) ls (lv_sub hl [0, 1, 2, 3, 4, 5] rfl)
        exact lp_38 _ 0 0 (Nat.lt_succ_self _) (by (first | omega | (have zz0 := Hid.u hi_cn; omega))) ls (lv_sub hl [0, 1, 2, 3, 4, 5] rfl)
      ·
        have h_6 : ¬ (0 ≤ v2.toInt ∧ v2.toInt ≤ 1000) := h_6
        refine lv_if_ne (tgt := 32) hx hb (oc_154 27 (aq_3 shX12_claim_24) sgw_0_5) rfl (fun h => absurd h cq_eq_0_0) (fun _ => ?_)
        refine lv_iconst (v := (-1)) hx hb (oc_2 30 (aq_6 shX12_claim_24)) kic_m1 ?_
        exact W.iret (v := (-1)) hx hb hr (fun t ht hW => ⟨(-1), rfl, trivial, ht⟩) (fun _ h => absurd h List.not_mem_nil) (oc_172 31 (aq_7 shX12_claim_24))
    ·
      have h_4 : ¬ (0 ≤ v1.toInt ∧ v1.toInt ≤ 1000) := h_4
      refine lv_if_eq (tgt := 30) hx hb (oc_153 16 (aq_16 shX12_claim_0) sgw_0_14) rfl (fun _ => ?_) (fun h => absurd h cq_eq_0_0)
      refine lv_iconst (v := (-1)) hx hb (oc_2 30 (aq_6 shX12_claim_24)) kic_m1 ?_
      exact W.iret (v := (-1)) hx hb hr (fun t ht hW => ⟨(-1), rfl, trivial, ht⟩) (fun _ h => absurd h List.not_mem_nil) (oc_172 31 (aq_7 shX12_claim_24))
  ·
    have h_2 : ¬ (0 ≤ v0.toInt ∧ v0.toInt < ((cn 62) : Int)) := h_2
    refine lv_if_eq (tgt := 30) hx hb (oc_153 5 (aq_5 shX12_claim_0) sgw_0_25) rfl (fun _ => ?_) (fun h => absurd h cq_eq_0_0)
    refine lv_iconst (v := (-1)) hx hb (oc_2 30 (aq_6 shX12_claim_24)) kic_m1 ?_
    exact W.iret (v := (-1)) hx hb hr (fun t ht hW => ⟨(-1), rfl, trivial, ht⟩) (fun _ h => absurd h List.not_mem_nil) (oc_172 31 (aq_7 shX12_claim_24))
set_option maxRecDepth 100000 in
set_option maxHeartbeats 4000000 in
theorem q_twice (l : Launch) (D : va_G) (cI cB cZ : ClassId) (g : Nat → Nat) (cn : Nat → Nat) (In : Nat → Int32) (Fn : Nat → Nat → Int32) (v0 : Int32) (hI : IM cn Fn) : Met l yX12_twice (CWS yX12_twice cX12_twice 4 (some .int)) (RM 1 0 0) (PBr [.ref (g 100), .int v0] D cI cB cZ (wM cI cB cZ g cn In Fn)) (vp_Si (fun _ => True)) 0 0 (fun _ => False) := by
  refine en_r rfl pn_RX12 (Nat.le_of_ble_eq_true rfl) (fun p e s m below meth c hx hb hml hown S hr hlocks hnm hP hK hS ls hl => ?_)
  have hl : lv_has ls 4 [(0, .ref (g 100)), (1, .int v0)] := hl
  have hi_cn : Hid (CB cn) := hI.b
  refine lv_aload_n hx hb (oc_42 0 shX12_twice_0) rfl (lvA0 hl) ?_
  refine lv_iload_n hx hb (oc_27 1 (aq_1 shX12_twice_0)) rfl (lvA1 hl) ?_
  refine vp_callSi (runV_ra (As := [.int v0]) (rest := []) S (q_isBatch l D cI cB cZ g cn In Fn v0 hI) kV_RX12_450 hK hP 0 rfl rfl rfl ⟨Nat.le_of_ble_eq_true rfl, Nat.le_of_ble_eq_true rfl⟩ ⟨Nat.le_of_ble_eq_true rfl, Nat.le_of_ble_eq_true rfl⟩ rfl hl.1 rfl (Nat.le_of_ble_eq_true rfl) (oc_182 2 (aq_2 shX12_twice_0) uw_1_194)) (fun r_1 h_2 => ?_)
  rcases h_2 with ⟨rfl, h_2⟩ | ⟨rfl, h_2⟩
  ·
    have h_2 : 0 ≤ v0.toInt ∧ v0.toInt < ((cn 62) : Int) := h_2
    refine lv_if_ne (tgt := 10) hx hb (oc_154 5 (aq_5 shX12_twice_0) sgw_0_5) rfl (fun _ => ?_) (fun h => absurd h cq_eq_1_0)
    refine lv_iconst (v := 0) hx hb (oc_3 10 (aq_10 shX12_twice_0)) kic_0 ?_
    refine lv_istore_n (lv' := [(2, .int 0), (0, .ref (g 100)), (1, .int v0)]) hx hb (oc_61 11 (aq_11 shX12_twice_0)) rfl hl (ltb rfl) rfl (fun ls hl => ?_)
    have lp_12 : ∀ (n : Nat) (i12 : Nat) , cn 63 - i12 < n → (i12 ≤ cn 63) → ∀ ls : Array Slot, lv_has ls 4 [(2, .int (nI i12)), (0, .ref (g 100)), (1, .int v0)] → W p l e (RM 1 0 0) s m ([.ref (g 100), .int v0]).toArray below meth c s.heap [] 0 0 (MQ below (vp_Si (fun _ => True)) ([.ref (g 100), .int v0]).toArray s 0 0 (fun _ => False)) (F0 m 12 ls []) := by
      intro n12
      induction n12 with
      | zero => intros; (first | omega | (have zz0 := Hid.u hi_cn; omega))
      | succ n12 ih12 =>
        intro i12 hmu12 hinv12 ls hl
        have hr12 := hinv12
        have ti12 : (nI i12).toInt = (i12 : Int) := nI_toInt (by (first | omega | (have zz0 := Hid.u hi_cn; omega)))
        refine lv_iload_n hx hb (oc_28 12 (aq_12 shX12_twice_0)) rfl (lvA0 hl) ?_
        refine lv_aload_n hx hb (oc_42 13 (aq_13 shX12_twice_0)) rfl (lvA1 hl) ?_
        refine gM_447 S hK hP (v := .int (nI (cn 63))) rfl (oc_180 14 (aq_14 shX12_twice_0) uw_1_191) ?_
        have : (nI (cn 63)).toInt = (((cn 63) : Nat) : Int) := nI_toInt (by (first | omega | (have zz0 := Hid.u hi_cn; omega)))
        refine lv_icmp_ge (tgt := 91) hx hb (oc_162 17 (aq_17 shX12_twice_0) sgw_0_74) rfl (fun c_3 => ?_) (fun c_3 => ?_)
        ·
          have tc_3 : ((nI (cn 63)).toInt : Int) ≤ (nI i12).toInt := Int32.le_iff_toInt_le.mp c_3
          refine lv_iconst (v := (-1)) hx hb (oc_2 91 (aq_19 shX12_twice_72)) kic_m1 ?_
          exact W.iret (v := (-1)) hx hb hr (fun t ht hW => ⟨(-1), rfl, trivial, ht⟩) (fun _ h => absurd h List.not_mem_nil) (oc_172 92 (aq_20 shX12_twice_72))
        ·
          have tc_3 : ((nI i12).toInt : Int) < (nI (cn 63)).toInt := Int32.lt_iff_toInt_lt.mp (Int32.not_le.mp c_3)
          refine lv_iconst (v := 0) hx hb (oc_3 20 (aq_20 shX12_twice_0)) kic_0 ?_
          refine lv_istore_n (lv' := [(3, .int 0), (2, .int (nI i12)), (0, .ref (g 100)), (1, .int v0)]) hx hb (oc_62 21 (aq_21 shX12_twice_0)) rfl hl (ltb rfl) rfl (fun ls hl => ?_)
          have lp_22 : ∀ (n : Nat) (i22 : Nat) , i12 - i22 < n → ((i22 ≤ i12 ∧ i12 < cn 63)) → ∀ ls : Array Slot, lv_has ls 4 [(3, .int (nI i22)), (2, .int (nI i12)), (0, .ref (g 100)), (1, .int v0)] → W p l e (RM 1 0 0) s m ([.ref (g 100), .int v0]).toArray below meth c s.heap [] 0 0 (MQ below (vp_Si (fun _ => True)) ([.ref (g 100), .int v0]).toArray s 0 0 (fun _ => False)) (F0 m 22 ls []) := by
            intro n22
            induction n22 with
            | zero => intros; (first | omega | (have zz0 := Hid.u hi_cn; omega))
            | succ n22 ih22 =>
              intro i22 hmu22 hinv22 ls hl
              have hr22 := hinv22
              have ti22 : (nI i22).toInt = (i22 : Int) := nI_toInt (by (first | omega | (have zz0 := Hid.u hi_cn; omega)))
              refine lv_iload_n hx hb (oc_29 22 (aq_22 shX12_twice_0)) rfl (lvA0 hl) ?_
              refine lv_iload_n hx hb (oc_28 23 (aq_23 shX12_twice_0)) rfl (lvA1 hl) ?_
              refine lv_icmp_ge (tgt := 85) hx hb (oc_162 24 shX12_twice_24 sgw_0_61) rfl (fun c_4 => ?_) (fun c_4 => ?_)
              ·
                have tc_4 : ((nI i12).toInt : Int) ≤ (nI i22).toInt := Int32.le_iff_toInt_le.mp c_4
                refine lv_iinc (v := (nI (i12 + 1))) (lv' := [(2, .int (nI (i12 + 1))), (3, .int (nI i22)), (0, .ref (g 100)), (1, .int v0)]) hx hb (oc_132 85 (aq_13 shX12_twice_72) ub_2 sgb_1) hl (k := 1) rfl (nI_1 _) (ltb rfl) rfl (fun ls hl => ?_)
                refine lv_goto (tgt := 12) hx hb (oc_167 88 (aq_16 shX12_twice_72) sgw_255_180) rfl ?_
                exact ih12 (i12 + 1) (by (first | omega | (have zz0 := Hid.u hi_cn; omega))) (by (first | omega | (have zz0 := Hid.u hi_cn; omega))) ls (lv_sub hl [0, 2, 3] rfl)
              ·
                have tc_4 : ((nI i22).toInt : Int) < (nI i12).toInt := Int32.lt_iff_toInt_lt.mp (Int32.not_le.mp c_4)
                refine lv_aload_n hx hb (oc_42 27 (aq_3 shX12_twice_24)) rfl (lvA2 hl) ?_
                refine gM_147 S hK hP (v := .ref (g 67)) rfl (oc_180 28 (aq_4 shX12_twice_24) uw_0_147) ?_
                refine lv_iload_n hx hb (oc_28 31 (aq_7 shX12_twice_24)) rfl (lvA1 hl) ?_
                have kb_1 : i12 < 40 := by (first | omega | (have zz0 := Hid.u hi_cn; omega))
                obtain ⟨a_5, ha_5, ea_5⟩ := hI.e67 i12 (by (first | omega | (have zz0 := Hid.u hi_cn; omega)))
                refine ldM_67 hx hb hK hP (x := (nI a_5)) (vp_in_nI kb_1 (ltb rfl)) (nI_clamp (Nat.lt_trans kb_1 (ltb rfl))) ea_5 (oc_46 32 (aq_8 shX12_twice_24)) ?_
                refine lv_iload_n hx hb (oc_27 33 (aq_9 shX12_twice_24)) rfl (lvA3 hl) ?_
                have : (nI a_5).toInt = ((a_5 : Nat) : Int) := nI_toInt (by (first | omega | (have zz0 := Hid.u hi_cn; omega)))
                refine lv_icmp_ne (tgt := 79) hx hb (oc_160 34 (aq_10 shX12_twice_24) sgw_0_45) rfl (fun c_6 => ?_) (fun c_6 => ?_)
                ·
                  have tc_6 : ((nI a_5).toInt : Int) ≠ v0.toInt := fun q => c_6 (Int32.toInt_inj.mp q)
                  refine lv_iinc (v := (nI (i22 + 1))) (lv' := [(3, .int (nI (i22 + 1))), (2, .int (nI i12)), (0, .ref (g 100)), (1, .int v0)]) hx hb dX12_twice_79 hl (k := 0) rfl (nI_1 _) (ltb rfl) rfl (fun ls hl => ?_)
                  refine lv_goto (tgt := 22) hx hb dX12_twice_82 rfl ?_
                  exact ih22 (i22 + 1) (by (first | omega | (have zz0 := Hid.u hi_cn; omega))) (by (first | omega | (have zz0 := Hid.u hi_cn; omega))) ls (lv_sub hl [0, 1, 2, 3] rfl)
                ·
                  have tc_6 : ((nI a_5).toInt : Int) = v0.toInt := congrArg Int32.toInt c_6
                  refine lv_aload_n hx hb (oc_42 37 (aq_13 shX12_twice_24)) rfl (lvA2 hl) ?_
                  refine gM_147 S hK hP (v := .ref (g 67)) rfl (oc_180 38 (aq_14 shX12_twice_24) uw_0_147) ?_
                  refine lv_iload_n hx hb (oc_29 41 (aq_17 shX12_twice_24)) rfl (lvA0 hl) ?_
                  have kb_2 : i22 < 40 := by (first | omega | (have zz0 := Hid.u hi_cn; omega))
                  obtain ⟨a_7, ha_7, ea_7⟩ := hI.e67 i22 (by (first | omega | (have zz0 := Hid.u hi_cn; omega)))
                  refine ldM_67 hx hb hK hP (x := (nI a_7)) (vp_in_nI kb_2 (ltb rfl)) (nI_clamp (Nat.lt_trans kb_2 (ltb rfl))) ea_7 (oc_46 42 (aq_18 shX12_twice_24)) ?_
                  refine lv_iload_n hx hb (oc_27 43 (aq_19 shX12_twice_24)) rfl (lvA3 hl) ?_
                  have : (nI a_7).toInt = ((a_7 : Nat) : Int) := nI_toInt (by (first | omega | (have zz0 := Hid.u hi_cn; omega)))
                  refine lv_icmp_ne (tgt := 79) hx hb (oc_160 44 (aq_20 shX12_twice_24) sgw_0_35) rfl (fun c_8 => ?_) (fun c_8 => ?_)
                  ·
                    have tc_8 : ((nI a_7).toInt : Int) ≠ v0.toInt := fun q => c_8 (Int32.toInt_inj.mp q)
                    refine lv_iinc (v := (nI (i22 + 1))) (lv' := [(3, .int (nI (i22 + 1))), (2, .int (nI i12)), (0, .ref (g 100)), (1, .int v0)]) hx hb dX12_twice_79 hl (k := 0) rfl (nI_1 _) (ltb rfl) rfl (fun ls hl => ?_)
                    refine lv_goto (tgt := 22) hx hb dX12_twice_82 rfl ?_
                    exact ih22 (i22 + 1) (by (first | omega | (have zz0 := Hid.u hi_cn; omega))) (by (first | omega | (have zz0 := Hid.u hi_cn; omega))) ls (lv_sub hl [0, 1, 2, 3] rfl)
                  ·
                    have tc_8 : ((nI a_7).toInt : Int) = v0.toInt := congrArg Int32.toInt c_8
                    refine lv_aload_n hx hb (oc_42 47 (aq_23 shX12_twice_24)) rfl (lvA2 hl) ?_
                    refine gM_150 S hK hP (v := .ref (g 68)) rfl (oc_180 48 shX12_twice_48 uw_0_150) ?_
                    refine lv_iload_n hx hb (oc_28 51 (aq_3 shX12_twice_48)) rfl (lvA1 hl) ?_
                    obtain ⟨a_9, ha_9, ea_9⟩ := hI.e68 i12 (by (first | omega | (have zz0 := Hid.u hi_cn; omega)))
                    refine ldM_68 hx hb hK hP (x := (nI a_9)) (vp_in_nI kb_1 (ltb rfl)) (nI_clamp (Nat.lt_trans kb_1 (ltb rfl))) ea_9 (oc_46 52 (aq_4 shX12_twice_48)) ?_
                    refine lv_aload_n hx hb (oc_42 53 (aq_5 shX12_twice_48)) rfl (lvA2 hl) ?_
                    refine gM_153 S hK hP (v := .ref (g 69)) rfl (oc_180 54 (aq_6 shX12_twice_48) uw_0_153) ?_
                    refine lv_iload_n hx hb (oc_29 57 (aq_9 shX12_twice_48)) rfl (lvA0 hl) ?_
                    obtain ⟨a_10, ha_10, ea_10⟩ := hI.e69 i22 (by (first | omega | (have zz0 := Hid.u hi_cn; omega)))
                    refine ldM_69 hx hb hK hP (x := (nI a_10)) (vp_in_nI kb_2 (ltb rfl)) (nI_clamp (Nat.lt_trans kb_2 (ltb rfl))) ea_10 (oc_46 58 (aq_10 shX12_twice_48)) ?_
                    have : (nI a_9).toInt = ((a_9 : Nat) : Int) := nI_toInt (by (first | omega | (have zz0 := Hid.u hi_cn; omega)))
                    have : (nI a_10).toInt = ((a_10 : Nat) : Int) := nI_toInt (by (first | omega | (have zz0 := Hid.u hi_cn; omega)))
                    refine lv_icmp_ge (tgt := 79) hx hb (oc_162 59 (aq_11 shX12_twice_48) sgw_0_20) rfl (fun c_11 => ?_) (fun c_11 => ?_)
                    ·
                      have tc_11 : ((nI a_10).toInt : Int) ≤ (nI a_9).toInt := Int32.le_iff_toInt_le.mp c_11
                      refine lv_iinc (v := (nI (i22 + 1))) (lv' := [(3, .int (nI (i22 + 1))), (2, .int (nI i12)), (0, .ref (g 100)), (1, .int v0)]) hx hb dX12_twice_79 hl (k := 0) rfl (nI_1 _) (ltb rfl) rfl (fun ls hl => ?_)
                      refine lv_goto (tgt := 22) hx hb dX12_twice_82 rfl ?_
                      exact ih22 (i22 + 1) (by (first | omega | (have zz0 := Hid.u hi_cn; omega))) (by (first | omega | (have zz0 := Hid.u hi_cn; omega))) ls (lv_sub hl [0, 1, 2, 3] rfl)
                    ·
                      have tc_11 : ((nI a_9).toInt : Int) < (nI a_10).toInt := Int32.lt_iff_toInt_lt.mp (Int32.not_le.mp c_11)
                      refine lv_aload_n hx hb (oc_42 62 (aq_14 shX12_twice_48)) rfl (lvA2 hl) ?_
                      refine gM_150 S hK hP (v := .ref (g 68)) rfl (oc_180 63 (aq_15 shX12_twice_48) uw_0_150) ?_
                      refine lv_iload_n hx hb (oc_29 66 (aq_18 shX12_twice_48)) rfl (lvA0 hl) ?_
                      obtain ⟨a_12, ha_12, ea_12⟩ := hI.e68 i22 (by (first | omega | (have zz0 := Hid.u hi_cn; omega)))
                      refine ldM_68 hx hb hK hP (x := (nI a_12)) (vp_in_nI kb_2 (ltb rfl)) (nI_clamp (Nat.lt_trans kb_2 (ltb rfl))) ea_12 (oc_46 67 (aq_19 shX12_twice_48)) ?_
                      refine lv_aload_n hx hb (oc_42 68 (aq_20 shX12_twice_48)) rfl (lvA2 hl) ?_
                      refine gM_153 S hK hP (v := .ref (g 69)) rfl (oc_180 69 (aq_21 shX12_twice_48) uw_0_153) ?_
                      refine lv_iload_n hx hb (oc_28 72 shX12_twice_72) rfl (lvA1 hl) ?_
                      obtain ⟨a_13, ha_13, ea_13⟩ := hI.e69 i12 (by (first | omega | (have zz0 := Hid.u hi_cn; omega)))
                      refine ldM_69 hx hb hK hP (x := (nI a_13)) (vp_in_nI kb_1 (ltb rfl)) (nI_clamp (Nat.lt_trans kb_1 (ltb rfl))) ea_13 (oc_46 73 (aq_1 shX12_twice_72)) ?_
                      have : (nI a_12).toInt = ((a_12 : Nat) : Int) := nI_toInt (by (first | omega | (have zz0 := Hid.u hi_cn; omega)))
                      have : (nI a_13).toInt = ((a_13 : Nat) : Int) := nI_toInt (by (first | omega | (have zz0 := Hid.u hi_cn; omega)))
                      refine lv_icmp_ge (tgt := 79) hx hb (oc_162 74 (aq_2 shX12_twice_72) sgw_0_5) rfl (fun c_14 => ?_) (fun c_14 => ?_)
                      ·
                        have tc_14 : ((nI a_13).toInt : Int) ≤ (nI a_12).toInt := Int32.le_iff_toInt_le.mp c_14
                        refine lv_iinc (v := (nI (i22 + 1))) (lv' := [(3, .int (nI (i22 + 1))), (2, .int (nI i12)), (0, .ref (g 100)), (1, .int v0)]) hx hb dX12_twice_79 hl (k := 0) rfl (nI_1 _) (ltb rfl) rfl (fun ls hl => ?_)
                        refine lv_goto (tgt := 22) hx hb dX12_twice_82 rfl ?_
                        exact ih22 (i22 + 1) (by (first | omega | (have zz0 := Hid.u hi_cn; omega))) (by (first | omega | (have zz0 := Hid.u hi_cn; omega))) ls (lv_sub hl [0, 1, 2, 3] rfl)
                      ·
                        have tc_14 : ((nI a_12).toInt : Int) < (nI a_13).toInt := Int32.lt_iff_toInt_lt.mp (Int32.not_le.mp c_14)
                        refine lv_iload_n hx hb (oc_28 77 (aq_5 shX12_twice_72)) rfl (lvA1 hl) ?_
                        exact W.iret (v := (nI i12)) hx hb hr (fun t ht hW => ⟨(nI i12), rfl, trivial, ht⟩) (fun _ h => absurd h List.not_mem_nil) (oc_172 78 (aq_6 shX12_twice_72))
          exact lp_22 _ 0 (Nat.lt_succ_self _) (by (first | omega | (have zz0 := Hid.u hi_cn; omega))) ls (lv_sub hl [0, 1, 2, 3] rfl)
    exact lp_12 _ 0 (Nat.lt_succ_self _) (by (first | omega | (have zz0 := Hid.u hi_cn; omega))) ls (lv_sub hl [0, 1, 2] rfl)
  ·
    have h_2 : ¬ (0 ≤ v0.toInt ∧ v0.toInt < ((cn 62) : Int)) := h_2
    refine lv_if_ne (tgt := 10) hx hb (oc_154 5 (aq_5 shX12_twice_0) sgw_0_5) rfl (fun h => absurd h cq_eq_0_0) (fun _ => ?_)
    refine lv_iconst (v := (-1)) hx hb (oc_2 8 (aq_8 shX12_twice_0)) kic_m1 ?_
    exact W.iret (v := (-1)) hx hb hr (fun t ht hW => ⟨(-1), rfl, trivial, ht⟩) (fun _ h => absurd h List.not_mem_nil) (oc_172 9 (aq_9 shX12_twice_0))
set_option maxRecDepth 100000 in
set_option maxHeartbeats 4000000 in
theorem q_tax (l : Launch) (D : va_G) (cI cB cZ : ClassId) (g : Nat → Nat) (cn : Nat → Nat) (In : Nat → Int32) (Fn : Nat → Nat → Int32) (v0 : Int32) (hI : IM cn Fn) : Met l yX12_tax (CWS yX12_tax cX12_tax 2 (some .int)) (RM 1 0 0) (PBr [.ref (g 100), .int v0] D cI cB cZ (wM cI cB cZ g cn In Fn)) (vp_Si (fun _ => True)) 0 0 (fun _ => False) := by
  refine en_r rfl pn_RX12 (Nat.le_of_ble_eq_true rfl) (fun p e s m below meth c hx hb hml hown S hr hlocks hnm hP hK hS ls hl => ?_)
  have hl : lv_has ls 2 [(0, .ref (g 100)), (1, .int v0)] := hl
  have hi_cn : Hid (CB cn) := hI.b
  refine lv_aload_n hx hb (oc_42 0 shX12_tax_0) rfl (lvA0 hl) ?_
  refine lv_iload_n hx hb (oc_27 1 (aq_1 shX12_tax_0)) rfl (lvA1 hl) ?_
  refine vp_callSi (runV_ra (As := [.int v0]) (rest := []) S (q_isProof l D cI cB cZ g cn In Fn v0 hI) kV_RX12_459 hK hP 0 rfl rfl rfl ⟨Nat.le_of_ble_eq_true rfl, Nat.le_of_ble_eq_true rfl⟩ ⟨Nat.le_of_ble_eq_true rfl, Nat.le_of_ble_eq_true rfl⟩ rfl hl.1 rfl (Nat.le_of_ble_eq_true rfl) (oc_182 2 (aq_2 shX12_tax_0) uw_1_203)) (fun r_1 h_2 => ?_)
  rcases h_2 with ⟨rfl, h_2⟩ | ⟨rfl, h_2⟩
  ·
    have h_2 : 0 ≤ v0.toInt ∧ v0.toInt < ((cn 63) : Int) := h_2
    refine lv_if_eq (tgt := 57) hx hb (oc_153 5 (aq_5 shX12_tax_0) sgw_0_52) rfl (fun h => absurd h cq_eq_1_0) (fun _ => ?_)
    obtain ⟨d0, hd0, rfl⟩ := nI_of (x := v0) (fun q => by have := Int32.lt_iff_toInt_lt.mp q; have e : (0 : Int32).toInt = 0 := rfl; (first | omega | (have zz0 := Hid.u hi_cn; omega)))
    have td0 : (nI d0).toInt = (d0 : Int) := nI_toInt hd0
    have zd0 : (nI d0).toInt.toNat = d0 := by (first | omega | (have zz0 := Hid.u hi_cn; omega))
    refine lv_aload_n hx hb (oc_42 8 (aq_8 shX12_tax_0)) rfl (lvA0 hl) ?_
    refine gM_153 S hK hP (v := .ref (g 69)) rfl (oc_180 9 (aq_9 shX12_tax_0) uw_0_153) ?_
    refine lv_iload_n hx hb (oc_27 12 (aq_12 shX12_tax_0)) rfl (lvA1 hl) ?_
    have kb_1 : d0 < 40 := by (first | omega | (have zz0 := Hid.u hi_cn; omega))
    obtain ⟨a_3, ha_3, ea_3⟩ := hI.e69 d0 (by (first | omega | (have zz0 := Hid.u hi_cn; omega)))
    refine ldM_69 hx hb hK hP (x := (nI a_3)) (vp_in_nI kb_1 (ltb rfl)) (nI_clamp (Nat.lt_trans kb_1 (ltb rfl))) ea_3 (oc_46 13 (aq_13 shX12_tax_0)) ?_
    refine lv_aload_n hx hb (oc_42 14 (aq_14 shX12_tax_0)) rfl (lvA0 hl) ?_
    refine gM_150 S hK hP (v := .ref (g 68)) rfl (oc_180 15 (aq_15 shX12_tax_0) uw_0_150) ?_
    refine lv_iload_n hx hb (oc_27 18 (aq_18 shX12_tax_0)) rfl (lvA1 hl) ?_
    obtain ⟨a_4, ha_4, ea_4⟩ := hI.e68 d0 (by (first | omega | (have zz0 := Hid.u hi_cn; omega)))
    refine ldM_68 hx hb hK hP (x := (nI a_4)) (vp_in_nI kb_1 (ltb rfl)) (nI_clamp (Nat.lt_trans kb_1 (ltb rfl))) ea_4 (oc_46 19 (aq_19 shX12_tax_0)) ?_
    refine lv_isub hx hb (oc_100 20 (aq_20 shX12_tax_0)) ?_
    refine lv_aload_n hx hb (oc_42 21 (aq_21 shX12_tax_0)) rfl (lvA0 hl) ?_
    refine gM_165 S hK hP (v := .ref (g 77)) rfl (oc_180 22 (aq_22 shX12_tax_0) uw_0_165) ?_
    refine lv_bipush (v := 58) hx hb (oc_16 25 shX12_tax_25 sgb_58) kbc_58 ?_
    refine lv_aload_n hx hb (oc_42 27 (aq_2 shX12_tax_25)) rfl (lvA0 hl) ?_
    refine gM_162 S hK hP (v := .ref (g 76)) rfl (oc_180 28 (aq_3 shX12_tax_25) uw_0_162) ?_
    refine lv_aload_n hx hb (oc_42 31 (aq_6 shX12_tax_25)) rfl (lvA0 hl) ?_
    refine gM_156 S hK hP (v := .ref (g 70)) rfl (oc_180 32 (aq_7 shX12_tax_25) uw_0_156) ?_
    refine lv_iload_n hx hb (oc_27 35 (aq_10 shX12_tax_25)) rfl (lvA1 hl) ?_
    obtain ⟨a_5, ha_5, ea_5⟩ := hI.e70 d0 (by (first | omega | (have zz0 := Hid.u hi_cn; omega)))
    refine ldM_70 hx hb hK hP (x := (nI a_5)) (vp_in_nI kb_1 (ltb rfl)) (nI_clamp (Nat.lt_trans kb_1 (ltb rfl))) ea_5 (oc_46 36 (aq_11 shX12_tax_25)) ?_
    have kb_2 : a_5 < 10 := by (first | omega | (have zz0 := Hid.u hi_cn; omega))
    obtain ⟨a_6, ha_6, ea_6⟩ := hI.e76 a_5 (by (first | omega | (have zz0 := Hid.u hi_cn; omega)))
    refine ldM_76 hx hb hK hP (x := (nI a_6)) (vp_in_nI kb_2 (ltb rfl)) (nI_clamp (Nat.lt_trans kb_2 (ltb rfl))) ea_6 (oc_46 37 (aq_12 shX12_tax_25)) ?_
    refine lv_imul hx hb (oc_104 38 (aq_13 shX12_tax_25)) ?_
    refine lv_topi (fun y_7 ey_7 => ?_)
    obtain rfl : y_7 = (nI (58 * a_6)) := ey_7.trans (pk_mul 58 a_6)
    refine lv_aload_n hx hb (oc_42 39 (aq_14 shX12_tax_25)) rfl (lvA0 hl) ?_
    refine gM_144 S hK hP (v := .ref (g 66)) rfl (oc_180 40 (aq_15 shX12_tax_25) uw_0_144) ?_
    refine lv_iload_n hx hb (oc_27 43 (aq_18 shX12_tax_25)) rfl (lvA1 hl) ?_
    obtain ⟨a_8, ha_8, ea_8⟩ := hI.e66 d0 (by (first | omega | (have zz0 := Hid.u hi_cn; omega)))
    refine ldM_66 hx hb hK hP (x := (nI a_8)) (vp_in_nI kb_1 (ltb rfl)) (nI_clamp (Nat.lt_trans kb_1 (ltb rfl))) ea_8 (oc_46 44 (aq_19 shX12_tax_25)) ?_
    refine lv_bipush (v := 7) hx hb (oc_16 45 (aq_20 shX12_tax_25) sgb_7) kbc_7 ?_
    refine lv_idiv hx hb (oc_108 47 (aq_22 shX12_tax_25)) (by decide) ?_
    refine lv_topi (fun y_9 ey_9 => ?_)
    obtain rfl : y_9 = (nI (a_8 / 7)) := ey_9.trans (nI_div (by (first | omega | (have zz0 := Hid.u hi_cn; omega))) (by decide))
    refine lv_iadd hx hb (oc_96 48 (aq_23 shX12_tax_25)) ?_
    refine lv_topi (fun y_10 ey_10 => ?_)
    obtain rfl : y_10 = (nI ((58 * a_6) + (a_8 / 7))) := ey_10.trans (nI_add (58 * a_6) (a_8 / 7))
    have kb_3 : ((58 * a_6) + (a_8 / 7)) < 232 := by (first | omega | (have zz0 := Hid.u hi_cn; omega))
    refine ldM_77 hx hb hK hP (x := ((Fn 77) ((58 * a_6) + (a_8 / 7)))) (vp_in_nI kb_3 (ltb rfl)) (nI_clamp (Nat.lt_trans kb_3 (ltb rfl))) rfl (oc_46 49 shX12_tax_49) ?_
    refine lv_imul hx hb (oc_104 50 (aq_1 shX12_tax_49)) ?_
    refine lv_bipush (v := 100) hx hb (oc_16 51 (aq_2 shX12_tax_49) sgb_100) kbc_100 ?_
    refine lv_idiv hx hb (oc_108 53 (aq_4 shX12_tax_49)) (by decide) ?_
    refine lv_goto (tgt := 58) hx hb (oc_167 54 (aq_5 shX12_tax_49) sgw_0_4) rfl ?_
    exact W.iret (v := ((((nI a_3) - (nI a_4)) * ((Fn 77) ((58 * a_6) + (a_8 / 7)))) / 100)) hx hb hr (fun t ht hW => ⟨((((nI a_3) - (nI a_4)) * ((Fn 77) ((58 * a_6) + (a_8 / 7)))) / 100), rfl, trivial, ht⟩) (fun _ h => absurd h List.not_mem_nil) (oc_172 58 (aq_9 shX12_tax_49))
  ·
    have h_2 : ¬ (0 ≤ v0.toInt ∧ v0.toInt < ((cn 63) : Int)) := h_2
    refine lv_if_eq (tgt := 57) hx hb (oc_153 5 (aq_5 shX12_tax_0) sgw_0_52) rfl (fun _ => ?_) (fun h => absurd h cq_eq_0_0)
    refine lv_iconst (v := (-1)) hx hb (oc_2 57 (aq_8 shX12_tax_49)) kic_m1 ?_
    exact W.iret (v := (-1)) hx hb hr (fun t ht hW => ⟨(-1), rfl, trivial, ht⟩) (fun _ h => absurd h List.not_mem_nil) (oc_172 58 (aq_9 shX12_tax_49))
set_option maxRecDepth 100000 in
set_option maxHeartbeats 4000000 in
theorem q_overdrawn (l : Launch) (D : va_G) (cI cB cZ : ClassId) (g : Nat → Nat) (cn : Nat → Nat) (In : Nat → Int32) (Fn : Nat → Nat → Int32) (v0 : Int32) (hI : IM cn Fn) : Met l yX12_overdrawn (CWS yX12_overdrawn cX12_overdrawn 6 (some .int)) (RM 1 0 0) (PBr [.ref (g 100), .int v0] D cI cB cZ (wM cI cB cZ g cn In Fn)) (vp_Si (fun _ => True)) 0 0 (fun _ => False) := by
  refine en_r rfl pn_RX12 (Nat.le_of_ble_eq_true rfl) (fun p e s m below meth c hx hb hml hown S hr hlocks hnm hP hK hS ls hl => ?_)
  have hl : lv_has ls 6 [(0, .ref (g 100)), (1, .int v0)] := hl
  have hi_cn : Hid (CB cn) := hI.b
  refine lv_iload_n hx hb (oc_27 0 shX12_overdrawn_0) rfl (lvA1 hl) ?_
  refine lv_iconst (v := 0) hx hb (oc_3 1 (aq_1 shX12_overdrawn_0)) kic_0 ?_
  refine lv_bipush (v := 57) hx hb (oc_16 2 (aq_2 shX12_overdrawn_0) sgb_57) kbc_57 ?_
  refine vp_callSi (runS_r (As := [.int v0, .int 0, .int 57]) (rest := []) S (q_in l D cI cB cZ v0 0 57 ) kS_RX12_214 hK hP [] rfl ⟨Nat.le_of_ble_eq_true rfl, Nat.le_of_ble_eq_true rfl⟩ ⟨Nat.le_of_ble_eq_true rfl, Nat.le_of_ble_eq_true rfl⟩ rfl hl.1 rfl (Nat.le_of_ble_eq_true rfl) (oc_184 4 (aq_4 shX12_overdrawn_0) uw_0_214)) (fun r_1 h_2 => ?_)
  rcases h_2 with ⟨rfl, h_2⟩ | ⟨rfl, h_2⟩
  ·
    have h_2 : 0 ≤ v0.toInt ∧ v0.toInt ≤ 57 := h_2
    refine lv_if_ne (tgt := 12) hx hb (oc_154 7 (aq_7 shX12_overdrawn_0) sgw_0_5) rfl (fun _ => ?_) (fun h => absurd h cq_eq_1_0)
    refine lv_iconst (v := 0) hx hb (oc_3 12 (aq_12 shX12_overdrawn_0)) kic_0 ?_
    refine lv_istore_n (lv' := [(2, .int 0), (0, .ref (g 100)), (1, .int v0)]) hx hb (oc_61 13 (aq_13 shX12_overdrawn_0)) rfl hl (ltb rfl) rfl (fun ls hl => ?_)
    refine lv_iconst (v := 0) hx hb (oc_3 14 (aq_14 shX12_overdrawn_0)) kic_0 ?_
    refine lv_istore_n (lv' := [(3, .int 0), (2, .int 0), (0, .ref (g 100)), (1, .int v0)]) hx hb (oc_62 15 (aq_15 shX12_overdrawn_0)) rfl hl (ltb rfl) rfl (fun ls hl => ?_)
    have lp_16 : ∀ (n : Nat) (i16 : Nat) (x16_2 : Int32) , 10 - i16 < n → (i16 ≤ 10) → ∀ ls : Array Slot, lv_has ls 6 [(3, .int (nI i16)), (2, .int x16_2), (0, .ref (g 100)), (1, .int v0)] → W p l e (RM 1 0 0) s m ([.ref (g 100), .int v0]).toArray below meth c s.heap [] 0 0 (MQ below (vp_Si (fun _ => True)) ([.ref (g 100), .int v0]).toArray s 0 0 (fun _ => False)) (F0 m 16 ls []) := by
      intro n16
      induction n16 with
      | zero => intros; (first | omega | (have zz0 := Hid.u hi_cn; omega))
      | succ n16 ih16 =>
        intro i16 x16_2 hmu16 hinv16 ls hl
        have hr16 := hinv16
        have ti16 : (nI i16).toInt = (i16 : Int) := nI_toInt (by (first | omega | (have zz0 := Hid.u hi_cn; omega)))
        refine lv_iload_n hx hb (oc_29 16 (aq_16 shX12_overdrawn_0)) rfl (lvA0 hl) ?_
        refine lv_bipush (v := 10) hx hb (oc_16 17 (aq_17 shX12_overdrawn_0) sgb_10) kbc_10 ?_
        refine lv_icmp_ge (tgt := 119) hx hb (oc_162 19 (aq_19 shX12_overdrawn_0) sgw_0_100) rfl (fun c_3 => ?_) (fun c_3 => ?_)
        ·
          have tc_3 : (10 : Int) ≤ (nI i16).toInt := Int32.le_iff_toInt_le.mp c_3
          refine lv_iload_n hx hb (oc_28 119 (aq_20 shX12_overdrawn_99)) rfl (lvA1 hl) ?_
          exact W.iret (v := x16_2) hx hb hr (fun t ht hW => ⟨x16_2, rfl, trivial, ht⟩) (fun _ h => absurd h List.not_mem_nil) (oc_172 120 (aq_21 shX12_overdrawn_99))
        ·
          have tc_3 : ((nI i16).toInt : Int) < 10 := Int32.lt_iff_toInt_lt.mp (Int32.not_le.mp c_3)
          refine lv_iconst (v := 0) hx hb (oc_3 22 (aq_22 shX12_overdrawn_0)) kic_0 ?_
          refine lv_istore (lv' := [(4, .int 0), (3, .int (nI i16)), (2, .int x16_2), (0, .ref (g 100)), (1, .int v0)]) hx hb (oc_54 23 (aq_23 shX12_overdrawn_0) ub_4) hl (ltb rfl) rfl (fun ls hl => ?_)
          refine lv_iconst (v := 0) hx hb (oc_3 25 shX12_overdrawn_25) kic_0 ?_
          refine lv_istore (lv' := [(5, .int 0), (4, .int 0), (3, .int (nI i16)), (2, .int x16_2), (0, .ref (g 100)), (1, .int v0)]) hx hb (oc_54 26 (aq_1 shX12_overdrawn_25) ub_5) hl (ltb rfl) rfl (fun ls hl => ?_)
          have lp_28 : ∀ (n : Nat) (i28 : Nat) (x28_4 : Int32) , cn 63 - i28 < n → (i28 ≤ cn 63) → ∀ ls : Array Slot, lv_has ls 6 [(5, .int (nI i28)), (4, .int x28_4), (3, .int (nI i16)), (2, .int x16_2), (0, .ref (g 100)), (1, .int v0)] → W p l e (RM 1 0 0) s m ([.ref (g 100), .int v0]).toArray below meth c s.heap [] 0 0 (MQ below (vp_Si (fun _ => True)) ([.ref (g 100), .int v0]).toArray s 0 0 (fun _ => False)) (F0 m 28 ls []) := by
            intro n28
            induction n28 with
            | zero => intros; (first | omega | (have zz0 := Hid.u hi_cn; omega))
            | succ n28 ih28 =>
              intro i28 x28_4 hmu28 hinv28 ls hl
              have hr28 := hinv28
              have ti28 : (nI i28).toInt = (i28 : Int) := nI_toInt (by (first | omega | (have zz0 := Hid.u hi_cn; omega)))
              refine lv_iload hx hb (oc_21 28 (aq_3 shX12_overdrawn_25) ub_5) (lvA0 hl) ?_
              refine lv_aload_n hx hb (oc_42 30 (aq_5 shX12_overdrawn_25)) rfl (lvA4 hl) ?_
              refine gM_447 S hK hP (v := .int (nI (cn 63))) rfl (oc_180 31 (aq_6 shX12_overdrawn_25) uw_1_191) ?_
              have : (nI (cn 63)).toInt = (((cn 63) : Nat) : Int) := nI_toInt (by (first | omega | (have zz0 := Hid.u hi_cn; omega)))
              refine lv_icmp_ge (tgt := 92) hx hb (oc_162 34 (aq_9 shX12_overdrawn_25) sgw_0_58) rfl (fun c_4 => ?_) (fun c_4 => ?_)
              ·
                have tc_4 : ((nI (cn 63)).toInt : Int) ≤ (nI i28).toInt := Int32.le_iff_toInt_le.mp c_4
                refine lv_iload hx hb (oc_21 92 (aq_17 shX12_overdrawn_75) ub_4) (lvA1 hl) ?_
                refine lv_aload_n hx hb (oc_42 94 (aq_19 shX12_overdrawn_75)) rfl (lvA4 hl) ?_
                refine gM_168 S hK hP (v := .ref (g 78)) rfl (oc_180 95 (aq_20 shX12_overdrawn_75) uw_0_168) ?_
                refine lv_iload_n hx hb (oc_29 98 (aq_23 shX12_overdrawn_75)) rfl (lvA2 hl) ?_
                have kb_1 : i16 < 10 := by (first | omega | (have zz0 := Hid.u hi_cn; omega))
                refine ldM_78 hx hb hK hP (x := ((Fn 78) i16)) (vp_in_nI kb_1 (ltb rfl)) (nI_clamp (Nat.lt_trans kb_1 (ltb rfl))) rfl (oc_46 99 shX12_overdrawn_99) ?_
                refine lv_icmp_le (tgt := 111) hx hb (oc_164 100 (aq_1 shX12_overdrawn_99) sgw_0_11) rfl (fun c_5 => ?_) (fun c_5 => ?_)
                ·
                  have tc_5 : (x28_4.toInt : Int) ≤ ((Fn 78) i16).toInt := Int32.le_iff_toInt_le.mp c_5
                  refine lv_iload_n hx hb (oc_28 111 (aq_12 shX12_overdrawn_99)) rfl (lvA3 hl) ?_
                  refine lv_istore_n (lv' := [(2, .int x16_2), (5, .int (nI i28)), (4, .int x28_4), (3, .int (nI i16)), (0, .ref (g 100)), (1, .int v0)]) hx hb (oc_61 112 (aq_13 shX12_overdrawn_99)) rfl hl (ltb rfl) rfl (fun ls hl => ?_)
                  refine lv_iinc (v := (nI (i16 + 1))) (lv' := [(3, .int (nI (i16 + 1))), (2, .int x16_2), (5, .int (nI i28)), (4, .int x28_4), (0, .ref (g 100)), (1, .int v0)]) hx hb (oc_132 113 (aq_14 shX12_overdrawn_99) ub_3 sgb_1) hl (k := 3) rfl (nI_1 _) (ltb rfl) rfl (fun ls hl => ?_)
                  refine lv_goto (tgt := 16) hx hb (oc_167 116 (aq_17 shX12_overdrawn_99) sgw_255_156) rfl ?_
                  exact ih16 (i16 + 1) x16_2 (by (first | omega | (have zz0 := Hid.u hi_cn; omega))) (by (first | omega | (have zz0 := Hid.u hi_cn; omega))) ls (lv_sub hl [0, 1, 4, 5] rfl)
                ·
                  have tc_5 : (((Fn 78) i16).toInt : Int) < x28_4.toInt := Int32.lt_iff_toInt_lt.mp (Int32.not_le.mp c_5)
                  refine lv_iload_n hx hb (oc_28 103 (aq_4 shX12_overdrawn_99)) rfl (lvA3 hl) ?_
                  refine lv_iconst (v := 1) hx hb (oc_4 104 (aq_5 shX12_overdrawn_99)) kic_1 ?_
                  refine lv_iload_n hx hb (oc_29 105 (aq_6 shX12_overdrawn_99)) rfl (lvA2 hl) ?_
                  refine lv_ishl hx hb (oc_120 106 (aq_7 shX12_overdrawn_99)) ?_
                  refine lv_ior hx hb (oc_128 107 (aq_8 shX12_overdrawn_99)) ?_
                  refine lv_goto (tgt := 112) hx hb (oc_167 108 (aq_9 shX12_overdrawn_99) sgw_0_4) rfl ?_
                  refine lv_istore_n (lv' := [(2, .int (x16_2 ||| (1 <<< ((nI i16) &&& 31)))), (5, .int (nI i28)), (4, .int x28_4), (3, .int (nI i16)), (0, .ref (g 100)), (1, .int v0)]) hx hb (oc_61 112 (aq_13 shX12_overdrawn_99)) rfl hl (ltb rfl) rfl (fun ls hl => ?_)
                  refine lv_iinc (v := (nI (i16 + 1))) (lv' := [(3, .int (nI (i16 + 1))), (2, .int (x16_2 ||| (1 <<< ((nI i16) &&& 31)))), (5, .int (nI i28)), (4, .int x28_4), (0, .ref (g 100)), (1, .int v0)]) hx hb (oc_132 113 (aq_14 shX12_overdrawn_99) ub_3 sgb_1) hl (k := 3) rfl (nI_1 _) (ltb rfl) rfl (fun ls hl => ?_)
                  refine lv_goto (tgt := 16) hx hb (oc_167 116 (aq_17 shX12_overdrawn_99) sgw_255_156) rfl ?_
                  exact ih16 (i16 + 1) (x16_2 ||| (1 <<< ((nI i16) &&& 31))) (by (first | omega | (have zz0 := Hid.u hi_cn; omega))) (by (first | omega | (have zz0 := Hid.u hi_cn; omega))) ls (lv_sub hl [0, 1, 4, 5] rfl)
              ·
                have tc_4 : ((nI i28).toInt : Int) < (nI (cn 63)).toInt := Int32.lt_iff_toInt_lt.mp (Int32.not_le.mp c_4)
                refine lv_iload hx hb (oc_21 37 (aq_12 shX12_overdrawn_25) ub_4) (lvA1 hl) ?_
                refine lv_aload_n hx hb (oc_42 39 (aq_14 shX12_overdrawn_25)) rfl (lvA4 hl) ?_
                refine gM_156 S hK hP (v := .ref (g 70)) rfl (oc_180 40 (aq_15 shX12_overdrawn_25) uw_0_156) ?_
                refine lv_iload hx hb (oc_21 43 (aq_18 shX12_overdrawn_25) ub_5) (lvA0 hl) ?_
                have kb_2 : i28 < 40 := by (first | omega | (have zz0 := Hid.u hi_cn; omega))
                obtain ⟨a_6, ha_6, ea_6⟩ := hI.e70 i28 (by (first | omega | (have zz0 := Hid.u hi_cn; omega)))
                refine ldM_70 hx hb hK hP (x := (nI a_6)) (vp_in_nI kb_2 (ltb rfl)) (nI_clamp (Nat.lt_trans kb_2 (ltb rfl))) ea_6 (oc_46 45 (aq_20 shX12_overdrawn_25)) ?_
                refine lv_iload_n hx hb (oc_29 46 (aq_21 shX12_overdrawn_25)) rfl (lvA2 hl) ?_
                have : (nI a_6).toInt = ((a_6 : Nat) : Int) := nI_toInt (by (first | omega | (have zz0 := Hid.u hi_cn; omega)))
                refine lv_icmp_ne (tgt := 82) hx hb (oc_160 47 (aq_22 shX12_overdrawn_25) sgw_0_35) rfl (fun c_7 => ?_) (fun c_7 => ?_)
                ·
                  have tc_7 : ((nI a_6).toInt : Int) ≠ (nI i16).toInt := fun q => c_7 (Int32.toInt_inj.mp q)
                  refine lv_iconst (v := 0) hx hb (oc_3 82 (aq_7 shX12_overdrawn_75)) kic_0 ?_
                  refine lv_iadd hx hb (oc_96 83 (aq_8 shX12_overdrawn_75)) ?_
                  refine lv_istore (lv' := [(4, .int (x28_4 + 0)), (5, .int (nI i28)), (3, .int (nI i16)), (2, .int x16_2), (0, .ref (g 100)), (1, .int v0)]) hx hb (oc_54 84 (aq_9 shX12_overdrawn_75) ub_4) hl (ltb rfl) rfl (fun ls hl => ?_)
                  refine lv_iinc (v := (nI (i28 + 1))) (lv' := [(5, .int (nI (i28 + 1))), (4, .int (x28_4 + 0)), (3, .int (nI i16)), (2, .int x16_2), (0, .ref (g 100)), (1, .int v0)]) hx hb (oc_132 86 (aq_11 shX12_overdrawn_75) ub_5 sgb_1) hl (k := 1) rfl (nI_1 _) (ltb rfl) rfl (fun ls hl => ?_)
                  refine lv_goto (tgt := 28) hx hb (oc_167 89 (aq_14 shX12_overdrawn_75) sgw_255_195) rfl ?_
                  exact ih28 (i28 + 1) (x28_4 + 0) (by (first | omega | (have zz0 := Hid.u hi_cn; omega))) (by (first | omega | (have zz0 := Hid.u hi_cn; omega))) ls (lv_sub hl [0, 1, 2, 3, 4, 5] rfl)
                ·
                  have tc_7 : ((nI a_6).toInt : Int) = (nI i16).toInt := congrArg Int32.toInt c_7
                  refine lv_aload_n hx hb (oc_42 50 shX12_overdrawn_50) rfl (lvA4 hl) ?_
                  refine gM_144 S hK hP (v := .ref (g 66)) rfl (oc_180 51 (aq_1 shX12_overdrawn_50) uw_0_144) ?_
                  refine lv_iload hx hb (oc_21 54 (aq_4 shX12_overdrawn_50) ub_5) (lvA0 hl) ?_
                  obtain ⟨a_8, ha_8, ea_8⟩ := hI.e66 i28 (by (first | omega | (have zz0 := Hid.u hi_cn; omega)))
                  refine ldM_66 hx hb hK hP (x := (nI a_8)) (vp_in_nI kb_2 (ltb rfl)) (nI_clamp (Nat.lt_trans kb_2 (ltb rfl))) ea_8 (oc_46 56 (aq_6 shX12_overdrawn_50)) ?_
                  refine lv_bipush (v := 7) hx hb (oc_16 57 (aq_7 shX12_overdrawn_50) sgb_7) kbc_7 ?_
                  refine lv_idiv hx hb (oc_108 59 (aq_9 shX12_overdrawn_50)) (by decide) ?_
                  refine lv_topi (fun y_9 ey_9 => ?_)
                  obtain rfl : y_9 = (nI (a_8 / 7)) := ey_9.trans (nI_div (by (first | omega | (have zz0 := Hid.u hi_cn; omega))) (by decide))
                  refine lv_iload_n hx hb (oc_27 60 (aq_10 shX12_overdrawn_50)) rfl (lvA5 hl) ?_
                  have : (nI (a_8 / 7)).toInt = (((a_8 / 7) : Nat) : Int) := nI_toInt (by (first | omega | (have zz0 := Hid.u hi_cn; omega)))
                  refine lv_icmp_ne (tgt := 82) hx hb (oc_160 61 (aq_11 shX12_overdrawn_50) sgw_0_21) rfl (fun c_10 => ?_) (fun c_10 => ?_)
                  ·
                    have tc_10 : ((nI (a_8 / 7)).toInt : Int) ≠ v0.toInt := fun q => c_10 (Int32.toInt_inj.mp q)
                    refine lv_iconst (v := 0) hx hb (oc_3 82 (aq_7 shX12_overdrawn_75)) kic_0 ?_
                    refine lv_iadd hx hb (oc_96 83 (aq_8 shX12_overdrawn_75)) ?_
                    refine lv_istore (lv' := [(4, .int (x28_4 + 0)), (5, .int (nI i28)), (3, .int (nI i16)), (2, .int x16_2), (0, .ref (g 100)), (1, .int v0)]) hx hb (oc_54 84 (aq_9 shX12_overdrawn_75) ub_4) hl (ltb rfl) rfl (fun ls hl => ?_)
                    refine lv_iinc (v := (nI (i28 + 1))) (lv' := [(5, .int (nI (i28 + 1))), (4, .int (x28_4 + 0)), (3, .int (nI i16)), (2, .int x16_2), (0, .ref (g 100)), (1, .int v0)]) hx hb (oc_132 86 (aq_11 shX12_overdrawn_75) ub_5 sgb_1) hl (k := 1) rfl (nI_1 _) (ltb rfl) rfl (fun ls hl => ?_)
                    refine lv_goto (tgt := 28) hx hb (oc_167 89 (aq_14 shX12_overdrawn_75) sgw_255_195) rfl ?_
                    exact ih28 (i28 + 1) (x28_4 + 0) (by (first | omega | (have zz0 := Hid.u hi_cn; omega))) (by (first | omega | (have zz0 := Hid.u hi_cn; omega))) ls (lv_sub hl [0, 1, 2, 3, 4, 5] rfl)
                  ·
                    have tc_10 : ((nI (a_8 / 7)).toInt : Int) = v0.toInt := congrArg Int32.toInt c_10
                    refine lv_aload_n hx hb (oc_42 64 (aq_14 shX12_overdrawn_50)) rfl (lvA4 hl) ?_
                    refine gM_153 S hK hP (v := .ref (g 69)) rfl (oc_180 65 (aq_15 shX12_overdrawn_50) uw_0_153) ?_
                    refine lv_iload hx hb (oc_21 68 (aq_18 shX12_overdrawn_50) ub_5) (lvA0 hl) ?_
                    obtain ⟨a_11, ha_11, ea_11⟩ := hI.e69 i28 (by (first | omega | (have zz0 := Hid.u hi_cn; omega)))
                    refine ldM_69 hx hb hK hP (x := (nI a_11)) (vp_in_nI kb_2 (ltb rfl)) (nI_clamp (Nat.lt_trans kb_2 (ltb rfl))) ea_11 (oc_46 70 (aq_20 shX12_overdrawn_50)) ?_
                    refine lv_aload_n hx hb (oc_42 71 (aq_21 shX12_overdrawn_50)) rfl (lvA4 hl) ?_
                    refine gM_150 S hK hP (v := .ref (g 68)) rfl (oc_180 72 (aq_22 shX12_overdrawn_50) uw_0_150) ?_
                    refine lv_iload hx hb (oc_21 75 shX12_overdrawn_75 ub_5) (lvA0 hl) ?_
                    obtain ⟨a_12, ha_12, ea_12⟩ := hI.e68 i28 (by (first | omega | (have zz0 := Hid.u hi_cn; omega)))
                    refine ldM_68 hx hb hK hP (x := (nI a_12)) (vp_in_nI kb_2 (ltb rfl)) (nI_clamp (Nat.lt_trans kb_2 (ltb rfl))) ea_12 (oc_46 77 (aq_2 shX12_overdrawn_75)) ?_
                    refine lv_isub hx hb (oc_100 78 (aq_3 shX12_overdrawn_75)) ?_
                    refine lv_goto (tgt := 83) hx hb (oc_167 79 (aq_4 shX12_overdrawn_75) sgw_0_4) rfl ?_
                    refine lv_iadd hx hb (oc_96 83 (aq_8 shX12_overdrawn_75)) ?_
                    refine lv_istore (lv' := [(4, .int (x28_4 + ((nI a_11) - (nI a_12)))), (5, .int (nI i28)), (3, .int (nI i16)), (2, .int x16_2), (0, .ref (g 100)), (1, .int v0)]) hx hb (oc_54 84 (aq_9 shX12_overdrawn_75) ub_4) hl (ltb rfl) rfl (fun ls hl => ?_)
                    refine lv_iinc (v := (nI (i28 + 1))) (lv' := [(5, .int (nI (i28 + 1))), (4, .int (x28_4 + ((nI a_11) - (nI a_12)))), (3, .int (nI i16)), (2, .int x16_2), (0, .ref (g 100)), (1, .int v0)]) hx hb (oc_132 86 (aq_11 shX12_overdrawn_75) ub_5 sgb_1) hl (k := 1) rfl (nI_1 _) (ltb rfl) rfl (fun ls hl => ?_)
                    refine lv_goto (tgt := 28) hx hb (oc_167 89 (aq_14 shX12_overdrawn_75) sgw_255_195) rfl ?_
                    exact ih28 (i28 + 1) (x28_4 + ((nI a_11) - (nI a_12))) (by (first | omega | (have zz0 := Hid.u hi_cn; omega))) (by (first | omega | (have zz0 := Hid.u hi_cn; omega))) ls (lv_sub hl [0, 1, 2, 3, 4, 5] rfl)
          exact lp_28 _ 0 0 (Nat.lt_succ_self _) (by (first | omega | (have zz0 := Hid.u hi_cn; omega))) ls (lv_sub hl [0, 1, 2, 3, 4, 5] rfl)
    exact lp_16 _ 0 0 (Nat.lt_succ_self _) (by (first | omega | (have zz0 := Hid.u hi_cn; omega))) ls (lv_sub hl [0, 1, 2, 3] rfl)
  ·
    have h_2 : ¬ (0 ≤ v0.toInt ∧ v0.toInt ≤ 57) := h_2
    refine lv_if_ne (tgt := 12) hx hb (oc_154 7 (aq_7 shX12_overdrawn_0) sgw_0_5) rfl (fun h => absurd h cq_eq_0_0) (fun _ => ?_)
    refine lv_iconst (v := (-1)) hx hb (oc_2 10 (aq_10 shX12_overdrawn_0)) kic_m1 ?_
    exact W.iret (v := (-1)) hx hb hr (fun t ht hW => ⟨(-1), rfl, trivial, ht⟩) (fun _ h => absurd h List.not_mem_nil) (oc_172 11 (aq_11 shX12_overdrawn_0))
set_option maxRecDepth 100000 in
set_option maxHeartbeats 4000000 in
theorem q_tapeNumber (l : Launch) (D : va_G) (cI cB cZ : ClassId) (g : Nat → Nat) (cn : Nat → Nat) (In : Nat → Int32) (Fn : Nat → Nat → Int32) (k : Nat) (hI : IM cn Fn) (hk : 4 * k + 4 ≤ 200) : Met l yX12_tapeNumber (CWS yX12_tapeNumber cX12_tapeNumber 4 (some .int)) (RM 0 0 0) (PBr [.ref (g 100), .int (nI k)] D cI cB cZ (wM cI cB cZ g cn In Fn)) (vp_Si (fun _ => True)) 0 0 (fun _ => False) := by
  refine en_r rfl pn_RX12 (Nat.le_of_ble_eq_true rfl) (fun p e s m below meth c hx hb hml hown S hr hlocks hnm hP hK hS ls hl => ?_)
  have hl : lv_has ls 4 [(0, .ref (g 100)), (1, .int (nI k))] := hl
  have hi_cn : Hid (CB cn) := hI.b
  refine lv_iconst (v := 0) hx hb (oc_3 0 shX12_tapeNumber_0) kic_0 ?_
  refine lv_istore_n (lv' := [(2, .int 0), (0, .ref (g 100)), (1, .int (nI k))]) hx hb (oc_61 1 (aq_1 shX12_tapeNumber_0)) rfl hl (ltb rfl) rfl (fun ls hl => ?_)
  refine lv_iconst (v := 4) hx hb (oc_7 2 (aq_2 shX12_tapeNumber_0)) kic_4 ?_
  refine lv_iload_n hx hb (oc_27 3 (aq_3 shX12_tapeNumber_0)) rfl (lvA2 hl) ?_
  refine lv_imul hx hb (oc_104 4 (aq_4 shX12_tapeNumber_0)) ?_
  refine lv_topi (fun y_1 ey_1 => ?_)
  obtain rfl : y_1 = (nI (4 * k)) := ey_1.trans (pk_mul 4 k)
  refine lv_istore_n (lv' := [(3, .int (nI (4 * k))), (2, .int 0), (0, .ref (g 100)), (1, .int (nI k))]) hx hb (oc_62 5 (aq_5 shX12_tapeNumber_0)) rfl hl (ltb rfl) rfl (fun ls hl => ?_)
  have lp_6 : ∀ (n : Nat) (i6 : Nat) (x6_2 : Int32) , 4 * k + 4 - i6 < n → (i6 ≤ 4 * k + 4) → ∀ ls : Array Slot, lv_has ls 4 [(3, .int (nI i6)), (2, .int x6_2), (0, .ref (g 100)), (1, .int (nI k))] → W p l e (RM 0 0 0) s m ([.ref (g 100), .int (nI k)]).toArray below meth c s.heap [] 0 0 (MQ below (vp_Si (fun _ => True)) ([.ref (g 100), .int (nI k)]).toArray s 0 0 (fun _ => False)) (F0 m 6 ls []) := by
    intro n6
    induction n6 with
    | zero => intros; (first | omega | (have zz0 := Hid.u hi_cn; omega))
    | succ n6 ih6 =>
      intro i6 x6_2 hmu6 hinv6 ls hl
      have hr6 := hinv6
      have ti6 : (nI i6).toInt = (i6 : Int) := nI_toInt (by (first | omega | (have zz0 := Hid.u hi_cn; omega)))
      refine lv_iload_n hx hb (oc_29 6 (aq_6 shX12_tapeNumber_0)) rfl (lvA0 hl) ?_
      refine lv_iconst (v := 4) hx hb (oc_7 7 (aq_7 shX12_tapeNumber_0)) kic_4 ?_
      refine lv_iload_n hx hb (oc_27 8 (aq_8 shX12_tapeNumber_0)) rfl (lvA3 hl) ?_
      refine lv_imul hx hb (oc_104 9 (aq_9 shX12_tapeNumber_0)) ?_
      refine lv_topi (fun y_2 ey_2 => ?_)
      obtain rfl : y_2 = (nI (4 * k)) := ey_2.trans (pk_mul 4 k)
      refine lv_iconst (v := 4) hx hb (oc_7 10 (aq_10 shX12_tapeNumber_0)) kic_4 ?_
      refine lv_iadd hx hb (oc_96 11 (aq_11 shX12_tapeNumber_0)) ?_
      refine lv_topi (fun y_3 ey_3 => ?_)
      obtain rfl : y_3 = (nI ((4 * k) + 4)) := ey_3.trans (nI_add (4 * k) 4)
      have : (nI ((4 * k) + 4)).toInt = ((((4 * k) + 4) : Nat) : Int) := nI_toInt (by (first | omega | (have zz0 := Hid.u hi_cn; omega)))
      refine lv_icmp_ge (tgt := 37) hx hb (oc_162 12 (aq_12 shX12_tapeNumber_0) sgw_0_25) rfl (fun c_4 => ?_) (fun c_4 => ?_)
      ·
        have tc_4 : ((nI ((4 * k) + 4)).toInt : Int) ≤ (nI i6).toInt := Int32.le_iff_toInt_le.mp c_4
        refine lv_iload_n hx hb (oc_28 37 (aq_13 shX12_tapeNumber_24)) rfl (lvA1 hl) ?_
        exact W.iret (v := x6_2) hx hb hr (fun t ht hW => ⟨x6_2, rfl, trivial, ht⟩) (fun _ h => absurd h List.not_mem_nil) (oc_172 38 (aq_14 shX12_tapeNumber_24))
      ·
        have tc_4 : ((nI i6).toInt : Int) < (nI ((4 * k) + 4)).toInt := Int32.lt_iff_toInt_lt.mp (Int32.not_le.mp c_4)
        refine lv_iload_n hx hb (oc_28 15 (aq_15 shX12_tapeNumber_0)) rfl (lvA1 hl) ?_
        refine lv_bipush (v := 8) hx hb (oc_16 16 (aq_16 shX12_tapeNumber_0) sgb_8) kbc_8 ?_
        refine lv_ishl hx hb (oc_120 18 (aq_18 shX12_tapeNumber_0)) ?_
        refine lv_aload_n hx hb (oc_42 19 (aq_19 shX12_tapeNumber_0)) rfl (lvA2 hl) ?_
        refine gM_52 S hK hP (v := .ref (g 17)) rfl (oc_180 20 (aq_20 shX12_tapeNumber_0) uw_0_52) ?_
        refine lv_iload_n hx hb (oc_29 23 (aq_23 shX12_tapeNumber_0)) rfl (lvA0 hl) ?_
        have kb_1 : i6 < 200 := by (first | omega | (have zz0 := Hid.u hi_cn; omega))
        refine ldM_17 hx hb hK hP (x := ((Fn 17) i6)) (vp_in_nI kb_1 (ltb rfl)) (nI_clamp (Nat.lt_trans kb_1 (ltb rfl))) rfl (oc_51 24 shX12_tapeNumber_24) ?_
        refine lv_sipush (v := 255) hx hb (oc_17 25 (aq_1 shX12_tapeNumber_24) sgw_0_255) (by decide) ?_
        refine lv_iand hx hb (oc_126 28 (aq_4 shX12_tapeNumber_24)) ?_
        refine lv_ior hx hb (oc_128 29 (aq_5 shX12_tapeNumber_24)) ?_
        refine lv_istore_n (lv' := [(2, .int ((x6_2 <<< (8 &&& 31)) ||| (((Fn 17) i6) &&& 255))), (3, .int (nI i6)), (0, .ref (g 100)), (1, .int (nI k))]) hx hb (oc_61 30 (aq_6 shX12_tapeNumber_24)) rfl hl (ltb rfl) rfl (fun ls hl => ?_)
        refine lv_iinc (v := (nI (i6 + 1))) (lv' := [(3, .int (nI (i6 + 1))), (2, .int ((x6_2 <<< (8 &&& 31)) ||| (((Fn 17) i6) &&& 255))), (0, .ref (g 100)), (1, .int (nI k))]) hx hb (oc_132 31 (aq_7 shX12_tapeNumber_24) ub_3 sgb_1) hl (k := 1) rfl (nI_1 _) (ltb rfl) rfl (fun ls hl => ?_)
        refine lv_goto (tgt := 6) hx hb (oc_167 34 (aq_10 shX12_tapeNumber_24) sgw_255_228) rfl ?_
        exact ih6 (i6 + 1) ((x6_2 <<< (8 &&& 31)) ||| (((Fn 17) i6) &&& 255)) (by (first | omega | (have zz0 := Hid.u hi_cn; omega))) (by (first | omega | (have zz0 := Hid.u hi_cn; omega))) ls (lv_sub hl [0, 1, 2, 3] rfl)
  exact lp_6 _ (4 * k) 0 (Nat.lt_succ_self _) (by (first | omega | (have zz0 := Hid.u hi_cn; omega))) ls (lv_sub hl [0, 1, 2, 3] rfl)
set_option maxRecDepth 100000 in
set_option maxHeartbeats 4000000 in
theorem q_count (l : Launch) (D : va_G) (cI cB cZ : ClassId) (g : Nat → Nat) (cn : Nat → Nat) (In : Nat → Int32) (Fn : Nat → Nat → Int32) (v0 : Int32) (hI : IM cn Fn) : Met l yX12_count (CWS yX12_count cX12_count 2 (some .int)) (RM 1 0 0) (PBr [.ref (g 100), .int v0] D cI cB cZ (wM cI cB cZ g cn In Fn)) (vp_Si (fun _ => True)) 0 0 (fun _ => False) := by
  refine en_r rfl pn_RX12 (Nat.le_of_ble_eq_true rfl) (fun p e s m below meth c hx hb hml hown S hr hlocks hnm hP hK hS ls hl => ?_)
  have hl : lv_has ls 2 [(0, .ref (g 100)), (1, .int v0)] := hl
  have hi_cn : Hid (CB cn) := hI.b
  refine lv_iload_n hx hb (oc_27 0 shX12_count_0) rfl (lvA1 hl) ?_
  rcases (by (first | omega | (have zz0 := Hid.u hi_cn; omega)) : v0.toInt < 0 ∨ 9 < v0.toInt ∨ v0.toInt = 0 ∨ v0.toInt = 1 ∨ v0.toInt = 2 ∨ v0.toInt = 3 ∨ v0.toInt = 4 ∨ v0.toInt = 5 ∨ v0.toInt = 6 ∨ v0.toInt = 7 ∨ v0.toInt = 8 ∨ v0.toInt = 9) with c_1 | c_1 | c_1 | c_1 | c_1 | c_1 | c_1 | c_1 | c_1 | c_1 | c_1 | c_1
  ·
    refine lv_tableOut (tgt := 109) hx hb dX12_count_1 (Or.inl c_1) (by decide) ?_
    refine lv_iload_n hx hb (oc_27 109 (aq_5 shX12_count_104)) rfl (lvA1 hl) ?_
    refine lv_bipush (v := 10) hx hb (oc_16 110 (aq_6 shX12_count_104) sgb_10) kbc_10 ?_
    refine lv_bipush (v := 9) hx hb (oc_16 112 (aq_8 shX12_count_104) sgb_9) kbc_9 ?_
    refine lv_aload_n hx hb (oc_42 114 (aq_10 shX12_count_104)) rfl (lvA0 hl) ?_
    refine gM_204 S hK hP (v := .int (nI (cn 1))) rfl (oc_180 115 (aq_11 shX12_count_104) uw_0_204) ?_
    refine lv_iadd hx hb (oc_96 118 (aq_14 shX12_count_104)) ?_
    refine lv_topi (fun y_2 ey_2 => ?_)
    obtain rfl : y_2 = (nI (9 + (cn 1))) := ey_2.trans (nI_add 9 (cn 1))
    refine vp_callSi (runS_r (As := [.int v0, .int 10, .int (nI (9 + (cn 1)))]) (rest := []) S (q_in l D cI cB cZ v0 10 (nI (9 + (cn 1))) ) kS_RX12_214 hK hP [] rfl ⟨Nat.le_of_ble_eq_true rfl, Nat.le_of_ble_eq_true rfl⟩ ⟨Nat.le_of_ble_eq_true rfl, Nat.le_of_ble_eq_true rfl⟩ rfl hl.1 rfl (Nat.le_of_ble_eq_true rfl) (oc_184 119 (aq_15 shX12_count_104) uw_0_214)) (fun r_3 h_4 => ?_)
    have : (nI (9 + (cn 1))).toInt = (((9 + (cn 1)) : Nat) : Int) := nI_toInt (by (first | omega | (have zz0 := Hid.u hi_cn; omega)))
    rcases h_4 with ⟨rfl, h_4⟩ | ⟨rfl, h_4⟩
    ·
      have h_4 : 10 ≤ v0.toInt ∧ v0.toInt ≤ (nI (9 + (cn 1))).toInt := h_4
      refine lv_if_eq (tgt := 135) hx hb dX12_count_122 rfl (fun h => absurd h cq_eq_1_0) (fun _ => ?_)
      obtain ⟨d0, hd0, rfl⟩ := nI_of (x := v0) (fun q => by have := Int32.lt_iff_toInt_lt.mp q; have e : (0 : Int32).toInt = 0 := rfl; (first | omega | (have zz0 := Hid.u hi_cn; omega)))
      have td0 : (nI d0).toInt = (d0 : Int) := nI_toInt hd0
      have zd0 : (nI d0).toInt.toNat = d0 := by (first | omega | (have zz0 := Hid.u hi_cn; omega))
      refine lv_aload_n hx hb (oc_42 125 (aq_21 shX12_count_104)) rfl (lvA0 hl) ?_
      refine gM_74 S hK hP (v := .ref (g 33)) rfl (oc_180 126 (aq_22 shX12_count_104) uw_0_74) ?_
      refine lv_iload_n hx hb (oc_27 129 shX12_count_129) rfl (lvA1 hl) ?_
      refine lv_bipush (v := 10) hx hb (oc_16 130 (aq_1 shX12_count_129) sgb_10) kbc_10 ?_
      refine lv_isub hx hb (oc_100 132 (aq_3 shX12_count_129)) ?_
      refine lv_topi (fun y_5 ey_5 => ?_)
      obtain rfl : y_5 = (nI (d0 - 10)) := ey_5.trans (nI_sub (b := 10) (by (first | omega | (have zz0 := Hid.u hi_cn; omega))))
      have kb_1 : (d0 - 10) < 11 := by (first | omega | (have zz0 := Hid.u hi_cn; omega))
      obtain ⟨a_6, ha_6, ea_6⟩ := hI.e33 (d0 - 10) (by (first | omega | (have zz0 := Hid.u hi_cn; omega)))
      refine ldM_33 hx hb hK hP (x := (nI a_6)) (vp_in_nI kb_1 (ltb rfl)) (nI_clamp (Nat.lt_trans kb_1 (ltb rfl))) ea_6 (oc_46 133 (aq_4 shX12_count_129)) ?_
      exact W.iret (v := (nI a_6)) hx hb hr (fun t ht hW => ⟨(nI a_6), rfl, trivial, ht⟩) (fun _ h => absurd h List.not_mem_nil) (oc_172 134 (aq_5 shX12_count_129))
    ·
      have h_4 : ¬ (10 ≤ v0.toInt ∧ v0.toInt ≤ (nI (9 + (cn 1))).toInt) := h_4
      refine lv_if_eq (tgt := 135) hx hb dX12_count_122 rfl (fun _ => ?_) (fun h => absurd h cq_eq_0_0)
      refine lv_iload_n hx hb (oc_27 135 (aq_6 shX12_count_129)) rfl (lvA1 hl) ?_
      refine lv_bipush (v := 20) hx hb (oc_16 136 (aq_7 shX12_count_129) sgb_20) kbc_20 ?_
      refine lv_bipush (v := 19) hx hb (oc_16 138 (aq_9 shX12_count_129) sgb_19) kbc_19 ?_
      refine lv_aload_n hx hb (oc_42 140 (aq_11 shX12_count_129)) rfl (lvA0 hl) ?_
      refine gM_204 S hK hP (v := .int (nI (cn 1))) rfl (oc_180 141 (aq_12 shX12_count_129) uw_0_204) ?_
      refine lv_iadd hx hb (oc_96 144 (aq_15 shX12_count_129)) ?_
      refine lv_topi (fun y_7 ey_7 => ?_)
      obtain rfl : y_7 = (nI (19 + (cn 1))) := ey_7.trans (nI_add 19 (cn 1))
      refine vp_callSi (runS_r (As := [.int v0, .int 20, .int (nI (19 + (cn 1)))]) (rest := []) S (q_in l D cI cB cZ v0 20 (nI (19 + (cn 1))) ) kS_RX12_214 hK hP [] rfl ⟨Nat.le_of_ble_eq_true rfl, Nat.le_of_ble_eq_true rfl⟩ ⟨Nat.le_of_ble_eq_true rfl, Nat.le_of_ble_eq_true rfl⟩ rfl hl.1 rfl (Nat.le_of_ble_eq_true rfl) (oc_184 145 (aq_16 shX12_count_129) uw_0_214)) (fun r_8 h_9 => ?_)
      have : (nI (19 + (cn 1))).toInt = (((19 + (cn 1)) : Nat) : Int) := nI_toInt (by (first | omega | (have zz0 := Hid.u hi_cn; omega)))
      rcases h_9 with ⟨rfl, h_9⟩ | ⟨rfl, h_9⟩
      ·
        have h_9 : 20 ≤ v0.toInt ∧ v0.toInt ≤ (nI (19 + (cn 1))).toInt := h_9
        refine lv_if_eq (tgt := 161) hx hb dX12_count_148 rfl (fun h => absurd h cq_eq_1_0) (fun _ => ?_)
        obtain ⟨d0, hd0, rfl⟩ := nI_of (x := v0) (fun q => by have := Int32.lt_iff_toInt_lt.mp q; have e : (0 : Int32).toInt = 0 := rfl; (first | omega | (have zz0 := Hid.u hi_cn; omega)))
        have td0 : (nI d0).toInt = (d0 : Int) := nI_toInt hd0
        have zd0 : (nI d0).toInt.toNat = d0 := by (first | omega | (have zz0 := Hid.u hi_cn; omega))
        refine lv_aload_n hx hb (oc_42 151 (aq_22 shX12_count_129)) rfl (lvA0 hl) ?_
        refine gM_22 S hK hP (v := .ref (g 7)) rfl (oc_180 152 (aq_23 shX12_count_129) uw_0_22) ?_
        refine lv_iload_n hx hb (oc_27 155 shX12_count_155) rfl (lvA1 hl) ?_
        refine lv_bipush (v := 20) hx hb (oc_16 156 (aq_1 shX12_count_155) sgb_20) kbc_20 ?_
        refine lv_isub hx hb (oc_100 158 (aq_3 shX12_count_155)) ?_
        refine lv_topi (fun y_10 ey_10 => ?_)
        obtain rfl : y_10 = (nI (d0 - 20)) := ey_10.trans (nI_sub (b := 20) (by (first | omega | (have zz0 := Hid.u hi_cn; omega))))
        have kb_2 : (d0 - 20) < 10 := by (first | omega | (have zz0 := Hid.u hi_cn; omega))
        have b_11 := hI.e7 (d0 - 20) (by (first | omega | (have zz0 := Hid.u hi_cn; omega)))
        refine ldM_7 hx hb hK hP (x := ((Fn 7) (d0 - 20))) (vp_in_nI kb_2 (ltb rfl)) (nI_clamp (Nat.lt_trans kb_2 (ltb rfl))) rfl (oc_46 159 (aq_4 shX12_count_155)) ?_
        exact W.iret (v := ((Fn 7) (d0 - 20))) hx hb hr (fun t ht hW => ⟨((Fn 7) (d0 - 20)), rfl, trivial, ht⟩) (fun _ h => absurd h List.not_mem_nil) (oc_172 160 (aq_5 shX12_count_155))
      ·
        have h_9 : ¬ (20 ≤ v0.toInt ∧ v0.toInt ≤ (nI (19 + (cn 1))).toInt) := h_9
        refine lv_if_eq (tgt := 161) hx hb dX12_count_148 rfl (fun _ => ?_) (fun h => absurd h cq_eq_0_0)
        refine lv_iload_n hx hb (oc_27 161 (aq_6 shX12_count_155)) rfl (lvA1 hl) ?_
        refine lv_bipush (v := 30) hx hb (oc_16 162 (aq_7 shX12_count_155) sgb_30) kbc_30 ?_
        refine lv_bipush (v := 29) hx hb (oc_16 164 (aq_9 shX12_count_155) sgb_29) kbc_29 ?_
        refine lv_aload_n hx hb (oc_42 166 (aq_11 shX12_count_155)) rfl (lvA0 hl) ?_
        refine gM_204 S hK hP (v := .int (nI (cn 1))) rfl (oc_180 167 (aq_12 shX12_count_155) uw_0_204) ?_
        refine lv_iadd hx hb (oc_96 170 (aq_15 shX12_count_155)) ?_
        refine lv_topi (fun y_12 ey_12 => ?_)
        obtain rfl : y_12 = (nI (29 + (cn 1))) := ey_12.trans (nI_add 29 (cn 1))
        refine vp_callSi (runS_r (As := [.int v0, .int 30, .int (nI (29 + (cn 1)))]) (rest := []) S (q_in l D cI cB cZ v0 30 (nI (29 + (cn 1))) ) kS_RX12_214 hK hP [] rfl ⟨Nat.le_of_ble_eq_true rfl, Nat.le_of_ble_eq_true rfl⟩ ⟨Nat.le_of_ble_eq_true rfl, Nat.le_of_ble_eq_true rfl⟩ rfl hl.1 rfl (Nat.le_of_ble_eq_true rfl) (oc_184 171 (aq_16 shX12_count_155) uw_0_214)) (fun r_13 h_14 => ?_)
        have : (nI (29 + (cn 1))).toInt = (((29 + (cn 1)) : Nat) : Int) := nI_toInt (by (first | omega | (have zz0 := Hid.u hi_cn; omega)))
        rcases h_14 with ⟨rfl, h_14⟩ | ⟨rfl, h_14⟩
        ·
          have h_14 : 30 ≤ v0.toInt ∧ v0.toInt ≤ (nI (29 + (cn 1))).toInt := h_14
          refine lv_if_eq (tgt := 187) hx hb dX12_count_174 rfl (fun h => absurd h cq_eq_1_0) (fun _ => ?_)
          obtain ⟨d0, hd0, rfl⟩ := nI_of (x := v0) (fun q => by have := Int32.lt_iff_toInt_lt.mp q; have e : (0 : Int32).toInt = 0 := rfl; (first | omega | (have zz0 := Hid.u hi_cn; omega)))
          have td0 : (nI d0).toInt = (d0 : Int) := nI_toInt hd0
          have zd0 : (nI d0).toInt.toNat = d0 := by (first | omega | (have zz0 := Hid.u hi_cn; omega))
          refine lv_aload_n hx hb (oc_42 177 (aq_22 shX12_count_155)) rfl (lvA0 hl) ?_
          refine gM_95 S hK hP (v := .ref (g 40)) rfl (oc_180 178 (aq_23 shX12_count_155) uw_0_95) ?_
          refine lv_iload_n hx hb (oc_27 181 shX12_count_181) rfl (lvA1 hl) ?_
          refine lv_bipush (v := 30) hx hb (oc_16 182 (aq_1 shX12_count_181) sgb_30) kbc_30 ?_
          refine lv_isub hx hb (oc_100 184 (aq_3 shX12_count_181)) ?_
          refine lv_topi (fun y_15 ey_15 => ?_)
          obtain rfl : y_15 = (nI (d0 - 30)) := ey_15.trans (nI_sub (b := 30) (by (first | omega | (have zz0 := Hid.u hi_cn; omega))))
          have kb_3 : (d0 - 30) < 10 := by (first | omega | (have zz0 := Hid.u hi_cn; omega))
          refine ldM_40 hx hb hK hP (x := ((Fn 40) (d0 - 30))) (vp_in_nI kb_3 (ltb rfl)) (nI_clamp (Nat.lt_trans kb_3 (ltb rfl))) rfl (oc_46 185 (aq_4 shX12_count_181)) ?_
          exact W.iret (v := ((Fn 40) (d0 - 30))) hx hb hr (fun t ht hW => ⟨((Fn 40) (d0 - 30)), rfl, trivial, ht⟩) (fun _ h => absurd h List.not_mem_nil) (oc_172 186 (aq_5 shX12_count_181))
        ·
          have h_14 : ¬ (30 ≤ v0.toInt ∧ v0.toInt ≤ (nI (29 + (cn 1))).toInt) := h_14
          refine lv_if_eq (tgt := 187) hx hb dX12_count_174 rfl (fun _ => ?_) (fun h => absurd h cq_eq_0_0)
          refine lv_iload_n hx hb (oc_27 187 (aq_6 shX12_count_181)) rfl (lvA1 hl) ?_
          refine lv_bipush (v := 40) hx hb (oc_16 188 (aq_7 shX12_count_181) sgb_40) kbc_40 ?_
          refine lv_bipush (v := 39) hx hb (oc_16 190 (aq_9 shX12_count_181) sgb_39) kbc_39 ?_
          refine lv_aload_n hx hb (oc_42 192 (aq_11 shX12_count_181)) rfl (lvA0 hl) ?_
          refine gM_435 S hK hP (v := .int (nI (cn 62))) rfl (oc_180 193 (aq_12 shX12_count_181) uw_1_179) ?_
          refine lv_iadd hx hb (oc_96 196 (aq_15 shX12_count_181)) ?_
          refine lv_topi (fun y_16 ey_16 => ?_)
          obtain rfl : y_16 = (nI (39 + (cn 62))) := ey_16.trans (nI_add 39 (cn 62))
          refine vp_callSi (runS_r (As := [.int v0, .int 40, .int (nI (39 + (cn 62)))]) (rest := []) S (q_in l D cI cB cZ v0 40 (nI (39 + (cn 62))) ) kS_RX12_214 hK hP [] rfl ⟨Nat.le_of_ble_eq_true rfl, Nat.le_of_ble_eq_true rfl⟩ ⟨Nat.le_of_ble_eq_true rfl, Nat.le_of_ble_eq_true rfl⟩ rfl hl.1 rfl (Nat.le_of_ble_eq_true rfl) (oc_184 197 (aq_16 shX12_count_181) uw_0_214)) (fun r_17 h_18 => ?_)
          have : (nI (39 + (cn 62))).toInt = (((39 + (cn 62)) : Nat) : Int) := nI_toInt (by (first | omega | (have zz0 := Hid.u hi_cn; omega)))
          rcases h_18 with ⟨rfl, h_18⟩ | ⟨rfl, h_18⟩
          ·
            have h_18 : 40 ≤ v0.toInt ∧ v0.toInt ≤ (nI (39 + (cn 62))).toInt := h_18
            refine lv_if_eq (tgt := 213) hx hb dX12_count_200 rfl (fun h => absurd h cq_eq_1_0) (fun _ => ?_)
            obtain ⟨d0, hd0, rfl⟩ := nI_of (x := v0) (fun q => by have := Int32.lt_iff_toInt_lt.mp q; have e : (0 : Int32).toInt = 0 := rfl; (first | omega | (have zz0 := Hid.u hi_cn; omega)))
            have td0 : (nI d0).toInt = (d0 : Int) := nI_toInt hd0
            have zd0 : (nI d0).toInt.toNat = d0 := by (first | omega | (have zz0 := Hid.u hi_cn; omega))
            refine lv_aload_n hx hb (oc_42 203 (aq_22 shX12_count_181)) rfl (lvA0 hl) ?_
            refine gM_141 S hK hP (v := .ref (g 65)) rfl (oc_180 204 (aq_23 shX12_count_181) uw_0_141) ?_
            refine lv_iload_n hx hb (oc_27 207 shX12_count_207) rfl (lvA1 hl) ?_
            refine lv_bipush (v := 40) hx hb (oc_16 208 (aq_1 shX12_count_207) sgb_40) kbc_40 ?_
            refine lv_isub hx hb (oc_100 210 (aq_3 shX12_count_207)) ?_
            refine lv_topi (fun y_19 ey_19 => ?_)
            obtain rfl : y_19 = (nI (d0 - 40)) := ey_19.trans (nI_sub (b := 40) (by (first | omega | (have zz0 := Hid.u hi_cn; omega))))
            have kb_4 : (d0 - 40) < 10 := by (first | omega | (have zz0 := Hid.u hi_cn; omega))
            refine ldM_65 hx hb hK hP (x := ((Fn 65) (d0 - 40))) (vp_in_nI kb_4 (ltb rfl)) (nI_clamp (Nat.lt_trans kb_4 (ltb rfl))) rfl (oc_46 211 (aq_4 shX12_count_207)) ?_
            exact W.iret (v := ((Fn 65) (d0 - 40))) hx hb hr (fun t ht hW => ⟨((Fn 65) (d0 - 40)), rfl, trivial, ht⟩) (fun _ h => absurd h List.not_mem_nil) (oc_172 212 (aq_5 shX12_count_207))
          ·
            have h_18 : ¬ (40 ≤ v0.toInt ∧ v0.toInt ≤ (nI (39 + (cn 62))).toInt) := h_18
            refine lv_if_eq (tgt := 213) hx hb dX12_count_200 rfl (fun _ => ?_) (fun h => absurd h cq_eq_0_0)
            refine lv_iload_n hx hb (oc_27 213 (aq_6 shX12_count_207)) rfl (lvA1 hl) ?_
            refine lv_bipush (v := 50) hx hb (oc_16 214 (aq_7 shX12_count_207) sgb_50) kbc_50 ?_
            refine lv_bipush (v := 49) hx hb (oc_16 216 (aq_9 shX12_count_207) sgb_49) kbc_49 ?_
            refine lv_aload_n hx hb (oc_42 218 (aq_11 shX12_count_207)) rfl (lvA0 hl) ?_
            refine gM_447 S hK hP (v := .int (nI (cn 63))) rfl (oc_180 219 (aq_12 shX12_count_207) uw_1_191) ?_
            refine lv_iadd hx hb (oc_96 222 (aq_15 shX12_count_207)) ?_
            refine lv_topi (fun y_20 ey_20 => ?_)
            obtain rfl : y_20 = (nI (49 + (cn 63))) := ey_20.trans (nI_add 49 (cn 63))
            refine vp_callSi (runS_r (As := [.int v0, .int 50, .int (nI (49 + (cn 63)))]) (rest := []) S (q_in l D cI cB cZ v0 50 (nI (49 + (cn 63))) ) kS_RX12_214 hK hP [] rfl ⟨Nat.le_of_ble_eq_true rfl, Nat.le_of_ble_eq_true rfl⟩ ⟨Nat.le_of_ble_eq_true rfl, Nat.le_of_ble_eq_true rfl⟩ rfl hl.1 rfl (Nat.le_of_ble_eq_true rfl) (oc_184 223 (aq_16 shX12_count_207) uw_0_214)) (fun r_21 h_22 => ?_)
            have : (nI (49 + (cn 63))).toInt = (((49 + (cn 63)) : Nat) : Int) := nI_toInt (by (first | omega | (have zz0 := Hid.u hi_cn; omega)))
            rcases h_22 with ⟨rfl, h_22⟩ | ⟨rfl, h_22⟩
            ·
              have h_22 : 50 ≤ v0.toInt ∧ v0.toInt ≤ (nI (49 + (cn 63))).toInt := h_22
              refine lv_if_eq (tgt := 241) hx hb dX12_count_226 rfl (fun h => absurd h cq_eq_1_0) (fun _ => ?_)
              obtain ⟨d0, hd0, rfl⟩ := nI_of (x := v0) (fun q => by have := Int32.lt_iff_toInt_lt.mp q; have e : (0 : Int32).toInt = 0 := rfl; (first | omega | (have zz0 := Hid.u hi_cn; omega)))
              have td0 : (nI d0).toInt = (d0 : Int) := nI_toInt hd0
              have zd0 : (nI d0).toInt.toNat = d0 := by (first | omega | (have zz0 := Hid.u hi_cn; omega))
              refine lv_aload_n hx hb (oc_42 229 (aq_22 shX12_count_207)) rfl (lvA0 hl) ?_
              refine gM_144 S hK hP (v := .ref (g 66)) rfl (oc_180 230 (aq_23 shX12_count_207) uw_0_144) ?_
              refine lv_iload_n hx hb (oc_27 233 shX12_count_233) rfl (lvA1 hl) ?_
              refine lv_bipush (v := 50) hx hb (oc_16 234 (aq_1 shX12_count_233) sgb_50) kbc_50 ?_
              refine lv_isub hx hb (oc_100 236 (aq_3 shX12_count_233)) ?_
              refine lv_topi (fun y_23 ey_23 => ?_)
              obtain rfl : y_23 = (nI (d0 - 50)) := ey_23.trans (nI_sub (b := 50) (by (first | omega | (have zz0 := Hid.u hi_cn; omega))))
              have kb_5 : (d0 - 50) < 40 := by (first | omega | (have zz0 := Hid.u hi_cn; omega))
              obtain ⟨a_24, ha_24, ea_24⟩ := hI.e66 (d0 - 50) (by (first | omega | (have zz0 := Hid.u hi_cn; omega)))
              refine ldM_66 hx hb hK hP (x := (nI a_24)) (vp_in_nI kb_5 (ltb rfl)) (nI_clamp (Nat.lt_trans kb_5 (ltb rfl))) ea_24 (oc_46 237 (aq_4 shX12_count_233)) ?_
              refine lv_goto (tgt := 242) hx hb (oc_167 238 (aq_5 shX12_count_233) sgw_0_4) rfl ?_
              exact W.iret (v := (nI a_24)) hx hb hr (fun t ht hW => ⟨(nI a_24), rfl, trivial, ht⟩) (fun _ h => absurd h List.not_mem_nil) dX12_count_242
            ·
              have h_22 : ¬ (50 ≤ v0.toInt ∧ v0.toInt ≤ (nI (49 + (cn 63))).toInt) := h_22
              refine lv_if_eq (tgt := 241) hx hb dX12_count_226 rfl (fun _ => ?_) (fun h => absurd h cq_eq_0_0)
              refine lv_iconst (v := (-1)) hx hb (oc_2 241 (aq_8 shX12_count_233)) kic_m1 ?_
              exact W.iret (v := (-1)) hx hb hr (fun t ht hW => ⟨(-1), rfl, trivial, ht⟩) (fun _ h => absurd h List.not_mem_nil) dX12_count_242
  ·
    refine lv_tableOut (tgt := 109) hx hb dX12_count_1 (Or.inr c_1) (by decide) ?_
    refine lv_iload_n hx hb (oc_27 109 (aq_5 shX12_count_104)) rfl (lvA1 hl) ?_
    refine lv_bipush (v := 10) hx hb (oc_16 110 (aq_6 shX12_count_104) sgb_10) kbc_10 ?_
    refine lv_bipush (v := 9) hx hb (oc_16 112 (aq_8 shX12_count_104) sgb_9) kbc_9 ?_
    refine lv_aload_n hx hb (oc_42 114 (aq_10 shX12_count_104)) rfl (lvA0 hl) ?_
    refine gM_204 S hK hP (v := .int (nI (cn 1))) rfl (oc_180 115 (aq_11 shX12_count_104) uw_0_204) ?_
    refine lv_iadd hx hb (oc_96 118 (aq_14 shX12_count_104)) ?_
    refine lv_topi (fun y_25 ey_25 => ?_)
    obtain rfl : y_25 = (nI (9 + (cn 1))) := ey_25.trans (nI_add 9 (cn 1))
    refine vp_callSi (runS_r (As := [.int v0, .int 10, .int (nI (9 + (cn 1)))]) (rest := []) S (q_in l D cI cB cZ v0 10 (nI (9 + (cn 1))) ) kS_RX12_214 hK hP [] rfl ⟨Nat.le_of_ble_eq_true rfl, Nat.le_of_ble_eq_true rfl⟩ ⟨Nat.le_of_ble_eq_true rfl, Nat.le_of_ble_eq_true rfl⟩ rfl hl.1 rfl (Nat.le_of_ble_eq_true rfl) (oc_184 119 (aq_15 shX12_count_104) uw_0_214)) (fun r_26 h_27 => ?_)
    have : (nI (9 + (cn 1))).toInt = (((9 + (cn 1)) : Nat) : Int) := nI_toInt (by (first | omega | (have zz0 := Hid.u hi_cn; omega)))
    rcases h_27 with ⟨rfl, h_27⟩ | ⟨rfl, h_27⟩
    ·
      have h_27 : 10 ≤ v0.toInt ∧ v0.toInt ≤ (nI (9 + (cn 1))).toInt := h_27
      refine lv_if_eq (tgt := 135) hx hb dX12_count_122 rfl (fun h => absurd h cq_eq_1_0) (fun _ => ?_)
      obtain ⟨d0, hd0, rfl⟩ := nI_of (x := v0) (fun q => by have := Int32.lt_iff_toInt_lt.mp q; have e : (0 : Int32).toInt = 0 := rfl; (first | omega | (have zz0 := Hid.u hi_cn; omega)))
      have td0 : (nI d0).toInt = (d0 : Int) := nI_toInt hd0
      have zd0 : (nI d0).toInt.toNat = d0 := by (first | omega | (have zz0 := Hid.u hi_cn; omega))
      refine lv_aload_n hx hb (oc_42 125 (aq_21 shX12_count_104)) rfl (lvA0 hl) ?_
      refine gM_74 S hK hP (v := .ref (g 33)) rfl (oc_180 126 (aq_22 shX12_count_104) uw_0_74) ?_
      refine lv_iload_n hx hb (oc_27 129 shX12_count_129) rfl (lvA1 hl) ?_
      refine lv_bipush (v := 10) hx hb (oc_16 130 (aq_1 shX12_count_129) sgb_10) kbc_10 ?_
      refine lv_isub hx hb (oc_100 132 (aq_3 shX12_count_129)) ?_
      refine lv_topi (fun y_28 ey_28 => ?_)
      obtain rfl : y_28 = (nI (d0 - 10)) := ey_28.trans (nI_sub (b := 10) (by (first | omega | (have zz0 := Hid.u hi_cn; omega))))
      have kb_6 : (d0 - 10) < 11 := by (first | omega | (have zz0 := Hid.u hi_cn; omega))
      obtain ⟨a_29, ha_29, ea_29⟩ := hI.e33 (d0 - 10) (by (first | omega | (have zz0 := Hid.u hi_cn; omega)))
      refine ldM_33 hx hb hK hP (x := (nI a_29)) (vp_in_nI kb_6 (ltb rfl)) (nI_clamp (Nat.lt_trans kb_6 (ltb rfl))) ea_29 (oc_46 133 (aq_4 shX12_count_129)) ?_
      exact W.iret (v := (nI a_29)) hx hb hr (fun t ht hW => ⟨(nI a_29), rfl, trivial, ht⟩) (fun _ h => absurd h List.not_mem_nil) (oc_172 134 (aq_5 shX12_count_129))
    ·
      have h_27 : ¬ (10 ≤ v0.toInt ∧ v0.toInt ≤ (nI (9 + (cn 1))).toInt) := h_27
      refine lv_if_eq (tgt := 135) hx hb dX12_count_122 rfl (fun _ => ?_) (fun h => absurd h cq_eq_0_0)
      refine lv_iload_n hx hb (oc_27 135 (aq_6 shX12_count_129)) rfl (lvA1 hl) ?_
      refine lv_bipush (v := 20) hx hb (oc_16 136 (aq_7 shX12_count_129) sgb_20) kbc_20 ?_
      refine lv_bipush (v := 19) hx hb (oc_16 138 (aq_9 shX12_count_129) sgb_19) kbc_19 ?_
      refine lv_aload_n hx hb (oc_42 140 (aq_11 shX12_count_129)) rfl (lvA0 hl) ?_
      refine gM_204 S hK hP (v := .int (nI (cn 1))) rfl (oc_180 141 (aq_12 shX12_count_129) uw_0_204) ?_
      refine lv_iadd hx hb (oc_96 144 (aq_15 shX12_count_129)) ?_
      refine lv_topi (fun y_30 ey_30 => ?_)
      obtain rfl : y_30 = (nI (19 + (cn 1))) := ey_30.trans (nI_add 19 (cn 1))
      refine vp_callSi (runS_r (As := [.int v0, .int 20, .int (nI (19 + (cn 1)))]) (rest := []) S (q_in l D cI cB cZ v0 20 (nI (19 + (cn 1))) ) kS_RX12_214 hK hP [] rfl ⟨Nat.le_of_ble_eq_true rfl, Nat.le_of_ble_eq_true rfl⟩ ⟨Nat.le_of_ble_eq_true rfl, Nat.le_of_ble_eq_true rfl⟩ rfl hl.1 rfl (Nat.le_of_ble_eq_true rfl) (oc_184 145 (aq_16 shX12_count_129) uw_0_214)) (fun r_31 h_32 => ?_)
      have : (nI (19 + (cn 1))).toInt = (((19 + (cn 1)) : Nat) : Int) := nI_toInt (by (first | omega | (have zz0 := Hid.u hi_cn; omega)))
      rcases h_32 with ⟨rfl, h_32⟩ | ⟨rfl, h_32⟩
      ·
        have h_32 : 20 ≤ v0.toInt ∧ v0.toInt ≤ (nI (19 + (cn 1))).toInt := h_32
        refine lv_if_eq (tgt := 161) hx hb dX12_count_148 rfl (fun h => absurd h cq_eq_1_0) (fun _ => ?_)
        obtain ⟨d0, hd0, rfl⟩ := nI_of (x := v0) (fun q => by have := Int32.lt_iff_toInt_lt.mp q; have e : (0 : Int32).toInt = 0 := rfl; (first | omega | (have zz0 := Hid.u hi_cn; omega)))
        have td0 : (nI d0).toInt = (d0 : Int) := nI_toInt hd0
        have zd0 : (nI d0).toInt.toNat = d0 := by (first | omega | (have zz0 := Hid.u hi_cn; omega))
        refine lv_aload_n hx hb (oc_42 151 (aq_22 shX12_count_129)) rfl (lvA0 hl) ?_
        refine gM_22 S hK hP (v := .ref (g 7)) rfl (oc_180 152 (aq_23 shX12_count_129) uw_0_22) ?_
        refine lv_iload_n hx hb (oc_27 155 shX12_count_155) rfl (lvA1 hl) ?_
        refine lv_bipush (v := 20) hx hb (oc_16 156 (aq_1 shX12_count_155) sgb_20) kbc_20 ?_
        refine lv_isub hx hb (oc_100 158 (aq_3 shX12_count_155)) ?_
        refine lv_topi (fun y_33 ey_33 => ?_)
        obtain rfl : y_33 = (nI (d0 - 20)) := ey_33.trans (nI_sub (b := 20) (by (first | omega | (have zz0 := Hid.u hi_cn; omega))))
        have kb_7 : (d0 - 20) < 10 := by (first | omega | (have zz0 := Hid.u hi_cn; omega))
        have b_34 := hI.e7 (d0 - 20) (by (first | omega | (have zz0 := Hid.u hi_cn; omega)))
        refine ldM_7 hx hb hK hP (x := ((Fn 7) (d0 - 20))) (vp_in_nI kb_7 (ltb rfl)) (nI_clamp (Nat.lt_trans kb_7 (ltb rfl))) rfl (oc_46 159 (aq_4 shX12_count_155)) ?_
        exact W.iret (v := ((Fn 7) (d0 - 20))) hx hb hr (fun t ht hW => ⟨((Fn 7) (d0 - 20)), rfl, trivial, ht⟩) (fun _ h => absurd h List.not_mem_nil) (oc_172 160 (aq_5 shX12_count_155))
      ·
        have h_32 : ¬ (20 ≤ v0.toInt ∧ v0.toInt ≤ (nI (19 + (cn 1))).toInt) := h_32
        refine lv_if_eq (tgt := 161) hx hb dX12_count_148 rfl (fun _ => ?_) (fun h => absurd h cq_eq_0_0)
        refine lv_iload_n hx hb (oc_27 161 (aq_6 shX12_count_155)) rfl (lvA1 hl) ?_
        refine lv_bipush (v := 30) hx hb (oc_16 162 (aq_7 shX12_count_155) sgb_30) kbc_30 ?_
        refine lv_bipush (v := 29) hx hb (oc_16 164 (aq_9 shX12_count_155) sgb_29) kbc_29 ?_
        refine lv_aload_n hx hb (oc_42 166 (aq_11 shX12_count_155)) rfl (lvA0 hl) ?_
        refine gM_204 S hK hP (v := .int (nI (cn 1))) rfl (oc_180 167 (aq_12 shX12_count_155) uw_0_204) ?_
        refine lv_iadd hx hb (oc_96 170 (aq_15 shX12_count_155)) ?_
        refine lv_topi (fun y_35 ey_35 => ?_)
        obtain rfl : y_35 = (nI (29 + (cn 1))) := ey_35.trans (nI_add 29 (cn 1))
        refine vp_callSi (runS_r (As := [.int v0, .int 30, .int (nI (29 + (cn 1)))]) (rest := []) S (q_in l D cI cB cZ v0 30 (nI (29 + (cn 1))) ) kS_RX12_214 hK hP [] rfl ⟨Nat.le_of_ble_eq_true rfl, Nat.le_of_ble_eq_true rfl⟩ ⟨Nat.le_of_ble_eq_true rfl, Nat.le_of_ble_eq_true rfl⟩ rfl hl.1 rfl (Nat.le_of_ble_eq_true rfl) (oc_184 171 (aq_16 shX12_count_155) uw_0_214)) (fun r_36 h_37 => ?_)
        have : (nI (29 + (cn 1))).toInt = (((29 + (cn 1)) : Nat) : Int) := nI_toInt (by (first | omega | (have zz0 := Hid.u hi_cn; omega)))
        rcases h_37 with ⟨rfl, h_37⟩ | ⟨rfl, h_37⟩
        ·
          have h_37 : 30 ≤ v0.toInt ∧ v0.toInt ≤ (nI (29 + (cn 1))).toInt := h_37
          refine lv_if_eq (tgt := 187) hx hb dX12_count_174 rfl (fun h => absurd h cq_eq_1_0) (fun _ => ?_)
          obtain ⟨d0, hd0, rfl⟩ := nI_of (x := v0) (fun q => by have := Int32.lt_iff_toInt_lt.mp q; have e : (0 : Int32).toInt = 0 := rfl; (first | omega | (have zz0 := Hid.u hi_cn; omega)))
          have td0 : (nI d0).toInt = (d0 : Int) := nI_toInt hd0
          have zd0 : (nI d0).toInt.toNat = d0 := by (first | omega | (have zz0 := Hid.u hi_cn; omega))
          refine lv_aload_n hx hb (oc_42 177 (aq_22 shX12_count_155)) rfl (lvA0 hl) ?_
          refine gM_95 S hK hP (v := .ref (g 40)) rfl (oc_180 178 (aq_23 shX12_count_155) uw_0_95) ?_
          refine lv_iload_n hx hb (oc_27 181 shX12_count_181) rfl (lvA1 hl) ?_
          refine lv_bipush (v := 30) hx hb (oc_16 182 (aq_1 shX12_count_181) sgb_30) kbc_30 ?_
          refine lv_isub hx hb (oc_100 184 (aq_3 shX12_count_181)) ?_
          refine lv_topi (fun y_38 ey_38 => ?_)
          obtain rfl : y_38 = (nI (d0 - 30)) := ey_38.trans (nI_sub (b := 30) (by (first | omega | (have zz0 := Hid.u hi_cn; omega))))
          have kb_8 : (d0 - 30) < 10 := by (first | omega | (have zz0 := Hid.u hi_cn; omega))
          refine ldM_40 hx hb hK hP (x := ((Fn 40) (d0 - 30))) (vp_in_nI kb_8 (ltb rfl)) (nI_clamp (Nat.lt_trans kb_8 (ltb rfl))) rfl (oc_46 185 (aq_4 shX12_count_181)) ?_
          exact W.iret (v := ((Fn 40) (d0 - 30))) hx hb hr (fun t ht hW => ⟨((Fn 40) (d0 - 30)), rfl, trivial, ht⟩) (fun _ h => absurd h List.not_mem_nil) (oc_172 186 (aq_5 shX12_count_181))
        ·
          have h_37 : ¬ (30 ≤ v0.toInt ∧ v0.toInt ≤ (nI (29 + (cn 1))).toInt) := h_37
          refine lv_if_eq (tgt := 187) hx hb dX12_count_174 rfl (fun _ => ?_) (fun h => absurd h cq_eq_0_0)
          refine lv_iload_n hx hb (oc_27 187 (aq_6 shX12_count_181)) rfl (lvA1 hl) ?_
          refine lv_bipush (v := 40) hx hb (oc_16 188 (aq_7 shX12_count_181) sgb_40) kbc_40 ?_
          refine lv_bipush (v := 39) hx hb (oc_16 190 (aq_9 shX12_count_181) sgb_39) kbc_39 ?_
          refine lv_aload_n hx hb (oc_42 192 (aq_11 shX12_count_181)) rfl (lvA0 hl) ?_
          refine gM_435 S hK hP (v := .int (nI (cn 62))) rfl (oc_180 193 (aq_12 shX12_count_181) uw_1_179) ?_
          refine lv_iadd hx hb (oc_96 196 (aq_15 shX12_count_181)) ?_
          refine lv_topi (fun y_39 ey_39 => ?_)
          obtain rfl : y_39 = (nI (39 + (cn 62))) := ey_39.trans (nI_add 39 (cn 62))
          refine vp_callSi (runS_r (As := [.int v0, .int 40, .int (nI (39 + (cn 62)))]) (rest := []) S (q_in l D cI cB cZ v0 40 (nI (39 + (cn 62))) ) kS_RX12_214 hK hP [] rfl ⟨Nat.le_of_ble_eq_true rfl, Nat.le_of_ble_eq_true rfl⟩ ⟨Nat.le_of_ble_eq_true rfl, Nat.le_of_ble_eq_true rfl⟩ rfl hl.1 rfl (Nat.le_of_ble_eq_true rfl) (oc_184 197 (aq_16 shX12_count_181) uw_0_214)) (fun r_40 h_41 => ?_)
          have : (nI (39 + (cn 62))).toInt = (((39 + (cn 62)) : Nat) : Int) := nI_toInt (by (first | omega | (have zz0 := Hid.u hi_cn; omega)))
          rcases h_41 with ⟨rfl, h_41⟩ | ⟨rfl, h_41⟩
          ·
            have h_41 : 40 ≤ v0.toInt ∧ v0.toInt ≤ (nI (39 + (cn 62))).toInt := h_41
            refine lv_if_eq (tgt := 213) hx hb dX12_count_200 rfl (fun h => absurd h cq_eq_1_0) (fun _ => ?_)
            obtain ⟨d0, hd0, rfl⟩ := nI_of (x := v0) (fun q => by have := Int32.lt_iff_toInt_lt.mp q; have e : (0 : Int32).toInt = 0 := rfl; (first | omega | (have zz0 := Hid.u hi_cn; omega)))
            have td0 : (nI d0).toInt = (d0 : Int) := nI_toInt hd0
            have zd0 : (nI d0).toInt.toNat = d0 := by (first | omega | (have zz0 := Hid.u hi_cn; omega))
            refine lv_aload_n hx hb (oc_42 203 (aq_22 shX12_count_181)) rfl (lvA0 hl) ?_
            refine gM_141 S hK hP (v := .ref (g 65)) rfl (oc_180 204 (aq_23 shX12_count_181) uw_0_141) ?_
            refine lv_iload_n hx hb (oc_27 207 shX12_count_207) rfl (lvA1 hl) ?_
            refine lv_bipush (v := 40) hx hb (oc_16 208 (aq_1 shX12_count_207) sgb_40) kbc_40 ?_
            refine lv_isub hx hb (oc_100 210 (aq_3 shX12_count_207)) ?_
            refine lv_topi (fun y_42 ey_42 => ?_)
            obtain rfl : y_42 = (nI (d0 - 40)) := ey_42.trans (nI_sub (b := 40) (by (first | omega | (have zz0 := Hid.u hi_cn; omega))))
            have kb_9 : (d0 - 40) < 10 := by (first | omega | (have zz0 := Hid.u hi_cn; omega))
            refine ldM_65 hx hb hK hP (x := ((Fn 65) (d0 - 40))) (vp_in_nI kb_9 (ltb rfl)) (nI_clamp (Nat.lt_trans kb_9 (ltb rfl))) rfl (oc_46 211 (aq_4 shX12_count_207)) ?_
            exact W.iret (v := ((Fn 65) (d0 - 40))) hx hb hr (fun t ht hW => ⟨((Fn 65) (d0 - 40)), rfl, trivial, ht⟩) (fun _ h => absurd h List.not_mem_nil) (oc_172 212 (aq_5 shX12_count_207))
          ·
            have h_41 : ¬ (40 ≤ v0.toInt ∧ v0.toInt ≤ (nI (39 + (cn 62))).toInt) := h_41
            refine lv_if_eq (tgt := 213) hx hb dX12_count_200 rfl (fun _ => ?_) (fun h => absurd h cq_eq_0_0)
            refine lv_iload_n hx hb (oc_27 213 (aq_6 shX12_count_207)) rfl (lvA1 hl) ?_
            refine lv_bipush (v := 50) hx hb (oc_16 214 (aq_7 shX12_count_207) sgb_50) kbc_50 ?_
            refine lv_bipush (v := 49) hx hb (oc_16 216 (aq_9 shX12_count_207) sgb_49) kbc_49 ?_
            refine lv_aload_n hx hb (oc_42 218 (aq_11 shX12_count_207)) rfl (lvA0 hl) ?_
            refine gM_447 S hK hP (v := .int (nI (cn 63))) rfl (oc_180 219 (aq_12 shX12_count_207) uw_1_191) ?_
            refine lv_iadd hx hb (oc_96 222 (aq_15 shX12_count_207)) ?_
            refine lv_topi (fun y_43 ey_43 => ?_)
            obtain rfl : y_43 = (nI (49 + (cn 63))) := ey_43.trans (nI_add 49 (cn 63))
            refine vp_callSi (runS_r (As := [.int v0, .int 50, .int (nI (49 + (cn 63)))]) (rest := []) S (q_in l D cI cB cZ v0 50 (nI (49 + (cn 63))) ) kS_RX12_214 hK hP [] rfl ⟨Nat.le_of_ble_eq_true rfl, Nat.le_of_ble_eq_true rfl⟩ ⟨Nat.le_of_ble_eq_true rfl, Nat.le_of_ble_eq_true rfl⟩ rfl hl.1 rfl (Nat.le_of_ble_eq_true rfl) (oc_184 223 (aq_16 shX12_count_207) uw_0_214)) (fun r_44 h_45 => ?_)
            have : (nI (49 + (cn 63))).toInt = (((49 + (cn 63)) : Nat) : Int) := nI_toInt (by (first | omega | (have zz0 := Hid.u hi_cn; omega)))
            rcases h_45 with ⟨rfl, h_45⟩ | ⟨rfl, h_45⟩
            ·
              have h_45 : 50 ≤ v0.toInt ∧ v0.toInt ≤ (nI (49 + (cn 63))).toInt := h_45
              refine lv_if_eq (tgt := 241) hx hb dX12_count_226 rfl (fun h => absurd h cq_eq_1_0) (fun _ => ?_)
              obtain ⟨d0, hd0, rfl⟩ := nI_of (x := v0) (fun q => by have := Int32.lt_iff_toInt_lt.mp q; have e : (0 : Int32).toInt = 0 := rfl; (first | omega | (have zz0 := Hid.u hi_cn; omega)))
              have td0 : (nI d0).toInt = (d0 : Int) := nI_toInt hd0
              have zd0 : (nI d0).toInt.toNat = d0 := by (first | omega | (have zz0 := Hid.u hi_cn; omega))
              refine lv_aload_n hx hb (oc_42 229 (aq_22 shX12_count_207)) rfl (lvA0 hl) ?_
              refine gM_144 S hK hP (v := .ref (g 66)) rfl (oc_180 230 (aq_23 shX12_count_207) uw_0_144) ?_
              refine lv_iload_n hx hb (oc_27 233 shX12_count_233) rfl (lvA1 hl) ?_
              refine lv_bipush (v := 50) hx hb (oc_16 234 (aq_1 shX12_count_233) sgb_50) kbc_50 ?_
              refine lv_isub hx hb (oc_100 236 (aq_3 shX12_count_233)) ?_
              refine lv_topi (fun y_46 ey_46 => ?_)
              obtain rfl : y_46 = (nI (d0 - 50)) := ey_46.trans (nI_sub (b := 50) (by (first | omega | (have zz0 := Hid.u hi_cn; omega))))
              have kb_10 : (d0 - 50) < 40 := by (first | omega | (have zz0 := Hid.u hi_cn; omega))
              obtain ⟨a_47, ha_47, ea_47⟩ := hI.e66 (d0 - 50) (by (first | omega | (have zz0 := Hid.u hi_cn; omega)))
              refine ldM_66 hx hb hK hP (x := (nI a_47)) (vp_in_nI kb_10 (ltb rfl)) (nI_clamp (Nat.lt_trans kb_10 (ltb rfl))) ea_47 (oc_46 237 (aq_4 shX12_count_233)) ?_
              refine lv_goto (tgt := 242) hx hb (oc_167 238 (aq_5 shX12_count_233) sgw_0_4) rfl ?_
              exact W.iret (v := (nI a_47)) hx hb hr (fun t ht hW => ⟨(nI a_47), rfl, trivial, ht⟩) (fun _ h => absurd h List.not_mem_nil) dX12_count_242
            ·
              have h_45 : ¬ (50 ≤ v0.toInt ∧ v0.toInt ≤ (nI (49 + (cn 63))).toInt) := h_45
              refine lv_if_eq (tgt := 241) hx hb dX12_count_226 rfl (fun _ => ?_) (fun h => absurd h cq_eq_0_0)
              refine lv_iconst (v := (-1)) hx hb (oc_2 241 (aq_8 shX12_count_233)) kic_m1 ?_
              exact W.iret (v := (-1)) hx hb hr (fun t ht hW => ⟨(-1), rfl, trivial, ht⟩) (fun _ h => absurd h List.not_mem_nil) dX12_count_242
  ·
    refine lv_tableIn (tgt := 56) (off := 55) hx hb dX12_count_1 (by (first | omega | (have zz0 := Hid.u hi_cn; omega))) (by (first | omega | (have zz0 := Hid.u hi_cn; omega))) (by rw [c_1]; rfl) (by decide) ?_
    refine lv_aload_n hx hb (oc_42 56 shX12_count_56) rfl (lvA0 hl) ?_
    refine gM_211 S hK hP (v := .int (nI (cn 0))) rfl (oc_180 57 (aq_1 shX12_count_56) uw_0_211) ?_
    exact W.iret (v := (nI (cn 0))) hx hb hr (fun t ht hW => ⟨(nI (cn 0)), rfl, trivial, ht⟩) (fun _ h => absurd h List.not_mem_nil) (oc_172 60 (aq_4 shX12_count_56))
  ·
    refine lv_tableIn (tgt := 61) (off := 60) hx hb dX12_count_1 (by (first | omega | (have zz0 := Hid.u hi_cn; omega))) (by (first | omega | (have zz0 := Hid.u hi_cn; omega))) (by rw [c_1]; rfl) (by decide) ?_
    refine lv_aload_n hx hb (oc_42 61 (aq_5 shX12_count_56)) rfl (lvA0 hl) ?_
    refine gM_204 S hK hP (v := .int (nI (cn 1))) rfl (oc_180 62 (aq_6 shX12_count_56) uw_0_204) ?_
    exact W.iret (v := (nI (cn 1))) hx hb hr (fun t ht hW => ⟨(nI (cn 1)), rfl, trivial, ht⟩) (fun _ h => absurd h List.not_mem_nil) (oc_172 65 (aq_9 shX12_count_56))
  ·
    refine lv_tableIn (tgt := 66) (off := 65) hx hb dX12_count_1 (by (first | omega | (have zz0 := Hid.u hi_cn; omega))) (by (first | omega | (have zz0 := Hid.u hi_cn; omega))) (by rw [c_1]; rfl) (by decide) ?_
    refine lv_aload_n hx hb (oc_42 66 (aq_10 shX12_count_56)) rfl (lvA0 hl) ?_
    refine gM_208 S hK hP (v := .int (nI (cn 2))) rfl (oc_180 67 (aq_11 shX12_count_56) uw_0_208) ?_
    exact W.iret (v := (nI (cn 2))) hx hb hr (fun t ht hW => ⟨(nI (cn 2)), rfl, trivial, ht⟩) (fun _ h => absurd h List.not_mem_nil) (oc_172 70 (aq_14 shX12_count_56))
  ·
    refine lv_tableIn (tgt := 71) (off := 70) hx hb dX12_count_1 (by (first | omega | (have zz0 := Hid.u hi_cn; omega))) (by (first | omega | (have zz0 := Hid.u hi_cn; omega))) (by rw [c_1]; rfl) (by decide) ?_
    refine lv_aload_n hx hb (oc_42 71 (aq_15 shX12_count_56)) rfl (lvA0 hl) ?_
    refine gM_226 S hK hP (v := .int (nI (cn 18))) rfl (oc_180 72 (aq_16 shX12_count_56) uw_0_226) ?_
    exact W.iret (v := (nI (cn 18))) hx hb hr (fun t ht hW => ⟨(nI (cn 18)), rfl, trivial, ht⟩) (fun _ h => absurd h List.not_mem_nil) (oc_172 75 (aq_19 shX12_count_56))
  ·
    refine lv_tableIn (tgt := 76) (off := 75) hx hb dX12_count_1 (by (first | omega | (have zz0 := Hid.u hi_cn; omega))) (by (first | omega | (have zz0 := Hid.u hi_cn; omega))) (by rw [c_1]; rfl) (by decide) ?_
    refine lv_aload_n hx hb (oc_42 76 (aq_20 shX12_count_56)) rfl (lvA0 hl) ?_
    refine gM_74 S hK hP (v := .ref (g 33)) rfl (oc_180 77 (aq_21 shX12_count_56) uw_0_74) ?_
    refine lv_bipush (v := 10) hx hb (oc_16 80 shX12_count_80 sgb_10) kbc_10 ?_
    obtain ⟨a_48, ha_48, ea_48⟩ := hI.e33 10 (by (first | omega | (have zz0 := Hid.u hi_cn; omega)))
    refine ldM_33 hx hb hK hP (x := (nI a_48)) (by unfold vp_in; decide) (by decide) ea_48 (oc_46 82 (aq_2 shX12_count_80)) ?_
    exact W.iret (v := (nI a_48)) hx hb hr (fun t ht hW => ⟨(nI a_48), rfl, trivial, ht⟩) (fun _ h => absurd h List.not_mem_nil) (oc_172 83 (aq_3 shX12_count_80))
  ·
    refine lv_tableIn (tgt := 84) (off := 83) hx hb dX12_count_1 (by (first | omega | (have zz0 := Hid.u hi_cn; omega))) (by (first | omega | (have zz0 := Hid.u hi_cn; omega))) (by rw [c_1]; rfl) (by decide) ?_
    refine lv_aload_n hx hb (oc_42 84 (aq_4 shX12_count_80)) rfl (lvA0 hl) ?_
    refine gM_435 S hK hP (v := .int (nI (cn 62))) rfl (oc_180 85 (aq_5 shX12_count_80) uw_1_179) ?_
    exact W.iret (v := (nI (cn 62))) hx hb hr (fun t ht hW => ⟨(nI (cn 62)), rfl, trivial, ht⟩) (fun _ h => absurd h List.not_mem_nil) (oc_172 88 (aq_8 shX12_count_80))
  ·
    refine lv_tableIn (tgt := 89) (off := 88) hx hb dX12_count_1 (by (first | omega | (have zz0 := Hid.u hi_cn; omega))) (by (first | omega | (have zz0 := Hid.u hi_cn; omega))) (by rw [c_1]; rfl) (by decide) ?_
    refine lv_aload_n hx hb (oc_42 89 (aq_9 shX12_count_80)) rfl (lvA0 hl) ?_
    refine gM_447 S hK hP (v := .int (nI (cn 63))) rfl (oc_180 90 (aq_10 shX12_count_80) uw_1_191) ?_
    exact W.iret (v := (nI (cn 63))) hx hb hr (fun t ht hW => ⟨(nI (cn 63)), rfl, trivial, ht⟩) (fun _ h => absurd h List.not_mem_nil) (oc_172 93 (aq_13 shX12_count_80))
  ·
    refine lv_tableIn (tgt := 94) (off := 93) hx hb dX12_count_1 (by (first | omega | (have zz0 := Hid.u hi_cn; omega))) (by (first | omega | (have zz0 := Hid.u hi_cn; omega))) (by rw [c_1]; rfl) (by decide) ?_
    refine lv_aload_n hx hb (oc_42 94 (aq_14 shX12_count_80)) rfl (lvA0 hl) ?_
    refine gM_478 S hK hP (v := .int (nI (cn 83))) rfl (oc_180 95 (aq_15 shX12_count_80) uw_1_222) ?_
    exact W.iret (v := (nI (cn 83))) hx hb hr (fun t ht hW => ⟨(nI (cn 83)), rfl, trivial, ht⟩) (fun _ h => absurd h List.not_mem_nil) (oc_172 98 (aq_18 shX12_count_80))
  ·
    refine lv_tableIn (tgt := 99) (off := 98) hx hb dX12_count_1 (by (first | omega | (have zz0 := Hid.u hi_cn; omega))) (by (first | omega | (have zz0 := Hid.u hi_cn; omega))) (by rw [c_1]; rfl) (by decide) ?_
    refine lv_aload_n hx hb (oc_42 99 (aq_19 shX12_count_80)) rfl (lvA0 hl) ?_
    refine gM_386 S hK hP (v := .int (nI (cn 46))) rfl (oc_180 100 (aq_20 shX12_count_80) uw_1_130) ?_
    exact W.iret (v := (nI (cn 46))) hx hb hr (fun t ht hW => ⟨(nI (cn 46)), rfl, trivial, ht⟩) (fun _ h => absurd h List.not_mem_nil) (oc_172 103 (aq_23 shX12_count_80))
  ·
    refine lv_tableIn (tgt := 104) (off := 103) hx hb dX12_count_1 (by (first | omega | (have zz0 := Hid.u hi_cn; omega))) (by (first | omega | (have zz0 := Hid.u hi_cn; omega))) (by rw [c_1]; rfl) (by decide) ?_
    refine lv_aload_n hx hb (oc_42 104 shX12_count_104) rfl (lvA0 hl) ?_
    refine gM_407 S hK hP (v := .int (nI (cn 57))) rfl (oc_180 105 (aq_1 shX12_count_104) uw_1_151) ?_
    exact W.iret (v := (nI (cn 57))) hx hb hr (fun t ht hW => ⟨(nI (cn 57)), rfl, trivial, ht⟩) (fun _ h => absurd h List.not_mem_nil) (oc_172 108 (aq_4 shX12_count_104))
set_option maxRecDepth 100000 in
set_option maxHeartbeats 4000000 in
theorem q_sample (l : Launch) (D : va_G) (cI cB cZ : ClassId) (g : Nat → Nat) (cn : Nat → Nat) (In : Nat → Int32) (Fn : Nat → Nat → Int32) (v0 v1 : Int32) (sz : Nat) (hI : IM cn Fn) : Met l yX12_sample (CWS yX12_sample cX12_sample 3 (some .int)) (RM 1 0 0) (PBw [.ref (g 100), .int v0, .int v1] D cI cB cZ (wM cI cB cZ g cn In Fn) sz) (va_Qi (fun (r : Int32) (u : (Nat → Nat) × (Nat → Int32) × (Nat → Nat → Int32)) => (fun r c2 I2 F2 => (∃ k x : Nat, k < 10 ∧ x < 12 ∧ Fn 79 k = nI x ∧ r = nI (x + 1) ∧ c2 = cn ∧ I2 = In ∧ F2 = va_up (va_up Fn 80 (upd (Fn 80) (12 * k + x) v1)) 79 (upd (Fn 79) k (nI (x + 1)))) ∨ (r = -1 ∧ c2 = cn ∧ I2 = In ∧ F2 = Fn)) r u.1 u.2.1 u.2.2) (fun (u : (Nat → Nat) × (Nat → Int32) × (Nat → Nat → Int32)) (t : State) => va_P D vwCl (wM cI cB cZ g u.1 u.2.1 u.2.2) t.heap ∧ va_D (va_A (wM cI cB cZ g cn In Fn) sz) (wM cI cB cZ g u.1 u.2.1 u.2.2)) (va_A (wM cI cB cZ g cn In Fn) sz)) 0 0 (va_A (wM cI cB cZ g cn In Fn) sz) := by
  refine en_w (fun A => (va_Qi (fun (r : Int32) (u : (Nat → Nat) × (Nat → Int32) × (Nat → Nat → Int32)) => (fun (r : Int32) (c2 : Nat → Nat) (I2 : Nat → Int32) (F2 : Nat → Nat → Int32) => (∃ k x : Nat, k < 10 ∧ x < 12 ∧ Fn 79 k = nI x ∧ r = nI (x + 1) ∧ c2 = cn ∧ I2 = In ∧ F2 = va_up (va_up Fn 80 (upd (Fn 80) (12 * k + x) v1)) 79 (upd (Fn 79) k (nI (x + 1)))) ∨ (r = -1 ∧ c2 = cn ∧ I2 = In ∧ F2 = Fn)) r u.1 u.2.1 u.2.2) (fun (u : (Nat → Nat) × (Nat → Int32) × (Nat → Nat → Int32)) (t : State) => va_P D vwCl (wM cI cB cZ g u.1 u.2.1 u.2.2) t.heap ∧ va_D A (wM cI cB cZ g u.1 u.2.1 u.2.2)) A)) rfl rfl pn_RX12 (Nat.le_of_ble_eq_true rfl) (fun p e s m below meth c A hx hb hml hown S hr hlocks hnm hA hP hK hD hS ls hl => ?_)
  have hl : lv_has ls 3 [(0, .ref (g 100)), (1, .int v0), (2, .int v1)] := hl
  have hi_cn : Hid (CB cn) := hI.b
  refine lv_aload_n hx hb (oc_42 0 shX12_sample_0) rfl (lvA0 hl) ?_
  refine lv_iload_n hx hb (oc_27 1 (aq_1 shX12_sample_0)) rfl (lvA1 hl) ?_
  refine vp_callSi (runV_ra (As := [.int v0]) (rest := []) S (q_isBatch l D cI cB cZ g cn In Fn v0 hI) kV_RX12_450 hK hP 0 rfl rfl rfl ⟨Nat.le_of_ble_eq_true rfl, Nat.le_of_ble_eq_true rfl⟩ ⟨Nat.le_of_ble_eq_true rfl, Nat.le_of_ble_eq_true rfl⟩ rfl hl.1 rfl (Nat.le_of_ble_eq_true rfl) (oc_182 2 (aq_2 shX12_sample_0) uw_1_194)) (fun r_1 h_2 => ?_)
  rcases h_2 with ⟨rfl, h_2⟩ | ⟨rfl, h_2⟩
  ·
    have h_2 : 0 ≤ v0.toInt ∧ v0.toInt < ((cn 62) : Int) := h_2
    refine lv_if_eq (tgt := 30) hx hb (oc_153 5 (aq_5 shX12_sample_0) sgw_0_25) rfl (fun h => absurd h cq_eq_1_0) (fun _ => ?_)
    obtain ⟨d0, hd0, rfl⟩ := nI_of (x := v0) (fun q => by have := Int32.lt_iff_toInt_lt.mp q; have e : (0 : Int32).toInt = 0 := rfl; (first | omega | (have zz0 := Hid.u hi_cn; omega)))
    have td0 : (nI d0).toInt = (d0 : Int) := nI_toInt hd0
    have zd0 : (nI d0).toInt.toNat = d0 := by (first | omega | (have zz0 := Hid.u hi_cn; omega))
    refine lv_iload_n hx hb (oc_28 8 (aq_8 shX12_sample_0)) rfl (lvA2 hl) ?_
    refine lv_iconst (v := 0) hx hb (oc_3 9 (aq_9 shX12_sample_0)) kic_0 ?_
    refine lv_sipush (v := 1000) hx hb (oc_17 10 (aq_10 shX12_sample_0) sgw_3_232) (by decide) ?_
    refine vp_callSi (runS_r (As := [.int v1, .int 0, .int 1000]) (rest := []) S (q_in l D cI cB cZ v1 0 1000 ) kS_RX12_214 hK hP [] rfl ⟨Nat.le_of_ble_eq_true rfl, Nat.le_of_ble_eq_true rfl⟩ ⟨Nat.le_of_ble_eq_true rfl, Nat.le_of_ble_eq_true rfl⟩ rfl hl.1 rfl (Nat.le_of_ble_eq_true rfl) (oc_184 13 (aq_13 shX12_sample_0) uw_0_214)) (fun r_3 h_4 => ?_)
    rcases h_4 with ⟨rfl, h_4⟩ | ⟨rfl, h_4⟩
    ·
      have h_4 : 0 ≤ v1.toInt ∧ v1.toInt ≤ 1000 := h_4
      refine lv_if_eq (tgt := 30) hx hb (oc_153 16 (aq_16 shX12_sample_0) sgw_0_14) rfl (fun h => absurd h cq_eq_1_0) (fun _ => ?_)
      refine lv_aload_n hx hb (oc_42 19 (aq_19 shX12_sample_0)) rfl (lvA0 hl) ?_
      refine gM_171 S hK hP (v := .ref (g 79)) rfl (oc_180 20 (aq_20 shX12_sample_0) uw_0_171) ?_
      refine lv_iload_n hx hb (oc_27 23 (aq_23 shX12_sample_0)) rfl (lvA1 hl) ?_
      have kb_1 : d0 < 10 := by (first | omega | (have zz0 := Hid.u hi_cn; omega))
      obtain ⟨a_5, ha_5, ea_5⟩ := hI.e79 d0 (by (first | omega | (have zz0 := Hid.u hi_cn; omega)))
      refine ldM_79 hx hb hK hP (x := (nI a_5)) (vp_in_nI kb_1 (ltb rfl)) (nI_clamp (Nat.lt_trans kb_1 (ltb rfl))) ea_5 (oc_46 24 shX12_sample_24) ?_
      refine lv_bipush (v := 12) hx hb (oc_16 25 (aq_1 shX12_sample_24) sgb_12) kbc_12 ?_
      have : (nI a_5).toInt = ((a_5 : Nat) : Int) := nI_toInt (by (first | omega | (have zz0 := Hid.u hi_cn; omega)))
      refine lv_icmp_ne (tgt := 32) hx hb (oc_160 27 (aq_3 shX12_sample_24) sgw_0_5) rfl (fun c_6 => ?_) (fun c_6 => ?_)
      ·
        have tc_6 : ((nI a_5).toInt : Int) ≠ 12 := fun q => c_6 (Int32.toInt_inj.mp q)
        refine lv_aload_n hx hb (oc_42 32 (aq_8 shX12_sample_24)) rfl (lvA0 hl) ?_
        refine gM_174 S hK hP (v := .ref (g 80)) rfl (oc_180 33 (aq_9 shX12_sample_24) uw_0_174) ?_
        refine lv_bipush (v := 12) hx hb (oc_16 36 (aq_12 shX12_sample_24) sgb_12) kbc_12 ?_
        refine lv_iload_n hx hb (oc_27 38 (aq_14 shX12_sample_24)) rfl (lvA1 hl) ?_
        refine lv_imul hx hb (oc_104 39 (aq_15 shX12_sample_24)) ?_
        refine lv_topi (fun y_7 ey_7 => ?_)
        obtain rfl : y_7 = (nI (12 * d0)) := ey_7.trans (pk_mul 12 d0)
        refine lv_aload_n hx hb (oc_42 40 (aq_16 shX12_sample_24)) rfl (lvA0 hl) ?_
        refine gM_171 S hK hP (v := .ref (g 79)) rfl (oc_180 41 (aq_17 shX12_sample_24) uw_0_171) ?_
        refine lv_iload_n hx hb (oc_27 44 (aq_20 shX12_sample_24)) rfl (lvA1 hl) ?_
        refine ldM_79 hx hb hK hP (x := (nI a_5)) (vp_in_nI kb_1 (ltb rfl)) (nI_clamp (Nat.lt_trans kb_1 (ltb rfl))) ea_5 (oc_46 45 (aq_21 shX12_sample_24)) ?_
        refine lv_iadd hx hb (oc_96 46 (aq_22 shX12_sample_24)) ?_
        refine lv_topi (fun y_8 ey_8 => ?_)
        obtain rfl : y_8 = (nI ((12 * d0) + a_5)) := ey_8.trans (nI_add (12 * d0) a_5)
        refine lv_iload_n hx hb (oc_28 47 (aq_23 shX12_sample_24)) rfl (lvA2 hl) ?_
        have kb_2 : ((12 * d0) + a_5) < 120 := by (first | omega | (have zz0 := Hid.u hi_cn; omega))
        refine stM_80 hx hb hK hP hD hS (Fn2 := (va_up Fn 80 (upd (Fn 80) ((12 * d0) + a_5) v1))) (vp_in_nI kb_2 (ltb rfl)) (nI_clamp (Nat.lt_trans kb_2 (ltb rfl))) rfl (oc_79 48 shX12_sample_48) (fun H locs hP hD hS => ?_)
        refine lv_aload_n hx hb (oc_42 49 (aq_1 shX12_sample_48)) rfl (lvA0 hl) ?_
        refine gM_171 S hK hP (v := .ref (g 79)) rfl (oc_180 50 (aq_2 shX12_sample_48) uw_0_171) ?_
        refine lv_iload_n hx hb (oc_27 53 (aq_5 shX12_sample_48)) rfl (lvA1 hl) ?_
        refine lv_aload_n hx hb (oc_42 54 (aq_6 shX12_sample_48)) rfl (lvA0 hl) ?_
        refine gM_171 S hK hP (v := .ref (g 79)) rfl (oc_180 55 (aq_7 shX12_sample_48) uw_0_171) ?_
        refine lv_iload_n hx hb (oc_27 58 (aq_10 shX12_sample_48)) rfl (lvA1 hl) ?_
        refine ldM_79 hx hb hK hP (x := (nI a_5)) (vp_in_nI kb_1 (ltb rfl)) (nI_clamp (Nat.lt_trans kb_1 (ltb rfl))) ea_5 (oc_46 59 (aq_11 shX12_sample_48)) ?_
        refine lv_iconst (v := 1) hx hb (oc_4 60 (aq_12 shX12_sample_48)) kic_1 ?_
        refine lv_iadd hx hb (oc_96 61 (aq_13 shX12_sample_48)) ?_
        refine lv_topi (fun y_9 ey_9 => ?_)
        obtain rfl : y_9 = (nI (a_5 + 1)) := ey_9.trans (nI_add a_5 1)
        refine stM_79 hx hb hK hP hD hS (Fn2 := (va_up (va_up Fn 80 (upd (Fn 80) ((12 * d0) + a_5) v1)) 79 (upd (Fn 79) d0 (nI (a_5 + 1))))) (vp_in_nI kb_1 (ltb rfl)) (nI_clamp (Nat.lt_trans kb_1 (ltb rfl))) rfl (oc_79 62 (aq_14 shX12_sample_48)) (fun H locs hP hD hS => ?_)
        refine lv_aload_n hx hb (oc_42 63 (aq_15 shX12_sample_48)) rfl (lvA0 hl) ?_
        refine gM_171 S hK hP (v := .ref (g 79)) rfl (oc_180 64 (aq_16 shX12_sample_48) uw_0_171) ?_
        refine lv_iload_n hx hb (oc_27 67 (aq_19 shX12_sample_48)) rfl (lvA1 hl) ?_
        refine ldM_79 hx hb hK hP (x := ((upd (Fn 79) d0 (nI (a_5 + 1))) d0)) (vp_in_nI kb_1 (ltb rfl)) (nI_clamp (Nat.lt_trans kb_1 (ltb rfl))) rfl (oc_46 68 (aq_20 shX12_sample_48)) ?_
        refine lv_topi (fun y_10 ey_10 => ?_)
        obtain rfl : y_10 = nI (a_5 + 1) := ey_10.trans (upd_self _ _ _)
        exact W.iret (v := (nI (a_5 + 1))) hx hb hr (fun t ht hW => ⟨⟨(nI (a_5 + 1)), (cn, In, (va_up (va_up Fn 80 (upd (Fn 80) ((12 * d0) + a_5) v1)) 79 (upd (Fn 79) d0 (nI (a_5 + 1))))), rfl, (Or.inl ⟨d0, a_5, by (first | omega | (have zz0 := Hid.u hi_cn; omega)), by (first | omega | (have zz0 := Hid.u hi_cn; omega)), ea_5, rfl, rfl, rfl, rfl⟩), by rw [ht]; exact hP, hD⟩, hS.F ht⟩) hS.2.2 (oc_172 69 (aq_21 shX12_sample_48))
      ·
        have tc_6 : ((nI a_5).toInt : Int) = 12 := congrArg Int32.toInt c_6
        refine lv_iconst (v := (-1)) hx hb (oc_2 30 (aq_6 shX12_sample_24)) kic_m1 ?_
        exact W.iret (v := (-1)) hx hb hr (fun t ht hW => ⟨⟨(-1), (cn, In, Fn), rfl, (Or.inr ⟨rfl, rfl, rfl, rfl⟩), by rw [ht]; exact hP, hD⟩, hS.F ht⟩) hS.2.2 (oc_172 31 (aq_7 shX12_sample_24))
    ·
      have h_4 : ¬ (0 ≤ v1.toInt ∧ v1.toInt ≤ 1000) := h_4
      refine lv_if_eq (tgt := 30) hx hb (oc_153 16 (aq_16 shX12_sample_0) sgw_0_14) rfl (fun _ => ?_) (fun h => absurd h cq_eq_0_0)
      refine lv_iconst (v := (-1)) hx hb (oc_2 30 (aq_6 shX12_sample_24)) kic_m1 ?_
      exact W.iret (v := (-1)) hx hb hr (fun t ht hW => ⟨⟨(-1), (cn, In, Fn), rfl, (Or.inr ⟨rfl, rfl, rfl, rfl⟩), by rw [ht]; exact hP, hD⟩, hS.F ht⟩) hS.2.2 (oc_172 31 (aq_7 shX12_sample_24))
  ·
    have h_2 : ¬ (0 ≤ v0.toInt ∧ v0.toInt < ((cn 62) : Int)) := h_2
    refine lv_if_eq (tgt := 30) hx hb (oc_153 5 (aq_5 shX12_sample_0) sgw_0_25) rfl (fun _ => ?_) (fun h => absurd h cq_eq_0_0)
    refine lv_iconst (v := (-1)) hx hb (oc_2 30 (aq_6 shX12_sample_24)) kic_m1 ?_
    exact W.iret (v := (-1)) hx hb hr (fun t ht hW => ⟨⟨(-1), (cn, In, Fn), rfl, (Or.inr ⟨rfl, rfl, rfl, rfl⟩), by rw [ht]; exact hP, hD⟩, hS.F ht⟩) hS.2.2 (oc_172 31 (aq_7 shX12_sample_24))
end

section
theorem lrem_lt {x y : Int64} (h : ¬ y = 0) : (x - x / y * y).toInt.natAbs < y.toInt.natAbs := by
  have hy : y.toInt ≠ 0 := fun q => h (Int64.toInt_inj.mp q)
  have e : (x - x / y * y).toInt = (x.toInt.tmod y.toInt).bmod (2 ^ 64) := by
    rw [Int64.toInt_sub, Int64.toInt_mul, Int64.toInt_div]
    simp only [Int.bmod_mul_bmod, Int.sub_bmod_bmod]
    rw [Int.tmod_def, Int.mul_comm]
  have t : (x.toInt.tmod y.toInt).natAbs < y.toInt.natAbs := by
    rw [Int.natAbs_tmod]
    exact Nat.mod_lt _ (by omega)
  have b := Int64.toInt_lt y
  have b2 := Int64.le_toInt y
  rw [e, Int.bmod_eq_of_le (by omega) (by omega)]
  exact t
/-- the ways to choose, step by step -/
def chD (d : Nat) : Nat → Nat
  | 0 => 1
  | q + 1 => chD d q * (d + (q + 1)) / (q + 1)
theorem chD_ok {d q : Nat} (h : d + q ≤ 60) : 1 ≤ chD d q ∧ chD d q * (d + (q + 1)) < 2 ^ 63 := by
  have : ∀ d : Fin 61, ∀ q : Fin 61, d.val + q.val ≤ 60 → 1 ≤ chD d.val q.val ∧ chD d.val q.val * (d.val + (q.val + 1)) < 2 ^ 63 := by decide +kernel
  exact this ⟨d, by omega⟩ ⟨q, by omega⟩ h
theorem lN_big {n : Nat} (h : n < 2 ^ 63) : (lN n).toInt = (n : Int) := lg_ofNat_toInt (by omega)
theorem lN_div {a b : Nat} (ha : a < 2 ^ 63) (hb : b < 2 ^ 63) : lN a / lN b = lN (a / b) := by
  have h : a / b < 2 ^ 63 := Nat.lt_of_le_of_lt (Nat.div_le_self a b) ha
  apply Int64.toInt_inj.mp
  rw [Int64.toInt_div, lN_big ha, lN_big hb, lN_big h]
  rw [Int.tdiv_eq_ediv_of_nonneg (by omega)]
  have : ((a : Int) / (b : Int)) = ((a / b : Nat) : Int) := rfl
  rw [this]
  generalize a / b = z at h ⊢
  exact (Int.bmod_eq_of_le (by omega) (by omega))
theorem lN_ne {n : Nat} (h0 : 0 < n) (h : n < 2 ^ 63) : ¬ lN n = 0 := fun q => by
  have e := congrArg Int64.toInt q
  rw [lN_big h] at e
  have z : (0 : Int64).toInt = 0 := rfl
  omega



set_option maxRecDepth 100000 in
set_option maxHeartbeats 4000000 in
theorem q_choose (l : Launch) (D : va_G) (cI cB cZ : ClassId) (n0 : Nat) (v1 : Int32) (hn : n0 ≤ 60) : Met l yX12_choose (CWS yX12_choose cX12_choose 5 (some .long)) (RM 0 0 0) (PBr [.int (nI n0), .int v1] D cI cB cZ []) (vp_Sl (fun r => ∀ b : Nat, v1 = nI b → b ≤ n0 → r = lN (chD (n0 - b) b))) 0 0 (fun _ => False) := by
  refine en_r rfl pn_RX12 (Nat.le_of_ble_eq_true rfl) (fun p e s m below meth c hx hb hml hown S hr hlocks hnm hP hK hS ls hl => ?_)
  have hl : lv_has ls 5 [(0, .int (nI n0)), (1, .int v1)] := hl
  refine lv_iload_n hx hb (oc_27 0 shX12_choose_0) rfl (lvA1 hl) ?_
  refine lv_if_lt (tgt := 9) hx hb (oc_155 1 (aq_1 shX12_choose_0) sgw_0_8) rfl (fun c_1 => ?_) (fun c_1 => ?_)
  ·
    have tc_1 : (v1.toInt : Int) < 0 := Int32.lt_iff_toInt_lt.mp c_1
    refine lv_lconst (v := 0) hx hb (oc_9 9 (aq_9 shX12_choose_0)) (by decide) ?_
    exact W.lret (v := 0) hx hb hr (fun t ht hW => ⟨0, rfl, (fun b hb1 hb2 => by exfalso; have e1 := congrArg Int32.toInt hb1; rw [nI_toInt (n := b) (by omega)] at e1; omega), ht⟩) (fun _ h => absurd h List.not_mem_nil) (oc_173 10 (aq_10 shX12_choose_0))
  ·
    have tc_1 : (0 : Int) ≤ v1.toInt := Int32.le_iff_toInt_le.mp (Int32.not_lt.mp c_1)
    refine lv_iload_n hx hb (oc_27 4 (aq_4 shX12_choose_0)) rfl (lvA1 hl) ?_
    refine lv_iload_n hx hb (oc_26 5 (aq_5 shX12_choose_0)) rfl (lvA0 hl) ?_
    have : (nI n0).toInt = ((n0 : Nat) : Int) := nI_toInt (by omega)
    refine lv_icmp_le (tgt := 11) hx hb (oc_164 6 (aq_6 shX12_choose_0) sgw_0_5) rfl (fun c_2 => ?_) (fun c_2 => ?_)
    ·
      have tc_2 : (v1.toInt : Int) ≤ (nI n0).toInt := Int32.le_iff_toInt_le.mp c_2
      obtain ⟨d0, hd0, rfl⟩ := nI_of (x := v1) (fun q => by have := Int32.lt_iff_toInt_lt.mp q; have e : (0 : Int32).toInt = 0 := rfl; omega)
      have td0 : (nI d0).toInt = (d0 : Int) := nI_toInt hd0
      have zd0 : (nI d0).toInt.toNat = d0 := by omega
      refine lv_lconst (v := 1) hx hb (oc_10 11 (aq_11 shX12_choose_0)) (by decide) ?_
      refine lv_lstore_n (lv' := [(2, .long 1), (0, .int (nI n0)), (1, .int (nI d0))]) hx hb (oc_65 12 (aq_12 shX12_choose_0)) rfl hl (ltb rfl) rfl (fun ls hl => ?_)
      refine lv_iconst (v := 1) hx hb (oc_4 13 (aq_13 shX12_choose_0)) kic_1 ?_
      refine lv_istore (lv' := [(4, .int 1), (2, .long 1), (0, .int (nI n0)), (1, .int (nI d0))]) hx hb (oc_54 14 (aq_14 shX12_choose_0) ub_4) hl (ltb rfl) rfl (fun ls hl => ?_)
      have lp_16 : ∀ (n : Nat) (i16 : Nat) (x16_2 : Int64) , d0 + 1 - i16 < n → ((1 ≤ i16 ∧ i16 ≤ d0 + 1) ∧ (x16_2 = lN (chD (n0 - d0) (i16 - 1)))) → ∀ ls : Array Slot, lv_has ls 5 [(4, .int (nI i16)), (2, .long x16_2), (0, .int (nI n0)), (1, .int (nI d0))] → W p l e (RM 0 0 0) s m ([.int (nI n0), .int (nI d0)]).toArray below meth c s.heap [] 0 0 (MQ below (vp_Sl (fun r => ∀ b : Nat, (nI d0) = nI b → b ≤ n0 → r = lN (chD (n0 - b) b))) ([.int (nI n0), .int (nI d0)]).toArray s 0 0 (fun _ => False)) (F0 m 16 ls []) := by
        intro n16
        induction n16 with
        | zero => intros; omega
        | succ n16 ih16 =>
          intro i16 x16_2 hmu16 hinv16 ls hl
          obtain ⟨hr16, hx16_0⟩ := hinv16
          have ti16 : (nI i16).toInt = (i16 : Int) := nI_toInt (by omega)
          obtain ⟨j0, hj0⟩ : ∃ j0, i16 = j0 + 1 := ⟨i16 - 1, by omega⟩
          rw [show i16 - 1 = j0 by omega] at hx16_0
          subst hx16_0
          refine lv_iload hx hb (oc_21 16 (aq_16 shX12_choose_0) ub_4) (lvA0 hl) ?_
          refine lv_iload_n hx hb (oc_27 18 (aq_18 shX12_choose_0)) rfl (lvA3 hl) ?_
          refine lv_icmp_gt (tgt := 42) hx hb (oc_163 19 (aq_19 shX12_choose_0) sgw_0_23) rfl (fun c_3 => ?_) (fun c_3 => ?_)
          ·
            have tc_3 : ((nI d0).toInt : Int) < (nI i16).toInt := Int32.lt_iff_toInt_lt.mp c_3
            refine lv_lload_n hx hb (oc_32 42 (aq_18 shX12_choose_24)) rfl (lvA1 hl) ?_
            exact W.lret (v := (lN (chD (n0 - d0) j0))) hx hb hr (fun t ht hW => ⟨(lN (chD (n0 - d0) j0)), rfl, (fun b hb1 hb2 => by have e1 := congrArg Int32.toInt hb1; rw [nI_toInt hd0, nI_toInt (n := b) (by omega)] at e1; rw [show b = d0 by omega, show j0 = d0 by omega]), ht⟩) (fun _ h => absurd h List.not_mem_nil) (oc_173 43 (aq_19 shX12_choose_24))
          ·
            have tc_3 : ((nI i16).toInt : Int) ≤ (nI d0).toInt := Int32.le_iff_toInt_le.mp (Int32.not_lt.mp c_3)
            refine lv_lload_n hx hb (oc_32 22 (aq_22 shX12_choose_0)) rfl (lvA1 hl) ?_
            refine lv_iload_n hx hb (oc_26 23 (aq_23 shX12_choose_0)) rfl (lvA2 hl) ?_
            refine lv_iload_n hx hb (oc_27 24 shX12_choose_24) rfl (lvA3 hl) ?_
            refine lv_isub hx hb (oc_100 25 (aq_1 shX12_choose_24)) ?_
            refine lv_topi (fun y_4 ey_4 => ?_)
            obtain rfl : y_4 = (nI (n0 - d0)) := ey_4.trans (nI_sub (by omega))
            refine lv_iload hx hb (oc_21 26 (aq_2 shX12_choose_24) ub_4) (lvA0 hl) ?_
            refine lv_iadd hx hb (oc_96 28 (aq_4 shX12_choose_24)) ?_
            refine lv_topi (fun y_5 ey_5 => ?_)
            obtain rfl : y_5 = (nI ((n0 - d0) + i16)) := ey_5.trans (nI_add (n0 - d0) i16)
            refine lv_i2l (v := (lN ((n0 - d0) + i16))) hx hb (oc_133 29 (aq_5 shX12_choose_24)) (nI_l (by omega)) ?_
            refine lv_lmul hx hb (oc_105 30 (aq_6 shX12_choose_24)) ?_
            refine lv_topl (fun y_6 ey_6 => ?_)
            obtain rfl : y_6 = (lN ((chD (n0 - d0) j0) * ((n0 - d0) + i16))) := ey_6.trans (lN_mul _ _)
            refine lv_iload hx hb (oc_21 31 (aq_7 shX12_choose_24) ub_4) (lvA0 hl) ?_
            refine lv_i2l (v := (lN i16)) hx hb (oc_133 33 (aq_9 shX12_choose_24)) (nI_l (by omega)) ?_
            refine lv_ldiv hx hb (oc_109 34 (aq_10 shX12_choose_24)) (lN_ne (by omega) (by omega)) ?_
            refine lv_topl (fun y_7 ey_7 => ?_)
            obtain rfl : y_7 = (lN (chD (n0 - d0) (j0 + 1))) := ey_7.trans (by have q := chD_ok (d := n0 - d0) (q := j0) (by omega); rw [hj0]; exact lN_div q.2 (by omega))
            refine lv_lstore_n (lv' := [(2, .long (lN (chD (n0 - d0) (j0 + 1)))), (4, .int (nI i16)), (0, .int (nI n0)), (1, .int (nI d0))]) hx hb (oc_65 35 (aq_11 shX12_choose_24)) rfl hl (ltb rfl) rfl (fun ls hl => ?_)
            refine lv_iinc (v := (nI (i16 + 1))) (lv' := [(4, .int (nI (i16 + 1))), (2, .long (lN (chD (n0 - d0) (j0 + 1)))), (0, .int (nI n0)), (1, .int (nI d0))]) hx hb (oc_132 36 (aq_12 shX12_choose_24) ub_4 sgb_1) hl (k := 1) rfl (nI_1 _) (ltb rfl) rfl (fun ls hl => ?_)
            refine lv_goto (tgt := 16) hx hb (oc_167 39 (aq_15 shX12_choose_24) sgw_255_233) rfl ?_
            exact ih16 (i16 + 1) (lN (chD (n0 - d0) (j0 + 1))) (by omega) ⟨(by omega), (by rw [hj0]; rfl)⟩ ls (lv_sub hl [0, 1, 2, 3] rfl)
      exact lp_16 _ 1 1 (Nat.lt_succ_self _) ⟨(by omega), (show (1 : Int64) = lN (chD (n0 - d0) 0) from rfl)⟩ ls (lv_sub hl [0, 1, 2, 3] rfl)
    ·
      have tc_2 : ((nI n0).toInt : Int) < v1.toInt := Int32.lt_iff_toInt_lt.mp (Int32.not_le.mp c_2)
      refine lv_lconst (v := 0) hx hb (oc_9 9 (aq_9 shX12_choose_0)) (by decide) ?_
      exact W.lret (v := 0) hx hb hr (fun t ht hW => ⟨0, rfl, (fun b hb1 hb2 => by exfalso; have e1 := congrArg Int32.toInt hb1; rw [nI_toInt (n := b) (by omega)] at e1; omega), ht⟩) (fun _ h => absurd h List.not_mem_nil) (oc_173 10 (aq_10 shX12_choose_0))
set_option maxRecDepth 100000 in
set_option maxHeartbeats 4000000 in
theorem q_lacking (l : Launch) (D : va_G) (cI cB cZ : ClassId) (g : Nat → Nat) (cn : Nat → Nat) (In : Nat → Int32) (Fn : Nat → Nat → Int32)  (hI : IM cn Fn) : Met l yX12_lacking (CWS yX12_lacking cX12_lacking 3 (some .int)) (RM 0 0 0) (PBr [.ref (g 100)] D cI cB cZ (wM cI cB cZ g cn In Fn)) (vp_Si (fun r => ∃ n : Nat, n ≤ cn 2 ∧ r = nI n)) 0 0 (fun _ => False) := by
  refine en_r rfl pn_RX12 (Nat.le_of_ble_eq_true rfl) (fun p e s m below meth c hx hb hml hown S hr hlocks hnm hP hK hS ls hl => ?_)
  have hl : lv_has ls 3 [(0, .ref (g 100))] := hl
  have hi_cn : Hid (CB cn) := hI.b
  refine lv_iconst (v := 0) hx hb (oc_3 0 shX12_lacking_0) kic_0 ?_
  refine lv_istore_n (lv' := [(1, .int 0), (0, .ref (g 100))]) hx hb (oc_60 1 (aq_1 shX12_lacking_0)) rfl hl (ltb rfl) rfl (fun ls hl => ?_)
  refine lv_iconst (v := 0) hx hb (oc_3 2 (aq_2 shX12_lacking_0)) kic_0 ?_
  refine lv_istore_n (lv' := [(2, .int 0), (1, .int 0), (0, .ref (g 100))]) hx hb (oc_61 3 (aq_3 shX12_lacking_0)) rfl hl (ltb rfl) rfl (fun ls hl => ?_)
  have lp_4 : ∀ (n : Nat) (i4 : Nat) (n1 : Nat) , cn 2 - i4 < n → (i4 ≤ cn 2 ∧ (n1 ≤ i4)) → ∀ ls : Array Slot, lv_has ls 3 [(2, .int (nI i4)), (1, .int (nI n1)), (0, .ref (g 100))] → W p l e (RM 0 0 0) s m ([.ref (g 100)]).toArray below meth c s.heap [] 0 0 (MQ below (vp_Si (fun r => ∃ n : Nat, n ≤ cn 2 ∧ r = nI n)) ([.ref (g 100)]).toArray s 0 0 (fun _ => False)) (F0 m 4 ls []) := by
    intro n4
    induction n4 with
    | zero => intros; (first | omega | (have zz0 := Hid.u hi_cn; omega))
    | succ n4 ih4 =>
      intro i4 n1 hmu4 hinv4 ls hl
      obtain ⟨hr4, hx4_0⟩ := hinv4
      have ti4 : (nI i4).toInt = (i4 : Int) := nI_toInt (by (first | omega | (have zz0 := Hid.u hi_cn; omega)))
      refine lv_iload_n hx hb (oc_28 4 (aq_4 shX12_lacking_0)) rfl (lvA0 hl) ?_
      refine lv_aload_n hx hb (oc_42 5 (aq_5 shX12_lacking_0)) rfl (lvA2 hl) ?_
      refine gM_208 S hK hP (v := .int (nI (cn 2))) rfl (oc_180 6 (aq_6 shX12_lacking_0) uw_0_208) ?_
      have : (nI (cn 2)).toInt = (((cn 2) : Nat) : Int) := nI_toInt (by (first | omega | (have zz0 := Hid.u hi_cn; omega)))
      refine lv_icmp_ge (tgt := 35) hx hb (oc_162 9 (aq_9 shX12_lacking_0) sgw_0_26) rfl (fun c_1 => ?_) (fun c_1 => ?_)
      ·
        have tc_1 : ((nI (cn 2)).toInt : Int) ≤ (nI i4).toInt := Int32.le_iff_toInt_le.mp c_1
        refine lv_iload_n hx hb (oc_27 35 (aq_9 shX12_lacking_26)) rfl (lvA1 hl) ?_
        exact W.iret (v := (nI n1)) hx hb hr (fun t ht hW => ⟨(nI n1), rfl, ⟨n1, by (first | omega | (have zz0 := Hid.u hi_cn; omega)), rfl⟩, ht⟩) (fun _ h => absurd h List.not_mem_nil) (oc_172 36 (aq_10 shX12_lacking_26))
      ·
        have tc_1 : ((nI i4).toInt : Int) < (nI (cn 2)).toInt := Int32.lt_iff_toInt_lt.mp (Int32.not_le.mp c_1)
        refine lv_iload_n hx hb (oc_27 12 (aq_12 shX12_lacking_0)) rfl (lvA1 hl) ?_
        refine lv_aload_n hx hb (oc_42 13 (aq_13 shX12_lacking_0)) rfl (lvA2 hl) ?_
        refine gM_43 S hK hP (v := .ref (g 14)) rfl (oc_180 14 (aq_14 shX12_lacking_0) uw_0_43) ?_
        refine lv_iload_n hx hb (oc_28 17 (aq_17 shX12_lacking_0)) rfl (lvA0 hl) ?_
        have kb_1 : i4 < 60 := by (first | omega | (have zz0 := Hid.u hi_cn; omega))
        refine ldM_14 hx hb hK hP (x := ((Fn 14) i4)) (vp_in_nI kb_1 (ltb rfl)) (nI_clamp (Nat.lt_trans kb_1 (ltb rfl))) rfl (oc_46 18 (aq_18 shX12_lacking_0)) ?_
        refine lv_if_le (tgt := 26) hx hb (oc_158 19 (aq_19 shX12_lacking_0) sgw_0_7) rfl (fun c_2 => ?_) (fun c_2 => ?_)
        ·
          have tc_2 : (((Fn 14) i4).toInt : Int) ≤ 0 := Int32.le_iff_toInt_le.mp c_2
          refine lv_iconst (v := 0) hx hb (oc_3 26 shX12_lacking_26) kic_0 ?_
          refine lv_iadd hx hb (oc_96 27 (aq_1 shX12_lacking_26)) ?_
          refine lv_topi (fun y_3 ey_3 => ?_)
          obtain rfl : y_3 = (nI (n1 + 0)) := ey_3.trans (nI_add n1 0)
          refine lv_istore_n (lv' := [(1, .int (nI (n1 + 0))), (2, .int (nI i4)), (0, .ref (g 100))]) hx hb (oc_60 28 (aq_2 shX12_lacking_26)) rfl hl (ltb rfl) rfl (fun ls hl => ?_)
          refine lv_iinc (v := (nI (i4 + 1))) (lv' := [(2, .int (nI (i4 + 1))), (1, .int (nI (n1 + 0))), (0, .ref (g 100))]) hx hb (oc_132 29 (aq_3 shX12_lacking_26) ub_2 sgb_1) hl (k := 1) rfl (nI_1 _) (ltb rfl) rfl (fun ls hl => ?_)
          refine lv_goto (tgt := 4) hx hb (oc_167 32 (aq_6 shX12_lacking_26) sgw_255_228) rfl ?_
          exact ih4 (i4 + 1) (n1 + 0) (by (first | omega | (have zz0 := Hid.u hi_cn; omega))) ⟨(by (first | omega | (have zz0 := Hid.u hi_cn; omega))), (by (first | omega | (have zz0 := Hid.u hi_cn; omega)))⟩ ls (lv_sub hl [0, 1, 2] rfl)
        ·
          have tc_2 : (0 : Int) < ((Fn 14) i4).toInt := Int32.lt_iff_toInt_lt.mp (Int32.not_le.mp c_2)
          refine lv_iconst (v := 1) hx hb (oc_4 22 (aq_22 shX12_lacking_0)) kic_1 ?_
          refine lv_goto (tgt := 27) hx hb (oc_167 23 (aq_23 shX12_lacking_0) sgw_0_4) rfl ?_
          refine lv_iadd hx hb (oc_96 27 (aq_1 shX12_lacking_26)) ?_
          refine lv_topi (fun y_4 ey_4 => ?_)
          obtain rfl : y_4 = (nI (n1 + 1)) := ey_4.trans (nI_add n1 1)
          refine lv_istore_n (lv' := [(1, .int (nI (n1 + 1))), (2, .int (nI i4)), (0, .ref (g 100))]) hx hb (oc_60 28 (aq_2 shX12_lacking_26)) rfl hl (ltb rfl) rfl (fun ls hl => ?_)
          refine lv_iinc (v := (nI (i4 + 1))) (lv' := [(2, .int (nI (i4 + 1))), (1, .int (nI (n1 + 1))), (0, .ref (g 100))]) hx hb (oc_132 29 (aq_3 shX12_lacking_26) ub_2 sgb_1) hl (k := 1) rfl (nI_1 _) (ltb rfl) rfl (fun ls hl => ?_)
          refine lv_goto (tgt := 4) hx hb (oc_167 32 (aq_6 shX12_lacking_26) sgw_255_228) rfl ?_
          exact ih4 (i4 + 1) (n1 + 1) (by (first | omega | (have zz0 := Hid.u hi_cn; omega))) ⟨(by (first | omega | (have zz0 := Hid.u hi_cn; omega))), (by (first | omega | (have zz0 := Hid.u hi_cn; omega)))⟩ ls (lv_sub hl [0, 1, 2] rfl)
  exact lp_4 _ 0 0 (Nat.lt_succ_self _) ⟨(by (first | omega | (have zz0 := Hid.u hi_cn; omega))), (by (first | omega | (have zz0 := Hid.u hi_cn; omega)))⟩ ls (lv_sub hl [0, 1, 2] rfl)
set_option maxRecDepth 100000 in
set_option maxHeartbeats 4000000 in
theorem q_byLot (l : Launch) (D : va_G) (cI cB cZ : ClassId) (g : Nat → Nat) (cn : Nat → Nat) (In : Nat → Int32) (Fn : Nat → Nat → Int32) (a0 o0 b0 : Nat) (v3 : Int32) (hI : IM cn Fn) (ha : a0 ≤ cn 2) (ho : o0 ≤ cn 2) (hb0 : b0 ≤ o0) : Met l yX12_byLot (CWS yX12_byLot cX12_byLot 15 (some .long)) (RM 1 0 0) (PBr [.ref (g 100), .int (nI a0), .int (nI o0), .int (nI b0), .int v3] D cI cB cZ (wM cI cB cZ g cn In Fn)) (vp_Sl (fun _ => True)) 0 0 (fun _ => False) := by
  refine en_r rfl pn_RX12 (Nat.le_of_ble_eq_true rfl) (fun p e s m below meth c hx hb hml hown S hr hlocks hnm hP hK hS ls hl => ?_)
  have hl : lv_has ls 15 [(0, .ref (g 100)), (1, .int (nI a0)), (2, .int (nI o0)), (3, .int (nI b0)), (4, .int v3)] := hl
  have hi_cn : Hid (CB cn) := hI.b
  refine lv_iload hx hb (oc_21 0 shX12_byLot_0 ub_4) (lvA4 hl) ?_
  refine lv_iconst (v := 2) hx hb (oc_5 2 (aq_2 shX12_byLot_0)) kic_2 ?_
  refine lv_icmp_ne (tgt := 9) hx hb (oc_160 3 (aq_3 shX12_byLot_0) sgw_0_6) rfl (fun c_1 => ?_) (fun c_1 => ?_)
  ·
    have tc_1 : (v3.toInt : Int) ≠ 2 := fun q => c_1 (Int32.toInt_inj.mp q)
    refine lv_lconst (v := 0) hx hb (oc_9 9 (aq_9 shX12_byLot_0)) (by decide) ?_
    refine lv_lstore (lv' := [(5, .long 0), (0, .ref (g 100)), (1, .int (nI a0)), (2, .int (nI o0)), (3, .int (nI b0)), (4, .int v3)]) hx hb (oc_55 10 (aq_10 shX12_byLot_0) ub_5) hl (ltb rfl) rfl (fun ls hl => ?_)
    refine lv_iload_n hx hb (oc_29 12 (aq_12 shX12_byLot_0)) rfl (lvA4 hl) ?_
    refine lv_istore (lv' := [(7, .int (nI b0)), (5, .long 0), (0, .ref (g 100)), (1, .int (nI a0)), (2, .int (nI o0)), (3, .int (nI b0)), (4, .int v3)]) hx hb (oc_54 13 (aq_13 shX12_byLot_0) ub_7) hl (ltb rfl) rfl (fun ls hl => ?_)
    have lp_15 : ∀ (n : Nat) (i15 : Nat) (x15_5 : Int64) , o0 + 1 - i15 < n → (i15 ≤ o0 + 1) → ∀ ls : Array Slot, lv_has ls 15 [(7, .int (nI i15)), (5, .long x15_5), (0, .ref (g 100)), (1, .int (nI a0)), (2, .int (nI o0)), (3, .int (nI b0)), (4, .int v3)] → W p l e (RM 1 0 0) s m ([.ref (g 100), .int (nI a0), .int (nI o0), .int (nI b0), .int v3]).toArray below meth c s.heap [] 0 0 (MQ below (vp_Sl (fun _ => True)) ([.ref (g 100), .int (nI a0), .int (nI o0), .int (nI b0), .int v3]).toArray s 0 0 (fun _ => False)) (F0 m 15 ls []) := by
      intro n15
      induction n15 with
      | zero => intros; (first | omega | (have zz0 := Hid.u hi_cn; omega))
      | succ n15 ih15 =>
        intro i15 x15_5 hmu15 hinv15 ls hl
        have hr15 := hinv15
        have ti15 : (nI i15).toInt = (i15 : Int) := nI_toInt (by (first | omega | (have zz0 := Hid.u hi_cn; omega)))
        refine lv_iload hx hb (oc_21 15 (aq_15 shX12_byLot_0) ub_7) (lvA0 hl) ?_
        refine lv_iload_n hx hb (oc_28 17 (aq_17 shX12_byLot_0)) rfl (lvA4 hl) ?_
        have : (nI o0).toInt = ((o0 : Nat) : Int) := nI_toInt (by (first | omega | (have zz0 := Hid.u hi_cn; omega)))
        refine lv_icmp_gt (tgt := 52) hx hb (oc_163 18 (aq_18 shX12_byLot_0) sgw_0_34) rfl (fun c_2 => ?_) (fun c_2 => ?_)
        ·
          have tc_2 : ((nI o0).toInt : Int) < (nI i15).toInt := Int32.lt_iff_toInt_lt.mp c_2
          refine lv_aload_n hx hb (oc_42 52 (aq_3 shX12_byLot_49)) rfl (lvA2 hl) ?_
          refine gM_208 S hK hP (v := .int (nI (cn 2))) rfl (oc_180 53 (aq_4 shX12_byLot_49) uw_0_208) ?_
          refine lv_iload_n hx hb (oc_27 56 (aq_7 shX12_byLot_49)) rfl (lvA3 hl) ?_
          refine vp_callSl (runS_r (As := [.int (nI (cn 2)), .int (nI a0)]) (rest := []) S (q_choose l D cI cB cZ (cn 2) (nI a0) (by (first | omega | (have zz0 := Hid.u hi_cn; omega)))) kS_RX12_344 hK hP [] rfl ⟨Nat.le_of_ble_eq_true rfl, Nat.le_of_ble_eq_true rfl⟩ ⟨Nat.le_of_ble_eq_true rfl, Nat.le_of_ble_eq_true rfl⟩ rfl hl.1 rfl (Nat.le_of_ble_eq_true rfl) (oc_184 57 (aq_8 shX12_byLot_49) uw_1_88)) (fun r_3 h_4 => ?_)
          have hz : ¬ r_3 = 0 := by rw [h_4 a0 rfl (by (first | omega | (have zz0 := Hid.u hi_cn; omega)))]; exact lN_ne (chD_ok (by (first | omega | (have zz0 := Hid.u hi_cn; omega)))).1 (by have := (chD_ok (d := cn 2 - a0) (q := a0) (by (first | omega | (have zz0 := Hid.u hi_cn; omega)))).2; exact Nat.lt_of_le_of_lt (Nat.le_mul_of_pos_right _ (by (first | omega | (have zz0 := Hid.u hi_cn; omega)))) this)
          refine lv_lstore (lv' := [(7, .long r_3), (5, .long x15_5), (0, .ref (g 100)), (1, .int (nI a0)), (2, .int (nI o0)), (3, .int (nI b0)), (4, .int v3)]) hx hb (oc_55 60 (aq_11 shX12_byLot_49) ub_7) hl (ltb rfl) rfl (fun ls hl => ?_)
          refine lv_lload hx hb (oc_22 62 (aq_13 shX12_byLot_49) ub_5) (lvA1 hl) ?_
          refine lv_lstore (lv' := [(9, .long x15_5), (7, .long r_3), (5, .long x15_5), (0, .ref (g 100)), (1, .int (nI a0)), (2, .int (nI o0)), (3, .int (nI b0)), (4, .int v3)]) hx hb (oc_55 64 (aq_15 shX12_byLot_49) ub_9) hl (ltb rfl) rfl (fun ls hl => ?_)
          refine lv_lload hx hb (oc_22 66 (aq_17 shX12_byLot_49) ub_7) (lvA1 hl) ?_
          refine lv_lstore (lv' := [(11, .long r_3), (9, .long x15_5), (7, .long r_3), (5, .long x15_5), (0, .ref (g 100)), (1, .int (nI a0)), (2, .int (nI o0)), (3, .int (nI b0)), (4, .int v3)]) hx hb (oc_55 68 (aq_19 shX12_byLot_49) ub_11) hl (ltb rfl) rfl (fun ls hl => ?_)
          have lp_70 : ∀ (n : Nat) (x70_9 : Int64) (x70_11 : Int64) , x70_11.toInt.natAbs < n → ((¬ x70_9 = 0 ∨ ¬ x70_11 = 0)) → ∀ ls : Array Slot, lv_has ls 15 [(11, .long x70_11), (9, .long x70_9), (7, .long r_3), (5, .long x15_5), (0, .ref (g 100)), (1, .int (nI a0)), (2, .int (nI o0)), (3, .int (nI b0)), (4, .int v3)] → W p l e (RM 1 0 0) s m ([.ref (g 100), .int (nI a0), .int (nI o0), .int (nI b0), .int v3]).toArray below meth c s.heap [] 0 0 (MQ below (vp_Sl (fun _ => True)) ([.ref (g 100), .int (nI a0), .int (nI o0), .int (nI b0), .int v3]).toArray s 0 0 (fun _ => False)) (F0 m 70 ls []) := by
            intro n70
            induction n70 with
            | zero => intros; (first | omega | (have zz0 := Hid.u hi_cn; omega))
            | succ n70 ih70 =>
              intro x70_9 x70_11 hmu70 hinv70 ls hl
              have hx70_0 := hinv70
              refine lv_lload hx hb (oc_22 70 (aq_21 shX12_byLot_49) ub_11) (lvA0 hl) ?_
              refine lv_lconst (v := 0) hx hb (oc_9 72 (aq_23 shX12_byLot_49)) (by decide) ?_
              refine W.lcmp hx hb (oc_148 73 shX12_byLot_73) ?_
              refine lv_topi (fun y_5 ey_5 => ?_)
              have zy_5 : y_5 = 0 ↔ x70_11 = 0 := lcmp0 ey_5
              refine lv_if_eq (tgt := 95) hx hb (oc_153 74 (aq_1 shX12_byLot_73) sgw_0_21) rfl (fun c_6 => ?_) (fun c_6 => ?_)
              ·
                have tc_6 : (y_5.toInt : Int) = 0 := congrArg Int32.toInt c_6
                have hxx : ¬ x70_9 = 0 := hx70_0.resolve_right (fun q => q (Iff.mp (by assumption) (by assumption)))
                refine lv_iload hx hb (oc_21 95 (aq_22 shX12_byLot_73) ub_4) (lvA8 hl) ?_
                refine lv_if_ne (tgt := 108) hx hb (oc_154 97 shX12_byLot_97 sgw_0_11) rfl (fun c_7 => ?_) (fun c_7 => ?_)
                ·
                  have tc_7 : (v3.toInt : Int) ≠ 0 := fun q => c_7 (Int32.toInt_inj.mp q)
                  refine lv_lload hx hb (oc_22 108 (aq_11 shX12_byLot_97) ub_7) (lvA2 hl) ?_
                  refine lv_lload hx hb (oc_22 110 (aq_13 shX12_byLot_97) ub_9) (lvA1 hl) ?_
                  refine lv_ldiv hx hb (oc_109 112 (aq_15 shX12_byLot_97)) hxx ?_
                  exact W.lret (v := (r_3 / x70_9)) hx hb hr (fun t ht hW => ⟨(r_3 / x70_9), rfl, trivial, ht⟩) (fun _ h => absurd h List.not_mem_nil) (oc_173 113 (aq_16 shX12_byLot_97))
                ·
                  have tc_7 : (v3.toInt : Int) = 0 := congrArg Int32.toInt c_7
                  refine lv_lload hx hb (oc_22 100 (aq_3 shX12_byLot_97) ub_5) (lvA3 hl) ?_
                  refine lv_lload hx hb (oc_22 102 (aq_5 shX12_byLot_97) ub_9) (lvA1 hl) ?_
                  refine lv_ldiv hx hb (oc_109 104 (aq_7 shX12_byLot_97)) hxx ?_
                  refine lv_goto (tgt := 113) hx hb (oc_167 105 (aq_8 shX12_byLot_97) sgw_0_8) rfl ?_
                  exact W.lret (v := (x15_5 / x70_9)) hx hb hr (fun t ht hW => ⟨(x15_5 / x70_9), rfl, trivial, ht⟩) (fun _ h => absurd h List.not_mem_nil) (oc_173 113 (aq_16 shX12_byLot_97))
              ·
                have tc_6 : (y_5.toInt : Int) ≠ 0 := fun q => c_6 (Int32.toInt_inj.mp q)
                refine lv_lload hx hb (oc_22 77 (aq_4 shX12_byLot_73) ub_9) (lvA1 hl) ?_
                refine lv_lload hx hb (oc_22 79 (aq_6 shX12_byLot_73) ub_11) (lvA0 hl) ?_
                refine lv_lrem hx hb (oc_113 81 (aq_8 shX12_byLot_73)) (fun q => absurd (Iff.mpr (by assumption) q) (by assumption)) ?_
                have hlt := lrem_lt (x := x70_9) (y := x70_11) (fun q => absurd (Iff.mpr (by assumption) q) (by assumption))
                refine lv_lstore (lv' := [(13, .long (x70_9 - x70_9 / x70_11 * x70_11)), (11, .long x70_11), (9, .long x70_9), (7, .long r_3), (5, .long x15_5), (0, .ref (g 100)), (1, .int (nI a0)), (2, .int (nI o0)), (3, .int (nI b0)), (4, .int v3)]) hx hb (oc_55 82 (aq_9 shX12_byLot_73) ub_13) hl (ltb rfl) rfl (fun ls hl => ?_)
                refine lv_lload hx hb (oc_22 84 (aq_11 shX12_byLot_73) ub_11) (lvA1 hl) ?_
                refine lv_lstore (lv' := [(9, .long x70_11), (13, .long (x70_9 - x70_9 / x70_11 * x70_11)), (11, .long x70_11), (7, .long r_3), (5, .long x15_5), (0, .ref (g 100)), (1, .int (nI a0)), (2, .int (nI o0)), (3, .int (nI b0)), (4, .int v3)]) hx hb (oc_55 86 (aq_13 shX12_byLot_73) ub_9) hl (ltb rfl) rfl (fun ls hl => ?_)
                refine lv_lload hx hb (oc_22 88 (aq_15 shX12_byLot_73) ub_13) (lvA1 hl) ?_
                refine lv_lstore (lv' := [(11, .long (x70_9 - x70_9 / x70_11 * x70_11)), (9, .long x70_11), (13, .long (x70_9 - x70_9 / x70_11 * x70_11)), (7, .long r_3), (5, .long x15_5), (0, .ref (g 100)), (1, .int (nI a0)), (2, .int (nI o0)), (3, .int (nI b0)), (4, .int v3)]) hx hb (oc_55 90 (aq_17 shX12_byLot_73) ub_11) hl (ltb rfl) rfl (fun ls hl => ?_)
                refine lv_goto (tgt := 70) hx hb (oc_167 92 (aq_19 shX12_byLot_73) sgw_255_234) rfl ?_
                exact ih70 x70_11 (x70_9 - x70_9 / x70_11 * x70_11) (by (first | omega | (have zz0 := Hid.u hi_cn; omega))) (Or.inl (fun q => absurd (Iff.mpr (by assumption) q) (by assumption))) ls (lv_sub hl [0, 1, 3, 4, 5, 6, 7, 8, 9] rfl)
          exact lp_70 _ x15_5 r_3 (Nat.lt_succ_self _) (Or.inr hz) ls (lv_sub hl [0, 1, 2, 3, 4, 5, 6, 7, 8] rfl)
        ·
          have tc_2 : ((nI i15).toInt : Int) ≤ (nI o0).toInt := Int32.le_iff_toInt_le.mp (Int32.not_lt.mp c_2)
          refine lv_lload hx hb (oc_22 21 (aq_21 shX12_byLot_0) ub_5) (lvA1 hl) ?_
          refine lv_iload_n hx hb (oc_28 23 (aq_23 shX12_byLot_0)) rfl (lvA4 hl) ?_
          refine lv_iload hx hb (oc_21 24 shX12_byLot_24 ub_7) (lvA0 hl) ?_
          refine vp_callSl (runS_r (As := [.int (nI o0), .int (nI i15)]) (rest := [.long x15_5]) S (q_choose l D cI cB cZ o0 (nI i15) (by (first | omega | (have zz0 := Hid.u hi_cn; omega)))) kS_RX12_344 hK hP [] rfl ⟨Nat.le_of_ble_eq_true rfl, Nat.le_of_ble_eq_true rfl⟩ ⟨Nat.le_of_ble_eq_true rfl, Nat.le_of_ble_eq_true rfl⟩ rfl hl.1 rfl (Nat.le_of_ble_eq_true rfl) (oc_184 26 (aq_2 shX12_byLot_24) uw_1_88)) (fun r_8 h_9 => ?_)
          refine lv_aload_n hx hb (oc_42 29 (aq_5 shX12_byLot_24)) rfl (lvA2 hl) ?_
          refine gM_208 S hK hP (v := .int (nI (cn 2))) rfl (oc_180 30 (aq_6 shX12_byLot_24) uw_0_208) ?_
          refine lv_iload_n hx hb (oc_28 33 (aq_9 shX12_byLot_24)) rfl (lvA4 hl) ?_
          refine lv_isub hx hb (oc_100 34 (aq_10 shX12_byLot_24)) ?_
          refine lv_topi (fun y_10 ey_10 => ?_)
          obtain rfl : y_10 = (nI (cn 2 - o0)) := ey_10.trans (nI_sub (by (first | omega | (have zz0 := Hid.u hi_cn; omega))))
          refine lv_iload_n hx hb (oc_27 35 (aq_11 shX12_byLot_24)) rfl (lvA3 hl) ?_
          refine lv_iload hx hb (oc_21 36 (aq_12 shX12_byLot_24) ub_7) (lvA0 hl) ?_
          refine lv_isub hx hb (oc_100 38 (aq_14 shX12_byLot_24)) ?_
          refine vp_callSl (runS_r (As := [.int (nI (cn 2 - o0)), .int ((nI a0) - (nI i15))]) (rest := [.long r_8, .long x15_5]) S (q_choose l D cI cB cZ (cn 2 - o0) ((nI a0) - (nI i15)) (by (first | omega | (have zz0 := Hid.u hi_cn; omega)))) kS_RX12_344 hK hP [] rfl ⟨Nat.le_of_ble_eq_true rfl, Nat.le_of_ble_eq_true rfl⟩ ⟨Nat.le_of_ble_eq_true rfl, Nat.le_of_ble_eq_true rfl⟩ rfl hl.1 rfl (Nat.le_of_ble_eq_true rfl) (oc_184 39 (aq_15 shX12_byLot_24) uw_1_88)) (fun r_11 h_12 => ?_)
          refine lv_lmul hx hb (oc_105 42 (aq_18 shX12_byLot_24)) ?_
          refine lv_ladd hx hb (oc_97 43 (aq_19 shX12_byLot_24)) ?_
          refine lv_lstore (lv' := [(5, .long (x15_5 + (r_8 * r_11))), (7, .int (nI i15)), (0, .ref (g 100)), (1, .int (nI a0)), (2, .int (nI o0)), (3, .int (nI b0)), (4, .int v3)]) hx hb (oc_55 44 (aq_20 shX12_byLot_24) ub_5) hl (ltb rfl) rfl (fun ls hl => ?_)
          refine lv_iinc (v := (nI (i15 + 1))) (lv' := [(7, .int (nI (i15 + 1))), (5, .long (x15_5 + (r_8 * r_11))), (0, .ref (g 100)), (1, .int (nI a0)), (2, .int (nI o0)), (3, .int (nI b0)), (4, .int v3)]) hx hb (oc_132 46 (aq_22 shX12_byLot_24) ub_7 sgb_1) hl (k := 1) rfl (nI_1 _) (ltb rfl) rfl (fun ls hl => ?_)
          refine lv_goto (tgt := 15) hx hb (oc_167 49 shX12_byLot_49 sgw_255_222) rfl ?_
          exact ih15 (i15 + 1) (x15_5 + (r_8 * r_11)) (by (first | omega | (have zz0 := Hid.u hi_cn; omega))) (by (first | omega | (have zz0 := Hid.u hi_cn; omega))) ls (lv_sub hl [0, 1, 2, 3, 4, 5, 6] rfl)
    exact lp_15 _ b0 0 (Nat.lt_succ_self _) (by (first | omega | (have zz0 := Hid.u hi_cn; omega))) ls (lv_sub hl [0, 1, 2, 3, 4, 5, 6] rfl)
  ·
    have tc_1 : (v3.toInt : Int) = 2 := congrArg Int32.toInt c_1
    refine lv_iload_n hx hb (oc_29 6 (aq_6 shX12_byLot_0)) rfl (lvA3 hl) ?_
    refine lv_i2l (v := (lN b0)) hx hb (oc_133 7 (aq_7 shX12_byLot_0)) (nI_l (by (first | omega | (have zz0 := Hid.u hi_cn; omega)))) ?_
    exact W.lret (v := (lN b0)) hx hb hr (fun t ht hW => ⟨(lN b0), rfl, trivial, ht⟩) (fun _ h => absurd h List.not_mem_nil) (oc_173 8 (aq_8 shX12_byLot_0))
set_option maxRecDepth 100000 in
set_option maxHeartbeats 4000000 in
theorem q_beyond (l : Launch) (D : va_G) (cI cB cZ : ClassId) (g : Nat → Nat) (cn : Nat → Nat) (In : Nat → Int32) (Fn : Nat → Nat → Int32) (v0 v1 : Int32) (hI : IM cn Fn) : Met l yX12_beyond (CWS yX12_beyond cX12_beyond 6 (some .long)) (RM 2 0 0) (PBr [.ref (g 100), .int v0, .int v1] D cI cB cZ (wM cI cB cZ g cn In Fn)) (vp_Sl (fun _ => True)) 0 0 (fun _ => False) := by
  refine en_r rfl pn_RX12 (Nat.le_of_ble_eq_true rfl) (fun p e s m below meth c hx hb hml hown S hr hlocks hnm hP hK hS ls hl => ?_)
  have hl : lv_has ls 6 [(0, .ref (g 100)), (1, .int v0), (2, .int v1)] := hl
  have hi_cn : Hid (CB cn) := hI.b
  refine lv_iload_n hx hb (oc_27 0 shX12_beyond_0) rfl (lvA1 hl) ?_
  refine lv_iconst (v := 0) hx hb (oc_3 1 (aq_1 shX12_beyond_0)) kic_0 ?_
  refine lv_bipush (v := 6) hx hb (oc_16 2 (aq_2 shX12_beyond_0) sgb_6) kbc_6 ?_
  refine vp_callSi (runS_r (As := [.int v0, .int 0, .int 6]) (rest := []) S (q_in l D cI cB cZ v0 0 6 ) kS_RX12_214 hK hP [] rfl ⟨Nat.le_of_ble_eq_true rfl, Nat.le_of_ble_eq_true rfl⟩ ⟨Nat.le_of_ble_eq_true rfl, Nat.le_of_ble_eq_true rfl⟩ rfl hl.1 rfl (Nat.le_of_ble_eq_true rfl) (oc_184 4 (aq_4 shX12_beyond_0) uw_0_214)) (fun r_1 h_2 => ?_)
  rcases h_2 with ⟨rfl, h_2⟩ | ⟨rfl, h_2⟩
  ·
    have h_2 : 0 ≤ v0.toInt ∧ v0.toInt ≤ 6 := h_2
    refine lv_if_eq (tgt := 19) hx hb (oc_153 7 (aq_7 shX12_beyond_0) sgw_0_12) rfl (fun h => absurd h cq_eq_1_0) (fun _ => ?_)
    refine lv_iload_n hx hb (oc_28 10 (aq_10 shX12_beyond_0)) rfl (lvA2 hl) ?_
    refine lv_iconst (v := 0) hx hb (oc_3 11 (aq_11 shX12_beyond_0)) kic_0 ?_
    refine lv_iconst (v := 2) hx hb (oc_5 12 (aq_12 shX12_beyond_0)) kic_2 ?_
    refine vp_callSi (runS_r (As := [.int v1, .int 0, .int 2]) (rest := []) S (q_in l D cI cB cZ v1 0 2 ) kS_RX12_214 hK hP [] rfl ⟨Nat.le_of_ble_eq_true rfl, Nat.le_of_ble_eq_true rfl⟩ ⟨Nat.le_of_ble_eq_true rfl, Nat.le_of_ble_eq_true rfl⟩ rfl hl.1 rfl (Nat.le_of_ble_eq_true rfl) (oc_184 13 (aq_13 shX12_beyond_0) uw_0_214)) (fun r_3 h_4 => ?_)
    rcases h_4 with ⟨rfl, h_4⟩ | ⟨rfl, h_4⟩
    ·
      have h_4 : 0 ≤ v1.toInt ∧ v1.toInt ≤ 2 := h_4
      refine lv_if_ne (tgt := 23) hx hb (oc_154 16 (aq_16 shX12_beyond_0) sgw_0_7) rfl (fun _ => ?_) (fun h => absurd h cq_eq_1_0)
      refine lv_iconst (v := 0) hx hb (oc_3 23 (aq_23 shX12_beyond_0)) kic_0 ?_
      refine lv_istore_n (lv' := [(3, .int 0), (0, .ref (g 100)), (1, .int v0), (2, .int v1)]) hx hb (oc_62 24 shX12_beyond_24) rfl hl (ltb rfl) rfl (fun ls hl => ?_)
      refine lv_iconst (v := 0) hx hb (oc_3 25 (aq_1 shX12_beyond_24)) kic_0 ?_
      refine lv_istore (lv' := [(4, .int 0), (3, .int 0), (0, .ref (g 100)), (1, .int v0), (2, .int v1)]) hx hb (oc_54 26 (aq_2 shX12_beyond_24) ub_4) hl (ltb rfl) rfl (fun ls hl => ?_)
      refine lv_iconst (v := 0) hx hb (oc_3 28 (aq_4 shX12_beyond_24)) kic_0 ?_
      refine lv_istore (lv' := [(5, .int 0), (4, .int 0), (3, .int 0), (0, .ref (g 100)), (1, .int v0), (2, .int v1)]) hx hb (oc_54 29 (aq_5 shX12_beyond_24) ub_5) hl (ltb rfl) rfl (fun ls hl => ?_)
      have lp_31 : ∀ (n : Nat) (i31 : Nat) (n3 : Nat) (n4 : Nat) , cn 2 - i31 < n → (i31 ≤ cn 2 ∧ (n3 ≤ i31 ∧ n4 ≤ n3)) → ∀ ls : Array Slot, lv_has ls 6 [(5, .int (nI i31)), (4, .int (nI n4)), (3, .int (nI n3)), (0, .ref (g 100)), (1, .int v0), (2, .int v1)] → W p l e (RM 2 0 0) s m ([.ref (g 100), .int v0, .int v1]).toArray below meth c s.heap [] 0 0 (MQ below (vp_Sl (fun _ => True)) ([.ref (g 100), .int v0, .int v1]).toArray s 0 0 (fun _ => False)) (F0 m 31 ls []) := by
        intro n31
        induction n31 with
        | zero => intros; (first | omega | (have zz0 := Hid.u hi_cn; omega))
        | succ n31 ih31 =>
          intro i31 n3 n4 hmu31 hinv31 ls hl
          obtain ⟨hr31, hx31_0⟩ := hinv31
          have ti31 : (nI i31).toInt = (i31 : Int) := nI_toInt (by (first | omega | (have zz0 := Hid.u hi_cn; omega)))
          refine lv_iload hx hb (oc_21 31 (aq_7 shX12_beyond_24) ub_5) (lvA0 hl) ?_
          refine lv_aload_n hx hb (oc_42 33 (aq_9 shX12_beyond_24)) rfl (lvA3 hl) ?_
          refine gM_208 S hK hP (v := .int (nI (cn 2))) rfl (oc_180 34 (aq_10 shX12_beyond_24) uw_0_208) ?_
          have : (nI (cn 2)).toInt = (((cn 2) : Nat) : Int) := nI_toInt (by (first | omega | (have zz0 := Hid.u hi_cn; omega)))
          refine lv_icmp_ge (tgt := 87) hx hb (oc_162 37 (aq_13 shX12_beyond_24) sgw_0_50) rfl (fun c_5 => ?_) (fun c_5 => ?_)
          ·
            have tc_5 : ((nI (cn 2)).toInt : Int) ≤ (nI i31).toInt := Int32.le_iff_toInt_le.mp c_5
            refine lv_aload_n hx hb (oc_42 87 (aq_14 shX12_beyond_73)) rfl (lvA3 hl) ?_
            refine lv_aload_n hx hb (oc_42 88 (aq_15 shX12_beyond_73)) rfl (lvA3 hl) ?_
            refine vp_callSi (runV_ra (As := []) (rest := [.ref (g 100)]) S (q_lacking l D cI cB cZ g cn In Fn  hI) kV_RX12_350 hK hP 0 rfl rfl rfl ⟨Nat.le_of_ble_eq_true rfl, Nat.le_of_ble_eq_true rfl⟩ ⟨Nat.le_of_ble_eq_true rfl, Nat.le_of_ble_eq_true rfl⟩ rfl hl.1 rfl (Nat.le_of_ble_eq_true rfl) (oc_182 89 (aq_16 shX12_beyond_73) uw_1_94)) (fun r_6 h_7 => ?_)
            obtain ⟨mr_6, hr_6, rfl⟩ := h_7
            refine lv_iload_n hx hb (oc_29 92 (aq_19 shX12_beyond_73)) rfl (lvA2 hl) ?_
            refine lv_iload hx hb (oc_21 93 (aq_20 shX12_beyond_73) ub_4) (lvA1 hl) ?_
            refine lv_iload_n hx hb (oc_28 95 (aq_22 shX12_beyond_73)) rfl (lvA5 hl) ?_
            refine vp_callSl (runV_ra (As := [.int (nI mr_6), .int (nI n3), .int (nI n4), .int v1]) (rest := []) S (q_byLot l D cI cB cZ g cn In Fn mr_6 n3 n4 v1 hI (by (first | omega | (have zz0 := Hid.u hi_cn; omega))) (by (first | omega | (have zz0 := Hid.u hi_cn; omega))) (by (first | omega | (have zz0 := Hid.u hi_cn; omega)))) kV_RX12_353 hK hP 0 rfl rfl rfl ⟨Nat.le_of_ble_eq_true rfl, Nat.le_of_ble_eq_true rfl⟩ ⟨Nat.le_of_ble_eq_true rfl, Nat.le_of_ble_eq_true rfl⟩ rfl hl.1 rfl (Nat.le_of_ble_eq_true rfl) (oc_182 96 (aq_23 shX12_beyond_73) uw_1_97)) (fun r_8 h_9 => ?_)
            exact W.lret (v := r_8) hx hb hr (fun t ht hW => ⟨r_8, rfl, trivial, ht⟩) (fun _ h => absurd h List.not_mem_nil) (oc_173 99 shX12_beyond_99)
          ·
            have tc_5 : ((nI i31).toInt : Int) < (nI (cn 2)).toInt := Int32.lt_iff_toInt_lt.mp (Int32.not_le.mp c_5)
            refine lv_aload_n hx hb (oc_42 40 (aq_16 shX12_beyond_24)) rfl (lvA3 hl) ?_
            refine gM_28 S hK hP (v := .ref (g 9)) rfl (oc_180 41 (aq_17 shX12_beyond_24) uw_0_28) ?_
            refine lv_iload hx hb (oc_21 44 (aq_20 shX12_beyond_24) ub_5) (lvA0 hl) ?_
            have kb_1 : i31 < 60 := by (first | omega | (have zz0 := Hid.u hi_cn; omega))
            obtain ⟨a_10, ha_10, ea_10⟩ := hI.e9 i31 (by (first | omega | (have zz0 := Hid.u hi_cn; omega)))
            refine ldM_9 hx hb hK hP (x := (nI a_10)) (vp_in_nI kb_1 (ltb rfl)) (nI_clamp (Nat.lt_trans kb_1 (ltb rfl))) ea_10 (oc_46 46 (aq_22 shX12_beyond_24)) ?_
            refine lv_bipush (v := 7) hx hb (oc_16 47 (aq_23 shX12_beyond_24) sgb_7) kbc_7 ?_
            refine lv_irem hx hb (oc_112 49 shX12_beyond_49) (by decide) ?_
            refine lv_topi (fun y_11 ey_11 => ?_)
            obtain rfl : y_11 = (nI (a_10 % 7)) := ey_11.trans (nI_rem (by (first | omega | (have zz0 := Hid.u hi_cn; omega))) (by decide))
            refine lv_iload_n hx hb (oc_27 50 (aq_1 shX12_beyond_49)) rfl (lvA4 hl) ?_
            have : (nI (a_10 % 7)).toInt = (((a_10 % 7) : Nat) : Int) := nI_toInt (by (first | omega | (have zz0 := Hid.u hi_cn; omega)))
            refine lv_icmp_eq (tgt := 57) hx hb (oc_159 51 (aq_2 shX12_beyond_49) sgw_0_6) rfl (fun c_12 => ?_) (fun c_12 => ?_)
            ·
              have tc_12 : ((nI (a_10 % 7)).toInt : Int) = v0.toInt := congrArg Int32.toInt c_12
              refine lv_iload_n hx hb (oc_29 57 (aq_8 shX12_beyond_49)) rfl (lvA2 hl) ?_
              refine lv_iconst (v := 1) hx hb (oc_4 58 (aq_9 shX12_beyond_49)) kic_1 ?_
              refine lv_iadd hx hb (oc_96 59 (aq_10 shX12_beyond_49)) ?_
              refine lv_topi (fun y_13 ey_13 => ?_)
              obtain rfl : y_13 = (nI (n3 + 1)) := ey_13.trans (nI_add n3 1)
              refine lv_istore_n (lv' := [(3, .int (nI (n3 + 1))), (5, .int (nI i31)), (4, .int (nI n4)), (0, .ref (g 100)), (1, .int v0), (2, .int v1)]) hx hb (oc_62 60 (aq_11 shX12_beyond_49)) rfl hl (ltb rfl) rfl (fun ls hl => ?_)
              refine lv_iload hx hb (oc_21 61 (aq_12 shX12_beyond_49) ub_4) (lvA2 hl) ?_
              refine lv_aload_n hx hb (oc_42 63 (aq_14 shX12_beyond_49)) rfl (lvA3 hl) ?_
              refine gM_43 S hK hP (v := .ref (g 14)) rfl (oc_180 64 (aq_15 shX12_beyond_49) uw_0_43) ?_
              refine lv_iload hx hb (oc_21 67 (aq_18 shX12_beyond_49) ub_5) (lvA1 hl) ?_
              refine ldM_14 hx hb hK hP (x := ((Fn 14) i31)) (vp_in_nI kb_1 (ltb rfl)) (nI_clamp (Nat.lt_trans kb_1 (ltb rfl))) rfl (oc_46 69 (aq_20 shX12_beyond_49)) ?_
              refine lv_if_le (tgt := 77) hx hb (oc_158 70 (aq_21 shX12_beyond_49) sgw_0_7) rfl (fun c_14 => ?_) (fun c_14 => ?_)
              ·
                have tc_14 : (((Fn 14) i31).toInt : Int) ≤ 0 := Int32.le_iff_toInt_le.mp c_14
                refine lv_iconst (v := 0) hx hb (oc_3 77 (aq_4 shX12_beyond_73)) kic_0 ?_
                refine lv_iadd hx hb (oc_96 78 (aq_5 shX12_beyond_73)) ?_
                refine lv_topi (fun y_15 ey_15 => ?_)
                obtain rfl : y_15 = (nI (n4 + 0)) := ey_15.trans (nI_add n4 0)
                refine lv_istore (lv' := [(4, .int (nI (n4 + 0))), (3, .int (nI (n3 + 1))), (5, .int (nI i31)), (0, .ref (g 100)), (1, .int v0), (2, .int v1)]) hx hb (oc_54 79 (aq_6 shX12_beyond_73) ub_4) hl (ltb rfl) rfl (fun ls hl => ?_)
                refine lv_iinc (v := (nI (i31 + 1))) (lv' := [(5, .int (nI (i31 + 1))), (4, .int (nI (n4 + 0))), (3, .int (nI (n3 + 1))), (0, .ref (g 100)), (1, .int v0), (2, .int v1)]) hx hb (oc_132 81 (aq_8 shX12_beyond_73) ub_5 sgb_1) hl (k := 2) rfl (nI_1 _) (ltb rfl) rfl (fun ls hl => ?_)
                refine lv_goto (tgt := 31) hx hb (oc_167 84 (aq_11 shX12_beyond_73) sgw_255_203) rfl ?_
                exact ih31 (i31 + 1) (n3 + 1) (n4 + 0) (by (first | omega | (have zz0 := Hid.u hi_cn; omega))) ⟨(by (first | omega | (have zz0 := Hid.u hi_cn; omega))), ⟨by (first | omega | (have zz0 := Hid.u hi_cn; omega)), by (first | omega | (have zz0 := Hid.u hi_cn; omega))⟩⟩ ls (lv_sub hl [0, 1, 2, 3, 4, 5] rfl)
              ·
                have tc_14 : (0 : Int) < ((Fn 14) i31).toInt := Int32.lt_iff_toInt_lt.mp (Int32.not_le.mp c_14)
                refine lv_iconst (v := 1) hx hb (oc_4 73 shX12_beyond_73) kic_1 ?_
                refine lv_goto (tgt := 78) hx hb (oc_167 74 (aq_1 shX12_beyond_73) sgw_0_4) rfl ?_
                refine lv_iadd hx hb (oc_96 78 (aq_5 shX12_beyond_73)) ?_
                refine lv_topi (fun y_16 ey_16 => ?_)
                obtain rfl : y_16 = (nI (n4 + 1)) := ey_16.trans (nI_add n4 1)
                refine lv_istore (lv' := [(4, .int (nI (n4 + 1))), (3, .int (nI (n3 + 1))), (5, .int (nI i31)), (0, .ref (g 100)), (1, .int v0), (2, .int v1)]) hx hb (oc_54 79 (aq_6 shX12_beyond_73) ub_4) hl (ltb rfl) rfl (fun ls hl => ?_)
                refine lv_iinc (v := (nI (i31 + 1))) (lv' := [(5, .int (nI (i31 + 1))), (4, .int (nI (n4 + 1))), (3, .int (nI (n3 + 1))), (0, .ref (g 100)), (1, .int v0), (2, .int v1)]) hx hb (oc_132 81 (aq_8 shX12_beyond_73) ub_5 sgb_1) hl (k := 2) rfl (nI_1 _) (ltb rfl) rfl (fun ls hl => ?_)
                refine lv_goto (tgt := 31) hx hb (oc_167 84 (aq_11 shX12_beyond_73) sgw_255_203) rfl ?_
                exact ih31 (i31 + 1) (n3 + 1) (n4 + 1) (by (first | omega | (have zz0 := Hid.u hi_cn; omega))) ⟨(by (first | omega | (have zz0 := Hid.u hi_cn; omega))), ⟨by (first | omega | (have zz0 := Hid.u hi_cn; omega)), by (first | omega | (have zz0 := Hid.u hi_cn; omega))⟩⟩ ls (lv_sub hl [0, 1, 2, 3, 4, 5] rfl)
            ·
              have tc_12 : ((nI (a_10 % 7)).toInt : Int) ≠ v0.toInt := fun q => c_12 (Int32.toInt_inj.mp q)
              refine lv_goto (tgt := 81) hx hb (oc_167 54 (aq_5 shX12_beyond_49) sgw_0_27) rfl ?_
              refine lv_iinc (v := (nI (i31 + 1))) (lv' := [(5, .int (nI (i31 + 1))), (4, .int (nI n4)), (3, .int (nI n3)), (0, .ref (g 100)), (1, .int v0), (2, .int v1)]) hx hb (oc_132 81 (aq_8 shX12_beyond_73) ub_5 sgb_1) hl (k := 0) rfl (nI_1 _) (ltb rfl) rfl (fun ls hl => ?_)
              refine lv_goto (tgt := 31) hx hb (oc_167 84 (aq_11 shX12_beyond_73) sgw_255_203) rfl ?_
              exact ih31 (i31 + 1) n3 n4 (by (first | omega | (have zz0 := Hid.u hi_cn; omega))) ⟨(by (first | omega | (have zz0 := Hid.u hi_cn; omega))), ⟨by (first | omega | (have zz0 := Hid.u hi_cn; omega)), by (first | omega | (have zz0 := Hid.u hi_cn; omega))⟩⟩ ls (lv_sub hl [0, 1, 2, 3, 4, 5] rfl)
      exact lp_31 _ 0 0 0 (Nat.lt_succ_self _) ⟨(by (first | omega | (have zz0 := Hid.u hi_cn; omega))), ⟨by (first | omega | (have zz0 := Hid.u hi_cn; omega)), by (first | omega | (have zz0 := Hid.u hi_cn; omega))⟩⟩ ls (lv_sub hl [0, 1, 2, 3, 4, 5] rfl)
    ·
      have h_4 : ¬ (0 ≤ v1.toInt ∧ v1.toInt ≤ 2) := h_4
      refine lv_if_ne (tgt := 23) hx hb (oc_154 16 (aq_16 shX12_beyond_0) sgw_0_7) rfl (fun h => absurd h cq_eq_0_0) (fun _ => ?_)
      refine lv_ldc2 (v := (-1)) hx hb hown (S.2.2.2.2 _ (wk8_6 5 rfl rfl)) (oc_20 19 (aq_19 shX12_beyond_0) uw_1_92) ?_
      exact W.lret (v := (-1)) hx hb hr (fun t ht hW => ⟨(-1), rfl, trivial, ht⟩) (fun _ h => absurd h List.not_mem_nil) (oc_173 22 (aq_22 shX12_beyond_0))
  ·
    have h_2 : ¬ (0 ≤ v0.toInt ∧ v0.toInt ≤ 6) := h_2
    refine lv_if_eq (tgt := 19) hx hb (oc_153 7 (aq_7 shX12_beyond_0) sgw_0_12) rfl (fun _ => ?_) (fun h => absurd h cq_eq_0_0)
    refine lv_ldc2 (v := (-1)) hx hb hown (S.2.2.2.2 _ (wk8_6 5 rfl rfl)) (oc_20 19 (aq_19 shX12_beyond_0) uw_1_92) ?_
    exact W.lret (v := (-1)) hx hb hr (fun t ht hW => ⟨(-1), rfl, trivial, ht⟩) (fun _ h => absurd h List.not_mem_nil) (oc_173 22 (aq_22 shX12_beyond_0))
set_option maxRecDepth 100000 in
set_option maxHeartbeats 4000000 in
theorem q_streets (l : Launch) (D : va_G) (cI cB cZ : ClassId) (g : Nat → Nat) (cn : Nat → Nat) (In : Nat → Int32) (Fn : Nat → Nat → Int32) (v0 v1 : Int32) (hI : IM cn Fn) : Met l yX12_streets (CWS yX12_streets cX12_streets 6 (some .long)) (RM 2 0 0) (PBr [.ref (g 100), .int v0, .int v1] D cI cB cZ (wM cI cB cZ g cn In Fn)) (vp_Sl (fun _ => True)) 0 0 (fun _ => False) := by
  refine en_r rfl pn_RX12 (Nat.le_of_ble_eq_true rfl) (fun p e s m below meth c hx hb hml hown S hr hlocks hnm hP hK hS ls hl => ?_)
  have hl : lv_has ls 6 [(0, .ref (g 100)), (1, .int v0), (2, .int v1)] := hl
  have hi_cn : Hid (CB cn) := hI.b
  refine lv_iload_n hx hb (oc_27 0 shX12_streets_0) rfl (lvA1 hl) ?_
  refine lv_iconst (v := 0) hx hb (oc_3 1 (aq_1 shX12_streets_0)) kic_0 ?_
  refine lv_bipush (v := 9) hx hb (oc_16 2 (aq_2 shX12_streets_0) sgb_9) kbc_9 ?_
  refine vp_callSi (runS_r (As := [.int v0, .int 0, .int 9]) (rest := []) S (q_in l D cI cB cZ v0 0 9 ) kS_RX12_214 hK hP [] rfl ⟨Nat.le_of_ble_eq_true rfl, Nat.le_of_ble_eq_true rfl⟩ ⟨Nat.le_of_ble_eq_true rfl, Nat.le_of_ble_eq_true rfl⟩ rfl hl.1 rfl (Nat.le_of_ble_eq_true rfl) (oc_184 4 (aq_4 shX12_streets_0) uw_0_214)) (fun r_1 h_2 => ?_)
  rcases h_2 with ⟨rfl, h_2⟩ | ⟨rfl, h_2⟩
  ·
    have h_2 : 0 ≤ v0.toInt ∧ v0.toInt ≤ 9 := h_2
    refine lv_if_eq (tgt := 19) hx hb (oc_153 7 (aq_7 shX12_streets_0) sgw_0_12) rfl (fun h => absurd h cq_eq_1_0) (fun _ => ?_)
    refine lv_iload_n hx hb (oc_28 10 (aq_10 shX12_streets_0)) rfl (lvA2 hl) ?_
    refine lv_iconst (v := 0) hx hb (oc_3 11 (aq_11 shX12_streets_0)) kic_0 ?_
    refine lv_iconst (v := 2) hx hb (oc_5 12 (aq_12 shX12_streets_0)) kic_2 ?_
    refine vp_callSi (runS_r (As := [.int v1, .int 0, .int 2]) (rest := []) S (q_in l D cI cB cZ v1 0 2 ) kS_RX12_214 hK hP [] rfl ⟨Nat.le_of_ble_eq_true rfl, Nat.le_of_ble_eq_true rfl⟩ ⟨Nat.le_of_ble_eq_true rfl, Nat.le_of_ble_eq_true rfl⟩ rfl hl.1 rfl (Nat.le_of_ble_eq_true rfl) (oc_184 13 (aq_13 shX12_streets_0) uw_0_214)) (fun r_3 h_4 => ?_)
    rcases h_4 with ⟨rfl, h_4⟩ | ⟨rfl, h_4⟩
    ·
      have h_4 : 0 ≤ v1.toInt ∧ v1.toInt ≤ 2 := h_4
      refine lv_if_ne (tgt := 23) hx hb (oc_154 16 (aq_16 shX12_streets_0) sgw_0_7) rfl (fun _ => ?_) (fun h => absurd h cq_eq_1_0)
      refine lv_iconst (v := 0) hx hb (oc_3 23 (aq_23 shX12_streets_0)) kic_0 ?_
      refine lv_istore_n (lv' := [(3, .int 0), (0, .ref (g 100)), (1, .int v0), (2, .int v1)]) hx hb (oc_62 24 shX12_streets_24) rfl hl (ltb rfl) rfl (fun ls hl => ?_)
      refine lv_iconst (v := 0) hx hb (oc_3 25 (aq_1 shX12_streets_24)) kic_0 ?_
      refine lv_istore (lv' := [(4, .int 0), (3, .int 0), (0, .ref (g 100)), (1, .int v0), (2, .int v1)]) hx hb (oc_54 26 (aq_2 shX12_streets_24) ub_4) hl (ltb rfl) rfl (fun ls hl => ?_)
      refine lv_iconst (v := 0) hx hb (oc_3 28 (aq_4 shX12_streets_24)) kic_0 ?_
      refine lv_istore (lv' := [(5, .int 0), (4, .int 0), (3, .int 0), (0, .ref (g 100)), (1, .int v0), (2, .int v1)]) hx hb (oc_54 29 (aq_5 shX12_streets_24) ub_5) hl (ltb rfl) rfl (fun ls hl => ?_)
      have lp_31 : ∀ (n : Nat) (i31 : Nat) (n3 : Nat) (n4 : Nat) , cn 2 - i31 < n → (i31 ≤ cn 2 ∧ (n3 ≤ i31 ∧ n4 ≤ n3)) → ∀ ls : Array Slot, lv_has ls 6 [(5, .int (nI i31)), (4, .int (nI n4)), (3, .int (nI n3)), (0, .ref (g 100)), (1, .int v0), (2, .int v1)] → W p l e (RM 2 0 0) s m ([.ref (g 100), .int v0, .int v1]).toArray below meth c s.heap [] 0 0 (MQ below (vp_Sl (fun _ => True)) ([.ref (g 100), .int v0, .int v1]).toArray s 0 0 (fun _ => False)) (F0 m 31 ls []) := by
        intro n31
        induction n31 with
        | zero => intros; (first | omega | (have zz0 := Hid.u hi_cn; omega))
        | succ n31 ih31 =>
          intro i31 n3 n4 hmu31 hinv31 ls hl
          obtain ⟨hr31, hx31_0⟩ := hinv31
          have ti31 : (nI i31).toInt = (i31 : Int) := nI_toInt (by (first | omega | (have zz0 := Hid.u hi_cn; omega)))
          refine lv_iload hx hb (oc_21 31 (aq_7 shX12_streets_24) ub_5) (lvA0 hl) ?_
          refine lv_aload_n hx hb (oc_42 33 (aq_9 shX12_streets_24)) rfl (lvA3 hl) ?_
          refine gM_208 S hK hP (v := .int (nI (cn 2))) rfl (oc_180 34 (aq_10 shX12_streets_24) uw_0_208) ?_
          have : (nI (cn 2)).toInt = (((cn 2) : Nat) : Int) := nI_toInt (by (first | omega | (have zz0 := Hid.u hi_cn; omega)))
          refine lv_icmp_ge (tgt := 89) hx hb (oc_162 37 (aq_13 shX12_streets_24) sgw_0_52) rfl (fun c_5 => ?_) (fun c_5 => ?_)
          ·
            have tc_5 : ((nI (cn 2)).toInt : Int) ≤ (nI i31).toInt := Int32.le_iff_toInt_le.mp c_5
            refine lv_aload_n hx hb (oc_42 89 (aq_17 shX12_streets_72)) rfl (lvA3 hl) ?_
            refine lv_aload_n hx hb (oc_42 90 (aq_18 shX12_streets_72)) rfl (lvA3 hl) ?_
            refine vp_callSi (runV_ra (As := []) (rest := [.ref (g 100)]) S (q_lacking l D cI cB cZ g cn In Fn  hI) kV_RX12_350 hK hP 0 rfl rfl rfl ⟨Nat.le_of_ble_eq_true rfl, Nat.le_of_ble_eq_true rfl⟩ ⟨Nat.le_of_ble_eq_true rfl, Nat.le_of_ble_eq_true rfl⟩ rfl hl.1 rfl (Nat.le_of_ble_eq_true rfl) (oc_182 91 (aq_19 shX12_streets_72) uw_1_94)) (fun r_6 h_7 => ?_)
            obtain ⟨mr_6, hr_6, rfl⟩ := h_7
            refine lv_iload_n hx hb (oc_29 94 (aq_22 shX12_streets_72)) rfl (lvA2 hl) ?_
            refine lv_iload hx hb (oc_21 95 (aq_23 shX12_streets_72) ub_4) (lvA1 hl) ?_
            refine lv_iload_n hx hb (oc_28 97 shX12_streets_97) rfl (lvA5 hl) ?_
            refine vp_callSl (runV_ra (As := [.int (nI mr_6), .int (nI n3), .int (nI n4), .int v1]) (rest := []) S (q_byLot l D cI cB cZ g cn In Fn mr_6 n3 n4 v1 hI (by (first | omega | (have zz0 := Hid.u hi_cn; omega))) (by (first | omega | (have zz0 := Hid.u hi_cn; omega))) (by (first | omega | (have zz0 := Hid.u hi_cn; omega)))) kV_RX12_353 hK hP 0 rfl rfl rfl ⟨Nat.le_of_ble_eq_true rfl, Nat.le_of_ble_eq_true rfl⟩ ⟨Nat.le_of_ble_eq_true rfl, Nat.le_of_ble_eq_true rfl⟩ rfl hl.1 rfl (Nat.le_of_ble_eq_true rfl) (oc_182 98 (aq_1 shX12_streets_97) uw_1_97)) (fun r_8 h_9 => ?_)
            exact W.lret (v := r_8) hx hb hr (fun t ht hW => ⟨r_8, rfl, trivial, ht⟩) (fun _ h => absurd h List.not_mem_nil) (oc_173 101 (aq_4 shX12_streets_97))
          ·
            have tc_5 : ((nI i31).toInt : Int) < (nI (cn 2)).toInt := Int32.lt_iff_toInt_lt.mp (Int32.not_le.mp c_5)
            refine lv_aload_n hx hb (oc_42 40 (aq_16 shX12_streets_24)) rfl (lvA3 hl) ?_
            refine gM_95 S hK hP (v := .ref (g 40)) rfl (oc_180 41 (aq_17 shX12_streets_24) uw_0_95) ?_
            refine lv_aload_n hx hb (oc_42 44 (aq_20 shX12_streets_24)) rfl (lvA3 hl) ?_
            refine gM_25 S hK hP (v := .ref (g 8)) rfl (oc_180 45 (aq_21 shX12_streets_24) uw_0_25) ?_
            refine lv_iload hx hb (oc_21 48 shX12_streets_48 ub_5) (lvA0 hl) ?_
            have kb_1 : i31 < 60 := by (first | omega | (have zz0 := Hid.u hi_cn; omega))
            obtain ⟨a_10, ha_10, ea_10⟩ := hI.e8 i31 (by (first | omega | (have zz0 := Hid.u hi_cn; omega)))
            refine ldM_8 hx hb hK hP (x := (nI a_10)) (vp_in_nI kb_1 (ltb rfl)) (nI_clamp (Nat.lt_trans kb_1 (ltb rfl))) ea_10 (oc_46 50 (aq_2 shX12_streets_48)) ?_
            have kb_2 : a_10 < 10 := by (first | omega | (have zz0 := Hid.u hi_cn; omega))
            refine ldM_40 hx hb hK hP (x := ((Fn 40) a_10)) (vp_in_nI kb_2 (ltb rfl)) (nI_clamp (Nat.lt_trans kb_2 (ltb rfl))) rfl (oc_46 51 (aq_3 shX12_streets_48)) ?_
            refine lv_iload_n hx hb (oc_27 52 (aq_4 shX12_streets_48)) rfl (lvA4 hl) ?_
            refine lv_icmp_eq (tgt := 59) hx hb (oc_159 53 (aq_5 shX12_streets_48) sgw_0_6) rfl (fun c_11 => ?_) (fun c_11 => ?_)
            ·
              have tc_11 : (((Fn 40) a_10).toInt : Int) = v0.toInt := congrArg Int32.toInt c_11
              refine lv_iload_n hx hb (oc_29 59 (aq_11 shX12_streets_48)) rfl (lvA2 hl) ?_
              refine lv_iconst (v := 1) hx hb (oc_4 60 (aq_12 shX12_streets_48)) kic_1 ?_
              refine lv_iadd hx hb (oc_96 61 (aq_13 shX12_streets_48)) ?_
              refine lv_topi (fun y_12 ey_12 => ?_)
              obtain rfl : y_12 = (nI (n3 + 1)) := ey_12.trans (nI_add n3 1)
              refine lv_istore_n (lv' := [(3, .int (nI (n3 + 1))), (5, .int (nI i31)), (4, .int (nI n4)), (0, .ref (g 100)), (1, .int v0), (2, .int v1)]) hx hb (oc_62 62 (aq_14 shX12_streets_48)) rfl hl (ltb rfl) rfl (fun ls hl => ?_)
              refine lv_iload hx hb (oc_21 63 (aq_15 shX12_streets_48) ub_4) (lvA2 hl) ?_
              refine lv_aload_n hx hb (oc_42 65 (aq_17 shX12_streets_48)) rfl (lvA3 hl) ?_
              refine gM_43 S hK hP (v := .ref (g 14)) rfl (oc_180 66 (aq_18 shX12_streets_48) uw_0_43) ?_
              refine lv_iload hx hb (oc_21 69 (aq_21 shX12_streets_48) ub_5) (lvA1 hl) ?_
              refine ldM_14 hx hb hK hP (x := ((Fn 14) i31)) (vp_in_nI kb_1 (ltb rfl)) (nI_clamp (Nat.lt_trans kb_1 (ltb rfl))) rfl (oc_46 71 (aq_23 shX12_streets_48)) ?_
              refine lv_if_le (tgt := 79) hx hb (oc_158 72 shX12_streets_72 sgw_0_7) rfl (fun c_13 => ?_) (fun c_13 => ?_)
              ·
                have tc_13 : (((Fn 14) i31).toInt : Int) ≤ 0 := Int32.le_iff_toInt_le.mp c_13
                refine lv_iconst (v := 0) hx hb (oc_3 79 (aq_7 shX12_streets_72)) kic_0 ?_
                refine lv_iadd hx hb (oc_96 80 (aq_8 shX12_streets_72)) ?_
                refine lv_topi (fun y_14 ey_14 => ?_)
                obtain rfl : y_14 = (nI (n4 + 0)) := ey_14.trans (nI_add n4 0)
                refine lv_istore (lv' := [(4, .int (nI (n4 + 0))), (3, .int (nI (n3 + 1))), (5, .int (nI i31)), (0, .ref (g 100)), (1, .int v0), (2, .int v1)]) hx hb (oc_54 81 (aq_9 shX12_streets_72) ub_4) hl (ltb rfl) rfl (fun ls hl => ?_)
                refine lv_iinc (v := (nI (i31 + 1))) (lv' := [(5, .int (nI (i31 + 1))), (4, .int (nI (n4 + 0))), (3, .int (nI (n3 + 1))), (0, .ref (g 100)), (1, .int v0), (2, .int v1)]) hx hb (oc_132 83 (aq_11 shX12_streets_72) ub_5 sgb_1) hl (k := 2) rfl (nI_1 _) (ltb rfl) rfl (fun ls hl => ?_)
                refine lv_goto (tgt := 31) hx hb (oc_167 86 (aq_14 shX12_streets_72) sgw_255_201) rfl ?_
                exact ih31 (i31 + 1) (n3 + 1) (n4 + 0) (by (first | omega | (have zz0 := Hid.u hi_cn; omega))) ⟨(by (first | omega | (have zz0 := Hid.u hi_cn; omega))), ⟨by (first | omega | (have zz0 := Hid.u hi_cn; omega)), by (first | omega | (have zz0 := Hid.u hi_cn; omega))⟩⟩ ls (lv_sub hl [0, 1, 2, 3, 4, 5] rfl)
              ·
                have tc_13 : (0 : Int) < ((Fn 14) i31).toInt := Int32.lt_iff_toInt_lt.mp (Int32.not_le.mp c_13)
                refine lv_iconst (v := 1) hx hb (oc_4 75 (aq_3 shX12_streets_72)) kic_1 ?_
                refine lv_goto (tgt := 80) hx hb (oc_167 76 (aq_4 shX12_streets_72) sgw_0_4) rfl ?_
                refine lv_iadd hx hb (oc_96 80 (aq_8 shX12_streets_72)) ?_
                refine lv_topi (fun y_15 ey_15 => ?_)
                obtain rfl : y_15 = (nI (n4 + 1)) := ey_15.trans (nI_add n4 1)
                refine lv_istore (lv' := [(4, .int (nI (n4 + 1))), (3, .int (nI (n3 + 1))), (5, .int (nI i31)), (0, .ref (g 100)), (1, .int v0), (2, .int v1)]) hx hb (oc_54 81 (aq_9 shX12_streets_72) ub_4) hl (ltb rfl) rfl (fun ls hl => ?_)
                refine lv_iinc (v := (nI (i31 + 1))) (lv' := [(5, .int (nI (i31 + 1))), (4, .int (nI (n4 + 1))), (3, .int (nI (n3 + 1))), (0, .ref (g 100)), (1, .int v0), (2, .int v1)]) hx hb (oc_132 83 (aq_11 shX12_streets_72) ub_5 sgb_1) hl (k := 2) rfl (nI_1 _) (ltb rfl) rfl (fun ls hl => ?_)
                refine lv_goto (tgt := 31) hx hb (oc_167 86 (aq_14 shX12_streets_72) sgw_255_201) rfl ?_
                exact ih31 (i31 + 1) (n3 + 1) (n4 + 1) (by (first | omega | (have zz0 := Hid.u hi_cn; omega))) ⟨(by (first | omega | (have zz0 := Hid.u hi_cn; omega))), ⟨by (first | omega | (have zz0 := Hid.u hi_cn; omega)), by (first | omega | (have zz0 := Hid.u hi_cn; omega))⟩⟩ ls (lv_sub hl [0, 1, 2, 3, 4, 5] rfl)
            ·
              have tc_11 : (((Fn 40) a_10).toInt : Int) ≠ v0.toInt := fun q => c_11 (Int32.toInt_inj.mp q)
              refine lv_goto (tgt := 83) hx hb (oc_167 56 (aq_8 shX12_streets_48) sgw_0_27) rfl ?_
              refine lv_iinc (v := (nI (i31 + 1))) (lv' := [(5, .int (nI (i31 + 1))), (4, .int (nI n4)), (3, .int (nI n3)), (0, .ref (g 100)), (1, .int v0), (2, .int v1)]) hx hb (oc_132 83 (aq_11 shX12_streets_72) ub_5 sgb_1) hl (k := 0) rfl (nI_1 _) (ltb rfl) rfl (fun ls hl => ?_)
              refine lv_goto (tgt := 31) hx hb (oc_167 86 (aq_14 shX12_streets_72) sgw_255_201) rfl ?_
              exact ih31 (i31 + 1) n3 n4 (by (first | omega | (have zz0 := Hid.u hi_cn; omega))) ⟨(by (first | omega | (have zz0 := Hid.u hi_cn; omega))), ⟨by (first | omega | (have zz0 := Hid.u hi_cn; omega)), by (first | omega | (have zz0 := Hid.u hi_cn; omega))⟩⟩ ls (lv_sub hl [0, 1, 2, 3, 4, 5] rfl)
      exact lp_31 _ 0 0 0 (Nat.lt_succ_self _) ⟨(by (first | omega | (have zz0 := Hid.u hi_cn; omega))), ⟨by (first | omega | (have zz0 := Hid.u hi_cn; omega)), by (first | omega | (have zz0 := Hid.u hi_cn; omega))⟩⟩ ls (lv_sub hl [0, 1, 2, 3, 4, 5] rfl)
    ·
      have h_4 : ¬ (0 ≤ v1.toInt ∧ v1.toInt ≤ 2) := h_4
      refine lv_if_ne (tgt := 23) hx hb (oc_154 16 (aq_16 shX12_streets_0) sgw_0_7) rfl (fun h => absurd h cq_eq_0_0) (fun _ => ?_)
      refine lv_ldc2 (v := (-1)) hx hb hown (S.2.2.2.2 _ (wk8_6 5 rfl rfl)) (oc_20 19 (aq_19 shX12_streets_0) uw_1_92) ?_
      exact W.lret (v := (-1)) hx hb hr (fun t ht hW => ⟨(-1), rfl, trivial, ht⟩) (fun _ h => absurd h List.not_mem_nil) (oc_173 22 (aq_22 shX12_streets_0))
  ·
    have h_2 : ¬ (0 ≤ v0.toInt ∧ v0.toInt ≤ 9) := h_2
    refine lv_if_eq (tgt := 19) hx hb (oc_153 7 (aq_7 shX12_streets_0) sgw_0_12) rfl (fun _ => ?_) (fun h => absurd h cq_eq_0_0)
    refine lv_ldc2 (v := (-1)) hx hb hown (S.2.2.2.2 _ (wk8_6 5 rfl rfl)) (oc_20 19 (aq_19 shX12_streets_0) uw_1_92) ?_
    exact W.lret (v := (-1)) hx hb hr (fun t ht hW => ⟨(-1), rfl, trivial, ht⟩) (fun _ h => absurd h List.not_mem_nil) (oc_173 22 (aq_22 shX12_streets_0))
set_option maxRecDepth 100000 in
set_option maxHeartbeats 4000000 in
theorem q_cheat (l : Launch) (D : va_G) (cI cB cZ : ClassId) (g : Nat → Nat) (cn : Nat → Nat) (In : Nat → Int32) (Fn : Nat → Nat → Int32) (v0 v1 v2 : Int32) (hI : IM cn Fn) : Met l yX12_cheat (CWS yX12_cheat cX12_cheat 9 (some .long)) (RM 2 0 0) (PBr [.ref (g 100), .int v0, .int v1, .int v2] D cI cB cZ (wM cI cB cZ g cn In Fn)) (vp_Sl (fun _ => True)) 0 0 (fun _ => False) := by
  refine en_r rfl pn_RX12 (Nat.le_of_ble_eq_true rfl) (fun p e s m below meth c hx hb hml hown S hr hlocks hnm hP hK hS ls hl => ?_)
  have hl : lv_has ls 9 [(0, .ref (g 100)), (1, .int v0), (2, .int v1), (3, .int v2)] := hl
  have hi_cn : Hid (CB cn) := hI.b
  refine lv_aload_n hx hb (oc_42 0 shX12_cheat_0) rfl (lvA0 hl) ?_
  refine lv_iload_n hx hb (oc_27 1 (aq_1 shX12_cheat_0)) rfl (lvA1 hl) ?_
  refine vp_callSi (runV_ra (As := [.int v0]) (rest := []) S (q_isKitchen l D cI cB cZ g cn In Fn v0 hI) kV_RX12_218 hK hP 0 rfl rfl rfl ⟨Nat.le_of_ble_eq_true rfl, Nat.le_of_ble_eq_true rfl⟩ ⟨Nat.le_of_ble_eq_true rfl, Nat.le_of_ble_eq_true rfl⟩ rfl hl.1 rfl (Nat.le_of_ble_eq_true rfl) (oc_182 2 (aq_2 shX12_cheat_0) uw_0_218)) (fun r_1 h_2 => ?_)
  rcases h_2 with ⟨rfl, h_2⟩ | ⟨rfl, h_2⟩
  ·
    have h_2 : 0 ≤ v0.toInt ∧ v0.toInt < ((cn 1) : Int) := h_2
    refine lv_if_eq (tgt := 28) hx hb (oc_153 5 (aq_5 shX12_cheat_0) sgw_0_23) rfl (fun h => absurd h cq_eq_1_0) (fun _ => ?_)
    refine lv_iload_n hx hb (oc_28 8 (aq_8 shX12_cheat_0)) rfl (lvA2 hl) ?_
    refine lv_iconst (v := 0) hx hb (oc_3 9 (aq_9 shX12_cheat_0)) kic_0 ?_
    refine lv_sipush (v := 1000) hx hb (oc_17 10 (aq_10 shX12_cheat_0) sgw_3_232) (by decide) ?_
    refine vp_callSi (runS_r (As := [.int v1, .int 0, .int 1000]) (rest := []) S (q_in l D cI cB cZ v1 0 1000 ) kS_RX12_214 hK hP [] rfl ⟨Nat.le_of_ble_eq_true rfl, Nat.le_of_ble_eq_true rfl⟩ ⟨Nat.le_of_ble_eq_true rfl, Nat.le_of_ble_eq_true rfl⟩ rfl hl.1 rfl (Nat.le_of_ble_eq_true rfl) (oc_184 13 (aq_13 shX12_cheat_0) uw_0_214)) (fun r_3 h_4 => ?_)
    rcases h_4 with ⟨rfl, h_4⟩ | ⟨rfl, h_4⟩
    ·
      have h_4 : 0 ≤ v1.toInt ∧ v1.toInt ≤ 1000 := h_4
      refine lv_if_eq (tgt := 28) hx hb (oc_153 16 (aq_16 shX12_cheat_0) sgw_0_12) rfl (fun h => absurd h cq_eq_1_0) (fun _ => ?_)
      refine lv_iload_n hx hb (oc_29 19 (aq_19 shX12_cheat_0)) rfl (lvA3 hl) ?_
      refine lv_iconst (v := 0) hx hb (oc_3 20 (aq_20 shX12_cheat_0)) kic_0 ?_
      refine lv_iconst (v := 2) hx hb (oc_5 21 (aq_21 shX12_cheat_0)) kic_2 ?_
      refine vp_callSi (runS_r (As := [.int v2, .int 0, .int 2]) (rest := []) S (q_in l D cI cB cZ v2 0 2 ) kS_RX12_214 hK hP [] rfl ⟨Nat.le_of_ble_eq_true rfl, Nat.le_of_ble_eq_true rfl⟩ ⟨Nat.le_of_ble_eq_true rfl, Nat.le_of_ble_eq_true rfl⟩ rfl hl.1 rfl (Nat.le_of_ble_eq_true rfl) (oc_184 22 (aq_22 shX12_cheat_0) uw_0_214)) (fun r_5 h_6 => ?_)
      rcases h_6 with ⟨rfl, h_6⟩ | ⟨rfl, h_6⟩
      ·
        have h_6 : 0 ≤ v2.toInt ∧ v2.toInt ≤ 2 := h_6
        refine lv_if_ne (tgt := 32) hx hb (oc_154 25 shX12_cheat_25 sgw_0_7) rfl (fun _ => ?_) (fun h => absurd h cq_eq_1_0)
        refine lv_iconst (v := 0) hx hb (oc_3 32 (aq_7 shX12_cheat_25)) kic_0 ?_
        refine lv_istore (lv' := [(4, .int 0), (0, .ref (g 100)), (1, .int v0), (2, .int v1), (3, .int v2)]) hx hb (oc_54 33 (aq_8 shX12_cheat_25) ub_4) hl (ltb rfl) rfl (fun ls hl => ?_)
        refine lv_iconst (v := 0) hx hb (oc_3 35 (aq_10 shX12_cheat_25)) kic_0 ?_
        refine lv_istore (lv' := [(5, .int 0), (4, .int 0), (0, .ref (g 100)), (1, .int v0), (2, .int v1), (3, .int v2)]) hx hb (oc_54 36 (aq_11 shX12_cheat_25) ub_5) hl (ltb rfl) rfl (fun ls hl => ?_)
        refine lv_iconst (v := 0) hx hb (oc_3 38 (aq_13 shX12_cheat_25)) kic_0 ?_
        refine lv_istore (lv' := [(6, .int 0), (5, .int 0), (4, .int 0), (0, .ref (g 100)), (1, .int v0), (2, .int v1), (3, .int v2)]) hx hb (oc_54 39 (aq_14 shX12_cheat_25) ub_6) hl (ltb rfl) rfl (fun ls hl => ?_)
        refine lv_iconst (v := 0) hx hb (oc_3 41 (aq_16 shX12_cheat_25)) kic_0 ?_
        refine lv_istore (lv' := [(7, .int 0), (6, .int 0), (5, .int 0), (4, .int 0), (0, .ref (g 100)), (1, .int v0), (2, .int v1), (3, .int v2)]) hx hb (oc_54 42 (aq_17 shX12_cheat_25) ub_7) hl (ltb rfl) rfl (fun ls hl => ?_)
        have lp_44 : ∀ (n : Nat) (i44 : Nat) (n4 : Nat) (n5 : Nat) (n6 : Nat) , cn 2 - i44 < n → (i44 ≤ cn 2 ∧ (n4 ≤ i44 ∧ n5 ≤ i44 ∧ n6 ≤ n5)) → ∀ ls : Array Slot, lv_has ls 9 [(7, .int (nI i44)), (6, .int (nI n6)), (5, .int (nI n5)), (4, .int (nI n4)), (0, .ref (g 100)), (1, .int v0), (2, .int v1), (3, .int v2)] → W p l e (RM 2 0 0) s m ([.ref (g 100), .int v0, .int v1, .int v2]).toArray below meth c s.heap [] 0 0 (MQ below (vp_Sl (fun _ => True)) ([.ref (g 100), .int v0, .int v1, .int v2]).toArray s 0 0 (fun _ => False)) (F0 m 44 ls []) := by
          intro n44
          induction n44 with
          | zero => intros; (first | omega | (have zz0 := Hid.u hi_cn; omega))
          | succ n44 ih44 =>
            intro i44 n4 n5 n6 hmu44 hinv44 ls hl
            obtain ⟨hr44, hx44_0⟩ := hinv44
            have ti44 : (nI i44).toInt = (i44 : Int) := nI_toInt (by (first | omega | (have zz0 := Hid.u hi_cn; omega)))
            refine lv_iload hx hb (oc_21 44 (aq_19 shX12_cheat_25) ub_7) (lvA0 hl) ?_
            refine lv_aload_n hx hb (oc_42 46 (aq_21 shX12_cheat_25)) rfl (lvA4 hl) ?_
            refine gM_208 S hK hP (v := .int (nI (cn 2))) rfl (oc_180 47 (aq_22 shX12_cheat_25) uw_0_208) ?_
            have : (nI (cn 2)).toInt = (((cn 2) : Nat) : Int) := nI_toInt (by (first | omega | (have zz0 := Hid.u hi_cn; omega)))
            refine lv_icmp_ge (tgt := 139) hx hb (oc_162 50 shX12_cheat_50 sgw_0_89) rfl (fun c_7 => ?_) (fun c_7 => ?_)
            ·
              have tc_7 : ((nI (cn 2)).toInt : Int) ≤ (nI i44).toInt := Int32.le_iff_toInt_le.mp c_7
              refine lv_aload_n hx hb (oc_42 139 (aq_14 shX12_cheat_125)) rfl (lvA4 hl) ?_
              refine lv_iload hx hb (oc_21 140 (aq_15 shX12_cheat_125) ub_4) (lvA3 hl) ?_
              refine lv_iload hx hb (oc_21 142 (aq_17 shX12_cheat_125) ub_5) (lvA2 hl) ?_
              refine lv_iload hx hb (oc_21 144 (aq_19 shX12_cheat_125) ub_6) (lvA1 hl) ?_
              refine lv_iload_n hx hb (oc_29 146 (aq_21 shX12_cheat_125)) rfl (lvA7 hl) ?_
              refine vp_callSl (runV_ra (As := [.int (nI n4), .int (nI n5), .int (nI n6), .int v2]) (rest := []) S (q_byLot l D cI cB cZ g cn In Fn n4 n5 n6 v2 hI (by (first | omega | (have zz0 := Hid.u hi_cn; omega))) (by (first | omega | (have zz0 := Hid.u hi_cn; omega))) (by (first | omega | (have zz0 := Hid.u hi_cn; omega)))) kV_RX12_353 hK hP 0 rfl rfl rfl ⟨Nat.le_of_ble_eq_true rfl, Nat.le_of_ble_eq_true rfl⟩ ⟨Nat.le_of_ble_eq_true rfl, Nat.le_of_ble_eq_true rfl⟩ rfl hl.1 rfl (Nat.le_of_ble_eq_true rfl) (oc_182 147 (aq_22 shX12_cheat_125) uw_1_97)) (fun r_8 h_9 => ?_)
              exact W.lret (v := r_8) hx hb hr (fun t ht hW => ⟨r_8, rfl, trivial, ht⟩) (fun _ h => absurd h List.not_mem_nil) (oc_173 150 shX12_cheat_150)
            ·
              have tc_7 : ((nI i44).toInt : Int) < (nI (cn 2)).toInt := Int32.lt_iff_toInt_lt.mp (Int32.not_le.mp c_7)
              refine lv_aload_n hx hb (oc_42 53 (aq_3 shX12_cheat_50)) rfl (lvA4 hl) ?_
              refine gM_34 S hK hP (v := .ref (g 11)) rfl (oc_180 54 (aq_4 shX12_cheat_50) uw_0_34) ?_
              refine lv_iload hx hb (oc_21 57 (aq_7 shX12_cheat_50) ub_7) (lvA0 hl) ?_
              have kb_1 : i44 < 60 := by (first | omega | (have zz0 := Hid.u hi_cn; omega))
              refine ldM_11 hx hb hK hP (x := ((Fn 11) i44)) (vp_in_nI kb_1 (ltb rfl)) (nI_clamp (Nat.lt_trans kb_1 (ltb rfl))) rfl (oc_46 59 (aq_9 shX12_cheat_50)) ?_
              refine lv_iload_n hx hb (oc_28 60 (aq_10 shX12_cheat_50)) rfl (lvA6 hl) ?_
              refine lv_icmp_lt (tgt := 68) hx hb (oc_161 61 (aq_11 shX12_cheat_50) sgw_0_7) rfl (fun c_10 => ?_) (fun c_10 => ?_)
              ·
                have tc_10 : (((Fn 11) i44).toInt : Int) < v1.toInt := Int32.lt_iff_toInt_lt.mp c_10
                refine lv_iconst (v := 0) hx hb (oc_3 68 (aq_18 shX12_cheat_50)) kic_0 ?_
                refine lv_istore (lv' := [(8, .int 0), (7, .int (nI i44)), (6, .int (nI n6)), (5, .int (nI n5)), (4, .int (nI n4)), (0, .ref (g 100)), (1, .int v0), (2, .int v1), (3, .int v2)]) hx hb (oc_54 69 (aq_19 shX12_cheat_50) ub_8) hl (ltb rfl) rfl (fun ls hl => ?_)
                refine lv_iload hx hb (oc_21 71 (aq_21 shX12_cheat_50) ub_4) (lvA4 hl) ?_
                refine lv_iload hx hb (oc_21 73 (aq_23 shX12_cheat_50) ub_8) (lvA0 hl) ?_
                refine lv_if_eq (tgt := 82) hx hb (oc_153 75 shX12_cheat_75 sgw_0_7) rfl (fun _ => ?_) (fun h => absurd h cq_eq_0_0)
                refine lv_iconst (v := 0) hx hb (oc_3 82 (aq_7 shX12_cheat_75)) kic_0 ?_
                refine lv_iadd hx hb (oc_96 83 (aq_8 shX12_cheat_75)) ?_
                refine lv_topi (fun y_11 ey_11 => ?_)
                obtain rfl : y_11 = (nI (n4 + 0)) := ey_11.trans (nI_add n4 0)
                refine lv_istore (lv' := [(4, .int (nI (n4 + 0))), (8, .int 0), (7, .int (nI i44)), (6, .int (nI n6)), (5, .int (nI n5)), (0, .ref (g 100)), (1, .int v0), (2, .int v1), (3, .int v2)]) hx hb (oc_54 84 (aq_9 shX12_cheat_75) ub_4) hl (ltb rfl) rfl (fun ls hl => ?_)
                refine lv_iload hx hb (oc_21 86 (aq_11 shX12_cheat_75) ub_5) (lvA4 hl) ?_
                refine lv_aload_n hx hb (oc_42 88 (aq_13 shX12_cheat_75)) rfl (lvA5 hl) ?_
                refine gM_25 S hK hP (v := .ref (g 8)) rfl (oc_180 89 (aq_14 shX12_cheat_75) uw_0_25) ?_
                refine lv_iload hx hb (oc_21 92 (aq_17 shX12_cheat_75) ub_7) (lvA2 hl) ?_
                obtain ⟨a_12, ha_12, ea_12⟩ := hI.e8 i44 (by (first | omega | (have zz0 := Hid.u hi_cn; omega)))
                refine ldM_8 hx hb hK hP (x := (nI a_12)) (vp_in_nI kb_1 (ltb rfl)) (nI_clamp (Nat.lt_trans kb_1 (ltb rfl))) ea_12 (oc_46 94 (aq_19 shX12_cheat_75)) ?_
                refine lv_iload_n hx hb (oc_27 95 (aq_20 shX12_cheat_75)) rfl (lvA6 hl) ?_
                have : (nI a_12).toInt = ((a_12 : Nat) : Int) := nI_toInt (by (first | omega | (have zz0 := Hid.u hi_cn; omega)))
                refine lv_icmp_ne (tgt := 103) hx hb (oc_160 96 (aq_21 shX12_cheat_75) sgw_0_7) rfl (fun c_13 => ?_) (fun c_13 => ?_)
                ·
                  have tc_13 : ((nI a_12).toInt : Int) ≠ v0.toInt := fun q => c_13 (Int32.toInt_inj.mp q)
                  refine lv_iconst (v := 0) hx hb (oc_3 103 (aq_4 shX12_cheat_99)) kic_0 ?_
                  refine lv_iadd hx hb dX12_cheat_104 ?_
                  refine lv_topi (fun y_14 ey_14 => ?_)
                  obtain rfl : y_14 = (nI (n5 + 0)) := ey_14.trans (nI_add n5 0)
                  refine lv_istore (lv' := [(5, .int (nI (n5 + 0))), (4, .int (nI (n4 + 0))), (8, .int 0), (7, .int (nI i44)), (6, .int (nI n6)), (0, .ref (g 100)), (1, .int v0), (2, .int v1), (3, .int v2)]) hx hb dX12_cheat_105 hl (ltb rfl) rfl (fun ls hl => ?_)
                  refine lv_iload hx hb dX12_cheat_107 (lvA4 hl) ?_
                  refine lv_iload hx hb dX12_cheat_109 (lvA2 hl) ?_
                  refine lv_if_eq (tgt := 129) hx hb dX12_cheat_111 rfl (fun _ => ?_) (fun h => absurd h cq_eq_0_0)
                  refine lv_iconst (v := 0) hx hb dX12_cheat_129 kic_0 ?_
                  refine lv_iadd hx hb dX12_cheat_130 ?_
                  refine lv_topi (fun y_15 ey_15 => ?_)
                  obtain rfl : y_15 = (nI (n6 + 0)) := ey_15.trans (nI_add n6 0)
                  refine lv_istore (lv' := [(6, .int (nI (n6 + 0))), (5, .int (nI (n5 + 0))), (4, .int (nI (n4 + 0))), (8, .int 0), (7, .int (nI i44)), (0, .ref (g 100)), (1, .int v0), (2, .int v1), (3, .int v2)]) hx hb dX12_cheat_131 hl (ltb rfl) rfl (fun ls hl => ?_)
                  refine lv_iinc (v := (nI (i44 + 1))) (lv' := [(7, .int (nI (i44 + 1))), (6, .int (nI (n6 + 0))), (5, .int (nI (n5 + 0))), (4, .int (nI (n4 + 0))), (8, .int 0), (0, .ref (g 100)), (1, .int v0), (2, .int v1), (3, .int v2)]) hx hb dX12_cheat_133 hl (k := 4) rfl (nI_1 _) (ltb rfl) rfl (fun ls hl => ?_)
                  refine lv_goto (tgt := 44) hx hb dX12_cheat_136 rfl ?_
                  exact ih44 (i44 + 1) (n4 + 0) (n5 + 0) (n6 + 0) (by (first | omega | (have zz0 := Hid.u hi_cn; omega))) ⟨(by (first | omega | (have zz0 := Hid.u hi_cn; omega))), ⟨by (first | omega | (have zz0 := Hid.u hi_cn; omega)), by (first | omega | (have zz0 := Hid.u hi_cn; omega)), by (first | omega | (have zz0 := Hid.u hi_cn; omega))⟩⟩ ls (lv_sub hl [0, 1, 2, 3, 5, 6, 7, 8] rfl)
                ·
                  have tc_13 : ((nI a_12).toInt : Int) = v0.toInt := congrArg Int32.toInt c_13
                  refine lv_iconst (v := 1) hx hb (oc_4 99 shX12_cheat_99) kic_1 ?_
                  refine lv_goto (tgt := 104) hx hb (oc_167 100 (aq_1 shX12_cheat_99) sgw_0_4) rfl ?_
                  refine lv_iadd hx hb dX12_cheat_104 ?_
                  refine lv_topi (fun y_16 ey_16 => ?_)
                  obtain rfl : y_16 = (nI (n5 + 1)) := ey_16.trans (nI_add n5 1)
                  refine lv_istore (lv' := [(5, .int (nI (n5 + 1))), (4, .int (nI (n4 + 0))), (8, .int 0), (7, .int (nI i44)), (6, .int (nI n6)), (0, .ref (g 100)), (1, .int v0), (2, .int v1), (3, .int v2)]) hx hb dX12_cheat_105 hl (ltb rfl) rfl (fun ls hl => ?_)
                  refine lv_iload hx hb dX12_cheat_107 (lvA4 hl) ?_
                  refine lv_iload hx hb dX12_cheat_109 (lvA2 hl) ?_
                  refine lv_if_eq (tgt := 129) hx hb dX12_cheat_111 rfl (fun _ => ?_) (fun h => absurd h cq_eq_0_0)
                  refine lv_iconst (v := 0) hx hb dX12_cheat_129 kic_0 ?_
                  refine lv_iadd hx hb dX12_cheat_130 ?_
                  refine lv_topi (fun y_17 ey_17 => ?_)
                  obtain rfl : y_17 = (nI (n6 + 0)) := ey_17.trans (nI_add n6 0)
                  refine lv_istore (lv' := [(6, .int (nI (n6 + 0))), (5, .int (nI (n5 + 1))), (4, .int (nI (n4 + 0))), (8, .int 0), (7, .int (nI i44)), (0, .ref (g 100)), (1, .int v0), (2, .int v1), (3, .int v2)]) hx hb dX12_cheat_131 hl (ltb rfl) rfl (fun ls hl => ?_)
                  refine lv_iinc (v := (nI (i44 + 1))) (lv' := [(7, .int (nI (i44 + 1))), (6, .int (nI (n6 + 0))), (5, .int (nI (n5 + 1))), (4, .int (nI (n4 + 0))), (8, .int 0), (0, .ref (g 100)), (1, .int v0), (2, .int v1), (3, .int v2)]) hx hb dX12_cheat_133 hl (k := 4) rfl (nI_1 _) (ltb rfl) rfl (fun ls hl => ?_)
                  refine lv_goto (tgt := 44) hx hb dX12_cheat_136 rfl ?_
                  exact ih44 (i44 + 1) (n4 + 0) (n5 + 1) (n6 + 0) (by (first | omega | (have zz0 := Hid.u hi_cn; omega))) ⟨(by (first | omega | (have zz0 := Hid.u hi_cn; omega))), ⟨by (first | omega | (have zz0 := Hid.u hi_cn; omega)), by (first | omega | (have zz0 := Hid.u hi_cn; omega)), by (first | omega | (have zz0 := Hid.u hi_cn; omega))⟩⟩ ls (lv_sub hl [0, 1, 2, 3, 5, 6, 7, 8] rfl)
              ·
                have tc_10 : (v1.toInt : Int) ≤ ((Fn 11) i44).toInt := Int32.le_iff_toInt_le.mp (Int32.not_lt.mp c_10)
                refine lv_iconst (v := 1) hx hb (oc_4 64 (aq_14 shX12_cheat_50)) kic_1 ?_
                refine lv_goto (tgt := 69) hx hb (oc_167 65 (aq_15 shX12_cheat_50) sgw_0_4) rfl ?_
                refine lv_istore (lv' := [(8, .int 1), (7, .int (nI i44)), (6, .int (nI n6)), (5, .int (nI n5)), (4, .int (nI n4)), (0, .ref (g 100)), (1, .int v0), (2, .int v1), (3, .int v2)]) hx hb (oc_54 69 (aq_19 shX12_cheat_50) ub_8) hl (ltb rfl) rfl (fun ls hl => ?_)
                refine lv_iload hx hb (oc_21 71 (aq_21 shX12_cheat_50) ub_4) (lvA4 hl) ?_
                refine lv_iload hx hb (oc_21 73 (aq_23 shX12_cheat_50) ub_8) (lvA0 hl) ?_
                refine lv_if_eq (tgt := 82) hx hb (oc_153 75 shX12_cheat_75 sgw_0_7) rfl (fun h => absurd h cq_eq_1_0) (fun _ => ?_)
                refine lv_iconst (v := 1) hx hb (oc_4 78 (aq_3 shX12_cheat_75)) kic_1 ?_
                refine lv_goto (tgt := 83) hx hb (oc_167 79 (aq_4 shX12_cheat_75) sgw_0_4) rfl ?_
                refine lv_iadd hx hb (oc_96 83 (aq_8 shX12_cheat_75)) ?_
                refine lv_topi (fun y_18 ey_18 => ?_)
                obtain rfl : y_18 = (nI (n4 + 1)) := ey_18.trans (nI_add n4 1)
                refine lv_istore (lv' := [(4, .int (nI (n4 + 1))), (8, .int 1), (7, .int (nI i44)), (6, .int (nI n6)), (5, .int (nI n5)), (0, .ref (g 100)), (1, .int v0), (2, .int v1), (3, .int v2)]) hx hb (oc_54 84 (aq_9 shX12_cheat_75) ub_4) hl (ltb rfl) rfl (fun ls hl => ?_)
                refine lv_iload hx hb (oc_21 86 (aq_11 shX12_cheat_75) ub_5) (lvA4 hl) ?_
                refine lv_aload_n hx hb (oc_42 88 (aq_13 shX12_cheat_75)) rfl (lvA5 hl) ?_
                refine gM_25 S hK hP (v := .ref (g 8)) rfl (oc_180 89 (aq_14 shX12_cheat_75) uw_0_25) ?_
                refine lv_iload hx hb (oc_21 92 (aq_17 shX12_cheat_75) ub_7) (lvA2 hl) ?_
                obtain ⟨a_19, ha_19, ea_19⟩ := hI.e8 i44 (by (first | omega | (have zz0 := Hid.u hi_cn; omega)))
                refine ldM_8 hx hb hK hP (x := (nI a_19)) (vp_in_nI kb_1 (ltb rfl)) (nI_clamp (Nat.lt_trans kb_1 (ltb rfl))) ea_19 (oc_46 94 (aq_19 shX12_cheat_75)) ?_
                refine lv_iload_n hx hb (oc_27 95 (aq_20 shX12_cheat_75)) rfl (lvA6 hl) ?_
                have : (nI a_19).toInt = ((a_19 : Nat) : Int) := nI_toInt (by (first | omega | (have zz0 := Hid.u hi_cn; omega)))
                refine lv_icmp_ne (tgt := 103) hx hb (oc_160 96 (aq_21 shX12_cheat_75) sgw_0_7) rfl (fun c_20 => ?_) (fun c_20 => ?_)
                ·
                  have tc_20 : ((nI a_19).toInt : Int) ≠ v0.toInt := fun q => c_20 (Int32.toInt_inj.mp q)
                  refine lv_iconst (v := 0) hx hb (oc_3 103 (aq_4 shX12_cheat_99)) kic_0 ?_
                  refine lv_iadd hx hb dX12_cheat_104 ?_
                  refine lv_topi (fun y_21 ey_21 => ?_)
                  obtain rfl : y_21 = (nI (n5 + 0)) := ey_21.trans (nI_add n5 0)
                  refine lv_istore (lv' := [(5, .int (nI (n5 + 0))), (4, .int (nI (n4 + 1))), (8, .int 1), (7, .int (nI i44)), (6, .int (nI n6)), (0, .ref (g 100)), (1, .int v0), (2, .int v1), (3, .int v2)]) hx hb dX12_cheat_105 hl (ltb rfl) rfl (fun ls hl => ?_)
                  refine lv_iload hx hb dX12_cheat_107 (lvA4 hl) ?_
                  refine lv_iload hx hb dX12_cheat_109 (lvA2 hl) ?_
                  refine lv_if_eq (tgt := 129) hx hb dX12_cheat_111 rfl (fun h => absurd h cq_eq_1_0) (fun _ => ?_)
                  refine lv_aload_n hx hb (oc_42 114 (aq_15 shX12_cheat_99)) rfl (lvA5 hl) ?_
                  refine gM_25 S hK hP (v := .ref (g 8)) rfl (oc_180 115 (aq_16 shX12_cheat_99) uw_0_25) ?_
                  refine lv_iload hx hb (oc_21 118 (aq_19 shX12_cheat_99) ub_7) (lvA3 hl) ?_
                  refine ldM_8 hx hb hK hP (x := (nI a_19)) (vp_in_nI kb_1 (ltb rfl)) (nI_clamp (Nat.lt_trans kb_1 (ltb rfl))) ea_19 (oc_46 120 (aq_21 shX12_cheat_99)) ?_
                  refine lv_iload_n hx hb (oc_27 121 (aq_22 shX12_cheat_99)) rfl (lvA6 hl) ?_
                  refine lv_icmp_ne (tgt := 129) hx hb (oc_160 122 (aq_23 shX12_cheat_99) sgw_0_7) rfl (fun c_22 => ?_) (fun c_22 => ?_)
                  ·
                    have tc_22 : ((nI a_19).toInt : Int) ≠ v0.toInt := fun q => c_22 (Int32.toInt_inj.mp q)
                    refine lv_iconst (v := 0) hx hb dX12_cheat_129 kic_0 ?_
                    refine lv_iadd hx hb dX12_cheat_130 ?_
                    refine lv_topi (fun y_23 ey_23 => ?_)
                    obtain rfl : y_23 = (nI (n6 + 0)) := ey_23.trans (nI_add n6 0)
                    refine lv_istore (lv' := [(6, .int (nI (n6 + 0))), (5, .int (nI (n5 + 0))), (4, .int (nI (n4 + 1))), (8, .int 1), (7, .int (nI i44)), (0, .ref (g 100)), (1, .int v0), (2, .int v1), (3, .int v2)]) hx hb dX12_cheat_131 hl (ltb rfl) rfl (fun ls hl => ?_)
                    refine lv_iinc (v := (nI (i44 + 1))) (lv' := [(7, .int (nI (i44 + 1))), (6, .int (nI (n6 + 0))), (5, .int (nI (n5 + 0))), (4, .int (nI (n4 + 1))), (8, .int 1), (0, .ref (g 100)), (1, .int v0), (2, .int v1), (3, .int v2)]) hx hb dX12_cheat_133 hl (k := 4) rfl (nI_1 _) (ltb rfl) rfl (fun ls hl => ?_)
                    refine lv_goto (tgt := 44) hx hb dX12_cheat_136 rfl ?_
                    exact ih44 (i44 + 1) (n4 + 1) (n5 + 0) (n6 + 0) (by (first | omega | (have zz0 := Hid.u hi_cn; omega))) ⟨(by (first | omega | (have zz0 := Hid.u hi_cn; omega))), ⟨by (first | omega | (have zz0 := Hid.u hi_cn; omega)), by (first | omega | (have zz0 := Hid.u hi_cn; omega)), by (first | omega | (have zz0 := Hid.u hi_cn; omega))⟩⟩ ls (lv_sub hl [0, 1, 2, 3, 5, 6, 7, 8] rfl)
                  ·
                    have tc_22 : ((nI a_19).toInt : Int) = v0.toInt := congrArg Int32.toInt c_22
                    refine lv_iconst (v := 1) hx hb (oc_4 125 shX12_cheat_125) kic_1 ?_
                    refine lv_goto (tgt := 130) hx hb (oc_167 126 (aq_1 shX12_cheat_125) sgw_0_4) rfl ?_
                    refine lv_iadd hx hb dX12_cheat_130 ?_
                    refine lv_topi (fun y_24 ey_24 => ?_)
                    obtain rfl : y_24 = (nI (n6 + 1)) := ey_24.trans (nI_add n6 1)
                    refine lv_istore (lv' := [(6, .int (nI (n6 + 1))), (5, .int (nI (n5 + 0))), (4, .int (nI (n4 + 1))), (8, .int 1), (7, .int (nI i44)), (0, .ref (g 100)), (1, .int v0), (2, .int v1), (3, .int v2)]) hx hb dX12_cheat_131 hl (ltb rfl) rfl (fun ls hl => ?_)
                    refine lv_iinc (v := (nI (i44 + 1))) (lv' := [(7, .int (nI (i44 + 1))), (6, .int (nI (n6 + 1))), (5, .int (nI (n5 + 0))), (4, .int (nI (n4 + 1))), (8, .int 1), (0, .ref (g 100)), (1, .int v0), (2, .int v1), (3, .int v2)]) hx hb dX12_cheat_133 hl (k := 4) rfl (nI_1 _) (ltb rfl) rfl (fun ls hl => ?_)
                    refine lv_goto (tgt := 44) hx hb dX12_cheat_136 rfl ?_
                    exact ih44 (i44 + 1) (n4 + 1) (n5 + 0) (n6 + 1) (by (first | omega | (have zz0 := Hid.u hi_cn; omega))) ⟨(by (first | omega | (have zz0 := Hid.u hi_cn; omega))), ⟨by (first | omega | (have zz0 := Hid.u hi_cn; omega)), by (first | omega | (have zz0 := Hid.u hi_cn; omega)), by (first | omega | (have zz0 := Hid.u hi_cn; omega))⟩⟩ ls (lv_sub hl [0, 1, 2, 3, 5, 6, 7, 8] rfl)
                ·
                  have tc_20 : ((nI a_19).toInt : Int) = v0.toInt := congrArg Int32.toInt c_20
                  refine lv_iconst (v := 1) hx hb (oc_4 99 shX12_cheat_99) kic_1 ?_
                  refine lv_goto (tgt := 104) hx hb (oc_167 100 (aq_1 shX12_cheat_99) sgw_0_4) rfl ?_
                  refine lv_iadd hx hb dX12_cheat_104 ?_
                  refine lv_topi (fun y_25 ey_25 => ?_)
                  obtain rfl : y_25 = (nI (n5 + 1)) := ey_25.trans (nI_add n5 1)
                  refine lv_istore (lv' := [(5, .int (nI (n5 + 1))), (4, .int (nI (n4 + 1))), (8, .int 1), (7, .int (nI i44)), (6, .int (nI n6)), (0, .ref (g 100)), (1, .int v0), (2, .int v1), (3, .int v2)]) hx hb dX12_cheat_105 hl (ltb rfl) rfl (fun ls hl => ?_)
                  refine lv_iload hx hb dX12_cheat_107 (lvA4 hl) ?_
                  refine lv_iload hx hb dX12_cheat_109 (lvA2 hl) ?_
                  refine lv_if_eq (tgt := 129) hx hb dX12_cheat_111 rfl (fun h => absurd h cq_eq_1_0) (fun _ => ?_)
                  refine lv_aload_n hx hb (oc_42 114 (aq_15 shX12_cheat_99)) rfl (lvA5 hl) ?_
                  refine gM_25 S hK hP (v := .ref (g 8)) rfl (oc_180 115 (aq_16 shX12_cheat_99) uw_0_25) ?_
                  refine lv_iload hx hb (oc_21 118 (aq_19 shX12_cheat_99) ub_7) (lvA3 hl) ?_
                  refine ldM_8 hx hb hK hP (x := (nI a_19)) (vp_in_nI kb_1 (ltb rfl)) (nI_clamp (Nat.lt_trans kb_1 (ltb rfl))) ea_19 (oc_46 120 (aq_21 shX12_cheat_99)) ?_
                  refine lv_iload_n hx hb (oc_27 121 (aq_22 shX12_cheat_99)) rfl (lvA6 hl) ?_
                  refine lv_icmp_ne (tgt := 129) hx hb (oc_160 122 (aq_23 shX12_cheat_99) sgw_0_7) rfl (fun c_26 => ?_) (fun c_26 => ?_)
                  ·
                    have tc_26 : ((nI a_19).toInt : Int) ≠ v0.toInt := fun q => c_26 (Int32.toInt_inj.mp q)
                    refine lv_iconst (v := 0) hx hb dX12_cheat_129 kic_0 ?_
                    refine lv_iadd hx hb dX12_cheat_130 ?_
                    refine lv_topi (fun y_27 ey_27 => ?_)
                    obtain rfl : y_27 = (nI (n6 + 0)) := ey_27.trans (nI_add n6 0)
                    refine lv_istore (lv' := [(6, .int (nI (n6 + 0))), (5, .int (nI (n5 + 1))), (4, .int (nI (n4 + 1))), (8, .int 1), (7, .int (nI i44)), (0, .ref (g 100)), (1, .int v0), (2, .int v1), (3, .int v2)]) hx hb dX12_cheat_131 hl (ltb rfl) rfl (fun ls hl => ?_)
                    refine lv_iinc (v := (nI (i44 + 1))) (lv' := [(7, .int (nI (i44 + 1))), (6, .int (nI (n6 + 0))), (5, .int (nI (n5 + 1))), (4, .int (nI (n4 + 1))), (8, .int 1), (0, .ref (g 100)), (1, .int v0), (2, .int v1), (3, .int v2)]) hx hb dX12_cheat_133 hl (k := 4) rfl (nI_1 _) (ltb rfl) rfl (fun ls hl => ?_)
                    refine lv_goto (tgt := 44) hx hb dX12_cheat_136 rfl ?_
                    exact ih44 (i44 + 1) (n4 + 1) (n5 + 1) (n6 + 0) (by (first | omega | (have zz0 := Hid.u hi_cn; omega))) ⟨(by (first | omega | (have zz0 := Hid.u hi_cn; omega))), ⟨by (first | omega | (have zz0 := Hid.u hi_cn; omega)), by (first | omega | (have zz0 := Hid.u hi_cn; omega)), by (first | omega | (have zz0 := Hid.u hi_cn; omega))⟩⟩ ls (lv_sub hl [0, 1, 2, 3, 5, 6, 7, 8] rfl)
                  ·
                    have tc_26 : ((nI a_19).toInt : Int) = v0.toInt := congrArg Int32.toInt c_26
                    refine lv_iconst (v := 1) hx hb (oc_4 125 shX12_cheat_125) kic_1 ?_
                    refine lv_goto (tgt := 130) hx hb (oc_167 126 (aq_1 shX12_cheat_125) sgw_0_4) rfl ?_
                    refine lv_iadd hx hb dX12_cheat_130 ?_
                    refine lv_topi (fun y_28 ey_28 => ?_)
                    obtain rfl : y_28 = (nI (n6 + 1)) := ey_28.trans (nI_add n6 1)
                    refine lv_istore (lv' := [(6, .int (nI (n6 + 1))), (5, .int (nI (n5 + 1))), (4, .int (nI (n4 + 1))), (8, .int 1), (7, .int (nI i44)), (0, .ref (g 100)), (1, .int v0), (2, .int v1), (3, .int v2)]) hx hb dX12_cheat_131 hl (ltb rfl) rfl (fun ls hl => ?_)
                    refine lv_iinc (v := (nI (i44 + 1))) (lv' := [(7, .int (nI (i44 + 1))), (6, .int (nI (n6 + 1))), (5, .int (nI (n5 + 1))), (4, .int (nI (n4 + 1))), (8, .int 1), (0, .ref (g 100)), (1, .int v0), (2, .int v1), (3, .int v2)]) hx hb dX12_cheat_133 hl (k := 4) rfl (nI_1 _) (ltb rfl) rfl (fun ls hl => ?_)
                    refine lv_goto (tgt := 44) hx hb dX12_cheat_136 rfl ?_
                    exact ih44 (i44 + 1) (n4 + 1) (n5 + 1) (n6 + 1) (by (first | omega | (have zz0 := Hid.u hi_cn; omega))) ⟨(by (first | omega | (have zz0 := Hid.u hi_cn; omega))), ⟨by (first | omega | (have zz0 := Hid.u hi_cn; omega)), by (first | omega | (have zz0 := Hid.u hi_cn; omega)), by (first | omega | (have zz0 := Hid.u hi_cn; omega))⟩⟩ ls (lv_sub hl [0, 1, 2, 3, 5, 6, 7, 8] rfl)
        exact lp_44 _ 0 0 0 0 (Nat.lt_succ_self _) ⟨(by (first | omega | (have zz0 := Hid.u hi_cn; omega))), ⟨by (first | omega | (have zz0 := Hid.u hi_cn; omega)), by (first | omega | (have zz0 := Hid.u hi_cn; omega)), by (first | omega | (have zz0 := Hid.u hi_cn; omega))⟩⟩ ls (lv_sub hl [0, 1, 2, 3, 4, 5, 6, 7] rfl)
      ·
        have h_6 : ¬ (0 ≤ v2.toInt ∧ v2.toInt ≤ 2) := h_6
        refine lv_if_ne (tgt := 32) hx hb (oc_154 25 shX12_cheat_25 sgw_0_7) rfl (fun h => absurd h cq_eq_0_0) (fun _ => ?_)
        refine lv_ldc2 (v := (-1)) hx hb hown (S.2.2.2.2 _ (wk8_6 5 rfl rfl)) (oc_20 28 (aq_3 shX12_cheat_25) uw_1_92) ?_
        exact W.lret (v := (-1)) hx hb hr (fun t ht hW => ⟨(-1), rfl, trivial, ht⟩) (fun _ h => absurd h List.not_mem_nil) (oc_173 31 (aq_6 shX12_cheat_25))
    ·
      have h_4 : ¬ (0 ≤ v1.toInt ∧ v1.toInt ≤ 1000) := h_4
      refine lv_if_eq (tgt := 28) hx hb (oc_153 16 (aq_16 shX12_cheat_0) sgw_0_12) rfl (fun _ => ?_) (fun h => absurd h cq_eq_0_0)
      refine lv_ldc2 (v := (-1)) hx hb hown (S.2.2.2.2 _ (wk8_6 5 rfl rfl)) (oc_20 28 (aq_3 shX12_cheat_25) uw_1_92) ?_
      exact W.lret (v := (-1)) hx hb hr (fun t ht hW => ⟨(-1), rfl, trivial, ht⟩) (fun _ h => absurd h List.not_mem_nil) (oc_173 31 (aq_6 shX12_cheat_25))
  ·
    have h_2 : ¬ (0 ≤ v0.toInt ∧ v0.toInt < ((cn 1) : Int)) := h_2
    refine lv_if_eq (tgt := 28) hx hb (oc_153 5 (aq_5 shX12_cheat_0) sgw_0_23) rfl (fun _ => ?_) (fun h => absurd h cq_eq_0_0)
    refine lv_ldc2 (v := (-1)) hx hb hown (S.2.2.2.2 _ (wk8_6 5 rfl rfl)) (oc_20 28 (aq_3 shX12_cheat_25) uw_1_92) ?_
    exact W.lret (v := (-1)) hx hb hr (fun t ht hW => ⟨(-1), rfl, trivial, ht⟩) (fun _ h => absurd h List.not_mem_nil) (oc_173 31 (aq_6 shX12_cheat_25))
end

section
def clr (l a : Nat) : Nat := if l.testBit a then l - 2 ^ a else l
theorem clrI {l a : Nat} (hl : l ≤ 255) (ha : a ≤ 7) : nI l &&& ((1 <<< (nI a &&& 31)) ^^^ (-1)) = nI (clr l a) := by
  have : ∀ l : Fin 256, ∀ a : Fin 8, nI l.val &&& ((1 <<< (nI a.val &&& 31)) ^^^ (-1)) = nI (clr l.val a.val) := by decide +kernel
  exact this ⟨l, by omega⟩ ⟨a, by omega⟩
theorem clr_le {l a : Nat} : clr l a ≤ l := by
  unfold clr
  split
  · exact Nat.sub_le _ _
  · exact Nat.le_refl _
theorem clr_bit {l a b : Nat} (hl : l ≤ 255) (ha : a ≤ 7) (hb : b ≤ 7) : (clr l a).testBit b = (l.testBit b && !(b == a)) := by
  first
    | (have e9 : clr l a = if l.testBit a then l ^^^ 2 ^ a else l := by
         have this : ∀ l : Fin 256, ∀ a : Fin 8, clr l.val a.val = if l.val.testBit a.val then l.val ^^^ 2 ^ a.val else l.val := by decide +kernel
         exact this ⟨l, by omega⟩ ⟨a, by omega⟩
       rw [e9]
       by_cases h : l.testBit a = true
       · rw [if_pos h, Nat.testBit_xor, Nat.testBit_two_pow]
         by_cases q : a = b
         · subst q
           simp [h]
         · have q2 : ¬ b = a := fun z => q z.symm
           simp [q, q2]
       · rw [if_neg h]
         by_cases q : b = a
         · subst q
           simp at h
           simp [h]
         · simp [q])
    | (have this : ∀ l : Fin 256, ∀ a : Fin 8, ∀ b : Fin 8, (clr l.val a.val).testBit b.val = (l.val.testBit b.val && !(b.val == a.val)) := by decide +kernel
       exact this ⟨l, by omega⟩ ⟨a, by omega⟩ ⟨b, by omega⟩)
theorem bitc {l b : Nat} (hl : l ≤ 255) (hb : b ≤ 7) : (l.testBit b = false ∧ (nI l >>> (nI b &&& 31)) &&& 1 = 0) ∨ (l.testBit b = true ∧ (nI l >>> (nI b &&& 31)) &&& 1 = 1) := by
  have : ∀ l : Fin 256, ∀ b : Fin 8, (l.val.testBit b.val = false ∧ (nI l.val >>> (nI b.val &&& 31)) &&& 1 = 0) ∨ (l.val.testBit b.val = true ∧ (nI l.val >>> (nI b.val &&& 31)) &&& 1 = 1) := by decide +kernel
  exact this ⟨l, by omega⟩ ⟨b, by omega⟩
/-- how many of the first m bits are set -/
def cntB (l : Nat) : Nat → Nat
  | 0 => 0
  | m + 1 => cntB l m + (l.testBit m).toNat
theorem cntB_0 {l m : Nat} (h : ∀ b, b < m → l.testBit b = false) : cntB l m = 0 := by
  induction m with
  | zero => rfl
  | succ m ih => rw [cntB, ih (fun b hb => h b (by omega)), h m (by omega)]; rfl
theorem cntB_clr {l a m : Nat} (hl : l ≤ 255) (ha : a ≤ 7) (hm : m ≤ 8) : cntB l m ≤ cntB (clr l a) m + 1 := by
  first
    | (have h : ∀ m : Nat, m ≤ 8 → cntB l m ≤ cntB (clr l a) m + (if a < m then 1 else 0) := by
         intro m
         induction m with
         | zero => exact fun _ => Nat.zero_le _
         | succ m ih =>
           intro hm
           have q := ih (by omega)
           show cntB l m + (l.testBit m).toNat ≤ cntB (clr l a) m + ((clr l a).testBit m).toNat + (if a < m + 1 then 1 else 0)
           by_cases e : m = a
           · have b1 : (l.testBit m).toNat ≤ 1 := by cases l.testBit m <;> decide
             rw [if_neg (by omega)] at q
             rw [if_pos (by omega)]
             omega
           · have b := clr_bit (b := m) hl ha (by omega)
             rw [beq_eq_false_iff_ne.mpr e, Bool.not_false, Bool.and_true] at b
             rw [b]
             by_cases g : a < m
             · rw [if_pos g] at q
               rw [if_pos (by omega)]
               omega
             · rw [if_neg g] at q
               rw [if_neg (by omega)]
               omega
       have q := h m hm
       by_cases g : a < m
       · rw [if_pos g] at q
         exact q
       · rw [if_neg g] at q
         exact Nat.le_succ_of_le q)
    | (have this : ∀ l : Fin 256, ∀ a : Fin 8, ∀ m : Fin 9, cntB l.val m.val ≤ cntB (clr l.val a.val) m.val + 1 := by decide +kernel
       exact this ⟨l, by omega⟩ ⟨a, by omega⟩ ⟨m, by omega⟩)
theorem full_bit {m b : Nat} (hm : m ≤ 8) (hb : b < m) : (2 ^ m - 1).testBit b = true := by
  have : ∀ m : Fin 9, ∀ b : Fin 8, b.val < m.val → (2 ^ m.val - 1).testBit b.val = true := by decide +kernel
  exact this ⟨m, by omega⟩ ⟨b, by omega⟩ hb
theorem full_cnt {m : Nat} (hm : m ≤ 8) : cntB (2 ^ m - 1) m = m := by
  have : ∀ m : Fin 9, cntB (2 ^ m.val - 1) m.val = m.val := by decide +kernel
  exact this ⟨m, by omega⟩
theorem full_le {m : Nat} (hm : m ≤ 8) : 1 ≤ 2 ^ m ∧ 2 ^ m ≤ 256 := by
  have : ∀ m : Fin 9, 1 ≤ 2 ^ m.val ∧ 2 ^ m.val ≤ 256 := by decide +kernel
  exact this ⟨m, by omega⟩
def NX (l : Nat) (x : Int32) (i : Nat) : Prop := (x = -1 ∧ ∀ b : Nat, b < i → l.testBit b = false) ∨ ∃ b : Nat, b < i ∧ x = nI b ∧ l.testBit b = true
theorem NX.zero {l : Nat} : NX l (-1) 0 := Or.inl ⟨rfl, fun b hb => absurd hb (Nat.not_lt_zero b)⟩
theorem NX.skip {l i : Nat} {x : Int32} (h : NX l x i) (hb : l.testBit i = false) : NX l x (i + 1) := by
  rcases h with ⟨h1, h2⟩ | ⟨b, h1, h2, h3⟩
  · refine Or.inl ⟨h1, fun b q => ?_⟩
    by_cases e : b = i
    · rw [e]; exact hb
    · exact h2 b (by omega)
  · exact Or.inr ⟨b, by omega, h2, h3⟩
theorem NX.keep {l i : Nat} {x : Int32} (h : NX l x i) (hx : ¬ x = -1) : NX l x (i + 1) := by
  rcases h with ⟨h1, h2⟩ | ⟨b, h1, h2, h3⟩
  · exact absurd h1 hx
  · exact Or.inr ⟨b, by omega, h2, h3⟩
theorem NX.set {l i : Nat} (hb : l.testBit i = true) : NX l (nI i) (i + 1) := Or.inr ⟨i, by omega, rfl, hb⟩
/-- who is asked -/
def AK (cn : Nat → Nat) (Fn : Nat → Nat → Int32) : Prop := ∀ a : Nat, a < cn 44 → ∃ n : Nat, n < cn 1 ∧ Fn 42 a = nI n
theorem AK.fr {lc li lf : List Nat} {cn c2 : Nat → Nat} {In I2 : Nat → Int32} {Fn F2 : Nat → Nat → Int32} (h : AK cn Fn) (f : Fr lc li lf cn In Fn c2 I2 F2) (hc : ∀ k ∈ [1, 44], k ∉ lc) (hf : ∀ k ∈ [42], k ∉ lf) : AK c2 F2 := by
  unfold AK
  rw [f.1 44 (hc 44 (by decide)), f.1 1 (hc 1 (by decide)), f.2.2 42 (hf 42 (by decide))]
  exact h
theorem AK.zero {cn : Nat → Nat} {Fn : Nat → Nat → Int32} : AK (va_up cn 44 0) Fn := fun a h => absurd (show a < 0 from h) (Nat.not_lt_zero a)
theorem AK.push {cn : Nat → Nat} {Fn : Nat → Nat → Int32} {k : Nat} (h : AK cn Fn) (hk : k < cn 1) : AK (va_up cn 44 (cn 44 + 1)) (va_up Fn 42 (upd (Fn 42) (cn 44) (nI k))) := fun a ha => by
  have ha : a < cn 44 + 1 := ha
  show ∃ n : Nat, n < cn 1 ∧ upd (Fn 42) (cn 44) (nI k) a = nI n
  by_cases e : a = cn 44
  · subst e; exact ⟨k, hk, by simp [upd]⟩
  · obtain ⟨n, h1, h2⟩ := h a (by omega)
    exact ⟨n, h1, by simp [upd, e, h2]⟩
theorem IM.e7up {cn : Nat → Nat} {Fn : Nat → Nat → Int32} {k : Nat} {x : Int32} (h : IM cn Fn) (h0 : 0 ≤ x.toInt) (h1 : x.toInt ≤ 399) : IM cn (va_up Fn 7 (upd (Fn 7) k x)) := by
  refine ⟨h.1, fun j hj => ?_, h.2.2⟩
  show 0 ≤ (upd (Fn 7) k x j).toInt ∧ (upd (Fn 7) k x j).toInt ≤ 399
  unfold upd
  split
  · exact ⟨h0, h1⟩
  · exact h.e7 j hj

theorem frq_44_0_1_2_46_57_58_62_63_75_83 {li lf : List Nat} {cn c2 : Nat → Nat} {In I2 : Nat → Int32} {Fn F2 : Nat → Nat → Int32} (h : Fr [44] li lf cn In Fn c2 I2 F2) : c2 0 = cn 0 ∧ c2 1 = cn 1 ∧ c2 2 = cn 2 ∧ c2 46 = cn 46 ∧ c2 57 = cn 57 ∧ c2 58 = cn 58 ∧ c2 62 = cn 62 ∧ c2 63 = cn 63 ∧ c2 75 = cn 75 ∧ c2 83 = cn 83 := ⟨h.1 0 (nml rfl), h.1 1 (nml rfl), h.1 2 (nml rfl), h.1 46 (nml rfl), h.1 57 (nml rfl), h.1 58 (nml rfl), h.1 62 (nml rfl), h.1 63 (nml rfl), h.1 75 (nml rfl), h.1 83 (nml rfl)⟩

set_option maxRecDepth 100000 in
set_option maxHeartbeats 4000000 in
theorem q_goes (l : Launch) (D : va_G) (cI cB cZ : ClassId) (g : Nat → Nat) (cn : Nat → Nat) (In : Nat → Int32) (Fn : Nat → Nat → Int32)  (sz : Nat) (hI : IM cn Fn) (h44 : cn 44 ≤ 8) (hAK : AK cn Fn) : Met l yX12_goes (CWS yX12_goes cX12_goes 7 none) (RM 2 0 0) (PBw [.ref (g 100)] D cI cB cZ (wM cI cB cZ g cn In Fn) sz) (va_Qv (fun (u : (Nat → Nat) × (Nat → Int32) × (Nat → Nat → Int32)) => (fun c2 I2 F2 => Fr [] [] [43] cn In Fn c2 I2 F2 ∧ IM c2 F2 ∧ (True)) u.1 u.2.1 u.2.2) (fun (u : (Nat → Nat) × (Nat → Int32) × (Nat → Nat → Int32)) (t : State) => va_P D vwCl (wM cI cB cZ g u.1 u.2.1 u.2.2) t.heap ∧ va_D (va_A (wM cI cB cZ g cn In Fn) sz) (wM cI cB cZ g u.1 u.2.1 u.2.2)) (va_A (wM cI cB cZ g cn In Fn) sz)) 0 0 (va_A (wM cI cB cZ g cn In Fn) sz) := by
  refine en_w (fun A => (va_Qv (fun (u : (Nat → Nat) × (Nat → Int32) × (Nat → Nat → Int32)) => (fun (c2 : Nat → Nat) (I2 : Nat → Int32) (F2 : Nat → Nat → Int32) => Fr [] [] [43] cn In Fn c2 I2 F2 ∧ IM c2 F2 ∧ (True)) u.1 u.2.1 u.2.2) (fun (u : (Nat → Nat) × (Nat → Int32) × (Nat → Nat → Int32)) (t : State) => va_P D vwCl (wM cI cB cZ g u.1 u.2.1 u.2.2) t.heap ∧ va_D A (wM cI cB cZ g u.1 u.2.1 u.2.2)) A)) rfl rfl pn_RX12 (Nat.le_of_ble_eq_true rfl) (fun p e s m below meth c A hx hb hml hown S hr hlocks hnm hA hP hK hD hS ls hl => ?_)
  have hl : lv_has ls 7 [(0, .ref (g 100))] := hl
  have hi_cn : Hid (CB cn) := hI.b
  refine lv_iconst (v := 1) hx hb (oc_4 0 shX12_goes_0) kic_1 ?_
  refine lv_aload_n hx hb (oc_42 1 (aq_1 shX12_goes_0)) rfl (lvA0 hl) ?_
  refine gM_364 S hK hP (v := .int (nI (cn 44))) rfl (oc_180 2 (aq_2 shX12_goes_0) uw_1_108) ?_
  refine lv_ishl hx hb (oc_120 5 (aq_5 shX12_goes_0)) ?_
  refine lv_topi (fun y_1 ey_1 => ?_)
  obtain rfl : y_1 = (nI (2 ^ cn 44)) := ey_1.trans (sh1 (by (first | omega | (have zz0 := Hid.u hi_cn; omega))))
  refine lv_iconst (v := 1) hx hb (oc_4 6 (aq_6 shX12_goes_0)) kic_1 ?_
  refine lv_isub hx hb (oc_100 7 (aq_7 shX12_goes_0)) ?_
  refine lv_topi (fun y_2 ey_2 => ?_)
  obtain rfl : y_2 = (nI (2 ^ cn 44 - 1)) := ey_2.trans (nI_sub (b := 1) (full_le (by (first | omega | (have zz0 := Hid.u hi_cn; omega)))).1)
  refine lv_istore_n (lv' := [(1, .int (nI (2 ^ cn 44 - 1))), (0, .ref (g 100))]) hx hb (oc_60 8 (aq_8 shX12_goes_0)) rfl hl (ltb rfl) rfl (fun ls hl => ?_)
  have h2p := full_le h44
  refine lv_iconst (v := 0) hx hb (oc_3 9 (aq_9 shX12_goes_0)) kic_0 ?_
  refine lv_istore_n (lv' := [(2, .int 0), (1, .int (nI (2 ^ cn 44 - 1))), (0, .ref (g 100))]) hx hb (oc_61 10 (aq_10 shX12_goes_0)) rfl hl (ltb rfl) rfl (fun ls hl => ?_)
  have lp_11 : ∀ (n : Nat) (i11 : Nat) (F11 : Nat → Nat → Int32) (H : Heap) (locs : List Loc) , 2 ^ cn 44 - i11 < n → (i11 ≤ 2 ^ cn 44 ∧ Fr [] [] [43] cn In Fn cn In F11 ∧ IM cn F11 ∧ (AK cn F11)) → va_P D vwCl (wM cI cB cZ g cn In F11) H → va_D A (wM cI cB cZ g cn In F11) → va_S A s.heap H locs → ∀ ls : Array Slot, lv_has ls 7 [(2, .int (nI i11)), (1, .int (nI (2 ^ cn 44 - 1))), (0, .ref (g 100))] → W p l e (RM 2 0 0) s m ([.ref (g 100)]).toArray below meth c H locs 0 0 (MQ below (va_Qv (fun (u : (Nat → Nat) × (Nat → Int32) × (Nat → Nat → Int32)) => (fun c2 I2 F2 => Fr [] [] [43] cn In Fn c2 I2 F2 ∧ IM c2 F2 ∧ (True)) u.1 u.2.1 u.2.2) (fun (u : (Nat → Nat) × (Nat → Int32) × (Nat → Nat → Int32)) (t : State) => va_P D vwCl (wM cI cB cZ g u.1 u.2.1 u.2.2) t.heap ∧ va_D A (wM cI cB cZ g u.1 u.2.1 u.2.2)) A) ([.ref (g 100)]).toArray s 0 0 A) (F0 m 11 ls []) := by
    intro n11
    induction n11 with
    | zero => intros; (first | omega | (have zz0 := Hid.u hi_cn; omega))
    | succ n11 ih11 =>
      intro i11 F11 H locs hmu11 hinv11 hP hD hS ls hl
      obtain ⟨hr11, hfr11, hI11, hx11_0⟩ := hinv11
      have ti11 : (nI i11).toInt = (i11 : Int) := nI_toInt (by (first | omega | (have zz0 := Hid.u hi_cn; omega)))
      have hi_cn : Hid (CB cn) := hI11.b
      refine lv_iload_n hx hb (oc_28 11 (aq_11 shX12_goes_0)) rfl (lvA0 hl) ?_
      refine lv_iload_n hx hb (oc_27 12 (aq_12 shX12_goes_0)) rfl (lvA1 hl) ?_
      have : (nI (2 ^ cn 44 - 1)).toInt = (((2 ^ cn 44 - 1) : Nat) : Int) := nI_toInt (by (first | omega | (have zz0 := Hid.u hi_cn; omega)))
      refine lv_icmp_gt (tgt := 158) hx hb (oc_163 13 (aq_13 shX12_goes_0) sgw_0_145) rfl (fun c_3 => ?_) (fun c_3 => ?_)
      ·
        have tc_3 : ((nI (2 ^ cn 44 - 1)).toInt : Int) < (nI i11).toInt := Int32.lt_iff_toInt_lt.mp c_3
        exact W.vret hx hb hr (fun t ht hW => ⟨⟨(cn, In, F11), rfl, ⟨(Fr.mo hfr11 (sbl rfl) (sbl rfl) (sbl rfl)), hI11, trivial⟩, by rw [ht]; exact hP, hD⟩, hS.F ht⟩) hS.2.2 (oc_177 158 (aq_9 shX12_goes_149))
      ·
        have tc_3 : ((nI i11).toInt : Int) ≤ (nI (2 ^ cn 44 - 1)).toInt := Int32.le_iff_toInt_le.mp (Int32.not_lt.mp c_3)
        refine lv_iconst (v := 0) hx hb (oc_3 16 (aq_16 shX12_goes_0)) kic_0 ?_
        refine lv_istore_n (lv' := [(3, .int 0), (2, .int (nI i11)), (1, .int (nI (2 ^ cn 44 - 1))), (0, .ref (g 100))]) hx hb (oc_62 17 (aq_17 shX12_goes_0)) rfl hl (ltb rfl) rfl (fun ls hl => ?_)
        have lp_18 : ∀ (n : Nat) (i18 : Nat) (F18 : Nat → Nat → Int32) (H : Heap) (locs : List Loc) , cn 44 - i18 < n → (i18 ≤ cn 44 ∧ Fr [] [] [43] cn In Fn cn In F18 ∧ IM cn F18 ∧ (AK cn F18)) → va_P D vwCl (wM cI cB cZ g cn In F18) H → va_D A (wM cI cB cZ g cn In F18) → va_S A s.heap H locs → ∀ ls : Array Slot, lv_has ls 7 [(3, .int (nI i18)), (2, .int (nI i11)), (1, .int (nI (2 ^ cn 44 - 1))), (0, .ref (g 100))] → W p l e (RM 2 0 0) s m ([.ref (g 100)]).toArray below meth c H locs 0 0 (MQ below (va_Qv (fun (u : (Nat → Nat) × (Nat → Int32) × (Nat → Nat → Int32)) => (fun c2 I2 F2 => Fr [] [] [43] cn In Fn c2 I2 F2 ∧ IM c2 F2 ∧ (True)) u.1 u.2.1 u.2.2) (fun (u : (Nat → Nat) × (Nat → Int32) × (Nat → Nat → Int32)) (t : State) => va_P D vwCl (wM cI cB cZ g u.1 u.2.1 u.2.2) t.heap ∧ va_D A (wM cI cB cZ g u.1 u.2.1 u.2.2)) A) ([.ref (g 100)]).toArray s 0 0 A) (F0 m 18 ls []) := by
          intro n18
          induction n18 with
          | zero => intros; (first | omega | (have zz0 := Hid.u hi_cn; omega))
          | succ n18 ih18 =>
            intro i18 F18 H locs hmu18 hinv18 hP hD hS ls hl
            obtain ⟨hr18, hfr18, hI18, hx18_0⟩ := hinv18
            have ti18 : (nI i18).toInt = (i18 : Int) := nI_toInt (by (first | omega | (have zz0 := Hid.u hi_cn; omega)))
            have hi_cn : Hid (CB cn) := hI18.b
            refine lv_iload_n hx hb (oc_29 18 (aq_18 shX12_goes_0)) rfl (lvA0 hl) ?_
            refine lv_aload_n hx hb (oc_42 19 (aq_19 shX12_goes_0)) rfl (lvA3 hl) ?_
            refine gM_364 S hK hP (v := .int (nI (cn 44))) rfl (oc_180 20 (aq_20 shX12_goes_0) uw_1_108) ?_
            have : (nI (cn 44)).toInt = (((cn 44) : Nat) : Int) := nI_toInt (by (first | omega | (have zz0 := Hid.u hi_cn; omega)))
            refine lv_icmp_ge (tgt := 152) hx hb (oc_162 23 (aq_23 shX12_goes_0) sgw_0_129) rfl (fun c_4 => ?_) (fun c_4 => ?_)
            ·
              have tc_4 : ((nI (cn 44)).toInt : Int) ≤ (nI i18).toInt := Int32.le_iff_toInt_le.mp c_4
              refine lv_iinc (v := (nI (i11 + 1))) (lv' := [(2, .int (nI (i11 + 1))), (3, .int (nI i18)), (1, .int (nI (2 ^ cn 44 - 1))), (0, .ref (g 100))]) hx hb (oc_132 152 (aq_3 shX12_goes_149) ub_2 sgb_1) hl (k := 1) rfl (nI_1 _) (ltb rfl) rfl (fun ls hl => ?_)
              refine lv_goto (tgt := 11) hx hb (oc_167 155 (aq_6 shX12_goes_149) sgw_255_112) rfl ?_
              exact ih11 (i11 + 1) F18 _ _ (by (first | omega | (have zz0 := Hid.u hi_cn; omega))) ⟨(by (first | omega | (have zz0 := Hid.u hi_cn; omega))), (Fr.mo hfr18 (sbl rfl) (sbl rfl) (sbl rfl)), hI18, hx18_0⟩ hP hD hS ls (lv_sub hl [0, 2, 3] rfl)
            ·
              have tc_4 : ((nI i18).toInt : Int) < (nI (cn 44)).toInt := Int32.lt_iff_toInt_lt.mp (Int32.not_le.mp c_4)
              refine lv_iload_n hx hb (oc_28 26 shX12_goes_26) rfl (lvA1 hl) ?_
              refine lv_if_ne (tgt := 43) hx hb (oc_154 27 (aq_1 shX12_goes_26) sgw_0_16) rfl (fun c_5 => ?_) (fun c_5 => ?_)
              ·
                have tc_5 : ((nI i11).toInt : Int) ≠ 0 := fun q => c_5 (Int32.toInt_inj.mp q)
                refine lv_ldcw (v := 1000000) hx hb hown (S.2.2.2.2 _ (wk8_10 9 rfl rfl)) (oc_19 43 (aq_17 shX12_goes_26) uw_1_114) ?_
                refine lv_istore (lv' := [(4, .int 1000000), (3, .int (nI i18)), (2, .int (nI i11)), (1, .int (nI (2 ^ cn 44 - 1))), (0, .ref (g 100))]) hx hb dX12_goes_46 hl (ltb rfl) rfl (fun ls hl => ?_)
                refine lv_iconst (v := 0) hx hb dX12_goes_48 kic_0 ?_
                refine lv_istore (lv' := [(5, .int 0), (4, .int 1000000), (3, .int (nI i18)), (2, .int (nI i11)), (1, .int (nI (2 ^ cn 44 - 1))), (0, .ref (g 100))]) hx hb dX12_goes_49 hl (ltb rfl) rfl (fun ls hl => ?_)
                have lp_51 : ∀ (n : Nat) (i51 : Nat) (x51_4 : Int32) , cn 44 - i51 < n → (i51 ≤ cn 44) → ∀ ls : Array Slot, lv_has ls 7 [(5, .int (nI i51)), (4, .int x51_4), (3, .int (nI i18)), (2, .int (nI i11)), (1, .int (nI (2 ^ cn 44 - 1))), (0, .ref (g 100))] → W p l e (RM 2 0 0) s m ([.ref (g 100)]).toArray below meth c H locs 0 0 (MQ below (va_Qv (fun (u : (Nat → Nat) × (Nat → Int32) × (Nat → Nat → Int32)) => (fun c2 I2 F2 => Fr [] [] [43] cn In Fn c2 I2 F2 ∧ IM c2 F2 ∧ (True)) u.1 u.2.1 u.2.2) (fun (u : (Nat → Nat) × (Nat → Int32) × (Nat → Nat → Int32)) (t : State) => va_P D vwCl (wM cI cB cZ g u.1 u.2.1 u.2.2) t.heap ∧ va_D A (wM cI cB cZ g u.1 u.2.1 u.2.2)) A) ([.ref (g 100)]).toArray s 0 0 A) (F0 m 51 ls []) := by
                  intro n51
                  induction n51 with
                  | zero => intros; (first | omega | (have zz0 := Hid.u hi_cn; omega))
                  | succ n51 ih51 =>
                    intro i51 x51_4 hmu51 hinv51 ls hl
                    have hr51 := hinv51
                    have ti51 : (nI i51).toInt = (i51 : Int) := nI_toInt (by (first | omega | (have zz0 := Hid.u hi_cn; omega)))
                    refine lv_iload hx hb dX12_goes_51 (lvA0 hl) ?_
                    refine lv_aload_n hx hb dX12_goes_53 rfl (lvA5 hl) ?_
                    refine gM_364 S hK hP (v := .int (nI (cn 44))) rfl dX12_goes_54 ?_
                    refine lv_icmp_ge (tgt := 133) hx hb dX12_goes_57 rfl (fun c_6 => ?_) (fun c_6 => ?_)
                    ·
                      have tc_6 : ((nI (cn 44)).toInt : Int) ≤ (nI i51).toInt := Int32.le_iff_toInt_le.mp c_6
                      refine lv_aload_n hx hb dX12_goes_133 rfl (lvA5 hl) ?_
                      refine gM_104 S hK hP (v := .ref (g 43)) rfl dX12_goes_134 ?_
                      refine lv_bipush (v := 8) hx hb dX12_goes_137 kbc_8 ?_
                      refine lv_iload_n hx hb dX12_goes_139 rfl (lvA3 hl) ?_
                      refine lv_imul hx hb dX12_goes_140 ?_
                      refine lv_topi (fun y_7 ey_7 => ?_)
                      obtain rfl : y_7 = (nI (8 * i11)) := ey_7.trans (pk_mul 8 i11)
                      refine lv_iload_n hx hb dX12_goes_141 rfl (lvA2 hl) ?_
                      refine lv_iadd hx hb dX12_goes_142 ?_
                      refine lv_topi (fun y_8 ey_8 => ?_)
                      obtain rfl : y_8 = (nI ((8 * i11) + i18)) := ey_8.trans (nI_add (8 * i11) i18)
                      refine lv_iload hx hb dX12_goes_143 (lvA1 hl) ?_
                      have kb_1 : ((8 * i11) + i18) < 2048 := by (first | omega | (have zz0 := Hid.u hi_cn; omega))
                      refine stM_43 hx hb hK hP hD hS (Fn2 := (va_up F18 43 (upd (F18 43) ((8 * i11) + i18) x51_4))) (vp_in_nI kb_1 (ltb rfl)) (nI_clamp (Nat.lt_trans kb_1 (ltb rfl))) rfl dX12_goes_145 (fun H locs hP hD hS => ?_)
                      refine lv_iinc (v := (nI (i18 + 1))) (lv' := [(3, .int (nI (i18 + 1))), (5, .int (nI i51)), (4, .int x51_4), (2, .int (nI i11)), (1, .int (nI (2 ^ cn 44 - 1))), (0, .ref (g 100))]) hx hb dX12_goes_146 hl (k := 2) rfl (nI_1 _) (ltb rfl) rfl (fun ls hl => ?_)
                      refine lv_goto (tgt := 18) hx hb dX12_goes_149 rfl ?_
                      exact ih18 (i18 + 1) (va_up F18 43 (upd (F18 43) ((8 * i11) + i18) x51_4)) _ _ (by (first | omega | (have zz0 := Hid.u hi_cn; omega))) ⟨(by (first | omega | (have zz0 := Hid.u hi_cn; omega))), (Fr.mo (Fr.f 43 hfr18) (sbl rfl) (sbl rfl) (sbl rfl)), (IM.fr (In := In) hI18 (Fr.f 43 Fr.rf) (by decide) (by decide)), (AK.fr (In := In) hx18_0 (Fr.f 43 Fr.rf) (by decide) (by decide))⟩ hP hD hS ls (lv_sub hl [0, 3, 4, 5] rfl)
                    ·
                      have tc_6 : ((nI i51).toInt : Int) < (nI (cn 44)).toInt := Int32.lt_iff_toInt_lt.mp (Int32.not_le.mp c_6)
                      refine lv_iload_n hx hb dX12_goes_60 rfl (lvA3 hl) ?_
                      refine lv_iload hx hb dX12_goes_61 (lvA0 hl) ?_
                      refine lv_ishr hx hb dX12_goes_63 ?_
                      refine lv_iconst (v := 1) hx hb dX12_goes_64 kic_1 ?_
                      refine lv_iand hx hb dX12_goes_65 ?_
                      refine lv_topi (fun y_9 ey_9 => ?_)
                      rcases bitc (l := i11) (b := i51) (by (first | omega | (have zz0 := Hid.u hi_cn; omega))) (by (first | omega | (have zz0 := Hid.u hi_cn; omega))) with ⟨hb_y_9, qy_9⟩ | ⟨hb_y_9, qy_9⟩
                      ·
                        obtain rfl : y_9 = 0 := ey_9.trans qy_9
                        refine lv_if_ne (tgt := 72) hx hb dX12_goes_66 rfl (fun h => absurd h cq_eq_0_0) (fun _ => ?_)
                        refine lv_goto (tgt := 127) hx hb dX12_goes_69 rfl ?_
                        refine lv_iinc (v := (nI (i51 + 1))) (lv' := [(5, .int (nI (i51 + 1))), (4, .int x51_4), (3, .int (nI i18)), (2, .int (nI i11)), (1, .int (nI (2 ^ cn 44 - 1))), (0, .ref (g 100))]) hx hb dX12_goes_127 hl (k := 0) rfl (nI_1 _) (ltb rfl) rfl (fun ls hl => ?_)
                        refine lv_goto (tgt := 51) hx hb dX12_goes_130 rfl ?_
                        exact ih51 (i51 + 1) x51_4 (by (first | omega | (have zz0 := Hid.u hi_cn; omega))) (by (first | omega | (have zz0 := Hid.u hi_cn; omega))) ls (lv_sub hl [0, 1, 2, 3, 4, 5] rfl)
                      ·
                        obtain rfl : y_9 = 1 := ey_9.trans qy_9
                        refine lv_if_ne (tgt := 72) hx hb dX12_goes_66 rfl (fun _ => ?_) (fun h => absurd h cq_eq_1_0)
                        refine lv_aload_n hx hb dX12_goes_72 rfl (lvA5 hl) ?_
                        refine lv_aload_n hx hb dX12_goes_73 rfl (lvA5 hl) ?_
                        refine gM_101 S hK hP (v := .ref (g 42)) rfl dX12_goes_74 ?_
                        refine lv_iload_n hx hb dX12_goes_77 rfl (lvA2 hl) ?_
                        have kb_2 : i18 < 10 := by (first | omega | (have zz0 := Hid.u hi_cn; omega))
                        obtain ⟨a_10, ha_10, ea_10⟩ := hx18_0 i18 (by (first | omega | (have zz0 := Hid.u hi_cn; omega)))
                        refine ldM_42 hx hb hK hP (x := (nI a_10)) (vp_in_nI kb_2 (ltb rfl)) (nI_clamp (Nat.lt_trans kb_2 (ltb rfl))) ea_10 dX12_goes_78 ?_
                        refine lv_aload_n hx hb dX12_goes_79 rfl (lvA5 hl) ?_
                        refine gM_101 S hK hP (v := .ref (g 42)) rfl dX12_goes_80 ?_
                        refine lv_iload hx hb dX12_goes_83 (lvA0 hl) ?_
                        have kb_3 : i51 < 10 := by (first | omega | (have zz0 := Hid.u hi_cn; omega))
                        obtain ⟨a_11, ha_11, ea_11⟩ := hx18_0 i51 (by (first | omega | (have zz0 := Hid.u hi_cn; omega)))
                        refine ldM_42 hx hb hK hP (x := (nI a_11)) (vp_in_nI kb_3 (ltb rfl)) (nI_clamp (Nat.lt_trans kb_3 (ltb rfl))) ea_11 dX12_goes_85 ?_
                        refine vp_callSi (runV_ra (As := [.int (nI a_10), .int (nI a_11)]) (rest := []) S (q_way l D cI cB cZ g cn In F18 a_10 a_11 hI18 (by (first | omega | (have zz0 := Hid.u hi_cn; omega))) (by (first | omega | (have zz0 := Hid.u hi_cn; omega)))) kV_RX12_371 hK hP 0 rfl rfl rfl ⟨Nat.le_of_ble_eq_true rfl, Nat.le_of_ble_eq_true rfl⟩ ⟨Nat.le_of_ble_eq_true rfl, Nat.le_of_ble_eq_true rfl⟩ rfl hl.1 rfl (Nat.le_of_ble_eq_true rfl) dX12_goes_86) (fun r_12 h_13 => ?_)
                        subst h_13
                        refine lv_aload_n hx hb dX12_goes_89 rfl (lvA5 hl) ?_
                        refine gM_104 S hK hP (v := .ref (g 43)) rfl dX12_goes_90 ?_
                        refine lv_bipush (v := 8) hx hb dX12_goes_93 kbc_8 ?_
                        refine lv_iload_n hx hb dX12_goes_95 rfl (lvA3 hl) ?_
                        refine lv_iconst (v := 1) hx hb dX12_goes_96 kic_1 ?_
                        refine lv_iload hx hb dX12_goes_97 (lvA0 hl) ?_
                        refine lv_ishl hx hb dX12_goes_99 ?_
                        refine lv_iconst (v := (-1)) hx hb dX12_goes_100 kic_m1 ?_
                        refine lv_ixor hx hb dX12_goes_101 ?_
                        refine lv_iand hx hb dX12_goes_102 ?_
                        refine lv_topi (fun y_14 ey_14 => ?_)
                        obtain rfl : y_14 = (nI (clr i11 i51)) := ey_14.trans (clrI (by (first | omega | (have zz0 := Hid.u hi_cn; omega))) (by (first | omega | (have zz0 := Hid.u hi_cn; omega))))
                        have hcl := clr_le (l := i11) (a := i51)
                        refine lv_imul hx hb dX12_goes_103 ?_
                        refine lv_topi (fun y_15 ey_15 => ?_)
                        obtain rfl : y_15 = (nI (8 * (clr i11 i51))) := ey_15.trans (pk_mul 8 (clr i11 i51))
                        refine lv_iload hx hb dX12_goes_104 (lvA0 hl) ?_
                        refine lv_iadd hx hb dX12_goes_106 ?_
                        refine lv_topi (fun y_16 ey_16 => ?_)
                        obtain rfl : y_16 = (nI ((8 * (clr i11 i51)) + i51)) := ey_16.trans (nI_add (8 * (clr i11 i51)) i51)
                        have kb_4 : ((8 * (clr i11 i51)) + i51) < 2048 := by (first | omega | (have zz0 := Hid.u hi_cn; omega))
                        refine ldM_43 hx hb hK hP (x := ((F18 43) ((8 * (clr i11 i51)) + i51))) (vp_in_nI kb_4 (ltb rfl)) (nI_clamp (Nat.lt_trans kb_4 (ltb rfl))) rfl dX12_goes_107 ?_
                        refine lv_iadd hx hb dX12_goes_108 ?_
                        refine lv_istore (lv' := [(6, .int ((apM ((F18 3) a_10) ((F18 4) a_10) ((F18 3) a_11) ((F18 4) a_11)) + ((F18 43) ((8 * (clr i11 i51)) + i51)))), (5, .int (nI i51)), (4, .int x51_4), (3, .int (nI i18)), (2, .int (nI i11)), (1, .int (nI (2 ^ cn 44 - 1))), (0, .ref (g 100))]) hx hb dX12_goes_109 hl (ltb rfl) rfl (fun ls hl => ?_)
                        refine lv_iload hx hb dX12_goes_111 (lvA0 hl) ?_
                        refine lv_iload hx hb dX12_goes_113 (lvA2 hl) ?_
                        refine lv_icmp_ge (tgt := 123) hx hb dX12_goes_115 rfl (fun c_17 => ?_) (fun c_17 => ?_)
                        ·
                          have tc_17 : (x51_4.toInt : Int) ≤ ((apM ((F18 3) a_10) ((F18 4) a_10) ((F18 3) a_11) ((F18 4) a_11)) + ((F18 43) ((8 * (clr i11 i51)) + i51))).toInt := Int32.le_iff_toInt_le.mp c_17
                          refine lv_iload hx hb dX12_goes_123 (lvA2 hl) ?_
                          refine lv_istore (lv' := [(4, .int x51_4), (6, .int ((apM ((F18 3) a_10) ((F18 4) a_10) ((F18 3) a_11) ((F18 4) a_11)) + ((F18 43) ((8 * (clr i11 i51)) + i51)))), (5, .int (nI i51)), (3, .int (nI i18)), (2, .int (nI i11)), (1, .int (nI (2 ^ cn 44 - 1))), (0, .ref (g 100))]) hx hb dX12_goes_125 hl (ltb rfl) rfl (fun ls hl => ?_)
                          refine lv_iinc (v := (nI (i51 + 1))) (lv' := [(5, .int (nI (i51 + 1))), (4, .int x51_4), (6, .int ((apM ((F18 3) a_10) ((F18 4) a_10) ((F18 3) a_11) ((F18 4) a_11)) + ((F18 43) ((8 * (clr i11 i51)) + i51)))), (3, .int (nI i18)), (2, .int (nI i11)), (1, .int (nI (2 ^ cn 44 - 1))), (0, .ref (g 100))]) hx hb dX12_goes_127 hl (k := 2) rfl (nI_1 _) (ltb rfl) rfl (fun ls hl => ?_)
                          refine lv_goto (tgt := 51) hx hb dX12_goes_130 rfl ?_
                          exact ih51 (i51 + 1) x51_4 (by (first | omega | (have zz0 := Hid.u hi_cn; omega))) (by (first | omega | (have zz0 := Hid.u hi_cn; omega))) ls (lv_sub hl [0, 1, 3, 4, 5, 6] rfl)
                        ·
                          have tc_17 : (((apM ((F18 3) a_10) ((F18 4) a_10) ((F18 3) a_11) ((F18 4) a_11)) + ((F18 43) ((8 * (clr i11 i51)) + i51))).toInt : Int) < x51_4.toInt := Int32.lt_iff_toInt_lt.mp (Int32.not_le.mp c_17)
                          refine lv_iload hx hb dX12_goes_118 (lvA0 hl) ?_
                          refine lv_goto (tgt := 125) hx hb dX12_goes_120 rfl ?_
                          refine lv_istore (lv' := [(4, .int ((apM ((F18 3) a_10) ((F18 4) a_10) ((F18 3) a_11) ((F18 4) a_11)) + ((F18 43) ((8 * (clr i11 i51)) + i51)))), (6, .int ((apM ((F18 3) a_10) ((F18 4) a_10) ((F18 3) a_11) ((F18 4) a_11)) + ((F18 43) ((8 * (clr i11 i51)) + i51)))), (5, .int (nI i51)), (3, .int (nI i18)), (2, .int (nI i11)), (1, .int (nI (2 ^ cn 44 - 1))), (0, .ref (g 100))]) hx hb dX12_goes_125 hl (ltb rfl) rfl (fun ls hl => ?_)
                          refine lv_iinc (v := (nI (i51 + 1))) (lv' := [(5, .int (nI (i51 + 1))), (4, .int ((apM ((F18 3) a_10) ((F18 4) a_10) ((F18 3) a_11) ((F18 4) a_11)) + ((F18 43) ((8 * (clr i11 i51)) + i51)))), (6, .int ((apM ((F18 3) a_10) ((F18 4) a_10) ((F18 3) a_11) ((F18 4) a_11)) + ((F18 43) ((8 * (clr i11 i51)) + i51)))), (3, .int (nI i18)), (2, .int (nI i11)), (1, .int (nI (2 ^ cn 44 - 1))), (0, .ref (g 100))]) hx hb dX12_goes_127 hl (k := 2) rfl (nI_1 _) (ltb rfl) rfl (fun ls hl => ?_)
                          refine lv_goto (tgt := 51) hx hb dX12_goes_130 rfl ?_
                          exact ih51 (i51 + 1) ((apM ((F18 3) a_10) ((F18 4) a_10) ((F18 3) a_11) ((F18 4) a_11)) + ((F18 43) ((8 * (clr i11 i51)) + i51))) (by (first | omega | (have zz0 := Hid.u hi_cn; omega))) (by (first | omega | (have zz0 := Hid.u hi_cn; omega))) ls (lv_sub hl [0, 1, 3, 4, 5, 6] rfl)
                exact lp_51 _ 0 1000000 (Nat.lt_succ_self _) (by (first | omega | (have zz0 := Hid.u hi_cn; omega))) ls (lv_sub hl [0, 1, 2, 3, 4, 5] rfl)
              ·
                have tc_5 : ((nI i11).toInt : Int) = 0 := congrArg Int32.toInt c_5
                refine lv_aload_n hx hb (oc_42 30 (aq_4 shX12_goes_26)) rfl (lvA3 hl) ?_
                refine lv_aload_n hx hb (oc_42 31 (aq_5 shX12_goes_26)) rfl (lvA3 hl) ?_
                refine gM_101 S hK hP (v := .ref (g 42)) rfl (oc_180 32 (aq_6 shX12_goes_26) uw_0_101) ?_
                refine lv_iload_n hx hb (oc_29 35 (aq_9 shX12_goes_26)) rfl (lvA0 hl) ?_
                have kb_5 : i18 < 10 := by (first | omega | (have zz0 := Hid.u hi_cn; omega))
                obtain ⟨a_18, ha_18, ea_18⟩ := hx18_0 i18 (by (first | omega | (have zz0 := Hid.u hi_cn; omega)))
                refine ldM_42 hx hb hK hP (x := (nI a_18)) (vp_in_nI kb_5 (ltb rfl)) (nI_clamp (Nat.lt_trans kb_5 (ltb rfl))) ea_18 (oc_46 36 (aq_10 shX12_goes_26)) ?_
                refine vp_callSi (runV_ra (As := [.int (nI a_18)]) (rest := []) S (q_toDepot l D cI cB cZ g cn In F18 a_18 hI18 (by (first | omega | (have zz0 := Hid.u hi_cn; omega)))) kV_RX12_367 hK hP 0 rfl rfl rfl ⟨Nat.le_of_ble_eq_true rfl, Nat.le_of_ble_eq_true rfl⟩ ⟨Nat.le_of_ble_eq_true rfl, Nat.le_of_ble_eq_true rfl⟩ rfl hl.1 rfl (Nat.le_of_ble_eq_true rfl) (oc_182 37 (aq_11 shX12_goes_26) uw_1_111)) (fun r_19 h_20 => ?_)
                subst h_20
                refine lv_goto (tgt := 46) hx hb (oc_167 40 (aq_14 shX12_goes_26) sgw_0_6) rfl ?_
                refine lv_istore (lv' := [(4, .int ((F18 3) a_18 + (F18 4) a_18)), (3, .int (nI i18)), (2, .int (nI i11)), (1, .int (nI (2 ^ cn 44 - 1))), (0, .ref (g 100))]) hx hb dX12_goes_46 hl (ltb rfl) rfl (fun ls hl => ?_)
                refine lv_iconst (v := 0) hx hb dX12_goes_48 kic_0 ?_
                refine lv_istore (lv' := [(5, .int 0), (4, .int ((F18 3) a_18 + (F18 4) a_18)), (3, .int (nI i18)), (2, .int (nI i11)), (1, .int (nI (2 ^ cn 44 - 1))), (0, .ref (g 100))]) hx hb dX12_goes_49 hl (ltb rfl) rfl (fun ls hl => ?_)
                have lp_51 : ∀ (n : Nat) (i51 : Nat) (x51_4 : Int32) , cn 44 - i51 < n → (i51 ≤ cn 44) → ∀ ls : Array Slot, lv_has ls 7 [(5, .int (nI i51)), (4, .int x51_4), (3, .int (nI i18)), (2, .int (nI i11)), (1, .int (nI (2 ^ cn 44 - 1))), (0, .ref (g 100))] → W p l e (RM 2 0 0) s m ([.ref (g 100)]).toArray below meth c H locs 0 0 (MQ below (va_Qv (fun (u : (Nat → Nat) × (Nat → Int32) × (Nat → Nat → Int32)) => (fun c2 I2 F2 => Fr [] [] [43] cn In Fn c2 I2 F2 ∧ IM c2 F2 ∧ (True)) u.1 u.2.1 u.2.2) (fun (u : (Nat → Nat) × (Nat → Int32) × (Nat → Nat → Int32)) (t : State) => va_P D vwCl (wM cI cB cZ g u.1 u.2.1 u.2.2) t.heap ∧ va_D A (wM cI cB cZ g u.1 u.2.1 u.2.2)) A) ([.ref (g 100)]).toArray s 0 0 A) (F0 m 51 ls []) := by
                  intro n51
                  induction n51 with
                  | zero => intros; (first | omega | (have zz0 := Hid.u hi_cn; omega))
                  | succ n51 ih51 =>
                    intro i51 x51_4 hmu51 hinv51 ls hl
                    have hr51 := hinv51
                    have ti51 : (nI i51).toInt = (i51 : Int) := nI_toInt (by (first | omega | (have zz0 := Hid.u hi_cn; omega)))
                    refine lv_iload hx hb dX12_goes_51 (lvA0 hl) ?_
                    refine lv_aload_n hx hb dX12_goes_53 rfl (lvA5 hl) ?_
                    refine gM_364 S hK hP (v := .int (nI (cn 44))) rfl dX12_goes_54 ?_
                    refine lv_icmp_ge (tgt := 133) hx hb dX12_goes_57 rfl (fun c_21 => ?_) (fun c_21 => ?_)
                    ·
                      have tc_21 : ((nI (cn 44)).toInt : Int) ≤ (nI i51).toInt := Int32.le_iff_toInt_le.mp c_21
                      refine lv_aload_n hx hb dX12_goes_133 rfl (lvA5 hl) ?_
                      refine gM_104 S hK hP (v := .ref (g 43)) rfl dX12_goes_134 ?_
                      refine lv_bipush (v := 8) hx hb dX12_goes_137 kbc_8 ?_
                      refine lv_iload_n hx hb dX12_goes_139 rfl (lvA3 hl) ?_
                      refine lv_imul hx hb dX12_goes_140 ?_
                      refine lv_topi (fun y_22 ey_22 => ?_)
                      obtain rfl : y_22 = (nI (8 * i11)) := ey_22.trans (pk_mul 8 i11)
                      refine lv_iload_n hx hb dX12_goes_141 rfl (lvA2 hl) ?_
                      refine lv_iadd hx hb dX12_goes_142 ?_
                      refine lv_topi (fun y_23 ey_23 => ?_)
                      obtain rfl : y_23 = (nI ((8 * i11) + i18)) := ey_23.trans (nI_add (8 * i11) i18)
                      refine lv_iload hx hb dX12_goes_143 (lvA1 hl) ?_
                      have kb_6 : ((8 * i11) + i18) < 2048 := by (first | omega | (have zz0 := Hid.u hi_cn; omega))
                      refine stM_43 hx hb hK hP hD hS (Fn2 := (va_up F18 43 (upd (F18 43) ((8 * i11) + i18) x51_4))) (vp_in_nI kb_6 (ltb rfl)) (nI_clamp (Nat.lt_trans kb_6 (ltb rfl))) rfl dX12_goes_145 (fun H locs hP hD hS => ?_)
                      refine lv_iinc (v := (nI (i18 + 1))) (lv' := [(3, .int (nI (i18 + 1))), (5, .int (nI i51)), (4, .int x51_4), (2, .int (nI i11)), (1, .int (nI (2 ^ cn 44 - 1))), (0, .ref (g 100))]) hx hb dX12_goes_146 hl (k := 2) rfl (nI_1 _) (ltb rfl) rfl (fun ls hl => ?_)
                      refine lv_goto (tgt := 18) hx hb dX12_goes_149 rfl ?_
                      exact ih18 (i18 + 1) (va_up F18 43 (upd (F18 43) ((8 * i11) + i18) x51_4)) _ _ (by (first | omega | (have zz0 := Hid.u hi_cn; omega))) ⟨(by (first | omega | (have zz0 := Hid.u hi_cn; omega))), (Fr.mo (Fr.f 43 hfr18) (sbl rfl) (sbl rfl) (sbl rfl)), (IM.fr (In := In) hI18 (Fr.f 43 Fr.rf) (by decide) (by decide)), (AK.fr (In := In) hx18_0 (Fr.f 43 Fr.rf) (by decide) (by decide))⟩ hP hD hS ls (lv_sub hl [0, 3, 4, 5] rfl)
                    ·
                      have tc_21 : ((nI i51).toInt : Int) < (nI (cn 44)).toInt := Int32.lt_iff_toInt_lt.mp (Int32.not_le.mp c_21)
                      refine lv_iload_n hx hb dX12_goes_60 rfl (lvA3 hl) ?_
                      refine lv_iload hx hb dX12_goes_61 (lvA0 hl) ?_
                      refine lv_ishr hx hb dX12_goes_63 ?_
                      refine lv_iconst (v := 1) hx hb dX12_goes_64 kic_1 ?_
                      refine lv_iand hx hb dX12_goes_65 ?_
                      refine lv_topi (fun y_24 ey_24 => ?_)
                      rcases bitc (l := i11) (b := i51) (by (first | omega | (have zz0 := Hid.u hi_cn; omega))) (by (first | omega | (have zz0 := Hid.u hi_cn; omega))) with ⟨hb_y_24, qy_24⟩ | ⟨hb_y_24, qy_24⟩
                      ·
                        obtain rfl : y_24 = 0 := ey_24.trans qy_24
                        refine lv_if_ne (tgt := 72) hx hb dX12_goes_66 rfl (fun h => absurd h cq_eq_0_0) (fun _ => ?_)
                        refine lv_goto (tgt := 127) hx hb dX12_goes_69 rfl ?_
                        refine lv_iinc (v := (nI (i51 + 1))) (lv' := [(5, .int (nI (i51 + 1))), (4, .int x51_4), (3, .int (nI i18)), (2, .int (nI i11)), (1, .int (nI (2 ^ cn 44 - 1))), (0, .ref (g 100))]) hx hb dX12_goes_127 hl (k := 0) rfl (nI_1 _) (ltb rfl) rfl (fun ls hl => ?_)
                        refine lv_goto (tgt := 51) hx hb dX12_goes_130 rfl ?_
                        exact ih51 (i51 + 1) x51_4 (by (first | omega | (have zz0 := Hid.u hi_cn; omega))) (by (first | omega | (have zz0 := Hid.u hi_cn; omega))) ls (lv_sub hl [0, 1, 2, 3, 4, 5] rfl)
                      ·
                        obtain rfl : y_24 = 1 := ey_24.trans qy_24
                        refine lv_if_ne (tgt := 72) hx hb dX12_goes_66 rfl (fun _ => ?_) (fun h => absurd h cq_eq_1_0)
                        refine lv_aload_n hx hb dX12_goes_72 rfl (lvA5 hl) ?_
                        refine lv_aload_n hx hb dX12_goes_73 rfl (lvA5 hl) ?_
                        refine gM_101 S hK hP (v := .ref (g 42)) rfl dX12_goes_74 ?_
                        refine lv_iload_n hx hb dX12_goes_77 rfl (lvA2 hl) ?_
                        refine ldM_42 hx hb hK hP (x := (nI a_18)) (vp_in_nI kb_5 (ltb rfl)) (nI_clamp (Nat.lt_trans kb_5 (ltb rfl))) ea_18 dX12_goes_78 ?_
                        refine lv_aload_n hx hb dX12_goes_79 rfl (lvA5 hl) ?_
                        refine gM_101 S hK hP (v := .ref (g 42)) rfl dX12_goes_80 ?_
                        refine lv_iload hx hb dX12_goes_83 (lvA0 hl) ?_
                        have kb_7 : i51 < 10 := by (first | omega | (have zz0 := Hid.u hi_cn; omega))
                        obtain ⟨a_25, ha_25, ea_25⟩ := hx18_0 i51 (by (first | omega | (have zz0 := Hid.u hi_cn; omega)))
                        refine ldM_42 hx hb hK hP (x := (nI a_25)) (vp_in_nI kb_7 (ltb rfl)) (nI_clamp (Nat.lt_trans kb_7 (ltb rfl))) ea_25 dX12_goes_85 ?_
                        refine vp_callSi (runV_ra (As := [.int (nI a_18), .int (nI a_25)]) (rest := []) S (q_way l D cI cB cZ g cn In F18 a_18 a_25 hI18 (by (first | omega | (have zz0 := Hid.u hi_cn; omega))) (by (first | omega | (have zz0 := Hid.u hi_cn; omega)))) kV_RX12_371 hK hP 0 rfl rfl rfl ⟨Nat.le_of_ble_eq_true rfl, Nat.le_of_ble_eq_true rfl⟩ ⟨Nat.le_of_ble_eq_true rfl, Nat.le_of_ble_eq_true rfl⟩ rfl hl.1 rfl (Nat.le_of_ble_eq_true rfl) dX12_goes_86) (fun r_26 h_27 => ?_)
                        subst h_27
                        refine lv_aload_n hx hb dX12_goes_89 rfl (lvA5 hl) ?_
                        refine gM_104 S hK hP (v := .ref (g 43)) rfl dX12_goes_90 ?_
                        refine lv_bipush (v := 8) hx hb dX12_goes_93 kbc_8 ?_
                        refine lv_iload_n hx hb dX12_goes_95 rfl (lvA3 hl) ?_
                        refine lv_iconst (v := 1) hx hb dX12_goes_96 kic_1 ?_
                        refine lv_iload hx hb dX12_goes_97 (lvA0 hl) ?_
                        refine lv_ishl hx hb dX12_goes_99 ?_
                        refine lv_iconst (v := (-1)) hx hb dX12_goes_100 kic_m1 ?_
                        refine lv_ixor hx hb dX12_goes_101 ?_
                        refine lv_iand hx hb dX12_goes_102 ?_
                        refine lv_topi (fun y_28 ey_28 => ?_)
                        obtain rfl : y_28 = (nI (clr i11 i51)) := ey_28.trans (clrI (by (first | omega | (have zz0 := Hid.u hi_cn; omega))) (by (first | omega | (have zz0 := Hid.u hi_cn; omega))))
                        have hcl := clr_le (l := i11) (a := i51)
                        refine lv_imul hx hb dX12_goes_103 ?_
                        refine lv_topi (fun y_29 ey_29 => ?_)
                        obtain rfl : y_29 = (nI (8 * (clr i11 i51))) := ey_29.trans (pk_mul 8 (clr i11 i51))
                        refine lv_iload hx hb dX12_goes_104 (lvA0 hl) ?_
                        refine lv_iadd hx hb dX12_goes_106 ?_
                        refine lv_topi (fun y_30 ey_30 => ?_)
                        obtain rfl : y_30 = (nI ((8 * (clr i11 i51)) + i51)) := ey_30.trans (nI_add (8 * (clr i11 i51)) i51)
                        have kb_8 : ((8 * (clr i11 i51)) + i51) < 2048 := by (first | omega | (have zz0 := Hid.u hi_cn; omega))
                        refine ldM_43 hx hb hK hP (x := ((F18 43) ((8 * (clr i11 i51)) + i51))) (vp_in_nI kb_8 (ltb rfl)) (nI_clamp (Nat.lt_trans kb_8 (ltb rfl))) rfl dX12_goes_107 ?_
                        refine lv_iadd hx hb dX12_goes_108 ?_
                        refine lv_istore (lv' := [(6, .int ((apM ((F18 3) a_18) ((F18 4) a_18) ((F18 3) a_25) ((F18 4) a_25)) + ((F18 43) ((8 * (clr i11 i51)) + i51)))), (5, .int (nI i51)), (4, .int x51_4), (3, .int (nI i18)), (2, .int (nI i11)), (1, .int (nI (2 ^ cn 44 - 1))), (0, .ref (g 100))]) hx hb dX12_goes_109 hl (ltb rfl) rfl (fun ls hl => ?_)
                        refine lv_iload hx hb dX12_goes_111 (lvA0 hl) ?_
                        refine lv_iload hx hb dX12_goes_113 (lvA2 hl) ?_
                        refine lv_icmp_ge (tgt := 123) hx hb dX12_goes_115 rfl (fun c_31 => ?_) (fun c_31 => ?_)
                        ·
                          have tc_31 : (x51_4.toInt : Int) ≤ ((apM ((F18 3) a_18) ((F18 4) a_18) ((F18 3) a_25) ((F18 4) a_25)) + ((F18 43) ((8 * (clr i11 i51)) + i51))).toInt := Int32.le_iff_toInt_le.mp c_31
                          refine lv_iload hx hb dX12_goes_123 (lvA2 hl) ?_
                          refine lv_istore (lv' := [(4, .int x51_4), (6, .int ((apM ((F18 3) a_18) ((F18 4) a_18) ((F18 3) a_25) ((F18 4) a_25)) + ((F18 43) ((8 * (clr i11 i51)) + i51)))), (5, .int (nI i51)), (3, .int (nI i18)), (2, .int (nI i11)), (1, .int (nI (2 ^ cn 44 - 1))), (0, .ref (g 100))]) hx hb dX12_goes_125 hl (ltb rfl) rfl (fun ls hl => ?_)
                          refine lv_iinc (v := (nI (i51 + 1))) (lv' := [(5, .int (nI (i51 + 1))), (4, .int x51_4), (6, .int ((apM ((F18 3) a_18) ((F18 4) a_18) ((F18 3) a_25) ((F18 4) a_25)) + ((F18 43) ((8 * (clr i11 i51)) + i51)))), (3, .int (nI i18)), (2, .int (nI i11)), (1, .int (nI (2 ^ cn 44 - 1))), (0, .ref (g 100))]) hx hb dX12_goes_127 hl (k := 2) rfl (nI_1 _) (ltb rfl) rfl (fun ls hl => ?_)
                          refine lv_goto (tgt := 51) hx hb dX12_goes_130 rfl ?_
                          exact ih51 (i51 + 1) x51_4 (by (first | omega | (have zz0 := Hid.u hi_cn; omega))) (by (first | omega | (have zz0 := Hid.u hi_cn; omega))) ls (lv_sub hl [0, 1, 3, 4, 5, 6] rfl)
                        ·
                          have tc_31 : (((apM ((F18 3) a_18) ((F18 4) a_18) ((F18 3) a_25) ((F18 4) a_25)) + ((F18 43) ((8 * (clr i11 i51)) + i51))).toInt : Int) < x51_4.toInt := Int32.lt_iff_toInt_lt.mp (Int32.not_le.mp c_31)
                          refine lv_iload hx hb dX12_goes_118 (lvA0 hl) ?_
                          refine lv_goto (tgt := 125) hx hb dX12_goes_120 rfl ?_
                          refine lv_istore (lv' := [(4, .int ((apM ((F18 3) a_18) ((F18 4) a_18) ((F18 3) a_25) ((F18 4) a_25)) + ((F18 43) ((8 * (clr i11 i51)) + i51)))), (6, .int ((apM ((F18 3) a_18) ((F18 4) a_18) ((F18 3) a_25) ((F18 4) a_25)) + ((F18 43) ((8 * (clr i11 i51)) + i51)))), (5, .int (nI i51)), (3, .int (nI i18)), (2, .int (nI i11)), (1, .int (nI (2 ^ cn 44 - 1))), (0, .ref (g 100))]) hx hb dX12_goes_125 hl (ltb rfl) rfl (fun ls hl => ?_)
                          refine lv_iinc (v := (nI (i51 + 1))) (lv' := [(5, .int (nI (i51 + 1))), (4, .int ((apM ((F18 3) a_18) ((F18 4) a_18) ((F18 3) a_25) ((F18 4) a_25)) + ((F18 43) ((8 * (clr i11 i51)) + i51)))), (6, .int ((apM ((F18 3) a_18) ((F18 4) a_18) ((F18 3) a_25) ((F18 4) a_25)) + ((F18 43) ((8 * (clr i11 i51)) + i51)))), (3, .int (nI i18)), (2, .int (nI i11)), (1, .int (nI (2 ^ cn 44 - 1))), (0, .ref (g 100))]) hx hb dX12_goes_127 hl (k := 2) rfl (nI_1 _) (ltb rfl) rfl (fun ls hl => ?_)
                          refine lv_goto (tgt := 51) hx hb dX12_goes_130 rfl ?_
                          exact ih51 (i51 + 1) ((apM ((F18 3) a_18) ((F18 4) a_18) ((F18 3) a_25) ((F18 4) a_25)) + ((F18 43) ((8 * (clr i11 i51)) + i51))) (by (first | omega | (have zz0 := Hid.u hi_cn; omega))) (by (first | omega | (have zz0 := Hid.u hi_cn; omega))) ls (lv_sub hl [0, 1, 3, 4, 5, 6] rfl)
                exact lp_51 _ 0 ((F18 3) a_18 + (F18 4) a_18) (Nat.lt_succ_self _) (by (first | omega | (have zz0 := Hid.u hi_cn; omega))) ls (lv_sub hl [0, 1, 2, 3, 4, 5] rfl)
        exact lp_18 _ 0 F11 _ _ (Nat.lt_succ_self _) ⟨(by (first | omega | (have zz0 := Hid.u hi_cn; omega))), (Fr.mo hfr11 (sbl rfl) (sbl rfl) (sbl rfl)), hI11, hx11_0⟩ hP hD hS ls (lv_sub hl [0, 1, 2, 3] rfl)
  exact lp_11 _ 0 Fn _ _ (Nat.lt_succ_self _) ⟨(by (first | omega | (have zz0 := Hid.u hi_cn; omega))), (Fr.mo Fr.rf (sbl rfl) (sbl rfl) (sbl rfl)), hI, hAK⟩ hP hD hS ls (lv_sub hl [0, 1, 2] rfl)
set_option maxRecDepth 100000 in
set_option maxHeartbeats 4000000 in
theorem q_nextOf (l : Launch) (D : va_G) (cI cB cZ : ClassId) (g : Nat → Nat) (cn : Nat → Nat) (In : Nat → Int32) (Fn : Nat → Nat → Int32) (v0 : Int32) (l0 : Nat) (sz : Nat) (hI : IM cn Fn) (h44 : cn 44 ≤ 8) (hAK : AK cn Fn) (hv : v0 = -1 ∨ ∃ n : Nat, n < cn 44 ∧ v0 = nI n) (hl0 : l0 ≤ 255) : Met l yX12_nextOf (CWS yX12_nextOf cX12_nextOf 7 (some .int)) (RM 2 0 0) (PBw [.ref (g 100), .int v0, .int (nI l0)] D cI cB cZ (wM cI cB cZ g cn In Fn) sz) (va_Qi (fun (r : Int32) (u : (Nat → Nat) × (Nat → Int32) × (Nat → Nat → Int32)) => (fun r c2 I2 F2 => Fr [] [45] [] cn In Fn c2 I2 F2 ∧ IM c2 F2 ∧ (NX l0 r (cn 44))) r u.1 u.2.1 u.2.2) (fun (u : (Nat → Nat) × (Nat → Int32) × (Nat → Nat → Int32)) (t : State) => va_P D vwCl (wM cI cB cZ g u.1 u.2.1 u.2.2) t.heap ∧ va_D (va_A (wM cI cB cZ g cn In Fn) sz) (wM cI cB cZ g u.1 u.2.1 u.2.2)) (va_A (wM cI cB cZ g cn In Fn) sz)) 0 0 (va_A (wM cI cB cZ g cn In Fn) sz) := by
  refine en_w (fun A => (va_Qi (fun (r : Int32) (u : (Nat → Nat) × (Nat → Int32) × (Nat → Nat → Int32)) => (fun (r : Int32) (c2 : Nat → Nat) (I2 : Nat → Int32) (F2 : Nat → Nat → Int32) => Fr [] [45] [] cn In Fn c2 I2 F2 ∧ IM c2 F2 ∧ (NX l0 r (cn 44))) r u.1 u.2.1 u.2.2) (fun (u : (Nat → Nat) × (Nat → Int32) × (Nat → Nat → Int32)) (t : State) => va_P D vwCl (wM cI cB cZ g u.1 u.2.1 u.2.2) t.heap ∧ va_D A (wM cI cB cZ g u.1 u.2.1 u.2.2)) A)) rfl rfl pn_RX12 (Nat.le_of_ble_eq_true rfl) (fun p e s m below meth c A hx hb hml hown S hr hlocks hnm hA hP hK hD hS ls hl => ?_)
  have hl : lv_has ls 7 [(0, .ref (g 100)), (1, .int v0), (2, .int (nI l0))] := hl
  have hi_cn : Hid (CB cn) := hI.b
  rcases hv with rfl | ⟨f0, hf0, rfl⟩
  ·
    refine lv_iconst (v := (-1)) hx hb (oc_2 0 shX12_nextOf_0) kic_m1 ?_
    refine lv_istore_n (lv' := [(3, .int (-1)), (0, .ref (g 100)), (1, .int (-1)), (2, .int (nI l0))]) hx hb (oc_62 1 (aq_1 shX12_nextOf_0)) rfl hl (ltb rfl) rfl (fun ls hl => ?_)
    refine lv_iconst (v := 0) hx hb (oc_3 2 (aq_2 shX12_nextOf_0)) kic_0 ?_
    refine lv_istore (lv' := [(4, .int 0), (3, .int (-1)), (0, .ref (g 100)), (1, .int (-1)), (2, .int (nI l0))]) hx hb (oc_54 3 (aq_3 shX12_nextOf_0) ub_4) hl (ltb rfl) rfl (fun ls hl => ?_)
    refine lv_iconst (v := 0) hx hb (oc_3 5 (aq_5 shX12_nextOf_0)) kic_0 ?_
    refine lv_istore (lv' := [(5, .int 0), (4, .int 0), (3, .int (-1)), (0, .ref (g 100)), (1, .int (-1)), (2, .int (nI l0))]) hx hb (oc_54 6 (aq_6 shX12_nextOf_0) ub_5) hl (ltb rfl) rfl (fun ls hl => ?_)
    have lp_8 : ∀ (n : Nat) (i8 : Nat) (x8_3 : Int32) (x8_4 : Int32) , cn 44 - i8 < n → (i8 ≤ cn 44 ∧ (NX l0 x8_3 i8)) → ∀ ls : Array Slot, lv_has ls 7 [(5, .int (nI i8)), (4, .int x8_4), (3, .int x8_3), (0, .ref (g 100)), (1, .int (-1)), (2, .int (nI l0))] → W p l e (RM 2 0 0) s m ([.ref (g 100), .int (-1), .int (nI l0)]).toArray below meth c s.heap [] 0 0 (MQ below (va_Qi (fun (r : Int32) (u : (Nat → Nat) × (Nat → Int32) × (Nat → Nat → Int32)) => (fun r c2 I2 F2 => Fr [] [45] [] cn In Fn c2 I2 F2 ∧ IM c2 F2 ∧ (NX l0 r (cn 44))) r u.1 u.2.1 u.2.2) (fun (u : (Nat → Nat) × (Nat → Int32) × (Nat → Nat → Int32)) (t : State) => va_P D vwCl (wM cI cB cZ g u.1 u.2.1 u.2.2) t.heap ∧ va_D A (wM cI cB cZ g u.1 u.2.1 u.2.2)) A) ([.ref (g 100), .int (-1), .int (nI l0)]).toArray s 0 0 A) (F0 m 8 ls []) := by
      intro n8
      induction n8 with
      | zero => intros; (first | omega | (have zz0 := Hid.u hi_cn; omega))
      | succ n8 ih8 =>
        intro i8 x8_3 x8_4 hmu8 hinv8 ls hl
        obtain ⟨hr8, hx8_0⟩ := hinv8
        have ti8 : (nI i8).toInt = (i8 : Int) := nI_toInt (by (first | omega | (have zz0 := Hid.u hi_cn; omega)))
        refine lv_iload hx hb (oc_21 8 (aq_8 shX12_nextOf_0) ub_5) (lvA0 hl) ?_
        refine lv_aload_n hx hb (oc_42 10 (aq_10 shX12_nextOf_0)) rfl (lvA3 hl) ?_
        refine gM_364 S hK hP (v := .int (nI (cn 44))) rfl (oc_180 11 (aq_11 shX12_nextOf_0) uw_1_108) ?_
        have : (nI (cn 44)).toInt = (((cn 44) : Nat) : Int) := nI_toInt (by (first | omega | (have zz0 := Hid.u hi_cn; omega)))
        refine lv_icmp_ge (tgt := 115) hx hb (oc_162 14 (aq_14 shX12_nextOf_0) sgw_0_101) rfl (fun c_1 => ?_) (fun c_1 => ?_)
        ·
          have tc_1 : ((nI (cn 44)).toInt : Int) ≤ (nI i8).toInt := Int32.le_iff_toInt_le.mp c_1
          refine lv_aload_n hx hb (oc_42 115 (aq_16 shX12_nextOf_99)) rfl (lvA3 hl) ?_
          refine lv_iload_n hx hb (oc_29 116 (aq_17 shX12_nextOf_99)) rfl (lvA2 hl) ?_
          refine lv_iconst (v := (-1)) hx hb (oc_2 117 (aq_18 shX12_nextOf_99)) kic_m1 ?_
          refine lv_icmp_ne (tgt := 125) hx hb (oc_160 118 (aq_19 shX12_nextOf_99) sgw_0_7) rfl (fun c_2 => ?_) (fun c_2 => ?_)
          ·
            have tc_2 : (x8_3.toInt : Int) ≠ (-1) := fun q => c_2 (Int32.toInt_inj.mp q)
            refine lv_iload hx hb (oc_21 125 shX12_nextOf_125 ub_4) (lvA1 hl) ?_
            refine pM_374 S hK hP hD hS (In2 := (va_up In 45 x8_4)) rfl dX12_nextOf_127 (fun H locs hP hD hS => ?_)
            refine lv_iload_n hx hb dX12_nextOf_130 rfl (lvA2 hl) ?_
            exact W.iret (v := x8_3) hx hb hr (fun t ht hW => ⟨⟨x8_3, (cn, (va_up In 45 x8_4), Fn), rfl, ⟨(Fr.mo (Fr.i 45 Fr.rf) (sbl rfl) (sbl rfl) (sbl rfl)), hI, (by show NX l0 x8_3 (cn 44); rw [show cn 44 = i8 by (first | omega | (have zz0 := Hid.u hi_cn; omega))]; exact hx8_0)⟩, by rw [ht]; exact hP, hD⟩, hS.F ht⟩) hS.2.2 dX12_nextOf_131
          ·
            have tc_2 : (x8_3.toInt : Int) = (-1) := congrArg Int32.toInt c_2
            refine lv_iconst (v := 0) hx hb (oc_3 121 (aq_22 shX12_nextOf_99)) kic_0 ?_
            refine lv_goto (tgt := 127) hx hb (oc_167 122 (aq_23 shX12_nextOf_99) sgw_0_5) rfl ?_
            refine pM_374 S hK hP hD hS (In2 := (va_up In 45 0)) rfl dX12_nextOf_127 (fun H locs hP hD hS => ?_)
            refine lv_iload_n hx hb dX12_nextOf_130 rfl (lvA2 hl) ?_
            exact W.iret (v := x8_3) hx hb hr (fun t ht hW => ⟨⟨x8_3, (cn, (va_up In 45 0), Fn), rfl, ⟨(Fr.mo (Fr.i 45 Fr.rf) (sbl rfl) (sbl rfl) (sbl rfl)), hI, (by show NX l0 x8_3 (cn 44); rw [show cn 44 = i8 by (first | omega | (have zz0 := Hid.u hi_cn; omega))]; exact hx8_0)⟩, by rw [ht]; exact hP, hD⟩, hS.F ht⟩) hS.2.2 dX12_nextOf_131
        ·
          have tc_1 : ((nI i8).toInt : Int) < (nI (cn 44)).toInt := Int32.lt_iff_toInt_lt.mp (Int32.not_le.mp c_1)
          refine lv_iload_n hx hb (oc_28 17 (aq_17 shX12_nextOf_0)) rfl (lvA5 hl) ?_
          refine lv_iload hx hb (oc_21 18 (aq_18 shX12_nextOf_0) ub_5) (lvA0 hl) ?_
          refine lv_ishr hx hb (oc_122 20 (aq_20 shX12_nextOf_0)) ?_
          refine lv_iconst (v := 1) hx hb (oc_4 21 (aq_21 shX12_nextOf_0)) kic_1 ?_
          refine lv_iand hx hb (oc_126 22 (aq_22 shX12_nextOf_0)) ?_
          refine lv_topi (fun y_3 ey_3 => ?_)
          rcases bitc (l := l0) (b := i8) (by (first | omega | (have zz0 := Hid.u hi_cn; omega))) (by (first | omega | (have zz0 := Hid.u hi_cn; omega))) with ⟨hb_y_3, qy_3⟩ | ⟨hb_y_3, qy_3⟩
          ·
            obtain rfl : y_3 = 0 := ey_3.trans qy_3
            refine lv_if_ne (tgt := 29) hx hb dX12_nextOf_23 rfl (fun h => absurd h cq_eq_0_0) (fun _ => ?_)
            refine lv_goto (tgt := 109) hx hb (oc_167 26 shX12_nextOf_26 sgw_0_83) rfl ?_
            refine lv_iinc (v := (nI (i8 + 1))) (lv' := [(5, .int (nI (i8 + 1))), (4, .int x8_4), (3, .int x8_3), (0, .ref (g 100)), (1, .int (-1)), (2, .int (nI l0))]) hx hb dX12_nextOf_109 hl (k := 0) rfl (nI_1 _) (ltb rfl) rfl (fun ls hl => ?_)
            refine lv_goto (tgt := 8) hx hb dX12_nextOf_112 rfl ?_
            exact ih8 (i8 + 1) x8_3 x8_4 (by (first | omega | (have zz0 := Hid.u hi_cn; omega))) ⟨(by (first | omega | (have zz0 := Hid.u hi_cn; omega))), (by first | exact hx8_0.skip (by assumption) | exact NX.set (by assumption) | exact hx8_0.keep (by assumption))⟩ ls (lv_sub hl [0, 1, 2, 3, 4, 5] rfl)
          ·
            obtain rfl : y_3 = 1 := ey_3.trans qy_3
            refine lv_if_ne (tgt := 29) hx hb dX12_nextOf_23 rfl (fun _ => ?_) (fun h => absurd h cq_eq_1_0)
            refine lv_iload_n hx hb (oc_27 29 (aq_3 shX12_nextOf_26)) rfl (lvA4 hl) ?_
            refine lv_iconst (v := (-1)) hx hb (oc_2 30 (aq_4 shX12_nextOf_26)) kic_m1 ?_
            refine lv_icmp_ne (tgt := 48) hx hb (oc_160 31 (aq_5 shX12_nextOf_26) sgw_0_17) rfl (fun h => absurd h cq_eq_m1_m1) (fun _ => ?_)
            refine lv_aload_n hx hb (oc_42 34 (aq_8 shX12_nextOf_26)) rfl (lvA3 hl) ?_
            refine lv_aload_n hx hb (oc_42 35 (aq_9 shX12_nextOf_26)) rfl (lvA3 hl) ?_
            refine gM_101 S hK hP (v := .ref (g 42)) rfl (oc_180 36 (aq_10 shX12_nextOf_26) uw_0_101) ?_
            refine lv_iload hx hb (oc_21 39 (aq_13 shX12_nextOf_26) ub_5) (lvA0 hl) ?_
            have kb_1 : i8 < 10 := by (first | omega | (have zz0 := Hid.u hi_cn; omega))
            obtain ⟨a_4, ha_4, ea_4⟩ := hAK i8 (by (first | omega | (have zz0 := Hid.u hi_cn; omega)))
            refine ldM_42 hx hb hK hP (x := (nI a_4)) (vp_in_nI kb_1 (ltb rfl)) (nI_clamp (Nat.lt_trans kb_1 (ltb rfl))) ea_4 (oc_46 41 (aq_15 shX12_nextOf_26)) ?_
            refine vp_callSi (runV_ra (As := [.int (nI a_4)]) (rest := []) S (q_toDepot l D cI cB cZ g cn In Fn a_4 hI (by (first | omega | (have zz0 := Hid.u hi_cn; omega)))) kV_RX12_367 hK hP 0 rfl rfl rfl ⟨Nat.le_of_ble_eq_true rfl, Nat.le_of_ble_eq_true rfl⟩ ⟨Nat.le_of_ble_eq_true rfl, Nat.le_of_ble_eq_true rfl⟩ rfl hl.1 rfl (Nat.le_of_ble_eq_true rfl) (oc_182 42 (aq_16 shX12_nextOf_26) uw_1_111)) (fun r_5 h_6 => ?_)
            subst h_6
            refine lv_goto (tgt := 65) hx hb (oc_167 45 (aq_19 shX12_nextOf_26) sgw_0_20) rfl ?_
            refine lv_aload_n hx hb (oc_42 65 (aq_15 shX12_nextOf_50)) rfl (lvA3 hl) ?_
            refine gM_104 S hK hP (v := .ref (g 43)) rfl (oc_180 66 (aq_16 shX12_nextOf_50) uw_0_104) ?_
            refine lv_bipush (v := 8) hx hb (oc_16 69 (aq_19 shX12_nextOf_50) sgb_8) kbc_8 ?_
            refine lv_iload_n hx hb (oc_28 71 (aq_21 shX12_nextOf_50)) rfl (lvA5 hl) ?_
            refine lv_iconst (v := 1) hx hb (oc_4 72 (aq_22 shX12_nextOf_50)) kic_1 ?_
            refine lv_iload hx hb (oc_21 73 (aq_23 shX12_nextOf_50) ub_5) (lvA0 hl) ?_
            refine lv_ishl hx hb (oc_120 75 shX12_nextOf_75) ?_
            refine lv_iconst (v := (-1)) hx hb (oc_2 76 (aq_1 shX12_nextOf_75)) kic_m1 ?_
            refine lv_ixor hx hb (oc_130 77 (aq_2 shX12_nextOf_75)) ?_
            refine lv_iand hx hb (oc_126 78 (aq_3 shX12_nextOf_75)) ?_
            refine lv_topi (fun y_7 ey_7 => ?_)
            obtain rfl : y_7 = (nI (clr l0 i8)) := ey_7.trans (clrI (by (first | omega | (have zz0 := Hid.u hi_cn; omega))) (by (first | omega | (have zz0 := Hid.u hi_cn; omega))))
            have hcl := clr_le (l := l0) (a := i8)
            refine lv_imul hx hb (oc_104 79 (aq_4 shX12_nextOf_75)) ?_
            refine lv_topi (fun y_8 ey_8 => ?_)
            obtain rfl : y_8 = (nI (8 * (clr l0 i8))) := ey_8.trans (pk_mul 8 (clr l0 i8))
            refine lv_iload hx hb (oc_21 80 (aq_5 shX12_nextOf_75) ub_5) (lvA0 hl) ?_
            refine lv_iadd hx hb (oc_96 82 (aq_7 shX12_nextOf_75)) ?_
            refine lv_topi (fun y_9 ey_9 => ?_)
            obtain rfl : y_9 = (nI ((8 * (clr l0 i8)) + i8)) := ey_9.trans (nI_add (8 * (clr l0 i8)) i8)
            have kb_2 : ((8 * (clr l0 i8)) + i8) < 2048 := by (first | omega | (have zz0 := Hid.u hi_cn; omega))
            refine ldM_43 hx hb hK hP (x := ((Fn 43) ((8 * (clr l0 i8)) + i8))) (vp_in_nI kb_2 (ltb rfl)) (nI_clamp (Nat.lt_trans kb_2 (ltb rfl))) rfl (oc_46 83 (aq_8 shX12_nextOf_75)) ?_
            refine lv_iadd hx hb (oc_96 84 (aq_9 shX12_nextOf_75)) ?_
            refine lv_istore (lv' := [(6, .int (((Fn 3) a_4 + (Fn 4) a_4) + ((Fn 43) ((8 * (clr l0 i8)) + i8)))), (5, .int (nI i8)), (4, .int x8_4), (3, .int x8_3), (0, .ref (g 100)), (1, .int (-1)), (2, .int (nI l0))]) hx hb (oc_54 85 (aq_10 shX12_nextOf_75) ub_6) hl (ltb rfl) rfl (fun ls hl => ?_)
            refine lv_iload_n hx hb (oc_29 87 (aq_12 shX12_nextOf_75)) rfl (lvA3 hl) ?_
            refine lv_iconst (v := (-1)) hx hb (oc_2 88 (aq_13 shX12_nextOf_75)) kic_m1 ?_
            refine lv_icmp_eq (tgt := 102) hx hb (oc_159 89 (aq_14 shX12_nextOf_75) sgw_0_13) rfl (fun c_10 => ?_) (fun c_10 => ?_)
            ·
              have tc_10 : (x8_3.toInt : Int) = (-1) := congrArg Int32.toInt c_10
              refine lv_iload hx hb dX12_nextOf_102 (lvA1 hl) ?_
              refine lv_istore_n (lv' := [(3, .int (nI i8)), (6, .int (((Fn 3) a_4 + (Fn 4) a_4) + ((Fn 43) ((8 * (clr l0 i8)) + i8)))), (5, .int (nI i8)), (4, .int x8_4), (0, .ref (g 100)), (1, .int (-1)), (2, .int (nI l0))]) hx hb dX12_nextOf_104 rfl hl (ltb rfl) rfl (fun ls hl => ?_)
              refine lv_iload hx hb dX12_nextOf_105 (lvA1 hl) ?_
              refine lv_istore (lv' := [(4, .int (((Fn 3) a_4 + (Fn 4) a_4) + ((Fn 43) ((8 * (clr l0 i8)) + i8)))), (3, .int (nI i8)), (6, .int (((Fn 3) a_4 + (Fn 4) a_4) + ((Fn 43) ((8 * (clr l0 i8)) + i8)))), (5, .int (nI i8)), (0, .ref (g 100)), (1, .int (-1)), (2, .int (nI l0))]) hx hb dX12_nextOf_107 hl (ltb rfl) rfl (fun ls hl => ?_)
              refine lv_iinc (v := (nI (i8 + 1))) (lv' := [(5, .int (nI (i8 + 1))), (4, .int (((Fn 3) a_4 + (Fn 4) a_4) + ((Fn 43) ((8 * (clr l0 i8)) + i8)))), (3, .int (nI i8)), (6, .int (((Fn 3) a_4 + (Fn 4) a_4) + ((Fn 43) ((8 * (clr l0 i8)) + i8)))), (0, .ref (g 100)), (1, .int (-1)), (2, .int (nI l0))]) hx hb dX12_nextOf_109 hl (k := 3) rfl (nI_1 _) (ltb rfl) rfl (fun ls hl => ?_)
              refine lv_goto (tgt := 8) hx hb dX12_nextOf_112 rfl ?_
              exact ih8 (i8 + 1) (nI i8) (((Fn 3) a_4 + (Fn 4) a_4) + ((Fn 43) ((8 * (clr l0 i8)) + i8))) (by (first | omega | (have zz0 := Hid.u hi_cn; omega))) ⟨(by (first | omega | (have zz0 := Hid.u hi_cn; omega))), (by first | exact hx8_0.skip (by assumption) | exact NX.set (by assumption) | exact hx8_0.keep (by assumption))⟩ ls (lv_sub hl [0, 1, 2, 4, 5, 6] rfl)
            ·
              have tc_10 : (x8_3.toInt : Int) ≠ (-1) := fun q => c_10 (Int32.toInt_inj.mp q)
              refine lv_iload hx hb (oc_21 92 (aq_17 shX12_nextOf_75) ub_6) (lvA0 hl) ?_
              refine lv_iload hx hb (oc_21 94 (aq_19 shX12_nextOf_75) ub_4) (lvA2 hl) ?_
              refine lv_icmp_lt (tgt := 102) hx hb (oc_161 96 (aq_21 shX12_nextOf_75) sgw_0_6) rfl (fun c_11 => ?_) (fun c_11 => ?_)
              ·
                have tc_11 : ((((Fn 3) a_4 + (Fn 4) a_4) + ((Fn 43) ((8 * (clr l0 i8)) + i8))).toInt : Int) < x8_4.toInt := Int32.lt_iff_toInt_lt.mp c_11
                refine lv_iload hx hb dX12_nextOf_102 (lvA1 hl) ?_
                refine lv_istore_n (lv' := [(3, .int (nI i8)), (6, .int (((Fn 3) a_4 + (Fn 4) a_4) + ((Fn 43) ((8 * (clr l0 i8)) + i8)))), (5, .int (nI i8)), (4, .int x8_4), (0, .ref (g 100)), (1, .int (-1)), (2, .int (nI l0))]) hx hb dX12_nextOf_104 rfl hl (ltb rfl) rfl (fun ls hl => ?_)
                refine lv_iload hx hb dX12_nextOf_105 (lvA1 hl) ?_
                refine lv_istore (lv' := [(4, .int (((Fn 3) a_4 + (Fn 4) a_4) + ((Fn 43) ((8 * (clr l0 i8)) + i8)))), (3, .int (nI i8)), (6, .int (((Fn 3) a_4 + (Fn 4) a_4) + ((Fn 43) ((8 * (clr l0 i8)) + i8)))), (5, .int (nI i8)), (0, .ref (g 100)), (1, .int (-1)), (2, .int (nI l0))]) hx hb dX12_nextOf_107 hl (ltb rfl) rfl (fun ls hl => ?_)
                refine lv_iinc (v := (nI (i8 + 1))) (lv' := [(5, .int (nI (i8 + 1))), (4, .int (((Fn 3) a_4 + (Fn 4) a_4) + ((Fn 43) ((8 * (clr l0 i8)) + i8)))), (3, .int (nI i8)), (6, .int (((Fn 3) a_4 + (Fn 4) a_4) + ((Fn 43) ((8 * (clr l0 i8)) + i8)))), (0, .ref (g 100)), (1, .int (-1)), (2, .int (nI l0))]) hx hb dX12_nextOf_109 hl (k := 3) rfl (nI_1 _) (ltb rfl) rfl (fun ls hl => ?_)
                refine lv_goto (tgt := 8) hx hb dX12_nextOf_112 rfl ?_
                exact ih8 (i8 + 1) (nI i8) (((Fn 3) a_4 + (Fn 4) a_4) + ((Fn 43) ((8 * (clr l0 i8)) + i8))) (by (first | omega | (have zz0 := Hid.u hi_cn; omega))) ⟨(by (first | omega | (have zz0 := Hid.u hi_cn; omega))), (by first | exact hx8_0.skip (by assumption) | exact NX.set (by assumption) | exact hx8_0.keep (by assumption))⟩ ls (lv_sub hl [0, 1, 2, 4, 5, 6] rfl)
              ·
                have tc_11 : (x8_4.toInt : Int) ≤ (((Fn 3) a_4 + (Fn 4) a_4) + ((Fn 43) ((8 * (clr l0 i8)) + i8))).toInt := Int32.le_iff_toInt_le.mp (Int32.not_lt.mp c_11)
                refine lv_goto (tgt := 109) hx hb (oc_167 99 shX12_nextOf_99 sgw_0_10) rfl ?_
                refine lv_iinc (v := (nI (i8 + 1))) (lv' := [(5, .int (nI (i8 + 1))), (6, .int (((Fn 3) a_4 + (Fn 4) a_4) + ((Fn 43) ((8 * (clr l0 i8)) + i8)))), (4, .int x8_4), (3, .int x8_3), (0, .ref (g 100)), (1, .int (-1)), (2, .int (nI l0))]) hx hb dX12_nextOf_109 hl (k := 1) rfl (nI_1 _) (ltb rfl) rfl (fun ls hl => ?_)
                refine lv_goto (tgt := 8) hx hb dX12_nextOf_112 rfl ?_
                exact ih8 (i8 + 1) x8_3 x8_4 (by (first | omega | (have zz0 := Hid.u hi_cn; omega))) ⟨(by (first | omega | (have zz0 := Hid.u hi_cn; omega))), (by first | exact hx8_0.skip (by assumption) | exact NX.set (by assumption) | exact hx8_0.keep (by assumption))⟩ ls (lv_sub hl [0, 2, 3, 4, 5, 6] rfl)
    exact lp_8 _ 0 (-1) 0 (Nat.lt_succ_self _) ⟨(by (first | omega | (have zz0 := Hid.u hi_cn; omega))), NX.zero⟩ ls (lv_sub hl [0, 1, 2, 3, 4, 5] rfl)
  ·
    refine lv_iconst (v := (-1)) hx hb (oc_2 0 shX12_nextOf_0) kic_m1 ?_
    refine lv_istore_n (lv' := [(3, .int (-1)), (0, .ref (g 100)), (1, .int (nI f0)), (2, .int (nI l0))]) hx hb (oc_62 1 (aq_1 shX12_nextOf_0)) rfl hl (ltb rfl) rfl (fun ls hl => ?_)
    refine lv_iconst (v := 0) hx hb (oc_3 2 (aq_2 shX12_nextOf_0)) kic_0 ?_
    refine lv_istore (lv' := [(4, .int 0), (3, .int (-1)), (0, .ref (g 100)), (1, .int (nI f0)), (2, .int (nI l0))]) hx hb (oc_54 3 (aq_3 shX12_nextOf_0) ub_4) hl (ltb rfl) rfl (fun ls hl => ?_)
    refine lv_iconst (v := 0) hx hb (oc_3 5 (aq_5 shX12_nextOf_0)) kic_0 ?_
    refine lv_istore (lv' := [(5, .int 0), (4, .int 0), (3, .int (-1)), (0, .ref (g 100)), (1, .int (nI f0)), (2, .int (nI l0))]) hx hb (oc_54 6 (aq_6 shX12_nextOf_0) ub_5) hl (ltb rfl) rfl (fun ls hl => ?_)
    have lp_8 : ∀ (n : Nat) (i8 : Nat) (x8_3 : Int32) (x8_4 : Int32) , cn 44 - i8 < n → (i8 ≤ cn 44 ∧ (NX l0 x8_3 i8)) → ∀ ls : Array Slot, lv_has ls 7 [(5, .int (nI i8)), (4, .int x8_4), (3, .int x8_3), (0, .ref (g 100)), (1, .int (nI f0)), (2, .int (nI l0))] → W p l e (RM 2 0 0) s m ([.ref (g 100), .int (nI f0), .int (nI l0)]).toArray below meth c s.heap [] 0 0 (MQ below (va_Qi (fun (r : Int32) (u : (Nat → Nat) × (Nat → Int32) × (Nat → Nat → Int32)) => (fun r c2 I2 F2 => Fr [] [45] [] cn In Fn c2 I2 F2 ∧ IM c2 F2 ∧ (NX l0 r (cn 44))) r u.1 u.2.1 u.2.2) (fun (u : (Nat → Nat) × (Nat → Int32) × (Nat → Nat → Int32)) (t : State) => va_P D vwCl (wM cI cB cZ g u.1 u.2.1 u.2.2) t.heap ∧ va_D A (wM cI cB cZ g u.1 u.2.1 u.2.2)) A) ([.ref (g 100), .int (nI f0), .int (nI l0)]).toArray s 0 0 A) (F0 m 8 ls []) := by
      intro n8
      induction n8 with
      | zero => intros; (first | omega | (have zz0 := Hid.u hi_cn; omega))
      | succ n8 ih8 =>
        intro i8 x8_3 x8_4 hmu8 hinv8 ls hl
        obtain ⟨hr8, hx8_0⟩ := hinv8
        have ti8 : (nI i8).toInt = (i8 : Int) := nI_toInt (by (first | omega | (have zz0 := Hid.u hi_cn; omega)))
        refine lv_iload hx hb (oc_21 8 (aq_8 shX12_nextOf_0) ub_5) (lvA0 hl) ?_
        refine lv_aload_n hx hb (oc_42 10 (aq_10 shX12_nextOf_0)) rfl (lvA3 hl) ?_
        refine gM_364 S hK hP (v := .int (nI (cn 44))) rfl (oc_180 11 (aq_11 shX12_nextOf_0) uw_1_108) ?_
        have : (nI (cn 44)).toInt = (((cn 44) : Nat) : Int) := nI_toInt (by (first | omega | (have zz0 := Hid.u hi_cn; omega)))
        refine lv_icmp_ge (tgt := 115) hx hb (oc_162 14 (aq_14 shX12_nextOf_0) sgw_0_101) rfl (fun c_12 => ?_) (fun c_12 => ?_)
        ·
          have tc_12 : ((nI (cn 44)).toInt : Int) ≤ (nI i8).toInt := Int32.le_iff_toInt_le.mp c_12
          refine lv_aload_n hx hb (oc_42 115 (aq_16 shX12_nextOf_99)) rfl (lvA3 hl) ?_
          refine lv_iload_n hx hb (oc_29 116 (aq_17 shX12_nextOf_99)) rfl (lvA2 hl) ?_
          refine lv_iconst (v := (-1)) hx hb (oc_2 117 (aq_18 shX12_nextOf_99)) kic_m1 ?_
          refine lv_icmp_ne (tgt := 125) hx hb (oc_160 118 (aq_19 shX12_nextOf_99) sgw_0_7) rfl (fun c_13 => ?_) (fun c_13 => ?_)
          ·
            have tc_13 : (x8_3.toInt : Int) ≠ (-1) := fun q => c_13 (Int32.toInt_inj.mp q)
            refine lv_iload hx hb (oc_21 125 shX12_nextOf_125 ub_4) (lvA1 hl) ?_
            refine pM_374 S hK hP hD hS (In2 := (va_up In 45 x8_4)) rfl dX12_nextOf_127 (fun H locs hP hD hS => ?_)
            refine lv_iload_n hx hb dX12_nextOf_130 rfl (lvA2 hl) ?_
            exact W.iret (v := x8_3) hx hb hr (fun t ht hW => ⟨⟨x8_3, (cn, (va_up In 45 x8_4), Fn), rfl, ⟨(Fr.mo (Fr.i 45 Fr.rf) (sbl rfl) (sbl rfl) (sbl rfl)), hI, (by show NX l0 x8_3 (cn 44); rw [show cn 44 = i8 by (first | omega | (have zz0 := Hid.u hi_cn; omega))]; exact hx8_0)⟩, by rw [ht]; exact hP, hD⟩, hS.F ht⟩) hS.2.2 dX12_nextOf_131
          ·
            have tc_13 : (x8_3.toInt : Int) = (-1) := congrArg Int32.toInt c_13
            refine lv_iconst (v := 0) hx hb (oc_3 121 (aq_22 shX12_nextOf_99)) kic_0 ?_
            refine lv_goto (tgt := 127) hx hb (oc_167 122 (aq_23 shX12_nextOf_99) sgw_0_5) rfl ?_
            refine pM_374 S hK hP hD hS (In2 := (va_up In 45 0)) rfl dX12_nextOf_127 (fun H locs hP hD hS => ?_)
            refine lv_iload_n hx hb dX12_nextOf_130 rfl (lvA2 hl) ?_
            exact W.iret (v := x8_3) hx hb hr (fun t ht hW => ⟨⟨x8_3, (cn, (va_up In 45 0), Fn), rfl, ⟨(Fr.mo (Fr.i 45 Fr.rf) (sbl rfl) (sbl rfl) (sbl rfl)), hI, (by show NX l0 x8_3 (cn 44); rw [show cn 44 = i8 by (first | omega | (have zz0 := Hid.u hi_cn; omega))]; exact hx8_0)⟩, by rw [ht]; exact hP, hD⟩, hS.F ht⟩) hS.2.2 dX12_nextOf_131
        ·
          have tc_12 : ((nI i8).toInt : Int) < (nI (cn 44)).toInt := Int32.lt_iff_toInt_lt.mp (Int32.not_le.mp c_12)
          refine lv_iload_n hx hb (oc_28 17 (aq_17 shX12_nextOf_0)) rfl (lvA5 hl) ?_
          refine lv_iload hx hb (oc_21 18 (aq_18 shX12_nextOf_0) ub_5) (lvA0 hl) ?_
          refine lv_ishr hx hb (oc_122 20 (aq_20 shX12_nextOf_0)) ?_
          refine lv_iconst (v := 1) hx hb (oc_4 21 (aq_21 shX12_nextOf_0)) kic_1 ?_
          refine lv_iand hx hb (oc_126 22 (aq_22 shX12_nextOf_0)) ?_
          refine lv_topi (fun y_14 ey_14 => ?_)
          rcases bitc (l := l0) (b := i8) (by (first | omega | (have zz0 := Hid.u hi_cn; omega))) (by (first | omega | (have zz0 := Hid.u hi_cn; omega))) with ⟨hb_y_14, qy_14⟩ | ⟨hb_y_14, qy_14⟩
          ·
            obtain rfl : y_14 = 0 := ey_14.trans qy_14
            refine lv_if_ne (tgt := 29) hx hb dX12_nextOf_23 rfl (fun h => absurd h cq_eq_0_0) (fun _ => ?_)
            refine lv_goto (tgt := 109) hx hb (oc_167 26 shX12_nextOf_26 sgw_0_83) rfl ?_
            refine lv_iinc (v := (nI (i8 + 1))) (lv' := [(5, .int (nI (i8 + 1))), (4, .int x8_4), (3, .int x8_3), (0, .ref (g 100)), (1, .int (nI f0)), (2, .int (nI l0))]) hx hb dX12_nextOf_109 hl (k := 0) rfl (nI_1 _) (ltb rfl) rfl (fun ls hl => ?_)
            refine lv_goto (tgt := 8) hx hb dX12_nextOf_112 rfl ?_
            exact ih8 (i8 + 1) x8_3 x8_4 (by (first | omega | (have zz0 := Hid.u hi_cn; omega))) ⟨(by (first | omega | (have zz0 := Hid.u hi_cn; omega))), (by first | exact hx8_0.skip (by assumption) | exact NX.set (by assumption) | exact hx8_0.keep (by assumption))⟩ ls (lv_sub hl [0, 1, 2, 3, 4, 5] rfl)
          ·
            obtain rfl : y_14 = 1 := ey_14.trans qy_14
            refine lv_if_ne (tgt := 29) hx hb dX12_nextOf_23 rfl (fun _ => ?_) (fun h => absurd h cq_eq_1_0)
            refine lv_iload_n hx hb (oc_27 29 (aq_3 shX12_nextOf_26)) rfl (lvA4 hl) ?_
            refine lv_iconst (v := (-1)) hx hb (oc_2 30 (aq_4 shX12_nextOf_26)) kic_m1 ?_
            have : (nI f0).toInt = ((f0 : Nat) : Int) := nI_toInt (by (first | omega | (have zz0 := Hid.u hi_cn; omega)))
            refine lv_icmp_ne (tgt := 48) hx hb (oc_160 31 (aq_5 shX12_nextOf_26) sgw_0_17) rfl (fun c_15 => ?_) (fun c_15 => False.elim (by have tc_15 : ((nI f0).toInt : Int) = (-1) := congrArg Int32.toInt c_15; (first | omega | (have zz0 := Hid.u hi_cn; omega))))
            have tc_15 : ((nI f0).toInt : Int) ≠ (-1) := fun q => c_15 (Int32.toInt_inj.mp q)
            refine lv_aload_n hx hb (oc_42 48 (aq_22 shX12_nextOf_26)) rfl (lvA3 hl) ?_
            refine lv_aload_n hx hb (oc_42 49 (aq_23 shX12_nextOf_26)) rfl (lvA3 hl) ?_
            refine gM_101 S hK hP (v := .ref (g 42)) rfl (oc_180 50 shX12_nextOf_50 uw_0_101) ?_
            refine lv_iload_n hx hb (oc_27 53 (aq_3 shX12_nextOf_50)) rfl (lvA4 hl) ?_
            have kb_3 : f0 < 10 := by (first | omega | (have zz0 := Hid.u hi_cn; omega))
            obtain ⟨a_16, ha_16, ea_16⟩ := hAK f0 (by (first | omega | (have zz0 := Hid.u hi_cn; omega)))
            refine ldM_42 hx hb hK hP (x := (nI a_16)) (vp_in_nI kb_3 (ltb rfl)) (nI_clamp (Nat.lt_trans kb_3 (ltb rfl))) ea_16 (oc_46 54 (aq_4 shX12_nextOf_50)) ?_
            refine lv_aload_n hx hb (oc_42 55 (aq_5 shX12_nextOf_50)) rfl (lvA3 hl) ?_
            refine gM_101 S hK hP (v := .ref (g 42)) rfl (oc_180 56 (aq_6 shX12_nextOf_50) uw_0_101) ?_
            refine lv_iload hx hb (oc_21 59 (aq_9 shX12_nextOf_50) ub_5) (lvA0 hl) ?_
            have kb_4 : i8 < 10 := by (first | omega | (have zz0 := Hid.u hi_cn; omega))
            obtain ⟨a_17, ha_17, ea_17⟩ := hAK i8 (by (first | omega | (have zz0 := Hid.u hi_cn; omega)))
            refine ldM_42 hx hb hK hP (x := (nI a_17)) (vp_in_nI kb_4 (ltb rfl)) (nI_clamp (Nat.lt_trans kb_4 (ltb rfl))) ea_17 (oc_46 61 (aq_11 shX12_nextOf_50)) ?_
            refine vp_callSi (runV_ra (As := [.int (nI a_16), .int (nI a_17)]) (rest := []) S (q_way l D cI cB cZ g cn In Fn a_16 a_17 hI (by (first | omega | (have zz0 := Hid.u hi_cn; omega))) (by (first | omega | (have zz0 := Hid.u hi_cn; omega)))) kV_RX12_371 hK hP 0 rfl rfl rfl ⟨Nat.le_of_ble_eq_true rfl, Nat.le_of_ble_eq_true rfl⟩ ⟨Nat.le_of_ble_eq_true rfl, Nat.le_of_ble_eq_true rfl⟩ rfl hl.1 rfl (Nat.le_of_ble_eq_true rfl) (oc_182 62 (aq_12 shX12_nextOf_50) uw_1_115)) (fun r_18 h_19 => ?_)
            subst h_19
            refine lv_aload_n hx hb (oc_42 65 (aq_15 shX12_nextOf_50)) rfl (lvA3 hl) ?_
            refine gM_104 S hK hP (v := .ref (g 43)) rfl (oc_180 66 (aq_16 shX12_nextOf_50) uw_0_104) ?_
            refine lv_bipush (v := 8) hx hb (oc_16 69 (aq_19 shX12_nextOf_50) sgb_8) kbc_8 ?_
            refine lv_iload_n hx hb (oc_28 71 (aq_21 shX12_nextOf_50)) rfl (lvA5 hl) ?_
            refine lv_iconst (v := 1) hx hb (oc_4 72 (aq_22 shX12_nextOf_50)) kic_1 ?_
            refine lv_iload hx hb (oc_21 73 (aq_23 shX12_nextOf_50) ub_5) (lvA0 hl) ?_
            refine lv_ishl hx hb (oc_120 75 shX12_nextOf_75) ?_
            refine lv_iconst (v := (-1)) hx hb (oc_2 76 (aq_1 shX12_nextOf_75)) kic_m1 ?_
            refine lv_ixor hx hb (oc_130 77 (aq_2 shX12_nextOf_75)) ?_
            refine lv_iand hx hb (oc_126 78 (aq_3 shX12_nextOf_75)) ?_
            refine lv_topi (fun y_20 ey_20 => ?_)
            obtain rfl : y_20 = (nI (clr l0 i8)) := ey_20.trans (clrI (by (first | omega | (have zz0 := Hid.u hi_cn; omega))) (by (first | omega | (have zz0 := Hid.u hi_cn; omega))))
            have hcl := clr_le (l := l0) (a := i8)
            refine lv_imul hx hb (oc_104 79 (aq_4 shX12_nextOf_75)) ?_
            refine lv_topi (fun y_21 ey_21 => ?_)
            obtain rfl : y_21 = (nI (8 * (clr l0 i8))) := ey_21.trans (pk_mul 8 (clr l0 i8))
            refine lv_iload hx hb (oc_21 80 (aq_5 shX12_nextOf_75) ub_5) (lvA0 hl) ?_
            refine lv_iadd hx hb (oc_96 82 (aq_7 shX12_nextOf_75)) ?_
            refine lv_topi (fun y_22 ey_22 => ?_)
            obtain rfl : y_22 = (nI ((8 * (clr l0 i8)) + i8)) := ey_22.trans (nI_add (8 * (clr l0 i8)) i8)
            have kb_5 : ((8 * (clr l0 i8)) + i8) < 2048 := by (first | omega | (have zz0 := Hid.u hi_cn; omega))
            refine ldM_43 hx hb hK hP (x := ((Fn 43) ((8 * (clr l0 i8)) + i8))) (vp_in_nI kb_5 (ltb rfl)) (nI_clamp (Nat.lt_trans kb_5 (ltb rfl))) rfl (oc_46 83 (aq_8 shX12_nextOf_75)) ?_
            refine lv_iadd hx hb (oc_96 84 (aq_9 shX12_nextOf_75)) ?_
            refine lv_istore (lv' := [(6, .int ((apM ((Fn 3) a_16) ((Fn 4) a_16) ((Fn 3) a_17) ((Fn 4) a_17)) + ((Fn 43) ((8 * (clr l0 i8)) + i8)))), (5, .int (nI i8)), (4, .int x8_4), (3, .int x8_3), (0, .ref (g 100)), (1, .int (nI f0)), (2, .int (nI l0))]) hx hb (oc_54 85 (aq_10 shX12_nextOf_75) ub_6) hl (ltb rfl) rfl (fun ls hl => ?_)
            refine lv_iload_n hx hb (oc_29 87 (aq_12 shX12_nextOf_75)) rfl (lvA3 hl) ?_
            refine lv_iconst (v := (-1)) hx hb (oc_2 88 (aq_13 shX12_nextOf_75)) kic_m1 ?_
            refine lv_icmp_eq (tgt := 102) hx hb (oc_159 89 (aq_14 shX12_nextOf_75) sgw_0_13) rfl (fun c_23 => ?_) (fun c_23 => ?_)
            ·
              have tc_23 : (x8_3.toInt : Int) = (-1) := congrArg Int32.toInt c_23
              refine lv_iload hx hb dX12_nextOf_102 (lvA1 hl) ?_
              refine lv_istore_n (lv' := [(3, .int (nI i8)), (6, .int ((apM ((Fn 3) a_16) ((Fn 4) a_16) ((Fn 3) a_17) ((Fn 4) a_17)) + ((Fn 43) ((8 * (clr l0 i8)) + i8)))), (5, .int (nI i8)), (4, .int x8_4), (0, .ref (g 100)), (1, .int (nI f0)), (2, .int (nI l0))]) hx hb dX12_nextOf_104 rfl hl (ltb rfl) rfl (fun ls hl => ?_)
              refine lv_iload hx hb dX12_nextOf_105 (lvA1 hl) ?_
              refine lv_istore (lv' := [(4, .int ((apM ((Fn 3) a_16) ((Fn 4) a_16) ((Fn 3) a_17) ((Fn 4) a_17)) + ((Fn 43) ((8 * (clr l0 i8)) + i8)))), (3, .int (nI i8)), (6, .int ((apM ((Fn 3) a_16) ((Fn 4) a_16) ((Fn 3) a_17) ((Fn 4) a_17)) + ((Fn 43) ((8 * (clr l0 i8)) + i8)))), (5, .int (nI i8)), (0, .ref (g 100)), (1, .int (nI f0)), (2, .int (nI l0))]) hx hb dX12_nextOf_107 hl (ltb rfl) rfl (fun ls hl => ?_)
              refine lv_iinc (v := (nI (i8 + 1))) (lv' := [(5, .int (nI (i8 + 1))), (4, .int ((apM ((Fn 3) a_16) ((Fn 4) a_16) ((Fn 3) a_17) ((Fn 4) a_17)) + ((Fn 43) ((8 * (clr l0 i8)) + i8)))), (3, .int (nI i8)), (6, .int ((apM ((Fn 3) a_16) ((Fn 4) a_16) ((Fn 3) a_17) ((Fn 4) a_17)) + ((Fn 43) ((8 * (clr l0 i8)) + i8)))), (0, .ref (g 100)), (1, .int (nI f0)), (2, .int (nI l0))]) hx hb dX12_nextOf_109 hl (k := 3) rfl (nI_1 _) (ltb rfl) rfl (fun ls hl => ?_)
              refine lv_goto (tgt := 8) hx hb dX12_nextOf_112 rfl ?_
              exact ih8 (i8 + 1) (nI i8) ((apM ((Fn 3) a_16) ((Fn 4) a_16) ((Fn 3) a_17) ((Fn 4) a_17)) + ((Fn 43) ((8 * (clr l0 i8)) + i8))) (by (first | omega | (have zz0 := Hid.u hi_cn; omega))) ⟨(by (first | omega | (have zz0 := Hid.u hi_cn; omega))), (by first | exact hx8_0.skip (by assumption) | exact NX.set (by assumption) | exact hx8_0.keep (by assumption))⟩ ls (lv_sub hl [0, 1, 2, 4, 5, 6] rfl)
            ·
              have tc_23 : (x8_3.toInt : Int) ≠ (-1) := fun q => c_23 (Int32.toInt_inj.mp q)
              refine lv_iload hx hb (oc_21 92 (aq_17 shX12_nextOf_75) ub_6) (lvA0 hl) ?_
              refine lv_iload hx hb (oc_21 94 (aq_19 shX12_nextOf_75) ub_4) (lvA2 hl) ?_
              refine lv_icmp_lt (tgt := 102) hx hb (oc_161 96 (aq_21 shX12_nextOf_75) sgw_0_6) rfl (fun c_24 => ?_) (fun c_24 => ?_)
              ·
                have tc_24 : (((apM ((Fn 3) a_16) ((Fn 4) a_16) ((Fn 3) a_17) ((Fn 4) a_17)) + ((Fn 43) ((8 * (clr l0 i8)) + i8))).toInt : Int) < x8_4.toInt := Int32.lt_iff_toInt_lt.mp c_24
                refine lv_iload hx hb dX12_nextOf_102 (lvA1 hl) ?_
                refine lv_istore_n (lv' := [(3, .int (nI i8)), (6, .int ((apM ((Fn 3) a_16) ((Fn 4) a_16) ((Fn 3) a_17) ((Fn 4) a_17)) + ((Fn 43) ((8 * (clr l0 i8)) + i8)))), (5, .int (nI i8)), (4, .int x8_4), (0, .ref (g 100)), (1, .int (nI f0)), (2, .int (nI l0))]) hx hb dX12_nextOf_104 rfl hl (ltb rfl) rfl (fun ls hl => ?_)
                refine lv_iload hx hb dX12_nextOf_105 (lvA1 hl) ?_
                refine lv_istore (lv' := [(4, .int ((apM ((Fn 3) a_16) ((Fn 4) a_16) ((Fn 3) a_17) ((Fn 4) a_17)) + ((Fn 43) ((8 * (clr l0 i8)) + i8)))), (3, .int (nI i8)), (6, .int ((apM ((Fn 3) a_16) ((Fn 4) a_16) ((Fn 3) a_17) ((Fn 4) a_17)) + ((Fn 43) ((8 * (clr l0 i8)) + i8)))), (5, .int (nI i8)), (0, .ref (g 100)), (1, .int (nI f0)), (2, .int (nI l0))]) hx hb dX12_nextOf_107 hl (ltb rfl) rfl (fun ls hl => ?_)
                refine lv_iinc (v := (nI (i8 + 1))) (lv' := [(5, .int (nI (i8 + 1))), (4, .int ((apM ((Fn 3) a_16) ((Fn 4) a_16) ((Fn 3) a_17) ((Fn 4) a_17)) + ((Fn 43) ((8 * (clr l0 i8)) + i8)))), (3, .int (nI i8)), (6, .int ((apM ((Fn 3) a_16) ((Fn 4) a_16) ((Fn 3) a_17) ((Fn 4) a_17)) + ((Fn 43) ((8 * (clr l0 i8)) + i8)))), (0, .ref (g 100)), (1, .int (nI f0)), (2, .int (nI l0))]) hx hb dX12_nextOf_109 hl (k := 3) rfl (nI_1 _) (ltb rfl) rfl (fun ls hl => ?_)
                refine lv_goto (tgt := 8) hx hb dX12_nextOf_112 rfl ?_
                exact ih8 (i8 + 1) (nI i8) ((apM ((Fn 3) a_16) ((Fn 4) a_16) ((Fn 3) a_17) ((Fn 4) a_17)) + ((Fn 43) ((8 * (clr l0 i8)) + i8))) (by (first | omega | (have zz0 := Hid.u hi_cn; omega))) ⟨(by (first | omega | (have zz0 := Hid.u hi_cn; omega))), (by first | exact hx8_0.skip (by assumption) | exact NX.set (by assumption) | exact hx8_0.keep (by assumption))⟩ ls (lv_sub hl [0, 1, 2, 4, 5, 6] rfl)
              ·
                have tc_24 : (x8_4.toInt : Int) ≤ ((apM ((Fn 3) a_16) ((Fn 4) a_16) ((Fn 3) a_17) ((Fn 4) a_17)) + ((Fn 43) ((8 * (clr l0 i8)) + i8))).toInt := Int32.le_iff_toInt_le.mp (Int32.not_lt.mp c_24)
                refine lv_goto (tgt := 109) hx hb (oc_167 99 shX12_nextOf_99 sgw_0_10) rfl ?_
                refine lv_iinc (v := (nI (i8 + 1))) (lv' := [(5, .int (nI (i8 + 1))), (6, .int ((apM ((Fn 3) a_16) ((Fn 4) a_16) ((Fn 3) a_17) ((Fn 4) a_17)) + ((Fn 43) ((8 * (clr l0 i8)) + i8)))), (4, .int x8_4), (3, .int x8_3), (0, .ref (g 100)), (1, .int (nI f0)), (2, .int (nI l0))]) hx hb dX12_nextOf_109 hl (k := 1) rfl (nI_1 _) (ltb rfl) rfl (fun ls hl => ?_)
                refine lv_goto (tgt := 8) hx hb dX12_nextOf_112 rfl ?_
                exact ih8 (i8 + 1) x8_3 x8_4 (by (first | omega | (have zz0 := Hid.u hi_cn; omega))) ⟨(by (first | omega | (have zz0 := Hid.u hi_cn; omega))), (by first | exact hx8_0.skip (by assumption) | exact NX.set (by assumption) | exact hx8_0.keep (by assumption))⟩ ls (lv_sub hl [0, 2, 3, 4, 5, 6] rfl)
    exact lp_8 _ 0 (-1) 0 (Nat.lt_succ_self _) ⟨(by (first | omega | (have zz0 := Hid.u hi_cn; omega))), NX.zero⟩ ls (lv_sub hl [0, 1, 2, 3, 4, 5] rfl)
set_option maxRecDepth 100000 in
set_option maxHeartbeats 4000000 in
theorem q_lays (l : Launch) (D : va_G) (cI cB cZ : ClassId) (g : Nat → Nat) (cn : Nat → Nat) (In : Nat → Int32) (Fn : Nat → Nat → Int32) (v0 v1 : Int32) (w0 : Nat) (sz : Nat) (hI : IM cn Fn) (hw0 : w0 ≤ 8) : Met l yX12_lays (CWS yX12_lays cX12_lays 5 (some .boolean)) (RM 3 0 0) (PBw [.ref (g 100), .int v0, .int v1, .int (nI w0)] D cI cB cZ (wM cI cB cZ g cn In Fn) sz) (va_Qi (fun (r : Int32) (u : (Nat → Nat) × (Nat → Int32) × (Nat → Nat → Int32)) => (fun r c2 I2 F2 => Fr [44] [] [42, 43] cn In Fn c2 I2 F2 ∧ IM c2 F2 ∧ (r = 0 ∨ (r = 1 ∧ c2 44 ≤ 8 ∧ c2 44 ≤ w0 ∧ AK c2 F2))) r u.1 u.2.1 u.2.2) (fun (u : (Nat → Nat) × (Nat → Int32) × (Nat → Nat → Int32)) (t : State) => va_P D vwCl (wM cI cB cZ g u.1 u.2.1 u.2.2) t.heap ∧ va_D (va_A (wM cI cB cZ g cn In Fn) sz) (wM cI cB cZ g u.1 u.2.1 u.2.2)) (va_A (wM cI cB cZ g cn In Fn) sz)) 0 0 (va_A (wM cI cB cZ g cn In Fn) sz) := by
  refine en_w (fun A => (va_Qi (fun (r : Int32) (u : (Nat → Nat) × (Nat → Int32) × (Nat → Nat → Int32)) => (fun (r : Int32) (c2 : Nat → Nat) (I2 : Nat → Int32) (F2 : Nat → Nat → Int32) => Fr [44] [] [42, 43] cn In Fn c2 I2 F2 ∧ IM c2 F2 ∧ (r = 0 ∨ (r = 1 ∧ c2 44 ≤ 8 ∧ c2 44 ≤ w0 ∧ AK c2 F2))) r u.1 u.2.1 u.2.2) (fun (u : (Nat → Nat) × (Nat → Int32) × (Nat → Nat → Int32)) (t : State) => va_P D vwCl (wM cI cB cZ g u.1 u.2.1 u.2.2) t.heap ∧ va_D A (wM cI cB cZ g u.1 u.2.1 u.2.2)) A)) rfl rfl pn_RX12 (Nat.le_of_ble_eq_true rfl) (fun p e s m below meth c A hx hb hml hown S hr hlocks hnm hA hP hK hD hS ls hl => ?_)
  have hl : lv_has ls 5 [(0, .ref (g 100)), (1, .int v0), (2, .int v1), (3, .int (nI w0))] := hl
  have hi_cn : Hid (CB cn) := hI.b
  refine lv_aload_n hx hb (oc_42 0 shX12_lays_0) rfl (lvA0 hl) ?_
  refine lv_iconst (v := 0) hx hb (oc_3 1 (aq_1 shX12_lays_0)) kic_0 ?_
  refine pM_364 S hK hP hD hS (a := 0) (cn2 := (va_up cn 44 0)) rfl rfl (oc_181 2 (aq_2 shX12_lays_0) uw_1_108) (fun H locs hP hD hS => ?_)
  refine lv_iconst (v := 0) hx hb (oc_3 5 (aq_5 shX12_lays_0)) kic_0 ?_
  refine lv_istore (lv' := [(4, .int 0), (0, .ref (g 100)), (1, .int v0), (2, .int v1), (3, .int (nI w0))]) hx hb (oc_54 6 (aq_6 shX12_lays_0) ub_4) hl (ltb rfl) rfl (fun ls hl => ?_)
  have lp_8 : ∀ (n : Nat) (i8 : Nat) (c8 : Nat → Nat) (F8 : Nat → Nat → Int32) (H : Heap) (locs : List Loc) , cn 1 - i8 < n → (i8 ≤ cn 1 ∧ Fr [44] [] [42, 43] cn In Fn c8 In F8 ∧ IM c8 F8 ∧ (c8 44 ≤ i8) ∧ (AK c8 F8)) → va_P D vwCl (wM cI cB cZ g c8 In F8) H → va_D A (wM cI cB cZ g c8 In F8) → va_S A s.heap H locs → ∀ ls : Array Slot, lv_has ls 5 [(4, .int (nI i8)), (0, .ref (g 100)), (1, .int v0), (2, .int v1), (3, .int (nI w0))] → W p l e (RM 3 0 0) s m ([.ref (g 100), .int v0, .int v1, .int (nI w0)]).toArray below meth c H locs 0 0 (MQ below (va_Qi (fun (r : Int32) (u : (Nat → Nat) × (Nat → Int32) × (Nat → Nat → Int32)) => (fun r c2 I2 F2 => Fr [44] [] [42, 43] cn In Fn c2 I2 F2 ∧ IM c2 F2 ∧ (r = 0 ∨ (r = 1 ∧ c2 44 ≤ 8 ∧ c2 44 ≤ w0 ∧ AK c2 F2))) r u.1 u.2.1 u.2.2) (fun (u : (Nat → Nat) × (Nat → Int32) × (Nat → Nat → Int32)) (t : State) => va_P D vwCl (wM cI cB cZ g u.1 u.2.1 u.2.2) t.heap ∧ va_D A (wM cI cB cZ g u.1 u.2.1 u.2.2)) A) ([.ref (g 100), .int v0, .int v1, .int (nI w0)]).toArray s 0 0 A) (F0 m 8 ls []) := by
    intro n8
    induction n8 with
    | zero => intros; (first | omega | (have zz0 := Hid.u hi_cn; omega))
    | succ n8 ih8 =>
      intro i8 c8 F8 H locs hmu8 hinv8 hP hD hS ls hl
      obtain ⟨hr8, hfr8, hI8, hx8_0, hx8_1⟩ := hinv8
      have ti8 : (nI i8).toInt = (i8 : Int) := nI_toInt (by (first | omega | (have zz0 := Hid.u hi_cn; omega)))
      have hi_c8 : Hid (CB c8) := hI8.b
      have hq_c8 := Hid.i (frq_44_0_1_2_46_57_58_62_63_75_83 hfr8)
      refine lv_iload hx hb (oc_21 8 (aq_8 shX12_lays_0) ub_4) (lvA0 hl) ?_
      refine lv_aload_n hx hb (oc_42 10 (aq_10 shX12_lays_0)) rfl (lvA1 hl) ?_
      refine gM_204 S hK hP (v := .int (nI (c8 1))) rfl (oc_180 11 (aq_11 shX12_lays_0) uw_0_204) ?_
      have : (nI (c8 1)).toInt = (((c8 1) : Nat) : Int) := nI_toInt (by (first | omega | (have zz0 := Hid.u hi_c8; have zz1 := Hid.u hi_cn; have zz2 := Hid.u hq_c8; omega)))
      refine lv_icmp_ge (tgt := 71) hx hb (oc_162 14 (aq_14 shX12_lays_0) sgw_0_57) rfl (fun c_1 => ?_) (fun c_1 => ?_)
      ·
        have tc_1 : ((nI (c8 1)).toInt : Int) ≤ (nI i8).toInt := Int32.le_iff_toInt_le.mp c_1
        refine lv_aload_n hx hb (oc_42 71 (aq_23 shX12_lays_48)) rfl (lvA1 hl) ?_
        refine gM_364 S hK hP (v := .int (nI (c8 44))) rfl (oc_180 72 shX12_lays_72 uw_1_108) ?_
        refine lv_iload_n hx hb (oc_29 75 (aq_3 shX12_lays_72)) rfl (lvA4 hl) ?_
        have : (nI (c8 44)).toInt = (((c8 44) : Nat) : Int) := nI_toInt (by (first | omega | (have zz0 := Hid.u hi_c8; have zz1 := Hid.u hi_cn; have zz2 := Hid.u hq_c8; omega)))
        have : (nI w0).toInt = ((w0 : Nat) : Int) := nI_toInt (by (first | omega | (have zz0 := Hid.u hi_c8; have zz1 := Hid.u hi_cn; have zz2 := Hid.u hq_c8; omega)))
        refine lv_icmp_le (tgt := 81) hx hb (oc_164 76 (aq_4 shX12_lays_72) sgw_0_5) rfl (fun c_2 => ?_) (fun c_2 => ?_)
        ·
          have tc_2 : ((nI (c8 44)).toInt : Int) ≤ (nI w0).toInt := Int32.le_iff_toInt_le.mp c_2
          refine lv_aload_n hx hb (oc_42 81 (aq_9 shX12_lays_72)) rfl (lvA1 hl) ?_
          have hFc := free_all hD hS hA
          refine va_callv (runV_a (As := []) (rest := []) S (q_goes l D cI cB cZ g c8 In F8  H.size hI8 (by (first | omega | (have zz0 := Hid.u hi_c8; have zz1 := Hid.u hi_cn; have zz2 := Hid.u hq_c8; omega))) hx8_1) kV_RX12_377 hK hP hD 0 rfl rfl rfl ⟨Nat.le_of_ble_eq_true rfl, Nat.le_of_ble_eq_true rfl⟩ ⟨Nat.le_of_ble_eq_true rfl, Nat.le_of_ble_eq_true rfl⟩ rfl hl.1 rfl (Nat.le_of_ble_eq_true rfl) (oc_182 82 (aq_10 shX12_lays_72) uw_1_121)) hS (fun q _ h => hFc q h) hFc (fun u t H1 locs ht hvm wh_4 hB hz1 hk1 hS => ?_)
          obtain ⟨cn4, In4, Fn4⟩ := u
          obtain ⟨hP1, hD1⟩ := hB
          rw [ht] at hP1
          have hP : va_P D vwCl (wM cI cB cZ g cn4 In4 Fn4) H1 := hP1
          have hD : va_D A (wM cI cB cZ g cn4 In4 Fn4) := hD1.weaken (fun _ _ _ h => hFc _ h)
          generalize H1 = H at hP hS ⊢
          have vh_4 : (fun c2 I2 F2 => Fr [] [] [43] c8 In F8 c2 I2 F2 ∧ IM c2 F2 ∧ (True)) cn4 In4 Fn4 := wh_4
          obtain ⟨hfc4, hIn4, h_4⟩ := vh_4
          obtain rfl : c8 = cn4 := (funext (fun k => hfc4.1 k List.not_mem_nil)).symm
          obtain rfl : In = In4 := (funext (fun k => hfc4.2.1 k List.not_mem_nil)).symm
          have hf4 : Fr [44] [] [42, 43] cn In Fn c8 In Fn4 := Fr.mo (Fr.tr hfr8 hfc4) (sbl rfl) (sbl rfl) (sbl rfl)
          have hi_c8 : Hid (CB c8) := hIn4.b
          have hq_c8 := Hid.i (frq_44_0_1_2_46_57_58_62_63_75_83 hf4)
          have hAK4 : AK c8 Fn4 := AK.fr hx8_1 hfc4 (by decide) (by decide)
          refine lv_iconst (v := 1) hx hb (oc_4 85 (aq_13 shX12_lays_72)) kic_1 ?_
          exact W.zret (v := 1) hx hb hr rfl (fun t ht hW => ⟨⟨1, (c8, In, Fn4), rfl, ⟨(Fr.mo hf4 (sbl rfl) (sbl rfl) (sbl rfl)), hIn4, (by show 1 = 0 ∨ (1 = 1 ∧ c8 44 ≤ 8 ∧ c8 44 ≤ w0 ∧ AK c8 Fn4); exact Or.inr ⟨rfl, by (first | omega | (have zz0 := Hid.u hi_c8; have zz1 := Hid.u hi_cn; have zz2 := Hid.u hq_c8; omega)), by (first | omega | (have zz0 := Hid.u hi_c8; have zz1 := Hid.u hi_cn; have zz2 := Hid.u hq_c8; omega)), hAK4⟩)⟩, by rw [ht]; exact hP, hD⟩, hS.F ht⟩) hS.2.2 (oc_172 86 (aq_14 shX12_lays_72))
        ·
          have tc_2 : ((nI w0).toInt : Int) < (nI (c8 44)).toInt := Int32.lt_iff_toInt_lt.mp (Int32.not_le.mp c_2)
          refine lv_iconst (v := 0) hx hb (oc_3 79 (aq_7 shX12_lays_72)) kic_0 ?_
          exact W.zret (v := 0) hx hb hr rfl (fun t ht hW => ⟨⟨0, (c8, In, F8), rfl, ⟨(Fr.mo hfr8 (sbl rfl) (sbl rfl) (sbl rfl)), hI8, (by show 0 = 0 ∨ (0 = 1 ∧ c8 44 ≤ 8 ∧ c8 44 ≤ w0 ∧ AK c8 F8); exact Or.inl rfl)⟩, by rw [ht]; exact hP, hD⟩, hS.F ht⟩) hS.2.2 (oc_172 80 (aq_8 shX12_lays_72))
      ·
        have tc_1 : ((nI i8).toInt : Int) < (nI (c8 1)).toInt := Int32.lt_iff_toInt_lt.mp (Int32.not_le.mp c_1)
        refine lv_aload_n hx hb (oc_42 17 (aq_17 shX12_lays_0)) rfl (lvA1 hl) ?_
        refine gM_22 S hK hP (v := .ref (g 7)) rfl (oc_180 18 (aq_18 shX12_lays_0) uw_0_22) ?_
        refine lv_iload hx hb (oc_21 21 (aq_21 shX12_lays_0) ub_4) (lvA0 hl) ?_
        have kb_1 : i8 < 10 := by (first | omega | (have zz0 := Hid.u hi_c8; have zz1 := Hid.u hi_cn; have zz2 := Hid.u hq_c8; omega))
        have b_5 := hI8.e7 i8 (by (first | omega | (have zz0 := Hid.u hi_c8; have zz1 := Hid.u hi_cn; have zz2 := Hid.u hq_c8; omega)))
        refine ldM_7 hx hb hK hP (x := ((F8 7) i8)) (vp_in_nI kb_1 (ltb rfl)) (nI_clamp (Nat.lt_trans kb_1 (ltb rfl))) rfl (oc_46 23 (aq_23 shX12_lays_0)) ?_
        refine lv_iload_n hx hb (oc_27 24 shX12_lays_24) rfl (lvA2 hl) ?_
        refine lv_icmp_le (tgt := 30) hx hb (oc_164 25 (aq_1 shX12_lays_24) sgw_0_5) rfl (fun c_6 => ?_) (fun c_6 => ?_)
        ·
          have tc_6 : (((F8 7) i8).toInt : Int) ≤ v0.toInt := Int32.le_iff_toInt_le.mp c_6
          refine lv_aload_n hx hb (oc_42 30 (aq_6 shX12_lays_24)) rfl (lvA1 hl) ?_
          refine lv_iload hx hb (oc_21 31 (aq_7 shX12_lays_24) ub_4) (lvA0 hl) ?_
          refine lv_iload_n hx hb (oc_27 33 (aq_9 shX12_lays_24)) rfl (lvA2 hl) ?_
          refine vp_callSi (runV_ra (As := [.int (nI i8), .int v0]) (rest := []) S (q_likelyOn l D cI cB cZ g c8 In F8 i8 v0 hI8 (by (first | omega | (have zz0 := Hid.u hi_c8; have zz1 := Hid.u hi_cn; have zz2 := Hid.u hq_c8; omega)))) kV_RX12_222 hK hP 0 rfl rfl rfl ⟨Nat.le_of_ble_eq_true rfl, Nat.le_of_ble_eq_true rfl⟩ ⟨Nat.le_of_ble_eq_true rfl, Nat.le_of_ble_eq_true rfl⟩ rfl hl.1 rfl (Nat.le_of_ble_eq_true rfl) (oc_182 34 (aq_10 shX12_lays_24) uw_0_222)) (fun r_7 h_8 => ?_)
          subst h_8
          refine lv_iload_n hx hb (oc_28 37 (aq_13 shX12_lays_24)) rfl (lvA3 hl) ?_
          refine lv_icmp_ge (tgt := 44) hx hb (oc_162 38 (aq_14 shX12_lays_24) sgw_0_6) rfl (fun c_9 => ?_) (fun c_9 => ?_)
          ·
            have tc_9 : (v1.toInt : Int) ≤ (lkM F8 i8 v0).toInt := Int32.le_iff_toInt_le.mp c_9
            refine lv_aload_n hx hb (oc_42 44 (aq_20 shX12_lays_24)) rfl (lvA1 hl) ?_
            refine gM_101 S hK hP (v := .ref (g 42)) rfl (oc_180 45 (aq_21 shX12_lays_24) uw_0_101) ?_
            refine lv_aload_n hx hb (oc_42 48 shX12_lays_48) rfl (lvA1 hl) ?_
            refine gM_364 S hK hP (v := .int (nI (c8 44))) rfl (oc_180 49 (aq_1 shX12_lays_48) uw_1_108) ?_
            refine lv_iload hx hb (oc_21 52 (aq_4 shX12_lays_48) ub_4) (lvA0 hl) ?_
            have kb_2 : (c8 44) < 10 := by (first | omega | (have zz0 := Hid.u hi_c8; have zz1 := Hid.u hi_cn; have zz2 := Hid.u hq_c8; omega))
            refine stM_42 hx hb hK hP hD hS (Fn2 := (va_up F8 42 (upd (F8 42) (c8 44) (nI i8)))) (vp_in_nI kb_2 (ltb rfl)) (nI_clamp (Nat.lt_trans kb_2 (ltb rfl))) rfl (oc_79 54 (aq_6 shX12_lays_48)) (fun H locs hP hD hS => ?_)
            refine lv_aload_n hx hb (oc_42 55 (aq_7 shX12_lays_48)) rfl (lvA1 hl) ?_
            refine lv_aload_n hx hb (oc_42 56 (aq_8 shX12_lays_48)) rfl (lvA1 hl) ?_
            refine gM_364 S hK hP (v := .int (nI (c8 44))) rfl (oc_180 57 (aq_9 shX12_lays_48) uw_1_108) ?_
            refine lv_iconst (v := 1) hx hb (oc_4 60 (aq_12 shX12_lays_48)) kic_1 ?_
            refine lv_iadd hx hb (oc_96 61 (aq_13 shX12_lays_48)) ?_
            refine lv_topi (fun y_10 ey_10 => ?_)
            obtain rfl : y_10 = (nI ((c8 44) + 1)) := ey_10.trans (nI_add (c8 44) 1)
            refine pM_364 S hK hP hD hS (a := ((c8 44) + 1)) (cn2 := (va_up c8 44 ((c8 44) + 1))) rfl rfl (oc_181 62 (aq_14 shX12_lays_48) uw_1_108) (fun H locs hP hD hS => ?_)
            refine lv_iinc (v := (nI (i8 + 1))) (lv' := [(4, .int (nI (i8 + 1))), (0, .ref (g 100)), (1, .int v0), (2, .int v1), (3, .int (nI w0))]) hx hb dX12_lays_65 hl (k := 0) rfl (nI_1 _) (ltb rfl) rfl (fun ls hl => ?_)
            refine lv_goto (tgt := 8) hx hb dX12_lays_68 rfl ?_
            exact ih8 (i8 + 1) (va_up c8 44 ((c8 44) + 1)) (va_up F8 42 (upd (F8 42) (c8 44) (nI i8))) _ _ (by (first | omega | (have zz0 := Hid.u hi_c8; have zz1 := Hid.u hi_cn; have zz2 := Hid.u hq_c8; omega))) ⟨(by (first | omega | (have zz0 := Hid.u hi_c8; have zz1 := Hid.u hi_cn; have zz2 := Hid.u hq_c8; omega))), (Fr.mo (Fr.f 42 (Fr.c 44 hfr8)) (sbl rfl) (sbl rfl) (sbl rfl)), (IM.fr (In := In) hI8 (Fr.f 42 (Fr.c 44 Fr.rf)) (by decide) (by decide)), (by show (va_up c8 44 ((c8 44) + 1)) 44 ≤ i8 + 1; rw [va_up_self]; (first | omega | (have zz0 := Hid.u hi_c8; have zz1 := Hid.u hi_cn; have zz2 := Hid.u hq_c8; omega))), (AK.push hx8_1 (by (first | omega | (have zz0 := Hid.u hi_c8; have zz1 := Hid.u hi_cn; have zz2 := Hid.u hq_c8; omega))))⟩ hP hD hS ls (lv_sub hl [0, 1, 2, 3, 4] rfl)
          ·
            have tc_9 : ((lkM F8 i8 v0).toInt : Int) < v1.toInt := Int32.lt_iff_toInt_lt.mp (Int32.not_le.mp c_9)
            refine lv_goto (tgt := 65) hx hb (oc_167 41 (aq_17 shX12_lays_24) sgw_0_24) rfl ?_
            refine lv_iinc (v := (nI (i8 + 1))) (lv' := [(4, .int (nI (i8 + 1))), (0, .ref (g 100)), (1, .int v0), (2, .int v1), (3, .int (nI w0))]) hx hb dX12_lays_65 hl (k := 0) rfl (nI_1 _) (ltb rfl) rfl (fun ls hl => ?_)
            refine lv_goto (tgt := 8) hx hb dX12_lays_68 rfl ?_
            exact ih8 (i8 + 1) c8 F8 _ _ (by (first | omega | (have zz0 := Hid.u hi_c8; have zz1 := Hid.u hi_cn; have zz2 := Hid.u hq_c8; omega))) ⟨(by (first | omega | (have zz0 := Hid.u hi_c8; have zz1 := Hid.u hi_cn; have zz2 := Hid.u hq_c8; omega))), (Fr.mo hfr8 (sbl rfl) (sbl rfl) (sbl rfl)), hI8, (by show c8 44 ≤ i8 + 1; (first | omega | (have zz0 := Hid.u hi_c8; have zz1 := Hid.u hi_cn; have zz2 := Hid.u hq_c8; omega))), hx8_1⟩ hP hD hS ls (lv_sub hl [0, 1, 2, 3, 4] rfl)
        ·
          have tc_6 : (v0.toInt : Int) < ((F8 7) i8).toInt := Int32.lt_iff_toInt_lt.mp (Int32.not_le.mp c_6)
          refine lv_iconst (v := 0) hx hb (oc_3 28 (aq_4 shX12_lays_24)) kic_0 ?_
          exact W.zret (v := 0) hx hb hr rfl (fun t ht hW => ⟨⟨0, (c8, In, F8), rfl, ⟨(Fr.mo hfr8 (sbl rfl) (sbl rfl) (sbl rfl)), hI8, (by show 0 = 0 ∨ (0 = 1 ∧ c8 44 ≤ 8 ∧ c8 44 ≤ w0 ∧ AK c8 F8); exact Or.inl rfl)⟩, by rw [ht]; exact hP, hD⟩, hS.F ht⟩) hS.2.2 (oc_172 29 (aq_5 shX12_lays_24))
  exact lp_8 _ 0 (va_up cn 44 0) Fn _ _ (Nat.lt_succ_self _) ⟨(by (first | omega | (have zz0 := Hid.u hi_cn; omega))), (Fr.mo (Fr.c 44 Fr.rf) (sbl rfl) (sbl rfl) (sbl rfl)), (IM.fr (In := In) hI (Fr.c 44 Fr.rf) (by decide) (by decide)), (Nat.zero_le _), AK.zero⟩ hP hD hS ls (lv_sub hl [0, 1, 2, 3, 4] rfl)
set_option maxRecDepth 100000 in
set_option maxHeartbeats 4000000 in
theorem q_roundTo (l : Launch) (D : va_G) (cI cB cZ : ClassId) (g : Nat → Nat) (cn : Nat → Nat) (In : Nat → Int32) (Fn : Nat → Nat → Int32) (l0 : Nat) (hI : IM cn Fn) (h44 : cn 44 ≤ 8) (hAK : AK cn Fn) (hl0 : l0 ≤ 255) : Met l yX12_roundTo (CWS yX12_roundTo cX12_roundTo 5 (some .int)) (RM 1 0 0) (PBr [.ref (g 100), .int (nI l0)] D cI cB cZ (wM cI cB cZ g cn In Fn)) (vp_Si (fun _ => True)) 0 0 (fun _ => False) := by
  refine en_r rfl pn_RX12 (Nat.le_of_ble_eq_true rfl) (fun p e s m below meth c hx hb hml hown S hr hlocks hnm hP hK hS ls hl => ?_)
  have hl : lv_has ls 5 [(0, .ref (g 100)), (1, .int (nI l0))] := hl
  have hi_cn : Hid (CB cn) := hI.b
  refine lv_iload_n hx hb (oc_27 0 shX12_roundTo_0) rfl (lvA1 hl) ?_
  have : (nI l0).toInt = ((l0 : Nat) : Int) := nI_toInt (by (first | omega | (have zz0 := Hid.u hi_cn; omega)))
  refine lv_if_ne (tgt := 8) hx hb (oc_154 1 (aq_1 shX12_roundTo_0) sgw_0_7) rfl (fun c_1 => ?_) (fun c_1 => ?_)
  ·
    have tc_1 : ((nI l0).toInt : Int) ≠ 0 := fun q => c_1 (Int32.toInt_inj.mp q)
    refine lv_ldcw (v := 1000000) hx hb hown (S.2.2.2.2 _ (wk8_10 9 rfl rfl)) (oc_19 8 (aq_8 shX12_roundTo_0) uw_1_114) ?_
    refine lv_istore_n (lv' := [(2, .int 1000000), (0, .ref (g 100)), (1, .int (nI l0))]) hx hb dX12_roundTo_11 rfl hl (ltb rfl) rfl (fun ls hl => ?_)
    refine lv_iconst (v := 0) hx hb dX12_roundTo_12 kic_0 ?_
    refine lv_istore_n (lv' := [(3, .int 0), (2, .int 1000000), (0, .ref (g 100)), (1, .int (nI l0))]) hx hb dX12_roundTo_13 rfl hl (ltb rfl) rfl (fun ls hl => ?_)
    have lp_14 : ∀ (n : Nat) (i14 : Nat) (x14_2 : Int32) , cn 44 - i14 < n → (i14 ≤ cn 44) → ∀ ls : Array Slot, lv_has ls 5 [(3, .int (nI i14)), (2, .int x14_2), (0, .ref (g 100)), (1, .int (nI l0))] → W p l e (RM 1 0 0) s m ([.ref (g 100), .int (nI l0)]).toArray below meth c s.heap [] 0 0 (MQ below (vp_Si (fun _ => True)) ([.ref (g 100), .int (nI l0)]).toArray s 0 0 (fun _ => False)) (F0 m 14 ls []) := by
      intro n14
      induction n14 with
      | zero => intros; (first | omega | (have zz0 := Hid.u hi_cn; omega))
      | succ n14 ih14 =>
        intro i14 x14_2 hmu14 hinv14 ls hl
        have hr14 := hinv14
        have ti14 : (nI i14).toInt = (i14 : Int) := nI_toInt (by (first | omega | (have zz0 := Hid.u hi_cn; omega)))
        refine lv_iload_n hx hb dX12_roundTo_14 rfl (lvA0 hl) ?_
        refine lv_aload_n hx hb dX12_roundTo_15 rfl (lvA2 hl) ?_
        refine gM_364 S hK hP (v := .int (nI (cn 44))) rfl dX12_roundTo_16 ?_
        have : (nI (cn 44)).toInt = (((cn 44) : Nat) : Int) := nI_toInt (by (first | omega | (have zz0 := Hid.u hi_cn; omega)))
        refine lv_icmp_ge (tgt := 82) hx hb dX12_roundTo_19 rfl (fun c_2 => ?_) (fun c_2 => ?_)
        ·
          have tc_2 : ((nI (cn 44)).toInt : Int) ≤ (nI i14).toInt := Int32.le_iff_toInt_le.mp c_2
          refine lv_iload_n hx hb dX12_roundTo_82 rfl (lvA1 hl) ?_
          exact W.iret (v := x14_2) hx hb hr (fun t ht hW => ⟨x14_2, rfl, trivial, ht⟩) (fun _ h => absurd h List.not_mem_nil) dX12_roundTo_83
        ·
          have tc_2 : ((nI i14).toInt : Int) < (nI (cn 44)).toInt := Int32.lt_iff_toInt_lt.mp (Int32.not_le.mp c_2)
          refine lv_iload_n hx hb dX12_roundTo_22 rfl (lvA3 hl) ?_
          refine lv_iload_n hx hb dX12_roundTo_23 rfl (lvA0 hl) ?_
          refine lv_ishr hx hb dX12_roundTo_24 ?_
          refine lv_iconst (v := 1) hx hb dX12_roundTo_25 kic_1 ?_
          refine lv_iand hx hb dX12_roundTo_26 ?_
          refine lv_topi (fun y_3 ey_3 => ?_)
          rcases bitc (l := l0) (b := i14) (by (first | omega | (have zz0 := Hid.u hi_cn; omega))) (by (first | omega | (have zz0 := Hid.u hi_cn; omega))) with ⟨hb_y_3, qy_3⟩ | ⟨hb_y_3, qy_3⟩
          ·
            obtain rfl : y_3 = 0 := ey_3.trans qy_3
            refine lv_if_ne (tgt := 33) hx hb dX12_roundTo_27 rfl (fun h => absurd h cq_eq_0_0) (fun _ => ?_)
            refine lv_goto (tgt := 76) hx hb dX12_roundTo_30 rfl ?_
            refine lv_iinc (v := (nI (i14 + 1))) (lv' := [(3, .int (nI (i14 + 1))), (2, .int x14_2), (0, .ref (g 100)), (1, .int (nI l0))]) hx hb dX12_roundTo_76 hl (k := 0) rfl (nI_1 _) (ltb rfl) rfl (fun ls hl => ?_)
            refine lv_goto (tgt := 14) hx hb dX12_roundTo_79 rfl ?_
            exact ih14 (i14 + 1) x14_2 (by (first | omega | (have zz0 := Hid.u hi_cn; omega))) (by (first | omega | (have zz0 := Hid.u hi_cn; omega))) ls (lv_sub hl [0, 1, 2, 3] rfl)
          ·
            obtain rfl : y_3 = 1 := ey_3.trans qy_3
            refine lv_if_ne (tgt := 33) hx hb dX12_roundTo_27 rfl (fun _ => ?_) (fun h => absurd h cq_eq_1_0)
            refine lv_aload_n hx hb dX12_roundTo_33 rfl (lvA2 hl) ?_
            refine lv_aload_n hx hb dX12_roundTo_34 rfl (lvA2 hl) ?_
            refine gM_101 S hK hP (v := .ref (g 42)) rfl dX12_roundTo_35 ?_
            refine lv_iload_n hx hb dX12_roundTo_38 rfl (lvA0 hl) ?_
            have kb_1 : i14 < 10 := by (first | omega | (have zz0 := Hid.u hi_cn; omega))
            obtain ⟨a_4, ha_4, ea_4⟩ := hAK i14 (by (first | omega | (have zz0 := Hid.u hi_cn; omega)))
            refine ldM_42 hx hb hK hP (x := (nI a_4)) (vp_in_nI kb_1 (ltb rfl)) (nI_clamp (Nat.lt_trans kb_1 (ltb rfl))) ea_4 dX12_roundTo_39 ?_
            refine vp_callSi (runV_ra (As := [.int (nI a_4)]) (rest := []) S (q_toDepot l D cI cB cZ g cn In Fn a_4 hI (by (first | omega | (have zz0 := Hid.u hi_cn; omega)))) kV_RX12_367 hK hP 0 rfl rfl rfl ⟨Nat.le_of_ble_eq_true rfl, Nat.le_of_ble_eq_true rfl⟩ ⟨Nat.le_of_ble_eq_true rfl, Nat.le_of_ble_eq_true rfl⟩ rfl hl.1 rfl (Nat.le_of_ble_eq_true rfl) dX12_roundTo_40) (fun r_5 h_6 => ?_)
            subst h_6
            refine lv_aload_n hx hb dX12_roundTo_43 rfl (lvA2 hl) ?_
            refine gM_104 S hK hP (v := .ref (g 43)) rfl dX12_roundTo_44 ?_
            refine lv_bipush (v := 8) hx hb dX12_roundTo_47 kbc_8 ?_
            refine lv_iload_n hx hb dX12_roundTo_49 rfl (lvA3 hl) ?_
            refine lv_iconst (v := 1) hx hb dX12_roundTo_50 kic_1 ?_
            refine lv_iload_n hx hb dX12_roundTo_51 rfl (lvA0 hl) ?_
            refine lv_ishl hx hb dX12_roundTo_52 ?_
            refine lv_iconst (v := (-1)) hx hb dX12_roundTo_53 kic_m1 ?_
            refine lv_ixor hx hb dX12_roundTo_54 ?_
            refine lv_iand hx hb dX12_roundTo_55 ?_
            refine lv_topi (fun y_7 ey_7 => ?_)
            obtain rfl : y_7 = (nI (clr l0 i14)) := ey_7.trans (clrI (by (first | omega | (have zz0 := Hid.u hi_cn; omega))) (by (first | omega | (have zz0 := Hid.u hi_cn; omega))))
            have hcl := clr_le (l := l0) (a := i14)
            refine lv_imul hx hb dX12_roundTo_56 ?_
            refine lv_topi (fun y_8 ey_8 => ?_)
            obtain rfl : y_8 = (nI (8 * (clr l0 i14))) := ey_8.trans (pk_mul 8 (clr l0 i14))
            refine lv_iload_n hx hb dX12_roundTo_57 rfl (lvA0 hl) ?_
            refine lv_iadd hx hb dX12_roundTo_58 ?_
            refine lv_topi (fun y_9 ey_9 => ?_)
            obtain rfl : y_9 = (nI ((8 * (clr l0 i14)) + i14)) := ey_9.trans (nI_add (8 * (clr l0 i14)) i14)
            have kb_2 : ((8 * (clr l0 i14)) + i14) < 2048 := by (first | omega | (have zz0 := Hid.u hi_cn; omega))
            refine ldM_43 hx hb hK hP (x := ((Fn 43) ((8 * (clr l0 i14)) + i14))) (vp_in_nI kb_2 (ltb rfl)) (nI_clamp (Nat.lt_trans kb_2 (ltb rfl))) rfl dX12_roundTo_59 ?_
            refine lv_iadd hx hb dX12_roundTo_60 ?_
            refine lv_istore (lv' := [(4, .int (((Fn 3) a_4 + (Fn 4) a_4) + ((Fn 43) ((8 * (clr l0 i14)) + i14)))), (3, .int (nI i14)), (2, .int x14_2), (0, .ref (g 100)), (1, .int (nI l0))]) hx hb dX12_roundTo_61 hl (ltb rfl) rfl (fun ls hl => ?_)
            refine lv_iload hx hb dX12_roundTo_63 (lvA0 hl) ?_
            refine lv_iload_n hx hb dX12_roundTo_65 rfl (lvA2 hl) ?_
            refine lv_icmp_ge (tgt := 74) hx hb dX12_roundTo_66 rfl (fun c_10 => ?_) (fun c_10 => ?_)
            ·
              have tc_10 : (x14_2.toInt : Int) ≤ (((Fn 3) a_4 + (Fn 4) a_4) + ((Fn 43) ((8 * (clr l0 i14)) + i14))).toInt := Int32.le_iff_toInt_le.mp c_10
              refine lv_iload_n hx hb dX12_roundTo_74 rfl (lvA2 hl) ?_
              refine lv_istore_n (lv' := [(2, .int x14_2), (4, .int (((Fn 3) a_4 + (Fn 4) a_4) + ((Fn 43) ((8 * (clr l0 i14)) + i14)))), (3, .int (nI i14)), (0, .ref (g 100)), (1, .int (nI l0))]) hx hb dX12_roundTo_75 rfl hl (ltb rfl) rfl (fun ls hl => ?_)
              refine lv_iinc (v := (nI (i14 + 1))) (lv' := [(3, .int (nI (i14 + 1))), (2, .int x14_2), (4, .int (((Fn 3) a_4 + (Fn 4) a_4) + ((Fn 43) ((8 * (clr l0 i14)) + i14)))), (0, .ref (g 100)), (1, .int (nI l0))]) hx hb dX12_roundTo_76 hl (k := 2) rfl (nI_1 _) (ltb rfl) rfl (fun ls hl => ?_)
              refine lv_goto (tgt := 14) hx hb dX12_roundTo_79 rfl ?_
              exact ih14 (i14 + 1) x14_2 (by (first | omega | (have zz0 := Hid.u hi_cn; omega))) (by (first | omega | (have zz0 := Hid.u hi_cn; omega))) ls (lv_sub hl [0, 1, 3, 4] rfl)
            ·
              have tc_10 : ((((Fn 3) a_4 + (Fn 4) a_4) + ((Fn 43) ((8 * (clr l0 i14)) + i14))).toInt : Int) < x14_2.toInt := Int32.lt_iff_toInt_lt.mp (Int32.not_le.mp c_10)
              refine lv_iload hx hb dX12_roundTo_69 (lvA0 hl) ?_
              refine lv_goto (tgt := 75) hx hb dX12_roundTo_71 rfl ?_
              refine lv_istore_n (lv' := [(2, .int (((Fn 3) a_4 + (Fn 4) a_4) + ((Fn 43) ((8 * (clr l0 i14)) + i14)))), (4, .int (((Fn 3) a_4 + (Fn 4) a_4) + ((Fn 43) ((8 * (clr l0 i14)) + i14)))), (3, .int (nI i14)), (0, .ref (g 100)), (1, .int (nI l0))]) hx hb dX12_roundTo_75 rfl hl (ltb rfl) rfl (fun ls hl => ?_)
              refine lv_iinc (v := (nI (i14 + 1))) (lv' := [(3, .int (nI (i14 + 1))), (2, .int (((Fn 3) a_4 + (Fn 4) a_4) + ((Fn 43) ((8 * (clr l0 i14)) + i14)))), (4, .int (((Fn 3) a_4 + (Fn 4) a_4) + ((Fn 43) ((8 * (clr l0 i14)) + i14)))), (0, .ref (g 100)), (1, .int (nI l0))]) hx hb dX12_roundTo_76 hl (k := 2) rfl (nI_1 _) (ltb rfl) rfl (fun ls hl => ?_)
              refine lv_goto (tgt := 14) hx hb dX12_roundTo_79 rfl ?_
              exact ih14 (i14 + 1) (((Fn 3) a_4 + (Fn 4) a_4) + ((Fn 43) ((8 * (clr l0 i14)) + i14))) (by (first | omega | (have zz0 := Hid.u hi_cn; omega))) (by (first | omega | (have zz0 := Hid.u hi_cn; omega))) ls (lv_sub hl [0, 1, 3, 4] rfl)
    exact lp_14 _ 0 1000000 (Nat.lt_succ_self _) (by (first | omega | (have zz0 := Hid.u hi_cn; omega))) ls (lv_sub hl [0, 1, 2, 3] rfl)
  ·
    have tc_1 : ((nI l0).toInt : Int) = 0 := congrArg Int32.toInt c_1
    refine lv_iconst (v := 0) hx hb (oc_3 4 (aq_4 shX12_roundTo_0)) kic_0 ?_
    refine lv_goto (tgt := 11) hx hb (oc_167 5 (aq_5 shX12_roundTo_0) sgw_0_6) rfl ?_
    refine lv_istore_n (lv' := [(2, .int 0), (0, .ref (g 100)), (1, .int (nI l0))]) hx hb dX12_roundTo_11 rfl hl (ltb rfl) rfl (fun ls hl => ?_)
    refine lv_iconst (v := 0) hx hb dX12_roundTo_12 kic_0 ?_
    refine lv_istore_n (lv' := [(3, .int 0), (2, .int 0), (0, .ref (g 100)), (1, .int (nI l0))]) hx hb dX12_roundTo_13 rfl hl (ltb rfl) rfl (fun ls hl => ?_)
    have lp_14 : ∀ (n : Nat) (i14 : Nat) (x14_2 : Int32) , cn 44 - i14 < n → (i14 ≤ cn 44) → ∀ ls : Array Slot, lv_has ls 5 [(3, .int (nI i14)), (2, .int x14_2), (0, .ref (g 100)), (1, .int (nI l0))] → W p l e (RM 1 0 0) s m ([.ref (g 100), .int (nI l0)]).toArray below meth c s.heap [] 0 0 (MQ below (vp_Si (fun _ => True)) ([.ref (g 100), .int (nI l0)]).toArray s 0 0 (fun _ => False)) (F0 m 14 ls []) := by
      intro n14
      induction n14 with
      | zero => intros; (first | omega | (have zz0 := Hid.u hi_cn; omega))
      | succ n14 ih14 =>
        intro i14 x14_2 hmu14 hinv14 ls hl
        have hr14 := hinv14
        have ti14 : (nI i14).toInt = (i14 : Int) := nI_toInt (by (first | omega | (have zz0 := Hid.u hi_cn; omega)))
        refine lv_iload_n hx hb dX12_roundTo_14 rfl (lvA0 hl) ?_
        refine lv_aload_n hx hb dX12_roundTo_15 rfl (lvA2 hl) ?_
        refine gM_364 S hK hP (v := .int (nI (cn 44))) rfl dX12_roundTo_16 ?_
        have : (nI (cn 44)).toInt = (((cn 44) : Nat) : Int) := nI_toInt (by (first | omega | (have zz0 := Hid.u hi_cn; omega)))
        refine lv_icmp_ge (tgt := 82) hx hb dX12_roundTo_19 rfl (fun c_11 => ?_) (fun c_11 => ?_)
        ·
          have tc_11 : ((nI (cn 44)).toInt : Int) ≤ (nI i14).toInt := Int32.le_iff_toInt_le.mp c_11
          refine lv_iload_n hx hb dX12_roundTo_82 rfl (lvA1 hl) ?_
          exact W.iret (v := x14_2) hx hb hr (fun t ht hW => ⟨x14_2, rfl, trivial, ht⟩) (fun _ h => absurd h List.not_mem_nil) dX12_roundTo_83
        ·
          have tc_11 : ((nI i14).toInt : Int) < (nI (cn 44)).toInt := Int32.lt_iff_toInt_lt.mp (Int32.not_le.mp c_11)
          refine lv_iload_n hx hb dX12_roundTo_22 rfl (lvA3 hl) ?_
          refine lv_iload_n hx hb dX12_roundTo_23 rfl (lvA0 hl) ?_
          refine lv_ishr hx hb dX12_roundTo_24 ?_
          refine lv_iconst (v := 1) hx hb dX12_roundTo_25 kic_1 ?_
          refine lv_iand hx hb dX12_roundTo_26 ?_
          refine lv_topi (fun y_12 ey_12 => ?_)
          rcases bitc (l := l0) (b := i14) (by (first | omega | (have zz0 := Hid.u hi_cn; omega))) (by (first | omega | (have zz0 := Hid.u hi_cn; omega))) with ⟨hb_y_12, qy_12⟩ | ⟨hb_y_12, qy_12⟩
          ·
            obtain rfl : y_12 = 0 := ey_12.trans qy_12
            refine lv_if_ne (tgt := 33) hx hb dX12_roundTo_27 rfl (fun h => absurd h cq_eq_0_0) (fun _ => ?_)
            refine lv_goto (tgt := 76) hx hb dX12_roundTo_30 rfl ?_
            refine lv_iinc (v := (nI (i14 + 1))) (lv' := [(3, .int (nI (i14 + 1))), (2, .int x14_2), (0, .ref (g 100)), (1, .int (nI l0))]) hx hb dX12_roundTo_76 hl (k := 0) rfl (nI_1 _) (ltb rfl) rfl (fun ls hl => ?_)
            refine lv_goto (tgt := 14) hx hb dX12_roundTo_79 rfl ?_
            exact ih14 (i14 + 1) x14_2 (by (first | omega | (have zz0 := Hid.u hi_cn; omega))) (by (first | omega | (have zz0 := Hid.u hi_cn; omega))) ls (lv_sub hl [0, 1, 2, 3] rfl)
          ·
            obtain rfl : y_12 = 1 := ey_12.trans qy_12
            refine lv_if_ne (tgt := 33) hx hb dX12_roundTo_27 rfl (fun _ => ?_) (fun h => absurd h cq_eq_1_0)
            refine lv_aload_n hx hb dX12_roundTo_33 rfl (lvA2 hl) ?_
            refine lv_aload_n hx hb dX12_roundTo_34 rfl (lvA2 hl) ?_
            refine gM_101 S hK hP (v := .ref (g 42)) rfl dX12_roundTo_35 ?_
            refine lv_iload_n hx hb dX12_roundTo_38 rfl (lvA0 hl) ?_
            have kb_3 : i14 < 10 := by (first | omega | (have zz0 := Hid.u hi_cn; omega))
            obtain ⟨a_13, ha_13, ea_13⟩ := hAK i14 (by (first | omega | (have zz0 := Hid.u hi_cn; omega)))
            refine ldM_42 hx hb hK hP (x := (nI a_13)) (vp_in_nI kb_3 (ltb rfl)) (nI_clamp (Nat.lt_trans kb_3 (ltb rfl))) ea_13 dX12_roundTo_39 ?_
            refine vp_callSi (runV_ra (As := [.int (nI a_13)]) (rest := []) S (q_toDepot l D cI cB cZ g cn In Fn a_13 hI (by (first | omega | (have zz0 := Hid.u hi_cn; omega)))) kV_RX12_367 hK hP 0 rfl rfl rfl ⟨Nat.le_of_ble_eq_true rfl, Nat.le_of_ble_eq_true rfl⟩ ⟨Nat.le_of_ble_eq_true rfl, Nat.le_of_ble_eq_true rfl⟩ rfl hl.1 rfl (Nat.le_of_ble_eq_true rfl) dX12_roundTo_40) (fun r_14 h_15 => ?_)
            subst h_15
            refine lv_aload_n hx hb dX12_roundTo_43 rfl (lvA2 hl) ?_
            refine gM_104 S hK hP (v := .ref (g 43)) rfl dX12_roundTo_44 ?_
            refine lv_bipush (v := 8) hx hb dX12_roundTo_47 kbc_8 ?_
            refine lv_iload_n hx hb dX12_roundTo_49 rfl (lvA3 hl) ?_
            refine lv_iconst (v := 1) hx hb dX12_roundTo_50 kic_1 ?_
            refine lv_iload_n hx hb dX12_roundTo_51 rfl (lvA0 hl) ?_
            refine lv_ishl hx hb dX12_roundTo_52 ?_
            refine lv_iconst (v := (-1)) hx hb dX12_roundTo_53 kic_m1 ?_
            refine lv_ixor hx hb dX12_roundTo_54 ?_
            refine lv_iand hx hb dX12_roundTo_55 ?_
            refine lv_topi (fun y_16 ey_16 => ?_)
            obtain rfl : y_16 = (nI (clr l0 i14)) := ey_16.trans (clrI (by (first | omega | (have zz0 := Hid.u hi_cn; omega))) (by (first | omega | (have zz0 := Hid.u hi_cn; omega))))
            have hcl := clr_le (l := l0) (a := i14)
            refine lv_imul hx hb dX12_roundTo_56 ?_
            refine lv_topi (fun y_17 ey_17 => ?_)
            obtain rfl : y_17 = (nI (8 * (clr l0 i14))) := ey_17.trans (pk_mul 8 (clr l0 i14))
            refine lv_iload_n hx hb dX12_roundTo_57 rfl (lvA0 hl) ?_
            refine lv_iadd hx hb dX12_roundTo_58 ?_
            refine lv_topi (fun y_18 ey_18 => ?_)
            obtain rfl : y_18 = (nI ((8 * (clr l0 i14)) + i14)) := ey_18.trans (nI_add (8 * (clr l0 i14)) i14)
            have kb_4 : ((8 * (clr l0 i14)) + i14) < 2048 := by (first | omega | (have zz0 := Hid.u hi_cn; omega))
            refine ldM_43 hx hb hK hP (x := ((Fn 43) ((8 * (clr l0 i14)) + i14))) (vp_in_nI kb_4 (ltb rfl)) (nI_clamp (Nat.lt_trans kb_4 (ltb rfl))) rfl dX12_roundTo_59 ?_
            refine lv_iadd hx hb dX12_roundTo_60 ?_
            refine lv_istore (lv' := [(4, .int (((Fn 3) a_13 + (Fn 4) a_13) + ((Fn 43) ((8 * (clr l0 i14)) + i14)))), (3, .int (nI i14)), (2, .int x14_2), (0, .ref (g 100)), (1, .int (nI l0))]) hx hb dX12_roundTo_61 hl (ltb rfl) rfl (fun ls hl => ?_)
            refine lv_iload hx hb dX12_roundTo_63 (lvA0 hl) ?_
            refine lv_iload_n hx hb dX12_roundTo_65 rfl (lvA2 hl) ?_
            refine lv_icmp_ge (tgt := 74) hx hb dX12_roundTo_66 rfl (fun c_19 => ?_) (fun c_19 => ?_)
            ·
              have tc_19 : (x14_2.toInt : Int) ≤ (((Fn 3) a_13 + (Fn 4) a_13) + ((Fn 43) ((8 * (clr l0 i14)) + i14))).toInt := Int32.le_iff_toInt_le.mp c_19
              refine lv_iload_n hx hb dX12_roundTo_74 rfl (lvA2 hl) ?_
              refine lv_istore_n (lv' := [(2, .int x14_2), (4, .int (((Fn 3) a_13 + (Fn 4) a_13) + ((Fn 43) ((8 * (clr l0 i14)) + i14)))), (3, .int (nI i14)), (0, .ref (g 100)), (1, .int (nI l0))]) hx hb dX12_roundTo_75 rfl hl (ltb rfl) rfl (fun ls hl => ?_)
              refine lv_iinc (v := (nI (i14 + 1))) (lv' := [(3, .int (nI (i14 + 1))), (2, .int x14_2), (4, .int (((Fn 3) a_13 + (Fn 4) a_13) + ((Fn 43) ((8 * (clr l0 i14)) + i14)))), (0, .ref (g 100)), (1, .int (nI l0))]) hx hb dX12_roundTo_76 hl (k := 2) rfl (nI_1 _) (ltb rfl) rfl (fun ls hl => ?_)
              refine lv_goto (tgt := 14) hx hb dX12_roundTo_79 rfl ?_
              exact ih14 (i14 + 1) x14_2 (by (first | omega | (have zz0 := Hid.u hi_cn; omega))) (by (first | omega | (have zz0 := Hid.u hi_cn; omega))) ls (lv_sub hl [0, 1, 3, 4] rfl)
            ·
              have tc_19 : ((((Fn 3) a_13 + (Fn 4) a_13) + ((Fn 43) ((8 * (clr l0 i14)) + i14))).toInt : Int) < x14_2.toInt := Int32.lt_iff_toInt_lt.mp (Int32.not_le.mp c_19)
              refine lv_iload hx hb dX12_roundTo_69 (lvA0 hl) ?_
              refine lv_goto (tgt := 75) hx hb dX12_roundTo_71 rfl ?_
              refine lv_istore_n (lv' := [(2, .int (((Fn 3) a_13 + (Fn 4) a_13) + ((Fn 43) ((8 * (clr l0 i14)) + i14)))), (4, .int (((Fn 3) a_13 + (Fn 4) a_13) + ((Fn 43) ((8 * (clr l0 i14)) + i14)))), (3, .int (nI i14)), (0, .ref (g 100)), (1, .int (nI l0))]) hx hb dX12_roundTo_75 rfl hl (ltb rfl) rfl (fun ls hl => ?_)
              refine lv_iinc (v := (nI (i14 + 1))) (lv' := [(3, .int (nI (i14 + 1))), (2, .int (((Fn 3) a_13 + (Fn 4) a_13) + ((Fn 43) ((8 * (clr l0 i14)) + i14)))), (4, .int (((Fn 3) a_13 + (Fn 4) a_13) + ((Fn 43) ((8 * (clr l0 i14)) + i14)))), (0, .ref (g 100)), (1, .int (nI l0))]) hx hb dX12_roundTo_76 hl (k := 2) rfl (nI_1 _) (ltb rfl) rfl (fun ls hl => ?_)
              refine lv_goto (tgt := 14) hx hb dX12_roundTo_79 rfl ?_
              exact ih14 (i14 + 1) (((Fn 3) a_13 + (Fn 4) a_13) + ((Fn 43) ((8 * (clr l0 i14)) + i14))) (by (first | omega | (have zz0 := Hid.u hi_cn; omega))) (by (first | omega | (have zz0 := Hid.u hi_cn; omega))) ls (lv_sub hl [0, 1, 3, 4] rfl)
    exact lp_14 _ 0 0 (Nat.lt_succ_self _) (by (first | omega | (have zz0 := Hid.u hi_cn; omega))) ls (lv_sub hl [0, 1, 2, 3] rfl)
set_option maxRecDepth 100000 in
set_option maxHeartbeats 4000000 in
theorem q_round (l : Launch) (D : va_G) (cI cB cZ : ClassId) (g : Nat → Nat) (cn : Nat → Nat) (In : Nat → Int32) (Fn : Nat → Nat → Int32) (v0 v1 v2 : Int32) (sz : Nat) (hI : IM cn Fn) : Met l yX12_round (CWS yX12_round cX12_round 8 (some .int)) (RM 4 0 0) (PBw [.ref (g 100), .int v0, .int v1, .int v2] D cI cB cZ (wM cI cB cZ g cn In Fn) sz) (va_Qi (fun (r : Int32) (u : (Nat → Nat) × (Nat → Int32) × (Nat → Nat → Int32)) => (fun r c2 I2 F2 => Fr [44] [45] [42, 43] cn In Fn c2 I2 F2 ∧ IM c2 F2 ∧ (True)) r u.1 u.2.1 u.2.2) (fun (u : (Nat → Nat) × (Nat → Int32) × (Nat → Nat → Int32)) (t : State) => va_P D vwCl (wM cI cB cZ g u.1 u.2.1 u.2.2) t.heap ∧ va_D (va_A (wM cI cB cZ g cn In Fn) sz) (wM cI cB cZ g u.1 u.2.1 u.2.2)) (va_A (wM cI cB cZ g cn In Fn) sz)) 0 0 (va_A (wM cI cB cZ g cn In Fn) sz) := by
  refine en_w (fun A => (va_Qi (fun (r : Int32) (u : (Nat → Nat) × (Nat → Int32) × (Nat → Nat → Int32)) => (fun (r : Int32) (c2 : Nat → Nat) (I2 : Nat → Int32) (F2 : Nat → Nat → Int32) => Fr [44] [45] [42, 43] cn In Fn c2 I2 F2 ∧ IM c2 F2 ∧ (True)) r u.1 u.2.1 u.2.2) (fun (u : (Nat → Nat) × (Nat → Int32) × (Nat → Nat → Int32)) (t : State) => va_P D vwCl (wM cI cB cZ g u.1 u.2.1 u.2.2) t.heap ∧ va_D A (wM cI cB cZ g u.1 u.2.1 u.2.2)) A)) rfl rfl pn_RX12 (Nat.le_of_ble_eq_true rfl) (fun p e s m below meth c A hx hb hml hown S hr hlocks hnm hA hP hK hD hS ls hl => ?_)
  have hl : lv_has ls 8 [(0, .ref (g 100)), (1, .int v0), (2, .int v1), (3, .int v2)] := hl
  have hi_cn : Hid (CB cn) := hI.b
  refine lv_iload_n hx hb (oc_27 0 shX12_round_0) rfl (lvA1 hl) ?_
  refine vp_callSi (runS_r (As := [.int v0]) (rest := []) S (q_isDay l D cI cB cZ v0 ) kS_RX12_341 hK hP [] rfl ⟨Nat.le_of_ble_eq_true rfl, Nat.le_of_ble_eq_true rfl⟩ ⟨Nat.le_of_ble_eq_true rfl, Nat.le_of_ble_eq_true rfl⟩ rfl hl.1 rfl (Nat.le_of_ble_eq_true rfl) (oc_184 1 (aq_1 shX12_round_0) uw_1_85)) (fun r_1 h_2 => ?_)
  rcases h_2 with ⟨rfl, h_2⟩ | ⟨rfl, h_2⟩
  ·
    have h_2 : 0 ≤ v0.toInt ∧ v0.toInt ≤ 399 := h_2
    refine lv_if_eq (tgt := 23) hx hb (oc_153 4 (aq_4 shX12_round_0) sgw_0_19) rfl (fun h => absurd h cq_eq_1_0) (fun _ => ?_)
    refine lv_iload_n hx hb (oc_28 7 (aq_7 shX12_round_0)) rfl (lvA2 hl) ?_
    refine lv_iconst (v := 1) hx hb (oc_4 8 (aq_8 shX12_round_0)) kic_1 ?_
    refine lv_sipush (v := 400) hx hb (oc_17 9 (aq_9 shX12_round_0) sgw_1_144) (by decide) ?_
    refine vp_callSi (runS_r (As := [.int v1, .int 1, .int 400]) (rest := []) S (q_in l D cI cB cZ v1 1 400 ) kS_RX12_214 hK hP [] rfl ⟨Nat.le_of_ble_eq_true rfl, Nat.le_of_ble_eq_true rfl⟩ ⟨Nat.le_of_ble_eq_true rfl, Nat.le_of_ble_eq_true rfl⟩ rfl hl.1 rfl (Nat.le_of_ble_eq_true rfl) (oc_184 12 (aq_12 shX12_round_0) uw_0_214)) (fun r_3 h_4 => ?_)
    rcases h_4 with ⟨rfl, h_4⟩ | ⟨rfl, h_4⟩
    ·
      have h_4 : 1 ≤ v1.toInt ∧ v1.toInt ≤ 400 := h_4
      refine lv_if_eq (tgt := 23) hx hb (oc_153 15 (aq_15 shX12_round_0) sgw_0_8) rfl (fun h => absurd h cq_eq_1_0) (fun _ => ?_)
      refine lv_iload_n hx hb (oc_29 18 (aq_18 shX12_round_0)) rfl (lvA3 hl) ?_
      refine lv_iconst (v := (-1)) hx hb (oc_2 19 (aq_19 shX12_round_0)) kic_m1 ?_
      refine lv_icmp_ge (tgt := 25) hx hb (oc_162 20 (aq_20 shX12_round_0) sgw_0_5) rfl (fun c_5 => ?_) (fun c_5 => ?_)
      ·
        have tc_5 : ((-1) : Int) ≤ v2.toInt := Int32.le_iff_toInt_le.mp c_5
        refine lv_aload_n hx hb (oc_42 25 (aq_1 shX12_round_24)) rfl (lvA0 hl) ?_
        refine lv_iload_n hx hb (oc_27 26 (aq_2 shX12_round_24)) rfl (lvA1 hl) ?_
        refine lv_iload_n hx hb (oc_28 27 (aq_3 shX12_round_24)) rfl (lvA2 hl) ?_
        refine lv_bipush (v := 8) hx hb (oc_16 28 (aq_4 shX12_round_24) sgb_8) kbc_8 ?_
        have hFc := free_all hD hS hA
        refine va_calli (runV_a (As := [.int v0, .int v1, .int 8]) (rest := []) S (q_lays l D cI cB cZ g cn In Fn v0 v1 8 s.heap.size hI (by (first | omega | (have zz0 := Hid.u hi_cn; omega)))) kV_RX12_380 hK hP hD 0 rfl rfl rfl ⟨Nat.le_of_ble_eq_true rfl, Nat.le_of_ble_eq_true rfl⟩ ⟨Nat.le_of_ble_eq_true rfl, Nat.le_of_ble_eq_true rfl⟩ rfl hl.1 rfl (Nat.le_of_ble_eq_true rfl) (oc_182 30 (aq_6 shX12_round_24) uw_1_124)) hS (fun q _ h => hFc q h) hFc (fun r_6 u t H1 locs ht hvm wh_7 hB hz1 hk1 hS => ?_)
        obtain ⟨cn7, In7, Fn7⟩ := u
        obtain ⟨hP1, hD1⟩ := hB
        rw [ht] at hP1
        have hP : va_P D vwCl (wM cI cB cZ g cn7 In7 Fn7) H1 := hP1
        have hD : va_D A (wM cI cB cZ g cn7 In7 Fn7) := hD1.weaken (fun _ _ _ h => hFc _ h)
        generalize H1 = H at hP hS ⊢
        have vh_7 : (fun r c2 I2 F2 => Fr [44] [] [42, 43] cn In Fn c2 I2 F2 ∧ IM c2 F2 ∧ (r = 0 ∨ (r = 1 ∧ c2 44 ≤ 8 ∧ c2 44 ≤ 8 ∧ AK c2 F2))) r_6 cn7 In7 Fn7 := wh_7
        obtain ⟨hfc7, hIn7, h_7⟩ := vh_7
        obtain rfl : In = In7 := (funext (fun k => hfc7.2.1 k List.not_mem_nil)).symm
        have hf7 : Fr [44] [45] [42, 43] cn In Fn cn7 In Fn7 := Fr.mo (Fr.tr (Fr.rf (cn := cn) (In := In) (Fn := Fn)) hfc7) (sbl rfl) (sbl rfl) (sbl rfl)
        have hi_cn7 : Hid (CB cn7) := hIn7.b
        have hq_cn7 := Hid.i (frq_44_0_1_2_46_57_58_62_63_75_83 hf7)
        rcases h_7 with rfl | ⟨rfl, kh_7⟩
        ·
          refine lv_if_ne (tgt := 39) hx hb (oc_154 33 (aq_9 shX12_round_24) sgw_0_6) rfl (fun h => absurd h cq_eq_0_0) (fun _ => ?_)
          refine lv_bipush (v := (-2)) hx hb (oc_16 36 (aq_12 shX12_round_24) sgb_254) kbc_m2 ?_
          exact W.iret (v := (-2)) hx hb hr (fun t ht hW => ⟨⟨(-2), (cn7, In, Fn7), rfl, ⟨(Fr.mo hf7 (sbl rfl) (sbl rfl) (sbl rfl)), hIn7, trivial⟩, by rw [ht]; exact hP, hD⟩, hS.F ht⟩) hS.2.2 (oc_172 38 (aq_14 shX12_round_24))
        ·
          obtain ⟨hmkh_7, hlkh_7, hAKkh_7⟩ := kh_7
          refine lv_if_ne (tgt := 39) hx hb (oc_154 33 (aq_9 shX12_round_24) sgw_0_6) rfl (fun _ => ?_) (fun h => absurd h cq_eq_1_0)
          refine lv_aload_n hx hb (oc_42 39 (aq_15 shX12_round_24)) rfl (lvA0 hl) ?_
          refine gM_364 S hK hP (v := .int (nI (cn7 44))) rfl (oc_180 40 (aq_16 shX12_round_24) uw_1_108) ?_
          refine lv_istore (lv' := [(4, .int (nI (cn7 44))), (0, .ref (g 100)), (1, .int v0), (2, .int v1), (3, .int v2)]) hx hb (oc_54 43 (aq_19 shX12_round_24) ub_4) hl (ltb rfl) rfl (fun ls hl => ?_)
          refine lv_iconst (v := 1) hx hb (oc_4 45 (aq_21 shX12_round_24)) kic_1 ?_
          refine lv_iload hx hb (oc_21 46 (aq_22 shX12_round_24) ub_4) (lvA0 hl) ?_
          refine lv_ishl hx hb (oc_120 48 shX12_round_48) ?_
          refine lv_topi (fun y_8 ey_8 => ?_)
          obtain rfl : y_8 = (nI (2 ^ (cn7 44))) := ey_8.trans (sh1 (by (first | omega | (have zz0 := Hid.u hi_cn; have zz1 := Hid.u hi_cn7; have zz2 := Hid.u hq_cn7; omega))))
          refine lv_iconst (v := 1) hx hb (oc_4 49 (aq_1 shX12_round_48)) kic_1 ?_
          refine lv_isub hx hb (oc_100 50 (aq_2 shX12_round_48)) ?_
          refine lv_topi (fun y_9 ey_9 => ?_)
          obtain rfl : y_9 = (nI (2 ^ (cn7 44) - 1)) := ey_9.trans (nI_sub (b := 1) (full_le (by (first | omega | (have zz0 := Hid.u hi_cn; have zz1 := Hid.u hi_cn7; have zz2 := Hid.u hq_cn7; omega)))).1)
          refine lv_istore (lv' := [(5, .int (nI (2 ^ (cn7 44) - 1))), (4, .int (nI (cn7 44))), (0, .ref (g 100)), (1, .int v0), (2, .int v1), (3, .int v2)]) hx hb (oc_54 51 (aq_3 shX12_round_48) ub_5) hl (ltb rfl) rfl (fun ls hl => ?_)
          have h2p := full_le (m := (cn7 44)) (by (first | omega | (have zz0 := Hid.u hi_cn; have zz1 := Hid.u hi_cn7; have zz2 := Hid.u hq_cn7; omega)))
          refine lv_aload_n hx hb (oc_42 53 (aq_5 shX12_round_48)) rfl (lvA2 hl) ?_
          refine lv_iconst (v := (-1)) hx hb (oc_2 54 (aq_6 shX12_round_48)) kic_m1 ?_
          refine lv_iload hx hb (oc_21 55 (aq_7 shX12_round_48) ub_5) (lvA0 hl) ?_
          have hFc := free_all hD hS hA
          refine va_calli (runV_a (As := [.int (-1), .int (nI (2 ^ (cn7 44) - 1))]) (rest := []) S (q_nextOf l D cI cB cZ g cn7 In Fn7 (-1) (2 ^ (cn7 44) - 1) H.size hIn7 (by (first | omega | (have zz0 := Hid.u hi_cn; have zz1 := Hid.u hi_cn7; have zz2 := Hid.u hq_cn7; omega))) hAKkh_7 (Or.inl rfl) (by (first | omega | (have zz0 := Hid.u hi_cn; have zz1 := Hid.u hi_cn7; have zz2 := Hid.u hq_cn7; omega)))) kV_RX12_383 hK hP hD 0 rfl rfl rfl ⟨Nat.le_of_ble_eq_true rfl, Nat.le_of_ble_eq_true rfl⟩ ⟨Nat.le_of_ble_eq_true rfl, Nat.le_of_ble_eq_true rfl⟩ rfl hl.1 rfl (Nat.le_of_ble_eq_true rfl) (oc_182 57 (aq_9 shX12_round_48) uw_1_127)) hS (fun q _ h => hFc q h) hFc (fun r_10 u t H1 locs ht hvm wh_11 hB hz1 hk1 hS => ?_)
          obtain ⟨cn11, In11, Fn11⟩ := u
          obtain ⟨hP1, hD1⟩ := hB
          rw [ht] at hP1
          have hP : va_P D vwCl (wM cI cB cZ g cn11 In11 Fn11) H1 := hP1
          have hD : va_D A (wM cI cB cZ g cn11 In11 Fn11) := hD1.weaken (fun _ _ _ h => hFc _ h)
          generalize H1 = H at hP hS ⊢
          have vh_11 : (fun r c2 I2 F2 => Fr [] [45] [] cn7 In Fn7 c2 I2 F2 ∧ IM c2 F2 ∧ (NX (2 ^ (cn7 44) - 1) r ((cn7 44)))) r_10 cn11 In11 Fn11 := wh_11
          obtain ⟨hfc11, hIn11, h_11⟩ := vh_11
          obtain rfl : cn7 = cn11 := (funext (fun k => hfc11.1 k List.not_mem_nil)).symm
          obtain rfl : Fn7 = Fn11 := (funext (fun k => hfc11.2.2 k List.not_mem_nil)).symm
          have hf11 : Fr [44] [45] [42, 43] cn In Fn cn7 In11 Fn7 := Fr.mo (Fr.tr hf7 hfc11) (sbl rfl) (sbl rfl) (sbl rfl)
          have hi_cn7 : Hid (CB cn7) := hIn11.b
          have hq_cn7 := Hid.i (frq_44_0_1_2_46_57_58_62_63_75_83 hf11)
          have hAK11 : AK cn7 Fn7 := AK.fr hAKkh_7 hfc11 (by decide) (by decide)
          rcases h_11 with ⟨rfl, har_10⟩ | ⟨mr_10, hr_10, rfl, hbr_10⟩
          ·
            refine lv_istore (lv' := [(6, .int (-1)), (5, .int (nI (2 ^ (cn7 44) - 1))), (4, .int (nI (cn7 44))), (0, .ref (g 100)), (1, .int v0), (2, .int v1), (3, .int v2)]) hx hb (oc_54 60 (aq_12 shX12_round_48) ub_6) hl (ltb rfl) rfl (fun ls hl => ?_)
            refine lv_iload_n hx hb (oc_29 62 (aq_14 shX12_round_48)) rfl (lvA6 hl) ?_
            refine lv_iconst (v := (-1)) hx hb (oc_2 63 (aq_15 shX12_round_48)) kic_m1 ?_
            refine lv_icmp_ne (tgt := 72) hx hb (oc_160 64 (aq_16 shX12_round_48) sgw_0_8) rfl (fun c_12 => ?_) (fun c_12 => ?_)
            ·
              have tc_12 : (v2.toInt : Int) ≠ (-1) := fun q => c_12 (Int32.toInt_inj.mp q)
              obtain ⟨w0, hw0, rfl⟩ := nI_of (x := v2) (fun q => by have := Int32.lt_iff_toInt_lt.mp q; have e : (0 : Int32).toInt = 0 := rfl; (first | omega | (have zz0 := Hid.u hi_cn; have zz1 := Hid.u hi_cn7; have zz2 := Hid.u hq_cn7; omega)))
              have tw0 : (nI w0).toInt = (w0 : Int) := nI_toInt hw0
              have zw0 : (nI w0).toInt.toNat = w0 := by (first | omega | (have zz0 := Hid.u hi_cn; have zz1 := Hid.u hi_cn7; have zz2 := Hid.u hq_cn7; omega))
              refine lv_iload_n hx hb (oc_29 72 shX12_round_72) rfl (lvA6 hl) ?_
              refine lv_iload hx hb (oc_21 73 (aq_1 shX12_round_72) ub_4) (lvA2 hl) ?_
              have : (nI (cn7 44)).toInt = (((cn7 44) : Nat) : Int) := nI_toInt (by (first | omega | (have zz0 := Hid.u hi_cn; have zz1 := Hid.u hi_cn7; have zz2 := Hid.u hq_cn7; omega)))
              refine lv_icmp_lt (tgt := 80) hx hb (oc_161 75 (aq_3 shX12_round_72) sgw_0_5) rfl (fun c_13 => ?_) (fun c_13 => ?_)
              ·
                have tc_13 : ((nI w0).toInt : Int) < (nI (cn7 44)).toInt := Int32.lt_iff_toInt_lt.mp c_13
                exfalso; have q1 := har_10 0 (by (first | omega | (have zz0 := Hid.u hi_cn; have zz1 := Hid.u hi_cn7; have zz2 := Hid.u hq_cn7; omega))); rw [full_bit (by (first | omega | (have zz0 := Hid.u hi_cn; have zz1 := Hid.u hi_cn7; have zz2 := Hid.u hq_cn7; omega))) (by (first | omega | (have zz0 := Hid.u hi_cn; have zz1 := Hid.u hi_cn7; have zz2 := Hid.u hq_cn7; omega)))] at q1; cases q1
              ·
                have tc_13 : ((nI (cn7 44)).toInt : Int) ≤ (nI w0).toInt := Int32.le_iff_toInt_le.mp (Int32.not_lt.mp c_13)
                refine lv_iconst (v := (-1)) hx hb (oc_2 78 (aq_6 shX12_round_72)) kic_m1 ?_
                exact W.iret (v := (-1)) hx hb hr (fun t ht hW => ⟨⟨(-1), (cn7, In11, Fn7), rfl, ⟨(Fr.mo hf11 (sbl rfl) (sbl rfl) (sbl rfl)), hIn11, trivial⟩, by rw [ht]; exact hP, hD⟩, hS.F ht⟩) hS.2.2 (oc_172 79 (aq_7 shX12_round_72))
            ·
              have tc_12 : (v2.toInt : Int) = (-1) := congrArg Int32.toInt c_12
              refine lv_aload_n hx hb (oc_42 67 (aq_19 shX12_round_48)) rfl (lvA3 hl) ?_
              refine gM_374 S hK hP (v := .int (In11 45)) rfl (oc_180 68 (aq_20 shX12_round_48) uw_1_118) ?_
              exact W.iret (v := (In11 45)) hx hb hr (fun t ht hW => ⟨⟨(In11 45), (cn7, In11, Fn7), rfl, ⟨(Fr.mo hf11 (sbl rfl) (sbl rfl) (sbl rfl)), hIn11, trivial⟩, by rw [ht]; exact hP, hD⟩, hS.F ht⟩) hS.2.2 (oc_172 71 (aq_23 shX12_round_48))
          ·
            refine lv_istore (lv' := [(6, .int (nI mr_10)), (5, .int (nI (2 ^ (cn7 44) - 1))), (4, .int (nI (cn7 44))), (0, .ref (g 100)), (1, .int v0), (2, .int v1), (3, .int v2)]) hx hb (oc_54 60 (aq_12 shX12_round_48) ub_6) hl (ltb rfl) rfl (fun ls hl => ?_)
            refine lv_iload_n hx hb (oc_29 62 (aq_14 shX12_round_48)) rfl (lvA6 hl) ?_
            refine lv_iconst (v := (-1)) hx hb (oc_2 63 (aq_15 shX12_round_48)) kic_m1 ?_
            refine lv_icmp_ne (tgt := 72) hx hb (oc_160 64 (aq_16 shX12_round_48) sgw_0_8) rfl (fun c_14 => ?_) (fun c_14 => ?_)
            ·
              have tc_14 : (v2.toInt : Int) ≠ (-1) := fun q => c_14 (Int32.toInt_inj.mp q)
              obtain ⟨w0, hw0, rfl⟩ := nI_of (x := v2) (fun q => by have := Int32.lt_iff_toInt_lt.mp q; have e : (0 : Int32).toInt = 0 := rfl; (first | omega | (have zz0 := Hid.u hi_cn; have zz1 := Hid.u hi_cn7; have zz2 := Hid.u hq_cn7; omega)))
              have tw0 : (nI w0).toInt = (w0 : Int) := nI_toInt hw0
              have zw0 : (nI w0).toInt.toNat = w0 := by (first | omega | (have zz0 := Hid.u hi_cn; have zz1 := Hid.u hi_cn7; have zz2 := Hid.u hq_cn7; omega))
              refine lv_iload_n hx hb (oc_29 72 shX12_round_72) rfl (lvA6 hl) ?_
              refine lv_iload hx hb (oc_21 73 (aq_1 shX12_round_72) ub_4) (lvA2 hl) ?_
              have : (nI (cn7 44)).toInt = (((cn7 44) : Nat) : Int) := nI_toInt (by (first | omega | (have zz0 := Hid.u hi_cn; have zz1 := Hid.u hi_cn7; have zz2 := Hid.u hq_cn7; omega)))
              refine lv_icmp_lt (tgt := 80) hx hb (oc_161 75 (aq_3 shX12_round_72) sgw_0_5) rfl (fun c_15 => ?_) (fun c_15 => ?_)
              ·
                have tc_15 : ((nI w0).toInt : Int) < (nI (cn7 44)).toInt := Int32.lt_iff_toInt_lt.mp c_15
                refine lv_iconst (v := 0) hx hb (oc_3 80 (aq_8 shX12_round_72)) kic_0 ?_
                refine lv_istore (lv' := [(7, .int 0), (6, .int (nI mr_10)), (5, .int (nI (2 ^ (cn7 44) - 1))), (4, .int (nI (cn7 44))), (0, .ref (g 100)), (1, .int v0), (2, .int v1), (3, .int (nI w0))]) hx hb (oc_54 81 (aq_9 shX12_round_72) ub_7) hl (ltb rfl) rfl (fun ls hl => ?_)
                have lp_83 : ∀ (n : Nat) (i83 : Nat) (l83 : Nat) (b83 : Nat) (c83 : Nat → Nat) (I83 : Nat → Int32) (F83 : Nat → Nat → Int32) (H : Heap) (locs : List Loc) , w0 - i83 < n → (i83 ≤ w0 ∧ Fr [44] [45] [42, 43] cn In Fn c83 I83 F83 ∧ IM c83 F83 ∧ (l83 ≤ 255 ∧ b83 < c83 44 ∧ c83 44 ≤ 8 ∧ w0 < c83 44) ∧ (c83 44 ≤ cntB l83 (c83 44) + i83) ∧ (AK c83 F83)) → va_P D vwCl (wM cI cB cZ g c83 I83 F83) H → va_D A (wM cI cB cZ g c83 I83 F83) → va_S A s.heap H locs → ∀ ls : Array Slot, lv_has ls 8 [(7, .int (nI i83)), (6, .int (nI b83)), (5, .int (nI l83)), (4, .int (nI (cn7 44))), (0, .ref (g 100)), (1, .int v0), (2, .int v1), (3, .int (nI w0))] → W p l e (RM 4 0 0) s m ([.ref (g 100), .int v0, .int v1, .int (nI w0)]).toArray below meth c H locs 0 0 (MQ below (va_Qi (fun (r : Int32) (u : (Nat → Nat) × (Nat → Int32) × (Nat → Nat → Int32)) => (fun r c2 I2 F2 => Fr [44] [45] [42, 43] cn In Fn c2 I2 F2 ∧ IM c2 F2 ∧ (True)) r u.1 u.2.1 u.2.2) (fun (u : (Nat → Nat) × (Nat → Int32) × (Nat → Nat → Int32)) (t : State) => va_P D vwCl (wM cI cB cZ g u.1 u.2.1 u.2.2) t.heap ∧ va_D A (wM cI cB cZ g u.1 u.2.1 u.2.2)) A) ([.ref (g 100), .int v0, .int v1, .int (nI w0)]).toArray s 0 0 A) (F0 m 83 ls []) := by
                  intro n83
                  induction n83 with
                  | zero => intros; (first | omega | (have zz0 := Hid.u hi_cn; have zz1 := Hid.u hi_cn7; have zz2 := Hid.u hq_cn7; omega))
                  | succ n83 ih83 =>
                    intro i83 l83 b83 c83 I83 F83 H locs hmu83 hinv83 hP hD hS ls hl
                    obtain ⟨hr83, hfr83, hI83, hx83_0, hx83_1, hx83_2⟩ := hinv83
                    have ti83 : (nI i83).toInt = (i83 : Int) := nI_toInt (by (first | omega | (have zz0 := Hid.u hi_cn; have zz1 := Hid.u hi_cn7; have zz2 := Hid.u hq_cn7; omega)))
                    have hi_c83 : Hid (CB c83) := hI83.b
                    have hq_c83 := Hid.i (frq_44_0_1_2_46_57_58_62_63_75_83 hfr83)
                    refine lv_iload hx hb (oc_21 83 (aq_11 shX12_round_72) ub_7) (lvA0 hl) ?_
                    refine lv_iload_n hx hb (oc_29 85 (aq_13 shX12_round_72)) rfl (lvA7 hl) ?_
                    refine lv_icmp_ge (tgt := 116) hx hb (oc_162 86 (aq_14 shX12_round_72) sgw_0_30) rfl (fun c_16 => ?_) (fun c_16 => ?_)
                    ·
                      have tc_16 : ((nI w0).toInt : Int) ≤ (nI i83).toInt := Int32.le_iff_toInt_le.mp c_16
                      refine lv_aload_n hx hb (oc_42 116 (aq_20 shX12_round_96)) rfl (lvA4 hl) ?_
                      refine gM_101 S hK hP (v := .ref (g 42)) rfl (oc_180 117 (aq_21 shX12_round_96) uw_0_101) ?_
                      refine lv_iload hx hb (oc_21 120 shX12_round_120 ub_6) (lvA1 hl) ?_
                      have kb_1 : b83 < 10 := by (first | omega | (have zz0 := Hid.u hi_c83; have zz1 := Hid.u hi_cn; have zz2 := Hid.u hi_cn7; have zz3 := Hid.u hq_c83; have zz4 := Hid.u hq_cn7; omega))
                      obtain ⟨a_17, ha_17, ea_17⟩ := hx83_2 b83 (by (first | omega | (have zz0 := Hid.u hi_c83; have zz1 := Hid.u hi_cn; have zz2 := Hid.u hi_cn7; have zz3 := Hid.u hq_c83; have zz4 := Hid.u hq_cn7; omega)))
                      refine ldM_42 hx hb hK hP (x := (nI a_17)) (vp_in_nI kb_1 (ltb rfl)) (nI_clamp (Nat.lt_trans kb_1 (ltb rfl))) ea_17 (oc_46 122 (aq_2 shX12_round_120)) ?_
                      exact W.iret (v := (nI a_17)) hx hb hr (fun t ht hW => ⟨⟨(nI a_17), (c83, I83, F83), rfl, ⟨(Fr.mo hfr83 (sbl rfl) (sbl rfl) (sbl rfl)), hI83, trivial⟩, by rw [ht]; exact hP, hD⟩, hS.F ht⟩) hS.2.2 (oc_172 123 (aq_3 shX12_round_120))
                    ·
                      have tc_16 : ((nI i83).toInt : Int) < (nI w0).toInt := Int32.lt_iff_toInt_lt.mp (Int32.not_le.mp c_16)
                      refine lv_iload hx hb (oc_21 89 (aq_17 shX12_round_72) ub_5) (lvA2 hl) ?_
                      refine lv_iconst (v := 1) hx hb (oc_4 91 (aq_19 shX12_round_72)) kic_1 ?_
                      refine lv_iload hx hb (oc_21 92 (aq_20 shX12_round_72) ub_6) (lvA1 hl) ?_
                      refine lv_ishl hx hb (oc_120 94 (aq_22 shX12_round_72)) ?_
                      refine lv_iconst (v := (-1)) hx hb (oc_2 95 (aq_23 shX12_round_72)) kic_m1 ?_
                      refine lv_ixor hx hb (oc_130 96 shX12_round_96) ?_
                      refine lv_iand hx hb (oc_126 97 (aq_1 shX12_round_96)) ?_
                      refine lv_topi (fun y_18 ey_18 => ?_)
                      obtain rfl : y_18 = (nI (clr l83 b83)) := ey_18.trans (clrI (by (first | omega | (have zz0 := Hid.u hi_c83; have zz1 := Hid.u hi_cn; have zz2 := Hid.u hi_cn7; have zz3 := Hid.u hq_c83; have zz4 := Hid.u hq_cn7; omega))) (by (first | omega | (have zz0 := Hid.u hi_c83; have zz1 := Hid.u hi_cn; have zz2 := Hid.u hi_cn7; have zz3 := Hid.u hq_c83; have zz4 := Hid.u hq_cn7; omega))))
                      refine lv_istore (lv' := [(5, .int (nI (clr l83 b83))), (7, .int (nI i83)), (6, .int (nI b83)), (4, .int (nI (cn7 44))), (0, .ref (g 100)), (1, .int v0), (2, .int v1), (3, .int (nI w0))]) hx hb (oc_54 98 (aq_2 shX12_round_96) ub_5) hl (ltb rfl) rfl (fun ls hl => ?_)
                      refine lv_aload_n hx hb (oc_42 100 (aq_4 shX12_round_96)) rfl (lvA4 hl) ?_
                      refine lv_iload hx hb (oc_21 101 (aq_5 shX12_round_96) ub_6) (lvA2 hl) ?_
                      refine lv_iload hx hb (oc_21 103 (aq_7 shX12_round_96) ub_5) (lvA0 hl) ?_
                      have hFc := free_all hD hS hA
                      refine va_calli (runV_a (As := [.int (nI b83), .int (nI (clr l83 b83))]) (rest := []) S (q_nextOf l D cI cB cZ g c83 I83 F83 (nI b83) (clr l83 b83) H.size hI83 (by (first | omega | (have zz0 := Hid.u hi_c83; have zz1 := Hid.u hi_cn; have zz2 := Hid.u hi_cn7; have zz3 := Hid.u hq_c83; have zz4 := Hid.u hq_cn7; omega))) hx83_2 (Or.inr ⟨_, by (first | omega | (have zz0 := Hid.u hi_c83; have zz1 := Hid.u hi_cn; have zz2 := Hid.u hi_cn7; have zz3 := Hid.u hq_c83; have zz4 := Hid.u hq_cn7; omega)), rfl⟩) (by have := clr_le (l := l83) (a := b83); (first | omega | (have zz0 := Hid.u hi_c83; have zz1 := Hid.u hi_cn; have zz2 := Hid.u hi_cn7; have zz3 := Hid.u hq_c83; have zz4 := Hid.u hq_cn7; omega)))) kV_RX12_383 hK hP hD 0 rfl rfl rfl ⟨Nat.le_of_ble_eq_true rfl, Nat.le_of_ble_eq_true rfl⟩ ⟨Nat.le_of_ble_eq_true rfl, Nat.le_of_ble_eq_true rfl⟩ rfl hl.1 rfl (Nat.le_of_ble_eq_true rfl) (oc_182 105 (aq_9 shX12_round_96) uw_1_127)) hS (fun q _ h => hFc q h) hFc (fun r_19 u t H1 locs ht hvm wh_20 hB hz1 hk1 hS => ?_)
                      obtain ⟨cn20, In20, Fn20⟩ := u
                      obtain ⟨hP1, hD1⟩ := hB
                      rw [ht] at hP1
                      have hP : va_P D vwCl (wM cI cB cZ g cn20 In20 Fn20) H1 := hP1
                      have hD : va_D A (wM cI cB cZ g cn20 In20 Fn20) := hD1.weaken (fun _ _ _ h => hFc _ h)
                      generalize H1 = H at hP hS ⊢
                      have vh_20 : (fun r c2 I2 F2 => Fr [] [45] [] c83 I83 F83 c2 I2 F2 ∧ IM c2 F2 ∧ (NX (clr l83 b83) r ((c83 44)))) r_19 cn20 In20 Fn20 := wh_20
                      obtain ⟨hfc20, hIn20, h_20⟩ := vh_20
                      obtain rfl : c83 = cn20 := (funext (fun k => hfc20.1 k List.not_mem_nil)).symm
                      obtain rfl : F83 = Fn20 := (funext (fun k => hfc20.2.2 k List.not_mem_nil)).symm
                      have hf20 : Fr [44] [45] [42, 43] cn In Fn c83 In20 F83 := Fr.mo (Fr.tr hfr83 hfc20) (sbl rfl) (sbl rfl) (sbl rfl)
                      have hi_c83 : Hid (CB c83) := hIn20.b
                      have hq_c83 := Hid.i (frq_44_0_1_2_46_57_58_62_63_75_83 hf20)
                      have hAK20 : AK c83 F83 := AK.fr hx83_2 hfc20 (by decide) (by decide)
                      rcases h_20 with ⟨rfl, har_19⟩ | ⟨mr_19, hr_19, rfl, hbr_19⟩
                      ·
                        exfalso; have q1 := cntB_0 har_19; have q2 := cntB_clr (l := l83) (a := b83) (m := c83 44) (by (first | omega | (have zz0 := Hid.u hi_c83; have zz1 := Hid.u hi_cn; have zz2 := Hid.u hi_cn7; have zz3 := Hid.u hq_c83; have zz4 := Hid.u hq_cn7; omega))) (by (first | omega | (have zz0 := Hid.u hi_c83; have zz1 := Hid.u hi_cn; have zz2 := Hid.u hi_cn7; have zz3 := Hid.u hq_c83; have zz4 := Hid.u hq_cn7; omega))) (by (first | omega | (have zz0 := Hid.u hi_c83; have zz1 := Hid.u hi_cn; have zz2 := Hid.u hi_cn7; have zz3 := Hid.u hq_c83; have zz4 := Hid.u hq_cn7; omega))); (first | omega | (have zz0 := Hid.u hi_c83; have zz1 := Hid.u hi_cn; have zz2 := Hid.u hi_cn7; have zz3 := Hid.u hq_c83; have zz4 := Hid.u hq_cn7; omega))
                      ·
                        refine lv_istore (lv' := [(6, .int (nI mr_19)), (5, .int (nI (clr l83 b83))), (7, .int (nI i83)), (4, .int (nI (cn7 44))), (0, .ref (g 100)), (1, .int v0), (2, .int v1), (3, .int (nI w0))]) hx hb (oc_54 108 (aq_12 shX12_round_96) ub_6) hl (ltb rfl) rfl (fun ls hl => ?_)
                        refine lv_iinc (v := (nI (i83 + 1))) (lv' := [(7, .int (nI (i83 + 1))), (6, .int (nI mr_19)), (5, .int (nI (clr l83 b83))), (4, .int (nI (cn7 44))), (0, .ref (g 100)), (1, .int v0), (2, .int v1), (3, .int (nI w0))]) hx hb (oc_132 110 (aq_14 shX12_round_96) ub_7 sgb_1) hl (k := 2) rfl (nI_1 _) (ltb rfl) rfl (fun ls hl => ?_)
                        refine lv_goto (tgt := 83) hx hb (oc_167 113 (aq_17 shX12_round_96) sgw_255_226) rfl ?_
                        exact ih83 (i83 + 1) (clr l83 b83) mr_19 c83 In20 F83 _ _ (by (first | omega | (have zz0 := Hid.u hi_c83; have zz1 := Hid.u hi_cn; have zz2 := Hid.u hi_cn7; have zz3 := Hid.u hq_c83; have zz4 := Hid.u hq_cn7; omega))) ⟨(by (first | omega | (have zz0 := Hid.u hi_c83; have zz1 := Hid.u hi_cn; have zz2 := Hid.u hi_cn7; have zz3 := Hid.u hq_c83; have zz4 := Hid.u hq_cn7; omega))), (Fr.mo hf20 (sbl rfl) (sbl rfl) (sbl rfl)), hIn20, ⟨by have := clr_le (l := l83) (a := b83); (first | omega | (have zz0 := Hid.u hi_c83; have zz1 := Hid.u hi_cn; have zz2 := Hid.u hi_cn7; have zz3 := Hid.u hq_c83; have zz4 := Hid.u hq_cn7; omega)), by (first | omega | (have zz0 := Hid.u hi_c83; have zz1 := Hid.u hi_cn; have zz2 := Hid.u hi_cn7; have zz3 := Hid.u hq_c83; have zz4 := Hid.u hq_cn7; omega)), by (first | omega | (have zz0 := Hid.u hi_c83; have zz1 := Hid.u hi_cn; have zz2 := Hid.u hi_cn7; have zz3 := Hid.u hq_c83; have zz4 := Hid.u hq_cn7; omega)), by (first | omega | (have zz0 := Hid.u hi_c83; have zz1 := Hid.u hi_cn; have zz2 := Hid.u hi_cn7; have zz3 := Hid.u hq_c83; have zz4 := Hid.u hq_cn7; omega))⟩, (by have q := cntB_clr (l := l83) (a := b83) (m := c83 44) (by (first | omega | (have zz0 := Hid.u hi_c83; have zz1 := Hid.u hi_cn; have zz2 := Hid.u hi_cn7; have zz3 := Hid.u hq_c83; have zz4 := Hid.u hq_cn7; omega))) (by (first | omega | (have zz0 := Hid.u hi_c83; have zz1 := Hid.u hi_cn; have zz2 := Hid.u hi_cn7; have zz3 := Hid.u hq_c83; have zz4 := Hid.u hq_cn7; omega))) (by (first | omega | (have zz0 := Hid.u hi_c83; have zz1 := Hid.u hi_cn; have zz2 := Hid.u hi_cn7; have zz3 := Hid.u hq_c83; have zz4 := Hid.u hq_cn7; omega))); rw [show (c83 44) = c83 44 by first | rfl | assumption]; (first | omega | (have zz0 := Hid.u hi_c83; have zz1 := Hid.u hi_cn; have zz2 := Hid.u hi_cn7; have zz3 := Hid.u hq_c83; have zz4 := Hid.u hq_cn7; omega))), hAK20⟩ hP hD hS ls (lv_sub hl [0, 1, 2, 3, 4, 5, 6, 7] rfl)
                exact lp_83 _ 0 (2 ^ (cn7 44) - 1) mr_10 cn7 In11 Fn7 _ _ (Nat.lt_succ_self _) ⟨(by (first | omega | (have zz0 := Hid.u hi_cn; have zz1 := Hid.u hi_cn7; have zz2 := Hid.u hq_cn7; omega))), (Fr.mo hf11 (sbl rfl) (sbl rfl) (sbl rfl)), hIn11, ⟨by (first | omega | (have zz0 := Hid.u hi_cn; have zz1 := Hid.u hi_cn7; have zz2 := Hid.u hq_cn7; omega)), by (first | omega | (have zz0 := Hid.u hi_cn; have zz1 := Hid.u hi_cn7; have zz2 := Hid.u hq_cn7; omega)), by (first | omega | (have zz0 := Hid.u hi_cn; have zz1 := Hid.u hi_cn7; have zz2 := Hid.u hq_cn7; omega)), by (first | omega | (have zz0 := Hid.u hi_cn; have zz1 := Hid.u hi_cn7; have zz2 := Hid.u hq_cn7; omega))⟩, (by have q := full_cnt (m := (cn7 44)) (by (first | omega | (have zz0 := Hid.u hi_cn; have zz1 := Hid.u hi_cn7; have zz2 := Hid.u hq_cn7; omega))); rw [show (cn7 44) = (cn7 44) by (first | omega | (have zz0 := Hid.u hi_cn; have zz1 := Hid.u hi_cn7; have zz2 := Hid.u hq_cn7; omega))]; (first | omega | (have zz0 := Hid.u hi_cn; have zz1 := Hid.u hi_cn7; have zz2 := Hid.u hq_cn7; omega))), hAK11⟩ hP hD hS ls (lv_sub hl [0, 1, 2, 3, 4, 5, 6, 7] rfl)
              ·
                have tc_15 : ((nI (cn7 44)).toInt : Int) ≤ (nI w0).toInt := Int32.le_iff_toInt_le.mp (Int32.not_lt.mp c_15)
                refine lv_iconst (v := (-1)) hx hb (oc_2 78 (aq_6 shX12_round_72)) kic_m1 ?_
                exact W.iret (v := (-1)) hx hb hr (fun t ht hW => ⟨⟨(-1), (cn7, In11, Fn7), rfl, ⟨(Fr.mo hf11 (sbl rfl) (sbl rfl) (sbl rfl)), hIn11, trivial⟩, by rw [ht]; exact hP, hD⟩, hS.F ht⟩) hS.2.2 (oc_172 79 (aq_7 shX12_round_72))
            ·
              have tc_14 : (v2.toInt : Int) = (-1) := congrArg Int32.toInt c_14
              refine lv_aload_n hx hb (oc_42 67 (aq_19 shX12_round_48)) rfl (lvA3 hl) ?_
              refine gM_374 S hK hP (v := .int (In11 45)) rfl (oc_180 68 (aq_20 shX12_round_48) uw_1_118) ?_
              exact W.iret (v := (In11 45)) hx hb hr (fun t ht hW => ⟨⟨(In11 45), (cn7, In11, Fn7), rfl, ⟨(Fr.mo hf11 (sbl rfl) (sbl rfl) (sbl rfl)), hIn11, trivial⟩, by rw [ht]; exact hP, hD⟩, hS.F ht⟩) hS.2.2 (oc_172 71 (aq_23 shX12_round_48))
      ·
        have tc_5 : (v2.toInt : Int) < (-1) := Int32.lt_iff_toInt_lt.mp (Int32.not_le.mp c_5)
        refine lv_iconst (v := (-1)) hx hb (oc_2 23 (aq_23 shX12_round_0)) kic_m1 ?_
        exact W.iret (v := (-1)) hx hb hr (fun t ht hW => ⟨⟨(-1), (cn, In, Fn), rfl, ⟨(Fr.mo Fr.rf (sbl rfl) (sbl rfl) (sbl rfl)), hI, trivial⟩, by rw [ht]; exact hP, hD⟩, hS.F ht⟩) hS.2.2 (oc_172 24 shX12_round_24)
    ·
      have h_4 : ¬ (1 ≤ v1.toInt ∧ v1.toInt ≤ 400) := h_4
      refine lv_if_eq (tgt := 23) hx hb (oc_153 15 (aq_15 shX12_round_0) sgw_0_8) rfl (fun _ => ?_) (fun h => absurd h cq_eq_0_0)
      refine lv_iconst (v := (-1)) hx hb (oc_2 23 (aq_23 shX12_round_0)) kic_m1 ?_
      exact W.iret (v := (-1)) hx hb hr (fun t ht hW => ⟨⟨(-1), (cn, In, Fn), rfl, ⟨(Fr.mo Fr.rf (sbl rfl) (sbl rfl) (sbl rfl)), hI, trivial⟩, by rw [ht]; exact hP, hD⟩, hS.F ht⟩) hS.2.2 (oc_172 24 shX12_round_24)
  ·
    have h_2 : ¬ (0 ≤ v0.toInt ∧ v0.toInt ≤ 399) := h_2
    refine lv_if_eq (tgt := 23) hx hb (oc_153 4 (aq_4 shX12_round_0) sgw_0_19) rfl (fun _ => ?_) (fun h => absurd h cq_eq_0_0)
    refine lv_iconst (v := (-1)) hx hb (oc_2 23 (aq_23 shX12_round_0)) kic_m1 ?_
    exact W.iret (v := (-1)) hx hb hr (fun t ht hW => ⟨⟨(-1), (cn, In, Fn), rfl, ⟨(Fr.mo Fr.rf (sbl rfl) (sbl rfl) (sbl rfl)), hI, trivial⟩, by rw [ht]; exact hP, hD⟩, hS.F ht⟩) hS.2.2 (oc_172 24 shX12_round_24)
end
