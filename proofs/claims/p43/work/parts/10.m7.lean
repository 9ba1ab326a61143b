theorem IM.cd1 {cn : Nat → Nat} {Fn : Nat → Nat → Int32} {t i q : Nat} (h : IM cn Fn) (ht : t ≤ 10) (e : Fn 33 t = nI q) (hq : q ≤ 12) (h1 : 12 * t ≤ i) (h2 : i < 12 * t + q) : ClOK (Fn 32) (180 * t) (Fn 34 i) (Fn 35 i) (Fn 36 i) := by
  have k := h.cd t ht (i - 12 * t) (by rw [e, nI_tn (by omega)]; omega)
  rw [show 12 * t + (i - 12 * t) = i by omega] at k
  exact k

theorem cq_eq_1_1 : ¬¬((1 : Int32) = 1) := by decide
theorem cq_eq_10_0 : ¬((10 : Int32) = 0) := by decide
theorem cq_eq_10_1 : ¬((10 : Int32) = 1) := by decide
theorem cq_eq_10_10 : ¬¬((10 : Int32) = 10) := by decide
theorem cq_eq_11_0 : ¬((11 : Int32) = 0) := by decide
theorem cq_eq_11_1 : ¬((11 : Int32) = 1) := by decide
theorem cq_eq_11_10 : ¬((11 : Int32) = 10) := by decide
theorem cq_eq_11_11 : ¬¬((11 : Int32) = 11) := by decide
theorem cq_eq_11_12 : ¬((11 : Int32) = 12) := by decide
theorem cq_eq_12_0 : ¬((12 : Int32) = 0) := by decide
theorem cq_eq_12_1 : ¬((12 : Int32) = 1) := by decide
theorem cq_eq_12_10 : ¬((12 : Int32) = 10) := by decide
theorem cq_eq_12_11 : ¬((12 : Int32) = 11) := by decide
theorem cq_eq_12_12 : ¬¬((12 : Int32) = 12) := by decide
theorem cq_eq_2_0 : ¬((2 : Int32) = 0) := by decide
theorem cq_eq_2_1 : ¬((2 : Int32) = 1) := by decide
theorem cq_eq_2_10 : ¬((2 : Int32) = 10) := by decide
theorem cq_eq_2_11 : ¬((2 : Int32) = 11) := by decide
theorem cq_eq_2_12 : ¬((2 : Int32) = 12) := by decide
theorem cq_eq_2_5 : ¬((2 : Int32) = 5) := by decide
theorem cq_eq_2_6 : ¬((2 : Int32) = 6) := by decide
theorem cq_eq_3_0 : ¬((3 : Int32) = 0) := by decide
theorem cq_eq_3_1 : ¬((3 : Int32) = 1) := by decide
theorem cq_eq_3_10 : ¬((3 : Int32) = 10) := by decide
theorem cq_eq_3_11 : ¬((3 : Int32) = 11) := by decide
theorem cq_eq_3_12 : ¬((3 : Int32) = 12) := by decide
theorem cq_eq_3_5 : ¬((3 : Int32) = 5) := by decide
theorem cq_eq_3_6 : ¬((3 : Int32) = 6) := by decide
theorem cq_eq_4_0 : ¬((4 : Int32) = 0) := by decide
theorem cq_eq_4_1 : ¬((4 : Int32) = 1) := by decide
theorem cq_eq_4_10 : ¬((4 : Int32) = 10) := by decide
theorem cq_eq_4_11 : ¬((4 : Int32) = 11) := by decide
theorem cq_eq_4_12 : ¬((4 : Int32) = 12) := by decide
theorem cq_eq_4_5 : ¬((4 : Int32) = 5) := by decide
theorem cq_eq_4_6 : ¬((4 : Int32) = 6) := by decide
theorem cq_eq_5_0 : ¬((5 : Int32) = 0) := by decide
theorem cq_eq_5_1 : ¬((5 : Int32) = 1) := by decide
theorem cq_eq_5_10 : ¬((5 : Int32) = 10) := by decide
theorem cq_eq_5_11 : ¬((5 : Int32) = 11) := by decide
theorem cq_eq_5_12 : ¬((5 : Int32) = 12) := by decide
theorem cq_eq_5_5 : ¬¬((5 : Int32) = 5) := by decide
theorem cq_eq_6_0 : ¬((6 : Int32) = 0) := by decide
theorem cq_eq_6_1 : ¬((6 : Int32) = 1) := by decide
theorem cq_eq_6_10 : ¬((6 : Int32) = 10) := by decide
theorem cq_eq_6_11 : ¬((6 : Int32) = 11) := by decide
theorem cq_eq_6_12 : ¬((6 : Int32) = 12) := by decide
theorem cq_eq_6_5 : ¬((6 : Int32) = 5) := by decide
theorem cq_eq_6_6 : ¬¬((6 : Int32) = 6) := by decide
theorem cq_eq_7_0 : ¬((7 : Int32) = 0) := by decide
theorem cq_eq_7_1 : ¬((7 : Int32) = 1) := by decide
theorem cq_eq_7_10 : ¬((7 : Int32) = 10) := by decide
theorem cq_eq_7_11 : ¬((7 : Int32) = 11) := by decide
theorem cq_eq_7_12 : ¬((7 : Int32) = 12) := by decide
theorem cq_eq_7_5 : ¬((7 : Int32) = 5) := by decide
theorem cq_eq_7_6 : ¬((7 : Int32) = 6) := by decide
theorem cq_eq_8_0 : ¬((8 : Int32) = 0) := by decide
theorem cq_eq_8_1 : ¬((8 : Int32) = 1) := by decide
theorem cq_eq_8_10 : ¬((8 : Int32) = 10) := by decide
theorem cq_eq_8_11 : ¬((8 : Int32) = 11) := by decide
theorem cq_eq_8_12 : ¬((8 : Int32) = 12) := by decide
theorem cq_eq_8_5 : ¬((8 : Int32) = 5) := by decide
theorem cq_eq_8_6 : ¬((8 : Int32) = 6) := by decide
theorem cq_eq_9_0 : ¬((9 : Int32) = 0) := by decide
theorem cq_eq_9_1 : ¬((9 : Int32) = 1) := by decide
theorem cq_eq_9_10 : ¬((9 : Int32) = 10) := by decide
theorem cq_eq_9_11 : ¬((9 : Int32) = 11) := by decide
theorem cq_eq_9_12 : ¬((9 : Int32) = 12) := by decide
theorem cq_eq_9_5 : ¬((9 : Int32) = 5) := by decide
theorem cq_eq_9_6 : ¬((9 : Int32) = 6) := by decide
theorem frq_18_0_1_2_46_57_58_62_63_75_83_44 {li lf : List Nat} {cn c2 : Nat → Nat} {In I2 : Nat → Int32} {Fn F2 : Nat → Nat → Int32} (h : Fr [18] li lf cn In Fn c2 I2 F2) : c2 0 = cn 0 ∧ c2 1 = cn 1 ∧ c2 2 = cn 2 ∧ c2 46 = cn 46 ∧ c2 57 = cn 57 ∧ c2 58 = cn 58 ∧ c2 62 = cn 62 ∧ c2 63 = cn 63 ∧ c2 75 = cn 75 ∧ c2 83 = cn 83 ∧ c2 44 = cn 44 := ⟨h.1 0 (nml rfl), h.1 1 (nml rfl), h.1 2 (nml rfl), h.1 46 (nml rfl), h.1 57 (nml rfl), h.1 58 (nml rfl), h.1 62 (nml rfl), h.1 63 (nml rfl), h.1 75 (nml rfl), h.1 83 (nml rfl), h.1 44 (nml rfl)⟩

set_option maxRecDepth 100000 in
set_option maxHeartbeats 4000000 in
theorem q_reckon (l : Launch) (D : va_G) (cI cB cZ : ClassId) (v0 v1 v2 : Int32) (hne : v0 = 5 ∨ v0 = 6 → ¬ v2 = 0) : Met l yX12_reckon (CWS yX12_reckon cX12_reckon 3 (some .int)) (RM 0 0 0) (PBr [.int v0, .int v1, .int v2] D cI cB cZ []) (vp_Si (fun _ => True)) 0 0 (fun _ => False) := by
  refine en_r rfl pn_RX12 (Nat.le_of_ble_eq_true rfl) (fun p e s m below meth c hx hb hml hown S hr hlocks hnm hP hK hS ls hl => ?_)
  have hl : lv_has ls 3 [(0, .int v0), (1, .int v1), (2, .int v2)] := hl
  refine lv_iload_n hx hb (oc_26 0 shX12_reckon_0) rfl (lvA0 hl) ?_
  rcases (by omega : v0.toInt < 2 ∨ 8 < v0.toInt ∨ v0.toInt = 2 ∨ v0.toInt = 3 ∨ v0.toInt = 4 ∨ v0.toInt = 5 ∨ v0.toInt = 6 ∨ v0.toInt = 7 ∨ v0.toInt = 8) with c_1 | c_1 | c_1 | c_1 | c_1 | c_1 | c_1 | c_1 | c_1
  ·
    refine lv_tableOut (tgt := 86) hx hb dX12_reckon_1 (Or.inl c_1) (by decide) ?_
    refine lv_iload_n hx hb (oc_27 86 (aq_17 shX12_reckon_69)) rfl (lvA1 hl) ?_
    refine lv_iload_n hx hb (oc_28 87 (aq_18 shX12_reckon_69)) rfl (lvA2 hl) ?_
    refine lv_icmp_ne (tgt := 95) hx hb (oc_160 88 (aq_19 shX12_reckon_69) sgw_0_7) rfl (fun c_2 => ?_) (fun c_2 => ?_)
    ·
      have tc_2 : (v1.toInt : Int) ≠ v2.toInt := fun q => c_2 (Int32.toInt_inj.mp q)
      refine lv_iconst (v := 0) hx hb (oc_3 95 shX12_reckon_95) kic_0 ?_
      exact W.iret (v := 0) hx hb hr (fun t ht hW => ⟨0, rfl, trivial, ht⟩) (fun _ h => absurd h List.not_mem_nil) dX12_reckon_96
    ·
      have tc_2 : (v1.toInt : Int) = v2.toInt := congrArg Int32.toInt c_2
      refine lv_iconst (v := 1) hx hb (oc_4 91 (aq_22 shX12_reckon_69)) kic_1 ?_
      refine lv_goto (tgt := 96) hx hb (oc_167 92 (aq_23 shX12_reckon_69) sgw_0_4) rfl ?_
      exact W.iret (v := 1) hx hb hr (fun t ht hW => ⟨1, rfl, trivial, ht⟩) (fun _ h => absurd h List.not_mem_nil) dX12_reckon_96
  ·
    refine lv_tableOut (tgt := 86) hx hb dX12_reckon_1 (Or.inr c_1) (by decide) ?_
    refine lv_iload_n hx hb (oc_27 86 (aq_17 shX12_reckon_69)) rfl (lvA1 hl) ?_
    refine lv_iload_n hx hb (oc_28 87 (aq_18 shX12_reckon_69)) rfl (lvA2 hl) ?_
    refine lv_icmp_ne (tgt := 95) hx hb (oc_160 88 (aq_19 shX12_reckon_69) sgw_0_7) rfl (fun c_3 => ?_) (fun c_3 => ?_)
    ·
      have tc_3 : (v1.toInt : Int) ≠ v2.toInt := fun q => c_3 (Int32.toInt_inj.mp q)
      refine lv_iconst (v := 0) hx hb (oc_3 95 shX12_reckon_95) kic_0 ?_
      exact W.iret (v := 0) hx hb hr (fun t ht hW => ⟨0, rfl, trivial, ht⟩) (fun _ h => absurd h List.not_mem_nil) dX12_reckon_96
    ·
      have tc_3 : (v1.toInt : Int) = v2.toInt := congrArg Int32.toInt c_3
      refine lv_iconst (v := 1) hx hb (oc_4 91 (aq_22 shX12_reckon_69)) kic_1 ?_
      refine lv_goto (tgt := 96) hx hb (oc_167 92 (aq_23 shX12_reckon_69) sgw_0_4) rfl ?_
      exact W.iret (v := 1) hx hb hr (fun t ht hW => ⟨1, rfl, trivial, ht⟩) (fun _ h => absurd h List.not_mem_nil) dX12_reckon_96
  ·
    refine lv_tableIn (tgt := 44) (off := 43) hx hb dX12_reckon_1 (by omega) (by omega) (by rw [c_1]; rfl) (by decide) ?_
    refine lv_iload_n hx hb (oc_27 44 shX12_reckon_44) rfl (lvA1 hl) ?_
    refine lv_iload_n hx hb (oc_28 45 (aq_1 shX12_reckon_44)) rfl (lvA2 hl) ?_
    refine lv_iadd hx hb (oc_96 46 (aq_2 shX12_reckon_44)) ?_
    exact W.iret (v := (v1 + v2)) hx hb hr (fun t ht hW => ⟨(v1 + v2), rfl, trivial, ht⟩) (fun _ h => absurd h List.not_mem_nil) (oc_172 47 (aq_3 shX12_reckon_44))
  ·
    refine lv_tableIn (tgt := 48) (off := 47) hx hb dX12_reckon_1 (by omega) (by omega) (by rw [c_1]; rfl) (by decide) ?_
    refine lv_iload_n hx hb (oc_27 48 (aq_4 shX12_reckon_44)) rfl (lvA1 hl) ?_
    refine lv_iload_n hx hb (oc_28 49 (aq_5 shX12_reckon_44)) rfl (lvA2 hl) ?_
    refine lv_isub hx hb (oc_100 50 (aq_6 shX12_reckon_44)) ?_
    exact W.iret (v := (v1 - v2)) hx hb hr (fun t ht hW => ⟨(v1 - v2), rfl, trivial, ht⟩) (fun _ h => absurd h List.not_mem_nil) (oc_172 51 (aq_7 shX12_reckon_44))
  ·
    refine lv_tableIn (tgt := 52) (off := 51) hx hb dX12_reckon_1 (by omega) (by omega) (by rw [c_1]; rfl) (by decide) ?_
    refine lv_iload_n hx hb (oc_27 52 (aq_8 shX12_reckon_44)) rfl (lvA1 hl) ?_
    refine lv_iload_n hx hb (oc_28 53 (aq_9 shX12_reckon_44)) rfl (lvA2 hl) ?_
    refine lv_imul hx hb (oc_104 54 (aq_10 shX12_reckon_44)) ?_
    exact W.iret (v := (v1 * v2)) hx hb hr (fun t ht hW => ⟨(v1 * v2), rfl, trivial, ht⟩) (fun _ h => absurd h List.not_mem_nil) (oc_172 55 (aq_11 shX12_reckon_44))
  ·
    refine lv_tableIn (tgt := 56) (off := 55) hx hb dX12_reckon_1 (by omega) (by omega) (by rw [c_1]; rfl) (by decide) ?_
    refine lv_iload_n hx hb (oc_27 56 (aq_12 shX12_reckon_44)) rfl (lvA1 hl) ?_
    refine lv_iload_n hx hb (oc_28 57 (aq_13 shX12_reckon_44)) rfl (lvA2 hl) ?_
    refine lv_idiv hx hb (oc_108 58 (aq_14 shX12_reckon_44)) (hne (Or.inl (Int32.toInt_inj.mp c_1))) ?_
    exact W.iret (v := (v1 / v2)) hx hb hr (fun t ht hW => ⟨(v1 / v2), rfl, trivial, ht⟩) (fun _ h => absurd h List.not_mem_nil) (oc_172 59 (aq_15 shX12_reckon_44))
  ·
    refine lv_tableIn (tgt := 60) (off := 59) hx hb dX12_reckon_1 (by omega) (by omega) (by rw [c_1]; rfl) (by decide) ?_
    refine lv_iload_n hx hb (oc_27 60 (aq_16 shX12_reckon_44)) rfl (lvA1 hl) ?_
    refine lv_iload_n hx hb (oc_28 61 (aq_17 shX12_reckon_44)) rfl (lvA2 hl) ?_
    refine lv_irem hx hb (oc_112 62 (aq_18 shX12_reckon_44)) (hne (Or.inr (Int32.toInt_inj.mp c_1))) ?_
    exact W.iret (v := (v1 - v1 / v2 * v2)) hx hb hr (fun t ht hW => ⟨(v1 - v1 / v2 * v2), rfl, trivial, ht⟩) (fun _ h => absurd h List.not_mem_nil) (oc_172 63 (aq_19 shX12_reckon_44))
  ·
    refine lv_tableIn (tgt := 64) (off := 63) hx hb dX12_reckon_1 (by omega) (by omega) (by rw [c_1]; rfl) (by decide) ?_
    refine lv_iload_n hx hb (oc_27 64 (aq_20 shX12_reckon_44)) rfl (lvA1 hl) ?_
    refine lv_iload_n hx hb (oc_28 65 (aq_21 shX12_reckon_44)) rfl (lvA2 hl) ?_
    refine lv_icmp_ge (tgt := 73) hx hb (oc_162 66 (aq_22 shX12_reckon_44) sgw_0_7) rfl (fun c_4 => ?_) (fun c_4 => ?_)
    ·
      have tc_4 : (v2.toInt : Int) ≤ v1.toInt := Int32.le_iff_toInt_le.mp c_4
      refine lv_iconst (v := 0) hx hb (oc_3 73 (aq_4 shX12_reckon_69)) kic_0 ?_
      exact W.iret (v := 0) hx hb hr (fun t ht hW => ⟨0, rfl, trivial, ht⟩) (fun _ h => absurd h List.not_mem_nil) (oc_172 74 (aq_5 shX12_reckon_69))
    ·
      have tc_4 : (v1.toInt : Int) < v2.toInt := Int32.lt_iff_toInt_lt.mp (Int32.not_le.mp c_4)
      refine lv_iconst (v := 1) hx hb (oc_4 69 shX12_reckon_69) kic_1 ?_
      refine lv_goto (tgt := 74) hx hb (oc_167 70 (aq_1 shX12_reckon_69) sgw_0_4) rfl ?_
      exact W.iret (v := 1) hx hb hr (fun t ht hW => ⟨1, rfl, trivial, ht⟩) (fun _ h => absurd h List.not_mem_nil) (oc_172 74 (aq_5 shX12_reckon_69))
  ·
    refine lv_tableIn (tgt := 75) (off := 74) hx hb dX12_reckon_1 (by omega) (by omega) (by rw [c_1]; rfl) (by decide) ?_
    refine lv_iload_n hx hb (oc_27 75 (aq_6 shX12_reckon_69)) rfl (lvA1 hl) ?_
    refine lv_iload_n hx hb (oc_28 76 (aq_7 shX12_reckon_69)) rfl (lvA2 hl) ?_
    refine lv_icmp_le (tgt := 84) hx hb (oc_164 77 (aq_8 shX12_reckon_69) sgw_0_7) rfl (fun c_5 => ?_) (fun c_5 => ?_)
    ·
      have tc_5 : (v1.toInt : Int) ≤ v2.toInt := Int32.le_iff_toInt_le.mp c_5
      refine lv_iconst (v := 0) hx hb (oc_3 84 (aq_15 shX12_reckon_69)) kic_0 ?_
      exact W.iret (v := 0) hx hb hr (fun t ht hW => ⟨0, rfl, trivial, ht⟩) (fun _ h => absurd h List.not_mem_nil) (oc_172 85 (aq_16 shX12_reckon_69))
    ·
      have tc_5 : (v2.toInt : Int) < v1.toInt := Int32.lt_iff_toInt_lt.mp (Int32.not_le.mp c_5)
      refine lv_iconst (v := 1) hx hb (oc_4 80 (aq_11 shX12_reckon_69)) kic_1 ?_
      refine lv_goto (tgt := 85) hx hb (oc_167 81 (aq_12 shX12_reckon_69) sgw_0_4) rfl ?_
      exact W.iret (v := 1) hx hb hr (fun t ht hW => ⟨1, rfl, trivial, ht⟩) (fun _ h => absurd h List.not_mem_nil) (oc_172 85 (aq_16 shX12_reckon_69))
set_option maxRecDepth 100000 in
set_option maxHeartbeats 4000000 in
theorem q_comesTo (l : Launch) (D : va_G) (cI cB cZ : ClassId) (g : Nat → Nat) (cn : Nat → Nat) (In : Nat → Int32) (Fn : Nat → Nat → Int32) (t0 a0 b0 : Nat) (sz : Nat) (hI : IM cn Fn) (hseg : SegOK (Fn 32) (180 * t0) a0 b0) (ht0 : t0 ≤ 10) (ha0 : 180 * t0 ≤ a0) (hat : a0 < 180 * t0 + 180) (hab : a0 ≤ b0) (hb0 : b0 ≤ 180 * t0 + 180) : Met l yX12_comesTo (CWS yX12_comesTo cX12_comesTo 8 (some .int)) (RM 1 0 0) (PBw [.ref (g 100), .int (nI a0), .int (nI b0)] D cI cB cZ (wM cI cB cZ g cn In Fn) sz) (va_Qi (fun (r : Int32) (u : (Nat → Nat) × (Nat → Int32) × (Nat → Nat → Int32)) => (fun r c2 I2 F2 => Fr [] [] [37] cn In Fn c2 I2 F2 ∧ IM c2 F2 ∧ (True)) r u.1 u.2.1 u.2.2) (fun (u : (Nat → Nat) × (Nat → Int32) × (Nat → Nat → Int32)) (t : State) => va_P D vwCl (wM cI cB cZ g u.1 u.2.1 u.2.2) t.heap ∧ va_D (va_A (wM cI cB cZ g cn In Fn) sz) (wM cI cB cZ g u.1 u.2.1 u.2.2)) (va_A (wM cI cB cZ g cn In Fn) sz)) 0 0 (va_A (wM cI cB cZ g cn In Fn) sz) := by
  refine en_w (fun A => (va_Qi (fun (r : Int32) (u : (Nat → Nat) × (Nat → Int32) × (Nat → Nat → Int32)) => (fun (r : Int32) (c2 : Nat → Nat) (I2 : Nat → Int32) (F2 : Nat → Nat → Int32) => Fr [] [] [37] cn In Fn c2 I2 F2 ∧ IM c2 F2 ∧ (True)) r u.1 u.2.1 u.2.2) (fun (u : (Nat → Nat) × (Nat → Int32) × (Nat → Nat → Int32)) (t : State) => va_P D vwCl (wM cI cB cZ g u.1 u.2.1 u.2.2) t.heap ∧ va_D A (wM cI cB cZ g u.1 u.2.1 u.2.2)) A)) rfl rfl pn_RX12 (Nat.le_of_ble_eq_true rfl) (fun p e s m below meth c A hx hb hml hown S hr hlocks hnm hA hP hK hD hS ls hl => ?_)
  have hl : lv_has ls 8 [(0, .ref (g 100)), (1, .int (nI a0)), (2, .int (nI b0))] := hl
  have hi_cn : Hid (CB cn) := hI.b
  obtain ⟨ht, hh0, hst⟩ := hseg
  refine lv_iconst (v := 0) hx hb (oc_3 0 shX12_comesTo_0) kic_0 ?_
  refine lv_istore_n (lv' := [(3, .int 0), (0, .ref (g 100)), (1, .int (nI a0)), (2, .int (nI b0))]) hx hb (oc_62 1 (aq_1 shX12_comesTo_0)) rfl hl (ltb rfl) rfl (fun ls hl => ?_)
  refine lv_sipush (v := 180) hx hb (oc_17 2 (aq_2 shX12_comesTo_0) sgw_0_180) (by decide) ?_
  refine lv_iload_n hx hb (oc_27 5 (aq_5 shX12_comesTo_0)) rfl (lvA2 hl) ?_
  refine lv_sipush (v := 180) hx hb (oc_17 6 (aq_6 shX12_comesTo_0) sgw_0_180) (by decide) ?_
  refine lv_idiv hx hb (oc_108 9 (aq_9 shX12_comesTo_0)) (by decide) ?_
  refine lv_topi (fun y_1 ey_1 => ?_)
  obtain rfl : y_1 = (nI (a0 / 180)) := ey_1.trans (nI_div (by (first | omega | (have zz0 := Hid.u hi_cn; omega))) (by decide))
  refine lv_imul hx hb (oc_104 10 (aq_10 shX12_comesTo_0)) ?_
  refine lv_topi (fun y_2 ey_2 => ?_)
  obtain rfl : y_2 = (nI (180 * t0)) := ey_2.trans (by rw [show a0 / 180 = t0 by (first | omega | (have zz0 := Hid.u hi_cn; omega))]; exact pk_mul 180 t0)
  refine lv_istore (lv' := [(4, .int (nI (180 * t0))), (3, .int 0), (0, .ref (g 100)), (1, .int (nI a0)), (2, .int (nI b0))]) hx hb (oc_54 11 (aq_11 shX12_comesTo_0) ub_4) hl (ltb rfl) rfl (fun ls hl => ?_)
  refine lv_iload_n hx hb (oc_27 13 (aq_13 shX12_comesTo_0)) rfl (lvA3 hl) ?_
  refine lv_istore (lv' := [(5, .int (nI a0)), (4, .int (nI (180 * t0))), (3, .int 0), (0, .ref (g 100)), (1, .int (nI a0)), (2, .int (nI b0))]) hx hb (oc_54 14 (aq_14 shX12_comesTo_0) ub_5) hl (ltb rfl) rfl (fun ls hl => ?_)
  have lp_16 : ∀ (n : Nat) (s16 : Nat) (k16 : Nat) (F16 : Nat → Nat → Int32) (H : Heap) (locs : List Loc) , b0 - k16 < n → (Fr [] [] [37] cn In Fn cn In F16 ∧ IM cn F16 ∧ (a0 ≤ k16 ∧ k16 ≤ b0 ∧ s16 = ht k16)) → va_P D vwCl (wM cI cB cZ g cn In F16) H → va_D A (wM cI cB cZ g cn In F16) → va_S A s.heap H locs → ∀ ls : Array Slot, lv_has ls 8 [(5, .int (nI k16)), (4, .int (nI (180 * t0))), (3, .int (nI s16)), (0, .ref (g 100)), (1, .int (nI a0)), (2, .int (nI b0))] → W p l e (RM 1 0 0) s m ([.ref (g 100), .int (nI a0), .int (nI b0)]).toArray below meth c H locs 0 0 (MQ below (va_Qi (fun (r : Int32) (u : (Nat → Nat) × (Nat → Int32) × (Nat → Nat → Int32)) => (fun r c2 I2 F2 => Fr [] [] [37] cn In Fn c2 I2 F2 ∧ IM c2 F2 ∧ (True)) r u.1 u.2.1 u.2.2) (fun (u : (Nat → Nat) × (Nat → Int32) × (Nat → Nat → Int32)) (t : State) => va_P D vwCl (wM cI cB cZ g u.1 u.2.1 u.2.2) t.heap ∧ va_D A (wM cI cB cZ g u.1 u.2.1 u.2.2)) A) ([.ref (g 100), .int (nI a0), .int (nI b0)]).toArray s 0 0 A) (F0 m 16 ls []) := by
    intro n16
    induction n16 with
    | zero => intros; (first | omega | (have zz0 := Hid.u hi_cn; omega))
    | succ n16 ih16 =>
      intro s16 k16 F16 H locs hmu16 hinv16 hP hD hS ls hl
      obtain ⟨hfr16, hI16, hx16_0⟩ := hinv16
      have hi_cn : Hid (CB cn) := hI16.b
      refine lv_iload hx hb (oc_21 16 (aq_16 shX12_comesTo_0) ub_5) (lvA0 hl) ?_
      refine lv_iload_n hx hb (oc_28 18 (aq_18 shX12_comesTo_0)) rfl (lvA5 hl) ?_
      have : (nI k16).toInt = ((k16 : Nat) : Int) := nI_toInt (by (first | omega | (have zz0 := Hid.u hi_cn; omega)))
      have : (nI b0).toInt = ((b0 : Nat) : Int) := nI_toInt (by (first | omega | (have zz0 := Hid.u hi_cn; omega)))
      refine lv_icmp_ge (tgt := 235) hx hb (oc_162 19 (aq_19 shX12_comesTo_0) sgw_0_216) rfl (fun c_3 => ?_) (fun c_3 => ?_)
      ·
        have tc_3 : ((nI b0).toInt : Int) ≤ (nI k16).toInt := Int32.le_iff_toInt_le.mp c_3
        refine lv_aload_n hx hb (oc_42 235 (aq_16 shX12_comesTo_219)) rfl (lvA3 hl) ?_
        refine gM_86 S hK hP (v := .ref (g 37)) rfl (oc_180 236 (aq_17 shX12_comesTo_219) uw_0_86) ?_
        refine lv_iconst (v := 0) hx hb (oc_3 239 (aq_20 shX12_comesTo_219)) kic_0 ?_
        refine ldM_37 hx hb hK hP (x := ((F16 37) 0)) (by unfold vp_in; decide) (by decide) rfl (oc_46 240 (aq_21 shX12_comesTo_219)) ?_
        exact W.iret (v := ((F16 37) 0)) hx hb hr (fun t ht hW => ⟨⟨((F16 37) 0), (cn, In, F16), rfl, ⟨(Fr.mo hfr16 (sbl rfl) (sbl rfl) (sbl rfl)), hI16, trivial⟩, by rw [ht]; exact hP, hD⟩, hS.F ht⟩) hS.2.2 (oc_172 241 (aq_22 shX12_comesTo_219))
      ·
        have tc_3 : ((nI k16).toInt : Int) < (nI b0).toInt := Int32.lt_iff_toInt_lt.mp (Int32.not_le.mp c_3)
        obtain ⟨op, v, hC, hv20, hh, hcase⟩ := hst k16 (by (first | omega | (have zz0 := Hid.u hi_cn; omega))) (by (first | omega | (have zz0 := Hid.u hi_cn; omega)))
        have hop : op ≤ 12 := by (first | omega | (have zz0 := Hid.u hi_cn; omega))
        refine lv_aload_n hx hb (oc_42 22 (aq_22 shX12_comesTo_0)) rfl (lvA3 hl) ?_
        refine gM_71 S hK hP (v := .ref (g 32)) rfl (oc_180 23 (aq_23 shX12_comesTo_0) uw_0_71) ?_
        refine lv_iload hx hb (oc_21 26 shX12_comesTo_26 ub_5) (lvA0 hl) ?_
        have kb_1 : k16 < 1980 := by (first | omega | (have zz0 := Hid.u hi_cn; omega))
        refine ldM_32 hx hb hK hP (x := ((F16 32) k16)) (vp_in_nI kb_1 (ltb rfl)) (nI_clamp (Nat.lt_trans kb_1 (ltb rfl))) rfl (oc_46 28 (aq_2 shX12_comesTo_26)) ?_
        refine lv_topi (fun y_4 ey_4 => ?_)
        obtain rfl : y_4 = (nI (op * 1048576 + v)) := ey_4.trans ((congrFun (hfr16.2.2 32 (nml rfl)) k16).trans hC)
        refine lv_ldcw (v := 1048576) hx hb hown (S.2.2.2.2 _ (wk7_17 11 rfl rfl)) (oc_19 29 (aq_3 shX12_comesTo_26) uw_1_4) ?_
        refine lv_idiv hx hb (oc_108 32 (aq_6 shX12_comesTo_26)) (by decide) ?_
        refine lv_topi (fun y_5 ey_5 => ?_)
        obtain rfl : y_5 = (nI op) := ey_5.trans ((nI_div (b := 1048576) (by (first | omega | (have zz0 := Hid.u hi_cn; omega))) (by decide)).trans (congrArg nI (by (first | omega | (have zz0 := Hid.u hi_cn; omega)))))
        refine lv_istore (lv' := [(6, .int (nI op)), (5, .int (nI k16)), (4, .int (nI (180 * t0))), (3, .int (nI s16)), (0, .ref (g 100)), (1, .int (nI a0)), (2, .int (nI b0))]) hx hb (oc_54 33 (aq_7 shX12_comesTo_26) ub_6) hl (ltb rfl) rfl (fun ls hl => ?_)
        refine lv_aload_n hx hb (oc_42 35 (aq_9 shX12_comesTo_26)) rfl (lvA4 hl) ?_
        refine gM_71 S hK hP (v := .ref (g 32)) rfl (oc_180 36 (aq_10 shX12_comesTo_26) uw_0_71) ?_
        refine lv_iload hx hb (oc_21 39 (aq_13 shX12_comesTo_26) ub_5) (lvA1 hl) ?_
        refine ldM_32 hx hb hK hP (x := ((F16 32) k16)) (vp_in_nI kb_1 (ltb rfl)) (nI_clamp (Nat.lt_trans kb_1 (ltb rfl))) rfl (oc_46 41 (aq_15 shX12_comesTo_26)) ?_
        refine lv_topi (fun y_6 ey_6 => ?_)
        obtain rfl : y_6 = (nI (op * 1048576 + v)) := ey_6.trans ((congrFun (hfr16.2.2 32 (nml rfl)) k16).trans hC)
        refine lv_ldcw (v := 1048576) hx hb hown (S.2.2.2.2 _ (wk7_17 11 rfl rfl)) (oc_19 42 (aq_16 shX12_comesTo_26) uw_1_4) ?_
        refine lv_irem hx hb (oc_112 45 (aq_19 shX12_comesTo_26)) (by decide) ?_
        refine lv_topi (fun y_7 ey_7 => ?_)
        obtain rfl : y_7 = (nI v) := ey_7.trans ((nI_rem (b := 1048576) (by (first | omega | (have zz0 := Hid.u hi_cn; omega))) (by decide)).trans (congrArg nI (by (first | omega | (have zz0 := Hid.u hi_cn; omega)))))
        refine lv_istore (lv' := [(7, .int (nI v)), (6, .int (nI op)), (5, .int (nI k16)), (4, .int (nI (180 * t0))), (3, .int (nI s16)), (0, .ref (g 100)), (1, .int (nI a0)), (2, .int (nI b0))]) hx hb (oc_54 46 (aq_20 shX12_comesTo_26) ub_7) hl (ltb rfl) rfl (fun ls hl => ?_)
        rcases hcase with ⟨rfl, h1, h2⟩ | ⟨rfl, hv11, h1, h2⟩ | ⟨rfl, h1, h2⟩ | ⟨hop2, h1, h2, h3, h4, h5⟩ | ⟨h2op, h9, h1, h2⟩
        ·
          have hl : lv_has ls 8 [(7, .int (nI v)), (6, .int 0), (5, .int (nI k16)), (4, .int (nI (180 * t0))), (3, .int (nI s16)), (0, .ref (g 100)), (1, .int (nI a0)), (2, .int (nI b0))] := hl
          refine lv_iload hx hb dX12_comesTo_48 (lvA2 hl) ?_
          refine lv_iconst (v := 1) hx hb dX12_comesTo_50 kic_1 ?_
          refine lv_iadd hx hb dX12_comesTo_51 ?_
          refine lv_topi (fun y_8 ey_8 => ?_)
          obtain rfl : y_8 = (nI (k16 + 1)) := ey_8.trans (nI_add k16 1)
          refine lv_istore (lv' := [(5, .int (nI (k16 + 1))), (7, .int (nI v)), (6, .int 0), (4, .int (nI (180 * t0))), (3, .int (nI s16)), (0, .ref (g 100)), (1, .int (nI a0)), (2, .int (nI b0))]) hx hb dX12_comesTo_52 hl (ltb rfl) rfl (fun ls hl => ?_)
          refine lv_iload hx hb dX12_comesTo_54 (lvA2 hl) ?_
          refine lv_if_eq (tgt := 65) hx hb dX12_comesTo_56 rfl (fun _ => ?_) (fun h => absurd h cq_eq_0_0)
          refine lv_aload_n hx hb (oc_42 65 (aq_15 shX12_comesTo_50)) rfl (lvA5 hl) ?_
          refine gM_86 S hK hP (v := .ref (g 37)) rfl (oc_180 66 (aq_16 shX12_comesTo_50) uw_0_86) ?_
          refine lv_iload_n hx hb (oc_29 69 (aq_19 shX12_comesTo_50)) rfl (lvA4 hl) ?_
          refine lv_iload hx hb (oc_21 70 (aq_20 shX12_comesTo_50) ub_6) (lvA2 hl) ?_
          refine lv_if_ne (tgt := 80) hx hb (oc_154 72 (aq_22 shX12_comesTo_50) sgw_0_8) rfl (fun h => absurd h cq_eq_0_0) (fun _ => ?_)
          refine lv_iload hx hb (oc_21 75 shX12_comesTo_75 ub_7) (lvA1 hl) ?_
          refine lv_goto (tgt := 87) hx hb (oc_167 77 (aq_2 shX12_comesTo_75) sgw_0_10) rfl ?_
          have kb_2 : s16 < 180 := by (first | omega | (have zz0 := Hid.u hi_cn; omega))
          refine stM_37 hx hb hK hP hD hS (Fn2 := (va_up F16 37 (upd (F16 37) s16 (nI v)))) (vp_in_nI kb_2 (ltb rfl)) (nI_clamp (Nat.lt_trans kb_2 (ltb rfl))) rfl (oc_79 87 (aq_12 shX12_comesTo_75)) (fun H locs hP hD hS => ?_)
          refine lv_iload_n hx hb (oc_29 88 (aq_13 shX12_comesTo_75)) rfl (lvA4 hl) ?_
          refine lv_iconst (v := 1) hx hb (oc_4 89 (aq_14 shX12_comesTo_75)) kic_1 ?_
          refine lv_iadd hx hb (oc_96 90 (aq_15 shX12_comesTo_75)) ?_
          refine lv_topi (fun y_9 ey_9 => ?_)
          obtain rfl : y_9 = (nI (s16 + 1)) := ey_9.trans (nI_add s16 1)
          refine lv_istore_n (lv' := [(3, .int (nI (s16 + 1))), (5, .int (nI (k16 + 1))), (7, .int (nI v)), (6, .int 0), (4, .int (nI (180 * t0))), (0, .ref (g 100)), (1, .int (nI a0)), (2, .int (nI b0))]) hx hb (oc_62 91 (aq_16 shX12_comesTo_75)) rfl hl (ltb rfl) rfl (fun ls hl => ?_)
          refine lv_goto (tgt := 232) hx hb (oc_167 92 (aq_17 shX12_comesTo_75) sgw_0_140) rfl ?_
          refine lv_goto (tgt := 16) hx hb dX12_comesTo_232 rfl ?_
          exact ih16 (s16 + 1) (k16 + 1) (va_up F16 37 (upd (F16 37) s16 (nI v))) _ _ (by (first | omega | (have zz0 := Hid.u hi_cn; omega))) ⟨(Fr.mo (Fr.f 37 hfr16) (sbl rfl) (sbl rfl) (sbl rfl)), (IM.fr (In := In) hI16 (Fr.f 37 Fr.rf) (by decide) (by decide)), ⟨by (first | omega | (have zz0 := Hid.u hi_cn; omega)), by (first | omega | (have zz0 := Hid.u hi_cn; omega)), by (first | omega | (have zz0 := Hid.u hi_cn; omega))⟩⟩ hP hD hS ls (lv_sub hl [1, 4, 0, 5, 6, 7] rfl)
        ·
          have hl : lv_has ls 8 [(7, .int (nI v)), (6, .int 1), (5, .int (nI k16)), (4, .int (nI (180 * t0))), (3, .int (nI s16)), (0, .ref (g 100)), (1, .int (nI a0)), (2, .int (nI b0))] := hl
          refine lv_iload hx hb dX12_comesTo_48 (lvA2 hl) ?_
          refine lv_iconst (v := 1) hx hb dX12_comesTo_50 kic_1 ?_
          refine lv_iadd hx hb dX12_comesTo_51 ?_
          refine lv_topi (fun y_10 ey_10 => ?_)
          obtain rfl : y_10 = (nI (k16 + 1)) := ey_10.trans (nI_add k16 1)
          refine lv_istore (lv' := [(5, .int (nI (k16 + 1))), (7, .int (nI v)), (6, .int 1), (4, .int (nI (180 * t0))), (3, .int (nI s16)), (0, .ref (g 100)), (1, .int (nI a0)), (2, .int (nI b0))]) hx hb dX12_comesTo_52 hl (ltb rfl) rfl (fun ls hl => ?_)
          refine lv_iload hx hb dX12_comesTo_54 (lvA2 hl) ?_
          refine lv_if_eq (tgt := 65) hx hb dX12_comesTo_56 rfl (fun h => absurd h cq_eq_1_0) (fun _ => ?_)
          refine lv_iload hx hb dX12_comesTo_59 (lvA2 hl) ?_
          refine lv_iconst (v := 1) hx hb dX12_comesTo_61 kic_1 ?_
          refine lv_icmp_ne (tgt := 95) hx hb dX12_comesTo_62 rfl (fun h => absurd h cq_eq_1_1) (fun _ => ?_)
          refine lv_aload_n hx hb (oc_42 65 (aq_15 shX12_comesTo_50)) rfl (lvA5 hl) ?_
          refine gM_86 S hK hP (v := .ref (g 37)) rfl (oc_180 66 (aq_16 shX12_comesTo_50) uw_0_86) ?_
          refine lv_iload_n hx hb (oc_29 69 (aq_19 shX12_comesTo_50)) rfl (lvA4 hl) ?_
          refine lv_iload hx hb (oc_21 70 (aq_20 shX12_comesTo_50) ub_6) (lvA2 hl) ?_
          refine lv_if_ne (tgt := 80) hx hb (oc_154 72 (aq_22 shX12_comesTo_50) sgw_0_8) rfl (fun _ => ?_) (fun h => absurd h cq_eq_1_0)
          refine lv_aload_n hx hb (oc_42 80 (aq_5 shX12_comesTo_75)) rfl (lvA5 hl) ?_
          refine gM_89 S hK hP (v := .ref (g 38)) rfl (oc_180 81 (aq_6 shX12_comesTo_75) uw_0_89) ?_
          refine lv_iload hx hb (oc_21 84 (aq_9 shX12_comesTo_75) ub_7) (lvA1 hl) ?_
          have kb_3 : v < 11 := by (first | omega | (have zz0 := Hid.u hi_cn; omega))
          refine ldM_38 hx hb hK hP (x := ((F16 38) v)) (vp_in_nI kb_3 (ltb rfl)) (nI_clamp (Nat.lt_trans kb_3 (ltb rfl))) rfl (oc_46 86 (aq_11 shX12_comesTo_75)) ?_
          have kb_4 : s16 < 180 := by (first | omega | (have zz0 := Hid.u hi_cn; omega))
          refine stM_37 hx hb hK hP hD hS (Fn2 := (va_up F16 37 (upd (F16 37) s16 ((F16 38) v)))) (vp_in_nI kb_4 (ltb rfl)) (nI_clamp (Nat.lt_trans kb_4 (ltb rfl))) rfl (oc_79 87 (aq_12 shX12_comesTo_75)) (fun H locs hP hD hS => ?_)
          refine lv_iload_n hx hb (oc_29 88 (aq_13 shX12_comesTo_75)) rfl (lvA4 hl) ?_
          refine lv_iconst (v := 1) hx hb (oc_4 89 (aq_14 shX12_comesTo_75)) kic_1 ?_
          refine lv_iadd hx hb (oc_96 90 (aq_15 shX12_comesTo_75)) ?_
          refine lv_topi (fun y_11 ey_11 => ?_)
          obtain rfl : y_11 = (nI (s16 + 1)) := ey_11.trans (nI_add s16 1)
          refine lv_istore_n (lv' := [(3, .int (nI (s16 + 1))), (5, .int (nI (k16 + 1))), (7, .int (nI v)), (6, .int 1), (4, .int (nI (180 * t0))), (0, .ref (g 100)), (1, .int (nI a0)), (2, .int (nI b0))]) hx hb (oc_62 91 (aq_16 shX12_comesTo_75)) rfl hl (ltb rfl) rfl (fun ls hl => ?_)
          refine lv_goto (tgt := 232) hx hb (oc_167 92 (aq_17 shX12_comesTo_75) sgw_0_140) rfl ?_
          refine lv_goto (tgt := 16) hx hb dX12_comesTo_232 rfl ?_
          exact ih16 (s16 + 1) (k16 + 1) (va_up F16 37 (upd (F16 37) s16 ((F16 38) v))) _ _ (by (first | omega | (have zz0 := Hid.u hi_cn; omega))) ⟨(Fr.mo (Fr.f 37 hfr16) (sbl rfl) (sbl rfl) (sbl rfl)), (IM.fr (In := In) hI16 (Fr.f 37 Fr.rf) (by decide) (by decide)), ⟨by (first | omega | (have zz0 := Hid.u hi_cn; omega)), by (first | omega | (have zz0 := Hid.u hi_cn; omega)), by (first | omega | (have zz0 := Hid.u hi_cn; omega))⟩⟩ hP hD hS ls (lv_sub hl [1, 4, 0, 5, 6, 7] rfl)
        ·
          have hl : lv_has ls 8 [(7, .int (nI v)), (6, .int 10), (5, .int (nI k16)), (4, .int (nI (180 * t0))), (3, .int (nI s16)), (0, .ref (g 100)), (1, .int (nI a0)), (2, .int (nI b0))] := hl
          refine lv_iload hx hb dX12_comesTo_48 (lvA2 hl) ?_
          refine lv_iconst (v := 1) hx hb dX12_comesTo_50 kic_1 ?_
          refine lv_iadd hx hb dX12_comesTo_51 ?_
          refine lv_topi (fun y_12 ey_12 => ?_)
          obtain rfl : y_12 = (nI (k16 + 1)) := ey_12.trans (nI_add k16 1)
          refine lv_istore (lv' := [(5, .int (nI (k16 + 1))), (7, .int (nI v)), (6, .int 10), (4, .int (nI (180 * t0))), (3, .int (nI s16)), (0, .ref (g 100)), (1, .int (nI a0)), (2, .int (nI b0))]) hx hb dX12_comesTo_52 hl (ltb rfl) rfl (fun ls hl => ?_)
          refine lv_iload hx hb dX12_comesTo_54 (lvA2 hl) ?_
          refine lv_if_eq (tgt := 65) hx hb dX12_comesTo_56 rfl (fun h => absurd h cq_eq_10_0) (fun _ => ?_)
          refine lv_iload hx hb dX12_comesTo_59 (lvA2 hl) ?_
          refine lv_iconst (v := 1) hx hb dX12_comesTo_61 kic_1 ?_
          refine lv_icmp_ne (tgt := 95) hx hb dX12_comesTo_62 rfl (fun _ => ?_) (fun h => absurd h cq_eq_10_1)
          refine lv_iload hx hb dX12_comesTo_95 (lvA2 hl) ?_
          refine lv_bipush (v := 10) hx hb dX12_comesTo_97 kbc_10 ?_
          refine lv_icmp_ne (tgt := 123) hx hb dX12_comesTo_99 rfl (fun h => absurd h cq_eq_10_10) (fun _ => ?_)
          refine lv_aload_n hx hb (oc_42 102 (aq_3 shX12_comesTo_99)) rfl (lvA5 hl) ?_
          refine gM_86 S hK hP (v := .ref (g 37)) rfl (oc_180 103 (aq_4 shX12_comesTo_99) uw_0_86) ?_
          refine lv_iload_n hx hb (oc_29 106 (aq_7 shX12_comesTo_99)) rfl (lvA4 hl) ?_
          refine lv_iconst (v := 1) hx hb (oc_4 107 (aq_8 shX12_comesTo_99)) kic_1 ?_
          refine lv_isub hx hb (oc_100 108 (aq_9 shX12_comesTo_99)) ?_
          refine lv_topi (fun y_13 ey_13 => ?_)
          obtain rfl : y_13 = (nI (s16 - 1)) := ey_13.trans (nI_sub (b := 1) (by (first | omega | (have zz0 := Hid.u hi_cn; omega))))
          refine lv_iconst (v := 1) hx hb (oc_4 109 (aq_10 shX12_comesTo_99)) kic_1 ?_
          refine lv_aload_n hx hb (oc_42 110 (aq_11 shX12_comesTo_99)) rfl (lvA5 hl) ?_
          refine gM_86 S hK hP (v := .ref (g 37)) rfl (oc_180 111 (aq_12 shX12_comesTo_99) uw_0_86) ?_
          refine lv_iload_n hx hb (oc_29 114 (aq_15 shX12_comesTo_99)) rfl (lvA4 hl) ?_
          refine lv_iconst (v := 1) hx hb (oc_4 115 (aq_16 shX12_comesTo_99)) kic_1 ?_
          refine lv_isub hx hb (oc_100 116 (aq_17 shX12_comesTo_99)) ?_
          refine lv_topi (fun y_14 ey_14 => ?_)
          obtain rfl : y_14 = (nI (s16 - 1)) := ey_14.trans (nI_sub (b := 1) (by (first | omega | (have zz0 := Hid.u hi_cn; omega))))
          have kb_5 : (s16 - 1) < 180 := by (first | omega | (have zz0 := Hid.u hi_cn; omega))
          refine ldM_37 hx hb hK hP (x := ((F16 37) (s16 - 1))) (vp_in_nI kb_5 (ltb rfl)) (nI_clamp (Nat.lt_trans kb_5 (ltb rfl))) rfl (oc_46 117 (aq_18 shX12_comesTo_99)) ?_
          refine lv_isub hx hb (oc_100 118 (aq_19 shX12_comesTo_99)) ?_
          refine stM_37 hx hb hK hP hD hS (Fn2 := (va_up F16 37 (upd (F16 37) (s16 - 1) (1 - ((F16 37) (s16 - 1)))))) (vp_in_nI kb_5 (ltb rfl)) (nI_clamp (Nat.lt_trans kb_5 (ltb rfl))) rfl (oc_79 119 (aq_20 shX12_comesTo_99)) (fun H locs hP hD hS => ?_)
          refine lv_goto (tgt := 232) hx hb (oc_167 120 (aq_21 shX12_comesTo_99) sgw_0_112) rfl ?_
          refine lv_goto (tgt := 16) hx hb dX12_comesTo_232 rfl ?_
          exact ih16 s16 (k16 + 1) (va_up F16 37 (upd (F16 37) (s16 - 1) (1 - ((F16 37) (s16 - 1))))) _ _ (by (first | omega | (have zz0 := Hid.u hi_cn; omega))) ⟨(Fr.mo (Fr.f 37 hfr16) (sbl rfl) (sbl rfl) (sbl rfl)), (IM.fr (In := In) hI16 (Fr.f 37 Fr.rf) (by decide) (by decide)), ⟨by (first | omega | (have zz0 := Hid.u hi_cn; omega)), by (first | omega | (have zz0 := Hid.u hi_cn; omega)), by (first | omega | (have zz0 := Hid.u hi_cn; omega))⟩⟩ hP hD hS ls (lv_sub hl [0, 3, 4, 5, 6, 7] rfl)
        ·
          rcases hop2 with rfl | rfl
          ·
            have hl : lv_has ls 8 [(7, .int (nI v)), (6, .int 11), (5, .int (nI k16)), (4, .int (nI (180 * t0))), (3, .int (nI s16)), (0, .ref (g 100)), (1, .int (nI a0)), (2, .int (nI b0))] := hl
            refine lv_iload hx hb dX12_comesTo_48 (lvA2 hl) ?_
            refine lv_iconst (v := 1) hx hb dX12_comesTo_50 kic_1 ?_
            refine lv_iadd hx hb dX12_comesTo_51 ?_
            refine lv_topi (fun y_15 ey_15 => ?_)
            obtain rfl : y_15 = (nI (k16 + 1)) := ey_15.trans (nI_add k16 1)
            refine lv_istore (lv' := [(5, .int (nI (k16 + 1))), (7, .int (nI v)), (6, .int 11), (4, .int (nI (180 * t0))), (3, .int (nI s16)), (0, .ref (g 100)), (1, .int (nI a0)), (2, .int (nI b0))]) hx hb dX12_comesTo_52 hl (ltb rfl) rfl (fun ls hl => ?_)
            refine lv_iload hx hb dX12_comesTo_54 (lvA2 hl) ?_
            refine lv_if_eq (tgt := 65) hx hb dX12_comesTo_56 rfl (fun h => absurd h cq_eq_11_0) (fun _ => ?_)
            refine lv_iload hx hb dX12_comesTo_59 (lvA2 hl) ?_
            refine lv_iconst (v := 1) hx hb dX12_comesTo_61 kic_1 ?_
            refine lv_icmp_ne (tgt := 95) hx hb dX12_comesTo_62 rfl (fun _ => ?_) (fun h => absurd h cq_eq_11_1)
            refine lv_iload hx hb dX12_comesTo_95 (lvA2 hl) ?_
            refine lv_bipush (v := 10) hx hb dX12_comesTo_97 kbc_10 ?_
            refine lv_icmp_ne (tgt := 123) hx hb dX12_comesTo_99 rfl (fun _ => ?_) (fun h => absurd h cq_eq_11_10)
            refine lv_iload hx hb dX12_comesTo_123 (lvA2 hl) ?_
            refine lv_bipush (v := 11) hx hb dX12_comesTo_125 kbc_11 ?_
            refine lv_icmp_eq (tgt := 137) hx hb dX12_comesTo_127 rfl (fun _ => ?_) (fun h => absurd h cq_eq_11_11)
            refine lv_aload_n hx hb (oc_42 137 (aq_14 shX12_comesTo_123)) rfl (lvA5 hl) ?_
            refine gM_86 S hK hP (v := .ref (g 37)) rfl (oc_180 138 (aq_15 shX12_comesTo_123) uw_0_86) ?_
            refine lv_iload_n hx hb (oc_29 141 (aq_18 shX12_comesTo_123)) rfl (lvA4 hl) ?_
            refine lv_iconst (v := 1) hx hb (oc_4 142 (aq_19 shX12_comesTo_123)) kic_1 ?_
            refine lv_isub hx hb (oc_100 143 (aq_20 shX12_comesTo_123)) ?_
            refine lv_topi (fun y_16 ey_16 => ?_)
            obtain rfl : y_16 = (nI (s16 - 1)) := ey_16.trans (nI_sub (b := 1) (by (first | omega | (have zz0 := Hid.u hi_cn; omega))))
            have kb_6 : (s16 - 1) < 180 := by (first | omega | (have zz0 := Hid.u hi_cn; omega))
            refine ldM_37 hx hb hK hP (x := ((F16 37) (s16 - 1))) (vp_in_nI kb_6 (ltb rfl)) (nI_clamp (Nat.lt_trans kb_6 (ltb rfl))) rfl (oc_46 144 (aq_21 shX12_comesTo_123)) ?_
            refine lv_iload hx hb (oc_21 145 (aq_22 shX12_comesTo_123) ub_6) (lvA2 hl) ?_
            refine lv_bipush (v := 12) hx hb (oc_16 147 shX12_comesTo_147 sgb_12) kbc_12 ?_
            refine lv_icmp_ne (tgt := 156) hx hb (oc_160 149 (aq_2 shX12_comesTo_147) sgw_0_7) rfl (fun _ => ?_) (fun h => absurd h cq_eq_11_12)
            refine lv_iconst (v := 0) hx hb (oc_3 156 (aq_9 shX12_comesTo_147)) kic_0 ?_
            refine lv_icmp_ne (tgt := 170) hx hb (oc_160 157 (aq_10 shX12_comesTo_147) sgw_0_13) rfl (fun c_17 => ?_) (fun c_17 => ?_)
            ·
              have tc_17 : (((F16 37) (s16 - 1)).toInt : Int) ≠ 0 := fun q => c_17 (Int32.toInt_inj.mp q)
              refine lv_iload_n hx hb (oc_29 170 (aq_23 shX12_comesTo_147)) rfl (lvA4 hl) ?_
              refine lv_iconst (v := 1) hx hb (oc_4 171 shX12_comesTo_171) kic_1 ?_
              refine lv_isub hx hb (oc_100 172 (aq_1 shX12_comesTo_171)) ?_
              refine lv_topi (fun y_18 ey_18 => ?_)
              obtain rfl : y_18 = (nI (s16 - 1)) := ey_18.trans (nI_sub (b := 1) (by (first | omega | (have zz0 := Hid.u hi_cn; omega))))
              refine lv_istore_n (lv' := [(3, .int (nI (s16 - 1))), (5, .int (nI (k16 + 1))), (7, .int (nI v)), (6, .int 11), (4, .int (nI (180 * t0))), (0, .ref (g 100)), (1, .int (nI a0)), (2, .int (nI b0))]) hx hb (oc_62 173 (aq_2 shX12_comesTo_171)) rfl hl (ltb rfl) rfl (fun ls hl => ?_)
              refine lv_goto (tgt := 232) hx hb (oc_167 174 (aq_3 shX12_comesTo_171) sgw_0_58) rfl ?_
              refine lv_goto (tgt := 16) hx hb dX12_comesTo_232 rfl ?_
              exact ih16 (s16 - 1) (k16 + 1) F16 _ _ (by (first | omega | (have zz0 := Hid.u hi_cn; omega))) ⟨(Fr.mo hfr16 (sbl rfl) (sbl rfl) (sbl rfl)), hI16, ⟨by (first | omega | (have zz0 := Hid.u hi_cn; omega)), by (first | omega | (have zz0 := Hid.u hi_cn; omega)), by (first | omega | (have zz0 := Hid.u hi_cn; omega))⟩⟩ hP hD hS ls (lv_sub hl [1, 4, 0, 5, 6, 7] rfl)
            ·
              have tc_17 : (((F16 37) (s16 - 1)).toInt : Int) = 0 := congrArg Int32.toInt c_17
              refine lv_iload hx hb (oc_21 160 (aq_13 shX12_comesTo_147) ub_4) (lvA3 hl) ?_
              refine lv_iload hx hb (oc_21 162 (aq_15 shX12_comesTo_147) ub_7) (lvA1 hl) ?_
              refine lv_iadd hx hb (oc_96 164 (aq_17 shX12_comesTo_147)) ?_
              refine lv_topi (fun y_19 ey_19 => ?_)
              obtain rfl : y_19 = (nI ((180 * t0) + v)) := ey_19.trans (nI_add (180 * t0) v)
              refine lv_istore (lv' := [(5, .int (nI ((180 * t0) + v))), (7, .int (nI v)), (6, .int 11), (4, .int (nI (180 * t0))), (3, .int (nI s16)), (0, .ref (g 100)), (1, .int (nI a0)), (2, .int (nI b0))]) hx hb (oc_54 165 (aq_18 shX12_comesTo_147) ub_5) hl (ltb rfl) rfl (fun ls hl => ?_)
              refine lv_goto (tgt := 232) hx hb (oc_167 167 (aq_20 shX12_comesTo_147) sgw_0_65) rfl ?_
              refine lv_goto (tgt := 16) hx hb dX12_comesTo_232 rfl ?_
              exact ih16 s16 ((180 * t0) + v) F16 _ _ (by (first | omega | (have zz0 := Hid.u hi_cn; omega))) ⟨(Fr.mo hfr16 (sbl rfl) (sbl rfl) (sbl rfl)), hI16, ⟨by (first | omega | (have zz0 := Hid.u hi_cn; omega)), by (first | omega | (have zz0 := Hid.u hi_cn; omega)), by (first | omega | (have zz0 := Hid.u hi_cn; omega))⟩⟩ hP hD hS ls (lv_sub hl [0, 3, 4, 5, 6, 7] rfl)
          ·
            have hl : lv_has ls 8 [(7, .int (nI v)), (6, .int 12), (5, .int (nI k16)), (4, .int (nI (180 * t0))), (3, .int (nI s16)), (0, .ref (g 100)), (1, .int (nI a0)), (2, .int (nI b0))] := hl
            refine lv_iload hx hb dX12_comesTo_48 (lvA2 hl) ?_
            refine lv_iconst (v := 1) hx hb dX12_comesTo_50 kic_1 ?_
            refine lv_iadd hx hb dX12_comesTo_51 ?_
            refine lv_topi (fun y_20 ey_20 => ?_)
            obtain rfl : y_20 = (nI (k16 + 1)) := ey_20.trans (nI_add k16 1)
            refine lv_istore (lv' := [(5, .int (nI (k16 + 1))), (7, .int (nI v)), (6, .int 12), (4, .int (nI (180 * t0))), (3, .int (nI s16)), (0, .ref (g 100)), (1, .int (nI a0)), (2, .int (nI b0))]) hx hb dX12_comesTo_52 hl (ltb rfl) rfl (fun ls hl => ?_)
            refine lv_iload hx hb dX12_comesTo_54 (lvA2 hl) ?_
            refine lv_if_eq (tgt := 65) hx hb dX12_comesTo_56 rfl (fun h => absurd h cq_eq_12_0) (fun _ => ?_)
            refine lv_iload hx hb dX12_comesTo_59 (lvA2 hl) ?_
            refine lv_iconst (v := 1) hx hb dX12_comesTo_61 kic_1 ?_
            refine lv_icmp_ne (tgt := 95) hx hb dX12_comesTo_62 rfl (fun _ => ?_) (fun h => absurd h cq_eq_12_1)
            refine lv_iload hx hb dX12_comesTo_95 (lvA2 hl) ?_
            refine lv_bipush (v := 10) hx hb dX12_comesTo_97 kbc_10 ?_
            refine lv_icmp_ne (tgt := 123) hx hb dX12_comesTo_99 rfl (fun _ => ?_) (fun h => absurd h cq_eq_12_10)
            refine lv_iload hx hb dX12_comesTo_123 (lvA2 hl) ?_
            refine lv_bipush (v := 11) hx hb dX12_comesTo_125 kbc_11 ?_
            refine lv_icmp_eq (tgt := 137) hx hb dX12_comesTo_127 rfl (fun h => absurd h cq_eq_12_11) (fun _ => ?_)
            refine lv_iload hx hb dX12_comesTo_130 (lvA2 hl) ?_
            refine lv_bipush (v := 12) hx hb dX12_comesTo_132 kbc_12 ?_
            refine lv_icmp_ne (tgt := 177) hx hb dX12_comesTo_134 rfl (fun h => absurd h cq_eq_12_12) (fun _ => ?_)
            refine lv_aload_n hx hb (oc_42 137 (aq_14 shX12_comesTo_123)) rfl (lvA5 hl) ?_
            refine gM_86 S hK hP (v := .ref (g 37)) rfl (oc_180 138 (aq_15 shX12_comesTo_123) uw_0_86) ?_
            refine lv_iload_n hx hb (oc_29 141 (aq_18 shX12_comesTo_123)) rfl (lvA4 hl) ?_
            refine lv_iconst (v := 1) hx hb (oc_4 142 (aq_19 shX12_comesTo_123)) kic_1 ?_
            refine lv_isub hx hb (oc_100 143 (aq_20 shX12_comesTo_123)) ?_
            refine lv_topi (fun y_21 ey_21 => ?_)
            obtain rfl : y_21 = (nI (s16 - 1)) := ey_21.trans (nI_sub (b := 1) (by (first | omega | (have zz0 := Hid.u hi_cn; omega))))
            have kb_7 : (s16 - 1) < 180 := by (first | omega | (have zz0 := Hid.u hi_cn; omega))
            refine ldM_37 hx hb hK hP (x := ((F16 37) (s16 - 1))) (vp_in_nI kb_7 (ltb rfl)) (nI_clamp (Nat.lt_trans kb_7 (ltb rfl))) rfl (oc_46 144 (aq_21 shX12_comesTo_123)) ?_
            refine lv_iload hx hb (oc_21 145 (aq_22 shX12_comesTo_123) ub_6) (lvA2 hl) ?_
            refine lv_bipush (v := 12) hx hb (oc_16 147 shX12_comesTo_147 sgb_12) kbc_12 ?_
            refine lv_icmp_ne (tgt := 156) hx hb (oc_160 149 (aq_2 shX12_comesTo_147) sgw_0_7) rfl (fun h => absurd h cq_eq_12_12) (fun _ => ?_)
            refine lv_iconst (v := 1) hx hb (oc_4 152 (aq_5 shX12_comesTo_147)) kic_1 ?_
            refine lv_goto (tgt := 157) hx hb (oc_167 153 (aq_6 shX12_comesTo_147) sgw_0_4) rfl ?_
            refine lv_icmp_ne (tgt := 170) hx hb (oc_160 157 (aq_10 shX12_comesTo_147) sgw_0_13) rfl (fun c_22 => ?_) (fun c_22 => ?_)
            ·
              have tc_22 : (((F16 37) (s16 - 1)).toInt : Int) ≠ 1 := fun q => c_22 (Int32.toInt_inj.mp q)
              refine lv_iload_n hx hb (oc_29 170 (aq_23 shX12_comesTo_147)) rfl (lvA4 hl) ?_
              refine lv_iconst (v := 1) hx hb (oc_4 171 shX12_comesTo_171) kic_1 ?_
              refine lv_isub hx hb (oc_100 172 (aq_1 shX12_comesTo_171)) ?_
              refine lv_topi (fun y_23 ey_23 => ?_)
              obtain rfl : y_23 = (nI (s16 - 1)) := ey_23.trans (nI_sub (b := 1) (by (first | omega | (have zz0 := Hid.u hi_cn; omega))))
              refine lv_istore_n (lv' := [(3, .int (nI (s16 - 1))), (5, .int (nI (k16 + 1))), (7, .int (nI v)), (6, .int 12), (4, .int (nI (180 * t0))), (0, .ref (g 100)), (1, .int (nI a0)), (2, .int (nI b0))]) hx hb (oc_62 173 (aq_2 shX12_comesTo_171)) rfl hl (ltb rfl) rfl (fun ls hl => ?_)
              refine lv_goto (tgt := 232) hx hb (oc_167 174 (aq_3 shX12_comesTo_171) sgw_0_58) rfl ?_
              refine lv_goto (tgt := 16) hx hb dX12_comesTo_232 rfl ?_
              exact ih16 (s16 - 1) (k16 + 1) F16 _ _ (by (first | omega | (have zz0 := Hid.u hi_cn; omega))) ⟨(Fr.mo hfr16 (sbl rfl) (sbl rfl) (sbl rfl)), hI16, ⟨by (first | omega | (have zz0 := Hid.u hi_cn; omega)), by (first | omega | (have zz0 := Hid.u hi_cn; omega)), by (first | omega | (have zz0 := Hid.u hi_cn; omega))⟩⟩ hP hD hS ls (lv_sub hl [1, 4, 0, 5, 6, 7] rfl)
            ·
              have tc_22 : (((F16 37) (s16 - 1)).toInt : Int) = 1 := congrArg Int32.toInt c_22
              refine lv_iload hx hb (oc_21 160 (aq_13 shX12_comesTo_147) ub_4) (lvA3 hl) ?_
              refine lv_iload hx hb (oc_21 162 (aq_15 shX12_comesTo_147) ub_7) (lvA1 hl) ?_
              refine lv_iadd hx hb (oc_96 164 (aq_17 shX12_comesTo_147)) ?_
              refine lv_topi (fun y_24 ey_24 => ?_)
              obtain rfl : y_24 = (nI ((180 * t0) + v)) := ey_24.trans (nI_add (180 * t0) v)
              refine lv_istore (lv' := [(5, .int (nI ((180 * t0) + v))), (7, .int (nI v)), (6, .int 12), (4, .int (nI (180 * t0))), (3, .int (nI s16)), (0, .ref (g 100)), (1, .int (nI a0)), (2, .int (nI b0))]) hx hb (oc_54 165 (aq_18 shX12_comesTo_147) ub_5) hl (ltb rfl) rfl (fun ls hl => ?_)
              refine lv_goto (tgt := 232) hx hb (oc_167 167 (aq_20 shX12_comesTo_147) sgw_0_65) rfl ?_
              refine lv_goto (tgt := 16) hx hb dX12_comesTo_232 rfl ?_
              exact ih16 s16 ((180 * t0) + v) F16 _ _ (by (first | omega | (have zz0 := Hid.u hi_cn; omega))) ⟨(Fr.mo hfr16 (sbl rfl) (sbl rfl) (sbl rfl)), hI16, ⟨by (first | omega | (have zz0 := Hid.u hi_cn; omega)), by (first | omega | (have zz0 := Hid.u hi_cn; omega)), by (first | omega | (have zz0 := Hid.u hi_cn; omega))⟩⟩ hP hD hS ls (lv_sub hl [0, 3, 4, 5, 6, 7] rfl)
        ·
          rcases (by (first | omega | (have zz0 := Hid.u hi_cn; omega)) : op = 2 ∨ op = 3 ∨ op = 4 ∨ op = 5 ∨ op = 6 ∨ op = 7 ∨ op = 8 ∨ op = 9) with rfl | rfl | rfl | rfl | rfl | rfl | rfl | rfl
          ·
            have hl : lv_has ls 8 [(7, .int (nI v)), (6, .int 2), (5, .int (nI k16)), (4, .int (nI (180 * t0))), (3, .int (nI s16)), (0, .ref (g 100)), (1, .int (nI a0)), (2, .int (nI b0))] := hl
            refine lv_iload hx hb dX12_comesTo_48 (lvA2 hl) ?_
            refine lv_iconst (v := 1) hx hb dX12_comesTo_50 kic_1 ?_
            refine lv_iadd hx hb dX12_comesTo_51 ?_
            refine lv_topi (fun y_25 ey_25 => ?_)
            obtain rfl : y_25 = (nI (k16 + 1)) := ey_25.trans (nI_add k16 1)
            refine lv_istore (lv' := [(5, .int (nI (k16 + 1))), (7, .int (nI v)), (6, .int 2), (4, .int (nI (180 * t0))), (3, .int (nI s16)), (0, .ref (g 100)), (1, .int (nI a0)), (2, .int (nI b0))]) hx hb dX12_comesTo_52 hl (ltb rfl) rfl (fun ls hl => ?_)
            refine lv_iload hx hb dX12_comesTo_54 (lvA2 hl) ?_
            refine lv_if_eq (tgt := 65) hx hb dX12_comesTo_56 rfl (fun h => absurd h cq_eq_2_0) (fun _ => ?_)
            refine lv_iload hx hb dX12_comesTo_59 (lvA2 hl) ?_
            refine lv_iconst (v := 1) hx hb dX12_comesTo_61 kic_1 ?_
            refine lv_icmp_ne (tgt := 95) hx hb dX12_comesTo_62 rfl (fun _ => ?_) (fun h => absurd h cq_eq_2_1)
            refine lv_iload hx hb dX12_comesTo_95 (lvA2 hl) ?_
            refine lv_bipush (v := 10) hx hb dX12_comesTo_97 kbc_10 ?_
            refine lv_icmp_ne (tgt := 123) hx hb dX12_comesTo_99 rfl (fun _ => ?_) (fun h => absurd h cq_eq_2_10)
            refine lv_iload hx hb dX12_comesTo_123 (lvA2 hl) ?_
            refine lv_bipush (v := 11) hx hb dX12_comesTo_125 kbc_11 ?_
            refine lv_icmp_eq (tgt := 137) hx hb dX12_comesTo_127 rfl (fun h => absurd h cq_eq_2_11) (fun _ => ?_)
            refine lv_iload hx hb dX12_comesTo_130 (lvA2 hl) ?_
            refine lv_bipush (v := 12) hx hb dX12_comesTo_132 kbc_12 ?_
            refine lv_icmp_ne (tgt := 177) hx hb dX12_comesTo_134 rfl (fun _ => ?_) (fun h => absurd h cq_eq_2_12)
            refine lv_iload_n hx hb dX12_comesTo_177 rfl (lvA4 hl) ?_
            refine lv_iconst (v := 1) hx hb dX12_comesTo_178 kic_1 ?_
            refine lv_isub hx hb dX12_comesTo_179 ?_
            refine lv_topi (fun y_26 ey_26 => ?_)
            obtain rfl : y_26 = (nI (s16 - 1)) := ey_26.trans (nI_sub (b := 1) (by (first | omega | (have zz0 := Hid.u hi_cn; omega))))
            refine lv_istore_n (lv' := [(3, .int (nI (s16 - 1))), (5, .int (nI (k16 + 1))), (7, .int (nI v)), (6, .int 2), (4, .int (nI (180 * t0))), (0, .ref (g 100)), (1, .int (nI a0)), (2, .int (nI b0))]) hx hb dX12_comesTo_180 rfl hl (ltb rfl) rfl (fun ls hl => ?_)
            refine lv_iload hx hb dX12_comesTo_181 (lvA3 hl) ?_
            refine lv_iconst (v := 5) hx hb dX12_comesTo_183 kic_5 ?_
            refine lv_icmp_eq (tgt := 194) hx hb dX12_comesTo_184 rfl (fun h => absurd h cq_eq_2_5) (fun _ => ?_)
            refine lv_iload hx hb dX12_comesTo_187 (lvA3 hl) ?_
            refine lv_bipush (v := 6) hx hb dX12_comesTo_189 kbc_6 ?_
            refine lv_icmp_ne (tgt := 205) hx hb dX12_comesTo_191 rfl (fun _ => ?_) (fun h => absurd h cq_eq_2_6)
            refine lv_aload_n hx hb dX12_comesTo_205 rfl (lvA5 hl) ?_
            refine gM_86 S hK hP (v := .ref (g 37)) rfl dX12_comesTo_206 ?_
            refine lv_iload_n hx hb dX12_comesTo_209 rfl (lvA0 hl) ?_
            refine lv_iconst (v := 1) hx hb dX12_comesTo_210 kic_1 ?_
            refine lv_isub hx hb dX12_comesTo_211 ?_
            refine lv_topi (fun y_27 ey_27 => ?_)
            obtain rfl : y_27 = (nI ((s16 - 1) - 1)) := ey_27.trans (nI_sub (b := 1) (by (first | omega | (have zz0 := Hid.u hi_cn; omega))))
            refine lv_iload hx hb dX12_comesTo_212 (lvA3 hl) ?_
            refine lv_aload_n hx hb dX12_comesTo_214 rfl (lvA5 hl) ?_
            refine gM_86 S hK hP (v := .ref (g 37)) rfl dX12_comesTo_215 ?_
            refine lv_iload_n hx hb dX12_comesTo_218 rfl (lvA0 hl) ?_
            refine lv_iconst (v := 1) hx hb dX12_comesTo_219 kic_1 ?_
            refine lv_isub hx hb dX12_comesTo_220 ?_
            refine lv_topi (fun y_28 ey_28 => ?_)
            obtain rfl : y_28 = (nI ((s16 - 1) - 1)) := ey_28.trans (nI_sub (b := 1) (by (first | omega | (have zz0 := Hid.u hi_cn; omega))))
            have kb_8 : ((s16 - 1) - 1) < 180 := by (first | omega | (have zz0 := Hid.u hi_cn; omega))
            refine ldM_37 hx hb hK hP (x := ((F16 37) ((s16 - 1) - 1))) (vp_in_nI kb_8 (ltb rfl)) (nI_clamp (Nat.lt_trans kb_8 (ltb rfl))) rfl dX12_comesTo_221 ?_
            refine lv_aload_n hx hb dX12_comesTo_222 rfl (lvA5 hl) ?_
            refine gM_86 S hK hP (v := .ref (g 37)) rfl dX12_comesTo_223 ?_
            refine lv_iload_n hx hb dX12_comesTo_226 rfl (lvA0 hl) ?_
            have kb_9 : (s16 - 1) < 180 := by (first | omega | (have zz0 := Hid.u hi_cn; omega))
            refine ldM_37 hx hb hK hP (x := ((F16 37) (s16 - 1))) (vp_in_nI kb_9 (ltb rfl)) (nI_clamp (Nat.lt_trans kb_9 (ltb rfl))) rfl dX12_comesTo_227 ?_
            refine vp_callSi (runS_r (As := [.int 2, .int ((F16 37) ((s16 - 1) - 1)), .int ((F16 37) (s16 - 1))]) (rest := [.int (nI ((s16 - 1) - 1)), .ref (g 37)]) S (q_reckon l D cI cB cZ 2 ((F16 37) ((s16 - 1) - 1)) ((F16 37) (s16 - 1)) (fun q => by rcases q with q | q <;> exact absurd q (by decide))) kS_RX12_327 hK hP [] rfl ⟨Nat.le_of_ble_eq_true rfl, Nat.le_of_ble_eq_true rfl⟩ ⟨Nat.le_of_ble_eq_true rfl, Nat.le_of_ble_eq_true rfl⟩ rfl hl.1 rfl (Nat.le_of_ble_eq_true rfl) dX12_comesTo_228) (fun r_29 h_30 => ?_)
            refine stM_37 hx hb hK hP hD hS (Fn2 := (va_up F16 37 (upd (F16 37) ((s16 - 1) - 1) r_29))) (vp_in_nI kb_8 (ltb rfl)) (nI_clamp (Nat.lt_trans kb_8 (ltb rfl))) rfl dX12_comesTo_231 (fun H locs hP hD hS => ?_)
            refine lv_goto (tgt := 16) hx hb dX12_comesTo_232 rfl ?_
            exact ih16 (s16 - 1) (k16 + 1) (va_up F16 37 (upd (F16 37) ((s16 - 1) - 1) r_29)) _ _ (by (first | omega | (have zz0 := Hid.u hi_cn; omega))) ⟨(Fr.mo (Fr.f 37 hfr16) (sbl rfl) (sbl rfl) (sbl rfl)), (IM.fr (In := In) hI16 (Fr.f 37 Fr.rf) (by decide) (by decide)), ⟨by (first | omega | (have zz0 := Hid.u hi_cn; omega)), by (first | omega | (have zz0 := Hid.u hi_cn; omega)), by (first | omega | (have zz0 := Hid.u hi_cn; omega))⟩⟩ hP hD hS ls (lv_sub hl [1, 4, 0, 5, 6, 7] rfl)
          ·
            have hl : lv_has ls 8 [(7, .int (nI v)), (6, .int 3), (5, .int (nI k16)), (4, .int (nI (180 * t0))), (3, .int (nI s16)), (0, .ref (g 100)), (1, .int (nI a0)), (2, .int (nI b0))] := hl
            refine lv_iload hx hb dX12_comesTo_48 (lvA2 hl) ?_
            refine lv_iconst (v := 1) hx hb dX12_comesTo_50 kic_1 ?_
            refine lv_iadd hx hb dX12_comesTo_51 ?_
            refine lv_topi (fun y_31 ey_31 => ?_)
            obtain rfl : y_31 = (nI (k16 + 1)) := ey_31.trans (nI_add k16 1)
            refine lv_istore (lv' := [(5, .int (nI (k16 + 1))), (7, .int (nI v)), (6, .int 3), (4, .int (nI (180 * t0))), (3, .int (nI s16)), (0, .ref (g 100)), (1, .int (nI a0)), (2, .int (nI b0))]) hx hb dX12_comesTo_52 hl (ltb rfl) rfl (fun ls hl => ?_)
            refine lv_iload hx hb dX12_comesTo_54 (lvA2 hl) ?_
            refine lv_if_eq (tgt := 65) hx hb dX12_comesTo_56 rfl (fun h => absurd h cq_eq_3_0) (fun _ => ?_)
            refine lv_iload hx hb dX12_comesTo_59 (lvA2 hl) ?_
            refine lv_iconst (v := 1) hx hb dX12_comesTo_61 kic_1 ?_
            refine lv_icmp_ne (tgt := 95) hx hb dX12_comesTo_62 rfl (fun _ => ?_) (fun h => absurd h cq_eq_3_1)
            refine lv_iload hx hb dX12_comesTo_95 (lvA2 hl) ?_
            refine lv_bipush (v := 10) hx hb dX12_comesTo_97 kbc_10 ?_
            refine lv_icmp_ne (tgt := 123) hx hb dX12_comesTo_99 rfl (fun _ => ?_) (fun h => absurd h cq_eq_3_10)
            refine lv_iload hx hb dX12_comesTo_123 (lvA2 hl) ?_
            refine lv_bipush (v := 11) hx hb dX12_comesTo_125 kbc_11 ?_
            refine lv_icmp_eq (tgt := 137) hx hb dX12_comesTo_127 rfl (fun h => absurd h cq_eq_3_11) (fun _ => ?_)
            refine lv_iload hx hb dX12_comesTo_130 (lvA2 hl) ?_
            refine lv_bipush (v := 12) hx hb dX12_comesTo_132 kbc_12 ?_
            refine lv_icmp_ne (tgt := 177) hx hb dX12_comesTo_134 rfl (fun _ => ?_) (fun h => absurd h cq_eq_3_12)
            refine lv_iload_n hx hb dX12_comesTo_177 rfl (lvA4 hl) ?_
            refine lv_iconst (v := 1) hx hb dX12_comesTo_178 kic_1 ?_
            refine lv_isub hx hb dX12_comesTo_179 ?_
            refine lv_topi (fun y_32 ey_32 => ?_)
            obtain rfl : y_32 = (nI (s16 - 1)) := ey_32.trans (nI_sub (b := 1) (by (first | omega | (have zz0 := Hid.u hi_cn; omega))))
            refine lv_istore_n (lv' := [(3, .int (nI (s16 - 1))), (5, .int (nI (k16 + 1))), (7, .int (nI v)), (6, .int 3), (4, .int (nI (180 * t0))), (0, .ref (g 100)), (1, .int (nI a0)), (2, .int (nI b0))]) hx hb dX12_comesTo_180 rfl hl (ltb rfl) rfl (fun ls hl => ?_)
            refine lv_iload hx hb dX12_comesTo_181 (lvA3 hl) ?_
            refine lv_iconst (v := 5) hx hb dX12_comesTo_183 kic_5 ?_
            refine lv_icmp_eq (tgt := 194) hx hb dX12_comesTo_184 rfl (fun h => absurd h cq_eq_3_5) (fun _ => ?_)
            refine lv_iload hx hb dX12_comesTo_187 (lvA3 hl) ?_
            refine lv_bipush (v := 6) hx hb dX12_comesTo_189 kbc_6 ?_
            refine lv_icmp_ne (tgt := 205) hx hb dX12_comesTo_191 rfl (fun _ => ?_) (fun h => absurd h cq_eq_3_6)
            refine lv_aload_n hx hb dX12_comesTo_205 rfl (lvA5 hl) ?_
            refine gM_86 S hK hP (v := .ref (g 37)) rfl dX12_comesTo_206 ?_
            refine lv_iload_n hx hb dX12_comesTo_209 rfl (lvA0 hl) ?_
            refine lv_iconst (v := 1) hx hb dX12_comesTo_210 kic_1 ?_
            refine lv_isub hx hb dX12_comesTo_211 ?_
            refine lv_topi (fun y_33 ey_33 => ?_)
            obtain rfl : y_33 = (nI ((s16 - 1) - 1)) := ey_33.trans (nI_sub (b := 1) (by (first | omega | (have zz0 := Hid.u hi_cn; omega))))
            refine lv_iload hx hb dX12_comesTo_212 (lvA3 hl) ?_
            refine lv_aload_n hx hb dX12_comesTo_214 rfl (lvA5 hl) ?_
            refine gM_86 S hK hP (v := .ref (g 37)) rfl dX12_comesTo_215 ?_
            refine lv_iload_n hx hb dX12_comesTo_218 rfl (lvA0 hl) ?_
            refine lv_iconst (v := 1) hx hb dX12_comesTo_219 kic_1 ?_
            refine lv_isub hx hb dX12_comesTo_220 ?_
            refine lv_topi (fun y_34 ey_34 => ?_)
            obtain rfl : y_34 = (nI ((s16 - 1) - 1)) := ey_34.trans (nI_sub (b := 1) (by (first | omega | (have zz0 := Hid.u hi_cn; omega))))
            have kb_10 : ((s16 - 1) - 1) < 180 := by (first | omega | (have zz0 := Hid.u hi_cn; omega))
            refine ldM_37 hx hb hK hP (x := ((F16 37) ((s16 - 1) - 1))) (vp_in_nI kb_10 (ltb rfl)) (nI_clamp (Nat.lt_trans kb_10 (ltb rfl))) rfl dX12_comesTo_221 ?_
            refine lv_aload_n hx hb dX12_comesTo_222 rfl (lvA5 hl) ?_
            refine gM_86 S hK hP (v := .ref (g 37)) rfl dX12_comesTo_223 ?_
            refine lv_iload_n hx hb dX12_comesTo_226 rfl (lvA0 hl) ?_
            have kb_11 : (s16 - 1) < 180 := by (first | omega | (have zz0 := Hid.u hi_cn; omega))
            refine ldM_37 hx hb hK hP (x := ((F16 37) (s16 - 1))) (vp_in_nI kb_11 (ltb rfl)) (nI_clamp (Nat.lt_trans kb_11 (ltb rfl))) rfl dX12_comesTo_227 ?_
            refine vp_callSi (runS_r (As := [.int 3, .int ((F16 37) ((s16 - 1) - 1)), .int ((F16 37) (s16 - 1))]) (rest := [.int (nI ((s16 - 1) - 1)), .ref (g 37)]) S (q_reckon l D cI cB cZ 3 ((F16 37) ((s16 - 1) - 1)) ((F16 37) (s16 - 1)) (fun q => by rcases q with q | q <;> exact absurd q (by decide))) kS_RX12_327 hK hP [] rfl ⟨Nat.le_of_ble_eq_true rfl, Nat.le_of_ble_eq_true rfl⟩ ⟨Nat.le_of_ble_eq_true rfl, Nat.le_of_ble_eq_true rfl⟩ rfl hl.1 rfl (Nat.le_of_ble_eq_true rfl) dX12_comesTo_228) (fun r_35 h_36 => ?_)
            refine stM_37 hx hb hK hP hD hS (Fn2 := (va_up F16 37 (upd (F16 37) ((s16 - 1) - 1) r_35))) (vp_in_nI kb_10 (ltb rfl)) (nI_clamp (Nat.lt_trans kb_10 (ltb rfl))) rfl dX12_comesTo_231 (fun H locs hP hD hS => ?_)
            refine lv_goto (tgt := 16) hx hb dX12_comesTo_232 rfl ?_
            exact ih16 (s16 - 1) (k16 + 1) (va_up F16 37 (upd (F16 37) ((s16 - 1) - 1) r_35)) _ _ (by (first | omega | (have zz0 := Hid.u hi_cn; omega))) ⟨(Fr.mo (Fr.f 37 hfr16) (sbl rfl) (sbl rfl) (sbl rfl)), (IM.fr (In := In) hI16 (Fr.f 37 Fr.rf) (by decide) (by decide)), ⟨by (first | omega | (have zz0 := Hid.u hi_cn; omega)), by (first | omega | (have zz0 := Hid.u hi_cn; omega)), by (first | omega | (have zz0 := Hid.u hi_cn; omega))⟩⟩ hP hD hS ls (lv_sub hl [1, 4, 0, 5, 6, 7] rfl)
          ·
            have hl : lv_has ls 8 [(7, .int (nI v)), (6, .int 4), (5, .int (nI k16)), (4, .int (nI (180 * t0))), (3, .int (nI s16)), (0, .ref (g 100)), (1, .int (nI a0)), (2, .int (nI b0))] := hl
            refine lv_iload hx hb dX12_comesTo_48 (lvA2 hl) ?_
            refine lv_iconst (v := 1) hx hb dX12_comesTo_50 kic_1 ?_
            refine lv_iadd hx hb dX12_comesTo_51 ?_
            refine lv_topi (fun y_37 ey_37 => ?_)
            obtain rfl : y_37 = (nI (k16 + 1)) := ey_37.trans (nI_add k16 1)
            refine lv_istore (lv' := [(5, .int (nI (k16 + 1))), (7, .int (nI v)), (6, .int 4), (4, .int (nI (180 * t0))), (3, .int (nI s16)), (0, .ref (g 100)), (1, .int (nI a0)), (2, .int (nI b0))]) hx hb dX12_comesTo_52 hl (ltb rfl) rfl (fun ls hl => ?_)
            refine lv_iload hx hb dX12_comesTo_54 (lvA2 hl) ?_
            refine lv_if_eq (tgt := 65) hx hb dX12_comesTo_56 rfl (fun h => absurd h cq_eq_4_0) (fun _ => ?_)
            refine lv_iload hx hb dX12_comesTo_59 (lvA2 hl) ?_
            refine lv_iconst (v := 1) hx hb dX12_comesTo_61 kic_1 ?_
            refine lv_icmp_ne (tgt := 95) hx hb dX12_comesTo_62 rfl (fun _ => ?_) (fun h => absurd h cq_eq_4_1)
            refine lv_iload hx hb dX12_comesTo_95 (lvA2 hl) ?_
            refine lv_bipush (v := 10) hx hb dX12_comesTo_97 kbc_10 ?_
            refine lv_icmp_ne (tgt := 123) hx hb dX12_comesTo_99 rfl (fun _ => ?_) (fun h => absurd h cq_eq_4_10)
            refine lv_iload hx hb dX12_comesTo_123 (lvA2 hl) ?_
            refine lv_bipush (v := 11) hx hb dX12_comesTo_125 kbc_11 ?_
            refine lv_icmp_eq (tgt := 137) hx hb dX12_comesTo_127 rfl (fun h => absurd h cq_eq_4_11) (fun _ => ?_)
            refine lv_iload hx hb dX12_comesTo_130 (lvA2 hl) ?_
            refine lv_bipush (v := 12) hx hb dX12_comesTo_132 kbc_12 ?_
            refine lv_icmp_ne (tgt := 177) hx hb dX12_comesTo_134 rfl (fun _ => ?_) (fun h => absurd h cq_eq_4_12)
            refine lv_iload_n hx hb dX12_comesTo_177 rfl (lvA4 hl) ?_
            refine lv_iconst (v := 1) hx hb dX12_comesTo_178 kic_1 ?_
            refine lv_isub hx hb dX12_comesTo_179 ?_
            refine lv_topi (fun y_38 ey_38 => ?_)
            obtain rfl : y_38 = (nI (s16 - 1)) := ey_38.trans (nI_sub (b := 1) (by (first | omega | (have zz0 := Hid.u hi_cn; omega))))
            refine lv_istore_n (lv' := [(3, .int (nI (s16 - 1))), (5, .int (nI (k16 + 1))), (7, .int (nI v)), (6, .int 4), (4, .int (nI (180 * t0))), (0, .ref (g 100)), (1, .int (nI a0)), (2, .int (nI b0))]) hx hb dX12_comesTo_180 rfl hl (ltb rfl) rfl (fun ls hl => ?_)
            refine lv_iload hx hb dX12_comesTo_181 (lvA3 hl) ?_
            refine lv_iconst (v := 5) hx hb dX12_comesTo_183 kic_5 ?_
            refine lv_icmp_eq (tgt := 194) hx hb dX12_comesTo_184 rfl (fun h => absurd h cq_eq_4_5) (fun _ => ?_)
            refine lv_iload hx hb dX12_comesTo_187 (lvA3 hl) ?_
            refine lv_bipush (v := 6) hx hb dX12_comesTo_189 kbc_6 ?_
            refine lv_icmp_ne (tgt := 205) hx hb dX12_comesTo_191 rfl (fun _ => ?_) (fun h => absurd h cq_eq_4_6)
            refine lv_aload_n hx hb dX12_comesTo_205 rfl (lvA5 hl) ?_
            refine gM_86 S hK hP (v := .ref (g 37)) rfl dX12_comesTo_206 ?_
            refine lv_iload_n hx hb dX12_comesTo_209 rfl (lvA0 hl) ?_
            refine lv_iconst (v := 1) hx hb dX12_comesTo_210 kic_1 ?_
            refine lv_isub hx hb dX12_comesTo_211 ?_
            refine lv_topi (fun y_39 ey_39 => ?_)
            obtain rfl : y_39 = (nI ((s16 - 1) - 1)) := ey_39.trans (nI_sub (b := 1) (by (first | omega | (have zz0 := Hid.u hi_cn; omega))))
            refine lv_iload hx hb dX12_comesTo_212 (lvA3 hl) ?_
            refine lv_aload_n hx hb dX12_comesTo_214 rfl (lvA5 hl) ?_
            refine gM_86 S hK hP (v := .ref (g 37)) rfl dX12_comesTo_215 ?_
            refine lv_iload_n hx hb dX12_comesTo_218 rfl (lvA0 hl) ?_
            refine lv_iconst (v := 1) hx hb dX12_comesTo_219 kic_1 ?_
            refine lv_isub hx hb dX12_comesTo_220 ?_
            refine lv_topi (fun y_40 ey_40 => ?_)
            obtain rfl : y_40 = (nI ((s16 - 1) - 1)) := ey_40.trans (nI_sub (b := 1) (by (first | omega | (have zz0 := Hid.u hi_cn; omega))))
            have kb_12 : ((s16 - 1) - 1) < 180 := by (first | omega | (have zz0 := Hid.u hi_cn; omega))
            refine ldM_37 hx hb hK hP (x := ((F16 37) ((s16 - 1) - 1))) (vp_in_nI kb_12 (ltb rfl)) (nI_clamp (Nat.lt_trans kb_12 (ltb rfl))) rfl dX12_comesTo_221 ?_
            refine lv_aload_n hx hb dX12_comesTo_222 rfl (lvA5 hl) ?_
            refine gM_86 S hK hP (v := .ref (g 37)) rfl dX12_comesTo_223 ?_
            refine lv_iload_n hx hb dX12_comesTo_226 rfl (lvA0 hl) ?_
            have kb_13 : (s16 - 1) < 180 := by (first | omega | (have zz0 := Hid.u hi_cn; omega))
            refine ldM_37 hx hb hK hP (x := ((F16 37) (s16 - 1))) (vp_in_nI kb_13 (ltb rfl)) (nI_clamp (Nat.lt_trans kb_13 (ltb rfl))) rfl dX12_comesTo_227 ?_
            refine vp_callSi (runS_r (As := [.int 4, .int ((F16 37) ((s16 - 1) - 1)), .int ((F16 37) (s16 - 1))]) (rest := [.int (nI ((s16 - 1) - 1)), .ref (g 37)]) S (q_reckon l D cI cB cZ 4 ((F16 37) ((s16 - 1) - 1)) ((F16 37) (s16 - 1)) (fun q => by rcases q with q | q <;> exact absurd q (by decide))) kS_RX12_327 hK hP [] rfl ⟨Nat.le_of_ble_eq_true rfl, Nat.le_of_ble_eq_true rfl⟩ ⟨Nat.le_of_ble_eq_true rfl, Nat.le_of_ble_eq_true rfl⟩ rfl hl.1 rfl (Nat.le_of_ble_eq_true rfl) dX12_comesTo_228) (fun r_41 h_42 => ?_)
            refine stM_37 hx hb hK hP hD hS (Fn2 := (va_up F16 37 (upd (F16 37) ((s16 - 1) - 1) r_41))) (vp_in_nI kb_12 (ltb rfl)) (nI_clamp (Nat.lt_trans kb_12 (ltb rfl))) rfl dX12_comesTo_231 (fun H locs hP hD hS => ?_)
            refine lv_goto (tgt := 16) hx hb dX12_comesTo_232 rfl ?_
            exact ih16 (s16 - 1) (k16 + 1) (va_up F16 37 (upd (F16 37) ((s16 - 1) - 1) r_41)) _ _ (by (first | omega | (have zz0 := Hid.u hi_cn; omega))) ⟨(Fr.mo (Fr.f 37 hfr16) (sbl rfl) (sbl rfl) (sbl rfl)), (IM.fr (In := In) hI16 (Fr.f 37 Fr.rf) (by decide) (by decide)), ⟨by (first | omega | (have zz0 := Hid.u hi_cn; omega)), by (first | omega | (have zz0 := Hid.u hi_cn; omega)), by (first | omega | (have zz0 := Hid.u hi_cn; omega))⟩⟩ hP hD hS ls (lv_sub hl [1, 4, 0, 5, 6, 7] rfl)
          ·
            have hl : lv_has ls 8 [(7, .int (nI v)), (6, .int 5), (5, .int (nI k16)), (4, .int (nI (180 * t0))), (3, .int (nI s16)), (0, .ref (g 100)), (1, .int (nI a0)), (2, .int (nI b0))] := hl
            refine lv_iload hx hb dX12_comesTo_48 (lvA2 hl) ?_
            refine lv_iconst (v := 1) hx hb dX12_comesTo_50 kic_1 ?_
            refine lv_iadd hx hb dX12_comesTo_51 ?_
            refine lv_topi (fun y_43 ey_43 => ?_)
            obtain rfl : y_43 = (nI (k16 + 1)) := ey_43.trans (nI_add k16 1)
            refine lv_istore (lv' := [(5, .int (nI (k16 + 1))), (7, .int (nI v)), (6, .int 5), (4, .int (nI (180 * t0))), (3, .int (nI s16)), (0, .ref (g 100)), (1, .int (nI a0)), (2, .int (nI b0))]) hx hb dX12_comesTo_52 hl (ltb rfl) rfl (fun ls hl => ?_)
            refine lv_iload hx hb dX12_comesTo_54 (lvA2 hl) ?_
            refine lv_if_eq (tgt := 65) hx hb dX12_comesTo_56 rfl (fun h => absurd h cq_eq_5_0) (fun _ => ?_)
            refine lv_iload hx hb dX12_comesTo_59 (lvA2 hl) ?_
            refine lv_iconst (v := 1) hx hb dX12_comesTo_61 kic_1 ?_
            refine lv_icmp_ne (tgt := 95) hx hb dX12_comesTo_62 rfl (fun _ => ?_) (fun h => absurd h cq_eq_5_1)
            refine lv_iload hx hb dX12_comesTo_95 (lvA2 hl) ?_
            refine lv_bipush (v := 10) hx hb dX12_comesTo_97 kbc_10 ?_
            refine lv_icmp_ne (tgt := 123) hx hb dX12_comesTo_99 rfl (fun _ => ?_) (fun h => absurd h cq_eq_5_10)
            refine lv_iload hx hb dX12_comesTo_123 (lvA2 hl) ?_
            refine lv_bipush (v := 11) hx hb dX12_comesTo_125 kbc_11 ?_
            refine lv_icmp_eq (tgt := 137) hx hb dX12_comesTo_127 rfl (fun h => absurd h cq_eq_5_11) (fun _ => ?_)
            refine lv_iload hx hb dX12_comesTo_130 (lvA2 hl) ?_
            refine lv_bipush (v := 12) hx hb dX12_comesTo_132 kbc_12 ?_
            refine lv_icmp_ne (tgt := 177) hx hb dX12_comesTo_134 rfl (fun _ => ?_) (fun h => absurd h cq_eq_5_12)
            refine lv_iload_n hx hb dX12_comesTo_177 rfl (lvA4 hl) ?_
            refine lv_iconst (v := 1) hx hb dX12_comesTo_178 kic_1 ?_
            refine lv_isub hx hb dX12_comesTo_179 ?_
            refine lv_topi (fun y_44 ey_44 => ?_)
            obtain rfl : y_44 = (nI (s16 - 1)) := ey_44.trans (nI_sub (b := 1) (by (first | omega | (have zz0 := Hid.u hi_cn; omega))))
            refine lv_istore_n (lv' := [(3, .int (nI (s16 - 1))), (5, .int (nI (k16 + 1))), (7, .int (nI v)), (6, .int 5), (4, .int (nI (180 * t0))), (0, .ref (g 100)), (1, .int (nI a0)), (2, .int (nI b0))]) hx hb dX12_comesTo_180 rfl hl (ltb rfl) rfl (fun ls hl => ?_)
            refine lv_iload hx hb dX12_comesTo_181 (lvA3 hl) ?_
            refine lv_iconst (v := 5) hx hb dX12_comesTo_183 kic_5 ?_
            refine lv_icmp_eq (tgt := 194) hx hb dX12_comesTo_184 rfl (fun _ => ?_) (fun h => absurd h cq_eq_5_5)
            refine lv_aload_n hx hb (oc_42 194 (aq_23 shX12_comesTo_171)) rfl (lvA5 hl) ?_
            refine gM_86 S hK hP (v := .ref (g 37)) rfl (oc_180 195 shX12_comesTo_195 uw_0_86) ?_
            refine lv_iload_n hx hb (oc_29 198 (aq_3 shX12_comesTo_195)) rfl (lvA0 hl) ?_
            have kb_14 : (s16 - 1) < 180 := by (first | omega | (have zz0 := Hid.u hi_cn; omega))
            refine ldM_37 hx hb hK hP (x := ((F16 37) (s16 - 1))) (vp_in_nI kb_14 (ltb rfl)) (nI_clamp (Nat.lt_trans kb_14 (ltb rfl))) rfl (oc_46 199 (aq_4 shX12_comesTo_195)) ?_
            refine lv_if_ne (tgt := 205) hx hb (oc_154 200 (aq_5 shX12_comesTo_195) sgw_0_5) rfl (fun c_45 => ?_) (fun c_45 => ?_)
            ·
              have tc_45 : (((F16 37) (s16 - 1)).toInt : Int) ≠ 0 := fun q => c_45 (Int32.toInt_inj.mp q)
              refine lv_aload_n hx hb dX12_comesTo_205 rfl (lvA5 hl) ?_
              refine gM_86 S hK hP (v := .ref (g 37)) rfl dX12_comesTo_206 ?_
              refine lv_iload_n hx hb dX12_comesTo_209 rfl (lvA0 hl) ?_
              refine lv_iconst (v := 1) hx hb dX12_comesTo_210 kic_1 ?_
              refine lv_isub hx hb dX12_comesTo_211 ?_
              refine lv_topi (fun y_46 ey_46 => ?_)
              obtain rfl : y_46 = (nI ((s16 - 1) - 1)) := ey_46.trans (nI_sub (b := 1) (by (first | omega | (have zz0 := Hid.u hi_cn; omega))))
              refine lv_iload hx hb dX12_comesTo_212 (lvA3 hl) ?_
              refine lv_aload_n hx hb dX12_comesTo_214 rfl (lvA5 hl) ?_
              refine gM_86 S hK hP (v := .ref (g 37)) rfl dX12_comesTo_215 ?_
              refine lv_iload_n hx hb dX12_comesTo_218 rfl (lvA0 hl) ?_
              refine lv_iconst (v := 1) hx hb dX12_comesTo_219 kic_1 ?_
              refine lv_isub hx hb dX12_comesTo_220 ?_
              refine lv_topi (fun y_47 ey_47 => ?_)
              obtain rfl : y_47 = (nI ((s16 - 1) - 1)) := ey_47.trans (nI_sub (b := 1) (by (first | omega | (have zz0 := Hid.u hi_cn; omega))))
              have kb_15 : ((s16 - 1) - 1) < 180 := by (first | omega | (have zz0 := Hid.u hi_cn; omega))
              refine ldM_37 hx hb hK hP (x := ((F16 37) ((s16 - 1) - 1))) (vp_in_nI kb_15 (ltb rfl)) (nI_clamp (Nat.lt_trans kb_15 (ltb rfl))) rfl dX12_comesTo_221 ?_
              refine lv_aload_n hx hb dX12_comesTo_222 rfl (lvA5 hl) ?_
              refine gM_86 S hK hP (v := .ref (g 37)) rfl dX12_comesTo_223 ?_
              refine lv_iload_n hx hb dX12_comesTo_226 rfl (lvA0 hl) ?_
              refine ldM_37 hx hb hK hP (x := ((F16 37) (s16 - 1))) (vp_in_nI kb_14 (ltb rfl)) (nI_clamp (Nat.lt_trans kb_14 (ltb rfl))) rfl dX12_comesTo_227 ?_
              refine vp_callSi (runS_r (As := [.int 5, .int ((F16 37) ((s16 - 1) - 1)), .int ((F16 37) (s16 - 1))]) (rest := [.int (nI ((s16 - 1) - 1)), .ref (g 37)]) S (q_reckon l D cI cB cZ 5 ((F16 37) ((s16 - 1) - 1)) ((F16 37) (s16 - 1)) (fun _ => by assumption)) kS_RX12_327 hK hP [] rfl ⟨Nat.le_of_ble_eq_true rfl, Nat.le_of_ble_eq_true rfl⟩ ⟨Nat.le_of_ble_eq_true rfl, Nat.le_of_ble_eq_true rfl⟩ rfl hl.1 rfl (Nat.le_of_ble_eq_true rfl) dX12_comesTo_228) (fun r_48 h_49 => ?_)
              refine stM_37 hx hb hK hP hD hS (Fn2 := (va_up F16 37 (upd (F16 37) ((s16 - 1) - 1) r_48))) (vp_in_nI kb_15 (ltb rfl)) (nI_clamp (Nat.lt_trans kb_15 (ltb rfl))) rfl dX12_comesTo_231 (fun H locs hP hD hS => ?_)
              refine lv_goto (tgt := 16) hx hb dX12_comesTo_232 rfl ?_
              exact ih16 (s16 - 1) (k16 + 1) (va_up F16 37 (upd (F16 37) ((s16 - 1) - 1) r_48)) _ _ (by (first | omega | (have zz0 := Hid.u hi_cn; omega))) ⟨(Fr.mo (Fr.f 37 hfr16) (sbl rfl) (sbl rfl) (sbl rfl)), (IM.fr (In := In) hI16 (Fr.f 37 Fr.rf) (by decide) (by decide)), ⟨by (first | omega | (have zz0 := Hid.u hi_cn; omega)), by (first | omega | (have zz0 := Hid.u hi_cn; omega)), by (first | omega | (have zz0 := Hid.u hi_cn; omega))⟩⟩ hP hD hS ls (lv_sub hl [1, 4, 0, 5, 6, 7] rfl)
            ·
              have tc_45 : (((F16 37) (s16 - 1)).toInt : Int) = 0 := congrArg Int32.toInt c_45
              refine lv_iconst (v := 0) hx hb (oc_3 203 (aq_8 shX12_comesTo_195)) kic_0 ?_
              exact W.iret (v := 0) hx hb hr (fun t ht hW => ⟨⟨0, (cn, In, F16), rfl, ⟨(Fr.mo hfr16 (sbl rfl) (sbl rfl) (sbl rfl)), hI16, trivial⟩, by rw [ht]; exact hP, hD⟩, hS.F ht⟩) hS.2.2 (oc_172 204 (aq_9 shX12_comesTo_195))
          ·
            have hl : lv_has ls 8 [(7, .int (nI v)), (6, .int 6), (5, .int (nI k16)), (4, .int (nI (180 * t0))), (3, .int (nI s16)), (0, .ref (g 100)), (1, .int (nI a0)), (2, .int (nI b0))] := hl
            refine lv_iload hx hb dX12_comesTo_48 (lvA2 hl) ?_
            refine lv_iconst (v := 1) hx hb dX12_comesTo_50 kic_1 ?_
            refine lv_iadd hx hb dX12_comesTo_51 ?_
            refine lv_topi (fun y_50 ey_50 => ?_)
            obtain rfl : y_50 = (nI (k16 + 1)) := ey_50.trans (nI_add k16 1)
            refine lv_istore (lv' := [(5, .int (nI (k16 + 1))), (7, .int (nI v)), (6, .int 6), (4, .int (nI (180 * t0))), (3, .int (nI s16)), (0, .ref (g 100)), (1, .int (nI a0)), (2, .int (nI b0))]) hx hb dX12_comesTo_52 hl (ltb rfl) rfl (fun ls hl => ?_)
            refine lv_iload hx hb dX12_comesTo_54 (lvA2 hl) ?_
            refine lv_if_eq (tgt := 65) hx hb dX12_comesTo_56 rfl (fun h => absurd h cq_eq_6_0) (fun _ => ?_)
            refine lv_iload hx hb dX12_comesTo_59 (lvA2 hl) ?_
            refine lv_iconst (v := 1) hx hb dX12_comesTo_61 kic_1 ?_
            refine lv_icmp_ne (tgt := 95) hx hb dX12_comesTo_62 rfl (fun _ => ?_) (fun h => absurd h cq_eq_6_1)
            refine lv_iload hx hb dX12_comesTo_95 (lvA2 hl) ?_
            refine lv_bipush (v := 10) hx hb dX12_comesTo_97 kbc_10 ?_
            refine lv_icmp_ne (tgt := 123) hx hb dX12_comesTo_99 rfl (fun _ => ?_) (fun h => absurd h cq_eq_6_10)
            refine lv_iload hx hb dX12_comesTo_123 (lvA2 hl) ?_
            refine lv_bipush (v := 11) hx hb dX12_comesTo_125 kbc_11 ?_
            refine lv_icmp_eq (tgt := 137) hx hb dX12_comesTo_127 rfl (fun h => absurd h cq_eq_6_11) (fun _ => ?_)
            refine lv_iload hx hb dX12_comesTo_130 (lvA2 hl) ?_
            refine lv_bipush (v := 12) hx hb dX12_comesTo_132 kbc_12 ?_
            refine lv_icmp_ne (tgt := 177) hx hb dX12_comesTo_134 rfl (fun _ => ?_) (fun h => absurd h cq_eq_6_12)
            refine lv_iload_n hx hb dX12_comesTo_177 rfl (lvA4 hl) ?_
            refine lv_iconst (v := 1) hx hb dX12_comesTo_178 kic_1 ?_
            refine lv_isub hx hb dX12_comesTo_179 ?_
            refine lv_topi (fun y_51 ey_51 => ?_)
            obtain rfl : y_51 = (nI (s16 - 1)) := ey_51.trans (nI_sub (b := 1) (by (first | omega | (have zz0 := Hid.u hi_cn; omega))))
            refine lv_istore_n (lv' := [(3, .int (nI (s16 - 1))), (5, .int (nI (k16 + 1))), (7, .int (nI v)), (6, .int 6), (4, .int (nI (180 * t0))), (0, .ref (g 100)), (1, .int (nI a0)), (2, .int (nI b0))]) hx hb dX12_comesTo_180 rfl hl (ltb rfl) rfl (fun ls hl => ?_)
            refine lv_iload hx hb dX12_comesTo_181 (lvA3 hl) ?_
            refine lv_iconst (v := 5) hx hb dX12_comesTo_183 kic_5 ?_
            refine lv_icmp_eq (tgt := 194) hx hb dX12_comesTo_184 rfl (fun h => absurd h cq_eq_6_5) (fun _ => ?_)
            refine lv_iload hx hb dX12_comesTo_187 (lvA3 hl) ?_
            refine lv_bipush (v := 6) hx hb dX12_comesTo_189 kbc_6 ?_
            refine lv_icmp_ne (tgt := 205) hx hb dX12_comesTo_191 rfl (fun h => absurd h cq_eq_6_6) (fun _ => ?_)
            refine lv_aload_n hx hb (oc_42 194 (aq_23 shX12_comesTo_171)) rfl (lvA5 hl) ?_
            refine gM_86 S hK hP (v := .ref (g 37)) rfl (oc_180 195 shX12_comesTo_195 uw_0_86) ?_
            refine lv_iload_n hx hb (oc_29 198 (aq_3 shX12_comesTo_195)) rfl (lvA0 hl) ?_
            have kb_16 : (s16 - 1) < 180 := by (first | omega | (have zz0 := Hid.u hi_cn; omega))
            refine ldM_37 hx hb hK hP (x := ((F16 37) (s16 - 1))) (vp_in_nI kb_16 (ltb rfl)) (nI_clamp (Nat.lt_trans kb_16 (ltb rfl))) rfl (oc_46 199 (aq_4 shX12_comesTo_195)) ?_
            refine lv_if_ne (tgt := 205) hx hb (oc_154 200 (aq_5 shX12_comesTo_195) sgw_0_5) rfl (fun c_52 => ?_) (fun c_52 => ?_)
            ·
              have tc_52 : (((F16 37) (s16 - 1)).toInt : Int) ≠ 0 := fun q => c_52 (Int32.toInt_inj.mp q)
              refine lv_aload_n hx hb dX12_comesTo_205 rfl (lvA5 hl) ?_
              refine gM_86 S hK hP (v := .ref (g 37)) rfl dX12_comesTo_206 ?_
              refine lv_iload_n hx hb dX12_comesTo_209 rfl (lvA0 hl) ?_
              refine lv_iconst (v := 1) hx hb dX12_comesTo_210 kic_1 ?_
              refine lv_isub hx hb dX12_comesTo_211 ?_
              refine lv_topi (fun y_53 ey_53 => ?_)
              obtain rfl : y_53 = (nI ((s16 - 1) - 1)) := ey_53.trans (nI_sub (b := 1) (by (first | omega | (have zz0 := Hid.u hi_cn; omega))))
              refine lv_iload hx hb dX12_comesTo_212 (lvA3 hl) ?_
              refine lv_aload_n hx hb dX12_comesTo_214 rfl (lvA5 hl) ?_
              refine gM_86 S hK hP (v := .ref (g 37)) rfl dX12_comesTo_215 ?_
              refine lv_iload_n hx hb dX12_comesTo_218 rfl (lvA0 hl) ?_
              refine lv_iconst (v := 1) hx hb dX12_comesTo_219 kic_1 ?_
              refine lv_isub hx hb dX12_comesTo_220 ?_
              refine lv_topi (fun y_54 ey_54 => ?_)
              obtain rfl : y_54 = (nI ((s16 - 1) - 1)) := ey_54.trans (nI_sub (b := 1) (by (first | omega | (have zz0 := Hid.u hi_cn; omega))))
              have kb_17 : ((s16 - 1) - 1) < 180 := by (first | omega | (have zz0 := Hid.u hi_cn; omega))
              refine ldM_37 hx hb hK hP (x := ((F16 37) ((s16 - 1) - 1))) (vp_in_nI kb_17 (ltb rfl)) (nI_clamp (Nat.lt_trans kb_17 (ltb rfl))) rfl dX12_comesTo_221 ?_
              refine lv_aload_n hx hb dX12_comesTo_222 rfl (lvA5 hl) ?_
              refine gM_86 S hK hP (v := .ref (g 37)) rfl dX12_comesTo_223 ?_
              refine lv_iload_n hx hb dX12_comesTo_226 rfl (lvA0 hl) ?_
              refine ldM_37 hx hb hK hP (x := ((F16 37) (s16 - 1))) (vp_in_nI kb_16 (ltb rfl)) (nI_clamp (Nat.lt_trans kb_16 (ltb rfl))) rfl dX12_comesTo_227 ?_
              refine vp_callSi (runS_r (As := [.int 6, .int ((F16 37) ((s16 - 1) - 1)), .int ((F16 37) (s16 - 1))]) (rest := [.int (nI ((s16 - 1) - 1)), .ref (g 37)]) S (q_reckon l D cI cB cZ 6 ((F16 37) ((s16 - 1) - 1)) ((F16 37) (s16 - 1)) (fun _ => by assumption)) kS_RX12_327 hK hP [] rfl ⟨Nat.le_of_ble_eq_true rfl, Nat.le_of_ble_eq_true rfl⟩ ⟨Nat.le_of_ble_eq_true rfl, Nat.le_of_ble_eq_true rfl⟩ rfl hl.1 rfl (Nat.le_of_ble_eq_true rfl) dX12_comesTo_228) (fun r_55 h_56 => ?_)
              refine stM_37 hx hb hK hP hD hS (Fn2 := (va_up F16 37 (upd (F16 37) ((s16 - 1) - 1) r_55))) (vp_in_nI kb_17 (ltb rfl)) (nI_clamp (Nat.lt_trans kb_17 (ltb rfl))) rfl dX12_comesTo_231 (fun H locs hP hD hS => ?_)
              refine lv_goto (tgt := 16) hx hb dX12_comesTo_232 rfl ?_
              exact ih16 (s16 - 1) (k16 + 1) (va_up F16 37 (upd (F16 37) ((s16 - 1) - 1) r_55)) _ _ (by (first | omega | (have zz0 := Hid.u hi_cn; omega))) ⟨(Fr.mo (Fr.f 37 hfr16) (sbl rfl) (sbl rfl) (sbl rfl)), (IM.fr (In := In) hI16 (Fr.f 37 Fr.rf) (by decide) (by decide)), ⟨by (first | omega | (have zz0 := Hid.u hi_cn; omega)), by (first | omega | (have zz0 := Hid.u hi_cn; omega)), by (first | omega | (have zz0 := Hid.u hi_cn; omega))⟩⟩ hP hD hS ls (lv_sub hl [1, 4, 0, 5, 6, 7] rfl)
            ·
              have tc_52 : (((F16 37) (s16 - 1)).toInt : Int) = 0 := congrArg Int32.toInt c_52
              refine lv_iconst (v := 0) hx hb (oc_3 203 (aq_8 shX12_comesTo_195)) kic_0 ?_
              exact W.iret (v := 0) hx hb hr (fun t ht hW => ⟨⟨0, (cn, In, F16), rfl, ⟨(Fr.mo hfr16 (sbl rfl) (sbl rfl) (sbl rfl)), hI16, trivial⟩, by rw [ht]; exact hP, hD⟩, hS.F ht⟩) hS.2.2 (oc_172 204 (aq_9 shX12_comesTo_195))
          ·
            have hl : lv_has ls 8 [(7, .int (nI v)), (6, .int 7), (5, .int (nI k16)), (4, .int (nI (180 * t0))), (3, .int (nI s16)), (0, .ref (g 100)), (1, .int (nI a0)), (2, .int (nI b0))] := hl
            refine lv_iload hx hb dX12_comesTo_48 (lvA2 hl) ?_
            refine lv_iconst (v := 1) hx hb dX12_comesTo_50 kic_1 ?_
            refine lv_iadd hx hb dX12_comesTo_51 ?_
            refine lv_topi (fun y_57 ey_57 => ?_)
            obtain rfl : y_57 = (nI (k16 + 1)) := ey_57.trans (nI_add k16 1)
            refine lv_istore (lv' := [(5, .int (nI (k16 + 1))), (7, .int (nI v)), (6, .int 7), (4, .int (nI (180 * t0))), (3, .int (nI s16)), (0, .ref (g 100)), (1, .int (nI a0)), (2, .int (nI b0))]) hx hb dX12_comesTo_52 hl (ltb rfl) rfl (fun ls hl => ?_)
            refine lv_iload hx hb dX12_comesTo_54 (lvA2 hl) ?_
            refine lv_if_eq (tgt := 65) hx hb dX12_comesTo_56 rfl (fun h => absurd h cq_eq_7_0) (fun _ => ?_)
            refine lv_iload hx hb dX12_comesTo_59 (lvA2 hl) ?_
            refine lv_iconst (v := 1) hx hb dX12_comesTo_61 kic_1 ?_
            refine lv_icmp_ne (tgt := 95) hx hb dX12_comesTo_62 rfl (fun _ => ?_) (fun h => absurd h cq_eq_7_1)
            refine lv_iload hx hb dX12_comesTo_95 (lvA2 hl) ?_
            refine lv_bipush (v := 10) hx hb dX12_comesTo_97 kbc_10 ?_
            refine lv_icmp_ne (tgt := 123) hx hb dX12_comesTo_99 rfl (fun _ => ?_) (fun h => absurd h cq_eq_7_10)
            refine lv_iload hx hb dX12_comesTo_123 (lvA2 hl) ?_
            refine lv_bipush (v := 11) hx hb dX12_comesTo_125 kbc_11 ?_
            refine lv_icmp_eq (tgt := 137) hx hb dX12_comesTo_127 rfl (fun h => absurd h cq_eq_7_11) (fun _ => ?_)
            refine lv_iload hx hb dX12_comesTo_130 (lvA2 hl) ?_
            refine lv_bipush (v := 12) hx hb dX12_comesTo_132 kbc_12 ?_
            refine lv_icmp_ne (tgt := 177) hx hb dX12_comesTo_134 rfl (fun _ => ?_) (fun h => absurd h cq_eq_7_12)
            refine lv_iload_n hx hb dX12_comesTo_177 rfl (lvA4 hl) ?_
            refine lv_iconst (v := 1) hx hb dX12_comesTo_178 kic_1 ?_
            refine lv_isub hx hb dX12_comesTo_179 ?_
            refine lv_topi (fun y_58 ey_58 => ?_)
            obtain rfl : y_58 = (nI (s16 - 1)) := ey_58.trans (nI_sub (b := 1) (by (first | omega | (have zz0 := Hid.u hi_cn; omega))))
            refine lv_istore_n (lv' := [(3, .int (nI (s16 - 1))), (5, .int (nI (k16 + 1))), (7, .int (nI v)), (6, .int 7), (4, .int (nI (180 * t0))), (0, .ref (g 100)), (1, .int (nI a0)), (2, .int (nI b0))]) hx hb dX12_comesTo_180 rfl hl (ltb rfl) rfl (fun ls hl => ?_)
            refine lv_iload hx hb dX12_comesTo_181 (lvA3 hl) ?_
            refine lv_iconst (v := 5) hx hb dX12_comesTo_183 kic_5 ?_
            refine lv_icmp_eq (tgt := 194) hx hb dX12_comesTo_184 rfl (fun h => absurd h cq_eq_7_5) (fun _ => ?_)
            refine lv_iload hx hb dX12_comesTo_187 (lvA3 hl) ?_
            refine lv_bipush (v := 6) hx hb dX12_comesTo_189 kbc_6 ?_
            refine lv_icmp_ne (tgt := 205) hx hb dX12_comesTo_191 rfl (fun _ => ?_) (fun h => absurd h cq_eq_7_6)
            refine lv_aload_n hx hb dX12_comesTo_205 rfl (lvA5 hl) ?_
            refine gM_86 S hK hP (v := .ref (g 37)) rfl dX12_comesTo_206 ?_
            refine lv_iload_n hx hb dX12_comesTo_209 rfl (lvA0 hl) ?_
            refine lv_iconst (v := 1) hx hb dX12_comesTo_210 kic_1 ?_
            refine lv_isub hx hb dX12_comesTo_211 ?_
            refine lv_topi (fun y_59 ey_59 => ?_)
            obtain rfl : y_59 = (nI ((s16 - 1) - 1)) := ey_59.trans (nI_sub (b := 1) (by (first | omega | (have zz0 := Hid.u hi_cn; omega))))
            refine lv_iload hx hb dX12_comesTo_212 (lvA3 hl) ?_
            refine lv_aload_n hx hb dX12_comesTo_214 rfl (lvA5 hl) ?_
            refine gM_86 S hK hP (v := .ref (g 37)) rfl dX12_comesTo_215 ?_
            refine lv_iload_n hx hb dX12_comesTo_218 rfl (lvA0 hl) ?_
            refine lv_iconst (v := 1) hx hb dX12_comesTo_219 kic_1 ?_
            refine lv_isub hx hb dX12_comesTo_220 ?_
            refine lv_topi (fun y_60 ey_60 => ?_)
            obtain rfl : y_60 = (nI ((s16 - 1) - 1)) := ey_60.trans (nI_sub (b := 1) (by (first | omega | (have zz0 := Hid.u hi_cn; omega))))
            have kb_18 : ((s16 - 1) - 1) < 180 := by (first | omega | (have zz0 := Hid.u hi_cn; omega))
            refine ldM_37 hx hb hK hP (x := ((F16 37) ((s16 - 1) - 1))) (vp_in_nI kb_18 (ltb rfl)) (nI_clamp (Nat.lt_trans kb_18 (ltb rfl))) rfl dX12_comesTo_221 ?_
            refine lv_aload_n hx hb dX12_comesTo_222 rfl (lvA5 hl) ?_
            refine gM_86 S hK hP (v := .ref (g 37)) rfl dX12_comesTo_223 ?_
            refine lv_iload_n hx hb dX12_comesTo_226 rfl (lvA0 hl) ?_
            have kb_19 : (s16 - 1) < 180 := by (first | omega | (have zz0 := Hid.u hi_cn; omega))
            refine ldM_37 hx hb hK hP (x := ((F16 37) (s16 - 1))) (vp_in_nI kb_19 (ltb rfl)) (nI_clamp (Nat.lt_trans kb_19 (ltb rfl))) rfl dX12_comesTo_227 ?_
            refine vp_callSi (runS_r (As := [.int 7, .int ((F16 37) ((s16 - 1) - 1)), .int ((F16 37) (s16 - 1))]) (rest := [.int (nI ((s16 - 1) - 1)), .ref (g 37)]) S (q_reckon l D cI cB cZ 7 ((F16 37) ((s16 - 1) - 1)) ((F16 37) (s16 - 1)) (fun q => by rcases q with q | q <;> exact absurd q (by decide))) kS_RX12_327 hK hP [] rfl ⟨Nat.le_of_ble_eq_true rfl, Nat.le_of_ble_eq_true rfl⟩ ⟨Nat.le_of_ble_eq_true rfl, Nat.le_of_ble_eq_true rfl⟩ rfl hl.1 rfl (Nat.le_of_ble_eq_true rfl) dX12_comesTo_228) (fun r_61 h_62 => ?_)
            refine stM_37 hx hb hK hP hD hS (Fn2 := (va_up F16 37 (upd (F16 37) ((s16 - 1) - 1) r_61))) (vp_in_nI kb_18 (ltb rfl)) (nI_clamp (Nat.lt_trans kb_18 (ltb rfl))) rfl dX12_comesTo_231 (fun H locs hP hD hS => ?_)
            refine lv_goto (tgt := 16) hx hb dX12_comesTo_232 rfl ?_
            exact ih16 (s16 - 1) (k16 + 1) (va_up F16 37 (upd (F16 37) ((s16 - 1) - 1) r_61)) _ _ (by (first | omega | (have zz0 := Hid.u hi_cn; omega))) ⟨(Fr.mo (Fr.f 37 hfr16) (sbl rfl) (sbl rfl) (sbl rfl)), (IM.fr (In := In) hI16 (Fr.f 37 Fr.rf) (by decide) (by decide)), ⟨by (first | omega | (have zz0 := Hid.u hi_cn; omega)), by (first | omega | (have zz0 := Hid.u hi_cn; omega)), by (first | omega | (have zz0 := Hid.u hi_cn; omega))⟩⟩ hP hD hS ls (lv_sub hl [1, 4, 0, 5, 6, 7] rfl)
          ·
            have hl : lv_has ls 8 [(7, .int (nI v)), (6, .int 8), (5, .int (nI k16)), (4, .int (nI (180 * t0))), (3, .int (nI s16)), (0, .ref (g 100)), (1, .int (nI a0)), (2, .int (nI b0))] := hl
            refine lv_iload hx hb dX12_comesTo_48 (lvA2 hl) ?_
            refine lv_iconst (v := 1) hx hb dX12_comesTo_50 kic_1 ?_
            refine lv_iadd hx hb dX12_comesTo_51 ?_
            refine lv_topi (fun y_63 ey_63 => ?_)
            obtain rfl : y_63 = (nI (k16 + 1)) := ey_63.trans (nI_add k16 1)
            refine lv_istore (lv' := [(5, .int (nI (k16 + 1))), (7, .int (nI v)), (6, .int 8), (4, .int (nI (180 * t0))), (3, .int (nI s16)), (0, .ref (g 100)), (1, .int (nI a0)), (2, .int (nI b0))]) hx hb dX12_comesTo_52 hl (ltb rfl) rfl (fun ls hl => ?_)
            refine lv_iload hx hb dX12_comesTo_54 (lvA2 hl) ?_
            refine lv_if_eq (tgt := 65) hx hb dX12_comesTo_56 rfl (fun h => absurd h cq_eq_8_0) (fun _ => ?_)
            refine lv_iload hx hb dX12_comesTo_59 (lvA2 hl) ?_
            refine lv_iconst (v := 1) hx hb dX12_comesTo_61 kic_1 ?_
            refine lv_icmp_ne (tgt := 95) hx hb dX12_comesTo_62 rfl (fun _ => ?_) (fun h => absurd h cq_eq_8_1)
            refine lv_iload hx hb dX12_comesTo_95 (lvA2 hl) ?_
            refine lv_bipush (v := 10) hx hb dX12_comesTo_97 kbc_10 ?_
            refine lv_icmp_ne (tgt := 123) hx hb dX12_comesTo_99 rfl (fun _ => ?_) (fun h => absurd h cq_eq_8_10)
            refine lv_iload hx hb dX12_comesTo_123 (lvA2 hl) ?_
            refine lv_bipush (v := 11) hx hb dX12_comesTo_125 kbc_11 ?_
            refine lv_icmp_eq (tgt := 137) hx hb dX12_comesTo_127 rfl (fun h => absurd h cq_eq_8_11) (fun _ => ?_)
            refine lv_iload hx hb dX12_comesTo_130 (lvA2 hl) ?_
            refine lv_bipush (v := 12) hx hb dX12_comesTo_132 kbc_12 ?_
            refine lv_icmp_ne (tgt := 177) hx hb dX12_comesTo_134 rfl (fun _ => ?_) (fun h => absurd h cq_eq_8_12)
            refine lv_iload_n hx hb dX12_comesTo_177 rfl (lvA4 hl) ?_
            refine lv_iconst (v := 1) hx hb dX12_comesTo_178 kic_1 ?_
            refine lv_isub hx hb dX12_comesTo_179 ?_
            refine lv_topi (fun y_64 ey_64 => ?_)
            obtain rfl : y_64 = (nI (s16 - 1)) := ey_64.trans (nI_sub (b := 1) (by (first | omega | (have zz0 := Hid.u hi_cn; omega))))
            refine lv_istore_n (lv' := [(3, .int (nI (s16 - 1))), (5, .int (nI (k16 + 1))), (7, .int (nI v)), (6, .int 8), (4, .int (nI (180 * t0))), (0, .ref (g 100)), (1, .int (nI a0)), (2, .int (nI b0))]) hx hb dX12_comesTo_180 rfl hl (ltb rfl) rfl (fun ls hl => ?_)
            refine lv_iload hx hb dX12_comesTo_181 (lvA3 hl) ?_
            refine lv_iconst (v := 5) hx hb dX12_comesTo_183 kic_5 ?_
            refine lv_icmp_eq (tgt := 194) hx hb dX12_comesTo_184 rfl (fun h => absurd h cq_eq_8_5) (fun _ => ?_)
            refine lv_iload hx hb dX12_comesTo_187 (lvA3 hl) ?_
            refine lv_bipush (v := 6) hx hb dX12_comesTo_189 kbc_6 ?_
            refine lv_icmp_ne (tgt := 205) hx hb dX12_comesTo_191 rfl (fun _ => ?_) (fun h => absurd h cq_eq_8_6)
            refine lv_aload_n hx hb dX12_comesTo_205 rfl (lvA5 hl) ?_
            refine gM_86 S hK hP (v := .ref (g 37)) rfl dX12_comesTo_206 ?_
            refine lv_iload_n hx hb dX12_comesTo_209 rfl (lvA0 hl) ?_
            refine lv_iconst (v := 1) hx hb dX12_comesTo_210 kic_1 ?_
            refine lv_isub hx hb dX12_comesTo_211 ?_
            refine lv_topi (fun y_65 ey_65 => ?_)
            obtain rfl : y_65 = (nI ((s16 - 1) - 1)) := ey_65.trans (nI_sub (b := 1) (by (first | omega | (have zz0 := Hid.u hi_cn; omega))))
            refine lv_iload hx hb dX12_comesTo_212 (lvA3 hl) ?_
            refine lv_aload_n hx hb dX12_comesTo_214 rfl (lvA5 hl) ?_
            refine gM_86 S hK hP (v := .ref (g 37)) rfl dX12_comesTo_215 ?_
            refine lv_iload_n hx hb dX12_comesTo_218 rfl (lvA0 hl) ?_
            refine lv_iconst (v := 1) hx hb dX12_comesTo_219 kic_1 ?_
            refine lv_isub hx hb dX12_comesTo_220 ?_
            refine lv_topi (fun y_66 ey_66 => ?_)
            obtain rfl : y_66 = (nI ((s16 - 1) - 1)) := ey_66.trans (nI_sub (b := 1) (by (first | omega | (have zz0 := Hid.u hi_cn; omega))))
            have kb_20 : ((s16 - 1) - 1) < 180 := by (first | omega | (have zz0 := Hid.u hi_cn; omega))
            refine ldM_37 hx hb hK hP (x := ((F16 37) ((s16 - 1) - 1))) (vp_in_nI kb_20 (ltb rfl)) (nI_clamp (Nat.lt_trans kb_20 (ltb rfl))) rfl dX12_comesTo_221 ?_
            refine lv_aload_n hx hb dX12_comesTo_222 rfl (lvA5 hl) ?_
            refine gM_86 S hK hP (v := .ref (g 37)) rfl dX12_comesTo_223 ?_
            refine lv_iload_n hx hb dX12_comesTo_226 rfl (lvA0 hl) ?_
            have kb_21 : (s16 - 1) < 180 := by (first | omega | (have zz0 := Hid.u hi_cn; omega))
            refine ldM_37 hx hb hK hP (x := ((F16 37) (s16 - 1))) (vp_in_nI kb_21 (ltb rfl)) (nI_clamp (Nat.lt_trans kb_21 (ltb rfl))) rfl dX12_comesTo_227 ?_
            refine vp_callSi (runS_r (As := [.int 8, .int ((F16 37) ((s16 - 1) - 1)), .int ((F16 37) (s16 - 1))]) (rest := [.int (nI ((s16 - 1) - 1)), .ref (g 37)]) S (q_reckon l D cI cB cZ 8 ((F16 37) ((s16 - 1) - 1)) ((F16 37) (s16 - 1)) (fun q => by rcases q with q | q <;> exact absurd q (by decide))) kS_RX12_327 hK hP [] rfl ⟨Nat.le_of_ble_eq_true rfl, Nat.le_of_ble_eq_true rfl⟩ ⟨Nat.le_of_ble_eq_true rfl, Nat.le_of_ble_eq_true rfl⟩ rfl hl.1 rfl (Nat.le_of_ble_eq_true rfl) dX12_comesTo_228) (fun r_67 h_68 => ?_)
            refine stM_37 hx hb hK hP hD hS (Fn2 := (va_up F16 37 (upd (F16 37) ((s16 - 1) - 1) r_67))) (vp_in_nI kb_20 (ltb rfl)) (nI_clamp (Nat.lt_trans kb_20 (ltb rfl))) rfl dX12_comesTo_231 (fun H locs hP hD hS => ?_)
            refine lv_goto (tgt := 16) hx hb dX12_comesTo_232 rfl ?_
            exact ih16 (s16 - 1) (k16 + 1) (va_up F16 37 (upd (F16 37) ((s16 - 1) - 1) r_67)) _ _ (by (first | omega | (have zz0 := Hid.u hi_cn; omega))) ⟨(Fr.mo (Fr.f 37 hfr16) (sbl rfl) (sbl rfl) (sbl rfl)), (IM.fr (In := In) hI16 (Fr.f 37 Fr.rf) (by decide) (by decide)), ⟨by (first | omega | (have zz0 := Hid.u hi_cn; omega)), by (first | omega | (have zz0 := Hid.u hi_cn; omega)), by (first | omega | (have zz0 := Hid.u hi_cn; omega))⟩⟩ hP hD hS ls (lv_sub hl [1, 4, 0, 5, 6, 7] rfl)
          ·
            have hl : lv_has ls 8 [(7, .int (nI v)), (6, .int 9), (5, .int (nI k16)), (4, .int (nI (180 * t0))), (3, .int (nI s16)), (0, .ref (g 100)), (1, .int (nI a0)), (2, .int (nI b0))] := hl
            refine lv_iload hx hb dX12_comesTo_48 (lvA2 hl) ?_
            refine lv_iconst (v := 1) hx hb dX12_comesTo_50 kic_1 ?_
            refine lv_iadd hx hb dX12_comesTo_51 ?_
            refine lv_topi (fun y_69 ey_69 => ?_)
            obtain rfl : y_69 = (nI (k16 + 1)) := ey_69.trans (nI_add k16 1)
            refine lv_istore (lv' := [(5, .int (nI (k16 + 1))), (7, .int (nI v)), (6, .int 9), (4, .int (nI (180 * t0))), (3, .int (nI s16)), (0, .ref (g 100)), (1, .int (nI a0)), (2, .int (nI b0))]) hx hb dX12_comesTo_52 hl (ltb rfl) rfl (fun ls hl => ?_)
            refine lv_iload hx hb dX12_comesTo_54 (lvA2 hl) ?_
            refine lv_if_eq (tgt := 65) hx hb dX12_comesTo_56 rfl (fun h => absurd h cq_eq_9_0) (fun _ => ?_)
            refine lv_iload hx hb dX12_comesTo_59 (lvA2 hl) ?_
            refine lv_iconst (v := 1) hx hb dX12_comesTo_61 kic_1 ?_
            refine lv_icmp_ne (tgt := 95) hx hb dX12_comesTo_62 rfl (fun _ => ?_) (fun h => absurd h cq_eq_9_1)
            refine lv_iload hx hb dX12_comesTo_95 (lvA2 hl) ?_
            refine lv_bipush (v := 10) hx hb dX12_comesTo_97 kbc_10 ?_
            refine lv_icmp_ne (tgt := 123) hx hb dX12_comesTo_99 rfl (fun _ => ?_) (fun h => absurd h cq_eq_9_10)
            refine lv_iload hx hb dX12_comesTo_123 (lvA2 hl) ?_
            refine lv_bipush (v := 11) hx hb dX12_comesTo_125 kbc_11 ?_
            refine lv_icmp_eq (tgt := 137) hx hb dX12_comesTo_127 rfl (fun h => absurd h cq_eq_9_11) (fun _ => ?_)
            refine lv_iload hx hb dX12_comesTo_130 (lvA2 hl) ?_
            refine lv_bipush (v := 12) hx hb dX12_comesTo_132 kbc_12 ?_
            refine lv_icmp_ne (tgt := 177) hx hb dX12_comesTo_134 rfl (fun _ => ?_) (fun h => absurd h cq_eq_9_12)
            refine lv_iload_n hx hb dX12_comesTo_177 rfl (lvA4 hl) ?_
            refine lv_iconst (v := 1) hx hb dX12_comesTo_178 kic_1 ?_
            refine lv_isub hx hb dX12_comesTo_179 ?_
            refine lv_topi (fun y_70 ey_70 => ?_)
            obtain rfl : y_70 = (nI (s16 - 1)) := ey_70.trans (nI_sub (b := 1) (by (first | omega | (have zz0 := Hid.u hi_cn; omega))))
            refine lv_istore_n (lv' := [(3, .int (nI (s16 - 1))), (5, .int (nI (k16 + 1))), (7, .int (nI v)), (6, .int 9), (4, .int (nI (180 * t0))), (0, .ref (g 100)), (1, .int (nI a0)), (2, .int (nI b0))]) hx hb dX12_comesTo_180 rfl hl (ltb rfl) rfl (fun ls hl => ?_)
            refine lv_iload hx hb dX12_comesTo_181 (lvA3 hl) ?_
            refine lv_iconst (v := 5) hx hb dX12_comesTo_183 kic_5 ?_
            refine lv_icmp_eq (tgt := 194) hx hb dX12_comesTo_184 rfl (fun h => absurd h cq_eq_9_5) (fun _ => ?_)
            refine lv_iload hx hb dX12_comesTo_187 (lvA3 hl) ?_
            refine lv_bipush (v := 6) hx hb dX12_comesTo_189 kbc_6 ?_
            refine lv_icmp_ne (tgt := 205) hx hb dX12_comesTo_191 rfl (fun _ => ?_) (fun h => absurd h cq_eq_9_6)
            refine lv_aload_n hx hb dX12_comesTo_205 rfl (lvA5 hl) ?_
            refine gM_86 S hK hP (v := .ref (g 37)) rfl dX12_comesTo_206 ?_
            refine lv_iload_n hx hb dX12_comesTo_209 rfl (lvA0 hl) ?_
            refine lv_iconst (v := 1) hx hb dX12_comesTo_210 kic_1 ?_
            refine lv_isub hx hb dX12_comesTo_211 ?_
            refine lv_topi (fun y_71 ey_71 => ?_)
            obtain rfl : y_71 = (nI ((s16 - 1) - 1)) := ey_71.trans (nI_sub (b := 1) (by (first | omega | (have zz0 := Hid.u hi_cn; omega))))
            refine lv_iload hx hb dX12_comesTo_212 (lvA3 hl) ?_
            refine lv_aload_n hx hb dX12_comesTo_214 rfl (lvA5 hl) ?_
            refine gM_86 S hK hP (v := .ref (g 37)) rfl dX12_comesTo_215 ?_
            refine lv_iload_n hx hb dX12_comesTo_218 rfl (lvA0 hl) ?_
            refine lv_iconst (v := 1) hx hb dX12_comesTo_219 kic_1 ?_
            refine lv_isub hx hb dX12_comesTo_220 ?_
            refine lv_topi (fun y_72 ey_72 => ?_)
            obtain rfl : y_72 = (nI ((s16 - 1) - 1)) := ey_72.trans (nI_sub (b := 1) (by (first | omega | (have zz0 := Hid.u hi_cn; omega))))
            have kb_22 : ((s16 - 1) - 1) < 180 := by (first | omega | (have zz0 := Hid.u hi_cn; omega))
            refine ldM_37 hx hb hK hP (x := ((F16 37) ((s16 - 1) - 1))) (vp_in_nI kb_22 (ltb rfl)) (nI_clamp (Nat.lt_trans kb_22 (ltb rfl))) rfl dX12_comesTo_221 ?_
            refine lv_aload_n hx hb dX12_comesTo_222 rfl (lvA5 hl) ?_
            refine gM_86 S hK hP (v := .ref (g 37)) rfl dX12_comesTo_223 ?_
            refine lv_iload_n hx hb dX12_comesTo_226 rfl (lvA0 hl) ?_
            have kb_23 : (s16 - 1) < 180 := by (first | omega | (have zz0 := Hid.u hi_cn; omega))
            refine ldM_37 hx hb hK hP (x := ((F16 37) (s16 - 1))) (vp_in_nI kb_23 (ltb rfl)) (nI_clamp (Nat.lt_trans kb_23 (ltb rfl))) rfl dX12_comesTo_227 ?_
            refine vp_callSi (runS_r (As := [.int 9, .int ((F16 37) ((s16 - 1) - 1)), .int ((F16 37) (s16 - 1))]) (rest := [.int (nI ((s16 - 1) - 1)), .ref (g 37)]) S (q_reckon l D cI cB cZ 9 ((F16 37) ((s16 - 1) - 1)) ((F16 37) (s16 - 1)) (fun q => by rcases q with q | q <;> exact absurd q (by decide))) kS_RX12_327 hK hP [] rfl ⟨Nat.le_of_ble_eq_true rfl, Nat.le_of_ble_eq_true rfl⟩ ⟨Nat.le_of_ble_eq_true rfl, Nat.le_of_ble_eq_true rfl⟩ rfl hl.1 rfl (Nat.le_of_ble_eq_true rfl) dX12_comesTo_228) (fun r_73 h_74 => ?_)
            refine stM_37 hx hb hK hP hD hS (Fn2 := (va_up F16 37 (upd (F16 37) ((s16 - 1) - 1) r_73))) (vp_in_nI kb_22 (ltb rfl)) (nI_clamp (Nat.lt_trans kb_22 (ltb rfl))) rfl dX12_comesTo_231 (fun H locs hP hD hS => ?_)
            refine lv_goto (tgt := 16) hx hb dX12_comesTo_232 rfl ?_
            exact ih16 (s16 - 1) (k16 + 1) (va_up F16 37 (upd (F16 37) ((s16 - 1) - 1) r_73)) _ _ (by (first | omega | (have zz0 := Hid.u hi_cn; omega))) ⟨(Fr.mo (Fr.f 37 hfr16) (sbl rfl) (sbl rfl) (sbl rfl)), (IM.fr (In := In) hI16 (Fr.f 37 Fr.rf) (by decide) (by decide)), ⟨by (first | omega | (have zz0 := Hid.u hi_cn; omega)), by (first | omega | (have zz0 := Hid.u hi_cn; omega)), by (first | omega | (have zz0 := Hid.u hi_cn; omega))⟩⟩ hP hD hS ls (lv_sub hl [1, 4, 0, 5, 6, 7] rfl)
  exact lp_16 _ 0 a0 Fn _ _ (Nat.lt_succ_self _) ⟨(Fr.mo Fr.rf (sbl rfl) (sbl rfl) (sbl rfl)), hI, ⟨Nat.le_refl _, hab, hh0.symm⟩⟩ hP hD hS ls (lv_sub hl [0, 1, 2, 3, 4, 5] rfl)
set_option maxRecDepth 100000 in
set_option maxHeartbeats 4000000 in
theorem q_penceFor (l : Launch) (D : va_G) (cI cB cZ : ClassId) (g : Nat → Nat) (cn : Nat → Nat) (In : Nat → Int32) (Fn : Nat → Nat → Int32) (n0 k0 : Nat) (sz : Nat) (hI : IM cn Fn) (hn0 : n0 < cn 2) (hk0 : k0 ≤ 9) : Met l yX12_penceFor (CWS yX12_penceFor cX12_penceFor 7 (some .int)) (RM 2 0 0) (PBw [.ref (g 100), .int (nI n0), .int (nI k0)] D cI cB cZ (wM cI cB cZ g cn In Fn) sz) (va_Qi (fun (r : Int32) (u : (Nat → Nat) × (Nat → Int32) × (Nat → Nat → Int32)) => (fun r c2 I2 F2 => Fr [] [] [37, 38] cn In Fn c2 I2 F2 ∧ IM c2 F2 ∧ (True)) r u.1 u.2.1 u.2.2) (fun (u : (Nat → Nat) × (Nat → Int32) × (Nat → Nat → Int32)) (t : State) => va_P D vwCl (wM cI cB cZ g u.1 u.2.1 u.2.2) t.heap ∧ va_D (va_A (wM cI cB cZ g cn In Fn) sz) (wM cI cB cZ g u.1 u.2.1 u.2.2)) (va_A (wM cI cB cZ g cn In Fn) sz)) 0 0 (va_A (wM cI cB cZ g cn In Fn) sz) := by
  refine en_w (fun A => (va_Qi (fun (r : Int32) (u : (Nat → Nat) × (Nat → Int32) × (Nat → Nat → Int32)) => (fun (r : Int32) (c2 : Nat → Nat) (I2 : Nat → Int32) (F2 : Nat → Nat → Int32) => Fr [] [] [37, 38] cn In Fn c2 I2 F2 ∧ IM c2 F2 ∧ (True)) r u.1 u.2.1 u.2.2) (fun (u : (Nat → Nat) × (Nat → Int32) × (Nat → Nat → Int32)) (t : State) => va_P D vwCl (wM cI cB cZ g u.1 u.2.1 u.2.2) t.heap ∧ va_D A (wM cI cB cZ g u.1 u.2.1 u.2.2)) A)) rfl rfl pn_RX12 (Nat.le_of_ble_eq_true rfl) (fun p e s m below meth c A hx hb hml hown S hr hlocks hnm hA hP hK hD hS ls hl => ?_)
  have hl : lv_has ls 7 [(0, .ref (g 100)), (1, .int (nI n0)), (2, .int (nI k0))] := hl
  have hi_cn : Hid (CB cn) := hI.b
  refine lv_aload_n hx hb (oc_42 0 shX12_penceFor_0) rfl (lvA0 hl) ?_
  refine gM_25 S hK hP (v := .ref (g 8)) rfl (oc_180 1 (aq_1 shX12_penceFor_0) uw_0_25) ?_
  refine lv_iload_n hx hb (oc_27 4 (aq_4 shX12_penceFor_0)) rfl (lvA1 hl) ?_
  have kb_1 : n0 < 60 := by (first | omega | (have zz0 := Hid.u hi_cn; omega))
  obtain ⟨a_1, ha_1, ea_1⟩ := hI.e8 n0 (by (first | omega | (have zz0 := Hid.u hi_cn; omega)))
  refine ldM_8 hx hb hK hP (x := (nI a_1)) (vp_in_nI kb_1 (ltb rfl)) (nI_clamp (Nat.lt_trans kb_1 (ltb rfl))) ea_1 (oc_46 5 (aq_5 shX12_penceFor_0)) ?_
  refine lv_istore_n (lv' := [(3, .int (nI a_1)), (0, .ref (g 100)), (1, .int (nI n0)), (2, .int (nI k0))]) hx hb (oc_62 6 (aq_6 shX12_penceFor_0)) rfl hl (ltb rfl) rfl (fun ls hl => ?_)
  refine lv_iconst (v := 0) hx hb (oc_3 7 (aq_7 shX12_penceFor_0)) kic_0 ?_
  refine lv_istore (lv' := [(4, .int 0), (3, .int (nI a_1)), (0, .ref (g 100)), (1, .int (nI n0)), (2, .int (nI k0))]) hx hb (oc_54 8 (aq_8 shX12_penceFor_0) ub_4) hl (ltb rfl) rfl (fun ls hl => ?_)
  refine lv_iconst (v := 0) hx hb (oc_3 10 (aq_10 shX12_penceFor_0)) kic_0 ?_
  refine lv_istore (lv' := [(5, .int 0), (4, .int 0), (3, .int (nI a_1)), (0, .ref (g 100)), (1, .int (nI n0)), (2, .int (nI k0))]) hx hb (oc_54 11 (aq_11 shX12_penceFor_0) ub_5) hl (ltb rfl) rfl (fun ls hl => ?_)
  have lp_13 : ∀ (n : Nat) (i13 : Nat) (x13_4 : Int32) , n0 - i13 < n → (i13 ≤ n0) → ∀ ls : Array Slot, lv_has ls 7 [(5, .int (nI i13)), (4, .int x13_4), (3, .int (nI a_1)), (0, .ref (g 100)), (1, .int (nI n0)), (2, .int (nI k0))] → W p l e (RM 2 0 0) s m ([.ref (g 100), .int (nI n0), .int (nI k0)]).toArray below meth c s.heap [] 0 0 (MQ below (va_Qi (fun (r : Int32) (u : (Nat → Nat) × (Nat → Int32) × (Nat → Nat → Int32)) => (fun r c2 I2 F2 => Fr [] [] [37, 38] cn In Fn c2 I2 F2 ∧ IM c2 F2 ∧ (True)) r u.1 u.2.1 u.2.2) (fun (u : (Nat → Nat) × (Nat → Int32) × (Nat → Nat → Int32)) (t : State) => va_P D vwCl (wM cI cB cZ g u.1 u.2.1 u.2.2) t.heap ∧ va_D A (wM cI cB cZ g u.1 u.2.1 u.2.2)) A) ([.ref (g 100), .int (nI n0), .int (nI k0)]).toArray s 0 0 A) (F0 m 13 ls []) := by
    intro n13
    induction n13 with
    | zero => intros; (first | omega | (have zz0 := Hid.u hi_cn; omega))
    | succ n13 ih13 =>
      intro i13 x13_4 hmu13 hinv13 ls hl
      have hr13 := hinv13
      have ti13 : (nI i13).toInt = (i13 : Int) := nI_toInt (by (first | omega | (have zz0 := Hid.u hi_cn; omega)))
      refine lv_iload hx hb (oc_21 13 (aq_13 shX12_penceFor_0) ub_5) (lvA0 hl) ?_
      refine lv_iload_n hx hb (oc_27 15 (aq_15 shX12_penceFor_0)) rfl (lvA4 hl) ?_
      have : (nI n0).toInt = ((n0 : Nat) : Int) := nI_toInt (by (first | omega | (have zz0 := Hid.u hi_cn; omega)))
      refine lv_icmp_ge (tgt := 52) hx hb (oc_162 16 (aq_16 shX12_penceFor_0) sgw_0_36) rfl (fun c_2 => ?_) (fun c_2 => ?_)
      ·
        have tc_2 : ((nI n0).toInt : Int) ≤ (nI i13).toInt := Int32.le_iff_toInt_le.mp c_2
        refine lv_aload_n hx hb (oc_42 52 (aq_3 shX12_penceFor_49)) rfl (lvA3 hl) ?_
        refine gM_89 S hK hP (v := .ref (g 38)) rfl (oc_180 53 (aq_4 shX12_penceFor_49) uw_0_89) ?_
        refine lv_iconst (v := 0) hx hb (oc_3 56 (aq_7 shX12_penceFor_49)) kic_0 ?_
        refine lv_aload_n hx hb (oc_42 57 (aq_8 shX12_penceFor_49)) rfl (lvA3 hl) ?_
        refine gM_31 S hK hP (v := .ref (g 10)) rfl (oc_180 58 (aq_9 shX12_penceFor_49) uw_0_31) ?_
        refine lv_iload_n hx hb (oc_27 61 (aq_12 shX12_penceFor_49)) rfl (lvA4 hl) ?_
        obtain ⟨a_3, ha_3, ea_3⟩ := hI.e10 n0 (by (first | omega | (have zz0 := Hid.u hi_cn; omega)))
        refine ldM_10 hx hb hK hP (x := (nI a_3)) (vp_in_nI kb_1 (ltb rfl)) (nI_clamp (Nat.lt_trans kb_1 (ltb rfl))) ea_3 (oc_46 62 (aq_13 shX12_penceFor_49)) ?_
        refine stM_38 hx hb hK hP hD hS (Fn2 := (va_up Fn 38 (upd (Fn 38) 0 (nI a_3)))) (by unfold vp_in; decide) (by decide) rfl (oc_79 63 (aq_14 shX12_penceFor_49)) (fun H locs hP hD hS => ?_)
        refine lv_aload_n hx hb (oc_42 64 (aq_15 shX12_penceFor_49)) rfl (lvA3 hl) ?_
        refine gM_89 S hK hP (v := .ref (g 38)) rfl (oc_180 65 (aq_16 shX12_penceFor_49) uw_0_89) ?_
        refine lv_iconst (v := 1) hx hb (oc_4 68 (aq_19 shX12_penceFor_49)) kic_1 ?_
        refine lv_aload_n hx hb (oc_42 69 (aq_20 shX12_penceFor_49)) rfl (lvA3 hl) ?_
        refine gM_34 S hK hP (v := .ref (g 11)) rfl (oc_180 70 (aq_21 shX12_penceFor_49) uw_0_34) ?_
        refine lv_iload_n hx hb (oc_27 73 shX12_penceFor_73) rfl (lvA4 hl) ?_
        refine ldM_11 hx hb hK hP (x := ((Fn 11) n0)) (vp_in_nI kb_1 (ltb rfl)) (nI_clamp (Nat.lt_trans kb_1 (ltb rfl))) rfl (oc_46 74 (aq_1 shX12_penceFor_73)) ?_
        refine stM_38 hx hb hK hP hD hS (Fn2 := (va_up Fn 38 (upd (upd (Fn 38) 0 (nI a_3)) 1 ((Fn 11) n0)))) (by unfold vp_in; decide) (by decide) (bx_uu _ _ _ _) (oc_79 75 (aq_2 shX12_penceFor_73)) (fun H locs hP hD hS => ?_)
        refine lv_aload_n hx hb (oc_42 76 (aq_3 shX12_penceFor_73)) rfl (lvA3 hl) ?_
        refine gM_89 S hK hP (v := .ref (g 38)) rfl (oc_180 77 (aq_4 shX12_penceFor_73) uw_0_89) ?_
        refine lv_iconst (v := 2) hx hb (oc_5 80 (aq_7 shX12_penceFor_73)) kic_2 ?_
        refine lv_aload_n hx hb (oc_42 81 (aq_8 shX12_penceFor_73)) rfl (lvA3 hl) ?_
        refine gM_37 S hK hP (v := .ref (g 12)) rfl (oc_180 82 (aq_9 shX12_penceFor_73) uw_0_37) ?_
        refine lv_iload_n hx hb (oc_27 85 (aq_12 shX12_penceFor_73)) rfl (lvA4 hl) ?_
        refine ldM_12 hx hb hK hP (x := ((Fn 12) n0)) (vp_in_nI kb_1 (ltb rfl)) (nI_clamp (Nat.lt_trans kb_1 (ltb rfl))) rfl (oc_46 86 (aq_13 shX12_penceFor_73)) ?_
        refine stM_38 hx hb hK hP hD hS (Fn2 := (va_up Fn 38 (upd (upd (upd (Fn 38) 0 (nI a_3)) 1 ((Fn 11) n0)) 2 ((Fn 12) n0)))) (by unfold vp_in; decide) (by decide) (bx_uu _ _ _ _) (oc_79 87 (aq_14 shX12_penceFor_73)) (fun H locs hP hD hS => ?_)
        refine lv_aload_n hx hb (oc_42 88 (aq_15 shX12_penceFor_73)) rfl (lvA3 hl) ?_
        refine gM_89 S hK hP (v := .ref (g 38)) rfl (oc_180 89 (aq_16 shX12_penceFor_73) uw_0_89) ?_
        refine lv_iconst (v := 3) hx hb (oc_6 92 (aq_19 shX12_penceFor_73)) kic_3 ?_
        refine lv_aload_n hx hb (oc_42 93 (aq_20 shX12_penceFor_73)) rfl (lvA3 hl) ?_
        refine gM_28 S hK hP (v := .ref (g 9)) rfl (oc_180 94 (aq_21 shX12_penceFor_73) uw_0_28) ?_
        refine lv_iload_n hx hb (oc_27 97 shX12_penceFor_97) rfl (lvA4 hl) ?_
        obtain ⟨a_4, ha_4, ea_4⟩ := hI.e9 n0 (by (first | omega | (have zz0 := Hid.u hi_cn; omega)))
        refine ldM_9 hx hb hK hP (x := (nI a_4)) (vp_in_nI kb_1 (ltb rfl)) (nI_clamp (Nat.lt_trans kb_1 (ltb rfl))) ea_4 (oc_46 98 (aq_1 shX12_penceFor_97)) ?_
        refine stM_38 hx hb hK hP hD hS (Fn2 := (va_up Fn 38 (upd (upd (upd (upd (Fn 38) 0 (nI a_3)) 1 ((Fn 11) n0)) 2 ((Fn 12) n0)) 3 (nI a_4)))) (by unfold vp_in; decide) (by decide) (bx_uu _ _ _ _) (oc_79 99 (aq_2 shX12_penceFor_97)) (fun H locs hP hD hS => ?_)
        refine lv_aload_n hx hb (oc_42 100 (aq_3 shX12_penceFor_97)) rfl (lvA3 hl) ?_
        refine gM_89 S hK hP (v := .ref (g 38)) rfl (oc_180 101 (aq_4 shX12_penceFor_97) uw_0_89) ?_
        refine lv_iconst (v := 4) hx hb (oc_7 104 (aq_7 shX12_penceFor_97)) kic_4 ?_
        refine lv_aload_n hx hb (oc_42 105 (aq_8 shX12_penceFor_97)) rfl (lvA3 hl) ?_
        refine gM_28 S hK hP (v := .ref (g 9)) rfl (oc_180 106 (aq_9 shX12_penceFor_97) uw_0_28) ?_
        refine lv_iload_n hx hb (oc_27 109 (aq_12 shX12_penceFor_97)) rfl (lvA4 hl) ?_
        refine ldM_9 hx hb hK hP (x := (nI a_4)) (vp_in_nI kb_1 (ltb rfl)) (nI_clamp (Nat.lt_trans kb_1 (ltb rfl))) ea_4 (oc_46 110 (aq_13 shX12_penceFor_97)) ?_
        refine lv_bipush (v := 7) hx hb (oc_16 111 (aq_14 shX12_penceFor_97) sgb_7) kbc_7 ?_
        refine lv_idiv hx hb (oc_108 113 (aq_16 shX12_penceFor_97)) (by decide) ?_
        refine lv_topi (fun y_5 ey_5 => ?_)
        obtain rfl : y_5 = (nI (a_4 / 7)) := ey_5.trans (nI_div (by (first | omega | (have zz0 := Hid.u hi_cn; omega))) (by decide))
        refine stM_38 hx hb hK hP hD hS (Fn2 := (va_up Fn 38 (upd (upd (upd (upd (upd (Fn 38) 0 (nI a_3)) 1 ((Fn 11) n0)) 2 ((Fn 12) n0)) 3 (nI a_4)) 4 (nI (a_4 / 7))))) (by unfold vp_in; decide) (by decide) (bx_uu _ _ _ _) (oc_79 114 (aq_17 shX12_penceFor_97)) (fun H locs hP hD hS => ?_)
        refine lv_aload_n hx hb (oc_42 115 (aq_18 shX12_penceFor_97)) rfl (lvA3 hl) ?_
        refine gM_89 S hK hP (v := .ref (g 38)) rfl (oc_180 116 (aq_19 shX12_penceFor_97) uw_0_89) ?_
        refine lv_iconst (v := 5) hx hb (oc_8 119 (aq_22 shX12_penceFor_97)) kic_5 ?_
        refine lv_aload_n hx hb (oc_42 120 (aq_23 shX12_penceFor_97)) rfl (lvA3 hl) ?_
        refine gM_28 S hK hP (v := .ref (g 9)) rfl (oc_180 121 shX12_penceFor_121 uw_0_28) ?_
        refine lv_iload_n hx hb (oc_27 124 (aq_3 shX12_penceFor_121)) rfl (lvA4 hl) ?_
        refine ldM_9 hx hb hK hP (x := (nI a_4)) (vp_in_nI kb_1 (ltb rfl)) (nI_clamp (Nat.lt_trans kb_1 (ltb rfl))) ea_4 (oc_46 125 (aq_4 shX12_penceFor_121)) ?_
        refine lv_bipush (v := 7) hx hb (oc_16 126 (aq_5 shX12_penceFor_121) sgb_7) kbc_7 ?_
        refine lv_irem hx hb (oc_112 128 (aq_7 shX12_penceFor_121)) (by decide) ?_
        refine lv_topi (fun y_6 ey_6 => ?_)
        obtain rfl : y_6 = (nI (a_4 % 7)) := ey_6.trans (nI_rem (by (first | omega | (have zz0 := Hid.u hi_cn; omega))) (by decide))
        refine stM_38 hx hb hK hP hD hS (Fn2 := (va_up Fn 38 (upd (upd (upd (upd (upd (upd (Fn 38) 0 (nI a_3)) 1 ((Fn 11) n0)) 2 ((Fn 12) n0)) 3 (nI a_4)) 4 (nI (a_4 / 7))) 5 (nI (a_4 % 7))))) (by unfold vp_in; decide) (by decide) (bx_uu _ _ _ _) (oc_79 129 (aq_8 shX12_penceFor_121)) (fun H locs hP hD hS => ?_)
        refine lv_aload_n hx hb (oc_42 130 (aq_9 shX12_penceFor_121)) rfl (lvA3 hl) ?_
        refine gM_89 S hK hP (v := .ref (g 38)) rfl (oc_180 131 (aq_10 shX12_penceFor_121) uw_0_89) ?_
        refine lv_bipush (v := 6) hx hb (oc_16 134 (aq_13 shX12_penceFor_121) sgb_6) kbc_6 ?_
        refine lv_iload_n hx hb (oc_29 136 (aq_15 shX12_penceFor_121)) rfl (lvA2 hl) ?_
        refine stM_38 hx hb hK hP hD hS (Fn2 := (va_up Fn 38 (upd (upd (upd (upd (upd (upd (upd (Fn 38) 0 (nI a_3)) 1 ((Fn 11) n0)) 2 ((Fn 12) n0)) 3 (nI a_4)) 4 (nI (a_4 / 7))) 5 (nI (a_4 % 7))) 6 (nI a_1)))) (by unfold vp_in; decide) (by decide) (bx_uu _ _ _ _) (oc_79 137 (aq_16 shX12_penceFor_121)) (fun H locs hP hD hS => ?_)
        refine lv_aload_n hx hb (oc_42 138 (aq_17 shX12_penceFor_121)) rfl (lvA3 hl) ?_
        refine gM_89 S hK hP (v := .ref (g 38)) rfl (oc_180 139 (aq_18 shX12_penceFor_121) uw_0_89) ?_
        refine lv_bipush (v := 7) hx hb (oc_16 142 (aq_21 shX12_penceFor_121) sgb_7) kbc_7 ?_
        refine lv_aload_n hx hb (oc_42 144 (aq_23 shX12_penceFor_121)) rfl (lvA3 hl) ?_
        refine gM_43 S hK hP (v := .ref (g 14)) rfl (oc_180 145 shX12_penceFor_145 uw_0_43) ?_
        refine lv_iload_n hx hb (oc_27 148 (aq_3 shX12_penceFor_145)) rfl (lvA4 hl) ?_
        refine ldM_14 hx hb hK hP (x := ((Fn 14) n0)) (vp_in_nI kb_1 (ltb rfl)) (nI_clamp (Nat.lt_trans kb_1 (ltb rfl))) rfl (oc_46 149 (aq_4 shX12_penceFor_145)) ?_
        refine stM_38 hx hb hK hP hD hS (Fn2 := (va_up Fn 38 (upd (upd (upd (upd (upd (upd (upd (upd (Fn 38) 0 (nI a_3)) 1 ((Fn 11) n0)) 2 ((Fn 12) n0)) 3 (nI a_4)) 4 (nI (a_4 / 7))) 5 (nI (a_4 % 7))) 6 (nI a_1)) 7 ((Fn 14) n0)))) (by unfold vp_in; decide) (by decide) (bx_uu _ _ _ _) (oc_79 150 (aq_5 shX12_penceFor_145)) (fun H locs hP hD hS => ?_)
        refine lv_aload_n hx hb (oc_42 151 (aq_6 shX12_penceFor_145)) rfl (lvA3 hl) ?_
        refine gM_89 S hK hP (v := .ref (g 38)) rfl (oc_180 152 (aq_7 shX12_penceFor_145) uw_0_89) ?_
        refine lv_bipush (v := 8) hx hb (oc_16 155 (aq_10 shX12_penceFor_145) sgb_8) kbc_8 ?_
        refine lv_iload hx hb (oc_21 157 (aq_12 shX12_penceFor_145) ub_4) (lvA1 hl) ?_
        refine stM_38 hx hb hK hP hD hS (Fn2 := (va_up Fn 38 (upd (upd (upd (upd (upd (upd (upd (upd (upd (Fn 38) 0 (nI a_3)) 1 ((Fn 11) n0)) 2 ((Fn 12) n0)) 3 (nI a_4)) 4 (nI (a_4 / 7))) 5 (nI (a_4 % 7))) 6 (nI a_1)) 7 ((Fn 14) n0)) 8 x13_4))) (by unfold vp_in; decide) (by decide) (bx_uu _ _ _ _) (oc_79 159 (aq_14 shX12_penceFor_145)) (fun H locs hP hD hS => ?_)
        refine lv_aload_n hx hb (oc_42 160 (aq_15 shX12_penceFor_145)) rfl (lvA3 hl) ?_
        refine gM_89 S hK hP (v := .ref (g 38)) rfl (oc_180 161 (aq_16 shX12_penceFor_145) uw_0_89) ?_
        refine lv_bipush (v := 9) hx hb (oc_16 164 (aq_19 shX12_penceFor_145) sgb_9) kbc_9 ?_
        refine lv_aload_n hx hb (oc_42 166 (aq_21 shX12_penceFor_145)) rfl (lvA3 hl) ?_
        refine gM_92 S hK hP (v := .ref (g 39)) rfl (oc_180 167 (aq_22 shX12_penceFor_145) uw_0_92) ?_
        refine lv_aload_n hx hb (oc_42 170 shX12_penceFor_170) rfl (lvA3 hl) ?_
        refine gM_28 S hK hP (v := .ref (g 9)) rfl (oc_180 171 (aq_1 shX12_penceFor_170) uw_0_28) ?_
        refine lv_iload_n hx hb (oc_27 174 (aq_4 shX12_penceFor_170)) rfl (lvA4 hl) ?_
        refine ldM_9 hx hb hK hP (x := (nI a_4)) (vp_in_nI kb_1 (ltb rfl)) (nI_clamp (Nat.lt_trans kb_1 (ltb rfl))) ea_4 (oc_46 175 (aq_5 shX12_penceFor_170)) ?_
        refine lv_bipush (v := 7) hx hb (oc_16 176 (aq_6 shX12_penceFor_170) sgb_7) kbc_7 ?_
        refine lv_idiv hx hb (oc_108 178 (aq_8 shX12_penceFor_170)) (by decide) ?_
        refine lv_topi (fun y_7 ey_7 => ?_)
        obtain rfl : y_7 = (nI (a_4 / 7)) := ey_7.trans (nI_div (by (first | omega | (have zz0 := Hid.u hi_cn; omega))) (by decide))
        have kb_2 : (a_4 / 7) < 58 := by (first | omega | (have zz0 := Hid.u hi_cn; omega))
        refine ldM_39 hx hb hK hP (x := ((Fn 39) (a_4 / 7))) (vp_in_nI kb_2 (ltb rfl)) (nI_clamp (Nat.lt_trans kb_2 (ltb rfl))) rfl (oc_46 179 (aq_9 shX12_penceFor_170)) ?_
        refine stM_38 hx hb hK hP hD hS (Fn2 := (va_up Fn 38 (upd (upd (upd (upd (upd (upd (upd (upd (upd (upd (Fn 38) 0 (nI a_3)) 1 ((Fn 11) n0)) 2 ((Fn 12) n0)) 3 (nI a_4)) 4 (nI (a_4 / 7))) 5 (nI (a_4 % 7))) 6 (nI a_1)) 7 ((Fn 14) n0)) 8 x13_4) 9 ((Fn 39) (a_4 / 7))))) (by unfold vp_in; decide) (by decide) (bx_uu _ _ _ _) (oc_79 180 (aq_10 shX12_penceFor_170)) (fun H locs hP hD hS => ?_)
        refine lv_aload_n hx hb (oc_42 181 (aq_11 shX12_penceFor_170)) rfl (lvA3 hl) ?_
        refine gM_89 S hK hP (v := .ref (g 38)) rfl (oc_180 182 (aq_12 shX12_penceFor_170) uw_0_89) ?_
        refine lv_bipush (v := 10) hx hb (oc_16 185 (aq_15 shX12_penceFor_170) sgb_10) kbc_10 ?_
        refine lv_iconst (v := 0) hx hb (oc_3 187 (aq_17 shX12_penceFor_170)) kic_0 ?_
        refine stM_38 hx hb hK hP hD hS (Fn2 := (va_up Fn 38 (upd (upd (upd (upd (upd (upd (upd (upd (upd (upd (upd (Fn 38) 0 (nI a_3)) 1 ((Fn 11) n0)) 2 ((Fn 12) n0)) 3 (nI a_4)) 4 (nI (a_4 / 7))) 5 (nI (a_4 % 7))) 6 (nI a_1)) 7 ((Fn 14) n0)) 8 x13_4) 9 ((Fn 39) (a_4 / 7))) 10 0))) (by unfold vp_in; decide) (by decide) (bx_uu _ _ _ _) (oc_79 188 (aq_18 shX12_penceFor_170)) (fun H locs hP hD hS => ?_)
        obtain ⟨q33, hq33, eq33⟩ := hI.e33 k0 (by (first | omega | (have zz0 := Hid.u hi_cn; omega)))
        refine lv_bipush (v := 12) hx hb (oc_16 189 (aq_19 shX12_penceFor_170) sgb_12) kbc_12 ?_
        refine lv_iload_n hx hb (oc_28 191 (aq_21 shX12_penceFor_170)) rfl (lvA5 hl) ?_
        refine lv_imul hx hb (oc_104 192 (aq_22 shX12_penceFor_170)) ?_
        refine lv_topi (fun y_8 ey_8 => ?_)
        obtain rfl : y_8 = (nI (12 * k0)) := ey_8.trans (pk_mul 12 k0)
        refine lv_istore (lv' := [(5, .int (nI (12 * k0))), (4, .int x13_4), (3, .int (nI a_1)), (0, .ref (g 100)), (1, .int (nI n0)), (2, .int (nI k0))]) hx hb (oc_54 193 (aq_23 shX12_penceFor_170) ub_5) hl (ltb rfl) rfl (fun ls hl => ?_)
        have lp_195 : ∀ (n : Nat) (i195 : Nat) (F195 : Nat → Nat → Int32) (H : Heap) (locs : List Loc) , 12 * k0 + q33 - i195 < n → ((12 * k0 ≤ i195 ∧ i195 ≤ 12 * k0 + q33) ∧ Fr [] [] [37, 38] cn In Fn cn In F195 ∧ IM cn F195) → va_P D vwCl (wM cI cB cZ g cn In F195) H → va_D A (wM cI cB cZ g cn In F195) → va_S A s.heap H locs → ∀ ls : Array Slot, lv_has ls 7 [(5, .int (nI i195)), (4, .int x13_4), (3, .int (nI a_1)), (0, .ref (g 100)), (1, .int (nI n0)), (2, .int (nI k0))] → W p l e (RM 2 0 0) s m ([.ref (g 100), .int (nI n0), .int (nI k0)]).toArray below meth c H locs 0 0 (MQ below (va_Qi (fun (r : Int32) (u : (Nat → Nat) × (Nat → Int32) × (Nat → Nat → Int32)) => (fun r c2 I2 F2 => Fr [] [] [37, 38] cn In Fn c2 I2 F2 ∧ IM c2 F2 ∧ (True)) r u.1 u.2.1 u.2.2) (fun (u : (Nat → Nat) × (Nat → Int32) × (Nat → Nat → Int32)) (t : State) => va_P D vwCl (wM cI cB cZ g u.1 u.2.1 u.2.2) t.heap ∧ va_D A (wM cI cB cZ g u.1 u.2.1 u.2.2)) A) ([.ref (g 100), .int (nI n0), .int (nI k0)]).toArray s 0 0 A) (F0 m 195 ls []) := by
          intro n195
          induction n195 with
          | zero => intros; (first | omega | (have zz0 := Hid.u hi_cn; omega))
          | succ n195 ih195 =>
            intro i195 F195 H locs hmu195 hinv195 hP hD hS ls hl
            obtain ⟨hr195, hfr195, hI195⟩ := hinv195
            have ti195 : (nI i195).toInt = (i195 : Int) := nI_toInt (by (first | omega | (have zz0 := Hid.u hi_cn; omega)))
            have hi_cn : Hid (CB cn) := hI195.b
            have eq33 : F195 33 k0 = nI q33 := (congrFun (hfr195.2.2 33 (nml rfl)) k0).trans eq33
            refine lv_iload hx hb (oc_21 195 shX12_penceFor_195 ub_5) (lvA0 hl) ?_
            refine lv_bipush (v := 12) hx hb (oc_16 197 (aq_2 shX12_penceFor_195) sgb_12) kbc_12 ?_
            refine lv_iload_n hx hb (oc_28 199 (aq_4 shX12_penceFor_195)) rfl (lvA5 hl) ?_
            refine lv_imul hx hb (oc_104 200 (aq_5 shX12_penceFor_195)) ?_
            refine lv_topi (fun y_9 ey_9 => ?_)
            obtain rfl : y_9 = (nI (12 * k0)) := ey_9.trans (pk_mul 12 k0)
            refine lv_aload_n hx hb (oc_42 201 (aq_6 shX12_penceFor_195)) rfl (lvA3 hl) ?_
            refine gM_74 S hK hP (v := .ref (g 33)) rfl (oc_180 202 (aq_7 shX12_penceFor_195) uw_0_74) ?_
            refine lv_iload_n hx hb (oc_28 205 (aq_10 shX12_penceFor_195)) rfl (lvA5 hl) ?_
            have kb_3 : k0 < 11 := by (first | omega | (have zz0 := Hid.u hi_cn; omega))
            refine ldM_33 hx hb hK hP (x := (nI q33)) (vp_in_nI kb_3 (ltb rfl)) (nI_clamp (Nat.lt_trans kb_3 (ltb rfl))) eq33 (oc_46 206 (aq_11 shX12_penceFor_195)) ?_
            refine lv_iadd hx hb (oc_96 207 (aq_12 shX12_penceFor_195)) ?_
            refine lv_topi (fun y_10 ey_10 => ?_)
            obtain rfl : y_10 = (nI ((12 * k0) + q33)) := ey_10.trans (nI_add (12 * k0) q33)
            have : (nI ((12 * k0) + q33)).toInt = ((((12 * k0) + q33) : Nat) : Int) := nI_toInt (by (first | omega | (have zz0 := Hid.u hi_cn; omega)))
            refine lv_icmp_ge (tgt := 288) hx hb (oc_162 208 (aq_13 shX12_penceFor_195) sgw_0_80) rfl (fun c_11 => ?_) (fun c_11 => ?_)
            ·
              have tc_11 : ((nI ((12 * k0) + q33)).toInt : Int) ≤ (nI i195).toInt := Int32.le_iff_toInt_le.mp c_11
              refine lv_iconst (v := 0) hx hb (oc_3 288 (aq_21 shX12_penceFor_267)) kic_0 ?_
              exact W.iret (v := 0) hx hb hr (fun t ht hW => ⟨⟨0, (cn, In, F195), rfl, ⟨(Fr.mo hfr195 (sbl rfl) (sbl rfl) (sbl rfl)), hI195, trivial⟩, by rw [ht]; exact hP, hD⟩, hS.F ht⟩) hS.2.2 (oc_172 289 (aq_22 shX12_penceFor_267))
            ·
              have tc_11 : ((nI i195).toInt : Int) < (nI ((12 * k0) + q33)).toInt := Int32.lt_iff_toInt_lt.mp (Int32.not_le.mp c_11)
              obtain ⟨a9, m9, b9, ea9, em9, eb9, k1, k2, k3, k4, k5, sgA, sgB⟩ := IM.cd1 hI195 (t := k0) (by (first | omega | (have zz0 := Hid.u hi_cn; omega))) eq33 hq33 (by (first | omega | (have zz0 := Hid.u hi_cn; omega))) (i := i195) (by (first | omega | (have zz0 := Hid.u hi_cn; omega)))
              refine lv_aload_n hx hb (oc_42 211 (aq_16 shX12_penceFor_195)) rfl (lvA3 hl) ?_
              refine lv_aload_n hx hb (oc_42 212 (aq_17 shX12_penceFor_195)) rfl (lvA3 hl) ?_
              refine gM_80 S hK hP (v := .ref (g 35)) rfl (oc_180 213 (aq_18 shX12_penceFor_195) uw_0_80) ?_
              refine lv_iload hx hb (oc_21 216 (aq_21 shX12_penceFor_195) ub_5) (lvA0 hl) ?_
              have kb_4 : i195 < 132 := by (first | omega | (have zz0 := Hid.u hi_cn; omega))
              refine ldM_35 hx hb hK hP (x := ((F195 35) i195)) (vp_in_nI kb_4 (ltb rfl)) (nI_clamp (Nat.lt_trans kb_4 (ltb rfl))) rfl (oc_46 218 (aq_23 shX12_penceFor_195)) ?_
              refine lv_topi (fun y_12 ey_12 => ?_)
              obtain rfl : y_12 = (nI m9) := ey_12.trans em9
              refine lv_aload_n hx hb (oc_42 219 shX12_penceFor_219) rfl (lvA3 hl) ?_
              refine gM_83 S hK hP (v := .ref (g 36)) rfl (oc_180 220 (aq_1 shX12_penceFor_219) uw_0_83) ?_
              refine lv_iload hx hb (oc_21 223 (aq_4 shX12_penceFor_219) ub_5) (lvA0 hl) ?_
              refine ldM_36 hx hb hK hP (x := ((F195 36) i195)) (vp_in_nI kb_4 (ltb rfl)) (nI_clamp (Nat.lt_trans kb_4 (ltb rfl))) rfl (oc_46 225 (aq_6 shX12_penceFor_219)) ?_
              refine lv_topi (fun y_13 ey_13 => ?_)
              obtain rfl : y_13 = (nI b9) := ey_13.trans eb9
              have hFc := free_all hD hS hA
              refine va_calli (runV_a (As := [.int (nI m9), .int (nI b9)]) (rest := []) S (q_comesTo l D cI cB cZ g cn In F195 k0 m9 b9 H.size hI195 sgB (by (first | omega | (have zz0 := Hid.u hi_cn; omega))) (by (first | omega | (have zz0 := Hid.u hi_cn; omega))) (by (first | omega | (have zz0 := Hid.u hi_cn; omega))) (by (first | omega | (have zz0 := Hid.u hi_cn; omega))) (by (first | omega | (have zz0 := Hid.u hi_cn; omega)))) kV_RX12_331 hK hP hD 0 rfl rfl rfl ⟨Nat.le_of_ble_eq_true rfl, Nat.le_of_ble_eq_true rfl⟩ ⟨Nat.le_of_ble_eq_true rfl, Nat.le_of_ble_eq_true rfl⟩ rfl hl.1 rfl (Nat.le_of_ble_eq_true rfl) (oc_182 226 (aq_7 shX12_penceFor_219) uw_1_75)) hS (fun q _ h => hFc q h) hFc (fun r_14 u t H1 locs ht hvm wh_15 hB hz1 hk1 hS => ?_)
              obtain ⟨cn15, In15, Fn15⟩ := u
              obtain ⟨hP1, hD1⟩ := hB
              rw [ht] at hP1
              have hP : va_P D vwCl (wM cI cB cZ g cn15 In15 Fn15) H1 := hP1
              have hD : va_D A (wM cI cB cZ g cn15 In15 Fn15) := hD1.weaken (fun _ _ _ h => hFc _ h)
              generalize H1 = H at hP hS ⊢
              have vh_15 : (fun r c2 I2 F2 => Fr [] [] [37] cn In F195 c2 I2 F2 ∧ IM c2 F2 ∧ (True)) r_14 cn15 In15 Fn15 := wh_15
              obtain ⟨hfc15, hIn15, h_15⟩ := vh_15
              obtain rfl : cn = cn15 := (funext (fun k => hfc15.1 k List.not_mem_nil)).symm
              obtain rfl : In = In15 := (funext (fun k => hfc15.2.1 k List.not_mem_nil)).symm
              have hf15 : Fr [] [] [37, 38] cn In Fn cn In Fn15 := Fr.mo (Fr.tr hfr195 hfc15) (sbl rfl) (sbl rfl) (sbl rfl)
              have hi_cn : Hid (CB cn) := hIn15.b
              refine lv_iconst (v := 1) hx hb (oc_4 229 (aq_10 shX12_penceFor_219)) kic_1 ?_
              refine lv_icmp_eq (tgt := 236) hx hb (oc_159 230 (aq_11 shX12_penceFor_219) sgw_0_6) rfl (fun c_16 => ?_) (fun c_16 => ?_)
              ·
                have tc_16 : (r_14.toInt : Int) = 1 := congrArg Int32.toInt c_16
                refine lv_aload_n hx hb (oc_42 236 (aq_17 shX12_penceFor_219)) rfl (lvA3 hl) ?_
                refine lv_aload_n hx hb (oc_42 237 (aq_18 shX12_penceFor_219)) rfl (lvA3 hl) ?_
                refine gM_77 S hK hP (v := .ref (g 34)) rfl (oc_180 238 (aq_19 shX12_penceFor_219) uw_0_77) ?_
                refine lv_iload hx hb (oc_21 241 (aq_22 shX12_penceFor_219) ub_5) (lvA0 hl) ?_
                refine ldM_34 hx hb hK hP (x := ((Fn15 34) i195)) (vp_in_nI kb_4 (ltb rfl)) (nI_clamp (Nat.lt_trans kb_4 (ltb rfl))) rfl (oc_46 243 shX12_penceFor_243) ?_
                refine lv_topi (fun y_17 ey_17 => ?_)
                obtain rfl : y_17 = (nI a9) := ey_17.trans ((congrFun (hfc15.2.2 34 (nml rfl)) i195).trans ea9)
                refine lv_aload_n hx hb (oc_42 244 (aq_1 shX12_penceFor_243)) rfl (lvA3 hl) ?_
                refine gM_80 S hK hP (v := .ref (g 35)) rfl (oc_180 245 (aq_2 shX12_penceFor_243) uw_0_80) ?_
                refine lv_iload hx hb (oc_21 248 (aq_5 shX12_penceFor_243) ub_5) (lvA0 hl) ?_
                refine ldM_35 hx hb hK hP (x := ((Fn15 35) i195)) (vp_in_nI kb_4 (ltb rfl)) (nI_clamp (Nat.lt_trans kb_4 (ltb rfl))) rfl (oc_46 250 (aq_7 shX12_penceFor_243)) ?_
                refine lv_topi (fun y_18 ey_18 => ?_)
                obtain rfl : y_18 = (nI m9) := ey_18.trans ((congrFun (hfc15.2.2 35 (nml rfl)) i195).trans em9)
                have hFc := free_all hD hS hA
                refine va_calli (runV_a (As := [.int (nI a9), .int (nI m9)]) (rest := []) S (q_comesTo l D cI cB cZ g cn In Fn15 k0 a9 m9 H.size hIn15 (by rw [hfc15.2.2 32 (nml rfl)]; exact sgA) (by (first | omega | (have zz0 := Hid.u hi_cn; omega))) (by (first | omega | (have zz0 := Hid.u hi_cn; omega))) (by (first | omega | (have zz0 := Hid.u hi_cn; omega))) (by (first | omega | (have zz0 := Hid.u hi_cn; omega))) (by (first | omega | (have zz0 := Hid.u hi_cn; omega)))) kV_RX12_331 hK hP hD 0 rfl rfl rfl ⟨Nat.le_of_ble_eq_true rfl, Nat.le_of_ble_eq_true rfl⟩ ⟨Nat.le_of_ble_eq_true rfl, Nat.le_of_ble_eq_true rfl⟩ rfl hl.1 rfl (Nat.le_of_ble_eq_true rfl) (oc_182 251 (aq_8 shX12_penceFor_243) uw_1_75)) hS (fun q _ h => hFc q h) hFc (fun r_19 u t H1 locs ht hvm wh_20 hB hz1 hk1 hS => ?_)
                obtain ⟨cn20, In20, Fn20⟩ := u
                obtain ⟨hP1, hD1⟩ := hB
                rw [ht] at hP1
                have hP : va_P D vwCl (wM cI cB cZ g cn20 In20 Fn20) H1 := hP1
                have hD : va_D A (wM cI cB cZ g cn20 In20 Fn20) := hD1.weaken (fun _ _ _ h => hFc _ h)
                generalize H1 = H at hP hS ⊢
                have vh_20 : (fun r c2 I2 F2 => Fr [] [] [37] cn In Fn15 c2 I2 F2 ∧ IM c2 F2 ∧ (True)) r_19 cn20 In20 Fn20 := wh_20
                obtain ⟨hfc20, hIn20, h_20⟩ := vh_20
                obtain rfl : cn = cn20 := (funext (fun k => hfc20.1 k List.not_mem_nil)).symm
                obtain rfl : In = In20 := (funext (fun k => hfc20.2.1 k List.not_mem_nil)).symm
                have hf20 : Fr [] [] [37, 38] cn In Fn cn In Fn20 := Fr.mo (Fr.tr hf15 hfc20) (sbl rfl) (sbl rfl) (sbl rfl)
                have hi_cn : Hid (CB cn) := hIn20.b
                refine lv_istore (lv' := [(6, .int r_19), (5, .int (nI i195)), (4, .int x13_4), (3, .int (nI a_1)), (0, .ref (g 100)), (1, .int (nI n0)), (2, .int (nI k0))]) hx hb (oc_54 254 (aq_11 shX12_penceFor_243) ub_6) hl (ltb rfl) rfl (fun ls hl => ?_)
                refine lv_iload hx hb (oc_21 256 (aq_13 shX12_penceFor_243) ub_6) (lvA0 hl) ?_
                refine lv_if_ge (tgt := 265) hx hb (oc_156 258 (aq_15 shX12_penceFor_243) sgw_0_7) rfl (fun c_21 => ?_) (fun c_21 => ?_)
                ·
                  have tc_21 : (0 : Int) ≤ r_19.toInt := Int32.le_iff_toInt_le.mp c_21
                  refine lv_iload hx hb (oc_21 265 (aq_22 shX12_penceFor_243) ub_6) (lvA0 hl) ?_
                  refine lv_ldcw (v := 100000) hx hb hown (S.2.2.2.2 _ (wk8_4 9 rfl rfl)) (oc_19 267 shX12_penceFor_267 uw_1_78) ?_
                  refine lv_icmp_le (tgt := 279) hx hb (oc_164 270 (aq_3 shX12_penceFor_267) sgw_0_9) rfl (fun c_22 => ?_) (fun c_22 => ?_)
                  ·
                    have tc_22 : (r_19.toInt : Int) ≤ 100000 := Int32.le_iff_toInt_le.mp c_22
                    refine lv_iload hx hb (oc_21 279 (aq_12 shX12_penceFor_267) ub_6) (lvA0 hl) ?_
                    exact W.iret (v := r_19) hx hb hr (fun t ht hW => ⟨⟨r_19, (cn, In, Fn20), rfl, ⟨(Fr.mo hf20 (sbl rfl) (sbl rfl) (sbl rfl)), hIn20, trivial⟩, by rw [ht]; exact hP, hD⟩, hS.F ht⟩) hS.2.2 (oc_172 281 (aq_14 shX12_penceFor_267))
                  ·
                    have tc_22 : (100000 : Int) < r_19.toInt := Int32.lt_iff_toInt_lt.mp (Int32.not_le.mp c_22)
                    refine lv_ldcw (v := 100000) hx hb hown (S.2.2.2.2 _ (wk8_4 9 rfl rfl)) (oc_19 273 (aq_6 shX12_penceFor_267) uw_1_78) ?_
                    refine lv_goto (tgt := 281) hx hb (oc_167 276 (aq_9 shX12_penceFor_267) sgw_0_5) rfl ?_
                    exact W.iret (v := 100000) hx hb hr (fun t ht hW => ⟨⟨100000, (cn, In, Fn20), rfl, ⟨(Fr.mo hf20 (sbl rfl) (sbl rfl) (sbl rfl)), hIn20, trivial⟩, by rw [ht]; exact hP, hD⟩, hS.F ht⟩) hS.2.2 (oc_172 281 (aq_14 shX12_penceFor_267))
                ·
                  have tc_21 : (r_19.toInt : Int) < 0 := Int32.lt_iff_toInt_lt.mp (Int32.not_le.mp c_21)
                  refine lv_iconst (v := 0) hx hb (oc_3 261 (aq_18 shX12_penceFor_243)) kic_0 ?_
                  refine lv_goto (tgt := 281) hx hb (oc_167 262 (aq_19 shX12_penceFor_243) sgw_0_19) rfl ?_
                  exact W.iret (v := 0) hx hb hr (fun t ht hW => ⟨⟨0, (cn, In, Fn20), rfl, ⟨(Fr.mo hf20 (sbl rfl) (sbl rfl) (sbl rfl)), hIn20, trivial⟩, by rw [ht]; exact hP, hD⟩, hS.F ht⟩) hS.2.2 (oc_172 281 (aq_14 shX12_penceFor_267))
              ·
                have tc_16 : (r_14.toInt : Int) ≠ 1 := fun q => c_16 (Int32.toInt_inj.mp q)
                refine lv_goto (tgt := 282) hx hb (oc_167 233 (aq_14 shX12_penceFor_219) sgw_0_49) rfl ?_
                refine lv_iinc (v := (nI (i195 + 1))) (lv' := [(5, .int (nI (i195 + 1))), (4, .int x13_4), (3, .int (nI a_1)), (0, .ref (g 100)), (1, .int (nI n0)), (2, .int (nI k0))]) hx hb (oc_132 282 (aq_15 shX12_penceFor_267) ub_5 sgb_1) hl (k := 0) rfl (nI_1 _) (ltb rfl) rfl (fun ls hl => ?_)
                refine lv_goto (tgt := 195) hx hb (oc_167 285 (aq_18 shX12_penceFor_267) sgw_255_166) rfl ?_
                exact ih195 (i195 + 1) Fn15 _ _ (by (first | omega | (have zz0 := Hid.u hi_cn; omega))) ⟨(by (first | omega | (have zz0 := Hid.u hi_cn; omega))), (Fr.mo hf15 (sbl rfl) (sbl rfl) (sbl rfl)), hIn15⟩ hP hD hS ls (lv_sub hl [0, 1, 2, 3, 4, 5] rfl)
        exact lp_195 _ (12 * k0) (va_up Fn 38 (upd (upd (upd (upd (upd (upd (upd (upd (upd (upd (upd (Fn 38) 0 (nI a_3)) 1 ((Fn 11) n0)) 2 ((Fn 12) n0)) 3 (nI a_4)) 4 (nI (a_4 / 7))) 5 (nI (a_4 % 7))) 6 (nI a_1)) 7 ((Fn 14) n0)) 8 x13_4) 9 ((Fn 39) (a_4 / 7))) 10 0)) _ _ (Nat.lt_succ_self _) ⟨(by (first | omega | (have zz0 := Hid.u hi_cn; omega))), (Fr.mo (Fr.f 38 Fr.rf) (sbl rfl) (sbl rfl) (sbl rfl)), (IM.fr (In := In) hI (Fr.f 38 Fr.rf) (by decide) (by decide))⟩ hP hD hS ls (lv_sub hl [0, 1, 2, 3, 4, 5] rfl)
      ·
        have tc_2 : ((nI i13).toInt : Int) < (nI n0).toInt := Int32.lt_iff_toInt_lt.mp (Int32.not_le.mp c_2)
        refine lv_iload hx hb (oc_21 19 (aq_19 shX12_penceFor_0) ub_4) (lvA1 hl) ?_
        refine lv_aload_n hx hb (oc_42 21 (aq_21 shX12_penceFor_0)) rfl (lvA3 hl) ?_
        refine gM_25 S hK hP (v := .ref (g 8)) rfl (oc_180 22 (aq_22 shX12_penceFor_0) uw_0_25) ?_
        refine lv_iload hx hb (oc_21 25 shX12_penceFor_25 ub_5) (lvA0 hl) ?_
        have kb_5 : i13 < 60 := by (first | omega | (have zz0 := Hid.u hi_cn; omega))
        obtain ⟨a_23, ha_23, ea_23⟩ := hI.e8 i13 (by (first | omega | (have zz0 := Hid.u hi_cn; omega)))
        refine ldM_8 hx hb hK hP (x := (nI a_23)) (vp_in_nI kb_5 (ltb rfl)) (nI_clamp (Nat.lt_trans kb_5 (ltb rfl))) ea_23 (oc_46 27 (aq_2 shX12_penceFor_25)) ?_
        refine lv_iload_n hx hb (oc_29 28 (aq_3 shX12_penceFor_25)) rfl (lvA2 hl) ?_
        have : (nI a_23).toInt = ((a_23 : Nat) : Int) := nI_toInt (by (first | omega | (have zz0 := Hid.u hi_cn; omega)))
        have : (nI a_1).toInt = ((a_1 : Nat) : Int) := nI_toInt (by (first | omega | (have zz0 := Hid.u hi_cn; omega)))
        refine lv_icmp_ne (tgt := 42) hx hb (oc_160 29 (aq_4 shX12_penceFor_25) sgw_0_13) rfl (fun c_24 => ?_) (fun c_24 => ?_)
        ·
          have tc_24 : ((nI a_23).toInt : Int) ≠ (nI a_1).toInt := fun q => c_24 (Int32.toInt_inj.mp q)
          refine lv_iconst (v := 0) hx hb (oc_3 42 (aq_17 shX12_penceFor_25)) kic_0 ?_
          refine lv_iadd hx hb (oc_96 43 (aq_18 shX12_penceFor_25)) ?_
          refine lv_istore (lv' := [(4, .int (x13_4 + 0)), (5, .int (nI i13)), (3, .int (nI a_1)), (0, .ref (g 100)), (1, .int (nI n0)), (2, .int (nI k0))]) hx hb (oc_54 44 (aq_19 shX12_penceFor_25) ub_4) hl (ltb rfl) rfl (fun ls hl => ?_)
          refine lv_iinc (v := (nI (i13 + 1))) (lv' := [(5, .int (nI (i13 + 1))), (4, .int (x13_4 + 0)), (3, .int (nI a_1)), (0, .ref (g 100)), (1, .int (nI n0)), (2, .int (nI k0))]) hx hb (oc_132 46 (aq_21 shX12_penceFor_25) ub_5 sgb_1) hl (k := 1) rfl (nI_1 _) (ltb rfl) rfl (fun ls hl => ?_)
          refine lv_goto (tgt := 13) hx hb (oc_167 49 shX12_penceFor_49 sgw_255_220) rfl ?_
          exact ih13 (i13 + 1) (x13_4 + 0) (by (first | omega | (have zz0 := Hid.u hi_cn; omega))) (by (first | omega | (have zz0 := Hid.u hi_cn; omega))) ls (lv_sub hl [0, 1, 2, 3, 4, 5] rfl)
        ·
          have tc_24 : ((nI a_23).toInt : Int) = (nI a_1).toInt := congrArg Int32.toInt c_24
          refine lv_aload_n hx hb (oc_42 32 (aq_7 shX12_penceFor_25)) rfl (lvA3 hl) ?_
          refine gM_31 S hK hP (v := .ref (g 10)) rfl (oc_180 33 (aq_8 shX12_penceFor_25) uw_0_31) ?_
          refine lv_iload hx hb (oc_21 36 (aq_11 shX12_penceFor_25) ub_5) (lvA0 hl) ?_
          obtain ⟨a_25, ha_25, ea_25⟩ := hI.e10 i13 (by (first | omega | (have zz0 := Hid.u hi_cn; omega)))
          refine ldM_10 hx hb hK hP (x := (nI a_25)) (vp_in_nI kb_5 (ltb rfl)) (nI_clamp (Nat.lt_trans kb_5 (ltb rfl))) ea_25 (oc_46 38 (aq_13 shX12_penceFor_25)) ?_
          refine lv_goto (tgt := 43) hx hb (oc_167 39 (aq_14 shX12_penceFor_25) sgw_0_4) rfl ?_
          refine lv_iadd hx hb (oc_96 43 (aq_18 shX12_penceFor_25)) ?_
          refine lv_istore (lv' := [(4, .int (x13_4 + (nI a_25))), (5, .int (nI i13)), (3, .int (nI a_1)), (0, .ref (g 100)), (1, .int (nI n0)), (2, .int (nI k0))]) hx hb (oc_54 44 (aq_19 shX12_penceFor_25) ub_4) hl (ltb rfl) rfl (fun ls hl => ?_)
          refine lv_iinc (v := (nI (i13 + 1))) (lv' := [(5, .int (nI (i13 + 1))), (4, .int (x13_4 + (nI a_25))), (3, .int (nI a_1)), (0, .ref (g 100)), (1, .int (nI n0)), (2, .int (nI k0))]) hx hb (oc_132 46 (aq_21 shX12_penceFor_25) ub_5 sgb_1) hl (k := 1) rfl (nI_1 _) (ltb rfl) rfl (fun ls hl => ?_)
          refine lv_goto (tgt := 13) hx hb (oc_167 49 shX12_penceFor_49 sgw_255_220) rfl ?_
          exact ih13 (i13 + 1) (x13_4 + (nI a_25)) (by (first | omega | (have zz0 := Hid.u hi_cn; omega))) (by (first | omega | (have zz0 := Hid.u hi_cn; omega))) ls (lv_sub hl [0, 1, 2, 3, 4, 5] rfl)
  exact lp_13 _ 0 0 (Nat.lt_succ_self _) (by (first | omega | (have zz0 := Hid.u hi_cn; omega))) ls (lv_sub hl [0, 1, 2, 3, 4, 5] rfl)
set_option maxRecDepth 100000 in
set_option maxHeartbeats 4000000 in
theorem q_pence (l : Launch) (D : va_G) (cI cB cZ : ClassId) (g : Nat → Nat) (cn : Nat → Nat) (In : Nat → Int32) (Fn : Nat → Nat → Int32) (v0 : Int32) (sz : Nat) (hI : IM cn Fn) : Met l yX12_pence (CWS yX12_pence cX12_pence 2 (some .int)) (RM 3 0 0) (PBw [.ref (g 100), .int v0] D cI cB cZ (wM cI cB cZ g cn In Fn) sz) (va_Qi (fun (r : Int32) (u : (Nat → Nat) × (Nat → Int32) × (Nat → Nat → Int32)) => (fun r c2 I2 F2 => Fr [] [] [37, 38] cn In Fn c2 I2 F2 ∧ IM c2 F2 ∧ (True)) r u.1 u.2.1 u.2.2) (fun (u : (Nat → Nat) × (Nat → Int32) × (Nat → Nat → Int32)) (t : State) => va_P D vwCl (wM cI cB cZ g u.1 u.2.1 u.2.2) t.heap ∧ va_D (va_A (wM cI cB cZ g cn In Fn) sz) (wM cI cB cZ g u.1 u.2.1 u.2.2)) (va_A (wM cI cB cZ g cn In Fn) sz)) 0 0 (va_A (wM cI cB cZ g cn In Fn) sz) := by
  refine en_w (fun A => (va_Qi (fun (r : Int32) (u : (Nat → Nat) × (Nat → Int32) × (Nat → Nat → Int32)) => (fun (r : Int32) (c2 : Nat → Nat) (I2 : Nat → Int32) (F2 : Nat → Nat → Int32) => Fr [] [] [37, 38] cn In Fn c2 I2 F2 ∧ IM c2 F2 ∧ (True)) r u.1 u.2.1 u.2.2) (fun (u : (Nat → Nat) × (Nat → Int32) × (Nat → Nat → Int32)) (t : State) => va_P D vwCl (wM cI cB cZ g u.1 u.2.1 u.2.2) t.heap ∧ va_D A (wM cI cB cZ g u.1 u.2.1 u.2.2)) A)) rfl rfl pn_RX12 (Nat.le_of_ble_eq_true rfl) (fun p e s m below meth c A hx hb hml hown S hr hlocks hnm hA hP hK hD hS ls hl => ?_)
  have hl : lv_has ls 2 [(0, .ref (g 100)), (1, .int v0)] := hl
  have hi_cn : Hid (CB cn) := hI.b
  refine lv_aload_n hx hb (oc_42 0 shX12_pence_0) rfl (lvA0 hl) ?_
  refine lv_iload_n hx hb (oc_27 1 (aq_1 shX12_pence_0)) rfl (lvA1 hl) ?_
  refine vp_callSi (runV_ra (As := [.int v0]) (rest := []) S (q_isLoad l D cI cB cZ g cn In Fn v0 hI) kV_RX12_335 hK hP 0 rfl rfl rfl ⟨Nat.le_of_ble_eq_true rfl, Nat.le_of_ble_eq_true rfl⟩ ⟨Nat.le_of_ble_eq_true rfl, Nat.le_of_ble_eq_true rfl⟩ rfl hl.1 rfl (Nat.le_of_ble_eq_true rfl) (oc_182 2 (aq_2 shX12_pence_0) uw_1_79)) (fun r_1 h_2 => ?_)
  rcases h_2 with ⟨rfl, h_2⟩ | ⟨rfl, h_2⟩
  ·
    have h_2 : 0 ≤ v0.toInt ∧ v0.toInt < ((cn 2) : Int) := h_2
    refine lv_if_eq (tgt := 22) hx hb (oc_153 5 (aq_5 shX12_pence_0) sgw_0_17) rfl (fun h => absurd h cq_eq_1_0) (fun _ => ?_)
    obtain ⟨d0, hd0, rfl⟩ := nI_of (x := v0) (fun q => by have := Int32.lt_iff_toInt_lt.mp q; have e : (0 : Int32).toInt = 0 := rfl; (first | omega | (have zz0 := Hid.u hi_cn; omega)))
    have td0 : (nI d0).toInt = (d0 : Int) := nI_toInt hd0
    have zd0 : (nI d0).toInt.toNat = d0 := by (first | omega | (have zz0 := Hid.u hi_cn; omega))
    refine lv_aload_n hx hb (oc_42 8 (aq_8 shX12_pence_0)) rfl (lvA0 hl) ?_
    refine lv_iload_n hx hb (oc_27 9 (aq_9 shX12_pence_0)) rfl (lvA1 hl) ?_
    refine lv_aload_n hx hb (oc_42 10 (aq_10 shX12_pence_0)) rfl (lvA0 hl) ?_
    refine gM_25 S hK hP (v := .ref (g 8)) rfl (oc_180 11 (aq_11 shX12_pence_0) uw_0_25) ?_
    refine lv_iload_n hx hb (oc_27 14 (aq_14 shX12_pence_0)) rfl (lvA1 hl) ?_
    have kb_1 : d0 < 60 := by (first | omega | (have zz0 := Hid.u hi_cn; omega))
    obtain ⟨a_3, ha_3, ea_3⟩ := hI.e8 d0 (by (first | omega | (have zz0 := Hid.u hi_cn; omega)))
    refine ldM_8 hx hb hK hP (x := (nI a_3)) (vp_in_nI kb_1 (ltb rfl)) (nI_clamp (Nat.lt_trans kb_1 (ltb rfl))) ea_3 (oc_46 15 (aq_15 shX12_pence_0)) ?_
    have hFc := free_all hD hS hA
    refine va_calli (runV_a (As := [.int (nI d0), .int (nI a_3)]) (rest := []) S (q_penceFor l D cI cB cZ g cn In Fn d0 a_3 s.heap.size hI (by (first | omega | (have zz0 := Hid.u hi_cn; omega))) (by (first | omega | (have zz0 := Hid.u hi_cn; omega)))) kV_RX12_338 hK hP hD 0 rfl rfl rfl ⟨Nat.le_of_ble_eq_true rfl, Nat.le_of_ble_eq_true rfl⟩ ⟨Nat.le_of_ble_eq_true rfl, Nat.le_of_ble_eq_true rfl⟩ rfl hl.1 rfl (Nat.le_of_ble_eq_true rfl) (oc_182 16 (aq_16 shX12_pence_0) uw_1_82)) hS (fun q _ h => hFc q h) hFc (fun r_4 u t H1 locs ht hvm wh_5 hB hz1 hk1 hS => ?_)
    obtain ⟨cn5, In5, Fn5⟩ := u
    obtain ⟨hP1, hD1⟩ := hB
    rw [ht] at hP1
    have hP : va_P D vwCl (wM cI cB cZ g cn5 In5 Fn5) H1 := hP1
    have hD : va_D A (wM cI cB cZ g cn5 In5 Fn5) := hD1.weaken (fun _ _ _ h => hFc _ h)
    generalize H1 = H at hP hS ⊢
    have vh_5 : (fun r c2 I2 F2 => Fr [] [] [37, 38] cn In Fn c2 I2 F2 ∧ IM c2 F2 ∧ (True)) r_4 cn5 In5 Fn5 := wh_5
    obtain ⟨hfc5, hIn5, h_5⟩ := vh_5
    obtain rfl : cn = cn5 := (funext (fun k => hfc5.1 k List.not_mem_nil)).symm
    obtain rfl : In = In5 := (funext (fun k => hfc5.2.1 k List.not_mem_nil)).symm
    have hf5 : Fr [] [] [37, 38] cn In Fn cn In Fn5 := Fr.mo (Fr.tr (Fr.rf (cn := cn) (In := In) (Fn := Fn)) hfc5) (sbl rfl) (sbl rfl) (sbl rfl)
    have hi_cn : Hid (CB cn) := hIn5.b
    refine lv_goto (tgt := 23) hx hb (oc_167 19 (aq_19 shX12_pence_0) sgw_0_4) rfl ?_
    exact W.iret (v := r_4) hx hb hr (fun t ht hW => ⟨⟨r_4, (cn, In, Fn5), rfl, ⟨(Fr.mo hf5 (sbl rfl) (sbl rfl) (sbl rfl)), hIn5, trivial⟩, by rw [ht]; exact hP, hD⟩, hS.F ht⟩) hS.2.2 (oc_172 23 (aq_23 shX12_pence_0))
  ·
    have h_2 : ¬ (0 ≤ v0.toInt ∧ v0.toInt < ((cn 2) : Int)) := h_2
    refine lv_if_eq (tgt := 22) hx hb (oc_153 5 (aq_5 shX12_pence_0) sgw_0_17) rfl (fun _ => ?_) (fun h => absurd h cq_eq_0_0)
    refine lv_iconst (v := (-1)) hx hb (oc_2 22 (aq_22 shX12_pence_0)) kic_m1 ?_
    exact W.iret (v := (-1)) hx hb hr (fun t ht hW => ⟨⟨(-1), (cn, In, Fn), rfl, ⟨(Fr.mo Fr.rf (sbl rfl) (sbl rfl) (sbl rfl)), hI, trivial⟩, by rw [ht]; exact hP, hD⟩, hS.F ht⟩) hS.2.2 (oc_172 23 (aq_23 shX12_pence_0))
set_option maxRecDepth 100000 in
set_option maxHeartbeats 4000000 in
theorem q_paid (l : Launch) (D : va_G) (cI cB cZ : ClassId) (g : Nat → Nat) (cn : Nat → Nat) (In : Nat → Int32) (Fn : Nat → Nat → Int32) (v0 v1 : Int32) (sz : Nat) (hI : IM cn Fn) : Met l yX12_paid (CWS yX12_paid cX12_paid 5 (some .int)) (RM 3 0 0) (PBw [.ref (g 100), .int v0, .int v1] D cI cB cZ (wM cI cB cZ g cn In Fn) sz) (va_Qi (fun (r : Int32) (u : (Nat → Nat) × (Nat → Int32) × (Nat → Nat → Int32)) => (fun r c2 I2 F2 => Fr [] [] [37, 38] cn In Fn c2 I2 F2 ∧ IM c2 F2 ∧ (True)) r u.1 u.2.1 u.2.2) (fun (u : (Nat → Nat) × (Nat → Int32) × (Nat → Nat → Int32)) (t : State) => va_P D vwCl (wM cI cB cZ g u.1 u.2.1 u.2.2) t.heap ∧ va_D (va_A (wM cI cB cZ g cn In Fn) sz) (wM cI cB cZ g u.1 u.2.1 u.2.2)) (va_A (wM cI cB cZ g cn In Fn) sz)) 0 0 (va_A (wM cI cB cZ g cn In Fn) sz) := by
  refine en_w (fun A => (va_Qi (fun (r : Int32) (u : (Nat → Nat) × (Nat → Int32) × (Nat → Nat → Int32)) => (fun (r : Int32) (c2 : Nat → Nat) (I2 : Nat → Int32) (F2 : Nat → Nat → Int32) => Fr [] [] [37, 38] cn In Fn c2 I2 F2 ∧ IM c2 F2 ∧ (True)) r u.1 u.2.1 u.2.2) (fun (u : (Nat → Nat) × (Nat → Int32) × (Nat → Nat → Int32)) (t : State) => va_P D vwCl (wM cI cB cZ g u.1 u.2.1 u.2.2) t.heap ∧ va_D A (wM cI cB cZ g u.1 u.2.1 u.2.2)) A)) rfl rfl pn_RX12 (Nat.le_of_ble_eq_true rfl) (fun p e s m below meth c A hx hb hml hown S hr hlocks hnm hA hP hK hD hS ls hl => ?_)
  have hl : lv_has ls 5 [(0, .ref (g 100)), (1, .int v0), (2, .int v1)] := hl
  have hi_cn : Hid (CB cn) := hI.b
  refine lv_aload_n hx hb (oc_42 0 shX12_paid_0) rfl (lvA0 hl) ?_
  refine lv_iload_n hx hb (oc_27 1 (aq_1 shX12_paid_0)) rfl (lvA1 hl) ?_
  refine vp_callSi (runV_ra (As := [.int v0]) (rest := []) S (q_isKitchen l D cI cB cZ g cn In Fn v0 hI) kV_RX12_218 hK hP 0 rfl rfl rfl ⟨Nat.le_of_ble_eq_true rfl, Nat.le_of_ble_eq_true rfl⟩ ⟨Nat.le_of_ble_eq_true rfl, Nat.le_of_ble_eq_true rfl⟩ rfl hl.1 rfl (Nat.le_of_ble_eq_true rfl) (oc_182 2 (aq_2 shX12_paid_0) uw_0_218)) (fun r_1 h_2 => ?_)
  rcases h_2 with ⟨rfl, h_2⟩ | ⟨rfl, h_2⟩
  ·
    have h_2 : 0 ≤ v0.toInt ∧ v0.toInt < ((cn 1) : Int) := h_2
    refine lv_if_eq (tgt := 15) hx hb (oc_153 5 (aq_5 shX12_paid_0) sgw_0_10) rfl (fun h => absurd h cq_eq_1_0) (fun _ => ?_)
    obtain ⟨d0, hd0, rfl⟩ := nI_of (x := v0) (fun q => by have := Int32.lt_iff_toInt_lt.mp q; have e : (0 : Int32).toInt = 0 := rfl; (first | omega | (have zz0 := Hid.u hi_cn; omega)))
    have td0 : (nI d0).toInt = (d0 : Int) := nI_toInt hd0
    have zd0 : (nI d0).toInt.toNat = d0 := by (first | omega | (have zz0 := Hid.u hi_cn; omega))
    refine lv_iload_n hx hb (oc_28 8 (aq_8 shX12_paid_0)) rfl (lvA2 hl) ?_
    refine vp_callSi (runS_r (As := [.int v1]) (rest := []) S (q_isDay l D cI cB cZ v1 ) kS_RX12_341 hK hP [] rfl ⟨Nat.le_of_ble_eq_true rfl, Nat.le_of_ble_eq_true rfl⟩ ⟨Nat.le_of_ble_eq_true rfl, Nat.le_of_ble_eq_true rfl⟩ rfl hl.1 rfl (Nat.le_of_ble_eq_true rfl) (oc_184 9 (aq_9 shX12_paid_0) uw_1_85)) (fun r_3 h_4 => ?_)
    rcases h_4 with ⟨rfl, h_4⟩ | ⟨rfl, h_4⟩
    ·
      have h_4 : 0 ≤ v1.toInt ∧ v1.toInt ≤ 399 := h_4
      refine lv_if_ne (tgt := 17) hx hb (oc_154 12 (aq_12 shX12_paid_0) sgw_0_5) rfl (fun _ => ?_) (fun h => absurd h cq_eq_1_0)
      refine lv_iconst (v := 0) hx hb (oc_3 17 (aq_17 shX12_paid_0)) kic_0 ?_
      refine lv_istore_n (lv' := [(3, .int 0), (0, .ref (g 100)), (1, .int (nI d0)), (2, .int v1)]) hx hb (oc_62 18 (aq_18 shX12_paid_0)) rfl hl (ltb rfl) rfl (fun ls hl => ?_)
      refine lv_iconst (v := 0) hx hb (oc_3 19 (aq_19 shX12_paid_0)) kic_0 ?_
      refine lv_istore (lv' := [(4, .int 0), (3, .int 0), (0, .ref (g 100)), (1, .int (nI d0)), (2, .int v1)]) hx hb (oc_54 20 (aq_20 shX12_paid_0) ub_4) hl (ltb rfl) rfl (fun ls hl => ?_)
      have lp_22 : ∀ (n : Nat) (i22 : Nat) (x22_3 : Int32) (F22 : Nat → Nat → Int32) (H : Heap) (locs : List Loc) , cn 2 - i22 < n → (i22 ≤ cn 2 ∧ Fr [] [] [37, 38] cn In Fn cn In F22 ∧ IM cn F22) → va_P D vwCl (wM cI cB cZ g cn In F22) H → va_D A (wM cI cB cZ g cn In F22) → va_S A s.heap H locs → ∀ ls : Array Slot, lv_has ls 5 [(4, .int (nI i22)), (3, .int x22_3), (0, .ref (g 100)), (1, .int (nI d0)), (2, .int v1)] → W p l e (RM 3 0 0) s m ([.ref (g 100), .int (nI d0), .int v1]).toArray below meth c H locs 0 0 (MQ below (va_Qi (fun (r : Int32) (u : (Nat → Nat) × (Nat → Int32) × (Nat → Nat → Int32)) => (fun r c2 I2 F2 => Fr [] [] [37, 38] cn In Fn c2 I2 F2 ∧ IM c2 F2 ∧ (True)) r u.1 u.2.1 u.2.2) (fun (u : (Nat → Nat) × (Nat → Int32) × (Nat → Nat → Int32)) (t : State) => va_P D vwCl (wM cI cB cZ g u.1 u.2.1 u.2.2) t.heap ∧ va_D A (wM cI cB cZ g u.1 u.2.1 u.2.2)) A) ([.ref (g 100), .int (nI d0), .int v1]).toArray s 0 0 A) (F0 m 22 ls []) := by
        intro n22
        induction n22 with
        | zero => intros; (first | omega | (have zz0 := Hid.u hi_cn; omega))
        | succ n22 ih22 =>
          intro i22 x22_3 F22 H locs hmu22 hinv22 hP hD hS ls hl
          obtain ⟨hr22, hfr22, hI22⟩ := hinv22
          have ti22 : (nI i22).toInt = (i22 : Int) := nI_toInt (by (first | omega | (have zz0 := Hid.u hi_cn; omega)))
          have hi_cn : Hid (CB cn) := hI22.b
          refine lv_iload hx hb (oc_21 22 (aq_22 shX12_paid_0) ub_4) (lvA0 hl) ?_
          refine lv_aload_n hx hb (oc_42 24 shX12_paid_24) rfl (lvA2 hl) ?_
          refine gM_208 S hK hP (v := .int (nI (cn 2))) rfl (oc_180 25 (aq_1 shX12_paid_24) uw_0_208) ?_
          have : (nI (cn 2)).toInt = (((cn 2) : Nat) : Int) := nI_toInt (by (first | omega | (have zz0 := Hid.u hi_cn; omega)))
          refine lv_icmp_ge (tgt := 73) hx hb (oc_162 28 (aq_4 shX12_paid_24) sgw_0_45) rfl (fun c_5 => ?_) (fun c_5 => ?_)
          ·
            have tc_5 : ((nI (cn 2)).toInt : Int) ≤ (nI i22).toInt := Int32.le_iff_toInt_le.mp c_5
            refine lv_iload_n hx hb (oc_29 73 shX12_paid_73) rfl (lvA1 hl) ?_
            exact W.iret (v := x22_3) hx hb hr (fun t ht hW => ⟨⟨x22_3, (cn, In, F22), rfl, ⟨(Fr.mo hfr22 (sbl rfl) (sbl rfl) (sbl rfl)), hI22, trivial⟩, by rw [ht]; exact hP, hD⟩, hS.F ht⟩) hS.2.2 (oc_172 74 (aq_1 shX12_paid_73))
          ·
            have tc_5 : ((nI i22).toInt : Int) < (nI (cn 2)).toInt := Int32.lt_iff_toInt_lt.mp (Int32.not_le.mp c_5)
            refine lv_iload_n hx hb (oc_29 31 (aq_7 shX12_paid_24)) rfl (lvA1 hl) ?_
            refine lv_aload_n hx hb (oc_42 32 (aq_8 shX12_paid_24)) rfl (lvA2 hl) ?_
            refine gM_25 S hK hP (v := .ref (g 8)) rfl (oc_180 33 (aq_9 shX12_paid_24) uw_0_25) ?_
            refine lv_iload hx hb (oc_21 36 (aq_12 shX12_paid_24) ub_4) (lvA0 hl) ?_
            have kb_1 : i22 < 60 := by (first | omega | (have zz0 := Hid.u hi_cn; omega))
            obtain ⟨a_6, ha_6, ea_6⟩ := hI22.e8 i22 (by (first | omega | (have zz0 := Hid.u hi_cn; omega)))
            refine ldM_8 hx hb hK hP (x := (nI a_6)) (vp_in_nI kb_1 (ltb rfl)) (nI_clamp (Nat.lt_trans kb_1 (ltb rfl))) ea_6 (oc_46 38 (aq_14 shX12_paid_24)) ?_
            refine lv_iload_n hx hb (oc_27 39 (aq_15 shX12_paid_24)) rfl (lvA3 hl) ?_
            have : (nI a_6).toInt = ((a_6 : Nat) : Int) := nI_toInt (by (first | omega | (have zz0 := Hid.u hi_cn; omega)))
            refine lv_icmp_ne (tgt := 64) hx hb (oc_160 40 (aq_16 shX12_paid_24) sgw_0_24) rfl (fun c_7 => ?_) (fun c_7 => ?_)
            ·
              have tc_7 : ((nI a_6).toInt : Int) ≠ (nI d0).toInt := fun q => c_7 (Int32.toInt_inj.mp q)
              refine lv_iconst (v := 0) hx hb (oc_3 64 (aq_15 shX12_paid_49)) kic_0 ?_
              refine lv_iadd hx hb (oc_96 65 (aq_16 shX12_paid_49)) ?_
              refine lv_istore_n (lv' := [(3, .int (x22_3 + 0)), (4, .int (nI i22)), (0, .ref (g 100)), (1, .int (nI d0)), (2, .int v1)]) hx hb (oc_62 66 (aq_17 shX12_paid_49)) rfl hl (ltb rfl) rfl (fun ls hl => ?_)
              refine lv_iinc (v := (nI (i22 + 1))) (lv' := [(4, .int (nI (i22 + 1))), (3, .int (x22_3 + 0)), (0, .ref (g 100)), (1, .int (nI d0)), (2, .int v1)]) hx hb (oc_132 67 (aq_18 shX12_paid_49) ub_4 sgb_1) hl (k := 1) rfl (nI_1 _) (ltb rfl) rfl (fun ls hl => ?_)
              refine lv_goto (tgt := 22) hx hb (oc_167 70 (aq_21 shX12_paid_49) sgw_255_208) rfl ?_
              exact ih22 (i22 + 1) (x22_3 + 0) F22 _ _ (by (first | omega | (have zz0 := Hid.u hi_cn; omega))) ⟨(by (first | omega | (have zz0 := Hid.u hi_cn; omega))), (Fr.mo hfr22 (sbl rfl) (sbl rfl) (sbl rfl)), hI22⟩ hP hD hS ls (lv_sub hl [0, 1, 2, 3, 4] rfl)
            ·
              have tc_7 : ((nI a_6).toInt : Int) = (nI d0).toInt := congrArg Int32.toInt c_7
              refine lv_aload_n hx hb (oc_42 43 (aq_19 shX12_paid_24)) rfl (lvA2 hl) ?_
              refine gM_40 S hK hP (v := .ref (g 13)) rfl (oc_180 44 (aq_20 shX12_paid_24) uw_0_40) ?_
              refine lv_iload hx hb (oc_21 47 (aq_23 shX12_paid_24) ub_4) (lvA0 hl) ?_
              refine ldM_13 hx hb hK hP (x := ((F22 13) i22)) (vp_in_nI kb_1 (ltb rfl)) (nI_clamp (Nat.lt_trans kb_1 (ltb rfl))) rfl (oc_46 49 shX12_paid_49) ?_
              refine lv_iload_n hx hb (oc_28 50 (aq_1 shX12_paid_49)) rfl (lvA4 hl) ?_
              refine lv_icmp_gt (tgt := 64) hx hb (oc_163 51 (aq_2 shX12_paid_49) sgw_0_13) rfl (fun c_8 => ?_) (fun c_8 => ?_)
              ·
                have tc_8 : (v1.toInt : Int) < ((F22 13) i22).toInt := Int32.lt_iff_toInt_lt.mp c_8
                refine lv_iconst (v := 0) hx hb (oc_3 64 (aq_15 shX12_paid_49)) kic_0 ?_
                refine lv_iadd hx hb (oc_96 65 (aq_16 shX12_paid_49)) ?_
                refine lv_istore_n (lv' := [(3, .int (x22_3 + 0)), (4, .int (nI i22)), (0, .ref (g 100)), (1, .int (nI d0)), (2, .int v1)]) hx hb (oc_62 66 (aq_17 shX12_paid_49)) rfl hl (ltb rfl) rfl (fun ls hl => ?_)
                refine lv_iinc (v := (nI (i22 + 1))) (lv' := [(4, .int (nI (i22 + 1))), (3, .int (x22_3 + 0)), (0, .ref (g 100)), (1, .int (nI d0)), (2, .int v1)]) hx hb (oc_132 67 (aq_18 shX12_paid_49) ub_4 sgb_1) hl (k := 1) rfl (nI_1 _) (ltb rfl) rfl (fun ls hl => ?_)
                refine lv_goto (tgt := 22) hx hb (oc_167 70 (aq_21 shX12_paid_49) sgw_255_208) rfl ?_
                exact ih22 (i22 + 1) (x22_3 + 0) F22 _ _ (by (first | omega | (have zz0 := Hid.u hi_cn; omega))) ⟨(by (first | omega | (have zz0 := Hid.u hi_cn; omega))), (Fr.mo hfr22 (sbl rfl) (sbl rfl) (sbl rfl)), hI22⟩ hP hD hS ls (lv_sub hl [0, 1, 2, 3, 4] rfl)
              ·
                have tc_8 : (((F22 13) i22).toInt : Int) ≤ v1.toInt := Int32.le_iff_toInt_le.mp (Int32.not_lt.mp c_8)
                refine lv_aload_n hx hb (oc_42 54 (aq_5 shX12_paid_49)) rfl (lvA2 hl) ?_
                refine lv_iload hx hb (oc_21 55 (aq_6 shX12_paid_49) ub_4) (lvA0 hl) ?_
                refine lv_iload_n hx hb (oc_27 57 (aq_8 shX12_paid_49)) rfl (lvA3 hl) ?_
                have hFc := free_all hD hS hA
                refine va_calli (runV_a (As := [.int (nI i22), .int (nI d0)]) (rest := [.int x22_3]) S (q_penceFor l D cI cB cZ g cn In F22 i22 d0 H.size hI22 (by (first | omega | (have zz0 := Hid.u hi_cn; omega))) (by (first | omega | (have zz0 := Hid.u hi_cn; omega)))) kV_RX12_338 hK hP hD 0 rfl rfl rfl ⟨Nat.le_of_ble_eq_true rfl, Nat.le_of_ble_eq_true rfl⟩ ⟨Nat.le_of_ble_eq_true rfl, Nat.le_of_ble_eq_true rfl⟩ rfl hl.1 rfl (Nat.le_of_ble_eq_true rfl) (oc_182 58 (aq_9 shX12_paid_49) uw_1_82)) hS (fun q _ h => hFc q h) hFc (fun r_9 u t H1 locs ht hvm wh_10 hB hz1 hk1 hS => ?_)
                obtain ⟨cn10, In10, Fn10⟩ := u
                obtain ⟨hP1, hD1⟩ := hB
                rw [ht] at hP1
                have hP : va_P D vwCl (wM cI cB cZ g cn10 In10 Fn10) H1 := hP1
                have hD : va_D A (wM cI cB cZ g cn10 In10 Fn10) := hD1.weaken (fun _ _ _ h => hFc _ h)
                generalize H1 = H at hP hS ⊢
                have vh_10 : (fun r c2 I2 F2 => Fr [] [] [37, 38] cn In F22 c2 I2 F2 ∧ IM c2 F2 ∧ (True)) r_9 cn10 In10 Fn10 := wh_10
                obtain ⟨hfc10, hIn10, h_10⟩ := vh_10
                obtain rfl : cn = cn10 := (funext (fun k => hfc10.1 k List.not_mem_nil)).symm
                obtain rfl : In = In10 := (funext (fun k => hfc10.2.1 k List.not_mem_nil)).symm
                have hf10 : Fr [] [] [37, 38] cn In Fn cn In Fn10 := Fr.mo (Fr.tr hfr22 hfc10) (sbl rfl) (sbl rfl) (sbl rfl)
                have hi_cn : Hid (CB cn) := hIn10.b
                refine lv_goto (tgt := 65) hx hb (oc_167 61 (aq_12 shX12_paid_49) sgw_0_4) rfl ?_
                refine lv_iadd hx hb (oc_96 65 (aq_16 shX12_paid_49)) ?_
                refine lv_istore_n (lv' := [(3, .int (x22_3 + r_9)), (4, .int (nI i22)), (0, .ref (g 100)), (1, .int (nI d0)), (2, .int v1)]) hx hb (oc_62 66 (aq_17 shX12_paid_49)) rfl hl (ltb rfl) rfl (fun ls hl => ?_)
                refine lv_iinc (v := (nI (i22 + 1))) (lv' := [(4, .int (nI (i22 + 1))), (3, .int (x22_3 + r_9)), (0, .ref (g 100)), (1, .int (nI d0)), (2, .int v1)]) hx hb (oc_132 67 (aq_18 shX12_paid_49) ub_4 sgb_1) hl (k := 1) rfl (nI_1 _) (ltb rfl) rfl (fun ls hl => ?_)
                refine lv_goto (tgt := 22) hx hb (oc_167 70 (aq_21 shX12_paid_49) sgw_255_208) rfl ?_
                exact ih22 (i22 + 1) (x22_3 + r_9) Fn10 _ _ (by (first | omega | (have zz0 := Hid.u hi_cn; omega))) ⟨(by (first | omega | (have zz0 := Hid.u hi_cn; omega))), (Fr.mo hf10 (sbl rfl) (sbl rfl) (sbl rfl)), hIn10⟩ hP hD hS ls (lv_sub hl [0, 1, 2, 3, 4] rfl)
      exact lp_22 _ 0 0 Fn _ _ (Nat.lt_succ_self _) ⟨(by (first | omega | (have zz0 := Hid.u hi_cn; omega))), (Fr.mo Fr.rf (sbl rfl) (sbl rfl) (sbl rfl)), hI⟩ hP hD hS ls (lv_sub hl [0, 1, 2, 3, 4] rfl)
    ·
      have h_4 : ¬ (0 ≤ v1.toInt ∧ v1.toInt ≤ 399) := h_4
      refine lv_if_ne (tgt := 17) hx hb (oc_154 12 (aq_12 shX12_paid_0) sgw_0_5) rfl (fun h => absurd h cq_eq_0_0) (fun _ => ?_)
      refine lv_iconst (v := (-1)) hx hb (oc_2 15 (aq_15 shX12_paid_0)) kic_m1 ?_
      exact W.iret (v := (-1)) hx hb hr (fun t ht hW => ⟨⟨(-1), (cn, In, Fn), rfl, ⟨(Fr.mo Fr.rf (sbl rfl) (sbl rfl) (sbl rfl)), hI, trivial⟩, by rw [ht]; exact hP, hD⟩, hS.F ht⟩) hS.2.2 (oc_172 16 (aq_16 shX12_paid_0))
  ·
    have h_2 : ¬ (0 ≤ v0.toInt ∧ v0.toInt < ((cn 1) : Int)) := h_2
    refine lv_if_eq (tgt := 15) hx hb (oc_153 5 (aq_5 shX12_paid_0) sgw_0_10) rfl (fun _ => ?_) (fun h => absurd h cq_eq_0_0)
    refine lv_iconst (v := (-1)) hx hb (oc_2 15 (aq_15 shX12_paid_0)) kic_m1 ?_
    exact W.iret (v := (-1)) hx hb hr (fun t ht hW => ⟨⟨(-1), (cn, In, Fn), rfl, ⟨(Fr.mo Fr.rf (sbl rfl) (sbl rfl) (sbl rfl)), hI, trivial⟩, by rw [ht]; exact hP, hD⟩, hS.F ht⟩) hS.2.2 (oc_172 16 (aq_16 shX12_paid_0))
set_option maxRecDepth 100000 in
set_option maxHeartbeats 4000000 in
theorem q_asIf (l : Launch) (D : va_G) (cI cB cZ : ClassId) (g : Nat → Nat) (cn : Nat → Nat) (In : Nat → Int32) (Fn : Nat → Nat → Int32) (v0 v1 : Int32) (sz : Nat) (hI : IM cn Fn) : Met l yX12_asIf (CWS yX12_asIf cX12_asIf 5 (some .int)) (RM 3 0 0) (PBw [.ref (g 100), .int v0, .int v1] D cI cB cZ (wM cI cB cZ g cn In Fn) sz) (va_Qi (fun (r : Int32) (u : (Nat → Nat) × (Nat → Int32) × (Nat → Nat → Int32)) => (fun r c2 I2 F2 => Fr [] [] [37, 38] cn In Fn c2 I2 F2 ∧ IM c2 F2 ∧ (True)) r u.1 u.2.1 u.2.2) (fun (u : (Nat → Nat) × (Nat → Int32) × (Nat → Nat → Int32)) (t : State) => va_P D vwCl (wM cI cB cZ g u.1 u.2.1 u.2.2) t.heap ∧ va_D (va_A (wM cI cB cZ g cn In Fn) sz) (wM cI cB cZ g u.1 u.2.1 u.2.2)) (va_A (wM cI cB cZ g cn In Fn) sz)) 0 0 (va_A (wM cI cB cZ g cn In Fn) sz) := by
  refine en_w (fun A => (va_Qi (fun (r : Int32) (u : (Nat → Nat) × (Nat → Int32) × (Nat → Nat → Int32)) => (fun (r : Int32) (c2 : Nat → Nat) (I2 : Nat → Int32) (F2 : Nat → Nat → Int32) => Fr [] [] [37, 38] cn In Fn c2 I2 F2 ∧ IM c2 F2 ∧ (True)) r u.1 u.2.1 u.2.2) (fun (u : (Nat → Nat) × (Nat → Int32) × (Nat → Nat → Int32)) (t : State) => va_P D vwCl (wM cI cB cZ g u.1 u.2.1 u.2.2) t.heap ∧ va_D A (wM cI cB cZ g u.1 u.2.1 u.2.2)) A)) rfl rfl pn_RX12 (Nat.le_of_ble_eq_true rfl) (fun p e s m below meth c A hx hb hml hown S hr hlocks hnm hA hP hK hD hS ls hl => ?_)
  have hl : lv_has ls 5 [(0, .ref (g 100)), (1, .int v0), (2, .int v1)] := hl
  have hi_cn : Hid (CB cn) := hI.b
  refine lv_aload_n hx hb (oc_42 0 shX12_asIf_0) rfl (lvA0 hl) ?_
  refine lv_iload_n hx hb (oc_27 1 (aq_1 shX12_asIf_0)) rfl (lvA1 hl) ?_
  refine vp_callSi (runV_ra (As := [.int v0]) (rest := []) S (q_isKitchen l D cI cB cZ g cn In Fn v0 hI) kV_RX12_218 hK hP 0 rfl rfl rfl ⟨Nat.le_of_ble_eq_true rfl, Nat.le_of_ble_eq_true rfl⟩ ⟨Nat.le_of_ble_eq_true rfl, Nat.le_of_ble_eq_true rfl⟩ rfl hl.1 rfl (Nat.le_of_ble_eq_true rfl) (oc_182 2 (aq_2 shX12_asIf_0) uw_0_218)) (fun r_1 h_2 => ?_)
  rcases h_2 with ⟨rfl, h_2⟩ | ⟨rfl, h_2⟩
  ·
    have h_2 : 0 ≤ v0.toInt ∧ v0.toInt < ((cn 1) : Int) := h_2
    refine lv_if_eq (tgt := 16) hx hb (oc_153 5 (aq_5 shX12_asIf_0) sgw_0_11) rfl (fun h => absurd h cq_eq_1_0) (fun _ => ?_)
    refine lv_aload_n hx hb (oc_42 8 (aq_8 shX12_asIf_0)) rfl (lvA0 hl) ?_
    refine lv_iload_n hx hb (oc_28 9 (aq_9 shX12_asIf_0)) rfl (lvA2 hl) ?_
    refine vp_callSi (runV_ra (As := [.int v1]) (rest := []) S (q_isKitchen l D cI cB cZ g cn In Fn v1 hI) kV_RX12_218 hK hP 0 rfl rfl rfl ⟨Nat.le_of_ble_eq_true rfl, Nat.le_of_ble_eq_true rfl⟩ ⟨Nat.le_of_ble_eq_true rfl, Nat.le_of_ble_eq_true rfl⟩ rfl hl.1 rfl (Nat.le_of_ble_eq_true rfl) (oc_182 10 (aq_10 shX12_asIf_0) uw_0_218)) (fun r_3 h_4 => ?_)
    rcases h_4 with ⟨rfl, h_4⟩ | ⟨rfl, h_4⟩
    ·
      have h_4 : 0 ≤ v1.toInt ∧ v1.toInt < ((cn 1) : Int) := h_4
      refine lv_if_ne (tgt := 18) hx hb (oc_154 13 (aq_13 shX12_asIf_0) sgw_0_5) rfl (fun _ => ?_) (fun h => absurd h cq_eq_1_0)
      obtain ⟨d0, hd0, rfl⟩ := nI_of (x := v0) (fun q => by have := Int32.lt_iff_toInt_lt.mp q; have e : (0 : Int32).toInt = 0 := rfl; (first | omega | (have zz0 := Hid.u hi_cn; omega)))
      have td0 : (nI d0).toInt = (d0 : Int) := nI_toInt hd0
      have zd0 : (nI d0).toInt.toNat = d0 := by (first | omega | (have zz0 := Hid.u hi_cn; omega))
      obtain ⟨d1, hd1, rfl⟩ := nI_of (x := v1) (fun q => by have := Int32.lt_iff_toInt_lt.mp q; have e : (0 : Int32).toInt = 0 := rfl; (first | omega | (have zz0 := Hid.u hi_cn; omega)))
      have td1 : (nI d1).toInt = (d1 : Int) := nI_toInt hd1
      have zd1 : (nI d1).toInt.toNat = d1 := by (first | omega | (have zz0 := Hid.u hi_cn; omega))
      refine lv_iconst (v := 0) hx hb (oc_3 18 (aq_18 shX12_asIf_0)) kic_0 ?_
      refine lv_istore_n (lv' := [(3, .int 0), (0, .ref (g 100)), (1, .int (nI d0)), (2, .int (nI d1))]) hx hb (oc_62 19 (aq_19 shX12_asIf_0)) rfl hl (ltb rfl) rfl (fun ls hl => ?_)
      refine lv_iconst (v := 0) hx hb (oc_3 20 (aq_20 shX12_asIf_0)) kic_0 ?_
      refine lv_istore (lv' := [(4, .int 0), (3, .int 0), (0, .ref (g 100)), (1, .int (nI d0)), (2, .int (nI d1))]) hx hb (oc_54 21 (aq_21 shX12_asIf_0) ub_4) hl (ltb rfl) rfl (fun ls hl => ?_)
      have lp_23 : ∀ (n : Nat) (i23 : Nat) (x23_3 : Int32) (F23 : Nat → Nat → Int32) (H : Heap) (locs : List Loc) , cn 2 - i23 < n → (i23 ≤ cn 2 ∧ Fr [] [] [37, 38] cn In Fn cn In F23 ∧ IM cn F23) → va_P D vwCl (wM cI cB cZ g cn In F23) H → va_D A (wM cI cB cZ g cn In F23) → va_S A s.heap H locs → ∀ ls : Array Slot, lv_has ls 5 [(4, .int (nI i23)), (3, .int x23_3), (0, .ref (g 100)), (1, .int (nI d0)), (2, .int (nI d1))] → W p l e (RM 3 0 0) s m ([.ref (g 100), .int (nI d0), .int (nI d1)]).toArray below meth c H locs 0 0 (MQ below (va_Qi (fun (r : Int32) (u : (Nat → Nat) × (Nat → Int32) × (Nat → Nat → Int32)) => (fun r c2 I2 F2 => Fr [] [] [37, 38] cn In Fn c2 I2 F2 ∧ IM c2 F2 ∧ (True)) r u.1 u.2.1 u.2.2) (fun (u : (Nat → Nat) × (Nat → Int32) × (Nat → Nat → Int32)) (t : State) => va_P D vwCl (wM cI cB cZ g u.1 u.2.1 u.2.2) t.heap ∧ va_D A (wM cI cB cZ g u.1 u.2.1 u.2.2)) A) ([.ref (g 100), .int (nI d0), .int (nI d1)]).toArray s 0 0 A) (F0 m 23 ls []) := by
        intro n23
        induction n23 with
        | zero => intros; (first | omega | (have zz0 := Hid.u hi_cn; omega))
        | succ n23 ih23 =>
          intro i23 x23_3 F23 H locs hmu23 hinv23 hP hD hS ls hl
          obtain ⟨hr23, hfr23, hI23⟩ := hinv23
          have ti23 : (nI i23).toInt = (i23 : Int) := nI_toInt (by (first | omega | (have zz0 := Hid.u hi_cn; omega)))
          have hi_cn : Hid (CB cn) := hI23.b
          refine lv_iload hx hb (oc_21 23 (aq_23 shX12_asIf_0) ub_4) (lvA0 hl) ?_
          refine lv_aload_n hx hb (oc_42 25 shX12_asIf_25) rfl (lvA2 hl) ?_
          refine gM_208 S hK hP (v := .int (nI (cn 2))) rfl (oc_180 26 (aq_1 shX12_asIf_25) uw_0_208) ?_
          have : (nI (cn 2)).toInt = (((cn 2) : Nat) : Int) := nI_toInt (by (first | omega | (have zz0 := Hid.u hi_cn; omega)))
          refine lv_icmp_ge (tgt := 63) hx hb (oc_162 29 (aq_4 shX12_asIf_25) sgw_0_34) rfl (fun c_5 => ?_) (fun c_5 => ?_)
          ·
            have tc_5 : ((nI (cn 2)).toInt : Int) ≤ (nI i23).toInt := Int32.le_iff_toInt_le.mp c_5
            refine lv_iload_n hx hb (oc_29 63 (aq_12 shX12_asIf_51)) rfl (lvA1 hl) ?_
            exact W.iret (v := x23_3) hx hb hr (fun t ht hW => ⟨⟨x23_3, (cn, In, F23), rfl, ⟨(Fr.mo hfr23 (sbl rfl) (sbl rfl) (sbl rfl)), hI23, trivial⟩, by rw [ht]; exact hP, hD⟩, hS.F ht⟩) hS.2.2 (oc_172 64 (aq_13 shX12_asIf_51))
          ·
            have tc_5 : ((nI i23).toInt : Int) < (nI (cn 2)).toInt := Int32.lt_iff_toInt_lt.mp (Int32.not_le.mp c_5)
            refine lv_iload_n hx hb (oc_29 32 (aq_7 shX12_asIf_25)) rfl (lvA1 hl) ?_
            refine lv_aload_n hx hb (oc_42 33 (aq_8 shX12_asIf_25)) rfl (lvA2 hl) ?_
            refine gM_25 S hK hP (v := .ref (g 8)) rfl (oc_180 34 (aq_9 shX12_asIf_25) uw_0_25) ?_
            refine lv_iload hx hb (oc_21 37 (aq_12 shX12_asIf_25) ub_4) (lvA0 hl) ?_
            have kb_1 : i23 < 60 := by (first | omega | (have zz0 := Hid.u hi_cn; omega))
            obtain ⟨a_6, ha_6, ea_6⟩ := hI23.e8 i23 (by (first | omega | (have zz0 := Hid.u hi_cn; omega)))
            refine ldM_8 hx hb hK hP (x := (nI a_6)) (vp_in_nI kb_1 (ltb rfl)) (nI_clamp (Nat.lt_trans kb_1 (ltb rfl))) ea_6 (oc_46 39 (aq_14 shX12_asIf_25)) ?_
            refine lv_iload_n hx hb (oc_27 40 (aq_15 shX12_asIf_25)) rfl (lvA3 hl) ?_
            have : (nI a_6).toInt = ((a_6 : Nat) : Int) := nI_toInt (by (first | omega | (have zz0 := Hid.u hi_cn; omega)))
            refine lv_icmp_ne (tgt := 54) hx hb (oc_160 41 (aq_16 shX12_asIf_25) sgw_0_13) rfl (fun c_7 => ?_) (fun c_7 => ?_)
            ·
              have tc_7 : ((nI a_6).toInt : Int) ≠ (nI d0).toInt := fun q => c_7 (Int32.toInt_inj.mp q)
              refine lv_iconst (v := 0) hx hb (oc_3 54 (aq_3 shX12_asIf_51)) kic_0 ?_
              refine lv_iadd hx hb (oc_96 55 (aq_4 shX12_asIf_51)) ?_
              refine lv_istore_n (lv' := [(3, .int (x23_3 + 0)), (4, .int (nI i23)), (0, .ref (g 100)), (1, .int (nI d0)), (2, .int (nI d1))]) hx hb (oc_62 56 (aq_5 shX12_asIf_51)) rfl hl (ltb rfl) rfl (fun ls hl => ?_)
              refine lv_iinc (v := (nI (i23 + 1))) (lv' := [(4, .int (nI (i23 + 1))), (3, .int (x23_3 + 0)), (0, .ref (g 100)), (1, .int (nI d0)), (2, .int (nI d1))]) hx hb (oc_132 57 (aq_6 shX12_asIf_51) ub_4 sgb_1) hl (k := 1) rfl (nI_1 _) (ltb rfl) rfl (fun ls hl => ?_)
              refine lv_goto (tgt := 23) hx hb (oc_167 60 (aq_9 shX12_asIf_51) sgw_255_219) rfl ?_
              exact ih23 (i23 + 1) (x23_3 + 0) F23 _ _ (by (first | omega | (have zz0 := Hid.u hi_cn; omega))) ⟨(by (first | omega | (have zz0 := Hid.u hi_cn; omega))), (Fr.mo hfr23 (sbl rfl) (sbl rfl) (sbl rfl)), hI23⟩ hP hD hS ls (lv_sub hl [0, 1, 2, 3, 4] rfl)
            ·
              have tc_7 : ((nI a_6).toInt : Int) = (nI d0).toInt := congrArg Int32.toInt c_7
              refine lv_aload_n hx hb (oc_42 44 (aq_19 shX12_asIf_25)) rfl (lvA2 hl) ?_
              refine lv_iload hx hb (oc_21 45 (aq_20 shX12_asIf_25) ub_4) (lvA0 hl) ?_
              refine lv_iload_n hx hb (oc_28 47 (aq_22 shX12_asIf_25)) rfl (lvA4 hl) ?_
              have hFc := free_all hD hS hA
              refine va_calli (runV_a (As := [.int (nI i23), .int (nI d1)]) (rest := [.int x23_3]) S (q_penceFor l D cI cB cZ g cn In F23 i23 d1 H.size hI23 (by (first | omega | (have zz0 := Hid.u hi_cn; omega))) (by (first | omega | (have zz0 := Hid.u hi_cn; omega)))) kV_RX12_338 hK hP hD 0 rfl rfl rfl ⟨Nat.le_of_ble_eq_true rfl, Nat.le_of_ble_eq_true rfl⟩ ⟨Nat.le_of_ble_eq_true rfl, Nat.le_of_ble_eq_true rfl⟩ rfl hl.1 rfl (Nat.le_of_ble_eq_true rfl) (oc_182 48 (aq_23 shX12_asIf_25) uw_1_82)) hS (fun q _ h => hFc q h) hFc (fun r_8 u t H1 locs ht hvm wh_9 hB hz1 hk1 hS => ?_)
              obtain ⟨cn9, In9, Fn9⟩ := u
              obtain ⟨hP1, hD1⟩ := hB
              rw [ht] at hP1
              have hP : va_P D vwCl (wM cI cB cZ g cn9 In9 Fn9) H1 := hP1
              have hD : va_D A (wM cI cB cZ g cn9 In9 Fn9) := hD1.weaken (fun _ _ _ h => hFc _ h)
              generalize H1 = H at hP hS ⊢
              have vh_9 : (fun r c2 I2 F2 => Fr [] [] [37, 38] cn In F23 c2 I2 F2 ∧ IM c2 F2 ∧ (True)) r_8 cn9 In9 Fn9 := wh_9
              obtain ⟨hfc9, hIn9, h_9⟩ := vh_9
              obtain rfl : cn = cn9 := (funext (fun k => hfc9.1 k List.not_mem_nil)).symm
              obtain rfl : In = In9 := (funext (fun k => hfc9.2.1 k List.not_mem_nil)).symm
              have hf9 : Fr [] [] [37, 38] cn In Fn cn In Fn9 := Fr.mo (Fr.tr hfr23 hfc9) (sbl rfl) (sbl rfl) (sbl rfl)
              have hi_cn : Hid (CB cn) := hIn9.b
              refine lv_goto (tgt := 55) hx hb (oc_167 51 shX12_asIf_51 sgw_0_4) rfl ?_
              refine lv_iadd hx hb (oc_96 55 (aq_4 shX12_asIf_51)) ?_
              refine lv_istore_n (lv' := [(3, .int (x23_3 + r_8)), (4, .int (nI i23)), (0, .ref (g 100)), (1, .int (nI d0)), (2, .int (nI d1))]) hx hb (oc_62 56 (aq_5 shX12_asIf_51)) rfl hl (ltb rfl) rfl (fun ls hl => ?_)
              refine lv_iinc (v := (nI (i23 + 1))) (lv' := [(4, .int (nI (i23 + 1))), (3, .int (x23_3 + r_8)), (0, .ref (g 100)), (1, .int (nI d0)), (2, .int (nI d1))]) hx hb (oc_132 57 (aq_6 shX12_asIf_51) ub_4 sgb_1) hl (k := 1) rfl (nI_1 _) (ltb rfl) rfl (fun ls hl => ?_)
              refine lv_goto (tgt := 23) hx hb (oc_167 60 (aq_9 shX12_asIf_51) sgw_255_219) rfl ?_
              exact ih23 (i23 + 1) (x23_3 + r_8) Fn9 _ _ (by (first | omega | (have zz0 := Hid.u hi_cn; omega))) ⟨(by (first | omega | (have zz0 := Hid.u hi_cn; omega))), (Fr.mo hf9 (sbl rfl) (sbl rfl) (sbl rfl)), hIn9⟩ hP hD hS ls (lv_sub hl [0, 1, 2, 3, 4] rfl)
      exact lp_23 _ 0 0 Fn _ _ (Nat.lt_succ_self _) ⟨(by (first | omega | (have zz0 := Hid.u hi_cn; omega))), (Fr.mo Fr.rf (sbl rfl) (sbl rfl) (sbl rfl)), hI⟩ hP hD hS ls (lv_sub hl [0, 1, 2, 3, 4] rfl)
    ·
      have h_4 : ¬ (0 ≤ v1.toInt ∧ v1.toInt < ((cn 1) : Int)) := h_4
      refine lv_if_ne (tgt := 18) hx hb (oc_154 13 (aq_13 shX12_asIf_0) sgw_0_5) rfl (fun h => absurd h cq_eq_0_0) (fun _ => ?_)
      refine lv_iconst (v := (-1)) hx hb (oc_2 16 (aq_16 shX12_asIf_0)) kic_m1 ?_
      exact W.iret (v := (-1)) hx hb hr (fun t ht hW => ⟨⟨(-1), (cn, In, Fn), rfl, ⟨(Fr.mo Fr.rf (sbl rfl) (sbl rfl) (sbl rfl)), hI, trivial⟩, by rw [ht]; exact hP, hD⟩, hS.F ht⟩) hS.2.2 (oc_172 17 (aq_17 shX12_asIf_0))
  ·
    have h_2 : ¬ (0 ≤ v0.toInt ∧ v0.toInt < ((cn 1) : Int)) := h_2
    refine lv_if_eq (tgt := 16) hx hb (oc_153 5 (aq_5 shX12_asIf_0) sgw_0_11) rfl (fun _ => ?_) (fun h => absurd h cq_eq_0_0)
    refine lv_iconst (v := (-1)) hx hb (oc_2 16 (aq_16 shX12_asIf_0)) kic_m1 ?_
    exact W.iret (v := (-1)) hx hb hr (fun t ht hW => ⟨⟨(-1), (cn, In, Fn), rfl, ⟨(Fr.mo Fr.rf (sbl rfl) (sbl rfl) (sbl rfl)), hI, trivial⟩, by rw [ht]; exact hP, hD⟩, hS.F ht⟩) hS.2.2 (oc_172 17 (aq_17 shX12_asIf_0))
set_option maxRecDepth 100000 in
set_option maxHeartbeats 4000000 in
theorem q_whyNot (l : Launch) (D : va_G) (cI cB cZ : ClassId) (g : Nat → Nat) (cn : Nat → Nat) (In : Nat → Int32) (Fn : Nat → Nat → Int32) (v0 : Int32) (sz : Nat) (hI : IM cn Fn) : Met l yX12_whyNot (CWS yX12_whyNot cX12_whyNot 3 (some .int)) (RM 2 0 0) (PBw [.ref (g 100), .int v0] D cI cB cZ (wM cI cB cZ g cn In Fn) sz) (va_Qi (fun (r : Int32) (u : (Nat → Nat) × (Nat → Int32) × (Nat → Nat → Int32)) => (fun r c2 I2 F2 => Fr [] [71, 72, 73] [37, 38] cn In Fn c2 I2 F2 ∧ IM c2 F2 ∧ (True)) r u.1 u.2.1 u.2.2) (fun (u : (Nat → Nat) × (Nat → Int32) × (Nat → Nat → Int32)) (t : State) => va_P D vwCl (wM cI cB cZ g u.1 u.2.1 u.2.2) t.heap ∧ va_D (va_A (wM cI cB cZ g cn In Fn) sz) (wM cI cB cZ g u.1 u.2.1 u.2.2)) (va_A (wM cI cB cZ g cn In Fn) sz)) 0 0 (va_A (wM cI cB cZ g cn In Fn) sz) := by
  refine en_w (fun A => (va_Qi (fun (r : Int32) (u : (Nat → Nat) × (Nat → Int32) × (Nat → Nat → Int32)) => (fun (r : Int32) (c2 : Nat → Nat) (I2 : Nat → Int32) (F2 : Nat → Nat → Int32) => Fr [] [71, 72, 73] [37, 38] cn In Fn c2 I2 F2 ∧ IM c2 F2 ∧ (True)) r u.1 u.2.1 u.2.2) (fun (u : (Nat → Nat) × (Nat → Int32) × (Nat → Nat → Int32)) (t : State) => va_P D vwCl (wM cI cB cZ g u.1 u.2.1 u.2.2) t.heap ∧ va_D A (wM cI cB cZ g u.1 u.2.1 u.2.2)) A)) rfl rfl pn_RX12 (Nat.le_of_ble_eq_true rfl) (fun p e s m below meth c A hx hb hml hown S hr hlocks hnm hA hP hK hD hS ls hl => ?_)
  have hl : lv_has ls 3 [(0, .ref (g 100)), (1, .int v0)] := hl
  have hi_cn : Hid (CB cn) := hI.b
  refine lv_aload_n hx hb (oc_42 0 shX12_whyNot_0) rfl (lvA0 hl) ?_
  refine lv_iload_n hx hb (oc_27 1 (aq_1 shX12_whyNot_0)) rfl (lvA1 hl) ?_
  have hFc := free_all hD hS hA
  refine va_callv (runV_a (As := [.int v0]) (rest := []) S (q_mixes l D cI cB cZ g cn In Fn v0 s.heap.size hI) kV_RX12_428 hK hP hD 0 rfl rfl rfl ⟨Nat.le_of_ble_eq_true rfl, Nat.le_of_ble_eq_true rfl⟩ ⟨Nat.le_of_ble_eq_true rfl, Nat.le_of_ble_eq_true rfl⟩ rfl hl.1 rfl (Nat.le_of_ble_eq_true rfl) (oc_182 2 (aq_2 shX12_whyNot_0) uw_1_172)) hS (fun q _ h => hFc q h) hFc (fun u t H1 locs ht hvm wh_2 hB hz1 hk1 hS => ?_)
  obtain ⟨cn2, In2, Fn2⟩ := u
  obtain ⟨hP1, hD1⟩ := hB
  rw [ht] at hP1
  have hP : va_P D vwCl (wM cI cB cZ g cn2 In2 Fn2) H1 := hP1
  have hD : va_D A (wM cI cB cZ g cn2 In2 Fn2) := hD1.weaken (fun _ _ _ h => hFc _ h)
  generalize H1 = H at hP hS ⊢
  have vh_2 : (fun c2 I2 F2 => Fr [] [71, 72, 73] [] cn In Fn c2 I2 F2 ∧ IM c2 F2 ∧ (I2 71 = nI (mixN ((Fn 10)) v0 20))) cn2 In2 Fn2 := wh_2
  obtain ⟨hfc2, hIn2, h_2⟩ := vh_2
  obtain rfl : cn = cn2 := (funext (fun k => hfc2.1 k List.not_mem_nil)).symm
  obtain rfl : Fn = Fn2 := (funext (fun k => hfc2.2.2 k List.not_mem_nil)).symm
  have hf2 : Fr [] [71, 72, 73] [37, 38] cn In Fn cn In2 Fn := Fr.mo (Fr.tr (Fr.rf (cn := cn) (In := In) (Fn := Fn)) hfc2) (sbl rfl) (sbl rfl) (sbl rfl)
  have hi_cn : Hid (CB cn) := hIn2.b
  refine lv_aload_n hx hb (oc_42 5 (aq_5 shX12_whyNot_0)) rfl (lvA0 hl) ?_
  refine gM_89 S hK hP (v := .ref (g 38)) rfl (oc_180 6 (aq_6 shX12_whyNot_0) uw_0_89) ?_
  refine lv_iconst (v := 0) hx hb (oc_3 9 (aq_9 shX12_whyNot_0)) kic_0 ?_
  refine lv_aload_n hx hb (oc_42 10 (aq_10 shX12_whyNot_0)) rfl (lvA0 hl) ?_
  refine gM_419 S hK hP (v := .int (In2 71)) rfl (oc_180 11 (aq_11 shX12_whyNot_0) uw_1_163) ?_
  refine stM_38 hx hb hK hP hD hS (Fn2 := (va_up Fn 38 (upd (Fn 38) 0 (In2 71)))) (by unfold vp_in; decide) (by decide) rfl (oc_79 14 (aq_14 shX12_whyNot_0)) (fun H locs hP hD hS => ?_)
  refine lv_aload_n hx hb (oc_42 15 (aq_15 shX12_whyNot_0)) rfl (lvA0 hl) ?_
  refine gM_89 S hK hP (v := .ref (g 38)) rfl (oc_180 16 (aq_16 shX12_whyNot_0) uw_0_89) ?_
  refine lv_iconst (v := 1) hx hb (oc_4 19 (aq_19 shX12_whyNot_0)) kic_1 ?_
  refine lv_aload_n hx hb (oc_42 20 (aq_20 shX12_whyNot_0)) rfl (lvA0 hl) ?_
  refine gM_422 S hK hP (v := .int (In2 72)) rfl (oc_180 21 (aq_21 shX12_whyNot_0) uw_1_166) ?_
  refine stM_38 hx hb hK hP hD hS (Fn2 := (va_up Fn 38 (upd (upd (Fn 38) 0 (In2 71)) 1 (In2 72)))) (by unfold vp_in; decide) (by decide) (bx_uu _ _ _ _) (oc_79 24 shX12_whyNot_24) (fun H locs hP hD hS => ?_)
  refine lv_aload_n hx hb (oc_42 25 (aq_1 shX12_whyNot_24)) rfl (lvA0 hl) ?_
  refine gM_89 S hK hP (v := .ref (g 38)) rfl (oc_180 26 (aq_2 shX12_whyNot_24) uw_0_89) ?_
  refine lv_iconst (v := 2) hx hb (oc_5 29 (aq_5 shX12_whyNot_24)) kic_2 ?_
  refine lv_aload_n hx hb (oc_42 30 (aq_6 shX12_whyNot_24)) rfl (lvA0 hl) ?_
  refine gM_425 S hK hP (v := .int (In2 73)) rfl (oc_180 31 (aq_7 shX12_whyNot_24) uw_1_169) ?_
  refine stM_38 hx hb hK hP hD hS (Fn2 := (va_up Fn 38 (upd (upd (upd (Fn 38) 0 (In2 71)) 1 (In2 72)) 2 (In2 73)))) (by unfold vp_in; decide) (by decide) (bx_uu _ _ _ _) (oc_79 34 (aq_10 shX12_whyNot_24)) (fun H locs hP hD hS => ?_)
  refine lv_aload_n hx hb (oc_42 35 (aq_11 shX12_whyNot_24)) rfl (lvA0 hl) ?_
  refine gM_89 S hK hP (v := .ref (g 38)) rfl (oc_180 36 (aq_12 shX12_whyNot_24) uw_0_89) ?_
  refine lv_iconst (v := 3) hx hb (oc_6 39 (aq_15 shX12_whyNot_24)) kic_3 ?_
  refine lv_aload_n hx hb (oc_42 40 (aq_16 shX12_whyNot_24)) rfl (lvA0 hl) ?_
  refine gM_211 S hK hP (v := .int (nI (cn 0))) rfl (oc_180 41 (aq_17 shX12_whyNot_24) uw_0_211) ?_
  refine stM_38 hx hb hK hP hD hS (Fn2 := (va_up Fn 38 (upd (upd (upd (upd (Fn 38) 0 (In2 71)) 1 (In2 72)) 2 (In2 73)) 3 (nI (cn 0))))) (by unfold vp_in; decide) (by decide) (bx_uu _ _ _ _) (oc_79 44 (aq_20 shX12_whyNot_24)) (fun H locs hP hD hS => ?_)
  refine lv_aload_n hx hb (oc_42 45 (aq_21 shX12_whyNot_24)) rfl (lvA0 hl) ?_
  refine gM_89 S hK hP (v := .ref (g 38)) rfl (oc_180 46 (aq_22 shX12_whyNot_24) uw_0_89) ?_
  refine lv_iconst (v := 4) hx hb (oc_7 49 shX12_whyNot_49) kic_4 ?_
  refine lv_aload_n hx hb (oc_42 50 (aq_1 shX12_whyNot_49)) rfl (lvA0 hl) ?_
  refine gM_211 S hK hP (v := .int (nI (cn 0))) rfl (oc_180 51 (aq_2 shX12_whyNot_49) uw_0_211) ?_
  refine lv_bipush (v := 7) hx hb (oc_16 54 (aq_5 shX12_whyNot_49) sgb_7) kbc_7 ?_
  refine lv_idiv hx hb (oc_108 56 (aq_7 shX12_whyNot_49)) (by decide) ?_
  refine lv_topi (fun y_3 ey_3 => ?_)
  obtain rfl : y_3 = (nI ((cn 0) / 7)) := ey_3.trans (nI_div (by (first | omega | (have zz0 := Hid.u hi_cn; omega))) (by decide))
  refine stM_38 hx hb hK hP hD hS (Fn2 := (va_up Fn 38 (upd (upd (upd (upd (upd (Fn 38) 0 (In2 71)) 1 (In2 72)) 2 (In2 73)) 3 (nI (cn 0))) 4 (nI ((cn 0) / 7))))) (by unfold vp_in; decide) (by decide) (bx_uu _ _ _ _) (oc_79 57 (aq_8 shX12_whyNot_49)) (fun H locs hP hD hS => ?_)
  refine lv_aload_n hx hb (oc_42 58 (aq_9 shX12_whyNot_49)) rfl (lvA0 hl) ?_
  refine gM_89 S hK hP (v := .ref (g 38)) rfl (oc_180 59 (aq_10 shX12_whyNot_49) uw_0_89) ?_
  refine lv_iconst (v := 5) hx hb (oc_8 62 (aq_13 shX12_whyNot_49)) kic_5 ?_
  refine lv_aload_n hx hb (oc_42 63 (aq_14 shX12_whyNot_49)) rfl (lvA0 hl) ?_
  refine gM_211 S hK hP (v := .int (nI (cn 0))) rfl (oc_180 64 (aq_15 shX12_whyNot_49) uw_0_211) ?_
  refine lv_bipush (v := 7) hx hb (oc_16 67 (aq_18 shX12_whyNot_49) sgb_7) kbc_7 ?_
  refine lv_irem hx hb (oc_112 69 (aq_20 shX12_whyNot_49)) (by decide) ?_
  refine lv_topi (fun y_4 ey_4 => ?_)
  obtain rfl : y_4 = (nI ((cn 0) % 7)) := ey_4.trans (nI_rem (by (first | omega | (have zz0 := Hid.u hi_cn; omega))) (by decide))
  refine stM_38 hx hb hK hP hD hS (Fn2 := (va_up Fn 38 (upd (upd (upd (upd (upd (upd (Fn 38) 0 (In2 71)) 1 (In2 72)) 2 (In2 73)) 3 (nI (cn 0))) 4 (nI ((cn 0) / 7))) 5 (nI ((cn 0) % 7))))) (by unfold vp_in; decide) (by decide) (bx_uu _ _ _ _) (oc_79 70 (aq_21 shX12_whyNot_49)) (fun H locs hP hD hS => ?_)
  refine lv_aload_n hx hb (oc_42 71 (aq_22 shX12_whyNot_49)) rfl (lvA0 hl) ?_
  refine gM_89 S hK hP (v := .ref (g 38)) rfl (oc_180 72 (aq_23 shX12_whyNot_49) uw_0_89) ?_
  refine lv_bipush (v := 6) hx hb (oc_16 75 shX12_whyNot_75 sgb_6) kbc_6 ?_
  refine lv_iconst (v := 0) hx hb (oc_3 77 (aq_2 shX12_whyNot_75)) kic_0 ?_
  refine stM_38 hx hb hK hP hD hS (Fn2 := (va_up Fn 38 (upd (upd (upd (upd (upd (upd (upd (Fn 38) 0 (In2 71)) 1 (In2 72)) 2 (In2 73)) 3 (nI (cn 0))) 4 (nI ((cn 0) / 7))) 5 (nI ((cn 0) % 7))) 6 0))) (by unfold vp_in; decide) (by decide) (bx_uu _ _ _ _) (oc_79 78 (aq_3 shX12_whyNot_75)) (fun H locs hP hD hS => ?_)
  refine lv_aload_n hx hb (oc_42 79 (aq_4 shX12_whyNot_75)) rfl (lvA0 hl) ?_
  refine gM_89 S hK hP (v := .ref (g 38)) rfl (oc_180 80 (aq_5 shX12_whyNot_75) uw_0_89) ?_
  refine lv_bipush (v := 7) hx hb (oc_16 83 (aq_8 shX12_whyNot_75) sgb_7) kbc_7 ?_
  refine lv_iconst (v := 0) hx hb (oc_3 85 (aq_10 shX12_whyNot_75)) kic_0 ?_
  refine stM_38 hx hb hK hP hD hS (Fn2 := (va_up Fn 38 (upd (upd (upd (upd (upd (upd (upd (upd (Fn 38) 0 (In2 71)) 1 (In2 72)) 2 (In2 73)) 3 (nI (cn 0))) 4 (nI ((cn 0) / 7))) 5 (nI ((cn 0) % 7))) 6 0) 7 0))) (by unfold vp_in; decide) (by decide) (bx_uu _ _ _ _) (oc_79 86 (aq_11 shX12_whyNot_75)) (fun H locs hP hD hS => ?_)
  refine lv_aload_n hx hb (oc_42 87 (aq_12 shX12_whyNot_75)) rfl (lvA0 hl) ?_
  refine gM_89 S hK hP (v := .ref (g 38)) rfl (oc_180 88 (aq_13 shX12_whyNot_75) uw_0_89) ?_
  refine lv_bipush (v := 8) hx hb (oc_16 91 (aq_16 shX12_whyNot_75) sgb_8) kbc_8 ?_
  refine lv_iconst (v := 0) hx hb (oc_3 93 (aq_18 shX12_whyNot_75)) kic_0 ?_
  refine stM_38 hx hb hK hP hD hS (Fn2 := (va_up Fn 38 (upd (upd (upd (upd (upd (upd (upd (upd (upd (Fn 38) 0 (In2 71)) 1 (In2 72)) 2 (In2 73)) 3 (nI (cn 0))) 4 (nI ((cn 0) / 7))) 5 (nI ((cn 0) % 7))) 6 0) 7 0) 8 0))) (by unfold vp_in; decide) (by decide) (bx_uu _ _ _ _) (oc_79 94 (aq_19 shX12_whyNot_75)) (fun H locs hP hD hS => ?_)
  refine lv_aload_n hx hb (oc_42 95 (aq_20 shX12_whyNot_75)) rfl (lvA0 hl) ?_
  refine gM_89 S hK hP (v := .ref (g 38)) rfl (oc_180 96 (aq_21 shX12_whyNot_75) uw_0_89) ?_
  refine lv_bipush (v := 9) hx hb (oc_16 99 shX12_whyNot_99 sgb_9) kbc_9 ?_
  refine lv_aload_n hx hb (oc_42 101 (aq_2 shX12_whyNot_99)) rfl (lvA0 hl) ?_
  refine gM_92 S hK hP (v := .ref (g 39)) rfl (oc_180 102 (aq_3 shX12_whyNot_99) uw_0_92) ?_
  refine lv_aload_n hx hb (oc_42 105 (aq_6 shX12_whyNot_99)) rfl (lvA0 hl) ?_
  refine gM_211 S hK hP (v := .int (nI (cn 0))) rfl (oc_180 106 (aq_7 shX12_whyNot_99) uw_0_211) ?_
  refine lv_bipush (v := 7) hx hb (oc_16 109 (aq_10 shX12_whyNot_99) sgb_7) kbc_7 ?_
  refine lv_idiv hx hb (oc_108 111 (aq_12 shX12_whyNot_99)) (by decide) ?_
  refine lv_topi (fun y_5 ey_5 => ?_)
  obtain rfl : y_5 = (nI ((cn 0) / 7)) := ey_5.trans (nI_div (by (first | omega | (have zz0 := Hid.u hi_cn; omega))) (by decide))
  have kb_1 : ((cn 0) / 7) < 58 := by (first | omega | (have zz0 := Hid.u hi_cn; omega))
  refine ldM_39 hx hb hK hP (x := ((Fn 39) ((cn 0) / 7))) (vp_in_nI kb_1 (ltb rfl)) (nI_clamp (Nat.lt_trans kb_1 (ltb rfl))) rfl (oc_46 112 (aq_13 shX12_whyNot_99)) ?_
  refine stM_38 hx hb hK hP hD hS (Fn2 := (va_up Fn 38 (upd (upd (upd (upd (upd (upd (upd (upd (upd (upd (Fn 38) 0 (In2 71)) 1 (In2 72)) 2 (In2 73)) 3 (nI (cn 0))) 4 (nI ((cn 0) / 7))) 5 (nI ((cn 0) % 7))) 6 0) 7 0) 8 0) 9 ((Fn 39) ((cn 0) / 7))))) (by unfold vp_in; decide) (by decide) (bx_uu _ _ _ _) (oc_79 113 (aq_14 shX12_whyNot_99)) (fun H locs hP hD hS => ?_)
  refine lv_aload_n hx hb (oc_42 114 (aq_15 shX12_whyNot_99)) rfl (lvA0 hl) ?_
  refine gM_89 S hK hP (v := .ref (g 38)) rfl (oc_180 115 (aq_16 shX12_whyNot_99) uw_0_89) ?_
  refine lv_bipush (v := 10) hx hb (oc_16 118 (aq_19 shX12_whyNot_99) sgb_10) kbc_10 ?_
  refine lv_iload_n hx hb (oc_27 120 (aq_21 shX12_whyNot_99)) rfl (lvA1 hl) ?_
  refine vp_callSi (runS_r (As := [.int v0]) (rest := [.int 10, .ref (g 38)]) S (q_bits l D cI cB cZ v0 ) kS_RX12_431 hK hP [] rfl ⟨Nat.le_of_ble_eq_true rfl, Nat.le_of_ble_eq_true rfl⟩ ⟨Nat.le_of_ble_eq_true rfl, Nat.le_of_ble_eq_true rfl⟩ rfl hl.1 rfl (Nat.le_of_ble_eq_true rfl) (oc_184 121 (aq_22 shX12_whyNot_99) uw_1_175)) (fun r_6 h_7 => ?_)
  refine stM_38 hx hb hK hP hD hS (Fn2 := (va_up Fn 38 (upd (upd (upd (upd (upd (upd (upd (upd (upd (upd (upd (Fn 38) 0 (In2 71)) 1 (In2 72)) 2 (In2 73)) 3 (nI (cn 0))) 4 (nI ((cn 0) / 7))) 5 (nI ((cn 0) % 7))) 6 0) 7 0) 8 0) 9 ((Fn 39) ((cn 0) / 7))) 10 r_6))) (by unfold vp_in; decide) (by decide) (bx_uu _ _ _ _) (oc_79 124 shX12_whyNot_124) (fun H locs hP hD hS => ?_)
  obtain ⟨q33, hq33, eq33⟩ := hIn2.e33 10 (by (first | omega | (have zz0 := Hid.u hi_cn; omega)))
  refine lv_bipush (v := 120) hx hb (oc_16 125 (aq_1 shX12_whyNot_124) sgb_120) kbc_120 ?_
  refine lv_istore_n (lv' := [(2, .int 120), (0, .ref (g 100)), (1, .int v0)]) hx hb (oc_61 127 (aq_3 shX12_whyNot_124)) rfl hl (ltb rfl) rfl (fun ls hl => ?_)
  have lp_128 : ∀ (n : Nat) (i128 : Nat) (F128 : Nat → Nat → Int32) (H : Heap) (locs : List Loc) , 120 + q33 - i128 < n → ((120 ≤ i128 ∧ i128 ≤ 120 + q33) ∧ Fr [] [71, 72, 73] [37, 38] cn In Fn cn In2 F128 ∧ IM cn F128) → va_P D vwCl (wM cI cB cZ g cn In2 F128) H → va_D A (wM cI cB cZ g cn In2 F128) → va_S A s.heap H locs → ∀ ls : Array Slot, lv_has ls 3 [(2, .int (nI i128)), (0, .ref (g 100)), (1, .int v0)] → W p l e (RM 2 0 0) s m ([.ref (g 100), .int v0]).toArray below meth c H locs 0 0 (MQ below (va_Qi (fun (r : Int32) (u : (Nat → Nat) × (Nat → Int32) × (Nat → Nat → Int32)) => (fun r c2 I2 F2 => Fr [] [71, 72, 73] [37, 38] cn In Fn c2 I2 F2 ∧ IM c2 F2 ∧ (True)) r u.1 u.2.1 u.2.2) (fun (u : (Nat → Nat) × (Nat → Int32) × (Nat → Nat → Int32)) (t : State) => va_P D vwCl (wM cI cB cZ g u.1 u.2.1 u.2.2) t.heap ∧ va_D A (wM cI cB cZ g u.1 u.2.1 u.2.2)) A) ([.ref (g 100), .int v0]).toArray s 0 0 A) (F0 m 128 ls []) := by
    intro n128
    induction n128 with
    | zero => intros; (first | omega | (have zz0 := Hid.u hi_cn; omega))
    | succ n128 ih128 =>
      intro i128 F128 H locs hmu128 hinv128 hP hD hS ls hl
      obtain ⟨hr128, hfr128, hI128⟩ := hinv128
      have ti128 : (nI i128).toInt = (i128 : Int) := nI_toInt (by (first | omega | (have zz0 := Hid.u hi_cn; omega)))
      have hi_cn : Hid (CB cn) := hI128.b
      have eq33 : F128 33 10 = nI q33 := (congrFun (hfr128.2.2 33 (nml rfl)) 10).trans eq33
      refine lv_iload_n hx hb (oc_28 128 (aq_4 shX12_whyNot_124)) rfl (lvA0 hl) ?_
      refine lv_bipush (v := 120) hx hb (oc_16 129 (aq_5 shX12_whyNot_124) sgb_120) kbc_120 ?_
      refine lv_aload_n hx hb (oc_42 131 (aq_7 shX12_whyNot_124)) rfl (lvA1 hl) ?_
      refine gM_74 S hK hP (v := .ref (g 33)) rfl (oc_180 132 (aq_8 shX12_whyNot_124) uw_0_74) ?_
      refine lv_bipush (v := 10) hx hb (oc_16 135 (aq_11 shX12_whyNot_124) sgb_10) kbc_10 ?_
      refine ldM_33 hx hb hK hP (x := (nI q33)) (by unfold vp_in; decide) (by decide) eq33 (oc_46 137 (aq_13 shX12_whyNot_124)) ?_
      refine lv_iadd hx hb (oc_96 138 (aq_14 shX12_whyNot_124)) ?_
      refine lv_topi (fun y_8 ey_8 => ?_)
      obtain rfl : y_8 = (nI (120 + q33)) := ey_8.trans (nI_add 120 q33)
      have : (nI (120 + q33)).toInt = (((120 + q33) : Nat) : Int) := nI_toInt (by (first | omega | (have zz0 := Hid.u hi_cn; omega)))
      refine lv_icmp_ge (tgt := 173) hx hb (oc_162 139 (aq_15 shX12_whyNot_124) sgw_0_34) rfl (fun c_9 => ?_) (fun c_9 => ?_)
      ·
        have tc_9 : ((nI (120 + q33)).toInt : Int) ≤ (nI i128).toInt := Int32.le_iff_toInt_le.mp c_9
        refine lv_iconst (v := (-1)) hx hb (oc_2 173 shX12_whyNot_173) kic_m1 ?_
        exact W.iret (v := (-1)) hx hb hr (fun t ht hW => ⟨⟨(-1), (cn, In2, F128), rfl, ⟨(Fr.mo hfr128 (sbl rfl) (sbl rfl) (sbl rfl)), hI128, trivial⟩, by rw [ht]; exact hP, hD⟩, hS.F ht⟩) hS.2.2 (oc_172 174 (aq_1 shX12_whyNot_173))
      ·
        have tc_9 : ((nI i128).toInt : Int) < (nI (120 + q33)).toInt := Int32.lt_iff_toInt_lt.mp (Int32.not_le.mp c_9)
        obtain ⟨a9, m9, b9, ea9, em9, eb9, k1, k2, k3, k4, k5, sgA, sgB⟩ := IM.cd1 hI128 (t := 10) (by (first | omega | (have zz0 := Hid.u hi_cn; omega))) eq33 hq33 (by (first | omega | (have zz0 := Hid.u hi_cn; omega))) (i := i128) (by (first | omega | (have zz0 := Hid.u hi_cn; omega)))
        refine lv_aload_n hx hb (oc_42 142 (aq_18 shX12_whyNot_124)) rfl (lvA1 hl) ?_
        refine lv_aload_n hx hb (oc_42 143 (aq_19 shX12_whyNot_124)) rfl (lvA1 hl) ?_
        refine gM_80 S hK hP (v := .ref (g 35)) rfl (oc_180 144 (aq_20 shX12_whyNot_124) uw_0_80) ?_
        refine lv_iload_n hx hb (oc_28 147 (aq_23 shX12_whyNot_124)) rfl (lvA0 hl) ?_
        have kb_2 : i128 < 132 := by (first | omega | (have zz0 := Hid.u hi_cn; omega))
        refine ldM_35 hx hb hK hP (x := ((F128 35) i128)) (vp_in_nI kb_2 (ltb rfl)) (nI_clamp (Nat.lt_trans kb_2 (ltb rfl))) rfl (oc_46 148 shX12_whyNot_148) ?_
        refine lv_topi (fun y_10 ey_10 => ?_)
        obtain rfl : y_10 = (nI m9) := ey_10.trans em9
        refine lv_aload_n hx hb (oc_42 149 (aq_1 shX12_whyNot_148)) rfl (lvA1 hl) ?_
        refine gM_83 S hK hP (v := .ref (g 36)) rfl (oc_180 150 (aq_2 shX12_whyNot_148) uw_0_83) ?_
        refine lv_iload_n hx hb (oc_28 153 (aq_5 shX12_whyNot_148)) rfl (lvA0 hl) ?_
        refine ldM_36 hx hb hK hP (x := ((F128 36) i128)) (vp_in_nI kb_2 (ltb rfl)) (nI_clamp (Nat.lt_trans kb_2 (ltb rfl))) rfl (oc_46 154 (aq_6 shX12_whyNot_148)) ?_
        refine lv_topi (fun y_11 ey_11 => ?_)
        obtain rfl : y_11 = (nI b9) := ey_11.trans eb9
        have hFc := free_all hD hS hA
        refine va_calli (runV_a (As := [.int (nI m9), .int (nI b9)]) (rest := []) S (q_comesTo l D cI cB cZ g cn In2 F128 10 m9 b9 H.size hI128 sgB (by (first | omega | (have zz0 := Hid.u hi_cn; omega))) (by (first | omega | (have zz0 := Hid.u hi_cn; omega))) (by (first | omega | (have zz0 := Hid.u hi_cn; omega))) (by (first | omega | (have zz0 := Hid.u hi_cn; omega))) (by (first | omega | (have zz0 := Hid.u hi_cn; omega)))) kV_RX12_331 hK hP hD 0 rfl rfl rfl ⟨Nat.le_of_ble_eq_true rfl, Nat.le_of_ble_eq_true rfl⟩ ⟨Nat.le_of_ble_eq_true rfl, Nat.le_of_ble_eq_true rfl⟩ rfl hl.1 rfl (Nat.le_of_ble_eq_true rfl) (oc_182 155 (aq_7 shX12_whyNot_148) uw_1_75)) hS (fun q _ h => hFc q h) hFc (fun r_12 u t H1 locs ht hvm wh_13 hB hz1 hk1 hS => ?_)
        obtain ⟨cn13, In13, Fn13⟩ := u
        obtain ⟨hP1, hD1⟩ := hB
        rw [ht] at hP1
        have hP : va_P D vwCl (wM cI cB cZ g cn13 In13 Fn13) H1 := hP1
        have hD : va_D A (wM cI cB cZ g cn13 In13 Fn13) := hD1.weaken (fun _ _ _ h => hFc _ h)
        generalize H1 = H at hP hS ⊢
        have vh_13 : (fun r c2 I2 F2 => Fr [] [] [37] cn In2 F128 c2 I2 F2 ∧ IM c2 F2 ∧ (True)) r_12 cn13 In13 Fn13 := wh_13
        obtain ⟨hfc13, hIn13, h_13⟩ := vh_13
        obtain rfl : cn = cn13 := (funext (fun k => hfc13.1 k List.not_mem_nil)).symm
        obtain rfl : In2 = In13 := (funext (fun k => hfc13.2.1 k List.not_mem_nil)).symm
        have hf13 : Fr [] [71, 72, 73] [37, 38] cn In Fn cn In2 Fn13 := Fr.mo (Fr.tr hfr128 hfc13) (sbl rfl) (sbl rfl) (sbl rfl)
        have hi_cn : Hid (CB cn) := hIn13.b
        refine lv_iconst (v := 1) hx hb (oc_4 158 (aq_10 shX12_whyNot_148)) kic_1 ?_
        refine lv_icmp_eq (tgt := 167) hx hb (oc_159 159 (aq_11 shX12_whyNot_148) sgw_0_8) rfl (fun c_14 => ?_) (fun c_14 => ?_)
        ·
          have tc_14 : (r_12.toInt : Int) = 1 := congrArg Int32.toInt c_14
          refine lv_iinc (v := (nI (i128 + 1))) (lv' := [(2, .int (nI (i128 + 1))), (0, .ref (g 100)), (1, .int v0)]) hx hb (oc_132 167 (aq_19 shX12_whyNot_148) ub_2 sgb_1) hl (k := 0) rfl (nI_1 _) (ltb rfl) rfl (fun ls hl => ?_)
          refine lv_goto (tgt := 128) hx hb (oc_167 170 (aq_22 shX12_whyNot_148) sgw_255_214) rfl ?_
          exact ih128 (i128 + 1) Fn13 _ _ (by (first | omega | (have zz0 := Hid.u hi_cn; omega))) ⟨(by (first | omega | (have zz0 := Hid.u hi_cn; omega))), (Fr.mo hf13 (sbl rfl) (sbl rfl) (sbl rfl)), hIn13⟩ hP hD hS ls (lv_sub hl [0, 1, 2] rfl)
        ·
          have tc_14 : (r_12.toInt : Int) ≠ 1 := fun q => c_14 (Int32.toInt_inj.mp q)
          refine lv_iload_n hx hb (oc_28 162 (aq_14 shX12_whyNot_148)) rfl (lvA0 hl) ?_
          refine lv_bipush (v := 120) hx hb (oc_16 163 (aq_15 shX12_whyNot_148) sgb_120) kbc_120 ?_
          refine lv_isub hx hb (oc_100 165 (aq_17 shX12_whyNot_148)) ?_
          exact W.iret (v := ((nI i128) - 120)) hx hb hr (fun t ht hW => ⟨⟨((nI i128) - 120), (cn, In2, Fn13), rfl, ⟨(Fr.mo hf13 (sbl rfl) (sbl rfl) (sbl rfl)), hIn13, trivial⟩, by rw [ht]; exact hP, hD⟩, hS.F ht⟩) hS.2.2 (oc_172 166 (aq_18 shX12_whyNot_148))
  exact lp_128 _ 120 (va_up Fn 38 (upd (upd (upd (upd (upd (upd (upd (upd (upd (upd (upd (Fn 38) 0 (In2 71)) 1 (In2 72)) 2 (In2 73)) 3 (nI (cn 0))) 4 (nI ((cn 0) / 7))) 5 (nI ((cn 0) % 7))) 6 0) 7 0) 8 0) 9 ((Fn 39) ((cn 0) / 7))) 10 r_6)) _ _ (Nat.lt_succ_self _) ⟨(by (first | omega | (have zz0 := Hid.u hi_cn; omega))), (Fr.mo (Fr.f 38 hf2) (sbl rfl) (sbl rfl) (sbl rfl)), (IM.fr (In := In2) hIn2 (Fr.f 38 Fr.rf) (by decide) (by decide))⟩ hP hD hS ls (lv_sub hl [0, 1, 2] rfl)
set_option maxRecDepth 100000 in
set_option maxHeartbeats 4000000 in
theorem q_batch (l : Launch) (D : va_G) (cI cB cZ : ClassId) (g : Nat → Nat) (cn : Nat → Nat) (In : Nat → Int32) (Fn : Nat → Nat → Int32) (v0 : Int32) (sz : Nat) (hI : IM cn Fn) : Met l yX12_batch (CWS yX12_batch cX12_batch 4 (some .int)) (RM 3 0 0) (PBw [.ref (g 100), .int v0] D cI cB cZ (wM cI cB cZ g cn In Fn) sz) (va_Qi (fun (r : Int32) (u : (Nat → Nat) × (Nat → Int32) × (Nat → Nat → Int32)) => (fun r c2 I2 F2 => Fr [62] [71, 72, 73] [15, 37, 38, 64, 65] cn In Fn c2 I2 F2 ∧ IM c2 F2 ∧ (True)) r u.1 u.2.1 u.2.2) (fun (u : (Nat → Nat) × (Nat → Int32) × (Nat → Nat → Int32)) (t : State) => va_P D vwCl (wM cI cB cZ g u.1 u.2.1 u.2.2) t.heap ∧ va_D (va_A (wM cI cB cZ g cn In Fn) sz) (wM cI cB cZ g u.1 u.2.1 u.2.2)) (va_A (wM cI cB cZ g cn In Fn) sz)) 0 0 (va_A (wM cI cB cZ g cn In Fn) sz) := by
  refine en_w (fun A => (va_Qi (fun (r : Int32) (u : (Nat → Nat) × (Nat → Int32) × (Nat → Nat → Int32)) => (fun (r : Int32) (c2 : Nat → Nat) (I2 : Nat → Int32) (F2 : Nat → Nat → Int32) => Fr [62] [71, 72, 73] [15, 37, 38, 64, 65] cn In Fn c2 I2 F2 ∧ IM c2 F2 ∧ (True)) r u.1 u.2.1 u.2.2) (fun (u : (Nat → Nat) × (Nat → Int32) × (Nat → Nat → Int32)) (t : State) => va_P D vwCl (wM cI cB cZ g u.1 u.2.1 u.2.2) t.heap ∧ va_D A (wM cI cB cZ g u.1 u.2.1 u.2.2)) A)) rfl rfl pn_RX12 (Nat.le_of_ble_eq_true rfl) (fun p e s m below meth c A hx hb hml hown S hr hlocks hnm hA hP hK hD hS ls hl => ?_)
  have hl : lv_has ls 4 [(0, .ref (g 100)), (1, .int v0)] := hl
  have hi_cn : Hid (CB cn) := hI.b
  refine lv_iload_n hx hb (oc_27 0 shX12_batch_0) rfl (lvA1 hl) ?_
  refine lv_iconst (v := 1) hx hb (oc_4 1 (aq_1 shX12_batch_0)) kic_1 ?_
  refine lv_ldcw (v := 1048575) hx hb hown (S.2.2.2.2 _ (wk8_16 9 rfl rfl)) (oc_19 2 (aq_2 shX12_batch_0) uw_1_178) ?_
  refine vp_callSi (runS_r (As := [.int v0, .int 1, .int 1048575]) (rest := []) S (q_in l D cI cB cZ v0 1 1048575 ) kS_RX12_214 hK hP [] rfl ⟨Nat.le_of_ble_eq_true rfl, Nat.le_of_ble_eq_true rfl⟩ ⟨Nat.le_of_ble_eq_true rfl, Nat.le_of_ble_eq_true rfl⟩ rfl hl.1 rfl (Nat.le_of_ble_eq_true rfl) (oc_184 5 (aq_5 shX12_batch_0) uw_0_214)) (fun r_1 h_2 => ?_)
  rcases h_2 with ⟨rfl, h_2⟩ | ⟨rfl, h_2⟩
  ·
    have h_2 : 1 ≤ v0.toInt ∧ v0.toInt ≤ 1048575 := h_2
    refine lv_if_eq (tgt := 20) hx hb (oc_153 8 (aq_8 shX12_batch_0) sgw_0_12) rfl (fun h => absurd h cq_eq_1_0) (fun _ => ?_)
    refine lv_aload_n hx hb (oc_42 11 (aq_11 shX12_batch_0)) rfl (lvA0 hl) ?_
    refine gM_435 S hK hP (v := .int (nI (cn 62))) rfl (oc_180 12 (aq_12 shX12_batch_0) uw_1_179) ?_
    refine lv_bipush (v := 10) hx hb (oc_16 15 (aq_15 shX12_batch_0) sgb_10) kbc_10 ?_
    have : (nI (cn 62)).toInt = (((cn 62) : Nat) : Int) := nI_toInt (by (first | omega | (have zz0 := Hid.u hi_cn; omega)))
    refine lv_icmp_ne (tgt := 22) hx hb (oc_160 17 (aq_17 shX12_batch_0) sgw_0_5) rfl (fun c_3 => ?_) (fun c_3 => ?_)
    ·
      have tc_3 : ((nI (cn 62)).toInt : Int) ≠ 10 := fun q => c_3 (Int32.toInt_inj.mp q)
      refine lv_iconst (v := 0) hx hb (oc_3 22 (aq_22 shX12_batch_0)) kic_0 ?_
      refine lv_istore_n (lv' := [(2, .int 0), (0, .ref (g 100)), (1, .int v0)]) hx hb (oc_61 23 (aq_23 shX12_batch_0)) rfl hl (ltb rfl) rfl (fun ls hl => ?_)
      have lp_24 : ∀ (n : Nat) (i24 : Nat) , 20 - i24 < n → (i24 ≤ 20 ∧ (∀ i : Nat, i < i24 → ¬ (v0 >>> (nI i &&& 31)) &&& 1 = 0 → i < cn 2)) → ∀ ls : Array Slot, lv_has ls 4 [(2, .int (nI i24)), (0, .ref (g 100)), (1, .int v0)] → W p l e (RM 3 0 0) s m ([.ref (g 100), .int v0]).toArray below meth c s.heap [] 0 0 (MQ below (va_Qi (fun (r : Int32) (u : (Nat → Nat) × (Nat → Int32) × (Nat → Nat → Int32)) => (fun r c2 I2 F2 => Fr [62] [71, 72, 73] [15, 37, 38, 64, 65] cn In Fn c2 I2 F2 ∧ IM c2 F2 ∧ (True)) r u.1 u.2.1 u.2.2) (fun (u : (Nat → Nat) × (Nat → Int32) × (Nat → Nat → Int32)) (t : State) => va_P D vwCl (wM cI cB cZ g u.1 u.2.1 u.2.2) t.heap ∧ va_D A (wM cI cB cZ g u.1 u.2.1 u.2.2)) A) ([.ref (g 100), .int v0]).toArray s 0 0 A) (F0 m 24 ls []) := by
        intro n24
        induction n24 with
        | zero => intros; (first | omega | (have zz0 := Hid.u hi_cn; omega))
        | succ n24 ih24 =>
          intro i24 hmu24 hinv24 ls hl
          obtain ⟨hr24, hx24_0⟩ := hinv24
          have ti24 : (nI i24).toInt = (i24 : Int) := nI_toInt (by (first | omega | (have zz0 := Hid.u hi_cn; omega)))
          refine lv_iload_n hx hb (oc_28 24 shX12_batch_24) rfl (lvA0 hl) ?_
          refine lv_bipush (v := 20) hx hb (oc_16 25 (aq_1 shX12_batch_24) sgb_20) kbc_20 ?_
          refine lv_icmp_ge (tgt := 55) hx hb (oc_162 27 (aq_3 shX12_batch_24) sgw_0_28) rfl (fun c_4 => ?_) (fun c_4 => ?_)
          ·
            have tc_4 : (20 : Int) ≤ (nI i24).toInt := Int32.le_iff_toInt_le.mp c_4
            refine lv_aload_n hx hb (oc_42 55 (aq_7 shX12_batch_48)) rfl (lvA1 hl) ?_
            refine lv_iload_n hx hb (oc_27 56 (aq_8 shX12_batch_48)) rfl (lvA2 hl) ?_
            have hFc := free_all hD hS hA
            refine va_calli (runV_a (As := [.int v0]) (rest := []) S (q_whyNot l D cI cB cZ g cn In Fn v0 s.heap.size hI) kV_RX12_441 hK hP hD 0 rfl rfl rfl ⟨Nat.le_of_ble_eq_true rfl, Nat.le_of_ble_eq_true rfl⟩ ⟨Nat.le_of_ble_eq_true rfl, Nat.le_of_ble_eq_true rfl⟩ rfl hl.1 rfl (Nat.le_of_ble_eq_true rfl) (oc_182 57 (aq_9 shX12_batch_48) uw_1_185)) hS (fun q _ h => hFc q h) hFc (fun r_5 u t H1 locs ht hvm wh_6 hB hz1 hk1 hS => ?_)
            obtain ⟨cn6, In6, Fn6⟩ := u
            obtain ⟨hP1, hD1⟩ := hB
            rw [ht] at hP1
            have hP : va_P D vwCl (wM cI cB cZ g cn6 In6 Fn6) H1 := hP1
            have hD : va_D A (wM cI cB cZ g cn6 In6 Fn6) := hD1.weaken (fun _ _ _ h => hFc _ h)
            generalize H1 = H at hP hS ⊢
            have vh_6 : (fun r c2 I2 F2 => Fr [] [71, 72, 73] [37, 38] cn In Fn c2 I2 F2 ∧ IM c2 F2 ∧ (True)) r_5 cn6 In6 Fn6 := wh_6
            obtain ⟨hfc6, hIn6, h_6⟩ := vh_6
            obtain rfl : cn = cn6 := (funext (fun k => hfc6.1 k List.not_mem_nil)).symm
            have hf6 : Fr [62] [71, 72, 73] [15, 37, 38, 64, 65] cn In Fn cn In6 Fn6 := Fr.mo (Fr.tr (Fr.rf (cn := cn) (In := In) (Fn := Fn)) hfc6) (sbl rfl) (sbl rfl) (sbl rfl)
            have hi_cn : Hid (CB cn) := hIn6.b
            refine lv_istore_n (lv' := [(2, .int r_5), (0, .ref (g 100)), (1, .int v0)]) hx hb (oc_61 60 (aq_12 shX12_batch_48)) rfl hl (ltb rfl) rfl (fun ls hl => ?_)
            refine lv_iload_n hx hb (oc_28 61 (aq_13 shX12_batch_48)) rfl (lvA0 hl) ?_
            refine lv_iconst (v := (-1)) hx hb (oc_2 62 (aq_14 shX12_batch_48)) kic_m1 ?_
            refine lv_icmp_eq (tgt := 71) hx hb (oc_159 63 (aq_15 shX12_batch_48) sgw_0_8) rfl (fun c_7 => ?_) (fun c_7 => ?_)
            ·
              have tc_7 : (r_5.toInt : Int) = (-1) := congrArg Int32.toInt c_7
              refine lv_iconst (v := 0) hx hb (oc_3 71 (aq_23 shX12_batch_48)) kic_0 ?_
              refine lv_istore_n (lv' := [(3, .int 0), (2, .int r_5), (0, .ref (g 100)), (1, .int v0)]) hx hb (oc_62 72 shX12_batch_72) rfl hl (ltb rfl) rfl (fun ls hl => ?_)
              have lp_73 : ∀ (n : Nat) (i73 : Nat) (F73 : Nat → Nat → Int32) (H : Heap) (locs : List Loc) , 20 - i73 < n → (i73 ≤ 20 ∧ Fr [62] [71, 72, 73] [15, 37, 38, 64, 65] cn In Fn cn In6 F73 ∧ IM cn F73) → va_P D vwCl (wM cI cB cZ g cn In6 F73) H → va_D A (wM cI cB cZ g cn In6 F73) → va_S A s.heap H locs → ∀ ls : Array Slot, lv_has ls 4 [(3, .int (nI i73)), (2, .int r_5), (0, .ref (g 100)), (1, .int v0)] → W p l e (RM 3 0 0) s m ([.ref (g 100), .int v0]).toArray below meth c H locs 0 0 (MQ below (va_Qi (fun (r : Int32) (u : (Nat → Nat) × (Nat → Int32) × (Nat → Nat → Int32)) => (fun r c2 I2 F2 => Fr [62] [71, 72, 73] [15, 37, 38, 64, 65] cn In Fn c2 I2 F2 ∧ IM c2 F2 ∧ (True)) r u.1 u.2.1 u.2.2) (fun (u : (Nat → Nat) × (Nat → Int32) × (Nat → Nat → Int32)) (t : State) => va_P D vwCl (wM cI cB cZ g u.1 u.2.1 u.2.2) t.heap ∧ va_D A (wM cI cB cZ g u.1 u.2.1 u.2.2)) A) ([.ref (g 100), .int v0]).toArray s 0 0 A) (F0 m 73 ls []) := by
                intro n73
                induction n73 with
                | zero => intros; (first | omega | (have zz0 := Hid.u hi_cn; omega))
                | succ n73 ih73 =>
                  intro i73 F73 H locs hmu73 hinv73 hP hD hS ls hl
                  obtain ⟨hr73, hfr73, hI73⟩ := hinv73
                  have ti73 : (nI i73).toInt = (i73 : Int) := nI_toInt (by (first | omega | (have zz0 := Hid.u hi_cn; omega)))
                  have hi_cn : Hid (CB cn) := hI73.b
                  refine lv_iload_n hx hb (oc_29 73 (aq_1 shX12_batch_72)) rfl (lvA0 hl) ?_
                  refine lv_bipush (v := 20) hx hb (oc_16 74 (aq_2 shX12_batch_72) sgb_20) kbc_20 ?_
                  refine lv_icmp_ge (tgt := 104) hx hb (oc_162 76 (aq_4 shX12_batch_72) sgw_0_28) rfl (fun c_8 => ?_) (fun c_8 => ?_)
                  ·
                    have tc_8 : (20 : Int) ≤ (nI i73).toInt := Int32.le_iff_toInt_le.mp c_8
                    refine lv_aload_n hx hb (oc_42 104 (aq_7 shX12_batch_97)) rfl (lvA2 hl) ?_
                    refine gM_138 S hK hP (v := .ref (g 64)) rfl (oc_180 105 (aq_8 shX12_batch_97) uw_0_138) ?_
                    refine lv_aload_n hx hb (oc_42 108 (aq_11 shX12_batch_97)) rfl (lvA2 hl) ?_
                    refine gM_435 S hK hP (v := .int (nI (cn 62))) rfl (oc_180 109 (aq_12 shX12_batch_97) uw_1_179) ?_
                    refine lv_iload_n hx hb (oc_27 112 (aq_15 shX12_batch_97)) rfl (lvA3 hl) ?_
                    have kb_1 : (cn 62) < 10 := by (first | omega | (have zz0 := Hid.u hi_cn; omega))
                    refine stM_64 hx hb hK hP hD hS (Fn2 := (va_up F73 64 (upd (F73 64) (cn 62) v0))) (vp_in_nI kb_1 (ltb rfl)) (nI_clamp (Nat.lt_trans kb_1 (ltb rfl))) rfl (oc_79 113 (aq_16 shX12_batch_97)) (fun H locs hP hD hS => ?_)
                    refine lv_aload_n hx hb (oc_42 114 (aq_17 shX12_batch_97)) rfl (lvA2 hl) ?_
                    refine gM_141 S hK hP (v := .ref (g 65)) rfl (oc_180 115 (aq_18 shX12_batch_97) uw_0_141) ?_
                    refine lv_aload_n hx hb (oc_42 118 (aq_21 shX12_batch_97)) rfl (lvA2 hl) ?_
                    refine gM_435 S hK hP (v := .int (nI (cn 62))) rfl (oc_180 119 (aq_22 shX12_batch_97) uw_1_179) ?_
                    refine lv_aload_n hx hb (oc_42 122 shX12_batch_122) rfl (lvA2 hl) ?_
                    refine gM_211 S hK hP (v := .int (nI (cn 0))) rfl (oc_180 123 (aq_1 shX12_batch_122) uw_0_211) ?_
                    refine stM_65 hx hb hK hP hD hS (Fn2 := (va_up (va_up F73 64 (upd (F73 64) (cn 62) v0)) 65 (upd (F73 65) (cn 62) (nI (cn 0))))) (vp_in_nI kb_1 (ltb rfl)) (nI_clamp (Nat.lt_trans kb_1 (ltb rfl))) rfl (oc_79 126 (aq_4 shX12_batch_122)) (fun H locs hP hD hS => ?_)
                    refine lv_aload_n hx hb (oc_42 127 (aq_5 shX12_batch_122)) rfl (lvA2 hl) ?_
                    refine lv_aload_n hx hb (oc_42 128 (aq_6 shX12_batch_122)) rfl (lvA2 hl) ?_
                    refine gM_435 S hK hP (v := .int (nI (cn 62))) rfl (oc_180 129 (aq_7 shX12_batch_122) uw_1_179) ?_
                    refine lv_iconst (v := 1) hx hb (oc_4 132 (aq_10 shX12_batch_122)) kic_1 ?_
                    refine lv_iadd hx hb (oc_96 133 (aq_11 shX12_batch_122)) ?_
                    refine lv_topi (fun y_9 ey_9 => ?_)
                    obtain rfl : y_9 = (nI ((cn 62) + 1)) := ey_9.trans (nI_add (cn 62) 1)
                    refine pM_435 S hK hP hD hS (a := ((cn 62) + 1)) (cn2 := (va_up cn 62 ((cn 62) + 1))) rfl rfl (oc_181 134 (aq_12 shX12_batch_122) uw_1_179) (fun H locs hP hD hS => ?_)
                    refine lv_aload_n hx hb (oc_42 137 (aq_15 shX12_batch_122)) rfl (lvA2 hl) ?_
                    refine gM_435 S hK hP (v := .int (nI ((cn 62) + 1))) rfl (oc_180 138 (aq_16 shX12_batch_122) uw_1_179) ?_
                    refine lv_iconst (v := 1) hx hb (oc_4 141 (aq_19 shX12_batch_122)) kic_1 ?_
                    refine lv_isub hx hb (oc_100 142 (aq_20 shX12_batch_122)) ?_
                    refine lv_topi (fun y_10 ey_10 => ?_)
                    obtain rfl : y_10 = (nI (cn 62)) := ey_10.trans (nI_pred _)
                    exact W.iret (v := (nI (cn 62))) hx hb hr (fun t ht hW => ⟨⟨(nI (cn 62)), ((va_up cn 62 ((cn 62) + 1)), In6, (va_up (va_up F73 64 (upd (F73 64) (cn 62) v0)) 65 (upd (F73 65) (cn 62) (nI (cn 0))))), rfl, ⟨(Fr.mo (Fr.f 65 (Fr.f 64 (Fr.c 62 hfr73))) (sbl rfl) (sbl rfl) (sbl rfl)), (IM.bt hI73 (by (first | omega | (have zz0 := Hid.u hi_cn; omega))) (v := v0) (fun i hi hb => by have := hx24_0 i (by (first | omega | (have zz0 := Hid.u hi_cn; omega))) hb; (first | omega | (have zz0 := Hid.u hi_cn; omega)))), trivial⟩, by rw [ht]; exact hP, hD⟩, hS.F ht⟩) hS.2.2 (oc_172 143 (aq_21 shX12_batch_122))
                  ·
                    have tc_8 : ((nI i73).toInt : Int) < 20 := Int32.lt_iff_toInt_lt.mp (Int32.not_le.mp c_8)
                    refine lv_iload_n hx hb (oc_27 79 (aq_7 shX12_batch_72)) rfl (lvA3 hl) ?_
                    refine lv_iload_n hx hb (oc_29 80 (aq_8 shX12_batch_72)) rfl (lvA0 hl) ?_
                    refine lv_ishr hx hb (oc_122 81 (aq_9 shX12_batch_72)) ?_
                    refine lv_iconst (v := 1) hx hb (oc_4 82 (aq_10 shX12_batch_72)) kic_1 ?_
                    refine lv_iand hx hb (oc_126 83 (aq_11 shX12_batch_72)) ?_
                    refine lv_iconst (v := 1) hx hb (oc_4 84 (aq_12 shX12_batch_72)) kic_1 ?_
                    refine lv_icmp_ne (tgt := 98) hx hb (oc_160 85 (aq_13 shX12_batch_72) sgw_0_13) rfl (fun c_11 => ?_) (fun c_11 => ?_)
                    ·
                      have tc_11 : (((v0 >>> ((nI i73) &&& 31)) &&& 1).toInt : Int) ≠ 1 := fun q => c_11 (Int32.toInt_inj.mp q)
                      refine lv_iinc (v := (nI (i73 + 1))) (lv' := [(3, .int (nI (i73 + 1))), (2, .int r_5), (0, .ref (g 100)), (1, .int v0)]) hx hb (oc_132 98 (aq_1 shX12_batch_97) ub_3 sgb_1) hl (k := 0) rfl (nI_1 _) (ltb rfl) rfl (fun ls hl => ?_)
                      refine lv_goto (tgt := 73) hx hb (oc_167 101 (aq_4 shX12_batch_97) sgw_255_228) rfl ?_
                      exact ih73 (i73 + 1) F73 _ _ (by (first | omega | (have zz0 := Hid.u hi_cn; omega))) ⟨(by (first | omega | (have zz0 := Hid.u hi_cn; omega))), (Fr.mo hfr73 (sbl rfl) (sbl rfl) (sbl rfl)), hI73⟩ hP hD hS ls (lv_sub hl [0, 1, 2, 3] rfl)
                    ·
                      have tc_11 : (((v0 >>> ((nI i73) &&& 31)) &&& 1).toInt : Int) = 1 := congrArg Int32.toInt c_11
                      refine lv_aload_n hx hb (oc_42 88 (aq_16 shX12_batch_72)) rfl (lvA2 hl) ?_
                      refine gM_46 S hK hP (v := .ref (g 15)) rfl (oc_180 89 (aq_17 shX12_batch_72) uw_0_46) ?_
                      refine lv_iload_n hx hb (oc_29 92 (aq_20 shX12_batch_72)) rfl (lvA0 hl) ?_
                      refine lv_aload_n hx hb (oc_42 93 (aq_21 shX12_batch_72)) rfl (lvA2 hl) ?_
                      refine gM_435 S hK hP (v := .int (nI (cn 62))) rfl (oc_180 94 (aq_22 shX12_batch_72) uw_1_179) ?_
                      have kb_2 : i73 < 60 := by (first | omega | (have zz0 := Hid.u hi_cn; omega))
                      refine stM_15 hx hb hK hP hD hS (Fn2 := (va_up F73 15 (upd (F73 15) i73 (nI (cn 62))))) (vp_in_nI kb_2 (ltb rfl)) (nI_clamp (Nat.lt_trans kb_2 (ltb rfl))) rfl (oc_79 97 shX12_batch_97) (fun H locs hP hD hS => ?_)
                      refine lv_iinc (v := (nI (i73 + 1))) (lv' := [(3, .int (nI (i73 + 1))), (2, .int r_5), (0, .ref (g 100)), (1, .int v0)]) hx hb (oc_132 98 (aq_1 shX12_batch_97) ub_3 sgb_1) hl (k := 0) rfl (nI_1 _) (ltb rfl) rfl (fun ls hl => ?_)
                      refine lv_goto (tgt := 73) hx hb (oc_167 101 (aq_4 shX12_batch_97) sgw_255_228) rfl ?_
                      exact ih73 (i73 + 1) (va_up F73 15 (upd (F73 15) i73 (nI (cn 62)))) _ _ (by (first | omega | (have zz0 := Hid.u hi_cn; omega))) ⟨(by (first | omega | (have zz0 := Hid.u hi_cn; omega))), (Fr.mo (Fr.f 15 hfr73) (sbl rfl) (sbl rfl) (sbl rfl)), (IM.fr (In := In6) hI73 (Fr.f 15 Fr.rf) (by decide) (by decide))⟩ hP hD hS ls (lv_sub hl [0, 1, 2, 3] rfl)
              exact lp_73 _ 0 Fn6 _ _ (Nat.lt_succ_self _) ⟨(by (first | omega | (have zz0 := Hid.u hi_cn; omega))), (Fr.mo hf6 (sbl rfl) (sbl rfl) (sbl rfl)), hIn6⟩ hP hD hS ls (lv_sub hl [0, 1, 2, 3] rfl)
            ·
              have tc_7 : (r_5.toInt : Int) ≠ (-1) := fun q => c_7 (Int32.toInt_inj.mp q)
              refine lv_bipush (v := (-10)) hx hb (oc_16 66 (aq_18 shX12_batch_48) sgb_246) kbc_m10 ?_
              refine lv_iload_n hx hb (oc_28 68 (aq_20 shX12_batch_48)) rfl (lvA0 hl) ?_
              refine lv_isub hx hb (oc_100 69 (aq_21 shX12_batch_48)) ?_
              exact W.iret (v := ((-10) - r_5)) hx hb hr (fun t ht hW => ⟨⟨((-10) - r_5), (cn, In6, Fn6), rfl, ⟨(Fr.mo hf6 (sbl rfl) (sbl rfl) (sbl rfl)), hIn6, trivial⟩, by rw [ht]; exact hP, hD⟩, hS.F ht⟩) hS.2.2 (oc_172 70 (aq_22 shX12_batch_48))
          ·
            have tc_4 : ((nI i24).toInt : Int) < 20 := Int32.lt_iff_toInt_lt.mp (Int32.not_le.mp c_4)
            refine lv_iload_n hx hb (oc_27 30 (aq_6 shX12_batch_24)) rfl (lvA2 hl) ?_
            refine lv_iload_n hx hb (oc_28 31 (aq_7 shX12_batch_24)) rfl (lvA0 hl) ?_
            refine lv_ishr hx hb (oc_122 32 (aq_8 shX12_batch_24)) ?_
            refine lv_iconst (v := 1) hx hb (oc_4 33 (aq_9 shX12_batch_24)) kic_1 ?_
            refine lv_iand hx hb (oc_126 34 (aq_10 shX12_batch_24)) ?_
            refine lv_iconst (v := 1) hx hb (oc_4 35 (aq_11 shX12_batch_24)) kic_1 ?_
            refine lv_icmp_ne (tgt := 49) hx hb (oc_160 36 (aq_12 shX12_batch_24) sgw_0_13) rfl (fun c_12 => ?_) (fun c_12 => ?_)
            ·
              have tc_12 : (((v0 >>> ((nI i24) &&& 31)) &&& 1).toInt : Int) ≠ 1 := fun q => c_12 (Int32.toInt_inj.mp q)
              refine lv_iinc (v := (nI (i24 + 1))) (lv' := [(2, .int (nI (i24 + 1))), (0, .ref (g 100)), (1, .int v0)]) hx hb (oc_132 49 (aq_1 shX12_batch_48) ub_2 sgb_1) hl (k := 0) rfl (nI_1 _) (ltb rfl) rfl (fun ls hl => ?_)
              refine lv_goto (tgt := 24) hx hb (oc_167 52 (aq_4 shX12_batch_48) sgw_255_228) rfl ?_
              exact ih24 (i24 + 1) (by (first | omega | (have zz0 := Hid.u hi_cn; omega))) ⟨(by (first | omega | (have zz0 := Hid.u hi_cn; omega))), (fun i hi hb => if q : i < i24 then hx24_0 i q hb else (by have e9 : i = i24 := (by (first | omega | (have zz0 := Hid.u hi_cn; omega))); rw [e9] at hb ⊢; first | (first | omega | (have zz0 := Hid.u hi_cn; omega)) | exact absurd ((bit01 _).resolve_right (by assumption)) hb))⟩ ls (lv_sub hl [0, 1, 2] rfl)
            ·
              have tc_12 : (((v0 >>> ((nI i24) &&& 31)) &&& 1).toInt : Int) = 1 := congrArg Int32.toInt c_12
              refine lv_aload_n hx hb (oc_42 39 (aq_15 shX12_batch_24)) rfl (lvA1 hl) ?_
              refine lv_iload_n hx hb (oc_28 40 (aq_16 shX12_batch_24)) rfl (lvA0 hl) ?_
              refine vp_callSi (runV_ra (As := [.int (nI i24)]) (rest := []) S (q_isFree l D cI cB cZ g cn In Fn (nI i24) hI) kV_RX12_438 hK hP 0 rfl rfl rfl ⟨Nat.le_of_ble_eq_true rfl, Nat.le_of_ble_eq_true rfl⟩ ⟨Nat.le_of_ble_eq_true rfl, Nat.le_of_ble_eq_true rfl⟩ rfl hl.1 rfl (Nat.le_of_ble_eq_true rfl) (oc_182 41 (aq_17 shX12_batch_24) uw_1_182)) (fun r_13 h_14 => ?_)
              rcases h_14 with rfl | ⟨rfl, h_14⟩
              ·
                refine lv_if_ne (tgt := 49) hx hb (oc_154 44 (aq_20 shX12_batch_24) sgw_0_5) rfl (fun h => absurd h cq_eq_0_0) (fun _ => ?_)
                refine lv_iconst (v := (-1)) hx hb (oc_2 47 (aq_23 shX12_batch_24)) kic_m1 ?_
                exact W.iret (v := (-1)) hx hb hr (fun t ht hW => ⟨⟨(-1), (cn, In, Fn), rfl, ⟨(Fr.mo Fr.rf (sbl rfl) (sbl rfl) (sbl rfl)), hI, trivial⟩, by rw [ht]; exact hP, hD⟩, hS.F ht⟩) hS.2.2 (oc_172 48 shX12_batch_48)
              ·
                have h_14 : 0 ≤ (nI i24).toInt ∧ (nI i24).toInt < ((cn 2) : Int) := h_14
                refine lv_if_ne (tgt := 49) hx hb (oc_154 44 (aq_20 shX12_batch_24) sgw_0_5) rfl (fun _ => ?_) (fun h => absurd h cq_eq_1_0)
                refine lv_iinc (v := (nI (i24 + 1))) (lv' := [(2, .int (nI (i24 + 1))), (0, .ref (g 100)), (1, .int v0)]) hx hb (oc_132 49 (aq_1 shX12_batch_48) ub_2 sgb_1) hl (k := 0) rfl (nI_1 _) (ltb rfl) rfl (fun ls hl => ?_)
                refine lv_goto (tgt := 24) hx hb (oc_167 52 (aq_4 shX12_batch_48) sgw_255_228) rfl ?_
                exact ih24 (i24 + 1) (by (first | omega | (have zz0 := Hid.u hi_cn; omega))) ⟨(by (first | omega | (have zz0 := Hid.u hi_cn; omega))), (fun i hi hb => if q : i < i24 then hx24_0 i q hb else (by have e9 : i = i24 := (by (first | omega | (have zz0 := Hid.u hi_cn; omega))); rw [e9] at hb ⊢; first | (first | omega | (have zz0 := Hid.u hi_cn; omega)) | exact absurd ((bit01 _).resolve_right (by assumption)) hb))⟩ ls (lv_sub hl [0, 1, 2] rfl)
      exact lp_24 _ 0 (Nat.lt_succ_self _) ⟨(by (first | omega | (have zz0 := Hid.u hi_cn; omega))), (fun i hi => absurd hi (Nat.not_lt_zero i))⟩ ls (lv_sub hl [0, 1, 2] rfl)
    ·
      have tc_3 : ((nI (cn 62)).toInt : Int) = 10 := congrArg Int32.toInt c_3
      refine lv_iconst (v := (-1)) hx hb (oc_2 20 (aq_20 shX12_batch_0)) kic_m1 ?_
      exact W.iret (v := (-1)) hx hb hr (fun t ht hW => ⟨⟨(-1), (cn, In, Fn), rfl, ⟨(Fr.mo Fr.rf (sbl rfl) (sbl rfl) (sbl rfl)), hI, trivial⟩, by rw [ht]; exact hP, hD⟩, hS.F ht⟩) hS.2.2 (oc_172 21 (aq_21 shX12_batch_0))
  ·
    have h_2 : ¬ (1 ≤ v0.toInt ∧ v0.toInt ≤ 1048575) := h_2
    refine lv_if_eq (tgt := 20) hx hb (oc_153 8 (aq_8 shX12_batch_0) sgw_0_12) rfl (fun _ => ?_) (fun h => absurd h cq_eq_0_0)
    refine lv_iconst (v := (-1)) hx hb (oc_2 20 (aq_20 shX12_batch_0)) kic_m1 ?_
    exact W.iret (v := (-1)) hx hb hr (fun t ht hW => ⟨⟨(-1), (cn, In, Fn), rfl, ⟨(Fr.mo Fr.rf (sbl rfl) (sbl rfl) (sbl rfl)), hI, trivial⟩, by rw [ht]; exact hP, hD⟩, hS.F ht⟩) hS.2.2 (oc_172 21 (aq_21 shX12_batch_0))
set_option maxRecDepth 100000 in
set_option maxHeartbeats 4000000 in
theorem q_blend (l : Launch) (D : va_G) (cI cB cZ : ClassId) (g : Nat → Nat) (cn : Nat → Nat) (In : Nat → Int32) (Fn : Nat → Nat → Int32)  (sz : Nat) (hI : IM cn Fn) : Met l yX12_blend (CWS yX12_blend cX12_blend 7 (some .int)) (RM 3 0 0) (PBw [.ref (g 100)] D cI cB cZ (wM cI cB cZ g cn In Fn) sz) (va_Qi (fun (r : Int32) (u : (Nat → Nat) × (Nat → Int32) × (Nat → Nat → Int32)) => (fun r c2 I2 F2 => Fr [] [71, 72, 73] [37, 38, 74] cn In Fn c2 I2 F2 ∧ IM c2 F2 ∧ (True)) r u.1 u.2.1 u.2.2) (fun (u : (Nat → Nat) × (Nat → Int32) × (Nat → Nat → Int32)) (t : State) => va_P D vwCl (wM cI cB cZ g u.1 u.2.1 u.2.2) t.heap ∧ va_D (va_A (wM cI cB cZ g cn In Fn) sz) (wM cI cB cZ g u.1 u.2.1 u.2.2)) (va_A (wM cI cB cZ g cn In Fn) sz)) 0 0 (va_A (wM cI cB cZ g cn In Fn) sz) := by
  refine en_w (fun A => (va_Qi (fun (r : Int32) (u : (Nat → Nat) × (Nat → Int32) × (Nat → Nat → Int32)) => (fun (r : Int32) (c2 : Nat → Nat) (I2 : Nat → Int32) (F2 : Nat → Nat → Int32) => Fr [] [71, 72, 73] [37, 38, 74] cn In Fn c2 I2 F2 ∧ IM c2 F2 ∧ (True)) r u.1 u.2.1 u.2.2) (fun (u : (Nat → Nat) × (Nat → Int32) × (Nat → Nat → Int32)) (t : State) => va_P D vwCl (wM cI cB cZ g u.1 u.2.1 u.2.2) t.heap ∧ va_D A (wM cI cB cZ g u.1 u.2.1 u.2.2)) A)) rfl rfl pn_RX12 (Nat.le_of_ble_eq_true rfl) (fun p e s m below meth c A hx hb hml hown S hr hlocks hnm hA hP hK hD hS ls hl => ?_)
  have hl : lv_has ls 7 [(0, .ref (g 100))] := hl
  have hi_cn : Hid (CB cn) := hI.b
  refine lv_iconst (v := 0) hx hb (oc_3 0 shX12_blend_0) kic_0 ?_
  refine lv_istore_n (lv' := [(1, .int 0), (0, .ref (g 100))]) hx hb (oc_60 1 (aq_1 shX12_blend_0)) rfl hl (ltb rfl) rfl (fun ls hl => ?_)
  refine lv_iconst (v := 0) hx hb (oc_3 2 (aq_2 shX12_blend_0)) kic_0 ?_
  refine lv_istore_n (lv' := [(2, .int 0), (1, .int 0), (0, .ref (g 100))]) hx hb (oc_61 3 (aq_3 shX12_blend_0)) rfl hl (ltb rfl) rfl (fun ls hl => ?_)
  have lp_4 : ∀ (n : Nat) (i4 : Nat) (n4 : Nat) (F4 : Nat → Nat → Int32) (H : Heap) (locs : List Loc) , 20 - i4 < n → (i4 ≤ 20 ∧ Fr [] [71, 72, 73] [37, 38, 74] cn In Fn cn In F4 ∧ IM cn F4 ∧ (n4 ≤ i4 ∧ n4 ≤ 12)) → va_P D vwCl (wM cI cB cZ g cn In F4) H → va_D A (wM cI cB cZ g cn In F4) → va_S A s.heap H locs → ∀ ls : Array Slot, lv_has ls 7 [(2, .int (nI i4)), (1, .int (nI n4)), (0, .ref (g 100))] → W p l e (RM 3 0 0) s m ([.ref (g 100)]).toArray below meth c H locs 0 0 (MQ below (va_Qi (fun (r : Int32) (u : (Nat → Nat) × (Nat → Int32) × (Nat → Nat → Int32)) => (fun r c2 I2 F2 => Fr [] [71, 72, 73] [37, 38, 74] cn In Fn c2 I2 F2 ∧ IM c2 F2 ∧ (True)) r u.1 u.2.1 u.2.2) (fun (u : (Nat → Nat) × (Nat → Int32) × (Nat → Nat → Int32)) (t : State) => va_P D vwCl (wM cI cB cZ g u.1 u.2.1 u.2.2) t.heap ∧ va_D A (wM cI cB cZ g u.1 u.2.1 u.2.2)) A) ([.ref (g 100)]).toArray s 0 0 A) (F0 m 4 ls []) := by
    intro n4
    induction n4 with
    | zero => intros; (first | omega | (have zz0 := Hid.u hi_cn; omega))
    | succ n4 ih4 =>
      intro i4 n4 F4 H locs hmu4 hinv4 hP hD hS ls hl
      obtain ⟨hr4, hfr4, hI4, hx4_0⟩ := hinv4
      have ti4 : (nI i4).toInt = (i4 : Int) := nI_toInt (by (first | omega | (have zz0 := Hid.u hi_cn; omega)))
      have hi_cn : Hid (CB cn) := hI4.b
      refine lv_iload_n hx hb (oc_28 4 (aq_4 shX12_blend_0)) rfl (lvA0 hl) ?_
      refine lv_bipush (v := 20) hx hb (oc_16 5 (aq_5 shX12_blend_0) sgb_20) kbc_20 ?_
      refine lv_icmp_ge (tgt := 44) hx hb (oc_162 7 (aq_7 shX12_blend_0) sgw_0_37) rfl (fun c_1 => ?_) (fun c_1 => ?_)
      ·
        have tc_1 : (20 : Int) ≤ (nI i4).toInt := Int32.le_iff_toInt_le.mp c_1
        have h2p := p2b (n := n4) (by (first | omega | (have zz0 := Hid.u hi_cn; omega)))
        refine lv_iconst (v := 0) hx hb (oc_3 44 (aq_20 shX12_blend_24)) kic_0 ?_
        refine lv_istore_n (lv' := [(2, .int 0), (1, .int (nI n4)), (0, .ref (g 100))]) hx hb (oc_61 45 (aq_21 shX12_blend_24)) rfl hl (ltb rfl) rfl (fun ls hl => ?_)
        refine lv_iconst (v := 0) hx hb (oc_3 46 (aq_22 shX12_blend_24)) kic_0 ?_
        refine lv_istore_n (lv' := [(3, .int 0), (2, .int 0), (1, .int (nI n4)), (0, .ref (g 100))]) hx hb (oc_62 47 (aq_23 shX12_blend_24)) rfl hl (ltb rfl) rfl (fun ls hl => ?_)
        refine lv_iconst (v := 1) hx hb (oc_4 48 shX12_blend_48) kic_1 ?_
        refine lv_istore (lv' := [(4, .int 1), (3, .int 0), (2, .int 0), (1, .int (nI n4)), (0, .ref (g 100))]) hx hb (oc_54 49 (aq_1 shX12_blend_48) ub_4) hl (ltb rfl) rfl (fun ls hl => ?_)
        have lp_51 : ∀ (n : Nat) (i51 : Nat) (x51_2 : Int32) (x51_3 : Int32) (I51 : Nat → Int32) (F51 : Nat → Nat → Int32) (H : Heap) (locs : List Loc) , 2 ^ n4 - i51 < n → (i51 ≤ 2 ^ n4 ∧ Fr [] [71, 72, 73] [37, 38, 74] cn In Fn cn I51 F51 ∧ IM cn F51) → va_P D vwCl (wM cI cB cZ g cn I51 F51) H → va_D A (wM cI cB cZ g cn I51 F51) → va_S A s.heap H locs → ∀ ls : Array Slot, lv_has ls 7 [(4, .int (nI i51)), (3, .int x51_3), (2, .int x51_2), (1, .int (nI n4)), (0, .ref (g 100))] → W p l e (RM 3 0 0) s m ([.ref (g 100)]).toArray below meth c H locs 0 0 (MQ below (va_Qi (fun (r : Int32) (u : (Nat → Nat) × (Nat → Int32) × (Nat → Nat → Int32)) => (fun r c2 I2 F2 => Fr [] [71, 72, 73] [37, 38, 74] cn In Fn c2 I2 F2 ∧ IM c2 F2 ∧ (True)) r u.1 u.2.1 u.2.2) (fun (u : (Nat → Nat) × (Nat → Int32) × (Nat → Nat → Int32)) (t : State) => va_P D vwCl (wM cI cB cZ g u.1 u.2.1 u.2.2) t.heap ∧ va_D A (wM cI cB cZ g u.1 u.2.1 u.2.2)) A) ([.ref (g 100)]).toArray s 0 0 A) (F0 m 51 ls []) := by
          intro n51
          induction n51 with
          | zero => intros; (first | omega | (have zz0 := Hid.u hi_cn; omega))
          | succ n51 ih51 =>
            intro i51 x51_2 x51_3 I51 F51 H locs hmu51 hinv51 hP hD hS ls hl
            obtain ⟨hr51, hfr51, hI51⟩ := hinv51
            have ti51 : (nI i51).toInt = (i51 : Int) := nI_toInt (by (first | omega | (have zz0 := Hid.u hi_cn; omega)))
            have hi_cn : Hid (CB cn) := hI51.b
            refine lv_iload hx hb (oc_21 51 (aq_3 shX12_blend_48) ub_4) (lvA0 hl) ?_
            refine lv_iconst (v := 1) hx hb (oc_4 53 (aq_5 shX12_blend_48)) kic_1 ?_
            refine lv_iload_n hx hb (oc_27 54 (aq_6 shX12_blend_48)) rfl (lvA3 hl) ?_
            refine lv_ishl hx hb (oc_120 55 (aq_7 shX12_blend_48)) ?_
            refine lv_topi (fun y_2 ey_2 => ?_)
            obtain rfl : y_2 = (nI (2 ^ n4)) := ey_2.trans (sh1 (by (first | omega | (have zz0 := Hid.u hi_cn; omega))))
            have : (nI (2 ^ n4)).toInt = (((2 ^ n4) : Nat) : Int) := nI_toInt (by (first | omega | (have zz0 := Hid.u hi_cn; omega)))
            refine lv_icmp_ge (tgt := 166) hx hb (oc_162 56 (aq_8 shX12_blend_48) sgw_0_110) rfl (fun c_3 => ?_) (fun c_3 => ?_)
            ·
              have tc_3 : ((nI (2 ^ n4)).toInt : Int) ≤ (nI i51).toInt := Int32.le_iff_toInt_le.mp c_3
              refine lv_iload_n hx hb (oc_28 166 (aq_20 shX12_blend_146)) rfl (lvA2 hl) ?_
              exact W.iret (v := x51_2) hx hb hr (fun t ht hW => ⟨⟨x51_2, (cn, I51, F51), rfl, ⟨(Fr.mo hfr51 (sbl rfl) (sbl rfl) (sbl rfl)), hI51, trivial⟩, by rw [ht]; exact hP, hD⟩, hS.F ht⟩) hS.2.2 (oc_172 167 (aq_21 shX12_blend_146))
            ·
              have tc_3 : ((nI i51).toInt : Int) < (nI (2 ^ n4)).toInt := Int32.lt_iff_toInt_lt.mp (Int32.not_le.mp c_3)
              refine lv_iconst (v := 0) hx hb (oc_3 59 (aq_11 shX12_blend_48)) kic_0 ?_
              refine lv_istore (lv' := [(5, .int 0), (4, .int (nI i51)), (3, .int x51_3), (2, .int x51_2), (1, .int (nI n4)), (0, .ref (g 100))]) hx hb (oc_54 60 (aq_12 shX12_blend_48) ub_5) hl (ltb rfl) rfl (fun ls hl => ?_)
              refine lv_iconst (v := 0) hx hb (oc_3 62 (aq_14 shX12_blend_48)) kic_0 ?_
              refine lv_istore (lv' := [(6, .int 0), (5, .int 0), (4, .int (nI i51)), (3, .int x51_3), (2, .int x51_2), (1, .int (nI n4)), (0, .ref (g 100))]) hx hb (oc_54 63 (aq_15 shX12_blend_48) ub_6) hl (ltb rfl) rfl (fun ls hl => ?_)
              have lp_65 : ∀ (n : Nat) (i65 : Nat) (x65_5 : Int32) , n4 - i65 < n → (i65 ≤ n4) → ∀ ls : Array Slot, lv_has ls 7 [(6, .int (nI i65)), (5, .int x65_5), (4, .int (nI i51)), (3, .int x51_3), (2, .int x51_2), (1, .int (nI n4)), (0, .ref (g 100))] → W p l e (RM 3 0 0) s m ([.ref (g 100)]).toArray below meth c H locs 0 0 (MQ below (va_Qi (fun (r : Int32) (u : (Nat → Nat) × (Nat → Int32) × (Nat → Nat → Int32)) => (fun r c2 I2 F2 => Fr [] [71, 72, 73] [37, 38, 74] cn In Fn c2 I2 F2 ∧ IM c2 F2 ∧ (True)) r u.1 u.2.1 u.2.2) (fun (u : (Nat → Nat) × (Nat → Int32) × (Nat → Nat → Int32)) (t : State) => va_P D vwCl (wM cI cB cZ g u.1 u.2.1 u.2.2) t.heap ∧ va_D A (wM cI cB cZ g u.1 u.2.1 u.2.2)) A) ([.ref (g 100)]).toArray s 0 0 A) (F0 m 65 ls []) := by
                intro n65
                induction n65 with
                | zero => intros; (first | omega | (have zz0 := Hid.u hi_cn; omega))
                | succ n65 ih65 =>
                  intro i65 x65_5 hmu65 hinv65 ls hl
                  have hr65 := hinv65
                  have ti65 : (nI i65).toInt = (i65 : Int) := nI_toInt (by (first | omega | (have zz0 := Hid.u hi_cn; omega)))
                  refine lv_iload hx hb (oc_21 65 (aq_17 shX12_blend_48) ub_6) (lvA0 hl) ?_
                  refine lv_iload_n hx hb (oc_27 67 (aq_19 shX12_blend_48)) rfl (lvA5 hl) ?_
                  have : (nI n4).toInt = ((n4 : Nat) : Int) := nI_toInt (by (first | omega | (have zz0 := Hid.u hi_cn; omega)))
                  refine lv_icmp_ge (tgt := 107) hx hb (oc_162 68 (aq_20 shX12_blend_48) sgw_0_39) rfl (fun c_4 => ?_) (fun c_4 => ?_)
                  ·
                    have tc_4 : ((nI n4).toInt : Int) ≤ (nI i65).toInt := Int32.le_iff_toInt_le.mp c_4
                    refine lv_aload_n hx hb (oc_42 107 (aq_10 shX12_blend_97)) rfl (lvA6 hl) ?_
                    refine lv_iload hx hb (oc_21 108 (aq_11 shX12_blend_97) ub_5) (lvA1 hl) ?_
                    have hFc := free_all hD hS hA
                    refine va_calli (runV_a (As := [.int x65_5]) (rest := []) S (q_whyNot l D cI cB cZ g cn I51 F51 x65_5 H.size hI51) kV_RX12_441 hK hP hD 0 rfl rfl rfl ⟨Nat.le_of_ble_eq_true rfl, Nat.le_of_ble_eq_true rfl⟩ ⟨Nat.le_of_ble_eq_true rfl, Nat.le_of_ble_eq_true rfl⟩ rfl hl.1 rfl (Nat.le_of_ble_eq_true rfl) (oc_182 110 (aq_13 shX12_blend_97) uw_1_185)) hS (fun q _ h => hFc q h) hFc (fun r_5 u t H1 locs ht hvm wh_6 hB hz1 hk1 hS => ?_)
                    obtain ⟨cn6, In6, Fn6⟩ := u
                    obtain ⟨hP1, hD1⟩ := hB
                    rw [ht] at hP1
                    have hP : va_P D vwCl (wM cI cB cZ g cn6 In6 Fn6) H1 := hP1
                    have hD : va_D A (wM cI cB cZ g cn6 In6 Fn6) := hD1.weaken (fun _ _ _ h => hFc _ h)
                    generalize H1 = H at hP hS ⊢
                    have vh_6 : (fun r c2 I2 F2 => Fr [] [71, 72, 73] [37, 38] cn I51 F51 c2 I2 F2 ∧ IM c2 F2 ∧ (True)) r_5 cn6 In6 Fn6 := wh_6
                    obtain ⟨hfc6, hIn6, h_6⟩ := vh_6
                    obtain rfl : cn = cn6 := (funext (fun k => hfc6.1 k List.not_mem_nil)).symm
                    have hf6 : Fr [] [71, 72, 73] [37, 38, 74] cn In Fn cn In6 Fn6 := Fr.mo (Fr.tr hfr51 hfc6) (sbl rfl) (sbl rfl) (sbl rfl)
                    have hi_cn : Hid (CB cn) := hIn6.b
                    refine lv_iconst (v := (-1)) hx hb (oc_2 113 (aq_16 shX12_blend_97)) kic_m1 ?_
                    refine lv_icmp_ne (tgt := 160) hx hb (oc_160 114 (aq_17 shX12_blend_97) sgw_0_46) rfl (fun c_7 => ?_) (fun c_7 => ?_)
                    ·
                      have tc_7 : (r_5.toInt : Int) ≠ (-1) := fun q => c_7 (Int32.toInt_inj.mp q)
                      refine lv_iinc (v := (nI (i51 + 1))) (lv' := [(4, .int (nI (i51 + 1))), (6, .int (nI i65)), (5, .int x65_5), (3, .int x51_3), (2, .int x51_2), (1, .int (nI n4)), (0, .ref (g 100))]) hx hb dX12_blend_160 hl (k := 2) rfl (nI_1 _) (ltb rfl) rfl (fun ls hl => ?_)
                      refine lv_goto (tgt := 51) hx hb dX12_blend_163 rfl ?_
                      exact ih51 (i51 + 1) x51_2 x51_3 In6 Fn6 _ _ (by (first | omega | (have zz0 := Hid.u hi_cn; omega))) ⟨(by (first | omega | (have zz0 := Hid.u hi_cn; omega))), (Fr.mo hf6 (sbl rfl) (sbl rfl) (sbl rfl)), hIn6⟩ hP hD hS ls (lv_sub hl [0, 3, 4, 5, 6] rfl)
                    ·
                      have tc_7 : (r_5.toInt : Int) = (-1) := congrArg Int32.toInt c_7
                      refine lv_iload_n hx hb (oc_28 117 (aq_20 shX12_blend_97)) rfl (lvA4 hl) ?_
                      refine lv_if_eq (tgt := 152) hx hb (oc_153 118 (aq_21 shX12_blend_97) sgw_0_34) rfl (fun c_8 => ?_) (fun c_8 => ?_)
                      ·
                        have tc_8 : (x51_2.toInt : Int) = 0 := congrArg Int32.toInt c_8
                        refine lv_iload hx hb dX12_blend_152 (lvA1 hl) ?_
                        refine lv_istore_n (lv' := [(2, .int x65_5), (6, .int (nI i65)), (5, .int x65_5), (4, .int (nI i51)), (3, .int x51_3), (1, .int (nI n4)), (0, .ref (g 100))]) hx hb dX12_blend_154 rfl hl (ltb rfl) rfl (fun ls hl => ?_)
                        refine lv_aload_n hx hb dX12_blend_155 rfl (lvA6 hl) ?_
                        refine gM_419 S hK hP (v := .int (In6 71)) rfl dX12_blend_156 ?_
                        refine lv_istore_n (lv' := [(3, .int (In6 71)), (2, .int x65_5), (6, .int (nI i65)), (5, .int x65_5), (4, .int (nI i51)), (1, .int (nI n4)), (0, .ref (g 100))]) hx hb dX12_blend_159 rfl hl (ltb rfl) rfl (fun ls hl => ?_)
                        refine lv_iinc (v := (nI (i51 + 1))) (lv' := [(4, .int (nI (i51 + 1))), (3, .int (In6 71)), (2, .int x65_5), (6, .int (nI i65)), (5, .int x65_5), (1, .int (nI n4)), (0, .ref (g 100))]) hx hb dX12_blend_160 hl (k := 4) rfl (nI_1 _) (ltb rfl) rfl (fun ls hl => ?_)
                        refine lv_goto (tgt := 51) hx hb dX12_blend_163 rfl ?_
                        exact ih51 (i51 + 1) x65_5 (In6 71) In6 Fn6 _ _ (by (first | omega | (have zz0 := Hid.u hi_cn; omega))) ⟨(by (first | omega | (have zz0 := Hid.u hi_cn; omega))), (Fr.mo hf6 (sbl rfl) (sbl rfl) (sbl rfl)), hIn6⟩ hP hD hS ls (lv_sub hl [0, 1, 2, 5, 6] rfl)
                      ·
                        have tc_8 : (x51_2.toInt : Int) ≠ 0 := fun q => c_8 (Int32.toInt_inj.mp q)
                        refine lv_aload_n hx hb (oc_42 121 shX12_blend_121) rfl (lvA6 hl) ?_
                        refine gM_419 S hK hP (v := .int (In6 71)) rfl (oc_180 122 (aq_1 shX12_blend_121) uw_1_163) ?_
                        refine lv_iload_n hx hb (oc_29 125 (aq_4 shX12_blend_121)) rfl (lvA3 hl) ?_
                        refine lv_icmp_lt (tgt := 160) hx hb (oc_161 126 (aq_5 shX12_blend_121) sgw_0_34) rfl (fun c_9 => ?_) (fun c_9 => ?_)
                        ·
                          have tc_9 : ((In6 71).toInt : Int) < x51_3.toInt := Int32.lt_iff_toInt_lt.mp c_9
                          refine lv_iinc (v := (nI (i51 + 1))) (lv' := [(4, .int (nI (i51 + 1))), (6, .int (nI i65)), (5, .int x65_5), (3, .int x51_3), (2, .int x51_2), (1, .int (nI n4)), (0, .ref (g 100))]) hx hb dX12_blend_160 hl (k := 2) rfl (nI_1 _) (ltb rfl) rfl (fun ls hl => ?_)
                          refine lv_goto (tgt := 51) hx hb dX12_blend_163 rfl ?_
                          exact ih51 (i51 + 1) x51_2 x51_3 In6 Fn6 _ _ (by (first | omega | (have zz0 := Hid.u hi_cn; omega))) ⟨(by (first | omega | (have zz0 := Hid.u hi_cn; omega))), (Fr.mo hf6 (sbl rfl) (sbl rfl) (sbl rfl)), hIn6⟩ hP hD hS ls (lv_sub hl [0, 3, 4, 5, 6] rfl)
                        ·
                          have tc_9 : (x51_3.toInt : Int) ≤ (In6 71).toInt := Int32.le_iff_toInt_le.mp (Int32.not_lt.mp c_9)
                          refine lv_aload_n hx hb (oc_42 129 (aq_8 shX12_blend_121)) rfl (lvA6 hl) ?_
                          refine gM_419 S hK hP (v := .int (In6 71)) rfl (oc_180 130 (aq_9 shX12_blend_121) uw_1_163) ?_
                          refine lv_iload_n hx hb (oc_29 133 (aq_12 shX12_blend_121)) rfl (lvA3 hl) ?_
                          refine lv_icmp_ne (tgt := 152) hx hb (oc_160 134 (aq_13 shX12_blend_121) sgw_0_18) rfl (fun c_10 => ?_) (fun c_10 => ?_)
                          ·
                            have tc_10 : ((In6 71).toInt : Int) ≠ x51_3.toInt := fun q => c_10 (Int32.toInt_inj.mp q)
                            refine lv_iload hx hb dX12_blend_152 (lvA1 hl) ?_
                            refine lv_istore_n (lv' := [(2, .int x65_5), (6, .int (nI i65)), (5, .int x65_5), (4, .int (nI i51)), (3, .int x51_3), (1, .int (nI n4)), (0, .ref (g 100))]) hx hb dX12_blend_154 rfl hl (ltb rfl) rfl (fun ls hl => ?_)
                            refine lv_aload_n hx hb dX12_blend_155 rfl (lvA6 hl) ?_
                            refine gM_419 S hK hP (v := .int (In6 71)) rfl dX12_blend_156 ?_
                            refine lv_istore_n (lv' := [(3, .int (In6 71)), (2, .int x65_5), (6, .int (nI i65)), (5, .int x65_5), (4, .int (nI i51)), (1, .int (nI n4)), (0, .ref (g 100))]) hx hb dX12_blend_159 rfl hl (ltb rfl) rfl (fun ls hl => ?_)
                            refine lv_iinc (v := (nI (i51 + 1))) (lv' := [(4, .int (nI (i51 + 1))), (3, .int (In6 71)), (2, .int x65_5), (6, .int (nI i65)), (5, .int x65_5), (1, .int (nI n4)), (0, .ref (g 100))]) hx hb dX12_blend_160 hl (k := 4) rfl (nI_1 _) (ltb rfl) rfl (fun ls hl => ?_)
                            refine lv_goto (tgt := 51) hx hb dX12_blend_163 rfl ?_
                            exact ih51 (i51 + 1) x65_5 (In6 71) In6 Fn6 _ _ (by (first | omega | (have zz0 := Hid.u hi_cn; omega))) ⟨(by (first | omega | (have zz0 := Hid.u hi_cn; omega))), (Fr.mo hf6 (sbl rfl) (sbl rfl) (sbl rfl)), hIn6⟩ hP hD hS ls (lv_sub hl [0, 1, 2, 5, 6] rfl)
                          ·
                            have tc_10 : ((In6 71).toInt : Int) = x51_3.toInt := congrArg Int32.toInt c_10
                            refine lv_iload hx hb (oc_21 137 (aq_16 shX12_blend_121) ub_5) (lvA1 hl) ?_
                            refine vp_callSi (runS_r (As := [.int x65_5]) (rest := []) S (q_bits l D cI cB cZ x65_5 ) kS_RX12_431 hK hP [] rfl ⟨Nat.le_of_ble_eq_true rfl, Nat.le_of_ble_eq_true rfl⟩ ⟨Nat.le_of_ble_eq_true rfl, Nat.le_of_ble_eq_true rfl⟩ rfl hl.1 rfl (Nat.le_of_ble_eq_true rfl) (oc_184 139 (aq_18 shX12_blend_121) uw_1_175)) (fun r_11 h_12 => ?_)
                            refine lv_iload_n hx hb (oc_28 142 (aq_21 shX12_blend_121)) rfl (lvA4 hl) ?_
                            refine vp_callSi (runS_r (As := [.int x51_2]) (rest := [.int r_11]) S (q_bits l D cI cB cZ x51_2 ) kS_RX12_431 hK hP [] rfl ⟨Nat.le_of_ble_eq_true rfl, Nat.le_of_ble_eq_true rfl⟩ ⟨Nat.le_of_ble_eq_true rfl, Nat.le_of_ble_eq_true rfl⟩ rfl hl.1 rfl (Nat.le_of_ble_eq_true rfl) (oc_184 143 (aq_22 shX12_blend_121) uw_1_175)) (fun r_13 h_14 => ?_)
                            refine lv_icmp_lt (tgt := 152) hx hb (oc_161 146 shX12_blend_146 sgw_0_6) rfl (fun c_15 => ?_) (fun c_15 => ?_)
                            ·
                              have tc_15 : (r_11.toInt : Int) < r_13.toInt := Int32.lt_iff_toInt_lt.mp c_15
                              refine lv_iload hx hb dX12_blend_152 (lvA1 hl) ?_
                              refine lv_istore_n (lv' := [(2, .int x65_5), (6, .int (nI i65)), (5, .int x65_5), (4, .int (nI i51)), (3, .int x51_3), (1, .int (nI n4)), (0, .ref (g 100))]) hx hb dX12_blend_154 rfl hl (ltb rfl) rfl (fun ls hl => ?_)
                              refine lv_aload_n hx hb dX12_blend_155 rfl (lvA6 hl) ?_
                              refine gM_419 S hK hP (v := .int (In6 71)) rfl dX12_blend_156 ?_
                              refine lv_istore_n (lv' := [(3, .int (In6 71)), (2, .int x65_5), (6, .int (nI i65)), (5, .int x65_5), (4, .int (nI i51)), (1, .int (nI n4)), (0, .ref (g 100))]) hx hb dX12_blend_159 rfl hl (ltb rfl) rfl (fun ls hl => ?_)
                              refine lv_iinc (v := (nI (i51 + 1))) (lv' := [(4, .int (nI (i51 + 1))), (3, .int (In6 71)), (2, .int x65_5), (6, .int (nI i65)), (5, .int x65_5), (1, .int (nI n4)), (0, .ref (g 100))]) hx hb dX12_blend_160 hl (k := 4) rfl (nI_1 _) (ltb rfl) rfl (fun ls hl => ?_)
                              refine lv_goto (tgt := 51) hx hb dX12_blend_163 rfl ?_
                              exact ih51 (i51 + 1) x65_5 (In6 71) In6 Fn6 _ _ (by (first | omega | (have zz0 := Hid.u hi_cn; omega))) ⟨(by (first | omega | (have zz0 := Hid.u hi_cn; omega))), (Fr.mo hf6 (sbl rfl) (sbl rfl) (sbl rfl)), hIn6⟩ hP hD hS ls (lv_sub hl [0, 1, 2, 5, 6] rfl)
                            ·
                              have tc_15 : (r_13.toInt : Int) ≤ r_11.toInt := Int32.le_iff_toInt_le.mp (Int32.not_lt.mp c_15)
                              refine lv_goto (tgt := 160) hx hb (oc_167 149 (aq_3 shX12_blend_146) sgw_0_11) rfl ?_
                              refine lv_iinc (v := (nI (i51 + 1))) (lv' := [(4, .int (nI (i51 + 1))), (6, .int (nI i65)), (5, .int x65_5), (3, .int x51_3), (2, .int x51_2), (1, .int (nI n4)), (0, .ref (g 100))]) hx hb dX12_blend_160 hl (k := 2) rfl (nI_1 _) (ltb rfl) rfl (fun ls hl => ?_)
                              refine lv_goto (tgt := 51) hx hb dX12_blend_163 rfl ?_
                              exact ih51 (i51 + 1) x51_2 x51_3 In6 Fn6 _ _ (by (first | omega | (have zz0 := Hid.u hi_cn; omega))) ⟨(by (first | omega | (have zz0 := Hid.u hi_cn; omega))), (Fr.mo hf6 (sbl rfl) (sbl rfl) (sbl rfl)), hIn6⟩ hP hD hS ls (lv_sub hl [0, 3, 4, 5, 6] rfl)
                  ·
                    have tc_4 : ((nI i65).toInt : Int) < (nI n4).toInt := Int32.lt_iff_toInt_lt.mp (Int32.not_le.mp c_4)
                    refine lv_iload hx hb (oc_21 71 (aq_23 shX12_blend_48) ub_4) (lvA2 hl) ?_
                    refine lv_iload hx hb (oc_21 73 shX12_blend_73 ub_6) (lvA0 hl) ?_
                    refine lv_ishr hx hb (oc_122 75 (aq_2 shX12_blend_73)) ?_
                    refine lv_iconst (v := 1) hx hb (oc_4 76 (aq_3 shX12_blend_73)) kic_1 ?_
                    refine lv_iand hx hb (oc_126 77 (aq_4 shX12_blend_73)) ?_
                    refine lv_iconst (v := 1) hx hb (oc_4 78 (aq_5 shX12_blend_73)) kic_1 ?_
                    refine lv_icmp_ne (tgt := 97) hx hb (oc_160 79 (aq_6 shX12_blend_73) sgw_0_18) rfl (fun c_16 => ?_) (fun c_16 => ?_)
                    ·
                      have tc_16 : ((((nI i51) >>> ((nI i65) &&& 31)) &&& 1).toInt : Int) ≠ 1 := fun q => c_16 (Int32.toInt_inj.mp q)
                      refine lv_iload hx hb (oc_21 97 shX12_blend_97 ub_5) (lvA1 hl) ?_
                      refine lv_istore (lv' := [(5, .int x65_5), (6, .int (nI i65)), (4, .int (nI i51)), (3, .int x51_3), (2, .int x51_2), (1, .int (nI n4)), (0, .ref (g 100))]) hx hb dX12_blend_99 hl (ltb rfl) rfl (fun ls hl => ?_)
                      refine lv_iinc (v := (nI (i65 + 1))) (lv' := [(6, .int (nI (i65 + 1))), (5, .int x65_5), (4, .int (nI i51)), (3, .int x51_3), (2, .int x51_2), (1, .int (nI n4)), (0, .ref (g 100))]) hx hb dX12_blend_101 hl (k := 1) rfl (nI_1 _) (ltb rfl) rfl (fun ls hl => ?_)
                      refine lv_goto (tgt := 65) hx hb dX12_blend_104 rfl ?_
                      exact ih65 (i65 + 1) x65_5 (by (first | omega | (have zz0 := Hid.u hi_cn; omega))) (by (first | omega | (have zz0 := Hid.u hi_cn; omega))) ls (lv_sub hl [0, 1, 2, 3, 4, 5, 6] rfl)
                    ·
                      have tc_16 : ((((nI i51) >>> ((nI i65) &&& 31)) &&& 1).toInt : Int) = 1 := congrArg Int32.toInt c_16
                      refine lv_iload hx hb (oc_21 82 (aq_9 shX12_blend_73) ub_5) (lvA1 hl) ?_
                      refine lv_iconst (v := 1) hx hb (oc_4 84 (aq_11 shX12_blend_73)) kic_1 ?_
                      refine lv_aload_n hx hb (oc_42 85 (aq_12 shX12_blend_73)) rfl (lvA6 hl) ?_
                      refine gM_159 S hK hP (v := .ref (g 74)) rfl (oc_180 86 (aq_13 shX12_blend_73) uw_0_159) ?_
                      refine lv_iload hx hb (oc_21 89 (aq_16 shX12_blend_73) ub_6) (lvA0 hl) ?_
                      have kb_1 : i65 < 12 := by (first | omega | (have zz0 := Hid.u hi_cn; omega))
                      refine ldM_74 hx hb hK hP (x := ((F51 74) i65)) (vp_in_nI kb_1 (ltb rfl)) (nI_clamp (Nat.lt_trans kb_1 (ltb rfl))) rfl (oc_46 91 (aq_18 shX12_blend_73)) ?_
                      refine lv_ishl hx hb (oc_120 92 (aq_19 shX12_blend_73)) ?_
                      refine lv_ior hx hb (oc_128 93 (aq_20 shX12_blend_73)) ?_
                      refine lv_goto (tgt := 99) hx hb (oc_167 94 (aq_21 shX12_blend_73) sgw_0_5) rfl ?_
                      refine lv_istore (lv' := [(5, .int (x65_5 ||| (1 <<< (((F51 74) i65) &&& 31)))), (6, .int (nI i65)), (4, .int (nI i51)), (3, .int x51_3), (2, .int x51_2), (1, .int (nI n4)), (0, .ref (g 100))]) hx hb dX12_blend_99 hl (ltb rfl) rfl (fun ls hl => ?_)
                      refine lv_iinc (v := (nI (i65 + 1))) (lv' := [(6, .int (nI (i65 + 1))), (5, .int (x65_5 ||| (1 <<< (((F51 74) i65) &&& 31)))), (4, .int (nI i51)), (3, .int x51_3), (2, .int x51_2), (1, .int (nI n4)), (0, .ref (g 100))]) hx hb dX12_blend_101 hl (k := 1) rfl (nI_1 _) (ltb rfl) rfl (fun ls hl => ?_)
                      refine lv_goto (tgt := 65) hx hb dX12_blend_104 rfl ?_
                      exact ih65 (i65 + 1) (x65_5 ||| (1 <<< (((F51 74) i65) &&& 31))) (by (first | omega | (have zz0 := Hid.u hi_cn; omega))) (by (first | omega | (have zz0 := Hid.u hi_cn; omega))) ls (lv_sub hl [0, 1, 2, 3, 4, 5, 6] rfl)
              exact lp_65 _ 0 0 (Nat.lt_succ_self _) (by (first | omega | (have zz0 := Hid.u hi_cn; omega))) ls (lv_sub hl [0, 1, 2, 3, 4, 5, 6] rfl)
        exact lp_51 _ 1 0 0 In F4 _ _ (Nat.lt_succ_self _) ⟨(by (first | omega | (have zz0 := Hid.u hi_cn; omega))), (Fr.mo hfr4 (sbl rfl) (sbl rfl) (sbl rfl)), hI4⟩ hP hD hS ls (lv_sub hl [0, 1, 2, 3, 4] rfl)
      ·
        have tc_1 : ((nI i4).toInt : Int) < 20 := Int32.lt_iff_toInt_lt.mp (Int32.not_le.mp c_1)
        refine lv_iload_n hx hb (oc_27 10 (aq_10 shX12_blend_0)) rfl (lvA1 hl) ?_
        refine lv_bipush (v := 12) hx hb (oc_16 11 (aq_11 shX12_blend_0) sgb_12) kbc_12 ?_
        have : (nI n4).toInt = ((n4 : Nat) : Int) := nI_toInt (by (first | omega | (have zz0 := Hid.u hi_cn; omega)))
        refine lv_icmp_ge (tgt := 44) hx hb (oc_162 13 (aq_13 shX12_blend_0) sgw_0_31) rfl (fun c_17 => ?_) (fun c_17 => ?_)
        ·
          have tc_17 : (12 : Int) ≤ (nI n4).toInt := Int32.le_iff_toInt_le.mp c_17
          have h2p := p2b (n := n4) (by (first | omega | (have zz0 := Hid.u hi_cn; omega)))
          refine lv_iconst (v := 0) hx hb (oc_3 44 (aq_20 shX12_blend_24)) kic_0 ?_
          refine lv_istore_n (lv' := [(2, .int 0), (1, .int (nI n4)), (0, .ref (g 100))]) hx hb (oc_61 45 (aq_21 shX12_blend_24)) rfl hl (ltb rfl) rfl (fun ls hl => ?_)
          refine lv_iconst (v := 0) hx hb (oc_3 46 (aq_22 shX12_blend_24)) kic_0 ?_
          refine lv_istore_n (lv' := [(3, .int 0), (2, .int 0), (1, .int (nI n4)), (0, .ref (g 100))]) hx hb (oc_62 47 (aq_23 shX12_blend_24)) rfl hl (ltb rfl) rfl (fun ls hl => ?_)
          refine lv_iconst (v := 1) hx hb (oc_4 48 shX12_blend_48) kic_1 ?_
          refine lv_istore (lv' := [(4, .int 1), (3, .int 0), (2, .int 0), (1, .int (nI n4)), (0, .ref (g 100))]) hx hb (oc_54 49 (aq_1 shX12_blend_48) ub_4) hl (ltb rfl) rfl (fun ls hl => ?_)
          have lp_51 : ∀ (n : Nat) (i51 : Nat) (x51_2 : Int32) (x51_3 : Int32) (I51 : Nat → Int32) (F51 : Nat → Nat → Int32) (H : Heap) (locs : List Loc) , 2 ^ n4 - i51 < n → (i51 ≤ 2 ^ n4 ∧ Fr [] [71, 72, 73] [37, 38, 74] cn In Fn cn I51 F51 ∧ IM cn F51) → va_P D vwCl (wM cI cB cZ g cn I51 F51) H → va_D A (wM cI cB cZ g cn I51 F51) → va_S A s.heap H locs → ∀ ls : Array Slot, lv_has ls 7 [(4, .int (nI i51)), (3, .int x51_3), (2, .int x51_2), (1, .int (nI n4)), (0, .ref (g 100))] → W p l e (RM 3 0 0) s m ([.ref (g 100)]).toArray below meth c H locs 0 0 (MQ below (va_Qi (fun (r : Int32) (u : (Nat → Nat) × (Nat → Int32) × (Nat → Nat → Int32)) => (fun r c2 I2 F2 => Fr [] [71, 72, 73] [37, 38, 74] cn In Fn c2 I2 F2 ∧ IM c2 F2 ∧ (True)) r u.1 u.2.1 u.2.2) (fun (u : (Nat → Nat) × (Nat → Int32) × (Nat → Nat → Int32)) (t : State) => va_P D vwCl (wM cI cB cZ g u.1 u.2.1 u.2.2) t.heap ∧ va_D A (wM cI cB cZ g u.1 u.2.1 u.2.2)) A) ([.ref (g 100)]).toArray s 0 0 A) (F0 m 51 ls []) := by
            intro n51
            induction n51 with
            | zero => intros; (first | omega | (have zz0 := Hid.u hi_cn; omega))
            | succ n51 ih51 =>
              intro i51 x51_2 x51_3 I51 F51 H locs hmu51 hinv51 hP hD hS ls hl
              obtain ⟨hr51, hfr51, hI51⟩ := hinv51
              have ti51 : (nI i51).toInt = (i51 : Int) := nI_toInt (by (first | omega | (have zz0 := Hid.u hi_cn; omega)))
              have hi_cn : Hid (CB cn) := hI51.b
              refine lv_iload hx hb (oc_21 51 (aq_3 shX12_blend_48) ub_4) (lvA0 hl) ?_
              refine lv_iconst (v := 1) hx hb (oc_4 53 (aq_5 shX12_blend_48)) kic_1 ?_
              refine lv_iload_n hx hb (oc_27 54 (aq_6 shX12_blend_48)) rfl (lvA3 hl) ?_
              refine lv_ishl hx hb (oc_120 55 (aq_7 shX12_blend_48)) ?_
              refine lv_topi (fun y_18 ey_18 => ?_)
              obtain rfl : y_18 = (nI (2 ^ n4)) := ey_18.trans (sh1 (by (first | omega | (have zz0 := Hid.u hi_cn; omega))))
              have : (nI (2 ^ n4)).toInt = (((2 ^ n4) : Nat) : Int) := nI_toInt (by (first | omega | (have zz0 := Hid.u hi_cn; omega)))
              refine lv_icmp_ge (tgt := 166) hx hb (oc_162 56 (aq_8 shX12_blend_48) sgw_0_110) rfl (fun c_19 => ?_) (fun c_19 => ?_)
              ·
                have tc_19 : ((nI (2 ^ n4)).toInt : Int) ≤ (nI i51).toInt := Int32.le_iff_toInt_le.mp c_19
                refine lv_iload_n hx hb (oc_28 166 (aq_20 shX12_blend_146)) rfl (lvA2 hl) ?_
                exact W.iret (v := x51_2) hx hb hr (fun t ht hW => ⟨⟨x51_2, (cn, I51, F51), rfl, ⟨(Fr.mo hfr51 (sbl rfl) (sbl rfl) (sbl rfl)), hI51, trivial⟩, by rw [ht]; exact hP, hD⟩, hS.F ht⟩) hS.2.2 (oc_172 167 (aq_21 shX12_blend_146))
              ·
                have tc_19 : ((nI i51).toInt : Int) < (nI (2 ^ n4)).toInt := Int32.lt_iff_toInt_lt.mp (Int32.not_le.mp c_19)
                refine lv_iconst (v := 0) hx hb (oc_3 59 (aq_11 shX12_blend_48)) kic_0 ?_
                refine lv_istore (lv' := [(5, .int 0), (4, .int (nI i51)), (3, .int x51_3), (2, .int x51_2), (1, .int (nI n4)), (0, .ref (g 100))]) hx hb (oc_54 60 (aq_12 shX12_blend_48) ub_5) hl (ltb rfl) rfl (fun ls hl => ?_)
                refine lv_iconst (v := 0) hx hb (oc_3 62 (aq_14 shX12_blend_48)) kic_0 ?_
                refine lv_istore (lv' := [(6, .int 0), (5, .int 0), (4, .int (nI i51)), (3, .int x51_3), (2, .int x51_2), (1, .int (nI n4)), (0, .ref (g 100))]) hx hb (oc_54 63 (aq_15 shX12_blend_48) ub_6) hl (ltb rfl) rfl (fun ls hl => ?_)
                have lp_65 : ∀ (n : Nat) (i65 : Nat) (x65_5 : Int32) , n4 - i65 < n → (i65 ≤ n4) → ∀ ls : Array Slot, lv_has ls 7 [(6, .int (nI i65)), (5, .int x65_5), (4, .int (nI i51)), (3, .int x51_3), (2, .int x51_2), (1, .int (nI n4)), (0, .ref (g 100))] → W p l e (RM 3 0 0) s m ([.ref (g 100)]).toArray below meth c H locs 0 0 (MQ below (va_Qi (fun (r : Int32) (u : (Nat → Nat) × (Nat → Int32) × (Nat → Nat → Int32)) => (fun r c2 I2 F2 => Fr [] [71, 72, 73] [37, 38, 74] cn In Fn c2 I2 F2 ∧ IM c2 F2 ∧ (True)) r u.1 u.2.1 u.2.2) (fun (u : (Nat → Nat) × (Nat → Int32) × (Nat → Nat → Int32)) (t : State) => va_P D vwCl (wM cI cB cZ g u.1 u.2.1 u.2.2) t.heap ∧ va_D A (wM cI cB cZ g u.1 u.2.1 u.2.2)) A) ([.ref (g 100)]).toArray s 0 0 A) (F0 m 65 ls []) := by
                  intro n65
                  induction n65 with
                  | zero => intros; (first | omega | (have zz0 := Hid.u hi_cn; omega))
                  | succ n65 ih65 =>
                    intro i65 x65_5 hmu65 hinv65 ls hl
                    have hr65 := hinv65
                    have ti65 : (nI i65).toInt = (i65 : Int) := nI_toInt (by (first | omega | (have zz0 := Hid.u hi_cn; omega)))
                    refine lv_iload hx hb (oc_21 65 (aq_17 shX12_blend_48) ub_6) (lvA0 hl) ?_
                    refine lv_iload_n hx hb (oc_27 67 (aq_19 shX12_blend_48)) rfl (lvA5 hl) ?_
                    refine lv_icmp_ge (tgt := 107) hx hb (oc_162 68 (aq_20 shX12_blend_48) sgw_0_39) rfl (fun c_20 => ?_) (fun c_20 => ?_)
                    ·
                      have tc_20 : ((nI n4).toInt : Int) ≤ (nI i65).toInt := Int32.le_iff_toInt_le.mp c_20
                      refine lv_aload_n hx hb (oc_42 107 (aq_10 shX12_blend_97)) rfl (lvA6 hl) ?_
                      refine lv_iload hx hb (oc_21 108 (aq_11 shX12_blend_97) ub_5) (lvA1 hl) ?_
                      have hFc := free_all hD hS hA
                      refine va_calli (runV_a (As := [.int x65_5]) (rest := []) S (q_whyNot l D cI cB cZ g cn I51 F51 x65_5 H.size hI51) kV_RX12_441 hK hP hD 0 rfl rfl rfl ⟨Nat.le_of_ble_eq_true rfl, Nat.le_of_ble_eq_true rfl⟩ ⟨Nat.le_of_ble_eq_true rfl, Nat.le_of_ble_eq_true rfl⟩ rfl hl.1 rfl (Nat.le_of_ble_eq_true rfl) (oc_182 110 (aq_13 shX12_blend_97) uw_1_185)) hS (fun q _ h => hFc q h) hFc (fun r_21 u t H1 locs ht hvm wh_22 hB hz1 hk1 hS => ?_)
                      obtain ⟨cn22, In22, Fn22⟩ := u
                      obtain ⟨hP1, hD1⟩ := hB
                      rw [ht] at hP1
                      have hP : va_P D vwCl (wM cI cB cZ g cn22 In22 Fn22) H1 := hP1
                      have hD : va_D A (wM cI cB cZ g cn22 In22 Fn22) := hD1.weaken (fun _ _ _ h => hFc _ h)
                      generalize H1 = H at hP hS ⊢
                      have vh_22 : (fun r c2 I2 F2 => Fr [] [71, 72, 73] [37, 38] cn I51 F51 c2 I2 F2 ∧ IM c2 F2 ∧ (True)) r_21 cn22 In22 Fn22 := wh_22
                      obtain ⟨hfc22, hIn22, h_22⟩ := vh_22
                      obtain rfl : cn = cn22 := (funext (fun k => hfc22.1 k List.not_mem_nil)).symm
                      have hf22 : Fr [] [71, 72, 73] [37, 38, 74] cn In Fn cn In22 Fn22 := Fr.mo (Fr.tr hfr51 hfc22) (sbl rfl) (sbl rfl) (sbl rfl)
                      have hi_cn : Hid (CB cn) := hIn22.b
                      refine lv_iconst (v := (-1)) hx hb (oc_2 113 (aq_16 shX12_blend_97)) kic_m1 ?_
                      refine lv_icmp_ne (tgt := 160) hx hb (oc_160 114 (aq_17 shX12_blend_97) sgw_0_46) rfl (fun c_23 => ?_) (fun c_23 => ?_)
                      ·
                        have tc_23 : (r_21.toInt : Int) ≠ (-1) := fun q => c_23 (Int32.toInt_inj.mp q)
                        refine lv_iinc (v := (nI (i51 + 1))) (lv' := [(4, .int (nI (i51 + 1))), (6, .int (nI i65)), (5, .int x65_5), (3, .int x51_3), (2, .int x51_2), (1, .int (nI n4)), (0, .ref (g 100))]) hx hb dX12_blend_160 hl (k := 2) rfl (nI_1 _) (ltb rfl) rfl (fun ls hl => ?_)
                        refine lv_goto (tgt := 51) hx hb dX12_blend_163 rfl ?_
                        exact ih51 (i51 + 1) x51_2 x51_3 In22 Fn22 _ _ (by (first | omega | (have zz0 := Hid.u hi_cn; omega))) ⟨(by (first | omega | (have zz0 := Hid.u hi_cn; omega))), (Fr.mo hf22 (sbl rfl) (sbl rfl) (sbl rfl)), hIn22⟩ hP hD hS ls (lv_sub hl [0, 3, 4, 5, 6] rfl)
                      ·
                        have tc_23 : (r_21.toInt : Int) = (-1) := congrArg Int32.toInt c_23
                        refine lv_iload_n hx hb (oc_28 117 (aq_20 shX12_blend_97)) rfl (lvA4 hl) ?_
                        refine lv_if_eq (tgt := 152) hx hb (oc_153 118 (aq_21 shX12_blend_97) sgw_0_34) rfl (fun c_24 => ?_) (fun c_24 => ?_)
                        ·
                          have tc_24 : (x51_2.toInt : Int) = 0 := congrArg Int32.toInt c_24
                          refine lv_iload hx hb dX12_blend_152 (lvA1 hl) ?_
                          refine lv_istore_n (lv' := [(2, .int x65_5), (6, .int (nI i65)), (5, .int x65_5), (4, .int (nI i51)), (3, .int x51_3), (1, .int (nI n4)), (0, .ref (g 100))]) hx hb dX12_blend_154 rfl hl (ltb rfl) rfl (fun ls hl => ?_)
                          refine lv_aload_n hx hb dX12_blend_155 rfl (lvA6 hl) ?_
                          refine gM_419 S hK hP (v := .int (In22 71)) rfl dX12_blend_156 ?_
                          refine lv_istore_n (lv' := [(3, .int (In22 71)), (2, .int x65_5), (6, .int (nI i65)), (5, .int x65_5), (4, .int (nI i51)), (1, .int (nI n4)), (0, .ref (g 100))]) hx hb dX12_blend_159 rfl hl (ltb rfl) rfl (fun ls hl => ?_)
                          refine lv_iinc (v := (nI (i51 + 1))) (lv' := [(4, .int (nI (i51 + 1))), (3, .int (In22 71)), (2, .int x65_5), (6, .int (nI i65)), (5, .int x65_5), (1, .int (nI n4)), (0, .ref (g 100))]) hx hb dX12_blend_160 hl (k := 4) rfl (nI_1 _) (ltb rfl) rfl (fun ls hl => ?_)
                          refine lv_goto (tgt := 51) hx hb dX12_blend_163 rfl ?_
                          exact ih51 (i51 + 1) x65_5 (In22 71) In22 Fn22 _ _ (by (first | omega | (have zz0 := Hid.u hi_cn; omega))) ⟨(by (first | omega | (have zz0 := Hid.u hi_cn; omega))), (Fr.mo hf22 (sbl rfl) (sbl rfl) (sbl rfl)), hIn22⟩ hP hD hS ls (lv_sub hl [0, 1, 2, 5, 6] rfl)
                        ·
                          have tc_24 : (x51_2.toInt : Int) ≠ 0 := fun q => c_24 (Int32.toInt_inj.mp q)
                          refine lv_aload_n hx hb (oc_42 121 shX12_blend_121) rfl (lvA6 hl) ?_
                          refine gM_419 S hK hP (v := .int (In22 71)) rfl (oc_180 122 (aq_1 shX12_blend_121) uw_1_163) ?_
                          refine lv_iload_n hx hb (oc_29 125 (aq_4 shX12_blend_121)) rfl (lvA3 hl) ?_
                          refine lv_icmp_lt (tgt := 160) hx hb (oc_161 126 (aq_5 shX12_blend_121) sgw_0_34) rfl (fun c_25 => ?_) (fun c_25 => ?_)
                          ·
                            have tc_25 : ((In22 71).toInt : Int) < x51_3.toInt := Int32.lt_iff_toInt_lt.mp c_25
                            refine lv_iinc (v := (nI (i51 + 1))) (lv' := [(4, .int (nI (i51 + 1))), (6, .int (nI i65)), (5, .int x65_5), (3, .int x51_3), (2, .int x51_2), (1, .int (nI n4)), (0, .ref (g 100))]) hx hb dX12_blend_160 hl (k := 2) rfl (nI_1 _) (ltb rfl) rfl (fun ls hl => ?_)
                            refine lv_goto (tgt := 51) hx hb dX12_blend_163 rfl ?_
                            exact ih51 (i51 + 1) x51_2 x51_3 In22 Fn22 _ _ (by (first | omega | (have zz0 := Hid.u hi_cn; omega))) ⟨(by (first | omega | (have zz0 := Hid.u hi_cn; omega))), (Fr.mo hf22 (sbl rfl) (sbl rfl) (sbl rfl)), hIn22⟩ hP hD hS ls (lv_sub hl [0, 3, 4, 5, 6] rfl)
                          ·
                            have tc_25 : (x51_3.toInt : Int) ≤ (In22 71).toInt := Int32.le_iff_toInt_le.mp (Int32.not_lt.mp c_25)
                            refine lv_aload_n hx hb (oc_42 129 (aq_8 shX12_blend_121)) rfl (lvA6 hl) ?_
                            refine gM_419 S hK hP (v := .int (In22 71)) rfl (oc_180 130 (aq_9 shX12_blend_121) uw_1_163) ?_
                            refine lv_iload_n hx hb (oc_29 133 (aq_12 shX12_blend_121)) rfl (lvA3 hl) ?_
                            refine lv_icmp_ne (tgt := 152) hx hb (oc_160 134 (aq_13 shX12_blend_121) sgw_0_18) rfl (fun c_26 => ?_) (fun c_26 => ?_)
                            ·
                              have tc_26 : ((In22 71).toInt : Int) ≠ x51_3.toInt := fun q => c_26 (Int32.toInt_inj.mp q)
                              refine lv_iload hx hb dX12_blend_152 (lvA1 hl) ?_
                              refine lv_istore_n (lv' := [(2, .int x65_5), (6, .int (nI i65)), (5, .int x65_5), (4, .int (nI i51)), (3, .int x51_3), (1, .int (nI n4)), (0, .ref (g 100))]) hx hb dX12_blend_154 rfl hl (ltb rfl) rfl (fun ls hl => ?_)
                              refine lv_aload_n hx hb dX12_blend_155 rfl (lvA6 hl) ?_
                              refine gM_419 S hK hP (v := .int (In22 71)) rfl dX12_blend_156 ?_
                              refine lv_istore_n (lv' := [(3, .int (In22 71)), (2, .int x65_5), (6, .int (nI i65)), (5, .int x65_5), (4, .int (nI i51)), (1, .int (nI n4)), (0, .ref (g 100))]) hx hb dX12_blend_159 rfl hl (ltb rfl) rfl (fun ls hl => ?_)
                              refine lv_iinc (v := (nI (i51 + 1))) (lv' := [(4, .int (nI (i51 + 1))), (3, .int (In22 71)), (2, .int x65_5), (6, .int (nI i65)), (5, .int x65_5), (1, .int (nI n4)), (0, .ref (g 100))]) hx hb dX12_blend_160 hl (k := 4) rfl (nI_1 _) (ltb rfl) rfl (fun ls hl => ?_)
                              refine lv_goto (tgt := 51) hx hb dX12_blend_163 rfl ?_
                              exact ih51 (i51 + 1) x65_5 (In22 71) In22 Fn22 _ _ (by (first | omega | (have zz0 := Hid.u hi_cn; omega))) ⟨(by (first | omega | (have zz0 := Hid.u hi_cn; omega))), (Fr.mo hf22 (sbl rfl) (sbl rfl) (sbl rfl)), hIn22⟩ hP hD hS ls (lv_sub hl [0, 1, 2, 5, 6] rfl)
                            ·
                              have tc_26 : ((In22 71).toInt : Int) = x51_3.toInt := congrArg Int32.toInt c_26
                              refine lv_iload hx hb (oc_21 137 (aq_16 shX12_blend_121) ub_5) (lvA1 hl) ?_
                              refine vp_callSi (runS_r (As := [.int x65_5]) (rest := []) S (q_bits l D cI cB cZ x65_5 ) kS_RX12_431 hK hP [] rfl ⟨Nat.le_of_ble_eq_true rfl, Nat.le_of_ble_eq_true rfl⟩ ⟨Nat.le_of_ble_eq_true rfl, Nat.le_of_ble_eq_true rfl⟩ rfl hl.1 rfl (Nat.le_of_ble_eq_true rfl) (oc_184 139 (aq_18 shX12_blend_121) uw_1_175)) (fun r_27 h_28 => ?_)
                              refine lv_iload_n hx hb (oc_28 142 (aq_21 shX12_blend_121)) rfl (lvA4 hl) ?_
                              refine vp_callSi (runS_r (As := [.int x51_2]) (rest := [.int r_27]) S (q_bits l D cI cB cZ x51_2 ) kS_RX12_431 hK hP [] rfl ⟨Nat.le_of_ble_eq_true rfl, Nat.le_of_ble_eq_true rfl⟩ ⟨Nat.le_of_ble_eq_true rfl, Nat.le_of_ble_eq_true rfl⟩ rfl hl.1 rfl (Nat.le_of_ble_eq_true rfl) (oc_184 143 (aq_22 shX12_blend_121) uw_1_175)) (fun r_29 h_30 => ?_)
                              refine lv_icmp_lt (tgt := 152) hx hb (oc_161 146 shX12_blend_146 sgw_0_6) rfl (fun c_31 => ?_) (fun c_31 => ?_)
                              ·
                                have tc_31 : (r_27.toInt : Int) < r_29.toInt := Int32.lt_iff_toInt_lt.mp c_31
                                refine lv_iload hx hb dX12_blend_152 (lvA1 hl) ?_
                                refine lv_istore_n (lv' := [(2, .int x65_5), (6, .int (nI i65)), (5, .int x65_5), (4, .int (nI i51)), (3, .int x51_3), (1, .int (nI n4)), (0, .ref (g 100))]) hx hb dX12_blend_154 rfl hl (ltb rfl) rfl (fun ls hl => ?_)
                                refine lv_aload_n hx hb dX12_blend_155 rfl (lvA6 hl) ?_
                                refine gM_419 S hK hP (v := .int (In22 71)) rfl dX12_blend_156 ?_
                                refine lv_istore_n (lv' := [(3, .int (In22 71)), (2, .int x65_5), (6, .int (nI i65)), (5, .int x65_5), (4, .int (nI i51)), (1, .int (nI n4)), (0, .ref (g 100))]) hx hb dX12_blend_159 rfl hl (ltb rfl) rfl (fun ls hl => ?_)
                                refine lv_iinc (v := (nI (i51 + 1))) (lv' := [(4, .int (nI (i51 + 1))), (3, .int (In22 71)), (2, .int x65_5), (6, .int (nI i65)), (5, .int x65_5), (1, .int (nI n4)), (0, .ref (g 100))]) hx hb dX12_blend_160 hl (k := 4) rfl (nI_1 _) (ltb rfl) rfl (fun ls hl => ?_)
                                refine lv_goto (tgt := 51) hx hb dX12_blend_163 rfl ?_
                                exact ih51 (i51 + 1) x65_5 (In22 71) In22 Fn22 _ _ (by (first | omega | (have zz0 := Hid.u hi_cn; omega))) ⟨(by (first | omega | (have zz0 := Hid.u hi_cn; omega))), (Fr.mo hf22 (sbl rfl) (sbl rfl) (sbl rfl)), hIn22⟩ hP hD hS ls (lv_sub hl [0, 1, 2, 5, 6] rfl)
                              ·
                                have tc_31 : (r_29.toInt : Int) ≤ r_27.toInt := Int32.le_iff_toInt_le.mp (Int32.not_lt.mp c_31)
                                refine lv_goto (tgt := 160) hx hb (oc_167 149 (aq_3 shX12_blend_146) sgw_0_11) rfl ?_
                                refine lv_iinc (v := (nI (i51 + 1))) (lv' := [(4, .int (nI (i51 + 1))), (6, .int (nI i65)), (5, .int x65_5), (3, .int x51_3), (2, .int x51_2), (1, .int (nI n4)), (0, .ref (g 100))]) hx hb dX12_blend_160 hl (k := 2) rfl (nI_1 _) (ltb rfl) rfl (fun ls hl => ?_)
                                refine lv_goto (tgt := 51) hx hb dX12_blend_163 rfl ?_
                                exact ih51 (i51 + 1) x51_2 x51_3 In22 Fn22 _ _ (by (first | omega | (have zz0 := Hid.u hi_cn; omega))) ⟨(by (first | omega | (have zz0 := Hid.u hi_cn; omega))), (Fr.mo hf22 (sbl rfl) (sbl rfl) (sbl rfl)), hIn22⟩ hP hD hS ls (lv_sub hl [0, 3, 4, 5, 6] rfl)
                    ·
                      have tc_20 : ((nI i65).toInt : Int) < (nI n4).toInt := Int32.lt_iff_toInt_lt.mp (Int32.not_le.mp c_20)
                      refine lv_iload hx hb (oc_21 71 (aq_23 shX12_blend_48) ub_4) (lvA2 hl) ?_
                      refine lv_iload hx hb (oc_21 73 shX12_blend_73 ub_6) (lvA0 hl) ?_
                      refine lv_ishr hx hb (oc_122 75 (aq_2 shX12_blend_73)) ?_
                      refine lv_iconst (v := 1) hx hb (oc_4 76 (aq_3 shX12_blend_73)) kic_1 ?_
                      refine lv_iand hx hb (oc_126 77 (aq_4 shX12_blend_73)) ?_
                      refine lv_iconst (v := 1) hx hb (oc_4 78 (aq_5 shX12_blend_73)) kic_1 ?_
                      refine lv_icmp_ne (tgt := 97) hx hb (oc_160 79 (aq_6 shX12_blend_73) sgw_0_18) rfl (fun c_32 => ?_) (fun c_32 => ?_)
                      ·
                        have tc_32 : ((((nI i51) >>> ((nI i65) &&& 31)) &&& 1).toInt : Int) ≠ 1 := fun q => c_32 (Int32.toInt_inj.mp q)
                        refine lv_iload hx hb (oc_21 97 shX12_blend_97 ub_5) (lvA1 hl) ?_
                        refine lv_istore (lv' := [(5, .int x65_5), (6, .int (nI i65)), (4, .int (nI i51)), (3, .int x51_3), (2, .int x51_2), (1, .int (nI n4)), (0, .ref (g 100))]) hx hb dX12_blend_99 hl (ltb rfl) rfl (fun ls hl => ?_)
                        refine lv_iinc (v := (nI (i65 + 1))) (lv' := [(6, .int (nI (i65 + 1))), (5, .int x65_5), (4, .int (nI i51)), (3, .int x51_3), (2, .int x51_2), (1, .int (nI n4)), (0, .ref (g 100))]) hx hb dX12_blend_101 hl (k := 1) rfl (nI_1 _) (ltb rfl) rfl (fun ls hl => ?_)
                        refine lv_goto (tgt := 65) hx hb dX12_blend_104 rfl ?_
                        exact ih65 (i65 + 1) x65_5 (by (first | omega | (have zz0 := Hid.u hi_cn; omega))) (by (first | omega | (have zz0 := Hid.u hi_cn; omega))) ls (lv_sub hl [0, 1, 2, 3, 4, 5, 6] rfl)
                      ·
                        have tc_32 : ((((nI i51) >>> ((nI i65) &&& 31)) &&& 1).toInt : Int) = 1 := congrArg Int32.toInt c_32
                        refine lv_iload hx hb (oc_21 82 (aq_9 shX12_blend_73) ub_5) (lvA1 hl) ?_
                        refine lv_iconst (v := 1) hx hb (oc_4 84 (aq_11 shX12_blend_73)) kic_1 ?_
                        refine lv_aload_n hx hb (oc_42 85 (aq_12 shX12_blend_73)) rfl (lvA6 hl) ?_
                        refine gM_159 S hK hP (v := .ref (g 74)) rfl (oc_180 86 (aq_13 shX12_blend_73) uw_0_159) ?_
                        refine lv_iload hx hb (oc_21 89 (aq_16 shX12_blend_73) ub_6) (lvA0 hl) ?_
                        have kb_2 : i65 < 12 := by (first | omega | (have zz0 := Hid.u hi_cn; omega))
                        refine ldM_74 hx hb hK hP (x := ((F51 74) i65)) (vp_in_nI kb_2 (ltb rfl)) (nI_clamp (Nat.lt_trans kb_2 (ltb rfl))) rfl (oc_46 91 (aq_18 shX12_blend_73)) ?_
                        refine lv_ishl hx hb (oc_120 92 (aq_19 shX12_blend_73)) ?_
                        refine lv_ior hx hb (oc_128 93 (aq_20 shX12_blend_73)) ?_
                        refine lv_goto (tgt := 99) hx hb (oc_167 94 (aq_21 shX12_blend_73) sgw_0_5) rfl ?_
                        refine lv_istore (lv' := [(5, .int (x65_5 ||| (1 <<< (((F51 74) i65) &&& 31)))), (6, .int (nI i65)), (4, .int (nI i51)), (3, .int x51_3), (2, .int x51_2), (1, .int (nI n4)), (0, .ref (g 100))]) hx hb dX12_blend_99 hl (ltb rfl) rfl (fun ls hl => ?_)
                        refine lv_iinc (v := (nI (i65 + 1))) (lv' := [(6, .int (nI (i65 + 1))), (5, .int (x65_5 ||| (1 <<< (((F51 74) i65) &&& 31)))), (4, .int (nI i51)), (3, .int x51_3), (2, .int x51_2), (1, .int (nI n4)), (0, .ref (g 100))]) hx hb dX12_blend_101 hl (k := 1) rfl (nI_1 _) (ltb rfl) rfl (fun ls hl => ?_)
                        refine lv_goto (tgt := 65) hx hb dX12_blend_104 rfl ?_
                        exact ih65 (i65 + 1) (x65_5 ||| (1 <<< (((F51 74) i65) &&& 31))) (by (first | omega | (have zz0 := Hid.u hi_cn; omega))) (by (first | omega | (have zz0 := Hid.u hi_cn; omega))) ls (lv_sub hl [0, 1, 2, 3, 4, 5, 6] rfl)
                exact lp_65 _ 0 0 (Nat.lt_succ_self _) (by (first | omega | (have zz0 := Hid.u hi_cn; omega))) ls (lv_sub hl [0, 1, 2, 3, 4, 5, 6] rfl)
          exact lp_51 _ 1 0 0 In F4 _ _ (Nat.lt_succ_self _) ⟨(by (first | omega | (have zz0 := Hid.u hi_cn; omega))), (Fr.mo hfr4 (sbl rfl) (sbl rfl) (sbl rfl)), hI4⟩ hP hD hS ls (lv_sub hl [0, 1, 2, 3, 4] rfl)
        ·
          have tc_17 : ((nI n4).toInt : Int) < 12 := Int32.lt_iff_toInt_lt.mp (Int32.not_le.mp c_17)
          refine lv_aload_n hx hb (oc_42 16 (aq_16 shX12_blend_0)) rfl (lvA2 hl) ?_
          refine lv_iload_n hx hb (oc_28 17 (aq_17 shX12_blend_0)) rfl (lvA0 hl) ?_
          refine vp_callSi (runV_ra (As := [.int (nI i4)]) (rest := []) S (q_isFree l D cI cB cZ g cn In F4 (nI i4) hI4) kV_RX12_438 hK hP 0 rfl rfl rfl ⟨Nat.le_of_ble_eq_true rfl, Nat.le_of_ble_eq_true rfl⟩ ⟨Nat.le_of_ble_eq_true rfl, Nat.le_of_ble_eq_true rfl⟩ rfl hl.1 rfl (Nat.le_of_ble_eq_true rfl) (oc_182 18 (aq_18 shX12_blend_0) uw_1_182)) (fun r_33 h_34 => ?_)
          rcases h_34 with rfl | ⟨rfl, h_34⟩
          ·
            refine lv_if_ne (tgt := 27) hx hb (oc_154 21 (aq_21 shX12_blend_0) sgw_0_6) rfl (fun h => absurd h cq_eq_0_0) (fun _ => ?_)
            refine lv_goto (tgt := 38) hx hb (oc_167 24 shX12_blend_24 sgw_0_14) rfl ?_
            refine lv_iinc (v := (nI (i4 + 1))) (lv' := [(2, .int (nI (i4 + 1))), (1, .int (nI n4)), (0, .ref (g 100))]) hx hb (oc_132 38 (aq_14 shX12_blend_24) ub_2 sgb_1) hl (k := 0) rfl (nI_1 _) (ltb rfl) rfl (fun ls hl => ?_)
            refine lv_goto (tgt := 4) hx hb (oc_167 41 (aq_17 shX12_blend_24) sgw_255_219) rfl ?_
            exact ih4 (i4 + 1) n4 F4 _ _ (by (first | omega | (have zz0 := Hid.u hi_cn; omega))) ⟨(by (first | omega | (have zz0 := Hid.u hi_cn; omega))), (Fr.mo hfr4 (sbl rfl) (sbl rfl) (sbl rfl)), hI4, ⟨by (first | omega | (have zz0 := Hid.u hi_cn; omega)), by (first | omega | (have zz0 := Hid.u hi_cn; omega))⟩⟩ hP hD hS ls (lv_sub hl [0, 1, 2] rfl)
          ·
            have h_34 : 0 ≤ (nI i4).toInt ∧ (nI i4).toInt < ((cn 2) : Int) := h_34
            refine lv_if_ne (tgt := 27) hx hb (oc_154 21 (aq_21 shX12_blend_0) sgw_0_6) rfl (fun _ => ?_) (fun h => absurd h cq_eq_1_0)
            refine lv_aload_n hx hb (oc_42 27 (aq_3 shX12_blend_24)) rfl (lvA2 hl) ?_
            refine gM_159 S hK hP (v := .ref (g 74)) rfl (oc_180 28 (aq_4 shX12_blend_24) uw_0_159) ?_
            refine lv_iload_n hx hb (oc_27 31 (aq_7 shX12_blend_24)) rfl (lvA1 hl) ?_
            refine lv_iload_n hx hb (oc_28 32 (aq_8 shX12_blend_24)) rfl (lvA0 hl) ?_
            have kb_3 : n4 < 12 := by (first | omega | (have zz0 := Hid.u hi_cn; omega))
            refine stM_74 hx hb hK hP hD hS (Fn2 := (va_up F4 74 (upd (F4 74) n4 (nI i4)))) (vp_in_nI kb_3 (ltb rfl)) (nI_clamp (Nat.lt_trans kb_3 (ltb rfl))) rfl (oc_79 33 (aq_9 shX12_blend_24)) (fun H locs hP hD hS => ?_)
            refine lv_iload_n hx hb (oc_27 34 (aq_10 shX12_blend_24)) rfl (lvA1 hl) ?_
            refine lv_iconst (v := 1) hx hb (oc_4 35 (aq_11 shX12_blend_24)) kic_1 ?_
            refine lv_iadd hx hb (oc_96 36 (aq_12 shX12_blend_24)) ?_
            refine lv_topi (fun y_35 ey_35 => ?_)
            obtain rfl : y_35 = (nI (n4 + 1)) := ey_35.trans (nI_add n4 1)
            refine lv_istore_n (lv' := [(1, .int (nI (n4 + 1))), (2, .int (nI i4)), (0, .ref (g 100))]) hx hb (oc_60 37 (aq_13 shX12_blend_24)) rfl hl (ltb rfl) rfl (fun ls hl => ?_)
            refine lv_iinc (v := (nI (i4 + 1))) (lv' := [(2, .int (nI (i4 + 1))), (1, .int (nI (n4 + 1))), (0, .ref (g 100))]) hx hb (oc_132 38 (aq_14 shX12_blend_24) ub_2 sgb_1) hl (k := 1) rfl (nI_1 _) (ltb rfl) rfl (fun ls hl => ?_)
            refine lv_goto (tgt := 4) hx hb (oc_167 41 (aq_17 shX12_blend_24) sgw_255_219) rfl ?_
            exact ih4 (i4 + 1) (n4 + 1) (va_up F4 74 (upd (F4 74) n4 (nI i4))) _ _ (by (first | omega | (have zz0 := Hid.u hi_cn; omega))) ⟨(by (first | omega | (have zz0 := Hid.u hi_cn; omega))), (Fr.mo (Fr.f 74 hfr4) (sbl rfl) (sbl rfl) (sbl rfl)), (IM.fr (In := In) hI4 (Fr.f 74 Fr.rf) (by decide) (by decide)), ⟨by (first | omega | (have zz0 := Hid.u hi_cn; omega)), by (first | omega | (have zz0 := Hid.u hi_cn; omega))⟩⟩ hP hD hS ls (lv_sub hl [0, 1, 2] rfl)
  exact lp_4 _ 0 0 Fn _ _ (Nat.lt_succ_self _) ⟨(by (first | omega | (have zz0 := Hid.u hi_cn; omega))), (Fr.mo Fr.rf (sbl rfl) (sbl rfl) (sbl rfl)), hI, ⟨Nat.le_refl _, by (first | omega | (have zz0 := Hid.u hi_cn; omega))⟩⟩ hP hD hS ls (lv_sub hl [0, 1, 2] rfl)
set_option maxRecDepth 100000 in
set_option maxHeartbeats 4000000 in
theorem q_feed (l : Launch) (D : va_G) (cI cB cZ : ClassId) (g : Nat → Nat) (cn : Nat → Nat) (In : Nat → Int32) (Fn : Nat → Nat → Int32) (v0 v1 v2 v3 v4 : Int32) (sz : Nat) (hI : IM cn Fn) (h18 : cn 18 ≤ 200) : Met l yX12_feed (CWS yX12_feed cX12_feed 6 (some .int)) (RM 1 0 0) (PBw [.ref (g 100), .int v0, .int v1, .int v2, .int v3, .int v4] D cI cB cZ (wM cI cB cZ g cn In Fn) sz) (va_Qi (fun (r : Int32) (u : (Nat → Nat) × (Nat → Int32) × (Nat → Nat → Int32)) => (fun r c2 I2 F2 => Fr [18] [] [17] cn In Fn c2 I2 F2 ∧ IM c2 F2 ∧ (c2 18 ≤ 200)) r u.1 u.2.1 u.2.2) (fun (u : (Nat → Nat) × (Nat → Int32) × (Nat → Nat → Int32)) (t : State) => va_P D vwCl (wM cI cB cZ g u.1 u.2.1 u.2.2) t.heap ∧ va_D (va_A (wM cI cB cZ g cn In Fn) sz) (wM cI cB cZ g u.1 u.2.1 u.2.2)) (va_A (wM cI cB cZ g cn In Fn) sz)) 0 0 (va_A (wM cI cB cZ g cn In Fn) sz) := by
  refine en_w (fun A => (va_Qi (fun (r : Int32) (u : (Nat → Nat) × (Nat → Int32) × (Nat → Nat → Int32)) => (fun (r : Int32) (c2 : Nat → Nat) (I2 : Nat → Int32) (F2 : Nat → Nat → Int32) => Fr [18] [] [17] cn In Fn c2 I2 F2 ∧ IM c2 F2 ∧ (c2 18 ≤ 200)) r u.1 u.2.1 u.2.2) (fun (u : (Nat → Nat) × (Nat → Int32) × (Nat → Nat → Int32)) (t : State) => va_P D vwCl (wM cI cB cZ g u.1 u.2.1 u.2.2) t.heap ∧ va_D A (wM cI cB cZ g u.1 u.2.1 u.2.2)) A)) rfl rfl pn_RX12 (Nat.le_of_ble_eq_true rfl) (fun p e s m below meth c A hx hb hml hown S hr hlocks hnm hA hP hK hD hS ls hl => ?_)
  have hl : lv_has ls 6 [(0, .ref (g 100)), (1, .int v0), (2, .int v1), (3, .int v2), (4, .int v3), (5, .int v4)] := hl
  have hi_cn : Hid (CB cn) := hI.b
  refine lv_aload_n hx hb (oc_42 0 shX12_feed_0) rfl (lvA0 hl) ?_
  refine gM_226 S hK hP (v := .int (nI (cn 18))) rfl (oc_180 1 (aq_1 shX12_feed_0) uw_0_226) ?_
  refine lv_bipush (v := 20) hx hb (oc_16 4 (aq_4 shX12_feed_0) sgb_20) kbc_20 ?_
  refine lv_iadd hx hb (oc_96 6 (aq_6 shX12_feed_0)) ?_
  refine lv_topi (fun y_1 ey_1 => ?_)
  obtain rfl : y_1 = (nI ((cn 18) + 20)) := ey_1.trans (nI_add (cn 18) 20)
  refine lv_sipush (v := 200) hx hb (oc_17 7 (aq_7 shX12_feed_0) sgw_0_200) (by decide) ?_
  have : (nI ((cn 18) + 20)).toInt = ((((cn 18) + 20) : Nat) : Int) := nI_toInt (by (first | omega | (have zz0 := Hid.u hi_cn; omega)))
  refine lv_icmp_le (tgt := 15) hx hb (oc_164 10 (aq_10 shX12_feed_0) sgw_0_5) rfl (fun c_2 => ?_) (fun c_2 => ?_)
  ·
    have tc_2 : ((nI ((cn 18) + 20)).toInt : Int) ≤ 200 := Int32.le_iff_toInt_le.mp c_2
    refine lv_aload_n hx hb (oc_42 15 (aq_15 shX12_feed_0)) rfl (lvA0 hl) ?_
    refine lv_iload_n hx hb (oc_27 16 (aq_16 shX12_feed_0)) rfl (lvA1 hl) ?_
    have hFc := free_all hD hS hA
    refine va_callv (runV_a (As := [.int v0]) (rest := []) S (q_types l D cI cB cZ g cn In Fn v0 s.heap.size hI (by (first | omega | (have zz0 := Hid.u hi_cn; omega)))) kV_RX12_229 hK hP hD 0 rfl rfl rfl ⟨Nat.le_of_ble_eq_true rfl, Nat.le_of_ble_eq_true rfl⟩ ⟨Nat.le_of_ble_eq_true rfl, Nat.le_of_ble_eq_true rfl⟩ rfl hl.1 rfl (Nat.le_of_ble_eq_true rfl) (oc_182 17 (aq_17 shX12_feed_0) uw_0_229)) hS (fun q _ h => hFc q h) hFc (fun u t H1 locs ht hvm wh_4 hB hz1 hk1 hS => ?_)
    obtain ⟨cn4, In4, Fn4⟩ := u
    obtain ⟨hP1, hD1⟩ := hB
    rw [ht] at hP1
    have hP : va_P D vwCl (wM cI cB cZ g cn4 In4 Fn4) H1 := hP1
    have hD : va_D A (wM cI cB cZ g cn4 In4 Fn4) := hD1.weaken (fun _ _ _ h => hFc _ h)
    generalize H1 = H at hP hS ⊢
    have vh_4 : (fun c2 I2 F2 => Fr [18] [] [17] cn In Fn c2 I2 F2 ∧ IM c2 F2 ∧ (c2 18 = (cn 18) + 4)) cn4 In4 Fn4 := wh_4
    obtain ⟨hfc4, hIn4, h_4⟩ := vh_4
    obtain rfl : In = In4 := (funext (fun k => hfc4.2.1 k List.not_mem_nil)).symm
    have hf4 : Fr [18] [] [17] cn In Fn cn4 In Fn4 := Fr.mo (Fr.tr (Fr.rf (cn := cn) (In := In) (Fn := Fn)) hfc4) (sbl rfl) (sbl rfl) (sbl rfl)
    have hi_cn4 : Hid (CB cn4) := hIn4.b
    have hq_cn4 := Hid.i (frq_18_0_1_2_46_57_58_62_63_75_83_44 hf4)
    refine lv_aload_n hx hb (oc_42 20 (aq_20 shX12_feed_0)) rfl (lvA0 hl) ?_
    refine lv_iload_n hx hb (oc_28 21 (aq_21 shX12_feed_0)) rfl (lvA2 hl) ?_
    have hFc := free_all hD hS hA
    refine va_callv (runV_a (As := [.int v1]) (rest := []) S (q_types l D cI cB cZ g cn4 In Fn4 v1 H.size hIn4 (by (first | omega | (have zz0 := Hid.u hi_cn; have zz1 := Hid.u hi_cn4; have zz2 := Hid.u hq_cn4; omega)))) kV_RX12_229 hK hP hD 0 rfl rfl rfl ⟨Nat.le_of_ble_eq_true rfl, Nat.le_of_ble_eq_true rfl⟩ ⟨Nat.le_of_ble_eq_true rfl, Nat.le_of_ble_eq_true rfl⟩ rfl hl.1 rfl (Nat.le_of_ble_eq_true rfl) (oc_182 22 (aq_22 shX12_feed_0) uw_0_229)) hS (fun q _ h => hFc q h) hFc (fun u t H1 locs ht hvm wh_6 hB hz1 hk1 hS => ?_)
    obtain ⟨cn6, In6, Fn6⟩ := u
    obtain ⟨hP1, hD1⟩ := hB
    rw [ht] at hP1
    have hP : va_P D vwCl (wM cI cB cZ g cn6 In6 Fn6) H1 := hP1
    have hD : va_D A (wM cI cB cZ g cn6 In6 Fn6) := hD1.weaken (fun _ _ _ h => hFc _ h)
    generalize H1 = H at hP hS ⊢
    have vh_6 : (fun c2 I2 F2 => Fr [18] [] [17] cn4 In Fn4 c2 I2 F2 ∧ IM c2 F2 ∧ (c2 18 = (cn4 18) + 4)) cn6 In6 Fn6 := wh_6
    obtain ⟨hfc6, hIn6, h_6⟩ := vh_6
    obtain rfl : In = In6 := (funext (fun k => hfc6.2.1 k List.not_mem_nil)).symm
    have hf6 : Fr [18] [] [17] cn In Fn cn6 In Fn6 := Fr.mo (Fr.tr hf4 hfc6) (sbl rfl) (sbl rfl) (sbl rfl)
    have hi_cn6 : Hid (CB cn6) := hIn6.b
    have hq_cn6 := Hid.i (frq_18_0_1_2_46_57_58_62_63_75_83_44 hf6)
    refine lv_aload_n hx hb (oc_42 25 shX12_feed_25) rfl (lvA0 hl) ?_
    refine lv_iload_n hx hb (oc_29 26 (aq_1 shX12_feed_25)) rfl (lvA3 hl) ?_
    have hFc := free_all hD hS hA
    refine va_callv (runV_a (As := [.int v2]) (rest := []) S (q_types l D cI cB cZ g cn6 In Fn6 v2 H.size hIn6 (by (first | omega | (have zz0 := Hid.u hi_cn; have zz1 := Hid.u hi_cn4; have zz2 := Hid.u hi_cn6; have zz3 := Hid.u hq_cn4; have zz4 := Hid.u hq_cn6; omega)))) kV_RX12_229 hK hP hD 0 rfl rfl rfl ⟨Nat.le_of_ble_eq_true rfl, Nat.le_of_ble_eq_true rfl⟩ ⟨Nat.le_of_ble_eq_true rfl, Nat.le_of_ble_eq_true rfl⟩ rfl hl.1 rfl (Nat.le_of_ble_eq_true rfl) (oc_182 27 (aq_2 shX12_feed_25) uw_0_229)) hS (fun q _ h => hFc q h) hFc (fun u t H1 locs ht hvm wh_8 hB hz1 hk1 hS => ?_)
    obtain ⟨cn8, In8, Fn8⟩ := u
    obtain ⟨hP1, hD1⟩ := hB
    rw [ht] at hP1
    have hP : va_P D vwCl (wM cI cB cZ g cn8 In8 Fn8) H1 := hP1
    have hD : va_D A (wM cI cB cZ g cn8 In8 Fn8) := hD1.weaken (fun _ _ _ h => hFc _ h)
    generalize H1 = H at hP hS ⊢
    have vh_8 : (fun c2 I2 F2 => Fr [18] [] [17] cn6 In Fn6 c2 I2 F2 ∧ IM c2 F2 ∧ (c2 18 = (cn6 18) + 4)) cn8 In8 Fn8 := wh_8
    obtain ⟨hfc8, hIn8, h_8⟩ := vh_8
    obtain rfl : In = In8 := (funext (fun k => hfc8.2.1 k List.not_mem_nil)).symm
    have hf8 : Fr [18] [] [17] cn In Fn cn8 In Fn8 := Fr.mo (Fr.tr hf6 hfc8) (sbl rfl) (sbl rfl) (sbl rfl)
    have hi_cn8 : Hid (CB cn8) := hIn8.b
    have hq_cn8 := Hid.i (frq_18_0_1_2_46_57_58_62_63_75_83_44 hf8)
    refine lv_aload_n hx hb (oc_42 30 (aq_5 shX12_feed_25)) rfl (lvA0 hl) ?_
    refine lv_iload hx hb (oc_21 31 (aq_6 shX12_feed_25) ub_4) (lvA4 hl) ?_
    have hFc := free_all hD hS hA
    refine va_callv (runV_a (As := [.int v3]) (rest := []) S (q_types l D cI cB cZ g cn8 In Fn8 v3 H.size hIn8 (by (first | omega | (have zz0 := Hid.u hi_cn; have zz1 := Hid.u hi_cn4; have zz2 := Hid.u hi_cn6; have zz3 := Hid.u hi_cn8; have zz4 := Hid.u hq_cn4; have zz5 := Hid.u hq_cn6; have zz6 := Hid.u hq_cn8; omega)))) kV_RX12_229 hK hP hD 0 rfl rfl rfl ⟨Nat.le_of_ble_eq_true rfl, Nat.le_of_ble_eq_true rfl⟩ ⟨Nat.le_of_ble_eq_true rfl, Nat.le_of_ble_eq_true rfl⟩ rfl hl.1 rfl (Nat.le_of_ble_eq_true rfl) (oc_182 33 (aq_8 shX12_feed_25) uw_0_229)) hS (fun q _ h => hFc q h) hFc (fun u t H1 locs ht hvm wh_10 hB hz1 hk1 hS => ?_)
    obtain ⟨cn10, In10, Fn10⟩ := u
    obtain ⟨hP1, hD1⟩ := hB
    rw [ht] at hP1
    have hP : va_P D vwCl (wM cI cB cZ g cn10 In10 Fn10) H1 := hP1
    have hD : va_D A (wM cI cB cZ g cn10 In10 Fn10) := hD1.weaken (fun _ _ _ h => hFc _ h)
    generalize H1 = H at hP hS ⊢
    have vh_10 : (fun c2 I2 F2 => Fr [18] [] [17] cn8 In Fn8 c2 I2 F2 ∧ IM c2 F2 ∧ (c2 18 = (cn8 18) + 4)) cn10 In10 Fn10 := wh_10
    obtain ⟨hfc10, hIn10, h_10⟩ := vh_10
    obtain rfl : In = In10 := (funext (fun k => hfc10.2.1 k List.not_mem_nil)).symm
    have hf10 : Fr [18] [] [17] cn In Fn cn10 In Fn10 := Fr.mo (Fr.tr hf8 hfc10) (sbl rfl) (sbl rfl) (sbl rfl)
    have hi_cn10 : Hid (CB cn10) := hIn10.b
    have hq_cn10 := Hid.i (frq_18_0_1_2_46_57_58_62_63_75_83_44 hf10)
    refine lv_aload_n hx hb (oc_42 36 (aq_11 shX12_feed_25)) rfl (lvA0 hl) ?_
    refine lv_iload hx hb (oc_21 37 (aq_12 shX12_feed_25) ub_5) (lvA5 hl) ?_
    have hFc := free_all hD hS hA
    refine va_callv (runV_a (As := [.int v4]) (rest := []) S (q_types l D cI cB cZ g cn10 In Fn10 v4 H.size hIn10 (by (first | omega | (have zz0 := Hid.u hi_cn; have zz1 := Hid.u hi_cn10; have zz2 := Hid.u hi_cn4; have zz3 := Hid.u hi_cn6; have zz4 := Hid.u hi_cn8; have zz5 := Hid.u hq_cn10; have zz6 := Hid.u hq_cn4; have zz7 := Hid.u hq_cn6; have zz8 := Hid.u hq_cn8; omega)))) kV_RX12_229 hK hP hD 0 rfl rfl rfl ⟨Nat.le_of_ble_eq_true rfl, Nat.le_of_ble_eq_true rfl⟩ ⟨Nat.le_of_ble_eq_true rfl, Nat.le_of_ble_eq_true rfl⟩ rfl hl.1 rfl (Nat.le_of_ble_eq_true rfl) (oc_182 39 (aq_14 shX12_feed_25) uw_0_229)) hS (fun q _ h => hFc q h) hFc (fun u t H1 locs ht hvm wh_12 hB hz1 hk1 hS => ?_)
    obtain ⟨cn12, In12, Fn12⟩ := u
    obtain ⟨hP1, hD1⟩ := hB
    rw [ht] at hP1
    have hP : va_P D vwCl (wM cI cB cZ g cn12 In12 Fn12) H1 := hP1
    have hD : va_D A (wM cI cB cZ g cn12 In12 Fn12) := hD1.weaken (fun _ _ _ h => hFc _ h)
    generalize H1 = H at hP hS ⊢
    have vh_12 : (fun c2 I2 F2 => Fr [18] [] [17] cn10 In Fn10 c2 I2 F2 ∧ IM c2 F2 ∧ (c2 18 = (cn10 18) + 4)) cn12 In12 Fn12 := wh_12
    obtain ⟨hfc12, hIn12, h_12⟩ := vh_12
    obtain rfl : In = In12 := (funext (fun k => hfc12.2.1 k List.not_mem_nil)).symm
    have hf12 : Fr [18] [] [17] cn In Fn cn12 In Fn12 := Fr.mo (Fr.tr hf10 hfc12) (sbl rfl) (sbl rfl) (sbl rfl)
    have hi_cn12 : Hid (CB cn12) := hIn12.b
    have hq_cn12 := Hid.i (frq_18_0_1_2_46_57_58_62_63_75_83_44 hf12)
    refine lv_aload_n hx hb (oc_42 42 (aq_17 shX12_feed_25)) rfl (lvA0 hl) ?_
    refine gM_226 S hK hP (v := .int (nI (cn12 18))) rfl (oc_180 43 (aq_18 shX12_feed_25) uw_0_226) ?_
    exact W.iret (v := (nI (cn12 18))) hx hb hr (fun t ht hW => ⟨⟨(nI (cn12 18)), (cn12, In, Fn12), rfl, ⟨(Fr.mo hf12 (sbl rfl) (sbl rfl) (sbl rfl)), hIn12, (by show cn12 18 ≤ 200; (first | omega | (have zz0 := Hid.u hi_cn; have zz1 := Hid.u hi_cn10; have zz2 := Hid.u hi_cn12; have zz3 := Hid.u hi_cn4; have zz4 := Hid.u hi_cn6; have zz5 := Hid.u hi_cn8; have zz6 := Hid.u hq_cn10; have zz7 := Hid.u hq_cn12; have zz8 := Hid.u hq_cn4; have zz9 := Hid.u hq_cn6; have zz10 := Hid.u hq_cn8; omega)))⟩, by rw [ht]; exact hP, hD⟩, hS.F ht⟩) hS.2.2 (oc_172 46 (aq_21 shX12_feed_25))
  ·
    have tc_2 : (200 : Int) < (nI ((cn 18) + 20)).toInt := Int32.lt_iff_toInt_lt.mp (Int32.not_le.mp c_2)
    refine lv_iconst (v := (-1)) hx hb (oc_2 13 (aq_13 shX12_feed_0)) kic_m1 ?_
    exact W.iret (v := (-1)) hx hb hr (fun t ht hW => ⟨⟨(-1), (cn, In, Fn), rfl, ⟨(Fr.mo Fr.rf (sbl rfl) (sbl rfl) (sbl rfl)), hI, (by show cn 18 ≤ 200; (first | omega | (have zz0 := Hid.u hi_cn; omega)))⟩, by rw [ht]; exact hP, hD⟩, hS.F ht⟩) hS.2.2 (oc_172 14 (aq_14 shX12_feed_0))
