set_option maxRecDepth 100000 in
theorem kV_RL_82 : CalV RL 82 yX11_batchIs cX11_batchIs 4 (some .int) 2 := ⟨⟨wk5_3 3 rfl rfl, wk5_3 4 rfl rfl, wk5_3 5 rfl rfl, wk1_0 1 rfl rfl, wk5_3 6 rfl rfl⟩, ⟨nmh_0.1, nmh_0.2, pd_17⟩⟩
set_option maxRecDepth 100000 in
theorem kV_RL_85 : CalV RL 85 yX12_batchIs cX12_batchIs 3 (some .int) 2 := ⟨⟨wk8_18 1 rfl rfl, wk8_18 2 rfl rfl, wk8_18 3 rfl rfl, wk1_1 1 rfl rfl, wk8_18 4 rfl rfl⟩, ⟨nmh_13.1, nmh_13.2, pd_17⟩⟩
set_option maxRecDepth 100000 in
theorem kV_RL_86 : CalV RL 86 yX11_blend cX11_blend 9 (some .int) 0 := ⟨⟨wk5_4 8 rfl rfl, wk5_4 9 rfl rfl, wk5_4 10 rfl rfl, wk1_0 1 rfl rfl, wk5_4 11 rfl rfl⟩, ⟨nmh_0.1, nmh_0.2, pd_1⟩⟩
set_option maxRecDepth 100000 in
theorem kV_RL_90 : CalV RL 90 yX12_blend cX12_blend 7 (some .int) 0 := ⟨⟨wk8_19 5 rfl rfl, wk8_19 6 rfl rfl, wk8_19 7 rfl rfl, wk1_1 1 rfl rfl, wk8_19 8 rfl rfl⟩, ⟨nmh_13.1, nmh_13.2, pd_1⟩⟩
set_option maxRecDepth 100000 in
theorem kV_RL_91 : CalV RL 91 yX11_proof cX11_proof 6 (some .int) 4 := ⟨⟨wk5_5 8 rfl rfl, wk5_5 9 rfl rfl, wk5_5 10 rfl rfl, wk1_0 1 rfl rfl, wk5_5 11 rfl rfl⟩, ⟨nmh_0.1, nmh_0.2, pd_27⟩⟩
set_option maxRecDepth 100000 in
theorem kV_RL_94 : CalV RL 94 yX12_proof cX12_proof 5 (some .int) 4 := ⟨⟨wk8_19 9 rfl rfl, wk8_19 10 rfl rfl, wk8_19 11 rfl rfl, wk1_1 1 rfl rfl, wk9_0 0 rfl rfl⟩, ⟨nmh_13.1, nmh_13.2, pd_27⟩⟩
set_option maxRecDepth 100000 in
theorem kV_RL_95 : CalV RL 95 yX11_twice cX11_twice 4 (some .int) 1 := ⟨⟨wk5_8 2 rfl rfl, wk5_8 3 rfl rfl, wk5_8 4 rfl rfl, wk1_0 1 rfl rfl, wk5_8 5 rfl rfl⟩, ⟨nmh_0.1, nmh_0.2, pd_8⟩⟩
set_option maxRecDepth 100000 in
theorem kV_RL_98 : CalV RL 98 yX12_twice cX12_twice 4 (some .int) 1 := ⟨⟨wk9_0 1 rfl rfl, wk9_0 2 rfl rfl, wk9_0 3 rfl rfl, wk1_1 1 rfl rfl, wk9_0 4 rfl rfl⟩, ⟨nmh_13.1, nmh_13.2, pd_8⟩⟩
set_option maxRecDepth 100000 in
theorem kV_RL_99 : CalV RL 99 yX11_bought cX11_bought 3 (some .int) 2 := ⟨⟨wk5_8 10 rfl rfl, wk5_8 11 rfl rfl, wk5_9 0 rfl rfl, wk1_0 1 rfl rfl, wk5_9 1 rfl rfl⟩, ⟨nmh_0.1, nmh_0.2, pd_17⟩⟩
set_option maxRecDepth 100000 in
theorem kV_RL_102 : CalV RL 102 yX12_bought cX12_bought 3 (some .int) 2 := ⟨⟨wk9_0 5 rfl rfl, wk9_0 6 rfl rfl, wk9_0 7 rfl rfl, wk1_1 1 rfl rfl, wk9_0 8 rfl rfl⟩, ⟨nmh_13.1, nmh_13.2, pd_17⟩⟩
set_option maxRecDepth 100000 in
theorem kV_RL_103 : CalV RL 103 yX11_offers cX11_offers 5 (some .boolean) 3 := ⟨⟨wk5_14 0 rfl rfl, wk5_14 1 rfl rfl, wk5_14 2 rfl rfl, wk1_0 1 rfl rfl, wk5_14 3 rfl rfl⟩, ⟨nmh_0.1, nmh_0.2, pd_26⟩⟩
set_option maxRecDepth 100000 in
theorem kV_RL_107 : CalV RL 107 yX12_offers cX12_offers 4 (some .boolean) 3 := ⟨⟨wk9_5 10 rfl rfl, wk9_5 11 rfl rfl, wk9_6 0 rfl rfl, wk1_1 1 rfl rfl, wk9_6 1 rfl rfl⟩, ⟨nmh_13.1, nmh_13.2, pd_26⟩⟩
set_option maxRecDepth 100000 in
theorem kV_RL_108 : CalV RL 108 yX11_worth cX11_worth 3 (some .int) 2 := ⟨⟨wk5_14 4 rfl rfl, wk5_14 5 rfl rfl, wk5_14 6 rfl rfl, wk1_0 1 rfl rfl, wk5_14 7 rfl rfl⟩, ⟨nmh_0.1, nmh_0.2, pd_17⟩⟩
set_option maxRecDepth 100000 in
theorem kV_RL_111 : CalV RL 111 yX12_worth cX12_worth 3 (some .int) 2 := ⟨⟨wk9_6 2 rfl rfl, wk9_6 3 rfl rfl, wk9_6 4 rfl rfl, wk1_1 1 rfl rfl, wk9_6 5 rfl rfl⟩, ⟨nmh_13.1, nmh_13.2, pd_17⟩⟩
set_option maxRecDepth 100000 in
theorem kV_RL_112 : CalV RL 112 yX11_offer cX11_offer 7 (some .int) 2 := ⟨⟨wk5_15 5 rfl rfl, wk5_15 6 rfl rfl, wk5_15 7 rfl rfl, wk1_0 1 rfl rfl, wk5_15 8 rfl rfl⟩, ⟨nmh_0.1, nmh_0.2, pd_17⟩⟩
set_option maxRecDepth 100000 in
theorem kV_RL_115 : CalV RL 115 yX12_offer cX12_offer 5 (some .int) 2 := ⟨⟨wk9_7 2 rfl rfl, wk9_7 3 rfl rfl, wk9_7 4 rfl rfl, wk1_1 1 rfl rfl, wk9_7 5 rfl rfl⟩, ⟨nmh_13.1, nmh_13.2, pd_17⟩⟩
set_option maxRecDepth 100000 in
theorem kV_RL_116 : CalV RL 116 yX11_thefts cX11_thefts 3 (some .boolean) 2 := ⟨⟨wk5_16 1 rfl rfl, wk5_16 2 rfl rfl, wk5_16 3 rfl rfl, wk1_0 1 rfl rfl, wk5_16 4 rfl rfl⟩, ⟨nmh_0.1, nmh_0.2, pd_21⟩⟩
set_option maxRecDepth 100000 in
theorem kV_RL_119 : CalV RL 119 yX12_thefts cX12_thefts 3 (some .boolean) 2 := ⟨⟨wk9_7 6 rfl rfl, wk9_7 7 rfl rfl, wk9_7 8 rfl rfl, wk1_1 1 rfl rfl, wk9_7 9 rfl rfl⟩, ⟨nmh_13.1, nmh_13.2, pd_21⟩⟩
set_option maxRecDepth 100000 in
theorem kV_RL_120 : CalV RL 120 yX11_lock cX11_lock 7 (some .int) 2 := ⟨⟨wk5_16 5 rfl rfl, wk5_16 6 rfl rfl, wk5_16 7 rfl rfl, wk1_0 1 rfl rfl, wk5_16 8 rfl rfl⟩, ⟨nmh_0.1, nmh_0.2, pd_17⟩⟩
set_option maxRecDepth 100000 in
theorem kV_RL_123 : CalV RL 123 yX12_lock cX12_lock 5 (some .int) 2 := ⟨⟨wk9_7 10 rfl rfl, wk9_7 11 rfl rfl, wk9_8 0 rfl rfl, wk1_1 1 rfl rfl, wk9_8 1 rfl rfl⟩, ⟨nmh_13.1, nmh_13.2, pd_17⟩⟩
set_option maxRecDepth 100000 in
theorem kV_RL_124 : CalV RL 124 yX11_sewer cX11_sewer 3 (some .int) 2 := ⟨⟨wk5_17 1 rfl rfl, wk5_17 2 rfl rfl, wk5_17 3 rfl rfl, wk1_0 1 rfl rfl, wk5_17 4 rfl rfl⟩, ⟨nmh_0.1, nmh_0.2, pd_17⟩⟩
set_option maxRecDepth 100000 in
theorem kV_RL_127 : CalV RL 127 yX12_sewer cX12_sewer 3 (some .int) 2 := ⟨⟨wk9_8 6 rfl rfl, wk9_8 7 rfl rfl, wk9_8 8 rfl rfl, wk1_1 1 rfl rfl, wk9_8 9 rfl rfl⟩, ⟨nmh_13.1, nmh_13.2, pd_17⟩⟩
set_option maxRecDepth 100000 in
theorem kV_RL_128 : CalV RL 128 yX11_blocked cX11_blocked 3 (some .int) 1 := ⟨⟨wk5_18 11 rfl rfl, wk5_19 0 rfl rfl, wk5_19 1 rfl rfl, wk1_0 1 rfl rfl, wk5_19 2 rfl rfl⟩, ⟨nmh_0.1, nmh_0.2, pd_8⟩⟩
set_option maxRecDepth 100000 in
theorem kV_RL_131 : CalV RL 131 yX12_blocked cX12_blocked 2 (some .int) 1 := ⟨⟨wk9_8 10 rfl rfl, wk9_8 11 rfl rfl, wk9_9 0 rfl rfl, wk1_1 1 rfl rfl, wk9_9 1 rfl rfl⟩, ⟨nmh_13.1, nmh_13.2, pd_8⟩⟩
set_option maxRecDepth 100000 in
theorem kV_RL_132 : CalV RL 132 yX11_beside cX11_beside 6 (some .int) 2 := ⟨⟨wk5_19 3 rfl rfl, wk5_19 4 rfl rfl, wk5_19 5 rfl rfl, wk1_0 1 rfl rfl, wk5_19 6 rfl rfl⟩, ⟨nmh_0.1, nmh_0.2, pd_17⟩⟩
set_option maxRecDepth 100000 in
theorem kV_RL_135 : CalV RL 135 yX12_beside cX12_beside 6 (some .int) 2 := ⟨⟨wk9_9 2 rfl rfl, wk9_9 3 rfl rfl, wk9_9 4 rfl rfl, wk1_1 1 rfl rfl, wk9_9 5 rfl rfl⟩, ⟨nmh_13.1, nmh_13.2, pd_17⟩⟩
set_option maxRecDepth 100000 in
theorem kV_RL_136 : CalV RL 136 yX11_degrees cX11_degrees 3 (some .boolean) 2 := ⟨⟨wk5_19 11 rfl rfl, wk6_0 0 rfl rfl, wk6_0 1 rfl rfl, wk1_0 1 rfl rfl, wk6_0 2 rfl rfl⟩, ⟨nmh_0.1, nmh_0.2, pd_21⟩⟩
set_option maxRecDepth 100000 in
theorem kV_RL_139 : CalV RL 139 yX12_degrees cX12_degrees 3 (some .boolean) 2 := ⟨⟨wk9_9 6 rfl rfl, wk9_9 7 rfl rfl, wk9_9 8 rfl rfl, wk1_1 1 rfl rfl, wk9_9 9 rfl rfl⟩, ⟨nmh_13.1, nmh_13.2, pd_21⟩⟩
set_option maxRecDepth 100000 in
theorem kV_RL_140 : CalV RL 140 yX11_late cX11_late 6 (some .int) 2 := ⟨⟨wk6_0 3 rfl rfl, wk6_0 4 rfl rfl, wk6_0 5 rfl rfl, wk1_0 1 rfl rfl, wk6_0 6 rfl rfl⟩, ⟨nmh_0.1, nmh_0.2, pd_17⟩⟩
set_option maxRecDepth 100000 in
theorem kV_RL_143 : CalV RL 143 yX12_late cX12_late 5 (some .int) 2 := ⟨⟨wk9_9 10 rfl rfl, wk9_9 11 rfl rfl, wk9_10 0 rfl rfl, wk1_1 1 rfl rfl, wk9_10 1 rfl rfl⟩, ⟨nmh_13.1, nmh_13.2, pd_17⟩⟩
set_option maxRecDepth 100000 in
set_option maxHeartbeats 4000000 in
theorem lawc_15 {p : Program} {l : Launch} {e : Env} {s : State} {m : MethodId} {below : List Frame} {meth : Method} {c : Code} {b L : Nat} {xs : Nat → Int32} (C0 : lw_At p s m meth c b L xs) (hLN : L ≤ 3584) {A : Nat → Prop} (hA : ∀ q : Nat, s.heap.size ≤ q → A q) (hbA : ¬ A b) {D : va_G} {cI cB cZ : ClassId} {zz qq vv : Nat} {bt : Nat → Int32} {g g2 : Nat → Nat} (hK : KK D cI cB cZ s) (hXS : XS D zz qq vv bt A s s.heap) {ad : Nat → Nat → Nat} {cn : Nat → Nat} {In : Nat → Int32} {Fn : Nat → Nat → Int32} {c3 : Nat → Nat} {I3 : Nat → Int32} {F3 : Nat → Nat → Int32} (hI : IX ad cn Fn) (hM : IMM c3 F3) (hR : RR cn Fn c3 F3) {H : Heap} {locs : List Loc} (hP : va_P D vwCl (wX cI (D.1 99) zz g ad cn In Fn ++ wM cI cB cZ g2 c3 I3 F3) H) (hD : va_D A (wX cI (D.1 99) zz g ad cn In Fn ++ wM cI cB cZ g2 c3 I3 F3)) (hS : va_S A s.heap H locs) {K N i : Nat} (hi : i + 7 ≤ L) (hKN : K + 8 ≤ 600000 ∧ N + 240 ≤ 7302250) {ls : Array Slot} (hl : lv_has ls 4 [(0, .ref b), (1, .ref (g 0)), (2, .ref (g2 100)), (3, .int (nI i))]) (kk : ∀ (ad : Nat → Nat → Nat) (cn : Nat → Nat) (In : Nat → Int32) (Fn : Nat → Nat → Int32) (c3 : Nat → Nat) (I3 : Nat → Int32) (F3 : Nat → Nat → Int32) (H : Heap) (locs : List Loc), IX ad cn Fn → IMM c3 F3 → RR cn Fn c3 F3 → va_P D vwCl (wX cI (D.1 99) zz g ad cn In Fn ++ wM cI cB cZ g2 c3 I3 F3) H → va_D A (wX cI (D.1 99) zz g ad cn In Fn ++ wM cI cB cZ g2 c3 I3 F3) → va_S A s.heap H locs → ∀ ls : Array Slot, lv_has ls 4 [(0, .ref b), (1, .ref (g 0)), (2, .ref (g2 100)), (3, .int (nI i))] → W p l e room_1 s m #[Value.ref b] below meth c H locs (K + 8) (N + 240) (lw_Z below #[Value.ref b] s) (F0 m 2269 ls [])) : W p l e room_1 s m #[Value.ref b] below meth c H locs K N (lw_Z below #[Value.ref b] s) (F0 m 821 ls []) := by
  obtain ⟨hx, hb, hr, hml, hown, hts, hX, hbl, hlocks, hgv⟩ := id C0
  have S : SF p m c code 4 s #[Value.ref b] RL := ⟨hx, hb, hml, hown, fun w h => hts w (wT_lw h)⟩
  refine lv_aload_n hx hb (oc_43 821 (aq_4 shL_law_817)) rfl (lvA1 hl) ?_
  refine lv_aload_n hx hb (oc_42 822 (aq_5 shL_law_817)) rfl (lvA0 hl) ?_
  refine lv_iload_n hx hb (oc_29 823 (aq_6 shL_law_817)) rfl (lvA3 hl) ?_
  refine lv_iconst (v := 1) hx hb (oc_4 824 (aq_7 shL_law_817)) kic_1 ?_
  refine lv_iadd hx hb (oc_96 825 (aq_8 shL_law_817)) ?_
  refine lv_topi (fun y_1 ey_1 => ?_)
  obtain rfl : y_1 = nI (i + 1) := ey_1.trans (nI_add i 1)
  refine va_sld hx hb hX hbl hbA hS (vp_in_nI (by omega) (by omega)) (oc_46 826 (aq_9 shL_law_817)) ?_
  refine lv_topi (fun y_2 ey_2 => ?_)
  obtain rfl : y_2 = xs (nI (i + 1)).toNatClampNeg := ey_2
  refine lv_aload_n hx hb (oc_42 827 (aq_10 shL_law_817)) rfl (lvA0 hl) ?_
  refine lv_iload_n hx hb (oc_29 828 (aq_11 shL_law_817)) rfl (lvA3 hl) ?_
  refine lv_iconst (v := 2) hx hb (oc_5 829 (aq_12 shL_law_817)) kic_2 ?_
  refine lv_iadd hx hb (oc_96 830 (aq_13 shL_law_817)) ?_
  refine lv_topi (fun y_3 ey_3 => ?_)
  obtain rfl : y_3 = nI (i + 2) := ey_3.trans (nI_add i 2)
  refine va_sld hx hb hX hbl hbA hS (vp_in_nI (by omega) (by omega)) (oc_46 831 (aq_14 shL_law_817)) ?_
  refine lv_topi (fun y_4 ey_4 => ?_)
  obtain rfl : y_4 = xs (nI (i + 2)).toNatClampNeg := ey_4
  refine vp_callSi (runV_rxa (As := [.int (xs (nI (i + 1)).toNatClampNeg), .int (xs (nI (i + 2)).toNatClampNeg)]) (rest := []) S (q_XbatchIs l D cI cB cZ zz qq vv bt g ad cn In Fn (xs (nI (i + 1)).toNatClampNeg) (xs (nI (i + 2)).toNatClampNeg) hI.1) kV_RL_82 hK hXS hS (exP hP) 0 xo_0 rfl rfl ⟨Nat.le_of_ble_eq_true rfl, Nat.le_of_ble_eq_true rfl⟩ ⟨(by show K + 0 ≤ 600000; omega), (by show N + 0 ≤ 7302250; omega)⟩ rfl hl.1 rfl (Nat.le_of_ble_eq_true rfl) (oc_182 832 (aq_15 shL_law_817) uw_0_82)) (fun r4 w4 => ?_)
  refine lv_pop hx hb (oc_87 835 (aq_18 shL_law_817)) rfl ?_
  refine lv_aload_n hx hb (oc_44 836 (aq_19 shL_law_817)) rfl (lvA2 hl) ?_
  refine lv_aload_n hx hb (oc_42 837 (aq_20 shL_law_817)) rfl (lvA0 hl) ?_
  refine lv_iload_n hx hb (oc_29 838 (aq_21 shL_law_817)) rfl (lvA3 hl) ?_
  refine lv_iconst (v := 1) hx hb (oc_4 839 (aq_22 shL_law_817)) kic_1 ?_
  refine lv_iadd hx hb (oc_96 840 (aq_23 shL_law_817)) ?_
  refine lv_topi (fun y_6 ey_6 => ?_)
  obtain rfl : y_6 = nI (i + 1) := ey_6.trans (nI_add i 1)
  refine va_sld hx hb hX hbl hbA hS (vp_in_nI (by omega) (by omega)) (oc_46 841 shL_law_841) ?_
  refine lv_topi (fun y_7 ey_7 => ?_)
  obtain rfl : y_7 = xs (nI (i + 1)).toNatClampNeg := ey_7
  refine lv_aload_n hx hb (oc_42 842 (aq_1 shL_law_841)) rfl (lvA0 hl) ?_
  refine lv_iload_n hx hb (oc_29 843 (aq_2 shL_law_841)) rfl (lvA3 hl) ?_
  refine lv_iconst (v := 2) hx hb (oc_5 844 (aq_3 shL_law_841)) kic_2 ?_
  refine lv_iadd hx hb (oc_96 845 (aq_4 shL_law_841)) ?_
  refine lv_topi (fun y_8 ey_8 => ?_)
  obtain rfl : y_8 = nI (i + 2) := ey_8.trans (nI_add i 2)
  refine va_sld hx hb hX hbl hbA hS (vp_in_nI (by omega) (by omega)) (oc_46 846 (aq_5 shL_law_841)) ?_
  refine lv_topi (fun y_9 ey_9 => ?_)
  obtain rfl : y_9 = xs (nI (i + 2)).toNatClampNeg := ey_9
  have hFc := free_all (exDr hD) hS hA
  refine va_calli (runV_a (As := [.int (xs (nI (i + 1)).toNatClampNeg), .int (xs (nI (i + 2)).toNatClampNeg)]) (rest := []) S (q_batchIs l D cI cB cZ g2 c3 I3 F3 (xs (nI (i + 1)).toNatClampNeg) (xs (nI (i + 2)).toNatClampNeg) H.size hM.1) kV_RL_85 hK (exPr hP) (exDr hD) 0 rfl rfl rfl ⟨Nat.le_of_ble_eq_true rfl, Nat.le_of_ble_eq_true rfl⟩ ⟨(by show K + 0 ≤ 600000; omega), (by show N + 0 ≤ 7302250; omega)⟩ rfl hl.1 rfl (Nat.le_of_ble_eq_true rfl) (oc_182 847 (aq_6 shL_law_841) uw_0_85)) hS (fun q _ h => hFc q h) hFc (fun r9 u t H1 locs ht hvm w9 hB1 hz1 hk1 hS => ?_)
  obtain ⟨c9, I9, F9⟩ := u
  obtain ⟨hP1, hD1⟩ := hB1
  rw [ht] at hP1
  obtain ⟨hP, hD⟩ := exjoin hP hD hk1 hFc hP1 hD1
  generalize H1 = H at hP hS ⊢
  obtain ⟨hM, hd9, hf9⟩ := imm_batchIs hM w9
  have hR := RR.fm hR hd9 hf9 (by decide) (by decide)
  refine lv_pop hx hb (oc_87 850 (aq_9 shL_law_841)) rfl ?_
  refine lv_goto (tgt := 2269) hx hb (oc_167 851 (aq_10 shL_law_841) sgw_5_138) rfl ?_
  refine W.widen (k := K + 8) (n := N + 240) (by omega) (by omega) ?_
  exact kk _ _ _ _ _ _ _ _ _ hI hM hR hP hD hS ls hl
set_option maxRecDepth 100000 in
set_option maxHeartbeats 4000000 in
theorem lawc_16 {p : Program} {l : Launch} {e : Env} {s : State} {m : MethodId} {below : List Frame} {meth : Method} {c : Code} {b L : Nat} {xs : Nat → Int32} (C0 : lw_At p s m meth c b L xs) (hLN : L ≤ 3584) {A : Nat → Prop} (hA : ∀ q : Nat, s.heap.size ≤ q → A q) (hbA : ¬ A b) {D : va_G} {cI cB cZ : ClassId} {zz qq vv : Nat} {bt : Nat → Int32} {g g2 : Nat → Nat} (hK : KK D cI cB cZ s) (hXS : XS D zz qq vv bt A s s.heap) {ad : Nat → Nat → Nat} {cn : Nat → Nat} {In : Nat → Int32} {Fn : Nat → Nat → Int32} {c3 : Nat → Nat} {I3 : Nat → Int32} {F3 : Nat → Nat → Int32} (hI : IX ad cn Fn) (hM : IMM c3 F3) (hR : RR cn Fn c3 F3) {H : Heap} {locs : List Loc} (hP : va_P D vwCl (wX cI (D.1 99) zz g ad cn In Fn ++ wM cI cB cZ g2 c3 I3 F3) H) (hD : va_D A (wX cI (D.1 99) zz g ad cn In Fn ++ wM cI cB cZ g2 c3 I3 F3)) (hS : va_S A s.heap H locs) {K N i : Nat} (hi : i + 7 ≤ L) (hKN : K + 8 ≤ 600000 ∧ N + 240 ≤ 7302250) {ls : Array Slot} (hl : lv_has ls 4 [(0, .ref b), (1, .ref (g 0)), (2, .ref (g2 100)), (3, .int (nI i))]) (kk : ∀ (ad : Nat → Nat → Nat) (cn : Nat → Nat) (In : Nat → Int32) (Fn : Nat → Nat → Int32) (c3 : Nat → Nat) (I3 : Nat → Int32) (F3 : Nat → Nat → Int32) (H : Heap) (locs : List Loc), IX ad cn Fn → IMM c3 F3 → RR cn Fn c3 F3 → va_P D vwCl (wX cI (D.1 99) zz g ad cn In Fn ++ wM cI cB cZ g2 c3 I3 F3) H → va_D A (wX cI (D.1 99) zz g ad cn In Fn ++ wM cI cB cZ g2 c3 I3 F3) → va_S A s.heap H locs → ∀ ls : Array Slot, lv_has ls 4 [(0, .ref b), (1, .ref (g 0)), (2, .ref (g2 100)), (3, .int (nI i))] → W p l e room_1 s m #[Value.ref b] below meth c H locs (K + 8) (N + 240) (lw_Z below #[Value.ref b] s) (F0 m 2269 ls [])) : W p l e room_1 s m #[Value.ref b] below meth c H locs K N (lw_Z below #[Value.ref b] s) (F0 m 854 ls []) := by
  obtain ⟨hx, hb, hr, hml, hown, hts, hX, hbl, hlocks, hgv⟩ := id C0
  have S : SF p m c code 4 s #[Value.ref b] RL := ⟨hx, hb, hml, hown, fun w h => hts w (wT_lw h)⟩
  refine lv_aload_n hx hb (oc_43 854 (aq_13 shL_law_841)) rfl (lvA1 hl) ?_
  have hFc := free_all (exD hD) hS hA
  refine va_calli (runV_xa (As := []) (rest := []) S (q_Xblend l D cI cB cZ zz qq vv bt g ad cn In Fn  H.size hI.1 hI.2.1 hI.2.2.1) kV_RL_86 hK hXS hS hFc (exP hP) (exD hD) 0 xo_0 rfl rfl ⟨Nat.le_of_ble_eq_true rfl, Nat.le_of_ble_eq_true rfl⟩ ⟨(by show K + 3 ≤ 600000; omega), (by show N + 32 ≤ 7302250; omega)⟩ rfl hl.1 rfl (Nat.le_of_ble_eq_true rfl) (oc_182 855 (aq_14 shL_law_841) uw_0_86)) hS (fun q _ h => hFc q h) hFc (fun r0 u t H1 locs ht hvm w0 hB1 hz1 hk1 hS => ?_)
  obtain ⟨a0, c0, I0, F0⟩ := u
  obtain ⟨hP1, hD1⟩ := hB1
  rw [ht] at hP1
  obtain ⟨hP, hD⟩ := exjoinL hP hD hk1 hFc hP1 hD1
  generalize H1 = H at hP hS ⊢
  obtain ⟨hI, hd0, hf0⟩ := ix_blend hI w0
  have hR := RR.fx hR hd0 hf0 (by decide) (by decide)
  refine lv_pop hx hb (oc_87 858 (aq_17 shL_law_841)) rfl ?_
  refine lv_aload_n hx hb (oc_44 859 (aq_18 shL_law_841)) rfl (lvA2 hl) ?_
  have hFc := free_all (exDr hD) hS hA
  refine va_calli (runV_a (As := []) (rest := []) S (q_blend l D cI cB cZ g2 c3 I3 F3  H.size hM.1) kV_RL_90 hK (exPr hP) (exDr hD) 0 rfl rfl rfl ⟨Nat.le_of_ble_eq_true rfl, Nat.le_of_ble_eq_true rfl⟩ ⟨(by show K + 3 + 0 ≤ 600000; omega), (by show N + 32 + 0 ≤ 7302250; omega)⟩ rfl hl.1 rfl (Nat.le_of_ble_eq_true rfl) (oc_182 860 (aq_19 shL_law_841) uw_0_90)) hS (fun q _ h => hFc q h) hFc (fun r1 u t H1 locs ht hvm w1 hB1 hz1 hk1 hS => ?_)
  obtain ⟨c1, I1, F1⟩ := u
  obtain ⟨hP1, hD1⟩ := hB1
  rw [ht] at hP1
  obtain ⟨hP, hD⟩ := exjoin hP hD hk1 hFc hP1 hD1
  generalize H1 = H at hP hS ⊢
  obtain ⟨hM, hd1, hf1⟩ := imm_blend hM w1
  have hR := RR.fm hR hd1 hf1 (by decide) (by decide)
  refine lv_pop hx hb (oc_87 863 (aq_22 shL_law_841)) rfl ?_
  refine lv_goto (tgt := 2269) hx hb (oc_167 864 (aq_23 shL_law_841) sgw_5_125) rfl ?_
  refine W.widen (k := K + 8) (n := N + 240) (by omega) (by omega) ?_
  exact kk _ _ _ _ _ _ _ _ _ hI hM hR hP hD hS ls hl
set_option maxRecDepth 100000 in
set_option maxHeartbeats 4000000 in
theorem lawc_17 {p : Program} {l : Launch} {e : Env} {s : State} {m : MethodId} {below : List Frame} {meth : Method} {c : Code} {b L : Nat} {xs : Nat → Int32} (C0 : lw_At p s m meth c b L xs) (hLN : L ≤ 3584) {A : Nat → Prop} (hA : ∀ q : Nat, s.heap.size ≤ q → A q) (hbA : ¬ A b) {D : va_G} {cI cB cZ : ClassId} {zz qq vv : Nat} {bt : Nat → Int32} {g g2 : Nat → Nat} (hK : KK D cI cB cZ s) (hXS : XS D zz qq vv bt A s s.heap) {ad : Nat → Nat → Nat} {cn : Nat → Nat} {In : Nat → Int32} {Fn : Nat → Nat → Int32} {c3 : Nat → Nat} {I3 : Nat → Int32} {F3 : Nat → Nat → Int32} (hI : IX ad cn Fn) (hM : IMM c3 F3) (hR : RR cn Fn c3 F3) {H : Heap} {locs : List Loc} (hP : va_P D vwCl (wX cI (D.1 99) zz g ad cn In Fn ++ wM cI cB cZ g2 c3 I3 F3) H) (hD : va_D A (wX cI (D.1 99) zz g ad cn In Fn ++ wM cI cB cZ g2 c3 I3 F3)) (hS : va_S A s.heap H locs) {K N i : Nat} (hi : i + 7 ≤ L) (hKN : K + 8 ≤ 600000 ∧ N + 240 ≤ 7302250) {ls : Array Slot} (hl : lv_has ls 4 [(0, .ref b), (1, .ref (g 0)), (2, .ref (g2 100)), (3, .int (nI i))]) (kk : ∀ (ad : Nat → Nat → Nat) (cn : Nat → Nat) (In : Nat → Int32) (Fn : Nat → Nat → Int32) (c3 : Nat → Nat) (I3 : Nat → Int32) (F3 : Nat → Nat → Int32) (H : Heap) (locs : List Loc), IX ad cn Fn → IMM c3 F3 → RR cn Fn c3 F3 → va_P D vwCl (wX cI (D.1 99) zz g ad cn In Fn ++ wM cI cB cZ g2 c3 I3 F3) H → va_D A (wX cI (D.1 99) zz g ad cn In Fn ++ wM cI cB cZ g2 c3 I3 F3) → va_S A s.heap H locs → ∀ ls : Array Slot, lv_has ls 4 [(0, .ref b), (1, .ref (g 0)), (2, .ref (g2 100)), (3, .int (nI i))] → W p l e room_1 s m #[Value.ref b] below meth c H locs (K + 8) (N + 240) (lw_Z below #[Value.ref b] s) (F0 m 2269 ls [])) : W p l e room_1 s m #[Value.ref b] below meth c H locs K N (lw_Z below #[Value.ref b] s) (F0 m 867 ls []) := by
  obtain ⟨hx, hb, hr, hml, hown, hts, hX, hbl, hlocks, hgv⟩ := id C0
  have S : SF p m c code 4 s #[Value.ref b] RL := ⟨hx, hb, hml, hown, fun w h => hts w (wT_lw h)⟩
  refine lv_aload_n hx hb (oc_43 867 shL_law_867) rfl (lvA1 hl) ?_
  refine lv_aload_n hx hb (oc_42 868 (aq_1 shL_law_867)) rfl (lvA0 hl) ?_
  refine lv_iload_n hx hb (oc_29 869 (aq_2 shL_law_867)) rfl (lvA3 hl) ?_
  refine lv_iconst (v := 1) hx hb (oc_4 870 (aq_3 shL_law_867)) kic_1 ?_
  refine lv_iadd hx hb (oc_96 871 (aq_4 shL_law_867)) ?_
  refine lv_topi (fun y_1 ey_1 => ?_)
  obtain rfl : y_1 = nI (i + 1) := ey_1.trans (nI_add i 1)
  refine va_sld hx hb hX hbl hbA hS (vp_in_nI (by omega) (by omega)) (oc_46 872 (aq_5 shL_law_867)) ?_
  refine lv_topi (fun y_2 ey_2 => ?_)
  obtain rfl : y_2 = xs (nI (i + 1)).toNatClampNeg := ey_2
  refine lv_aload_n hx hb (oc_42 873 (aq_6 shL_law_867)) rfl (lvA0 hl) ?_
  refine lv_iload_n hx hb (oc_29 874 (aq_7 shL_law_867)) rfl (lvA3 hl) ?_
  refine lv_iconst (v := 2) hx hb (oc_5 875 (aq_8 shL_law_867)) kic_2 ?_
  refine lv_iadd hx hb (oc_96 876 (aq_9 shL_law_867)) ?_
  refine lv_topi (fun y_3 ey_3 => ?_)
  obtain rfl : y_3 = nI (i + 2) := ey_3.trans (nI_add i 2)
  refine va_sld hx hb hX hbl hbA hS (vp_in_nI (by omega) (by omega)) (oc_46 877 (aq_10 shL_law_867)) ?_
  refine lv_topi (fun y_4 ey_4 => ?_)
  obtain rfl : y_4 = xs (nI (i + 2)).toNatClampNeg := ey_4
  refine lv_aload_n hx hb (oc_42 878 (aq_11 shL_law_867)) rfl (lvA0 hl) ?_
  refine lv_iload_n hx hb (oc_29 879 (aq_12 shL_law_867)) rfl (lvA3 hl) ?_
  refine lv_iconst (v := 3) hx hb (oc_6 880 (aq_13 shL_law_867)) kic_3 ?_
  refine lv_iadd hx hb (oc_96 881 (aq_14 shL_law_867)) ?_
  refine lv_topi (fun y_5 ey_5 => ?_)
  obtain rfl : y_5 = nI (i + 3) := ey_5.trans (nI_add i 3)
  refine va_sld hx hb hX hbl hbA hS (vp_in_nI (by omega) (by omega)) (oc_46 882 (aq_15 shL_law_867)) ?_
  refine lv_topi (fun y_6 ey_6 => ?_)
  obtain rfl : y_6 = xs (nI (i + 3)).toNatClampNeg := ey_6
  refine lv_aload_n hx hb (oc_42 883 (aq_16 shL_law_867)) rfl (lvA0 hl) ?_
  refine lv_iload_n hx hb (oc_29 884 (aq_17 shL_law_867)) rfl (lvA3 hl) ?_
  refine lv_iconst (v := 4) hx hb (oc_7 885 (aq_18 shL_law_867)) kic_4 ?_
  refine lv_iadd hx hb (oc_96 886 (aq_19 shL_law_867)) ?_
  refine lv_topi (fun y_7 ey_7 => ?_)
  obtain rfl : y_7 = nI (i + 4) := ey_7.trans (nI_add i 4)
  refine va_sld hx hb hX hbl hbA hS (vp_in_nI (by omega) (by omega)) (oc_46 887 (aq_20 shL_law_867)) ?_
  refine lv_topi (fun y_8 ey_8 => ?_)
  obtain rfl : y_8 = xs (nI (i + 4)).toNatClampNeg := ey_8
  have hFc := free_all (exD hD) hS hA
  refine va_calli (runV_xa (As := [.int (xs (nI (i + 1)).toNatClampNeg), .int (xs (nI (i + 2)).toNatClampNeg), .int (xs (nI (i + 3)).toNatClampNeg), .int (xs (nI (i + 4)).toNatClampNeg)]) (rest := []) S (q_Xproof l D cI cB cZ zz qq vv bt g ad cn In Fn (xs (nI (i + 1)).toNatClampNeg) (xs (nI (i + 2)).toNatClampNeg) (xs (nI (i + 3)).toNatClampNeg) (xs (nI (i + 4)).toNatClampNeg) H.size hI.1) kV_RL_91 hK hXS hS hFc (exP hP) (exD hD) 0 xo_0 rfl rfl ⟨Nat.le_of_ble_eq_true rfl, Nat.le_of_ble_eq_true rfl⟩ ⟨(by show K + 2 ≤ 600000; omega), (by show N + 105 ≤ 7302250; omega)⟩ rfl hl.1 rfl (Nat.le_of_ble_eq_true rfl) (oc_182 888 (aq_21 shL_law_867) uw_0_91)) hS (fun q _ h => hFc q h) hFc (fun r8 u t H1 locs ht hvm w8 hB1 hz1 hk1 hS => ?_)
  obtain ⟨a8, c8, I8, F8⟩ := u
  obtain ⟨hP1, hD1⟩ := hB1
  rw [ht] at hP1
  obtain ⟨hP, hD⟩ := exjoinL hP hD hk1 hFc hP1 hD1
  generalize H1 = H at hP hS ⊢
  obtain ⟨hI, hd8, hf8⟩ := ix_proof hI w8
  have hR := RR.fx hR hd8 hf8 (by decide) (by decide)
  refine lv_pop hx hb (oc_87 891 shL_law_891) rfl ?_
  refine lv_aload_n hx hb (oc_44 892 (aq_1 shL_law_891)) rfl (lvA2 hl) ?_
  refine lv_aload_n hx hb (oc_42 893 (aq_2 shL_law_891)) rfl (lvA0 hl) ?_
  refine lv_iload_n hx hb (oc_29 894 (aq_3 shL_law_891)) rfl (lvA3 hl) ?_
  refine lv_iconst (v := 1) hx hb (oc_4 895 (aq_4 shL_law_891)) kic_1 ?_
  refine lv_iadd hx hb (oc_96 896 (aq_5 shL_law_891)) ?_
  refine lv_topi (fun y_10 ey_10 => ?_)
  obtain rfl : y_10 = nI (i + 1) := ey_10.trans (nI_add i 1)
  refine va_sld hx hb hX hbl hbA hS (vp_in_nI (by omega) (by omega)) (oc_46 897 (aq_6 shL_law_891)) ?_
  refine lv_topi (fun y_11 ey_11 => ?_)
  obtain rfl : y_11 = xs (nI (i + 1)).toNatClampNeg := ey_11
  refine lv_aload_n hx hb (oc_42 898 (aq_7 shL_law_891)) rfl (lvA0 hl) ?_
  refine lv_iload_n hx hb (oc_29 899 (aq_8 shL_law_891)) rfl (lvA3 hl) ?_
  refine lv_iconst (v := 2) hx hb (oc_5 900 (aq_9 shL_law_891)) kic_2 ?_
  refine lv_iadd hx hb (oc_96 901 (aq_10 shL_law_891)) ?_
  refine lv_topi (fun y_12 ey_12 => ?_)
  obtain rfl : y_12 = nI (i + 2) := ey_12.trans (nI_add i 2)
  refine va_sld hx hb hX hbl hbA hS (vp_in_nI (by omega) (by omega)) (oc_46 902 (aq_11 shL_law_891)) ?_
  refine lv_topi (fun y_13 ey_13 => ?_)
  obtain rfl : y_13 = xs (nI (i + 2)).toNatClampNeg := ey_13
  refine lv_aload_n hx hb (oc_42 903 (aq_12 shL_law_891)) rfl (lvA0 hl) ?_
  refine lv_iload_n hx hb (oc_29 904 (aq_13 shL_law_891)) rfl (lvA3 hl) ?_
  refine lv_iconst (v := 3) hx hb (oc_6 905 (aq_14 shL_law_891)) kic_3 ?_
  refine lv_iadd hx hb (oc_96 906 (aq_15 shL_law_891)) ?_
  refine lv_topi (fun y_14 ey_14 => ?_)
  obtain rfl : y_14 = nI (i + 3) := ey_14.trans (nI_add i 3)
  refine va_sld hx hb hX hbl hbA hS (vp_in_nI (by omega) (by omega)) (oc_46 907 (aq_16 shL_law_891)) ?_
  refine lv_topi (fun y_15 ey_15 => ?_)
  obtain rfl : y_15 = xs (nI (i + 3)).toNatClampNeg := ey_15
  refine lv_aload_n hx hb (oc_42 908 (aq_17 shL_law_891)) rfl (lvA0 hl) ?_
  refine lv_iload_n hx hb (oc_29 909 (aq_18 shL_law_891)) rfl (lvA3 hl) ?_
  refine lv_iconst (v := 4) hx hb (oc_7 910 (aq_19 shL_law_891)) kic_4 ?_
  refine lv_iadd hx hb (oc_96 911 (aq_20 shL_law_891)) ?_
  refine lv_topi (fun y_16 ey_16 => ?_)
  obtain rfl : y_16 = nI (i + 4) := ey_16.trans (nI_add i 4)
  refine va_sld hx hb hX hbl hbA hS (vp_in_nI (by omega) (by omega)) (oc_46 912 (aq_21 shL_law_891)) ?_
  refine lv_topi (fun y_17 ey_17 => ?_)
  obtain rfl : y_17 = xs (nI (i + 4)).toNatClampNeg := ey_17
  have hFc := free_all (exDr hD) hS hA
  refine va_calli (runV_a (As := [.int (xs (nI (i + 1)).toNatClampNeg), .int (xs (nI (i + 2)).toNatClampNeg), .int (xs (nI (i + 3)).toNatClampNeg), .int (xs (nI (i + 4)).toNatClampNeg)]) (rest := []) S (q_proof l D cI cB cZ g2 c3 I3 F3 (xs (nI (i + 1)).toNatClampNeg) (xs (nI (i + 2)).toNatClampNeg) (xs (nI (i + 3)).toNatClampNeg) (xs (nI (i + 4)).toNatClampNeg) H.size hM.1) kV_RL_94 hK (exPr hP) (exDr hD) 0 rfl rfl rfl ⟨Nat.le_of_ble_eq_true rfl, Nat.le_of_ble_eq_true rfl⟩ ⟨(by show K + 2 + 0 ≤ 600000; omega), (by show N + 105 + 0 ≤ 7302250; omega)⟩ rfl hl.1 rfl (Nat.le_of_ble_eq_true rfl) (oc_182 913 (aq_22 shL_law_891) uw_0_94)) hS (fun q _ h => hFc q h) hFc (fun r17 u t H1 locs ht hvm w17 hB1 hz1 hk1 hS => ?_)
  obtain ⟨c17, I17, F17⟩ := u
  obtain ⟨hP1, hD1⟩ := hB1
  rw [ht] at hP1
  obtain ⟨hP, hD⟩ := exjoin hP hD hk1 hFc hP1 hD1
  generalize H1 = H at hP hS ⊢
  obtain ⟨hM, hd17, hf17⟩ := imm_proof hM w17
  have hR := RR.fm hR hd17 hf17 (by decide) (by decide)
  refine lv_pop hx hb (oc_87 916 shL_law_916) rfl ?_
  refine lv_goto (tgt := 2269) hx hb (oc_167 917 (aq_1 shL_law_916) sgw_5_72) rfl ?_
  refine W.widen (k := K + 8) (n := N + 240) (by omega) (by omega) ?_
  exact kk _ _ _ _ _ _ _ _ _ hI hM hR hP hD hS ls hl
set_option maxRecDepth 100000 in
set_option maxHeartbeats 4000000 in
theorem lawc_18 {p : Program} {l : Launch} {e : Env} {s : State} {m : MethodId} {below : List Frame} {meth : Method} {c : Code} {b L : Nat} {xs : Nat → Int32} (C0 : lw_At p s m meth c b L xs) (hLN : L ≤ 3584) {A : Nat → Prop} (hA : ∀ q : Nat, s.heap.size ≤ q → A q) (hbA : ¬ A b) {D : va_G} {cI cB cZ : ClassId} {zz qq vv : Nat} {bt : Nat → Int32} {g g2 : Nat → Nat} (hK : KK D cI cB cZ s) (hXS : XS D zz qq vv bt A s s.heap) {ad : Nat → Nat → Nat} {cn : Nat → Nat} {In : Nat → Int32} {Fn : Nat → Nat → Int32} {c3 : Nat → Nat} {I3 : Nat → Int32} {F3 : Nat → Nat → Int32} (hI : IX ad cn Fn) (hM : IMM c3 F3) (hR : RR cn Fn c3 F3) {H : Heap} {locs : List Loc} (hP : va_P D vwCl (wX cI (D.1 99) zz g ad cn In Fn ++ wM cI cB cZ g2 c3 I3 F3) H) (hD : va_D A (wX cI (D.1 99) zz g ad cn In Fn ++ wM cI cB cZ g2 c3 I3 F3)) (hS : va_S A s.heap H locs) {K N i : Nat} (hi : i + 7 ≤ L) (hKN : K + 8 ≤ 600000 ∧ N + 240 ≤ 7302250) {ls : Array Slot} (hl : lv_has ls 4 [(0, .ref b), (1, .ref (g 0)), (2, .ref (g2 100)), (3, .int (nI i))]) (kk : ∀ (ad : Nat → Nat → Nat) (cn : Nat → Nat) (In : Nat → Int32) (Fn : Nat → Nat → Int32) (c3 : Nat → Nat) (I3 : Nat → Int32) (F3 : Nat → Nat → Int32) (H : Heap) (locs : List Loc), IX ad cn Fn → IMM c3 F3 → RR cn Fn c3 F3 → va_P D vwCl (wX cI (D.1 99) zz g ad cn In Fn ++ wM cI cB cZ g2 c3 I3 F3) H → va_D A (wX cI (D.1 99) zz g ad cn In Fn ++ wM cI cB cZ g2 c3 I3 F3) → va_S A s.heap H locs → ∀ ls : Array Slot, lv_has ls 4 [(0, .ref b), (1, .ref (g 0)), (2, .ref (g2 100)), (3, .int (nI i))] → W p l e room_1 s m #[Value.ref b] below meth c H locs (K + 8) (N + 240) (lw_Z below #[Value.ref b] s) (F0 m 2269 ls [])) : W p l e room_1 s m #[Value.ref b] below meth c H locs K N (lw_Z below #[Value.ref b] s) (F0 m 920 ls []) := by
  obtain ⟨hx, hb, hr, hml, hown, hts, hX, hbl, hlocks, hgv⟩ := id C0
  have S : SF p m c code 4 s #[Value.ref b] RL := ⟨hx, hb, hml, hown, fun w h => hts w (wT_lw h)⟩
  refine lv_aload_n hx hb (oc_43 920 (aq_4 shL_law_916)) rfl (lvA1 hl) ?_
  refine lv_aload_n hx hb (oc_42 921 (aq_5 shL_law_916)) rfl (lvA0 hl) ?_
  refine lv_iload_n hx hb (oc_29 922 (aq_6 shL_law_916)) rfl (lvA3 hl) ?_
  refine lv_iconst (v := 1) hx hb (oc_4 923 (aq_7 shL_law_916)) kic_1 ?_
  refine lv_iadd hx hb (oc_96 924 (aq_8 shL_law_916)) ?_
  refine lv_topi (fun y_1 ey_1 => ?_)
  obtain rfl : y_1 = nI (i + 1) := ey_1.trans (nI_add i 1)
  refine va_sld hx hb hX hbl hbA hS (vp_in_nI (by omega) (by omega)) (oc_46 925 (aq_9 shL_law_916)) ?_
  refine lv_topi (fun y_2 ey_2 => ?_)
  obtain rfl : y_2 = xs (nI (i + 1)).toNatClampNeg := ey_2
  refine vp_callSi (runV_rxa (As := [.int (xs (nI (i + 1)).toNatClampNeg)]) (rest := []) S (q_Xtwice l D cI cB cZ zz qq vv bt g ad cn In Fn (xs (nI (i + 1)).toNatClampNeg) hI.1) kV_RL_95 hK hXS hS (exP hP) 0 xo_0 rfl rfl ⟨Nat.le_of_ble_eq_true rfl, Nat.le_of_ble_eq_true rfl⟩ ⟨(by show K + 0 ≤ 600000; omega), (by show N + 0 ≤ 7302250; omega)⟩ rfl hl.1 rfl (Nat.le_of_ble_eq_true rfl) (oc_182 926 (aq_10 shL_law_916) uw_0_95)) (fun r2 w2 => ?_)
  refine lv_pop hx hb (oc_87 929 (aq_13 shL_law_916)) rfl ?_
  refine lv_aload_n hx hb (oc_44 930 (aq_14 shL_law_916)) rfl (lvA2 hl) ?_
  refine lv_aload_n hx hb (oc_42 931 (aq_15 shL_law_916)) rfl (lvA0 hl) ?_
  refine lv_iload_n hx hb (oc_29 932 (aq_16 shL_law_916)) rfl (lvA3 hl) ?_
  refine lv_iconst (v := 1) hx hb (oc_4 933 (aq_17 shL_law_916)) kic_1 ?_
  refine lv_iadd hx hb (oc_96 934 (aq_18 shL_law_916)) ?_
  refine lv_topi (fun y_4 ey_4 => ?_)
  obtain rfl : y_4 = nI (i + 1) := ey_4.trans (nI_add i 1)
  refine va_sld hx hb hX hbl hbA hS (vp_in_nI (by omega) (by omega)) (oc_46 935 (aq_19 shL_law_916)) ?_
  refine lv_topi (fun y_5 ey_5 => ?_)
  obtain rfl : y_5 = xs (nI (i + 1)).toNatClampNeg := ey_5
  refine vp_callSi (runV_ra (As := [.int (xs (nI (i + 1)).toNatClampNeg)]) (rest := []) S (q_twice l D cI cB cZ g2 c3 I3 F3 (xs (nI (i + 1)).toNatClampNeg) hM.1) kV_RL_98 hK (exPr hP) 0 rfl rfl rfl ⟨Nat.le_of_ble_eq_true rfl, Nat.le_of_ble_eq_true rfl⟩ ⟨(by show K + 0 ≤ 600000; omega), (by show N + 0 ≤ 7302250; omega)⟩ rfl hl.1 rfl (Nat.le_of_ble_eq_true rfl) (oc_182 936 (aq_20 shL_law_916) uw_0_98)) (fun r5 w5 => ?_)
  refine lv_pop hx hb (oc_87 939 (aq_23 shL_law_916)) rfl ?_
  refine lv_goto (tgt := 2269) hx hb (oc_167 940 shL_law_940 sgw_5_49) rfl ?_
  refine W.widen (k := K + 8) (n := N + 240) (by omega) (by omega) ?_
  exact kk _ _ _ _ _ _ _ _ _ hI hM hR hP hD hS ls hl
set_option maxRecDepth 100000 in
set_option maxHeartbeats 4000000 in
theorem lawc_19 {p : Program} {l : Launch} {e : Env} {s : State} {m : MethodId} {below : List Frame} {meth : Method} {c : Code} {b L : Nat} {xs : Nat → Int32} (C0 : lw_At p s m meth c b L xs) (hLN : L ≤ 3584) {A : Nat → Prop} (hA : ∀ q : Nat, s.heap.size ≤ q → A q) (hbA : ¬ A b) {D : va_G} {cI cB cZ : ClassId} {zz qq vv : Nat} {bt : Nat → Int32} {g g2 : Nat → Nat} (hK : KK D cI cB cZ s) (hXS : XS D zz qq vv bt A s s.heap) {ad : Nat → Nat → Nat} {cn : Nat → Nat} {In : Nat → Int32} {Fn : Nat → Nat → Int32} {c3 : Nat → Nat} {I3 : Nat → Int32} {F3 : Nat → Nat → Int32} (hI : IX ad cn Fn) (hM : IMM c3 F3) (hR : RR cn Fn c3 F3) {H : Heap} {locs : List Loc} (hP : va_P D vwCl (wX cI (D.1 99) zz g ad cn In Fn ++ wM cI cB cZ g2 c3 I3 F3) H) (hD : va_D A (wX cI (D.1 99) zz g ad cn In Fn ++ wM cI cB cZ g2 c3 I3 F3)) (hS : va_S A s.heap H locs) {K N i : Nat} (hi : i + 7 ≤ L) (hKN : K + 8 ≤ 600000 ∧ N + 240 ≤ 7302250) {ls : Array Slot} (hl : lv_has ls 4 [(0, .ref b), (1, .ref (g 0)), (2, .ref (g2 100)), (3, .int (nI i))]) (kk : ∀ (ad : Nat → Nat → Nat) (cn : Nat → Nat) (In : Nat → Int32) (Fn : Nat → Nat → Int32) (c3 : Nat → Nat) (I3 : Nat → Int32) (F3 : Nat → Nat → Int32) (H : Heap) (locs : List Loc), IX ad cn Fn → IMM c3 F3 → RR cn Fn c3 F3 → va_P D vwCl (wX cI (D.1 99) zz g ad cn In Fn ++ wM cI cB cZ g2 c3 I3 F3) H → va_D A (wX cI (D.1 99) zz g ad cn In Fn ++ wM cI cB cZ g2 c3 I3 F3) → va_S A s.heap H locs → ∀ ls : Array Slot, lv_has ls 4 [(0, .ref b), (1, .ref (g 0)), (2, .ref (g2 100)), (3, .int (nI i))] → W p l e room_1 s m #[Value.ref b] below meth c H locs (K + 8) (N + 240) (lw_Z below #[Value.ref b] s) (F0 m 2269 ls [])) : W p l e room_1 s m #[Value.ref b] below meth c H locs K N (lw_Z below #[Value.ref b] s) (F0 m 943 ls []) := by
  obtain ⟨hx, hb, hr, hml, hown, hts, hX, hbl, hlocks, hgv⟩ := id C0
  have S : SF p m c code 4 s #[Value.ref b] RL := ⟨hx, hb, hml, hown, fun w h => hts w (wT_lw h)⟩
  refine lv_aload_n hx hb (oc_43 943 (aq_3 shL_law_940)) rfl (lvA1 hl) ?_
  refine lv_aload_n hx hb (oc_42 944 (aq_4 shL_law_940)) rfl (lvA0 hl) ?_
  refine lv_iload_n hx hb (oc_29 945 (aq_5 shL_law_940)) rfl (lvA3 hl) ?_
  refine lv_iconst (v := 1) hx hb (oc_4 946 (aq_6 shL_law_940)) kic_1 ?_
  refine lv_iadd hx hb (oc_96 947 (aq_7 shL_law_940)) ?_
  refine lv_topi (fun y_1 ey_1 => ?_)
  obtain rfl : y_1 = nI (i + 1) := ey_1.trans (nI_add i 1)
  refine va_sld hx hb hX hbl hbA hS (vp_in_nI (by omega) (by omega)) (oc_46 948 (aq_8 shL_law_940)) ?_
  refine lv_topi (fun y_2 ey_2 => ?_)
  obtain rfl : y_2 = xs (nI (i + 1)).toNatClampNeg := ey_2
  refine lv_aload_n hx hb (oc_42 949 (aq_9 shL_law_940)) rfl (lvA0 hl) ?_
  refine lv_iload_n hx hb (oc_29 950 (aq_10 shL_law_940)) rfl (lvA3 hl) ?_
  refine lv_iconst (v := 2) hx hb (oc_5 951 (aq_11 shL_law_940)) kic_2 ?_
  refine lv_iadd hx hb (oc_96 952 (aq_12 shL_law_940)) ?_
  refine lv_topi (fun y_3 ey_3 => ?_)
  obtain rfl : y_3 = nI (i + 2) := ey_3.trans (nI_add i 2)
  refine va_sld hx hb hX hbl hbA hS (vp_in_nI (by omega) (by omega)) (oc_46 953 (aq_13 shL_law_940)) ?_
  refine lv_topi (fun y_4 ey_4 => ?_)
  obtain rfl : y_4 = xs (nI (i + 2)).toNatClampNeg := ey_4
  refine vp_callSi (runV_rxa (As := [.int (xs (nI (i + 1)).toNatClampNeg), .int (xs (nI (i + 2)).toNatClampNeg)]) (rest := []) S (q_Xbought l D cI cB cZ zz qq vv bt g ad cn In Fn (xs (nI (i + 1)).toNatClampNeg) (xs (nI (i + 2)).toNatClampNeg) hI.1) kV_RL_99 hK hXS hS (exP hP) 0 xo_0 rfl rfl ⟨Nat.le_of_ble_eq_true rfl, Nat.le_of_ble_eq_true rfl⟩ ⟨(by show K + 0 ≤ 600000; omega), (by show N + 0 ≤ 7302250; omega)⟩ rfl hl.1 rfl (Nat.le_of_ble_eq_true rfl) (oc_182 954 (aq_14 shL_law_940) uw_0_99)) (fun r4 w4 => ?_)
  refine lv_pop hx hb (oc_87 957 (aq_17 shL_law_940)) rfl ?_
  refine lv_aload_n hx hb (oc_44 958 (aq_18 shL_law_940)) rfl (lvA2 hl) ?_
  refine lv_aload_n hx hb (oc_42 959 (aq_19 shL_law_940)) rfl (lvA0 hl) ?_
  refine lv_iload_n hx hb (oc_29 960 (aq_20 shL_law_940)) rfl (lvA3 hl) ?_
  refine lv_iconst (v := 1) hx hb (oc_4 961 (aq_21 shL_law_940)) kic_1 ?_
  refine lv_iadd hx hb (oc_96 962 (aq_22 shL_law_940)) ?_
  refine lv_topi (fun y_6 ey_6 => ?_)
  obtain rfl : y_6 = nI (i + 1) := ey_6.trans (nI_add i 1)
  refine va_sld hx hb hX hbl hbA hS (vp_in_nI (by omega) (by omega)) (oc_46 963 (aq_23 shL_law_940)) ?_
  refine lv_topi (fun y_7 ey_7 => ?_)
  obtain rfl : y_7 = xs (nI (i + 1)).toNatClampNeg := ey_7
  refine lv_aload_n hx hb (oc_42 964 shL_law_964) rfl (lvA0 hl) ?_
  refine lv_iload_n hx hb (oc_29 965 (aq_1 shL_law_964)) rfl (lvA3 hl) ?_
  refine lv_iconst (v := 2) hx hb (oc_5 966 (aq_2 shL_law_964)) kic_2 ?_
  refine lv_iadd hx hb (oc_96 967 (aq_3 shL_law_964)) ?_
  refine lv_topi (fun y_8 ey_8 => ?_)
  obtain rfl : y_8 = nI (i + 2) := ey_8.trans (nI_add i 2)
  refine va_sld hx hb hX hbl hbA hS (vp_in_nI (by omega) (by omega)) (oc_46 968 (aq_4 shL_law_964)) ?_
  refine lv_topi (fun y_9 ey_9 => ?_)
  obtain rfl : y_9 = xs (nI (i + 2)).toNatClampNeg := ey_9
  have hFc := free_all (exDr hD) hS hA
  refine va_calli (runV_a (As := [.int (xs (nI (i + 1)).toNatClampNeg), .int (xs (nI (i + 2)).toNatClampNeg)]) (rest := []) S (q_bought l D cI cB cZ g2 c3 I3 F3 (xs (nI (i + 1)).toNatClampNeg) (xs (nI (i + 2)).toNatClampNeg) H.size hM.1) kV_RL_102 hK (exPr hP) (exDr hD) 0 rfl rfl rfl ⟨Nat.le_of_ble_eq_true rfl, Nat.le_of_ble_eq_true rfl⟩ ⟨(by show K + 0 ≤ 600000; omega), (by show N + 0 ≤ 7302250; omega)⟩ rfl hl.1 rfl (Nat.le_of_ble_eq_true rfl) (oc_182 969 (aq_5 shL_law_964) uw_0_102)) hS (fun q _ h => hFc q h) hFc (fun r9 u t H1 locs ht hvm w9 hB1 hz1 hk1 hS => ?_)
  obtain ⟨c9, I9, F9⟩ := u
  obtain ⟨hP1, hD1⟩ := hB1
  rw [ht] at hP1
  obtain ⟨hP, hD⟩ := exjoin hP hD hk1 hFc hP1 hD1
  generalize H1 = H at hP hS ⊢
  obtain ⟨hM, hd9, hf9⟩ := imm_bought hM w9
  have hR := RR.fm hR hd9 hf9 (by decide) (by decide)
  refine lv_pop hx hb (oc_87 972 (aq_8 shL_law_964)) rfl ?_
  refine lv_goto (tgt := 2269) hx hb (oc_167 973 (aq_9 shL_law_964) sgw_5_16) rfl ?_
  refine W.widen (k := K + 8) (n := N + 240) (by omega) (by omega) ?_
  exact kk _ _ _ _ _ _ _ _ _ hI hM hR hP hD hS ls hl
set_option maxRecDepth 100000 in
set_option maxHeartbeats 4000000 in
theorem lawc_20 {p : Program} {l : Launch} {e : Env} {s : State} {m : MethodId} {below : List Frame} {meth : Method} {c : Code} {b L : Nat} {xs : Nat → Int32} (C0 : lw_At p s m meth c b L xs) (hLN : L ≤ 3584) {A : Nat → Prop} (hA : ∀ q : Nat, s.heap.size ≤ q → A q) (hbA : ¬ A b) {D : va_G} {cI cB cZ : ClassId} {zz qq vv : Nat} {bt : Nat → Int32} {g g2 : Nat → Nat} (hK : KK D cI cB cZ s) (hXS : XS D zz qq vv bt A s s.heap) {ad : Nat → Nat → Nat} {cn : Nat → Nat} {In : Nat → Int32} {Fn : Nat → Nat → Int32} {c3 : Nat → Nat} {I3 : Nat → Int32} {F3 : Nat → Nat → Int32} (hI : IX ad cn Fn) (hM : IMM c3 F3) (hR : RR cn Fn c3 F3) {H : Heap} {locs : List Loc} (hP : va_P D vwCl (wX cI (D.1 99) zz g ad cn In Fn ++ wM cI cB cZ g2 c3 I3 F3) H) (hD : va_D A (wX cI (D.1 99) zz g ad cn In Fn ++ wM cI cB cZ g2 c3 I3 F3)) (hS : va_S A s.heap H locs) {K N i : Nat} (hi : i + 7 ≤ L) (hKN : K + 8 ≤ 600000 ∧ N + 240 ≤ 7302250) {ls : Array Slot} (hl : lv_has ls 4 [(0, .ref b), (1, .ref (g 0)), (2, .ref (g2 100)), (3, .int (nI i))]) (kk : ∀ (ad : Nat → Nat → Nat) (cn : Nat → Nat) (In : Nat → Int32) (Fn : Nat → Nat → Int32) (c3 : Nat → Nat) (I3 : Nat → Int32) (F3 : Nat → Nat → Int32) (H : Heap) (locs : List Loc), IX ad cn Fn → IMM c3 F3 → RR cn Fn c3 F3 → va_P D vwCl (wX cI (D.1 99) zz g ad cn In Fn ++ wM cI cB cZ g2 c3 I3 F3) H → va_D A (wX cI (D.1 99) zz g ad cn In Fn ++ wM cI cB cZ g2 c3 I3 F3) → va_S A s.heap H locs → ∀ ls : Array Slot, lv_has ls 4 [(0, .ref b), (1, .ref (g 0)), (2, .ref (g2 100)), (3, .int (nI i))] → W p l e room_1 s m #[Value.ref b] below meth c H locs (K + 8) (N + 240) (lw_Z below #[Value.ref b] s) (F0 m 2269 ls [])) : W p l e room_1 s m #[Value.ref b] below meth c H locs K N (lw_Z below #[Value.ref b] s) (F0 m 976 ls []) := by
  obtain ⟨hx, hb, hr, hml, hown, hts, hX, hbl, hlocks, hgv⟩ := id C0
  have S : SF p m c code 4 s #[Value.ref b] RL := ⟨hx, hb, hml, hown, fun w h => hts w (wT_lw h)⟩
  refine lv_aload_n hx hb (oc_43 976 (aq_12 shL_law_964)) rfl (lvA1 hl) ?_
  refine lv_aload_n hx hb (oc_42 977 (aq_13 shL_law_964)) rfl (lvA0 hl) ?_
  refine lv_iload_n hx hb (oc_29 978 (aq_14 shL_law_964)) rfl (lvA3 hl) ?_
  refine lv_iconst (v := 1) hx hb (oc_4 979 (aq_15 shL_law_964)) kic_1 ?_
  refine lv_iadd hx hb (oc_96 980 (aq_16 shL_law_964)) ?_
  refine lv_topi (fun y_1 ey_1 => ?_)
  obtain rfl : y_1 = nI (i + 1) := ey_1.trans (nI_add i 1)
  refine va_sld hx hb hX hbl hbA hS (vp_in_nI (by omega) (by omega)) (oc_46 981 (aq_17 shL_law_964)) ?_
  refine lv_topi (fun y_2 ey_2 => ?_)
  obtain rfl : y_2 = xs (nI (i + 1)).toNatClampNeg := ey_2
  refine lv_aload_n hx hb (oc_42 982 (aq_18 shL_law_964)) rfl (lvA0 hl) ?_
  refine lv_iload_n hx hb (oc_29 983 (aq_19 shL_law_964)) rfl (lvA3 hl) ?_
  refine lv_iconst (v := 2) hx hb (oc_5 984 (aq_20 shL_law_964)) kic_2 ?_
  refine lv_iadd hx hb (oc_96 985 (aq_21 shL_law_964)) ?_
  refine lv_topi (fun y_3 ey_3 => ?_)
  obtain rfl : y_3 = nI (i + 2) := ey_3.trans (nI_add i 2)
  refine va_sld hx hb hX hbl hbA hS (vp_in_nI (by omega) (by omega)) (oc_46 986 (aq_22 shL_law_964)) ?_
  refine lv_topi (fun y_4 ey_4 => ?_)
  obtain rfl : y_4 = xs (nI (i + 2)).toNatClampNeg := ey_4
  refine lv_aload_n hx hb (oc_42 987 (aq_23 shL_law_964)) rfl (lvA0 hl) ?_
  refine lv_iload_n hx hb (oc_29 988 shL_law_988) rfl (lvA3 hl) ?_
  refine lv_iconst (v := 3) hx hb (oc_6 989 (aq_1 shL_law_988)) kic_3 ?_
  refine lv_iadd hx hb (oc_96 990 (aq_2 shL_law_988)) ?_
  refine lv_topi (fun y_5 ey_5 => ?_)
  obtain rfl : y_5 = nI (i + 3) := ey_5.trans (nI_add i 3)
  refine va_sld hx hb hX hbl hbA hS (vp_in_nI (by omega) (by omega)) (oc_46 991 (aq_3 shL_law_988)) ?_
  refine lv_topi (fun y_6 ey_6 => ?_)
  obtain rfl : y_6 = xs (nI (i + 3)).toNatClampNeg := ey_6
  have hFc := free_all (exD hD) hS hA
  refine va_calli (runV_xa (As := [.int (xs (nI (i + 1)).toNatClampNeg), .int (xs (nI (i + 2)).toNatClampNeg), .int (xs (nI (i + 3)).toNatClampNeg)]) (rest := []) S (q_Xoffers l D cI cB cZ zz qq vv bt g ad cn In Fn (xs (nI (i + 1)).toNatClampNeg) (xs (nI (i + 2)).toNatClampNeg) (xs (nI (i + 3)).toNatClampNeg) H.size hI.1) kV_RL_103 hK hXS hS hFc (exP hP) (exD hD) 0 xo_0 rfl rfl ⟨Nat.le_of_ble_eq_true rfl, Nat.le_of_ble_eq_true rfl⟩ ⟨(by show K + 0 ≤ 600000; omega), (by show N + 0 ≤ 7302250; omega)⟩ rfl hl.1 rfl (Nat.le_of_ble_eq_true rfl) (oc_182 992 (aq_4 shL_law_988) uw_0_103)) hS (fun q _ h => hFc q h) hFc (fun r6 u t H1 locs ht hvm w6 hB1 hz1 hk1 hS => ?_)
  obtain ⟨c6, I6, F6⟩ := u
  obtain ⟨hP1, hD1⟩ := hB1
  rw [ht] at hP1
  obtain ⟨hP, hD⟩ := exjoinL hP hD hk1 hFc hP1 hD1
  generalize H1 = H at hP hS ⊢
  have hd6 := w6.1.1
  have hf6 := w6.1.2.2
  have hI := IX.fr hI w6.1 w6.2.1 (by decide) (by decide)
  have hR := RR.fx hR hd6 hf6 (by decide) (by decide)
  refine lv_pop hx hb (oc_87 995 (aq_7 shL_law_988)) rfl ?_
  refine lv_aload_n hx hb (oc_44 996 (aq_8 shL_law_988)) rfl (lvA2 hl) ?_
  refine lv_aload_n hx hb (oc_42 997 (aq_9 shL_law_988)) rfl (lvA0 hl) ?_
  refine lv_iload_n hx hb (oc_29 998 (aq_10 shL_law_988)) rfl (lvA3 hl) ?_
  refine lv_iconst (v := 1) hx hb (oc_4 999 (aq_11 shL_law_988)) kic_1 ?_
  refine lv_iadd hx hb (oc_96 1000 (aq_12 shL_law_988)) ?_
  refine lv_topi (fun y_8 ey_8 => ?_)
  obtain rfl : y_8 = nI (i + 1) := ey_8.trans (nI_add i 1)
  refine va_sld hx hb hX hbl hbA hS (vp_in_nI (by omega) (by omega)) (oc_46 1001 (aq_13 shL_law_988)) ?_
  refine lv_topi (fun y_9 ey_9 => ?_)
  obtain rfl : y_9 = xs (nI (i + 1)).toNatClampNeg := ey_9
  refine lv_aload_n hx hb (oc_42 1002 (aq_14 shL_law_988)) rfl (lvA0 hl) ?_
  refine lv_iload_n hx hb (oc_29 1003 (aq_15 shL_law_988)) rfl (lvA3 hl) ?_
  refine lv_iconst (v := 2) hx hb (oc_5 1004 (aq_16 shL_law_988)) kic_2 ?_
  refine lv_iadd hx hb (oc_96 1005 (aq_17 shL_law_988)) ?_
  refine lv_topi (fun y_10 ey_10 => ?_)
  obtain rfl : y_10 = nI (i + 2) := ey_10.trans (nI_add i 2)
  refine va_sld hx hb hX hbl hbA hS (vp_in_nI (by omega) (by omega)) (oc_46 1006 (aq_18 shL_law_988)) ?_
  refine lv_topi (fun y_11 ey_11 => ?_)
  obtain rfl : y_11 = xs (nI (i + 2)).toNatClampNeg := ey_11
  refine lv_aload_n hx hb (oc_42 1007 (aq_19 shL_law_988)) rfl (lvA0 hl) ?_
  refine lv_iload_n hx hb (oc_29 1008 (aq_20 shL_law_988)) rfl (lvA3 hl) ?_
  refine lv_iconst (v := 3) hx hb (oc_6 1009 (aq_21 shL_law_988)) kic_3 ?_
  refine lv_iadd hx hb (oc_96 1010 (aq_22 shL_law_988)) ?_
  refine lv_topi (fun y_12 ey_12 => ?_)
  obtain rfl : y_12 = nI (i + 3) := ey_12.trans (nI_add i 3)
  refine va_sld hx hb hX hbl hbA hS (vp_in_nI (by omega) (by omega)) (oc_46 1011 (aq_23 shL_law_988)) ?_
  refine lv_topi (fun y_13 ey_13 => ?_)
  obtain rfl : y_13 = xs (nI (i + 3)).toNatClampNeg := ey_13
  have hFc := free_all (exDr hD) hS hA
  refine va_calli (runV_a (As := [.int (xs (nI (i + 1)).toNatClampNeg), .int (xs (nI (i + 2)).toNatClampNeg), .int (xs (nI (i + 3)).toNatClampNeg)]) (rest := []) S (q_offers l D cI cB cZ g2 c3 I3 F3 (xs (nI (i + 1)).toNatClampNeg) (xs (nI (i + 2)).toNatClampNeg) (xs (nI (i + 3)).toNatClampNeg) H.size hM.1) kV_RL_107 hK (exPr hP) (exDr hD) 0 rfl rfl rfl ⟨Nat.le_of_ble_eq_true rfl, Nat.le_of_ble_eq_true rfl⟩ ⟨(by show K + 0 ≤ 600000; omega), (by show N + 0 ≤ 7302250; omega)⟩ rfl hl.1 rfl (Nat.le_of_ble_eq_true rfl) (oc_182 1012 shL_law_1012 uw_0_107)) hS (fun q _ h => hFc q h) hFc (fun r13 u t H1 locs ht hvm w13 hB1 hz1 hk1 hS => ?_)
  obtain ⟨c13, I13, F13⟩ := u
  obtain ⟨hP1, hD1⟩ := hB1
  rw [ht] at hP1
  obtain ⟨hP, hD⟩ := exjoin hP hD hk1 hFc hP1 hD1
  generalize H1 = H at hP hS ⊢
  obtain ⟨hM, hd13, hf13⟩ := imm_offers hM w13
  have hR := RR.fm hR hd13 hf13 (by decide) (by decide)
  refine lv_pop hx hb (oc_87 1015 (aq_3 shL_law_1012)) rfl ?_
  refine lv_goto (tgt := 2269) hx hb (oc_167 1016 (aq_4 shL_law_1012) sgw_4_229) rfl ?_
  refine W.widen (k := K + 8) (n := N + 240) (by omega) (by omega) ?_
  exact kk _ _ _ _ _ _ _ _ _ hI hM hR hP hD hS ls hl
set_option maxRecDepth 100000 in
set_option maxHeartbeats 4000000 in
theorem lawc_21 {p : Program} {l : Launch} {e : Env} {s : State} {m : MethodId} {below : List Frame} {meth : Method} {c : Code} {b L : Nat} {xs : Nat → Int32} (C0 : lw_At p s m meth c b L xs) (hLN : L ≤ 3584) {A : Nat → Prop} (hA : ∀ q : Nat, s.heap.size ≤ q → A q) (hbA : ¬ A b) {D : va_G} {cI cB cZ : ClassId} {zz qq vv : Nat} {bt : Nat → Int32} {g g2 : Nat → Nat} (hK : KK D cI cB cZ s) (hXS : XS D zz qq vv bt A s s.heap) {ad : Nat → Nat → Nat} {cn : Nat → Nat} {In : Nat → Int32} {Fn : Nat → Nat → Int32} {c3 : Nat → Nat} {I3 : Nat → Int32} {F3 : Nat → Nat → Int32} (hI : IX ad cn Fn) (hM : IMM c3 F3) (hR : RR cn Fn c3 F3) {H : Heap} {locs : List Loc} (hP : va_P D vwCl (wX cI (D.1 99) zz g ad cn In Fn ++ wM cI cB cZ g2 c3 I3 F3) H) (hD : va_D A (wX cI (D.1 99) zz g ad cn In Fn ++ wM cI cB cZ g2 c3 I3 F3)) (hS : va_S A s.heap H locs) {K N i : Nat} (hi : i + 7 ≤ L) (hKN : K + 8 ≤ 600000 ∧ N + 240 ≤ 7302250) {ls : Array Slot} (hl : lv_has ls 4 [(0, .ref b), (1, .ref (g 0)), (2, .ref (g2 100)), (3, .int (nI i))]) (kk : ∀ (ad : Nat → Nat → Nat) (cn : Nat → Nat) (In : Nat → Int32) (Fn : Nat → Nat → Int32) (c3 : Nat → Nat) (I3 : Nat → Int32) (F3 : Nat → Nat → Int32) (H : Heap) (locs : List Loc), IX ad cn Fn → IMM c3 F3 → RR cn Fn c3 F3 → va_P D vwCl (wX cI (D.1 99) zz g ad cn In Fn ++ wM cI cB cZ g2 c3 I3 F3) H → va_D A (wX cI (D.1 99) zz g ad cn In Fn ++ wM cI cB cZ g2 c3 I3 F3) → va_S A s.heap H locs → ∀ ls : Array Slot, lv_has ls 4 [(0, .ref b), (1, .ref (g 0)), (2, .ref (g2 100)), (3, .int (nI i))] → W p l e room_1 s m #[Value.ref b] below meth c H locs (K + 8) (N + 240) (lw_Z below #[Value.ref b] s) (F0 m 2269 ls [])) : W p l e room_1 s m #[Value.ref b] below meth c H locs K N (lw_Z below #[Value.ref b] s) (F0 m 1019 ls []) := by
  obtain ⟨hx, hb, hr, hml, hown, hts, hX, hbl, hlocks, hgv⟩ := id C0
  have S : SF p m c code 4 s #[Value.ref b] RL := ⟨hx, hb, hml, hown, fun w h => hts w (wT_lw h)⟩
  refine lv_aload_n hx hb (oc_43 1019 (aq_7 shL_law_1012)) rfl (lvA1 hl) ?_
  refine lv_aload_n hx hb (oc_42 1020 (aq_8 shL_law_1012)) rfl (lvA0 hl) ?_
  refine lv_iload_n hx hb (oc_29 1021 (aq_9 shL_law_1012)) rfl (lvA3 hl) ?_
  refine lv_iconst (v := 1) hx hb (oc_4 1022 (aq_10 shL_law_1012)) kic_1 ?_
  refine lv_iadd hx hb (oc_96 1023 (aq_11 shL_law_1012)) ?_
  refine lv_topi (fun y_1 ey_1 => ?_)
  obtain rfl : y_1 = nI (i + 1) := ey_1.trans (nI_add i 1)
  refine va_sld hx hb hX hbl hbA hS (vp_in_nI (by omega) (by omega)) (oc_46 1024 (aq_12 shL_law_1012)) ?_
  refine lv_topi (fun y_2 ey_2 => ?_)
  obtain rfl : y_2 = xs (nI (i + 1)).toNatClampNeg := ey_2
  refine lv_aload_n hx hb (oc_42 1025 (aq_13 shL_law_1012)) rfl (lvA0 hl) ?_
  refine lv_iload_n hx hb (oc_29 1026 (aq_14 shL_law_1012)) rfl (lvA3 hl) ?_
  refine lv_iconst (v := 2) hx hb (oc_5 1027 (aq_15 shL_law_1012)) kic_2 ?_
  refine lv_iadd hx hb (oc_96 1028 (aq_16 shL_law_1012)) ?_
  refine lv_topi (fun y_3 ey_3 => ?_)
  obtain rfl : y_3 = nI (i + 2) := ey_3.trans (nI_add i 2)
  refine va_sld hx hb hX hbl hbA hS (vp_in_nI (by omega) (by omega)) (oc_46 1029 (aq_17 shL_law_1012)) ?_
  refine lv_topi (fun y_4 ey_4 => ?_)
  obtain rfl : y_4 = xs (nI (i + 2)).toNatClampNeg := ey_4
  refine vp_callSi (runV_rxa (As := [.int (xs (nI (i + 1)).toNatClampNeg), .int (xs (nI (i + 2)).toNatClampNeg)]) (rest := []) S (q_Xworth l D cI cB cZ zz qq vv bt g ad cn In Fn (xs (nI (i + 1)).toNatClampNeg) (xs (nI (i + 2)).toNatClampNeg) hI.1) kV_RL_108 hK hXS hS (exP hP) 0 xo_0 rfl rfl ⟨Nat.le_of_ble_eq_true rfl, Nat.le_of_ble_eq_true rfl⟩ ⟨(by show K + 0 ≤ 600000; omega), (by show N + 0 ≤ 7302250; omega)⟩ rfl hl.1 rfl (Nat.le_of_ble_eq_true rfl) (oc_182 1030 (aq_18 shL_law_1012) uw_0_108)) (fun r4 w4 => ?_)
  refine lv_pop hx hb (oc_87 1033 (aq_21 shL_law_1012)) rfl ?_
  refine lv_aload_n hx hb (oc_44 1034 (aq_22 shL_law_1012)) rfl (lvA2 hl) ?_
  refine lv_aload_n hx hb (oc_42 1035 (aq_23 shL_law_1012)) rfl (lvA0 hl) ?_
  refine lv_iload_n hx hb (oc_29 1036 shL_law_1036) rfl (lvA3 hl) ?_
  refine lv_iconst (v := 1) hx hb (oc_4 1037 (aq_1 shL_law_1036)) kic_1 ?_
  refine lv_iadd hx hb (oc_96 1038 (aq_2 shL_law_1036)) ?_
  refine lv_topi (fun y_6 ey_6 => ?_)
  obtain rfl : y_6 = nI (i + 1) := ey_6.trans (nI_add i 1)
  refine va_sld hx hb hX hbl hbA hS (vp_in_nI (by omega) (by omega)) (oc_46 1039 (aq_3 shL_law_1036)) ?_
  refine lv_topi (fun y_7 ey_7 => ?_)
  obtain rfl : y_7 = xs (nI (i + 1)).toNatClampNeg := ey_7
  refine lv_aload_n hx hb (oc_42 1040 (aq_4 shL_law_1036)) rfl (lvA0 hl) ?_
  refine lv_iload_n hx hb (oc_29 1041 (aq_5 shL_law_1036)) rfl (lvA3 hl) ?_
  refine lv_iconst (v := 2) hx hb (oc_5 1042 (aq_6 shL_law_1036)) kic_2 ?_
  refine lv_iadd hx hb (oc_96 1043 (aq_7 shL_law_1036)) ?_
  refine lv_topi (fun y_8 ey_8 => ?_)
  obtain rfl : y_8 = nI (i + 2) := ey_8.trans (nI_add i 2)
  refine va_sld hx hb hX hbl hbA hS (vp_in_nI (by omega) (by omega)) (oc_46 1044 (aq_8 shL_law_1036)) ?_
  refine lv_topi (fun y_9 ey_9 => ?_)
  obtain rfl : y_9 = xs (nI (i + 2)).toNatClampNeg := ey_9
  refine vp_callSi (runV_ra (As := [.int (xs (nI (i + 1)).toNatClampNeg), .int (xs (nI (i + 2)).toNatClampNeg)]) (rest := []) S (q_worth l D cI cB cZ g2 c3 I3 F3 (xs (nI (i + 1)).toNatClampNeg) (xs (nI (i + 2)).toNatClampNeg) hM.1) kV_RL_111 hK (exPr hP) 0 rfl rfl rfl ⟨Nat.le_of_ble_eq_true rfl, Nat.le_of_ble_eq_true rfl⟩ ⟨(by show K + 0 ≤ 600000; omega), (by show N + 0 ≤ 7302250; omega)⟩ rfl hl.1 rfl (Nat.le_of_ble_eq_true rfl) (oc_182 1045 (aq_9 shL_law_1036) uw_0_111)) (fun r9 w9 => ?_)
  refine lv_pop hx hb (oc_87 1048 (aq_12 shL_law_1036)) rfl ?_
  refine lv_goto (tgt := 2269) hx hb (oc_167 1049 (aq_13 shL_law_1036) sgw_4_196) rfl ?_
  refine W.widen (k := K + 8) (n := N + 240) (by omega) (by omega) ?_
  exact kk _ _ _ _ _ _ _ _ _ hI hM hR hP hD hS ls hl
set_option maxRecDepth 100000 in
set_option maxHeartbeats 4000000 in
theorem lawc_22 {p : Program} {l : Launch} {e : Env} {s : State} {m : MethodId} {below : List Frame} {meth : Method} {c : Code} {b L : Nat} {xs : Nat → Int32} (C0 : lw_At p s m meth c b L xs) (hLN : L ≤ 3584) {A : Nat → Prop} (hA : ∀ q : Nat, s.heap.size ≤ q → A q) (hbA : ¬ A b) {D : va_G} {cI cB cZ : ClassId} {zz qq vv : Nat} {bt : Nat → Int32} {g g2 : Nat → Nat} (hK : KK D cI cB cZ s) (hXS : XS D zz qq vv bt A s s.heap) {ad : Nat → Nat → Nat} {cn : Nat → Nat} {In : Nat → Int32} {Fn : Nat → Nat → Int32} {c3 : Nat → Nat} {I3 : Nat → Int32} {F3 : Nat → Nat → Int32} (hI : IX ad cn Fn) (hM : IMM c3 F3) (hR : RR cn Fn c3 F3) {H : Heap} {locs : List Loc} (hP : va_P D vwCl (wX cI (D.1 99) zz g ad cn In Fn ++ wM cI cB cZ g2 c3 I3 F3) H) (hD : va_D A (wX cI (D.1 99) zz g ad cn In Fn ++ wM cI cB cZ g2 c3 I3 F3)) (hS : va_S A s.heap H locs) {K N i : Nat} (hi : i + 7 ≤ L) (hKN : K + 8 ≤ 600000 ∧ N + 240 ≤ 7302250) {ls : Array Slot} (hl : lv_has ls 4 [(0, .ref b), (1, .ref (g 0)), (2, .ref (g2 100)), (3, .int (nI i))]) (kk : ∀ (ad : Nat → Nat → Nat) (cn : Nat → Nat) (In : Nat → Int32) (Fn : Nat → Nat → Int32) (c3 : Nat → Nat) (I3 : Nat → Int32) (F3 : Nat → Nat → Int32) (H : Heap) (locs : List Loc), IX ad cn Fn → IMM c3 F3 → RR cn Fn c3 F3 → va_P D vwCl (wX cI (D.1 99) zz g ad cn In Fn ++ wM cI cB cZ g2 c3 I3 F3) H → va_D A (wX cI (D.1 99) zz g ad cn In Fn ++ wM cI cB cZ g2 c3 I3 F3) → va_S A s.heap H locs → ∀ ls : Array Slot, lv_has ls 4 [(0, .ref b), (1, .ref (g 0)), (2, .ref (g2 100)), (3, .int (nI i))] → W p l e room_1 s m #[Value.ref b] below meth c H locs (K + 8) (N + 240) (lw_Z below #[Value.ref b] s) (F0 m 2269 ls [])) : W p l e room_1 s m #[Value.ref b] below meth c H locs K N (lw_Z below #[Value.ref b] s) (F0 m 1052 ls []) := by
  obtain ⟨hx, hb, hr, hml, hown, hts, hX, hbl, hlocks, hgv⟩ := id C0
  have S : SF p m c code 4 s #[Value.ref b] RL := ⟨hx, hb, hml, hown, fun w h => hts w (wT_lw h)⟩
  refine lv_aload_n hx hb (oc_43 1052 (aq_16 shL_law_1036)) rfl (lvA1 hl) ?_
  refine lv_aload_n hx hb (oc_42 1053 (aq_17 shL_law_1036)) rfl (lvA0 hl) ?_
  refine lv_iload_n hx hb (oc_29 1054 (aq_18 shL_law_1036)) rfl (lvA3 hl) ?_
  refine lv_iconst (v := 1) hx hb (oc_4 1055 (aq_19 shL_law_1036)) kic_1 ?_
  refine lv_iadd hx hb (oc_96 1056 (aq_20 shL_law_1036)) ?_
  refine lv_topi (fun y_1 ey_1 => ?_)
  obtain rfl : y_1 = nI (i + 1) := ey_1.trans (nI_add i 1)
  refine va_sld hx hb hX hbl hbA hS (vp_in_nI (by omega) (by omega)) (oc_46 1057 (aq_21 shL_law_1036)) ?_
  refine lv_topi (fun y_2 ey_2 => ?_)
  obtain rfl : y_2 = xs (nI (i + 1)).toNatClampNeg := ey_2
  refine lv_aload_n hx hb (oc_42 1058 (aq_22 shL_law_1036)) rfl (lvA0 hl) ?_
  refine lv_iload_n hx hb (oc_29 1059 (aq_23 shL_law_1036)) rfl (lvA3 hl) ?_
  refine lv_iconst (v := 2) hx hb (oc_5 1060 shL_law_1060) kic_2 ?_
  refine lv_iadd hx hb (oc_96 1061 (aq_1 shL_law_1060)) ?_
  refine lv_topi (fun y_3 ey_3 => ?_)
  obtain rfl : y_3 = nI (i + 2) := ey_3.trans (nI_add i 2)
  refine va_sld hx hb hX hbl hbA hS (vp_in_nI (by omega) (by omega)) (oc_46 1062 (aq_2 shL_law_1060)) ?_
  refine lv_topi (fun y_4 ey_4 => ?_)
  obtain rfl : y_4 = xs (nI (i + 2)).toNatClampNeg := ey_4
  refine vp_callSi (runV_rxa (As := [.int (xs (nI (i + 1)).toNatClampNeg), .int (xs (nI (i + 2)).toNatClampNeg)]) (rest := []) S (q_Xoffer l D cI cB cZ zz qq vv bt g ad cn In Fn (xs (nI (i + 1)).toNatClampNeg) (xs (nI (i + 2)).toNatClampNeg) hI.1) kV_RL_112 hK hXS hS (exP hP) 0 xo_0 rfl rfl ⟨Nat.le_of_ble_eq_true rfl, Nat.le_of_ble_eq_true rfl⟩ ⟨(by show K + 0 ≤ 600000; omega), (by show N + 0 ≤ 7302250; omega)⟩ rfl hl.1 rfl (Nat.le_of_ble_eq_true rfl) (oc_182 1063 (aq_3 shL_law_1060) uw_0_112)) (fun r4 w4 => ?_)
  refine lv_pop hx hb (oc_87 1066 (aq_6 shL_law_1060)) rfl ?_
  refine lv_aload_n hx hb (oc_44 1067 (aq_7 shL_law_1060)) rfl (lvA2 hl) ?_
  refine lv_aload_n hx hb (oc_42 1068 (aq_8 shL_law_1060)) rfl (lvA0 hl) ?_
  refine lv_iload_n hx hb (oc_29 1069 (aq_9 shL_law_1060)) rfl (lvA3 hl) ?_
  refine lv_iconst (v := 1) hx hb (oc_4 1070 (aq_10 shL_law_1060)) kic_1 ?_
  refine lv_iadd hx hb (oc_96 1071 (aq_11 shL_law_1060)) ?_
  refine lv_topi (fun y_6 ey_6 => ?_)
  obtain rfl : y_6 = nI (i + 1) := ey_6.trans (nI_add i 1)
  refine va_sld hx hb hX hbl hbA hS (vp_in_nI (by omega) (by omega)) (oc_46 1072 (aq_12 shL_law_1060)) ?_
  refine lv_topi (fun y_7 ey_7 => ?_)
  obtain rfl : y_7 = xs (nI (i + 1)).toNatClampNeg := ey_7
  refine lv_aload_n hx hb (oc_42 1073 (aq_13 shL_law_1060)) rfl (lvA0 hl) ?_
  refine lv_iload_n hx hb (oc_29 1074 (aq_14 shL_law_1060)) rfl (lvA3 hl) ?_
  refine lv_iconst (v := 2) hx hb (oc_5 1075 (aq_15 shL_law_1060)) kic_2 ?_
  refine lv_iadd hx hb (oc_96 1076 (aq_16 shL_law_1060)) ?_
  refine lv_topi (fun y_8 ey_8 => ?_)
  obtain rfl : y_8 = nI (i + 2) := ey_8.trans (nI_add i 2)
  refine va_sld hx hb hX hbl hbA hS (vp_in_nI (by omega) (by omega)) (oc_46 1077 (aq_17 shL_law_1060)) ?_
  refine lv_topi (fun y_9 ey_9 => ?_)
  obtain rfl : y_9 = xs (nI (i + 2)).toNatClampNeg := ey_9
  refine vp_callSi (runV_ra (As := [.int (xs (nI (i + 1)).toNatClampNeg), .int (xs (nI (i + 2)).toNatClampNeg)]) (rest := []) S (q_offer l D cI cB cZ g2 c3 I3 F3 (xs (nI (i + 1)).toNatClampNeg) (xs (nI (i + 2)).toNatClampNeg) hM.1) kV_RL_115 hK (exPr hP) 0 rfl rfl rfl ⟨Nat.le_of_ble_eq_true rfl, Nat.le_of_ble_eq_true rfl⟩ ⟨(by show K + 0 ≤ 600000; omega), (by show N + 0 ≤ 7302250; omega)⟩ rfl hl.1 rfl (Nat.le_of_ble_eq_true rfl) (oc_182 1078 (aq_18 shL_law_1060) uw_0_115)) (fun r9 w9 => ?_)
  refine lv_pop hx hb (oc_87 1081 (aq_21 shL_law_1060)) rfl ?_
  refine lv_goto (tgt := 2269) hx hb (oc_167 1082 (aq_22 shL_law_1060) sgw_4_163) rfl ?_
  refine W.widen (k := K + 8) (n := N + 240) (by omega) (by omega) ?_
  exact kk _ _ _ _ _ _ _ _ _ hI hM hR hP hD hS ls hl
set_option maxRecDepth 100000 in
set_option maxHeartbeats 4000000 in
theorem lawc_23 {p : Program} {l : Launch} {e : Env} {s : State} {m : MethodId} {below : List Frame} {meth : Method} {c : Code} {b L : Nat} {xs : Nat → Int32} (C0 : lw_At p s m meth c b L xs) (hLN : L ≤ 3584) {A : Nat → Prop} (hA : ∀ q : Nat, s.heap.size ≤ q → A q) (hbA : ¬ A b) {D : va_G} {cI cB cZ : ClassId} {zz qq vv : Nat} {bt : Nat → Int32} {g g2 : Nat → Nat} (hK : KK D cI cB cZ s) (hXS : XS D zz qq vv bt A s s.heap) {ad : Nat → Nat → Nat} {cn : Nat → Nat} {In : Nat → Int32} {Fn : Nat → Nat → Int32} {c3 : Nat → Nat} {I3 : Nat → Int32} {F3 : Nat → Nat → Int32} (hI : IX ad cn Fn) (hM : IMM c3 F3) (hR : RR cn Fn c3 F3) {H : Heap} {locs : List Loc} (hP : va_P D vwCl (wX cI (D.1 99) zz g ad cn In Fn ++ wM cI cB cZ g2 c3 I3 F3) H) (hD : va_D A (wX cI (D.1 99) zz g ad cn In Fn ++ wM cI cB cZ g2 c3 I3 F3)) (hS : va_S A s.heap H locs) {K N i : Nat} (hi : i + 7 ≤ L) (hKN : K + 8 ≤ 600000 ∧ N + 240 ≤ 7302250) {ls : Array Slot} (hl : lv_has ls 4 [(0, .ref b), (1, .ref (g 0)), (2, .ref (g2 100)), (3, .int (nI i))]) (kk : ∀ (ad : Nat → Nat → Nat) (cn : Nat → Nat) (In : Nat → Int32) (Fn : Nat → Nat → Int32) (c3 : Nat → Nat) (I3 : Nat → Int32) (F3 : Nat → Nat → Int32) (H : Heap) (locs : List Loc), IX ad cn Fn → IMM c3 F3 → RR cn Fn c3 F3 → va_P D vwCl (wX cI (D.1 99) zz g ad cn In Fn ++ wM cI cB cZ g2 c3 I3 F3) H → va_D A (wX cI (D.1 99) zz g ad cn In Fn ++ wM cI cB cZ g2 c3 I3 F3) → va_S A s.heap H locs → ∀ ls : Array Slot, lv_has ls 4 [(0, .ref b), (1, .ref (g 0)), (2, .ref (g2 100)), (3, .int (nI i))] → W p l e room_1 s m #[Value.ref b] below meth c H locs (K + 8) (N + 240) (lw_Z below #[Value.ref b] s) (F0 m 2269 ls [])) : W p l e room_1 s m #[Value.ref b] below meth c H locs K N (lw_Z below #[Value.ref b] s) (F0 m 1085 ls []) := by
  obtain ⟨hx, hb, hr, hml, hown, hts, hX, hbl, hlocks, hgv⟩ := id C0
  have S : SF p m c code 4 s #[Value.ref b] RL := ⟨hx, hb, hml, hown, fun w h => hts w (wT_lw h)⟩
  refine lv_aload_n hx hb (oc_43 1085 shL_law_1085) rfl (lvA1 hl) ?_
  refine lv_aload_n hx hb (oc_42 1086 (aq_1 shL_law_1085)) rfl (lvA0 hl) ?_
  refine lv_iload_n hx hb (oc_29 1087 (aq_2 shL_law_1085)) rfl (lvA3 hl) ?_
  refine lv_iconst (v := 1) hx hb (oc_4 1088 (aq_3 shL_law_1085)) kic_1 ?_
  refine lv_iadd hx hb (oc_96 1089 (aq_4 shL_law_1085)) ?_
  refine lv_topi (fun y_1 ey_1 => ?_)
  obtain rfl : y_1 = nI (i + 1) := ey_1.trans (nI_add i 1)
  refine va_sld hx hb hX hbl hbA hS (vp_in_nI (by omega) (by omega)) (oc_46 1090 (aq_5 shL_law_1085)) ?_
  refine lv_topi (fun y_2 ey_2 => ?_)
  obtain rfl : y_2 = xs (nI (i + 1)).toNatClampNeg := ey_2
  refine lv_aload_n hx hb (oc_42 1091 (aq_6 shL_law_1085)) rfl (lvA0 hl) ?_
  refine lv_iload_n hx hb (oc_29 1092 (aq_7 shL_law_1085)) rfl (lvA3 hl) ?_
  refine lv_iconst (v := 2) hx hb (oc_5 1093 (aq_8 shL_law_1085)) kic_2 ?_
  refine lv_iadd hx hb (oc_96 1094 (aq_9 shL_law_1085)) ?_
  refine lv_topi (fun y_3 ey_3 => ?_)
  obtain rfl : y_3 = nI (i + 2) := ey_3.trans (nI_add i 2)
  refine va_sld hx hb hX hbl hbA hS (vp_in_nI (by omega) (by omega)) (oc_46 1095 (aq_10 shL_law_1085)) ?_
  refine lv_topi (fun y_4 ey_4 => ?_)
  obtain rfl : y_4 = xs (nI (i + 2)).toNatClampNeg := ey_4
  have hFc := free_all (exD hD) hS hA
  refine va_calli (runV_xa (As := [.int (xs (nI (i + 1)).toNatClampNeg), .int (xs (nI (i + 2)).toNatClampNeg)]) (rest := []) S (q_Xthefts l D cI cB cZ zz qq vv bt g ad cn In Fn (xs (nI (i + 1)).toNatClampNeg) (xs (nI (i + 2)).toNatClampNeg) H.size hI.1) kV_RL_116 hK hXS hS hFc (exP hP) (exD hD) 0 xo_0 rfl rfl ⟨Nat.le_of_ble_eq_true rfl, Nat.le_of_ble_eq_true rfl⟩ ⟨(by show K + 0 ≤ 600000; omega), (by show N + 0 ≤ 7302250; omega)⟩ rfl hl.1 rfl (Nat.le_of_ble_eq_true rfl) (oc_182 1096 (aq_11 shL_law_1085) uw_0_116)) hS (fun q _ h => hFc q h) hFc (fun r4 u t H1 locs ht hvm w4 hB1 hz1 hk1 hS => ?_)
  obtain ⟨c4, I4, F4⟩ := u
  obtain ⟨hP1, hD1⟩ := hB1
  rw [ht] at hP1
  obtain ⟨hP, hD⟩ := exjoinL hP hD hk1 hFc hP1 hD1
  generalize H1 = H at hP hS ⊢
  have hd4 := w4.1.1
  have hf4 := w4.1.2.2
  have hI := IX.fr hI w4.1 w4.2.1 (by decide) (by decide)
  have hR := RR.fx hR hd4 hf4 (by decide) (by decide)
  refine lv_pop hx hb (oc_87 1099 (aq_14 shL_law_1085)) rfl ?_
  refine lv_aload_n hx hb (oc_44 1100 (aq_15 shL_law_1085)) rfl (lvA2 hl) ?_
  refine lv_aload_n hx hb (oc_42 1101 (aq_16 shL_law_1085)) rfl (lvA0 hl) ?_
  refine lv_iload_n hx hb (oc_29 1102 (aq_17 shL_law_1085)) rfl (lvA3 hl) ?_
  refine lv_iconst (v := 1) hx hb (oc_4 1103 (aq_18 shL_law_1085)) kic_1 ?_
  refine lv_iadd hx hb (oc_96 1104 (aq_19 shL_law_1085)) ?_
  refine lv_topi (fun y_6 ey_6 => ?_)
  obtain rfl : y_6 = nI (i + 1) := ey_6.trans (nI_add i 1)
  refine va_sld hx hb hX hbl hbA hS (vp_in_nI (by omega) (by omega)) (oc_46 1105 (aq_20 shL_law_1085)) ?_
  refine lv_topi (fun y_7 ey_7 => ?_)
  obtain rfl : y_7 = xs (nI (i + 1)).toNatClampNeg := ey_7
  refine lv_aload_n hx hb (oc_42 1106 (aq_21 shL_law_1085)) rfl (lvA0 hl) ?_
  refine lv_iload_n hx hb (oc_29 1107 (aq_22 shL_law_1085)) rfl (lvA3 hl) ?_
  refine lv_iconst (v := 2) hx hb (oc_5 1108 (aq_23 shL_law_1085)) kic_2 ?_
  refine lv_iadd hx hb (oc_96 1109 shL_law_1109) ?_
  refine lv_topi (fun y_8 ey_8 => ?_)
  obtain rfl : y_8 = nI (i + 2) := ey_8.trans (nI_add i 2)
  refine va_sld hx hb hX hbl hbA hS (vp_in_nI (by omega) (by omega)) (oc_46 1110 (aq_1 shL_law_1109)) ?_
  refine lv_topi (fun y_9 ey_9 => ?_)
  obtain rfl : y_9 = xs (nI (i + 2)).toNatClampNeg := ey_9
  have hFc := free_all (exDr hD) hS hA
  refine va_calli (runV_a (As := [.int (xs (nI (i + 1)).toNatClampNeg), .int (xs (nI (i + 2)).toNatClampNeg)]) (rest := []) S (q_thefts l D cI cB cZ g2 c3 I3 F3 (xs (nI (i + 1)).toNatClampNeg) (xs (nI (i + 2)).toNatClampNeg) H.size hM.1) kV_RL_119 hK (exPr hP) (exDr hD) 0 rfl rfl rfl ⟨Nat.le_of_ble_eq_true rfl, Nat.le_of_ble_eq_true rfl⟩ ⟨(by show K + 0 ≤ 600000; omega), (by show N + 0 ≤ 7302250; omega)⟩ rfl hl.1 rfl (Nat.le_of_ble_eq_true rfl) (oc_182 1111 (aq_2 shL_law_1109) uw_0_119)) hS (fun q _ h => hFc q h) hFc (fun r9 u t H1 locs ht hvm w9 hB1 hz1 hk1 hS => ?_)
  obtain ⟨c9, I9, F9⟩ := u
  obtain ⟨hP1, hD1⟩ := hB1
  rw [ht] at hP1
  obtain ⟨hP, hD⟩ := exjoin hP hD hk1 hFc hP1 hD1
  generalize H1 = H at hP hS ⊢
  obtain ⟨hM, hd9, hf9⟩ := imm_thefts hM w9
  have hR := RR.fm hR hd9 hf9 (by decide) (by decide)
  refine lv_pop hx hb (oc_87 1114 (aq_5 shL_law_1109)) rfl ?_
  refine lv_goto (tgt := 2269) hx hb (oc_167 1115 (aq_6 shL_law_1109) sgw_4_130) rfl ?_
  refine W.widen (k := K + 8) (n := N + 240) (by omega) (by omega) ?_
  exact kk _ _ _ _ _ _ _ _ _ hI hM hR hP hD hS ls hl
set_option maxRecDepth 100000 in
set_option maxHeartbeats 4000000 in
theorem lawc_24 {p : Program} {l : Launch} {e : Env} {s : State} {m : MethodId} {below : List Frame} {meth : Method} {c : Code} {b L : Nat} {xs : Nat → Int32} (C0 : lw_At p s m meth c b L xs) (hLN : L ≤ 3584) {A : Nat → Prop} (hA : ∀ q : Nat, s.heap.size ≤ q → A q) (hbA : ¬ A b) {D : va_G} {cI cB cZ : ClassId} {zz qq vv : Nat} {bt : Nat → Int32} {g g2 : Nat → Nat} (hK : KK D cI cB cZ s) (hXS : XS D zz qq vv bt A s s.heap) {ad : Nat → Nat → Nat} {cn : Nat → Nat} {In : Nat → Int32} {Fn : Nat → Nat → Int32} {c3 : Nat → Nat} {I3 : Nat → Int32} {F3 : Nat → Nat → Int32} (hI : IX ad cn Fn) (hM : IMM c3 F3) (hR : RR cn Fn c3 F3) {H : Heap} {locs : List Loc} (hP : va_P D vwCl (wX cI (D.1 99) zz g ad cn In Fn ++ wM cI cB cZ g2 c3 I3 F3) H) (hD : va_D A (wX cI (D.1 99) zz g ad cn In Fn ++ wM cI cB cZ g2 c3 I3 F3)) (hS : va_S A s.heap H locs) {K N i : Nat} (hi : i + 7 ≤ L) (hKN : K + 8 ≤ 600000 ∧ N + 240 ≤ 7302250) {ls : Array Slot} (hl : lv_has ls 4 [(0, .ref b), (1, .ref (g 0)), (2, .ref (g2 100)), (3, .int (nI i))]) (kk : ∀ (ad : Nat → Nat → Nat) (cn : Nat → Nat) (In : Nat → Int32) (Fn : Nat → Nat → Int32) (c3 : Nat → Nat) (I3 : Nat → Int32) (F3 : Nat → Nat → Int32) (H : Heap) (locs : List Loc), IX ad cn Fn → IMM c3 F3 → RR cn Fn c3 F3 → va_P D vwCl (wX cI (D.1 99) zz g ad cn In Fn ++ wM cI cB cZ g2 c3 I3 F3) H → va_D A (wX cI (D.1 99) zz g ad cn In Fn ++ wM cI cB cZ g2 c3 I3 F3) → va_S A s.heap H locs → ∀ ls : Array Slot, lv_has ls 4 [(0, .ref b), (1, .ref (g 0)), (2, .ref (g2 100)), (3, .int (nI i))] → W p l e room_1 s m #[Value.ref b] below meth c H locs (K + 8) (N + 240) (lw_Z below #[Value.ref b] s) (F0 m 2269 ls [])) : W p l e room_1 s m #[Value.ref b] below meth c H locs K N (lw_Z below #[Value.ref b] s) (F0 m 1118 ls []) := by
  obtain ⟨hx, hb, hr, hml, hown, hts, hX, hbl, hlocks, hgv⟩ := id C0
  have S : SF p m c code 4 s #[Value.ref b] RL := ⟨hx, hb, hml, hown, fun w h => hts w (wT_lw h)⟩
  refine lv_aload_n hx hb (oc_43 1118 (aq_9 shL_law_1109)) rfl (lvA1 hl) ?_
  refine lv_aload_n hx hb (oc_42 1119 (aq_10 shL_law_1109)) rfl (lvA0 hl) ?_
  refine lv_iload_n hx hb (oc_29 1120 (aq_11 shL_law_1109)) rfl (lvA3 hl) ?_
  refine lv_iconst (v := 1) hx hb (oc_4 1121 (aq_12 shL_law_1109)) kic_1 ?_
  refine lv_iadd hx hb (oc_96 1122 (aq_13 shL_law_1109)) ?_
  refine lv_topi (fun y_1 ey_1 => ?_)
  obtain rfl : y_1 = nI (i + 1) := ey_1.trans (nI_add i 1)
  refine va_sld hx hb hX hbl hbA hS (vp_in_nI (by omega) (by omega)) (oc_46 1123 (aq_14 shL_law_1109)) ?_
  refine lv_topi (fun y_2 ey_2 => ?_)
  obtain rfl : y_2 = xs (nI (i + 1)).toNatClampNeg := ey_2
  refine lv_aload_n hx hb (oc_42 1124 (aq_15 shL_law_1109)) rfl (lvA0 hl) ?_
  refine lv_iload_n hx hb (oc_29 1125 (aq_16 shL_law_1109)) rfl (lvA3 hl) ?_
  refine lv_iconst (v := 2) hx hb (oc_5 1126 (aq_17 shL_law_1109)) kic_2 ?_
  refine lv_iadd hx hb (oc_96 1127 (aq_18 shL_law_1109)) ?_
  refine lv_topi (fun y_3 ey_3 => ?_)
  obtain rfl : y_3 = nI (i + 2) := ey_3.trans (nI_add i 2)
  refine va_sld hx hb hX hbl hbA hS (vp_in_nI (by omega) (by omega)) (oc_46 1128 (aq_19 shL_law_1109)) ?_
  refine lv_topi (fun y_4 ey_4 => ?_)
  obtain rfl : y_4 = xs (nI (i + 2)).toNatClampNeg := ey_4
  refine vp_callSi (runV_rxa (As := [.int (xs (nI (i + 1)).toNatClampNeg), .int (xs (nI (i + 2)).toNatClampNeg)]) (rest := []) S (q_Xlock l D cI cB cZ zz qq vv bt g ad cn In Fn (xs (nI (i + 1)).toNatClampNeg) (xs (nI (i + 2)).toNatClampNeg) hI.1) kV_RL_120 hK hXS hS (exP hP) 0 xo_0 rfl rfl ⟨Nat.le_of_ble_eq_true rfl, Nat.le_of_ble_eq_true rfl⟩ ⟨(by show K + 0 ≤ 600000; omega), (by show N + 0 ≤ 7302250; omega)⟩ rfl hl.1 rfl (Nat.le_of_ble_eq_true rfl) (oc_182 1129 (aq_20 shL_law_1109) uw_0_120)) (fun r4 w4 => ?_)
  refine lv_pop hx hb (oc_87 1132 (aq_23 shL_law_1109)) rfl ?_
  refine lv_aload_n hx hb (oc_44 1133 shL_law_1133) rfl (lvA2 hl) ?_
  refine lv_aload_n hx hb (oc_42 1134 (aq_1 shL_law_1133)) rfl (lvA0 hl) ?_
  refine lv_iload_n hx hb (oc_29 1135 (aq_2 shL_law_1133)) rfl (lvA3 hl) ?_
  refine lv_iconst (v := 1) hx hb (oc_4 1136 (aq_3 shL_law_1133)) kic_1 ?_
  refine lv_iadd hx hb (oc_96 1137 (aq_4 shL_law_1133)) ?_
  refine lv_topi (fun y_6 ey_6 => ?_)
  obtain rfl : y_6 = nI (i + 1) := ey_6.trans (nI_add i 1)
  refine va_sld hx hb hX hbl hbA hS (vp_in_nI (by omega) (by omega)) (oc_46 1138 (aq_5 shL_law_1133)) ?_
  refine lv_topi (fun y_7 ey_7 => ?_)
  obtain rfl : y_7 = xs (nI (i + 1)).toNatClampNeg := ey_7
  refine lv_aload_n hx hb (oc_42 1139 (aq_6 shL_law_1133)) rfl (lvA0 hl) ?_
  refine lv_iload_n hx hb (oc_29 1140 (aq_7 shL_law_1133)) rfl (lvA3 hl) ?_
  refine lv_iconst (v := 2) hx hb (oc_5 1141 (aq_8 shL_law_1133)) kic_2 ?_
  refine lv_iadd hx hb (oc_96 1142 (aq_9 shL_law_1133)) ?_
  refine lv_topi (fun y_8 ey_8 => ?_)
  obtain rfl : y_8 = nI (i + 2) := ey_8.trans (nI_add i 2)
  refine va_sld hx hb hX hbl hbA hS (vp_in_nI (by omega) (by omega)) (oc_46 1143 (aq_10 shL_law_1133)) ?_
  refine lv_topi (fun y_9 ey_9 => ?_)
  obtain rfl : y_9 = xs (nI (i + 2)).toNatClampNeg := ey_9
  refine vp_callSi (runV_ra (As := [.int (xs (nI (i + 1)).toNatClampNeg), .int (xs (nI (i + 2)).toNatClampNeg)]) (rest := []) S (q_lock l D cI cB cZ g2 c3 I3 F3 (xs (nI (i + 1)).toNatClampNeg) (xs (nI (i + 2)).toNatClampNeg) hM.1) kV_RL_123 hK (exPr hP) 0 rfl rfl rfl ⟨Nat.le_of_ble_eq_true rfl, Nat.le_of_ble_eq_true rfl⟩ ⟨(by show K + 0 ≤ 600000; omega), (by show N + 0 ≤ 7302250; omega)⟩ rfl hl.1 rfl (Nat.le_of_ble_eq_true rfl) (oc_182 1144 (aq_11 shL_law_1133) uw_0_123)) (fun r9 w9 => ?_)
  refine lv_pop hx hb (oc_87 1147 (aq_14 shL_law_1133)) rfl ?_
  refine lv_goto (tgt := 2269) hx hb (oc_167 1148 (aq_15 shL_law_1133) sgw_4_97) rfl ?_
  refine W.widen (k := K + 8) (n := N + 240) (by omega) (by omega) ?_
  exact kk _ _ _ _ _ _ _ _ _ hI hM hR hP hD hS ls hl
set_option maxRecDepth 100000 in
set_option maxHeartbeats 4000000 in
theorem lawc_25 {p : Program} {l : Launch} {e : Env} {s : State} {m : MethodId} {below : List Frame} {meth : Method} {c : Code} {b L : Nat} {xs : Nat → Int32} (C0 : lw_At p s m meth c b L xs) (hLN : L ≤ 3584) {A : Nat → Prop} (hA : ∀ q : Nat, s.heap.size ≤ q → A q) (hbA : ¬ A b) {D : va_G} {cI cB cZ : ClassId} {zz qq vv : Nat} {bt : Nat → Int32} {g g2 : Nat → Nat} (hK : KK D cI cB cZ s) (hXS : XS D zz qq vv bt A s s.heap) {ad : Nat → Nat → Nat} {cn : Nat → Nat} {In : Nat → Int32} {Fn : Nat → Nat → Int32} {c3 : Nat → Nat} {I3 : Nat → Int32} {F3 : Nat → Nat → Int32} (hI : IX ad cn Fn) (hM : IMM c3 F3) (hR : RR cn Fn c3 F3) {H : Heap} {locs : List Loc} (hP : va_P D vwCl (wX cI (D.1 99) zz g ad cn In Fn ++ wM cI cB cZ g2 c3 I3 F3) H) (hD : va_D A (wX cI (D.1 99) zz g ad cn In Fn ++ wM cI cB cZ g2 c3 I3 F3)) (hS : va_S A s.heap H locs) {K N i : Nat} (hi : i + 7 ≤ L) (hKN : K + 8 ≤ 600000 ∧ N + 240 ≤ 7302250) {ls : Array Slot} (hl : lv_has ls 4 [(0, .ref b), (1, .ref (g 0)), (2, .ref (g2 100)), (3, .int (nI i))]) (kk : ∀ (ad : Nat → Nat → Nat) (cn : Nat → Nat) (In : Nat → Int32) (Fn : Nat → Nat → Int32) (c3 : Nat → Nat) (I3 : Nat → Int32) (F3 : Nat → Nat → Int32) (H : Heap) (locs : List Loc), IX ad cn Fn → IMM c3 F3 → RR cn Fn c3 F3 → va_P D vwCl (wX cI (D.1 99) zz g ad cn In Fn ++ wM cI cB cZ g2 c3 I3 F3) H → va_D A (wX cI (D.1 99) zz g ad cn In Fn ++ wM cI cB cZ g2 c3 I3 F3) → va_S A s.heap H locs → ∀ ls : Array Slot, lv_has ls 4 [(0, .ref b), (1, .ref (g 0)), (2, .ref (g2 100)), (3, .int (nI i))] → W p l e room_1 s m #[Value.ref b] below meth c H locs (K + 8) (N + 240) (lw_Z below #[Value.ref b] s) (F0 m 2269 ls [])) : W p l e room_1 s m #[Value.ref b] below meth c H locs K N (lw_Z below #[Value.ref b] s) (F0 m 1151 ls []) := by
  obtain ⟨hx, hb, hr, hml, hown, hts, hX, hbl, hlocks, hgv⟩ := id C0
  have S : SF p m c code 4 s #[Value.ref b] RL := ⟨hx, hb, hml, hown, fun w h => hts w (wT_lw h)⟩
  refine lv_aload_n hx hb (oc_43 1151 (aq_18 shL_law_1133)) rfl (lvA1 hl) ?_
  refine lv_aload_n hx hb (oc_42 1152 (aq_19 shL_law_1133)) rfl (lvA0 hl) ?_
  refine lv_iload_n hx hb (oc_29 1153 (aq_20 shL_law_1133)) rfl (lvA3 hl) ?_
  refine lv_iconst (v := 1) hx hb (oc_4 1154 (aq_21 shL_law_1133)) kic_1 ?_
  refine lv_iadd hx hb (oc_96 1155 (aq_22 shL_law_1133)) ?_
  refine lv_topi (fun y_1 ey_1 => ?_)
  obtain rfl : y_1 = nI (i + 1) := ey_1.trans (nI_add i 1)
  refine va_sld hx hb hX hbl hbA hS (vp_in_nI (by omega) (by omega)) (oc_46 1156 (aq_23 shL_law_1133)) ?_
  refine lv_topi (fun y_2 ey_2 => ?_)
  obtain rfl : y_2 = xs (nI (i + 1)).toNatClampNeg := ey_2
  refine lv_aload_n hx hb (oc_42 1157 shL_law_1157) rfl (lvA0 hl) ?_
  refine lv_iload_n hx hb (oc_29 1158 (aq_1 shL_law_1157)) rfl (lvA3 hl) ?_
  refine lv_iconst (v := 2) hx hb (oc_5 1159 (aq_2 shL_law_1157)) kic_2 ?_
  refine lv_iadd hx hb (oc_96 1160 (aq_3 shL_law_1157)) ?_
  refine lv_topi (fun y_3 ey_3 => ?_)
  obtain rfl : y_3 = nI (i + 2) := ey_3.trans (nI_add i 2)
  refine va_sld hx hb hX hbl hbA hS (vp_in_nI (by omega) (by omega)) (oc_46 1161 (aq_4 shL_law_1157)) ?_
  refine lv_topi (fun y_4 ey_4 => ?_)
  obtain rfl : y_4 = xs (nI (i + 2)).toNatClampNeg := ey_4
  have hFc := free_all (exD hD) hS hA
  refine va_calli (runV_xa (As := [.int (xs (nI (i + 1)).toNatClampNeg), .int (xs (nI (i + 2)).toNatClampNeg)]) (rest := []) S (q_Xsewer l D cI cB cZ zz qq vv bt g ad cn In Fn (xs (nI (i + 1)).toNatClampNeg) (xs (nI (i + 2)).toNatClampNeg) H.size hI.1) kV_RL_124 hK hXS hS hFc (exP hP) (exD hD) 0 xo_0 rfl rfl ⟨Nat.le_of_ble_eq_true rfl, Nat.le_of_ble_eq_true rfl⟩ ⟨(by show K + 2 ≤ 600000; omega), (by show N + 103 ≤ 7302250; omega)⟩ rfl hl.1 rfl (Nat.le_of_ble_eq_true rfl) (oc_182 1162 (aq_5 shL_law_1157) uw_0_124)) hS (fun q _ h => hFc q h) hFc (fun r4 u t H1 locs ht hvm w4 hB1 hz1 hk1 hS => ?_)
  obtain ⟨a4, c4, I4, F4⟩ := u
  obtain ⟨hP1, hD1⟩ := hB1
  rw [ht] at hP1
  obtain ⟨hP, hD⟩ := exjoinL hP hD hk1 hFc hP1 hD1
  generalize H1 = H at hP hS ⊢
  obtain ⟨hI, hd4, hf4⟩ := ix_sewer hI w4
  have hR := RR.fx hR hd4 hf4 (by decide) (by decide)
  refine lv_pop hx hb (oc_87 1165 (aq_8 shL_law_1157)) rfl ?_
  refine lv_aload_n hx hb (oc_44 1166 (aq_9 shL_law_1157)) rfl (lvA2 hl) ?_
  refine lv_aload_n hx hb (oc_42 1167 (aq_10 shL_law_1157)) rfl (lvA0 hl) ?_
  refine lv_iload_n hx hb (oc_29 1168 (aq_11 shL_law_1157)) rfl (lvA3 hl) ?_
  refine lv_iconst (v := 1) hx hb (oc_4 1169 (aq_12 shL_law_1157)) kic_1 ?_
  refine lv_iadd hx hb (oc_96 1170 (aq_13 shL_law_1157)) ?_
  refine lv_topi (fun y_6 ey_6 => ?_)
  obtain rfl : y_6 = nI (i + 1) := ey_6.trans (nI_add i 1)
  refine va_sld hx hb hX hbl hbA hS (vp_in_nI (by omega) (by omega)) (oc_46 1171 (aq_14 shL_law_1157)) ?_
  refine lv_topi (fun y_7 ey_7 => ?_)
  obtain rfl : y_7 = xs (nI (i + 1)).toNatClampNeg := ey_7
  refine lv_aload_n hx hb (oc_42 1172 (aq_15 shL_law_1157)) rfl (lvA0 hl) ?_
  refine lv_iload_n hx hb (oc_29 1173 (aq_16 shL_law_1157)) rfl (lvA3 hl) ?_
  refine lv_iconst (v := 2) hx hb (oc_5 1174 (aq_17 shL_law_1157)) kic_2 ?_
  refine lv_iadd hx hb (oc_96 1175 (aq_18 shL_law_1157)) ?_
  refine lv_topi (fun y_8 ey_8 => ?_)
  obtain rfl : y_8 = nI (i + 2) := ey_8.trans (nI_add i 2)
  refine va_sld hx hb hX hbl hbA hS (vp_in_nI (by omega) (by omega)) (oc_46 1176 (aq_19 shL_law_1157)) ?_
  refine lv_topi (fun y_9 ey_9 => ?_)
  obtain rfl : y_9 = xs (nI (i + 2)).toNatClampNeg := ey_9
  have hFc := free_all (exDr hD) hS hA
  refine va_calli (runV_a (As := [.int (xs (nI (i + 1)).toNatClampNeg), .int (xs (nI (i + 2)).toNatClampNeg)]) (rest := []) S (q_sewer l D cI cB cZ g2 c3 I3 F3 (xs (nI (i + 1)).toNatClampNeg) (xs (nI (i + 2)).toNatClampNeg) H.size hM.1) kV_RL_127 hK (exPr hP) (exDr hD) 0 rfl rfl rfl ⟨Nat.le_of_ble_eq_true rfl, Nat.le_of_ble_eq_true rfl⟩ ⟨(by show K + 2 + 0 ≤ 600000; omega), (by show N + 103 + 0 ≤ 7302250; omega)⟩ rfl hl.1 rfl (Nat.le_of_ble_eq_true rfl) (oc_182 1177 (aq_20 shL_law_1157) uw_0_127)) hS (fun q _ h => hFc q h) hFc (fun r9 u t H1 locs ht hvm w9 hB1 hz1 hk1 hS => ?_)
  obtain ⟨c9, I9, F9⟩ := u
  obtain ⟨hP1, hD1⟩ := hB1
  rw [ht] at hP1
  obtain ⟨hP, hD⟩ := exjoin hP hD hk1 hFc hP1 hD1
  generalize H1 = H at hP hS ⊢
  obtain ⟨hM, hd9, hf9⟩ := imm_sewer hM w9
  have hR := RR.fm hR hd9 hf9 (by decide) (by decide)
  refine lv_pop hx hb (oc_87 1180 (aq_23 shL_law_1157)) rfl ?_
  refine lv_goto (tgt := 2269) hx hb (oc_167 1181 shL_law_1181 sgw_4_64) rfl ?_
  refine W.widen (k := K + 8) (n := N + 240) (by omega) (by omega) ?_
  exact kk _ _ _ _ _ _ _ _ _ hI hM hR hP hD hS ls hl
set_option maxRecDepth 100000 in
set_option maxHeartbeats 4000000 in
theorem lawc_26 {p : Program} {l : Launch} {e : Env} {s : State} {m : MethodId} {below : List Frame} {meth : Method} {c : Code} {b L : Nat} {xs : Nat → Int32} (C0 : lw_At p s m meth c b L xs) (hLN : L ≤ 3584) {A : Nat → Prop} (hA : ∀ q : Nat, s.heap.size ≤ q → A q) (hbA : ¬ A b) {D : va_G} {cI cB cZ : ClassId} {zz qq vv : Nat} {bt : Nat → Int32} {g g2 : Nat → Nat} (hK : KK D cI cB cZ s) (hXS : XS D zz qq vv bt A s s.heap) {ad : Nat → Nat → Nat} {cn : Nat → Nat} {In : Nat → Int32} {Fn : Nat → Nat → Int32} {c3 : Nat → Nat} {I3 : Nat → Int32} {F3 : Nat → Nat → Int32} (hI : IX ad cn Fn) (hM : IMM c3 F3) (hR : RR cn Fn c3 F3) {H : Heap} {locs : List Loc} (hP : va_P D vwCl (wX cI (D.1 99) zz g ad cn In Fn ++ wM cI cB cZ g2 c3 I3 F3) H) (hD : va_D A (wX cI (D.1 99) zz g ad cn In Fn ++ wM cI cB cZ g2 c3 I3 F3)) (hS : va_S A s.heap H locs) {K N i : Nat} (hi : i + 7 ≤ L) (hKN : K + 8 ≤ 600000 ∧ N + 240 ≤ 7302250) {ls : Array Slot} (hl : lv_has ls 4 [(0, .ref b), (1, .ref (g 0)), (2, .ref (g2 100)), (3, .int (nI i))]) (kk : ∀ (ad : Nat → Nat → Nat) (cn : Nat → Nat) (In : Nat → Int32) (Fn : Nat → Nat → Int32) (c3 : Nat → Nat) (I3 : Nat → Int32) (F3 : Nat → Nat → Int32) (H : Heap) (locs : List Loc), IX ad cn Fn → IMM c3 F3 → RR cn Fn c3 F3 → va_P D vwCl (wX cI (D.1 99) zz g ad cn In Fn ++ wM cI cB cZ g2 c3 I3 F3) H → va_D A (wX cI (D.1 99) zz g ad cn In Fn ++ wM cI cB cZ g2 c3 I3 F3) → va_S A s.heap H locs → ∀ ls : Array Slot, lv_has ls 4 [(0, .ref b), (1, .ref (g 0)), (2, .ref (g2 100)), (3, .int (nI i))] → W p l e room_1 s m #[Value.ref b] below meth c H locs (K + 8) (N + 240) (lw_Z below #[Value.ref b] s) (F0 m 2269 ls [])) : W p l e room_1 s m #[Value.ref b] below meth c H locs K N (lw_Z below #[Value.ref b] s) (F0 m 1184 ls []) := by
  obtain ⟨hx, hb, hr, hml, hown, hts, hX, hbl, hlocks, hgv⟩ := id C0
  have S : SF p m c code 4 s #[Value.ref b] RL := ⟨hx, hb, hml, hown, fun w h => hts w (wT_lw h)⟩
  refine lv_aload_n hx hb (oc_43 1184 (aq_3 shL_law_1181)) rfl (lvA1 hl) ?_
  refine lv_aload_n hx hb (oc_42 1185 (aq_4 shL_law_1181)) rfl (lvA0 hl) ?_
  refine lv_iload_n hx hb (oc_29 1186 (aq_5 shL_law_1181)) rfl (lvA3 hl) ?_
  refine lv_iconst (v := 1) hx hb (oc_4 1187 (aq_6 shL_law_1181)) kic_1 ?_
  refine lv_iadd hx hb (oc_96 1188 (aq_7 shL_law_1181)) ?_
  refine lv_topi (fun y_1 ey_1 => ?_)
  obtain rfl : y_1 = nI (i + 1) := ey_1.trans (nI_add i 1)
  refine va_sld hx hb hX hbl hbA hS (vp_in_nI (by omega) (by omega)) (oc_46 1189 (aq_8 shL_law_1181)) ?_
  refine lv_topi (fun y_2 ey_2 => ?_)
  obtain rfl : y_2 = xs (nI (i + 1)).toNatClampNeg := ey_2
  have hFc := free_all (exD hD) hS hA
  refine va_calli (runV_xa (As := [.int (xs (nI (i + 1)).toNatClampNeg)]) (rest := []) S (q_Xblocked l D cI cB cZ zz qq vv bt g ad cn In Fn (xs (nI (i + 1)).toNatClampNeg) H.size hI.1) kV_RL_128 hK hXS hS hFc (exP hP) (exD hD) 0 xo_0 rfl rfl ⟨Nat.le_of_ble_eq_true rfl, Nat.le_of_ble_eq_true rfl⟩ ⟨(by show K + 0 ≤ 600000; omega), (by show N + 0 ≤ 7302250; omega)⟩ rfl hl.1 rfl (Nat.le_of_ble_eq_true rfl) (oc_182 1190 (aq_9 shL_law_1181) uw_0_128)) hS (fun q _ h => hFc q h) hFc (fun r2 u t H1 locs ht hvm w2 hB1 hz1 hk1 hS => ?_)
  obtain ⟨c2, I2, F2⟩ := u
  obtain ⟨hP1, hD1⟩ := hB1
  rw [ht] at hP1
  obtain ⟨hP, hD⟩ := exjoinL hP hD hk1 hFc hP1 hD1
  generalize H1 = H at hP hS ⊢
  have hd2 := w2.1.1
  have hf2 := w2.1.2.2
  have hI := IX.fr hI w2.1 w2.2.1 (by decide) (by decide)
  have hR := RR.fx hR hd2 hf2 (by decide) (by decide)
  refine lv_pop hx hb (oc_87 1193 (aq_12 shL_law_1181)) rfl ?_
  refine lv_aload_n hx hb (oc_44 1194 (aq_13 shL_law_1181)) rfl (lvA2 hl) ?_
  refine lv_aload_n hx hb (oc_42 1195 (aq_14 shL_law_1181)) rfl (lvA0 hl) ?_
  refine lv_iload_n hx hb (oc_29 1196 (aq_15 shL_law_1181)) rfl (lvA3 hl) ?_
  refine lv_iconst (v := 1) hx hb (oc_4 1197 (aq_16 shL_law_1181)) kic_1 ?_
  refine lv_iadd hx hb (oc_96 1198 (aq_17 shL_law_1181)) ?_
  refine lv_topi (fun y_4 ey_4 => ?_)
  obtain rfl : y_4 = nI (i + 1) := ey_4.trans (nI_add i 1)
  refine va_sld hx hb hX hbl hbA hS (vp_in_nI (by omega) (by omega)) (oc_46 1199 (aq_18 shL_law_1181)) ?_
  refine lv_topi (fun y_5 ey_5 => ?_)
  obtain rfl : y_5 = xs (nI (i + 1)).toNatClampNeg := ey_5
  have hFc := free_all (exDr hD) hS hA
  refine va_calli (runV_a (As := [.int (xs (nI (i + 1)).toNatClampNeg)]) (rest := []) S (q_blocked l D cI cB cZ g2 c3 I3 F3 (xs (nI (i + 1)).toNatClampNeg) H.size hM.1) kV_RL_131 hK (exPr hP) (exDr hD) 0 rfl rfl rfl ⟨Nat.le_of_ble_eq_true rfl, Nat.le_of_ble_eq_true rfl⟩ ⟨(by show K + 0 ≤ 600000; omega), (by show N + 0 ≤ 7302250; omega)⟩ rfl hl.1 rfl (Nat.le_of_ble_eq_true rfl) (oc_182 1200 (aq_19 shL_law_1181) uw_0_131)) hS (fun q _ h => hFc q h) hFc (fun r5 u t H1 locs ht hvm w5 hB1 hz1 hk1 hS => ?_)
  obtain ⟨c5, I5, F5⟩ := u
  obtain ⟨hP1, hD1⟩ := hB1
  rw [ht] at hP1
  obtain ⟨hP, hD⟩ := exjoin hP hD hk1 hFc hP1 hD1
  generalize H1 = H at hP hS ⊢
  obtain ⟨hM, hd5, hf5⟩ := imm_blocked hM w5
  have hR := RR.fm hR hd5 hf5 (by decide) (by decide)
  refine lv_pop hx hb (oc_87 1203 (aq_22 shL_law_1181)) rfl ?_
  refine lv_goto (tgt := 2269) hx hb (oc_167 1204 (aq_23 shL_law_1181) sgw_4_41) rfl ?_
  refine W.widen (k := K + 8) (n := N + 240) (by omega) (by omega) ?_
  exact kk _ _ _ _ _ _ _ _ _ hI hM hR hP hD hS ls hl
set_option maxRecDepth 100000 in
set_option maxHeartbeats 4000000 in
theorem lawc_27 {p : Program} {l : Launch} {e : Env} {s : State} {m : MethodId} {below : List Frame} {meth : Method} {c : Code} {b L : Nat} {xs : Nat → Int32} (C0 : lw_At p s m meth c b L xs) (hLN : L ≤ 3584) {A : Nat → Prop} (hA : ∀ q : Nat, s.heap.size ≤ q → A q) (hbA : ¬ A b) {D : va_G} {cI cB cZ : ClassId} {zz qq vv : Nat} {bt : Nat → Int32} {g g2 : Nat → Nat} (hK : KK D cI cB cZ s) (hXS : XS D zz qq vv bt A s s.heap) {ad : Nat → Nat → Nat} {cn : Nat → Nat} {In : Nat → Int32} {Fn : Nat → Nat → Int32} {c3 : Nat → Nat} {I3 : Nat → Int32} {F3 : Nat → Nat → Int32} (hI : IX ad cn Fn) (hM : IMM c3 F3) (hR : RR cn Fn c3 F3) {H : Heap} {locs : List Loc} (hP : va_P D vwCl (wX cI (D.1 99) zz g ad cn In Fn ++ wM cI cB cZ g2 c3 I3 F3) H) (hD : va_D A (wX cI (D.1 99) zz g ad cn In Fn ++ wM cI cB cZ g2 c3 I3 F3)) (hS : va_S A s.heap H locs) {K N i : Nat} (hi : i + 7 ≤ L) (hKN : K + 8 ≤ 600000 ∧ N + 240 ≤ 7302250) {ls : Array Slot} (hl : lv_has ls 4 [(0, .ref b), (1, .ref (g 0)), (2, .ref (g2 100)), (3, .int (nI i))]) (kk : ∀ (ad : Nat → Nat → Nat) (cn : Nat → Nat) (In : Nat → Int32) (Fn : Nat → Nat → Int32) (c3 : Nat → Nat) (I3 : Nat → Int32) (F3 : Nat → Nat → Int32) (H : Heap) (locs : List Loc), IX ad cn Fn → IMM c3 F3 → RR cn Fn c3 F3 → va_P D vwCl (wX cI (D.1 99) zz g ad cn In Fn ++ wM cI cB cZ g2 c3 I3 F3) H → va_D A (wX cI (D.1 99) zz g ad cn In Fn ++ wM cI cB cZ g2 c3 I3 F3) → va_S A s.heap H locs → ∀ ls : Array Slot, lv_has ls 4 [(0, .ref b), (1, .ref (g 0)), (2, .ref (g2 100)), (3, .int (nI i))] → W p l e room_1 s m #[Value.ref b] below meth c H locs (K + 8) (N + 240) (lw_Z below #[Value.ref b] s) (F0 m 2269 ls [])) : W p l e room_1 s m #[Value.ref b] below meth c H locs K N (lw_Z below #[Value.ref b] s) (F0 m 1207 ls []) := by
  obtain ⟨hx, hb, hr, hml, hown, hts, hX, hbl, hlocks, hgv⟩ := id C0
  have S : SF p m c code 4 s #[Value.ref b] RL := ⟨hx, hb, hml, hown, fun w h => hts w (wT_lw h)⟩
  refine lv_aload_n hx hb (oc_43 1207 shL_law_1207) rfl (lvA1 hl) ?_
  refine lv_aload_n hx hb (oc_42 1208 (aq_1 shL_law_1207)) rfl (lvA0 hl) ?_
  refine lv_iload_n hx hb (oc_29 1209 (aq_2 shL_law_1207)) rfl (lvA3 hl) ?_
  refine lv_iconst (v := 1) hx hb (oc_4 1210 (aq_3 shL_law_1207)) kic_1 ?_
  refine lv_iadd hx hb (oc_96 1211 (aq_4 shL_law_1207)) ?_
  refine lv_topi (fun y_1 ey_1 => ?_)
  obtain rfl : y_1 = nI (i + 1) := ey_1.trans (nI_add i 1)
  refine va_sld hx hb hX hbl hbA hS (vp_in_nI (by omega) (by omega)) (oc_46 1212 (aq_5 shL_law_1207)) ?_
  refine lv_topi (fun y_2 ey_2 => ?_)
  obtain rfl : y_2 = xs (nI (i + 1)).toNatClampNeg := ey_2
  refine lv_aload_n hx hb (oc_42 1213 (aq_6 shL_law_1207)) rfl (lvA0 hl) ?_
  refine lv_iload_n hx hb (oc_29 1214 (aq_7 shL_law_1207)) rfl (lvA3 hl) ?_
  refine lv_iconst (v := 2) hx hb (oc_5 1215 (aq_8 shL_law_1207)) kic_2 ?_
  refine lv_iadd hx hb (oc_96 1216 (aq_9 shL_law_1207)) ?_
  refine lv_topi (fun y_3 ey_3 => ?_)
  obtain rfl : y_3 = nI (i + 2) := ey_3.trans (nI_add i 2)
  refine va_sld hx hb hX hbl hbA hS (vp_in_nI (by omega) (by omega)) (oc_46 1217 (aq_10 shL_law_1207)) ?_
  refine lv_topi (fun y_4 ey_4 => ?_)
  obtain rfl : y_4 = xs (nI (i + 2)).toNatClampNeg := ey_4
  refine vp_callSi (runV_rxa (As := [.int (xs (nI (i + 1)).toNatClampNeg), .int (xs (nI (i + 2)).toNatClampNeg)]) (rest := []) S (q_Xbeside l D cI cB cZ zz qq vv bt g ad cn In Fn (xs (nI (i + 1)).toNatClampNeg) (xs (nI (i + 2)).toNatClampNeg) hI.1) kV_RL_132 hK hXS hS (exP hP) 0 xo_0 rfl rfl ⟨Nat.le_of_ble_eq_true rfl, Nat.le_of_ble_eq_true rfl⟩ ⟨(by show K + 0 ≤ 600000; omega), (by show N + 0 ≤ 7302250; omega)⟩ rfl hl.1 rfl (Nat.le_of_ble_eq_true rfl) (oc_182 1218 (aq_11 shL_law_1207) uw_0_132)) (fun r4 w4 => ?_)
  refine lv_pop hx hb (oc_87 1221 (aq_14 shL_law_1207)) rfl ?_
  refine lv_aload_n hx hb (oc_44 1222 (aq_15 shL_law_1207)) rfl (lvA2 hl) ?_
  refine lv_aload_n hx hb (oc_42 1223 (aq_16 shL_law_1207)) rfl (lvA0 hl) ?_
  refine lv_iload_n hx hb (oc_29 1224 (aq_17 shL_law_1207)) rfl (lvA3 hl) ?_
  refine lv_iconst (v := 1) hx hb (oc_4 1225 (aq_18 shL_law_1207)) kic_1 ?_
  refine lv_iadd hx hb (oc_96 1226 (aq_19 shL_law_1207)) ?_
  refine lv_topi (fun y_6 ey_6 => ?_)
  obtain rfl : y_6 = nI (i + 1) := ey_6.trans (nI_add i 1)
  refine va_sld hx hb hX hbl hbA hS (vp_in_nI (by omega) (by omega)) (oc_46 1227 (aq_20 shL_law_1207)) ?_
  refine lv_topi (fun y_7 ey_7 => ?_)
  obtain rfl : y_7 = xs (nI (i + 1)).toNatClampNeg := ey_7
  refine lv_aload_n hx hb (oc_42 1228 (aq_21 shL_law_1207)) rfl (lvA0 hl) ?_
  refine lv_iload_n hx hb (oc_29 1229 (aq_22 shL_law_1207)) rfl (lvA3 hl) ?_
  refine lv_iconst (v := 2) hx hb (oc_5 1230 (aq_23 shL_law_1207)) kic_2 ?_
  refine lv_iadd hx hb (oc_96 1231 shL_law_1231) ?_
  refine lv_topi (fun y_8 ey_8 => ?_)
  obtain rfl : y_8 = nI (i + 2) := ey_8.trans (nI_add i 2)
  refine va_sld hx hb hX hbl hbA hS (vp_in_nI (by omega) (by omega)) (oc_46 1232 (aq_1 shL_law_1231)) ?_
  refine lv_topi (fun y_9 ey_9 => ?_)
  obtain rfl : y_9 = xs (nI (i + 2)).toNatClampNeg := ey_9
  refine vp_callSi (runV_ra (As := [.int (xs (nI (i + 1)).toNatClampNeg), .int (xs (nI (i + 2)).toNatClampNeg)]) (rest := []) S (q_beside l D cI cB cZ g2 c3 I3 F3 (xs (nI (i + 1)).toNatClampNeg) (xs (nI (i + 2)).toNatClampNeg) hM.1) kV_RL_135 hK (exPr hP) 0 rfl rfl rfl ⟨Nat.le_of_ble_eq_true rfl, Nat.le_of_ble_eq_true rfl⟩ ⟨(by show K + 0 ≤ 600000; omega), (by show N + 0 ≤ 7302250; omega)⟩ rfl hl.1 rfl (Nat.le_of_ble_eq_true rfl) (oc_182 1233 (aq_2 shL_law_1231) uw_0_135)) (fun r9 w9 => ?_)
  refine lv_pop hx hb (oc_87 1236 (aq_5 shL_law_1231)) rfl ?_
  refine lv_goto (tgt := 2269) hx hb (oc_167 1237 (aq_6 shL_law_1231) sgw_4_8) rfl ?_
  refine W.widen (k := K + 8) (n := N + 240) (by omega) (by omega) ?_
  exact kk _ _ _ _ _ _ _ _ _ hI hM hR hP hD hS ls hl
set_option maxRecDepth 100000 in
set_option maxHeartbeats 4000000 in
theorem lawc_28 {p : Program} {l : Launch} {e : Env} {s : State} {m : MethodId} {below : List Frame} {meth : Method} {c : Code} {b L : Nat} {xs : Nat → Int32} (C0 : lw_At p s m meth c b L xs) (hLN : L ≤ 3584) {A : Nat → Prop} (hA : ∀ q : Nat, s.heap.size ≤ q → A q) (hbA : ¬ A b) {D : va_G} {cI cB cZ : ClassId} {zz qq vv : Nat} {bt : Nat → Int32} {g g2 : Nat → Nat} (hK : KK D cI cB cZ s) (hXS : XS D zz qq vv bt A s s.heap) {ad : Nat → Nat → Nat} {cn : Nat → Nat} {In : Nat → Int32} {Fn : Nat → Nat → Int32} {c3 : Nat → Nat} {I3 : Nat → Int32} {F3 : Nat → Nat → Int32} (hI : IX ad cn Fn) (hM : IMM c3 F3) (hR : RR cn Fn c3 F3) {H : Heap} {locs : List Loc} (hP : va_P D vwCl (wX cI (D.1 99) zz g ad cn In Fn ++ wM cI cB cZ g2 c3 I3 F3) H) (hD : va_D A (wX cI (D.1 99) zz g ad cn In Fn ++ wM cI cB cZ g2 c3 I3 F3)) (hS : va_S A s.heap H locs) {K N i : Nat} (hi : i + 7 ≤ L) (hKN : K + 8 ≤ 600000 ∧ N + 240 ≤ 7302250) {ls : Array Slot} (hl : lv_has ls 4 [(0, .ref b), (1, .ref (g 0)), (2, .ref (g2 100)), (3, .int (nI i))]) (kk : ∀ (ad : Nat → Nat → Nat) (cn : Nat → Nat) (In : Nat → Int32) (Fn : Nat → Nat → Int32) (c3 : Nat → Nat) (I3 : Nat → Int32) (F3 : Nat → Nat → Int32) (H : Heap) (locs : List Loc), IX ad cn Fn → IMM c3 F3 → RR cn Fn c3 F3 → va_P D vwCl (wX cI (D.1 99) zz g ad cn In Fn ++ wM cI cB cZ g2 c3 I3 F3) H → va_D A (wX cI (D.1 99) zz g ad cn In Fn ++ wM cI cB cZ g2 c3 I3 F3) → va_S A s.heap H locs → ∀ ls : Array Slot, lv_has ls 4 [(0, .ref b), (1, .ref (g 0)), (2, .ref (g2 100)), (3, .int (nI i))] → W p l e room_1 s m #[Value.ref b] below meth c H locs (K + 8) (N + 240) (lw_Z below #[Value.ref b] s) (F0 m 2269 ls [])) : W p l e room_1 s m #[Value.ref b] below meth c H locs K N (lw_Z below #[Value.ref b] s) (F0 m 1240 ls []) := by
  obtain ⟨hx, hb, hr, hml, hown, hts, hX, hbl, hlocks, hgv⟩ := id C0
  have S : SF p m c code 4 s #[Value.ref b] RL := ⟨hx, hb, hml, hown, fun w h => hts w (wT_lw h)⟩
  refine lv_aload_n hx hb (oc_43 1240 (aq_9 shL_law_1231)) rfl (lvA1 hl) ?_
  refine lv_aload_n hx hb (oc_42 1241 (aq_10 shL_law_1231)) rfl (lvA0 hl) ?_
  refine lv_iload_n hx hb (oc_29 1242 (aq_11 shL_law_1231)) rfl (lvA3 hl) ?_
  refine lv_iconst (v := 1) hx hb (oc_4 1243 (aq_12 shL_law_1231)) kic_1 ?_
  refine lv_iadd hx hb (oc_96 1244 (aq_13 shL_law_1231)) ?_
  refine lv_topi (fun y_1 ey_1 => ?_)
  obtain rfl : y_1 = nI (i + 1) := ey_1.trans (nI_add i 1)
  refine va_sld hx hb hX hbl hbA hS (vp_in_nI (by omega) (by omega)) (oc_46 1245 (aq_14 shL_law_1231)) ?_
  refine lv_topi (fun y_2 ey_2 => ?_)
  obtain rfl : y_2 = xs (nI (i + 1)).toNatClampNeg := ey_2
  refine lv_aload_n hx hb (oc_42 1246 (aq_15 shL_law_1231)) rfl (lvA0 hl) ?_
  refine lv_iload_n hx hb (oc_29 1247 (aq_16 shL_law_1231)) rfl (lvA3 hl) ?_
  refine lv_iconst (v := 2) hx hb (oc_5 1248 (aq_17 shL_law_1231)) kic_2 ?_
  refine lv_iadd hx hb (oc_96 1249 (aq_18 shL_law_1231)) ?_
  refine lv_topi (fun y_3 ey_3 => ?_)
  obtain rfl : y_3 = nI (i + 2) := ey_3.trans (nI_add i 2)
  refine va_sld hx hb hX hbl hbA hS (vp_in_nI (by omega) (by omega)) (oc_46 1250 (aq_19 shL_law_1231)) ?_
  refine lv_topi (fun y_4 ey_4 => ?_)
  obtain rfl : y_4 = xs (nI (i + 2)).toNatClampNeg := ey_4
  have hFc := free_all (exD hD) hS hA
  refine va_calli (runV_xa (As := [.int (xs (nI (i + 1)).toNatClampNeg), .int (xs (nI (i + 2)).toNatClampNeg)]) (rest := []) S (q_Xdegrees l D cI cB cZ zz qq vv bt g ad cn In Fn (xs (nI (i + 1)).toNatClampNeg) (xs (nI (i + 2)).toNatClampNeg) H.size hI.1) kV_RL_136 hK hXS hS hFc (exP hP) (exD hD) 0 xo_0 rfl rfl ⟨Nat.le_of_ble_eq_true rfl, Nat.le_of_ble_eq_true rfl⟩ ⟨(by show K + 0 ≤ 600000; omega), (by show N + 0 ≤ 7302250; omega)⟩ rfl hl.1 rfl (Nat.le_of_ble_eq_true rfl) (oc_182 1251 (aq_20 shL_law_1231) uw_0_136)) hS (fun q _ h => hFc q h) hFc (fun r4 u t H1 locs ht hvm w4 hB1 hz1 hk1 hS => ?_)
  obtain ⟨c4, I4, F4⟩ := u
  obtain ⟨hP1, hD1⟩ := hB1
  rw [ht] at hP1
  obtain ⟨hP, hD⟩ := exjoinL hP hD hk1 hFc hP1 hD1
  generalize H1 = H at hP hS ⊢
  have hd4 := w4.1.1
  have hf4 := w4.1.2.2
  have hI := IX.fr hI w4.1 w4.2.1 (by decide) (by decide)
  have hR := RR.fx hR hd4 hf4 (by decide) (by decide)
  refine lv_pop hx hb (oc_87 1254 (aq_23 shL_law_1231)) rfl ?_
  refine lv_aload_n hx hb (oc_44 1255 shL_law_1255) rfl (lvA2 hl) ?_
  refine lv_aload_n hx hb (oc_42 1256 (aq_1 shL_law_1255)) rfl (lvA0 hl) ?_
  refine lv_iload_n hx hb (oc_29 1257 (aq_2 shL_law_1255)) rfl (lvA3 hl) ?_
  refine lv_iconst (v := 1) hx hb (oc_4 1258 (aq_3 shL_law_1255)) kic_1 ?_
  refine lv_iadd hx hb (oc_96 1259 (aq_4 shL_law_1255)) ?_
  refine lv_topi (fun y_6 ey_6 => ?_)
  obtain rfl : y_6 = nI (i + 1) := ey_6.trans (nI_add i 1)
  refine va_sld hx hb hX hbl hbA hS (vp_in_nI (by omega) (by omega)) (oc_46 1260 (aq_5 shL_law_1255)) ?_
  refine lv_topi (fun y_7 ey_7 => ?_)
  obtain rfl : y_7 = xs (nI (i + 1)).toNatClampNeg := ey_7
  refine lv_aload_n hx hb (oc_42 1261 (aq_6 shL_law_1255)) rfl (lvA0 hl) ?_
  refine lv_iload_n hx hb (oc_29 1262 (aq_7 shL_law_1255)) rfl (lvA3 hl) ?_
  refine lv_iconst (v := 2) hx hb (oc_5 1263 (aq_8 shL_law_1255)) kic_2 ?_
  refine lv_iadd hx hb (oc_96 1264 (aq_9 shL_law_1255)) ?_
  refine lv_topi (fun y_8 ey_8 => ?_)
  obtain rfl : y_8 = nI (i + 2) := ey_8.trans (nI_add i 2)
  refine va_sld hx hb hX hbl hbA hS (vp_in_nI (by omega) (by omega)) (oc_46 1265 (aq_10 shL_law_1255)) ?_
  refine lv_topi (fun y_9 ey_9 => ?_)
  obtain rfl : y_9 = xs (nI (i + 2)).toNatClampNeg := ey_9
  have hFc := free_all (exDr hD) hS hA
  refine va_calli (runV_a (As := [.int (xs (nI (i + 1)).toNatClampNeg), .int (xs (nI (i + 2)).toNatClampNeg)]) (rest := []) S (q_degrees l D cI cB cZ g2 c3 I3 F3 (xs (nI (i + 1)).toNatClampNeg) (xs (nI (i + 2)).toNatClampNeg) H.size hM.1) kV_RL_139 hK (exPr hP) (exDr hD) 0 rfl rfl rfl ⟨Nat.le_of_ble_eq_true rfl, Nat.le_of_ble_eq_true rfl⟩ ⟨(by show K + 0 ≤ 600000; omega), (by show N + 0 ≤ 7302250; omega)⟩ rfl hl.1 rfl (Nat.le_of_ble_eq_true rfl) (oc_182 1266 (aq_11 shL_law_1255) uw_0_139)) hS (fun q _ h => hFc q h) hFc (fun r9 u t H1 locs ht hvm w9 hB1 hz1 hk1 hS => ?_)
  obtain ⟨c9, I9, F9⟩ := u
  obtain ⟨hP1, hD1⟩ := hB1
  rw [ht] at hP1
  obtain ⟨hP, hD⟩ := exjoin hP hD hk1 hFc hP1 hD1
  generalize H1 = H at hP hS ⊢
  obtain ⟨hM, hd9, hf9⟩ := imm_degrees hM w9
  have hR := RR.fm hR hd9 hf9 (by decide) (by decide)
  refine lv_pop hx hb (oc_87 1269 (aq_14 shL_law_1255)) rfl ?_
  refine lv_goto (tgt := 2269) hx hb (oc_167 1270 (aq_15 shL_law_1255) sgw_3_231) rfl ?_
  refine W.widen (k := K + 8) (n := N + 240) (by omega) (by omega) ?_
  exact kk _ _ _ _ _ _ _ _ _ hI hM hR hP hD hS ls hl
set_option maxRecDepth 100000 in
set_option maxHeartbeats 4000000 in
theorem lawc_29 {p : Program} {l : Launch} {e : Env} {s : State} {m : MethodId} {below : List Frame} {meth : Method} {c : Code} {b L : Nat} {xs : Nat → Int32} (C0 : lw_At p s m meth c b L xs) (hLN : L ≤ 3584) {A : Nat → Prop} (hA : ∀ q : Nat, s.heap.size ≤ q → A q) (hbA : ¬ A b) {D : va_G} {cI cB cZ : ClassId} {zz qq vv : Nat} {bt : Nat → Int32} {g g2 : Nat → Nat} (hK : KK D cI cB cZ s) (hXS : XS D zz qq vv bt A s s.heap) {ad : Nat → Nat → Nat} {cn : Nat → Nat} {In : Nat → Int32} {Fn : Nat → Nat → Int32} {c3 : Nat → Nat} {I3 : Nat → Int32} {F3 : Nat → Nat → Int32} (hI : IX ad cn Fn) (hM : IMM c3 F3) (hR : RR cn Fn c3 F3) {H : Heap} {locs : List Loc} (hP : va_P D vwCl (wX cI (D.1 99) zz g ad cn In Fn ++ wM cI cB cZ g2 c3 I3 F3) H) (hD : va_D A (wX cI (D.1 99) zz g ad cn In Fn ++ wM cI cB cZ g2 c3 I3 F3)) (hS : va_S A s.heap H locs) {K N i : Nat} (hi : i + 7 ≤ L) (hKN : K + 8 ≤ 600000 ∧ N + 240 ≤ 7302250) {ls : Array Slot} (hl : lv_has ls 4 [(0, .ref b), (1, .ref (g 0)), (2, .ref (g2 100)), (3, .int (nI i))]) (kk : ∀ (ad : Nat → Nat → Nat) (cn : Nat → Nat) (In : Nat → Int32) (Fn : Nat → Nat → Int32) (c3 : Nat → Nat) (I3 : Nat → Int32) (F3 : Nat → Nat → Int32) (H : Heap) (locs : List Loc), IX ad cn Fn → IMM c3 F3 → RR cn Fn c3 F3 → va_P D vwCl (wX cI (D.1 99) zz g ad cn In Fn ++ wM cI cB cZ g2 c3 I3 F3) H → va_D A (wX cI (D.1 99) zz g ad cn In Fn ++ wM cI cB cZ g2 c3 I3 F3) → va_S A s.heap H locs → ∀ ls : Array Slot, lv_has ls 4 [(0, .ref b), (1, .ref (g 0)), (2, .ref (g2 100)), (3, .int (nI i))] → W p l e room_1 s m #[Value.ref b] below meth c H locs (K + 8) (N + 240) (lw_Z below #[Value.ref b] s) (F0 m 2269 ls [])) : W p l e room_1 s m #[Value.ref b] below meth c H locs K N (lw_Z below #[Value.ref b] s) (F0 m 1273 ls []) := by
  obtain ⟨hx, hb, hr, hml, hown, hts, hX, hbl, hlocks, hgv⟩ := id C0
  have S : SF p m c code 4 s #[Value.ref b] RL := ⟨hx, hb, hml, hown, fun w h => hts w (wT_lw h)⟩
  refine lv_aload_n hx hb (oc_43 1273 (aq_18 shL_law_1255)) rfl (lvA1 hl) ?_
  refine lv_aload_n hx hb (oc_42 1274 (aq_19 shL_law_1255)) rfl (lvA0 hl) ?_
  refine lv_iload_n hx hb (oc_29 1275 (aq_20 shL_law_1255)) rfl (lvA3 hl) ?_
  refine lv_iconst (v := 1) hx hb (oc_4 1276 (aq_21 shL_law_1255)) kic_1 ?_
  refine lv_iadd hx hb (oc_96 1277 (aq_22 shL_law_1255)) ?_
  refine lv_topi (fun y_1 ey_1 => ?_)
  obtain rfl : y_1 = nI (i + 1) := ey_1.trans (nI_add i 1)
  refine va_sld hx hb hX hbl hbA hS (vp_in_nI (by omega) (by omega)) (oc_46 1278 (aq_23 shL_law_1255)) ?_
  refine lv_topi (fun y_2 ey_2 => ?_)
  obtain rfl : y_2 = xs (nI (i + 1)).toNatClampNeg := ey_2
  refine lv_aload_n hx hb (oc_42 1279 shL_law_1279) rfl (lvA0 hl) ?_
  refine lv_iload_n hx hb (oc_29 1280 (aq_1 shL_law_1279)) rfl (lvA3 hl) ?_
  refine lv_iconst (v := 2) hx hb (oc_5 1281 (aq_2 shL_law_1279)) kic_2 ?_
  refine lv_iadd hx hb (oc_96 1282 (aq_3 shL_law_1279)) ?_
  refine lv_topi (fun y_3 ey_3 => ?_)
  obtain rfl : y_3 = nI (i + 2) := ey_3.trans (nI_add i 2)
  refine va_sld hx hb hX hbl hbA hS (vp_in_nI (by omega) (by omega)) (oc_46 1283 (aq_4 shL_law_1279)) ?_
  refine lv_topi (fun y_4 ey_4 => ?_)
  obtain rfl : y_4 = xs (nI (i + 2)).toNatClampNeg := ey_4
  refine vp_callSi (runV_rxa (As := [.int (xs (nI (i + 1)).toNatClampNeg), .int (xs (nI (i + 2)).toNatClampNeg)]) (rest := []) S (q_Xlate l D cI cB cZ zz qq vv bt g ad cn In Fn (xs (nI (i + 1)).toNatClampNeg) (xs (nI (i + 2)).toNatClampNeg) hI.1) kV_RL_140 hK hXS hS (exP hP) 0 xo_0 rfl rfl ⟨Nat.le_of_ble_eq_true rfl, Nat.le_of_ble_eq_true rfl⟩ ⟨(by show K + 0 ≤ 600000; omega), (by show N + 0 ≤ 7302250; omega)⟩ rfl hl.1 rfl (Nat.le_of_ble_eq_true rfl) (oc_182 1284 (aq_5 shL_law_1279) uw_0_140)) (fun r4 w4 => ?_)
  refine lv_pop hx hb (oc_87 1287 (aq_8 shL_law_1279)) rfl ?_
  refine lv_aload_n hx hb (oc_44 1288 (aq_9 shL_law_1279)) rfl (lvA2 hl) ?_
  refine lv_aload_n hx hb (oc_42 1289 (aq_10 shL_law_1279)) rfl (lvA0 hl) ?_
  refine lv_iload_n hx hb (oc_29 1290 (aq_11 shL_law_1279)) rfl (lvA3 hl) ?_
  refine lv_iconst (v := 1) hx hb (oc_4 1291 (aq_12 shL_law_1279)) kic_1 ?_
  refine lv_iadd hx hb (oc_96 1292 (aq_13 shL_law_1279)) ?_
  refine lv_topi (fun y_6 ey_6 => ?_)
  obtain rfl : y_6 = nI (i + 1) := ey_6.trans (nI_add i 1)
  refine va_sld hx hb hX hbl hbA hS (vp_in_nI (by omega) (by omega)) (oc_46 1293 (aq_14 shL_law_1279)) ?_
  refine lv_topi (fun y_7 ey_7 => ?_)
  obtain rfl : y_7 = xs (nI (i + 1)).toNatClampNeg := ey_7
  refine lv_aload_n hx hb (oc_42 1294 (aq_15 shL_law_1279)) rfl (lvA0 hl) ?_
  refine lv_iload_n hx hb (oc_29 1295 (aq_16 shL_law_1279)) rfl (lvA3 hl) ?_
  refine lv_iconst (v := 2) hx hb (oc_5 1296 (aq_17 shL_law_1279)) kic_2 ?_
  refine lv_iadd hx hb (oc_96 1297 (aq_18 shL_law_1279)) ?_
  refine lv_topi (fun y_8 ey_8 => ?_)
  obtain rfl : y_8 = nI (i + 2) := ey_8.trans (nI_add i 2)
  refine va_sld hx hb hX hbl hbA hS (vp_in_nI (by omega) (by omega)) (oc_46 1298 (aq_19 shL_law_1279)) ?_
  refine lv_topi (fun y_9 ey_9 => ?_)
  obtain rfl : y_9 = xs (nI (i + 2)).toNatClampNeg := ey_9
  refine vp_callSi (runV_ra (As := [.int (xs (nI (i + 1)).toNatClampNeg), .int (xs (nI (i + 2)).toNatClampNeg)]) (rest := []) S (q_late l D cI cB cZ g2 c3 I3 F3 (xs (nI (i + 1)).toNatClampNeg) (xs (nI (i + 2)).toNatClampNeg) hM.1) kV_RL_143 hK (exPr hP) 0 rfl rfl rfl ⟨Nat.le_of_ble_eq_true rfl, Nat.le_of_ble_eq_true rfl⟩ ⟨(by show K + 0 ≤ 600000; omega), (by show N + 0 ≤ 7302250; omega)⟩ rfl hl.1 rfl (Nat.le_of_ble_eq_true rfl) (oc_182 1299 (aq_20 shL_law_1279) uw_0_143)) (fun r9 w9 => ?_)
  refine lv_pop hx hb (oc_87 1302 (aq_23 shL_law_1279)) rfl ?_
  refine lv_goto (tgt := 2269) hx hb (oc_167 1303 shL_law_1303 sgw_3_198) rfl ?_
  refine W.widen (k := K + 8) (n := N + 240) (by omega) (by omega) ?_
  exact kk _ _ _ _ _ _ _ _ _ hI hM hR hP hD hS ls hl
