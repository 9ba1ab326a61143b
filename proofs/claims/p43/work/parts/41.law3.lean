set_option maxRecDepth 100000 in
theorem kV_RL_144 : CalV RL 144 yX11_first cX11_first 4 (some .int) 2 := ⟨⟨wk6_0 11 rfl rfl, wk6_1 0 rfl rfl, wk6_1 1 rfl rfl, wk1_0 1 rfl rfl, wk6_1 2 rfl rfl⟩, ⟨nmh_0.1, nmh_0.2, pd_17⟩⟩
set_option maxRecDepth 100000 in
theorem kV_RL_147 : CalV RL 147 yX12_first cX12_first 4 (some .int) 2 := ⟨⟨wk9_10 2 rfl rfl, wk9_10 3 rfl rfl, wk9_10 4 rfl rfl, wk1_1 1 rfl rfl, wk9_10 5 rfl rfl⟩, ⟨nmh_13.1, nmh_13.2, pd_17⟩⟩
set_option maxRecDepth 100000 in
theorem kV_RL_148 : CalV RL 148 yX11_street cX11_street 4 (some .boolean) 2 := ⟨⟨wk4_5 11 rfl rfl, wk4_6 0 rfl rfl, wk4_6 1 rfl rfl, wk1_0 1 rfl rfl, wk4_6 2 rfl rfl⟩, ⟨nmh_0.1, nmh_0.2, pd_21⟩⟩
set_option maxRecDepth 100000 in
theorem kV_RL_151 : CalV RL 151 yX12_street cX12_street 3 (some .boolean) 2 := ⟨⟨wk8_7 5 rfl rfl, wk8_7 6 rfl rfl, wk8_7 7 rfl rfl, wk1_1 1 rfl rfl, wk8_7 8 rfl rfl⟩, ⟨nmh_13.1, nmh_13.2, pd_21⟩⟩
set_option maxRecDepth 100000 in
theorem kV_RL_152 : CalV RL 152 yX11_streets cX11_streets 10 (some .long) 2 := ⟨⟨wk4_6 3 rfl rfl, wk4_6 4 rfl rfl, wk4_6 5 rfl rfl, wk1_0 1 rfl rfl, wk4_6 6 rfl rfl⟩, ⟨nmh_0.1, nmh_0.2, pd_18⟩⟩
set_option maxRecDepth 100000 in
theorem kV_RL_155 : CalV RL 155 yX12_streets cX12_streets 6 (some .long) 2 := ⟨⟨wk8_7 9 rfl rfl, wk8_7 10 rfl rfl, wk8_7 11 rfl rfl, wk1_1 1 rfl rfl, wk8_8 0 rfl rfl⟩, ⟨nmh_13.1, nmh_13.2, pd_18⟩⟩
set_option maxRecDepth 100000 in
theorem kV_RL_156 : CalV RL 156 yX11_cheat cX11_cheat 10 (some .long) 3 := ⟨⟨wk4_6 7 rfl rfl, wk4_6 8 rfl rfl, wk4_6 9 rfl rfl, wk1_0 1 rfl rfl, wk4_6 10 rfl rfl⟩, ⟨nmh_0.1, nmh_0.2, pd_23⟩⟩
set_option maxRecDepth 100000 in
theorem kV_RL_160 : CalV RL 160 yX12_cheat cX12_cheat 9 (some .long) 3 := ⟨⟨wk8_8 1 rfl rfl, wk8_8 2 rfl rfl, wk8_8 3 rfl rfl, wk1_1 1 rfl rfl, wk8_8 4 rfl rfl⟩, ⟨nmh_13.1, nmh_13.2, pd_23⟩⟩
set_option maxRecDepth 100000 in
theorem kV_RL_161 : CalV RL 161 yX11_asIf cX11_asIf 4 (some .int) 2 := ⟨⟨wk4_4 5 rfl rfl, wk4_4 6 rfl rfl, wk4_4 7 rfl rfl, wk1_0 1 rfl rfl, wk4_4 8 rfl rfl⟩, ⟨nmh_0.1, nmh_0.2, pd_17⟩⟩
set_option maxRecDepth 100000 in
theorem kV_RL_164 : CalV RL 164 yX12_asIf cX12_asIf 5 (some .int) 2 := ⟨⟨wk8_5 5 rfl rfl, wk8_5 6 rfl rfl, wk8_5 7 rfl rfl, wk1_1 1 rfl rfl, wk8_5 8 rfl rfl⟩, ⟨nmh_13.1, nmh_13.2, pd_17⟩⟩
set_option maxRecDepth 100000 in
theorem kV_RL_165 : CalV RL 165 yX11_lorry cX11_lorry 2 (some .int) 1 := ⟨⟨wk4_13 9 rfl rfl, wk4_13 10 rfl rfl, wk4_13 11 rfl rfl, wk1_0 1 rfl rfl, wk4_14 0 rfl rfl⟩, ⟨nmh_0.1, nmh_0.2, pd_8⟩⟩
set_option maxRecDepth 100000 in
theorem kV_RL_168 : CalV RL 168 yX12_lorry cX12_lorry 2 (some .int) 1 := ⟨⟨wk8_11 9 rfl rfl, wk8_11 10 rfl rfl, wk8_11 11 rfl rfl, wk1_1 1 rfl rfl, wk8_12 0 rfl rfl⟩, ⟨nmh_13.1, nmh_13.2, pd_8⟩⟩
set_option maxRecDepth 100000 in
theorem kV_RL_169 : CalV RL 169 yX11_off cX11_off 4 (some .boolean) 3 := ⟨⟨wk4_14 1 rfl rfl, wk4_14 2 rfl rfl, wk4_14 3 rfl rfl, wk1_0 1 rfl rfl, wk4_14 4 rfl rfl⟩, ⟨nmh_0.1, nmh_0.2, pd_38⟩⟩
set_option maxRecDepth 100000 in
theorem kV_RL_173 : CalV RL 173 yX12_off cX12_off 4 (some .boolean) 3 := ⟨⟨wk8_12 1 rfl rfl, wk8_12 2 rfl rfl, wk8_12 3 rfl rfl, wk1_1 1 rfl rfl, wk8_12 4 rfl rfl⟩, ⟨nmh_13.1, nmh_13.2, pd_38⟩⟩
set_option maxRecDepth 100000 in
theorem kV_RL_174 : CalV RL 174 yX11_shared cX11_shared 6 (some .int) 3 := ⟨⟨wk4_14 9 rfl rfl, wk4_14 10 rfl rfl, wk4_14 11 rfl rfl, wk1_0 1 rfl rfl, wk4_15 0 rfl rfl⟩, ⟨nmh_0.1, nmh_0.2, pd_22⟩⟩
set_option maxRecDepth 100000 in
theorem kV_RL_177 : CalV RL 177 yX12_shared cX12_shared 10 (some .int) 3 := ⟨⟨wk8_12 5 rfl rfl, wk8_12 6 rfl rfl, wk8_12 7 rfl rfl, wk1_1 1 rfl rfl, wk8_12 8 rfl rfl⟩, ⟨nmh_13.1, nmh_13.2, pd_22⟩⟩
set_option maxRecDepth 100000 in
theorem kV_RL_178 : CalV RL 178 yX11_nights cX11_nights 8 (some .int) 4 := ⟨⟨wk4_13 1 rfl rfl, wk4_13 2 rfl rfl, wk4_13 3 rfl rfl, wk1_0 1 rfl rfl, wk4_13 4 rfl rfl⟩, ⟨nmh_0.1, nmh_0.2, pd_27⟩⟩
set_option maxRecDepth 100000 in
theorem kV_RL_181 : CalV RL 181 yX12_nights cX12_nights 7 (some .int) 4 := ⟨⟨wk8_13 5 rfl rfl, wk8_13 6 rfl rfl, wk8_13 7 rfl rfl, wk1_1 1 rfl rfl, wk8_13 8 rfl rfl⟩, ⟨nmh_13.1, nmh_13.2, pd_27⟩⟩
set_option maxRecDepth 100000 in
theorem kV_RL_182 : CalV RL 182 yX11_feast cX11_feast 3 (some .boolean) 2 := ⟨⟨wk6_1 3 rfl rfl, wk6_1 4 rfl rfl, wk6_1 5 rfl rfl, wk1_0 1 rfl rfl, wk6_1 6 rfl rfl⟩, ⟨nmh_0.1, nmh_0.2, pd_21⟩⟩
set_option maxRecDepth 100000 in
theorem kV_RL_185 : CalV RL 185 yX12_feast cX12_feast 3 (some .boolean) 2 := ⟨⟨wk8_8 5 rfl rfl, wk8_8 6 rfl rfl, wk8_8 7 rfl rfl, wk1_1 1 rfl rfl, wk8_8 8 rfl rfl⟩, ⟨nmh_13.1, nmh_13.2, pd_21⟩⟩
set_option maxRecDepth 100000 in
theorem kV_RL_186 : CalV RL 186 yX11_feasted cX11_feasted 6 (some .int) 2 := ⟨⟨wk6_1 7 rfl rfl, wk6_1 8 rfl rfl, wk6_1 9 rfl rfl, wk1_0 1 rfl rfl, wk6_1 10 rfl rfl⟩, ⟨nmh_0.1, nmh_0.2, pd_17⟩⟩
set_option maxRecDepth 100000 in
theorem kV_RL_189 : CalV RL 189 yX12_feasted cX12_feasted 5 (some .int) 2 := ⟨⟨wk8_8 9 rfl rfl, wk8_8 10 rfl rfl, wk8_8 11 rfl rfl, wk1_1 1 rfl rfl, wk8_9 0 rfl rfl⟩, ⟨nmh_13.1, nmh_13.2, pd_17⟩⟩
set_option maxRecDepth 100000 in
theorem kV_RL_190 : CalV RL 190 yX11_drum cX11_drum 1 (some .int) 0 := ⟨⟨wk6_2 3 rfl rfl, wk6_2 4 rfl rfl, wk6_2 5 rfl rfl, wk1_0 1 rfl rfl, wk6_2 6 rfl rfl⟩, ⟨nmh_0.1, nmh_0.2, pd_1⟩⟩
set_option maxRecDepth 100000 in
theorem kV_RL_193 : CalV RL 193 yX12_drum cX12_drum 1 (some .int) 0 := ⟨⟨wk8_14 1 rfl rfl, wk8_14 2 rfl rfl, wk8_14 3 rfl rfl, wk1_1 1 rfl rfl, wk8_14 4 rfl rfl⟩, ⟨nmh_13.1, nmh_13.2, pd_1⟩⟩
set_option maxRecDepth 100000 in
theorem kV_RL_194 : CalV RL 194 yX11_moves cX11_moves 6 (some .boolean) 3 := ⟨⟨wk6_2 7 rfl rfl, wk6_2 8 rfl rfl, wk6_2 9 rfl rfl, wk1_0 1 rfl rfl, wk6_2 10 rfl rfl⟩, ⟨nmh_0.1, nmh_0.2, pd_26⟩⟩
set_option maxRecDepth 100000 in
theorem kV_RL_197 : CalV RL 197 yX12_moves cX12_moves 5 (some .boolean) 3 := ⟨⟨wk8_14 5 rfl rfl, wk8_14 6 rfl rfl, wk8_14 7 rfl rfl, wk1_1 1 rfl rfl, wk8_14 8 rfl rfl⟩, ⟨nmh_13.1, nmh_13.2, pd_26⟩⟩
set_option maxRecDepth 100000 in
theorem kV_RL_198 : CalV RL 198 yX11_stood cX11_stood 4 (some .int) 2 := ⟨⟨wk6_4 10 rfl rfl, wk6_4 11 rfl rfl, wk6_5 0 rfl rfl, wk1_0 1 rfl rfl, wk6_5 1 rfl rfl⟩, ⟨nmh_0.1, nmh_0.2, pd_17⟩⟩
set_option maxRecDepth 100000 in
theorem kV_RL_201 : CalV RL 201 yX12_stood cX12_stood 4 (some .int) 2 := ⟨⟨wk8_15 5 rfl rfl, wk8_15 6 rfl rfl, wk8_15 7 rfl rfl, wk1_1 1 rfl rfl, wk8_15 8 rfl rfl⟩, ⟨nmh_13.1, nmh_13.2, pd_17⟩⟩
set_option maxRecDepth 100000 in
theorem kV_RL_202 : CalV RL 202 yX11_stale cX11_stale 6 (some .int) 1 := ⟨⟨wk6_5 2 rfl rfl, wk6_5 3 rfl rfl, wk6_5 4 rfl rfl, wk1_0 1 rfl rfl, wk6_5 5 rfl rfl⟩, ⟨nmh_0.1, nmh_0.2, pd_8⟩⟩
set_option maxRecDepth 100000 in
theorem kV_RL_205 : CalV RL 205 yX12_stale cX12_stale 5 (some .int) 1 := ⟨⟨wk8_15 9 rfl rfl, wk8_15 10 rfl rfl, wk8_15 11 rfl rfl, wk1_1 1 rfl rfl, wk8_16 0 rfl rfl⟩, ⟨nmh_13.1, nmh_13.2, pd_8⟩⟩
set_option maxRecDepth 100000 in
set_option maxHeartbeats 4000000 in
theorem lawc_30 {p : Program} {l : Launch} {e : Env} {s : State} {m : MethodId} {below : List Frame} {meth : Method} {c : Code} {b L : Nat} {xs : Nat → Int32} (C0 : lw_At p s m meth c b L xs) (hLN : L ≤ 3584) {A : Nat → Prop} (hA : ∀ q : Nat, s.heap.size ≤ q → A q) (hbA : ¬ A b) {D : va_G} {cI cB cZ : ClassId} {zz qq vv : Nat} {bt : Nat → Int32} {g g2 : Nat → Nat} (hK : KK D cI cB cZ s) (hXS : XS D zz qq vv bt A s s.heap) {ad : Nat → Nat → Nat} {cn : Nat → Nat} {In : Nat → Int32} {Fn : Nat → Nat → Int32} {c3 : Nat → Nat} {I3 : Nat → Int32} {F3 : Nat → Nat → Int32} (hI : IX ad cn Fn) (hM : IMM c3 F3) (hR : RR cn Fn c3 F3) {H : Heap} {locs : List Loc} (hP : va_P D vwCl (wX cI (D.1 99) zz g ad cn In Fn ++ wM cI cB cZ g2 c3 I3 F3) H) (hD : va_D A (wX cI (D.1 99) zz g ad cn In Fn ++ wM cI cB cZ g2 c3 I3 F3)) (hS : va_S A s.heap H locs) {K N i : Nat} (hi : i + 7 ≤ L) (hKN : K + 8 ≤ 600000 ∧ N + 240 ≤ 7302250) {ls : Array Slot} (hl : lv_has ls 4 [(0, .ref b), (1, .ref (g 0)), (2, .ref (g2 100)), (3, .int (nI i))]) (kk : ∀ (ad : Nat → Nat → Nat) (cn : Nat → Nat) (In : Nat → Int32) (Fn : Nat → Nat → Int32) (c3 : Nat → Nat) (I3 : Nat → Int32) (F3 : Nat → Nat → Int32) (H : Heap) (locs : List Loc), IX ad cn Fn → IMM c3 F3 → RR cn Fn c3 F3 → va_P D vwCl (wX cI (D.1 99) zz g ad cn In Fn ++ wM cI cB cZ g2 c3 I3 F3) H → va_D A (wX cI (D.1 99) zz g ad cn In Fn ++ wM cI cB cZ g2 c3 I3 F3) → va_S A s.heap H locs → ∀ ls : Array Slot, lv_has ls 4 [(0, .ref b), (1, .ref (g 0)), (2, .ref (g2 100)), (3, .int (nI i))] → W p l e room_1 s m #[Value.ref b] below meth c H locs (K + 8) (N + 240) (lw_Z below #[Value.ref b] s) (F0 m 2269 ls [])) : W p l e room_1 s m #[Value.ref b] below meth c H locs K N (lw_Z below #[Value.ref b] s) (F0 m 1306 ls []) := by
  obtain ⟨hx, hb, hr, hml, hown, hts, hX, hbl, hlocks, hgv⟩ := id C0
  have S : SF p m c code 4 s #[Value.ref b] RL := ⟨hx, hb, hml, hown, fun w h => hts w (wT_lw h)⟩
  refine lv_aload_n hx hb (oc_43 1306 (aq_3 shL_law_1303)) rfl (lvA1 hl) ?_
  refine lv_aload_n hx hb (oc_42 1307 (aq_4 shL_law_1303)) rfl (lvA0 hl) ?_
  refine lv_iload_n hx hb (oc_29 1308 (aq_5 shL_law_1303)) rfl (lvA3 hl) ?_
  refine lv_iconst (v := 1) hx hb (oc_4 1309 (aq_6 shL_law_1303)) kic_1 ?_
  refine lv_iadd hx hb (oc_96 1310 (aq_7 shL_law_1303)) ?_
  refine lv_topi (fun y_1 ey_1 => ?_)
  obtain rfl : y_1 = nI (i + 1) := ey_1.trans (nI_add i 1)
  refine va_sld hx hb hX hbl hbA hS (vp_in_nI (by omega) (by omega)) (oc_46 1311 (aq_8 shL_law_1303)) ?_
  refine lv_topi (fun y_2 ey_2 => ?_)
  obtain rfl : y_2 = xs (nI (i + 1)).toNatClampNeg := ey_2
  refine lv_aload_n hx hb (oc_42 1312 (aq_9 shL_law_1303)) rfl (lvA0 hl) ?_
  refine lv_iload_n hx hb (oc_29 1313 (aq_10 shL_law_1303)) rfl (lvA3 hl) ?_
  refine lv_iconst (v := 2) hx hb (oc_5 1314 (aq_11 shL_law_1303)) kic_2 ?_
  refine lv_iadd hx hb (oc_96 1315 (aq_12 shL_law_1303)) ?_
  refine lv_topi (fun y_3 ey_3 => ?_)
  obtain rfl : y_3 = nI (i + 2) := ey_3.trans (nI_add i 2)
  refine va_sld hx hb hX hbl hbA hS (vp_in_nI (by omega) (by omega)) (oc_46 1316 (aq_13 shL_law_1303)) ?_
  refine lv_topi (fun y_4 ey_4 => ?_)
  obtain rfl : y_4 = xs (nI (i + 2)).toNatClampNeg := ey_4
  refine vp_callSi (runV_rxa (As := [.int (xs (nI (i + 1)).toNatClampNeg), .int (xs (nI (i + 2)).toNatClampNeg)]) (rest := []) S (q_Xfirst l D cI cB cZ zz qq vv bt g ad cn In Fn (xs (nI (i + 1)).toNatClampNeg) (xs (nI (i + 2)).toNatClampNeg) hI.1) kV_RL_144 hK hXS hS (exP hP) 0 xo_0 rfl rfl ⟨Nat.le_of_ble_eq_true rfl, Nat.le_of_ble_eq_true rfl⟩ ⟨(by show K + 0 ≤ 600000; omega), (by show N + 0 ≤ 7302250; omega)⟩ rfl hl.1 rfl (Nat.le_of_ble_eq_true rfl) (oc_182 1317 (aq_14 shL_law_1303) uw_0_144)) (fun r4 w4 => ?_)
  refine lv_pop hx hb (oc_87 1320 (aq_17 shL_law_1303)) rfl ?_
  refine lv_aload_n hx hb (oc_44 1321 (aq_18 shL_law_1303)) rfl (lvA2 hl) ?_
  refine lv_aload_n hx hb (oc_42 1322 (aq_19 shL_law_1303)) rfl (lvA0 hl) ?_
  refine lv_iload_n hx hb (oc_29 1323 (aq_20 shL_law_1303)) rfl (lvA3 hl) ?_
  refine lv_iconst (v := 1) hx hb (oc_4 1324 (aq_21 shL_law_1303)) kic_1 ?_
  refine lv_iadd hx hb (oc_96 1325 (aq_22 shL_law_1303)) ?_
  refine lv_topi (fun y_6 ey_6 => ?_)
  obtain rfl : y_6 = nI (i + 1) := ey_6.trans (nI_add i 1)
  refine va_sld hx hb hX hbl hbA hS (vp_in_nI (by omega) (by omega)) (oc_46 1326 (aq_23 shL_law_1303)) ?_
  refine lv_topi (fun y_7 ey_7 => ?_)
  obtain rfl : y_7 = xs (nI (i + 1)).toNatClampNeg := ey_7
  refine lv_aload_n hx hb (oc_42 1327 shL_law_1327) rfl (lvA0 hl) ?_
  refine lv_iload_n hx hb (oc_29 1328 (aq_1 shL_law_1327)) rfl (lvA3 hl) ?_
  refine lv_iconst (v := 2) hx hb (oc_5 1329 (aq_2 shL_law_1327)) kic_2 ?_
  refine lv_iadd hx hb (oc_96 1330 (aq_3 shL_law_1327)) ?_
  refine lv_topi (fun y_8 ey_8 => ?_)
  obtain rfl : y_8 = nI (i + 2) := ey_8.trans (nI_add i 2)
  refine va_sld hx hb hX hbl hbA hS (vp_in_nI (by omega) (by omega)) (oc_46 1331 (aq_4 shL_law_1327)) ?_
  refine lv_topi (fun y_9 ey_9 => ?_)
  obtain rfl : y_9 = xs (nI (i + 2)).toNatClampNeg := ey_9
  refine vp_callSi (runV_ra (As := [.int (xs (nI (i + 1)).toNatClampNeg), .int (xs (nI (i + 2)).toNatClampNeg)]) (rest := []) S (q_first l D cI cB cZ g2 c3 I3 F3 (xs (nI (i + 1)).toNatClampNeg) (xs (nI (i + 2)).toNatClampNeg) hM.1) kV_RL_147 hK (exPr hP) 0 rfl rfl rfl ⟨Nat.le_of_ble_eq_true rfl, Nat.le_of_ble_eq_true rfl⟩ ⟨(by show K + 0 ≤ 600000; omega), (by show N + 0 ≤ 7302250; omega)⟩ rfl hl.1 rfl (Nat.le_of_ble_eq_true rfl) (oc_182 1332 (aq_5 shL_law_1327) uw_0_147)) (fun r9 w9 => ?_)
  refine lv_pop hx hb (oc_87 1335 (aq_8 shL_law_1327)) rfl ?_
  refine lv_goto (tgt := 2269) hx hb (oc_167 1336 (aq_9 shL_law_1327) sgw_3_165) rfl ?_
  refine W.widen (k := K + 8) (n := N + 240) (by omega) (by omega) ?_
  exact kk _ _ _ _ _ _ _ _ _ hI hM hR hP hD hS ls hl
set_option maxRecDepth 100000 in
set_option maxHeartbeats 4000000 in
theorem lawc_31 {p : Program} {l : Launch} {e : Env} {s : State} {m : MethodId} {below : List Frame} {meth : Method} {c : Code} {b L : Nat} {xs : Nat → Int32} (C0 : lw_At p s m meth c b L xs) (hLN : L ≤ 3584) {A : Nat → Prop} (hA : ∀ q : Nat, s.heap.size ≤ q → A q) (hbA : ¬ A b) {D : va_G} {cI cB cZ : ClassId} {zz qq vv : Nat} {bt : Nat → Int32} {g g2 : Nat → Nat} (hK : KK D cI cB cZ s) (hXS : XS D zz qq vv bt A s s.heap) {ad : Nat → Nat → Nat} {cn : Nat → Nat} {In : Nat → Int32} {Fn : Nat → Nat → Int32} {c3 : Nat → Nat} {I3 : Nat → Int32} {F3 : Nat → Nat → Int32} (hI : IX ad cn Fn) (hM : IMM c3 F3) (hR : RR cn Fn c3 F3) {H : Heap} {locs : List Loc} (hP : va_P D vwCl (wX cI (D.1 99) zz g ad cn In Fn ++ wM cI cB cZ g2 c3 I3 F3) H) (hD : va_D A (wX cI (D.1 99) zz g ad cn In Fn ++ wM cI cB cZ g2 c3 I3 F3)) (hS : va_S A s.heap H locs) {K N i : Nat} (hi : i + 7 ≤ L) (hKN : K + 8 ≤ 600000 ∧ N + 240 ≤ 7302250) {ls : Array Slot} (hl : lv_has ls 4 [(0, .ref b), (1, .ref (g 0)), (2, .ref (g2 100)), (3, .int (nI i))]) (kk : ∀ (ad : Nat → Nat → Nat) (cn : Nat → Nat) (In : Nat → Int32) (Fn : Nat → Nat → Int32) (c3 : Nat → Nat) (I3 : Nat → Int32) (F3 : Nat → Nat → Int32) (H : Heap) (locs : List Loc), IX ad cn Fn → IMM c3 F3 → RR cn Fn c3 F3 → va_P D vwCl (wX cI (D.1 99) zz g ad cn In Fn ++ wM cI cB cZ g2 c3 I3 F3) H → va_D A (wX cI (D.1 99) zz g ad cn In Fn ++ wM cI cB cZ g2 c3 I3 F3) → va_S A s.heap H locs → ∀ ls : Array Slot, lv_has ls 4 [(0, .ref b), (1, .ref (g 0)), (2, .ref (g2 100)), (3, .int (nI i))] → W p l e room_1 s m #[Value.ref b] below meth c H locs (K + 8) (N + 240) (lw_Z below #[Value.ref b] s) (F0 m 2269 ls [])) : W p l e room_1 s m #[Value.ref b] below meth c H locs K N (lw_Z below #[Value.ref b] s) (F0 m 1339 ls []) := by
  obtain ⟨hx, hb, hr, hml, hown, hts, hX, hbl, hlocks, hgv⟩ := id C0
  have S : SF p m c code 4 s #[Value.ref b] RL := ⟨hx, hb, hml, hown, fun w h => hts w (wT_lw h)⟩
  refine lv_aload_n hx hb (oc_43 1339 (aq_12 shL_law_1327)) rfl (lvA1 hl) ?_
  refine lv_aload_n hx hb (oc_42 1340 (aq_13 shL_law_1327)) rfl (lvA0 hl) ?_
  refine lv_iload_n hx hb (oc_29 1341 (aq_14 shL_law_1327)) rfl (lvA3 hl) ?_
  refine lv_iconst (v := 1) hx hb (oc_4 1342 (aq_15 shL_law_1327)) kic_1 ?_
  refine lv_iadd hx hb (oc_96 1343 (aq_16 shL_law_1327)) ?_
  refine lv_topi (fun y_1 ey_1 => ?_)
  obtain rfl : y_1 = nI (i + 1) := ey_1.trans (nI_add i 1)
  refine va_sld hx hb hX hbl hbA hS (vp_in_nI (by omega) (by omega)) (oc_46 1344 (aq_17 shL_law_1327)) ?_
  refine lv_topi (fun y_2 ey_2 => ?_)
  obtain rfl : y_2 = xs (nI (i + 1)).toNatClampNeg := ey_2
  refine lv_aload_n hx hb (oc_42 1345 (aq_18 shL_law_1327)) rfl (lvA0 hl) ?_
  refine lv_iload_n hx hb (oc_29 1346 (aq_19 shL_law_1327)) rfl (lvA3 hl) ?_
  refine lv_iconst (v := 2) hx hb (oc_5 1347 (aq_20 shL_law_1327)) kic_2 ?_
  refine lv_iadd hx hb (oc_96 1348 (aq_21 shL_law_1327)) ?_
  refine lv_topi (fun y_3 ey_3 => ?_)
  obtain rfl : y_3 = nI (i + 2) := ey_3.trans (nI_add i 2)
  refine va_sld hx hb hX hbl hbA hS (vp_in_nI (by omega) (by omega)) (oc_46 1349 (aq_22 shL_law_1327)) ?_
  refine lv_topi (fun y_4 ey_4 => ?_)
  obtain rfl : y_4 = xs (nI (i + 2)).toNatClampNeg := ey_4
  have hFc := free_all (exD hD) hS hA
  refine va_calli (runV_xa (As := [.int (xs (nI (i + 1)).toNatClampNeg), .int (xs (nI (i + 2)).toNatClampNeg)]) (rest := []) S (q_Xstreet l D cI cB cZ zz qq vv bt g ad cn In Fn (xs (nI (i + 1)).toNatClampNeg) (xs (nI (i + 2)).toNatClampNeg) H.size hI.1) kV_RL_148 hK hXS hS hFc (exP hP) (exD hD) 0 xo_0 rfl rfl ⟨Nat.le_of_ble_eq_true rfl, Nat.le_of_ble_eq_true rfl⟩ ⟨(by show K + 0 ≤ 600000; omega), (by show N + 0 ≤ 7302250; omega)⟩ rfl hl.1 rfl (Nat.le_of_ble_eq_true rfl) (oc_182 1350 (aq_23 shL_law_1327) uw_0_148)) hS (fun q _ h => hFc q h) hFc (fun r4 u t H1 locs ht hvm w4 hB1 hz1 hk1 hS => ?_)
  obtain ⟨c4, I4, F4⟩ := u
  obtain ⟨hP1, hD1⟩ := hB1
  rw [ht] at hP1
  obtain ⟨hP, hD⟩ := exjoinL hP hD hk1 hFc hP1 hD1
  generalize H1 = H at hP hS ⊢
  have hd4 := w4.1.1
  have hf4 := w4.1.2.2
  have hI := IX.fr hI w4.1 w4.2.1 (by decide) (by decide)
  have hR := RR.fx hR hd4 hf4 (by decide) (by decide)
  refine lv_pop hx hb (oc_87 1353 shL_law_1353) rfl ?_
  refine lv_aload_n hx hb (oc_44 1354 (aq_1 shL_law_1353)) rfl (lvA2 hl) ?_
  refine lv_aload_n hx hb (oc_42 1355 (aq_2 shL_law_1353)) rfl (lvA0 hl) ?_
  refine lv_iload_n hx hb (oc_29 1356 (aq_3 shL_law_1353)) rfl (lvA3 hl) ?_
  refine lv_iconst (v := 1) hx hb (oc_4 1357 (aq_4 shL_law_1353)) kic_1 ?_
  refine lv_iadd hx hb (oc_96 1358 (aq_5 shL_law_1353)) ?_
  refine lv_topi (fun y_6 ey_6 => ?_)
  obtain rfl : y_6 = nI (i + 1) := ey_6.trans (nI_add i 1)
  refine va_sld hx hb hX hbl hbA hS (vp_in_nI (by omega) (by omega)) (oc_46 1359 (aq_6 shL_law_1353)) ?_
  refine lv_topi (fun y_7 ey_7 => ?_)
  obtain rfl : y_7 = xs (nI (i + 1)).toNatClampNeg := ey_7
  refine lv_aload_n hx hb (oc_42 1360 (aq_7 shL_law_1353)) rfl (lvA0 hl) ?_
  refine lv_iload_n hx hb (oc_29 1361 (aq_8 shL_law_1353)) rfl (lvA3 hl) ?_
  refine lv_iconst (v := 2) hx hb (oc_5 1362 (aq_9 shL_law_1353)) kic_2 ?_
  refine lv_iadd hx hb (oc_96 1363 (aq_10 shL_law_1353)) ?_
  refine lv_topi (fun y_8 ey_8 => ?_)
  obtain rfl : y_8 = nI (i + 2) := ey_8.trans (nI_add i 2)
  refine va_sld hx hb hX hbl hbA hS (vp_in_nI (by omega) (by omega)) (oc_46 1364 (aq_11 shL_law_1353)) ?_
  refine lv_topi (fun y_9 ey_9 => ?_)
  obtain rfl : y_9 = xs (nI (i + 2)).toNatClampNeg := ey_9
  have hFc := free_all (exDr hD) hS hA
  refine va_calli (runV_a (As := [.int (xs (nI (i + 1)).toNatClampNeg), .int (xs (nI (i + 2)).toNatClampNeg)]) (rest := []) S (q_street l D cI cB cZ g2 c3 I3 F3 (xs (nI (i + 1)).toNatClampNeg) (xs (nI (i + 2)).toNatClampNeg) H.size hM.1) kV_RL_151 hK (exPr hP) (exDr hD) 0 rfl rfl rfl ⟨Nat.le_of_ble_eq_true rfl, Nat.le_of_ble_eq_true rfl⟩ ⟨(by show K + 0 ≤ 600000; omega), (by show N + 0 ≤ 7302250; omega)⟩ rfl hl.1 rfl (Nat.le_of_ble_eq_true rfl) (oc_182 1365 (aq_12 shL_law_1353) uw_0_151)) hS (fun q _ h => hFc q h) hFc (fun r9 u t H1 locs ht hvm w9 hB1 hz1 hk1 hS => ?_)
  obtain ⟨c9, I9, F9⟩ := u
  obtain ⟨hP1, hD1⟩ := hB1
  rw [ht] at hP1
  obtain ⟨hP, hD⟩ := exjoin hP hD hk1 hFc hP1 hD1
  generalize H1 = H at hP hS ⊢
  obtain ⟨hM, hd9, hf9⟩ := imm_street hM w9
  have hR := RR.fm hR hd9 hf9 (by decide) (by decide)
  refine lv_pop hx hb (oc_87 1368 (aq_15 shL_law_1353)) rfl ?_
  refine lv_goto (tgt := 2269) hx hb (oc_167 1369 (aq_16 shL_law_1353) sgw_3_132) rfl ?_
  refine W.widen (k := K + 8) (n := N + 240) (by omega) (by omega) ?_
  exact kk _ _ _ _ _ _ _ _ _ hI hM hR hP hD hS ls hl
set_option maxRecDepth 100000 in
set_option maxHeartbeats 4000000 in
theorem lawc_32 {p : Program} {l : Launch} {e : Env} {s : State} {m : MethodId} {below : List Frame} {meth : Method} {c : Code} {b L : Nat} {xs : Nat → Int32} (C0 : lw_At p s m meth c b L xs) (hLN : L ≤ 3584) {A : Nat → Prop} (hA : ∀ q : Nat, s.heap.size ≤ q → A q) (hbA : ¬ A b) {D : va_G} {cI cB cZ : ClassId} {zz qq vv : Nat} {bt : Nat → Int32} {g g2 : Nat → Nat} (hK : KK D cI cB cZ s) (hXS : XS D zz qq vv bt A s s.heap) {ad : Nat → Nat → Nat} {cn : Nat → Nat} {In : Nat → Int32} {Fn : Nat → Nat → Int32} {c3 : Nat → Nat} {I3 : Nat → Int32} {F3 : Nat → Nat → Int32} (hI : IX ad cn Fn) (hM : IMM c3 F3) (hR : RR cn Fn c3 F3) {H : Heap} {locs : List Loc} (hP : va_P D vwCl (wX cI (D.1 99) zz g ad cn In Fn ++ wM cI cB cZ g2 c3 I3 F3) H) (hD : va_D A (wX cI (D.1 99) zz g ad cn In Fn ++ wM cI cB cZ g2 c3 I3 F3)) (hS : va_S A s.heap H locs) {K N i : Nat} (hi : i + 7 ≤ L) (hKN : K + 8 ≤ 600000 ∧ N + 240 ≤ 7302250) {ls : Array Slot} (hl : lv_has ls 4 [(0, .ref b), (1, .ref (g 0)), (2, .ref (g2 100)), (3, .int (nI i))]) (kk : ∀ (ad : Nat → Nat → Nat) (cn : Nat → Nat) (In : Nat → Int32) (Fn : Nat → Nat → Int32) (c3 : Nat → Nat) (I3 : Nat → Int32) (F3 : Nat → Nat → Int32) (H : Heap) (locs : List Loc), IX ad cn Fn → IMM c3 F3 → RR cn Fn c3 F3 → va_P D vwCl (wX cI (D.1 99) zz g ad cn In Fn ++ wM cI cB cZ g2 c3 I3 F3) H → va_D A (wX cI (D.1 99) zz g ad cn In Fn ++ wM cI cB cZ g2 c3 I3 F3) → va_S A s.heap H locs → ∀ ls : Array Slot, lv_has ls 4 [(0, .ref b), (1, .ref (g 0)), (2, .ref (g2 100)), (3, .int (nI i))] → W p l e room_1 s m #[Value.ref b] below meth c H locs (K + 8) (N + 240) (lw_Z below #[Value.ref b] s) (F0 m 2269 ls [])) : W p l e room_1 s m #[Value.ref b] below meth c H locs K N (lw_Z below #[Value.ref b] s) (F0 m 1372 ls []) := by
  obtain ⟨hx, hb, hr, hml, hown, hts, hX, hbl, hlocks, hgv⟩ := id C0
  have S : SF p m c code 4 s #[Value.ref b] RL := ⟨hx, hb, hml, hown, fun w h => hts w (wT_lw h)⟩
  refine lv_aload_n hx hb (oc_43 1372 (aq_19 shL_law_1353)) rfl (lvA1 hl) ?_
  refine lv_aload_n hx hb (oc_42 1373 (aq_20 shL_law_1353)) rfl (lvA0 hl) ?_
  refine lv_iload_n hx hb (oc_29 1374 (aq_21 shL_law_1353)) rfl (lvA3 hl) ?_
  refine lv_iconst (v := 1) hx hb (oc_4 1375 (aq_22 shL_law_1353)) kic_1 ?_
  refine lv_iadd hx hb (oc_96 1376 (aq_23 shL_law_1353)) ?_
  refine lv_topi (fun y_1 ey_1 => ?_)
  obtain rfl : y_1 = nI (i + 1) := ey_1.trans (nI_add i 1)
  refine va_sld hx hb hX hbl hbA hS (vp_in_nI (by omega) (by omega)) (oc_46 1377 shL_law_1377) ?_
  refine lv_topi (fun y_2 ey_2 => ?_)
  obtain rfl : y_2 = xs (nI (i + 1)).toNatClampNeg := ey_2
  refine lv_aload_n hx hb (oc_42 1378 (aq_1 shL_law_1377)) rfl (lvA0 hl) ?_
  refine lv_iload_n hx hb (oc_29 1379 (aq_2 shL_law_1377)) rfl (lvA3 hl) ?_
  refine lv_iconst (v := 2) hx hb (oc_5 1380 (aq_3 shL_law_1377)) kic_2 ?_
  refine lv_iadd hx hb (oc_96 1381 (aq_4 shL_law_1377)) ?_
  refine lv_topi (fun y_3 ey_3 => ?_)
  obtain rfl : y_3 = nI (i + 2) := ey_3.trans (nI_add i 2)
  refine va_sld hx hb hX hbl hbA hS (vp_in_nI (by omega) (by omega)) (oc_46 1382 (aq_5 shL_law_1377)) ?_
  refine lv_topi (fun y_4 ey_4 => ?_)
  obtain rfl : y_4 = xs (nI (i + 2)).toNatClampNeg := ey_4
  refine vp_callSl (runV_rxa (As := [.int (xs (nI (i + 1)).toNatClampNeg), .int (xs (nI (i + 2)).toNatClampNeg)]) (rest := []) S (q_Xstreets l D cI cB cZ zz qq vv bt g ad cn In Fn (xs (nI (i + 1)).toNatClampNeg) (xs (nI (i + 2)).toNatClampNeg) hI.1) kV_RL_152 hK hXS hS (exP hP) 0 xo_0 rfl rfl ⟨Nat.le_of_ble_eq_true rfl, Nat.le_of_ble_eq_true rfl⟩ ⟨(by show K + 0 ≤ 600000; omega), (by show N + 0 ≤ 7302250; omega)⟩ rfl hl.1 rfl (Nat.le_of_ble_eq_true rfl) (oc_182 1383 (aq_6 shL_law_1377) uw_0_152)) (fun r4 w4 => ?_)
  refine lv_pop2_2 hx hb (oc_88 1386 (aq_9 shL_law_1377)) rfl ?_
  refine lv_aload_n hx hb (oc_44 1387 (aq_10 shL_law_1377)) rfl (lvA2 hl) ?_
  refine lv_aload_n hx hb (oc_42 1388 (aq_11 shL_law_1377)) rfl (lvA0 hl) ?_
  refine lv_iload_n hx hb (oc_29 1389 (aq_12 shL_law_1377)) rfl (lvA3 hl) ?_
  refine lv_iconst (v := 1) hx hb (oc_4 1390 (aq_13 shL_law_1377)) kic_1 ?_
  refine lv_iadd hx hb (oc_96 1391 (aq_14 shL_law_1377)) ?_
  refine lv_topi (fun y_6 ey_6 => ?_)
  obtain rfl : y_6 = nI (i + 1) := ey_6.trans (nI_add i 1)
  refine va_sld hx hb hX hbl hbA hS (vp_in_nI (by omega) (by omega)) (oc_46 1392 (aq_15 shL_law_1377)) ?_
  refine lv_topi (fun y_7 ey_7 => ?_)
  obtain rfl : y_7 = xs (nI (i + 1)).toNatClampNeg := ey_7
  refine lv_aload_n hx hb (oc_42 1393 (aq_16 shL_law_1377)) rfl (lvA0 hl) ?_
  refine lv_iload_n hx hb (oc_29 1394 (aq_17 shL_law_1377)) rfl (lvA3 hl) ?_
  refine lv_iconst (v := 2) hx hb (oc_5 1395 (aq_18 shL_law_1377)) kic_2 ?_
  refine lv_iadd hx hb (oc_96 1396 (aq_19 shL_law_1377)) ?_
  refine lv_topi (fun y_8 ey_8 => ?_)
  obtain rfl : y_8 = nI (i + 2) := ey_8.trans (nI_add i 2)
  refine va_sld hx hb hX hbl hbA hS (vp_in_nI (by omega) (by omega)) (oc_46 1397 (aq_20 shL_law_1377)) ?_
  refine lv_topi (fun y_9 ey_9 => ?_)
  obtain rfl : y_9 = xs (nI (i + 2)).toNatClampNeg := ey_9
  refine vp_callSl (runV_ra (As := [.int (xs (nI (i + 1)).toNatClampNeg), .int (xs (nI (i + 2)).toNatClampNeg)]) (rest := []) S (q_streets l D cI cB cZ g2 c3 I3 F3 (xs (nI (i + 1)).toNatClampNeg) (xs (nI (i + 2)).toNatClampNeg) hM.1) kV_RL_155 hK (exPr hP) 0 rfl rfl rfl ⟨Nat.le_of_ble_eq_true rfl, Nat.le_of_ble_eq_true rfl⟩ ⟨(by show K + 0 ≤ 600000; omega), (by show N + 0 ≤ 7302250; omega)⟩ rfl hl.1 rfl (Nat.le_of_ble_eq_true rfl) (oc_182 1398 (aq_21 shL_law_1377) uw_0_155)) (fun r9 w9 => ?_)
  refine lv_pop2_2 hx hb (oc_88 1401 shL_law_1401) rfl ?_
  refine lv_goto (tgt := 2269) hx hb (oc_167 1402 (aq_1 shL_law_1401) sgw_3_99) rfl ?_
  refine W.widen (k := K + 8) (n := N + 240) (by omega) (by omega) ?_
  exact kk _ _ _ _ _ _ _ _ _ hI hM hR hP hD hS ls hl
set_option maxRecDepth 100000 in
set_option maxHeartbeats 4000000 in
theorem lawc_33 {p : Program} {l : Launch} {e : Env} {s : State} {m : MethodId} {below : List Frame} {meth : Method} {c : Code} {b L : Nat} {xs : Nat → Int32} (C0 : lw_At p s m meth c b L xs) (hLN : L ≤ 3584) {A : Nat → Prop} (hA : ∀ q : Nat, s.heap.size ≤ q → A q) (hbA : ¬ A b) {D : va_G} {cI cB cZ : ClassId} {zz qq vv : Nat} {bt : Nat → Int32} {g g2 : Nat → Nat} (hK : KK D cI cB cZ s) (hXS : XS D zz qq vv bt A s s.heap) {ad : Nat → Nat → Nat} {cn : Nat → Nat} {In : Nat → Int32} {Fn : Nat → Nat → Int32} {c3 : Nat → Nat} {I3 : Nat → Int32} {F3 : Nat → Nat → Int32} (hI : IX ad cn Fn) (hM : IMM c3 F3) (hR : RR cn Fn c3 F3) {H : Heap} {locs : List Loc} (hP : va_P D vwCl (wX cI (D.1 99) zz g ad cn In Fn ++ wM cI cB cZ g2 c3 I3 F3) H) (hD : va_D A (wX cI (D.1 99) zz g ad cn In Fn ++ wM cI cB cZ g2 c3 I3 F3)) (hS : va_S A s.heap H locs) {K N i : Nat} (hi : i + 7 ≤ L) (hKN : K + 8 ≤ 600000 ∧ N + 240 ≤ 7302250) {ls : Array Slot} (hl : lv_has ls 4 [(0, .ref b), (1, .ref (g 0)), (2, .ref (g2 100)), (3, .int (nI i))]) (kk : ∀ (ad : Nat → Nat → Nat) (cn : Nat → Nat) (In : Nat → Int32) (Fn : Nat → Nat → Int32) (c3 : Nat → Nat) (I3 : Nat → Int32) (F3 : Nat → Nat → Int32) (H : Heap) (locs : List Loc), IX ad cn Fn → IMM c3 F3 → RR cn Fn c3 F3 → va_P D vwCl (wX cI (D.1 99) zz g ad cn In Fn ++ wM cI cB cZ g2 c3 I3 F3) H → va_D A (wX cI (D.1 99) zz g ad cn In Fn ++ wM cI cB cZ g2 c3 I3 F3) → va_S A s.heap H locs → ∀ ls : Array Slot, lv_has ls 4 [(0, .ref b), (1, .ref (g 0)), (2, .ref (g2 100)), (3, .int (nI i))] → W p l e room_1 s m #[Value.ref b] below meth c H locs (K + 8) (N + 240) (lw_Z below #[Value.ref b] s) (F0 m 2269 ls [])) : W p l e room_1 s m #[Value.ref b] below meth c H locs K N (lw_Z below #[Value.ref b] s) (F0 m 1405 ls []) := by
  obtain ⟨hx, hb, hr, hml, hown, hts, hX, hbl, hlocks, hgv⟩ := id C0
  have S : SF p m c code 4 s #[Value.ref b] RL := ⟨hx, hb, hml, hown, fun w h => hts w (wT_lw h)⟩
  refine lv_aload_n hx hb (oc_43 1405 (aq_4 shL_law_1401)) rfl (lvA1 hl) ?_
  refine lv_aload_n hx hb (oc_42 1406 (aq_5 shL_law_1401)) rfl (lvA0 hl) ?_
  refine lv_iload_n hx hb (oc_29 1407 (aq_6 shL_law_1401)) rfl (lvA3 hl) ?_
  refine lv_iconst (v := 1) hx hb (oc_4 1408 (aq_7 shL_law_1401)) kic_1 ?_
  refine lv_iadd hx hb (oc_96 1409 (aq_8 shL_law_1401)) ?_
  refine lv_topi (fun y_1 ey_1 => ?_)
  obtain rfl : y_1 = nI (i + 1) := ey_1.trans (nI_add i 1)
  refine va_sld hx hb hX hbl hbA hS (vp_in_nI (by omega) (by omega)) (oc_46 1410 (aq_9 shL_law_1401)) ?_
  refine lv_topi (fun y_2 ey_2 => ?_)
  obtain rfl : y_2 = xs (nI (i + 1)).toNatClampNeg := ey_2
  refine lv_aload_n hx hb (oc_42 1411 (aq_10 shL_law_1401)) rfl (lvA0 hl) ?_
  refine lv_iload_n hx hb (oc_29 1412 (aq_11 shL_law_1401)) rfl (lvA3 hl) ?_
  refine lv_iconst (v := 2) hx hb (oc_5 1413 (aq_12 shL_law_1401)) kic_2 ?_
  refine lv_iadd hx hb (oc_96 1414 (aq_13 shL_law_1401)) ?_
  refine lv_topi (fun y_3 ey_3 => ?_)
  obtain rfl : y_3 = nI (i + 2) := ey_3.trans (nI_add i 2)
  refine va_sld hx hb hX hbl hbA hS (vp_in_nI (by omega) (by omega)) (oc_46 1415 (aq_14 shL_law_1401)) ?_
  refine lv_topi (fun y_4 ey_4 => ?_)
  obtain rfl : y_4 = xs (nI (i + 2)).toNatClampNeg := ey_4
  refine lv_aload_n hx hb (oc_42 1416 (aq_15 shL_law_1401)) rfl (lvA0 hl) ?_
  refine lv_iload_n hx hb (oc_29 1417 (aq_16 shL_law_1401)) rfl (lvA3 hl) ?_
  refine lv_iconst (v := 3) hx hb (oc_6 1418 (aq_17 shL_law_1401)) kic_3 ?_
  refine lv_iadd hx hb (oc_96 1419 (aq_18 shL_law_1401)) ?_
  refine lv_topi (fun y_5 ey_5 => ?_)
  obtain rfl : y_5 = nI (i + 3) := ey_5.trans (nI_add i 3)
  refine va_sld hx hb hX hbl hbA hS (vp_in_nI (by omega) (by omega)) (oc_46 1420 (aq_19 shL_law_1401)) ?_
  refine lv_topi (fun y_6 ey_6 => ?_)
  obtain rfl : y_6 = xs (nI (i + 3)).toNatClampNeg := ey_6
  refine vp_callSl (runV_rxa (As := [.int (xs (nI (i + 1)).toNatClampNeg), .int (xs (nI (i + 2)).toNatClampNeg), .int (xs (nI (i + 3)).toNatClampNeg)]) (rest := []) S (q_Xcheat l D cI cB cZ zz qq vv bt g ad cn In Fn (xs (nI (i + 1)).toNatClampNeg) (xs (nI (i + 2)).toNatClampNeg) (xs (nI (i + 3)).toNatClampNeg) hI.1) kV_RL_156 hK hXS hS (exP hP) 0 xo_0 rfl rfl ⟨Nat.le_of_ble_eq_true rfl, Nat.le_of_ble_eq_true rfl⟩ ⟨(by show K + 0 ≤ 600000; omega), (by show N + 0 ≤ 7302250; omega)⟩ rfl hl.1 rfl (Nat.le_of_ble_eq_true rfl) (oc_182 1421 (aq_20 shL_law_1401) uw_0_156)) (fun r6 w6 => ?_)
  refine lv_pop2_2 hx hb (oc_88 1424 (aq_23 shL_law_1401)) rfl ?_
  refine lv_aload_n hx hb (oc_44 1425 shL_law_1425) rfl (lvA2 hl) ?_
  refine lv_aload_n hx hb (oc_42 1426 (aq_1 shL_law_1425)) rfl (lvA0 hl) ?_
  refine lv_iload_n hx hb (oc_29 1427 (aq_2 shL_law_1425)) rfl (lvA3 hl) ?_
  refine lv_iconst (v := 1) hx hb (oc_4 1428 (aq_3 shL_law_1425)) kic_1 ?_
  refine lv_iadd hx hb (oc_96 1429 (aq_4 shL_law_1425)) ?_
  refine lv_topi (fun y_8 ey_8 => ?_)
  obtain rfl : y_8 = nI (i + 1) := ey_8.trans (nI_add i 1)
  refine va_sld hx hb hX hbl hbA hS (vp_in_nI (by omega) (by omega)) (oc_46 1430 (aq_5 shL_law_1425)) ?_
  refine lv_topi (fun y_9 ey_9 => ?_)
  obtain rfl : y_9 = xs (nI (i + 1)).toNatClampNeg := ey_9
  refine lv_aload_n hx hb (oc_42 1431 (aq_6 shL_law_1425)) rfl (lvA0 hl) ?_
  refine lv_iload_n hx hb (oc_29 1432 (aq_7 shL_law_1425)) rfl (lvA3 hl) ?_
  refine lv_iconst (v := 2) hx hb (oc_5 1433 (aq_8 shL_law_1425)) kic_2 ?_
  refine lv_iadd hx hb (oc_96 1434 (aq_9 shL_law_1425)) ?_
  refine lv_topi (fun y_10 ey_10 => ?_)
  obtain rfl : y_10 = nI (i + 2) := ey_10.trans (nI_add i 2)
  refine va_sld hx hb hX hbl hbA hS (vp_in_nI (by omega) (by omega)) (oc_46 1435 (aq_10 shL_law_1425)) ?_
  refine lv_topi (fun y_11 ey_11 => ?_)
  obtain rfl : y_11 = xs (nI (i + 2)).toNatClampNeg := ey_11
  refine lv_aload_n hx hb (oc_42 1436 (aq_11 shL_law_1425)) rfl (lvA0 hl) ?_
  refine lv_iload_n hx hb (oc_29 1437 (aq_12 shL_law_1425)) rfl (lvA3 hl) ?_
  refine lv_iconst (v := 3) hx hb (oc_6 1438 (aq_13 shL_law_1425)) kic_3 ?_
  refine lv_iadd hx hb (oc_96 1439 (aq_14 shL_law_1425)) ?_
  refine lv_topi (fun y_12 ey_12 => ?_)
  obtain rfl : y_12 = nI (i + 3) := ey_12.trans (nI_add i 3)
  refine va_sld hx hb hX hbl hbA hS (vp_in_nI (by omega) (by omega)) (oc_46 1440 (aq_15 shL_law_1425)) ?_
  refine lv_topi (fun y_13 ey_13 => ?_)
  obtain rfl : y_13 = xs (nI (i + 3)).toNatClampNeg := ey_13
  refine vp_callSl (runV_ra (As := [.int (xs (nI (i + 1)).toNatClampNeg), .int (xs (nI (i + 2)).toNatClampNeg), .int (xs (nI (i + 3)).toNatClampNeg)]) (rest := []) S (q_cheat l D cI cB cZ g2 c3 I3 F3 (xs (nI (i + 1)).toNatClampNeg) (xs (nI (i + 2)).toNatClampNeg) (xs (nI (i + 3)).toNatClampNeg) hM.1) kV_RL_160 hK (exPr hP) 0 rfl rfl rfl ⟨Nat.le_of_ble_eq_true rfl, Nat.le_of_ble_eq_true rfl⟩ ⟨(by show K + 0 ≤ 600000; omega), (by show N + 0 ≤ 7302250; omega)⟩ rfl hl.1 rfl (Nat.le_of_ble_eq_true rfl) (oc_182 1441 (aq_16 shL_law_1425) uw_0_160)) (fun r13 w13 => ?_)
  refine lv_pop2_2 hx hb (oc_88 1444 (aq_19 shL_law_1425)) rfl ?_
  refine lv_goto (tgt := 2269) hx hb (oc_167 1445 (aq_20 shL_law_1425) sgw_3_56) rfl ?_
  refine W.widen (k := K + 8) (n := N + 240) (by omega) (by omega) ?_
  exact kk _ _ _ _ _ _ _ _ _ hI hM hR hP hD hS ls hl
set_option maxRecDepth 100000 in
set_option maxHeartbeats 4000000 in
theorem lawc_34 {p : Program} {l : Launch} {e : Env} {s : State} {m : MethodId} {below : List Frame} {meth : Method} {c : Code} {b L : Nat} {xs : Nat → Int32} (C0 : lw_At p s m meth c b L xs) (hLN : L ≤ 3584) {A : Nat → Prop} (hA : ∀ q : Nat, s.heap.size ≤ q → A q) (hbA : ¬ A b) {D : va_G} {cI cB cZ : ClassId} {zz qq vv : Nat} {bt : Nat → Int32} {g g2 : Nat → Nat} (hK : KK D cI cB cZ s) (hXS : XS D zz qq vv bt A s s.heap) {ad : Nat → Nat → Nat} {cn : Nat → Nat} {In : Nat → Int32} {Fn : Nat → Nat → Int32} {c3 : Nat → Nat} {I3 : Nat → Int32} {F3 : Nat → Nat → Int32} (hI : IX ad cn Fn) (hM : IMM c3 F3) (hR : RR cn Fn c3 F3) {H : Heap} {locs : List Loc} (hP : va_P D vwCl (wX cI (D.1 99) zz g ad cn In Fn ++ wM cI cB cZ g2 c3 I3 F3) H) (hD : va_D A (wX cI (D.1 99) zz g ad cn In Fn ++ wM cI cB cZ g2 c3 I3 F3)) (hS : va_S A s.heap H locs) {K N i : Nat} (hi : i + 7 ≤ L) (hKN : K + 8 ≤ 600000 ∧ N + 240 ≤ 7302250) {ls : Array Slot} (hl : lv_has ls 4 [(0, .ref b), (1, .ref (g 0)), (2, .ref (g2 100)), (3, .int (nI i))]) (kk : ∀ (ad : Nat → Nat → Nat) (cn : Nat → Nat) (In : Nat → Int32) (Fn : Nat → Nat → Int32) (c3 : Nat → Nat) (I3 : Nat → Int32) (F3 : Nat → Nat → Int32) (H : Heap) (locs : List Loc), IX ad cn Fn → IMM c3 F3 → RR cn Fn c3 F3 → va_P D vwCl (wX cI (D.1 99) zz g ad cn In Fn ++ wM cI cB cZ g2 c3 I3 F3) H → va_D A (wX cI (D.1 99) zz g ad cn In Fn ++ wM cI cB cZ g2 c3 I3 F3) → va_S A s.heap H locs → ∀ ls : Array Slot, lv_has ls 4 [(0, .ref b), (1, .ref (g 0)), (2, .ref (g2 100)), (3, .int (nI i))] → W p l e room_1 s m #[Value.ref b] below meth c H locs (K + 8) (N + 240) (lw_Z below #[Value.ref b] s) (F0 m 2269 ls [])) : W p l e room_1 s m #[Value.ref b] below meth c H locs K N (lw_Z below #[Value.ref b] s) (F0 m 1448 ls []) := by
  obtain ⟨hx, hb, hr, hml, hown, hts, hX, hbl, hlocks, hgv⟩ := id C0
  have S : SF p m c code 4 s #[Value.ref b] RL := ⟨hx, hb, hml, hown, fun w h => hts w (wT_lw h)⟩
  refine lv_aload_n hx hb (oc_43 1448 (aq_23 shL_law_1425)) rfl (lvA1 hl) ?_
  refine lv_aload_n hx hb (oc_42 1449 shL_law_1449) rfl (lvA0 hl) ?_
  refine lv_iload_n hx hb (oc_29 1450 (aq_1 shL_law_1449)) rfl (lvA3 hl) ?_
  refine lv_iconst (v := 1) hx hb (oc_4 1451 (aq_2 shL_law_1449)) kic_1 ?_
  refine lv_iadd hx hb (oc_96 1452 (aq_3 shL_law_1449)) ?_
  refine lv_topi (fun y_1 ey_1 => ?_)
  obtain rfl : y_1 = nI (i + 1) := ey_1.trans (nI_add i 1)
  refine va_sld hx hb hX hbl hbA hS (vp_in_nI (by omega) (by omega)) (oc_46 1453 (aq_4 shL_law_1449)) ?_
  refine lv_topi (fun y_2 ey_2 => ?_)
  obtain rfl : y_2 = xs (nI (i + 1)).toNatClampNeg := ey_2
  refine lv_aload_n hx hb (oc_42 1454 (aq_5 shL_law_1449)) rfl (lvA0 hl) ?_
  refine lv_iload_n hx hb (oc_29 1455 (aq_6 shL_law_1449)) rfl (lvA3 hl) ?_
  refine lv_iconst (v := 2) hx hb (oc_5 1456 (aq_7 shL_law_1449)) kic_2 ?_
  refine lv_iadd hx hb (oc_96 1457 (aq_8 shL_law_1449)) ?_
  refine lv_topi (fun y_3 ey_3 => ?_)
  obtain rfl : y_3 = nI (i + 2) := ey_3.trans (nI_add i 2)
  refine va_sld hx hb hX hbl hbA hS (vp_in_nI (by omega) (by omega)) (oc_46 1458 (aq_9 shL_law_1449)) ?_
  refine lv_topi (fun y_4 ey_4 => ?_)
  obtain rfl : y_4 = xs (nI (i + 2)).toNatClampNeg := ey_4
  have hFc := free_all (exD hD) hS hA
  refine va_calli (runV_xa (As := [.int (xs (nI (i + 1)).toNatClampNeg), .int (xs (nI (i + 2)).toNatClampNeg)]) (rest := []) S (q_XasIf l D cI cB cZ zz qq vv bt g ad cn In Fn (xs (nI (i + 1)).toNatClampNeg) (xs (nI (i + 2)).toNatClampNeg) H.size hI.1 hI.2.1 hI.2.2.1) kV_RL_161 hK hXS hS hFc (exP hP) (exD hD) 0 xo_0 rfl rfl ⟨Nat.le_of_ble_eq_true rfl, Nat.le_of_ble_eq_true rfl⟩ ⟨(by show K + 0 ≤ 600000; omega), (by show N + 0 ≤ 7302250; omega)⟩ rfl hl.1 rfl (Nat.le_of_ble_eq_true rfl) (oc_182 1459 (aq_10 shL_law_1449) uw_0_161)) hS (fun q _ h => hFc q h) hFc (fun r4 u t H1 locs ht hvm w4 hB1 hz1 hk1 hS => ?_)
  obtain ⟨c4, I4, F4⟩ := u
  obtain ⟨hP1, hD1⟩ := hB1
  rw [ht] at hP1
  obtain ⟨hP, hD⟩ := exjoinL hP hD hk1 hFc hP1 hD1
  generalize H1 = H at hP hS ⊢
  have hd4 := w4.1.1
  have hf4 := w4.1.2.2
  have hI := IX.fr hI w4.1 w4.2.1 (by decide) (by decide)
  have hR := RR.fx hR hd4 hf4 (by decide) (by decide)
  refine lv_pop hx hb (oc_87 1462 (aq_13 shL_law_1449)) rfl ?_
  refine lv_aload_n hx hb (oc_44 1463 (aq_14 shL_law_1449)) rfl (lvA2 hl) ?_
  refine lv_aload_n hx hb (oc_42 1464 (aq_15 shL_law_1449)) rfl (lvA0 hl) ?_
  refine lv_iload_n hx hb (oc_29 1465 (aq_16 shL_law_1449)) rfl (lvA3 hl) ?_
  refine lv_iconst (v := 1) hx hb (oc_4 1466 (aq_17 shL_law_1449)) kic_1 ?_
  refine lv_iadd hx hb (oc_96 1467 (aq_18 shL_law_1449)) ?_
  refine lv_topi (fun y_6 ey_6 => ?_)
  obtain rfl : y_6 = nI (i + 1) := ey_6.trans (nI_add i 1)
  refine va_sld hx hb hX hbl hbA hS (vp_in_nI (by omega) (by omega)) (oc_46 1468 (aq_19 shL_law_1449)) ?_
  refine lv_topi (fun y_7 ey_7 => ?_)
  obtain rfl : y_7 = xs (nI (i + 1)).toNatClampNeg := ey_7
  refine lv_aload_n hx hb (oc_42 1469 (aq_20 shL_law_1449)) rfl (lvA0 hl) ?_
  refine lv_iload_n hx hb (oc_29 1470 (aq_21 shL_law_1449)) rfl (lvA3 hl) ?_
  refine lv_iconst (v := 2) hx hb (oc_5 1471 (aq_22 shL_law_1449)) kic_2 ?_
  refine lv_iadd hx hb (oc_96 1472 (aq_23 shL_law_1449)) ?_
  refine lv_topi (fun y_8 ey_8 => ?_)
  obtain rfl : y_8 = nI (i + 2) := ey_8.trans (nI_add i 2)
  refine va_sld hx hb hX hbl hbA hS (vp_in_nI (by omega) (by omega)) (oc_46 1473 shL_law_1473) ?_
  refine lv_topi (fun y_9 ey_9 => ?_)
  obtain rfl : y_9 = xs (nI (i + 2)).toNatClampNeg := ey_9
  have hFc := free_all (exDr hD) hS hA
  refine va_calli (runV_a (As := [.int (xs (nI (i + 1)).toNatClampNeg), .int (xs (nI (i + 2)).toNatClampNeg)]) (rest := []) S (q_asIf l D cI cB cZ g2 c3 I3 F3 (xs (nI (i + 1)).toNatClampNeg) (xs (nI (i + 2)).toNatClampNeg) H.size hM.1) kV_RL_164 hK (exPr hP) (exDr hD) 0 rfl rfl rfl ⟨Nat.le_of_ble_eq_true rfl, Nat.le_of_ble_eq_true rfl⟩ ⟨(by show K + 0 ≤ 600000; omega), (by show N + 0 ≤ 7302250; omega)⟩ rfl hl.1 rfl (Nat.le_of_ble_eq_true rfl) (oc_182 1474 (aq_1 shL_law_1473) uw_0_164)) hS (fun q _ h => hFc q h) hFc (fun r9 u t H1 locs ht hvm w9 hB1 hz1 hk1 hS => ?_)
  obtain ⟨c9, I9, F9⟩ := u
  obtain ⟨hP1, hD1⟩ := hB1
  rw [ht] at hP1
  obtain ⟨hP, hD⟩ := exjoin hP hD hk1 hFc hP1 hD1
  generalize H1 = H at hP hS ⊢
  obtain ⟨hM, hd9, hf9⟩ := imm_asIf hM w9
  have hR := RR.fm hR hd9 hf9 (by decide) (by decide)
  refine lv_pop hx hb (oc_87 1477 (aq_4 shL_law_1473)) rfl ?_
  refine lv_goto (tgt := 2269) hx hb (oc_167 1478 (aq_5 shL_law_1473) sgw_3_23) rfl ?_
  refine W.widen (k := K + 8) (n := N + 240) (by omega) (by omega) ?_
  exact kk _ _ _ _ _ _ _ _ _ hI hM hR hP hD hS ls hl
set_option maxRecDepth 100000 in
set_option maxHeartbeats 4000000 in
theorem lawc_35 {p : Program} {l : Launch} {e : Env} {s : State} {m : MethodId} {below : List Frame} {meth : Method} {c : Code} {b L : Nat} {xs : Nat → Int32} (C0 : lw_At p s m meth c b L xs) (hLN : L ≤ 3584) {A : Nat → Prop} (hA : ∀ q : Nat, s.heap.size ≤ q → A q) (hbA : ¬ A b) {D : va_G} {cI cB cZ : ClassId} {zz qq vv : Nat} {bt : Nat → Int32} {g g2 : Nat → Nat} (hK : KK D cI cB cZ s) (hXS : XS D zz qq vv bt A s s.heap) {ad : Nat → Nat → Nat} {cn : Nat → Nat} {In : Nat → Int32} {Fn : Nat → Nat → Int32} {c3 : Nat → Nat} {I3 : Nat → Int32} {F3 : Nat → Nat → Int32} (hI : IX ad cn Fn) (hM : IMM c3 F3) (hR : RR cn Fn c3 F3) {H : Heap} {locs : List Loc} (hP : va_P D vwCl (wX cI (D.1 99) zz g ad cn In Fn ++ wM cI cB cZ g2 c3 I3 F3) H) (hD : va_D A (wX cI (D.1 99) zz g ad cn In Fn ++ wM cI cB cZ g2 c3 I3 F3)) (hS : va_S A s.heap H locs) {K N i : Nat} (hi : i + 7 ≤ L) (hKN : K + 8 ≤ 600000 ∧ N + 240 ≤ 7302250) {ls : Array Slot} (hl : lv_has ls 4 [(0, .ref b), (1, .ref (g 0)), (2, .ref (g2 100)), (3, .int (nI i))]) (kk : ∀ (ad : Nat → Nat → Nat) (cn : Nat → Nat) (In : Nat → Int32) (Fn : Nat → Nat → Int32) (c3 : Nat → Nat) (I3 : Nat → Int32) (F3 : Nat → Nat → Int32) (H : Heap) (locs : List Loc), IX ad cn Fn → IMM c3 F3 → RR cn Fn c3 F3 → va_P D vwCl (wX cI (D.1 99) zz g ad cn In Fn ++ wM cI cB cZ g2 c3 I3 F3) H → va_D A (wX cI (D.1 99) zz g ad cn In Fn ++ wM cI cB cZ g2 c3 I3 F3) → va_S A s.heap H locs → ∀ ls : Array Slot, lv_has ls 4 [(0, .ref b), (1, .ref (g 0)), (2, .ref (g2 100)), (3, .int (nI i))] → W p l e room_1 s m #[Value.ref b] below meth c H locs (K + 8) (N + 240) (lw_Z below #[Value.ref b] s) (F0 m 2269 ls [])) : W p l e room_1 s m #[Value.ref b] below meth c H locs K N (lw_Z below #[Value.ref b] s) (F0 m 1481 ls []) := by
  obtain ⟨hx, hb, hr, hml, hown, hts, hX, hbl, hlocks, hgv⟩ := id C0
  have S : SF p m c code 4 s #[Value.ref b] RL := ⟨hx, hb, hml, hown, fun w h => hts w (wT_lw h)⟩
  refine lv_aload_n hx hb (oc_43 1481 (aq_8 shL_law_1473)) rfl (lvA1 hl) ?_
  refine lv_aload_n hx hb (oc_42 1482 (aq_9 shL_law_1473)) rfl (lvA0 hl) ?_
  refine lv_iload_n hx hb (oc_29 1483 (aq_10 shL_law_1473)) rfl (lvA3 hl) ?_
  refine lv_iconst (v := 1) hx hb (oc_4 1484 (aq_11 shL_law_1473)) kic_1 ?_
  refine lv_iadd hx hb (oc_96 1485 (aq_12 shL_law_1473)) ?_
  refine lv_topi (fun y_1 ey_1 => ?_)
  obtain rfl : y_1 = nI (i + 1) := ey_1.trans (nI_add i 1)
  refine va_sld hx hb hX hbl hbA hS (vp_in_nI (by omega) (by omega)) (oc_46 1486 (aq_13 shL_law_1473)) ?_
  refine lv_topi (fun y_2 ey_2 => ?_)
  obtain rfl : y_2 = xs (nI (i + 1)).toNatClampNeg := ey_2
  have hFc := free_all (exD hD) hS hA
  refine va_calli (runV_xa (As := [.int (xs (nI (i + 1)).toNatClampNeg)]) (rest := []) S (q_Xlorry l D cI cB cZ zz qq vv bt g ad cn In Fn (xs (nI (i + 1)).toNatClampNeg) H.size hI.1) kV_RL_165 hK hXS hS hFc (exP hP) (exD hD) 0 xo_0 rfl rfl ⟨Nat.le_of_ble_eq_true rfl, Nat.le_of_ble_eq_true rfl⟩ ⟨(by show K + 0 ≤ 600000; omega), (by show N + 0 ≤ 7302250; omega)⟩ rfl hl.1 rfl (Nat.le_of_ble_eq_true rfl) (oc_182 1487 (aq_14 shL_law_1473) uw_0_165)) hS (fun q _ h => hFc q h) hFc (fun r2 u t H1 locs ht hvm w2 hB1 hz1 hk1 hS => ?_)
  obtain ⟨c2, I2, F2⟩ := u
  obtain ⟨hP1, hD1⟩ := hB1
  rw [ht] at hP1
  obtain ⟨hP, hD⟩ := exjoinL hP hD hk1 hFc hP1 hD1
  generalize H1 = H at hP hS ⊢
  have hd2 := w2.1.1
  have hf2 := w2.1.2.2
  have hI := IX.fr hI w2.1 w2.2.1 (by decide) (by decide)
  have hR := RR.fx hR hd2 hf2 (by decide) (by decide)
  refine lv_pop hx hb (oc_87 1490 (aq_17 shL_law_1473)) rfl ?_
  refine lv_aload_n hx hb (oc_44 1491 (aq_18 shL_law_1473)) rfl (lvA2 hl) ?_
  refine lv_aload_n hx hb (oc_42 1492 (aq_19 shL_law_1473)) rfl (lvA0 hl) ?_
  refine lv_iload_n hx hb (oc_29 1493 (aq_20 shL_law_1473)) rfl (lvA3 hl) ?_
  refine lv_iconst (v := 1) hx hb (oc_4 1494 (aq_21 shL_law_1473)) kic_1 ?_
  refine lv_iadd hx hb (oc_96 1495 (aq_22 shL_law_1473)) ?_
  refine lv_topi (fun y_4 ey_4 => ?_)
  obtain rfl : y_4 = nI (i + 1) := ey_4.trans (nI_add i 1)
  refine va_sld hx hb hX hbl hbA hS (vp_in_nI (by omega) (by omega)) (oc_46 1496 (aq_23 shL_law_1473)) ?_
  refine lv_topi (fun y_5 ey_5 => ?_)
  obtain rfl : y_5 = xs (nI (i + 1)).toNatClampNeg := ey_5
  have hFc := free_all (exDr hD) hS hA
  refine va_calli (runV_a (As := [.int (xs (nI (i + 1)).toNatClampNeg)]) (rest := []) S (q_lorry l D cI cB cZ g2 c3 I3 F3 (xs (nI (i + 1)).toNatClampNeg) H.size hM.1) kV_RL_168 hK (exPr hP) (exDr hD) 0 rfl rfl rfl ⟨Nat.le_of_ble_eq_true rfl, Nat.le_of_ble_eq_true rfl⟩ ⟨(by show K + 0 ≤ 600000; omega), (by show N + 0 ≤ 7302250; omega)⟩ rfl hl.1 rfl (Nat.le_of_ble_eq_true rfl) (oc_182 1497 shL_law_1497 uw_0_168)) hS (fun q _ h => hFc q h) hFc (fun r5 u t H1 locs ht hvm w5 hB1 hz1 hk1 hS => ?_)
  obtain ⟨c5, I5, F5⟩ := u
  obtain ⟨hP1, hD1⟩ := hB1
  rw [ht] at hP1
  obtain ⟨hP, hD⟩ := exjoin hP hD hk1 hFc hP1 hD1
  generalize H1 = H at hP hS ⊢
  obtain ⟨hM, hd5, hf5⟩ := imm_lorry hM w5
  have hR := RR.fm hR hd5 hf5 (by decide) (by decide)
  refine lv_pop hx hb (oc_87 1500 (aq_3 shL_law_1497)) rfl ?_
  refine lv_goto (tgt := 2269) hx hb (oc_167 1501 (aq_4 shL_law_1497) sgw_3_0) rfl ?_
  refine W.widen (k := K + 8) (n := N + 240) (by omega) (by omega) ?_
  exact kk _ _ _ _ _ _ _ _ _ hI hM hR hP hD hS ls hl
set_option maxRecDepth 100000 in
set_option maxHeartbeats 4000000 in
theorem lawc_36 {p : Program} {l : Launch} {e : Env} {s : State} {m : MethodId} {below : List Frame} {meth : Method} {c : Code} {b L : Nat} {xs : Nat → Int32} (C0 : lw_At p s m meth c b L xs) (hLN : L ≤ 3584) {A : Nat → Prop} (hA : ∀ q : Nat, s.heap.size ≤ q → A q) (hbA : ¬ A b) {D : va_G} {cI cB cZ : ClassId} {zz qq vv : Nat} {bt : Nat → Int32} {g g2 : Nat → Nat} (hK : KK D cI cB cZ s) (hXS : XS D zz qq vv bt A s s.heap) {ad : Nat → Nat → Nat} {cn : Nat → Nat} {In : Nat → Int32} {Fn : Nat → Nat → Int32} {c3 : Nat → Nat} {I3 : Nat → Int32} {F3 : Nat → Nat → Int32} (hI : IX ad cn Fn) (hM : IMM c3 F3) (hR : RR cn Fn c3 F3) {H : Heap} {locs : List Loc} (hP : va_P D vwCl (wX cI (D.1 99) zz g ad cn In Fn ++ wM cI cB cZ g2 c3 I3 F3) H) (hD : va_D A (wX cI (D.1 99) zz g ad cn In Fn ++ wM cI cB cZ g2 c3 I3 F3)) (hS : va_S A s.heap H locs) {K N i : Nat} (hi : i + 7 ≤ L) (hKN : K + 8 ≤ 600000 ∧ N + 240 ≤ 7302250) {ls : Array Slot} (hl : lv_has ls 4 [(0, .ref b), (1, .ref (g 0)), (2, .ref (g2 100)), (3, .int (nI i))]) (kk : ∀ (ad : Nat → Nat → Nat) (cn : Nat → Nat) (In : Nat → Int32) (Fn : Nat → Nat → Int32) (c3 : Nat → Nat) (I3 : Nat → Int32) (F3 : Nat → Nat → Int32) (H : Heap) (locs : List Loc), IX ad cn Fn → IMM c3 F3 → RR cn Fn c3 F3 → va_P D vwCl (wX cI (D.1 99) zz g ad cn In Fn ++ wM cI cB cZ g2 c3 I3 F3) H → va_D A (wX cI (D.1 99) zz g ad cn In Fn ++ wM cI cB cZ g2 c3 I3 F3) → va_S A s.heap H locs → ∀ ls : Array Slot, lv_has ls 4 [(0, .ref b), (1, .ref (g 0)), (2, .ref (g2 100)), (3, .int (nI i))] → W p l e room_1 s m #[Value.ref b] below meth c H locs (K + 8) (N + 240) (lw_Z below #[Value.ref b] s) (F0 m 2269 ls [])) : W p l e room_1 s m #[Value.ref b] below meth c H locs K N (lw_Z below #[Value.ref b] s) (F0 m 1504 ls []) := by
  obtain ⟨hx, hb, hr, hml, hown, hts, hX, hbl, hlocks, hgv⟩ := id C0
  have S : SF p m c code 4 s #[Value.ref b] RL := ⟨hx, hb, hml, hown, fun w h => hts w (wT_lw h)⟩
  refine lv_aload_n hx hb (oc_43 1504 (aq_7 shL_law_1497)) rfl (lvA1 hl) ?_
  refine lv_aload_n hx hb (oc_42 1505 (aq_8 shL_law_1497)) rfl (lvA0 hl) ?_
  refine lv_iload_n hx hb (oc_29 1506 (aq_9 shL_law_1497)) rfl (lvA3 hl) ?_
  refine lv_iconst (v := 1) hx hb (oc_4 1507 (aq_10 shL_law_1497)) kic_1 ?_
  refine lv_iadd hx hb (oc_96 1508 (aq_11 shL_law_1497)) ?_
  refine lv_topi (fun y_1 ey_1 => ?_)
  obtain rfl : y_1 = nI (i + 1) := ey_1.trans (nI_add i 1)
  refine va_sld hx hb hX hbl hbA hS (vp_in_nI (by omega) (by omega)) (oc_46 1509 (aq_12 shL_law_1497)) ?_
  refine lv_topi (fun y_2 ey_2 => ?_)
  obtain rfl : y_2 = xs (nI (i + 1)).toNatClampNeg := ey_2
  refine lv_aload_n hx hb (oc_42 1510 (aq_13 shL_law_1497)) rfl (lvA0 hl) ?_
  refine lv_iload_n hx hb (oc_29 1511 (aq_14 shL_law_1497)) rfl (lvA3 hl) ?_
  refine lv_iconst (v := 2) hx hb (oc_5 1512 (aq_15 shL_law_1497)) kic_2 ?_
  refine lv_iadd hx hb (oc_96 1513 (aq_16 shL_law_1497)) ?_
  refine lv_topi (fun y_3 ey_3 => ?_)
  obtain rfl : y_3 = nI (i + 2) := ey_3.trans (nI_add i 2)
  refine va_sld hx hb hX hbl hbA hS (vp_in_nI (by omega) (by omega)) (oc_46 1514 (aq_17 shL_law_1497)) ?_
  refine lv_topi (fun y_4 ey_4 => ?_)
  obtain rfl : y_4 = xs (nI (i + 2)).toNatClampNeg := ey_4
  refine lv_aload_n hx hb (oc_42 1515 (aq_18 shL_law_1497)) rfl (lvA0 hl) ?_
  refine lv_iload_n hx hb (oc_29 1516 (aq_19 shL_law_1497)) rfl (lvA3 hl) ?_
  refine lv_iconst (v := 3) hx hb (oc_6 1517 (aq_20 shL_law_1497)) kic_3 ?_
  refine lv_iadd hx hb (oc_96 1518 (aq_21 shL_law_1497)) ?_
  refine lv_topi (fun y_5 ey_5 => ?_)
  obtain rfl : y_5 = nI (i + 3) := ey_5.trans (nI_add i 3)
  refine va_sld hx hb hX hbl hbA hS (vp_in_nI (by omega) (by omega)) (oc_46 1519 (aq_22 shL_law_1497)) ?_
  refine lv_topi (fun y_6 ey_6 => ?_)
  obtain rfl : y_6 = xs (nI (i + 3)).toNatClampNeg := ey_6
  refine lv_if_eq (tgt := 1527) hx hb (oc_153 1520 (aq_23 shL_law_1497) sgw_0_7) rfl (fun c_7 => ?_) (fun c_7 => ?_)
  ·
    have tc_7 : ((xs (nI (i + 3)).toNatClampNeg).toInt : Int) = 0 := congrArg Int32.toInt c_7
    refine lv_iconst (v := 0) hx hb (oc_3 1527 (aq_4 shL_law_1523)) kic_0 ?_
    have hFc := free_all (exD hD) hS hA
    refine va_calli (runV_xa (As := [.int (xs (nI (i + 1)).toNatClampNeg), .int (xs (nI (i + 2)).toNatClampNeg), .int 0]) (rest := []) S (q_Xoff l D cI cB cZ zz qq vv bt g ad cn In Fn (xs (nI (i + 1)).toNatClampNeg) (xs (nI (i + 2)).toNatClampNeg) 0 H.size hI.1) kV_RL_169 hK hXS hS hFc (exP hP) (exD hD) 0 xo_0 rfl rfl ⟨Nat.le_of_ble_eq_true rfl, Nat.le_of_ble_eq_true rfl⟩ ⟨(by show K + 0 ≤ 600000; omega), (by show N + 0 ≤ 7302250; omega)⟩ rfl hl.1 rfl (Nat.le_of_ble_eq_true rfl) (oc_182 1528 (aq_5 shL_law_1523) uw_0_169)) hS (fun q _ h => hFc q h) hFc (fun r7 u t H1 locs ht hvm w7 hB1 hz1 hk1 hS => ?_)
    obtain ⟨c7, I7, F7⟩ := u
    obtain ⟨hP1, hD1⟩ := hB1
    rw [ht] at hP1
    obtain ⟨hP, hD⟩ := exjoinL hP hD hk1 hFc hP1 hD1
    generalize H1 = H at hP hS ⊢
    have hd7 := w7.1.1
    have hf7 := w7.1.2.2
    have hI := IX.fr hI w7.1 w7.2.1 (by decide) (by decide)
    have hR := RR.fx hR hd7 hf7 (by decide) (by decide)
    refine lv_pop hx hb (oc_87 1531 (aq_8 shL_law_1523)) rfl ?_
    refine lv_aload_n hx hb (oc_44 1532 (aq_9 shL_law_1523)) rfl (lvA2 hl) ?_
    refine lv_aload_n hx hb (oc_42 1533 (aq_10 shL_law_1523)) rfl (lvA0 hl) ?_
    refine lv_iload_n hx hb (oc_29 1534 (aq_11 shL_law_1523)) rfl (lvA3 hl) ?_
    refine lv_iconst (v := 1) hx hb (oc_4 1535 (aq_12 shL_law_1523)) kic_1 ?_
    refine lv_iadd hx hb (oc_96 1536 (aq_13 shL_law_1523)) ?_
    refine lv_topi (fun y_9 ey_9 => ?_)
    obtain rfl : y_9 = nI (i + 1) := ey_9.trans (nI_add i 1)
    refine va_sld hx hb hX hbl hbA hS (vp_in_nI (by omega) (by omega)) (oc_46 1537 (aq_14 shL_law_1523)) ?_
    refine lv_topi (fun y_10 ey_10 => ?_)
    obtain rfl : y_10 = xs (nI (i + 1)).toNatClampNeg := ey_10
    refine lv_aload_n hx hb (oc_42 1538 (aq_15 shL_law_1523)) rfl (lvA0 hl) ?_
    refine lv_iload_n hx hb (oc_29 1539 (aq_16 shL_law_1523)) rfl (lvA3 hl) ?_
    refine lv_iconst (v := 2) hx hb (oc_5 1540 (aq_17 shL_law_1523)) kic_2 ?_
    refine lv_iadd hx hb (oc_96 1541 (aq_18 shL_law_1523)) ?_
    refine lv_topi (fun y_11 ey_11 => ?_)
    obtain rfl : y_11 = nI (i + 2) := ey_11.trans (nI_add i 2)
    refine va_sld hx hb hX hbl hbA hS (vp_in_nI (by omega) (by omega)) (oc_46 1542 (aq_19 shL_law_1523)) ?_
    refine lv_topi (fun y_12 ey_12 => ?_)
    obtain rfl : y_12 = xs (nI (i + 2)).toNatClampNeg := ey_12
    refine lv_aload_n hx hb (oc_42 1543 (aq_20 shL_law_1523)) rfl (lvA0 hl) ?_
    refine lv_iload_n hx hb (oc_29 1544 (aq_21 shL_law_1523)) rfl (lvA3 hl) ?_
    refine lv_iconst (v := 3) hx hb (oc_6 1545 (aq_22 shL_law_1523)) kic_3 ?_
    refine lv_iadd hx hb (oc_96 1546 (aq_23 shL_law_1523)) ?_
    refine lv_topi (fun y_13 ey_13 => ?_)
    obtain rfl : y_13 = nI (i + 3) := ey_13.trans (nI_add i 3)
    refine va_sld hx hb hX hbl hbA hS (vp_in_nI (by omega) (by omega)) (oc_46 1547 shL_law_1547) ?_
    refine lv_topi (fun y_14 ey_14 => ?_)
    obtain rfl : y_14 = xs (nI (i + 3)).toNatClampNeg := ey_14
    refine lv_if_eq (tgt := 1555) hx hb (oc_153 1548 (aq_1 shL_law_1547) sgw_0_7) rfl (fun c_15 => ?_) (fun c_15 => False.elim (by have tc_15 : ((xs (nI (i + 3)).toNatClampNeg).toInt : Int) ≠ 0 := fun q => c_15 (Int32.toInt_inj.mp q); omega))
    have tc_15 : ((xs (nI (i + 3)).toNatClampNeg).toInt : Int) = 0 := congrArg Int32.toInt c_15
    refine lv_iconst (v := 0) hx hb (oc_3 1555 (aq_8 shL_law_1547)) kic_0 ?_
    have hFc := free_all (exDr hD) hS hA
    refine va_calli (runV_a (As := [.int (xs (nI (i + 1)).toNatClampNeg), .int (xs (nI (i + 2)).toNatClampNeg), .int 0]) (rest := []) S (q_off l D cI cB cZ g2 c3 I3 F3 (xs (nI (i + 1)).toNatClampNeg) (xs (nI (i + 2)).toNatClampNeg) 0 H.size hM.1) kV_RL_173 hK (exPr hP) (exDr hD) 0 rfl rfl rfl ⟨Nat.le_of_ble_eq_true rfl, Nat.le_of_ble_eq_true rfl⟩ ⟨(by show K + 0 ≤ 600000; omega), (by show N + 0 ≤ 7302250; omega)⟩ rfl hl.1 rfl (Nat.le_of_ble_eq_true rfl) (oc_182 1556 (aq_9 shL_law_1547) uw_0_173)) hS (fun q _ h => hFc q h) hFc (fun r15 u t H1 locs ht hvm w15 hB1 hz1 hk1 hS => ?_)
    obtain ⟨c15, I15, F15⟩ := u
    obtain ⟨hP1, hD1⟩ := hB1
    rw [ht] at hP1
    obtain ⟨hP, hD⟩ := exjoin hP hD hk1 hFc hP1 hD1
    generalize H1 = H at hP hS ⊢
    obtain ⟨hM, hd15, hf15⟩ := imm_off hM w15
    have hR := RR.fm hR hd15 hf15 (by decide) (by decide)
    refine lv_pop hx hb (oc_87 1559 (aq_12 shL_law_1547)) rfl ?_
    refine lv_goto (tgt := 2269) hx hb (oc_167 1560 (aq_13 shL_law_1547) sgw_2_197) rfl ?_
    refine W.widen (k := K + 8) (n := N + 240) (by omega) (by omega) ?_
    exact kk _ _ _ _ _ _ _ _ _ hI hM hR hP hD hS ls hl
  ·
    have tc_7 : ((xs (nI (i + 3)).toNatClampNeg).toInt : Int) ≠ 0 := fun q => c_7 (Int32.toInt_inj.mp q)
    refine lv_iconst (v := 1) hx hb (oc_4 1523 shL_law_1523) kic_1 ?_
    refine lv_goto (tgt := 1528) hx hb (oc_167 1524 (aq_1 shL_law_1523) sgw_0_4) rfl ?_
    have hFc := free_all (exD hD) hS hA
    refine va_calli (runV_xa (As := [.int (xs (nI (i + 1)).toNatClampNeg), .int (xs (nI (i + 2)).toNatClampNeg), .int 1]) (rest := []) S (q_Xoff l D cI cB cZ zz qq vv bt g ad cn In Fn (xs (nI (i + 1)).toNatClampNeg) (xs (nI (i + 2)).toNatClampNeg) 1 H.size hI.1) kV_RL_169 hK hXS hS hFc (exP hP) (exD hD) 0 xo_0 rfl rfl ⟨Nat.le_of_ble_eq_true rfl, Nat.le_of_ble_eq_true rfl⟩ ⟨(by show K + 0 ≤ 600000; omega), (by show N + 0 ≤ 7302250; omega)⟩ rfl hl.1 rfl (Nat.le_of_ble_eq_true rfl) (oc_182 1528 (aq_5 shL_law_1523) uw_0_169)) hS (fun q _ h => hFc q h) hFc (fun r16 u t H1 locs ht hvm w16 hB1 hz1 hk1 hS => ?_)
    obtain ⟨c16, I16, F16⟩ := u
    obtain ⟨hP1, hD1⟩ := hB1
    rw [ht] at hP1
    obtain ⟨hP, hD⟩ := exjoinL hP hD hk1 hFc hP1 hD1
    generalize H1 = H at hP hS ⊢
    have hd16 := w16.1.1
    have hf16 := w16.1.2.2
    have hI := IX.fr hI w16.1 w16.2.1 (by decide) (by decide)
    have hR := RR.fx hR hd16 hf16 (by decide) (by decide)
    refine lv_pop hx hb (oc_87 1531 (aq_8 shL_law_1523)) rfl ?_
    refine lv_aload_n hx hb (oc_44 1532 (aq_9 shL_law_1523)) rfl (lvA2 hl) ?_
    refine lv_aload_n hx hb (oc_42 1533 (aq_10 shL_law_1523)) rfl (lvA0 hl) ?_
    refine lv_iload_n hx hb (oc_29 1534 (aq_11 shL_law_1523)) rfl (lvA3 hl) ?_
    refine lv_iconst (v := 1) hx hb (oc_4 1535 (aq_12 shL_law_1523)) kic_1 ?_
    refine lv_iadd hx hb (oc_96 1536 (aq_13 shL_law_1523)) ?_
    refine lv_topi (fun y_18 ey_18 => ?_)
    obtain rfl : y_18 = nI (i + 1) := ey_18.trans (nI_add i 1)
    refine va_sld hx hb hX hbl hbA hS (vp_in_nI (by omega) (by omega)) (oc_46 1537 (aq_14 shL_law_1523)) ?_
    refine lv_topi (fun y_19 ey_19 => ?_)
    obtain rfl : y_19 = xs (nI (i + 1)).toNatClampNeg := ey_19
    refine lv_aload_n hx hb (oc_42 1538 (aq_15 shL_law_1523)) rfl (lvA0 hl) ?_
    refine lv_iload_n hx hb (oc_29 1539 (aq_16 shL_law_1523)) rfl (lvA3 hl) ?_
    refine lv_iconst (v := 2) hx hb (oc_5 1540 (aq_17 shL_law_1523)) kic_2 ?_
    refine lv_iadd hx hb (oc_96 1541 (aq_18 shL_law_1523)) ?_
    refine lv_topi (fun y_20 ey_20 => ?_)
    obtain rfl : y_20 = nI (i + 2) := ey_20.trans (nI_add i 2)
    refine va_sld hx hb hX hbl hbA hS (vp_in_nI (by omega) (by omega)) (oc_46 1542 (aq_19 shL_law_1523)) ?_
    refine lv_topi (fun y_21 ey_21 => ?_)
    obtain rfl : y_21 = xs (nI (i + 2)).toNatClampNeg := ey_21
    refine lv_aload_n hx hb (oc_42 1543 (aq_20 shL_law_1523)) rfl (lvA0 hl) ?_
    refine lv_iload_n hx hb (oc_29 1544 (aq_21 shL_law_1523)) rfl (lvA3 hl) ?_
    refine lv_iconst (v := 3) hx hb (oc_6 1545 (aq_22 shL_law_1523)) kic_3 ?_
    refine lv_iadd hx hb (oc_96 1546 (aq_23 shL_law_1523)) ?_
    refine lv_topi (fun y_22 ey_22 => ?_)
    obtain rfl : y_22 = nI (i + 3) := ey_22.trans (nI_add i 3)
    refine va_sld hx hb hX hbl hbA hS (vp_in_nI (by omega) (by omega)) (oc_46 1547 shL_law_1547) ?_
    refine lv_topi (fun y_23 ey_23 => ?_)
    obtain rfl : y_23 = xs (nI (i + 3)).toNatClampNeg := ey_23
    refine lv_if_eq (tgt := 1555) hx hb (oc_153 1548 (aq_1 shL_law_1547) sgw_0_7) rfl (fun c_24 => False.elim (by have tc_24 : ((xs (nI (i + 3)).toNatClampNeg).toInt : Int) = 0 := congrArg Int32.toInt c_24; omega)) (fun c_24 => ?_)
    have tc_24 : ((xs (nI (i + 3)).toNatClampNeg).toInt : Int) ≠ 0 := fun q => c_24 (Int32.toInt_inj.mp q)
    refine lv_iconst (v := 1) hx hb (oc_4 1551 (aq_4 shL_law_1547)) kic_1 ?_
    refine lv_goto (tgt := 1556) hx hb (oc_167 1552 (aq_5 shL_law_1547) sgw_0_4) rfl ?_
    have hFc := free_all (exDr hD) hS hA
    refine va_calli (runV_a (As := [.int (xs (nI (i + 1)).toNatClampNeg), .int (xs (nI (i + 2)).toNatClampNeg), .int 1]) (rest := []) S (q_off l D cI cB cZ g2 c3 I3 F3 (xs (nI (i + 1)).toNatClampNeg) (xs (nI (i + 2)).toNatClampNeg) 1 H.size hM.1) kV_RL_173 hK (exPr hP) (exDr hD) 0 rfl rfl rfl ⟨Nat.le_of_ble_eq_true rfl, Nat.le_of_ble_eq_true rfl⟩ ⟨(by show K + 0 ≤ 600000; omega), (by show N + 0 ≤ 7302250; omega)⟩ rfl hl.1 rfl (Nat.le_of_ble_eq_true rfl) (oc_182 1556 (aq_9 shL_law_1547) uw_0_173)) hS (fun q _ h => hFc q h) hFc (fun r24 u t H1 locs ht hvm w24 hB1 hz1 hk1 hS => ?_)
    obtain ⟨c24, I24, F24⟩ := u
    obtain ⟨hP1, hD1⟩ := hB1
    rw [ht] at hP1
    obtain ⟨hP, hD⟩ := exjoin hP hD hk1 hFc hP1 hD1
    generalize H1 = H at hP hS ⊢
    obtain ⟨hM, hd24, hf24⟩ := imm_off hM w24
    have hR := RR.fm hR hd24 hf24 (by decide) (by decide)
    refine lv_pop hx hb (oc_87 1559 (aq_12 shL_law_1547)) rfl ?_
    refine lv_goto (tgt := 2269) hx hb (oc_167 1560 (aq_13 shL_law_1547) sgw_2_197) rfl ?_
    refine W.widen (k := K + 8) (n := N + 240) (by omega) (by omega) ?_
    exact kk _ _ _ _ _ _ _ _ _ hI hM hR hP hD hS ls hl
set_option maxRecDepth 100000 in
set_option maxHeartbeats 4000000 in
theorem lawc_37 {p : Program} {l : Launch} {e : Env} {s : State} {m : MethodId} {below : List Frame} {meth : Method} {c : Code} {b L : Nat} {xs : Nat → Int32} (C0 : lw_At p s m meth c b L xs) (hLN : L ≤ 3584) {A : Nat → Prop} (hA : ∀ q : Nat, s.heap.size ≤ q → A q) (hbA : ¬ A b) {D : va_G} {cI cB cZ : ClassId} {zz qq vv : Nat} {bt : Nat → Int32} {g g2 : Nat → Nat} (hK : KK D cI cB cZ s) (hXS : XS D zz qq vv bt A s s.heap) {ad : Nat → Nat → Nat} {cn : Nat → Nat} {In : Nat → Int32} {Fn : Nat → Nat → Int32} {c3 : Nat → Nat} {I3 : Nat → Int32} {F3 : Nat → Nat → Int32} (hI : IX ad cn Fn) (hM : IMM c3 F3) (hR : RR cn Fn c3 F3) {H : Heap} {locs : List Loc} (hP : va_P D vwCl (wX cI (D.1 99) zz g ad cn In Fn ++ wM cI cB cZ g2 c3 I3 F3) H) (hD : va_D A (wX cI (D.1 99) zz g ad cn In Fn ++ wM cI cB cZ g2 c3 I3 F3)) (hS : va_S A s.heap H locs) {K N i : Nat} (hi : i + 7 ≤ L) (hKN : K + 8 ≤ 600000 ∧ N + 240 ≤ 7302250) {ls : Array Slot} (hl : lv_has ls 4 [(0, .ref b), (1, .ref (g 0)), (2, .ref (g2 100)), (3, .int (nI i))]) (kk : ∀ (ad : Nat → Nat → Nat) (cn : Nat → Nat) (In : Nat → Int32) (Fn : Nat → Nat → Int32) (c3 : Nat → Nat) (I3 : Nat → Int32) (F3 : Nat → Nat → Int32) (H : Heap) (locs : List Loc), IX ad cn Fn → IMM c3 F3 → RR cn Fn c3 F3 → va_P D vwCl (wX cI (D.1 99) zz g ad cn In Fn ++ wM cI cB cZ g2 c3 I3 F3) H → va_D A (wX cI (D.1 99) zz g ad cn In Fn ++ wM cI cB cZ g2 c3 I3 F3) → va_S A s.heap H locs → ∀ ls : Array Slot, lv_has ls 4 [(0, .ref b), (1, .ref (g 0)), (2, .ref (g2 100)), (3, .int (nI i))] → W p l e room_1 s m #[Value.ref b] below meth c H locs (K + 8) (N + 240) (lw_Z below #[Value.ref b] s) (F0 m 2269 ls [])) : W p l e room_1 s m #[Value.ref b] below meth c H locs K N (lw_Z below #[Value.ref b] s) (F0 m 1563 ls []) := by
  obtain ⟨hx, hb, hr, hml, hown, hts, hX, hbl, hlocks, hgv⟩ := id C0
  have S : SF p m c code 4 s #[Value.ref b] RL := ⟨hx, hb, hml, hown, fun w h => hts w (wT_lw h)⟩
  refine lv_aload_n hx hb (oc_43 1563 (aq_16 shL_law_1547)) rfl (lvA1 hl) ?_
  refine lv_aload_n hx hb (oc_42 1564 (aq_17 shL_law_1547)) rfl (lvA0 hl) ?_
  refine lv_iload_n hx hb (oc_29 1565 (aq_18 shL_law_1547)) rfl (lvA3 hl) ?_
  refine lv_iconst (v := 1) hx hb (oc_4 1566 (aq_19 shL_law_1547)) kic_1 ?_
  refine lv_iadd hx hb (oc_96 1567 (aq_20 shL_law_1547)) ?_
  refine lv_topi (fun y_1 ey_1 => ?_)
  obtain rfl : y_1 = nI (i + 1) := ey_1.trans (nI_add i 1)
  refine va_sld hx hb hX hbl hbA hS (vp_in_nI (by omega) (by omega)) (oc_46 1568 (aq_21 shL_law_1547)) ?_
  refine lv_topi (fun y_2 ey_2 => ?_)
  obtain rfl : y_2 = xs (nI (i + 1)).toNatClampNeg := ey_2
  refine lv_aload_n hx hb (oc_42 1569 (aq_22 shL_law_1547)) rfl (lvA0 hl) ?_
  refine lv_iload_n hx hb (oc_29 1570 (aq_23 shL_law_1547)) rfl (lvA3 hl) ?_
  refine lv_iconst (v := 2) hx hb (oc_5 1571 shL_law_1571) kic_2 ?_
  refine lv_iadd hx hb (oc_96 1572 (aq_1 shL_law_1571)) ?_
  refine lv_topi (fun y_3 ey_3 => ?_)
  obtain rfl : y_3 = nI (i + 2) := ey_3.trans (nI_add i 2)
  refine va_sld hx hb hX hbl hbA hS (vp_in_nI (by omega) (by omega)) (oc_46 1573 (aq_2 shL_law_1571)) ?_
  refine lv_topi (fun y_4 ey_4 => ?_)
  obtain rfl : y_4 = xs (nI (i + 2)).toNatClampNeg := ey_4
  refine lv_aload_n hx hb (oc_42 1574 (aq_3 shL_law_1571)) rfl (lvA0 hl) ?_
  refine lv_iload_n hx hb (oc_29 1575 (aq_4 shL_law_1571)) rfl (lvA3 hl) ?_
  refine lv_iconst (v := 3) hx hb (oc_6 1576 (aq_5 shL_law_1571)) kic_3 ?_
  refine lv_iadd hx hb (oc_96 1577 (aq_6 shL_law_1571)) ?_
  refine lv_topi (fun y_5 ey_5 => ?_)
  obtain rfl : y_5 = nI (i + 3) := ey_5.trans (nI_add i 3)
  refine va_sld hx hb hX hbl hbA hS (vp_in_nI (by omega) (by omega)) (oc_46 1578 (aq_7 shL_law_1571)) ?_
  refine lv_topi (fun y_6 ey_6 => ?_)
  obtain rfl : y_6 = xs (nI (i + 3)).toNatClampNeg := ey_6
  have hFc := free_all (exD hD) hS hA
  refine va_calli (runV_xa (As := [.int (xs (nI (i + 1)).toNatClampNeg), .int (xs (nI (i + 2)).toNatClampNeg), .int (xs (nI (i + 3)).toNatClampNeg)]) (rest := []) S (q_Xshared l D cI cB cZ zz qq vv bt g ad cn In Fn (xs (nI (i + 1)).toNatClampNeg) (xs (nI (i + 2)).toNatClampNeg) (xs (nI (i + 3)).toNatClampNeg) H.size hI.1) kV_RL_174 hK hXS hS hFc (exP hP) (exD hD) 0 xo_0 rfl rfl ⟨Nat.le_of_ble_eq_true rfl, Nat.le_of_ble_eq_true rfl⟩ ⟨(by show K + 0 ≤ 600000; omega), (by show N + 0 ≤ 7302250; omega)⟩ rfl hl.1 rfl (Nat.le_of_ble_eq_true rfl) (oc_182 1579 (aq_8 shL_law_1571) uw_0_174)) hS (fun q _ h => hFc q h) hFc (fun r6 u t H1 locs ht hvm w6 hB1 hz1 hk1 hS => ?_)
  obtain ⟨c6, I6, F6⟩ := u
  obtain ⟨hP1, hD1⟩ := hB1
  rw [ht] at hP1
  obtain ⟨hP, hD⟩ := exjoinL hP hD hk1 hFc hP1 hD1
  generalize H1 = H at hP hS ⊢
  have hd6 := w6.1.1
  have hf6 := w6.1.2.2
  have hI := IX.fr hI w6.1 w6.2.1 (by decide) (by decide)
  have hR := RR.fx hR hd6 hf6 (by decide) (by decide)
  refine lv_pop hx hb (oc_87 1582 (aq_11 shL_law_1571)) rfl ?_
  refine lv_aload_n hx hb (oc_44 1583 (aq_12 shL_law_1571)) rfl (lvA2 hl) ?_
  refine lv_aload_n hx hb (oc_42 1584 (aq_13 shL_law_1571)) rfl (lvA0 hl) ?_
  refine lv_iload_n hx hb (oc_29 1585 (aq_14 shL_law_1571)) rfl (lvA3 hl) ?_
  refine lv_iconst (v := 1) hx hb (oc_4 1586 (aq_15 shL_law_1571)) kic_1 ?_
  refine lv_iadd hx hb (oc_96 1587 (aq_16 shL_law_1571)) ?_
  refine lv_topi (fun y_8 ey_8 => ?_)
  obtain rfl : y_8 = nI (i + 1) := ey_8.trans (nI_add i 1)
  refine va_sld hx hb hX hbl hbA hS (vp_in_nI (by omega) (by omega)) (oc_46 1588 (aq_17 shL_law_1571)) ?_
  refine lv_topi (fun y_9 ey_9 => ?_)
  obtain rfl : y_9 = xs (nI (i + 1)).toNatClampNeg := ey_9
  refine lv_aload_n hx hb (oc_42 1589 (aq_18 shL_law_1571)) rfl (lvA0 hl) ?_
  refine lv_iload_n hx hb (oc_29 1590 (aq_19 shL_law_1571)) rfl (lvA3 hl) ?_
  refine lv_iconst (v := 2) hx hb (oc_5 1591 (aq_20 shL_law_1571)) kic_2 ?_
  refine lv_iadd hx hb (oc_96 1592 (aq_21 shL_law_1571)) ?_
  refine lv_topi (fun y_10 ey_10 => ?_)
  obtain rfl : y_10 = nI (i + 2) := ey_10.trans (nI_add i 2)
  refine va_sld hx hb hX hbl hbA hS (vp_in_nI (by omega) (by omega)) (oc_46 1593 (aq_22 shL_law_1571)) ?_
  refine lv_topi (fun y_11 ey_11 => ?_)
  obtain rfl : y_11 = xs (nI (i + 2)).toNatClampNeg := ey_11
  refine lv_aload_n hx hb (oc_42 1594 (aq_23 shL_law_1571)) rfl (lvA0 hl) ?_
  refine lv_iload_n hx hb (oc_29 1595 shL_law_1595) rfl (lvA3 hl) ?_
  refine lv_iconst (v := 3) hx hb (oc_6 1596 (aq_1 shL_law_1595)) kic_3 ?_
  refine lv_iadd hx hb (oc_96 1597 (aq_2 shL_law_1595)) ?_
  refine lv_topi (fun y_12 ey_12 => ?_)
  obtain rfl : y_12 = nI (i + 3) := ey_12.trans (nI_add i 3)
  refine va_sld hx hb hX hbl hbA hS (vp_in_nI (by omega) (by omega)) (oc_46 1598 (aq_3 shL_law_1595)) ?_
  refine lv_topi (fun y_13 ey_13 => ?_)
  obtain rfl : y_13 = xs (nI (i + 3)).toNatClampNeg := ey_13
  have hFc := free_all (exDr hD) hS hA
  refine va_calli (runV_a (As := [.int (xs (nI (i + 1)).toNatClampNeg), .int (xs (nI (i + 2)).toNatClampNeg), .int (xs (nI (i + 3)).toNatClampNeg)]) (rest := []) S (q_shared l D cI cB cZ g2 c3 I3 F3 (xs (nI (i + 1)).toNatClampNeg) (xs (nI (i + 2)).toNatClampNeg) (xs (nI (i + 3)).toNatClampNeg) H.size hM.1) kV_RL_177 hK (exPr hP) (exDr hD) 0 rfl rfl rfl ⟨Nat.le_of_ble_eq_true rfl, Nat.le_of_ble_eq_true rfl⟩ ⟨(by show K + 0 ≤ 600000; omega), (by show N + 0 ≤ 7302250; omega)⟩ rfl hl.1 rfl (Nat.le_of_ble_eq_true rfl) (oc_182 1599 (aq_4 shL_law_1595) uw_0_177)) hS (fun q _ h => hFc q h) hFc (fun r13 u t H1 locs ht hvm w13 hB1 hz1 hk1 hS => ?_)
  obtain ⟨c13, I13, F13⟩ := u
  obtain ⟨hP1, hD1⟩ := hB1
  rw [ht] at hP1
  obtain ⟨hP, hD⟩ := exjoin hP hD hk1 hFc hP1 hD1
  generalize H1 = H at hP hS ⊢
  obtain ⟨hM, hd13, hf13⟩ := imm_shared hM w13
  have hR := RR.fm hR hd13 hf13 (by decide) (by decide)
  refine lv_pop hx hb (oc_87 1602 (aq_7 shL_law_1595)) rfl ?_
  refine lv_goto (tgt := 2269) hx hb (oc_167 1603 (aq_8 shL_law_1595) sgw_2_154) rfl ?_
  refine W.widen (k := K + 8) (n := N + 240) (by omega) (by omega) ?_
  exact kk _ _ _ _ _ _ _ _ _ hI hM hR hP hD hS ls hl
set_option maxRecDepth 100000 in
set_option maxHeartbeats 4000000 in
theorem lawc_38 {p : Program} {l : Launch} {e : Env} {s : State} {m : MethodId} {below : List Frame} {meth : Method} {c : Code} {b L : Nat} {xs : Nat → Int32} (C0 : lw_At p s m meth c b L xs) (hLN : L ≤ 3584) {A : Nat → Prop} (hA : ∀ q : Nat, s.heap.size ≤ q → A q) (hbA : ¬ A b) {D : va_G} {cI cB cZ : ClassId} {zz qq vv : Nat} {bt : Nat → Int32} {g g2 : Nat → Nat} (hK : KK D cI cB cZ s) (hXS : XS D zz qq vv bt A s s.heap) {ad : Nat → Nat → Nat} {cn : Nat → Nat} {In : Nat → Int32} {Fn : Nat → Nat → Int32} {c3 : Nat → Nat} {I3 : Nat → Int32} {F3 : Nat → Nat → Int32} (hI : IX ad cn Fn) (hM : IMM c3 F3) (hR : RR cn Fn c3 F3) {H : Heap} {locs : List Loc} (hP : va_P D vwCl (wX cI (D.1 99) zz g ad cn In Fn ++ wM cI cB cZ g2 c3 I3 F3) H) (hD : va_D A (wX cI (D.1 99) zz g ad cn In Fn ++ wM cI cB cZ g2 c3 I3 F3)) (hS : va_S A s.heap H locs) {K N i : Nat} (hi : i + 7 ≤ L) (hKN : K + 8 ≤ 600000 ∧ N + 240 ≤ 7302250) {ls : Array Slot} (hl : lv_has ls 4 [(0, .ref b), (1, .ref (g 0)), (2, .ref (g2 100)), (3, .int (nI i))]) (kk : ∀ (ad : Nat → Nat → Nat) (cn : Nat → Nat) (In : Nat → Int32) (Fn : Nat → Nat → Int32) (c3 : Nat → Nat) (I3 : Nat → Int32) (F3 : Nat → Nat → Int32) (H : Heap) (locs : List Loc), IX ad cn Fn → IMM c3 F3 → RR cn Fn c3 F3 → va_P D vwCl (wX cI (D.1 99) zz g ad cn In Fn ++ wM cI cB cZ g2 c3 I3 F3) H → va_D A (wX cI (D.1 99) zz g ad cn In Fn ++ wM cI cB cZ g2 c3 I3 F3) → va_S A s.heap H locs → ∀ ls : Array Slot, lv_has ls 4 [(0, .ref b), (1, .ref (g 0)), (2, .ref (g2 100)), (3, .int (nI i))] → W p l e room_1 s m #[Value.ref b] below meth c H locs (K + 8) (N + 240) (lw_Z below #[Value.ref b] s) (F0 m 2269 ls [])) : W p l e room_1 s m #[Value.ref b] below meth c H locs K N (lw_Z below #[Value.ref b] s) (F0 m 1606 ls []) := by
  obtain ⟨hx, hb, hr, hml, hown, hts, hX, hbl, hlocks, hgv⟩ := id C0
  have S : SF p m c code 4 s #[Value.ref b] RL := ⟨hx, hb, hml, hown, fun w h => hts w (wT_lw h)⟩
  refine lv_aload_n hx hb (oc_43 1606 (aq_11 shL_law_1595)) rfl (lvA1 hl) ?_
  refine lv_aload_n hx hb (oc_42 1607 (aq_12 shL_law_1595)) rfl (lvA0 hl) ?_
  refine lv_iload_n hx hb (oc_29 1608 (aq_13 shL_law_1595)) rfl (lvA3 hl) ?_
  refine lv_iconst (v := 1) hx hb (oc_4 1609 (aq_14 shL_law_1595)) kic_1 ?_
  refine lv_iadd hx hb (oc_96 1610 (aq_15 shL_law_1595)) ?_
  refine lv_topi (fun y_1 ey_1 => ?_)
  obtain rfl : y_1 = nI (i + 1) := ey_1.trans (nI_add i 1)
  refine va_sld hx hb hX hbl hbA hS (vp_in_nI (by omega) (by omega)) (oc_46 1611 (aq_16 shL_law_1595)) ?_
  refine lv_topi (fun y_2 ey_2 => ?_)
  obtain rfl : y_2 = xs (nI (i + 1)).toNatClampNeg := ey_2
  refine lv_aload_n hx hb (oc_42 1612 (aq_17 shL_law_1595)) rfl (lvA0 hl) ?_
  refine lv_iload_n hx hb (oc_29 1613 (aq_18 shL_law_1595)) rfl (lvA3 hl) ?_
  refine lv_iconst (v := 2) hx hb (oc_5 1614 (aq_19 shL_law_1595)) kic_2 ?_
  refine lv_iadd hx hb (oc_96 1615 (aq_20 shL_law_1595)) ?_
  refine lv_topi (fun y_3 ey_3 => ?_)
  obtain rfl : y_3 = nI (i + 2) := ey_3.trans (nI_add i 2)
  refine va_sld hx hb hX hbl hbA hS (vp_in_nI (by omega) (by omega)) (oc_46 1616 (aq_21 shL_law_1595)) ?_
  refine lv_topi (fun y_4 ey_4 => ?_)
  obtain rfl : y_4 = xs (nI (i + 2)).toNatClampNeg := ey_4
  refine lv_aload_n hx hb (oc_42 1617 (aq_22 shL_law_1595)) rfl (lvA0 hl) ?_
  refine lv_iload_n hx hb (oc_29 1618 (aq_23 shL_law_1595)) rfl (lvA3 hl) ?_
  refine lv_iconst (v := 3) hx hb (oc_6 1619 shL_law_1619) kic_3 ?_
  refine lv_iadd hx hb (oc_96 1620 (aq_1 shL_law_1619)) ?_
  refine lv_topi (fun y_5 ey_5 => ?_)
  obtain rfl : y_5 = nI (i + 3) := ey_5.trans (nI_add i 3)
  refine va_sld hx hb hX hbl hbA hS (vp_in_nI (by omega) (by omega)) (oc_46 1621 (aq_2 shL_law_1619)) ?_
  refine lv_topi (fun y_6 ey_6 => ?_)
  obtain rfl : y_6 = xs (nI (i + 3)).toNatClampNeg := ey_6
  refine lv_aload_n hx hb (oc_42 1622 (aq_3 shL_law_1619)) rfl (lvA0 hl) ?_
  refine lv_iload_n hx hb (oc_29 1623 (aq_4 shL_law_1619)) rfl (lvA3 hl) ?_
  refine lv_iconst (v := 4) hx hb (oc_7 1624 (aq_5 shL_law_1619)) kic_4 ?_
  refine lv_iadd hx hb (oc_96 1625 (aq_6 shL_law_1619)) ?_
  refine lv_topi (fun y_7 ey_7 => ?_)
  obtain rfl : y_7 = nI (i + 4) := ey_7.trans (nI_add i 4)
  refine va_sld hx hb hX hbl hbA hS (vp_in_nI (by omega) (by omega)) (oc_46 1626 (aq_7 shL_law_1619)) ?_
  refine lv_topi (fun y_8 ey_8 => ?_)
  obtain rfl : y_8 = xs (nI (i + 4)).toNatClampNeg := ey_8
  have hFc := free_all (exD hD) hS hA
  refine va_calli (runV_xa (As := [.int (xs (nI (i + 1)).toNatClampNeg), .int (xs (nI (i + 2)).toNatClampNeg), .int (xs (nI (i + 3)).toNatClampNeg), .int (xs (nI (i + 4)).toNatClampNeg)]) (rest := []) S (q_Xnights l D cI cB cZ zz qq vv bt g ad cn In Fn (xs (nI (i + 1)).toNatClampNeg) (xs (nI (i + 2)).toNatClampNeg) (xs (nI (i + 3)).toNatClampNeg) (xs (nI (i + 4)).toNatClampNeg) H.size hI.1) kV_RL_178 hK hXS hS hFc (exP hP) (exD hD) 0 xo_0 rfl rfl ⟨Nat.le_of_ble_eq_true rfl, Nat.le_of_ble_eq_true rfl⟩ ⟨(by show K + 0 ≤ 600000; omega), (by show N + 0 ≤ 7302250; omega)⟩ rfl hl.1 rfl (Nat.le_of_ble_eq_true rfl) (oc_182 1627 (aq_8 shL_law_1619) uw_0_178)) hS (fun q _ h => hFc q h) hFc (fun r8 u t H1 locs ht hvm w8 hB1 hz1 hk1 hS => ?_)
  obtain ⟨c8, I8, F8⟩ := u
  obtain ⟨hP1, hD1⟩ := hB1
  rw [ht] at hP1
  obtain ⟨hP, hD⟩ := exjoinL hP hD hk1 hFc hP1 hD1
  generalize H1 = H at hP hS ⊢
  have hd8 := w8.1.1
  have hf8 := w8.1.2.2
  have hI := IX.fr hI w8.1 w8.2.1 (by decide) (by decide)
  have hR := RR.fx hR hd8 hf8 (by decide) (by decide)
  refine lv_pop hx hb (oc_87 1630 (aq_11 shL_law_1619)) rfl ?_
  refine lv_aload_n hx hb (oc_44 1631 (aq_12 shL_law_1619)) rfl (lvA2 hl) ?_
  refine lv_aload_n hx hb (oc_42 1632 (aq_13 shL_law_1619)) rfl (lvA0 hl) ?_
  refine lv_iload_n hx hb (oc_29 1633 (aq_14 shL_law_1619)) rfl (lvA3 hl) ?_
  refine lv_iconst (v := 1) hx hb (oc_4 1634 (aq_15 shL_law_1619)) kic_1 ?_
  refine lv_iadd hx hb (oc_96 1635 (aq_16 shL_law_1619)) ?_
  refine lv_topi (fun y_10 ey_10 => ?_)
  obtain rfl : y_10 = nI (i + 1) := ey_10.trans (nI_add i 1)
  refine va_sld hx hb hX hbl hbA hS (vp_in_nI (by omega) (by omega)) (oc_46 1636 (aq_17 shL_law_1619)) ?_
  refine lv_topi (fun y_11 ey_11 => ?_)
  obtain rfl : y_11 = xs (nI (i + 1)).toNatClampNeg := ey_11
  refine lv_aload_n hx hb (oc_42 1637 (aq_18 shL_law_1619)) rfl (lvA0 hl) ?_
  refine lv_iload_n hx hb (oc_29 1638 (aq_19 shL_law_1619)) rfl (lvA3 hl) ?_
  refine lv_iconst (v := 2) hx hb (oc_5 1639 (aq_20 shL_law_1619)) kic_2 ?_
  refine lv_iadd hx hb (oc_96 1640 (aq_21 shL_law_1619)) ?_
  refine lv_topi (fun y_12 ey_12 => ?_)
  obtain rfl : y_12 = nI (i + 2) := ey_12.trans (nI_add i 2)
  refine va_sld hx hb hX hbl hbA hS (vp_in_nI (by omega) (by omega)) (oc_46 1641 (aq_22 shL_law_1619)) ?_
  refine lv_topi (fun y_13 ey_13 => ?_)
  obtain rfl : y_13 = xs (nI (i + 2)).toNatClampNeg := ey_13
  refine lv_aload_n hx hb (oc_42 1642 (aq_23 shL_law_1619)) rfl (lvA0 hl) ?_
  refine lv_iload_n hx hb (oc_29 1643 shL_law_1643) rfl (lvA3 hl) ?_
  refine lv_iconst (v := 3) hx hb (oc_6 1644 (aq_1 shL_law_1643)) kic_3 ?_
  refine lv_iadd hx hb (oc_96 1645 (aq_2 shL_law_1643)) ?_
  refine lv_topi (fun y_14 ey_14 => ?_)
  obtain rfl : y_14 = nI (i + 3) := ey_14.trans (nI_add i 3)
  refine va_sld hx hb hX hbl hbA hS (vp_in_nI (by omega) (by omega)) (oc_46 1646 (aq_3 shL_law_1643)) ?_
  refine lv_topi (fun y_15 ey_15 => ?_)
  obtain rfl : y_15 = xs (nI (i + 3)).toNatClampNeg := ey_15
  refine lv_aload_n hx hb (oc_42 1647 (aq_4 shL_law_1643)) rfl (lvA0 hl) ?_
  refine lv_iload_n hx hb (oc_29 1648 (aq_5 shL_law_1643)) rfl (lvA3 hl) ?_
  refine lv_iconst (v := 4) hx hb (oc_7 1649 (aq_6 shL_law_1643)) kic_4 ?_
  refine lv_iadd hx hb (oc_96 1650 (aq_7 shL_law_1643)) ?_
  refine lv_topi (fun y_16 ey_16 => ?_)
  obtain rfl : y_16 = nI (i + 4) := ey_16.trans (nI_add i 4)
  refine va_sld hx hb hX hbl hbA hS (vp_in_nI (by omega) (by omega)) (oc_46 1651 (aq_8 shL_law_1643)) ?_
  refine lv_topi (fun y_17 ey_17 => ?_)
  obtain rfl : y_17 = xs (nI (i + 4)).toNatClampNeg := ey_17
  have hFc := free_all (exDr hD) hS hA
  refine va_calli (runV_a (As := [.int (xs (nI (i + 1)).toNatClampNeg), .int (xs (nI (i + 2)).toNatClampNeg), .int (xs (nI (i + 3)).toNatClampNeg), .int (xs (nI (i + 4)).toNatClampNeg)]) (rest := []) S (q_nights l D cI cB cZ g2 c3 I3 F3 (xs (nI (i + 1)).toNatClampNeg) (xs (nI (i + 2)).toNatClampNeg) (xs (nI (i + 3)).toNatClampNeg) (xs (nI (i + 4)).toNatClampNeg) H.size hM.1) kV_RL_181 hK (exPr hP) (exDr hD) 0 rfl rfl rfl ⟨Nat.le_of_ble_eq_true rfl, Nat.le_of_ble_eq_true rfl⟩ ⟨(by show K + 0 ≤ 600000; omega), (by show N + 0 ≤ 7302250; omega)⟩ rfl hl.1 rfl (Nat.le_of_ble_eq_true rfl) (oc_182 1652 (aq_9 shL_law_1643) uw_0_181)) hS (fun q _ h => hFc q h) hFc (fun r17 u t H1 locs ht hvm w17 hB1 hz1 hk1 hS => ?_)
  obtain ⟨c17, I17, F17⟩ := u
  obtain ⟨hP1, hD1⟩ := hB1
  rw [ht] at hP1
  obtain ⟨hP, hD⟩ := exjoin hP hD hk1 hFc hP1 hD1
  generalize H1 = H at hP hS ⊢
  obtain ⟨hM, hd17, hf17⟩ := imm_nights hM w17
  have hR := RR.fm hR hd17 hf17 (by decide) (by decide)
  refine lv_pop hx hb (oc_87 1655 (aq_12 shL_law_1643)) rfl ?_
  refine lv_goto (tgt := 2269) hx hb (oc_167 1656 (aq_13 shL_law_1643) sgw_2_101) rfl ?_
  refine W.widen (k := K + 8) (n := N + 240) (by omega) (by omega) ?_
  exact kk _ _ _ _ _ _ _ _ _ hI hM hR hP hD hS ls hl
set_option maxRecDepth 100000 in
set_option maxHeartbeats 4000000 in
theorem lawc_39 {p : Program} {l : Launch} {e : Env} {s : State} {m : MethodId} {below : List Frame} {meth : Method} {c : Code} {b L : Nat} {xs : Nat → Int32} (C0 : lw_At p s m meth c b L xs) (hLN : L ≤ 3584) {A : Nat → Prop} (hA : ∀ q : Nat, s.heap.size ≤ q → A q) (hbA : ¬ A b) {D : va_G} {cI cB cZ : ClassId} {zz qq vv : Nat} {bt : Nat → Int32} {g g2 : Nat → Nat} (hK : KK D cI cB cZ s) (hXS : XS D zz qq vv bt A s s.heap) {ad : Nat → Nat → Nat} {cn : Nat → Nat} {In : Nat → Int32} {Fn : Nat → Nat → Int32} {c3 : Nat → Nat} {I3 : Nat → Int32} {F3 : Nat → Nat → Int32} (hI : IX ad cn Fn) (hM : IMM c3 F3) (hR : RR cn Fn c3 F3) {H : Heap} {locs : List Loc} (hP : va_P D vwCl (wX cI (D.1 99) zz g ad cn In Fn ++ wM cI cB cZ g2 c3 I3 F3) H) (hD : va_D A (wX cI (D.1 99) zz g ad cn In Fn ++ wM cI cB cZ g2 c3 I3 F3)) (hS : va_S A s.heap H locs) {K N i : Nat} (hi : i + 7 ≤ L) (hKN : K + 8 ≤ 600000 ∧ N + 240 ≤ 7302250) {ls : Array Slot} (hl : lv_has ls 4 [(0, .ref b), (1, .ref (g 0)), (2, .ref (g2 100)), (3, .int (nI i))]) (kk : ∀ (ad : Nat → Nat → Nat) (cn : Nat → Nat) (In : Nat → Int32) (Fn : Nat → Nat → Int32) (c3 : Nat → Nat) (I3 : Nat → Int32) (F3 : Nat → Nat → Int32) (H : Heap) (locs : List Loc), IX ad cn Fn → IMM c3 F3 → RR cn Fn c3 F3 → va_P D vwCl (wX cI (D.1 99) zz g ad cn In Fn ++ wM cI cB cZ g2 c3 I3 F3) H → va_D A (wX cI (D.1 99) zz g ad cn In Fn ++ wM cI cB cZ g2 c3 I3 F3) → va_S A s.heap H locs → ∀ ls : Array Slot, lv_has ls 4 [(0, .ref b), (1, .ref (g 0)), (2, .ref (g2 100)), (3, .int (nI i))] → W p l e room_1 s m #[Value.ref b] below meth c H locs (K + 8) (N + 240) (lw_Z below #[Value.ref b] s) (F0 m 2269 ls [])) : W p l e room_1 s m #[Value.ref b] below meth c H locs K N (lw_Z below #[Value.ref b] s) (F0 m 1659 ls []) := by
  obtain ⟨hx, hb, hr, hml, hown, hts, hX, hbl, hlocks, hgv⟩ := id C0
  have S : SF p m c code 4 s #[Value.ref b] RL := ⟨hx, hb, hml, hown, fun w h => hts w (wT_lw h)⟩
  refine lv_aload_n hx hb (oc_43 1659 (aq_16 shL_law_1643)) rfl (lvA1 hl) ?_
  refine lv_aload_n hx hb (oc_42 1660 (aq_17 shL_law_1643)) rfl (lvA0 hl) ?_
  refine lv_iload_n hx hb (oc_29 1661 (aq_18 shL_law_1643)) rfl (lvA3 hl) ?_
  refine lv_iconst (v := 1) hx hb (oc_4 1662 (aq_19 shL_law_1643)) kic_1 ?_
  refine lv_iadd hx hb (oc_96 1663 (aq_20 shL_law_1643)) ?_
  refine lv_topi (fun y_1 ey_1 => ?_)
  obtain rfl : y_1 = nI (i + 1) := ey_1.trans (nI_add i 1)
  refine va_sld hx hb hX hbl hbA hS (vp_in_nI (by omega) (by omega)) (oc_46 1664 (aq_21 shL_law_1643)) ?_
  refine lv_topi (fun y_2 ey_2 => ?_)
  obtain rfl : y_2 = xs (nI (i + 1)).toNatClampNeg := ey_2
  refine lv_aload_n hx hb (oc_42 1665 (aq_22 shL_law_1643)) rfl (lvA0 hl) ?_
  refine lv_iload_n hx hb (oc_29 1666 (aq_23 shL_law_1643)) rfl (lvA3 hl) ?_
  refine lv_iconst (v := 2) hx hb (oc_5 1667 shL_law_1667) kic_2 ?_
  refine lv_iadd hx hb (oc_96 1668 (aq_1 shL_law_1667)) ?_
  refine lv_topi (fun y_3 ey_3 => ?_)
  obtain rfl : y_3 = nI (i + 2) := ey_3.trans (nI_add i 2)
  refine va_sld hx hb hX hbl hbA hS (vp_in_nI (by omega) (by omega)) (oc_46 1669 (aq_2 shL_law_1667)) ?_
  refine lv_topi (fun y_4 ey_4 => ?_)
  obtain rfl : y_4 = xs (nI (i + 2)).toNatClampNeg := ey_4
  have hFc := free_all (exD hD) hS hA
  refine va_calli (runV_xa (As := [.int (xs (nI (i + 1)).toNatClampNeg), .int (xs (nI (i + 2)).toNatClampNeg)]) (rest := []) S (q_Xfeast l D cI cB cZ zz qq vv bt g ad cn In Fn (xs (nI (i + 1)).toNatClampNeg) (xs (nI (i + 2)).toNatClampNeg) H.size hI.1) kV_RL_182 hK hXS hS hFc (exP hP) (exD hD) 0 xo_0 rfl rfl ⟨Nat.le_of_ble_eq_true rfl, Nat.le_of_ble_eq_true rfl⟩ ⟨(by show K + 0 ≤ 600000; omega), (by show N + 0 ≤ 7302250; omega)⟩ rfl hl.1 rfl (Nat.le_of_ble_eq_true rfl) (oc_182 1670 (aq_3 shL_law_1667) uw_0_182)) hS (fun q _ h => hFc q h) hFc (fun r4 u t H1 locs ht hvm w4 hB1 hz1 hk1 hS => ?_)
  obtain ⟨c4, I4, F4⟩ := u
  obtain ⟨hP1, hD1⟩ := hB1
  rw [ht] at hP1
  obtain ⟨hP, hD⟩ := exjoinL hP hD hk1 hFc hP1 hD1
  generalize H1 = H at hP hS ⊢
  have hd4 := w4.1.1
  have hf4 := w4.1.2.2
  have hI := IX.fr hI w4.1 w4.2.1 (by decide) (by decide)
  have hR := RR.fx hR hd4 hf4 (by decide) (by decide)
  refine lv_pop hx hb (oc_87 1673 (aq_6 shL_law_1667)) rfl ?_
  refine lv_aload_n hx hb (oc_44 1674 (aq_7 shL_law_1667)) rfl (lvA2 hl) ?_
  refine lv_aload_n hx hb (oc_42 1675 (aq_8 shL_law_1667)) rfl (lvA0 hl) ?_
  refine lv_iload_n hx hb (oc_29 1676 (aq_9 shL_law_1667)) rfl (lvA3 hl) ?_
  refine lv_iconst (v := 1) hx hb (oc_4 1677 (aq_10 shL_law_1667)) kic_1 ?_
  refine lv_iadd hx hb (oc_96 1678 (aq_11 shL_law_1667)) ?_
  refine lv_topi (fun y_6 ey_6 => ?_)
  obtain rfl : y_6 = nI (i + 1) := ey_6.trans (nI_add i 1)
  refine va_sld hx hb hX hbl hbA hS (vp_in_nI (by omega) (by omega)) (oc_46 1679 (aq_12 shL_law_1667)) ?_
  refine lv_topi (fun y_7 ey_7 => ?_)
  obtain rfl : y_7 = xs (nI (i + 1)).toNatClampNeg := ey_7
  refine lv_aload_n hx hb (oc_42 1680 (aq_13 shL_law_1667)) rfl (lvA0 hl) ?_
  refine lv_iload_n hx hb (oc_29 1681 (aq_14 shL_law_1667)) rfl (lvA3 hl) ?_
  refine lv_iconst (v := 2) hx hb (oc_5 1682 (aq_15 shL_law_1667)) kic_2 ?_
  refine lv_iadd hx hb (oc_96 1683 (aq_16 shL_law_1667)) ?_
  refine lv_topi (fun y_8 ey_8 => ?_)
  obtain rfl : y_8 = nI (i + 2) := ey_8.trans (nI_add i 2)
  refine va_sld hx hb hX hbl hbA hS (vp_in_nI (by omega) (by omega)) (oc_46 1684 (aq_17 shL_law_1667)) ?_
  refine lv_topi (fun y_9 ey_9 => ?_)
  obtain rfl : y_9 = xs (nI (i + 2)).toNatClampNeg := ey_9
  have hFc := free_all (exDr hD) hS hA
  refine va_calli (runV_a (As := [.int (xs (nI (i + 1)).toNatClampNeg), .int (xs (nI (i + 2)).toNatClampNeg)]) (rest := []) S (q_feast l D cI cB cZ g2 c3 I3 F3 (xs (nI (i + 1)).toNatClampNeg) (xs (nI (i + 2)).toNatClampNeg) H.size hM.1) kV_RL_185 hK (exPr hP) (exDr hD) 0 rfl rfl rfl ⟨Nat.le_of_ble_eq_true rfl, Nat.le_of_ble_eq_true rfl⟩ ⟨(by show K + 0 ≤ 600000; omega), (by show N + 0 ≤ 7302250; omega)⟩ rfl hl.1 rfl (Nat.le_of_ble_eq_true rfl) (oc_182 1685 (aq_18 shL_law_1667) uw_0_185)) hS (fun q _ h => hFc q h) hFc (fun r9 u t H1 locs ht hvm w9 hB1 hz1 hk1 hS => ?_)
  obtain ⟨c9, I9, F9⟩ := u
  obtain ⟨hP1, hD1⟩ := hB1
  rw [ht] at hP1
  obtain ⟨hP, hD⟩ := exjoin hP hD hk1 hFc hP1 hD1
  generalize H1 = H at hP hS ⊢
  obtain ⟨hM, hd9, hf9⟩ := imm_feast hM w9
  have hR := RR.fm hR hd9 hf9 (by decide) (by decide)
  refine lv_pop hx hb (oc_87 1688 (aq_21 shL_law_1667)) rfl ?_
  refine lv_goto (tgt := 2269) hx hb (oc_167 1689 (aq_22 shL_law_1667) sgw_2_68) rfl ?_
  refine W.widen (k := K + 8) (n := N + 240) (by omega) (by omega) ?_
  exact kk _ _ _ _ _ _ _ _ _ hI hM hR hP hD hS ls hl
set_option maxRecDepth 100000 in
set_option maxHeartbeats 4000000 in
theorem lawc_40 {p : Program} {l : Launch} {e : Env} {s : State} {m : MethodId} {below : List Frame} {meth : Method} {c : Code} {b L : Nat} {xs : Nat → Int32} (C0 : lw_At p s m meth c b L xs) (hLN : L ≤ 3584) {A : Nat → Prop} (hA : ∀ q : Nat, s.heap.size ≤ q → A q) (hbA : ¬ A b) {D : va_G} {cI cB cZ : ClassId} {zz qq vv : Nat} {bt : Nat → Int32} {g g2 : Nat → Nat} (hK : KK D cI cB cZ s) (hXS : XS D zz qq vv bt A s s.heap) {ad : Nat → Nat → Nat} {cn : Nat → Nat} {In : Nat → Int32} {Fn : Nat → Nat → Int32} {c3 : Nat → Nat} {I3 : Nat → Int32} {F3 : Nat → Nat → Int32} (hI : IX ad cn Fn) (hM : IMM c3 F3) (hR : RR cn Fn c3 F3) {H : Heap} {locs : List Loc} (hP : va_P D vwCl (wX cI (D.1 99) zz g ad cn In Fn ++ wM cI cB cZ g2 c3 I3 F3) H) (hD : va_D A (wX cI (D.1 99) zz g ad cn In Fn ++ wM cI cB cZ g2 c3 I3 F3)) (hS : va_S A s.heap H locs) {K N i : Nat} (hi : i + 7 ≤ L) (hKN : K + 8 ≤ 600000 ∧ N + 240 ≤ 7302250) {ls : Array Slot} (hl : lv_has ls 4 [(0, .ref b), (1, .ref (g 0)), (2, .ref (g2 100)), (3, .int (nI i))]) (kk : ∀ (ad : Nat → Nat → Nat) (cn : Nat → Nat) (In : Nat → Int32) (Fn : Nat → Nat → Int32) (c3 : Nat → Nat) (I3 : Nat → Int32) (F3 : Nat → Nat → Int32) (H : Heap) (locs : List Loc), IX ad cn Fn → IMM c3 F3 → RR cn Fn c3 F3 → va_P D vwCl (wX cI (D.1 99) zz g ad cn In Fn ++ wM cI cB cZ g2 c3 I3 F3) H → va_D A (wX cI (D.1 99) zz g ad cn In Fn ++ wM cI cB cZ g2 c3 I3 F3) → va_S A s.heap H locs → ∀ ls : Array Slot, lv_has ls 4 [(0, .ref b), (1, .ref (g 0)), (2, .ref (g2 100)), (3, .int (nI i))] → W p l e room_1 s m #[Value.ref b] below meth c H locs (K + 8) (N + 240) (lw_Z below #[Value.ref b] s) (F0 m 2269 ls [])) : W p l e room_1 s m #[Value.ref b] below meth c H locs K N (lw_Z below #[Value.ref b] s) (F0 m 1692 ls []) := by
  obtain ⟨hx, hb, hr, hml, hown, hts, hX, hbl, hlocks, hgv⟩ := id C0
  have S : SF p m c code 4 s #[Value.ref b] RL := ⟨hx, hb, hml, hown, fun w h => hts w (wT_lw h)⟩
  refine lv_aload_n hx hb (oc_43 1692 shL_law_1692) rfl (lvA1 hl) ?_
  refine lv_aload_n hx hb (oc_42 1693 (aq_1 shL_law_1692)) rfl (lvA0 hl) ?_
  refine lv_iload_n hx hb (oc_29 1694 (aq_2 shL_law_1692)) rfl (lvA3 hl) ?_
  refine lv_iconst (v := 1) hx hb (oc_4 1695 (aq_3 shL_law_1692)) kic_1 ?_
  refine lv_iadd hx hb (oc_96 1696 (aq_4 shL_law_1692)) ?_
  refine lv_topi (fun y_1 ey_1 => ?_)
  obtain rfl : y_1 = nI (i + 1) := ey_1.trans (nI_add i 1)
  refine va_sld hx hb hX hbl hbA hS (vp_in_nI (by omega) (by omega)) (oc_46 1697 (aq_5 shL_law_1692)) ?_
  refine lv_topi (fun y_2 ey_2 => ?_)
  obtain rfl : y_2 = xs (nI (i + 1)).toNatClampNeg := ey_2
  refine lv_aload_n hx hb (oc_42 1698 (aq_6 shL_law_1692)) rfl (lvA0 hl) ?_
  refine lv_iload_n hx hb (oc_29 1699 (aq_7 shL_law_1692)) rfl (lvA3 hl) ?_
  refine lv_iconst (v := 2) hx hb (oc_5 1700 (aq_8 shL_law_1692)) kic_2 ?_
  refine lv_iadd hx hb (oc_96 1701 (aq_9 shL_law_1692)) ?_
  refine lv_topi (fun y_3 ey_3 => ?_)
  obtain rfl : y_3 = nI (i + 2) := ey_3.trans (nI_add i 2)
  refine va_sld hx hb hX hbl hbA hS (vp_in_nI (by omega) (by omega)) (oc_46 1702 (aq_10 shL_law_1692)) ?_
  refine lv_topi (fun y_4 ey_4 => ?_)
  obtain rfl : y_4 = xs (nI (i + 2)).toNatClampNeg := ey_4
  refine vp_callSi (runV_rxa (As := [.int (xs (nI (i + 1)).toNatClampNeg), .int (xs (nI (i + 2)).toNatClampNeg)]) (rest := []) S (q_Xfeasted l D cI cB cZ zz qq vv bt g ad cn In Fn (xs (nI (i + 1)).toNatClampNeg) (xs (nI (i + 2)).toNatClampNeg) hI.1 hI.2.2.2.2.1) kV_RL_186 hK hXS hS (exP hP) 0 xo_0 rfl rfl ⟨Nat.le_of_ble_eq_true rfl, Nat.le_of_ble_eq_true rfl⟩ ⟨(by show K + 0 ≤ 600000; omega), (by show N + 0 ≤ 7302250; omega)⟩ rfl hl.1 rfl (Nat.le_of_ble_eq_true rfl) (oc_182 1703 (aq_11 shL_law_1692) uw_0_186)) (fun r4 w4 => ?_)
  refine lv_pop hx hb (oc_87 1706 (aq_14 shL_law_1692)) rfl ?_
  refine lv_aload_n hx hb (oc_44 1707 (aq_15 shL_law_1692)) rfl (lvA2 hl) ?_
  refine lv_aload_n hx hb (oc_42 1708 (aq_16 shL_law_1692)) rfl (lvA0 hl) ?_
  refine lv_iload_n hx hb (oc_29 1709 (aq_17 shL_law_1692)) rfl (lvA3 hl) ?_
  refine lv_iconst (v := 1) hx hb (oc_4 1710 (aq_18 shL_law_1692)) kic_1 ?_
  refine lv_iadd hx hb (oc_96 1711 (aq_19 shL_law_1692)) ?_
  refine lv_topi (fun y_6 ey_6 => ?_)
  obtain rfl : y_6 = nI (i + 1) := ey_6.trans (nI_add i 1)
  refine va_sld hx hb hX hbl hbA hS (vp_in_nI (by omega) (by omega)) (oc_46 1712 (aq_20 shL_law_1692)) ?_
  refine lv_topi (fun y_7 ey_7 => ?_)
  obtain rfl : y_7 = xs (nI (i + 1)).toNatClampNeg := ey_7
  refine lv_aload_n hx hb (oc_42 1713 (aq_21 shL_law_1692)) rfl (lvA0 hl) ?_
  refine lv_iload_n hx hb (oc_29 1714 (aq_22 shL_law_1692)) rfl (lvA3 hl) ?_
  refine lv_iconst (v := 2) hx hb (oc_5 1715 (aq_23 shL_law_1692)) kic_2 ?_
  refine lv_iadd hx hb (oc_96 1716 shL_law_1716) ?_
  refine lv_topi (fun y_8 ey_8 => ?_)
  obtain rfl : y_8 = nI (i + 2) := ey_8.trans (nI_add i 2)
  refine va_sld hx hb hX hbl hbA hS (vp_in_nI (by omega) (by omega)) (oc_46 1717 (aq_1 shL_law_1716)) ?_
  refine lv_topi (fun y_9 ey_9 => ?_)
  obtain rfl : y_9 = xs (nI (i + 2)).toNatClampNeg := ey_9
  refine vp_callSi (runV_ra (As := [.int (xs (nI (i + 1)).toNatClampNeg), .int (xs (nI (i + 2)).toNatClampNeg)]) (rest := []) S (q_feasted l D cI cB cZ g2 c3 I3 F3 (xs (nI (i + 1)).toNatClampNeg) (xs (nI (i + 2)).toNatClampNeg) hM.1) kV_RL_189 hK (exPr hP) 0 rfl rfl rfl ⟨Nat.le_of_ble_eq_true rfl, Nat.le_of_ble_eq_true rfl⟩ ⟨(by show K + 0 ≤ 600000; omega), (by show N + 0 ≤ 7302250; omega)⟩ rfl hl.1 rfl (Nat.le_of_ble_eq_true rfl) (oc_182 1718 (aq_2 shL_law_1716) uw_0_189)) (fun r9 w9 => ?_)
  refine lv_pop hx hb (oc_87 1721 (aq_5 shL_law_1716)) rfl ?_
  refine lv_goto (tgt := 2269) hx hb (oc_167 1722 (aq_6 shL_law_1716) sgw_2_35) rfl ?_
  refine W.widen (k := K + 8) (n := N + 240) (by omega) (by omega) ?_
  exact kk _ _ _ _ _ _ _ _ _ hI hM hR hP hD hS ls hl
set_option maxRecDepth 100000 in
set_option maxHeartbeats 4000000 in
theorem lawc_41 {p : Program} {l : Launch} {e : Env} {s : State} {m : MethodId} {below : List Frame} {meth : Method} {c : Code} {b L : Nat} {xs : Nat → Int32} (C0 : lw_At p s m meth c b L xs) (hLN : L ≤ 3584) {A : Nat → Prop} (hA : ∀ q : Nat, s.heap.size ≤ q → A q) (hbA : ¬ A b) {D : va_G} {cI cB cZ : ClassId} {zz qq vv : Nat} {bt : Nat → Int32} {g g2 : Nat → Nat} (hK : KK D cI cB cZ s) (hXS : XS D zz qq vv bt A s s.heap) {ad : Nat → Nat → Nat} {cn : Nat → Nat} {In : Nat → Int32} {Fn : Nat → Nat → Int32} {c3 : Nat → Nat} {I3 : Nat → Int32} {F3 : Nat → Nat → Int32} (hI : IX ad cn Fn) (hM : IMM c3 F3) (hR : RR cn Fn c3 F3) {H : Heap} {locs : List Loc} (hP : va_P D vwCl (wX cI (D.1 99) zz g ad cn In Fn ++ wM cI cB cZ g2 c3 I3 F3) H) (hD : va_D A (wX cI (D.1 99) zz g ad cn In Fn ++ wM cI cB cZ g2 c3 I3 F3)) (hS : va_S A s.heap H locs) {K N i : Nat} (hi : i + 7 ≤ L) (hKN : K + 8 ≤ 600000 ∧ N + 240 ≤ 7302250) {ls : Array Slot} (hl : lv_has ls 4 [(0, .ref b), (1, .ref (g 0)), (2, .ref (g2 100)), (3, .int (nI i))]) (kk : ∀ (ad : Nat → Nat → Nat) (cn : Nat → Nat) (In : Nat → Int32) (Fn : Nat → Nat → Int32) (c3 : Nat → Nat) (I3 : Nat → Int32) (F3 : Nat → Nat → Int32) (H : Heap) (locs : List Loc), IX ad cn Fn → IMM c3 F3 → RR cn Fn c3 F3 → va_P D vwCl (wX cI (D.1 99) zz g ad cn In Fn ++ wM cI cB cZ g2 c3 I3 F3) H → va_D A (wX cI (D.1 99) zz g ad cn In Fn ++ wM cI cB cZ g2 c3 I3 F3) → va_S A s.heap H locs → ∀ ls : Array Slot, lv_has ls 4 [(0, .ref b), (1, .ref (g 0)), (2, .ref (g2 100)), (3, .int (nI i))] → W p l e room_1 s m #[Value.ref b] below meth c H locs (K + 8) (N + 240) (lw_Z below #[Value.ref b] s) (F0 m 2269 ls [])) : W p l e room_1 s m #[Value.ref b] below meth c H locs K N (lw_Z below #[Value.ref b] s) (F0 m 1725 ls []) := by
  obtain ⟨hx, hb, hr, hml, hown, hts, hX, hbl, hlocks, hgv⟩ := id C0
  have S : SF p m c code 4 s #[Value.ref b] RL := ⟨hx, hb, hml, hown, fun w h => hts w (wT_lw h)⟩
  refine lv_aload_n hx hb (oc_43 1725 (aq_9 shL_law_1716)) rfl (lvA1 hl) ?_
  have hI0 := hI
  have hFc := free_all (exD hD) hS hA
  refine va_calli (runV_xa (As := []) (rest := []) S (q_Edrum l D cI cB cZ zz qq vv bt g ad cn In Fn  H.size hI.1) kV_RL_190 hK hXS hS hFc (exP hP) (exD hD) 0 xo_0 rfl rfl ⟨Nat.le_of_ble_eq_true rfl, Nat.le_of_ble_eq_true rfl⟩ ⟨(by show K + 0 ≤ 600000; omega), (by show N + 0 ≤ 7302250; omega)⟩ rfl hl.1 rfl (Nat.le_of_ble_eq_true rfl) (oc_182 1726 (aq_10 shL_law_1716) uw_0_190)) hS (fun q _ h => hFc q h) hFc (fun r0 u t H1 locs ht hvm w0 hB1 hz1 hk1 hS => ?_)
  obtain ⟨c0, I0, F0⟩ := u
  obtain ⟨hP1, hD1⟩ := hB1
  rw [ht] at hP1
  obtain ⟨hP, hD⟩ := exjoinL hP hD hk1 hFc hP1 hD1
  generalize H1 = H at hP hS ⊢
  have wx0 := w0
  have hI := ix_Edrum hI w0
  refine lv_aload_n hx hb (oc_44 1729 (aq_13 shL_law_1716)) rfl (lvA2 hl) ?_
  have hFc := free_all (exDr hD) hS hA
  refine va_calli (runV_a (As := []) (rest := [.int r0]) S (q_drum l D cI cB cZ g2 c3 I3 F3  H.size hM.1) kV_RL_193 hK (exPr hP) (exDr hD) 0 rfl rfl rfl ⟨Nat.le_of_ble_eq_true rfl, Nat.le_of_ble_eq_true rfl⟩ ⟨(by show K + 0 ≤ 600000; omega), (by show N + 0 ≤ 7302250; omega)⟩ rfl hl.1 rfl (Nat.le_of_ble_eq_true rfl) (oc_182 1730 (aq_14 shL_law_1716) uw_0_193)) hS (fun q _ h => hFc q h) hFc (fun r1 u t H1 locs ht hvm w1 hB1 hz1 hk1 hS => ?_)
  obtain ⟨c1, I1, F1⟩ := u
  obtain ⟨hP1, hD1⟩ := hB1
  rw [ht] at hP1
  obtain ⟨hP, hD⟩ := exjoin hP hD hk1 hFc hP1 hD1
  generalize H1 = H at hP hS ⊢
  obtain ⟨he1, hR⟩ := eq_drum hI0 hM hR wx0 w1
  obtain ⟨hM, -, -⟩ := imm_drum hM w1
  refine lv_icmp_eq (tgt := 2269) hx hb (oc_159 1733 (aq_17 shL_law_1716) sgw_2_24) rfl (fun _ => ?_) (fun q => absurd he1 q)
  refine W.widen (k := K + 8) (n := N + 240) (by omega) (by omega) ?_
  exact kk _ _ _ _ _ _ _ _ _ hI hM hR hP hD hS ls hl
set_option maxRecDepth 100000 in
set_option maxHeartbeats 4000000 in
theorem lawc_42 {p : Program} {l : Launch} {e : Env} {s : State} {m : MethodId} {below : List Frame} {meth : Method} {c : Code} {b L : Nat} {xs : Nat → Int32} (C0 : lw_At p s m meth c b L xs) (hLN : L ≤ 3584) {A : Nat → Prop} (hA : ∀ q : Nat, s.heap.size ≤ q → A q) (hbA : ¬ A b) {D : va_G} {cI cB cZ : ClassId} {zz qq vv : Nat} {bt : Nat → Int32} {g g2 : Nat → Nat} (hK : KK D cI cB cZ s) (hXS : XS D zz qq vv bt A s s.heap) {ad : Nat → Nat → Nat} {cn : Nat → Nat} {In : Nat → Int32} {Fn : Nat → Nat → Int32} {c3 : Nat → Nat} {I3 : Nat → Int32} {F3 : Nat → Nat → Int32} (hI : IX ad cn Fn) (hM : IMM c3 F3) (hR : RR cn Fn c3 F3) {H : Heap} {locs : List Loc} (hP : va_P D vwCl (wX cI (D.1 99) zz g ad cn In Fn ++ wM cI cB cZ g2 c3 I3 F3) H) (hD : va_D A (wX cI (D.1 99) zz g ad cn In Fn ++ wM cI cB cZ g2 c3 I3 F3)) (hS : va_S A s.heap H locs) {K N i : Nat} (hi : i + 7 ≤ L) (hKN : K + 8 ≤ 600000 ∧ N + 240 ≤ 7302250) {ls : Array Slot} (hl : lv_has ls 4 [(0, .ref b), (1, .ref (g 0)), (2, .ref (g2 100)), (3, .int (nI i))]) (kk : ∀ (ad : Nat → Nat → Nat) (cn : Nat → Nat) (In : Nat → Int32) (Fn : Nat → Nat → Int32) (c3 : Nat → Nat) (I3 : Nat → Int32) (F3 : Nat → Nat → Int32) (H : Heap) (locs : List Loc), IX ad cn Fn → IMM c3 F3 → RR cn Fn c3 F3 → va_P D vwCl (wX cI (D.1 99) zz g ad cn In Fn ++ wM cI cB cZ g2 c3 I3 F3) H → va_D A (wX cI (D.1 99) zz g ad cn In Fn ++ wM cI cB cZ g2 c3 I3 F3) → va_S A s.heap H locs → ∀ ls : Array Slot, lv_has ls 4 [(0, .ref b), (1, .ref (g 0)), (2, .ref (g2 100)), (3, .int (nI i))] → W p l e room_1 s m #[Value.ref b] below meth c H locs (K + 8) (N + 240) (lw_Z below #[Value.ref b] s) (F0 m 2269 ls [])) : W p l e room_1 s m #[Value.ref b] below meth c H locs K N (lw_Z below #[Value.ref b] s) (F0 m 1738 ls []) := by
  obtain ⟨hx, hb, hr, hml, hown, hts, hX, hbl, hlocks, hgv⟩ := id C0
  have S : SF p m c code 4 s #[Value.ref b] RL := ⟨hx, hb, hml, hown, fun w h => hts w (wT_lw h)⟩
  refine lv_aload_n hx hb (oc_43 1738 (aq_22 shL_law_1716)) rfl (lvA1 hl) ?_
  refine lv_aload_n hx hb (oc_42 1739 (aq_23 shL_law_1716)) rfl (lvA0 hl) ?_
  refine lv_iload_n hx hb (oc_29 1740 shL_law_1740) rfl (lvA3 hl) ?_
  refine lv_iconst (v := 1) hx hb (oc_4 1741 (aq_1 shL_law_1740)) kic_1 ?_
  refine lv_iadd hx hb (oc_96 1742 (aq_2 shL_law_1740)) ?_
  refine lv_topi (fun y_1 ey_1 => ?_)
  obtain rfl : y_1 = nI (i + 1) := ey_1.trans (nI_add i 1)
  refine va_sld hx hb hX hbl hbA hS (vp_in_nI (by omega) (by omega)) (oc_46 1743 (aq_3 shL_law_1740)) ?_
  refine lv_topi (fun y_2 ey_2 => ?_)
  obtain rfl : y_2 = xs (nI (i + 1)).toNatClampNeg := ey_2
  refine lv_aload_n hx hb (oc_42 1744 (aq_4 shL_law_1740)) rfl (lvA0 hl) ?_
  refine lv_iload_n hx hb (oc_29 1745 (aq_5 shL_law_1740)) rfl (lvA3 hl) ?_
  refine lv_iconst (v := 2) hx hb (oc_5 1746 (aq_6 shL_law_1740)) kic_2 ?_
  refine lv_iadd hx hb (oc_96 1747 (aq_7 shL_law_1740)) ?_
  refine lv_topi (fun y_3 ey_3 => ?_)
  obtain rfl : y_3 = nI (i + 2) := ey_3.trans (nI_add i 2)
  refine va_sld hx hb hX hbl hbA hS (vp_in_nI (by omega) (by omega)) (oc_46 1748 (aq_8 shL_law_1740)) ?_
  refine lv_topi (fun y_4 ey_4 => ?_)
  obtain rfl : y_4 = xs (nI (i + 2)).toNatClampNeg := ey_4
  refine lv_aload_n hx hb (oc_42 1749 (aq_9 shL_law_1740)) rfl (lvA0 hl) ?_
  refine lv_iload_n hx hb (oc_29 1750 (aq_10 shL_law_1740)) rfl (lvA3 hl) ?_
  refine lv_iconst (v := 3) hx hb (oc_6 1751 (aq_11 shL_law_1740)) kic_3 ?_
  refine lv_iadd hx hb (oc_96 1752 (aq_12 shL_law_1740)) ?_
  refine lv_topi (fun y_5 ey_5 => ?_)
  obtain rfl : y_5 = nI (i + 3) := ey_5.trans (nI_add i 3)
  refine va_sld hx hb hX hbl hbA hS (vp_in_nI (by omega) (by omega)) (oc_46 1753 (aq_13 shL_law_1740)) ?_
  refine lv_topi (fun y_6 ey_6 => ?_)
  obtain rfl : y_6 = xs (nI (i + 3)).toNatClampNeg := ey_6
  have hFc := free_all (exD hD) hS hA
  refine va_calli (runV_xa (As := [.int (xs (nI (i + 1)).toNatClampNeg), .int (xs (nI (i + 2)).toNatClampNeg), .int (xs (nI (i + 3)).toNatClampNeg)]) (rest := []) S (q_Xmoves l D cI cB cZ zz qq vv bt g ad cn In Fn (xs (nI (i + 1)).toNatClampNeg) (xs (nI (i + 2)).toNatClampNeg) (xs (nI (i + 3)).toNatClampNeg) H.size hI.1) kV_RL_194 hK hXS hS hFc (exP hP) (exD hD) 0 xo_0 rfl rfl ⟨Nat.le_of_ble_eq_true rfl, Nat.le_of_ble_eq_true rfl⟩ ⟨(by show K + 2 ≤ 600000; omega), (by show N + 103 ≤ 7302250; omega)⟩ rfl hl.1 rfl (Nat.le_of_ble_eq_true rfl) (oc_182 1754 (aq_14 shL_law_1740) uw_0_194)) hS (fun q _ h => hFc q h) hFc (fun r6 u t H1 locs ht hvm w6 hB1 hz1 hk1 hS => ?_)
  obtain ⟨a6, c6, I6, F6⟩ := u
  obtain ⟨hP1, hD1⟩ := hB1
  rw [ht] at hP1
  obtain ⟨hP, hD⟩ := exjoinL hP hD hk1 hFc hP1 hD1
  generalize H1 = H at hP hS ⊢
  obtain ⟨hI, hd6, hf6⟩ := ix_moves hI w6
  have hR := RR.fx hR hd6 hf6 (by decide) (by decide)
  refine lv_pop hx hb (oc_87 1757 (aq_17 shL_law_1740)) rfl ?_
  refine lv_aload_n hx hb (oc_44 1758 (aq_18 shL_law_1740)) rfl (lvA2 hl) ?_
  refine lv_aload_n hx hb (oc_42 1759 (aq_19 shL_law_1740)) rfl (lvA0 hl) ?_
  refine lv_iload_n hx hb (oc_29 1760 (aq_20 shL_law_1740)) rfl (lvA3 hl) ?_
  refine lv_iconst (v := 1) hx hb (oc_4 1761 (aq_21 shL_law_1740)) kic_1 ?_
  refine lv_iadd hx hb (oc_96 1762 (aq_22 shL_law_1740)) ?_
  refine lv_topi (fun y_8 ey_8 => ?_)
  obtain rfl : y_8 = nI (i + 1) := ey_8.trans (nI_add i 1)
  refine va_sld hx hb hX hbl hbA hS (vp_in_nI (by omega) (by omega)) (oc_46 1763 (aq_23 shL_law_1740)) ?_
  refine lv_topi (fun y_9 ey_9 => ?_)
  obtain rfl : y_9 = xs (nI (i + 1)).toNatClampNeg := ey_9
  refine lv_aload_n hx hb (oc_42 1764 shL_law_1764) rfl (lvA0 hl) ?_
  refine lv_iload_n hx hb (oc_29 1765 (aq_1 shL_law_1764)) rfl (lvA3 hl) ?_
  refine lv_iconst (v := 2) hx hb (oc_5 1766 (aq_2 shL_law_1764)) kic_2 ?_
  refine lv_iadd hx hb (oc_96 1767 (aq_3 shL_law_1764)) ?_
  refine lv_topi (fun y_10 ey_10 => ?_)
  obtain rfl : y_10 = nI (i + 2) := ey_10.trans (nI_add i 2)
  refine va_sld hx hb hX hbl hbA hS (vp_in_nI (by omega) (by omega)) (oc_46 1768 (aq_4 shL_law_1764)) ?_
  refine lv_topi (fun y_11 ey_11 => ?_)
  obtain rfl : y_11 = xs (nI (i + 2)).toNatClampNeg := ey_11
  refine lv_aload_n hx hb (oc_42 1769 (aq_5 shL_law_1764)) rfl (lvA0 hl) ?_
  refine lv_iload_n hx hb (oc_29 1770 (aq_6 shL_law_1764)) rfl (lvA3 hl) ?_
  refine lv_iconst (v := 3) hx hb (oc_6 1771 (aq_7 shL_law_1764)) kic_3 ?_
  refine lv_iadd hx hb (oc_96 1772 (aq_8 shL_law_1764)) ?_
  refine lv_topi (fun y_12 ey_12 => ?_)
  obtain rfl : y_12 = nI (i + 3) := ey_12.trans (nI_add i 3)
  refine va_sld hx hb hX hbl hbA hS (vp_in_nI (by omega) (by omega)) (oc_46 1773 (aq_9 shL_law_1764)) ?_
  refine lv_topi (fun y_13 ey_13 => ?_)
  obtain rfl : y_13 = xs (nI (i + 3)).toNatClampNeg := ey_13
  have hFc := free_all (exDr hD) hS hA
  refine va_calli (runV_a (As := [.int (xs (nI (i + 1)).toNatClampNeg), .int (xs (nI (i + 2)).toNatClampNeg), .int (xs (nI (i + 3)).toNatClampNeg)]) (rest := []) S (q_moves l D cI cB cZ g2 c3 I3 F3 (xs (nI (i + 1)).toNatClampNeg) (xs (nI (i + 2)).toNatClampNeg) (xs (nI (i + 3)).toNatClampNeg) H.size hM.1) kV_RL_197 hK (exPr hP) (exDr hD) 0 rfl rfl rfl ⟨Nat.le_of_ble_eq_true rfl, Nat.le_of_ble_eq_true rfl⟩ ⟨(by show K + 2 + 0 ≤ 600000; omega), (by show N + 103 + 0 ≤ 7302250; omega)⟩ rfl hl.1 rfl (Nat.le_of_ble_eq_true rfl) (oc_182 1774 (aq_10 shL_law_1764) uw_0_197)) hS (fun q _ h => hFc q h) hFc (fun r13 u t H1 locs ht hvm w13 hB1 hz1 hk1 hS => ?_)
  obtain ⟨c13, I13, F13⟩ := u
  obtain ⟨hP1, hD1⟩ := hB1
  rw [ht] at hP1
  obtain ⟨hP, hD⟩ := exjoin hP hD hk1 hFc hP1 hD1
  generalize H1 = H at hP hS ⊢
  obtain ⟨hM, hd13, hf13⟩ := imm_moves hM w13
  have hR := RR.fm hR hd13 hf13 (by decide) (by decide)
  refine lv_pop hx hb (oc_87 1777 (aq_13 shL_law_1764)) rfl ?_
  refine lv_goto (tgt := 2269) hx hb (oc_167 1778 (aq_14 shL_law_1764) sgw_1_235) rfl ?_
  refine W.widen (k := K + 8) (n := N + 240) (by omega) (by omega) ?_
  exact kk _ _ _ _ _ _ _ _ _ hI hM hR hP hD hS ls hl
set_option maxRecDepth 100000 in
set_option maxHeartbeats 4000000 in
theorem lawc_43 {p : Program} {l : Launch} {e : Env} {s : State} {m : MethodId} {below : List Frame} {meth : Method} {c : Code} {b L : Nat} {xs : Nat → Int32} (C0 : lw_At p s m meth c b L xs) (hLN : L ≤ 3584) {A : Nat → Prop} (hA : ∀ q : Nat, s.heap.size ≤ q → A q) (hbA : ¬ A b) {D : va_G} {cI cB cZ : ClassId} {zz qq vv : Nat} {bt : Nat → Int32} {g g2 : Nat → Nat} (hK : KK D cI cB cZ s) (hXS : XS D zz qq vv bt A s s.heap) {ad : Nat → Nat → Nat} {cn : Nat → Nat} {In : Nat → Int32} {Fn : Nat → Nat → Int32} {c3 : Nat → Nat} {I3 : Nat → Int32} {F3 : Nat → Nat → Int32} (hI : IX ad cn Fn) (hM : IMM c3 F3) (hR : RR cn Fn c3 F3) {H : Heap} {locs : List Loc} (hP : va_P D vwCl (wX cI (D.1 99) zz g ad cn In Fn ++ wM cI cB cZ g2 c3 I3 F3) H) (hD : va_D A (wX cI (D.1 99) zz g ad cn In Fn ++ wM cI cB cZ g2 c3 I3 F3)) (hS : va_S A s.heap H locs) {K N i : Nat} (hi : i + 7 ≤ L) (hKN : K + 8 ≤ 600000 ∧ N + 240 ≤ 7302250) {ls : Array Slot} (hl : lv_has ls 4 [(0, .ref b), (1, .ref (g 0)), (2, .ref (g2 100)), (3, .int (nI i))]) (kk : ∀ (ad : Nat → Nat → Nat) (cn : Nat → Nat) (In : Nat → Int32) (Fn : Nat → Nat → Int32) (c3 : Nat → Nat) (I3 : Nat → Int32) (F3 : Nat → Nat → Int32) (H : Heap) (locs : List Loc), IX ad cn Fn → IMM c3 F3 → RR cn Fn c3 F3 → va_P D vwCl (wX cI (D.1 99) zz g ad cn In Fn ++ wM cI cB cZ g2 c3 I3 F3) H → va_D A (wX cI (D.1 99) zz g ad cn In Fn ++ wM cI cB cZ g2 c3 I3 F3) → va_S A s.heap H locs → ∀ ls : Array Slot, lv_has ls 4 [(0, .ref b), (1, .ref (g 0)), (2, .ref (g2 100)), (3, .int (nI i))] → W p l e room_1 s m #[Value.ref b] below meth c H locs (K + 8) (N + 240) (lw_Z below #[Value.ref b] s) (F0 m 2269 ls [])) : W p l e room_1 s m #[Value.ref b] below meth c H locs K N (lw_Z below #[Value.ref b] s) (F0 m 1781 ls []) := by
  obtain ⟨hx, hb, hr, hml, hown, hts, hX, hbl, hlocks, hgv⟩ := id C0
  have S : SF p m c code 4 s #[Value.ref b] RL := ⟨hx, hb, hml, hown, fun w h => hts w (wT_lw h)⟩
  refine lv_aload_n hx hb (oc_43 1781 (aq_17 shL_law_1764)) rfl (lvA1 hl) ?_
  refine lv_aload_n hx hb (oc_42 1782 (aq_18 shL_law_1764)) rfl (lvA0 hl) ?_
  refine lv_iload_n hx hb (oc_29 1783 (aq_19 shL_law_1764)) rfl (lvA3 hl) ?_
  refine lv_iconst (v := 1) hx hb (oc_4 1784 (aq_20 shL_law_1764)) kic_1 ?_
  refine lv_iadd hx hb (oc_96 1785 (aq_21 shL_law_1764)) ?_
  refine lv_topi (fun y_1 ey_1 => ?_)
  obtain rfl : y_1 = nI (i + 1) := ey_1.trans (nI_add i 1)
  refine va_sld hx hb hX hbl hbA hS (vp_in_nI (by omega) (by omega)) (oc_46 1786 (aq_22 shL_law_1764)) ?_
  refine lv_topi (fun y_2 ey_2 => ?_)
  obtain rfl : y_2 = xs (nI (i + 1)).toNatClampNeg := ey_2
  refine lv_aload_n hx hb (oc_42 1787 (aq_23 shL_law_1764)) rfl (lvA0 hl) ?_
  refine lv_iload_n hx hb (oc_29 1788 shL_law_1788) rfl (lvA3 hl) ?_
  refine lv_iconst (v := 2) hx hb (oc_5 1789 (aq_1 shL_law_1788)) kic_2 ?_
  refine lv_iadd hx hb (oc_96 1790 (aq_2 shL_law_1788)) ?_
  refine lv_topi (fun y_3 ey_3 => ?_)
  obtain rfl : y_3 = nI (i + 2) := ey_3.trans (nI_add i 2)
  refine va_sld hx hb hX hbl hbA hS (vp_in_nI (by omega) (by omega)) (oc_46 1791 (aq_3 shL_law_1788)) ?_
  refine lv_topi (fun y_4 ey_4 => ?_)
  obtain rfl : y_4 = xs (nI (i + 2)).toNatClampNeg := ey_4
  refine vp_callSi (runV_rxa (As := [.int (xs (nI (i + 1)).toNatClampNeg), .int (xs (nI (i + 2)).toNatClampNeg)]) (rest := []) S (q_Xstood l D cI cB cZ zz qq vv bt g ad cn In Fn (xs (nI (i + 1)).toNatClampNeg) (xs (nI (i + 2)).toNatClampNeg) hI.1) kV_RL_198 hK hXS hS (exP hP) 0 xo_0 rfl rfl ⟨Nat.le_of_ble_eq_true rfl, Nat.le_of_ble_eq_true rfl⟩ ⟨(by show K + 0 ≤ 600000; omega), (by show N + 0 ≤ 7302250; omega)⟩ rfl hl.1 rfl (Nat.le_of_ble_eq_true rfl) (oc_182 1792 (aq_4 shL_law_1788) uw_0_198)) (fun r4 w4 => ?_)
  refine lv_pop hx hb (oc_87 1795 (aq_7 shL_law_1788)) rfl ?_
  refine lv_aload_n hx hb (oc_44 1796 (aq_8 shL_law_1788)) rfl (lvA2 hl) ?_
  refine lv_aload_n hx hb (oc_42 1797 (aq_9 shL_law_1788)) rfl (lvA0 hl) ?_
  refine lv_iload_n hx hb (oc_29 1798 (aq_10 shL_law_1788)) rfl (lvA3 hl) ?_
  refine lv_iconst (v := 1) hx hb (oc_4 1799 (aq_11 shL_law_1788)) kic_1 ?_
  refine lv_iadd hx hb (oc_96 1800 (aq_12 shL_law_1788)) ?_
  refine lv_topi (fun y_6 ey_6 => ?_)
  obtain rfl : y_6 = nI (i + 1) := ey_6.trans (nI_add i 1)
  refine va_sld hx hb hX hbl hbA hS (vp_in_nI (by omega) (by omega)) (oc_46 1801 (aq_13 shL_law_1788)) ?_
  refine lv_topi (fun y_7 ey_7 => ?_)
  obtain rfl : y_7 = xs (nI (i + 1)).toNatClampNeg := ey_7
  refine lv_aload_n hx hb (oc_42 1802 (aq_14 shL_law_1788)) rfl (lvA0 hl) ?_
  refine lv_iload_n hx hb (oc_29 1803 (aq_15 shL_law_1788)) rfl (lvA3 hl) ?_
  refine lv_iconst (v := 2) hx hb (oc_5 1804 (aq_16 shL_law_1788)) kic_2 ?_
  refine lv_iadd hx hb (oc_96 1805 (aq_17 shL_law_1788)) ?_
  refine lv_topi (fun y_8 ey_8 => ?_)
  obtain rfl : y_8 = nI (i + 2) := ey_8.trans (nI_add i 2)
  refine va_sld hx hb hX hbl hbA hS (vp_in_nI (by omega) (by omega)) (oc_46 1806 (aq_18 shL_law_1788)) ?_
  refine lv_topi (fun y_9 ey_9 => ?_)
  obtain rfl : y_9 = xs (nI (i + 2)).toNatClampNeg := ey_9
  refine vp_callSi (runV_ra (As := [.int (xs (nI (i + 1)).toNatClampNeg), .int (xs (nI (i + 2)).toNatClampNeg)]) (rest := []) S (q_stood l D cI cB cZ g2 c3 I3 F3 (xs (nI (i + 1)).toNatClampNeg) (xs (nI (i + 2)).toNatClampNeg) hM.1) kV_RL_201 hK (exPr hP) 0 rfl rfl rfl ⟨Nat.le_of_ble_eq_true rfl, Nat.le_of_ble_eq_true rfl⟩ ⟨(by show K + 0 ≤ 600000; omega), (by show N + 0 ≤ 7302250; omega)⟩ rfl hl.1 rfl (Nat.le_of_ble_eq_true rfl) (oc_182 1807 (aq_19 shL_law_1788) uw_0_201)) (fun r9 w9 => ?_)
  refine lv_pop hx hb (oc_87 1810 (aq_22 shL_law_1788)) rfl ?_
  refine lv_goto (tgt := 2269) hx hb (oc_167 1811 (aq_23 shL_law_1788) sgw_1_202) rfl ?_
  refine W.widen (k := K + 8) (n := N + 240) (by omega) (by omega) ?_
  exact kk _ _ _ _ _ _ _ _ _ hI hM hR hP hD hS ls hl
set_option maxRecDepth 100000 in
set_option maxHeartbeats 4000000 in
theorem lawc_44 {p : Program} {l : Launch} {e : Env} {s : State} {m : MethodId} {below : List Frame} {meth : Method} {c : Code} {b L : Nat} {xs : Nat → Int32} (C0 : lw_At p s m meth c b L xs) (hLN : L ≤ 3584) {A : Nat → Prop} (hA : ∀ q : Nat, s.heap.size ≤ q → A q) (hbA : ¬ A b) {D : va_G} {cI cB cZ : ClassId} {zz qq vv : Nat} {bt : Nat → Int32} {g g2 : Nat → Nat} (hK : KK D cI cB cZ s) (hXS : XS D zz qq vv bt A s s.heap) {ad : Nat → Nat → Nat} {cn : Nat → Nat} {In : Nat → Int32} {Fn : Nat → Nat → Int32} {c3 : Nat → Nat} {I3 : Nat → Int32} {F3 : Nat → Nat → Int32} (hI : IX ad cn Fn) (hM : IMM c3 F3) (hR : RR cn Fn c3 F3) {H : Heap} {locs : List Loc} (hP : va_P D vwCl (wX cI (D.1 99) zz g ad cn In Fn ++ wM cI cB cZ g2 c3 I3 F3) H) (hD : va_D A (wX cI (D.1 99) zz g ad cn In Fn ++ wM cI cB cZ g2 c3 I3 F3)) (hS : va_S A s.heap H locs) {K N i : Nat} (hi : i + 7 ≤ L) (hKN : K + 8 ≤ 600000 ∧ N + 240 ≤ 7302250) {ls : Array Slot} (hl : lv_has ls 4 [(0, .ref b), (1, .ref (g 0)), (2, .ref (g2 100)), (3, .int (nI i))]) (kk : ∀ (ad : Nat → Nat → Nat) (cn : Nat → Nat) (In : Nat → Int32) (Fn : Nat → Nat → Int32) (c3 : Nat → Nat) (I3 : Nat → Int32) (F3 : Nat → Nat → Int32) (H : Heap) (locs : List Loc), IX ad cn Fn → IMM c3 F3 → RR cn Fn c3 F3 → va_P D vwCl (wX cI (D.1 99) zz g ad cn In Fn ++ wM cI cB cZ g2 c3 I3 F3) H → va_D A (wX cI (D.1 99) zz g ad cn In Fn ++ wM cI cB cZ g2 c3 I3 F3) → va_S A s.heap H locs → ∀ ls : Array Slot, lv_has ls 4 [(0, .ref b), (1, .ref (g 0)), (2, .ref (g2 100)), (3, .int (nI i))] → W p l e room_1 s m #[Value.ref b] below meth c H locs (K + 8) (N + 240) (lw_Z below #[Value.ref b] s) (F0 m 2269 ls [])) : W p l e room_1 s m #[Value.ref b] below meth c H locs K N (lw_Z below #[Value.ref b] s) (F0 m 1814 ls []) := by
  obtain ⟨hx, hb, hr, hml, hown, hts, hX, hbl, hlocks, hgv⟩ := id C0
  have S : SF p m c code 4 s #[Value.ref b] RL := ⟨hx, hb, hml, hown, fun w h => hts w (wT_lw h)⟩
  refine lv_aload_n hx hb (oc_43 1814 shL_law_1814) rfl (lvA1 hl) ?_
  refine lv_aload_n hx hb (oc_42 1815 (aq_1 shL_law_1814)) rfl (lvA0 hl) ?_
  refine lv_iload_n hx hb (oc_29 1816 (aq_2 shL_law_1814)) rfl (lvA3 hl) ?_
  refine lv_iconst (v := 1) hx hb (oc_4 1817 (aq_3 shL_law_1814)) kic_1 ?_
  refine lv_iadd hx hb (oc_96 1818 (aq_4 shL_law_1814)) ?_
  refine lv_topi (fun y_1 ey_1 => ?_)
  obtain rfl : y_1 = nI (i + 1) := ey_1.trans (nI_add i 1)
  refine va_sld hx hb hX hbl hbA hS (vp_in_nI (by omega) (by omega)) (oc_46 1819 (aq_5 shL_law_1814)) ?_
  refine lv_topi (fun y_2 ey_2 => ?_)
  obtain rfl : y_2 = xs (nI (i + 1)).toNatClampNeg := ey_2
  refine vp_callSi (runV_rxa (As := [.int (xs (nI (i + 1)).toNatClampNeg)]) (rest := []) S (q_Xstale l D cI cB cZ zz qq vv bt g ad cn In Fn (xs (nI (i + 1)).toNatClampNeg) hI.1) kV_RL_202 hK hXS hS (exP hP) 0 xo_0 rfl rfl ⟨Nat.le_of_ble_eq_true rfl, Nat.le_of_ble_eq_true rfl⟩ ⟨(by show K + 0 ≤ 600000; omega), (by show N + 0 ≤ 7302250; omega)⟩ rfl hl.1 rfl (Nat.le_of_ble_eq_true rfl) (oc_182 1820 (aq_6 shL_law_1814) uw_0_202)) (fun r2 w2 => ?_)
  refine lv_pop hx hb (oc_87 1823 (aq_9 shL_law_1814)) rfl ?_
  refine lv_aload_n hx hb (oc_44 1824 (aq_10 shL_law_1814)) rfl (lvA2 hl) ?_
  refine lv_aload_n hx hb (oc_42 1825 (aq_11 shL_law_1814)) rfl (lvA0 hl) ?_
  refine lv_iload_n hx hb (oc_29 1826 (aq_12 shL_law_1814)) rfl (lvA3 hl) ?_
  refine lv_iconst (v := 1) hx hb (oc_4 1827 (aq_13 shL_law_1814)) kic_1 ?_
  refine lv_iadd hx hb (oc_96 1828 (aq_14 shL_law_1814)) ?_
  refine lv_topi (fun y_4 ey_4 => ?_)
  obtain rfl : y_4 = nI (i + 1) := ey_4.trans (nI_add i 1)
  refine va_sld hx hb hX hbl hbA hS (vp_in_nI (by omega) (by omega)) (oc_46 1829 (aq_15 shL_law_1814)) ?_
  refine lv_topi (fun y_5 ey_5 => ?_)
  obtain rfl : y_5 = xs (nI (i + 1)).toNatClampNeg := ey_5
  refine vp_callSi (runV_ra (As := [.int (xs (nI (i + 1)).toNatClampNeg)]) (rest := []) S (q_stale l D cI cB cZ g2 c3 I3 F3 (xs (nI (i + 1)).toNatClampNeg) hM.1) kV_RL_205 hK (exPr hP) 0 rfl rfl rfl ⟨Nat.le_of_ble_eq_true rfl, Nat.le_of_ble_eq_true rfl⟩ ⟨(by show K + 0 ≤ 600000; omega), (by show N + 0 ≤ 7302250; omega)⟩ rfl hl.1 rfl (Nat.le_of_ble_eq_true rfl) (oc_182 1830 (aq_16 shL_law_1814) uw_0_205)) (fun r5 w5 => ?_)
  refine lv_pop hx hb (oc_87 1833 (aq_19 shL_law_1814)) rfl ?_
  refine lv_goto (tgt := 2269) hx hb (oc_167 1834 (aq_20 shL_law_1814) sgw_1_179) rfl ?_
  refine W.widen (k := K + 8) (n := N + 240) (by omega) (by omega) ?_
  exact kk _ _ _ _ _ _ _ _ _ hI hM hR hP hD hS ls hl
