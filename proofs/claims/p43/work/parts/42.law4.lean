set_option maxRecDepth 100000 in
theorem kV_RL_206 : CalV RL 206 yX11_whence cX11_whence 7 (some .int) 2 := ⟨⟨wk5_9 2 rfl rfl, wk5_9 3 rfl rfl, wk5_9 4 rfl rfl, wk1_0 1 rfl rfl, wk5_9 5 rfl rfl⟩, ⟨nmh_0.1, nmh_0.2, pd_17⟩⟩
set_option maxRecDepth 100000 in
theorem kV_RL_209 : CalV RL 209 yX12_whence cX12_whence 3 (some .int) 2 := ⟨⟨wk9_0 9 rfl rfl, wk9_0 10 rfl rfl, wk9_0 11 rfl rfl, wk1_1 1 rfl rfl, wk9_1 0 rfl rfl⟩, ⟨nmh_13.1, nmh_13.2, pd_17⟩⟩
set_option maxRecDepth 100000 in
theorem kV_RL_210 : CalV RL 210 yX11_audit cX11_audit 11 (some .int) 2 := ⟨⟨wk5_9 6 rfl rfl, wk5_9 7 rfl rfl, wk5_9 8 rfl rfl, wk1_0 1 rfl rfl, wk5_9 9 rfl rfl⟩, ⟨nmh_0.1, nmh_0.2, pd_17⟩⟩
set_option maxRecDepth 100000 in
theorem kV_RL_213 : CalV RL 213 yX12_audit cX12_audit 5 (some .int) 2 := ⟨⟨wk9_1 5 rfl rfl, wk9_1 6 rfl rfl, wk9_1 7 rfl rfl, wk1_1 1 rfl rfl, wk9_1 8 rfl rfl⟩, ⟨nmh_13.1, nmh_13.2, pd_17⟩⟩
set_option maxRecDepth 100000 in
theorem kV_RL_214 : CalV RL 214 yX11_use cX11_use 3 (some .boolean) 2 := ⟨⟨wk5_10 2 rfl rfl, wk5_10 3 rfl rfl, wk5_10 4 rfl rfl, wk1_0 1 rfl rfl, wk5_10 5 rfl rfl⟩, ⟨nmh_0.1, nmh_0.2, pd_21⟩⟩
set_option maxRecDepth 100000 in
theorem kV_RL_217 : CalV RL 217 yX12_use cX12_use 3 (some .boolean) 2 := ⟨⟨wk9_2 1 rfl rfl, wk9_2 2 rfl rfl, wk9_2 3 rfl rfl, wk1_1 1 rfl rfl, wk9_2 4 rfl rfl⟩, ⟨nmh_13.1, nmh_13.2, pd_21⟩⟩
set_option maxRecDepth 100000 in
theorem kV_RL_218 : CalV RL 218 yX11_rate cX11_rate 5 (some .boolean) 3 := ⟨⟨wk5_10 6 rfl rfl, wk5_10 7 rfl rfl, wk5_10 8 rfl rfl, wk1_0 1 rfl rfl, wk5_10 9 rfl rfl⟩, ⟨nmh_0.1, nmh_0.2, pd_26⟩⟩
set_option maxRecDepth 100000 in
theorem kV_RL_221 : CalV RL 221 yX12_rate cX12_rate 4 (some .boolean) 3 := ⟨⟨wk9_2 5 rfl rfl, wk9_2 6 rfl rfl, wk9_2 7 rfl rfl, wk1_1 1 rfl rfl, wk9_2 8 rfl rfl⟩, ⟨nmh_13.1, nmh_13.2, pd_26⟩⟩
set_option maxRecDepth 100000 in
theorem kV_RL_222 : CalV RL 222 yX11_tax cX11_tax 4 (some .int) 1 := ⟨⟨wk5_10 10 rfl rfl, wk5_10 11 rfl rfl, wk5_11 0 rfl rfl, wk1_0 1 rfl rfl, wk5_11 1 rfl rfl⟩, ⟨nmh_0.1, nmh_0.2, pd_8⟩⟩
set_option maxRecDepth 100000 in
theorem kV_RL_225 : CalV RL 225 yX12_tax cX12_tax 2 (some .int) 1 := ⟨⟨wk9_2 9 rfl rfl, wk9_2 10 rfl rfl, wk9_2 11 rfl rfl, wk1_1 1 rfl rfl, wk9_3 0 rfl rfl⟩, ⟨nmh_13.1, nmh_13.2, pd_8⟩⟩
set_option maxRecDepth 100000 in
theorem kV_RL_226 : CalV RL 226 yX11_most cX11_most 3 (some .boolean) 2 := ⟨⟨wk5_11 6 rfl rfl, wk5_11 7 rfl rfl, wk5_11 8 rfl rfl, wk1_0 1 rfl rfl, wk5_11 9 rfl rfl⟩, ⟨nmh_0.1, nmh_0.2, pd_21⟩⟩
set_option maxRecDepth 100000 in
theorem kV_RL_229 : CalV RL 229 yX12_most cX12_most 3 (some .boolean) 2 := ⟨⟨wk9_3 1 rfl rfl, wk9_3 2 rfl rfl, wk9_3 3 rfl rfl, wk1_1 1 rfl rfl, wk9_3 4 rfl rfl⟩, ⟨nmh_13.1, nmh_13.2, pd_21⟩⟩
set_option maxRecDepth 100000 in
theorem kV_RL_230 : CalV RL 230 yX11_overdrawn cX11_overdrawn 4 (some .int) 1 := ⟨⟨wk5_11 10 rfl rfl, wk5_11 11 rfl rfl, wk5_12 0 rfl rfl, wk1_0 1 rfl rfl, wk5_12 1 rfl rfl⟩, ⟨nmh_0.1, nmh_0.2, pd_8⟩⟩
set_option maxRecDepth 100000 in
theorem kV_RL_233 : CalV RL 233 yX12_overdrawn cX12_overdrawn 6 (some .int) 1 := ⟨⟨wk9_3 5 rfl rfl, wk9_3 6 rfl rfl, wk9_3 7 rfl rfl, wk1_1 1 rfl rfl, wk9_3 8 rfl rfl⟩, ⟨nmh_13.1, nmh_13.2, pd_8⟩⟩
set_option maxRecDepth 100000 in
theorem kV_RL_234 : CalV RL 234 yX11_sample cX11_sample 4 (some .int) 2 := ⟨⟨wk5_12 6 rfl rfl, wk5_12 7 rfl rfl, wk5_12 8 rfl rfl, wk1_0 1 rfl rfl, wk5_12 9 rfl rfl⟩, ⟨nmh_0.1, nmh_0.2, pd_17⟩⟩
set_option maxRecDepth 100000 in
theorem kV_RL_237 : CalV RL 237 yX12_sample cX12_sample 3 (some .int) 2 := ⟨⟨wk9_3 9 rfl rfl, wk9_3 10 rfl rfl, wk9_3 11 rfl rfl, wk1_1 1 rfl rfl, wk9_4 0 rfl rfl⟩, ⟨nmh_13.1, nmh_13.2, pd_17⟩⟩
set_option maxRecDepth 100000 in
theorem kV_RL_238 : CalV RL 238 yX11_claim cX11_claim 7 (some .int) 3 := ⟨⟨wk5_13 3 rfl rfl, wk5_13 4 rfl rfl, wk5_13 5 rfl rfl, wk1_0 1 rfl rfl, wk5_13 6 rfl rfl⟩, ⟨nmh_0.1, nmh_0.2, pd_22⟩⟩
set_option maxRecDepth 100000 in
theorem kV_RL_241 : CalV RL 241 yX12_claim cX12_claim 6 (some .int) 3 := ⟨⟨wk9_4 1 rfl rfl, wk9_4 2 rfl rfl, wk9_4 3 rfl rfl, wk1_1 1 rfl rfl, wk9_4 4 rfl rfl⟩, ⟨nmh_13.1, nmh_13.2, pd_22⟩⟩
set_option maxRecDepth 100000 in
theorem kV_RL_242 : CalV RL 242 yX11_spill cX11_spill 3 (some .int) 2 := ⟨⟨wk6_5 6 rfl rfl, wk6_5 7 rfl rfl, wk6_5 8 rfl rfl, wk1_0 1 rfl rfl, wk6_5 9 rfl rfl⟩, ⟨nmh_0.1, nmh_0.2, pd_17⟩⟩
set_option maxRecDepth 100000 in
theorem kV_RL_245 : CalV RL 245 yX12_spill cX12_spill 3 (some .int) 2 := ⟨⟨wk9_4 5 rfl rfl, wk9_4 6 rfl rfl, wk9_4 7 rfl rfl, wk1_1 1 rfl rfl, wk9_4 8 rfl rfl⟩, ⟨nmh_13.1, nmh_13.2, pd_17⟩⟩
set_option maxRecDepth 100000 in
theorem kV_RL_246 : CalV RL 246 yX11_stock cX11_stock 4 (some .int) 1 := ⟨⟨wk6_5 10 rfl rfl, wk6_5 11 rfl rfl, wk6_6 0 rfl rfl, wk1_0 1 rfl rfl, wk6_6 1 rfl rfl⟩, ⟨nmh_0.1, nmh_0.2, pd_8⟩⟩
set_option maxRecDepth 100000 in
theorem kV_RL_249 : CalV RL 249 yX12_stock cX12_stock 2 (some .int) 1 := ⟨⟨wk9_4 9 rfl rfl, wk9_4 10 rfl rfl, wk9_4 11 rfl rfl, wk1_1 1 rfl rfl, wk9_5 0 rfl rfl⟩, ⟨nmh_13.1, nmh_13.2, pd_8⟩⟩
set_option maxRecDepth 100000 in
theorem kV_RL_250 : CalV RL 250 yX11_below cX11_below 4 (some .int) 1 := ⟨⟨wk6_6 2 rfl rfl, wk6_6 3 rfl rfl, wk6_6 4 rfl rfl, wk1_0 1 rfl rfl, wk6_6 5 rfl rfl⟩, ⟨nmh_0.1, nmh_0.2, pd_8⟩⟩
set_option maxRecDepth 100000 in
theorem kV_RL_253 : CalV RL 253 yX12_below cX12_below 3 (some .int) 1 := ⟨⟨wk9_5 6 rfl rfl, wk9_5 7 rfl rfl, wk9_5 8 rfl rfl, wk1_1 1 rfl rfl, wk9_5 9 rfl rfl⟩, ⟨nmh_13.1, nmh_13.2, pd_8⟩⟩
set_option maxRecDepth 100000 in
theorem kV_RL_254 : CalV RL 254 yX11_check cX11_check 4 (some .int) 2 := ⟨⟨wk6_6 6 rfl rfl, wk6_6 7 rfl rfl, wk6_6 8 rfl rfl, wk1_0 1 rfl rfl, wk6_6 9 rfl rfl⟩, ⟨nmh_0.1, nmh_0.2, pd_17⟩⟩
set_option maxRecDepth 100000 in
theorem kV_RL_257 : CalV RL 257 yX12_check cX12_check 5 (some .int) 2 := ⟨⟨wk9_10 6 rfl rfl, wk9_10 7 rfl rfl, wk9_10 8 rfl rfl, wk1_1 1 rfl rfl, wk9_10 9 rfl rfl⟩, ⟨nmh_13.1, nmh_13.2, pd_17⟩⟩
set_option maxRecDepth 100000 in
theorem kV_RL_258 : CalV RL 258 yX11_count cX11_count 3 (some .int) 1 := ⟨⟨wk6_7 11 rfl rfl, wk6_8 0 rfl rfl, wk6_8 1 rfl rfl, wk1_0 1 rfl rfl, wk6_8 2 rfl rfl⟩, ⟨nmh_0.1, nmh_0.2, pd_8⟩⟩
set_option maxRecDepth 100000 in
theorem kV_RL_261 : CalV RL 261 yX12_count cX12_count 2 (some .int) 1 := ⟨⟨wk9_11 2 rfl rfl, wk9_11 3 rfl rfl, wk9_11 4 rfl rfl, wk1_1 1 rfl rfl, wk9_11 5 rfl rfl⟩, ⟨nmh_13.1, nmh_13.2, pd_8⟩⟩
set_option maxRecDepth 100000 in
set_option maxHeartbeats 4000000 in
theorem lawc_45 {p : Program} {l : Launch} {e : Env} {s : State} {m : MethodId} {below : List Frame} {meth : Method} {c : Code} {b L : Nat} {xs : Nat → Int32} (C0 : lw_At p s m meth c b L xs) (hLN : L ≤ 3584) {A : Nat → Prop} (hA : ∀ q : Nat, s.heap.size ≤ q → A q) (hbA : ¬ A b) {D : va_G} {cI cB cZ : ClassId} {zz qq vv : Nat} {bt : Nat → Int32} {g g2 : Nat → Nat} (hK : KK D cI cB cZ s) (hXS : XS D zz qq vv bt A s s.heap) {ad : Nat → Nat → Nat} {cn : Nat → Nat} {In : Nat → Int32} {Fn : Nat → Nat → Int32} {c3 : Nat → Nat} {I3 : Nat → Int32} {F3 : Nat → Nat → Int32} (hI : IX ad cn Fn) (hM : IMM c3 F3) (hR : RR cn Fn c3 F3) {H : Heap} {locs : List Loc} (hP : va_P D vwCl (wX cI (D.1 99) zz g ad cn In Fn ++ wM cI cB cZ g2 c3 I3 F3) H) (hD : va_D A (wX cI (D.1 99) zz g ad cn In Fn ++ wM cI cB cZ g2 c3 I3 F3)) (hS : va_S A s.heap H locs) {K N i : Nat} (hi : i + 7 ≤ L) (hKN : K + 8 ≤ 600000 ∧ N + 240 ≤ 7302250) {ls : Array Slot} (hl : lv_has ls 4 [(0, .ref b), (1, .ref (g 0)), (2, .ref (g2 100)), (3, .int (nI i))]) (kk : ∀ (ad : Nat → Nat → Nat) (cn : Nat → Nat) (In : Nat → Int32) (Fn : Nat → Nat → Int32) (c3 : Nat → Nat) (I3 : Nat → Int32) (F3 : Nat → Nat → Int32) (H : Heap) (locs : List Loc), IX ad cn Fn → IMM c3 F3 → RR cn Fn c3 F3 → va_P D vwCl (wX cI (D.1 99) zz g ad cn In Fn ++ wM cI cB cZ g2 c3 I3 F3) H → va_D A (wX cI (D.1 99) zz g ad cn In Fn ++ wM cI cB cZ g2 c3 I3 F3) → va_S A s.heap H locs → ∀ ls : Array Slot, lv_has ls 4 [(0, .ref b), (1, .ref (g 0)), (2, .ref (g2 100)), (3, .int (nI i))] → W p l e room_1 s m #[Value.ref b] below meth c H locs (K + 8) (N + 240) (lw_Z below #[Value.ref b] s) (F0 m 2269 ls [])) : W p l e room_1 s m #[Value.ref b] below meth c H locs K N (lw_Z below #[Value.ref b] s) (F0 m 1837 ls []) := by
  obtain ⟨hx, hb, hr, hml, hown, hts, hX, hbl, hlocks, hgv⟩ := id C0
  have S : SF p m c code 4 s #[Value.ref b] RL := ⟨hx, hb, hml, hown, fun w h => hts w (wT_lw h)⟩
  refine lv_aload_n hx hb (oc_43 1837 (aq_23 shL_law_1814)) rfl (lvA1 hl) ?_
  refine lv_aload_n hx hb (oc_42 1838 shL_law_1838) rfl (lvA0 hl) ?_
  refine lv_iload_n hx hb (oc_29 1839 (aq_1 shL_law_1838)) rfl (lvA3 hl) ?_
  refine lv_iconst (v := 1) hx hb (oc_4 1840 (aq_2 shL_law_1838)) kic_1 ?_
  refine lv_iadd hx hb (oc_96 1841 (aq_3 shL_law_1838)) ?_
  refine lv_topi (fun y_1 ey_1 => ?_)
  obtain rfl : y_1 = nI (i + 1) := ey_1.trans (nI_add i 1)
  refine va_sld hx hb hX hbl hbA hS (vp_in_nI (by omega) (by omega)) (oc_46 1842 (aq_4 shL_law_1838)) ?_
  refine lv_topi (fun y_2 ey_2 => ?_)
  obtain rfl : y_2 = xs (nI (i + 1)).toNatClampNeg := ey_2
  refine lv_aload_n hx hb (oc_42 1843 (aq_5 shL_law_1838)) rfl (lvA0 hl) ?_
  refine lv_iload_n hx hb (oc_29 1844 (aq_6 shL_law_1838)) rfl (lvA3 hl) ?_
  refine lv_iconst (v := 2) hx hb (oc_5 1845 (aq_7 shL_law_1838)) kic_2 ?_
  refine lv_iadd hx hb (oc_96 1846 (aq_8 shL_law_1838)) ?_
  refine lv_topi (fun y_3 ey_3 => ?_)
  obtain rfl : y_3 = nI (i + 2) := ey_3.trans (nI_add i 2)
  refine va_sld hx hb hX hbl hbA hS (vp_in_nI (by omega) (by omega)) (oc_46 1847 (aq_9 shL_law_1838)) ?_
  refine lv_topi (fun y_4 ey_4 => ?_)
  obtain rfl : y_4 = xs (nI (i + 2)).toNatClampNeg := ey_4
  refine vp_callSi (runV_rxa (As := [.int (xs (nI (i + 1)).toNatClampNeg), .int (xs (nI (i + 2)).toNatClampNeg)]) (rest := []) S (q_Xwhence l D cI cB cZ zz qq vv bt g ad cn In Fn (xs (nI (i + 1)).toNatClampNeg) (xs (nI (i + 2)).toNatClampNeg) hI.1) kV_RL_206 hK hXS hS (exP hP) 0 xo_0 rfl rfl ⟨Nat.le_of_ble_eq_true rfl, Nat.le_of_ble_eq_true rfl⟩ ⟨(by show K + 0 ≤ 600000; omega), (by show N + 0 ≤ 7302250; omega)⟩ rfl hl.1 rfl (Nat.le_of_ble_eq_true rfl) (oc_182 1848 (aq_10 shL_law_1838) uw_0_206)) (fun r4 w4 => ?_)
  refine lv_pop hx hb (oc_87 1851 (aq_13 shL_law_1838)) rfl ?_
  refine lv_aload_n hx hb (oc_44 1852 (aq_14 shL_law_1838)) rfl (lvA2 hl) ?_
  refine lv_aload_n hx hb (oc_42 1853 (aq_15 shL_law_1838)) rfl (lvA0 hl) ?_
  refine lv_iload_n hx hb (oc_29 1854 (aq_16 shL_law_1838)) rfl (lvA3 hl) ?_
  refine lv_iconst (v := 1) hx hb (oc_4 1855 (aq_17 shL_law_1838)) kic_1 ?_
  refine lv_iadd hx hb (oc_96 1856 (aq_18 shL_law_1838)) ?_
  refine lv_topi (fun y_6 ey_6 => ?_)
  obtain rfl : y_6 = nI (i + 1) := ey_6.trans (nI_add i 1)
  refine va_sld hx hb hX hbl hbA hS (vp_in_nI (by omega) (by omega)) (oc_46 1857 (aq_19 shL_law_1838)) ?_
  refine lv_topi (fun y_7 ey_7 => ?_)
  obtain rfl : y_7 = xs (nI (i + 1)).toNatClampNeg := ey_7
  refine lv_aload_n hx hb (oc_42 1858 (aq_20 shL_law_1838)) rfl (lvA0 hl) ?_
  refine lv_iload_n hx hb (oc_29 1859 (aq_21 shL_law_1838)) rfl (lvA3 hl) ?_
  refine lv_iconst (v := 2) hx hb (oc_5 1860 (aq_22 shL_law_1838)) kic_2 ?_
  refine lv_iadd hx hb (oc_96 1861 (aq_23 shL_law_1838)) ?_
  refine lv_topi (fun y_8 ey_8 => ?_)
  obtain rfl : y_8 = nI (i + 2) := ey_8.trans (nI_add i 2)
  refine va_sld hx hb hX hbl hbA hS (vp_in_nI (by omega) (by omega)) (oc_46 1862 shL_law_1862) ?_
  refine lv_topi (fun y_9 ey_9 => ?_)
  obtain rfl : y_9 = xs (nI (i + 2)).toNatClampNeg := ey_9
  have hFc := free_all (exDr hD) hS hA
  refine va_calli (runV_a (As := [.int (xs (nI (i + 1)).toNatClampNeg), .int (xs (nI (i + 2)).toNatClampNeg)]) (rest := []) S (q_whence l D cI cB cZ g2 c3 I3 F3 (xs (nI (i + 1)).toNatClampNeg) (xs (nI (i + 2)).toNatClampNeg) H.size hM.1) kV_RL_209 hK (exPr hP) (exDr hD) 0 rfl rfl rfl ⟨Nat.le_of_ble_eq_true rfl, Nat.le_of_ble_eq_true rfl⟩ ⟨(by show K + 0 ≤ 600000; omega), (by show N + 0 ≤ 7302250; omega)⟩ rfl hl.1 rfl (Nat.le_of_ble_eq_true rfl) (oc_182 1863 (aq_1 shL_law_1862) uw_0_209)) hS (fun q _ h => hFc q h) hFc (fun r9 u t H1 locs ht hvm w9 hB1 hz1 hk1 hS => ?_)
  obtain ⟨c9, I9, F9⟩ := u
  obtain ⟨hP1, hD1⟩ := hB1
  rw [ht] at hP1
  obtain ⟨hP, hD⟩ := exjoin hP hD hk1 hFc hP1 hD1
  generalize H1 = H at hP hS ⊢
  obtain ⟨hM, hd9, hf9⟩ := imm_whence hM w9
  have hR := RR.fm hR hd9 hf9 (by decide) (by decide)
  refine lv_pop hx hb (oc_87 1866 (aq_4 shL_law_1862)) rfl ?_
  refine lv_goto (tgt := 2269) hx hb (oc_167 1867 (aq_5 shL_law_1862) sgw_1_146) rfl ?_
  refine W.widen (k := K + 8) (n := N + 240) (by omega) (by omega) ?_
  exact kk _ _ _ _ _ _ _ _ _ hI hM hR hP hD hS ls hl
set_option maxRecDepth 100000 in
set_option maxHeartbeats 4000000 in
theorem lawc_46 {p : Program} {l : Launch} {e : Env} {s : State} {m : MethodId} {below : List Frame} {meth : Method} {c : Code} {b L : Nat} {xs : Nat → Int32} (C0 : lw_At p s m meth c b L xs) (hLN : L ≤ 3584) {A : Nat → Prop} (hA : ∀ q : Nat, s.heap.size ≤ q → A q) (hbA : ¬ A b) {D : va_G} {cI cB cZ : ClassId} {zz qq vv : Nat} {bt : Nat → Int32} {g g2 : Nat → Nat} (hK : KK D cI cB cZ s) (hXS : XS D zz qq vv bt A s s.heap) {ad : Nat → Nat → Nat} {cn : Nat → Nat} {In : Nat → Int32} {Fn : Nat → Nat → Int32} {c3 : Nat → Nat} {I3 : Nat → Int32} {F3 : Nat → Nat → Int32} (hI : IX ad cn Fn) (hM : IMM c3 F3) (hR : RR cn Fn c3 F3) {H : Heap} {locs : List Loc} (hP : va_P D vwCl (wX cI (D.1 99) zz g ad cn In Fn ++ wM cI cB cZ g2 c3 I3 F3) H) (hD : va_D A (wX cI (D.1 99) zz g ad cn In Fn ++ wM cI cB cZ g2 c3 I3 F3)) (hS : va_S A s.heap H locs) {K N i : Nat} (hi : i + 7 ≤ L) (hKN : K + 8 ≤ 600000 ∧ N + 240 ≤ 7302250) {ls : Array Slot} (hl : lv_has ls 4 [(0, .ref b), (1, .ref (g 0)), (2, .ref (g2 100)), (3, .int (nI i))]) (kk : ∀ (ad : Nat → Nat → Nat) (cn : Nat → Nat) (In : Nat → Int32) (Fn : Nat → Nat → Int32) (c3 : Nat → Nat) (I3 : Nat → Int32) (F3 : Nat → Nat → Int32) (H : Heap) (locs : List Loc), IX ad cn Fn → IMM c3 F3 → RR cn Fn c3 F3 → va_P D vwCl (wX cI (D.1 99) zz g ad cn In Fn ++ wM cI cB cZ g2 c3 I3 F3) H → va_D A (wX cI (D.1 99) zz g ad cn In Fn ++ wM cI cB cZ g2 c3 I3 F3) → va_S A s.heap H locs → ∀ ls : Array Slot, lv_has ls 4 [(0, .ref b), (1, .ref (g 0)), (2, .ref (g2 100)), (3, .int (nI i))] → W p l e room_1 s m #[Value.ref b] below meth c H locs (K + 8) (N + 240) (lw_Z below #[Value.ref b] s) (F0 m 2269 ls [])) : W p l e room_1 s m #[Value.ref b] below meth c H locs K N (lw_Z below #[Value.ref b] s) (F0 m 1870 ls []) := by
  obtain ⟨hx, hb, hr, hml, hown, hts, hX, hbl, hlocks, hgv⟩ := id C0
  have S : SF p m c code 4 s #[Value.ref b] RL := ⟨hx, hb, hml, hown, fun w h => hts w (wT_lw h)⟩
  refine lv_aload_n hx hb (oc_43 1870 (aq_8 shL_law_1862)) rfl (lvA1 hl) ?_
  refine lv_aload_n hx hb (oc_42 1871 (aq_9 shL_law_1862)) rfl (lvA0 hl) ?_
  refine lv_iload_n hx hb (oc_29 1872 (aq_10 shL_law_1862)) rfl (lvA3 hl) ?_
  refine lv_iconst (v := 1) hx hb (oc_4 1873 (aq_11 shL_law_1862)) kic_1 ?_
  refine lv_iadd hx hb (oc_96 1874 (aq_12 shL_law_1862)) ?_
  refine lv_topi (fun y_1 ey_1 => ?_)
  obtain rfl : y_1 = nI (i + 1) := ey_1.trans (nI_add i 1)
  refine va_sld hx hb hX hbl hbA hS (vp_in_nI (by omega) (by omega)) (oc_46 1875 (aq_13 shL_law_1862)) ?_
  refine lv_topi (fun y_2 ey_2 => ?_)
  obtain rfl : y_2 = xs (nI (i + 1)).toNatClampNeg := ey_2
  refine lv_aload_n hx hb (oc_42 1876 (aq_14 shL_law_1862)) rfl (lvA0 hl) ?_
  refine lv_iload_n hx hb (oc_29 1877 (aq_15 shL_law_1862)) rfl (lvA3 hl) ?_
  refine lv_iconst (v := 2) hx hb (oc_5 1878 (aq_16 shL_law_1862)) kic_2 ?_
  refine lv_iadd hx hb (oc_96 1879 (aq_17 shL_law_1862)) ?_
  refine lv_topi (fun y_3 ey_3 => ?_)
  obtain rfl : y_3 = nI (i + 2) := ey_3.trans (nI_add i 2)
  refine va_sld hx hb hX hbl hbA hS (vp_in_nI (by omega) (by omega)) (oc_46 1880 (aq_18 shL_law_1862)) ?_
  refine lv_topi (fun y_4 ey_4 => ?_)
  obtain rfl : y_4 = xs (nI (i + 2)).toNatClampNeg := ey_4
  refine vp_callSi (runV_rxa (As := [.int (xs (nI (i + 1)).toNatClampNeg), .int (xs (nI (i + 2)).toNatClampNeg)]) (rest := []) S (q_Xaudit l D cI cB cZ zz qq vv bt g ad cn In Fn (xs (nI (i + 1)).toNatClampNeg) (xs (nI (i + 2)).toNatClampNeg) hI.1) kV_RL_210 hK hXS hS (exP hP) 0 xo_0 rfl rfl ⟨Nat.le_of_ble_eq_true rfl, Nat.le_of_ble_eq_true rfl⟩ ⟨(by show K + 0 ≤ 600000; omega), (by show N + 0 ≤ 7302250; omega)⟩ rfl hl.1 rfl (Nat.le_of_ble_eq_true rfl) (oc_182 1881 (aq_19 shL_law_1862) uw_0_210)) (fun r4 w4 => ?_)
  refine lv_pop hx hb (oc_87 1884 (aq_22 shL_law_1862)) rfl ?_
  refine lv_aload_n hx hb (oc_44 1885 (aq_23 shL_law_1862)) rfl (lvA2 hl) ?_
  refine lv_aload_n hx hb (oc_42 1886 shL_law_1886) rfl (lvA0 hl) ?_
  refine lv_iload_n hx hb (oc_29 1887 (aq_1 shL_law_1886)) rfl (lvA3 hl) ?_
  refine lv_iconst (v := 1) hx hb (oc_4 1888 (aq_2 shL_law_1886)) kic_1 ?_
  refine lv_iadd hx hb (oc_96 1889 (aq_3 shL_law_1886)) ?_
  refine lv_topi (fun y_6 ey_6 => ?_)
  obtain rfl : y_6 = nI (i + 1) := ey_6.trans (nI_add i 1)
  refine va_sld hx hb hX hbl hbA hS (vp_in_nI (by omega) (by omega)) (oc_46 1890 (aq_4 shL_law_1886)) ?_
  refine lv_topi (fun y_7 ey_7 => ?_)
  obtain rfl : y_7 = xs (nI (i + 1)).toNatClampNeg := ey_7
  refine lv_aload_n hx hb (oc_42 1891 (aq_5 shL_law_1886)) rfl (lvA0 hl) ?_
  refine lv_iload_n hx hb (oc_29 1892 (aq_6 shL_law_1886)) rfl (lvA3 hl) ?_
  refine lv_iconst (v := 2) hx hb (oc_5 1893 (aq_7 shL_law_1886)) kic_2 ?_
  refine lv_iadd hx hb (oc_96 1894 (aq_8 shL_law_1886)) ?_
  refine lv_topi (fun y_8 ey_8 => ?_)
  obtain rfl : y_8 = nI (i + 2) := ey_8.trans (nI_add i 2)
  refine va_sld hx hb hX hbl hbA hS (vp_in_nI (by omega) (by omega)) (oc_46 1895 (aq_9 shL_law_1886)) ?_
  refine lv_topi (fun y_9 ey_9 => ?_)
  obtain rfl : y_9 = xs (nI (i + 2)).toNatClampNeg := ey_9
  refine vp_callSi (runV_ra (As := [.int (xs (nI (i + 1)).toNatClampNeg), .int (xs (nI (i + 2)).toNatClampNeg)]) (rest := []) S (q_audit l D cI cB cZ g2 c3 I3 F3 (xs (nI (i + 1)).toNatClampNeg) (xs (nI (i + 2)).toNatClampNeg) hM.1) kV_RL_213 hK (exPr hP) 0 rfl rfl rfl ⟨Nat.le_of_ble_eq_true rfl, Nat.le_of_ble_eq_true rfl⟩ ⟨(by show K + 0 ≤ 600000; omega), (by show N + 0 ≤ 7302250; omega)⟩ rfl hl.1 rfl (Nat.le_of_ble_eq_true rfl) (oc_182 1896 (aq_10 shL_law_1886) uw_0_213)) (fun r9 w9 => ?_)
  refine lv_pop hx hb (oc_87 1899 (aq_13 shL_law_1886)) rfl ?_
  refine lv_goto (tgt := 2269) hx hb (oc_167 1900 (aq_14 shL_law_1886) sgw_1_113) rfl ?_
  refine W.widen (k := K + 8) (n := N + 240) (by omega) (by omega) ?_
  exact kk _ _ _ _ _ _ _ _ _ hI hM hR hP hD hS ls hl
set_option maxRecDepth 100000 in
set_option maxHeartbeats 4000000 in
theorem lawc_47 {p : Program} {l : Launch} {e : Env} {s : State} {m : MethodId} {below : List Frame} {meth : Method} {c : Code} {b L : Nat} {xs : Nat → Int32} (C0 : lw_At p s m meth c b L xs) (hLN : L ≤ 3584) {A : Nat → Prop} (hA : ∀ q : Nat, s.heap.size ≤ q → A q) (hbA : ¬ A b) {D : va_G} {cI cB cZ : ClassId} {zz qq vv : Nat} {bt : Nat → Int32} {g g2 : Nat → Nat} (hK : KK D cI cB cZ s) (hXS : XS D zz qq vv bt A s s.heap) {ad : Nat → Nat → Nat} {cn : Nat → Nat} {In : Nat → Int32} {Fn : Nat → Nat → Int32} {c3 : Nat → Nat} {I3 : Nat → Int32} {F3 : Nat → Nat → Int32} (hI : IX ad cn Fn) (hM : IMM c3 F3) (hR : RR cn Fn c3 F3) {H : Heap} {locs : List Loc} (hP : va_P D vwCl (wX cI (D.1 99) zz g ad cn In Fn ++ wM cI cB cZ g2 c3 I3 F3) H) (hD : va_D A (wX cI (D.1 99) zz g ad cn In Fn ++ wM cI cB cZ g2 c3 I3 F3)) (hS : va_S A s.heap H locs) {K N i : Nat} (hi : i + 7 ≤ L) (hKN : K + 8 ≤ 600000 ∧ N + 240 ≤ 7302250) {ls : Array Slot} (hl : lv_has ls 4 [(0, .ref b), (1, .ref (g 0)), (2, .ref (g2 100)), (3, .int (nI i))]) (kk : ∀ (ad : Nat → Nat → Nat) (cn : Nat → Nat) (In : Nat → Int32) (Fn : Nat → Nat → Int32) (c3 : Nat → Nat) (I3 : Nat → Int32) (F3 : Nat → Nat → Int32) (H : Heap) (locs : List Loc), IX ad cn Fn → IMM c3 F3 → RR cn Fn c3 F3 → va_P D vwCl (wX cI (D.1 99) zz g ad cn In Fn ++ wM cI cB cZ g2 c3 I3 F3) H → va_D A (wX cI (D.1 99) zz g ad cn In Fn ++ wM cI cB cZ g2 c3 I3 F3) → va_S A s.heap H locs → ∀ ls : Array Slot, lv_has ls 4 [(0, .ref b), (1, .ref (g 0)), (2, .ref (g2 100)), (3, .int (nI i))] → W p l e room_1 s m #[Value.ref b] below meth c H locs (K + 8) (N + 240) (lw_Z below #[Value.ref b] s) (F0 m 2269 ls [])) : W p l e room_1 s m #[Value.ref b] below meth c H locs K N (lw_Z below #[Value.ref b] s) (F0 m 1903 ls []) := by
  obtain ⟨hx, hb, hr, hml, hown, hts, hX, hbl, hlocks, hgv⟩ := id C0
  have S : SF p m c code 4 s #[Value.ref b] RL := ⟨hx, hb, hml, hown, fun w h => hts w (wT_lw h)⟩
  refine lv_aload_n hx hb (oc_43 1903 (aq_17 shL_law_1886)) rfl (lvA1 hl) ?_
  refine lv_aload_n hx hb (oc_42 1904 (aq_18 shL_law_1886)) rfl (lvA0 hl) ?_
  refine lv_iload_n hx hb (oc_29 1905 (aq_19 shL_law_1886)) rfl (lvA3 hl) ?_
  refine lv_iconst (v := 1) hx hb (oc_4 1906 (aq_20 shL_law_1886)) kic_1 ?_
  refine lv_iadd hx hb (oc_96 1907 (aq_21 shL_law_1886)) ?_
  refine lv_topi (fun y_1 ey_1 => ?_)
  obtain rfl : y_1 = nI (i + 1) := ey_1.trans (nI_add i 1)
  refine va_sld hx hb hX hbl hbA hS (vp_in_nI (by omega) (by omega)) (oc_46 1908 (aq_22 shL_law_1886)) ?_
  refine lv_topi (fun y_2 ey_2 => ?_)
  obtain rfl : y_2 = xs (nI (i + 1)).toNatClampNeg := ey_2
  refine lv_aload_n hx hb (oc_42 1909 (aq_23 shL_law_1886)) rfl (lvA0 hl) ?_
  refine lv_iload_n hx hb (oc_29 1910 shL_law_1910) rfl (lvA3 hl) ?_
  refine lv_iconst (v := 2) hx hb (oc_5 1911 (aq_1 shL_law_1910)) kic_2 ?_
  refine lv_iadd hx hb (oc_96 1912 (aq_2 shL_law_1910)) ?_
  refine lv_topi (fun y_3 ey_3 => ?_)
  obtain rfl : y_3 = nI (i + 2) := ey_3.trans (nI_add i 2)
  refine va_sld hx hb hX hbl hbA hS (vp_in_nI (by omega) (by omega)) (oc_46 1913 (aq_3 shL_law_1910)) ?_
  refine lv_topi (fun y_4 ey_4 => ?_)
  obtain rfl : y_4 = xs (nI (i + 2)).toNatClampNeg := ey_4
  have hFc := free_all (exD hD) hS hA
  refine va_calli (runV_xa (As := [.int (xs (nI (i + 1)).toNatClampNeg), .int (xs (nI (i + 2)).toNatClampNeg)]) (rest := []) S (q_Xuse l D cI cB cZ zz qq vv bt g ad cn In Fn (xs (nI (i + 1)).toNatClampNeg) (xs (nI (i + 2)).toNatClampNeg) H.size hI.1) kV_RL_214 hK hXS hS hFc (exP hP) (exD hD) 0 xo_0 rfl rfl ⟨Nat.le_of_ble_eq_true rfl, Nat.le_of_ble_eq_true rfl⟩ ⟨(by show K + 0 ≤ 600000; omega), (by show N + 0 ≤ 7302250; omega)⟩ rfl hl.1 rfl (Nat.le_of_ble_eq_true rfl) (oc_182 1914 (aq_4 shL_law_1910) uw_0_214)) hS (fun q _ h => hFc q h) hFc (fun r4 u t H1 locs ht hvm w4 hB1 hz1 hk1 hS => ?_)
  obtain ⟨c4, I4, F4⟩ := u
  obtain ⟨hP1, hD1⟩ := hB1
  rw [ht] at hP1
  obtain ⟨hP, hD⟩ := exjoinL hP hD hk1 hFc hP1 hD1
  generalize H1 = H at hP hS ⊢
  have hd4 := w4.1.1
  have hf4 := w4.1.2.2
  have hI := IX.fr hI w4.1 w4.2.1 (by decide) (by decide)
  have hR := RR.fx hR hd4 hf4 (by decide) (by decide)
  refine lv_pop hx hb (oc_87 1917 (aq_7 shL_law_1910)) rfl ?_
  refine lv_aload_n hx hb (oc_44 1918 (aq_8 shL_law_1910)) rfl (lvA2 hl) ?_
  refine lv_aload_n hx hb (oc_42 1919 (aq_9 shL_law_1910)) rfl (lvA0 hl) ?_
  refine lv_iload_n hx hb (oc_29 1920 (aq_10 shL_law_1910)) rfl (lvA3 hl) ?_
  refine lv_iconst (v := 1) hx hb (oc_4 1921 (aq_11 shL_law_1910)) kic_1 ?_
  refine lv_iadd hx hb (oc_96 1922 (aq_12 shL_law_1910)) ?_
  refine lv_topi (fun y_6 ey_6 => ?_)
  obtain rfl : y_6 = nI (i + 1) := ey_6.trans (nI_add i 1)
  refine va_sld hx hb hX hbl hbA hS (vp_in_nI (by omega) (by omega)) (oc_46 1923 (aq_13 shL_law_1910)) ?_
  refine lv_topi (fun y_7 ey_7 => ?_)
  obtain rfl : y_7 = xs (nI (i + 1)).toNatClampNeg := ey_7
  refine lv_aload_n hx hb (oc_42 1924 (aq_14 shL_law_1910)) rfl (lvA0 hl) ?_
  refine lv_iload_n hx hb (oc_29 1925 (aq_15 shL_law_1910)) rfl (lvA3 hl) ?_
  refine lv_iconst (v := 2) hx hb (oc_5 1926 (aq_16 shL_law_1910)) kic_2 ?_
  refine lv_iadd hx hb (oc_96 1927 (aq_17 shL_law_1910)) ?_
  refine lv_topi (fun y_8 ey_8 => ?_)
  obtain rfl : y_8 = nI (i + 2) := ey_8.trans (nI_add i 2)
  refine va_sld hx hb hX hbl hbA hS (vp_in_nI (by omega) (by omega)) (oc_46 1928 (aq_18 shL_law_1910)) ?_
  refine lv_topi (fun y_9 ey_9 => ?_)
  obtain rfl : y_9 = xs (nI (i + 2)).toNatClampNeg := ey_9
  have hFc := free_all (exDr hD) hS hA
  refine va_calli (runV_a (As := [.int (xs (nI (i + 1)).toNatClampNeg), .int (xs (nI (i + 2)).toNatClampNeg)]) (rest := []) S (q_use l D cI cB cZ g2 c3 I3 F3 (xs (nI (i + 1)).toNatClampNeg) (xs (nI (i + 2)).toNatClampNeg) H.size hM.1) kV_RL_217 hK (exPr hP) (exDr hD) 0 rfl rfl rfl ⟨Nat.le_of_ble_eq_true rfl, Nat.le_of_ble_eq_true rfl⟩ ⟨(by show K + 0 ≤ 600000; omega), (by show N + 0 ≤ 7302250; omega)⟩ rfl hl.1 rfl (Nat.le_of_ble_eq_true rfl) (oc_182 1929 (aq_19 shL_law_1910) uw_0_217)) hS (fun q _ h => hFc q h) hFc (fun r9 u t H1 locs ht hvm w9 hB1 hz1 hk1 hS => ?_)
  obtain ⟨c9, I9, F9⟩ := u
  obtain ⟨hP1, hD1⟩ := hB1
  rw [ht] at hP1
  obtain ⟨hP, hD⟩ := exjoin hP hD hk1 hFc hP1 hD1
  generalize H1 = H at hP hS ⊢
  obtain ⟨hM, hd9, hf9⟩ := imm_use hM w9
  have hR := RR.fm hR hd9 hf9 (by decide) (by decide)
  refine lv_pop hx hb (oc_87 1932 (aq_22 shL_law_1910)) rfl ?_
  refine lv_goto (tgt := 2269) hx hb (oc_167 1933 (aq_23 shL_law_1910) sgw_1_80) rfl ?_
  refine W.widen (k := K + 8) (n := N + 240) (by omega) (by omega) ?_
  exact kk _ _ _ _ _ _ _ _ _ hI hM hR hP hD hS ls hl
set_option maxRecDepth 100000 in
set_option maxHeartbeats 4000000 in
theorem lawc_48 {p : Program} {l : Launch} {e : Env} {s : State} {m : MethodId} {below : List Frame} {meth : Method} {c : Code} {b L : Nat} {xs : Nat → Int32} (C0 : lw_At p s m meth c b L xs) (hLN : L ≤ 3584) {A : Nat → Prop} (hA : ∀ q : Nat, s.heap.size ≤ q → A q) (hbA : ¬ A b) {D : va_G} {cI cB cZ : ClassId} {zz qq vv : Nat} {bt : Nat → Int32} {g g2 : Nat → Nat} (hK : KK D cI cB cZ s) (hXS : XS D zz qq vv bt A s s.heap) {ad : Nat → Nat → Nat} {cn : Nat → Nat} {In : Nat → Int32} {Fn : Nat → Nat → Int32} {c3 : Nat → Nat} {I3 : Nat → Int32} {F3 : Nat → Nat → Int32} (hI : IX ad cn Fn) (hM : IMM c3 F3) (hR : RR cn Fn c3 F3) {H : Heap} {locs : List Loc} (hP : va_P D vwCl (wX cI (D.1 99) zz g ad cn In Fn ++ wM cI cB cZ g2 c3 I3 F3) H) (hD : va_D A (wX cI (D.1 99) zz g ad cn In Fn ++ wM cI cB cZ g2 c3 I3 F3)) (hS : va_S A s.heap H locs) {K N i : Nat} (hi : i + 7 ≤ L) (hKN : K + 8 ≤ 600000 ∧ N + 240 ≤ 7302250) {ls : Array Slot} (hl : lv_has ls 4 [(0, .ref b), (1, .ref (g 0)), (2, .ref (g2 100)), (3, .int (nI i))]) (kk : ∀ (ad : Nat → Nat → Nat) (cn : Nat → Nat) (In : Nat → Int32) (Fn : Nat → Nat → Int32) (c3 : Nat → Nat) (I3 : Nat → Int32) (F3 : Nat → Nat → Int32) (H : Heap) (locs : List Loc), IX ad cn Fn → IMM c3 F3 → RR cn Fn c3 F3 → va_P D vwCl (wX cI (D.1 99) zz g ad cn In Fn ++ wM cI cB cZ g2 c3 I3 F3) H → va_D A (wX cI (D.1 99) zz g ad cn In Fn ++ wM cI cB cZ g2 c3 I3 F3) → va_S A s.heap H locs → ∀ ls : Array Slot, lv_has ls 4 [(0, .ref b), (1, .ref (g 0)), (2, .ref (g2 100)), (3, .int (nI i))] → W p l e room_1 s m #[Value.ref b] below meth c H locs (K + 8) (N + 240) (lw_Z below #[Value.ref b] s) (F0 m 2269 ls [])) : W p l e room_1 s m #[Value.ref b] below meth c H locs K N (lw_Z below #[Value.ref b] s) (F0 m 1936 ls []) := by
  obtain ⟨hx, hb, hr, hml, hown, hts, hX, hbl, hlocks, hgv⟩ := id C0
  have S : SF p m c code 4 s #[Value.ref b] RL := ⟨hx, hb, hml, hown, fun w h => hts w (wT_lw h)⟩
  refine lv_aload_n hx hb (oc_43 1936 shL_law_1936) rfl (lvA1 hl) ?_
  refine lv_aload_n hx hb (oc_42 1937 (aq_1 shL_law_1936)) rfl (lvA0 hl) ?_
  refine lv_iload_n hx hb (oc_29 1938 (aq_2 shL_law_1936)) rfl (lvA3 hl) ?_
  refine lv_iconst (v := 1) hx hb (oc_4 1939 (aq_3 shL_law_1936)) kic_1 ?_
  refine lv_iadd hx hb (oc_96 1940 (aq_4 shL_law_1936)) ?_
  refine lv_topi (fun y_1 ey_1 => ?_)
  obtain rfl : y_1 = nI (i + 1) := ey_1.trans (nI_add i 1)
  refine va_sld hx hb hX hbl hbA hS (vp_in_nI (by omega) (by omega)) (oc_46 1941 (aq_5 shL_law_1936)) ?_
  refine lv_topi (fun y_2 ey_2 => ?_)
  obtain rfl : y_2 = xs (nI (i + 1)).toNatClampNeg := ey_2
  refine lv_aload_n hx hb (oc_42 1942 (aq_6 shL_law_1936)) rfl (lvA0 hl) ?_
  refine lv_iload_n hx hb (oc_29 1943 (aq_7 shL_law_1936)) rfl (lvA3 hl) ?_
  refine lv_iconst (v := 2) hx hb (oc_5 1944 (aq_8 shL_law_1936)) kic_2 ?_
  refine lv_iadd hx hb (oc_96 1945 (aq_9 shL_law_1936)) ?_
  refine lv_topi (fun y_3 ey_3 => ?_)
  obtain rfl : y_3 = nI (i + 2) := ey_3.trans (nI_add i 2)
  refine va_sld hx hb hX hbl hbA hS (vp_in_nI (by omega) (by omega)) (oc_46 1946 (aq_10 shL_law_1936)) ?_
  refine lv_topi (fun y_4 ey_4 => ?_)
  obtain rfl : y_4 = xs (nI (i + 2)).toNatClampNeg := ey_4
  refine lv_aload_n hx hb (oc_42 1947 (aq_11 shL_law_1936)) rfl (lvA0 hl) ?_
  refine lv_iload_n hx hb (oc_29 1948 (aq_12 shL_law_1936)) rfl (lvA3 hl) ?_
  refine lv_iconst (v := 3) hx hb (oc_6 1949 (aq_13 shL_law_1936)) kic_3 ?_
  refine lv_iadd hx hb (oc_96 1950 (aq_14 shL_law_1936)) ?_
  refine lv_topi (fun y_5 ey_5 => ?_)
  obtain rfl : y_5 = nI (i + 3) := ey_5.trans (nI_add i 3)
  refine va_sld hx hb hX hbl hbA hS (vp_in_nI (by omega) (by omega)) (oc_46 1951 (aq_15 shL_law_1936)) ?_
  refine lv_topi (fun y_6 ey_6 => ?_)
  obtain rfl : y_6 = xs (nI (i + 3)).toNatClampNeg := ey_6
  have hFc := free_all (exD hD) hS hA
  refine va_calli (runV_xa (As := [.int (xs (nI (i + 1)).toNatClampNeg), .int (xs (nI (i + 2)).toNatClampNeg), .int (xs (nI (i + 3)).toNatClampNeg)]) (rest := []) S (q_Xrate l D cI cB cZ zz qq vv bt g ad cn In Fn (xs (nI (i + 1)).toNatClampNeg) (xs (nI (i + 2)).toNatClampNeg) (xs (nI (i + 3)).toNatClampNeg) H.size hI.1) kV_RL_218 hK hXS hS hFc (exP hP) (exD hD) 0 xo_0 rfl rfl ⟨Nat.le_of_ble_eq_true rfl, Nat.le_of_ble_eq_true rfl⟩ ⟨(by show K + 0 ≤ 600000; omega), (by show N + 0 ≤ 7302250; omega)⟩ rfl hl.1 rfl (Nat.le_of_ble_eq_true rfl) (oc_182 1952 (aq_16 shL_law_1936) uw_0_218)) hS (fun q _ h => hFc q h) hFc (fun r6 u t H1 locs ht hvm w6 hB1 hz1 hk1 hS => ?_)
  obtain ⟨c6, I6, F6⟩ := u
  obtain ⟨hP1, hD1⟩ := hB1
  rw [ht] at hP1
  obtain ⟨hP, hD⟩ := exjoinL hP hD hk1 hFc hP1 hD1
  generalize H1 = H at hP hS ⊢
  have hd6 := w6.1.1
  have hf6 := w6.1.2.2
  have hI := IX.fr hI w6.1 w6.2.1 (by decide) (by decide)
  have hR := RR.fx hR hd6 hf6 (by decide) (by decide)
  refine lv_pop hx hb (oc_87 1955 (aq_19 shL_law_1936)) rfl ?_
  refine lv_aload_n hx hb (oc_44 1956 (aq_20 shL_law_1936)) rfl (lvA2 hl) ?_
  refine lv_aload_n hx hb (oc_42 1957 (aq_21 shL_law_1936)) rfl (lvA0 hl) ?_
  refine lv_iload_n hx hb (oc_29 1958 (aq_22 shL_law_1936)) rfl (lvA3 hl) ?_
  refine lv_iconst (v := 1) hx hb (oc_4 1959 (aq_23 shL_law_1936)) kic_1 ?_
  refine lv_iadd hx hb (oc_96 1960 shL_law_1960) ?_
  refine lv_topi (fun y_8 ey_8 => ?_)
  obtain rfl : y_8 = nI (i + 1) := ey_8.trans (nI_add i 1)
  refine va_sld hx hb hX hbl hbA hS (vp_in_nI (by omega) (by omega)) (oc_46 1961 (aq_1 shL_law_1960)) ?_
  refine lv_topi (fun y_9 ey_9 => ?_)
  obtain rfl : y_9 = xs (nI (i + 1)).toNatClampNeg := ey_9
  refine lv_aload_n hx hb (oc_42 1962 (aq_2 shL_law_1960)) rfl (lvA0 hl) ?_
  refine lv_iload_n hx hb (oc_29 1963 (aq_3 shL_law_1960)) rfl (lvA3 hl) ?_
  refine lv_iconst (v := 2) hx hb (oc_5 1964 (aq_4 shL_law_1960)) kic_2 ?_
  refine lv_iadd hx hb (oc_96 1965 (aq_5 shL_law_1960)) ?_
  refine lv_topi (fun y_10 ey_10 => ?_)
  obtain rfl : y_10 = nI (i + 2) := ey_10.trans (nI_add i 2)
  refine va_sld hx hb hX hbl hbA hS (vp_in_nI (by omega) (by omega)) (oc_46 1966 (aq_6 shL_law_1960)) ?_
  refine lv_topi (fun y_11 ey_11 => ?_)
  obtain rfl : y_11 = xs (nI (i + 2)).toNatClampNeg := ey_11
  refine lv_aload_n hx hb (oc_42 1967 (aq_7 shL_law_1960)) rfl (lvA0 hl) ?_
  refine lv_iload_n hx hb (oc_29 1968 (aq_8 shL_law_1960)) rfl (lvA3 hl) ?_
  refine lv_iconst (v := 3) hx hb (oc_6 1969 (aq_9 shL_law_1960)) kic_3 ?_
  refine lv_iadd hx hb (oc_96 1970 (aq_10 shL_law_1960)) ?_
  refine lv_topi (fun y_12 ey_12 => ?_)
  obtain rfl : y_12 = nI (i + 3) := ey_12.trans (nI_add i 3)
  refine va_sld hx hb hX hbl hbA hS (vp_in_nI (by omega) (by omega)) (oc_46 1971 (aq_11 shL_law_1960)) ?_
  refine lv_topi (fun y_13 ey_13 => ?_)
  obtain rfl : y_13 = xs (nI (i + 3)).toNatClampNeg := ey_13
  have hFc := free_all (exDr hD) hS hA
  refine va_calli (runV_a (As := [.int (xs (nI (i + 1)).toNatClampNeg), .int (xs (nI (i + 2)).toNatClampNeg), .int (xs (nI (i + 3)).toNatClampNeg)]) (rest := []) S (q_rate l D cI cB cZ g2 c3 I3 F3 (xs (nI (i + 1)).toNatClampNeg) (xs (nI (i + 2)).toNatClampNeg) (xs (nI (i + 3)).toNatClampNeg) H.size hM.1) kV_RL_221 hK (exPr hP) (exDr hD) 0 rfl rfl rfl ⟨Nat.le_of_ble_eq_true rfl, Nat.le_of_ble_eq_true rfl⟩ ⟨(by show K + 0 ≤ 600000; omega), (by show N + 0 ≤ 7302250; omega)⟩ rfl hl.1 rfl (Nat.le_of_ble_eq_true rfl) (oc_182 1972 (aq_12 shL_law_1960) uw_0_221)) hS (fun q _ h => hFc q h) hFc (fun r13 u t H1 locs ht hvm w13 hB1 hz1 hk1 hS => ?_)
  obtain ⟨c13, I13, F13⟩ := u
  obtain ⟨hP1, hD1⟩ := hB1
  rw [ht] at hP1
  obtain ⟨hP, hD⟩ := exjoin hP hD hk1 hFc hP1 hD1
  generalize H1 = H at hP hS ⊢
  obtain ⟨hM, hd13, hf13⟩ := imm_rate hM w13
  have hR := RR.fm hR hd13 hf13 (by decide) (by decide)
  refine lv_pop hx hb (oc_87 1975 (aq_15 shL_law_1960)) rfl ?_
  refine lv_goto (tgt := 2269) hx hb (oc_167 1976 (aq_16 shL_law_1960) sgw_1_37) rfl ?_
  refine W.widen (k := K + 8) (n := N + 240) (by omega) (by omega) ?_
  exact kk _ _ _ _ _ _ _ _ _ hI hM hR hP hD hS ls hl
set_option maxRecDepth 100000 in
set_option maxHeartbeats 4000000 in
theorem lawc_49 {p : Program} {l : Launch} {e : Env} {s : State} {m : MethodId} {below : List Frame} {meth : Method} {c : Code} {b L : Nat} {xs : Nat → Int32} (C0 : lw_At p s m meth c b L xs) (hLN : L ≤ 3584) {A : Nat → Prop} (hA : ∀ q : Nat, s.heap.size ≤ q → A q) (hbA : ¬ A b) {D : va_G} {cI cB cZ : ClassId} {zz qq vv : Nat} {bt : Nat → Int32} {g g2 : Nat → Nat} (hK : KK D cI cB cZ s) (hXS : XS D zz qq vv bt A s s.heap) {ad : Nat → Nat → Nat} {cn : Nat → Nat} {In : Nat → Int32} {Fn : Nat → Nat → Int32} {c3 : Nat → Nat} {I3 : Nat → Int32} {F3 : Nat → Nat → Int32} (hI : IX ad cn Fn) (hM : IMM c3 F3) (hR : RR cn Fn c3 F3) {H : Heap} {locs : List Loc} (hP : va_P D vwCl (wX cI (D.1 99) zz g ad cn In Fn ++ wM cI cB cZ g2 c3 I3 F3) H) (hD : va_D A (wX cI (D.1 99) zz g ad cn In Fn ++ wM cI cB cZ g2 c3 I3 F3)) (hS : va_S A s.heap H locs) {K N i : Nat} (hi : i + 7 ≤ L) (hKN : K + 8 ≤ 600000 ∧ N + 240 ≤ 7302250) {ls : Array Slot} (hl : lv_has ls 4 [(0, .ref b), (1, .ref (g 0)), (2, .ref (g2 100)), (3, .int (nI i))]) (kk : ∀ (ad : Nat → Nat → Nat) (cn : Nat → Nat) (In : Nat → Int32) (Fn : Nat → Nat → Int32) (c3 : Nat → Nat) (I3 : Nat → Int32) (F3 : Nat → Nat → Int32) (H : Heap) (locs : List Loc), IX ad cn Fn → IMM c3 F3 → RR cn Fn c3 F3 → va_P D vwCl (wX cI (D.1 99) zz g ad cn In Fn ++ wM cI cB cZ g2 c3 I3 F3) H → va_D A (wX cI (D.1 99) zz g ad cn In Fn ++ wM cI cB cZ g2 c3 I3 F3) → va_S A s.heap H locs → ∀ ls : Array Slot, lv_has ls 4 [(0, .ref b), (1, .ref (g 0)), (2, .ref (g2 100)), (3, .int (nI i))] → W p l e room_1 s m #[Value.ref b] below meth c H locs (K + 8) (N + 240) (lw_Z below #[Value.ref b] s) (F0 m 2269 ls [])) : W p l e room_1 s m #[Value.ref b] below meth c H locs K N (lw_Z below #[Value.ref b] s) (F0 m 1979 ls []) := by
  obtain ⟨hx, hb, hr, hml, hown, hts, hX, hbl, hlocks, hgv⟩ := id C0
  have S : SF p m c code 4 s #[Value.ref b] RL := ⟨hx, hb, hml, hown, fun w h => hts w (wT_lw h)⟩
  refine lv_aload_n hx hb (oc_43 1979 (aq_19 shL_law_1960)) rfl (lvA1 hl) ?_
  refine lv_aload_n hx hb (oc_42 1980 (aq_20 shL_law_1960)) rfl (lvA0 hl) ?_
  refine lv_iload_n hx hb (oc_29 1981 (aq_21 shL_law_1960)) rfl (lvA3 hl) ?_
  refine lv_iconst (v := 1) hx hb (oc_4 1982 (aq_22 shL_law_1960)) kic_1 ?_
  refine lv_iadd hx hb (oc_96 1983 (aq_23 shL_law_1960)) ?_
  refine lv_topi (fun y_1 ey_1 => ?_)
  obtain rfl : y_1 = nI (i + 1) := ey_1.trans (nI_add i 1)
  refine va_sld hx hb hX hbl hbA hS (vp_in_nI (by omega) (by omega)) (oc_46 1984 shL_law_1984) ?_
  refine lv_topi (fun y_2 ey_2 => ?_)
  obtain rfl : y_2 = xs (nI (i + 1)).toNatClampNeg := ey_2
  refine vp_callSi (runV_rxa (As := [.int (xs (nI (i + 1)).toNatClampNeg)]) (rest := []) S (q_Xtax l D cI cB cZ zz qq vv bt g ad cn In Fn (xs (nI (i + 1)).toNatClampNeg) hI.1) kV_RL_222 hK hXS hS (exP hP) 0 xo_0 rfl rfl ⟨Nat.le_of_ble_eq_true rfl, Nat.le_of_ble_eq_true rfl⟩ ⟨(by show K + 0 ≤ 600000; omega), (by show N + 0 ≤ 7302250; omega)⟩ rfl hl.1 rfl (Nat.le_of_ble_eq_true rfl) (oc_182 1985 (aq_1 shL_law_1984) uw_0_222)) (fun r2 w2 => ?_)
  refine lv_pop hx hb (oc_87 1988 (aq_4 shL_law_1984)) rfl ?_
  refine lv_aload_n hx hb (oc_44 1989 (aq_5 shL_law_1984)) rfl (lvA2 hl) ?_
  refine lv_aload_n hx hb (oc_42 1990 (aq_6 shL_law_1984)) rfl (lvA0 hl) ?_
  refine lv_iload_n hx hb (oc_29 1991 (aq_7 shL_law_1984)) rfl (lvA3 hl) ?_
  refine lv_iconst (v := 1) hx hb (oc_4 1992 (aq_8 shL_law_1984)) kic_1 ?_
  refine lv_iadd hx hb (oc_96 1993 (aq_9 shL_law_1984)) ?_
  refine lv_topi (fun y_4 ey_4 => ?_)
  obtain rfl : y_4 = nI (i + 1) := ey_4.trans (nI_add i 1)
  refine va_sld hx hb hX hbl hbA hS (vp_in_nI (by omega) (by omega)) (oc_46 1994 (aq_10 shL_law_1984)) ?_
  refine lv_topi (fun y_5 ey_5 => ?_)
  obtain rfl : y_5 = xs (nI (i + 1)).toNatClampNeg := ey_5
  refine vp_callSi (runV_ra (As := [.int (xs (nI (i + 1)).toNatClampNeg)]) (rest := []) S (q_tax l D cI cB cZ g2 c3 I3 F3 (xs (nI (i + 1)).toNatClampNeg) hM.1) kV_RL_225 hK (exPr hP) 0 rfl rfl rfl ⟨Nat.le_of_ble_eq_true rfl, Nat.le_of_ble_eq_true rfl⟩ ⟨(by show K + 0 ≤ 600000; omega), (by show N + 0 ≤ 7302250; omega)⟩ rfl hl.1 rfl (Nat.le_of_ble_eq_true rfl) (oc_182 1995 (aq_11 shL_law_1984) uw_0_225)) (fun r5 w5 => ?_)
  refine lv_pop hx hb (oc_87 1998 (aq_14 shL_law_1984)) rfl ?_
  refine lv_goto (tgt := 2269) hx hb (oc_167 1999 (aq_15 shL_law_1984) sgw_1_14) rfl ?_
  refine W.widen (k := K + 8) (n := N + 240) (by omega) (by omega) ?_
  exact kk _ _ _ _ _ _ _ _ _ hI hM hR hP hD hS ls hl
set_option maxRecDepth 100000 in
set_option maxHeartbeats 4000000 in
theorem lawc_50 {p : Program} {l : Launch} {e : Env} {s : State} {m : MethodId} {below : List Frame} {meth : Method} {c : Code} {b L : Nat} {xs : Nat → Int32} (C0 : lw_At p s m meth c b L xs) (hLN : L ≤ 3584) {A : Nat → Prop} (hA : ∀ q : Nat, s.heap.size ≤ q → A q) (hbA : ¬ A b) {D : va_G} {cI cB cZ : ClassId} {zz qq vv : Nat} {bt : Nat → Int32} {g g2 : Nat → Nat} (hK : KK D cI cB cZ s) (hXS : XS D zz qq vv bt A s s.heap) {ad : Nat → Nat → Nat} {cn : Nat → Nat} {In : Nat → Int32} {Fn : Nat → Nat → Int32} {c3 : Nat → Nat} {I3 : Nat → Int32} {F3 : Nat → Nat → Int32} (hI : IX ad cn Fn) (hM : IMM c3 F3) (hR : RR cn Fn c3 F3) {H : Heap} {locs : List Loc} (hP : va_P D vwCl (wX cI (D.1 99) zz g ad cn In Fn ++ wM cI cB cZ g2 c3 I3 F3) H) (hD : va_D A (wX cI (D.1 99) zz g ad cn In Fn ++ wM cI cB cZ g2 c3 I3 F3)) (hS : va_S A s.heap H locs) {K N i : Nat} (hi : i + 7 ≤ L) (hKN : K + 8 ≤ 600000 ∧ N + 240 ≤ 7302250) {ls : Array Slot} (hl : lv_has ls 4 [(0, .ref b), (1, .ref (g 0)), (2, .ref (g2 100)), (3, .int (nI i))]) (kk : ∀ (ad : Nat → Nat → Nat) (cn : Nat → Nat) (In : Nat → Int32) (Fn : Nat → Nat → Int32) (c3 : Nat → Nat) (I3 : Nat → Int32) (F3 : Nat → Nat → Int32) (H : Heap) (locs : List Loc), IX ad cn Fn → IMM c3 F3 → RR cn Fn c3 F3 → va_P D vwCl (wX cI (D.1 99) zz g ad cn In Fn ++ wM cI cB cZ g2 c3 I3 F3) H → va_D A (wX cI (D.1 99) zz g ad cn In Fn ++ wM cI cB cZ g2 c3 I3 F3) → va_S A s.heap H locs → ∀ ls : Array Slot, lv_has ls 4 [(0, .ref b), (1, .ref (g 0)), (2, .ref (g2 100)), (3, .int (nI i))] → W p l e room_1 s m #[Value.ref b] below meth c H locs (K + 8) (N + 240) (lw_Z below #[Value.ref b] s) (F0 m 2269 ls [])) : W p l e room_1 s m #[Value.ref b] below meth c H locs K N (lw_Z below #[Value.ref b] s) (F0 m 2002 ls []) := by
  obtain ⟨hx, hb, hr, hml, hown, hts, hX, hbl, hlocks, hgv⟩ := id C0
  have S : SF p m c code 4 s #[Value.ref b] RL := ⟨hx, hb, hml, hown, fun w h => hts w (wT_lw h)⟩
  refine lv_aload_n hx hb (oc_43 2002 (aq_18 shL_law_1984)) rfl (lvA1 hl) ?_
  refine lv_aload_n hx hb (oc_42 2003 (aq_19 shL_law_1984)) rfl (lvA0 hl) ?_
  refine lv_iload_n hx hb (oc_29 2004 (aq_20 shL_law_1984)) rfl (lvA3 hl) ?_
  refine lv_iconst (v := 1) hx hb (oc_4 2005 (aq_21 shL_law_1984)) kic_1 ?_
  refine lv_iadd hx hb (oc_96 2006 (aq_22 shL_law_1984)) ?_
  refine lv_topi (fun y_1 ey_1 => ?_)
  obtain rfl : y_1 = nI (i + 1) := ey_1.trans (nI_add i 1)
  refine va_sld hx hb hX hbl hbA hS (vp_in_nI (by omega) (by omega)) (oc_46 2007 (aq_23 shL_law_1984)) ?_
  refine lv_topi (fun y_2 ey_2 => ?_)
  obtain rfl : y_2 = xs (nI (i + 1)).toNatClampNeg := ey_2
  refine lv_aload_n hx hb (oc_42 2008 shL_law_2008) rfl (lvA0 hl) ?_
  refine lv_iload_n hx hb (oc_29 2009 (aq_1 shL_law_2008)) rfl (lvA3 hl) ?_
  refine lv_iconst (v := 2) hx hb (oc_5 2010 (aq_2 shL_law_2008)) kic_2 ?_
  refine lv_iadd hx hb (oc_96 2011 (aq_3 shL_law_2008)) ?_
  refine lv_topi (fun y_3 ey_3 => ?_)
  obtain rfl : y_3 = nI (i + 2) := ey_3.trans (nI_add i 2)
  refine va_sld hx hb hX hbl hbA hS (vp_in_nI (by omega) (by omega)) (oc_46 2012 (aq_4 shL_law_2008)) ?_
  refine lv_topi (fun y_4 ey_4 => ?_)
  obtain rfl : y_4 = xs (nI (i + 2)).toNatClampNeg := ey_4
  have hFc := free_all (exD hD) hS hA
  refine va_calli (runV_xa (As := [.int (xs (nI (i + 1)).toNatClampNeg), .int (xs (nI (i + 2)).toNatClampNeg)]) (rest := []) S (q_Xmost l D cI cB cZ zz qq vv bt g ad cn In Fn (xs (nI (i + 1)).toNatClampNeg) (xs (nI (i + 2)).toNatClampNeg) H.size hI.1) kV_RL_226 hK hXS hS hFc (exP hP) (exD hD) 0 xo_0 rfl rfl ⟨Nat.le_of_ble_eq_true rfl, Nat.le_of_ble_eq_true rfl⟩ ⟨(by show K + 0 ≤ 600000; omega), (by show N + 0 ≤ 7302250; omega)⟩ rfl hl.1 rfl (Nat.le_of_ble_eq_true rfl) (oc_182 2013 (aq_5 shL_law_2008) uw_0_226)) hS (fun q _ h => hFc q h) hFc (fun r4 u t H1 locs ht hvm w4 hB1 hz1 hk1 hS => ?_)
  obtain ⟨c4, I4, F4⟩ := u
  obtain ⟨hP1, hD1⟩ := hB1
  rw [ht] at hP1
  obtain ⟨hP, hD⟩ := exjoinL hP hD hk1 hFc hP1 hD1
  generalize H1 = H at hP hS ⊢
  have hd4 := w4.1.1
  have hf4 := w4.1.2.2
  have hI := IX.fr hI w4.1 w4.2.1 (by decide) (by decide)
  have hR := RR.fx hR hd4 hf4 (by decide) (by decide)
  refine lv_pop hx hb (oc_87 2016 (aq_8 shL_law_2008)) rfl ?_
  refine lv_aload_n hx hb (oc_44 2017 (aq_9 shL_law_2008)) rfl (lvA2 hl) ?_
  refine lv_aload_n hx hb (oc_42 2018 (aq_10 shL_law_2008)) rfl (lvA0 hl) ?_
  refine lv_iload_n hx hb (oc_29 2019 (aq_11 shL_law_2008)) rfl (lvA3 hl) ?_
  refine lv_iconst (v := 1) hx hb (oc_4 2020 (aq_12 shL_law_2008)) kic_1 ?_
  refine lv_iadd hx hb (oc_96 2021 (aq_13 shL_law_2008)) ?_
  refine lv_topi (fun y_6 ey_6 => ?_)
  obtain rfl : y_6 = nI (i + 1) := ey_6.trans (nI_add i 1)
  refine va_sld hx hb hX hbl hbA hS (vp_in_nI (by omega) (by omega)) (oc_46 2022 (aq_14 shL_law_2008)) ?_
  refine lv_topi (fun y_7 ey_7 => ?_)
  obtain rfl : y_7 = xs (nI (i + 1)).toNatClampNeg := ey_7
  refine lv_aload_n hx hb (oc_42 2023 (aq_15 shL_law_2008)) rfl (lvA0 hl) ?_
  refine lv_iload_n hx hb (oc_29 2024 (aq_16 shL_law_2008)) rfl (lvA3 hl) ?_
  refine lv_iconst (v := 2) hx hb (oc_5 2025 (aq_17 shL_law_2008)) kic_2 ?_
  refine lv_iadd hx hb (oc_96 2026 (aq_18 shL_law_2008)) ?_
  refine lv_topi (fun y_8 ey_8 => ?_)
  obtain rfl : y_8 = nI (i + 2) := ey_8.trans (nI_add i 2)
  refine va_sld hx hb hX hbl hbA hS (vp_in_nI (by omega) (by omega)) (oc_46 2027 (aq_19 shL_law_2008)) ?_
  refine lv_topi (fun y_9 ey_9 => ?_)
  obtain rfl : y_9 = xs (nI (i + 2)).toNatClampNeg := ey_9
  have hFc := free_all (exDr hD) hS hA
  refine va_calli (runV_a (As := [.int (xs (nI (i + 1)).toNatClampNeg), .int (xs (nI (i + 2)).toNatClampNeg)]) (rest := []) S (q_most l D cI cB cZ g2 c3 I3 F3 (xs (nI (i + 1)).toNatClampNeg) (xs (nI (i + 2)).toNatClampNeg) H.size hM.1) kV_RL_229 hK (exPr hP) (exDr hD) 0 rfl rfl rfl ⟨Nat.le_of_ble_eq_true rfl, Nat.le_of_ble_eq_true rfl⟩ ⟨(by show K + 0 ≤ 600000; omega), (by show N + 0 ≤ 7302250; omega)⟩ rfl hl.1 rfl (Nat.le_of_ble_eq_true rfl) (oc_182 2028 (aq_20 shL_law_2008) uw_0_229)) hS (fun q _ h => hFc q h) hFc (fun r9 u t H1 locs ht hvm w9 hB1 hz1 hk1 hS => ?_)
  obtain ⟨c9, I9, F9⟩ := u
  obtain ⟨hP1, hD1⟩ := hB1
  rw [ht] at hP1
  obtain ⟨hP, hD⟩ := exjoin hP hD hk1 hFc hP1 hD1
  generalize H1 = H at hP hS ⊢
  obtain ⟨hM, hd9, hf9⟩ := imm_most hM w9
  have hR := RR.fm hR hd9 hf9 (by decide) (by decide)
  refine lv_pop hx hb (oc_87 2031 (aq_23 shL_law_2008)) rfl ?_
  refine lv_goto (tgt := 2269) hx hb (oc_167 2032 shL_law_2032 sgw_0_237) rfl ?_
  refine W.widen (k := K + 8) (n := N + 240) (by omega) (by omega) ?_
  exact kk _ _ _ _ _ _ _ _ _ hI hM hR hP hD hS ls hl
set_option maxRecDepth 100000 in
set_option maxHeartbeats 4000000 in
theorem lawc_51 {p : Program} {l : Launch} {e : Env} {s : State} {m : MethodId} {below : List Frame} {meth : Method} {c : Code} {b L : Nat} {xs : Nat → Int32} (C0 : lw_At p s m meth c b L xs) (hLN : L ≤ 3584) {A : Nat → Prop} (hA : ∀ q : Nat, s.heap.size ≤ q → A q) (hbA : ¬ A b) {D : va_G} {cI cB cZ : ClassId} {zz qq vv : Nat} {bt : Nat → Int32} {g g2 : Nat → Nat} (hK : KK D cI cB cZ s) (hXS : XS D zz qq vv bt A s s.heap) {ad : Nat → Nat → Nat} {cn : Nat → Nat} {In : Nat → Int32} {Fn : Nat → Nat → Int32} {c3 : Nat → Nat} {I3 : Nat → Int32} {F3 : Nat → Nat → Int32} (hI : IX ad cn Fn) (hM : IMM c3 F3) (hR : RR cn Fn c3 F3) {H : Heap} {locs : List Loc} (hP : va_P D vwCl (wX cI (D.1 99) zz g ad cn In Fn ++ wM cI cB cZ g2 c3 I3 F3) H) (hD : va_D A (wX cI (D.1 99) zz g ad cn In Fn ++ wM cI cB cZ g2 c3 I3 F3)) (hS : va_S A s.heap H locs) {K N i : Nat} (hi : i + 7 ≤ L) (hKN : K + 8 ≤ 600000 ∧ N + 240 ≤ 7302250) {ls : Array Slot} (hl : lv_has ls 4 [(0, .ref b), (1, .ref (g 0)), (2, .ref (g2 100)), (3, .int (nI i))]) (kk : ∀ (ad : Nat → Nat → Nat) (cn : Nat → Nat) (In : Nat → Int32) (Fn : Nat → Nat → Int32) (c3 : Nat → Nat) (I3 : Nat → Int32) (F3 : Nat → Nat → Int32) (H : Heap) (locs : List Loc), IX ad cn Fn → IMM c3 F3 → RR cn Fn c3 F3 → va_P D vwCl (wX cI (D.1 99) zz g ad cn In Fn ++ wM cI cB cZ g2 c3 I3 F3) H → va_D A (wX cI (D.1 99) zz g ad cn In Fn ++ wM cI cB cZ g2 c3 I3 F3) → va_S A s.heap H locs → ∀ ls : Array Slot, lv_has ls 4 [(0, .ref b), (1, .ref (g 0)), (2, .ref (g2 100)), (3, .int (nI i))] → W p l e room_1 s m #[Value.ref b] below meth c H locs (K + 8) (N + 240) (lw_Z below #[Value.ref b] s) (F0 m 2269 ls [])) : W p l e room_1 s m #[Value.ref b] below meth c H locs K N (lw_Z below #[Value.ref b] s) (F0 m 2035 ls []) := by
  obtain ⟨hx, hb, hr, hml, hown, hts, hX, hbl, hlocks, hgv⟩ := id C0
  have S : SF p m c code 4 s #[Value.ref b] RL := ⟨hx, hb, hml, hown, fun w h => hts w (wT_lw h)⟩
  refine lv_aload_n hx hb (oc_43 2035 (aq_3 shL_law_2032)) rfl (lvA1 hl) ?_
  refine lv_aload_n hx hb (oc_42 2036 (aq_4 shL_law_2032)) rfl (lvA0 hl) ?_
  refine lv_iload_n hx hb (oc_29 2037 (aq_5 shL_law_2032)) rfl (lvA3 hl) ?_
  refine lv_iconst (v := 1) hx hb (oc_4 2038 (aq_6 shL_law_2032)) kic_1 ?_
  refine lv_iadd hx hb (oc_96 2039 (aq_7 shL_law_2032)) ?_
  refine lv_topi (fun y_1 ey_1 => ?_)
  obtain rfl : y_1 = nI (i + 1) := ey_1.trans (nI_add i 1)
  refine va_sld hx hb hX hbl hbA hS (vp_in_nI (by omega) (by omega)) (oc_46 2040 (aq_8 shL_law_2032)) ?_
  refine lv_topi (fun y_2 ey_2 => ?_)
  obtain rfl : y_2 = xs (nI (i + 1)).toNatClampNeg := ey_2
  refine vp_callSi (runV_rxa (As := [.int (xs (nI (i + 1)).toNatClampNeg)]) (rest := []) S (q_Xoverdrawn l D cI cB cZ zz qq vv bt g ad cn In Fn (xs (nI (i + 1)).toNatClampNeg) hI.1) kV_RL_230 hK hXS hS (exP hP) 0 xo_0 rfl rfl ⟨Nat.le_of_ble_eq_true rfl, Nat.le_of_ble_eq_true rfl⟩ ⟨(by show K + 0 ≤ 600000; omega), (by show N + 0 ≤ 7302250; omega)⟩ rfl hl.1 rfl (Nat.le_of_ble_eq_true rfl) (oc_182 2041 (aq_9 shL_law_2032) uw_0_230)) (fun r2 w2 => ?_)
  refine lv_pop hx hb (oc_87 2044 (aq_12 shL_law_2032)) rfl ?_
  refine lv_aload_n hx hb (oc_44 2045 (aq_13 shL_law_2032)) rfl (lvA2 hl) ?_
  refine lv_aload_n hx hb (oc_42 2046 (aq_14 shL_law_2032)) rfl (lvA0 hl) ?_
  refine lv_iload_n hx hb (oc_29 2047 (aq_15 shL_law_2032)) rfl (lvA3 hl) ?_
  refine lv_iconst (v := 1) hx hb (oc_4 2048 (aq_16 shL_law_2032)) kic_1 ?_
  refine lv_iadd hx hb (oc_96 2049 (aq_17 shL_law_2032)) ?_
  refine lv_topi (fun y_4 ey_4 => ?_)
  obtain rfl : y_4 = nI (i + 1) := ey_4.trans (nI_add i 1)
  refine va_sld hx hb hX hbl hbA hS (vp_in_nI (by omega) (by omega)) (oc_46 2050 (aq_18 shL_law_2032)) ?_
  refine lv_topi (fun y_5 ey_5 => ?_)
  obtain rfl : y_5 = xs (nI (i + 1)).toNatClampNeg := ey_5
  refine vp_callSi (runV_ra (As := [.int (xs (nI (i + 1)).toNatClampNeg)]) (rest := []) S (q_overdrawn l D cI cB cZ g2 c3 I3 F3 (xs (nI (i + 1)).toNatClampNeg) hM.1) kV_RL_233 hK (exPr hP) 0 rfl rfl rfl ⟨Nat.le_of_ble_eq_true rfl, Nat.le_of_ble_eq_true rfl⟩ ⟨(by show K + 0 ≤ 600000; omega), (by show N + 0 ≤ 7302250; omega)⟩ rfl hl.1 rfl (Nat.le_of_ble_eq_true rfl) (oc_182 2051 (aq_19 shL_law_2032) uw_0_233)) (fun r5 w5 => ?_)
  refine lv_pop hx hb (oc_87 2054 (aq_22 shL_law_2032)) rfl ?_
  refine lv_goto (tgt := 2269) hx hb (oc_167 2055 (aq_23 shL_law_2032) sgw_0_214) rfl ?_
  refine W.widen (k := K + 8) (n := N + 240) (by omega) (by omega) ?_
  exact kk _ _ _ _ _ _ _ _ _ hI hM hR hP hD hS ls hl
set_option maxRecDepth 100000 in
set_option maxHeartbeats 4000000 in
theorem lawc_52 {p : Program} {l : Launch} {e : Env} {s : State} {m : MethodId} {below : List Frame} {meth : Method} {c : Code} {b L : Nat} {xs : Nat → Int32} (C0 : lw_At p s m meth c b L xs) (hLN : L ≤ 3584) {A : Nat → Prop} (hA : ∀ q : Nat, s.heap.size ≤ q → A q) (hbA : ¬ A b) {D : va_G} {cI cB cZ : ClassId} {zz qq vv : Nat} {bt : Nat → Int32} {g g2 : Nat → Nat} (hK : KK D cI cB cZ s) (hXS : XS D zz qq vv bt A s s.heap) {ad : Nat → Nat → Nat} {cn : Nat → Nat} {In : Nat → Int32} {Fn : Nat → Nat → Int32} {c3 : Nat → Nat} {I3 : Nat → Int32} {F3 : Nat → Nat → Int32} (hI : IX ad cn Fn) (hM : IMM c3 F3) (hR : RR cn Fn c3 F3) {H : Heap} {locs : List Loc} (hP : va_P D vwCl (wX cI (D.1 99) zz g ad cn In Fn ++ wM cI cB cZ g2 c3 I3 F3) H) (hD : va_D A (wX cI (D.1 99) zz g ad cn In Fn ++ wM cI cB cZ g2 c3 I3 F3)) (hS : va_S A s.heap H locs) {K N i : Nat} (hi : i + 7 ≤ L) (hKN : K + 8 ≤ 600000 ∧ N + 240 ≤ 7302250) {ls : Array Slot} (hl : lv_has ls 4 [(0, .ref b), (1, .ref (g 0)), (2, .ref (g2 100)), (3, .int (nI i))]) (kk : ∀ (ad : Nat → Nat → Nat) (cn : Nat → Nat) (In : Nat → Int32) (Fn : Nat → Nat → Int32) (c3 : Nat → Nat) (I3 : Nat → Int32) (F3 : Nat → Nat → Int32) (H : Heap) (locs : List Loc), IX ad cn Fn → IMM c3 F3 → RR cn Fn c3 F3 → va_P D vwCl (wX cI (D.1 99) zz g ad cn In Fn ++ wM cI cB cZ g2 c3 I3 F3) H → va_D A (wX cI (D.1 99) zz g ad cn In Fn ++ wM cI cB cZ g2 c3 I3 F3) → va_S A s.heap H locs → ∀ ls : Array Slot, lv_has ls 4 [(0, .ref b), (1, .ref (g 0)), (2, .ref (g2 100)), (3, .int (nI i))] → W p l e room_1 s m #[Value.ref b] below meth c H locs (K + 8) (N + 240) (lw_Z below #[Value.ref b] s) (F0 m 2269 ls [])) : W p l e room_1 s m #[Value.ref b] below meth c H locs K N (lw_Z below #[Value.ref b] s) (F0 m 2058 ls []) := by
  obtain ⟨hx, hb, hr, hml, hown, hts, hX, hbl, hlocks, hgv⟩ := id C0
  have S : SF p m c code 4 s #[Value.ref b] RL := ⟨hx, hb, hml, hown, fun w h => hts w (wT_lw h)⟩
  refine lv_aload_n hx hb (oc_43 2058 shL_law_2058) rfl (lvA1 hl) ?_
  refine lv_aload_n hx hb (oc_42 2059 (aq_1 shL_law_2058)) rfl (lvA0 hl) ?_
  refine lv_iload_n hx hb (oc_29 2060 (aq_2 shL_law_2058)) rfl (lvA3 hl) ?_
  refine lv_iconst (v := 1) hx hb (oc_4 2061 (aq_3 shL_law_2058)) kic_1 ?_
  refine lv_iadd hx hb (oc_96 2062 (aq_4 shL_law_2058)) ?_
  refine lv_topi (fun y_1 ey_1 => ?_)
  obtain rfl : y_1 = nI (i + 1) := ey_1.trans (nI_add i 1)
  refine va_sld hx hb hX hbl hbA hS (vp_in_nI (by omega) (by omega)) (oc_46 2063 (aq_5 shL_law_2058)) ?_
  refine lv_topi (fun y_2 ey_2 => ?_)
  obtain rfl : y_2 = xs (nI (i + 1)).toNatClampNeg := ey_2
  refine lv_aload_n hx hb (oc_42 2064 (aq_6 shL_law_2058)) rfl (lvA0 hl) ?_
  refine lv_iload_n hx hb (oc_29 2065 (aq_7 shL_law_2058)) rfl (lvA3 hl) ?_
  refine lv_iconst (v := 2) hx hb (oc_5 2066 (aq_8 shL_law_2058)) kic_2 ?_
  refine lv_iadd hx hb (oc_96 2067 (aq_9 shL_law_2058)) ?_
  refine lv_topi (fun y_3 ey_3 => ?_)
  obtain rfl : y_3 = nI (i + 2) := ey_3.trans (nI_add i 2)
  refine va_sld hx hb hX hbl hbA hS (vp_in_nI (by omega) (by omega)) (oc_46 2068 (aq_10 shL_law_2058)) ?_
  refine lv_topi (fun y_4 ey_4 => ?_)
  obtain rfl : y_4 = xs (nI (i + 2)).toNatClampNeg := ey_4
  have hFc := free_all (exD hD) hS hA
  refine va_calli (runV_xa (As := [.int (xs (nI (i + 1)).toNatClampNeg), .int (xs (nI (i + 2)).toNatClampNeg)]) (rest := []) S (q_XsampleM l D cI cB cZ zz qq vv bt g ad cn In Fn (xs (nI (i + 1)).toNatClampNeg) (xs (nI (i + 2)).toNatClampNeg) H.size hI.1 hI.2.2.2.2.2.1) kV_RL_234 hK hXS hS hFc (exP hP) (exD hD) 0 xo_0 rfl rfl ⟨Nat.le_of_ble_eq_true rfl, Nat.le_of_ble_eq_true rfl⟩ ⟨(by show K + 0 ≤ 600000; omega), (by show N + 0 ≤ 7302250; omega)⟩ rfl hl.1 rfl (Nat.le_of_ble_eq_true rfl) (oc_182 2069 (aq_11 shL_law_2058) uw_0_234)) hS (fun q _ h => hFc q h) hFc (fun r4 u t H1 locs ht hvm w4 hB1 hz1 hk1 hS => ?_)
  obtain ⟨c4, I4, F4⟩ := u
  obtain ⟨hP1, hD1⟩ := hB1
  rw [ht] at hP1
  obtain ⟨hP, hD⟩ := exjoinL hP hD hk1 hFc hP1 hD1
  generalize H1 = H at hP hS ⊢
  have hd4 := w4.1.1
  have hf4 := w4.1.2.2
  have hI := IX.frs hI w4.1 w4.2.1 (by decide) w4.2.2
  have hR := RR.fx hR hd4 hf4 (by decide) (by decide)
  refine lv_pop hx hb (oc_87 2072 (aq_14 shL_law_2058)) rfl ?_
  refine lv_aload_n hx hb (oc_44 2073 (aq_15 shL_law_2058)) rfl (lvA2 hl) ?_
  refine lv_aload_n hx hb (oc_42 2074 (aq_16 shL_law_2058)) rfl (lvA0 hl) ?_
  refine lv_iload_n hx hb (oc_29 2075 (aq_17 shL_law_2058)) rfl (lvA3 hl) ?_
  refine lv_iconst (v := 1) hx hb (oc_4 2076 (aq_18 shL_law_2058)) kic_1 ?_
  refine lv_iadd hx hb (oc_96 2077 (aq_19 shL_law_2058)) ?_
  refine lv_topi (fun y_6 ey_6 => ?_)
  obtain rfl : y_6 = nI (i + 1) := ey_6.trans (nI_add i 1)
  refine va_sld hx hb hX hbl hbA hS (vp_in_nI (by omega) (by omega)) (oc_46 2078 (aq_20 shL_law_2058)) ?_
  refine lv_topi (fun y_7 ey_7 => ?_)
  obtain rfl : y_7 = xs (nI (i + 1)).toNatClampNeg := ey_7
  refine lv_aload_n hx hb (oc_42 2079 (aq_21 shL_law_2058)) rfl (lvA0 hl) ?_
  refine lv_iload_n hx hb (oc_29 2080 (aq_22 shL_law_2058)) rfl (lvA3 hl) ?_
  refine lv_iconst (v := 2) hx hb (oc_5 2081 (aq_23 shL_law_2058)) kic_2 ?_
  refine lv_iadd hx hb (oc_96 2082 shL_law_2082) ?_
  refine lv_topi (fun y_8 ey_8 => ?_)
  obtain rfl : y_8 = nI (i + 2) := ey_8.trans (nI_add i 2)
  refine va_sld hx hb hX hbl hbA hS (vp_in_nI (by omega) (by omega)) (oc_46 2083 (aq_1 shL_law_2082)) ?_
  refine lv_topi (fun y_9 ey_9 => ?_)
  obtain rfl : y_9 = xs (nI (i + 2)).toNatClampNeg := ey_9
  have hFc := free_all (exDr hD) hS hA
  refine va_calli (runV_a (As := [.int (xs (nI (i + 1)).toNatClampNeg), .int (xs (nI (i + 2)).toNatClampNeg)]) (rest := []) S (q_sample l D cI cB cZ g2 c3 I3 F3 (xs (nI (i + 1)).toNatClampNeg) (xs (nI (i + 2)).toNatClampNeg) H.size hM.1) kV_RL_237 hK (exPr hP) (exDr hD) 0 rfl rfl rfl ⟨Nat.le_of_ble_eq_true rfl, Nat.le_of_ble_eq_true rfl⟩ ⟨(by show K + 0 ≤ 600000; omega), (by show N + 0 ≤ 7302250; omega)⟩ rfl hl.1 rfl (Nat.le_of_ble_eq_true rfl) (oc_182 2084 (aq_2 shL_law_2082) uw_0_237)) hS (fun q _ h => hFc q h) hFc (fun r9 u t H1 locs ht hvm w9 hB1 hz1 hk1 hS => ?_)
  obtain ⟨c9, I9, F9⟩ := u
  obtain ⟨hP1, hD1⟩ := hB1
  rw [ht] at hP1
  obtain ⟨hP, hD⟩ := exjoin hP hD hk1 hFc hP1 hD1
  generalize H1 = H at hP hS ⊢
  obtain ⟨hM, hd9, hf9⟩ := imm_sample hM w9
  have hR := RR.fm hR hd9 hf9 (by decide) (by decide)
  refine lv_pop hx hb (oc_87 2087 (aq_5 shL_law_2082)) rfl ?_
  refine lv_goto (tgt := 2269) hx hb (oc_167 2088 (aq_6 shL_law_2082) sgw_0_181) rfl ?_
  refine W.widen (k := K + 8) (n := N + 240) (by omega) (by omega) ?_
  exact kk _ _ _ _ _ _ _ _ _ hI hM hR hP hD hS ls hl
set_option maxRecDepth 100000 in
set_option maxHeartbeats 4000000 in
theorem lawc_53 {p : Program} {l : Launch} {e : Env} {s : State} {m : MethodId} {below : List Frame} {meth : Method} {c : Code} {b L : Nat} {xs : Nat → Int32} (C0 : lw_At p s m meth c b L xs) (hLN : L ≤ 3584) {A : Nat → Prop} (hA : ∀ q : Nat, s.heap.size ≤ q → A q) (hbA : ¬ A b) {D : va_G} {cI cB cZ : ClassId} {zz qq vv : Nat} {bt : Nat → Int32} {g g2 : Nat → Nat} (hK : KK D cI cB cZ s) (hXS : XS D zz qq vv bt A s s.heap) {ad : Nat → Nat → Nat} {cn : Nat → Nat} {In : Nat → Int32} {Fn : Nat → Nat → Int32} {c3 : Nat → Nat} {I3 : Nat → Int32} {F3 : Nat → Nat → Int32} (hI : IX ad cn Fn) (hM : IMM c3 F3) (hR : RR cn Fn c3 F3) {H : Heap} {locs : List Loc} (hP : va_P D vwCl (wX cI (D.1 99) zz g ad cn In Fn ++ wM cI cB cZ g2 c3 I3 F3) H) (hD : va_D A (wX cI (D.1 99) zz g ad cn In Fn ++ wM cI cB cZ g2 c3 I3 F3)) (hS : va_S A s.heap H locs) {K N i : Nat} (hi : i + 7 ≤ L) (hKN : K + 8 ≤ 600000 ∧ N + 240 ≤ 7302250) {ls : Array Slot} (hl : lv_has ls 4 [(0, .ref b), (1, .ref (g 0)), (2, .ref (g2 100)), (3, .int (nI i))]) (kk : ∀ (ad : Nat → Nat → Nat) (cn : Nat → Nat) (In : Nat → Int32) (Fn : Nat → Nat → Int32) (c3 : Nat → Nat) (I3 : Nat → Int32) (F3 : Nat → Nat → Int32) (H : Heap) (locs : List Loc), IX ad cn Fn → IMM c3 F3 → RR cn Fn c3 F3 → va_P D vwCl (wX cI (D.1 99) zz g ad cn In Fn ++ wM cI cB cZ g2 c3 I3 F3) H → va_D A (wX cI (D.1 99) zz g ad cn In Fn ++ wM cI cB cZ g2 c3 I3 F3) → va_S A s.heap H locs → ∀ ls : Array Slot, lv_has ls 4 [(0, .ref b), (1, .ref (g 0)), (2, .ref (g2 100)), (3, .int (nI i))] → W p l e room_1 s m #[Value.ref b] below meth c H locs (K + 8) (N + 240) (lw_Z below #[Value.ref b] s) (F0 m 2269 ls [])) : W p l e room_1 s m #[Value.ref b] below meth c H locs K N (lw_Z below #[Value.ref b] s) (F0 m 2091 ls []) := by
  obtain ⟨hx, hb, hr, hml, hown, hts, hX, hbl, hlocks, hgv⟩ := id C0
  have S : SF p m c code 4 s #[Value.ref b] RL := ⟨hx, hb, hml, hown, fun w h => hts w (wT_lw h)⟩
  refine lv_aload_n hx hb (oc_43 2091 (aq_9 shL_law_2082)) rfl (lvA1 hl) ?_
  refine lv_aload_n hx hb (oc_42 2092 (aq_10 shL_law_2082)) rfl (lvA0 hl) ?_
  refine lv_iload_n hx hb (oc_29 2093 (aq_11 shL_law_2082)) rfl (lvA3 hl) ?_
  refine lv_iconst (v := 1) hx hb (oc_4 2094 (aq_12 shL_law_2082)) kic_1 ?_
  refine lv_iadd hx hb (oc_96 2095 (aq_13 shL_law_2082)) ?_
  refine lv_topi (fun y_1 ey_1 => ?_)
  obtain rfl : y_1 = nI (i + 1) := ey_1.trans (nI_add i 1)
  refine va_sld hx hb hX hbl hbA hS (vp_in_nI (by omega) (by omega)) (oc_46 2096 (aq_14 shL_law_2082)) ?_
  refine lv_topi (fun y_2 ey_2 => ?_)
  obtain rfl : y_2 = xs (nI (i + 1)).toNatClampNeg := ey_2
  refine lv_aload_n hx hb (oc_42 2097 (aq_15 shL_law_2082)) rfl (lvA0 hl) ?_
  refine lv_iload_n hx hb (oc_29 2098 (aq_16 shL_law_2082)) rfl (lvA3 hl) ?_
  refine lv_iconst (v := 2) hx hb (oc_5 2099 (aq_17 shL_law_2082)) kic_2 ?_
  refine lv_iadd hx hb (oc_96 2100 (aq_18 shL_law_2082)) ?_
  refine lv_topi (fun y_3 ey_3 => ?_)
  obtain rfl : y_3 = nI (i + 2) := ey_3.trans (nI_add i 2)
  refine va_sld hx hb hX hbl hbA hS (vp_in_nI (by omega) (by omega)) (oc_46 2101 (aq_19 shL_law_2082)) ?_
  refine lv_topi (fun y_4 ey_4 => ?_)
  obtain rfl : y_4 = xs (nI (i + 2)).toNatClampNeg := ey_4
  refine lv_aload_n hx hb (oc_42 2102 (aq_20 shL_law_2082)) rfl (lvA0 hl) ?_
  refine lv_iload_n hx hb (oc_29 2103 (aq_21 shL_law_2082)) rfl (lvA3 hl) ?_
  refine lv_iconst (v := 3) hx hb (oc_6 2104 (aq_22 shL_law_2082)) kic_3 ?_
  refine lv_iadd hx hb (oc_96 2105 (aq_23 shL_law_2082)) ?_
  refine lv_topi (fun y_5 ey_5 => ?_)
  obtain rfl : y_5 = nI (i + 3) := ey_5.trans (nI_add i 3)
  refine va_sld hx hb hX hbl hbA hS (vp_in_nI (by omega) (by omega)) (oc_46 2106 shL_law_2106) ?_
  refine lv_topi (fun y_6 ey_6 => ?_)
  obtain rfl : y_6 = xs (nI (i + 3)).toNatClampNeg := ey_6
  refine vp_callSi (runV_rxa (As := [.int (xs (nI (i + 1)).toNatClampNeg), .int (xs (nI (i + 2)).toNatClampNeg), .int (xs (nI (i + 3)).toNatClampNeg)]) (rest := []) S (q_Xclaim l D cI cB cZ zz qq vv bt g ad cn In Fn (xs (nI (i + 1)).toNatClampNeg) (xs (nI (i + 2)).toNatClampNeg) (xs (nI (i + 3)).toNatClampNeg) hI.1 hI.2.2.2.2.2.1) kV_RL_238 hK hXS hS (exP hP) 0 xo_0 rfl rfl ⟨Nat.le_of_ble_eq_true rfl, Nat.le_of_ble_eq_true rfl⟩ ⟨(by show K + 0 ≤ 600000; omega), (by show N + 0 ≤ 7302250; omega)⟩ rfl hl.1 rfl (Nat.le_of_ble_eq_true rfl) (oc_182 2107 (aq_1 shL_law_2106) uw_0_238)) (fun r6 w6 => ?_)
  refine lv_pop hx hb (oc_87 2110 (aq_4 shL_law_2106)) rfl ?_
  refine lv_aload_n hx hb (oc_44 2111 (aq_5 shL_law_2106)) rfl (lvA2 hl) ?_
  refine lv_aload_n hx hb (oc_42 2112 (aq_6 shL_law_2106)) rfl (lvA0 hl) ?_
  refine lv_iload_n hx hb (oc_29 2113 (aq_7 shL_law_2106)) rfl (lvA3 hl) ?_
  refine lv_iconst (v := 1) hx hb (oc_4 2114 (aq_8 shL_law_2106)) kic_1 ?_
  refine lv_iadd hx hb (oc_96 2115 (aq_9 shL_law_2106)) ?_
  refine lv_topi (fun y_8 ey_8 => ?_)
  obtain rfl : y_8 = nI (i + 1) := ey_8.trans (nI_add i 1)
  refine va_sld hx hb hX hbl hbA hS (vp_in_nI (by omega) (by omega)) (oc_46 2116 (aq_10 shL_law_2106)) ?_
  refine lv_topi (fun y_9 ey_9 => ?_)
  obtain rfl : y_9 = xs (nI (i + 1)).toNatClampNeg := ey_9
  refine lv_aload_n hx hb (oc_42 2117 (aq_11 shL_law_2106)) rfl (lvA0 hl) ?_
  refine lv_iload_n hx hb (oc_29 2118 (aq_12 shL_law_2106)) rfl (lvA3 hl) ?_
  refine lv_iconst (v := 2) hx hb (oc_5 2119 (aq_13 shL_law_2106)) kic_2 ?_
  refine lv_iadd hx hb (oc_96 2120 (aq_14 shL_law_2106)) ?_
  refine lv_topi (fun y_10 ey_10 => ?_)
  obtain rfl : y_10 = nI (i + 2) := ey_10.trans (nI_add i 2)
  refine va_sld hx hb hX hbl hbA hS (vp_in_nI (by omega) (by omega)) (oc_46 2121 (aq_15 shL_law_2106)) ?_
  refine lv_topi (fun y_11 ey_11 => ?_)
  obtain rfl : y_11 = xs (nI (i + 2)).toNatClampNeg := ey_11
  refine lv_aload_n hx hb (oc_42 2122 (aq_16 shL_law_2106)) rfl (lvA0 hl) ?_
  refine lv_iload_n hx hb (oc_29 2123 (aq_17 shL_law_2106)) rfl (lvA3 hl) ?_
  refine lv_iconst (v := 3) hx hb (oc_6 2124 (aq_18 shL_law_2106)) kic_3 ?_
  refine lv_iadd hx hb (oc_96 2125 (aq_19 shL_law_2106)) ?_
  refine lv_topi (fun y_12 ey_12 => ?_)
  obtain rfl : y_12 = nI (i + 3) := ey_12.trans (nI_add i 3)
  refine va_sld hx hb hX hbl hbA hS (vp_in_nI (by omega) (by omega)) (oc_46 2126 (aq_20 shL_law_2106)) ?_
  refine lv_topi (fun y_13 ey_13 => ?_)
  obtain rfl : y_13 = xs (nI (i + 3)).toNatClampNeg := ey_13
  refine vp_callSi (runV_ra (As := [.int (xs (nI (i + 1)).toNatClampNeg), .int (xs (nI (i + 2)).toNatClampNeg), .int (xs (nI (i + 3)).toNatClampNeg)]) (rest := []) S (q_claim l D cI cB cZ g2 c3 I3 F3 (xs (nI (i + 1)).toNatClampNeg) (xs (nI (i + 2)).toNatClampNeg) (xs (nI (i + 3)).toNatClampNeg) hM.1) kV_RL_241 hK (exPr hP) 0 rfl rfl rfl ⟨Nat.le_of_ble_eq_true rfl, Nat.le_of_ble_eq_true rfl⟩ ⟨(by show K + 0 ≤ 600000; omega), (by show N + 0 ≤ 7302250; omega)⟩ rfl hl.1 rfl (Nat.le_of_ble_eq_true rfl) (oc_182 2127 (aq_21 shL_law_2106) uw_0_241)) (fun r13 w13 => ?_)
  refine lv_pop hx hb (oc_87 2130 shL_law_2130) rfl ?_
  refine lv_goto (tgt := 2269) hx hb (oc_167 2131 (aq_1 shL_law_2130) sgw_0_138) rfl ?_
  refine W.widen (k := K + 8) (n := N + 240) (by omega) (by omega) ?_
  exact kk _ _ _ _ _ _ _ _ _ hI hM hR hP hD hS ls hl
set_option maxRecDepth 100000 in
set_option maxHeartbeats 4000000 in
theorem lawc_54 {p : Program} {l : Launch} {e : Env} {s : State} {m : MethodId} {below : List Frame} {meth : Method} {c : Code} {b L : Nat} {xs : Nat → Int32} (C0 : lw_At p s m meth c b L xs) (hLN : L ≤ 3584) {A : Nat → Prop} (hA : ∀ q : Nat, s.heap.size ≤ q → A q) (hbA : ¬ A b) {D : va_G} {cI cB cZ : ClassId} {zz qq vv : Nat} {bt : Nat → Int32} {g g2 : Nat → Nat} (hK : KK D cI cB cZ s) (hXS : XS D zz qq vv bt A s s.heap) {ad : Nat → Nat → Nat} {cn : Nat → Nat} {In : Nat → Int32} {Fn : Nat → Nat → Int32} {c3 : Nat → Nat} {I3 : Nat → Int32} {F3 : Nat → Nat → Int32} (hI : IX ad cn Fn) (hM : IMM c3 F3) (hR : RR cn Fn c3 F3) {H : Heap} {locs : List Loc} (hP : va_P D vwCl (wX cI (D.1 99) zz g ad cn In Fn ++ wM cI cB cZ g2 c3 I3 F3) H) (hD : va_D A (wX cI (D.1 99) zz g ad cn In Fn ++ wM cI cB cZ g2 c3 I3 F3)) (hS : va_S A s.heap H locs) {K N i : Nat} (hi : i + 7 ≤ L) (hKN : K + 8 ≤ 600000 ∧ N + 240 ≤ 7302250) {ls : Array Slot} (hl : lv_has ls 4 [(0, .ref b), (1, .ref (g 0)), (2, .ref (g2 100)), (3, .int (nI i))]) (kk : ∀ (ad : Nat → Nat → Nat) (cn : Nat → Nat) (In : Nat → Int32) (Fn : Nat → Nat → Int32) (c3 : Nat → Nat) (I3 : Nat → Int32) (F3 : Nat → Nat → Int32) (H : Heap) (locs : List Loc), IX ad cn Fn → IMM c3 F3 → RR cn Fn c3 F3 → va_P D vwCl (wX cI (D.1 99) zz g ad cn In Fn ++ wM cI cB cZ g2 c3 I3 F3) H → va_D A (wX cI (D.1 99) zz g ad cn In Fn ++ wM cI cB cZ g2 c3 I3 F3) → va_S A s.heap H locs → ∀ ls : Array Slot, lv_has ls 4 [(0, .ref b), (1, .ref (g 0)), (2, .ref (g2 100)), (3, .int (nI i))] → W p l e room_1 s m #[Value.ref b] below meth c H locs (K + 8) (N + 240) (lw_Z below #[Value.ref b] s) (F0 m 2269 ls [])) : W p l e room_1 s m #[Value.ref b] below meth c H locs K N (lw_Z below #[Value.ref b] s) (F0 m 2134 ls []) := by
  obtain ⟨hx, hb, hr, hml, hown, hts, hX, hbl, hlocks, hgv⟩ := id C0
  have S : SF p m c code 4 s #[Value.ref b] RL := ⟨hx, hb, hml, hown, fun w h => hts w (wT_lw h)⟩
  refine lv_aload_n hx hb (oc_43 2134 (aq_4 shL_law_2130)) rfl (lvA1 hl) ?_
  refine lv_aload_n hx hb (oc_42 2135 (aq_5 shL_law_2130)) rfl (lvA0 hl) ?_
  refine lv_iload_n hx hb (oc_29 2136 (aq_6 shL_law_2130)) rfl (lvA3 hl) ?_
  refine lv_iconst (v := 1) hx hb (oc_4 2137 (aq_7 shL_law_2130)) kic_1 ?_
  refine lv_iadd hx hb (oc_96 2138 (aq_8 shL_law_2130)) ?_
  refine lv_topi (fun y_1 ey_1 => ?_)
  obtain rfl : y_1 = nI (i + 1) := ey_1.trans (nI_add i 1)
  refine va_sld hx hb hX hbl hbA hS (vp_in_nI (by omega) (by omega)) (oc_46 2139 (aq_9 shL_law_2130)) ?_
  refine lv_topi (fun y_2 ey_2 => ?_)
  obtain rfl : y_2 = xs (nI (i + 1)).toNatClampNeg := ey_2
  refine lv_aload_n hx hb (oc_42 2140 (aq_10 shL_law_2130)) rfl (lvA0 hl) ?_
  refine lv_iload_n hx hb (oc_29 2141 (aq_11 shL_law_2130)) rfl (lvA3 hl) ?_
  refine lv_iconst (v := 2) hx hb (oc_5 2142 (aq_12 shL_law_2130)) kic_2 ?_
  refine lv_iadd hx hb (oc_96 2143 (aq_13 shL_law_2130)) ?_
  refine lv_topi (fun y_3 ey_3 => ?_)
  obtain rfl : y_3 = nI (i + 2) := ey_3.trans (nI_add i 2)
  refine va_sld hx hb hX hbl hbA hS (vp_in_nI (by omega) (by omega)) (oc_46 2144 (aq_14 shL_law_2130)) ?_
  refine lv_topi (fun y_4 ey_4 => ?_)
  obtain rfl : y_4 = xs (nI (i + 2)).toNatClampNeg := ey_4
  have hFc := free_all (exD hD) hS hA
  refine va_calli (runV_xa (As := [.int (xs (nI (i + 1)).toNatClampNeg), .int (xs (nI (i + 2)).toNatClampNeg)]) (rest := []) S (q_Xspill l D cI cB cZ zz qq vv bt g ad cn In Fn (xs (nI (i + 1)).toNatClampNeg) (xs (nI (i + 2)).toNatClampNeg) H.size hI.1) kV_RL_242 hK hXS hS hFc (exP hP) (exD hD) 0 xo_0 rfl rfl ⟨Nat.le_of_ble_eq_true rfl, Nat.le_of_ble_eq_true rfl⟩ ⟨(by show K + 0 ≤ 600000; omega), (by show N + 0 ≤ 7302250; omega)⟩ rfl hl.1 rfl (Nat.le_of_ble_eq_true rfl) (oc_182 2145 (aq_15 shL_law_2130) uw_0_242)) hS (fun q _ h => hFc q h) hFc (fun r4 u t H1 locs ht hvm w4 hB1 hz1 hk1 hS => ?_)
  obtain ⟨c4, I4, F4⟩ := u
  obtain ⟨hP1, hD1⟩ := hB1
  rw [ht] at hP1
  obtain ⟨hP, hD⟩ := exjoinL hP hD hk1 hFc hP1 hD1
  generalize H1 = H at hP hS ⊢
  have hd4 := w4.1.1
  have hf4 := w4.1.2.2
  have hI := IX.fr hI w4.1 w4.2.1 (by decide) (by decide)
  have hR := RR.fx hR hd4 hf4 (by decide) (by decide)
  refine lv_pop hx hb (oc_87 2148 (aq_18 shL_law_2130)) rfl ?_
  refine lv_aload_n hx hb (oc_44 2149 (aq_19 shL_law_2130)) rfl (lvA2 hl) ?_
  refine lv_aload_n hx hb (oc_42 2150 (aq_20 shL_law_2130)) rfl (lvA0 hl) ?_
  refine lv_iload_n hx hb (oc_29 2151 (aq_21 shL_law_2130)) rfl (lvA3 hl) ?_
  refine lv_iconst (v := 1) hx hb (oc_4 2152 (aq_22 shL_law_2130)) kic_1 ?_
  refine lv_iadd hx hb (oc_96 2153 (aq_23 shL_law_2130)) ?_
  refine lv_topi (fun y_6 ey_6 => ?_)
  obtain rfl : y_6 = nI (i + 1) := ey_6.trans (nI_add i 1)
  refine va_sld hx hb hX hbl hbA hS (vp_in_nI (by omega) (by omega)) (oc_46 2154 shL_law_2154) ?_
  refine lv_topi (fun y_7 ey_7 => ?_)
  obtain rfl : y_7 = xs (nI (i + 1)).toNatClampNeg := ey_7
  refine lv_aload_n hx hb (oc_42 2155 (aq_1 shL_law_2154)) rfl (lvA0 hl) ?_
  refine lv_iload_n hx hb (oc_29 2156 (aq_2 shL_law_2154)) rfl (lvA3 hl) ?_
  refine lv_iconst (v := 2) hx hb (oc_5 2157 (aq_3 shL_law_2154)) kic_2 ?_
  refine lv_iadd hx hb (oc_96 2158 (aq_4 shL_law_2154)) ?_
  refine lv_topi (fun y_8 ey_8 => ?_)
  obtain rfl : y_8 = nI (i + 2) := ey_8.trans (nI_add i 2)
  refine va_sld hx hb hX hbl hbA hS (vp_in_nI (by omega) (by omega)) (oc_46 2159 (aq_5 shL_law_2154)) ?_
  refine lv_topi (fun y_9 ey_9 => ?_)
  obtain rfl : y_9 = xs (nI (i + 2)).toNatClampNeg := ey_9
  have hFc := free_all (exDr hD) hS hA
  refine va_calli (runV_a (As := [.int (xs (nI (i + 1)).toNatClampNeg), .int (xs (nI (i + 2)).toNatClampNeg)]) (rest := []) S (q_spill l D cI cB cZ g2 c3 I3 F3 (xs (nI (i + 1)).toNatClampNeg) (xs (nI (i + 2)).toNatClampNeg) H.size hM.1) kV_RL_245 hK (exPr hP) (exDr hD) 0 rfl rfl rfl ⟨Nat.le_of_ble_eq_true rfl, Nat.le_of_ble_eq_true rfl⟩ ⟨(by show K + 0 ≤ 600000; omega), (by show N + 0 ≤ 7302250; omega)⟩ rfl hl.1 rfl (Nat.le_of_ble_eq_true rfl) (oc_182 2160 (aq_6 shL_law_2154) uw_0_245)) hS (fun q _ h => hFc q h) hFc (fun r9 u t H1 locs ht hvm w9 hB1 hz1 hk1 hS => ?_)
  obtain ⟨c9, I9, F9⟩ := u
  obtain ⟨hP1, hD1⟩ := hB1
  rw [ht] at hP1
  obtain ⟨hP, hD⟩ := exjoin hP hD hk1 hFc hP1 hD1
  generalize H1 = H at hP hS ⊢
  obtain ⟨hM, hd9, hf9⟩ := imm_spill hM w9
  have hR := RR.fm hR hd9 hf9 (by decide) (by decide)
  refine lv_pop hx hb (oc_87 2163 (aq_9 shL_law_2154)) rfl ?_
  refine lv_goto (tgt := 2269) hx hb (oc_167 2164 (aq_10 shL_law_2154) sgw_0_105) rfl ?_
  refine W.widen (k := K + 8) (n := N + 240) (by omega) (by omega) ?_
  exact kk _ _ _ _ _ _ _ _ _ hI hM hR hP hD hS ls hl
set_option maxRecDepth 100000 in
set_option maxHeartbeats 4000000 in
theorem lawc_55 {p : Program} {l : Launch} {e : Env} {s : State} {m : MethodId} {below : List Frame} {meth : Method} {c : Code} {b L : Nat} {xs : Nat → Int32} (C0 : lw_At p s m meth c b L xs) (hLN : L ≤ 3584) {A : Nat → Prop} (hA : ∀ q : Nat, s.heap.size ≤ q → A q) (hbA : ¬ A b) {D : va_G} {cI cB cZ : ClassId} {zz qq vv : Nat} {bt : Nat → Int32} {g g2 : Nat → Nat} (hK : KK D cI cB cZ s) (hXS : XS D zz qq vv bt A s s.heap) {ad : Nat → Nat → Nat} {cn : Nat → Nat} {In : Nat → Int32} {Fn : Nat → Nat → Int32} {c3 : Nat → Nat} {I3 : Nat → Int32} {F3 : Nat → Nat → Int32} (hI : IX ad cn Fn) (hM : IMM c3 F3) (hR : RR cn Fn c3 F3) {H : Heap} {locs : List Loc} (hP : va_P D vwCl (wX cI (D.1 99) zz g ad cn In Fn ++ wM cI cB cZ g2 c3 I3 F3) H) (hD : va_D A (wX cI (D.1 99) zz g ad cn In Fn ++ wM cI cB cZ g2 c3 I3 F3)) (hS : va_S A s.heap H locs) {K N i : Nat} (hi : i + 7 ≤ L) (hKN : K + 8 ≤ 600000 ∧ N + 240 ≤ 7302250) {ls : Array Slot} (hl : lv_has ls 4 [(0, .ref b), (1, .ref (g 0)), (2, .ref (g2 100)), (3, .int (nI i))]) (kk : ∀ (ad : Nat → Nat → Nat) (cn : Nat → Nat) (In : Nat → Int32) (Fn : Nat → Nat → Int32) (c3 : Nat → Nat) (I3 : Nat → Int32) (F3 : Nat → Nat → Int32) (H : Heap) (locs : List Loc), IX ad cn Fn → IMM c3 F3 → RR cn Fn c3 F3 → va_P D vwCl (wX cI (D.1 99) zz g ad cn In Fn ++ wM cI cB cZ g2 c3 I3 F3) H → va_D A (wX cI (D.1 99) zz g ad cn In Fn ++ wM cI cB cZ g2 c3 I3 F3) → va_S A s.heap H locs → ∀ ls : Array Slot, lv_has ls 4 [(0, .ref b), (1, .ref (g 0)), (2, .ref (g2 100)), (3, .int (nI i))] → W p l e room_1 s m #[Value.ref b] below meth c H locs (K + 8) (N + 240) (lw_Z below #[Value.ref b] s) (F0 m 2269 ls [])) : W p l e room_1 s m #[Value.ref b] below meth c H locs K N (lw_Z below #[Value.ref b] s) (F0 m 2167 ls []) := by
  obtain ⟨hx, hb, hr, hml, hown, hts, hX, hbl, hlocks, hgv⟩ := id C0
  have S : SF p m c code 4 s #[Value.ref b] RL := ⟨hx, hb, hml, hown, fun w h => hts w (wT_lw h)⟩
  refine lv_aload_n hx hb (oc_43 2167 (aq_13 shL_law_2154)) rfl (lvA1 hl) ?_
  refine lv_aload_n hx hb (oc_42 2168 (aq_14 shL_law_2154)) rfl (lvA0 hl) ?_
  refine lv_iload_n hx hb (oc_29 2169 (aq_15 shL_law_2154)) rfl (lvA3 hl) ?_
  refine lv_iconst (v := 1) hx hb (oc_4 2170 (aq_16 shL_law_2154)) kic_1 ?_
  refine lv_iadd hx hb (oc_96 2171 (aq_17 shL_law_2154)) ?_
  refine lv_topi (fun y_1 ey_1 => ?_)
  obtain rfl : y_1 = nI (i + 1) := ey_1.trans (nI_add i 1)
  refine va_sld hx hb hX hbl hbA hS (vp_in_nI (by omega) (by omega)) (oc_46 2172 (aq_18 shL_law_2154)) ?_
  refine lv_topi (fun y_2 ey_2 => ?_)
  obtain rfl : y_2 = xs (nI (i + 1)).toNatClampNeg := ey_2
  refine vp_callSi (runV_rxa (As := [.int (xs (nI (i + 1)).toNatClampNeg)]) (rest := []) S (q_Xstock l D cI cB cZ zz qq vv bt g ad cn In Fn (xs (nI (i + 1)).toNatClampNeg) hI.1) kV_RL_246 hK hXS hS (exP hP) 0 xo_0 rfl rfl ⟨Nat.le_of_ble_eq_true rfl, Nat.le_of_ble_eq_true rfl⟩ ⟨(by show K + 0 ≤ 600000; omega), (by show N + 0 ≤ 7302250; omega)⟩ rfl hl.1 rfl (Nat.le_of_ble_eq_true rfl) (oc_182 2173 (aq_19 shL_law_2154) uw_0_246)) (fun r2 w2 => ?_)
  refine lv_pop hx hb (oc_87 2176 (aq_22 shL_law_2154)) rfl ?_
  refine lv_aload_n hx hb (oc_44 2177 (aq_23 shL_law_2154)) rfl (lvA2 hl) ?_
  refine lv_aload_n hx hb (oc_42 2178 shL_law_2178) rfl (lvA0 hl) ?_
  refine lv_iload_n hx hb (oc_29 2179 (aq_1 shL_law_2178)) rfl (lvA3 hl) ?_
  refine lv_iconst (v := 1) hx hb (oc_4 2180 (aq_2 shL_law_2178)) kic_1 ?_
  refine lv_iadd hx hb (oc_96 2181 (aq_3 shL_law_2178)) ?_
  refine lv_topi (fun y_4 ey_4 => ?_)
  obtain rfl : y_4 = nI (i + 1) := ey_4.trans (nI_add i 1)
  refine va_sld hx hb hX hbl hbA hS (vp_in_nI (by omega) (by omega)) (oc_46 2182 (aq_4 shL_law_2178)) ?_
  refine lv_topi (fun y_5 ey_5 => ?_)
  obtain rfl : y_5 = xs (nI (i + 1)).toNatClampNeg := ey_5
  have hFc := free_all (exDr hD) hS hA
  refine va_calli (runV_a (As := [.int (xs (nI (i + 1)).toNatClampNeg)]) (rest := []) S (q_stock l D cI cB cZ g2 c3 I3 F3 (xs (nI (i + 1)).toNatClampNeg) H.size hM.1) kV_RL_249 hK (exPr hP) (exDr hD) 0 rfl rfl rfl ⟨Nat.le_of_ble_eq_true rfl, Nat.le_of_ble_eq_true rfl⟩ ⟨(by show K + 0 ≤ 600000; omega), (by show N + 0 ≤ 7302250; omega)⟩ rfl hl.1 rfl (Nat.le_of_ble_eq_true rfl) (oc_182 2183 (aq_5 shL_law_2178) uw_0_249)) hS (fun q _ h => hFc q h) hFc (fun r5 u t H1 locs ht hvm w5 hB1 hz1 hk1 hS => ?_)
  obtain ⟨c5, I5, F5⟩ := u
  obtain ⟨hP1, hD1⟩ := hB1
  rw [ht] at hP1
  obtain ⟨hP, hD⟩ := exjoin hP hD hk1 hFc hP1 hD1
  generalize H1 = H at hP hS ⊢
  obtain ⟨hM, hd5, hf5⟩ := imm_stock hM w5
  have hR := RR.fm hR hd5 hf5 (by decide) (by decide)
  refine lv_pop hx hb (oc_87 2186 (aq_8 shL_law_2178)) rfl ?_
  refine lv_goto (tgt := 2269) hx hb (oc_167 2187 (aq_9 shL_law_2178) sgw_0_82) rfl ?_
  refine W.widen (k := K + 8) (n := N + 240) (by omega) (by omega) ?_
  exact kk _ _ _ _ _ _ _ _ _ hI hM hR hP hD hS ls hl
set_option maxRecDepth 100000 in
set_option maxHeartbeats 4000000 in
theorem lawc_56 {p : Program} {l : Launch} {e : Env} {s : State} {m : MethodId} {below : List Frame} {meth : Method} {c : Code} {b L : Nat} {xs : Nat → Int32} (C0 : lw_At p s m meth c b L xs) (hLN : L ≤ 3584) {A : Nat → Prop} (hA : ∀ q : Nat, s.heap.size ≤ q → A q) (hbA : ¬ A b) {D : va_G} {cI cB cZ : ClassId} {zz qq vv : Nat} {bt : Nat → Int32} {g g2 : Nat → Nat} (hK : KK D cI cB cZ s) (hXS : XS D zz qq vv bt A s s.heap) {ad : Nat → Nat → Nat} {cn : Nat → Nat} {In : Nat → Int32} {Fn : Nat → Nat → Int32} {c3 : Nat → Nat} {I3 : Nat → Int32} {F3 : Nat → Nat → Int32} (hI : IX ad cn Fn) (hM : IMM c3 F3) (hR : RR cn Fn c3 F3) {H : Heap} {locs : List Loc} (hP : va_P D vwCl (wX cI (D.1 99) zz g ad cn In Fn ++ wM cI cB cZ g2 c3 I3 F3) H) (hD : va_D A (wX cI (D.1 99) zz g ad cn In Fn ++ wM cI cB cZ g2 c3 I3 F3)) (hS : va_S A s.heap H locs) {K N i : Nat} (hi : i + 7 ≤ L) (hKN : K + 8 ≤ 600000 ∧ N + 240 ≤ 7302250) {ls : Array Slot} (hl : lv_has ls 4 [(0, .ref b), (1, .ref (g 0)), (2, .ref (g2 100)), (3, .int (nI i))]) (kk : ∀ (ad : Nat → Nat → Nat) (cn : Nat → Nat) (In : Nat → Int32) (Fn : Nat → Nat → Int32) (c3 : Nat → Nat) (I3 : Nat → Int32) (F3 : Nat → Nat → Int32) (H : Heap) (locs : List Loc), IX ad cn Fn → IMM c3 F3 → RR cn Fn c3 F3 → va_P D vwCl (wX cI (D.1 99) zz g ad cn In Fn ++ wM cI cB cZ g2 c3 I3 F3) H → va_D A (wX cI (D.1 99) zz g ad cn In Fn ++ wM cI cB cZ g2 c3 I3 F3) → va_S A s.heap H locs → ∀ ls : Array Slot, lv_has ls 4 [(0, .ref b), (1, .ref (g 0)), (2, .ref (g2 100)), (3, .int (nI i))] → W p l e room_1 s m #[Value.ref b] below meth c H locs (K + 8) (N + 240) (lw_Z below #[Value.ref b] s) (F0 m 2269 ls [])) : W p l e room_1 s m #[Value.ref b] below meth c H locs K N (lw_Z below #[Value.ref b] s) (F0 m 2190 ls []) := by
  obtain ⟨hx, hb, hr, hml, hown, hts, hX, hbl, hlocks, hgv⟩ := id C0
  have S : SF p m c code 4 s #[Value.ref b] RL := ⟨hx, hb, hml, hown, fun w h => hts w (wT_lw h)⟩
  refine lv_aload_n hx hb (oc_43 2190 (aq_12 shL_law_2178)) rfl (lvA1 hl) ?_
  refine lv_aload_n hx hb (oc_42 2191 (aq_13 shL_law_2178)) rfl (lvA0 hl) ?_
  refine lv_iload_n hx hb (oc_29 2192 (aq_14 shL_law_2178)) rfl (lvA3 hl) ?_
  refine lv_iconst (v := 1) hx hb (oc_4 2193 (aq_15 shL_law_2178)) kic_1 ?_
  refine lv_iadd hx hb (oc_96 2194 (aq_16 shL_law_2178)) ?_
  refine lv_topi (fun y_1 ey_1 => ?_)
  obtain rfl : y_1 = nI (i + 1) := ey_1.trans (nI_add i 1)
  refine va_sld hx hb hX hbl hbA hS (vp_in_nI (by omega) (by omega)) (oc_46 2195 (aq_17 shL_law_2178)) ?_
  refine lv_topi (fun y_2 ey_2 => ?_)
  obtain rfl : y_2 = xs (nI (i + 1)).toNatClampNeg := ey_2
  refine vp_callSi (runV_rxa (As := [.int (xs (nI (i + 1)).toNatClampNeg)]) (rest := []) S (q_Xbelow l D cI cB cZ zz qq vv bt g ad cn In Fn (xs (nI (i + 1)).toNatClampNeg) hI.1) kV_RL_250 hK hXS hS (exP hP) 0 xo_0 rfl rfl ⟨Nat.le_of_ble_eq_true rfl, Nat.le_of_ble_eq_true rfl⟩ ⟨(by show K + 0 ≤ 600000; omega), (by show N + 0 ≤ 7302250; omega)⟩ rfl hl.1 rfl (Nat.le_of_ble_eq_true rfl) (oc_182 2196 (aq_18 shL_law_2178) uw_0_250)) (fun r2 w2 => ?_)
  refine lv_pop hx hb (oc_87 2199 (aq_21 shL_law_2178)) rfl ?_
  refine lv_aload_n hx hb (oc_44 2200 (aq_22 shL_law_2178)) rfl (lvA2 hl) ?_
  refine lv_aload_n hx hb (oc_42 2201 (aq_23 shL_law_2178)) rfl (lvA0 hl) ?_
  refine lv_iload_n hx hb (oc_29 2202 shL_law_2202) rfl (lvA3 hl) ?_
  refine lv_iconst (v := 1) hx hb (oc_4 2203 (aq_1 shL_law_2202)) kic_1 ?_
  refine lv_iadd hx hb (oc_96 2204 (aq_2 shL_law_2202)) ?_
  refine lv_topi (fun y_4 ey_4 => ?_)
  obtain rfl : y_4 = nI (i + 1) := ey_4.trans (nI_add i 1)
  refine va_sld hx hb hX hbl hbA hS (vp_in_nI (by omega) (by omega)) (oc_46 2205 (aq_3 shL_law_2202)) ?_
  refine lv_topi (fun y_5 ey_5 => ?_)
  obtain rfl : y_5 = xs (nI (i + 1)).toNatClampNeg := ey_5
  have hFc := free_all (exDr hD) hS hA
  refine va_calli (runV_a (As := [.int (xs (nI (i + 1)).toNatClampNeg)]) (rest := []) S (q_below l D cI cB cZ g2 c3 I3 F3 (xs (nI (i + 1)).toNatClampNeg) H.size hM.1) kV_RL_253 hK (exPr hP) (exDr hD) 0 rfl rfl rfl ⟨Nat.le_of_ble_eq_true rfl, Nat.le_of_ble_eq_true rfl⟩ ⟨(by show K + 0 ≤ 600000; omega), (by show N + 0 ≤ 7302250; omega)⟩ rfl hl.1 rfl (Nat.le_of_ble_eq_true rfl) (oc_182 2206 (aq_4 shL_law_2202) uw_0_253)) hS (fun q _ h => hFc q h) hFc (fun r5 u t H1 locs ht hvm w5 hB1 hz1 hk1 hS => ?_)
  obtain ⟨c5, I5, F5⟩ := u
  obtain ⟨hP1, hD1⟩ := hB1
  rw [ht] at hP1
  obtain ⟨hP, hD⟩ := exjoin hP hD hk1 hFc hP1 hD1
  generalize H1 = H at hP hS ⊢
  obtain ⟨hM, hd5, hf5⟩ := imm_below hM w5
  have hR := RR.fm hR hd5 hf5 (by decide) (by decide)
  refine lv_pop hx hb (oc_87 2209 (aq_7 shL_law_2202)) rfl ?_
  refine lv_goto (tgt := 2269) hx hb (oc_167 2210 (aq_8 shL_law_2202) sgw_0_59) rfl ?_
  refine W.widen (k := K + 8) (n := N + 240) (by omega) (by omega) ?_
  exact kk _ _ _ _ _ _ _ _ _ hI hM hR hP hD hS ls hl
set_option maxRecDepth 100000 in
set_option maxHeartbeats 4000000 in
theorem lawc_57 {p : Program} {l : Launch} {e : Env} {s : State} {m : MethodId} {below : List Frame} {meth : Method} {c : Code} {b L : Nat} {xs : Nat → Int32} (C0 : lw_At p s m meth c b L xs) (hLN : L ≤ 3584) {A : Nat → Prop} (hA : ∀ q : Nat, s.heap.size ≤ q → A q) (hbA : ¬ A b) {D : va_G} {cI cB cZ : ClassId} {zz qq vv : Nat} {bt : Nat → Int32} {g g2 : Nat → Nat} (hK : KK D cI cB cZ s) (hXS : XS D zz qq vv bt A s s.heap) {ad : Nat → Nat → Nat} {cn : Nat → Nat} {In : Nat → Int32} {Fn : Nat → Nat → Int32} {c3 : Nat → Nat} {I3 : Nat → Int32} {F3 : Nat → Nat → Int32} (hI : IX ad cn Fn) (hM : IMM c3 F3) (hR : RR cn Fn c3 F3) {H : Heap} {locs : List Loc} (hP : va_P D vwCl (wX cI (D.1 99) zz g ad cn In Fn ++ wM cI cB cZ g2 c3 I3 F3) H) (hD : va_D A (wX cI (D.1 99) zz g ad cn In Fn ++ wM cI cB cZ g2 c3 I3 F3)) (hS : va_S A s.heap H locs) {K N i : Nat} (hi : i + 7 ≤ L) (hKN : K + 8 ≤ 600000 ∧ N + 240 ≤ 7302250) {ls : Array Slot} (hl : lv_has ls 4 [(0, .ref b), (1, .ref (g 0)), (2, .ref (g2 100)), (3, .int (nI i))]) (kk : ∀ (ad : Nat → Nat → Nat) (cn : Nat → Nat) (In : Nat → Int32) (Fn : Nat → Nat → Int32) (c3 : Nat → Nat) (I3 : Nat → Int32) (F3 : Nat → Nat → Int32) (H : Heap) (locs : List Loc), IX ad cn Fn → IMM c3 F3 → RR cn Fn c3 F3 → va_P D vwCl (wX cI (D.1 99) zz g ad cn In Fn ++ wM cI cB cZ g2 c3 I3 F3) H → va_D A (wX cI (D.1 99) zz g ad cn In Fn ++ wM cI cB cZ g2 c3 I3 F3) → va_S A s.heap H locs → ∀ ls : Array Slot, lv_has ls 4 [(0, .ref b), (1, .ref (g 0)), (2, .ref (g2 100)), (3, .int (nI i))] → W p l e room_1 s m #[Value.ref b] below meth c H locs (K + 8) (N + 240) (lw_Z below #[Value.ref b] s) (F0 m 2269 ls [])) : W p l e room_1 s m #[Value.ref b] below meth c H locs K N (lw_Z below #[Value.ref b] s) (F0 m 2213 ls []) := by
  obtain ⟨hx, hb, hr, hml, hown, hts, hX, hbl, hlocks, hgv⟩ := id C0
  have S : SF p m c code 4 s #[Value.ref b] RL := ⟨hx, hb, hml, hown, fun w h => hts w (wT_lw h)⟩
  refine lv_aload_n hx hb (oc_43 2213 (aq_11 shL_law_2202)) rfl (lvA1 hl) ?_
  refine lv_aload_n hx hb (oc_42 2214 (aq_12 shL_law_2202)) rfl (lvA0 hl) ?_
  refine lv_iload_n hx hb (oc_29 2215 (aq_13 shL_law_2202)) rfl (lvA3 hl) ?_
  refine lv_iconst (v := 1) hx hb (oc_4 2216 (aq_14 shL_law_2202)) kic_1 ?_
  refine lv_iadd hx hb (oc_96 2217 (aq_15 shL_law_2202)) ?_
  refine lv_topi (fun y_1 ey_1 => ?_)
  obtain rfl : y_1 = nI (i + 1) := ey_1.trans (nI_add i 1)
  refine va_sld hx hb hX hbl hbA hS (vp_in_nI (by omega) (by omega)) (oc_46 2218 (aq_16 shL_law_2202)) ?_
  refine lv_topi (fun y_2 ey_2 => ?_)
  obtain rfl : y_2 = xs (nI (i + 1)).toNatClampNeg := ey_2
  refine lv_aload_n hx hb (oc_42 2219 (aq_17 shL_law_2202)) rfl (lvA0 hl) ?_
  refine lv_iload_n hx hb (oc_29 2220 (aq_18 shL_law_2202)) rfl (lvA3 hl) ?_
  refine lv_iconst (v := 2) hx hb (oc_5 2221 (aq_19 shL_law_2202)) kic_2 ?_
  refine lv_iadd hx hb (oc_96 2222 (aq_20 shL_law_2202)) ?_
  refine lv_topi (fun y_3 ey_3 => ?_)
  obtain rfl : y_3 = nI (i + 2) := ey_3.trans (nI_add i 2)
  refine va_sld hx hb hX hbl hbA hS (vp_in_nI (by omega) (by omega)) (oc_46 2223 (aq_21 shL_law_2202)) ?_
  refine lv_topi (fun y_4 ey_4 => ?_)
  obtain rfl : y_4 = xs (nI (i + 2)).toNatClampNeg := ey_4
  have hFc := free_all (exD hD) hS hA
  refine va_calli (runV_xa (As := [.int (xs (nI (i + 1)).toNatClampNeg), .int (xs (nI (i + 2)).toNatClampNeg)]) (rest := []) S (q_Xcheck l D cI cB cZ zz qq vv bt g ad cn In Fn (xs (nI (i + 1)).toNatClampNeg) (xs (nI (i + 2)).toNatClampNeg) H.size hI.1) kV_RL_254 hK hXS hS hFc (exP hP) (exD hD) 0 xo_0 rfl rfl ⟨Nat.le_of_ble_eq_true rfl, Nat.le_of_ble_eq_true rfl⟩ ⟨(by show K + 0 ≤ 600000; omega), (by show N + 0 ≤ 7302250; omega)⟩ rfl hl.1 rfl (Nat.le_of_ble_eq_true rfl) (oc_182 2224 (aq_22 shL_law_2202) uw_0_254)) hS (fun q _ h => hFc q h) hFc (fun r4 u t H1 locs ht hvm w4 hB1 hz1 hk1 hS => ?_)
  obtain ⟨c4, I4, F4⟩ := u
  obtain ⟨hP1, hD1⟩ := hB1
  rw [ht] at hP1
  obtain ⟨hP, hD⟩ := exjoinL hP hD hk1 hFc hP1 hD1
  generalize H1 = H at hP hS ⊢
  have hd4 := w4.1.1
  have hf4 := w4.1.2.2
  have hI := IX.fr hI w4.1 w4.2.1 (by decide) (by decide)
  have hR := RR.fx hR hd4 hf4 (by decide) (by decide)
  refine lv_pop hx hb (oc_87 2227 shL_law_2227) rfl ?_
  refine lv_aload_n hx hb (oc_44 2228 (aq_1 shL_law_2227)) rfl (lvA2 hl) ?_
  refine lv_aload_n hx hb (oc_42 2229 (aq_2 shL_law_2227)) rfl (lvA0 hl) ?_
  refine lv_iload_n hx hb (oc_29 2230 (aq_3 shL_law_2227)) rfl (lvA3 hl) ?_
  refine lv_iconst (v := 1) hx hb (oc_4 2231 (aq_4 shL_law_2227)) kic_1 ?_
  refine lv_iadd hx hb (oc_96 2232 (aq_5 shL_law_2227)) ?_
  refine lv_topi (fun y_6 ey_6 => ?_)
  obtain rfl : y_6 = nI (i + 1) := ey_6.trans (nI_add i 1)
  refine va_sld hx hb hX hbl hbA hS (vp_in_nI (by omega) (by omega)) (oc_46 2233 (aq_6 shL_law_2227)) ?_
  refine lv_topi (fun y_7 ey_7 => ?_)
  obtain rfl : y_7 = xs (nI (i + 1)).toNatClampNeg := ey_7
  refine lv_aload_n hx hb (oc_42 2234 (aq_7 shL_law_2227)) rfl (lvA0 hl) ?_
  refine lv_iload_n hx hb (oc_29 2235 (aq_8 shL_law_2227)) rfl (lvA3 hl) ?_
  refine lv_iconst (v := 2) hx hb (oc_5 2236 (aq_9 shL_law_2227)) kic_2 ?_
  refine lv_iadd hx hb (oc_96 2237 (aq_10 shL_law_2227)) ?_
  refine lv_topi (fun y_8 ey_8 => ?_)
  obtain rfl : y_8 = nI (i + 2) := ey_8.trans (nI_add i 2)
  refine va_sld hx hb hX hbl hbA hS (vp_in_nI (by omega) (by omega)) (oc_46 2238 (aq_11 shL_law_2227)) ?_
  refine lv_topi (fun y_9 ey_9 => ?_)
  obtain rfl : y_9 = xs (nI (i + 2)).toNatClampNeg := ey_9
  have hFc := free_all (exDr hD) hS hA
  refine va_calli (runV_a (As := [.int (xs (nI (i + 1)).toNatClampNeg), .int (xs (nI (i + 2)).toNatClampNeg)]) (rest := []) S (q_check8 l D cI cB cZ g2 c3 I3 F3 (xs (nI (i + 1)).toNatClampNeg) (xs (nI (i + 2)).toNatClampNeg) H.size hM.1 hM.2) kV_RL_257 hK (exPr hP) (exDr hD) 0 rfl rfl rfl ⟨Nat.le_of_ble_eq_true rfl, Nat.le_of_ble_eq_true rfl⟩ ⟨(by show K + 0 ≤ 600000; omega), (by show N + 0 ≤ 7302250; omega)⟩ rfl hl.1 rfl (Nat.le_of_ble_eq_true rfl) (oc_182 2239 (aq_12 shL_law_2227) uw_1_1)) hS (fun q _ h => hFc q h) hFc (fun r9 u t H1 locs ht hvm w9 hB1 hz1 hk1 hS => ?_)
  obtain ⟨c9, I9, F9⟩ := u
  obtain ⟨hP1, hD1⟩ := hB1
  rw [ht] at hP1
  obtain ⟨hP, hD⟩ := exjoin hP hD hk1 hFc hP1 hD1
  generalize H1 = H at hP hS ⊢
  obtain ⟨hM, hd9, hf9⟩ := imm_check8 hM w9
  have hR := RR.fm hR hd9 hf9 (by decide) (by decide)
  refine lv_pop hx hb (oc_87 2242 (aq_15 shL_law_2227)) rfl ?_
  refine lv_goto (tgt := 2269) hx hb (oc_167 2243 (aq_16 shL_law_2227) sgw_0_26) rfl ?_
  refine W.widen (k := K + 8) (n := N + 240) (by omega) (by omega) ?_
  exact kk _ _ _ _ _ _ _ _ _ hI hM hR hP hD hS ls hl
set_option maxRecDepth 100000 in
set_option maxHeartbeats 4000000 in
theorem lawc_58 {p : Program} {l : Launch} {e : Env} {s : State} {m : MethodId} {below : List Frame} {meth : Method} {c : Code} {b L : Nat} {xs : Nat → Int32} (C0 : lw_At p s m meth c b L xs) (hLN : L ≤ 3584) {A : Nat → Prop} (hA : ∀ q : Nat, s.heap.size ≤ q → A q) (hbA : ¬ A b) {D : va_G} {cI cB cZ : ClassId} {zz qq vv : Nat} {bt : Nat → Int32} {g g2 : Nat → Nat} (hK : KK D cI cB cZ s) (hXS : XS D zz qq vv bt A s s.heap) {ad : Nat → Nat → Nat} {cn : Nat → Nat} {In : Nat → Int32} {Fn : Nat → Nat → Int32} {c3 : Nat → Nat} {I3 : Nat → Int32} {F3 : Nat → Nat → Int32} (hI : IX ad cn Fn) (hM : IMM c3 F3) (hR : RR cn Fn c3 F3) {H : Heap} {locs : List Loc} (hP : va_P D vwCl (wX cI (D.1 99) zz g ad cn In Fn ++ wM cI cB cZ g2 c3 I3 F3) H) (hD : va_D A (wX cI (D.1 99) zz g ad cn In Fn ++ wM cI cB cZ g2 c3 I3 F3)) (hS : va_S A s.heap H locs) {K N i : Nat} (hi : i + 7 ≤ L) (hKN : K + 8 ≤ 600000 ∧ N + 240 ≤ 7302250) {ls : Array Slot} (hl : lv_has ls 4 [(0, .ref b), (1, .ref (g 0)), (2, .ref (g2 100)), (3, .int (nI i))]) (kk : ∀ (ad : Nat → Nat → Nat) (cn : Nat → Nat) (In : Nat → Int32) (Fn : Nat → Nat → Int32) (c3 : Nat → Nat) (I3 : Nat → Int32) (F3 : Nat → Nat → Int32) (H : Heap) (locs : List Loc), IX ad cn Fn → IMM c3 F3 → RR cn Fn c3 F3 → va_P D vwCl (wX cI (D.1 99) zz g ad cn In Fn ++ wM cI cB cZ g2 c3 I3 F3) H → va_D A (wX cI (D.1 99) zz g ad cn In Fn ++ wM cI cB cZ g2 c3 I3 F3) → va_S A s.heap H locs → ∀ ls : Array Slot, lv_has ls 4 [(0, .ref b), (1, .ref (g 0)), (2, .ref (g2 100)), (3, .int (nI i))] → W p l e room_1 s m #[Value.ref b] below meth c H locs (K + 8) (N + 240) (lw_Z below #[Value.ref b] s) (F0 m 2269 ls [])) : W p l e room_1 s m #[Value.ref b] below meth c H locs K N (lw_Z below #[Value.ref b] s) (F0 m 2246 ls []) := by
  obtain ⟨hx, hb, hr, hml, hown, hts, hX, hbl, hlocks, hgv⟩ := id C0
  have S : SF p m c code 4 s #[Value.ref b] RL := ⟨hx, hb, hml, hown, fun w h => hts w (wT_lw h)⟩
  refine lv_aload_n hx hb (oc_43 2246 (aq_19 shL_law_2227)) rfl (lvA1 hl) ?_
  refine lv_aload_n hx hb (oc_42 2247 (aq_20 shL_law_2227)) rfl (lvA0 hl) ?_
  refine lv_iload_n hx hb (oc_29 2248 (aq_21 shL_law_2227)) rfl (lvA3 hl) ?_
  refine lv_iconst (v := 1) hx hb (oc_4 2249 (aq_22 shL_law_2227)) kic_1 ?_
  refine lv_iadd hx hb (oc_96 2250 (aq_23 shL_law_2227)) ?_
  refine lv_topi (fun y_1 ey_1 => ?_)
  obtain rfl : y_1 = nI (i + 1) := ey_1.trans (nI_add i 1)
  refine va_sld hx hb hX hbl hbA hS (vp_in_nI (by omega) (by omega)) (oc_46 2251 shL_law_2251) ?_
  refine lv_topi (fun y_2 ey_2 => ?_)
  obtain rfl : y_2 = xs (nI (i + 1)).toNatClampNeg := ey_2
  refine vp_callSi (runV_rxa (As := [.int (xs (nI (i + 1)).toNatClampNeg)]) (rest := []) S (q_Xcount l D cI cB cZ zz qq vv bt g ad cn In Fn (xs (nI (i + 1)).toNatClampNeg) hI.1 hI.2.1) kV_RL_258 hK hXS hS (exP hP) 0 xo_0 rfl rfl ⟨Nat.le_of_ble_eq_true rfl, Nat.le_of_ble_eq_true rfl⟩ ⟨(by show K + 0 ≤ 600000; omega), (by show N + 0 ≤ 7302250; omega)⟩ rfl hl.1 rfl (Nat.le_of_ble_eq_true rfl) (oc_182 2252 (aq_1 shL_law_2251) uw_1_2)) (fun r2 w2 => ?_)
  refine lv_pop hx hb (oc_87 2255 (aq_4 shL_law_2251)) rfl ?_
  refine lv_aload_n hx hb (oc_44 2256 (aq_5 shL_law_2251)) rfl (lvA2 hl) ?_
  refine lv_aload_n hx hb (oc_42 2257 (aq_6 shL_law_2251)) rfl (lvA0 hl) ?_
  refine lv_iload_n hx hb (oc_29 2258 (aq_7 shL_law_2251)) rfl (lvA3 hl) ?_
  refine lv_iconst (v := 1) hx hb (oc_4 2259 (aq_8 shL_law_2251)) kic_1 ?_
  refine lv_iadd hx hb (oc_96 2260 (aq_9 shL_law_2251)) ?_
  refine lv_topi (fun y_4 ey_4 => ?_)
  obtain rfl : y_4 = nI (i + 1) := ey_4.trans (nI_add i 1)
  refine va_sld hx hb hX hbl hbA hS (vp_in_nI (by omega) (by omega)) (oc_46 2261 (aq_10 shL_law_2251)) ?_
  refine lv_topi (fun y_5 ey_5 => ?_)
  obtain rfl : y_5 = xs (nI (i + 1)).toNatClampNeg := ey_5
  refine vp_callSi (runV_ra (As := [.int (xs (nI (i + 1)).toNatClampNeg)]) (rest := []) S (q_count l D cI cB cZ g2 c3 I3 F3 (xs (nI (i + 1)).toNatClampNeg) hM.1) kV_RL_261 hK (exPr hP) 0 rfl rfl rfl ⟨Nat.le_of_ble_eq_true rfl, Nat.le_of_ble_eq_true rfl⟩ ⟨(by show K + 0 ≤ 600000; omega), (by show N + 0 ≤ 7302250; omega)⟩ rfl hl.1 rfl (Nat.le_of_ble_eq_true rfl) (oc_182 2262 (aq_11 shL_law_2251) uw_1_5)) (fun r5 w5 => ?_)
  refine lv_pop hx hb (oc_87 2265 (aq_14 shL_law_2251)) rfl ?_
  refine lv_goto (tgt := 2269) hx hb (oc_167 2266 (aq_15 shL_law_2251) sgw_0_3) rfl ?_
  refine W.widen (k := K + 8) (n := N + 240) (by omega) (by omega) ?_
  exact kk _ _ _ _ _ _ _ _ _ hI hM hR hP hD hS ls hl
