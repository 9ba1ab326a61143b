
theorem dL_law_33 : decode code 33 = .ok (.tableswitch 2236 0 58 #[251, 274, 327, 360, 435, 498, 531, 554, 587, 610, 643, 666, 699, 742, 765, 788, 821, 834, 887, 910, 943, 986, 1019, 1052, 1085, 1118, 1151, 1174, 1207, 1240, 1273, 1306, 1339, 1372, 1415, 1448, 1471, 1530, 1573, 1626, 1659, 1692, 1705, 1748, 1781, 1804, 1837, 1870, 1903, 1946, 1969, 2002, 2025, 2058, 2101, 2134, 2157, 2180, 2213], 251) := by decide +kernel
set_option maxRecDepth 100000 in
set_option maxHeartbeats 4000000 in
theorem law_switch {p : Program} {l : Launch} {e : Env} {s : State} {m : MethodId} {below : List Frame} {meth : Method} {c : Code} {b L : Nat} {xs : Nat → Int32} (C0 : lw_At p s m meth c b L xs) (hLN : L ≤ 3584) {A : Nat → Prop} (hA : ∀ q : Nat, s.heap.size ≤ q → A q) (hbA : ¬ A b) {D : va_G} {cI cB cZ : ClassId} {zz qq vv : Nat} {bt : Nat → Int32} {g g2 : Nat → Nat} (hK : KK D cI cB cZ s) (hXS : XS D zz qq vv bt A s s.heap) {ad : Nat → Nat → Nat} {cn : Nat → Nat} {In : Nat → Int32} {Fn : Nat → Nat → Int32} {c3 : Nat → Nat} {I3 : Nat → Int32} {F3 : Nat → Nat → Int32} (hI : IX ad cn Fn) (hM : IMM c3 F3) (hR : RR cn Fn c3 F3) {H : Heap} {locs : List Loc} (hP : va_P D vwCl (wX cI (D.1 99) zz g ad cn In Fn ++ wM cI cB cZ g2 c3 I3 F3) H) (hD : va_D A (wX cI (D.1 99) zz g ad cn In Fn ++ wM cI cB cZ g2 c3 I3 F3)) (hS : va_S A s.heap H locs) {K N i : Nat} (hi : i + 7 ≤ L) (hKN : K + 8 ≤ 600000 ∧ N + 240 ≤ 7302250) {ls : Array Slot} (hl : lv_has ls 4 [(0, .ref b), (1, .ref (g 0)), (2, .ref (g2 100)), (3, .int (nI i))]) (kk : ∀ (ad : Nat → Nat → Nat) (cn : Nat → Nat) (In : Nat → Int32) (Fn : Nat → Nat → Int32) (c3 : Nat → Nat) (I3 : Nat → Int32) (F3 : Nat → Nat → Int32) (H : Heap) (locs : List Loc), IX ad cn Fn → IMM c3 F3 → RR cn Fn c3 F3 → va_P D vwCl (wX cI (D.1 99) zz g ad cn In Fn ++ wM cI cB cZ g2 c3 I3 F3) H → va_D A (wX cI (D.1 99) zz g ad cn In Fn ++ wM cI cB cZ g2 c3 I3 F3) → va_S A s.heap H locs → ∀ ls : Array Slot, lv_has ls 4 [(0, .ref b), (1, .ref (g 0)), (2, .ref (g2 100)), (3, .int (nI i))] → W p l e room_1 s m #[Value.ref b] below meth c H locs (K + 8) (N + 240) (lw_Z below #[Value.ref b] s) (F0 m 2269 ls [])) : W p l e room_1 s m #[Value.ref b] below meth c H locs K N (lw_Z below #[Value.ref b] s) (F0 m 27 ls []) := by
  obtain ⟨hx, hb, hr, hml, hown, hts, hX, hbl, hlocks, hgv⟩ := id C0
  refine lv_aload_n hx hb (oc_42 27 (aq_3 shL_law_24)) rfl (lvA0 hl) ?_
  refine lv_iload_n hx hb (oc_29 28 (aq_4 shL_law_24)) rfl (lvA3 hl) ?_
  refine va_sld hx hb hX hbl hbA hS (vp_in_nI (by omega) (by omega)) (oc_46 29 (aq_5 shL_law_24)) ?_
  refine lv_bipush (v := 63) hx hb (oc_16 30 (aq_6 shL_law_24) sgb_63) kbc_63 ?_
  refine lv_iand hx hb (oc_126 32 (aq_8 shL_law_24)) ?_
  obtain ⟨j, hj, ej⟩ := pk_andE (xs (nI i).toNatClampNeg) (m := 63) 6 (by decide)
  refine lv_topi (fun y ey => ?_)
  obtain rfl : y = nI j := ey.trans ej
  clear ey ej
  have hk : 0 ≤ j := Nat.zero_le j
  rcases Nat.eq_or_lt_of_le hk with rfl | hk
  · exact lv_tableIn (tgt := 284) (off := 251) hx hb dL_law_33 (by decide) (by decide) rfl (by decide) (lawc_0 C0 hLN hA hbA hK hXS hI hM hR hP hD hS hi hKN hl kk)
  rcases Nat.eq_or_lt_of_le hk with rfl | hk
  · exact lv_tableIn (tgt := 307) (off := 274) hx hb dL_law_33 (by decide) (by decide) rfl (by decide) (lawc_1 C0 hLN hA hbA hK hXS hI hM hR hP hD hS hi hKN hl kk)
  rcases Nat.eq_or_lt_of_le hk with rfl | hk
  · exact lv_tableIn (tgt := 360) (off := 327) hx hb dL_law_33 (by decide) (by decide) rfl (by decide) (lawc_2 C0 hLN hA hbA hK hXS hI hM hR hP hD hS hi hKN hl kk)
  rcases Nat.eq_or_lt_of_le hk with rfl | hk
  · exact lv_tableIn (tgt := 393) (off := 360) hx hb dL_law_33 (by decide) (by decide) rfl (by decide) (lawc_3 C0 hLN hA hbA hK hXS hI hM hR hP hD hS hi hKN hl kk)
  rcases Nat.eq_or_lt_of_le hk with rfl | hk
  · exact lv_tableIn (tgt := 468) (off := 435) hx hb dL_law_33 (by decide) (by decide) rfl (by decide) (lawc_4 C0 hLN hA hbA hK hXS hI hM hR hP hD hS hi hKN hl kk)
  rcases Nat.eq_or_lt_of_le hk with rfl | hk
  · exact lv_tableIn (tgt := 531) (off := 498) hx hb dL_law_33 (by decide) (by decide) rfl (by decide) (lawc_5 C0 hLN hA hbA hK hXS hI hM hR hP hD hS hi hKN hl kk)
  rcases Nat.eq_or_lt_of_le hk with rfl | hk
  · exact lv_tableIn (tgt := 564) (off := 531) hx hb dL_law_33 (by decide) (by decide) rfl (by decide) (lawc_6 C0 hLN hA hbA hK hXS hI hM hR hP hD hS hi hKN hl kk)
  rcases Nat.eq_or_lt_of_le hk with rfl | hk
  · exact lv_tableIn (tgt := 587) (off := 554) hx hb dL_law_33 (by decide) (by decide) rfl (by decide) (lawc_7 C0 hLN hA hbA hK hXS hI hM hR hP hD hS hi hKN hl kk)
  rcases Nat.eq_or_lt_of_le hk with rfl | hk
  · exact lv_tableIn (tgt := 620) (off := 587) hx hb dL_law_33 (by decide) (by decide) rfl (by decide) (lawc_8 C0 hLN hA hbA hK hXS hI hM hR hP hD hS hi hKN hl kk)
  rcases Nat.eq_or_lt_of_le hk with rfl | hk
  · exact lv_tableIn (tgt := 643) (off := 610) hx hb dL_law_33 (by decide) (by decide) rfl (by decide) (lawc_9 C0 hLN hA hbA hK hXS hI hM hR hP hD hS hi hKN hl kk)
  rcases Nat.eq_or_lt_of_le hk with rfl | hk
  · exact lv_tableIn (tgt := 676) (off := 643) hx hb dL_law_33 (by decide) (by decide) rfl (by decide) (lawc_10 C0 hLN hA hbA hK hXS hI hM hR hP hD hS hi hKN hl kk)
  rcases Nat.eq_or_lt_of_le hk with rfl | hk
  · exact lv_tableIn (tgt := 699) (off := 666) hx hb dL_law_33 (by decide) (by decide) rfl (by decide) (lawc_11 C0 hLN hA hbA hK hXS hI hM hR hP hD hS hi hKN hl kk)
  rcases Nat.eq_or_lt_of_le hk with rfl | hk
  · exact lv_tableIn (tgt := 732) (off := 699) hx hb dL_law_33 (by decide) (by decide) rfl (by decide) (lawc_12 C0 hLN hA hbA hK hXS hI hM hR hP hD hS hi hKN hl kk)
  rcases Nat.eq_or_lt_of_le hk with rfl | hk
  · exact lv_tableIn (tgt := 775) (off := 742) hx hb dL_law_33 (by decide) (by decide) rfl (by decide) (lawc_13 C0 hLN hA hbA hK hXS hI hM hR hP hD hS hi hKN hl kk)
  rcases Nat.eq_or_lt_of_le hk with rfl | hk
  · exact lv_tableIn (tgt := 798) (off := 765) hx hb dL_law_33 (by decide) (by decide) rfl (by decide) (lawc_14 C0 hLN hA hbA hK hXS hI hM hR hP hD hS hi hKN hl kk)
  rcases Nat.eq_or_lt_of_le hk with rfl | hk
  · exact lv_tableIn (tgt := 821) (off := 788) hx hb dL_law_33 (by decide) (by decide) rfl (by decide) (lawc_15 C0 hLN hA hbA hK hXS hI hM hR hP hD hS hi hKN hl kk)
  rcases Nat.eq_or_lt_of_le hk with rfl | hk
  · exact lv_tableIn (tgt := 854) (off := 821) hx hb dL_law_33 (by decide) (by decide) rfl (by decide) (lawc_16 C0 hLN hA hbA hK hXS hI hM hR hP hD hS hi hKN hl kk)
  rcases Nat.eq_or_lt_of_le hk with rfl | hk
  · exact lv_tableIn (tgt := 867) (off := 834) hx hb dL_law_33 (by decide) (by decide) rfl (by decide) (lawc_17 C0 hLN hA hbA hK hXS hI hM hR hP hD hS hi hKN hl kk)
  rcases Nat.eq_or_lt_of_le hk with rfl | hk
  · exact lv_tableIn (tgt := 920) (off := 887) hx hb dL_law_33 (by decide) (by decide) rfl (by decide) (lawc_18 C0 hLN hA hbA hK hXS hI hM hR hP hD hS hi hKN hl kk)
  rcases Nat.eq_or_lt_of_le hk with rfl | hk
  · exact lv_tableIn (tgt := 943) (off := 910) hx hb dL_law_33 (by decide) (by decide) rfl (by decide) (lawc_19 C0 hLN hA hbA hK hXS hI hM hR hP hD hS hi hKN hl kk)
  rcases Nat.eq_or_lt_of_le hk with rfl | hk
  · exact lv_tableIn (tgt := 976) (off := 943) hx hb dL_law_33 (by decide) (by decide) rfl (by decide) (lawc_20 C0 hLN hA hbA hK hXS hI hM hR hP hD hS hi hKN hl kk)
  rcases Nat.eq_or_lt_of_le hk with rfl | hk
  · exact lv_tableIn (tgt := 1019) (off := 986) hx hb dL_law_33 (by decide) (by decide) rfl (by decide) (lawc_21 C0 hLN hA hbA hK hXS hI hM hR hP hD hS hi hKN hl kk)
  rcases Nat.eq_or_lt_of_le hk with rfl | hk
  · exact lv_tableIn (tgt := 1052) (off := 1019) hx hb dL_law_33 (by decide) (by decide) rfl (by decide) (lawc_22 C0 hLN hA hbA hK hXS hI hM hR hP hD hS hi hKN hl kk)
  rcases Nat.eq_or_lt_of_le hk with rfl | hk
  · exact lv_tableIn (tgt := 1085) (off := 1052) hx hb dL_law_33 (by decide) (by decide) rfl (by decide) (lawc_23 C0 hLN hA hbA hK hXS hI hM hR hP hD hS hi hKN hl kk)
  rcases Nat.eq_or_lt_of_le hk with rfl | hk
  · exact lv_tableIn (tgt := 1118) (off := 1085) hx hb dL_law_33 (by decide) (by decide) rfl (by decide) (lawc_24 C0 hLN hA hbA hK hXS hI hM hR hP hD hS hi hKN hl kk)
  rcases Nat.eq_or_lt_of_le hk with rfl | hk
  · exact lv_tableIn (tgt := 1151) (off := 1118) hx hb dL_law_33 (by decide) (by decide) rfl (by decide) (lawc_25 C0 hLN hA hbA hK hXS hI hM hR hP hD hS hi hKN hl kk)
  rcases Nat.eq_or_lt_of_le hk with rfl | hk
  · exact lv_tableIn (tgt := 1184) (off := 1151) hx hb dL_law_33 (by decide) (by decide) rfl (by decide) (lawc_26 C0 hLN hA hbA hK hXS hI hM hR hP hD hS hi hKN hl kk)
  rcases Nat.eq_or_lt_of_le hk with rfl | hk
  · exact lv_tableIn (tgt := 1207) (off := 1174) hx hb dL_law_33 (by decide) (by decide) rfl (by decide) (lawc_27 C0 hLN hA hbA hK hXS hI hM hR hP hD hS hi hKN hl kk)
  rcases Nat.eq_or_lt_of_le hk with rfl | hk
  · exact lv_tableIn (tgt := 1240) (off := 1207) hx hb dL_law_33 (by decide) (by decide) rfl (by decide) (lawc_28 C0 hLN hA hbA hK hXS hI hM hR hP hD hS hi hKN hl kk)
  rcases Nat.eq_or_lt_of_le hk with rfl | hk
  · exact lv_tableIn (tgt := 1273) (off := 1240) hx hb dL_law_33 (by decide) (by decide) rfl (by decide) (lawc_29 C0 hLN hA hbA hK hXS hI hM hR hP hD hS hi hKN hl kk)
  rcases Nat.eq_or_lt_of_le hk with rfl | hk
  · exact lv_tableIn (tgt := 1306) (off := 1273) hx hb dL_law_33 (by decide) (by decide) rfl (by decide) (lawc_30 C0 hLN hA hbA hK hXS hI hM hR hP hD hS hi hKN hl kk)
  rcases Nat.eq_or_lt_of_le hk with rfl | hk
  · exact lv_tableIn (tgt := 1339) (off := 1306) hx hb dL_law_33 (by decide) (by decide) rfl (by decide) (lawc_31 C0 hLN hA hbA hK hXS hI hM hR hP hD hS hi hKN hl kk)
  rcases Nat.eq_or_lt_of_le hk with rfl | hk
  · exact lv_tableIn (tgt := 1372) (off := 1339) hx hb dL_law_33 (by decide) (by decide) rfl (by decide) (lawc_32 C0 hLN hA hbA hK hXS hI hM hR hP hD hS hi hKN hl kk)
  rcases Nat.eq_or_lt_of_le hk with rfl | hk
  · exact lv_tableIn (tgt := 1405) (off := 1372) hx hb dL_law_33 (by decide) (by decide) rfl (by decide) (lawc_33 C0 hLN hA hbA hK hXS hI hM hR hP hD hS hi hKN hl kk)
  rcases Nat.eq_or_lt_of_le hk with rfl | hk
  · exact lv_tableIn (tgt := 1448) (off := 1415) hx hb dL_law_33 (by decide) (by decide) rfl (by decide) (lawc_34 C0 hLN hA hbA hK hXS hI hM hR hP hD hS hi hKN hl kk)
  rcases Nat.eq_or_lt_of_le hk with rfl | hk
  · exact lv_tableIn (tgt := 1481) (off := 1448) hx hb dL_law_33 (by decide) (by decide) rfl (by decide) (lawc_35 C0 hLN hA hbA hK hXS hI hM hR hP hD hS hi hKN hl kk)
  rcases Nat.eq_or_lt_of_le hk with rfl | hk
  · exact lv_tableIn (tgt := 1504) (off := 1471) hx hb dL_law_33 (by decide) (by decide) rfl (by decide) (lawc_36 C0 hLN hA hbA hK hXS hI hM hR hP hD hS hi hKN hl kk)
  rcases Nat.eq_or_lt_of_le hk with rfl | hk
  · exact lv_tableIn (tgt := 1563) (off := 1530) hx hb dL_law_33 (by decide) (by decide) rfl (by decide) (lawc_37 C0 hLN hA hbA hK hXS hI hM hR hP hD hS hi hKN hl kk)
  rcases Nat.eq_or_lt_of_le hk with rfl | hk
  · exact lv_tableIn (tgt := 1606) (off := 1573) hx hb dL_law_33 (by decide) (by decide) rfl (by decide) (lawc_38 C0 hLN hA hbA hK hXS hI hM hR hP hD hS hi hKN hl kk)
  rcases Nat.eq_or_lt_of_le hk with rfl | hk
  · exact lv_tableIn (tgt := 1659) (off := 1626) hx hb dL_law_33 (by decide) (by decide) rfl (by decide) (lawc_39 C0 hLN hA hbA hK hXS hI hM hR hP hD hS hi hKN hl kk)
  rcases Nat.eq_or_lt_of_le hk with rfl | hk
  · exact lv_tableIn (tgt := 1692) (off := 1659) hx hb dL_law_33 (by decide) (by decide) rfl (by decide) (lawc_40 C0 hLN hA hbA hK hXS hI hM hR hP hD hS hi hKN hl kk)
  rcases Nat.eq_or_lt_of_le hk with rfl | hk
  · exact lv_tableIn (tgt := 1725) (off := 1692) hx hb dL_law_33 (by decide) (by decide) rfl (by decide) (lawc_41 C0 hLN hA hbA hK hXS hI hM hR hP hD hS hi hKN hl kk)
  rcases Nat.eq_or_lt_of_le hk with rfl | hk
  · exact lv_tableIn (tgt := 1738) (off := 1705) hx hb dL_law_33 (by decide) (by decide) rfl (by decide) (lawc_42 C0 hLN hA hbA hK hXS hI hM hR hP hD hS hi hKN hl kk)
  rcases Nat.eq_or_lt_of_le hk with rfl | hk
  · exact lv_tableIn (tgt := 1781) (off := 1748) hx hb dL_law_33 (by decide) (by decide) rfl (by decide) (lawc_43 C0 hLN hA hbA hK hXS hI hM hR hP hD hS hi hKN hl kk)
  rcases Nat.eq_or_lt_of_le hk with rfl | hk
  · exact lv_tableIn (tgt := 1814) (off := 1781) hx hb dL_law_33 (by decide) (by decide) rfl (by decide) (lawc_44 C0 hLN hA hbA hK hXS hI hM hR hP hD hS hi hKN hl kk)
  rcases Nat.eq_or_lt_of_le hk with rfl | hk
  · exact lv_tableIn (tgt := 1837) (off := 1804) hx hb dL_law_33 (by decide) (by decide) rfl (by decide) (lawc_45 C0 hLN hA hbA hK hXS hI hM hR hP hD hS hi hKN hl kk)
  rcases Nat.eq_or_lt_of_le hk with rfl | hk
  · exact lv_tableIn (tgt := 1870) (off := 1837) hx hb dL_law_33 (by decide) (by decide) rfl (by decide) (lawc_46 C0 hLN hA hbA hK hXS hI hM hR hP hD hS hi hKN hl kk)
  rcases Nat.eq_or_lt_of_le hk with rfl | hk
  · exact lv_tableIn (tgt := 1903) (off := 1870) hx hb dL_law_33 (by decide) (by decide) rfl (by decide) (lawc_47 C0 hLN hA hbA hK hXS hI hM hR hP hD hS hi hKN hl kk)
  rcases Nat.eq_or_lt_of_le hk with rfl | hk
  · exact lv_tableIn (tgt := 1936) (off := 1903) hx hb dL_law_33 (by decide) (by decide) rfl (by decide) (lawc_48 C0 hLN hA hbA hK hXS hI hM hR hP hD hS hi hKN hl kk)
  rcases Nat.eq_or_lt_of_le hk with rfl | hk
  · exact lv_tableIn (tgt := 1979) (off := 1946) hx hb dL_law_33 (by decide) (by decide) rfl (by decide) (lawc_49 C0 hLN hA hbA hK hXS hI hM hR hP hD hS hi hKN hl kk)
  rcases Nat.eq_or_lt_of_le hk with rfl | hk
  · exact lv_tableIn (tgt := 2002) (off := 1969) hx hb dL_law_33 (by decide) (by decide) rfl (by decide) (lawc_50 C0 hLN hA hbA hK hXS hI hM hR hP hD hS hi hKN hl kk)
  rcases Nat.eq_or_lt_of_le hk with rfl | hk
  · exact lv_tableIn (tgt := 2035) (off := 2002) hx hb dL_law_33 (by decide) (by decide) rfl (by decide) (lawc_51 C0 hLN hA hbA hK hXS hI hM hR hP hD hS hi hKN hl kk)
  rcases Nat.eq_or_lt_of_le hk with rfl | hk
  · exact lv_tableIn (tgt := 2058) (off := 2025) hx hb dL_law_33 (by decide) (by decide) rfl (by decide) (lawc_52 C0 hLN hA hbA hK hXS hI hM hR hP hD hS hi hKN hl kk)
  rcases Nat.eq_or_lt_of_le hk with rfl | hk
  · exact lv_tableIn (tgt := 2091) (off := 2058) hx hb dL_law_33 (by decide) (by decide) rfl (by decide) (lawc_53 C0 hLN hA hbA hK hXS hI hM hR hP hD hS hi hKN hl kk)
  rcases Nat.eq_or_lt_of_le hk with rfl | hk
  · exact lv_tableIn (tgt := 2134) (off := 2101) hx hb dL_law_33 (by decide) (by decide) rfl (by decide) (lawc_54 C0 hLN hA hbA hK hXS hI hM hR hP hD hS hi hKN hl kk)
  rcases Nat.eq_or_lt_of_le hk with rfl | hk
  · exact lv_tableIn (tgt := 2167) (off := 2134) hx hb dL_law_33 (by decide) (by decide) rfl (by decide) (lawc_55 C0 hLN hA hbA hK hXS hI hM hR hP hD hS hi hKN hl kk)
  rcases Nat.eq_or_lt_of_le hk with rfl | hk
  · exact lv_tableIn (tgt := 2190) (off := 2157) hx hb dL_law_33 (by decide) (by decide) rfl (by decide) (lawc_56 C0 hLN hA hbA hK hXS hI hM hR hP hD hS hi hKN hl kk)
  rcases Nat.eq_or_lt_of_le hk with rfl | hk
  · exact lv_tableIn (tgt := 2213) (off := 2180) hx hb dL_law_33 (by decide) (by decide) rfl (by decide) (lawc_57 C0 hLN hA hbA hK hXS hI hM hR hP hD hS hi hKN hl kk)
  rcases Nat.eq_or_lt_of_le hk with rfl | hk
  · exact lv_tableIn (tgt := 2246) (off := 2213) hx hb dL_law_33 (by decide) (by decide) rfl (by decide) (lawc_58 C0 hLN hA hbA hK hXS hI hM hR hP hD hS hi hKN hl kk)
  refine lv_tableOut (tgt := 2269) hx hb dL_law_33 (Or.inr (by rw [nI_toInt (by omega)]; omega)) (by decide) ?_
  refine W.widen (k := K + 8) (n := N + 240) (by omega) (by omega) ?_
  exact kk _ _ _ _ _ _ _ _ _ hI hM hR hP hD hS ls hl
theorem gt_lt {L i : Nat} (hL : L ≤ 3584) (hi : i ≤ 4000) : (nI L - 7 < nI i) ↔ L < i + 7 := by
  rw [Int32.lt_iff_toInt_lt, lenm7 hL, nI_toInt (by omega)]
  omega
set_option maxRecDepth 100000 in
set_option maxHeartbeats 4000000 in
theorem law_exit {p : Program} {l : Launch} {e : Env} {s : State} {m : MethodId} {below : List Frame} {meth : Method} {c : Code} {b L : Nat} {xs : Nat → Int32} (C0 : lw_At p s m meth c b L xs) (hLN : L ≤ 3584) {H : Heap} {locs : List Loc} (hS : va_S (fun q : Nat => s.heap.size ≤ q) s.heap H locs) {K N i : Nat} (hi : i ≤ 4000) (he : L < i + 7) (hKN : K ≤ 600000 ∧ N ≤ 7302250) {g g2 : Nat → Nat} {ls : Array Slot} (hl : lv_has ls 4 [(0, .ref b), (1, .ref (g 0)), (2, .ref (g2 100)), (3, .int (nI i))]) : W p l e room_1 s m #[Value.ref b] below meth c H locs K N (lw_Z below #[Value.ref b] s) (F0 m 18 ls []) := by
  obtain ⟨hx, hb, hr, hml, hown, hts, hX, hbl, hlocks, hgv⟩ := id C0
  have hbA : ¬ (fun q : Nat => s.heap.size ≤ q) b := Nat.not_le.mpr hbl
  refine lv_iload_n hx hb (oc_29 18 (aq_18 shL_law_0)) rfl (lvA3 hl) ?_
  refine lv_aload_n hx hb (oc_42 19 (aq_19 shL_law_0)) rfl (lvA0 hl) ?_
  refine va_slen hx hb hX hbl hbA hS (oc_190 20 (aq_20 shL_law_0)) ?_
  refine lv_bipush (v := 7) hx hb (oc_16 21 (aq_21 shL_law_0) sgb_7) kbc_7 ?_
  refine lv_isub hx hb (oc_100 23 (aq_23 shL_law_0)) ?_
  refine lv_icmp_gt (tgt := 2275) hx hb (oc_163 24 shL_law_24 sgw_8_203) rfl (fun _ => ?_) (fun q => absurd ((gt_lt hLN hi).mpr he) q)
  refine lv_iconst (v := 1) hx hb (oc_4 2275 shL_law_2275) kic_1 ?_
  refine va_forget (fun q hq => hS.2.2 q hq) ?_
  refine W.widen (k := 600000) (n := 7302250) hKN.1 hKN.2 ?_
  exact lw_ret hx hb hr hlocks (oc_172 2276 (aq_1 shL_law_2275))
set_option maxRecDepth 100000 in
set_option maxHeartbeats 4000000 in
theorem law_loop {p : Program} {l : Launch} {e : Env} {s : State} {m : MethodId} {below : List Frame} {meth : Method} {c : Code} {b L : Nat} {xs : Nat → Int32} (C0 : lw_At p s m meth c b L xs) (hLN : L ≤ 3584) {D : va_G} {cI cB cZ : ClassId} {zz qq vv : Nat} {bt : Nat → Int32} {g g2 : Nat → Nat} (hK : KK D cI cB cZ s) (hXS : XS D zz qq vv bt (fun q : Nat => s.heap.size ≤ q) s s.heap) : ∀ (n i K N : Nat) (ad : Nat → Nat → Nat) (cn : Nat → Nat) (In : Nat → Int32) (Fn : Nat → Nat → Int32) (c3 : Nat → Nat) (I3 : Nat → Int32) (F3 : Nat → Nat → Int32) (H : Heap) (locs : List Loc), L < i + n → i ≤ L + 7 → K ≤ 200 + 2 * i → N ≤ 20000 + 40 * i → IX ad cn Fn → IMM c3 F3 → RR cn Fn c3 F3 → va_P D vwCl (wX cI (D.1 99) zz g ad cn In Fn ++ wM cI cB cZ g2 c3 I3 F3) H → va_D (fun q : Nat => s.heap.size ≤ q) (wX cI (D.1 99) zz g ad cn In Fn ++ wM cI cB cZ g2 c3 I3 F3) → va_S (fun q : Nat => s.heap.size ≤ q) s.heap H locs → ∀ ls : Array Slot, lv_has ls 4 [(0, .ref b), (1, .ref (g 0)), (2, .ref (g2 100)), (3, .int (nI i))] → W p l e room_1 s m #[Value.ref b] below meth c H locs K N (lw_Z below #[Value.ref b] s) (F0 m 18 ls []) := by
  obtain ⟨hx, hb, hr, hml, hown, hts, hX, hbl, hlocks, hgv⟩ := id C0
  have hbA : ¬ (fun q : Nat => s.heap.size ≤ q) b := Nat.not_le.mpr hbl
  intro n
  induction n with
  | zero =>
    intro i K N ad cn In Fn c3 I3 F3 H locs hn hi hk hq hI hM hR hP hD hS ls hl
    exact law_exit C0 hLN hS (by omega) (by omega) (by omega) hl
  | succ n ih =>
    intro i K N ad cn In Fn c3 I3 F3 H locs hn hi hk hq hI hM hR hP hD hS ls hl
    by_cases h7 : i + 7 ≤ L
    · refine lv_iload_n hx hb (oc_29 18 (aq_18 shL_law_0)) rfl (lvA3 hl) ?_
      refine lv_aload_n hx hb (oc_42 19 (aq_19 shL_law_0)) rfl (lvA0 hl) ?_
      refine va_slen hx hb hX hbl hbA hS (oc_190 20 (aq_20 shL_law_0)) ?_
      refine lv_bipush (v := 7) hx hb (oc_16 21 (aq_21 shL_law_0) sgb_7) kbc_7 ?_
      refine lv_isub hx hb (oc_100 23 (aq_23 shL_law_0)) ?_
      refine lv_icmp_gt (tgt := 2275) hx hb (oc_163 24 shL_law_24 sgw_8_203) rfl (fun q => absurd ((gt_lt hLN (by omega)).mp q) (by omega)) (fun _ => ?_)
      refine law_switch C0 hLN (fun _ h => h) hbA hK hXS hI hM hR hP hD hS h7 (by omega) hl (fun ad2 c2 I2 F2 c4 I4 F4 H2 locs2 hI hM hR hP hD hS ls hl => ?_)
      refine lv_iinc (v := nI (i + 7)) (lv' := [(3, .int (nI (i + 7))), (0, .ref b), (1, .ref (g 0)), (2, .ref (g2 100))]) hx hb (oc_132 2269 (aq_18 shL_law_2251) ub_3 sgb_7) hl (k := 3) rfl (nI_add i 7) (ltb rfl) rfl (fun ls hl => ?_)
      refine lv_goto (tgt := 18) hx hb (oc_167 2272 (aq_21 shL_law_2251) sgw_247_50) rfl ?_
      exact ih (i + 7) (K + 8) (N + 240) ad2 c2 I2 F2 c4 I4 F4 H2 locs2 (by omega) (by omega) (by omega) (by omega) hI hM hR hP hD hS ls (lv_sub hl [1, 2, 3, 0] rfl)
    · exact law_exit C0 hLN hS (by omega) (by omega) (by omega) hl

