section

theorem dL_law_27 : decode code 27 = .ok (.aload_n 0, 1) := oc_42 shL_law_27
theorem dL_law_28 : decode code 28 = .ok (.iload_n 3, 1) := oc_29 shL_law_28
theorem dL_law_29 : decode code 29 = .ok (.iaload, 1) := oc_46 shL_law_29
theorem dL_law_30 : decode code 30 = .ok (.bipush 63, 2) := oc_16 shL_law_30 sgb_63
theorem dL_law_32 : decode code 32 = .ok (.iand, 1) := oc_126 shL_law_32
theorem dL_law_33 : decode code 33 = .ok (.tableswitch 2236 0 58 #[251, 274, 327, 360, 435, 498, 531, 554, 587, 610, 643, 666, 699, 742, 765, 788, 821, 834, 887, 910, 943, 986, 1019, 1052, 1085, 1118, 1151, 1174, 1207, 1240, 1273, 1306, 1339, 1372, 1415, 1448, 1471, 1530, 1573, 1626, 1659, 1692, 1705, 1748, 1781, 1804, 1837, 1870, 1903, 1946, 1969, 2002, 2025, 2058, 2101, 2134, 2157, 2180, 2213], 251) := by decide +kernel
theorem dL_law_2269 : decode code 2269 = .ok (.iinc 3 7, 3) := oc_132 shL_law_2269 sgb_7
theorem dL_law_2272 : decode code 2272 = .ok (.goto (-2254), 3) := oc_167 shL_law_2272 sgw_247_50
theorem dL_law_18 : decode code 18 = .ok (.iload_n 3, 1) := oc_29 shL_law_18
theorem dL_law_19 : decode code 19 = .ok (.aload_n 0, 1) := oc_42 shL_law_19
theorem dL_law_20 : decode code 20 = .ok (.arraylength, 1) := oc_190 shL_law_20
theorem dL_law_21 : decode code 21 = .ok (.bipush 7, 2) := oc_16 shL_law_21 sgb_7
theorem dL_law_23 : decode code 23 = .ok (.isub, 1) := oc_100 shL_law_23
theorem dL_law_24 : decode code 24 = .ok (.if_icmp .gt 2251, 3) := oc_163 shL_law_24 sgw_8_203
theorem dL_law_2275 : decode code 2275 = .ok (.iconst 1, 1) := oc_4 shL_law_2275
theorem dL_law_2276 : decode code 2276 = .ok (.ireturn, 1) := oc_172 shL_law_2276
set_option maxRecDepth 100000 in
set_option maxHeartbeats 4000000 in
theorem law_switch {p : Program} {l : Launch} {e : Env} {s : State} {m : MethodId} {below : List Frame} {meth : Method} {c : Code} {b L : Nat} {xs : Nat → Int32} (C0 : lw_At p s m meth c b L xs) (hLN : L ≤ 3584) {A : Nat → Prop} (hA : ∀ q : Nat, s.heap.size ≤ q → A q) (hbA : ¬ A b) {D : va_G} {cI cB cZ : ClassId} {zz qq vv : Nat} {bt : Nat → Int32} {g g2 : Nat → Nat} (hK : KK D cI cB cZ s) (hXS : XS D zz qq vv bt A s s.heap) {ad : Nat → Nat → Nat} {cn : Nat → Nat} {In : Nat → Int32} {Fn : Nat → Nat → Int32} {c3 : Nat → Nat} {I3 : Nat → Int32} {F3 : Nat → Nat → Int32} (hI : IX ad cn Fn) (hM : IMM c3 F3) (hR : RR cn Fn c3 F3) {H : Heap} {locs : List Loc} (hP : va_P D vwCl (wX cI (D.1 99) zz g ad cn In Fn ++ wM cI cB cZ g2 c3 I3 F3) H) (hD : va_D A (wX cI (D.1 99) zz g ad cn In Fn ++ wM cI cB cZ g2 c3 I3 F3)) (hS : va_S A s.heap H locs) {K N i : Nat} (hi : i + 7 ≤ L) (hKN : K + 8 ≤ 600000 ∧ N + 240 ≤ 7302250) {ls : Array Slot} (hl : lv_has ls 4 [(0, .ref b), (1, .ref (g 0)), (2, .ref (g2 100)), (3, .int (nI i))]) (kk : ∀ (ad : Nat → Nat → Nat) (cn : Nat → Nat) (In : Nat → Int32) (Fn : Nat → Nat → Int32) (c3 : Nat → Nat) (I3 : Nat → Int32) (F3 : Nat → Nat → Int32) (H : Heap) (locs : List Loc), IX ad cn Fn → IMM c3 F3 → RR cn Fn c3 F3 → va_P D vwCl (wX cI (D.1 99) zz g ad cn In Fn ++ wM cI cB cZ g2 c3 I3 F3) H → va_D A (wX cI (D.1 99) zz g ad cn In Fn ++ wM cI cB cZ g2 c3 I3 F3) → va_S A s.heap H locs → ∀ ls : Array Slot, lv_has ls 4 [(0, .ref b), (1, .ref (g 0)), (2, .ref (g2 100)), (3, .int (nI i))] → W p l e room_1 s m #[Value.ref b] below meth c H locs (K + 8) (N + 240) (lw_Z below #[Value.ref b] s) (F0 m 2269 ls [])) : W p l e room_1 s m #[Value.ref b] below meth c H locs K N (lw_Z below #[Value.ref b] s) (F0 m 27 ls []) := by
  obtain ⟨hx, hb, hr, hml, hown, hts, hX, hbl, hlocks, hgv⟩ := id C0
  refine lv_aload_n hx hb dL_law_27 rfl (lvA0 hl) ?_
  refine lv_iload_n hx hb dL_law_28 rfl (lvA3 hl) ?_
  refine va_sld hx hb hX hbl hbA hS (vp_in_nI (by omega) (by omega)) dL_law_29 ?_
  refine lv_bipush (v := 63) hx hb dL_law_30 kbc_63 ?_
  refine lv_iand hx hb dL_law_32 ?_
  obtain ⟨j, hj, ej⟩ := pk_andE (xs (nI i).toNatClampNeg) (m := 63) 6 (by decide)
  refine lv_topi (fun y ey => ?_)
  obtain rfl : y = nI j := ey.trans ej
  clear ey ej
  have hk : 0 ≤ j := Nat.zero_le j
  rcases Nat.eq_or_lt_of_le hk with rfl | hk
  · exact lv_tableIn (tgt := 284) (off := 251) hx hb dL_law_33 (by decide) (by decide) rfl (by decide) (lawc_0 C0 hLN hA hbA hK hXS hI hM hR hP hD hS hi hKN hl kk)
  rcases Nat.eq_or_lt_of_le hk with rfl | hk
  · exact lv_tableIn (tgt := 307) (off := 274) hx hb dL_law_33 (by decide) (by decide) rfl (by decide) (lawc_1 C0 hLN hA hbA hK hXS hI hM hR hP hD hS hi hKN hl kk)
  rcases Nat.eq_or_lt_of_le hk with rfl | hk
  · exact lv_tableIn (tgt := 360) (off := 327) hx hb dL_law_33 (by decide) (by decide) rfl (by decide) (lawc_2 C0 hLN hA hbA hK hXS hI hM hR hP hD hS hi hKN hl kk)
  rcases Nat.eq_or_lt_of_le hk with rfl | hk
  · exact lv_tableIn (tgt := 393) (off := 360) hx hb dL_law_33 (by decide) (by decide) rfl (by decide) (lawc_3 C0 hLN hA hbA hK hXS hI hM hR hP hD hS hi hKN hl kk)
  rcases Nat.eq_or_lt_of_le hk with rfl | hk
  · exact lv_tableIn (tgt := 468) (off := 435) hx hb dL_law_33 (by decide) (by decide) rfl (by decide) (lawc_4 C0 hLN hA hbA hK hXS hI hM hR hP hD hS hi hKN hl kk)
  rcases Nat.eq_or_lt_of_le hk with rfl | hk
  · exact lv_tableIn (tgt := 531) (off := 498) hx hb dL_law_33 (by decide) (by decide) rfl (by decide) (lawc_5 C0 hLN hA hbA hK hXS hI hM hR hP hD hS hi hKN hl kk)
  rcases Nat.eq_or_lt_of_le hk with rfl | hk
  · exact lv_tableIn (tgt := 564) (off := 531) hx hb dL_law_33 (by decide) (by decide) rfl (by decide) (lawc_6 C0 hLN hA hbA hK hXS hI hM hR hP hD hS hi hKN hl kk)
  rcases Nat.eq_or_lt_of_le hk with rfl | hk
  · exact lv_tableIn (tgt := 587) (off := 554) hx hb dL_law_33 (by decide) (by decide) rfl (by decide) (lawc_7 C0 hLN hA hbA hK hXS hI hM hR hP hD hS hi hKN hl kk)
  rcases Nat.eq_or_lt_of_le hk with rfl | hk
  · exact lv_tableIn (tgt := 620) (off := 587) hx hb dL_law_33 (by decide) (by decide) rfl (by decide) (lawc_8 C0 hLN hA hbA hK hXS hI hM hR hP hD hS hi hKN hl kk)
  rcases Nat.eq_or_lt_of_le hk with rfl | hk
  · exact lv_tableIn (tgt := 643) (off := 610) hx hb dL_law_33 (by decide) (by decide) rfl (by decide) (lawc_9 C0 hLN hA hbA hK hXS hI hM hR hP hD hS hi hKN hl kk)
  rcases Nat.eq_or_lt_of_le hk with rfl | hk
  · exact lv_tableIn (tgt := 676) (off := 643) hx hb dL_law_33 (by decide) (by decide) rfl (by decide) (lawc_10 C0 hLN hA hbA hK hXS hI hM hR hP hD hS hi hKN hl kk)
  rcases Nat.eq_or_lt_of_le hk with rfl | hk
  · exact lv_tableIn (tgt := 699) (off := 666) hx hb dL_law_33 (by decide) (by decide) rfl (by decide) (lawc_11 C0 hLN hA hbA hK hXS hI hM hR hP hD hS hi hKN hl kk)
  rcases Nat.eq_or_lt_of_le hk with rfl | hk
  · exact lv_tableIn (tgt := 732) (off := 699) hx hb dL_law_33 (by decide) (by decide) rfl (by decide) (lawc_12 C0 hLN hA hbA hK hXS hI hM hR hP hD hS hi hKN hl kk)
  rcases Nat.eq_or_lt_of_le hk with rfl | hk
  · exact lv_tableIn (tgt := 775) (off := 742) hx hb dL_law_33 (by decide) (by decide) rfl (by decide) (lawc_13 C0 hLN hA hbA hK hXS hI hM hR hP hD hS hi hKN hl kk)
  rcases Nat.eq_or_lt_of_le hk with rfl | hk
  · exact lv_tableIn (tgt := 798) (off := 765) hx hb dL_law_33 (by decide) (by decide) rfl (by decide) (lawc_14 C0 hLN hA hbA hK hXS hI hM hR hP hD hS hi hKN hl kk)
  rcases Nat.eq_or_lt_of_le hk with rfl | hk
  · exact lv_tableIn (tgt := 821) (off := 788) hx hb dL_law_33 (by decide) (by decide) rfl (by decide) (lawc_15 C0 hLN hA hbA hK hXS hI hM hR hP hD hS hi hKN hl kk)
  rcases Nat.eq_or_lt_of_le hk with rfl | hk
  · exact lv_tableIn (tgt := 854) (off := 821) hx hb dL_law_33 (by decide) (by decide) rfl (by decide) (lawc_16 C0 hLN hA hbA hK hXS hI hM hR hP hD hS hi hKN hl kk)
  rcases Nat.eq_or_lt_of_le hk with rfl | hk
  · exact lv_tableIn (tgt := 867) (off := 834) hx hb dL_law_33 (by decide) (by decide) rfl (by decide) (lawc_17 C0 hLN hA hbA hK hXS hI hM hR hP hD hS hi hKN hl kk)
  rcases Nat.eq_or_lt_of_le hk with rfl | hk
  · exact lv_tableIn (tgt := 920) (off := 887) hx hb dL_law_33 (by decide) (by decide) rfl (by decide) (lawc_18 C0 hLN hA hbA hK hXS hI hM hR hP hD hS hi hKN hl kk)
  rcases Nat.eq_or_lt_of_le hk with rfl | hk
  · exact lv_tableIn (tgt := 943) (off := 910) hx hb dL_law_33 (by decide) (by decide) rfl (by decide) (lawc_19 C0 hLN hA hbA hK hXS hI hM hR hP hD hS hi hKN hl kk)
  rcases Nat.eq_or_lt_of_le hk with rfl | hk
  · exact lv_tableIn (tgt := 976) (off := 943) hx hb dL_law_33 (by decide) (by decide) rfl (by decide) (lawc_20 C0 hLN hA hbA hK hXS hI hM hR hP hD hS hi hKN hl kk)
  rcases Nat.eq_or_lt_of_le hk with rfl | hk
  · exact lv_tableIn (tgt := 1019) (off := 986) hx hb dL_law_33 (by decide) (by decide) rfl (by decide) (lawc_21 C0 hLN hA hbA hK hXS hI hM hR hP hD hS hi hKN hl kk)
  rcases Nat.eq_or_lt_of_le hk with rfl | hk
  · exact lv_tableIn (tgt := 1052) (off := 1019) hx hb dL_law_33 (by decide) (by decide) rfl (by decide) (lawc_22 C0 hLN hA hbA hK hXS hI hM hR hP hD hS hi hKN hl kk)
  rcases Nat.eq_or_lt_of_le hk with rfl | hk
  · exact lv_tableIn (tgt := 1085) (off := 1052) hx hb dL_law_33 (by decide) (by decide) rfl (by decide) (lawc_23 C0 hLN hA hbA hK hXS hI hM hR hP hD hS hi hKN hl kk)
  rcases Nat.eq_or_lt_of_le hk with rfl | hk
  · exact lv_tableIn (tgt := 1118) (off := 1085) hx hb dL_law_33 (by decide) (by decide) rfl (by decide) (lawc_24 C0 hLN hA hbA hK hXS hI hM hR hP hD hS hi hKN hl kk)
  rcases Nat.eq_or_lt_of_le hk with rfl | hk
  · exact lv_tableIn (tgt := 1151) (off := 1118) hx hb dL_law_33 (by decide) (by decide) rfl (by decide) (lawc_25 C0 hLN hA hbA hK hXS hI hM hR hP hD hS hi hKN hl kk)
  rcases Nat.eq_or_lt_of_le hk with rfl | hk
  · exact lv_tableIn (tgt := 1184) (off := 1151) hx hb dL_law_33 (by decide) (by decide) rfl (by decide) (lawc_26 C0 hLN hA hbA hK hXS hI hM hR hP hD hS hi hKN hl kk)
  rcases Nat.eq_or_lt_of_le hk with rfl | hk
  · exact lv_tableIn (tgt := 1207) (off := 1174) hx hb dL_law_33 (by decide) (by decide) rfl (by decide) (lawc_27 C0 hLN hA hbA hK hXS hI hM hR hP hD hS hi hKN hl kk)
  rcases Nat.eq_or_lt_of_le hk with rfl | hk
  · exact lv_tableIn (tgt := 1240) (off := 1207) hx hb dL_law_33 (by decide) (by decide) rfl (by decide) (lawc_28 C0 hLN hA hbA hK hXS hI hM hR hP hD hS hi hKN hl kk)
  rcases Nat.eq_or_lt_of_le hk with rfl | hk
  · exact lv_tableIn (tgt := 1273) (off := 1240) hx hb dL_law_33 (by decide) (by decide) rfl (by decide) (lawc_29 C0 hLN hA hbA hK hXS hI hM hR hP hD hS hi hKN hl kk)
  rcases Nat.eq_or_lt_of_le hk with rfl | hk
  · exact lv_tableIn (tgt := 1306) (off := 1273) hx hb dL_law_33 (by decide) (by decide) rfl (by decide) (lawc_30 C0 hLN hA hbA hK hXS hI hM hR hP hD hS hi hKN hl kk)
  rcases Nat.eq_or_lt_of_le hk with rfl | hk
  · exact lv_tableIn (tgt := 1339) (off := 1306) hx hb dL_law_33 (by decide) (by decide) rfl (by decide) (lawc_31 C0 hLN hA hbA hK hXS hI hM hR hP hD hS hi hKN hl kk)
  rcases Nat.eq_or_lt_of_le hk with rfl | hk
  · exact lv_tableIn (tgt := 1372) (off := 1339) hx hb dL_law_33 (by decide) (by decide) rfl (by decide) (lawc_32 C0 hLN hA hbA hK hXS hI hM hR hP hD hS hi hKN hl kk)
  rcases Nat.eq_or_lt_of_le hk with rfl | hk
  · exact lv_tableIn (tgt := 1405) (off := 1372) hx hb dL_law_33 (by decide) (by decide) rfl (by decide) (lawc_33 C0 hLN hA hbA hK hXS hI hM hR hP hD hS hi hKN hl kk)
  rcases Nat.eq_or_lt_of_le hk with rfl | hk
  · exact lv_tableIn (tgt := 1448) (off := 1415) hx hb dL_law_33 (by decide) (by decide) rfl (by decide) (lawc_34 C0 hLN hA hbA hK hXS hI hM hR hP hD hS hi hKN hl kk)
  rcases Nat.eq_or_lt_of_le hk with rfl | hk
  · exact lv_tableIn (tgt := 1481) (off := 1448) hx hb dL_law_33 (by decide) (by decide) rfl (by decide) (lawc_35 C0 hLN hA hbA hK hXS hI hM hR hP hD hS hi hKN hl kk)
  rcases Nat.eq_or_lt_of_le hk with rfl | hk
  · exact lv_tableIn (tgt := 1504) (off := 1471) hx hb dL_law_33 (by decide) (by decide) rfl (by decide) (lawc_36 C0 hLN hA hbA hK hXS hI hM hR hP hD hS hi hKN hl kk)
  rcases Nat.eq_or_lt_of_le hk with rfl | hk
  · exact lv_tableIn (tgt := 1563) (off := 1530) hx hb dL_law_33 (by decide) (by decide) rfl (by decide) (lawc_37 C0 hLN hA hbA hK hXS hI hM hR hP hD hS hi hKN hl kk)
  rcases Nat.eq_or_lt_of_le hk with rfl | hk
  · exact lv_tableIn (tgt := 1606) (off := 1573) hx hb dL_law_33 (by decide) (by decide) rfl (by decide) (lawc_38 C0 hLN hA hbA hK hXS hI hM hR hP hD hS hi hKN hl kk)
  rcases Nat.eq_or_lt_of_le hk with rfl | hk
  · exact lv_tableIn (tgt := 1659) (off := 1626) hx hb dL_law_33 (by decide) (by decide) rfl (by decide) (lawc_39 C0 hLN hA hbA hK hXS hI hM hR hP hD hS hi hKN hl kk)
  rcases Nat.eq_or_lt_of_le hk with rfl | hk
  · exact lv_tableIn (tgt := 1692) (off := 1659) hx hb dL_law_33 (by decide) (by decide) rfl (by decide) (lawc_40 C0 hLN hA hbA hK hXS hI hM hR hP hD hS hi hKN hl kk)
  rcases Nat.eq_or_lt_of_le hk with rfl | hk
  · exact lv_tableIn (tgt := 1725) (off := 1692) hx hb dL_law_33 (by decide) (by decide) rfl (by decide) (lawc_41 C0 hLN hA hbA hK hXS hI hM hR hP hD hS hi hKN hl kk)
  rcases Nat.eq_or_lt_of_le hk with rfl | hk
  · exact lv_tableIn (tgt := 1738) (off := 1705) hx hb dL_law_33 (by decide) (by decide) rfl (by decide) (lawc_42 C0 hLN hA hbA hK hXS hI hM hR hP hD hS hi hKN hl kk)
  rcases Nat.eq_or_lt_of_le hk with rfl | hk
  · exact lv_tableIn (tgt := 1781) (off := 1748) hx hb dL_law_33 (by decide) (by decide) rfl (by decide) (lawc_43 C0 hLN hA hbA hK hXS hI hM hR hP hD hS hi hKN hl kk)
  rcases Nat.eq_or_lt_of_le hk with rfl | hk
  · exact lv_tableIn (tgt := 1814) (off := 1781) hx hb dL_law_33 (by decide) (by decide) rfl (by decide) (lawc_44 C0 hLN hA hbA hK hXS hI hM hR hP hD hS hi hKN hl kk)
  rcases Nat.eq_or_lt_of_le hk with rfl | hk
  · exact lv_tableIn (tgt := 1837) (off := 1804) hx hb dL_law_33 (by decide) (by decide) rfl (by decide) (lawc_45 C0 hLN hA hbA hK hXS hI hM hR hP hD hS hi hKN hl kk)
  rcases Nat.eq_or_lt_of_le hk with rfl | hk
  · exact lv_tableIn (tgt := 1870) (off := 1837) hx hb dL_law_33 (by decide) (by decide) rfl (by decide) (lawc_46 C0 hLN hA hbA hK hXS hI hM hR hP hD hS hi hKN hl kk)
  rcases Nat.eq_or_lt_of_le hk with rfl | hk
  · exact lv_tableIn (tgt := 1903) (off := 1870) hx hb dL_law_33 (by decide) (by decide) rfl (by decide) (lawc_47 C0 hLN hA hbA hK hXS hI hM hR hP hD hS hi hKN hl kk)
  rcases Nat.eq_or_lt_of_le hk with rfl | hk
  · exact lv_tableIn (tgt := 1936) (off := 1903) hx hb dL_law_33 (by decide) (by decide) rfl (by decide) (lawc_48 C0 hLN hA hbA hK hXS hI hM hR hP hD hS hi hKN hl kk)
  rcases Nat.eq_or_lt_of_le hk with rfl | hk
  · exact lv_tableIn (tgt := 1979) (off := 1946) hx hb dL_law_33 (by decide) (by decide) rfl (by decide) (lawc_49 C0 hLN hA hbA hK hXS hI hM hR hP hD hS hi hKN hl kk)
  rcases Nat.eq_or_lt_of_le hk with rfl | hk
  · exact lv_tableIn (tgt := 2002) (off := 1969) hx hb dL_law_33 (by decide) (by decide) rfl (by decide) (lawc_50 C0 hLN hA hbA hK hXS hI hM hR hP hD hS hi hKN hl kk)
  rcases Nat.eq_or_lt_of_le hk with rfl | hk
  · exact lv_tableIn (tgt := 2035) (off := 2002) hx hb dL_law_33 (by decide) (by decide) rfl (by decide) (lawc_51 C0 hLN hA hbA hK hXS hI hM hR hP hD hS hi hKN hl kk)
  rcases Nat.eq_or_lt_of_le hk with rfl | hk
  · exact lv_tableIn (tgt := 2058) (off := 2025) hx hb dL_law_33 (by decide) (by decide) rfl (by decide) (lawc_52 C0 hLN hA hbA hK hXS hI hM hR hP hD hS hi hKN hl kk)
  rcases Nat.eq_or_lt_of_le hk with rfl | hk
  · exact lv_tableIn (tgt := 2091) (off := 2058) hx hb dL_law_33 (by decide) (by decide) rfl (by decide) (lawc_53 C0 hLN hA hbA hK hXS hI hM hR hP hD hS hi hKN hl kk)
  rcases Nat.eq_or_lt_of_le hk with rfl | hk
  · exact lv_tableIn (tgt := 2134) (off := 2101) hx hb dL_law_33 (by decide) (by decide) rfl (by decide) (lawc_54 C0 hLN hA hbA hK hXS hI hM hR hP hD hS hi hKN hl kk)
  rcases Nat.eq_or_lt_of_le hk with rfl | hk
  · exact lv_tableIn (tgt := 2167) (off := 2134) hx hb dL_law_33 (by decide) (by decide) rfl (by decide) (lawc_55 C0 hLN hA hbA hK hXS hI hM hR hP hD hS hi hKN hl kk)
  rcases Nat.eq_or_lt_of_le hk with rfl | hk
  · exact lv_tableIn (tgt := 2190) (off := 2157) hx hb dL_law_33 (by decide) (by decide) rfl (by decide) (lawc_56 C0 hLN hA hbA hK hXS hI hM hR hP hD hS hi hKN hl kk)
  rcases Nat.eq_or_lt_of_le hk with rfl | hk
  · exact lv_tableIn (tgt := 2213) (off := 2180) hx hb dL_law_33 (by decide) (by decide) rfl (by decide) (lawc_57 C0 hLN hA hbA hK hXS hI hM hR hP hD hS hi hKN hl kk)
  rcases Nat.eq_or_lt_of_le hk with rfl | hk
  · exact lv_tableIn (tgt := 2246) (off := 2213) hx hb dL_law_33 (by decide) (by decide) rfl (by decide) (lawc_58 C0 hLN hA hbA hK hXS hI hM hR hP hD hS hi hKN hl kk)
  refine lv_tableOut (tgt := 2269) hx hb dL_law_33 (Or.inr (by rw [nI_toInt (by omega)]; omega)) (by decide) ?_
  refine W.widen (k := K + 8) (n := N + 240) (by omega) (by omega) ?_
  exact kk _ _ _ _ _ _ _ _ _ hI hM hR hP hD hS ls hl
theorem gt_lt {L i : Nat} (hL : L ≤ 3584) (hi : i ≤ 4000) : (nI L - 7 < nI i) ↔ L < i + 7 := by
  rw [Int32.lt_iff_toInt_lt, lenm7 hL, nI_toInt (by omega)]
  omega
set_option maxRecDepth 100000 in
set_option maxHeartbeats 4000000 in
theorem law_exit {p : Program} {l : Launch} {e : Env} {s : State} {m : MethodId} {below : List Frame} {meth : Method} {c : Code} {b L : Nat} {xs : Nat → Int32} (C0 : lw_At p s m meth c b L xs) (hLN : L ≤ 3584) {H : Heap} {locs : List Loc} (hS : va_S (fun q : Nat => s.heap.size ≤ q) s.heap H locs) {K N i : Nat} (hi : i ≤ 4000) (he : L < i + 7) (hKN : K ≤ 600000 ∧ N ≤ 7302250) {g g2 : Nat → Nat} {ls : Array Slot} (hl : lv_has ls 4 [(0, .ref b), (1, .ref (g 0)), (2, .ref (g2 100)), (3, .int (nI i))]) : W p l e room_1 s m #[Value.ref b] below meth c H locs K N (lw_Z below #[Value.ref b] s) (F0 m 18 ls []) := by
  obtain ⟨hx, hb, hr, hml, hown, hts, hX, hbl, hlocks, hgv⟩ := id C0
  have hbA : ¬ (fun q : Nat => s.heap.size ≤ q) b := Nat.not_le.mpr hbl
  refine lv_iload_n hx hb dL_law_18 rfl (lvA3 hl) ?_
  refine lv_aload_n hx hb dL_law_19 rfl (lvA0 hl) ?_
  refine va_slen hx hb hX hbl hbA hS dL_law_20 ?_
  refine lv_bipush (v := 7) hx hb dL_law_21 kbc_7 ?_
  refine lv_isub hx hb dL_law_23 ?_
  refine lv_icmp_gt (tgt := 2275) hx hb dL_law_24 rfl (fun _ => ?_) (fun q => absurd ((gt_lt hLN hi).mpr he) q)
  refine lv_iconst (v := 1) hx hb dL_law_2275 kic_1 ?_
  refine va_forget (fun q hq => hS.2.2 q hq) ?_
  refine W.widen (k := 600000) (n := 7302250) hKN.1 hKN.2 ?_
  exact lw_ret hx hb hr hlocks dL_law_2276
set_option maxRecDepth 100000 in
set_option maxHeartbeats 4000000 in
theorem law_loop {p : Program} {l : Launch} {e : Env} {s : State} {m : MethodId} {below : List Frame} {meth : Method} {c : Code} {b L : Nat} {xs : Nat → Int32} (C0 : lw_At p s m meth c b L xs) (hLN : L ≤ 3584) {D : va_G} {cI cB cZ : ClassId} {zz qq vv : Nat} {bt : Nat → Int32} {g g2 : Nat → Nat} (hK : KK D cI cB cZ s) (hXS : XS D zz qq vv bt (fun q : Nat => s.heap.size ≤ q) s s.heap) : ∀ (n i K N : Nat) (ad : Nat → Nat → Nat) (cn : Nat → Nat) (In : Nat → Int32) (Fn : Nat → Nat → Int32) (c3 : Nat → Nat) (I3 : Nat → Int32) (F3 : Nat → Nat → Int32) (H : Heap) (locs : List Loc), L < i + n → i ≤ L + 7 → K ≤ 200 + 2 * i → N ≤ 20000 + 40 * i → IX ad cn Fn → IMM c3 F3 → RR cn Fn c3 F3 → va_P D vwCl (wX cI (D.1 99) zz g ad cn In Fn ++ wM cI cB cZ g2 c3 I3 F3) H → va_D (fun q : Nat => s.heap.size ≤ q) (wX cI (D.1 99) zz g ad cn In Fn ++ wM cI cB cZ g2 c3 I3 F3) → va_S (fun q : Nat => s.heap.size ≤ q) s.heap H locs → ∀ ls : Array Slot, lv_has ls 4 [(0, .ref b), (1, .ref (g 0)), (2, .ref (g2 100)), (3, .int (nI i))] → W p l e room_1 s m #[Value.ref b] below meth c H locs K N (lw_Z below #[Value.ref b] s) (F0 m 18 ls []) := by
  obtain ⟨hx, hb, hr, hml, hown, hts, hX, hbl, hlocks, hgv⟩ := id C0
  have hbA : ¬ (fun q : Nat => s.heap.size ≤ q) b := Nat.not_le.mpr hbl
  intro n
  induction n with
  | zero =>
    intro i K N ad cn In Fn c3 I3 F3 H locs hn hi hk hq hI hM hR hP hD hS ls hl
    exact law_exit C0 hLN hS (by omega) (by omega) (by omega) hl
  | succ n ih =>
    intro i K N ad cn In Fn c3 I3 F3 H locs hn hi hk hq hI hM hR hP hD hS ls hl
    by_cases h7 : i + 7 ≤ L
    · refine lv_iload_n hx hb dL_law_18 rfl (lvA3 hl) ?_
      refine lv_aload_n hx hb dL_law_19 rfl (lvA0 hl) ?_
      refine va_slen hx hb hX hbl hbA hS dL_law_20 ?_
      refine lv_bipush (v := 7) hx hb dL_law_21 kbc_7 ?_
      refine lv_isub hx hb dL_law_23 ?_
      refine lv_icmp_gt (tgt := 2275) hx hb dL_law_24 rfl (fun q => absurd ((gt_lt hLN (by omega)).mp q) (by omega)) (fun _ => ?_)
      refine law_switch C0 hLN (fun _ h => h) hbA hK hXS hI hM hR hP hD hS h7 (by omega) hl (fun ad2 c2 I2 F2 c4 I4 F4 H2 locs2 hI hM hR hP hD hS ls hl => ?_)
      refine lv_iinc (v := nI (i + 7)) (lv' := [(3, .int (nI (i + 7))), (0, .ref b), (1, .ref (g 0)), (2, .ref (g2 100))]) hx hb dL_law_2269 hl (k := 3) rfl (nI_add i 7) (ltb rfl) rfl (fun ls hl => ?_)
      refine lv_goto (tgt := 18) hx hb dL_law_2272 rfl ?_
      exact ih (i + 7) (K + 8) (N + 240) ad2 c2 I2 F2 c4 I4 F4 H2 locs2 (by omega) (by omega) (by omega) (by omega) hI hM hR hP hD hS ls (lv_sub hl [1, 2, 3, 0] rfl)
    · exact law_exit C0 hLN hS (by omega) (by omega) (by omega) hl
end

section

theorem arr_known {s : State} {args : Array Value} {ty : FieldType} (h : (Cond.arrayClass ty).before args s = true) (hn : ∀ C : String, ty ≠ .object C) : ∃ cA : ClassId, ArrOfT s cA ty ∧ s.vm.findClass ("[" ++ ty.toString) = some cA := by
  obtain ⟨c, k, comp, h1, h2, h3⟩ := Cond.arrayClass_spec h
  exact ⟨c, fun n z => ⟨fun k h => (by cases h), k, h2, comp, h3⟩, h1⟩
theorem arr_over {s : State} {args : Array Value} {C : String} (h : (Cond.arrayOver (.object C)).before args s = true) : ∃ cA : ClassId, ArrOfT s cA (.object C) ∧ va_RA s cA (.object C) := by
  obtain ⟨comp, c, k, h1, h2, h3, h4, h5⟩ := Cond.arrayOver_spec h
  exact ⟨c, fun n z => ⟨fun k h => (by cases h), k, h3, comp, h4⟩, k, comp, h3, h4, h1, h5⟩
theorem eqt2 {args : Array Value} {s : State} {t1 t2 : Term} {a : Nat} (h : (Cond.eq t1 t2).before args s = true) (h1 : t1.eval args s none [] s = some (.ref a)) : t2.eval args s none [] s = some (.ref a) := by
  cases hv : t2.eval args s none [] s with
  | none => simp [Cond.before, Cond.holds, Cond.value, hv] at h
  | some w =>
    simp only [Cond.before, Cond.holds, Cond.value, hv, h1] at h
    cases w <;> simp_all

set_option maxRecDepth 100000 in
theorem tw_211 : Cond.instantiable RJx4a65c 3 ∈ lw_tbl := List.mem_append_right _ (List.mem_of_getElem? (i := 211) rfl)
set_option maxRecDepth 100000 in
theorem tw_932 : Cond.instantiable RX0 8 ∈ lw_tbl := List.mem_append_right _ (List.mem_of_getElem? (i := 932) rfl)
set_option maxRecDepth 100000 in
theorem tw_304 : Cond.instantiable RX1 11 ∈ lw_tbl := List.mem_append_right _ (List.mem_of_getElem? (i := 304) rfl)
set_option maxRecDepth 100000 in
theorem tw_445 : Cond.instantiable RX2 10 ∈ lw_tbl := List.mem_append_right _ (List.mem_of_getElem? (i := 445) rfl)
set_option maxRecDepth 100000 in
theorem tw_1240 : Cond.instantiable RX3 3 ∈ lw_tbl := List.mem_append_right _ (List.mem_of_getElem? (i := 1240) rfl)
set_option maxRecDepth 100000 in
theorem tw_1032 : Cond.instantiable RX4 5 ∈ lw_tbl := List.mem_append_right _ (List.mem_of_getElem? (i := 1032) rfl)
set_option maxRecDepth 100000 in
theorem tw_90 : Cond.instantiable RX5 6 ∈ lw_tbl := List.mem_append_right _ (List.mem_of_getElem? (i := 90) rfl)
set_option maxRecDepth 100000 in
theorem tw_1170 : Cond.instantiable RX6 3 ∈ lw_tbl := List.mem_append_right _ (List.mem_of_getElem? (i := 1170) rfl)
set_option maxRecDepth 100000 in
theorem tw_129 : Cond.instantiable RX7 10 ∈ lw_tbl := List.mem_append_right _ (List.mem_of_getElem? (i := 129) rfl)
set_option maxRecDepth 100000 in
theorem tw_76 : Cond.instantiable RX8 2 ∈ lw_tbl := List.mem_append_right _ (List.mem_of_getElem? (i := 76) rfl)
set_option maxRecDepth 100000 in
theorem tw_36 : Cond.instantiable RX9 9 ∈ lw_tbl := List.mem_append_right _ (List.mem_of_getElem? (i := 36) rfl)
set_option maxRecDepth 100000 in
theorem tw_180 : Cond.instantiable RX10 7 ∈ lw_tbl := List.mem_append_right _ (List.mem_of_getElem? (i := 180) rfl)
set_option maxRecDepth 100000 in
theorem tw_28 : Cond.instantiable RX11 16 ∈ lw_tbl := List.mem_append_right _ (List.mem_of_getElem? (i := 28) rfl)
set_option maxRecDepth 100000 in
theorem tw_1308 : Cond.instantiable RX12 91 ∈ lw_tbl := List.mem_append_right _ (List.mem_of_getElem? (i := 1308) rfl)
set_option maxRecDepth 100000 in
theorem tw_74 : Cond.arrayClass .int ∈ lw_tbl := List.mem_append_right _ (List.mem_of_getElem? (i := 74) rfl)
set_option maxRecDepth 100000 in
theorem tw_178 : Cond.arrayClass .byte ∈ lw_tbl := List.mem_append_right _ (List.mem_of_getElem? (i := 178) rfl)
set_option maxRecDepth 100000 in
theorem tw_1587 : Cond.arrayClass .boolean ∈ lw_tbl := List.mem_append_right _ (List.mem_of_getElem? (i := 1587) rfl)
set_option maxRecDepth 100000 in
theorem tw_403 : Cond.arrayOver (.object "java/lang/Object") ∈ lw_tbl := List.mem_append_right _ (List.mem_of_getElem? (i := 403) rfl)
set_option maxRecDepth 100000 in
theorem tw_77 : Cond.methodLinkNest "OilHome" 20 ⟨"OilHome$Tape", "<init>", "()V"⟩ "OilHome" ∈ lw_tbl := List.mem_append_right _ (List.mem_of_getElem? (i := 77) rfl)
set_option maxRecDepth 100000 in
theorem tw_181 : Cond.methodLinkNest "OilHome" 53 ⟨"OilHome$Ways", "<init>", "()V"⟩ "OilHome" ∈ lw_tbl := List.mem_append_right _ (List.mem_of_getElem? (i := 181) rfl)
set_option maxRecDepth 100000 in
theorem tw_933 : Cond.methodLinkNest "OilHome" 353 ⟨"OilHome$Batch", "<init>", "()V"⟩ "OilHome" ∈ lw_tbl := List.mem_append_right _ (List.mem_of_getElem? (i := 933) rfl)
set_option maxRecDepth 100000 in
theorem tw_2066 : Cond.castable "OilHome$Kitchen" "java/lang/Object" ∈ lw_tbl := List.mem_append_right _ (List.mem_of_getElem? (i := 2066) rfl)
set_option maxRecDepth 100000 in
theorem tw_2070 : Cond.castable "OilHome$Sewer" "java/lang/Object" ∈ lw_tbl := List.mem_append_right _ (List.mem_of_getElem? (i := 2070) rfl)
set_option maxRecDepth 100000 in
theorem tw_2067 : Cond.castable "OilHome$Load" "java/lang/Object" ∈ lw_tbl := List.mem_append_right _ (List.mem_of_getElem? (i := 2067) rfl)
set_option maxRecDepth 100000 in
theorem tw_2068 : Cond.castable "OilHome$Batch" "java/lang/Object" ∈ lw_tbl := List.mem_append_right _ (List.mem_of_getElem? (i := 2068) rfl)
set_option maxRecDepth 100000 in
theorem tw_2069 : Cond.castable "OilHome$Proof" "java/lang/Object" ∈ lw_tbl := List.mem_append_right _ (List.mem_of_getElem? (i := 2069) rfl)
set_option maxRecDepth 100000 in
theorem tw_2071 : Cond.castable "OilHome$Move" "java/lang/Object" ∈ lw_tbl := List.mem_append_right _ (List.mem_of_getElem? (i := 2071) rfl)
set_option maxRecDepth 100000 in
theorem tw_2075 : Cond.declares ⟨"java/lang/Object", "getClass", "()Ljava/lang/Class;"⟩ ∈ lw_tbl := List.mem_append_right _ (List.mem_of_getElem? (i := 2075) rfl)
set_option maxRecDepth 100000 in
theorem tw_127 : Cond.laysStatic "java/lang/String" "COMPACT_STRINGS" "Z" ∈ lw_tbl := List.mem_append_right _ (List.mem_of_getElem? (i := 127) rfl)
set_option maxRecDepth 100000 in
theorem tw_6 : Cond.initialized "java/lang/String" ∈ lw_tbl := List.mem_append_right _ (List.mem_of_getElem? (i := 6) rfl)
set_option maxRecDepth 100000 in
theorem tw_223 : Cond.laysStatic "java/util/ArrayList" "DEFAULTCAPACITY_EMPTY_ELEMENTDATA" "[Ljava/lang/Object;" ∈ lw_tbl := List.mem_append_right _ (List.mem_of_getElem? (i := 223) rfl)
set_option maxRecDepth 100000 in
theorem tw_12 : Cond.initialized "java/util/ArrayList" ∈ lw_tbl := List.mem_append_right _ (List.mem_of_getElem? (i := 12) rfl)
set_option maxRecDepth 100000 in
theorem tw_117 : Cond.stringRef "OilHome" 32 "qfadwgkmson" ∈ lw_tbl := List.mem_append_right _ (List.mem_of_getElem? (i := 117) rfl)
set_option maxRecDepth 100000 in
theorem tw_568 : Cond.stringRef "OilHome$Reader" 98 "qfadwgkmson" ∈ lw_tbl := List.mem_append_right _ (List.mem_of_getElem? (i := 568) rfl)
theorem st_c0 {p : Program} {s : State} {m : MethodId} {meth : Method} {c : Code} {b L : Nat} {xs : Nat → Int32} (C0 : lw_At p s m meth c b L xs) : ∃ (cC : ClassId) (iS : Nat → Nat), u_Kn s RJx4a65c TJx4a65c 3 cC iS := by
  obtain ⟨hx, hb, hr, hml, hown, hts, hX, hbl, hlocks, hgv⟩ := id C0
  exact u_known (C := RJx4a65c) (T := TJx4a65c) (N := 3) (n := 3) hts (fun w h => wT_lw (hin_RJx4a65c w h)) (hts _ tw_211)
theorem st_c1 {p : Program} {s : State} {m : MethodId} {meth : Method} {c : Code} {b L : Nat} {xs : Nat → Int32} (C0 : lw_At p s m meth c b L xs) : ∃ (cC : ClassId) (iS : Nat → Nat), u_Kn s RX0 TX0 8 cC iS := by
  obtain ⟨hx, hb, hr, hml, hown, hts, hX, hbl, hlocks, hgv⟩ := id C0
  exact u_known (C := RX0) (T := TX0) (N := 8) (n := 8) hts (fun w h => wT_lw (hin_RX0 w h)) (hts _ tw_932)
theorem st_c2 {p : Program} {s : State} {m : MethodId} {meth : Method} {c : Code} {b L : Nat} {xs : Nat → Int32} (C0 : lw_At p s m meth c b L xs) : ∃ (cC : ClassId) (iS : Nat → Nat), u_Kn s RX1 TX1 11 cC iS := by
  obtain ⟨hx, hb, hr, hml, hown, hts, hX, hbl, hlocks, hgv⟩ := id C0
  exact u_known (C := RX1) (T := TX1) (N := 11) (n := 11) hts (fun w h => wT_lw (hin_RX1 w h)) (hts _ tw_304)
theorem st_c3 {p : Program} {s : State} {m : MethodId} {meth : Method} {c : Code} {b L : Nat} {xs : Nat → Int32} (C0 : lw_At p s m meth c b L xs) : ∃ (cC : ClassId) (iS : Nat → Nat), u_Kn s RX2 TX2 10 cC iS := by
  obtain ⟨hx, hb, hr, hml, hown, hts, hX, hbl, hlocks, hgv⟩ := id C0
  exact u_known (C := RX2) (T := TX2) (N := 10) (n := 10) hts (fun w h => wT_lw (hin_RX2 w h)) (hts _ tw_445)
theorem st_c4 {p : Program} {s : State} {m : MethodId} {meth : Method} {c : Code} {b L : Nat} {xs : Nat → Int32} (C0 : lw_At p s m meth c b L xs) : ∃ (cC : ClassId) (iS : Nat → Nat), u_Kn s RX3 TX3 3 cC iS := by
  obtain ⟨hx, hb, hr, hml, hown, hts, hX, hbl, hlocks, hgv⟩ := id C0
  exact u_known (C := RX3) (T := TX3) (N := 3) (n := 3) hts (fun w h => wT_lw (hin_RX3 w h)) (hts _ tw_1240)
theorem st_c5 {p : Program} {s : State} {m : MethodId} {meth : Method} {c : Code} {b L : Nat} {xs : Nat → Int32} (C0 : lw_At p s m meth c b L xs) : ∃ (cC : ClassId) (iS : Nat → Nat), u_Kn s RX4 TX4 5 cC iS := by
  obtain ⟨hx, hb, hr, hml, hown, hts, hX, hbl, hlocks, hgv⟩ := id C0
  exact u_known (C := RX4) (T := TX4) (N := 5) (n := 5) hts (fun w h => wT_lw (hin_RX4 w h)) (hts _ tw_1032)
theorem st_c6 {p : Program} {s : State} {m : MethodId} {meth : Method} {c : Code} {b L : Nat} {xs : Nat → Int32} (C0 : lw_At p s m meth c b L xs) : ∃ (cC : ClassId) (iS : Nat → Nat), u_Kn s RX5 TX5 6 cC iS := by
  obtain ⟨hx, hb, hr, hml, hown, hts, hX, hbl, hlocks, hgv⟩ := id C0
  exact u_known (C := RX5) (T := TX5) (N := 6) (n := 6) hts (fun w h => wT_lw (hin_RX5 w h)) (hts _ tw_90)
theorem st_c7 {p : Program} {s : State} {m : MethodId} {meth : Method} {c : Code} {b L : Nat} {xs : Nat → Int32} (C0 : lw_At p s m meth c b L xs) : ∃ (cC : ClassId) (iS : Nat → Nat), u_Kn s RX6 TX6 3 cC iS := by
  obtain ⟨hx, hb, hr, hml, hown, hts, hX, hbl, hlocks, hgv⟩ := id C0
  exact u_known (C := RX6) (T := TX6) (N := 3) (n := 3) hts (fun w h => wT_lw (hin_RX6 w h)) (hts _ tw_1170)
theorem st_c8 {p : Program} {s : State} {m : MethodId} {meth : Method} {c : Code} {b L : Nat} {xs : Nat → Int32} (C0 : lw_At p s m meth c b L xs) : ∃ (cC : ClassId) (iS : Nat → Nat), u_Kn s RX7 TX7 10 cC iS := by
  obtain ⟨hx, hb, hr, hml, hown, hts, hX, hbl, hlocks, hgv⟩ := id C0
  exact u_known (C := RX7) (T := TX7) (N := 10) (n := 10) hts (fun w h => wT_lw (hin_RX7 w h)) (hts _ tw_129)
theorem st_c9 {p : Program} {s : State} {m : MethodId} {meth : Method} {c : Code} {b L : Nat} {xs : Nat → Int32} (C0 : lw_At p s m meth c b L xs) : ∃ (cC : ClassId) (iS : Nat → Nat), u_Kn s RX8 TX8 2 cC iS := by
  obtain ⟨hx, hb, hr, hml, hown, hts, hX, hbl, hlocks, hgv⟩ := id C0
  exact u_known (C := RX8) (T := TX8) (N := 2) (n := 2) hts (fun w h => wT_lw (hin_RX8 w h)) (hts _ tw_76)
theorem st_c10 {p : Program} {s : State} {m : MethodId} {meth : Method} {c : Code} {b L : Nat} {xs : Nat → Int32} (C0 : lw_At p s m meth c b L xs) : ∃ (cC : ClassId) (iS : Nat → Nat), u_Kn s RX9 TX9 9 cC iS := by
  obtain ⟨hx, hb, hr, hml, hown, hts, hX, hbl, hlocks, hgv⟩ := id C0
  exact u_known (C := RX9) (T := TX9) (N := 9) (n := 9) hts (fun w h => wT_lw (hin_RX9 w h)) (hts _ tw_36)
theorem st_c11 {p : Program} {s : State} {m : MethodId} {meth : Method} {c : Code} {b L : Nat} {xs : Nat → Int32} (C0 : lw_At p s m meth c b L xs) : ∃ (cC : ClassId) (iS : Nat → Nat), u_Kn s RX10 TX10 7 cC iS := by
  obtain ⟨hx, hb, hr, hml, hown, hts, hX, hbl, hlocks, hgv⟩ := id C0
  exact u_known (C := RX10) (T := TX10) (N := 7) (n := 7) hts (fun w h => wT_lw (hin_RX10 w h)) (hts _ tw_180)
theorem st_c12 {p : Program} {s : State} {m : MethodId} {meth : Method} {c : Code} {b L : Nat} {xs : Nat → Int32} (C0 : lw_At p s m meth c b L xs) : ∃ (cC : ClassId) (iS : Nat → Nat), u_Kn s RX11 TX11 16 cC iS := by
  obtain ⟨hx, hb, hr, hml, hown, hts, hX, hbl, hlocks, hgv⟩ := id C0
  exact u_known (C := RX11) (T := TX11) (N := 16) (n := 16) hts (fun w h => wT_lw (hin_RX11 w h)) (hts _ tw_28)
theorem st_c13 {p : Program} {s : State} {m : MethodId} {meth : Method} {c : Code} {b L : Nat} {xs : Nat → Int32} (C0 : lw_At p s m meth c b L xs) : ∃ (cC : ClassId) (iS : Nat → Nat), u_Kn s RX12 TX12 91 cC iS := by
  obtain ⟨hx, hb, hr, hml, hown, hts, hX, hbl, hlocks, hgv⟩ := id C0
  exact u_known (C := RX12) (T := TX12) (N := 91) (n := 91) hts (fun w h => wT_lw (hin_RX12 w h)) (hts _ tw_1308)
theorem st_D {p : Program} {s : State} {m : MethodId} {meth : Method} {c : Code} {b L : Nat} {xs : Nat → Int32} (C0 : lw_At p s m meth c b L xs) (cQ : ClassId) : ∃ D : va_G, (∀ (k : Nat) (q : vw_C), vwCl[k]? = some q → u_Kn s q.1 q.2.1 q.2.2 (D.1 k) (D.2 k)) ∧ D.1 99 = cQ := by
  obtain ⟨c0, iS0, hKn0⟩ := st_c0 C0
  obtain ⟨c1, iS1, hKn1⟩ := st_c1 C0
  obtain ⟨c2, iS2, hKn2⟩ := st_c2 C0
  obtain ⟨c3, iS3, hKn3⟩ := st_c3 C0
  obtain ⟨c4, iS4, hKn4⟩ := st_c4 C0
  obtain ⟨c5, iS5, hKn5⟩ := st_c5 C0
  obtain ⟨c6, iS6, hKn6⟩ := st_c6 C0
  obtain ⟨c7, iS7, hKn7⟩ := st_c7 C0
  obtain ⟨c8, iS8, hKn8⟩ := st_c8 C0
  obtain ⟨c9, iS9, hKn9⟩ := st_c9 C0
  obtain ⟨c10, iS10, hKn10⟩ := st_c10 C0
  obtain ⟨c11, iS11, hKn11⟩ := st_c11 C0
  obtain ⟨c12, iS12, hKn12⟩ := st_c12 C0
  obtain ⟨c13, iS13, hKn13⟩ := st_c13 C0
  refine ⟨(fun k => ([c0, c1, c2, c3, c4, c5, c6, c7, c8, c9, c10, c11, c12, c13] : List ClassId).getD k cQ, fun k => ([iS0, iS1, iS2, iS3, iS4, iS5, iS6, iS7, iS8, iS9, iS10, iS11, iS12, iS13] : List (Nat → Nat)).getD k iS0), ?_, rfl⟩
  intro k q hq
  match k, hq with
  | 0, hq => cases hq; exact hKn0
  | 1, hq => cases hq; exact hKn1
  | 2, hq => cases hq; exact hKn2
  | 3, hq => cases hq; exact hKn3
  | 4, hq => cases hq; exact hKn4
  | 5, hq => cases hq; exact hKn5
  | 6, hq => cases hq; exact hKn6
  | 7, hq => cases hq; exact hKn7
  | 8, hq => cases hq; exact hKn8
  | 9, hq => cases hq; exact hKn9
  | 10, hq => cases hq; exact hKn10
  | 11, hq => cases hq; exact hKn11
  | 12, hq => cases hq; exact hKn12
  | 13, hq => cases hq; exact hKn13
  | k + 14, hq => simp [vwCl] at hq
theorem st_K {p : Program} {s : State} {m : MethodId} {meth : Method} {c : Code} {b L : Nat} {xs : Nat → Int32} (C0 : lw_At p s m meth c b L xs) : ∃ (D : va_G) (cI cB cZ : ClassId), KK D cI cB cZ s ∧ va_K D vwCl [(D.1 99, .object "java/lang/Object")] s := by
  obtain ⟨hx, hb, hr, hml, hown, hts, hX, hbl, hlocks, hgv⟩ := id C0
  obtain ⟨cI, hI1, hI2⟩ := arr_known (ty := .int) (hts _ tw_74) (fun C h => by cases h)
  obtain ⟨cB, hB1, hB2⟩ := arr_known (ty := .byte) (hts _ tw_178) (fun C h => by cases h)
  obtain ⟨cZ, hZ1, hZ2⟩ := arr_known (ty := .boolean) (hts _ tw_1587) (fun C h => by cases h)
  obtain ⟨cQ, hQ1, hQ2⟩ := arr_over (hts _ tw_403)
  obtain ⟨D, hKc, hD99⟩ := st_D C0 cQ
  refine ⟨D, cI, cB, cZ, ⟨⟨hKc, fun k q h => ?_⟩, va_Nw.of rfl (hts _ tw_77), va_Nw.of rfl (hts _ tw_181), va_Nw.of rfl (hts _ tw_933)⟩, ⟨hKc, fun k q h => ?_⟩⟩
  · match k, h with
    | 0, h => cases h; exact ⟨hI1, hI2⟩
    | 1, h => cases h; exact ⟨hB1, hB2⟩
    | 2, h => cases h; exact ⟨hZ1, hZ2⟩
    | k + 3, h => simp at h
  · match k, h with
    | 0, h => cases h; rw [hD99]; exact ⟨hQ1, hQ2⟩
    | k + 1, h => simp at h
theorem gv_E {s : State} {b : Nat} (hgv : (Jvm.Cond.and given_1 narrow_1).before #[Value.ref b] s = true) : (Cond.arrayOf (.static "java/util/ArrayList" "DEFAULTCAPACITY_EMPTY_ELEMENTDATA" "[Ljava/lang/Object;") (.object "java/lang/Object")).before #[Value.ref b] s = true := flat_of_before _ hgv _ (by decide +kernel)
theorem gv_El {s : State} {b : Nat} (hgv : (Jvm.Cond.and given_1 narrow_1).before #[Value.ref b] s = true) : (Cond.eq (.length (.static "java/util/ArrayList" "DEFAULTCAPACITY_EMPTY_ELEMENTDATA" "[Ljava/lang/Object;")) (.int 0)).before #[Value.ref b] s = true := flat_of_before _ hgv _ (by decide +kernel)
theorem gv_S {s : State} {b : Nat} (hgv : (Jvm.Cond.and given_1 narrow_1).before #[Value.ref b] s = true) : (Cond.exactly (.string "OilHome" 32) "java/lang/String").before #[Value.ref b] s = true := flat_of_before _ hgv _ (by decide +kernel)
theorem gv_Sc {s : State} {b : Nat} (hgv : (Jvm.Cond.and given_1 narrow_1).before #[Value.ref b] s = true) : (Cond.eq (.field (.string "OilHome" 32) "java/lang/String" "coder" "B") (.int 0)).before #[Value.ref b] s = true := flat_of_before _ hgv _ (by decide +kernel)
theorem gv_Sv {s : State} {b : Nat} (hgv : (Jvm.Cond.and given_1 narrow_1).before #[Value.ref b] s = true) : (Cond.arrayOf (.field (.string "OilHome" 32) "java/lang/String" "value" "[B") .byte).before #[Value.ref b] s = true := flat_of_before _ hgv _ (by decide +kernel)
theorem gv_Sl {s : State} {b : Nat} (hgv : (Jvm.Cond.and given_1 narrow_1).before #[Value.ref b] s = true) : (Cond.eq (.length (.field (.string "OilHome" 32) "java/lang/String" "value" "[B")) (.int 11)).before #[Value.ref b] s = true := flat_of_before _ hgv _ (by decide +kernel)
theorem gv_S0 {s : State} {b : Nat} (hgv : (Jvm.Cond.and given_1 narrow_1).before #[Value.ref b] s = true) : (Cond.eq (.elem (.field (.string "OilHome" 32) "java/lang/String" "value" "[B") (.int 0)) (.int 113)).before #[Value.ref b] s = true := flat_of_before _ hgv _ (by decide +kernel)
theorem gv_S1 {s : State} {b : Nat} (hgv : (Jvm.Cond.and given_1 narrow_1).before #[Value.ref b] s = true) : (Cond.eq (.elem (.field (.string "OilHome" 32) "java/lang/String" "value" "[B") (.int 1)) (.int 102)).before #[Value.ref b] s = true := flat_of_before _ hgv _ (by decide +kernel)
theorem gv_S2 {s : State} {b : Nat} (hgv : (Jvm.Cond.and given_1 narrow_1).before #[Value.ref b] s = true) : (Cond.eq (.elem (.field (.string "OilHome" 32) "java/lang/String" "value" "[B") (.int 2)) (.int 97)).before #[Value.ref b] s = true := flat_of_before _ hgv _ (by decide +kernel)
theorem gv_S3 {s : State} {b : Nat} (hgv : (Jvm.Cond.and given_1 narrow_1).before #[Value.ref b] s = true) : (Cond.eq (.elem (.field (.string "OilHome" 32) "java/lang/String" "value" "[B") (.int 3)) (.int 100)).before #[Value.ref b] s = true := flat_of_before _ hgv _ (by decide +kernel)
theorem gv_S4 {s : State} {b : Nat} (hgv : (Jvm.Cond.and given_1 narrow_1).before #[Value.ref b] s = true) : (Cond.eq (.elem (.field (.string "OilHome" 32) "java/lang/String" "value" "[B") (.int 4)) (.int 119)).before #[Value.ref b] s = true := flat_of_before _ hgv _ (by decide +kernel)
theorem gv_S5 {s : State} {b : Nat} (hgv : (Jvm.Cond.and given_1 narrow_1).before #[Value.ref b] s = true) : (Cond.eq (.elem (.field (.string "OilHome" 32) "java/lang/String" "value" "[B") (.int 5)) (.int 103)).before #[Value.ref b] s = true := flat_of_before _ hgv _ (by decide +kernel)
theorem gv_S6 {s : State} {b : Nat} (hgv : (Jvm.Cond.and given_1 narrow_1).before #[Value.ref b] s = true) : (Cond.eq (.elem (.field (.string "OilHome" 32) "java/lang/String" "value" "[B") (.int 6)) (.int 107)).before #[Value.ref b] s = true := flat_of_before _ hgv _ (by decide +kernel)
theorem gv_S7 {s : State} {b : Nat} (hgv : (Jvm.Cond.and given_1 narrow_1).before #[Value.ref b] s = true) : (Cond.eq (.elem (.field (.string "OilHome" 32) "java/lang/String" "value" "[B") (.int 7)) (.int 109)).before #[Value.ref b] s = true := flat_of_before _ hgv _ (by decide +kernel)
theorem gv_S8 {s : State} {b : Nat} (hgv : (Jvm.Cond.and given_1 narrow_1).before #[Value.ref b] s = true) : (Cond.eq (.elem (.field (.string "OilHome" 32) "java/lang/String" "value" "[B") (.int 8)) (.int 115)).before #[Value.ref b] s = true := flat_of_before _ hgv _ (by decide +kernel)
theorem gv_S9 {s : State} {b : Nat} (hgv : (Jvm.Cond.and given_1 narrow_1).before #[Value.ref b] s = true) : (Cond.eq (.elem (.field (.string "OilHome" 32) "java/lang/String" "value" "[B") (.int 9)) (.int 111)).before #[Value.ref b] s = true := flat_of_before _ hgv _ (by decide +kernel)
theorem gv_S10 {s : State} {b : Nat} (hgv : (Jvm.Cond.and given_1 narrow_1).before #[Value.ref b] s = true) : (Cond.eq (.elem (.field (.string "OilHome" 32) "java/lang/String" "value" "[B") (.int 10)) (.int 110)).before #[Value.ref b] s = true := flat_of_before _ hgv _ (by decide +kernel)
theorem gv_CS {s : State} {b : Nat} (hgv : (Jvm.Cond.and given_1 narrow_1).before #[Value.ref b] s = true) : (Cond.eq (.static "java/lang/String" "COMPACT_STRINGS" "Z") (.int 1)).before #[Value.ref b] s = true := flat_of_before _ hgv _ (by decide +kernel)
theorem gv_SR {s : State} {b : Nat} (hgv : (Jvm.Cond.and given_1 narrow_1).before #[Value.ref b] s = true) : (Cond.eq (.string "OilHome" 32) (.string "OilHome$Reader" 98)).before #[Value.ref b] s = true := flat_of_before _ hgv _ (by decide +kernel)
theorem gv_Mi {s : State} {b : Nat} (hgv : (Jvm.Cond.and given_1 narrow_1).before #[Value.ref b] s = true) : (Cond.isRef (.mirror "[Ljava/lang/Object;")).before #[Value.ref b] s = true := flat_of_before _ hgv _ (by decide +kernel)
theorem st_X {p : Program} {s : State} {m : MethodId} {meth : Method} {c : Code} {b L : Nat} {xs : Nat → Int32} (C0 : lw_At p s m meth c b L xs) : ∃ (D : va_G) (cI cB cZ : ClassId) (zz qq vv : Nat) (bt : Nat → Int32), KK D cI cB cZ s ∧ XS D zz qq vv bt (fun q : Nat => s.heap.size ≤ q) s s.heap := by
  obtain ⟨hx, hb, hr, hml, hown, hts, hX, hbl, hlocks, hgv⟩ := id C0
  obtain ⟨D, cI, cB, cZ, hK, hQ⟩ := st_K C0
  obtain ⟨A, hAe⟩ : ∃ A : Nat → Prop, A = (fun q : Nat => s.heap.size ≤ q) := ⟨_, rfl⟩
  have hNA : ∀ q : Nat, q < s.heap.size → ¬ A q := fun q h => by rw [hAe]; exact Nat.not_le.mpr h
  obtain ⟨zz, hzE, hzT⟩ := va_Tof (tm := (.static "java/util/ArrayList" "DEFAULTCAPACITY_EMPTY_ELEMENTDATA" "[Ljava/lang/Object;")) (ty := .object "java/lang/Object") (N := 0) (f := fun _ => .null) (A := A) (by decide) (gv_E hgv) (va_eqt (gv_El hgv)) (fun j h => absurd h (Nat.not_lt_zero j)) hNA
  obtain ⟨adK, adV, hvS, hvE⟩ := vk_Sof (args := #[Value.ref b]) (s := s) (N := 1) (tm := fun _ => (.string "OilHome" 32)) (len := [11]) (byt := [[113, 102, 97, 100, 119, 103, 107, 109, 115, 111, 110]]) (A := A) (fun i hi => by obtain rfl : i = 0 := (by omega); decide) (fun i _ => (gv_S hgv)) (fun i _ => (gv_Sc hgv)) (fun i _ => (gv_Sv hgv)) (fun i hi => by obtain rfl : i = 0 := (by omega); exact (gv_Sl hgv)) (fun i hi j hj => by
      obtain rfl : i = 0 := by omega
      have hj : j < 11 := hj
      rcases (by omega : j = 0 ∨ j = 1 ∨ j = 2 ∨ j = 3 ∨ j = 4 ∨ j = 5 ∨ j = 6 ∨ j = 7 ∨ j = 8 ∨ j = 9 ∨ j = 10) with rfl | rfl | rfl | rfl | rfl | rfl | rfl | rfl | rfl | rfl | rfl
      · exact (gv_S0 hgv)
      · exact (gv_S1 hgv)
      · exact (gv_S2 hgv)
      · exact (gv_S3 hgv)
      · exact (gv_S4 hgv)
      · exact (gv_S5 hgv)
      · exact (gv_S6 hgv)
      · exact (gv_S7 hgv)
      · exact (gv_S8 hgv)
      · exact (gv_S9 hgv)
      · exact (gv_S10 hgv)
      ) (fun i j hi hj n => absurd (by omega) n) hNA
  obtain ⟨v1, v2, v3, v4⟩ := hvS.1 0 (by decide)
  obtain ⟨mi, hMi⟩ := va_Mi.of (gv_Mi hgv)
  refine ⟨D, cI, cB, cZ, zz, adK 0, adV 0, fun j => (([[113, 102, 97, 100, 119, 103, 107, 109, 115, 111, 110]] : List (List Int32)).getD 0 []).getD j 0, hK, ?_⟩
  rw [← hAe]
  exact ⟨va_Zof (hts _ tw_127) (hts _ tw_6) (va_eqt (gv_CS hgv)) hNA, va_Zof (hts _ tw_223) (hts _ tw_12) hzE hNA, hzT, v1, v2, v3, v4, ⟨vk_R.of (hts _ tw_117) (hvE 0 (by decide)), vk_R.of (hts _ tw_568) (eqt2 (gv_SR hgv) (hvE 0 (by decide)))⟩, hQ, va_AO.of (hts _ tw_403), va_Nw.of rfl (hts _ tw_2066), va_Nw.of rfl (hts _ tw_2070), ⟨va_Nw.of rfl (hts _ tw_2067), va_Nw.of rfl (hts _ tw_2068), va_Nw.of rfl (hts _ tw_2069), va_Nw.of rfl (hts _ tw_2071)⟩, va_Dc.of (hts _ tw_2075), mi, hMi⟩
end

section
set_option maxRecDepth 100000 in
theorem kI_RL_9 : CalI RL 9 yX11_init cX11_init 1 0 := ⟨⟨wk1_2 5 rfl rfl, wk1_2 6 rfl rfl, wk1_0 1 rfl rfl, wk1_2 7 rfl rfl⟩, rfl, ⟨nmh_0.1, nmh_0.2, pd_2⟩⟩
set_option maxRecDepth 100000 in
theorem kI_RL_12 : CalI RL 12 yX12_init cX12_init 2 0 := ⟨⟨wk6_9 1 rfl rfl, wk6_9 2 rfl rfl, wk1_1 1 rfl rfl, wk6_9 3 rfl rfl⟩, rfl, ⟨nmh_13.1, nmh_13.2, pd_2⟩⟩
theorem dL_law_0 : decode code 0 = .ok (.new 7, 3) := oc_187 shL_law_0
theorem dL_law_3 : decode code 3 = .ok (.dup, 1) := oc_89 shL_law_3
theorem dL_law_4 : decode code 4 = .ok (.invokespecial 9, 3) := oc_183 shL_law_4
theorem dL_law_7 : decode code 7 = .ok (.astore_n 1, 1) := oc_76 shL_law_7
theorem dL_law_8 : decode code 8 = .ok (.new 10, 3) := oc_187 shL_law_8
theorem dL_law_11 : decode code 11 = .ok (.dup, 1) := oc_89 shL_law_11
theorem dL_law_12 : decode code 12 = .ok (.invokespecial 12, 3) := oc_183 shL_law_12
theorem dL_law_15 : decode code 15 = .ok (.astore_n 2, 1) := oc_77 shL_law_15
theorem dL_law_16 : decode code 16 = .ok (.iconst 0, 1) := oc_3 shL_law_16
theorem dL_law_17 : decode code 17 = .ok (.istore_n 3, 1) := oc_62 shL_law_17
set_option maxRecDepth 100000 in
set_option maxHeartbeats 8000000 in
theorem law_made {p : Program} {l : Launch} {e : Env} {s : State} {m : MethodId} {below : List Frame} {meth : Method} {c : Code} {b L : Nat} {xs : Nat → Int32} (C0 : lw_At p s m meth c b L xs) {D : va_G} {cI cB cZ : ClassId} {zz qq vv : Nat} {bt : Nat → Int32} (hK : KK D cI cB cZ s) (hXS : XS D zz qq vv bt (fun q : Nat => s.heap.size ≤ q) s s.heap) {ls : Array Slot} (hl : lv_has ls 4 [(0, .ref b)]) (kk : ∀ (g g2 : Nat → Nat) (H : Heap) (locs : List Loc), va_P D vwCl (wX cI (D.1 99) zz g (adS g) cnS (fun _ => 0) FnS ++ wM cI cB cZ g2 (fun _ => 0) (fun _ => 0) FnMS) H → va_D (fun q : Nat => s.heap.size ≤ q) (wX cI (D.1 99) zz g (adS g) cnS (fun _ => 0) FnS ++ wM cI cB cZ g2 (fun _ => 0) (fun _ => 0) FnMS) → va_S (fun q : Nat => s.heap.size ≤ q) s.heap H locs → ∀ ls : Array Slot, lv_has ls 4 [(0, .ref b), (1, .ref (g 0)), (2, .ref (g2 100)), (3, .int 0)] → W p l e room_1 s m #[Value.ref b] below meth c H locs 107 14457 (lw_Z below #[Value.ref b] s) (F0 m 18 ls [])) : W p l e room_1 s m #[Value.ref b] below meth c s.heap [] 0 0 (lw_Z below #[Value.ref b] s) (F0 m 0 ls []) := by
  obtain ⟨hx, hb, hr, hml, hown, hts, hX, hbl, hlocks, hgv⟩ := id C0
  have S : SF p m c code 4 s #[Value.ref b] RL := ⟨hx, hb, hml, hown, fun w h => hts w (wT_lw h)⟩
  obtain ⟨A, hAe⟩ : ∃ A : Nat → Prop, A = (fun q : Nat => s.heap.size ≤ q) := ⟨_, rfl⟩
  rw [← hAe] at hXS kk
  have hA : ∀ q : Nat, s.heap.size ≤ q → A q := fun q h => by rw [hAe]; exact h
  have hS : va_S A s.heap s.heap [] := va_S.rf
  have hP : va_P D vwCl [] s.heap := fun k q h => by simp at h
  have hD : va_D A [] := ⟨fun i j p q h => by simp at h, fun k q h => by simp at h⟩
  refine va_new (ci := 12) (fs := [.int 0, .int 0, .int 0, .int 0, .null, .null, .null, .null, .null, .null, .null, .null, .null, .null, .null, .null]) (C := RX11) (T := TX11) (N := 16) hx hb S.2.2.2.2 hin_RX11 tyX11 tyX11_ok hown (S.2.2.2.2 _ (wk1_2 3 rfl rfl)) (S.2.2.2.2 _ (wk1_2 4 rfl rfl)) (S.2.2.2.2 _ (wk1_0 1 rfl rfl)) hK.1 hP hD hS hA rfl (by decide +kernel) (Nat.le_of_ble_eq_true rfl) (Nat.le_of_ble_eq_true rfl) dL_law_0 (fun q0 H hP hD hS => ?_)
  have hP : va_P D vwCl [(q0, .inr (12, [.int 0, .int 0, .int 0, .int 0, .null, .null, .null, .null, .null, .null, .null, .null, .null, .null, .null, .null]))] H := hP
  have hD : va_D A [(q0, .inr (12, [.int 0, .int 0, .int 0, .int 0, .null, .null, .null, .null, .null, .null, .null, .null, .null, .null, .null, .null]))] := hD
  refine lv_dup hx hb dL_law_3 rfl ?_
  have hFc := va_free (wc := [(q0, .inr (12, [.int 0, .int 0, .int 0, .int 0, .null, .null, .null, .null, .null, .null, .null, .null, .null, .null, .null, .null]))]) hD hS hA [0] rfl
  refine va_callv (runI_x (As := []) (rest := [.ref q0]) S (q_c_OilHome l D cI cB cZ zz qq vv bt q0 H.size) kI_RL_9 hK hXS hS hFc hP hD [0] rfl rfl (by decide) ⟨Nat.le_of_ble_eq_true rfl, Nat.le_of_ble_eq_true rfl⟩ ⟨Nat.le_of_ble_eq_true rfl, Nat.le_of_ble_eq_true rfl⟩ rfl hl.1 rfl (Nat.le_of_ble_eq_true rfl) dL_law_4) hS (fun q _ h => hFc q h) hFc (fun u_2 t H1 locs ht hvm h_3 hB hz1 hk1 hS => ?_)
  obtain ⟨hP1, hD1⟩ := hB
  rw [ht] at hP1
  obtain ⟨hP, hD⟩ := va_join (wr := []) (w1 := [((u_2 0), .inr (12, [.int 0, .int 0, .int 0, .int 0, .ref (u_2 50), .ref (u_2 5), .ref (u_2 6), .ref (u_2 7), .ref (u_2 8), .ref (u_2 9), .ref (u_2 10), .ref (u_2 11), .ref (u_2 12), .ref (u_2 13), .ref (u_2 14), .ref (u_2 15)])), ((u_2 5), .inr (9, [.ref (u_2 40), .int 0])), ((u_2 40), .inl (cI, 200, .inl (fun _ => 0))), ((u_2 6), .inr (6, [.ref (u_2 41), .ref (u_2 51), .int 0, .int 0, .int 0, .int 0])), ((u_2 41), .inl (cI, 0, .inl (fun _ => 0))), ((u_2 7), .inl (cI, 11, .inl (fun _ => 0))), ((u_2 8), .inr (8, [.ref (u_2 20), .ref (u_2 21), .ref (u_2 22), .ref (u_2 23), .ref (u_2 24), .ref (u_2 25), .ref (u_2 26), .ref (u_2 27), .ref (u_2 28), .ref (u_2 29)])), ((u_2 20), .inl (cI, 58, .inl (fun _ => 0))), ((u_2 21), .inl (cI, 24, .inl (fun _ => 0))), ((u_2 22), .inl (cI, 400, .inl (dgF 400))), ((u_2 23), .inl (cI, 400, .inl (fun _ => 0))), ((u_2 24), .inl (cI, 10, .inl (fun _ => 0))), ((u_2 25), .inl (cI, 10, .inl (fun _ => 0))), ((u_2 26), .inl (cI, 232, .inl (fun _ => 0))), ((u_2 27), .inl (cI, 3, .inl (fun _ => 0))), ((u_2 28), .inl (cI, 1200, .inl (fun _ => 0))), ((u_2 29), .inl (cI, 400, .inl (fun _ => 0))), ((u_2 9), .inr (11, [.ref (u_2 30), .ref (u_2 31), .ref (u_2 32), .ref (u_2 33), .ref (u_2 34), .ref (u_2 35), .int 0])), ((u_2 30), .inl (cI, 8, .inl (fun _ => 0))), ((u_2 31), .inl (cI, 8, .inl (fun _ => 0))), ((u_2 32), .inl (cI, 8, .inl (fun _ => 0))), ((u_2 33), .inl (cI, 8, .inl (fun _ => 0))), ((u_2 34), .inl (cI, 2048, .inl (fun _ => 0))), ((u_2 35), .inl (cI, 256, .inl (fun _ => 0))), ((u_2 10), .inr (0, [.int 0, .ref zz, .int 0])), ((u_2 11), .inr (0, [.int 0, .ref zz, .int 0])), ((u_2 12), .inr (0, [.int 0, .ref zz, .int 0])), ((u_2 13), .inr (0, [.int 0, .ref zz, .int 0])), ((u_2 14), .inr (0, [.int 0, .ref zz, .int 0])), ((u_2 15), .inr (0, [.int 0, .ref zz, .int 0])), ((u_2 50), .inr (10, [.ref (u_2 70), .ref (u_2 72), .ref (u_2 74), .ref (u_2 76), .ref (u_2 78), .int 0, .int 0, .int 0, .int 0])), ((u_2 51), .inr (10, [.ref (u_2 71), .ref (u_2 73), .ref (u_2 75), .ref (u_2 77), .ref (u_2 79), .int 0, .int 0, .int 0, .int 0])), ((u_2 70), .inl (cI, 0, .inl (fun _ => 0))), ((u_2 71), .inl (cI, 0, .inl (fun _ => 0))), ((u_2 72), .inl (cI, 12, .inl (fun _ => 0))), ((u_2 73), .inl (cI, 12, .inl (fun _ => 0))), ((u_2 74), .inl (cI, 12, .inl (fun _ => 0))), ((u_2 75), .inl (cI, 12, .inl (fun _ => 0))), ((u_2 76), .inl (cI, 12, .inl (fun _ => 0))), ((u_2 77), .inl (cI, 12, .inl (fun _ => 0))), ((u_2 78), .inl (cI, 32, .inl (fun _ => 0))), ((u_2 79), .inl (cI, 32, .inl (fun _ => 0)))]) hP hD [0] [] rfl rfl (by decide) (by decide) hk1 hFc hP1 hD1
  generalize H1 = H at hP hS ⊢
  have hP : va_P D vwCl [((u_2 0), .inr (12, [.int 0, .int 0, .int 0, .int 0, .ref (u_2 50), .ref (u_2 5), .ref (u_2 6), .ref (u_2 7), .ref (u_2 8), .ref (u_2 9), .ref (u_2 10), .ref (u_2 11), .ref (u_2 12), .ref (u_2 13), .ref (u_2 14), .ref (u_2 15)])), ((u_2 5), .inr (9, [.ref (u_2 40), .int 0])), ((u_2 40), .inl (cI, 200, .inl (fun _ => 0))), ((u_2 6), .inr (6, [.ref (u_2 41), .ref (u_2 51), .int 0, .int 0, .int 0, .int 0])), ((u_2 41), .inl (cI, 0, .inl (fun _ => 0))), ((u_2 7), .inl (cI, 11, .inl (fun _ => 0))), ((u_2 8), .inr (8, [.ref (u_2 20), .ref (u_2 21), .ref (u_2 22), .ref (u_2 23), .ref (u_2 24), .ref (u_2 25), .ref (u_2 26), .ref (u_2 27), .ref (u_2 28), .ref (u_2 29)])), ((u_2 20), .inl (cI, 58, .inl (fun _ => 0))), ((u_2 21), .inl (cI, 24, .inl (fun _ => 0))), ((u_2 22), .inl (cI, 400, .inl (dgF 400))), ((u_2 23), .inl (cI, 400, .inl (fun _ => 0))), ((u_2 24), .inl (cI, 10, .inl (fun _ => 0))), ((u_2 25), .inl (cI, 10, .inl (fun _ => 0))), ((u_2 26), .inl (cI, 232, .inl (fun _ => 0))), ((u_2 27), .inl (cI, 3, .inl (fun _ => 0))), ((u_2 28), .inl (cI, 1200, .inl (fun _ => 0))), ((u_2 29), .inl (cI, 400, .inl (fun _ => 0))), ((u_2 9), .inr (11, [.ref (u_2 30), .ref (u_2 31), .ref (u_2 32), .ref (u_2 33), .ref (u_2 34), .ref (u_2 35), .int 0])), ((u_2 30), .inl (cI, 8, .inl (fun _ => 0))), ((u_2 31), .inl (cI, 8, .inl (fun _ => 0))), ((u_2 32), .inl (cI, 8, .inl (fun _ => 0))), ((u_2 33), .inl (cI, 8, .inl (fun _ => 0))), ((u_2 34), .inl (cI, 2048, .inl (fun _ => 0))), ((u_2 35), .inl (cI, 256, .inl (fun _ => 0))), ((u_2 10), .inr (0, [.int 0, .ref zz, .int 0])), ((u_2 11), .inr (0, [.int 0, .ref zz, .int 0])), ((u_2 12), .inr (0, [.int 0, .ref zz, .int 0])), ((u_2 13), .inr (0, [.int 0, .ref zz, .int 0])), ((u_2 14), .inr (0, [.int 0, .ref zz, .int 0])), ((u_2 15), .inr (0, [.int 0, .ref zz, .int 0])), ((u_2 50), .inr (10, [.ref (u_2 70), .ref (u_2 72), .ref (u_2 74), .ref (u_2 76), .ref (u_2 78), .int 0, .int 0, .int 0, .int 0])), ((u_2 51), .inr (10, [.ref (u_2 71), .ref (u_2 73), .ref (u_2 75), .ref (u_2 77), .ref (u_2 79), .int 0, .int 0, .int 0, .int 0])), ((u_2 70), .inl (cI, 0, .inl (fun _ => 0))), ((u_2 71), .inl (cI, 0, .inl (fun _ => 0))), ((u_2 72), .inl (cI, 12, .inl (fun _ => 0))), ((u_2 73), .inl (cI, 12, .inl (fun _ => 0))), ((u_2 74), .inl (cI, 12, .inl (fun _ => 0))), ((u_2 75), .inl (cI, 12, .inl (fun _ => 0))), ((u_2 76), .inl (cI, 12, .inl (fun _ => 0))), ((u_2 77), .inl (cI, 12, .inl (fun _ => 0))), ((u_2 78), .inl (cI, 32, .inl (fun _ => 0))), ((u_2 79), .inl (cI, 32, .inl (fun _ => 0)))] H := hP
  have hD : va_D A [((u_2 0), .inr (12, [.int 0, .int 0, .int 0, .int 0, .ref (u_2 50), .ref (u_2 5), .ref (u_2 6), .ref (u_2 7), .ref (u_2 8), .ref (u_2 9), .ref (u_2 10), .ref (u_2 11), .ref (u_2 12), .ref (u_2 13), .ref (u_2 14), .ref (u_2 15)])), ((u_2 5), .inr (9, [.ref (u_2 40), .int 0])), ((u_2 40), .inl (cI, 200, .inl (fun _ => 0))), ((u_2 6), .inr (6, [.ref (u_2 41), .ref (u_2 51), .int 0, .int 0, .int 0, .int 0])), ((u_2 41), .inl (cI, 0, .inl (fun _ => 0))), ((u_2 7), .inl (cI, 11, .inl (fun _ => 0))), ((u_2 8), .inr (8, [.ref (u_2 20), .ref (u_2 21), .ref (u_2 22), .ref (u_2 23), .ref (u_2 24), .ref (u_2 25), .ref (u_2 26), .ref (u_2 27), .ref (u_2 28), .ref (u_2 29)])), ((u_2 20), .inl (cI, 58, .inl (fun _ => 0))), ((u_2 21), .inl (cI, 24, .inl (fun _ => 0))), ((u_2 22), .inl (cI, 400, .inl (dgF 400))), ((u_2 23), .inl (cI, 400, .inl (fun _ => 0))), ((u_2 24), .inl (cI, 10, .inl (fun _ => 0))), ((u_2 25), .inl (cI, 10, .inl (fun _ => 0))), ((u_2 26), .inl (cI, 232, .inl (fun _ => 0))), ((u_2 27), .inl (cI, 3, .inl (fun _ => 0))), ((u_2 28), .inl (cI, 1200, .inl (fun _ => 0))), ((u_2 29), .inl (cI, 400, .inl (fun _ => 0))), ((u_2 9), .inr (11, [.ref (u_2 30), .ref (u_2 31), .ref (u_2 32), .ref (u_2 33), .ref (u_2 34), .ref (u_2 35), .int 0])), ((u_2 30), .inl (cI, 8, .inl (fun _ => 0))), ((u_2 31), .inl (cI, 8, .inl (fun _ => 0))), ((u_2 32), .inl (cI, 8, .inl (fun _ => 0))), ((u_2 33), .inl (cI, 8, .inl (fun _ => 0))), ((u_2 34), .inl (cI, 2048, .inl (fun _ => 0))), ((u_2 35), .inl (cI, 256, .inl (fun _ => 0))), ((u_2 10), .inr (0, [.int 0, .ref zz, .int 0])), ((u_2 11), .inr (0, [.int 0, .ref zz, .int 0])), ((u_2 12), .inr (0, [.int 0, .ref zz, .int 0])), ((u_2 13), .inr (0, [.int 0, .ref zz, .int 0])), ((u_2 14), .inr (0, [.int 0, .ref zz, .int 0])), ((u_2 15), .inr (0, [.int 0, .ref zz, .int 0])), ((u_2 50), .inr (10, [.ref (u_2 70), .ref (u_2 72), .ref (u_2 74), .ref (u_2 76), .ref (u_2 78), .int 0, .int 0, .int 0, .int 0])), ((u_2 51), .inr (10, [.ref (u_2 71), .ref (u_2 73), .ref (u_2 75), .ref (u_2 77), .ref (u_2 79), .int 0, .int 0, .int 0, .int 0])), ((u_2 70), .inl (cI, 0, .inl (fun _ => 0))), ((u_2 71), .inl (cI, 0, .inl (fun _ => 0))), ((u_2 72), .inl (cI, 12, .inl (fun _ => 0))), ((u_2 73), .inl (cI, 12, .inl (fun _ => 0))), ((u_2 74), .inl (cI, 12, .inl (fun _ => 0))), ((u_2 75), .inl (cI, 12, .inl (fun _ => 0))), ((u_2 76), .inl (cI, 12, .inl (fun _ => 0))), ((u_2 77), .inl (cI, 12, .inl (fun _ => 0))), ((u_2 78), .inl (cI, 32, .inl (fun _ => 0))), ((u_2 79), .inl (cI, 32, .inl (fun _ => 0)))] := hD
  have h0 : u_2 0 = q0 := h_3
  rw [← h0]
  refine lv_astore_n (lv' := [(1, .ref (u_2 0)), (0, .ref b)]) hx hb dL_law_7 rfl hl (ltb rfl) rfl (fun ls hl => ?_)
  refine va_new (ci := 13) (fs := [.int 0, .int 0, .int 0, .null, .null, .null, .null, .null, .null, .null, .null, .null, .null, .null, .null, .null, .null, .null, .int 0, .int 0, .int 0, .int 0, .int 0, .int 0, .int 0, .int 0, .int 0, .null, .null, .null, .null, .null, .null, .null, .null, .null, .null, .null, .null, .null, .null, .null, .null, .null, .int 0, .int 0, .int 0, .null, .null, .null, .null, .null, .null, .null, .int 0, .int 0, .int 0, .int 0, .int 0, .null, .null, .null, .int 0, .int 0, .null, .null, .null, .null, .null, .null, .null, .int 0, .int 0, .int 0, .null, .int 0, .null, .null, .null, .null, .null, .null, .null, .int 0, .null, .null, .null, .null, .null, .null, .null]) (C := RX12) (T := TX12) (N := 91) hx hb S.2.2.2.2 hin_RX12 tyX12 tyX12_ok hown (S.2.2.2.2 _ (wk6_8 11 rfl rfl)) (S.2.2.2.2 _ (wk6_9 0 rfl rfl)) (S.2.2.2.2 _ (wk1_1 1 rfl rfl)) hK.1 hP hD hS hA rfl (by decide +kernel) (Nat.le_of_ble_eq_true rfl) (Nat.le_of_ble_eq_true rfl) dL_law_8 (fun q8 H hP hD hS => ?_)
  have hP : va_P D vwCl [((u_2 0), .inr (12, [.int 0, .int 0, .int 0, .int 0, .ref (u_2 50), .ref (u_2 5), .ref (u_2 6), .ref (u_2 7), .ref (u_2 8), .ref (u_2 9), .ref (u_2 10), .ref (u_2 11), .ref (u_2 12), .ref (u_2 13), .ref (u_2 14), .ref (u_2 15)])), ((u_2 5), .inr (9, [.ref (u_2 40), .int 0])), ((u_2 40), .inl (cI, 200, .inl (fun _ => 0))), ((u_2 6), .inr (6, [.ref (u_2 41), .ref (u_2 51), .int 0, .int 0, .int 0, .int 0])), ((u_2 41), .inl (cI, 0, .inl (fun _ => 0))), ((u_2 7), .inl (cI, 11, .inl (fun _ => 0))), ((u_2 8), .inr (8, [.ref (u_2 20), .ref (u_2 21), .ref (u_2 22), .ref (u_2 23), .ref (u_2 24), .ref (u_2 25), .ref (u_2 26), .ref (u_2 27), .ref (u_2 28), .ref (u_2 29)])), ((u_2 20), .inl (cI, 58, .inl (fun _ => 0))), ((u_2 21), .inl (cI, 24, .inl (fun _ => 0))), ((u_2 22), .inl (cI, 400, .inl (dgF 400))), ((u_2 23), .inl (cI, 400, .inl (fun _ => 0))), ((u_2 24), .inl (cI, 10, .inl (fun _ => 0))), ((u_2 25), .inl (cI, 10, .inl (fun _ => 0))), ((u_2 26), .inl (cI, 232, .inl (fun _ => 0))), ((u_2 27), .inl (cI, 3, .inl (fun _ => 0))), ((u_2 28), .inl (cI, 1200, .inl (fun _ => 0))), ((u_2 29), .inl (cI, 400, .inl (fun _ => 0))), ((u_2 9), .inr (11, [.ref (u_2 30), .ref (u_2 31), .ref (u_2 32), .ref (u_2 33), .ref (u_2 34), .ref (u_2 35), .int 0])), ((u_2 30), .inl (cI, 8, .inl (fun _ => 0))), ((u_2 31), .inl (cI, 8, .inl (fun _ => 0))), ((u_2 32), .inl (cI, 8, .inl (fun _ => 0))), ((u_2 33), .inl (cI, 8, .inl (fun _ => 0))), ((u_2 34), .inl (cI, 2048, .inl (fun _ => 0))), ((u_2 35), .inl (cI, 256, .inl (fun _ => 0))), ((u_2 10), .inr (0, [.int 0, .ref zz, .int 0])), ((u_2 11), .inr (0, [.int 0, .ref zz, .int 0])), ((u_2 12), .inr (0, [.int 0, .ref zz, .int 0])), ((u_2 13), .inr (0, [.int 0, .ref zz, .int 0])), ((u_2 14), .inr (0, [.int 0, .ref zz, .int 0])), ((u_2 15), .inr (0, [.int 0, .ref zz, .int 0])), ((u_2 50), .inr (10, [.ref (u_2 70), .ref (u_2 72), .ref (u_2 74), .ref (u_2 76), .ref (u_2 78), .int 0, .int 0, .int 0, .int 0])), ((u_2 51), .inr (10, [.ref (u_2 71), .ref (u_2 73), .ref (u_2 75), .ref (u_2 77), .ref (u_2 79), .int 0, .int 0, .int 0, .int 0])), ((u_2 70), .inl (cI, 0, .inl (fun _ => 0))), ((u_2 71), .inl (cI, 0, .inl (fun _ => 0))), ((u_2 72), .inl (cI, 12, .inl (fun _ => 0))), ((u_2 73), .inl (cI, 12, .inl (fun _ => 0))), ((u_2 74), .inl (cI, 12, .inl (fun _ => 0))), ((u_2 75), .inl (cI, 12, .inl (fun _ => 0))), ((u_2 76), .inl (cI, 12, .inl (fun _ => 0))), ((u_2 77), .inl (cI, 12, .inl (fun _ => 0))), ((u_2 78), .inl (cI, 32, .inl (fun _ => 0))), ((u_2 79), .inl (cI, 32, .inl (fun _ => 0))), (q8, .inr (13, [.int 0, .int 0, .int 0, .null, .null, .null, .null, .null, .null, .null, .null, .null, .null, .null, .null, .null, .null, .null, .int 0, .int 0, .int 0, .int 0, .int 0, .int 0, .int 0, .int 0, .int 0, .null, .null, .null, .null, .null, .null, .null, .null, .null, .null, .null, .null, .null, .null, .null, .null, .null, .int 0, .int 0, .int 0, .null, .null, .null, .null, .null, .null, .null, .int 0, .int 0, .int 0, .int 0, .int 0, .null, .null, .null, .int 0, .int 0, .null, .null, .null, .null, .null, .null, .null, .int 0, .int 0, .int 0, .null, .int 0, .null, .null, .null, .null, .null, .null, .null, .int 0, .null, .null, .null, .null, .null, .null, .null]))] H := hP
  have hD : va_D A [((u_2 0), .inr (12, [.int 0, .int 0, .int 0, .int 0, .ref (u_2 50), .ref (u_2 5), .ref (u_2 6), .ref (u_2 7), .ref (u_2 8), .ref (u_2 9), .ref (u_2 10), .ref (u_2 11), .ref (u_2 12), .ref (u_2 13), .ref (u_2 14), .ref (u_2 15)])), ((u_2 5), .inr (9, [.ref (u_2 40), .int 0])), ((u_2 40), .inl (cI, 200, .inl (fun _ => 0))), ((u_2 6), .inr (6, [.ref (u_2 41), .ref (u_2 51), .int 0, .int 0, .int 0, .int 0])), ((u_2 41), .inl (cI, 0, .inl (fun _ => 0))), ((u_2 7), .inl (cI, 11, .inl (fun _ => 0))), ((u_2 8), .inr (8, [.ref (u_2 20), .ref (u_2 21), .ref (u_2 22), .ref (u_2 23), .ref (u_2 24), .ref (u_2 25), .ref (u_2 26), .ref (u_2 27), .ref (u_2 28), .ref (u_2 29)])), ((u_2 20), .inl (cI, 58, .inl (fun _ => 0))), ((u_2 21), .inl (cI, 24, .inl (fun _ => 0))), ((u_2 22), .inl (cI, 400, .inl (dgF 400))), ((u_2 23), .inl (cI, 400, .inl (fun _ => 0))), ((u_2 24), .inl (cI, 10, .inl (fun _ => 0))), ((u_2 25), .inl (cI, 10, .inl (fun _ => 0))), ((u_2 26), .inl (cI, 232, .inl (fun _ => 0))), ((u_2 27), .inl (cI, 3, .inl (fun _ => 0))), ((u_2 28), .inl (cI, 1200, .inl (fun _ => 0))), ((u_2 29), .inl (cI, 400, .inl (fun _ => 0))), ((u_2 9), .inr (11, [.ref (u_2 30), .ref (u_2 31), .ref (u_2 32), .ref (u_2 33), .ref (u_2 34), .ref (u_2 35), .int 0])), ((u_2 30), .inl (cI, 8, .inl (fun _ => 0))), ((u_2 31), .inl (cI, 8, .inl (fun _ => 0))), ((u_2 32), .inl (cI, 8, .inl (fun _ => 0))), ((u_2 33), .inl (cI, 8, .inl (fun _ => 0))), ((u_2 34), .inl (cI, 2048, .inl (fun _ => 0))), ((u_2 35), .inl (cI, 256, .inl (fun _ => 0))), ((u_2 10), .inr (0, [.int 0, .ref zz, .int 0])), ((u_2 11), .inr (0, [.int 0, .ref zz, .int 0])), ((u_2 12), .inr (0, [.int 0, .ref zz, .int 0])), ((u_2 13), .inr (0, [.int 0, .ref zz, .int 0])), ((u_2 14), .inr (0, [.int 0, .ref zz, .int 0])), ((u_2 15), .inr (0, [.int 0, .ref zz, .int 0])), ((u_2 50), .inr (10, [.ref (u_2 70), .ref (u_2 72), .ref (u_2 74), .ref (u_2 76), .ref (u_2 78), .int 0, .int 0, .int 0, .int 0])), ((u_2 51), .inr (10, [.ref (u_2 71), .ref (u_2 73), .ref (u_2 75), .ref (u_2 77), .ref (u_2 79), .int 0, .int 0, .int 0, .int 0])), ((u_2 70), .inl (cI, 0, .inl (fun _ => 0))), ((u_2 71), .inl (cI, 0, .inl (fun _ => 0))), ((u_2 72), .inl (cI, 12, .inl (fun _ => 0))), ((u_2 73), .inl (cI, 12, .inl (fun _ => 0))), ((u_2 74), .inl (cI, 12, .inl (fun _ => 0))), ((u_2 75), .inl (cI, 12, .inl (fun _ => 0))), ((u_2 76), .inl (cI, 12, .inl (fun _ => 0))), ((u_2 77), .inl (cI, 12, .inl (fun _ => 0))), ((u_2 78), .inl (cI, 32, .inl (fun _ => 0))), ((u_2 79), .inl (cI, 32, .inl (fun _ => 0))), (q8, .inr (13, [.int 0, .int 0, .int 0, .null, .null, .null, .null, .null, .null, .null, .null, .null, .null, .null, .null, .null, .null, .null, .int 0, .int 0, .int 0, .int 0, .int 0, .int 0, .int 0, .int 0, .int 0, .null, .null, .null, .null, .null, .null, .null, .null, .null, .null, .null, .null, .null, .null, .null, .null, .null, .int 0, .int 0, .int 0, .null, .null, .null, .null, .null, .null, .null, .int 0, .int 0, .int 0, .int 0, .int 0, .null, .null, .null, .int 0, .int 0, .null, .null, .null, .null, .null, .null, .null, .int 0, .int 0, .int 0, .null, .int 0, .null, .null, .null, .null, .null, .null, .null, .int 0, .null, .null, .null, .null, .null, .null, .null]))] := hD
  refine lv_dup hx hb dL_law_11 rfl ?_
  have hFc := va_free (wc := [(q8, .inr (13, [.int 0, .int 0, .int 0, .null, .null, .null, .null, .null, .null, .null, .null, .null, .null, .null, .null, .null, .null, .null, .int 0, .int 0, .int 0, .int 0, .int 0, .int 0, .int 0, .int 0, .int 0, .null, .null, .null, .null, .null, .null, .null, .null, .null, .null, .null, .null, .null, .null, .null, .null, .null, .int 0, .int 0, .int 0, .null, .null, .null, .null, .null, .null, .null, .int 0, .int 0, .int 0, .int 0, .int 0, .null, .null, .null, .int 0, .int 0, .null, .null, .null, .null, .null, .null, .null, .int 0, .int 0, .int 0, .null, .int 0, .null, .null, .null, .null, .null, .null, .null, .int 0, .null, .null, .null, .null, .null, .null, .null]))]) hD hS hA [42] rfl
  refine va_callv (runI_w (As := []) (rest := [.ref q8]) S (q_c_Model l D cI cB cZ q8 H.size) kI_RL_12 hK hP hD [42] rfl rfl (by decide) ⟨Nat.le_of_ble_eq_true rfl, Nat.le_of_ble_eq_true rfl⟩ ⟨Nat.le_of_ble_eq_true rfl, Nat.le_of_ble_eq_true rfl⟩ rfl hl.1 rfl (Nat.le_of_ble_eq_true rfl) dL_law_12) hS (fun q _ h => hFc q h) hFc (fun u_5 t H1 locs ht hvm h_6 hB hz1 hk1 hS => ?_)
  obtain ⟨hP1, hD1⟩ := hB
  rw [ht] at hP1
  obtain ⟨hP, hD⟩ := va_join (wr := [((u_2 0), .inr (12, [.int 0, .int 0, .int 0, .int 0, .ref (u_2 50), .ref (u_2 5), .ref (u_2 6), .ref (u_2 7), .ref (u_2 8), .ref (u_2 9), .ref (u_2 10), .ref (u_2 11), .ref (u_2 12), .ref (u_2 13), .ref (u_2 14), .ref (u_2 15)])), ((u_2 5), .inr (9, [.ref (u_2 40), .int 0])), ((u_2 40), .inl (cI, 200, .inl (fun _ => 0))), ((u_2 6), .inr (6, [.ref (u_2 41), .ref (u_2 51), .int 0, .int 0, .int 0, .int 0])), ((u_2 41), .inl (cI, 0, .inl (fun _ => 0))), ((u_2 7), .inl (cI, 11, .inl (fun _ => 0))), ((u_2 8), .inr (8, [.ref (u_2 20), .ref (u_2 21), .ref (u_2 22), .ref (u_2 23), .ref (u_2 24), .ref (u_2 25), .ref (u_2 26), .ref (u_2 27), .ref (u_2 28), .ref (u_2 29)])), ((u_2 20), .inl (cI, 58, .inl (fun _ => 0))), ((u_2 21), .inl (cI, 24, .inl (fun _ => 0))), ((u_2 22), .inl (cI, 400, .inl (dgF 400))), ((u_2 23), .inl (cI, 400, .inl (fun _ => 0))), ((u_2 24), .inl (cI, 10, .inl (fun _ => 0))), ((u_2 25), .inl (cI, 10, .inl (fun _ => 0))), ((u_2 26), .inl (cI, 232, .inl (fun _ => 0))), ((u_2 27), .inl (cI, 3, .inl (fun _ => 0))), ((u_2 28), .inl (cI, 1200, .inl (fun _ => 0))), ((u_2 29), .inl (cI, 400, .inl (fun _ => 0))), ((u_2 9), .inr (11, [.ref (u_2 30), .ref (u_2 31), .ref (u_2 32), .ref (u_2 33), .ref (u_2 34), .ref (u_2 35), .int 0])), ((u_2 30), .inl (cI, 8, .inl (fun _ => 0))), ((u_2 31), .inl (cI, 8, .inl (fun _ => 0))), ((u_2 32), .inl (cI, 8, .inl (fun _ => 0))), ((u_2 33), .inl (cI, 8, .inl (fun _ => 0))), ((u_2 34), .inl (cI, 2048, .inl (fun _ => 0))), ((u_2 35), .inl (cI, 256, .inl (fun _ => 0))), ((u_2 10), .inr (0, [.int 0, .ref zz, .int 0])), ((u_2 11), .inr (0, [.int 0, .ref zz, .int 0])), ((u_2 12), .inr (0, [.int 0, .ref zz, .int 0])), ((u_2 13), .inr (0, [.int 0, .ref zz, .int 0])), ((u_2 14), .inr (0, [.int 0, .ref zz, .int 0])), ((u_2 15), .inr (0, [.int 0, .ref zz, .int 0])), ((u_2 50), .inr (10, [.ref (u_2 70), .ref (u_2 72), .ref (u_2 74), .ref (u_2 76), .ref (u_2 78), .int 0, .int 0, .int 0, .int 0])), ((u_2 51), .inr (10, [.ref (u_2 71), .ref (u_2 73), .ref (u_2 75), .ref (u_2 77), .ref (u_2 79), .int 0, .int 0, .int 0, .int 0])), ((u_2 70), .inl (cI, 0, .inl (fun _ => 0))), ((u_2 71), .inl (cI, 0, .inl (fun _ => 0))), ((u_2 72), .inl (cI, 12, .inl (fun _ => 0))), ((u_2 73), .inl (cI, 12, .inl (fun _ => 0))), ((u_2 74), .inl (cI, 12, .inl (fun _ => 0))), ((u_2 75), .inl (cI, 12, .inl (fun _ => 0))), ((u_2 76), .inl (cI, 12, .inl (fun _ => 0))), ((u_2 77), .inl (cI, 12, .inl (fun _ => 0))), ((u_2 78), .inl (cI, 32, .inl (fun _ => 0))), ((u_2 79), .inl (cI, 32, .inl (fun _ => 0)))]) (w1 := [((u_5 100), .inr (13, [.int 0, .int 0, .int 0, .ref (u_5 3), .ref (u_5 4), .ref (u_5 5), .ref (u_5 6), .ref (u_5 7), .ref (u_5 8), .ref (u_5 9), .ref (u_5 10), .ref (u_5 11), .ref (u_5 12), .ref (u_5 13), .ref (u_5 14), .ref (u_5 15), .ref (u_5 16), .ref (u_5 17), .int 0, .int 0, .int 0, .int 0, .int 0, .int 0, .int 0, .int 0, .int 0, .ref (u_5 27), .ref (u_5 28), .ref (u_5 29), .ref (u_5 30), .ref (u_5 31), .ref (u_5 32), .ref (u_5 33), .ref (u_5 34), .ref (u_5 35), .ref (u_5 36), .ref (u_5 37), .ref (u_5 38), .ref (u_5 39), .ref (u_5 40), .ref (u_5 41), .ref (u_5 42), .ref (u_5 43), .int 0, .int 0, .int 0, .ref (u_5 47), .ref (u_5 48), .ref (u_5 49), .ref (u_5 50), .ref (u_5 51), .ref (u_5 52), .ref (u_5 53), .int 0, .int 0, .int 0, .int 0, .int 0, .ref (u_5 59), .ref (u_5 60), .ref (u_5 61), .int 0, .int 0, .ref (u_5 64), .ref (u_5 65), .ref (u_5 66), .ref (u_5 67), .ref (u_5 68), .ref (u_5 69), .ref (u_5 70), .int 0, .int 0, .int 0, .ref (u_5 74), .int 0, .ref (u_5 76), .ref (u_5 77), .ref (u_5 78), .ref (u_5 79), .ref (u_5 80), .ref (u_5 81), .ref (u_5 82), .int 0, .ref (u_5 84), .ref (u_5 85), .ref (u_5 86), .ref (u_5 87), .ref (u_5 88), .ref (u_5 89), .ref (u_5 90)])), ((u_5 3), .inl (cI, 10, .inl (fun _ => 0))), ((u_5 4), .inl (cI, 10, .inl (fun _ => 0))), ((u_5 5), .inl (cI, 10, .inl (fun _ => 0))), ((u_5 6), .inl (cI, 10, .inl (fun _ => 0))), ((u_5 7), .inl (cI, 10, .inl (fun _ => 0))), ((u_5 8), .inl (cI, 60, .inl (fun _ => 0))), ((u_5 9), .inl (cI, 60, .inl (fun _ => 0))), ((u_5 10), .inl (cI, 60, .inl (fun _ => 0))), ((u_5 11), .inl (cI, 60, .inl (fun _ => 0))), ((u_5 12), .inl (cI, 60, .inl (fun _ => 0))), ((u_5 13), .inl (cI, 60, .inl (fun _ => 0))), ((u_5 14), .inl (cI, 60, .inl (fun _ => 0))), ((u_5 15), .inl (cI, 60, .inl (fun _ => 0))), ((u_5 16), .inl (cI, 60, .inl (fun _ => 0))), ((u_5 17), .inl (cB, 200, .inl (fun _ => 0))), ((u_5 27), .inl (cI, 180, .inl (fun _ => 0))), ((u_5 28), .inl (cI, 180, .inl (fun _ => 0))), ((u_5 29), .inl (cI, 12, .inl (fun _ => 0))), ((u_5 30), .inl (cI, 12, .inl (fun _ => 0))), ((u_5 31), .inl (cI, 12, .inl (fun _ => 0))), ((u_5 32), .inl (cI, 1980, .inl (fun _ => 0))), ((u_5 33), .inl (cI, 11, .inl (fun _ => 0))), ((u_5 34), .inl (cI, 132, .inl (fun _ => 0))), ((u_5 35), .inl (cI, 132, .inl (fun _ => 0))), ((u_5 36), .inl (cI, 132, .inl (fun _ => 0))), ((u_5 37), .inl (cI, 180, .inl (fun _ => 0))), ((u_5 38), .inl (cI, 11, .inl (fun _ => 0))), ((u_5 39), .inl (cI, 58, .inl (fun _ => 0))), ((u_5 40), .inl (cI, 10, .inl (fun _ => 0))), ((u_5 41), .inl (cI, 400, .inl (fun _ => 0))), ((u_5 42), .inl (cI, 10, .inl (fun _ => 0))), ((u_5 43), .inl (cI, 2048, .inl (fun _ => 0))), ((u_5 47), .inl (cI, 3, .inl (fun _ => 0))), ((u_5 48), .inl (cI, 3, .inl (fun _ => 0))), ((u_5 49), .inl (cI, 3, .inl (fun _ => 0))), ((u_5 50), .inl (cI, 6, .inl (fun _ => 0))), ((u_5 51), .inl (cI, 6, .inl (fun _ => 0))), ((u_5 52), .inl (cI, 10, .inl (fun _ => 0))), ((u_5 53), .inl (cZ, 1200, .inl (fun _ => 0))), ((u_5 59), .inl (cI, 60, .inl (fun _ => 0))), ((u_5 60), .inl (cI, 60, .inl (fun _ => 0))), ((u_5 61), .inl (cI, 60, .inl (fun _ => 0))), ((u_5 64), .inl (cI, 10, .inl (fun _ => 0))), ((u_5 65), .inl (cI, 10, .inl (fun _ => 0))), ((u_5 66), .inl (cI, 40, .inl (fun _ => 0))), ((u_5 67), .inl (cI, 40, .inl (fun _ => 0))), ((u_5 68), .inl (cI, 40, .inl (fun _ => 0))), ((u_5 69), .inl (cI, 40, .inl (fun _ => 0))), ((u_5 70), .inl (cI, 40, .inl (fun _ => 0))), ((u_5 74), .inl (cI, 12, .inl (fun _ => 0))), ((u_5 76), .inl (cI, 10, .inl (fun _ => 0))), ((u_5 77), .inl (cI, 232, .inl (fun _ => 0))), ((u_5 78), .inl (cI, 10, .inl (fun _ => 0))), ((u_5 79), .inl (cI, 10, .inl (fun _ => 0))), ((u_5 80), .inl (cI, 120, .inl (fun _ => 0))), ((u_5 81), .inl (cI, 40, .inl (fun _ => 0))), ((u_5 82), .inl (cI, 40, .inl (fun _ => 0))), ((u_5 84), .inl (cI, 10, .inl (fun _ => 0))), ((u_5 85), .inl (cI, 10, .inl (fun _ => 0))), ((u_5 86), .inl (cI, 24, .inl (fun _ => 0))), ((u_5 87), .inl (cI, 10, .inl (fun _ => 0))), ((u_5 88), .inl (cI, 10, .inl (fun _ => 0))), ((u_5 89), .inl (cI, 10, .inl (fun _ => 0))), ((u_5 90), .inl (cI, 400, .inl (dgF 400)))]) hP hD [42] [0, 1, 2, 3, 4, 5, 6, 7, 8, 9, 10, 11, 12, 13, 14, 15, 16, 17, 18, 19, 20, 21, 22, 23, 24, 25, 26, 27, 28, 29, 30, 31, 32, 33, 34, 35, 36, 37, 38, 39, 40, 41] rfl rfl (by decide) (by decide) hk1 hFc hP1 hD1
  generalize H1 = H at hP hS ⊢
  have hP : va_P D vwCl [((u_2 0), .inr (12, [.int 0, .int 0, .int 0, .int 0, .ref (u_2 50), .ref (u_2 5), .ref (u_2 6), .ref (u_2 7), .ref (u_2 8), .ref (u_2 9), .ref (u_2 10), .ref (u_2 11), .ref (u_2 12), .ref (u_2 13), .ref (u_2 14), .ref (u_2 15)])), ((u_2 5), .inr (9, [.ref (u_2 40), .int 0])), ((u_2 40), .inl (cI, 200, .inl (fun _ => 0))), ((u_2 6), .inr (6, [.ref (u_2 41), .ref (u_2 51), .int 0, .int 0, .int 0, .int 0])), ((u_2 41), .inl (cI, 0, .inl (fun _ => 0))), ((u_2 7), .inl (cI, 11, .inl (fun _ => 0))), ((u_2 8), .inr (8, [.ref (u_2 20), .ref (u_2 21), .ref (u_2 22), .ref (u_2 23), .ref (u_2 24), .ref (u_2 25), .ref (u_2 26), .ref (u_2 27), .ref (u_2 28), .ref (u_2 29)])), ((u_2 20), .inl (cI, 58, .inl (fun _ => 0))), ((u_2 21), .inl (cI, 24, .inl (fun _ => 0))), ((u_2 22), .inl (cI, 400, .inl (dgF 400))), ((u_2 23), .inl (cI, 400, .inl (fun _ => 0))), ((u_2 24), .inl (cI, 10, .inl (fun _ => 0))), ((u_2 25), .inl (cI, 10, .inl (fun _ => 0))), ((u_2 26), .inl (cI, 232, .inl (fun _ => 0))), ((u_2 27), .inl (cI, 3, .inl (fun _ => 0))), ((u_2 28), .inl (cI, 1200, .inl (fun _ => 0))), ((u_2 29), .inl (cI, 400, .inl (fun _ => 0))), ((u_2 9), .inr (11, [.ref (u_2 30), .ref (u_2 31), .ref (u_2 32), .ref (u_2 33), .ref (u_2 34), .ref (u_2 35), .int 0])), ((u_2 30), .inl (cI, 8, .inl (fun _ => 0))), ((u_2 31), .inl (cI, 8, .inl (fun _ => 0))), ((u_2 32), .inl (cI, 8, .inl (fun _ => 0))), ((u_2 33), .inl (cI, 8, .inl (fun _ => 0))), ((u_2 34), .inl (cI, 2048, .inl (fun _ => 0))), ((u_2 35), .inl (cI, 256, .inl (fun _ => 0))), ((u_2 10), .inr (0, [.int 0, .ref zz, .int 0])), ((u_2 11), .inr (0, [.int 0, .ref zz, .int 0])), ((u_2 12), .inr (0, [.int 0, .ref zz, .int 0])), ((u_2 13), .inr (0, [.int 0, .ref zz, .int 0])), ((u_2 14), .inr (0, [.int 0, .ref zz, .int 0])), ((u_2 15), .inr (0, [.int 0, .ref zz, .int 0])), ((u_2 50), .inr (10, [.ref (u_2 70), .ref (u_2 72), .ref (u_2 74), .ref (u_2 76), .ref (u_2 78), .int 0, .int 0, .int 0, .int 0])), ((u_2 51), .inr (10, [.ref (u_2 71), .ref (u_2 73), .ref (u_2 75), .ref (u_2 77), .ref (u_2 79), .int 0, .int 0, .int 0, .int 0])), ((u_2 70), .inl (cI, 0, .inl (fun _ => 0))), ((u_2 71), .inl (cI, 0, .inl (fun _ => 0))), ((u_2 72), .inl (cI, 12, .inl (fun _ => 0))), ((u_2 73), .inl (cI, 12, .inl (fun _ => 0))), ((u_2 74), .inl (cI, 12, .inl (fun _ => 0))), ((u_2 75), .inl (cI, 12, .inl (fun _ => 0))), ((u_2 76), .inl (cI, 12, .inl (fun _ => 0))), ((u_2 77), .inl (cI, 12, .inl (fun _ => 0))), ((u_2 78), .inl (cI, 32, .inl (fun _ => 0))), ((u_2 79), .inl (cI, 32, .inl (fun _ => 0))), ((u_5 100), .inr (13, [.int 0, .int 0, .int 0, .ref (u_5 3), .ref (u_5 4), .ref (u_5 5), .ref (u_5 6), .ref (u_5 7), .ref (u_5 8), .ref (u_5 9), .ref (u_5 10), .ref (u_5 11), .ref (u_5 12), .ref (u_5 13), .ref (u_5 14), .ref (u_5 15), .ref (u_5 16), .ref (u_5 17), .int 0, .int 0, .int 0, .int 0, .int 0, .int 0, .int 0, .int 0, .int 0, .ref (u_5 27), .ref (u_5 28), .ref (u_5 29), .ref (u_5 30), .ref (u_5 31), .ref (u_5 32), .ref (u_5 33), .ref (u_5 34), .ref (u_5 35), .ref (u_5 36), .ref (u_5 37), .ref (u_5 38), .ref (u_5 39), .ref (u_5 40), .ref (u_5 41), .ref (u_5 42), .ref (u_5 43), .int 0, .int 0, .int 0, .ref (u_5 47), .ref (u_5 48), .ref (u_5 49), .ref (u_5 50), .ref (u_5 51), .ref (u_5 52), .ref (u_5 53), .int 0, .int 0, .int 0, .int 0, .int 0, .ref (u_5 59), .ref (u_5 60), .ref (u_5 61), .int 0, .int 0, .ref (u_5 64), .ref (u_5 65), .ref (u_5 66), .ref (u_5 67), .ref (u_5 68), .ref (u_5 69), .ref (u_5 70), .int 0, .int 0, .int 0, .ref (u_5 74), .int 0, .ref (u_5 76), .ref (u_5 77), .ref (u_5 78), .ref (u_5 79), .ref (u_5 80), .ref (u_5 81), .ref (u_5 82), .int 0, .ref (u_5 84), .ref (u_5 85), .ref (u_5 86), .ref (u_5 87), .ref (u_5 88), .ref (u_5 89), .ref (u_5 90)])), ((u_5 3), .inl (cI, 10, .inl (fun _ => 0))), ((u_5 4), .inl (cI, 10, .inl (fun _ => 0))), ((u_5 5), .inl (cI, 10, .inl (fun _ => 0))), ((u_5 6), .inl (cI, 10, .inl (fun _ => 0))), ((u_5 7), .inl (cI, 10, .inl (fun _ => 0))), ((u_5 8), .inl (cI, 60, .inl (fun _ => 0))), ((u_5 9), .inl (cI, 60, .inl (fun _ => 0))), ((u_5 10), .inl (cI, 60, .inl (fun _ => 0))), ((u_5 11), .inl (cI, 60, .inl (fun _ => 0))), ((u_5 12), .inl (cI, 60, .inl (fun _ => 0))), ((u_5 13), .inl (cI, 60, .inl (fun _ => 0))), ((u_5 14), .inl (cI, 60, .inl (fun _ => 0))), ((u_5 15), .inl (cI, 60, .inl (fun _ => 0))), ((u_5 16), .inl (cI, 60, .inl (fun _ => 0))), ((u_5 17), .inl (cB, 200, .inl (fun _ => 0))), ((u_5 27), .inl (cI, 180, .inl (fun _ => 0))), ((u_5 28), .inl (cI, 180, .inl (fun _ => 0))), ((u_5 29), .inl (cI, 12, .inl (fun _ => 0))), ((u_5 30), .inl (cI, 12, .inl (fun _ => 0))), ((u_5 31), .inl (cI, 12, .inl (fun _ => 0))), ((u_5 32), .inl (cI, 1980, .inl (fun _ => 0))), ((u_5 33), .inl (cI, 11, .inl (fun _ => 0))), ((u_5 34), .inl (cI, 132, .inl (fun _ => 0))), ((u_5 35), .inl (cI, 132, .inl (fun _ => 0))), ((u_5 36), .inl (cI, 132, .inl (fun _ => 0))), ((u_5 37), .inl (cI, 180, .inl (fun _ => 0))), ((u_5 38), .inl (cI, 11, .inl (fun _ => 0))), ((u_5 39), .inl (cI, 58, .inl (fun _ => 0))), ((u_5 40), .inl (cI, 10, .inl (fun _ => 0))), ((u_5 41), .inl (cI, 400, .inl (fun _ => 0))), ((u_5 42), .inl (cI, 10, .inl (fun _ => 0))), ((u_5 43), .inl (cI, 2048, .inl (fun _ => 0))), ((u_5 47), .inl (cI, 3, .inl (fun _ => 0))), ((u_5 48), .inl (cI, 3, .inl (fun _ => 0))), ((u_5 49), .inl (cI, 3, .inl (fun _ => 0))), ((u_5 50), .inl (cI, 6, .inl (fun _ => 0))), ((u_5 51), .inl (cI, 6, .inl (fun _ => 0))), ((u_5 52), .inl (cI, 10, .inl (fun _ => 0))), ((u_5 53), .inl (cZ, 1200, .inl (fun _ => 0))), ((u_5 59), .inl (cI, 60, .inl (fun _ => 0))), ((u_5 60), .inl (cI, 60, .inl (fun _ => 0))), ((u_5 61), .inl (cI, 60, .inl (fun _ => 0))), ((u_5 64), .inl (cI, 10, .inl (fun _ => 0))), ((u_5 65), .inl (cI, 10, .inl (fun _ => 0))), ((u_5 66), .inl (cI, 40, .inl (fun _ => 0))), ((u_5 67), .inl (cI, 40, .inl (fun _ => 0))), ((u_5 68), .inl (cI, 40, .inl (fun _ => 0))), ((u_5 69), .inl (cI, 40, .inl (fun _ => 0))), ((u_5 70), .inl (cI, 40, .inl (fun _ => 0))), ((u_5 74), .inl (cI, 12, .inl (fun _ => 0))), ((u_5 76), .inl (cI, 10, .inl (fun _ => 0))), ((u_5 77), .inl (cI, 232, .inl (fun _ => 0))), ((u_5 78), .inl (cI, 10, .inl (fun _ => 0))), ((u_5 79), .inl (cI, 10, .inl (fun _ => 0))), ((u_5 80), .inl (cI, 120, .inl (fun _ => 0))), ((u_5 81), .inl (cI, 40, .inl (fun _ => 0))), ((u_5 82), .inl (cI, 40, .inl (fun _ => 0))), ((u_5 84), .inl (cI, 10, .inl (fun _ => 0))), ((u_5 85), .inl (cI, 10, .inl (fun _ => 0))), ((u_5 86), .inl (cI, 24, .inl (fun _ => 0))), ((u_5 87), .inl (cI, 10, .inl (fun _ => 0))), ((u_5 88), .inl (cI, 10, .inl (fun _ => 0))), ((u_5 89), .inl (cI, 10, .inl (fun _ => 0))), ((u_5 90), .inl (cI, 400, .inl (dgF 400)))] H := hP
  have hD : va_D A [((u_2 0), .inr (12, [.int 0, .int 0, .int 0, .int 0, .ref (u_2 50), .ref (u_2 5), .ref (u_2 6), .ref (u_2 7), .ref (u_2 8), .ref (u_2 9), .ref (u_2 10), .ref (u_2 11), .ref (u_2 12), .ref (u_2 13), .ref (u_2 14), .ref (u_2 15)])), ((u_2 5), .inr (9, [.ref (u_2 40), .int 0])), ((u_2 40), .inl (cI, 200, .inl (fun _ => 0))), ((u_2 6), .inr (6, [.ref (u_2 41), .ref (u_2 51), .int 0, .int 0, .int 0, .int 0])), ((u_2 41), .inl (cI, 0, .inl (fun _ => 0))), ((u_2 7), .inl (cI, 11, .inl (fun _ => 0))), ((u_2 8), .inr (8, [.ref (u_2 20), .ref (u_2 21), .ref (u_2 22), .ref (u_2 23), .ref (u_2 24), .ref (u_2 25), .ref (u_2 26), .ref (u_2 27), .ref (u_2 28), .ref (u_2 29)])), ((u_2 20), .inl (cI, 58, .inl (fun _ => 0))), ((u_2 21), .inl (cI, 24, .inl (fun _ => 0))), ((u_2 22), .inl (cI, 400, .inl (dgF 400))), ((u_2 23), .inl (cI, 400, .inl (fun _ => 0))), ((u_2 24), .inl (cI, 10, .inl (fun _ => 0))), ((u_2 25), .inl (cI, 10, .inl (fun _ => 0))), ((u_2 26), .inl (cI, 232, .inl (fun _ => 0))), ((u_2 27), .inl (cI, 3, .inl (fun _ => 0))), ((u_2 28), .inl (cI, 1200, .inl (fun _ => 0))), ((u_2 29), .inl (cI, 400, .inl (fun _ => 0))), ((u_2 9), .inr (11, [.ref (u_2 30), .ref (u_2 31), .ref (u_2 32), .ref (u_2 33), .ref (u_2 34), .ref (u_2 35), .int 0])), ((u_2 30), .inl (cI, 8, .inl (fun _ => 0))), ((u_2 31), .inl (cI, 8, .inl (fun _ => 0))), ((u_2 32), .inl (cI, 8, .inl (fun _ => 0))), ((u_2 33), .inl (cI, 8, .inl (fun _ => 0))), ((u_2 34), .inl (cI, 2048, .inl (fun _ => 0))), ((u_2 35), .inl (cI, 256, .inl (fun _ => 0))), ((u_2 10), .inr (0, [.int 0, .ref zz, .int 0])), ((u_2 11), .inr (0, [.int 0, .ref zz, .int 0])), ((u_2 12), .inr (0, [.int 0, .ref zz, .int 0])), ((u_2 13), .inr (0, [.int 0, .ref zz, .int 0])), ((u_2 14), .inr (0, [.int 0, .ref zz, .int 0])), ((u_2 15), .inr (0, [.int 0, .ref zz, .int 0])), ((u_2 50), .inr (10, [.ref (u_2 70), .ref (u_2 72), .ref (u_2 74), .ref (u_2 76), .ref (u_2 78), .int 0, .int 0, .int 0, .int 0])), ((u_2 51), .inr (10, [.ref (u_2 71), .ref (u_2 73), .ref (u_2 75), .ref (u_2 77), .ref (u_2 79), .int 0, .int 0, .int 0, .int 0])), ((u_2 70), .inl (cI, 0, .inl (fun _ => 0))), ((u_2 71), .inl (cI, 0, .inl (fun _ => 0))), ((u_2 72), .inl (cI, 12, .inl (fun _ => 0))), ((u_2 73), .inl (cI, 12, .inl (fun _ => 0))), ((u_2 74), .inl (cI, 12, .inl (fun _ => 0))), ((u_2 75), .inl (cI, 12, .inl (fun _ => 0))), ((u_2 76), .inl (cI, 12, .inl (fun _ => 0))), ((u_2 77), .inl (cI, 12, .inl (fun _ => 0))), ((u_2 78), .inl (cI, 32, .inl (fun _ => 0))), ((u_2 79), .inl (cI, 32, .inl (fun _ => 0))), ((u_5 100), .inr (13, [.int 0, .int 0, .int 0, .ref (u_5 3), .ref (u_5 4), .ref (u_5 5), .ref (u_5 6), .ref (u_5 7), .ref (u_5 8), .ref (u_5 9), .ref (u_5 10), .ref (u_5 11), .ref (u_5 12), .ref (u_5 13), .ref (u_5 14), .ref (u_5 15), .ref (u_5 16), .ref (u_5 17), .int 0, .int 0, .int 0, .int 0, .int 0, .int 0, .int 0, .int 0, .int 0, .ref (u_5 27), .ref (u_5 28), .ref (u_5 29), .ref (u_5 30), .ref (u_5 31), .ref (u_5 32), .ref (u_5 33), .ref (u_5 34), .ref (u_5 35), .ref (u_5 36), .ref (u_5 37), .ref (u_5 38), .ref (u_5 39), .ref (u_5 40), .ref (u_5 41), .ref (u_5 42), .ref (u_5 43), .int 0, .int 0, .int 0, .ref (u_5 47), .ref (u_5 48), .ref (u_5 49), .ref (u_5 50), .ref (u_5 51), .ref (u_5 52), .ref (u_5 53), .int 0, .int 0, .int 0, .int 0, .int 0, .ref (u_5 59), .ref (u_5 60), .ref (u_5 61), .int 0, .int 0, .ref (u_5 64), .ref (u_5 65), .ref (u_5 66), .ref (u_5 67), .ref (u_5 68), .ref (u_5 69), .ref (u_5 70), .int 0, .int 0, .int 0, .ref (u_5 74), .int 0, .ref (u_5 76), .ref (u_5 77), .ref (u_5 78), .ref (u_5 79), .ref (u_5 80), .ref (u_5 81), .ref (u_5 82), .int 0, .ref (u_5 84), .ref (u_5 85), .ref (u_5 86), .ref (u_5 87), .ref (u_5 88), .ref (u_5 89), .ref (u_5 90)])), ((u_5 3), .inl (cI, 10, .inl (fun _ => 0))), ((u_5 4), .inl (cI, 10, .inl (fun _ => 0))), ((u_5 5), .inl (cI, 10, .inl (fun _ => 0))), ((u_5 6), .inl (cI, 10, .inl (fun _ => 0))), ((u_5 7), .inl (cI, 10, .inl (fun _ => 0))), ((u_5 8), .inl (cI, 60, .inl (fun _ => 0))), ((u_5 9), .inl (cI, 60, .inl (fun _ => 0))), ((u_5 10), .inl (cI, 60, .inl (fun _ => 0))), ((u_5 11), .inl (cI, 60, .inl (fun _ => 0))), ((u_5 12), .inl (cI, 60, .inl (fun _ => 0))), ((u_5 13), .inl (cI, 60, .inl (fun _ => 0))), ((u_5 14), .inl (cI, 60, .inl (fun _ => 0))), ((u_5 15), .inl (cI, 60, .inl (fun _ => 0))), ((u_5 16), .inl (cI, 60, .inl (fun _ => 0))), ((u_5 17), .inl (cB, 200, .inl (fun _ => 0))), ((u_5 27), .inl (cI, 180, .inl (fun _ => 0))), ((u_5 28), .inl (cI, 180, .inl (fun _ => 0))), ((u_5 29), .inl (cI, 12, .inl (fun _ => 0))), ((u_5 30), .inl (cI, 12, .inl (fun _ => 0))), ((u_5 31), .inl (cI, 12, .inl (fun _ => 0))), ((u_5 32), .inl (cI, 1980, .inl (fun _ => 0))), ((u_5 33), .inl (cI, 11, .inl (fun _ => 0))), ((u_5 34), .inl (cI, 132, .inl (fun _ => 0))), ((u_5 35), .inl (cI, 132, .inl (fun _ => 0))), ((u_5 36), .inl (cI, 132, .inl (fun _ => 0))), ((u_5 37), .inl (cI, 180, .inl (fun _ => 0))), ((u_5 38), .inl (cI, 11, .inl (fun _ => 0))), ((u_5 39), .inl (cI, 58, .inl (fun _ => 0))), ((u_5 40), .inl (cI, 10, .inl (fun _ => 0))), ((u_5 41), .inl (cI, 400, .inl (fun _ => 0))), ((u_5 42), .inl (cI, 10, .inl (fun _ => 0))), ((u_5 43), .inl (cI, 2048, .inl (fun _ => 0))), ((u_5 47), .inl (cI, 3, .inl (fun _ => 0))), ((u_5 48), .inl (cI, 3, .inl (fun _ => 0))), ((u_5 49), .inl (cI, 3, .inl (fun _ => 0))), ((u_5 50), .inl (cI, 6, .inl (fun _ => 0))), ((u_5 51), .inl (cI, 6, .inl (fun _ => 0))), ((u_5 52), .inl (cI, 10, .inl (fun _ => 0))), ((u_5 53), .inl (cZ, 1200, .inl (fun _ => 0))), ((u_5 59), .inl (cI, 60, .inl (fun _ => 0))), ((u_5 60), .inl (cI, 60, .inl (fun _ => 0))), ((u_5 61), .inl (cI, 60, .inl (fun _ => 0))), ((u_5 64), .inl (cI, 10, .inl (fun _ => 0))), ((u_5 65), .inl (cI, 10, .inl (fun _ => 0))), ((u_5 66), .inl (cI, 40, .inl (fun _ => 0))), ((u_5 67), .inl (cI, 40, .inl (fun _ => 0))), ((u_5 68), .inl (cI, 40, .inl (fun _ => 0))), ((u_5 69), .inl (cI, 40, .inl (fun _ => 0))), ((u_5 70), .inl (cI, 40, .inl (fun _ => 0))), ((u_5 74), .inl (cI, 12, .inl (fun _ => 0))), ((u_5 76), .inl (cI, 10, .inl (fun _ => 0))), ((u_5 77), .inl (cI, 232, .inl (fun _ => 0))), ((u_5 78), .inl (cI, 10, .inl (fun _ => 0))), ((u_5 79), .inl (cI, 10, .inl (fun _ => 0))), ((u_5 80), .inl (cI, 120, .inl (fun _ => 0))), ((u_5 81), .inl (cI, 40, .inl (fun _ => 0))), ((u_5 82), .inl (cI, 40, .inl (fun _ => 0))), ((u_5 84), .inl (cI, 10, .inl (fun _ => 0))), ((u_5 85), .inl (cI, 10, .inl (fun _ => 0))), ((u_5 86), .inl (cI, 24, .inl (fun _ => 0))), ((u_5 87), .inl (cI, 10, .inl (fun _ => 0))), ((u_5 88), .inl (cI, 10, .inl (fun _ => 0))), ((u_5 89), .inl (cI, 10, .inl (fun _ => 0))), ((u_5 90), .inl (cI, 400, .inl (dgF 400)))] := hD
  have h100 : u_5 100 = q8 := h_6
  rw [← h100]
  refine lv_astore_n (lv' := [(2, .ref (u_5 100)), (1, .ref (u_2 0)), (0, .ref b)]) hx hb dL_law_15 rfl hl (ltb rfl) rfl (fun ls hl => ?_)
  refine lv_iconst (v := 0) hx hb dL_law_16 kic_0 ?_
  refine lv_istore_n (lv' := [(3, .int 0), (2, .ref (u_5 100)), (1, .ref (u_2 0)), (0, .ref b)]) hx hb dL_law_17 rfl hl (ltb rfl) rfl (fun ls hl => ?_)
  have e9 : [((u_2 0), .inr (12, [.int 0, .int 0, .int 0, .int 0, .ref (u_2 50), .ref (u_2 5), .ref (u_2 6), .ref (u_2 7), .ref (u_2 8), .ref (u_2 9), .ref (u_2 10), .ref (u_2 11), .ref (u_2 12), .ref (u_2 13), .ref (u_2 14), .ref (u_2 15)])), ((u_2 5), .inr (9, [.ref (u_2 40), .int 0])), ((u_2 40), .inl (cI, 200, .inl (fun _ => 0))), ((u_2 6), .inr (6, [.ref (u_2 41), .ref (u_2 51), .int 0, .int 0, .int 0, .int 0])), ((u_2 41), .inl (cI, 0, .inl (fun _ => 0))), ((u_2 7), .inl (cI, 11, .inl (fun _ => 0))), ((u_2 8), .inr (8, [.ref (u_2 20), .ref (u_2 21), .ref (u_2 22), .ref (u_2 23), .ref (u_2 24), .ref (u_2 25), .ref (u_2 26), .ref (u_2 27), .ref (u_2 28), .ref (u_2 29)])), ((u_2 20), .inl (cI, 58, .inl (fun _ => 0))), ((u_2 21), .inl (cI, 24, .inl (fun _ => 0))), ((u_2 22), .inl (cI, 400, .inl (dgF 400))), ((u_2 23), .inl (cI, 400, .inl (fun _ => 0))), ((u_2 24), .inl (cI, 10, .inl (fun _ => 0))), ((u_2 25), .inl (cI, 10, .inl (fun _ => 0))), ((u_2 26), .inl (cI, 232, .inl (fun _ => 0))), ((u_2 27), .inl (cI, 3, .inl (fun _ => 0))), ((u_2 28), .inl (cI, 1200, .inl (fun _ => 0))), ((u_2 29), .inl (cI, 400, .inl (fun _ => 0))), ((u_2 9), .inr (11, [.ref (u_2 30), .ref (u_2 31), .ref (u_2 32), .ref (u_2 33), .ref (u_2 34), .ref (u_2 35), .int 0])), ((u_2 30), .inl (cI, 8, .inl (fun _ => 0))), ((u_2 31), .inl (cI, 8, .inl (fun _ => 0))), ((u_2 32), .inl (cI, 8, .inl (fun _ => 0))), ((u_2 33), .inl (cI, 8, .inl (fun _ => 0))), ((u_2 34), .inl (cI, 2048, .inl (fun _ => 0))), ((u_2 35), .inl (cI, 256, .inl (fun _ => 0))), ((u_2 10), .inr (0, [.int 0, .ref zz, .int 0])), ((u_2 11), .inr (0, [.int 0, .ref zz, .int 0])), ((u_2 12), .inr (0, [.int 0, .ref zz, .int 0])), ((u_2 13), .inr (0, [.int 0, .ref zz, .int 0])), ((u_2 14), .inr (0, [.int 0, .ref zz, .int 0])), ((u_2 15), .inr (0, [.int 0, .ref zz, .int 0])), ((u_2 50), .inr (10, [.ref (u_2 70), .ref (u_2 72), .ref (u_2 74), .ref (u_2 76), .ref (u_2 78), .int 0, .int 0, .int 0, .int 0])), ((u_2 51), .inr (10, [.ref (u_2 71), .ref (u_2 73), .ref (u_2 75), .ref (u_2 77), .ref (u_2 79), .int 0, .int 0, .int 0, .int 0])), ((u_2 70), .inl (cI, 0, .inl (fun _ => 0))), ((u_2 71), .inl (cI, 0, .inl (fun _ => 0))), ((u_2 72), .inl (cI, 12, .inl (fun _ => 0))), ((u_2 73), .inl (cI, 12, .inl (fun _ => 0))), ((u_2 74), .inl (cI, 12, .inl (fun _ => 0))), ((u_2 75), .inl (cI, 12, .inl (fun _ => 0))), ((u_2 76), .inl (cI, 12, .inl (fun _ => 0))), ((u_2 77), .inl (cI, 12, .inl (fun _ => 0))), ((u_2 78), .inl (cI, 32, .inl (fun _ => 0))), ((u_2 79), .inl (cI, 32, .inl (fun _ => 0))), ((u_5 100), .inr (13, [.int 0, .int 0, .int 0, .ref (u_5 3), .ref (u_5 4), .ref (u_5 5), .ref (u_5 6), .ref (u_5 7), .ref (u_5 8), .ref (u_5 9), .ref (u_5 10), .ref (u_5 11), .ref (u_5 12), .ref (u_5 13), .ref (u_5 14), .ref (u_5 15), .ref (u_5 16), .ref (u_5 17), .int 0, .int 0, .int 0, .int 0, .int 0, .int 0, .int 0, .int 0, .int 0, .ref (u_5 27), .ref (u_5 28), .ref (u_5 29), .ref (u_5 30), .ref (u_5 31), .ref (u_5 32), .ref (u_5 33), .ref (u_5 34), .ref (u_5 35), .ref (u_5 36), .ref (u_5 37), .ref (u_5 38), .ref (u_5 39), .ref (u_5 40), .ref (u_5 41), .ref (u_5 42), .ref (u_5 43), .int 0, .int 0, .int 0, .ref (u_5 47), .ref (u_5 48), .ref (u_5 49), .ref (u_5 50), .ref (u_5 51), .ref (u_5 52), .ref (u_5 53), .int 0, .int 0, .int 0, .int 0, .int 0, .ref (u_5 59), .ref (u_5 60), .ref (u_5 61), .int 0, .int 0, .ref (u_5 64), .ref (u_5 65), .ref (u_5 66), .ref (u_5 67), .ref (u_5 68), .ref (u_5 69), .ref (u_5 70), .int 0, .int 0, .int 0, .ref (u_5 74), .int 0, .ref (u_5 76), .ref (u_5 77), .ref (u_5 78), .ref (u_5 79), .ref (u_5 80), .ref (u_5 81), .ref (u_5 82), .int 0, .ref (u_5 84), .ref (u_5 85), .ref (u_5 86), .ref (u_5 87), .ref (u_5 88), .ref (u_5 89), .ref (u_5 90)])), ((u_5 3), .inl (cI, 10, .inl (fun _ => 0))), ((u_5 4), .inl (cI, 10, .inl (fun _ => 0))), ((u_5 5), .inl (cI, 10, .inl (fun _ => 0))), ((u_5 6), .inl (cI, 10, .inl (fun _ => 0))), ((u_5 7), .inl (cI, 10, .inl (fun _ => 0))), ((u_5 8), .inl (cI, 60, .inl (fun _ => 0))), ((u_5 9), .inl (cI, 60, .inl (fun _ => 0))), ((u_5 10), .inl (cI, 60, .inl (fun _ => 0))), ((u_5 11), .inl (cI, 60, .inl (fun _ => 0))), ((u_5 12), .inl (cI, 60, .inl (fun _ => 0))), ((u_5 13), .inl (cI, 60, .inl (fun _ => 0))), ((u_5 14), .inl (cI, 60, .inl (fun _ => 0))), ((u_5 15), .inl (cI, 60, .inl (fun _ => 0))), ((u_5 16), .inl (cI, 60, .inl (fun _ => 0))), ((u_5 17), .inl (cB, 200, .inl (fun _ => 0))), ((u_5 27), .inl (cI, 180, .inl (fun _ => 0))), ((u_5 28), .inl (cI, 180, .inl (fun _ => 0))), ((u_5 29), .inl (cI, 12, .inl (fun _ => 0))), ((u_5 30), .inl (cI, 12, .inl (fun _ => 0))), ((u_5 31), .inl (cI, 12, .inl (fun _ => 0))), ((u_5 32), .inl (cI, 1980, .inl (fun _ => 0))), ((u_5 33), .inl (cI, 11, .inl (fun _ => 0))), ((u_5 34), .inl (cI, 132, .inl (fun _ => 0))), ((u_5 35), .inl (cI, 132, .inl (fun _ => 0))), ((u_5 36), .inl (cI, 132, .inl (fun _ => 0))), ((u_5 37), .inl (cI, 180, .inl (fun _ => 0))), ((u_5 38), .inl (cI, 11, .inl (fun _ => 0))), ((u_5 39), .inl (cI, 58, .inl (fun _ => 0))), ((u_5 40), .inl (cI, 10, .inl (fun _ => 0))), ((u_5 41), .inl (cI, 400, .inl (fun _ => 0))), ((u_5 42), .inl (cI, 10, .inl (fun _ => 0))), ((u_5 43), .inl (cI, 2048, .inl (fun _ => 0))), ((u_5 47), .inl (cI, 3, .inl (fun _ => 0))), ((u_5 48), .inl (cI, 3, .inl (fun _ => 0))), ((u_5 49), .inl (cI, 3, .inl (fun _ => 0))), ((u_5 50), .inl (cI, 6, .inl (fun _ => 0))), ((u_5 51), .inl (cI, 6, .inl (fun _ => 0))), ((u_5 52), .inl (cI, 10, .inl (fun _ => 0))), ((u_5 53), .inl (cZ, 1200, .inl (fun _ => 0))), ((u_5 59), .inl (cI, 60, .inl (fun _ => 0))), ((u_5 60), .inl (cI, 60, .inl (fun _ => 0))), ((u_5 61), .inl (cI, 60, .inl (fun _ => 0))), ((u_5 64), .inl (cI, 10, .inl (fun _ => 0))), ((u_5 65), .inl (cI, 10, .inl (fun _ => 0))), ((u_5 66), .inl (cI, 40, .inl (fun _ => 0))), ((u_5 67), .inl (cI, 40, .inl (fun _ => 0))), ((u_5 68), .inl (cI, 40, .inl (fun _ => 0))), ((u_5 69), .inl (cI, 40, .inl (fun _ => 0))), ((u_5 70), .inl (cI, 40, .inl (fun _ => 0))), ((u_5 74), .inl (cI, 12, .inl (fun _ => 0))), ((u_5 76), .inl (cI, 10, .inl (fun _ => 0))), ((u_5 77), .inl (cI, 232, .inl (fun _ => 0))), ((u_5 78), .inl (cI, 10, .inl (fun _ => 0))), ((u_5 79), .inl (cI, 10, .inl (fun _ => 0))), ((u_5 80), .inl (cI, 120, .inl (fun _ => 0))), ((u_5 81), .inl (cI, 40, .inl (fun _ => 0))), ((u_5 82), .inl (cI, 40, .inl (fun _ => 0))), ((u_5 84), .inl (cI, 10, .inl (fun _ => 0))), ((u_5 85), .inl (cI, 10, .inl (fun _ => 0))), ((u_5 86), .inl (cI, 24, .inl (fun _ => 0))), ((u_5 87), .inl (cI, 10, .inl (fun _ => 0))), ((u_5 88), .inl (cI, 10, .inl (fun _ => 0))), ((u_5 89), .inl (cI, 10, .inl (fun _ => 0))), ((u_5 90), .inl (cI, 400, .inl (dgF 400)))] = (wX cI (D.1 99) zz u_2 (adS u_2) cnS (fun _ => 0) FnS ++ wM cI cB cZ u_5 (fun _ => 0) (fun _ => 0) FnMS) := by rw [← wX_start rfl u_2, ← wM_start u_5]; rfl
  rw [e9] at hP hD
  refine W.widen (k := 107) (n := 14457) (Nat.le_of_ble_eq_true rfl) (Nat.le_of_ble_eq_true rfl) ?_
  exact kk u_2 u_5 H locs hP hD hS ls (lv_sub hl [3, 2, 1, 0] rfl)
end
