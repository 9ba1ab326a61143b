set_option maxRecDepth 100000 in
theorem kV_RJ0_335 : CalV RJ0 335 yJ0_coder_7d493 cJ0_coder_7d493 1 (some .byte) 0 := ⟨⟨wT_tab 122 rfl rfl, wT_tab 123 rfl rfl, wT_tab 124 rfl rfl, wT_tab 6 rfl rfl, wT_tab 125 rfl rfl⟩, ⟨by decide, by decide, by decide +kernel⟩⟩
set_option maxRecDepth 100000 in
theorem kS_RJ1_88 : CalS RJ1 88 yJ1_canEncode_9a6ad cJ1_canEncode_9a6ad 1 (some .boolean) 1 := ⟨⟨wT_tab 585 rfl rfl, wT_tab 586 rfl rfl, wT_tab 20 rfl rfl, wT_tab 587 rfl rfl⟩, ⟨by decide, by decide, by decide +kernel⟩⟩
set_option maxRecDepth 100000 in
theorem kS_RJ1_95 : CalS RJ1 95 yJ1_indexOfChar_4cfef cJ1_indexOfChar_4cfef 6 (some .int) 4 := ⟨⟨wT_tab 590 rfl rfl, wT_tab 591 rfl rfl, wT_tab 20 rfl rfl, wT_tab 592 rfl rfl⟩, ⟨by decide, by decide, by decide +kernel⟩⟩
set_option maxRecDepth 100000 in
theorem kV_RJ0_492 : CalV RJ0 492 yJ0_isLatin1_aae02 cJ0_isLatin1_aae02 1 (some .boolean) 0 := ⟨⟨wT_tab 577 rfl rfl, wT_tab 578 rfl rfl, wT_tab 579 rfl rfl, wT_tab 6 rfl rfl, wT_tab 580 rfl rfl⟩, ⟨by decide, by decide, by decide +kernel⟩⟩
set_option maxRecDepth 100000 in
theorem kV_RJ0_505 : CalV RJ0 505 yJ0_length_8abf5 cJ0_length_8abf5 1 (some .int) 0 := ⟨⟨wT_tab 581 rfl rfl, wT_tab 119 rfl rfl, wT_tab 120 rfl rfl, wT_tab 6 rfl rfl, wT_tab 121 rfl rfl⟩, ⟨by decide, by decide, by decide +kernel⟩⟩
set_option maxRecDepth 100000 in
theorem kS_RJ0_637 : CalS RJ0 637 yJ1_indexOf_4cfef cJ1_indexOf_4cfef 4 (some .int) 4 := ⟨⟨wT_tab 582 rfl rfl, wT_tab 583 rfl rfl, wT_tab 20 rfl rfl, wT_tab 584 rfl rfl⟩, ⟨by decide, by decide, by decide +kernel⟩⟩
set_option maxRecDepth 100000 in
theorem kV_RJ0_633 : CalV RJ0 633 yJ0_indexOf_7cf53 cJ0_indexOf_7cf53 3 (some .int) 2 := ⟨⟨wT_tab 573 rfl rfl, wT_tab 574 rfl rfl, wT_tab 575 rfl rfl, wT_tab 6 rfl rfl, wT_tab 576 rfl rfl⟩, ⟨by decide, by decide, by decide +kernel⟩⟩
set_option maxRecDepth 100000 in
theorem gf_RX11_40 {p : Program} {l : Launch} {e : Env} {R : Room} {s : State} {m : MethodId} {args : Array Value} {below : List Frame} {meth : Method} {c : Code} {H : Heap} {locs : List Loc} {cells slots : Nat} {Q : State → Prop} {cc : ByteArray} {nL pc : Nat} {D : va_G} {cI cB cZ : ClassId} {ws : va_W} {rest : List Value} {ls : Array Slot} {a : Nat} {fs : List Value} {v : Value} (S : SF p m c cc nL s args RX11) (hK : KK D cI cB cZ s) (hP : va_P D vwCl ws H) (q0 : Nat) (he : ws[q0]? = some (a, .inr (12, fs))) (hv : fs[7]? = some v) (hdg : decode cc pc = .ok (.getfield 40, 3)) (kk : W p l e R s m args below meth c H locs cells slots Q (F0 m (pc + 3) ls (v :: rest))) : W p l e R s m args below meth c H locs cells slots Q (F0 m pc ls (.ref a :: rest)) :=
  va_get (C := RX11) (T := TX11) (N := 16) S.1 S.2.1 S.2.2.2.2 hin_RX11 S.2.2.2.1 hK.1 hP q0 he rfl 7 (by decide) (S.2.2.2.2 _ (wT_tab 243 rfl rfl)) (fun _ h9 => h9) hv hdg kk
set_option maxRecDepth 100000 in
theorem kV_RX11_181 : CalV RX11 181 yJ0_indexOf_0f7a4 cJ0_indexOf_0f7a4 2 (some .int) 1 := ⟨⟨wT_tab 726 rfl rfl, wT_tab 570 rfl rfl, wT_tab 571 rfl rfl, wT_tab 6 rfl rfl, wT_tab 572 rfl rfl⟩, ⟨by decide, by decide, by decide +kernel⟩⟩
set_option maxRecDepth 100000 in
theorem kV_RX11_188 : CalV RX11 188 yX11_letter cX11_letter 3 none 2 := ⟨⟨wT_tab 722 rfl rfl, wT_tab 724 rfl rfl, wT_sel 22 _ rfl rfl rfl, wT_tab 1 rfl rfl, wT_tab 725 rfl rfl⟩, ⟨by decide, by decide, by decide +kernel⟩⟩
set_option maxRecDepth 100000 in
theorem kV_RX11_199 : CalV RX11 199 yX11_lettersOfDay cX11_lettersOfDay 2 none 1 := ⟨⟨wT_tab 718 rfl rfl, wT_tab 720 rfl rfl, wT_sel 21 _ rfl rfl rfl, wT_tab 1 rfl rfl, wT_tab 721 rfl rfl⟩, ⟨by decide, by decide, by decide +kernel⟩⟩
set_option maxRecDepth 100000 in
theorem hin_RX0 : ∀ w ∈ u_ws RX0 TX0 8, w ∈ wT := by decide +kernel
set_option maxRecDepth 100000 in
theorem pf_RX0_9 {p : Program} {l : Launch} {e : Env} {R : Room} {s : State} {m : MethodId} {args : Array Value} {below : List Frame} {meth : Method} {c : Code} {H : Heap} {locs : List Loc} {cells slots : Nat} {Q : State → Prop} {cc : ByteArray} {nL pc : Nat} {D : va_G} {cI cB cZ : ClassId} {ws : va_W} {rest : List Value} {ls : Array Slot} {a : Nat} {fs : List Value} {v : Value} {A : Nat → Prop} {H0 : Heap} (S : SF p m c cc nL s args RX0) (hin : meth.name = "<init>") (hK : KK D cI cB cZ s) (hP : va_P D vwCl ws H) (hD : va_D A ws) (hS : va_S A H0 H locs) (q0 : Nat) (he : ws[q0]? = some (a, .inr (1, fs))) (hl : 0 < fs.length) (hn : narrow (tyX0 0) v = v) (hfit : fits (tyX0 0) v = true) (hdg : decode cc pc = .ok (.putfield 9, 3)) (kk : ∀ (H1 : Heap) (locs1 : List Loc), va_P D vwCl (ws.set q0 (a, .inr (1, fs.set 0 v))) H1 → va_D A (ws.set q0 (a, .inr (1, fs.set 0 v))) → va_S A H0 H1 locs1 → W p l e R s m args below meth c H1 locs1 cells slots Q (F0 m (pc + 3) ls rest)) : W p l e R s m args below meth c H locs cells slots Q (F0 m pc ls (v :: .ref a :: rest)) :=
  va_putF (C := RX0) (T := TX0) (N := 8) S.1 S.2.1 S.2.2.2.2 hin_RX0 tyX0 tyX0_ok nmX0 S.2.2.2.1 hK.1 hP hD hS q0 he rfl 0 (by decide) (S.2.2.2.2 _ (wT_tab 937 rfl rfl)) (fun _ h9 => h9) rfl hin rfl (tyX0_ok 0 (by decide)) hn hfit hl hdg kk
set_option maxRecDepth 100000 in
theorem kV_RX11_354 : CalV RX11 354 yX11_canBeBatched cX11_canBeBatched 2 (some .boolean) 1 := ⟨⟨wT_tab 966 rfl rfl, wT_tab 968 rfl rfl, wT_sel 44 _ rfl rfl rfl, wT_tab 1 rfl rfl, wT_tab 969 rfl rfl⟩, ⟨by decide, by decide, by decide +kernel⟩⟩
set_option maxRecDepth 100000 in
theorem kV_RX11_363 : CalV RX11 363 yX11_mixed cX11_mixed 5 (some (.object "OilHome$Batch")) 1 := ⟨⟨wT_tab 927 rfl rfl, wT_tab 929 rfl rfl, wT_sel 43 _ rfl rfl rfl, wT_tab 1 rfl rfl, wT_tab 930 rfl rfl⟩, ⟨by decide, by decide, by decide +kernel⟩⟩
set_option maxRecDepth 100000 in
theorem kV_RX11_391 : CalV RX11 391 yX11_gatherBlendable cX11_gatherBlendable 4 (some .int) 1 := ⟨⟨wT_tab 1020 rfl rfl, wT_tab 1022 rfl rfl, wT_sel 51 _ rfl rfl rfl, wT_tab 1 rfl rfl, wT_tab 1023 rfl rfl⟩, ⟨by decide, by decide, by decide +kernel⟩⟩
set_option maxRecDepth 100000 in
theorem kV_RX11_367 : CalV RX11 367 yX11_lettersOfLaw cX11_lettersOfLaw 1 none 0 := ⟨⟨wT_tab 978 rfl rfl, wT_tab 980 rfl rfl, wT_sel 45 _ rfl rfl rfl, wT_tab 1 rfl rfl, wT_tab 981 rfl rfl⟩, ⟨by decide, by decide, by decide +kernel⟩⟩
theorem dJ0_coder_7d493_0 : decode cJ0_coder_7d493 0 = .ok (.getstatic 38, 3) := by decide +kernel
theorem dJ0_coder_7d493_3 : decode cJ0_coder_7d493 3 = .ok (.ifCond .eq 10, 3) := by decide +kernel
theorem dJ0_coder_7d493_6 : decode cJ0_coder_7d493 6 = .ok (.aload_n 0, 1) := by decide +kernel
theorem dJ0_coder_7d493_7 : decode cJ0_coder_7d493 7 = .ok (.getfield 15, 3) := by decide +kernel
theorem dJ0_coder_7d493_10 : decode cJ0_coder_7d493 10 = .ok (.goto 4, 3) := by decide +kernel
theorem dJ0_coder_7d493_14 : decode cJ0_coder_7d493 14 = .ok (.ireturn, 1) := by decide +kernel
theorem dJ0_isLatin1_aae02_0 : decode cJ0_isLatin1_aae02 0 = .ok (.getstatic 38, 3) := by decide +kernel
theorem dJ0_isLatin1_aae02_3 : decode cJ0_isLatin1_aae02 3 = .ok (.ifCond .eq 14, 3) := by decide +kernel
theorem dJ0_isLatin1_aae02_6 : decode cJ0_isLatin1_aae02 6 = .ok (.aload_n 0, 1) := by decide +kernel
theorem dJ0_isLatin1_aae02_7 : decode cJ0_isLatin1_aae02 7 = .ok (.getfield 15, 3) := by decide +kernel
theorem dJ0_isLatin1_aae02_10 : decode cJ0_isLatin1_aae02 10 = .ok (.ifCond .ne 7, 3) := by decide +kernel
theorem dJ0_isLatin1_aae02_13 : decode cJ0_isLatin1_aae02 13 = .ok (.iconst 1, 1) := by decide +kernel
theorem dJ0_isLatin1_aae02_14 : decode cJ0_isLatin1_aae02 14 = .ok (.goto 4, 3) := by decide +kernel
theorem dJ0_isLatin1_aae02_18 : decode cJ0_isLatin1_aae02 18 = .ok (.ireturn, 1) := by decide +kernel
theorem dJ0_length_8abf5_0 : decode cJ0_length_8abf5 0 = .ok (.aload_n 0, 1) := by decide +kernel
theorem dJ0_length_8abf5_1 : decode cJ0_length_8abf5 1 = .ok (.getfield 9, 3) := by decide +kernel
theorem dJ0_length_8abf5_4 : decode cJ0_length_8abf5 4 = .ok (.arraylength, 1) := by decide +kernel
theorem dJ0_length_8abf5_5 : decode cJ0_length_8abf5 5 = .ok (.aload_n 0, 1) := by decide +kernel
theorem dJ0_length_8abf5_6 : decode cJ0_length_8abf5 6 = .ok (.invokevirtual 335, 3) := by decide +kernel
theorem dJ0_length_8abf5_9 : decode cJ0_length_8abf5 9 = .ok (.ishr, 1) := by decide +kernel
theorem dJ0_length_8abf5_10 : decode cJ0_length_8abf5 10 = .ok (.ireturn, 1) := by decide +kernel
theorem dJ1_canEncode_9a6ad_0 : decode cJ1_canEncode_9a6ad 0 = .ok (.iload_n 0, 1) := by decide +kernel
theorem dJ1_canEncode_9a6ad_1 : decode cJ1_canEncode_9a6ad 1 = .ok (.ifCond .lt 14, 3) := by decide +kernel
theorem dJ1_canEncode_9a6ad_15 : decode cJ1_canEncode_9a6ad 15 = .ok (.iconst 0, 1) := by decide +kernel
theorem dJ1_canEncode_9a6ad_16 : decode cJ1_canEncode_9a6ad 16 = .ok (.ireturn, 1) := by decide +kernel
theorem dJ1_canEncode_9a6ad_4 : decode cJ1_canEncode_9a6ad 4 = .ok (.iload_n 0, 1) := by decide +kernel
theorem dJ1_canEncode_9a6ad_5 : decode cJ1_canEncode_9a6ad 5 = .ok (.sipush 255, 3) := by decide +kernel
theorem dJ1_canEncode_9a6ad_8 : decode cJ1_canEncode_9a6ad 8 = .ok (.if_icmp .gt 7, 3) := by decide +kernel
theorem dJ1_canEncode_9a6ad_11 : decode cJ1_canEncode_9a6ad 11 = .ok (.iconst 1, 1) := by decide +kernel
theorem dJ1_canEncode_9a6ad_12 : decode cJ1_canEncode_9a6ad 12 = .ok (.goto 4, 3) := by decide +kernel
theorem dJ1_indexOfChar_4cfef_0 : decode cJ1_indexOfChar_4cfef 0 = .ok (.iload_n 1, 1) := by decide +kernel
theorem dJ1_indexOfChar_4cfef_1 : decode cJ1_indexOfChar_4cfef 1 = .ok (.i2b, 1) := by decide +kernel
theorem dJ1_indexOfChar_4cfef_2 : decode cJ1_indexOfChar_4cfef 2 = .ok (.istore 4, 2) := by decide +kernel
theorem dJ1_indexOfChar_4cfef_4 : decode cJ1_indexOfChar_4cfef 4 = .ok (.iload_n 2, 1) := by decide +kernel
theorem dJ1_indexOfChar_4cfef_5 : decode cJ1_indexOfChar_4cfef 5 = .ok (.istore 5, 2) := by decide +kernel
theorem dJ1_indexOfChar_4cfef_7 : decode cJ1_indexOfChar_4cfef 7 = .ok (.iload 5, 2) := by decide +kernel
theorem dJ1_indexOfChar_4cfef_9 : decode cJ1_indexOfChar_4cfef 9 = .ok (.iload_n 3, 1) := by decide +kernel
theorem dJ1_indexOfChar_4cfef_10 : decode cJ1_indexOfChar_4cfef 10 = .ok (.if_icmp .ge 21, 3) := by decide +kernel
theorem dJ1_indexOfChar_4cfef_31 : decode cJ1_indexOfChar_4cfef 31 = .ok (.iconst (-1), 1) := by decide +kernel
theorem dJ1_indexOfChar_4cfef_32 : decode cJ1_indexOfChar_4cfef 32 = .ok (.ireturn, 1) := by decide +kernel
theorem dJ1_indexOfChar_4cfef_13 : decode cJ1_indexOfChar_4cfef 13 = .ok (.aload_n 0, 1) := by decide +kernel
theorem dJ1_indexOfChar_4cfef_14 : decode cJ1_indexOfChar_4cfef 14 = .ok (.iload 5, 2) := by decide +kernel
theorem dJ1_indexOfChar_4cfef_16 : decode cJ1_indexOfChar_4cfef 16 = .ok (.baload, 1) := by decide +kernel
theorem dJ1_indexOfChar_4cfef_17 : decode cJ1_indexOfChar_4cfef 17 = .ok (.iload 4, 2) := by decide +kernel
theorem dJ1_indexOfChar_4cfef_19 : decode cJ1_indexOfChar_4cfef 19 = .ok (.if_icmp .ne 6, 3) := by decide +kernel
theorem dJ1_indexOfChar_4cfef_25 : decode cJ1_indexOfChar_4cfef 25 = .ok (.iinc 5 1, 3) := by decide +kernel
theorem dJ1_indexOfChar_4cfef_28 : decode cJ1_indexOfChar_4cfef 28 = .ok (.goto (-21), 3) := by decide +kernel
theorem dJ1_indexOfChar_4cfef_22 : decode cJ1_indexOfChar_4cfef 22 = .ok (.iload 5, 2) := by decide +kernel
theorem dJ1_indexOfChar_4cfef_24 : decode cJ1_indexOfChar_4cfef 24 = .ok (.ireturn, 1) := by decide +kernel
theorem dJ1_indexOf_4cfef_0 : decode cJ1_indexOf_4cfef 0 = .ok (.iload_n 1, 1) := by decide +kernel
theorem dJ1_indexOf_4cfef_1 : decode cJ1_indexOf_4cfef 1 = .ok (.invokestatic 88, 3) := by decide +kernel
theorem dJ1_indexOf_4cfef_4 : decode cJ1_indexOf_4cfef 4 = .ok (.ifCond .ne 5, 3) := by decide +kernel
theorem dJ1_indexOf_4cfef_9 : decode cJ1_indexOf_4cfef 9 = .ok (.iload_n 2, 1) := by decide +kernel
theorem dJ1_indexOf_4cfef_10 : decode cJ1_indexOf_4cfef 10 = .ok (.iconst 0, 1) := by decide +kernel
theorem dJ1_indexOf_4cfef_11 : decode cJ1_indexOf_4cfef 11 = .ok (.invokestatic 92, 3) := by decide +kernel
theorem dJ1_indexOf_4cfef_14 : decode cJ1_indexOf_4cfef 14 = .ok (.istore_n 2, 1) := by decide +kernel
theorem dJ1_indexOf_4cfef_15 : decode cJ1_indexOf_4cfef 15 = .ok (.iload_n 3, 1) := by decide +kernel
theorem dJ1_indexOf_4cfef_16 : decode cJ1_indexOf_4cfef 16 = .ok (.aload_n 0, 1) := by decide +kernel
theorem dJ1_indexOf_4cfef_17 : decode cJ1_indexOf_4cfef 17 = .ok (.arraylength, 1) := by decide +kernel
theorem dJ1_indexOf_4cfef_18 : decode cJ1_indexOf_4cfef 18 = .ok (.invokestatic 38, 3) := by decide +kernel
theorem dJ1_indexOf_4cfef_21 : decode cJ1_indexOf_4cfef 21 = .ok (.istore_n 3, 1) := by decide +kernel
theorem dJ1_indexOf_4cfef_22 : decode cJ1_indexOf_4cfef 22 = .ok (.iload_n 2, 1) := by decide +kernel
theorem dJ1_indexOf_4cfef_23 : decode cJ1_indexOf_4cfef 23 = .ok (.iload_n 3, 1) := by decide +kernel
theorem dJ1_indexOf_4cfef_24 : decode cJ1_indexOf_4cfef 24 = .ok (.if_icmp .lt 5, 3) := by decide +kernel
theorem dJ1_indexOf_4cfef_29 : decode cJ1_indexOf_4cfef 29 = .ok (.aload_n 0, 1) := by decide +kernel
theorem dJ1_indexOf_4cfef_30 : decode cJ1_indexOf_4cfef 30 = .ok (.iload_n 1, 1) := by decide +kernel
theorem dJ1_indexOf_4cfef_31 : decode cJ1_indexOf_4cfef 31 = .ok (.iload_n 2, 1) := by decide +kernel
theorem dJ1_indexOf_4cfef_32 : decode cJ1_indexOf_4cfef 32 = .ok (.iload_n 3, 1) := by decide +kernel
theorem dJ1_indexOf_4cfef_33 : decode cJ1_indexOf_4cfef 33 = .ok (.invokestatic 95, 3) := by decide +kernel
theorem dJ1_indexOf_4cfef_36 : decode cJ1_indexOf_4cfef 36 = .ok (.ireturn, 1) := by decide +kernel
theorem dJ1_indexOf_4cfef_7 : decode cJ1_indexOf_4cfef 7 = .ok (.iconst (-1), 1) := by decide +kernel
theorem dJ1_indexOf_4cfef_8 : decode cJ1_indexOf_4cfef 8 = .ok (.ireturn, 1) := by decide +kernel
theorem dJ0_indexOf_7cf53_0 : decode cJ0_indexOf_7cf53 0 = .ok (.aload_n 0, 1) := by decide +kernel
theorem dJ0_indexOf_7cf53_1 : decode cJ0_indexOf_7cf53 1 = .ok (.invokevirtual 492, 3) := by decide +kernel
theorem dJ0_indexOf_7cf53_4 : decode cJ0_indexOf_7cf53 4 = .ok (.ifCond .eq 19, 3) := by decide +kernel
theorem dJ0_indexOf_7cf53_7 : decode cJ0_indexOf_7cf53 7 = .ok (.aload_n 0, 1) := by decide +kernel
theorem dJ0_indexOf_7cf53_8 : decode cJ0_indexOf_7cf53 8 = .ok (.getfield 9, 3) := by decide +kernel
theorem dJ0_indexOf_7cf53_11 : decode cJ0_indexOf_7cf53 11 = .ok (.iload_n 1, 1) := by decide +kernel
theorem dJ0_indexOf_7cf53_12 : decode cJ0_indexOf_7cf53 12 = .ok (.iload_n 2, 1) := by decide +kernel
theorem dJ0_indexOf_7cf53_13 : decode cJ0_indexOf_7cf53 13 = .ok (.aload_n 0, 1) := by decide +kernel
theorem dJ0_indexOf_7cf53_14 : decode cJ0_indexOf_7cf53 14 = .ok (.invokevirtual 505, 3) := by decide +kernel
theorem dJ0_indexOf_7cf53_17 : decode cJ0_indexOf_7cf53 17 = .ok (.invokestatic 637, 3) := by decide +kernel
theorem dJ0_indexOf_7cf53_20 : decode cJ0_indexOf_7cf53 20 = .ok (.goto 16, 3) := by decide +kernel
theorem dJ0_indexOf_7cf53_36 : decode cJ0_indexOf_7cf53 36 = .ok (.ireturn, 1) := by decide +kernel
theorem dJ0_indexOf_0f7a4_0 : decode cJ0_indexOf_0f7a4 0 = .ok (.aload_n 0, 1) := by decide +kernel
theorem dJ0_indexOf_0f7a4_1 : decode cJ0_indexOf_0f7a4 1 = .ok (.iload_n 1, 1) := by decide +kernel
theorem dJ0_indexOf_0f7a4_2 : decode cJ0_indexOf_0f7a4 2 = .ok (.iconst 0, 1) := by decide +kernel
theorem dJ0_indexOf_0f7a4_3 : decode cJ0_indexOf_0f7a4 3 = .ok (.invokevirtual 633, 3) := by decide +kernel
theorem dJ0_indexOf_0f7a4_6 : decode cJ0_indexOf_0f7a4 6 = .ok (.ireturn, 1) := by decide +kernel
theorem dX11_letter_0 : decode cX11_letter 0 = .ok (.aload_n 0, 1) := by decide +kernel
theorem dX11_letter_1 : decode cX11_letter 1 = .ok (.getfield 40, 3) := by decide +kernel
theorem dX11_letter_4 : decode cX11_letter 4 = .ok (.ldc 32, 2) := by decide +kernel
theorem dX11_letter_6 : decode cX11_letter 6 = .ok (.iload_n 1, 1) := by decide +kernel
theorem dX11_letter_7 : decode cX11_letter 7 = .ok (.invokevirtual 181, 3) := by decide +kernel
theorem dX11_letter_10 : decode cX11_letter 10 = .ok (.iload_n 2, 1) := by decide +kernel
theorem dX11_letter_11 : decode cX11_letter 11 = .ok (.invokestatic 184, 3) := by decide +kernel
theorem dX11_letter_14 : decode cX11_letter 14 = .ok (.return_, 1) := by decide +kernel
theorem dX11_lettersOfDay_0 : decode cX11_lettersOfDay 0 = .ok (.aload_n 0, 1) := by decide +kernel
theorem dX11_lettersOfDay_1 : decode cX11_lettersOfDay 1 = .ok (.bipush 100, 2) := by decide +kernel
theorem dX11_lettersOfDay_3 : decode cX11_lettersOfDay 3 = .ok (.iload_n 1, 1) := by decide +kernel
theorem dX11_lettersOfDay_4 : decode cX11_lettersOfDay 4 = .ok (.invokevirtual 188, 3) := by decide +kernel
theorem dX11_lettersOfDay_7 : decode cX11_lettersOfDay 7 = .ok (.aload_n 0, 1) := by decide +kernel
theorem dX11_lettersOfDay_8 : decode cX11_lettersOfDay 8 = .ok (.bipush 119, 2) := by decide +kernel
theorem dX11_lettersOfDay_10 : decode cX11_lettersOfDay 10 = .ok (.iload_n 1, 1) := by decide +kernel
theorem dX11_lettersOfDay_11 : decode cX11_lettersOfDay 11 = .ok (.bipush 7, 2) := by decide +kernel
theorem dX11_lettersOfDay_13 : decode cX11_lettersOfDay 13 = .ok (.idiv, 1) := by decide +kernel
theorem dX11_lettersOfDay_14 : decode cX11_lettersOfDay 14 = .ok (.invokevirtual 188, 3) := by decide +kernel
theorem dX11_lettersOfDay_17 : decode cX11_lettersOfDay 17 = .ok (.aload_n 0, 1) := by decide +kernel
theorem dX11_lettersOfDay_18 : decode cX11_lettersOfDay 18 = .ok (.bipush 103, 2) := by decide +kernel
theorem dX11_lettersOfDay_20 : decode cX11_lettersOfDay 20 = .ok (.iload_n 1, 1) := by decide +kernel
theorem dX11_lettersOfDay_21 : decode cX11_lettersOfDay 21 = .ok (.bipush 7, 2) := by decide +kernel
theorem dX11_lettersOfDay_23 : decode cX11_lettersOfDay 23 = .ok (.irem, 1) := by decide +kernel
theorem dX11_lettersOfDay_24 : decode cX11_lettersOfDay 24 = .ok (.invokevirtual 188, 3) := by decide +kernel
theorem dX11_lettersOfDay_27 : decode cX11_lettersOfDay 27 = .ok (.aload_n 0, 1) := by decide +kernel
theorem dX11_lettersOfDay_28 : decode cX11_lettersOfDay 28 = .ok (.bipush 111, 2) := by decide +kernel
theorem dX11_lettersOfDay_30 : decode cX11_lettersOfDay 30 = .ok (.aload_n 0, 1) := by decide +kernel
theorem dX11_lettersOfDay_31 : decode cX11_lettersOfDay 31 = .ok (.getfield 47, 3) := by decide +kernel
theorem dX11_lettersOfDay_34 : decode cX11_lettersOfDay 34 = .ok (.getfield 174, 3) := by decide +kernel
theorem dX11_lettersOfDay_37 : decode cX11_lettersOfDay 37 = .ok (.iload_n 1, 1) := by decide +kernel
theorem dX11_lettersOfDay_38 : decode cX11_lettersOfDay 38 = .ok (.bipush 7, 2) := by decide +kernel
theorem dX11_lettersOfDay_40 : decode cX11_lettersOfDay 40 = .ok (.idiv, 1) := by decide +kernel
theorem dX11_lettersOfDay_41 : decode cX11_lettersOfDay 41 = .ok (.invokestatic 192, 3) := by decide +kernel
theorem dX11_lettersOfDay_44 : decode cX11_lettersOfDay 44 = .ok (.invokevirtual 188, 3) := by decide +kernel
theorem dX11_lettersOfDay_47 : decode cX11_lettersOfDay 47 = .ok (.return_, 1) := by decide +kernel
theorem dX11_lettersOfLaw_0 : decode cX11_lettersOfLaw 0 = .ok (.aload_n 0, 1) := by decide +kernel
theorem dX11_lettersOfLaw_1 : decode cX11_lettersOfLaw 1 = .ok (.aload_n 0, 1) := by decide +kernel
theorem dX11_lettersOfLaw_2 : decode cX11_lettersOfLaw 2 = .ok (.getfield 103, 3) := by decide +kernel
theorem dX11_lettersOfLaw_5 : decode cX11_lettersOfLaw 5 = .ok (.invokevirtual 199, 3) := by decide +kernel
theorem dX11_lettersOfLaw_8 : decode cX11_lettersOfLaw 8 = .ok (.aload_n 0, 1) := by decide +kernel
theorem dX11_lettersOfLaw_9 : decode cX11_lettersOfLaw 9 = .ok (.bipush 107, 2) := by decide +kernel
theorem dX11_lettersOfLaw_11 : decode cX11_lettersOfLaw 11 = .ok (.iconst 0, 1) := by decide +kernel
theorem dX11_lettersOfLaw_12 : decode cX11_lettersOfLaw 12 = .ok (.invokevirtual 188, 3) := by decide +kernel
theorem dX11_lettersOfLaw_15 : decode cX11_lettersOfLaw 15 = .ok (.aload_n 0, 1) := by decide +kernel
theorem dX11_lettersOfLaw_16 : decode cX11_lettersOfLaw 16 = .ok (.bipush 109, 2) := by decide +kernel
theorem dX11_lettersOfLaw_18 : decode cX11_lettersOfLaw 18 = .ok (.iconst 0, 1) := by decide +kernel
theorem dX11_lettersOfLaw_19 : decode cX11_lettersOfLaw 19 = .ok (.invokevirtual 188, 3) := by decide +kernel
theorem dX11_lettersOfLaw_22 : decode cX11_lettersOfLaw 22 = .ok (.aload_n 0, 1) := by decide +kernel
theorem dX11_lettersOfLaw_23 : decode cX11_lettersOfLaw 23 = .ok (.bipush 115, 2) := by decide +kernel
theorem dX11_lettersOfLaw_25 : decode cX11_lettersOfLaw 25 = .ok (.iconst 0, 1) := by decide +kernel
theorem dX11_lettersOfLaw_26 : decode cX11_lettersOfLaw 26 = .ok (.invokevirtual 188, 3) := by decide +kernel
theorem dX11_lettersOfLaw_29 : decode cX11_lettersOfLaw 29 = .ok (.return_, 1) := by decide +kernel
theorem dX0_init_0 : decode cX0_init 0 = .ok (.aload_n 0, 1) := by decide +kernel
theorem dX0_init_1 : decode cX0_init 1 = .ok (.invokespecial 1, 3) := by decide +kernel
theorem dX0_init_4 : decode cX0_init 4 = .ok (.aload_n 0, 1) := by decide +kernel
theorem dX0_init_5 : decode cX0_init 5 = .ok (.bipush 12, 2) := by decide +kernel
theorem dX0_init_7 : decode cX0_init 7 = .ok (.newarray .int, 2) := by decide +kernel
theorem dX0_init_9 : decode cX0_init 9 = .ok (.putfield 9, 3) := by decide +kernel
theorem dX0_init_12 : decode cX0_init 12 = .ok (.return_, 1) := by decide +kernel
theorem dX11_canBeBatched_0 : decode cX11_canBeBatched 0 = .ok (.aload_n 1, 1) := by decide +kernel
theorem dX11_canBeBatched_1 : decode cX11_canBeBatched 1 = .ok (.ifnull 25, 3) := by decide +kernel
theorem dX11_canBeBatched_26 : decode cX11_canBeBatched 26 = .ok (.iconst 0, 1) := by decide +kernel
theorem dX11_canBeBatched_27 : decode cX11_canBeBatched 27 = .ok (.ireturn, 1) := by decide +kernel
theorem dX11_gatherBlendable_0 : decode cX11_gatherBlendable 0 = .ok (.iconst 0, 1) := by decide +kernel
theorem dX11_gatherBlendable_1 : decode cX11_gatherBlendable 1 = .ok (.istore_n 2, 1) := by decide +kernel
theorem dX11_gatherBlendable_2 : decode cX11_gatherBlendable 2 = .ok (.iconst 0, 1) := by decide +kernel
theorem dX11_gatherBlendable_3 : decode cX11_gatherBlendable 3 = .ok (.istore_n 3, 1) := by decide +kernel
theorem dX11_gatherBlendable_4 : decode cX11_gatherBlendable 4 = .ok (.iload_n 3, 1) := by decide +kernel
theorem dX11_gatherBlendable_5 : decode cX11_gatherBlendable 5 = .ok (.bipush 20, 2) := by decide +kernel
theorem dX11_gatherBlendable_7 : decode cX11_gatherBlendable 7 = .ok (.if_icmp .ge 36, 3) := by decide +kernel
theorem dX11_gatherBlendable_43 : decode cX11_gatherBlendable 43 = .ok (.iload_n 2, 1) := by decide +kernel
theorem dX11_gatherBlendable_44 : decode cX11_gatherBlendable 44 = .ok (.ireturn, 1) := by decide +kernel
theorem dX11_gatherBlendable_10 : decode cX11_gatherBlendable 10 = .ok (.iload_n 2, 1) := by decide +kernel
theorem dX11_gatherBlendable_11 : decode cX11_gatherBlendable 11 = .ok (.aload_n 1, 1) := by decide +kernel
theorem dX11_gatherBlendable_12 : decode cX11_gatherBlendable 12 = .ok (.arraylength, 1) := by decide +kernel
theorem dX11_gatherBlendable_13 : decode cX11_gatherBlendable 13 = .ok (.if_icmp .ge 30, 3) := by decide +kernel
theorem dX11_gatherBlendable_16 : decode cX11_gatherBlendable 16 = .ok (.aload_n 0, 1) := by decide +kernel
theorem dX11_gatherBlendable_17 : decode cX11_gatherBlendable 17 = .ok (.aload_n 0, 1) := by decide +kernel
theorem dX11_gatherBlendable_18 : decode cX11_gatherBlendable 18 = .ok (.iload_n 3, 1) := by decide +kernel
theorem dX11_gatherBlendable_19 : decode cX11_gatherBlendable 19 = .ok (.invokevirtual 148, 3) := by decide +kernel
theorem dX11_gatherBlendable_22 : decode cX11_gatherBlendable 22 = .ok (.invokevirtual 354, 3) := by decide +kernel
theorem dX11_gatherBlendable_25 : decode cX11_gatherBlendable 25 = .ok (.ifCond .eq 12, 3) := by decide +kernel
theorem dX11_gatherBlendable_37 : decode cX11_gatherBlendable 37 = .ok (.iinc 3 1, 3) := by decide +kernel
theorem dX11_gatherBlendable_40 : decode cX11_gatherBlendable 40 = .ok (.goto (-36), 3) := by decide +kernel
theorem dX11_mixed_0 : decode cX11_mixed 0 = .ok (.new 95, 3) := by decide +kernel
theorem dX11_mixed_3 : decode cX11_mixed 3 = .ok (.dup, 1) := by decide +kernel
theorem dX11_mixed_4 : decode cX11_mixed 4 = .ok (.invokespecial 353, 3) := by decide +kernel
theorem dX11_mixed_7 : decode cX11_mixed 7 = .ok (.astore_n 2, 1) := by decide +kernel
theorem dX11_mixed_8 : decode cX11_mixed 8 = .ok (.iconst 0, 1) := by decide +kernel
theorem dX11_mixed_9 : decode cX11_mixed 9 = .ok (.istore_n 3, 1) := by decide +kernel
theorem dX11_mixed_10 : decode cX11_mixed 10 = .ok (.iload_n 3, 1) := by decide +kernel
theorem dX11_mixed_11 : decode cX11_mixed 11 = .ok (.bipush 20, 2) := by decide +kernel
theorem dX11_mixed_13 : decode cX11_mixed 13 = .ok (.if_icmp .ge 50, 3) := by decide +kernel
theorem dX11_mixed_16 : decode cX11_mixed 16 = .ok (.iload_n 1, 1) := by decide +kernel
theorem dX11_mixed_17 : decode cX11_mixed 17 = .ok (.iload_n 3, 1) := by decide +kernel
theorem dX11_mixed_18 : decode cX11_mixed 18 = .ok (.ishr, 1) := by decide +kernel
theorem dX11_mixed_19 : decode cX11_mixed 19 = .ok (.iconst 1, 1) := by decide +kernel
theorem dX11_mixed_20 : decode cX11_mixed 20 = .ok (.iand, 1) := by decide +kernel
theorem dX11_mixed_21 : decode cX11_mixed 21 = .ok (.ifCond .ne 6, 3) := by decide +kernel
theorem dX11_mixed_27 : decode cX11_mixed 27 = .ok (.aload_n 0, 1) := by decide +kernel
theorem dX11_mixed_28 : decode cX11_mixed 28 = .ok (.iload_n 3, 1) := by decide +kernel
theorem dX11_mixed_29 : decode cX11_mixed 29 = .ok (.invokevirtual 148, 3) := by decide +kernel
theorem dX11_mixed_32 : decode cX11_mixed 32 = .ok (.astore 4, 2) := by decide +kernel
theorem dX11_mixed_34 : decode cX11_mixed 34 = .ok (.aload 4, 2) := by decide +kernel
theorem dX11_mixed_36 : decode cX11_mixed 36 = .ok (.ifnull 12, 3) := by decide +kernel
theorem dX11_mixed_48 : decode cX11_mixed 48 = .ok (.aconst_null, 1) := by decide +kernel
theorem dX11_mixed_49 : decode cX11_mixed 49 = .ok (.areturn, 1) := by decide +kernel
theorem dX11_mixed_24 : decode cX11_mixed 24 = .ok (.goto 33, 3) := by decide +kernel
theorem dX11_mixed_57 : decode cX11_mixed 57 = .ok (.iinc 3 1, 3) := by decide +kernel
theorem dX11_mixed_60 : decode cX11_mixed 60 = .ok (.goto (-50), 3) := by decide +kernel
theorem dX11_batch_0 : decode cX11_batch 0 = .ok (.iload_n 1, 1) := by decide +kernel
theorem dX11_batch_1 : decode cX11_batch 1 = .ok (.iconst 1, 1) := by decide +kernel
theorem dX11_batch_2 : decode cX11_batch 2 = .ok (.ldc_w 362, 3) := by decide +kernel
theorem dX11_batch_5 : decode cX11_batch 5 = .ok (.invokestatic 80, 3) := by decide +kernel
theorem dX11_batch_8 : decode cX11_batch 8 = .ok (.ifCond .eq 15, 3) := by decide +kernel
theorem dX11_batch_11 : decode cX11_batch 11 = .ok (.aload_n 0, 1) := by decide +kernel
theorem dX11_batch_12 : decode cX11_batch 12 = .ok (.getfield 68, 3) := by decide +kernel
theorem dX11_batch_15 : decode cX11_batch 15 = .ok (.invokevirtual 84, 3) := by decide +kernel
theorem dX11_batch_18 : decode cX11_batch 18 = .ok (.bipush 10, 2) := by decide +kernel
theorem dX11_batch_20 : decode cX11_batch 20 = .ok (.if_icmp .lt 5, 3) := by decide +kernel
theorem dX11_batch_25 : decode cX11_batch 25 = .ok (.aload_n 0, 1) := by decide +kernel
theorem dX11_batch_26 : decode cX11_batch 26 = .ok (.iload_n 1, 1) := by decide +kernel
theorem dX11_batch_27 : decode cX11_batch 27 = .ok (.invokevirtual 363, 3) := by decide +kernel
theorem dX11_batch_30 : decode cX11_batch 30 = .ok (.astore_n 2, 1) := by decide +kernel
theorem dX11_batch_31 : decode cX11_batch 31 = .ok (.aload_n 2, 1) := by decide +kernel
theorem dX11_batch_32 : decode cX11_batch 32 = .ok (.ifnonnull 5, 3) := by decide +kernel
theorem dX11_batch_35 : decode cX11_batch 35 = .ok (.iconst (-1), 1) := by decide +kernel
theorem dX11_batch_36 : decode cX11_batch 36 = .ok (.ireturn, 1) := by decide +kernel
theorem dX11_batch_23 : decode cX11_batch 23 = .ok (.iconst (-1), 1) := by decide +kernel
theorem dX11_batch_24 : decode cX11_batch 24 = .ok (.ireturn, 1) := by decide +kernel
theorem dX11_blend_0 : decode cX11_blend 0 = .ok (.bipush 12, 2) := by decide +kernel
theorem dX11_blend_2 : decode cX11_blend 2 = .ok (.newarray .int, 2) := by decide +kernel
theorem dX11_blend_4 : decode cX11_blend 4 = .ok (.astore_n 1, 1) := by decide +kernel
theorem dX11_blend_5 : decode cX11_blend 5 = .ok (.aload_n 0, 1) := by decide +kernel
theorem dX11_blend_6 : decode cX11_blend 6 = .ok (.aload_n 1, 1) := by decide +kernel
theorem dX11_blend_7 : decode cX11_blend 7 = .ok (.invokevirtual 391, 3) := by decide +kernel
theorem dX11_blend_10 : decode cX11_blend 10 = .ok (.istore_n 2, 1) := by decide +kernel
theorem dX11_blend_11 : decode cX11_blend 11 = .ok (.aload_n 0, 1) := by decide +kernel
theorem dX11_blend_12 : decode cX11_blend 12 = .ok (.invokevirtual 367, 3) := by decide +kernel
theorem dX11_blend_15 : decode cX11_blend 15 = .ok (.new 95, 3) := by decide +kernel
theorem dX11_blend_18 : decode cX11_blend 18 = .ok (.dup, 1) := by decide +kernel
theorem dX11_blend_19 : decode cX11_blend 19 = .ok (.invokespecial 353, 3) := by decide +kernel
theorem dX11_blend_22 : decode cX11_blend 22 = .ok (.astore_n 3, 1) := by decide +kernel
theorem dX11_blend_23 : decode cX11_blend 23 = .ok (.iconst 0, 1) := by decide +kernel
theorem dX11_blend_24 : decode cX11_blend 24 = .ok (.istore 4, 2) := by decide +kernel
theorem dX11_blend_26 : decode cX11_blend 26 = .ok (.iconst 0, 1) := by decide +kernel
theorem dX11_blend_27 : decode cX11_blend 27 = .ok (.istore 5, 2) := by decide +kernel
theorem dX11_blend_29 : decode cX11_blend 29 = .ok (.iconst 0, 1) := by decide +kernel
theorem dX11_blend_30 : decode cX11_blend 30 = .ok (.istore 6, 2) := by decide +kernel
theorem dX11_blend_32 : decode cX11_blend 32 = .ok (.iconst 1, 1) := by decide +kernel
theorem dX11_blend_33 : decode cX11_blend 33 = .ok (.istore 7, 2) := by decide +kernel
theorem dX11_blend_35 : decode cX11_blend 35 = .ok (.iload 7, 2) := by decide +kernel
theorem dX11_blend_37 : decode cX11_blend 37 = .ok (.iconst 1, 1) := by decide +kernel
theorem dX11_blend_38 : decode cX11_blend 38 = .ok (.iload_n 2, 1) := by decide +kernel
theorem dX11_blend_39 : decode cX11_blend 39 = .ok (.ishl, 1) := by decide +kernel
theorem dX11_blend_40 : decode cX11_blend 40 = .ok (.if_icmp .ge 88, 3) := by decide +kernel
theorem dX11_blend_128 : decode cX11_blend 128 = .ok (.iload 4, 2) := by decide +kernel
theorem dX11_blend_130 : decode cX11_blend 130 = .ok (.ireturn, 1) := by decide +kernel
set_option maxRecDepth 100000 in
set_option maxHeartbeats 4000000 in
theorem q_coder (l : Launch) (D : va_G) (cI cB cZ : ClassId) (zz qq vv : Nat) (bt : Nat → Int32)  : Met l yJ0_coder_7d493 (CWS yJ0_coder_7d493 cJ0_coder_7d493 1 (some .byte)) (RM 0 0 0) (PBrx [.ref qq] D cI cB cZ zz qq vv bt []) (vp_Si (fun r => r = 0)) 0 0 (fun _ => False) := by
  refine Met.ofW (cc := cJ0_coder_7d493) (maxL := 1) (ret := (some .byte)) (by decide) rfl ?_
  intro p e s m args below meth c s₁ B hml hv
  obtain ⟨rfl, hP, hK, hXS⟩ := hv
  have hS : va_S (fun _ => False) s.heap s.heap [] := va_S.rf
  have hx := B.exec
  have hb := B.bytes
  have hr := B.returns
  have hts := atoms_spec (ws := (CWS yJ0_coder_7d493 cJ0_coder_7d493 1 (some .byte))) B.pre
  have hown : s.vm.findClass RJ0 = some m.cls := findClass_of_methodNamed B.named
  have hlocks := B.notSynchronized
  have S : SF p m c cJ0_coder_7d493 1 s ([.ref qq]).toArray RJ0 := ⟨hx, hb, hml, hown, fun w h => hts w (List.mem_cons_of_mem _ h)⟩
  have hP : va_P D vwCl [] s.heap := hP
  have hl := lv_entry ([.ref qq]) (n := 1) (Nat.le_of_ble_eq_true rfl)
  rw [lg_entry_eq]
  generalize (lg_sl ([.ref qq]) ++ List.replicate (1 - (lg_sl ([.ref qq])).length) Slot.unset).toArray = ls at hl ⊢
  have hl : lv_has ls 1 [(0, .ref qq)] := hl
  refine va_gets hx hb hXS.1 hS hown (S.2.2.2.2 _ (wT_tab 126 rfl rfl)) (fun _ h9 => h9) dJ0_coder_7d493_0 ?_
  refine lv_if_eq (tgt := 13) hx hb dJ0_coder_7d493_3 (by decide) (fun h => absurd h (by decide)) (fun _ => ?_)
  refine lv_aload_n hx hb dJ0_coder_7d493_6 rfl (lv_at hl 0 rfl) ?_
  refine vk_getf hx hb hXS.2.2.2.2.1 hS hown (S.2.2.2.2 _ (wT_tab 2081 rfl rfl)) (fun _ h9 => h9) dJ0_coder_7d493_7 ?_
  refine lv_goto (tgt := 14) hx hb dJ0_coder_7d493_10 (by decide) ?_
  exact W.zret (v := 0) hx hb hr rfl (fun t ht hW => ⟨0, rfl, rfl, ht⟩) (fun _ h => absurd h List.not_mem_nil) dJ0_coder_7d493_14
set_option maxRecDepth 100000 in
set_option maxHeartbeats 4000000 in
theorem q_isLatin1 (l : Launch) (D : va_G) (cI cB cZ : ClassId) (zz qq vv : Nat) (bt : Nat → Int32)  : Met l yJ0_isLatin1_aae02 (CWS yJ0_isLatin1_aae02 cJ0_isLatin1_aae02 1 (some .boolean)) (RM 0 0 0) (PBrx [.ref qq] D cI cB cZ zz qq vv bt []) (vp_Si (fun r => r = 1)) 0 0 (fun _ => False) := by
  refine Met.ofW (cc := cJ0_isLatin1_aae02) (maxL := 1) (ret := (some .boolean)) (by decide) rfl ?_
  intro p e s m args below meth c s₁ B hml hv
  obtain ⟨rfl, hP, hK, hXS⟩ := hv
  have hS : va_S (fun _ => False) s.heap s.heap [] := va_S.rf
  have hx := B.exec
  have hb := B.bytes
  have hr := B.returns
  have hts := atoms_spec (ws := (CWS yJ0_isLatin1_aae02 cJ0_isLatin1_aae02 1 (some .boolean))) B.pre
  have hown : s.vm.findClass RJ0 = some m.cls := findClass_of_methodNamed B.named
  have hlocks := B.notSynchronized
  have S : SF p m c cJ0_isLatin1_aae02 1 s ([.ref qq]).toArray RJ0 := ⟨hx, hb, hml, hown, fun w h => hts w (List.mem_cons_of_mem _ h)⟩
  have hP : va_P D vwCl [] s.heap := hP
  have hl := lv_entry ([.ref qq]) (n := 1) (Nat.le_of_ble_eq_true rfl)
  rw [lg_entry_eq]
  generalize (lg_sl ([.ref qq]) ++ List.replicate (1 - (lg_sl ([.ref qq])).length) Slot.unset).toArray = ls at hl ⊢
  have hl : lv_has ls 1 [(0, .ref qq)] := hl
  refine va_gets hx hb hXS.1 hS hown (S.2.2.2.2 _ (wT_tab 126 rfl rfl)) (fun _ h9 => h9) dJ0_isLatin1_aae02_0 ?_
  refine lv_if_eq (tgt := 17) hx hb dJ0_isLatin1_aae02_3 (by decide) (fun h => absurd h (by decide)) (fun _ => ?_)
  refine lv_aload_n hx hb dJ0_isLatin1_aae02_6 rfl (lv_at hl 0 rfl) ?_
  refine vk_getf hx hb hXS.2.2.2.2.1 hS hown (S.2.2.2.2 _ (wT_tab 2081 rfl rfl)) (fun _ h9 => h9) dJ0_isLatin1_aae02_7 ?_
  refine lv_if_ne (tgt := 17) hx hb dJ0_isLatin1_aae02_10 (by decide) (fun h => absurd h (by decide)) (fun _ => ?_)
  refine lv_iconst (v := 1) hx hb dJ0_isLatin1_aae02_13 (by decide) ?_
  refine lv_goto (tgt := 18) hx hb dJ0_isLatin1_aae02_14 (by decide) ?_
  exact W.zret (v := 1) hx hb hr rfl (fun t ht hW => ⟨1, rfl, rfl, ht⟩) (fun _ h => absurd h List.not_mem_nil) dJ0_isLatin1_aae02_18
set_option maxRecDepth 100000 in
set_option maxHeartbeats 4000000 in
theorem q_strLen (l : Launch) (D : va_G) (cI cB cZ : ClassId) (zz qq vv : Nat) (bt : Nat → Int32)  : Met l yJ0_length_8abf5 (CWS yJ0_length_8abf5 cJ0_length_8abf5 1 (some .int)) (RM 1 0 0) (PBrx [.ref qq] D cI cB cZ zz qq vv bt []) (vp_Si (fun r => r = 11)) 0 0 (fun _ => False) := by
  refine Met.ofW (cc := cJ0_length_8abf5) (maxL := 1) (ret := (some .int)) (by decide) rfl ?_
  intro p e s m args below meth c s₁ B hml hv
  obtain ⟨rfl, hP, hK, hXS⟩ := hv
  have hS : va_S (fun _ => False) s.heap s.heap [] := va_S.rf
  have hx := B.exec
  have hb := B.bytes
  have hr := B.returns
  have hts := atoms_spec (ws := (CWS yJ0_length_8abf5 cJ0_length_8abf5 1 (some .int))) B.pre
  have hown : s.vm.findClass RJ0 = some m.cls := findClass_of_methodNamed B.named
  have hlocks := B.notSynchronized
  have S : SF p m c cJ0_length_8abf5 1 s ([.ref qq]).toArray RJ0 := ⟨hx, hb, hml, hown, fun w h => hts w (List.mem_cons_of_mem _ h)⟩
  have hP : va_P D vwCl [] s.heap := hP
  have hl := lv_entry ([.ref qq]) (n := 1) (Nat.le_of_ble_eq_true rfl)
  rw [lg_entry_eq]
  generalize (lg_sl ([.ref qq]) ++ List.replicate (1 - (lg_sl ([.ref qq])).length) Slot.unset).toArray = ls at hl ⊢
  have hl : lv_has ls 1 [(0, .ref qq)] := hl
  refine lv_aload_n hx hb dJ0_length_8abf5_0 rfl (lv_at hl 0 rfl) ?_
  refine vk_getf hx hb hXS.2.2.2.2.2.1 hS hown (S.2.2.2.2 _ (wT_tab 2080 rfl rfl)) (fun _ h9 => h9) dJ0_length_8abf5_1 ?_
  refine va_tlen hx hb hXS.2.2.2.2.2.2.1 hS (v := 11) rfl dJ0_length_8abf5_4 ?_
  refine lv_aload_n hx hb dJ0_length_8abf5_5 rfl (lv_at hl 0 rfl) ?_
  refine vp_callSi (runV_rx (As := []) (rest := [.int 11]) S (q_coder l D cI cB cZ zz qq vv bt ) kV_RJ0_335 hK hXS hS hP [] rfl (va_Orecv hXS.2.2.2.1 hS) ⟨Nat.le_of_ble_eq_true rfl, Nat.le_of_ble_eq_true rfl⟩ ⟨Nat.le_of_ble_eq_true rfl, Nat.le_of_ble_eq_true rfl⟩ rfl hl.1 rfl (Nat.le_of_ble_eq_true rfl) dJ0_length_8abf5_6) (fun r_1 h_2 => ?_)
  subst h_2
  refine lv_ishr hx hb dJ0_length_8abf5_9 ?_
  refine lv_topi (fun y_3 ey_3 => ?_)
  obtain rfl : y_3 = 11 := ey_3.trans (by decide)
  exact W.iret (v := 11) hx hb hr (fun t ht hW => ⟨11, rfl, rfl, ht⟩) (fun _ h => absurd h List.not_mem_nil) dJ0_length_8abf5_10
set_option maxRecDepth 100000 in
set_option maxHeartbeats 4000000 in
theorem q_canEncode (l : Launch) (D : va_G) (cI cB cZ : ClassId) (v0 : Int32) : Met l yJ1_canEncode_9a6ad (CWS yJ1_canEncode_9a6ad cJ1_canEncode_9a6ad 1 (some .boolean)) (RM 0 0 0) (PBr [.int v0] D cI cB cZ []) (vp_Si (fun r => (r = 1 ∧ (0 ≤ v0.toInt ∧ v0.toInt ≤ 255)) ∨ (r = 0 ∧ ¬ (0 ≤ v0.toInt ∧ v0.toInt ≤ 255)))) 0 0 (fun _ => False) := by
  refine Met.ofW (cc := cJ1_canEncode_9a6ad) (maxL := 1) (ret := (some .boolean)) (by decide) rfl ?_
  intro p e s m args below meth c s₁ B hml hv
  obtain ⟨rfl, hP, hK⟩ := hv
  have hx := B.exec
  have hb := B.bytes
  have hr := B.returns
  have hts := atoms_spec (ws := (CWS yJ1_canEncode_9a6ad cJ1_canEncode_9a6ad 1 (some .boolean))) B.pre
  have hown : s.vm.findClass RJ1 = some m.cls := findClass_of_methodNamed B.named
  have hlocks := B.notSynchronized
  have S : SF p m c cJ1_canEncode_9a6ad 1 s ([.int v0]).toArray RJ1 := ⟨hx, hb, hml, hown, fun w h => hts w (List.mem_cons_of_mem _ h)⟩
  have hP : va_P D vwCl [] s.heap := hP
  have hl := lv_entry ([.int v0]) (n := 1) (Nat.le_of_ble_eq_true rfl)
  rw [lg_entry_eq]
  generalize (lg_sl ([.int v0]) ++ List.replicate (1 - (lg_sl ([.int v0])).length) Slot.unset).toArray = ls at hl ⊢
  have hl : lv_has ls 1 [(0, .int v0)] := hl
  refine lv_iload_n hx hb dJ1_canEncode_9a6ad_0 rfl (lv_at hl 0 rfl) ?_
  refine lv_if_lt (tgt := 15) hx hb dJ1_canEncode_9a6ad_1 (by decide) (fun c_1 => ?_) (fun c_1 => ?_)
  ·
    have tc_1 : (v0.toInt : Int) < 0 := Int32.lt_iff_toInt_lt.mp c_1
    refine lv_iconst (v := 0) hx hb dJ1_canEncode_9a6ad_15 (by decide) ?_
    exact W.zret (v := 0) hx hb hr rfl (fun t ht hW => ⟨0, rfl, (Or.inr ⟨rfl, by omega⟩), ht⟩) (fun _ h => absurd h List.not_mem_nil) dJ1_canEncode_9a6ad_16
  ·
    have tc_1 : (0 : Int) ≤ v0.toInt := Int32.le_iff_toInt_le.mp (Int32.not_lt.mp c_1)
    refine lv_iload_n hx hb dJ1_canEncode_9a6ad_4 rfl (lv_at hl 0 rfl) ?_
    refine lv_sipush (v := 255) hx hb dJ1_canEncode_9a6ad_5 (by decide) ?_
    refine lv_icmp_gt (tgt := 15) hx hb dJ1_canEncode_9a6ad_8 (by decide) (fun c_2 => ?_) (fun c_2 => ?_)
    ·
      have tc_2 : (255 : Int) < v0.toInt := Int32.lt_iff_toInt_lt.mp c_2
      refine lv_iconst (v := 0) hx hb dJ1_canEncode_9a6ad_15 (by decide) ?_
      exact W.zret (v := 0) hx hb hr rfl (fun t ht hW => ⟨0, rfl, (Or.inr ⟨rfl, by omega⟩), ht⟩) (fun _ h => absurd h List.not_mem_nil) dJ1_canEncode_9a6ad_16
    ·
      have tc_2 : (v0.toInt : Int) ≤ 255 := Int32.le_iff_toInt_le.mp (Int32.not_lt.mp c_2)
      refine lv_iconst (v := 1) hx hb dJ1_canEncode_9a6ad_11 (by decide) ?_
      refine lv_goto (tgt := 16) hx hb dJ1_canEncode_9a6ad_12 (by decide) ?_
      exact W.zret (v := 1) hx hb hr rfl (fun t ht hW => ⟨1, rfl, (Or.inl ⟨rfl, by omega⟩), ht⟩) (fun _ h => absurd h List.not_mem_nil) dJ1_canEncode_9a6ad_16
set_option maxRecDepth 100000 in
set_option maxHeartbeats 4000000 in
theorem q_indexOfChar (l : Launch) (D : va_G) (cI cB cZ : ClassId) (zz qq vv : Nat) (bt : Nat → Int32) (v0 : Int32) : Met l yJ1_indexOfChar_4cfef (CWS yJ1_indexOfChar_4cfef cJ1_indexOfChar_4cfef 6 (some .int)) (RM 0 0 0) (PBrx [.ref vv, .int v0, .int 0, .int 11] D cI cB cZ zz qq vv bt []) (vp_Si (fun _ => True)) 0 0 (fun _ => False) := by
  refine Met.ofW (cc := cJ1_indexOfChar_4cfef) (maxL := 6) (ret := (some .int)) (by decide) rfl ?_
  intro p e s m args below meth c s₁ B hml hv
  obtain ⟨rfl, hP, hK, hXS⟩ := hv
  have hS : va_S (fun _ => False) s.heap s.heap [] := va_S.rf
  have hx := B.exec
  have hb := B.bytes
  have hr := B.returns
  have hts := atoms_spec (ws := (CWS yJ1_indexOfChar_4cfef cJ1_indexOfChar_4cfef 6 (some .int))) B.pre
  have hown : s.vm.findClass RJ1 = some m.cls := findClass_of_methodNamed B.named
  have hlocks := B.notSynchronized
  have S : SF p m c cJ1_indexOfChar_4cfef 6 s ([.ref vv, .int v0, .int 0, .int 11]).toArray RJ1 := ⟨hx, hb, hml, hown, fun w h => hts w (List.mem_cons_of_mem _ h)⟩
  have hP : va_P D vwCl [] s.heap := hP
  have hl := lv_entry ([.ref vv, .int v0, .int 0, .int 11]) (n := 6) (Nat.le_of_ble_eq_true rfl)
  rw [lg_entry_eq]
  generalize (lg_sl ([.ref vv, .int v0, .int 0, .int 11]) ++ List.replicate (6 - (lg_sl ([.ref vv, .int v0, .int 0, .int 11])).length) Slot.unset).toArray = ls at hl ⊢
  have hl : lv_has ls 6 [(0, .ref vv), (1, .int v0), (2, .int 0), (3, .int 11)] := hl
  refine lv_iload_n hx hb dJ1_indexOfChar_4cfef_0 rfl (lv_at hl 1 rfl) ?_
  refine lv_i2b (v := v0.toInt8.toInt32) hx hb dJ1_indexOfChar_4cfef_1 rfl ?_
  refine lv_istore (lv' := [(4, .int v0.toInt8.toInt32), (0, .ref vv), (1, .int v0), (2, .int 0), (3, .int 11)]) hx hb dJ1_indexOfChar_4cfef_2 hl (by decide) rfl (fun ls hl => ?_)
  refine lv_iload_n hx hb dJ1_indexOfChar_4cfef_4 rfl (lv_at hl 3 rfl) ?_
  refine lv_istore (lv' := [(5, .int 0), (4, .int v0.toInt8.toInt32), (0, .ref vv), (1, .int v0), (2, .int 0), (3, .int 11)]) hx hb dJ1_indexOfChar_4cfef_5 hl (by decide) rfl (fun ls hl => ?_)
  have lp_7 : ∀ (n i : Nat), 11 + 1 ≤ i + n → i ≤ 11 → ∀ ls : Array Slot, lv_has ls 6 [(5, .int (nI i)), (4, .int v0.toInt8.toInt32), (0, .ref vv), (1, .int v0), (2, .int 0), (3, .int 11)] → W p l e (RM 0 0 0) s m ([.ref vv, .int v0, .int 0, .int 11]).toArray below meth c s.heap [] 0 0 (MQ below (vp_Si (fun _ => True)) ([.ref vv, .int v0, .int 0, .int 11]).toArray s 0 0 (fun _ => False)) (F0 m 7 ls []) := by
    intro n
    induction n with
    | zero => intro i h1 h2; exact absurd h1 (by omega)
    | succ n ih =>
      intro i hn1 hi ls hl
      have ti : (nI i).toInt = (i : Int) := nI_toInt (by omega)
      refine lv_iload hx hb dJ1_indexOfChar_4cfef_7 (lv_at hl 0 rfl) ?_
      refine lv_iload_n hx hb dJ1_indexOfChar_4cfef_9 rfl (lv_at hl 5 rfl) ?_
      refine lv_icmp_ge (tgt := 31) hx hb dJ1_indexOfChar_4cfef_10 (by decide) (fun c_1 => ?_) (fun c_1 => ?_)
      ·
        have tc_1 : (11 : Int) ≤ (nI i).toInt := Int32.le_iff_toInt_le.mp c_1
        refine lv_iconst (v := (-1)) hx hb dJ1_indexOfChar_4cfef_31 (by decide) ?_
        exact W.iret (v := (-1)) hx hb hr (fun t ht hW => ⟨(-1), rfl, trivial, ht⟩) (fun _ h => absurd h List.not_mem_nil) dJ1_indexOfChar_4cfef_32
      ·
        have tc_1 : ((nI i).toInt : Int) < 11 := Int32.lt_iff_toInt_lt.mp (Int32.not_le.mp c_1)
        refine lv_aload_n hx hb dJ1_indexOfChar_4cfef_13 rfl (lv_at hl 2 rfl) ?_
        refine lv_iload hx hb dJ1_indexOfChar_4cfef_14 (lv_at hl 0 rfl) ?_
        refine va_tb hx hb hXS.2.2.2.2.2.2.1 hS (vp_in_iff.mpr ⟨by omega, by omega⟩) rfl dJ1_indexOfChar_4cfef_16 ?_
        refine lv_iload hx hb dJ1_indexOfChar_4cfef_17 (lv_at hl 1 rfl) ?_
        refine lv_icmp_ne (tgt := 25) hx hb dJ1_indexOfChar_4cfef_19 (by decide) (fun c_2 => ?_) (fun c_2 => ?_)
        ·
          have tc_2 : ((bt (nI i).toNatClampNeg).toInt : Int) ≠ v0.toInt8.toInt32.toInt := fun q => c_2 (Int32.toInt_inj.mp q)
          refine lv_iinc (v := (nI (i + 1))) (lv' := [(5, .int (nI (i + 1))), (4, .int v0.toInt8.toInt32), (0, .ref vv), (1, .int v0), (2, .int 0), (3, .int 11)]) hx hb dJ1_indexOfChar_4cfef_25 hl (k := 0) rfl (nI_1 _) (by decide) rfl (fun ls hl => ?_)
          refine lv_goto (tgt := 7) hx hb dJ1_indexOfChar_4cfef_28 (by decide) ?_
          exact ih (i + 1) (by omega) (by omega) ls (lv_sub hl [0, 1, 2, 3, 4, 5] rfl)
        ·
          have tc_2 : ((bt (nI i).toNatClampNeg).toInt : Int) = v0.toInt8.toInt32.toInt := congrArg Int32.toInt c_2
          refine lv_iload hx hb dJ1_indexOfChar_4cfef_22 (lv_at hl 0 rfl) ?_
          exact W.iret (v := (nI i)) hx hb hr (fun t ht hW => ⟨(nI i), rfl, trivial, ht⟩) (fun _ h => absurd h List.not_mem_nil) dJ1_indexOfChar_4cfef_24
  exact lp_7 (11 + 1) 0 (by omega) (by omega) ls (lv_sub hl [0, 1, 2, 3, 4, 5] rfl)
set_option maxRecDepth 100000 in
set_option maxHeartbeats 4000000 in
theorem q_lat1Index (l : Launch) (D : va_G) (cI cB cZ : ClassId) (zz qq vv : Nat) (bt : Nat → Int32) (v0 : Int32) : Met l yJ1_indexOf_4cfef (CWS yJ1_indexOf_4cfef cJ1_indexOf_4cfef 4 (some .int)) (RM 1 0 0) (PBrx [.ref vv, .int v0, .int 0, .int 11] D cI cB cZ zz qq vv bt []) (vp_Si (fun _ => True)) 0 0 (fun _ => False) := by
  refine Met.ofW (cc := cJ1_indexOf_4cfef) (maxL := 4) (ret := (some .int)) (by decide) rfl ?_
  intro p e s m args below meth c s₁ B hml hv
  obtain ⟨rfl, hP, hK, hXS⟩ := hv
  have hS : va_S (fun _ => False) s.heap s.heap [] := va_S.rf
  have hx := B.exec
  have hb := B.bytes
  have hr := B.returns
  have hts := atoms_spec (ws := (CWS yJ1_indexOf_4cfef cJ1_indexOf_4cfef 4 (some .int))) B.pre
  have hown : s.vm.findClass RJ1 = some m.cls := findClass_of_methodNamed B.named
  have hlocks := B.notSynchronized
  have S : SF p m c cJ1_indexOf_4cfef 4 s ([.ref vv, .int v0, .int 0, .int 11]).toArray RJ1 := ⟨hx, hb, hml, hown, fun w h => hts w (List.mem_cons_of_mem _ h)⟩
  have hP : va_P D vwCl [] s.heap := hP
  have hl := lv_entry ([.ref vv, .int v0, .int 0, .int 11]) (n := 4) (Nat.le_of_ble_eq_true rfl)
  rw [lg_entry_eq]
  generalize (lg_sl ([.ref vv, .int v0, .int 0, .int 11]) ++ List.replicate (4 - (lg_sl ([.ref vv, .int v0, .int 0, .int 11])).length) Slot.unset).toArray = ls at hl ⊢
  have hl : lv_has ls 4 [(0, .ref vv), (1, .int v0), (2, .int 0), (3, .int 11)] := hl
  refine lv_iload_n hx hb dJ1_indexOf_4cfef_0 rfl (lv_at hl 1 rfl) ?_
  refine vp_callSi (runS_r (As := [.int v0]) (rest := []) S (q_canEncode l D cI cB cZ v0) kS_RJ1_88 hK hP [] rfl ⟨Nat.le_of_ble_eq_true rfl, Nat.le_of_ble_eq_true rfl⟩ ⟨Nat.le_of_ble_eq_true rfl, Nat.le_of_ble_eq_true rfl⟩ rfl hl.1 rfl (Nat.le_of_ble_eq_true rfl) dJ1_indexOf_4cfef_1) (fun r_1 h_2 => ?_)
  rcases h_2 with ⟨rfl, h_2⟩ | ⟨rfl, h_2⟩
  ·
    have h_2 : 0 ≤ v0.toInt ∧ v0.toInt ≤ 255 := h_2
    refine lv_if_ne (tgt := 9) hx hb dJ1_indexOf_4cfef_4 (by decide) (fun _ => ?_) (fun h => absurd h (by decide))
    refine lv_iload_n hx hb dJ1_indexOf_4cfef_9 rfl (lv_at hl 2 rfl) ?_
    refine lv_iconst (v := 0) hx hb dJ1_indexOf_4cfef_10 (by decide) ?_
    refine va_mmax hx hb (by rw [hml]; exact hl.1.symm) hown (S.2.2.2.2 _ (wT_tab 588 rfl rfl)) (S.2.2.2.2 _ (wT_tab 42 rfl rfl)) (S.2.2.2.2 _ (wT_tab 3 rfl rfl)) (S.2.2.2.2 _ (wT_tab 43 rfl rfl)) (Nat.le_of_ble_eq_true rfl) (Nat.le_of_ble_eq_true rfl) (Nat.le_of_ble_eq_true rfl) (Nat.le_of_ble_eq_true rfl) dJ1_indexOf_4cfef_11 ?_
    refine lv_topi (fun y_3 ey_3 => ?_)
    obtain rfl : y_3 = 0 := ey_3.trans (by decide)
    refine lv_istore_n (lv' := [(2, .int 0), (0, .ref vv), (1, .int v0), (3, .int 11)]) hx hb dJ1_indexOf_4cfef_14 rfl hl (by decide) rfl (fun ls hl => ?_)
    refine lv_iload_n hx hb dJ1_indexOf_4cfef_15 rfl (lv_at hl 3 rfl) ?_
    refine lv_aload_n hx hb dJ1_indexOf_4cfef_16 rfl (lv_at hl 1 rfl) ?_
    refine va_tlen hx hb hXS.2.2.2.2.2.2.1 hS (v := 11) rfl dJ1_indexOf_4cfef_17 ?_
    refine va_mmin hx hb (by rw [hml]; exact hl.1.symm) hown (S.2.2.2.2 _ (wT_tab 589 rfl rfl)) (S.2.2.2.2 _ (wT_tab 406 rfl rfl)) (S.2.2.2.2 _ (wT_tab 3 rfl rfl)) (S.2.2.2.2 _ (wT_tab 407 rfl rfl)) (Nat.le_of_ble_eq_true rfl) (Nat.le_of_ble_eq_true rfl) (Nat.le_of_ble_eq_true rfl) (Nat.le_of_ble_eq_true rfl) dJ1_indexOf_4cfef_18 ?_
    refine lv_topi (fun y_4 ey_4 => ?_)
    obtain rfl : y_4 = 11 := ey_4.trans (by decide)
    refine lv_istore_n (lv' := [(3, .int 11), (2, .int 0), (0, .ref vv), (1, .int v0)]) hx hb dJ1_indexOf_4cfef_21 rfl hl (by decide) rfl (fun ls hl => ?_)
    refine lv_iload_n hx hb dJ1_indexOf_4cfef_22 rfl (lv_at hl 1 rfl) ?_
    refine lv_iload_n hx hb dJ1_indexOf_4cfef_23 rfl (lv_at hl 0 rfl) ?_
    refine lv_icmp_lt (tgt := 29) hx hb dJ1_indexOf_4cfef_24 (by decide) (fun _ => ?_) (fun h => absurd h (by decide))
    refine lv_aload_n hx hb dJ1_indexOf_4cfef_29 rfl (lv_at hl 2 rfl) ?_
    refine lv_iload_n hx hb dJ1_indexOf_4cfef_30 rfl (lv_at hl 3 rfl) ?_
    refine lv_iload_n hx hb dJ1_indexOf_4cfef_31 rfl (lv_at hl 1 rfl) ?_
    refine lv_iload_n hx hb dJ1_indexOf_4cfef_32 rfl (lv_at hl 0 rfl) ?_
    refine vp_callSi (runS_rx (As := [.ref vv, .int v0, .int 0, .int 11]) (rest := []) S (q_indexOfChar l D cI cB cZ zz qq vv bt v0) kS_RJ1_95 hK hXS hS hP [] rfl ⟨Nat.le_of_ble_eq_true rfl, Nat.le_of_ble_eq_true rfl⟩ ⟨Nat.le_of_ble_eq_true rfl, Nat.le_of_ble_eq_true rfl⟩ rfl hl.1 rfl (Nat.le_of_ble_eq_true rfl) dJ1_indexOf_4cfef_33) (fun r_5 h_6 => ?_)
    exact W.iret (v := r_5) hx hb hr (fun t ht hW => ⟨r_5, rfl, trivial, ht⟩) (fun _ h => absurd h List.not_mem_nil) dJ1_indexOf_4cfef_36
  ·
    have h_2 : ¬ (0 ≤ v0.toInt ∧ v0.toInt ≤ 255) := h_2
    refine lv_if_ne (tgt := 9) hx hb dJ1_indexOf_4cfef_4 (by decide) (fun h => absurd h (by decide)) (fun _ => ?_)
    refine lv_iconst (v := (-1)) hx hb dJ1_indexOf_4cfef_7 (by decide) ?_
    exact W.iret (v := (-1)) hx hb hr (fun t ht hW => ⟨(-1), rfl, trivial, ht⟩) (fun _ h => absurd h List.not_mem_nil) dJ1_indexOf_4cfef_8
set_option maxRecDepth 100000 in
set_option maxHeartbeats 4000000 in
theorem q_strIndex2 (l : Launch) (D : va_G) (cI cB cZ : ClassId) (zz qq vv : Nat) (bt : Nat → Int32) (v0 : Int32) : Met l yJ0_indexOf_7cf53 (CWS yJ0_indexOf_7cf53 cJ0_indexOf_7cf53 3 (some .int)) (RM 2 0 0) (PBrx [.ref qq, .int v0, .int 0] D cI cB cZ zz qq vv bt []) (vp_Si (fun _ => True)) 0 0 (fun _ => False) := by
  refine Met.ofW (cc := cJ0_indexOf_7cf53) (maxL := 3) (ret := (some .int)) (by decide) rfl ?_
  intro p e s m args below meth c s₁ B hml hv
  obtain ⟨rfl, hP, hK, hXS⟩ := hv
  have hS : va_S (fun _ => False) s.heap s.heap [] := va_S.rf
  have hx := B.exec
  have hb := B.bytes
  have hr := B.returns
  have hts := atoms_spec (ws := (CWS yJ0_indexOf_7cf53 cJ0_indexOf_7cf53 3 (some .int))) B.pre
  have hown : s.vm.findClass RJ0 = some m.cls := findClass_of_methodNamed B.named
  have hlocks := B.notSynchronized
  have S : SF p m c cJ0_indexOf_7cf53 3 s ([.ref qq, .int v0, .int 0]).toArray RJ0 := ⟨hx, hb, hml, hown, fun w h => hts w (List.mem_cons_of_mem _ h)⟩
  have hP : va_P D vwCl [] s.heap := hP
  have hl := lv_entry ([.ref qq, .int v0, .int 0]) (n := 3) (Nat.le_of_ble_eq_true rfl)
  rw [lg_entry_eq]
  generalize (lg_sl ([.ref qq, .int v0, .int 0]) ++ List.replicate (3 - (lg_sl ([.ref qq, .int v0, .int 0])).length) Slot.unset).toArray = ls at hl ⊢
  have hl : lv_has ls 3 [(0, .ref qq), (1, .int v0), (2, .int 0)] := hl
  refine lv_aload_n hx hb dJ0_indexOf_7cf53_0 rfl (lv_at hl 0 rfl) ?_
  refine vp_callSi (runV_rx (As := []) (rest := []) S (q_isLatin1 l D cI cB cZ zz qq vv bt ) kV_RJ0_492 hK hXS hS hP [] rfl (va_Orecv hXS.2.2.2.1 hS) ⟨Nat.le_of_ble_eq_true rfl, Nat.le_of_ble_eq_true rfl⟩ ⟨Nat.le_of_ble_eq_true rfl, Nat.le_of_ble_eq_true rfl⟩ rfl hl.1 rfl (Nat.le_of_ble_eq_true rfl) dJ0_indexOf_7cf53_1) (fun r_1 h_2 => ?_)
  subst h_2
  refine lv_if_eq (tgt := 23) hx hb dJ0_indexOf_7cf53_4 (by decide) (fun h => absurd h (by decide)) (fun _ => ?_)
  refine lv_aload_n hx hb dJ0_indexOf_7cf53_7 rfl (lv_at hl 0 rfl) ?_
  refine vk_getf hx hb hXS.2.2.2.2.2.1 hS hown (S.2.2.2.2 _ (wT_tab 2080 rfl rfl)) (fun _ h9 => h9) dJ0_indexOf_7cf53_8 ?_
  refine lv_iload_n hx hb dJ0_indexOf_7cf53_11 rfl (lv_at hl 1 rfl) ?_
  refine lv_iload_n hx hb dJ0_indexOf_7cf53_12 rfl (lv_at hl 2 rfl) ?_
  refine lv_aload_n hx hb dJ0_indexOf_7cf53_13 rfl (lv_at hl 0 rfl) ?_
  refine vp_callSi (runV_rx (As := []) (rest := [.int 0, .int v0, .ref vv]) S (q_strLen l D cI cB cZ zz qq vv bt ) kV_RJ0_505 hK hXS hS hP [] rfl (va_Orecv hXS.2.2.2.1 hS) ⟨Nat.le_of_ble_eq_true rfl, Nat.le_of_ble_eq_true rfl⟩ ⟨Nat.le_of_ble_eq_true rfl, Nat.le_of_ble_eq_true rfl⟩ rfl hl.1 rfl (Nat.le_of_ble_eq_true rfl) dJ0_indexOf_7cf53_14) (fun r_3 h_4 => ?_)
  subst h_4
  refine vp_callSi (runS_rx (As := [.ref vv, .int v0, .int 0, .int 11]) (rest := []) S (q_lat1Index l D cI cB cZ zz qq vv bt v0) kS_RJ0_637 hK hXS hS hP [] rfl ⟨Nat.le_of_ble_eq_true rfl, Nat.le_of_ble_eq_true rfl⟩ ⟨Nat.le_of_ble_eq_true rfl, Nat.le_of_ble_eq_true rfl⟩ rfl hl.1 rfl (Nat.le_of_ble_eq_true rfl) dJ0_indexOf_7cf53_17) (fun r_5 h_6 => ?_)
  refine lv_goto (tgt := 36) hx hb dJ0_indexOf_7cf53_20 (by decide) ?_
  exact W.iret (v := r_5) hx hb hr (fun t ht hW => ⟨r_5, rfl, trivial, ht⟩) (fun _ h => absurd h List.not_mem_nil) dJ0_indexOf_7cf53_36
set_option maxRecDepth 100000 in
set_option maxHeartbeats 4000000 in
theorem q_strIndex (l : Launch) (D : va_G) (cI cB cZ : ClassId) (zz qq vv : Nat) (bt : Nat → Int32) (v0 : Int32) : Met l yJ0_indexOf_0f7a4 (CWS yJ0_indexOf_0f7a4 cJ0_indexOf_0f7a4 2 (some .int)) (RM 3 0 0) (PBrx [.ref qq, .int v0] D cI cB cZ zz qq vv bt []) (vp_Si (fun _ => True)) 0 0 (fun _ => False) := by
  refine Met.ofW (cc := cJ0_indexOf_0f7a4) (maxL := 2) (ret := (some .int)) (by decide) rfl ?_
  intro p e s m args below meth c s₁ B hml hv
  obtain ⟨rfl, hP, hK, hXS⟩ := hv
  have hS : va_S (fun _ => False) s.heap s.heap [] := va_S.rf
  have hx := B.exec
  have hb := B.bytes
  have hr := B.returns
  have hts := atoms_spec (ws := (CWS yJ0_indexOf_0f7a4 cJ0_indexOf_0f7a4 2 (some .int))) B.pre
  have hown : s.vm.findClass RJ0 = some m.cls := findClass_of_methodNamed B.named
  have hlocks := B.notSynchronized
  have S : SF p m c cJ0_indexOf_0f7a4 2 s ([.ref qq, .int v0]).toArray RJ0 := ⟨hx, hb, hml, hown, fun w h => hts w (List.mem_cons_of_mem _ h)⟩
  have hP : va_P D vwCl [] s.heap := hP
  have hl := lv_entry ([.ref qq, .int v0]) (n := 2) (Nat.le_of_ble_eq_true rfl)
  rw [lg_entry_eq]
  generalize (lg_sl ([.ref qq, .int v0]) ++ List.replicate (2 - (lg_sl ([.ref qq, .int v0])).length) Slot.unset).toArray = ls at hl ⊢
  have hl : lv_has ls 2 [(0, .ref qq), (1, .int v0)] := hl
  refine lv_aload_n hx hb dJ0_indexOf_0f7a4_0 rfl (lv_at hl 0 rfl) ?_
  refine lv_iload_n hx hb dJ0_indexOf_0f7a4_1 rfl (lv_at hl 1 rfl) ?_
  refine lv_iconst (v := 0) hx hb dJ0_indexOf_0f7a4_2 (by decide) ?_
  refine vp_callSi (runV_rx (As := [.int v0, .int 0]) (rest := []) S (q_strIndex2 l D cI cB cZ zz qq vv bt v0) kV_RJ0_633 hK hXS hS hP [] rfl (va_Orecv hXS.2.2.2.1 hS) ⟨Nat.le_of_ble_eq_true rfl, Nat.le_of_ble_eq_true rfl⟩ ⟨Nat.le_of_ble_eq_true rfl, Nat.le_of_ble_eq_true rfl⟩ rfl hl.1 rfl (Nat.le_of_ble_eq_true rfl) dJ0_indexOf_0f7a4_3) (fun r_1 h_2 => ?_)
  exact W.iret (v := r_1) hx hb hr (fun t ht hW => ⟨r_1, rfl, trivial, ht⟩) (fun _ h => absurd h List.not_mem_nil) dJ0_indexOf_0f7a4_6
set_option maxRecDepth 100000 in
set_option maxHeartbeats 4000000 in
theorem q_letter (l : Launch) (D : va_G) (cI cB cZ : ClassId) (zz qq vv : Nat) (bt : Nat → Int32) (g : Nat → Nat) (f : Nat → Int32) (v0 v1 : Int32) (sz : Nat) : Met l yX11_letter (CWS yX11_letter cX11_letter 3 none) (RM 4 0 0) (PBx [.ref (g 0), .int v0, .int v1] D cI cB cZ zz qq vv bt [((g 0), .inr (12, oX g)), ((g 7), .inl (cI, 11, .inl f))] sz) (va_Qv (fun (_ : Nat → Int32) => True) (fun (u : Nat → Int32) (t : State) => va_P D vwCl [((g 0), .inr (12, oX g)), ((g 7), .inl (cI, 11, .inl u))] t.heap ∧ va_D (va_A [((g 0), .inr (12, oX g)), ((g 7), .inl (cI, 11, .inl f))] sz) [((g 0), .inr (12, oX g)), ((g 7), .inl (cI, 11, .inl u))]) (va_A [((g 0), .inr (12, oX g)), ((g 7), .inl (cI, 11, .inl f))] sz)) 0 0 (va_A [((g 0), .inr (12, oX g)), ((g 7), .inl (cI, 11, .inl f))] sz) := by
  refine Met.ofW (cc := cX11_letter) (maxL := 3) (ret := none) (by decide) rfl ?_
  intro p e s m args below meth c s₁ B hml hv
  obtain ⟨rfl, hsz, hP, hK, hD0, hXS⟩ := hv
  have hx := B.exec
  have hb := B.bytes
  have hr := B.returns
  have hts := atoms_spec (ws := (CWS yX11_letter cX11_letter 3 none)) B.pre
  have hown : s.vm.findClass RX11 = some m.cls := findClass_of_methodNamed B.named
  have hlocks := B.notSynchronized
  have S : SF p m c cX11_letter 3 s ([.ref (g 0), .int v0, .int v1]).toArray RX11 := ⟨hx, hb, hml, hown, fun w h => hts w (List.mem_cons_of_mem _ h)⟩
  subst hsz
  have hD := hD0.self (sz := s.heap.size)
  generalize hAe : va_A [((g 0), .inr (12, oX g)), ((g 7), .inl (cI, 11, .inl f))] s.heap.size = A at hD hXS ⊢
  have hA : ∀ q : Nat, s.heap.size ≤ q → A q := fun q h => by rw [← hAe]; exact Or.inr h
  have hS : va_S A s.heap s.heap [] := va_S.rf
  have hP : va_P D vwCl [((g 0), .inr (12, oX g)), ((g 7), .inl (cI, 11, .inl f))] s.heap := hP
  have hD : va_D A [((g 0), .inr (12, oX g)), ((g 7), .inl (cI, 11, .inl f))] := hD
  have hl := lv_entry ([.ref (g 0), .int v0, .int v1]) (n := 3) (Nat.le_of_ble_eq_true rfl)
  rw [lg_entry_eq]
  generalize (lg_sl ([.ref (g 0), .int v0, .int v1]) ++ List.replicate (3 - (lg_sl ([.ref (g 0), .int v0, .int v1])).length) Slot.unset).toArray = ls at hl ⊢
  have hl : lv_has ls 3 [(0, .ref (g 0)), (1, .int v0), (2, .int v1)] := hl
  refine lv_aload_n hx hb dX11_letter_0 rfl (lv_at hl 0 rfl) ?_
  refine gf_RX11_40 S hK hP 0 rfl (v := .ref (g 7)) rfl dX11_letter_1 ?_
  refine va_ldcS hx hb hown hXS.2.2.2.2.2.2.2.1 dX11_letter_4 ?_
  refine lv_iload_n hx hb dX11_letter_6 rfl (lv_at hl 1 rfl) ?_
  refine vp_callSi (runV_rx (As := [.int v0]) (rest := [.ref (g 7)]) S (q_strIndex l D cI cB cZ zz qq vv bt v0) kV_RX11_181 hK hXS hS hP [] rfl (va_Orecv hXS.2.2.2.1 hS) ⟨Nat.le_of_ble_eq_true rfl, Nat.le_of_ble_eq_true rfl⟩ ⟨Nat.le_of_ble_eq_true rfl, Nat.le_of_ble_eq_true rfl⟩ rfl hl.1 rfl (Nat.le_of_ble_eq_true rfl) dX11_letter_7) (fun r_1 h_2 => ?_)
  refine lv_iload_n hx hb dX11_letter_10 rfl (lv_at hl 2 rfl) ?_
  have hFc := va_free (wc := [((g 7), .inl (cI, 11, .inl f))]) hD hS hA [1] rfl
  refine va_callv (runS_w (As := [.ref (g 7), .int r_1, .int v1]) (rest := []) S (q_putU l D cI cB cZ (g 7) 11 f r_1 v1 s.heap.size (by omega)) kS_RX11_184 hK hP hD [1] rfl rfl (by decide) ⟨Nat.le_of_ble_eq_true rfl, Nat.le_of_ble_eq_true rfl⟩ ⟨Nat.le_of_ble_eq_true rfl, Nat.le_of_ble_eq_true rfl⟩ rfl hl.1 rfl (Nat.le_of_ble_eq_true rfl) dX11_letter_11) hS (fun q _ h => hFc q h) hFc (fun u_4 t H1 locs ht hvm h_5 hB hz1 hk1 hS => ?_)
  obtain ⟨hP1, hD1⟩ := hB
  rw [ht] at hP1
  obtain ⟨hP, hD⟩ := va_join (wr := [((g 0), .inr (12, oX g))]) (w1 := [((g 7), .inl (cI, 11, .inl u_4))]) hP hD [1] [0] rfl rfl (by decide) (by decide) hk1 hFc hP1 hD1
  generalize H1 = H at hP hS ⊢
  have hP : va_P D vwCl [((g 0), .inr (12, oX g)), ((g 7), .inl (cI, 11, .inl u_4))] H := hP
  have hD : va_D A [((g 0), .inr (12, oX g)), ((g 7), .inl (cI, 11, .inl u_4))] := hD
  have hP9 := hP.sub (ws' := [((g 0), .inr (12, oX g)), ((g 7), .inl (cI, 11, .inl u_4))]) [0, 1] rfl
  have hD9 := hD.sub (ws' := [((g 0), .inr (12, oX g)), ((g 7), .inl (cI, 11, .inl u_4))]) [0, 1] (by decide) rfl
  exact W.vret hx hb hr (fun t ht hW => ⟨⟨u_4, rfl, trivial, by rw [ht]; exact hP9, hD9⟩, hS.F ht⟩) hS.2.2 dX11_letter_14
set_option maxRecDepth 100000 in
set_option maxHeartbeats 4000000 in
theorem q_lettersOfDay (l : Launch) (D : va_G) (cI cB cZ : ClassId) (zz qq vv : Nat) (bt : Nat → Int32) (g : Nat → Nat) (f : Nat → Int32) (sz : Nat) : Met l yX11_lettersOfDay (CWS yX11_lettersOfDay cX11_lettersOfDay 2 none) (RM 5 0 0) (PBx [.ref (g 0), .int 0] D cI cB cZ zz qq vv bt [((g 0), .inr (12, oX g)), ((g 7), .inl (cI, 11, .inl f)), ((g 8), .inr (8, oT g)), ((g 20), .inl (cI, 58, .inl (fun _ => 0)))] sz) (va_Qv (fun (_ : Nat → Int32) => True) (fun (u : Nat → Int32) (t : State) => va_P D vwCl [((g 0), .inr (12, oX g)), ((g 7), .inl (cI, 11, .inl u)), ((g 8), .inr (8, oT g)), ((g 20), .inl (cI, 58, .inl (fun _ => 0)))] t.heap ∧ va_D (va_A [((g 0), .inr (12, oX g)), ((g 7), .inl (cI, 11, .inl f)), ((g 8), .inr (8, oT g)), ((g 20), .inl (cI, 58, .inl (fun _ => 0)))] sz) [((g 0), .inr (12, oX g)), ((g 7), .inl (cI, 11, .inl u)), ((g 8), .inr (8, oT g)), ((g 20), .inl (cI, 58, .inl (fun _ => 0)))]) (va_A [((g 0), .inr (12, oX g)), ((g 7), .inl (cI, 11, .inl f)), ((g 8), .inr (8, oT g)), ((g 20), .inl (cI, 58, .inl (fun _ => 0)))] sz)) 0 0 (va_A [((g 0), .inr (12, oX g)), ((g 7), .inl (cI, 11, .inl f)), ((g 8), .inr (8, oT g)), ((g 20), .inl (cI, 58, .inl (fun _ => 0)))] sz) := by
  refine Met.ofW (cc := cX11_lettersOfDay) (maxL := 2) (ret := none) (by decide) rfl ?_
  intro p e s m args below meth c s₁ B hml hv
  obtain ⟨rfl, hsz, hP, hK, hD0, hXS⟩ := hv
  have hx := B.exec
  have hb := B.bytes
  have hr := B.returns
  have hts := atoms_spec (ws := (CWS yX11_lettersOfDay cX11_lettersOfDay 2 none)) B.pre
  have hown : s.vm.findClass RX11 = some m.cls := findClass_of_methodNamed B.named
  have hlocks := B.notSynchronized
  have S : SF p m c cX11_lettersOfDay 2 s ([.ref (g 0), .int 0]).toArray RX11 := ⟨hx, hb, hml, hown, fun w h => hts w (List.mem_cons_of_mem _ h)⟩
  subst hsz
  have hD := hD0.self (sz := s.heap.size)
  generalize hAe : va_A [((g 0), .inr (12, oX g)), ((g 7), .inl (cI, 11, .inl f)), ((g 8), .inr (8, oT g)), ((g 20), .inl (cI, 58, .inl (fun _ => 0)))] s.heap.size = A at hD hXS ⊢
  have hA : ∀ q : Nat, s.heap.size ≤ q → A q := fun q h => by rw [← hAe]; exact Or.inr h
  have hS : va_S A s.heap s.heap [] := va_S.rf
  have hP : va_P D vwCl [((g 0), .inr (12, oX g)), ((g 7), .inl (cI, 11, .inl f)), ((g 8), .inr (8, oT g)), ((g 20), .inl (cI, 58, .inl (fun _ => 0)))] s.heap := hP
  have hD : va_D A [((g 0), .inr (12, oX g)), ((g 7), .inl (cI, 11, .inl f)), ((g 8), .inr (8, oT g)), ((g 20), .inl (cI, 58, .inl (fun _ => 0)))] := hD
  have hl := lv_entry ([.ref (g 0), .int 0]) (n := 2) (Nat.le_of_ble_eq_true rfl)
  rw [lg_entry_eq]
  generalize (lg_sl ([.ref (g 0), .int 0]) ++ List.replicate (2 - (lg_sl ([.ref (g 0), .int 0])).length) Slot.unset).toArray = ls at hl ⊢
  have hl : lv_has ls 2 [(0, .ref (g 0)), (1, .int 0)] := hl
  refine lv_aload_n hx hb dX11_lettersOfDay_0 rfl (lv_at hl 0 rfl) ?_
  refine lv_bipush (v := 100) hx hb dX11_lettersOfDay_1 (by decide) ?_
  refine lv_iload_n hx hb dX11_lettersOfDay_3 rfl (lv_at hl 1 rfl) ?_
  have hFc := va_free (wc := [((g 0), .inr (12, oX g)), ((g 7), .inl (cI, 11, .inl f))]) hD hS hA [0, 1] rfl
  refine va_callv (runV_x (As := [.int 100, .int 0]) (rest := []) S (q_letter l D cI cB cZ zz qq vv bt g f 100 0 s.heap.size) kV_RX11_188 hK hXS hS hFc hP hD [0, 1] rfl rfl (by decide) 0 rfl rfl rfl ⟨Nat.le_of_ble_eq_true rfl, Nat.le_of_ble_eq_true rfl⟩ ⟨Nat.le_of_ble_eq_true rfl, Nat.le_of_ble_eq_true rfl⟩ rfl hl.1 rfl (Nat.le_of_ble_eq_true rfl) dX11_lettersOfDay_4) hS (fun q _ h => hFc q h) hFc (fun u_2 t H1 locs ht hvm h_3 hB hz1 hk1 hS => ?_)
  obtain ⟨hP1, hD1⟩ := hB
  rw [ht] at hP1
  obtain ⟨hP, hD⟩ := va_join (wr := [((g 8), .inr (8, oT g)), ((g 20), .inl (cI, 58, .inl (fun _ => 0)))]) (w1 := [((g 0), .inr (12, oX g)), ((g 7), .inl (cI, 11, .inl u_2))]) hP hD [0, 1] [2, 3] rfl rfl (by decide) (by decide) hk1 hFc hP1 hD1
  generalize H1 = H at hP hS ⊢
  have hP : va_P D vwCl [((g 8), .inr (8, oT g)), ((g 20), .inl (cI, 58, .inl (fun _ => 0))), ((g 0), .inr (12, oX g)), ((g 7), .inl (cI, 11, .inl u_2))] H := hP
  have hD : va_D A [((g 8), .inr (8, oT g)), ((g 20), .inl (cI, 58, .inl (fun _ => 0))), ((g 0), .inr (12, oX g)), ((g 7), .inl (cI, 11, .inl u_2))] := hD
  refine lv_aload_n hx hb dX11_lettersOfDay_7 rfl (lv_at hl 0 rfl) ?_
  refine lv_bipush (v := 119) hx hb dX11_lettersOfDay_8 (by decide) ?_
  refine lv_iload_n hx hb dX11_lettersOfDay_10 rfl (lv_at hl 1 rfl) ?_
  refine lv_bipush (v := 7) hx hb dX11_lettersOfDay_11 (by decide) ?_
  refine lv_idiv hx hb dX11_lettersOfDay_13 (by decide) ?_
  refine lv_topi (fun y_4 ey_4 => ?_)
  obtain rfl : y_4 = 0 := ey_4.trans (by decide)
  have hFc := va_free (wc := [((g 0), .inr (12, oX g)), ((g 7), .inl (cI, 11, .inl u_2))]) hD hS hA [2, 3] rfl
  refine va_callv (runV_x (As := [.int 119, .int 0]) (rest := []) S (q_letter l D cI cB cZ zz qq vv bt g u_2 119 0 H.size) kV_RX11_188 hK hXS hS hFc hP hD [2, 3] rfl rfl (by decide) 2 rfl rfl rfl ⟨Nat.le_of_ble_eq_true rfl, Nat.le_of_ble_eq_true rfl⟩ ⟨Nat.le_of_ble_eq_true rfl, Nat.le_of_ble_eq_true rfl⟩ rfl hl.1 rfl (Nat.le_of_ble_eq_true rfl) dX11_lettersOfDay_14) hS (fun q _ h => hFc q h) hFc (fun u_6 t H1 locs ht hvm h_7 hB hz1 hk1 hS => ?_)
  obtain ⟨hP1, hD1⟩ := hB
  rw [ht] at hP1
  obtain ⟨hP, hD⟩ := va_join (wr := [((g 8), .inr (8, oT g)), ((g 20), .inl (cI, 58, .inl (fun _ => 0)))]) (w1 := [((g 0), .inr (12, oX g)), ((g 7), .inl (cI, 11, .inl u_6))]) hP hD [2, 3] [0, 1] rfl rfl (by decide) (by decide) hk1 hFc hP1 hD1
  generalize H1 = H at hP hS ⊢
  have hP : va_P D vwCl [((g 8), .inr (8, oT g)), ((g 20), .inl (cI, 58, .inl (fun _ => 0))), ((g 0), .inr (12, oX g)), ((g 7), .inl (cI, 11, .inl u_6))] H := hP
  have hD : va_D A [((g 8), .inr (8, oT g)), ((g 20), .inl (cI, 58, .inl (fun _ => 0))), ((g 0), .inr (12, oX g)), ((g 7), .inl (cI, 11, .inl u_6))] := hD
  refine lv_aload_n hx hb dX11_lettersOfDay_17 rfl (lv_at hl 0 rfl) ?_
  refine lv_bipush (v := 103) hx hb dX11_lettersOfDay_18 (by decide) ?_
  refine lv_iload_n hx hb dX11_lettersOfDay_20 rfl (lv_at hl 1 rfl) ?_
  refine lv_bipush (v := 7) hx hb dX11_lettersOfDay_21 (by decide) ?_
  refine lv_irem hx hb dX11_lettersOfDay_23 (by decide) ?_
  refine lv_topi (fun y_8 ey_8 => ?_)
  obtain rfl : y_8 = 0 := ey_8.trans (by decide)
  have hFc := va_free (wc := [((g 0), .inr (12, oX g)), ((g 7), .inl (cI, 11, .inl u_6))]) hD hS hA [2, 3] rfl
  refine va_callv (runV_x (As := [.int 103, .int 0]) (rest := []) S (q_letter l D cI cB cZ zz qq vv bt g u_6 103 0 H.size) kV_RX11_188 hK hXS hS hFc hP hD [2, 3] rfl rfl (by decide) 2 rfl rfl rfl ⟨Nat.le_of_ble_eq_true rfl, Nat.le_of_ble_eq_true rfl⟩ ⟨Nat.le_of_ble_eq_true rfl, Nat.le_of_ble_eq_true rfl⟩ rfl hl.1 rfl (Nat.le_of_ble_eq_true rfl) dX11_lettersOfDay_24) hS (fun q _ h => hFc q h) hFc (fun u_10 t H1 locs ht hvm h_11 hB hz1 hk1 hS => ?_)
  obtain ⟨hP1, hD1⟩ := hB
  rw [ht] at hP1
  obtain ⟨hP, hD⟩ := va_join (wr := [((g 8), .inr (8, oT g)), ((g 20), .inl (cI, 58, .inl (fun _ => 0)))]) (w1 := [((g 0), .inr (12, oX g)), ((g 7), .inl (cI, 11, .inl u_10))]) hP hD [2, 3] [0, 1] rfl rfl (by decide) (by decide) hk1 hFc hP1 hD1
  generalize H1 = H at hP hS ⊢
  have hP : va_P D vwCl [((g 8), .inr (8, oT g)), ((g 20), .inl (cI, 58, .inl (fun _ => 0))), ((g 0), .inr (12, oX g)), ((g 7), .inl (cI, 11, .inl u_10))] H := hP
  have hD : va_D A [((g 8), .inr (8, oT g)), ((g 20), .inl (cI, 58, .inl (fun _ => 0))), ((g 0), .inr (12, oX g)), ((g 7), .inl (cI, 11, .inl u_10))] := hD
  refine lv_aload_n hx hb dX11_lettersOfDay_27 rfl (lv_at hl 0 rfl) ?_
  refine lv_bipush (v := 111) hx hb dX11_lettersOfDay_28 (by decide) ?_
  refine lv_aload_n hx hb dX11_lettersOfDay_30 rfl (lv_at hl 0 rfl) ?_
  refine gf_RX11_47 S hK hP 2 rfl (v := .ref (g 8)) rfl dX11_lettersOfDay_31 ?_
  refine gf_RX11_174 S hK hP 0 rfl (v := .ref (g 20)) rfl dX11_lettersOfDay_34 ?_
  refine lv_iload_n hx hb dX11_lettersOfDay_37 rfl (lv_at hl 1 rfl) ?_
  refine lv_bipush (v := 7) hx hb dX11_lettersOfDay_38 (by decide) ?_
  refine lv_idiv hx hb dX11_lettersOfDay_40 (by decide) ?_
  refine lv_topi (fun y_12 ey_12 => ?_)
  obtain rfl : y_12 = 0 := ey_12.trans (by decide)
  refine vp_callSi (runS_r (As := [.ref (g 20), .int 0]) (rest := [.int 111, .ref (g 0)]) S (q_at0 l D cI cB cZ (g 20) 58 0 (by omega)) kS_RX11_192 hK hP [1] rfl ⟨Nat.le_of_ble_eq_true rfl, Nat.le_of_ble_eq_true rfl⟩ ⟨Nat.le_of_ble_eq_true rfl, Nat.le_of_ble_eq_true rfl⟩ rfl hl.1 rfl (Nat.le_of_ble_eq_true rfl) dX11_lettersOfDay_41) (fun r_13 h_14 => ?_)
  subst h_14
  have hFc := va_free (wc := [((g 0), .inr (12, oX g)), ((g 7), .inl (cI, 11, .inl u_10))]) hD hS hA [2, 3] rfl
  refine va_callv (runV_x (As := [.int 111, .int 0]) (rest := []) S (q_letter l D cI cB cZ zz qq vv bt g u_10 111 0 H.size) kV_RX11_188 hK hXS hS hFc hP hD [2, 3] rfl rfl (by decide) 2 rfl rfl rfl ⟨Nat.le_of_ble_eq_true rfl, Nat.le_of_ble_eq_true rfl⟩ ⟨Nat.le_of_ble_eq_true rfl, Nat.le_of_ble_eq_true rfl⟩ rfl hl.1 rfl (Nat.le_of_ble_eq_true rfl) dX11_lettersOfDay_44) hS (fun q _ h => hFc q h) hFc (fun u_16 t H1 locs ht hvm h_17 hB hz1 hk1 hS => ?_)
  obtain ⟨hP1, hD1⟩ := hB
  rw [ht] at hP1
  obtain ⟨hP, hD⟩ := va_join (wr := [((g 8), .inr (8, oT g)), ((g 20), .inl (cI, 58, .inl (fun _ => 0)))]) (w1 := [((g 0), .inr (12, oX g)), ((g 7), .inl (cI, 11, .inl u_16))]) hP hD [2, 3] [0, 1] rfl rfl (by decide) (by decide) hk1 hFc hP1 hD1
  generalize H1 = H at hP hS ⊢
  have hP : va_P D vwCl [((g 8), .inr (8, oT g)), ((g 20), .inl (cI, 58, .inl (fun _ => 0))), ((g 0), .inr (12, oX g)), ((g 7), .inl (cI, 11, .inl u_16))] H := hP
  have hD : va_D A [((g 8), .inr (8, oT g)), ((g 20), .inl (cI, 58, .inl (fun _ => 0))), ((g 0), .inr (12, oX g)), ((g 7), .inl (cI, 11, .inl u_16))] := hD
  have hP9 := hP.sub (ws' := [((g 0), .inr (12, oX g)), ((g 7), .inl (cI, 11, .inl u_16)), ((g 8), .inr (8, oT g)), ((g 20), .inl (cI, 58, .inl (fun _ => 0)))]) [2, 3, 0, 1] rfl
  have hD9 := hD.sub (ws' := [((g 0), .inr (12, oX g)), ((g 7), .inl (cI, 11, .inl u_16)), ((g 8), .inr (8, oT g)), ((g 20), .inl (cI, 58, .inl (fun _ => 0)))]) [2, 3, 0, 1] (by decide) rfl
  exact W.vret hx hb hr (fun t ht hW => ⟨⟨u_16, rfl, trivial, by rw [ht]; exact hP9, hD9⟩, hS.F ht⟩) hS.2.2 dX11_lettersOfDay_47
set_option maxRecDepth 100000 in
set_option maxHeartbeats 4000000 in
theorem q_lettersOfLaw (l : Launch) (D : va_G) (cI cB cZ : ClassId) (zz qq vv : Nat) (bt : Nat → Int32) (g : Nat → Nat) (f : Nat → Int32) (sz : Nat) : Met l yX11_lettersOfLaw (CWS yX11_lettersOfLaw cX11_lettersOfLaw 1 none) (RM 6 0 0) (PBx [.ref (g 0)] D cI cB cZ zz qq vv bt [((g 0), .inr (12, oX g)), ((g 7), .inl (cI, 11, .inl f)), ((g 8), .inr (8, oT g)), ((g 20), .inl (cI, 58, .inl (fun _ => 0)))] sz) (va_Qv (fun (_ : Nat → Int32) => True) (fun (u : Nat → Int32) (t : State) => va_P D vwCl [((g 0), .inr (12, oX g)), ((g 7), .inl (cI, 11, .inl u)), ((g 8), .inr (8, oT g)), ((g 20), .inl (cI, 58, .inl (fun _ => 0)))] t.heap ∧ va_D (va_A [((g 0), .inr (12, oX g)), ((g 7), .inl (cI, 11, .inl f)), ((g 8), .inr (8, oT g)), ((g 20), .inl (cI, 58, .inl (fun _ => 0)))] sz) [((g 0), .inr (12, oX g)), ((g 7), .inl (cI, 11, .inl u)), ((g 8), .inr (8, oT g)), ((g 20), .inl (cI, 58, .inl (fun _ => 0)))]) (va_A [((g 0), .inr (12, oX g)), ((g 7), .inl (cI, 11, .inl f)), ((g 8), .inr (8, oT g)), ((g 20), .inl (cI, 58, .inl (fun _ => 0)))] sz)) 0 0 (va_A [((g 0), .inr (12, oX g)), ((g 7), .inl (cI, 11, .inl f)), ((g 8), .inr (8, oT g)), ((g 20), .inl (cI, 58, .inl (fun _ => 0)))] sz) := by
  refine Met.ofW (cc := cX11_lettersOfLaw) (maxL := 1) (ret := none) (by decide) rfl ?_
  intro p e s m args below meth c s₁ B hml hv
  obtain ⟨rfl, hsz, hP, hK, hD0, hXS⟩ := hv
  have hx := B.exec
  have hb := B.bytes
  have hr := B.returns
  have hts := atoms_spec (ws := (CWS yX11_lettersOfLaw cX11_lettersOfLaw 1 none)) B.pre
  have hown : s.vm.findClass RX11 = some m.cls := findClass_of_methodNamed B.named
  have hlocks := B.notSynchronized
  have S : SF p m c cX11_lettersOfLaw 1 s ([.ref (g 0)]).toArray RX11 := ⟨hx, hb, hml, hown, fun w h => hts w (List.mem_cons_of_mem _ h)⟩
  subst hsz
  have hD := hD0.self (sz := s.heap.size)
  generalize hAe : va_A [((g 0), .inr (12, oX g)), ((g 7), .inl (cI, 11, .inl f)), ((g 8), .inr (8, oT g)), ((g 20), .inl (cI, 58, .inl (fun _ => 0)))] s.heap.size = A at hD hXS ⊢
  have hA : ∀ q : Nat, s.heap.size ≤ q → A q := fun q h => by rw [← hAe]; exact Or.inr h
  have hS : va_S A s.heap s.heap [] := va_S.rf
  have hP : va_P D vwCl [((g 0), .inr (12, oX g)), ((g 7), .inl (cI, 11, .inl f)), ((g 8), .inr (8, oT g)), ((g 20), .inl (cI, 58, .inl (fun _ => 0)))] s.heap := hP
  have hD : va_D A [((g 0), .inr (12, oX g)), ((g 7), .inl (cI, 11, .inl f)), ((g 8), .inr (8, oT g)), ((g 20), .inl (cI, 58, .inl (fun _ => 0)))] := hD
  have hl := lv_entry ([.ref (g 0)]) (n := 1) (Nat.le_of_ble_eq_true rfl)
  rw [lg_entry_eq]
  generalize (lg_sl ([.ref (g 0)]) ++ List.replicate (1 - (lg_sl ([.ref (g 0)])).length) Slot.unset).toArray = ls at hl ⊢
  have hl : lv_has ls 1 [(0, .ref (g 0))] := hl
  refine lv_aload_n hx hb dX11_lettersOfLaw_0 rfl (lv_at hl 0 rfl) ?_
  refine lv_aload_n hx hb dX11_lettersOfLaw_1 rfl (lv_at hl 0 rfl) ?_
  refine gf_RX11_103 S hK hP 0 rfl (v := .int 0) rfl dX11_lettersOfLaw_2 ?_
  have hFc := va_free (wc := [((g 0), .inr (12, oX g)), ((g 7), .inl (cI, 11, .inl f)), ((g 8), .inr (8, oT g)), ((g 20), .inl (cI, 58, .inl (fun _ => 0)))]) hD hS hA [0, 1, 2, 3] rfl
  refine va_callv (runV_x (As := [.int 0]) (rest := []) S (q_lettersOfDay l D cI cB cZ zz qq vv bt g f s.heap.size) kV_RX11_199 hK hXS hS hFc hP hD [0, 1, 2, 3] rfl rfl (by decide) 0 rfl rfl rfl ⟨Nat.le_of_ble_eq_true rfl, Nat.le_of_ble_eq_true rfl⟩ ⟨Nat.le_of_ble_eq_true rfl, Nat.le_of_ble_eq_true rfl⟩ rfl hl.1 rfl (Nat.le_of_ble_eq_true rfl) dX11_lettersOfLaw_5) hS (fun q _ h => hFc q h) hFc (fun u_2 t H1 locs ht hvm h_3 hB hz1 hk1 hS => ?_)
  obtain ⟨hP1, hD1⟩ := hB
  rw [ht] at hP1
  obtain ⟨hP, hD⟩ := va_join (wr := []) (w1 := [((g 0), .inr (12, oX g)), ((g 7), .inl (cI, 11, .inl u_2)), ((g 8), .inr (8, oT g)), ((g 20), .inl (cI, 58, .inl (fun _ => 0)))]) hP hD [0, 1, 2, 3] [] rfl rfl (by decide) (by decide) hk1 hFc hP1 hD1
  generalize H1 = H at hP hS ⊢
  have hP : va_P D vwCl [((g 0), .inr (12, oX g)), ((g 7), .inl (cI, 11, .inl u_2)), ((g 8), .inr (8, oT g)), ((g 20), .inl (cI, 58, .inl (fun _ => 0)))] H := hP
  have hD : va_D A [((g 0), .inr (12, oX g)), ((g 7), .inl (cI, 11, .inl u_2)), ((g 8), .inr (8, oT g)), ((g 20), .inl (cI, 58, .inl (fun _ => 0)))] := hD
  refine lv_aload_n hx hb dX11_lettersOfLaw_8 rfl (lv_at hl 0 rfl) ?_
  refine lv_bipush (v := 107) hx hb dX11_lettersOfLaw_9 (by decide) ?_
  refine lv_iconst (v := 0) hx hb dX11_lettersOfLaw_11 (by decide) ?_
  have hFc := va_free (wc := [((g 0), .inr (12, oX g)), ((g 7), .inl (cI, 11, .inl u_2))]) hD hS hA [0, 1] rfl
  refine va_callv (runV_x (As := [.int 107, .int 0]) (rest := []) S (q_letter l D cI cB cZ zz qq vv bt g u_2 107 0 H.size) kV_RX11_188 hK hXS hS hFc hP hD [0, 1] rfl rfl (by decide) 0 rfl rfl rfl ⟨Nat.le_of_ble_eq_true rfl, Nat.le_of_ble_eq_true rfl⟩ ⟨Nat.le_of_ble_eq_true rfl, Nat.le_of_ble_eq_true rfl⟩ rfl hl.1 rfl (Nat.le_of_ble_eq_true rfl) dX11_lettersOfLaw_12) hS (fun q _ h => hFc q h) hFc (fun u_5 t H1 locs ht hvm h_6 hB hz1 hk1 hS => ?_)
  obtain ⟨hP1, hD1⟩ := hB
  rw [ht] at hP1
  obtain ⟨hP, hD⟩ := va_join (wr := [((g 8), .inr (8, oT g)), ((g 20), .inl (cI, 58, .inl (fun _ => 0)))]) (w1 := [((g 0), .inr (12, oX g)), ((g 7), .inl (cI, 11, .inl u_5))]) hP hD [0, 1] [2, 3] rfl rfl (by decide) (by decide) hk1 hFc hP1 hD1
  generalize H1 = H at hP hS ⊢
  have hP : va_P D vwCl [((g 8), .inr (8, oT g)), ((g 20), .inl (cI, 58, .inl (fun _ => 0))), ((g 0), .inr (12, oX g)), ((g 7), .inl (cI, 11, .inl u_5))] H := hP
  have hD : va_D A [((g 8), .inr (8, oT g)), ((g 20), .inl (cI, 58, .inl (fun _ => 0))), ((g 0), .inr (12, oX g)), ((g 7), .inl (cI, 11, .inl u_5))] := hD
  refine lv_aload_n hx hb dX11_lettersOfLaw_15 rfl (lv_at hl 0 rfl) ?_
  refine lv_bipush (v := 109) hx hb dX11_lettersOfLaw_16 (by decide) ?_
  refine lv_iconst (v := 0) hx hb dX11_lettersOfLaw_18 (by decide) ?_
  have hFc := va_free (wc := [((g 0), .inr (12, oX g)), ((g 7), .inl (cI, 11, .inl u_5))]) hD hS hA [2, 3] rfl
  refine va_callv (runV_x (As := [.int 109, .int 0]) (rest := []) S (q_letter l D cI cB cZ zz qq vv bt g u_5 109 0 H.size) kV_RX11_188 hK hXS hS hFc hP hD [2, 3] rfl rfl (by decide) 2 rfl rfl rfl ⟨Nat.le_of_ble_eq_true rfl, Nat.le_of_ble_eq_true rfl⟩ ⟨Nat.le_of_ble_eq_true rfl, Nat.le_of_ble_eq_true rfl⟩ rfl hl.1 rfl (Nat.le_of_ble_eq_true rfl) dX11_lettersOfLaw_19) hS (fun q _ h => hFc q h) hFc (fun u_8 t H1 locs ht hvm h_9 hB hz1 hk1 hS => ?_)
  obtain ⟨hP1, hD1⟩ := hB
  rw [ht] at hP1
  obtain ⟨hP, hD⟩ := va_join (wr := [((g 8), .inr (8, oT g)), ((g 20), .inl (cI, 58, .inl (fun _ => 0)))]) (w1 := [((g 0), .inr (12, oX g)), ((g 7), .inl (cI, 11, .inl u_8))]) hP hD [2, 3] [0, 1] rfl rfl (by decide) (by decide) hk1 hFc hP1 hD1
  generalize H1 = H at hP hS ⊢
  have hP : va_P D vwCl [((g 8), .inr (8, oT g)), ((g 20), .inl (cI, 58, .inl (fun _ => 0))), ((g 0), .inr (12, oX g)), ((g 7), .inl (cI, 11, .inl u_8))] H := hP
  have hD : va_D A [((g 8), .inr (8, oT g)), ((g 20), .inl (cI, 58, .inl (fun _ => 0))), ((g 0), .inr (12, oX g)), ((g 7), .inl (cI, 11, .inl u_8))] := hD
  refine lv_aload_n hx hb dX11_lettersOfLaw_22 rfl (lv_at hl 0 rfl) ?_
  refine lv_bipush (v := 115) hx hb dX11_lettersOfLaw_23 (by decide) ?_
  refine lv_iconst (v := 0) hx hb dX11_lettersOfLaw_25 (by decide) ?_
  have hFc := va_free (wc := [((g 0), .inr (12, oX g)), ((g 7), .inl (cI, 11, .inl u_8))]) hD hS hA [2, 3] rfl
  refine va_callv (runV_x (As := [.int 115, .int 0]) (rest := []) S (q_letter l D cI cB cZ zz qq vv bt g u_8 115 0 H.size) kV_RX11_188 hK hXS hS hFc hP hD [2, 3] rfl rfl (by decide) 2 rfl rfl rfl ⟨Nat.le_of_ble_eq_true rfl, Nat.le_of_ble_eq_true rfl⟩ ⟨Nat.le_of_ble_eq_true rfl, Nat.le_of_ble_eq_true rfl⟩ rfl hl.1 rfl (Nat.le_of_ble_eq_true rfl) dX11_lettersOfLaw_26) hS (fun q _ h => hFc q h) hFc (fun u_11 t H1 locs ht hvm h_12 hB hz1 hk1 hS => ?_)
  obtain ⟨hP1, hD1⟩ := hB
  rw [ht] at hP1
  obtain ⟨hP, hD⟩ := va_join (wr := [((g 8), .inr (8, oT g)), ((g 20), .inl (cI, 58, .inl (fun _ => 0)))]) (w1 := [((g 0), .inr (12, oX g)), ((g 7), .inl (cI, 11, .inl u_11))]) hP hD [2, 3] [0, 1] rfl rfl (by decide) (by decide) hk1 hFc hP1 hD1
  generalize H1 = H at hP hS ⊢
  have hP : va_P D vwCl [((g 8), .inr (8, oT g)), ((g 20), .inl (cI, 58, .inl (fun _ => 0))), ((g 0), .inr (12, oX g)), ((g 7), .inl (cI, 11, .inl u_11))] H := hP
  have hD : va_D A [((g 8), .inr (8, oT g)), ((g 20), .inl (cI, 58, .inl (fun _ => 0))), ((g 0), .inr (12, oX g)), ((g 7), .inl (cI, 11, .inl u_11))] := hD
  have hP9 := hP.sub (ws' := [((g 0), .inr (12, oX g)), ((g 7), .inl (cI, 11, .inl u_11)), ((g 8), .inr (8, oT g)), ((g 20), .inl (cI, 58, .inl (fun _ => 0)))]) [2, 3, 0, 1] rfl
  have hD9 := hD.sub (ws' := [((g 0), .inr (12, oX g)), ((g 7), .inl (cI, 11, .inl u_11)), ((g 8), .inr (8, oT g)), ((g 20), .inl (cI, 58, .inl (fun _ => 0)))]) [2, 3, 0, 1] (by decide) rfl
  exact W.vret hx hb hr (fun t ht hW => ⟨⟨u_11, rfl, trivial, by rw [ht]; exact hP9, hD9⟩, hS.F ht⟩) hS.2.2 dX11_lettersOfLaw_29
set_option maxRecDepth 100000 in
set_option maxHeartbeats 4000000 in
theorem q_Batch (l : Launch) (D : va_G) (cI cB cZ : ClassId) (x : Nat) (sz : Nat) : Met l yX0_init (CWS yX0_init cX0_init 1 none) (RM 1 1 12) (PBw [.ref x] D cI cB cZ [(x, .inr (1, [.null, .int 0, .int 0, .int 0, .int 0, .int 0, .int 0, .int 0]))] sz) (va_Qv (fun (_ : Nat) => True) (fun (u : Nat) (t : State) => va_P D vwCl [(x, .inr (1, [.ref u, .int 0, .int 0, .int 0, .int 0, .int 0, .int 0, .int 0])), (u, .inl (cI, 12, .inl (fun _ => 0)))] t.heap ∧ va_D (va_A [(x, .inr (1, [.null, .int 0, .int 0, .int 0, .int 0, .int 0, .int 0, .int 0]))] sz) [(x, .inr (1, [.ref u, .int 0, .int 0, .int 0, .int 0, .int 0, .int 0, .int 0])), (u, .inl (cI, 12, .inl (fun _ => 0)))]) (va_A [(x, .inr (1, [.null, .int 0, .int 0, .int 0, .int 0, .int 0, .int 0, .int 0]))] sz)) 1 12 (va_A [(x, .inr (1, [.null, .int 0, .int 0, .int 0, .int 0, .int 0, .int 0, .int 0]))] sz) := by
  refine Met.ofW (cc := cX0_init) (maxL := 1) (ret := none) (by decide) rfl ?_
  intro p e s m args below meth c s₁ B hml hv
  obtain ⟨rfl, hsz, hP, hK, hD0⟩ := hv
  have hx := B.exec
  have hb := B.bytes
  have hr := B.returns
  have hts := atoms_spec (ws := (CWS yX0_init cX0_init 1 none)) B.pre
  have hown : s.vm.findClass RX0 = some m.cls := findClass_of_methodNamed B.named
  have hlocks := B.notSynchronized
  have hin : meth.name = "<init>" := (name_of_methodNamed B.named B.method).1
  have S : SF p m c cX0_init 1 s ([.ref x]).toArray RX0 := ⟨hx, hb, hml, hown, fun w h => hts w (List.mem_cons_of_mem _ h)⟩
  subst hsz
  have hD := hD0.self (sz := s.heap.size)
  generalize hAe : va_A [(x, .inr (1, [.null, .int 0, .int 0, .int 0, .int 0, .int 0, .int 0, .int 0]))] s.heap.size = A at hD ⊢
  have hA : ∀ q : Nat, s.heap.size ≤ q → A q := fun q h => by rw [← hAe]; exact Or.inr h
  have hS : va_S A s.heap s.heap [] := va_S.rf
  have hP : va_P D vwCl [(x, .inr (1, [.null, .int 0, .int 0, .int 0, .int 0, .int 0, .int 0, .int 0]))] s.heap := hP
  have hD : va_D A [(x, .inr (1, [.null, .int 0, .int 0, .int 0, .int 0, .int 0, .int 0, .int 0]))] := hD
  have hl := lv_entry ([.ref x]) (n := 1) (Nat.le_of_ble_eq_true rfl)
  rw [lg_entry_eq]
  generalize (lg_sl ([.ref x]) ++ List.replicate (1 - (lg_sl ([.ref x])).length) Slot.unset).toArray = ls at hl ⊢
  have hl : lv_has ls 1 [(0, .ref x)] := hl
  refine lv_aload_n hx hb dX0_init_0 rfl (lv_at hl 0 rfl) ?_
  refine W.objInit hx hb hown (S.2.2.2.2 _ (wT_tab 936 rfl rfl)) (S.2.2.2.2 _ (wT_tab 33 rfl rfl)) (S.2.2.2.2 _ (wT_tab 34 rfl rfl)) rfl (by rw [hml]; exact hl.1) rfl dX0_init_1 (Nat.le_of_ble_eq_true rfl) (Nat.le_of_ble_eq_true rfl) ?_
  refine W.eq (g2 := F0 m 4 ls []) rfl ?_
  refine lv_aload_n hx hb dX0_init_4 rfl (lv_at hl 0 rfl) ?_
  refine lv_bipush (v := 12) hx hb dX0_init_5 (by decide) ?_
  refine newa_int S hK hP hD hS hA (N' := 12) (by decide) (by decide) (Nat.le_of_ble_eq_true rfl) (Nat.le_of_ble_eq_true rfl) (Nat.le_of_ble_eq_true rfl) dX0_init_7 (fun q7 H hP hD hS => ?_)
  have hP : va_P D vwCl [(x, .inr (1, [.null, .int 0, .int 0, .int 0, .int 0, .int 0, .int 0, .int 0])), (q7, .inl (cI, 12, .inl (fun _ => 0)))] H := hP
  have hD : va_D A [(x, .inr (1, [.null, .int 0, .int 0, .int 0, .int 0, .int 0, .int 0, .int 0])), (q7, .inl (cI, 12, .inl (fun _ => 0)))] := hD
  refine pf_RX0_9 S hin hK hP hD hS 0 rfl (v := .ref q7) (Nat.le_of_ble_eq_true rfl) rfl rfl dX0_init_9 (fun H locs hP hD hS => ?_)
  have hP : va_P D vwCl [(x, .inr (1, [.ref q7, .int 0, .int 0, .int 0, .int 0, .int 0, .int 0, .int 0])), (q7, .inl (cI, 12, .inl (fun _ => 0)))] H := hP
  have hD : va_D A [(x, .inr (1, [.ref q7, .int 0, .int 0, .int 0, .int 0, .int 0, .int 0, .int 0])), (q7, .inl (cI, 12, .inl (fun _ => 0)))] := hD
  have hP9 := hP.sub (ws' := [(x, .inr (1, [.ref q7, .int 0, .int 0, .int 0, .int 0, .int 0, .int 0, .int 0])), (q7, .inl (cI, 12, .inl (fun _ => 0)))]) [0, 1] rfl
  have hD9 := hD.sub (ws' := [(x, .inr (1, [.ref q7, .int 0, .int 0, .int 0, .int 0, .int 0, .int 0, .int 0])), (q7, .inl (cI, 12, .inl (fun _ => 0)))]) [0, 1] (by decide) rfl
  exact W.vret hx hb hr (fun t ht hW => ⟨⟨q7, rfl, trivial, by rw [ht]; exact hP9, hD9⟩, hS.F ht⟩) hS.2.2 dX0_init_12
set_option maxRecDepth 100000 in
set_option maxHeartbeats 4000000 in
theorem q_canNull (l : Launch) (D : va_G) (cI cB cZ : ClassId) (g : Nat → Nat) : Met l yX11_canBeBatched (CWS yX11_canBeBatched cX11_canBeBatched 2 (some .boolean)) (RM 0 0 0) (PBr [.ref (g 0), .null] D cI cB cZ [((g 0), .inr (12, oX g))]) (vp_Si (fun r => r = 0)) 0 0 (fun _ => False) := by
  refine Met.ofW (cc := cX11_canBeBatched) (maxL := 2) (ret := (some .boolean)) (by decide) rfl ?_
  intro p e s m args below meth c s₁ B hml hv
  obtain ⟨rfl, hP, hK⟩ := hv
  have hx := B.exec
  have hb := B.bytes
  have hr := B.returns
  have hts := atoms_spec (ws := (CWS yX11_canBeBatched cX11_canBeBatched 2 (some .boolean))) B.pre
  have hown : s.vm.findClass RX11 = some m.cls := findClass_of_methodNamed B.named
  have hlocks := B.notSynchronized
  have S : SF p m c cX11_canBeBatched 2 s ([.ref (g 0), .null]).toArray RX11 := ⟨hx, hb, hml, hown, fun w h => hts w (List.mem_cons_of_mem _ h)⟩
  have hP : va_P D vwCl [((g 0), .inr (12, oX g))] s.heap := hP
  have hl := lv_entry ([.ref (g 0), .null]) (n := 2) (Nat.le_of_ble_eq_true rfl)
  rw [lg_entry_eq]
  generalize (lg_sl ([.ref (g 0), .null]) ++ List.replicate (2 - (lg_sl ([.ref (g 0), .null])).length) Slot.unset).toArray = ls at hl ⊢
  have hl : lv_has ls 2 [(0, .ref (g 0)), (1, .null)] := hl
  refine lv_aload_nN hx hb dX11_canBeBatched_0 rfl (lv_at hl 1 rfl) ?_
  refine lv_ifnullN (tgt := 26) hx hb dX11_canBeBatched_1 (by decide) ?_
  refine lv_iconst (v := 0) hx hb dX11_canBeBatched_26 (by decide) ?_
  exact W.zret (v := 0) hx hb hr rfl (fun t ht hW => ⟨0, rfl, rfl, ht⟩) (fun _ h => absurd h List.not_mem_nil) dX11_canBeBatched_27
set_option maxRecDepth 100000 in
set_option maxHeartbeats 4000000 in
theorem q_gatherB (l : Launch) (D : va_G) (cI cB cZ : ClassId) (g : Nat → Nat) (a : Nat) : Met l yX11_gatherBlendable (CWS yX11_gatherBlendable cX11_gatherBlendable 4 (some .int)) (RM 2 0 0) (PBr [.ref (g 0), .ref a] D cI cB cZ [((g 0), .inr (12, oX g)), ((g 11), .inr (0, [.int 0, .ref (g 50), .int 0])), (a, .inl (cI, 12, .inl (fun _ => 0)))]) (vp_Si (fun r => r = 0)) 0 0 (fun _ => False) := by
  refine Met.ofW (cc := cX11_gatherBlendable) (maxL := 4) (ret := (some .int)) (by decide) rfl ?_
  intro p e s m args below meth c s₁ B hml hv
  obtain ⟨rfl, hP, hK⟩ := hv
  have hx := B.exec
  have hb := B.bytes
  have hr := B.returns
  have hts := atoms_spec (ws := (CWS yX11_gatherBlendable cX11_gatherBlendable 4 (some .int))) B.pre
  have hown : s.vm.findClass RX11 = some m.cls := findClass_of_methodNamed B.named
  have hlocks := B.notSynchronized
  have S : SF p m c cX11_gatherBlendable 4 s ([.ref (g 0), .ref a]).toArray RX11 := ⟨hx, hb, hml, hown, fun w h => hts w (List.mem_cons_of_mem _ h)⟩
  have hP : va_P D vwCl [((g 0), .inr (12, oX g)), ((g 11), .inr (0, [.int 0, .ref (g 50), .int 0])), (a, .inl (cI, 12, .inl (fun _ => 0)))] s.heap := hP
  have hl := lv_entry ([.ref (g 0), .ref a]) (n := 4) (Nat.le_of_ble_eq_true rfl)
  rw [lg_entry_eq]
  generalize (lg_sl ([.ref (g 0), .ref a]) ++ List.replicate (4 - (lg_sl ([.ref (g 0), .ref a])).length) Slot.unset).toArray = ls at hl ⊢
  have hl : lv_has ls 4 [(0, .ref (g 0)), (1, .ref a)] := hl
  refine lv_iconst (v := 0) hx hb dX11_gatherBlendable_0 (by decide) ?_
  refine lv_istore_n (lv' := [(2, .int 0), (0, .ref (g 0)), (1, .ref a)]) hx hb dX11_gatherBlendable_1 rfl hl (by decide) rfl (fun ls hl => ?_)
  refine lv_iconst (v := 0) hx hb dX11_gatherBlendable_2 (by decide) ?_
  refine lv_istore_n (lv' := [(3, .int 0), (2, .int 0), (0, .ref (g 0)), (1, .ref a)]) hx hb dX11_gatherBlendable_3 rfl hl (by decide) rfl (fun ls hl => ?_)
  have lp_4 : ∀ (n i : Nat), 20 + 1 ≤ i + n → i ≤ 20 → ∀ ls : Array Slot, lv_has ls 4 [(3, .int (nI i)), (2, .int 0), (0, .ref (g 0)), (1, .ref a)] → W p l e (RM 2 0 0) s m ([.ref (g 0), .ref a]).toArray below meth c s.heap [] 0 0 (MQ below (vp_Si (fun r => r = 0)) ([.ref (g 0), .ref a]).toArray s 0 0 (fun _ => False)) (F0 m 4 ls []) := by
    intro n
    induction n with
    | zero => intro i h1 h2; exact absurd h1 (by omega)
    | succ n ih =>
      intro i hn1 hi ls hl
      have ti : (nI i).toInt = (i : Int) := nI_toInt (by omega)
      refine lv_iload_n hx hb dX11_gatherBlendable_4 rfl (lv_at hl 0 rfl) ?_
      refine lv_bipush (v := 20) hx hb dX11_gatherBlendable_5 (by decide) ?_
      refine lv_icmp_ge (tgt := 43) hx hb dX11_gatherBlendable_7 (by decide) (fun c_1 => ?_) (fun c_1 => ?_)
      ·
        have tc_1 : (20 : Int) ≤ (nI i).toInt := Int32.le_iff_toInt_le.mp c_1
        refine lv_iload_n hx hb dX11_gatherBlendable_43 rfl (lv_at hl 1 rfl) ?_
        exact W.iret (v := 0) hx hb hr (fun t ht hW => ⟨0, rfl, rfl, ht⟩) (fun _ h => absurd h List.not_mem_nil) dX11_gatherBlendable_44
      ·
        have tc_1 : ((nI i).toInt : Int) < 20 := Int32.lt_iff_toInt_lt.mp (Int32.not_le.mp c_1)
        refine lv_iload_n hx hb dX11_gatherBlendable_10 rfl (lv_at hl 1 rfl) ?_
        refine lv_aload_n hx hb dX11_gatherBlendable_11 rfl (lv_at hl 3 rfl) ?_
        refine va_alen hx hb hK.1 hP 2 0 rfl rfl (v := 12) rfl dX11_gatherBlendable_12 ?_
        refine lv_icmp_ge (tgt := 43) hx hb dX11_gatherBlendable_13 (by decide) (fun h => absurd h (by decide)) (fun _ => ?_)
        refine lv_aload_n hx hb dX11_gatherBlendable_16 rfl (lv_at hl 2 rfl) ?_
        refine lv_aload_n hx hb dX11_gatherBlendable_17 rfl (lv_at hl 2 rfl) ?_
        refine lv_iload_n hx hb dX11_gatherBlendable_18 rfl (lv_at hl 0 rfl) ?_
        refine va_csq (runV_r (As := [.int (nI i)]) (rest := [.ref (g 0)]) S (q_loadAt l D cI cB cZ g (nI i)) kV_RX11_148 hK hP [0, 1] rfl 0 rfl rfl rfl ⟨Nat.le_of_ble_eq_true rfl, Nat.le_of_ble_eq_true rfl⟩ ⟨Nat.le_of_ble_eq_true rfl, Nat.le_of_ble_eq_true rfl⟩ rfl hl.1 rfl (Nat.le_of_ble_eq_true rfl) dX11_gatherBlendable_19) (fun r_2 h_3 => ?_)
        subst h_3
        refine vp_callSi (runV_r (As := [.null]) (rest := []) S (q_canNull l D cI cB cZ g) kV_RX11_354 hK hP [0] rfl 0 rfl rfl rfl ⟨Nat.le_of_ble_eq_true rfl, Nat.le_of_ble_eq_true rfl⟩ ⟨Nat.le_of_ble_eq_true rfl, Nat.le_of_ble_eq_true rfl⟩ rfl hl.1 rfl (Nat.le_of_ble_eq_true rfl) dX11_gatherBlendable_22) (fun r_4 h_5 => ?_)
        subst h_5
        refine lv_if_eq (tgt := 37) hx hb dX11_gatherBlendable_25 (by decide) (fun _ => ?_) (fun h => absurd h (by decide))
        refine lv_iinc (v := (nI (i + 1))) (lv' := [(3, .int (nI (i + 1))), (2, .int 0), (0, .ref (g 0)), (1, .ref a)]) hx hb dX11_gatherBlendable_37 hl (k := 0) rfl (nI_1 _) (by decide) rfl (fun ls hl => ?_)
        refine lv_goto (tgt := 4) hx hb dX11_gatherBlendable_40 (by decide) ?_
        exact ih (i + 1) (by omega) (by omega) ls (lv_sub hl [0, 1, 2, 3] rfl)
  exact lp_4 (20 + 1) 0 (by omega) (by omega) ls (lv_sub hl [0, 1, 2, 3] rfl)
set_option maxRecDepth 100000 in
set_option maxHeartbeats 4000000 in
theorem q_mixed (l : Launch) (D : va_G) (cI cB cZ : ClassId) (g : Nat → Nat) (v0 : Int32) (sz : Nat) (h0 : 1 ≤ v0.toInt ∧ v0.toInt ≤ 1048575) : Met l yX11_mixed (CWS yX11_mixed cX11_mixed 5 (some (.object "OilHome$Batch"))) (RM 3 2 20) (PBw [.ref (g 0), .int v0] D cI cB cZ [((g 0), .inr (12, oX g)), ((g 11), .inr (0, [.int 0, .ref (g 50), .int 0]))] sz) (va_Qq (fun (r : Option Nat) (_ : Unit) => r = none) (fun (_ : Unit) (_ : State) => True) (va_A [((g 0), .inr (12, oX g)), ((g 11), .inr (0, [.int 0, .ref (g 50), .int 0]))] sz)) 2 20 (va_A [((g 0), .inr (12, oX g)), ((g 11), .inr (0, [.int 0, .ref (g 50), .int 0]))] sz) := by
  refine Met.ofW (cc := cX11_mixed) (maxL := 5) (ret := (some (.object "OilHome$Batch"))) (by decide) rfl ?_
  intro p e s m args below meth c s₁ B hml hv
  obtain ⟨rfl, hsz, hP, hK, hD0⟩ := hv
  have hx := B.exec
  have hb := B.bytes
  have hr := B.returns
  have hts := atoms_spec (ws := (CWS yX11_mixed cX11_mixed 5 (some (.object "OilHome$Batch")))) B.pre
  have hown : s.vm.findClass RX11 = some m.cls := findClass_of_methodNamed B.named
  have hlocks := B.notSynchronized
  have S : SF p m c cX11_mixed 5 s ([.ref (g 0), .int v0]).toArray RX11 := ⟨hx, hb, hml, hown, fun w h => hts w (List.mem_cons_of_mem _ h)⟩
  subst hsz
  have hD := hD0.self (sz := s.heap.size)
  generalize hAe : va_A [((g 0), .inr (12, oX g)), ((g 11), .inr (0, [.int 0, .ref (g 50), .int 0]))] s.heap.size = A at hD ⊢
  have hA : ∀ q : Nat, s.heap.size ≤ q → A q := fun q h => by rw [← hAe]; exact Or.inr h
  have hS : va_S A s.heap s.heap [] := va_S.rf
  have hP : va_P D vwCl [((g 0), .inr (12, oX g)), ((g 11), .inr (0, [.int 0, .ref (g 50), .int 0]))] s.heap := hP
  have hD : va_D A [((g 0), .inr (12, oX g)), ((g 11), .inr (0, [.int 0, .ref (g 50), .int 0]))] := hD
  have hl := lv_entry ([.ref (g 0), .int v0]) (n := 5) (Nat.le_of_ble_eq_true rfl)
  rw [lg_entry_eq]
  generalize (lg_sl ([.ref (g 0), .int v0]) ++ List.replicate (5 - (lg_sl ([.ref (g 0), .int v0])).length) Slot.unset).toArray = ls at hl ⊢
  have hl : lv_has ls 5 [(0, .ref (g 0)), (1, .int v0)] := hl
  refine va_new (ci := 1) (fs := [.null, .int 0, .int 0, .int 0, .int 0, .int 0, .int 0, .int 0]) (C := RX0) (T := TX0) (N := 8) hx hb S.2.2.2.2 hin_RX0 tyX0 tyX0_ok hown (S.2.2.2.2 _ (wT_tab 931 rfl rfl)) (S.2.2.2.2 _ (wT_tab 932 rfl rfl)) (S.2.2.2.2 _ (wT_tab 23 rfl rfl)) hK.1 hP hD hS hA rfl (by decide +kernel) (Nat.le_of_ble_eq_true rfl) (Nat.le_of_ble_eq_true rfl) dX11_mixed_0 (fun q0 H hP hD hS => ?_)
  have hP : va_P D vwCl [((g 0), .inr (12, oX g)), ((g 11), .inr (0, [.int 0, .ref (g 50), .int 0])), (q0, .inr (1, [.null, .int 0, .int 0, .int 0, .int 0, .int 0, .int 0, .int 0]))] H := hP
  have hD : va_D A [((g 0), .inr (12, oX g)), ((g 11), .inr (0, [.int 0, .ref (g 50), .int 0])), (q0, .inr (1, [.null, .int 0, .int 0, .int 0, .int 0, .int 0, .int 0, .int 0]))] := hD
  refine lv_dup hx hb dX11_mixed_3 rfl ?_
  have hFc := va_free (wc := [(q0, .inr (1, [.null, .int 0, .int 0, .int 0, .int 0, .int 0, .int 0, .int 0]))]) hD hS hA [2] rfl
  refine va_callv (runIN_w (As := []) (rest := [.ref q0]) S (q_Batch l D cI cB cZ q0 H.size) hK.2.2.2 ⟨⟨wT_tab 934 rfl rfl, wT_tab 23 rfl rfl, wT_tab 935 rfl rfl⟩, rfl, by decide, by decide, by decide +kernel⟩ hK hP hD [2] rfl rfl (by decide) ⟨Nat.le_of_ble_eq_true rfl, Nat.le_of_ble_eq_true rfl⟩ ⟨Nat.le_of_ble_eq_true rfl, Nat.le_of_ble_eq_true rfl⟩ rfl hl.1 rfl (Nat.le_of_ble_eq_true rfl) dX11_mixed_4) hS (fun q _ h => hFc q h) hFc (fun u_2 t H1 locs ht hvm h_3 hB hz1 hk1 hS => ?_)
  obtain ⟨hP1, hD1⟩ := hB
  rw [ht] at hP1
  obtain ⟨hP, hD⟩ := va_join (wr := [((g 0), .inr (12, oX g)), ((g 11), .inr (0, [.int 0, .ref (g 50), .int 0]))]) (w1 := [(q0, .inr (1, [.ref u_2, .int 0, .int 0, .int 0, .int 0, .int 0, .int 0, .int 0])), (u_2, .inl (cI, 12, .inl (fun _ => 0)))]) hP hD [2] [0, 1] rfl rfl (by decide) (by decide) hk1 hFc hP1 hD1
  generalize H1 = H at hP hS ⊢
  have hP : va_P D vwCl [((g 0), .inr (12, oX g)), ((g 11), .inr (0, [.int 0, .ref (g 50), .int 0])), (q0, .inr (1, [.ref u_2, .int 0, .int 0, .int 0, .int 0, .int 0, .int 0, .int 0])), (u_2, .inl (cI, 12, .inl (fun _ => 0)))] H := hP
  have hD : va_D A [((g 0), .inr (12, oX g)), ((g 11), .inr (0, [.int 0, .ref (g 50), .int 0])), (q0, .inr (1, [.ref u_2, .int 0, .int 0, .int 0, .int 0, .int 0, .int 0, .int 0])), (u_2, .inl (cI, 12, .inl (fun _ => 0)))] := hD
  refine lv_astore_n (lv' := [(2, .ref q0), (0, .ref (g 0)), (1, .int v0)]) hx hb dX11_mixed_7 rfl hl (by decide) rfl (fun ls hl => ?_)
  obtain ⟨w0, hw, rfl⟩ := nI_of (x := v0) (fun q => by have := Int32.lt_iff_toInt_lt.mp q; have e : (0 : Int32).toInt = 0 := rfl; omega)
  have tw : (nI w0).toInt = (w0 : Int) := nI_toInt hw
  refine lv_iconst (v := 0) hx hb dX11_mixed_8 (by decide) ?_
  refine lv_istore_n (lv' := [(3, .int 0), (2, .ref q0), (0, .ref (g 0)), (1, .int (nI w0))]) hx hb dX11_mixed_9 rfl hl (by decide) rfl (fun ls hl => ?_)
  have lp_10 : ∀ (n i : Nat), 20 + 1 ≤ i + n → i ≤ 20 → w0 % 2 ^ i = 0 → ∀ ls : Array Slot, lv_has ls 5 [(3, .int (nI i)), (2, .ref q0), (0, .ref (g 0)), (1, .int (nI w0))] → W p l e (RM 3 2 20) s m ([.ref (g 0), .int (nI w0)]).toArray below meth c H locs 2 20 (MQ below (va_Qq (fun (r : Option Nat) (_ : Unit) => r = none) (fun (_ : Unit) (_ : State) => True) A) ([.ref (g 0), .int (nI w0)]).toArray s 2 20 A) (F0 m 10 ls []) := by
    intro n
    induction n with
    | zero => intro i h1 h2; exact absurd h1 (by omega)
    | succ n ih =>
      intro i hn1 hi hinv ls hl
      have ti : (nI i).toInt = (i : Int) := nI_toInt (by omega)
      obtain ⟨q, hq⟩ : ∃ q : Nat, q = w0 / 2 ^ i % 2 := ⟨_, rfl⟩
      have hq2 : q < 2 := by rw [hq]; exact Nat.mod_lt _ (by decide)
      have tq : (nI q).toInt = (q : Int) := nI_toInt (by omega)
      refine lv_iload_n hx hb dX11_mixed_10 rfl (lv_at hl 0 rfl) ?_
      refine lv_bipush (v := 20) hx hb dX11_mixed_11 (by decide) ?_
      refine lv_icmp_ge (tgt := 63) hx hb dX11_mixed_13 (by decide) (fun c_4 => False.elim (by have tc_4 : (20 : Int) ≤ (nI i).toInt := Int32.le_iff_toInt_le.mp c_4; exact bit_dead hinv (by omega) (by omega) (by omega) (by omega))) (fun c_4 => ?_)
      have tc_4 : ((nI i).toInt : Int) < 20 := Int32.lt_iff_toInt_lt.mp (Int32.not_le.mp c_4)
      refine lv_iload_n hx hb dX11_mixed_16 rfl (lv_at hl 3 rfl) ?_
      refine lv_iload_n hx hb dX11_mixed_17 rfl (lv_at hl 0 rfl) ?_
      refine lv_ishr hx hb dX11_mixed_18 ?_
      refine lv_iconst (v := 1) hx hb dX11_mixed_19 (by decide) ?_
      refine lv_iand hx hb dX11_mixed_20 ?_
      refine lv_topi (fun y_5 ey_5 => ?_)
      obtain rfl : y_5 = (nI q) := ey_5.trans ((bitq hw (by omega)).trans (congrArg nI hq.symm))
      refine lv_if_ne (tgt := 27) hx hb dX11_mixed_21 (by decide) (fun c_6 => ?_) (fun c_6 => ?_)
      ·
        have tc_6 : ((nI q).toInt : Int) ≠ 0 := fun q => c_6 (Int32.toInt_inj.mp q)
        refine lv_aload_n hx hb dX11_mixed_27 rfl (lv_at hl 2 rfl) ?_
        refine lv_iload_n hx hb dX11_mixed_28 rfl (lv_at hl 0 rfl) ?_
        refine va_csq (runV_r (As := [.int (nI i)]) (rest := []) S (q_loadAt l D cI cB cZ g (nI i)) kV_RX11_148 hK hP [0, 1] rfl 0 rfl rfl rfl ⟨Nat.le_of_ble_eq_true rfl, Nat.le_of_ble_eq_true rfl⟩ ⟨Nat.le_of_ble_eq_true rfl, Nat.le_of_ble_eq_true rfl⟩ rfl hl.1 rfl (Nat.le_of_ble_eq_true rfl) dX11_mixed_29) (fun r_7 h_8 => ?_)
        subst h_8
        refine lv_astoreN (lv' := [(4, .null), (3, .int (nI i)), (2, .ref q0), (0, .ref (g 0)), (1, .int (nI w0))]) hx hb dX11_mixed_32 hl (by decide) rfl (fun ls hl => ?_)
        refine lv_aloadN hx hb dX11_mixed_34 (lv_at hl 0 rfl) ?_
        refine lv_ifnullN (tgt := 48) hx hb dX11_mixed_36 (by decide) ?_
        refine lv_null hx hb dX11_mixed_48 ?_
        exact W.aret (v := .null) hx hb hr (Or.inl ⟨_, rfl⟩) (Or.inl rfl) (fun t ht hW => ⟨⟨none, (), rfl, rfl, trivial⟩, hS.F ht⟩) hS.2.2 dX11_mixed_49
      ·
        have tc_6 : ((nI q).toInt : Int) = 0 := congrArg Int32.toInt c_6
        refine lv_goto (tgt := 57) hx hb dX11_mixed_24 (by decide) ?_
        refine lv_iinc (v := (nI (i + 1))) (lv' := [(3, .int (nI (i + 1))), (2, .ref q0), (0, .ref (g 0)), (1, .int (nI w0))]) hx hb dX11_mixed_57 hl (k := 0) rfl (nI_1 _) (by decide) rfl (fun ls hl => ?_)
        refine lv_goto (tgt := 10) hx hb dX11_mixed_60 (by decide) ?_
        exact ih (i + 1) (by omega) (by omega) (bit_step hinv (hq.symm.trans (by omega))) ls (lv_sub hl [0, 1, 2, 3] rfl)
  exact lp_10 (20 + 1) 0 (by omega) (by omega) (Nat.mod_one _) ls (lv_sub hl [0, 1, 2, 3] rfl)
set_option maxRecDepth 100000 in
set_option maxHeartbeats 4000000 in
theorem q_X_batch (l : Launch) (D : va_G) (cI cB cZ : ClassId) (g : Nat → Nat) (v0 : Int32) (sz : Nat) : Met l yX11_batch (CWS yX11_batch cX11_batch 4 (some .int)) (RM 4 2 20) (PBw [.ref (g 0), .int v0] D cI cB cZ [((g 0), .inr (12, oX g)), ((g 11), .inr (0, [.int 0, .ref (g 50), .int 0])), ((g 12), .inr (0, [.int 0, .ref (g 50), .int 0]))] sz) (va_Qi (fun (r : Int32) (_ : Unit) => r = -1) (fun (_ : Unit) (_ : State) => True) (va_A [((g 0), .inr (12, oX g)), ((g 11), .inr (0, [.int 0, .ref (g 50), .int 0])), ((g 12), .inr (0, [.int 0, .ref (g 50), .int 0]))] sz)) 2 20 (va_A [((g 0), .inr (12, oX g)), ((g 11), .inr (0, [.int 0, .ref (g 50), .int 0])), ((g 12), .inr (0, [.int 0, .ref (g 50), .int 0]))] sz) := by
  refine Met.ofW (cc := cX11_batch) (maxL := 4) (ret := (some .int)) (by decide) rfl ?_
  intro p e s m args below meth c s₁ B hml hv
  obtain ⟨rfl, hsz, hP, hK, hD0⟩ := hv
  have hx := B.exec
  have hb := B.bytes
  have hr := B.returns
  have hts := atoms_spec (ws := (CWS yX11_batch cX11_batch 4 (some .int))) B.pre
  have hown : s.vm.findClass RX11 = some m.cls := findClass_of_methodNamed B.named
  have hlocks := B.notSynchronized
  have S : SF p m c cX11_batch 4 s ([.ref (g 0), .int v0]).toArray RX11 := ⟨hx, hb, hml, hown, fun w h => hts w (List.mem_cons_of_mem _ h)⟩
  subst hsz
  have hD := hD0.self (sz := s.heap.size)
  generalize hAe : va_A [((g 0), .inr (12, oX g)), ((g 11), .inr (0, [.int 0, .ref (g 50), .int 0])), ((g 12), .inr (0, [.int 0, .ref (g 50), .int 0]))] s.heap.size = A at hD ⊢
  have hA : ∀ q : Nat, s.heap.size ≤ q → A q := fun q h => by rw [← hAe]; exact Or.inr h
  have hS : va_S A s.heap s.heap [] := va_S.rf
  have hP : va_P D vwCl [((g 0), .inr (12, oX g)), ((g 11), .inr (0, [.int 0, .ref (g 50), .int 0])), ((g 12), .inr (0, [.int 0, .ref (g 50), .int 0]))] s.heap := hP
  have hD : va_D A [((g 0), .inr (12, oX g)), ((g 11), .inr (0, [.int 0, .ref (g 50), .int 0])), ((g 12), .inr (0, [.int 0, .ref (g 50), .int 0]))] := hD
  have hl := lv_entry ([.ref (g 0), .int v0]) (n := 4) (Nat.le_of_ble_eq_true rfl)
  rw [lg_entry_eq]
  generalize (lg_sl ([.ref (g 0), .int v0]) ++ List.replicate (4 - (lg_sl ([.ref (g 0), .int v0])).length) Slot.unset).toArray = ls at hl ⊢
  have hl : lv_has ls 4 [(0, .ref (g 0)), (1, .int v0)] := hl
  refine lv_iload_n hx hb dX11_batch_0 rfl (lv_at hl 1 rfl) ?_
  refine lv_iconst (v := 1) hx hb dX11_batch_1 (by decide) ?_
  refine lv_ldcw (v := 1048575) hx hb hown (S.2.2.2.2 _ (wT_tab 926 rfl rfl)) dX11_batch_2 ?_
  refine vp_callSi (runS_r (As := [.int v0, .int 1, .int 1048575]) (rest := []) S (q_within l D cI cB cZ v0 1 1048575) kS_RX11_80 hK hP [] rfl ⟨Nat.le_of_ble_eq_true rfl, Nat.le_of_ble_eq_true rfl⟩ ⟨Nat.le_of_ble_eq_true rfl, Nat.le_of_ble_eq_true rfl⟩ rfl hl.1 rfl (Nat.le_of_ble_eq_true rfl) dX11_batch_5) (fun r_1 h_2 => ?_)
  rcases h_2 with ⟨rfl, h_2⟩ | ⟨rfl, h_2⟩
  ·
    have h_2 : 1 ≤ v0.toInt ∧ v0.toInt ≤ 1048575 := h_2
    refine lv_if_eq (tgt := 23) hx hb dX11_batch_8 (by decide) (fun h => absurd h (by decide)) (fun _ => ?_)
    refine lv_aload_n hx hb dX11_batch_11 rfl (lv_at hl 0 rfl) ?_
    refine gf_RX11_68 S hK hP 0 rfl (v := .ref (g 12)) rfl dX11_batch_12 ?_
    refine vp_callSi (runV_r (As := []) (rest := []) S (q_size l D cI cB cZ (g 12) (g 50) 0 0) kV_RX11_84 hK hP [2] rfl 2 rfl rfl rfl ⟨Nat.le_of_ble_eq_true rfl, Nat.le_of_ble_eq_true rfl⟩ ⟨Nat.le_of_ble_eq_true rfl, Nat.le_of_ble_eq_true rfl⟩ rfl hl.1 rfl (Nat.le_of_ble_eq_true rfl) dX11_batch_15) (fun r_3 h_4 => ?_)
    subst h_4
    refine lv_bipush (v := 10) hx hb dX11_batch_18 (by decide) ?_
    refine lv_icmp_lt (tgt := 25) hx hb dX11_batch_20 (by decide) (fun _ => ?_) (fun h => absurd h (by decide))
    refine lv_aload_n hx hb dX11_batch_25 rfl (lv_at hl 0 rfl) ?_
    refine lv_iload_n hx hb dX11_batch_26 rfl (lv_at hl 1 rfl) ?_
    have hFc := va_free (wc := [((g 0), .inr (12, oX g)), ((g 11), .inr (0, [.int 0, .ref (g 50), .int 0]))]) hD hS hA [0, 1] rfl
    refine va_callq (runV_w (As := [.int v0]) (rest := []) S (q_mixed l D cI cB cZ g v0 s.heap.size (by omega)) kV_RX11_363 hK hP hD [0, 1] rfl rfl (by decide) 0 rfl rfl rfl ⟨Nat.le_of_ble_eq_true rfl, Nat.le_of_ble_eq_true rfl⟩ ⟨Nat.le_of_ble_eq_true rfl, Nat.le_of_ble_eq_true rfl⟩ rfl hl.1 rfl (Nat.le_of_ble_eq_true rfl) dX11_batch_27) hS (fun q _ h => hFc q h) hFc (fun r_5 u_6 t H1 locs ht hvm h_7 hB hz1 hk1 hS => ?_)
    have hP1 : va_P D vwCl [] H1 := fun k q h => by simp at h
    have hD1 : va_D (va_A [((g 0), .inr (12, oX g)), ((g 11), .inr (0, [.int 0, .ref (g 50), .int 0]))] s.heap.size) [] := ⟨fun i j p q h => by simp at h, fun k q h => by simp at h⟩
    obtain ⟨hP, hD⟩ := va_join (wr := [((g 12), .inr (0, [.int 0, .ref (g 50), .int 0]))]) (w1 := []) hP hD [0, 1] [2] rfl rfl (by decide) (by decide) hk1 hFc hP1 hD1
    generalize H1 = H at hP hS ⊢
    have hP : va_P D vwCl [((g 12), .inr (0, [.int 0, .ref (g 50), .int 0]))] H := hP
    have hD : va_D A [((g 12), .inr (0, [.int 0, .ref (g 50), .int 0]))] := hD
    subst h_7
    refine lv_astore_nN (lv' := [(2, .null), (0, .ref (g 0)), (1, .int v0)]) hx hb dX11_batch_30 rfl hl (by decide) rfl (fun ls hl => ?_)
    refine lv_aload_nN hx hb dX11_batch_31 rfl (lv_at hl 0 rfl) ?_
    refine lv_ifnonnullN hx hb dX11_batch_32 ?_
    refine lv_iconst (v := (-1)) hx hb dX11_batch_35 (by decide) ?_
    exact W.iret (v := (-1)) hx hb hr (fun t ht hW => ⟨⟨(-1), (), rfl, rfl, trivial⟩, hS.F ht⟩) hS.2.2 dX11_batch_36
  ·
    have h_2 : ¬ (1 ≤ v0.toInt ∧ v0.toInt ≤ 1048575) := h_2
    refine lv_if_eq (tgt := 23) hx hb dX11_batch_8 (by decide) (fun _ => ?_) (fun h => absurd h (by decide))
    refine lv_iconst (v := (-1)) hx hb dX11_batch_23 (by decide) ?_
    refine W.widen (k := 2) (n := 20) (Nat.le_of_ble_eq_true rfl) (Nat.le_of_ble_eq_true rfl) ?_
    exact W.iret (v := (-1)) hx hb hr (fun t ht hW => ⟨⟨(-1), (), rfl, rfl, trivial⟩, hS.F ht⟩) hS.2.2 dX11_batch_24
set_option maxRecDepth 100000 in
set_option maxHeartbeats 4000000 in
theorem q_X_blend (l : Launch) (D : va_G) (cI cB cZ : ClassId) (zz qq vv : Nat) (bt : Nat → Int32) (g : Nat → Nat) (sz : Nat) : Met l yX11_blend (CWS yX11_blend cX11_blend 9 (some .int)) (RM 7 3 32) (PBx [.ref (g 0)] D cI cB cZ zz qq vv bt [((g 0), .inr (12, oX g)), ((g 11), .inr (0, [.int 0, .ref (g 50), .int 0])), ((g 7), .inl (cI, 11, .inl (fun _ => 0))), ((g 8), .inr (8, oT g)), ((g 20), .inl (cI, 58, .inl (fun _ => 0)))] sz) (va_Qi (fun (r : Int32) (_ : Unit) => r = 0) (fun (_ : Unit) (_ : State) => True) (va_A [((g 0), .inr (12, oX g)), ((g 11), .inr (0, [.int 0, .ref (g 50), .int 0])), ((g 7), .inl (cI, 11, .inl (fun _ => 0))), ((g 8), .inr (8, oT g)), ((g 20), .inl (cI, 58, .inl (fun _ => 0)))] sz)) 3 32 (va_A [((g 0), .inr (12, oX g)), ((g 11), .inr (0, [.int 0, .ref (g 50), .int 0])), ((g 7), .inl (cI, 11, .inl (fun _ => 0))), ((g 8), .inr (8, oT g)), ((g 20), .inl (cI, 58, .inl (fun _ => 0)))] sz) := by
  refine Met.ofW (cc := cX11_blend) (maxL := 9) (ret := (some .int)) (by decide) rfl ?_
  intro p e s m args below meth c s₁ B hml hv
  obtain ⟨rfl, hsz, hP, hK, hD0, hXS⟩ := hv
  have hx := B.exec
  have hb := B.bytes
  have hr := B.returns
  have hts := atoms_spec (ws := (CWS yX11_blend cX11_blend 9 (some .int))) B.pre
  have hown : s.vm.findClass RX11 = some m.cls := findClass_of_methodNamed B.named
  have hlocks := B.notSynchronized
  have S : SF p m c cX11_blend 9 s ([.ref (g 0)]).toArray RX11 := ⟨hx, hb, hml, hown, fun w h => hts w (List.mem_cons_of_mem _ h)⟩
  subst hsz
  have hD := hD0.self (sz := s.heap.size)
  generalize hAe : va_A [((g 0), .inr (12, oX g)), ((g 11), .inr (0, [.int 0, .ref (g 50), .int 0])), ((g 7), .inl (cI, 11, .inl (fun _ => 0))), ((g 8), .inr (8, oT g)), ((g 20), .inl (cI, 58, .inl (fun _ => 0)))] s.heap.size = A at hD hXS ⊢
  have hA : ∀ q : Nat, s.heap.size ≤ q → A q := fun q h => by rw [← hAe]; exact Or.inr h
  have hS : va_S A s.heap s.heap [] := va_S.rf
  have hP : va_P D vwCl [((g 0), .inr (12, oX g)), ((g 11), .inr (0, [.int 0, .ref (g 50), .int 0])), ((g 7), .inl (cI, 11, .inl (fun _ => 0))), ((g 8), .inr (8, oT g)), ((g 20), .inl (cI, 58, .inl (fun _ => 0)))] s.heap := hP
  have hD : va_D A [((g 0), .inr (12, oX g)), ((g 11), .inr (0, [.int 0, .ref (g 50), .int 0])), ((g 7), .inl (cI, 11, .inl (fun _ => 0))), ((g 8), .inr (8, oT g)), ((g 20), .inl (cI, 58, .inl (fun _ => 0)))] := hD
  have hl := lv_entry ([.ref (g 0)]) (n := 9) (Nat.le_of_ble_eq_true rfl)
  rw [lg_entry_eq]
  generalize (lg_sl ([.ref (g 0)]) ++ List.replicate (9 - (lg_sl ([.ref (g 0)])).length) Slot.unset).toArray = ls at hl ⊢
  have hl : lv_has ls 9 [(0, .ref (g 0))] := hl
  refine lv_bipush (v := 12) hx hb dX11_blend_0 (by decide) ?_
  refine newa_int S hK hP hD hS hA (N' := 12) (by decide) (by decide) (Nat.le_of_ble_eq_true rfl) (Nat.le_of_ble_eq_true rfl) (Nat.le_of_ble_eq_true rfl) dX11_blend_2 (fun q2 H hP hD hS => ?_)
  have hP : va_P D vwCl [((g 0), .inr (12, oX g)), ((g 11), .inr (0, [.int 0, .ref (g 50), .int 0])), ((g 7), .inl (cI, 11, .inl (fun _ => 0))), ((g 8), .inr (8, oT g)), ((g 20), .inl (cI, 58, .inl (fun _ => 0))), (q2, .inl (cI, 12, .inl (fun _ => 0)))] H := hP
  have hD : va_D A [((g 0), .inr (12, oX g)), ((g 11), .inr (0, [.int 0, .ref (g 50), .int 0])), ((g 7), .inl (cI, 11, .inl (fun _ => 0))), ((g 8), .inr (8, oT g)), ((g 20), .inl (cI, 58, .inl (fun _ => 0))), (q2, .inl (cI, 12, .inl (fun _ => 0)))] := hD
  refine lv_astore_n (lv' := [(1, .ref q2), (0, .ref (g 0))]) hx hb dX11_blend_4 rfl hl (by decide) rfl (fun ls hl => ?_)
  refine lv_aload_n hx hb dX11_blend_5 rfl (lv_at hl 1 rfl) ?_
  refine lv_aload_n hx hb dX11_blend_6 rfl (lv_at hl 0 rfl) ?_
  refine vp_callSi (runV_r (As := [.ref q2]) (rest := []) S (q_gatherB l D cI cB cZ g q2) kV_RX11_391 hK hP [0, 1, 5] rfl 0 rfl rfl rfl ⟨Nat.le_of_ble_eq_true rfl, Nat.le_of_ble_eq_true rfl⟩ ⟨Nat.le_of_ble_eq_true rfl, Nat.le_of_ble_eq_true rfl⟩ rfl hl.1 rfl (Nat.le_of_ble_eq_true rfl) dX11_blend_7) (fun r_1 h_2 => ?_)
  subst h_2
  refine lv_istore_n (lv' := [(2, .int 0), (1, .ref q2), (0, .ref (g 0))]) hx hb dX11_blend_10 rfl hl (by decide) rfl (fun ls hl => ?_)
  refine lv_aload_n hx hb dX11_blend_11 rfl (lv_at hl 2 rfl) ?_
  have hFc := va_free (wc := [((g 0), .inr (12, oX g)), ((g 7), .inl (cI, 11, .inl (fun _ => 0))), ((g 8), .inr (8, oT g)), ((g 20), .inl (cI, 58, .inl (fun _ => 0)))]) hD hS hA [0, 2, 3, 4] rfl
  refine va_callv (runV_x (As := []) (rest := []) S (q_lettersOfLaw l D cI cB cZ zz qq vv bt g (fun _ => 0) H.size) kV_RX11_367 hK hXS hS hFc hP hD [0, 2, 3, 4] rfl rfl (by decide) 0 rfl rfl rfl ⟨Nat.le_of_ble_eq_true rfl, Nat.le_of_ble_eq_true rfl⟩ ⟨Nat.le_of_ble_eq_true rfl, Nat.le_of_ble_eq_true rfl⟩ rfl hl.1 rfl (Nat.le_of_ble_eq_true rfl) dX11_blend_12) hS (fun q _ h => hFc q h) hFc (fun u_4 t H1 locs ht hvm h_5 hB hz1 hk1 hS => ?_)
  obtain ⟨hP1, hD1⟩ := hB
  rw [ht] at hP1
  obtain ⟨hP, hD⟩ := va_join (wr := [((g 11), .inr (0, [.int 0, .ref (g 50), .int 0])), (q2, .inl (cI, 12, .inl (fun _ => 0)))]) (w1 := [((g 0), .inr (12, oX g)), ((g 7), .inl (cI, 11, .inl u_4)), ((g 8), .inr (8, oT g)), ((g 20), .inl (cI, 58, .inl (fun _ => 0)))]) hP hD [0, 2, 3, 4] [1, 5] rfl rfl (by decide) (by decide) hk1 hFc hP1 hD1
  generalize H1 = H at hP hS ⊢
  have hP : va_P D vwCl [((g 11), .inr (0, [.int 0, .ref (g 50), .int 0])), (q2, .inl (cI, 12, .inl (fun _ => 0))), ((g 0), .inr (12, oX g)), ((g 7), .inl (cI, 11, .inl u_4)), ((g 8), .inr (8, oT g)), ((g 20), .inl (cI, 58, .inl (fun _ => 0)))] H := hP
  have hD : va_D A [((g 11), .inr (0, [.int 0, .ref (g 50), .int 0])), (q2, .inl (cI, 12, .inl (fun _ => 0))), ((g 0), .inr (12, oX g)), ((g 7), .inl (cI, 11, .inl u_4)), ((g 8), .inr (8, oT g)), ((g 20), .inl (cI, 58, .inl (fun _ => 0)))] := hD
  refine va_new (ci := 1) (fs := [.null, .int 0, .int 0, .int 0, .int 0, .int 0, .int 0, .int 0]) (C := RX0) (T := TX0) (N := 8) hx hb S.2.2.2.2 hin_RX0 tyX0 tyX0_ok hown (S.2.2.2.2 _ (wT_tab 931 rfl rfl)) (S.2.2.2.2 _ (wT_tab 932 rfl rfl)) (S.2.2.2.2 _ (wT_tab 23 rfl rfl)) hK.1 hP hD hS hA rfl (by decide +kernel) (Nat.le_of_ble_eq_true rfl) (Nat.le_of_ble_eq_true rfl) dX11_blend_15 (fun q15 H hP hD hS => ?_)
  have hP : va_P D vwCl [((g 11), .inr (0, [.int 0, .ref (g 50), .int 0])), (q2, .inl (cI, 12, .inl (fun _ => 0))), ((g 0), .inr (12, oX g)), ((g 7), .inl (cI, 11, .inl u_4)), ((g 8), .inr (8, oT g)), ((g 20), .inl (cI, 58, .inl (fun _ => 0))), (q15, .inr (1, [.null, .int 0, .int 0, .int 0, .int 0, .int 0, .int 0, .int 0]))] H := hP
  have hD : va_D A [((g 11), .inr (0, [.int 0, .ref (g 50), .int 0])), (q2, .inl (cI, 12, .inl (fun _ => 0))), ((g 0), .inr (12, oX g)), ((g 7), .inl (cI, 11, .inl u_4)), ((g 8), .inr (8, oT g)), ((g 20), .inl (cI, 58, .inl (fun _ => 0))), (q15, .inr (1, [.null, .int 0, .int 0, .int 0, .int 0, .int 0, .int 0, .int 0]))] := hD
  refine lv_dup hx hb dX11_blend_18 rfl ?_
  have hFc := va_free (wc := [(q15, .inr (1, [.null, .int 0, .int 0, .int 0, .int 0, .int 0, .int 0, .int 0]))]) hD hS hA [6] rfl
  refine va_callv (runIN_w (As := []) (rest := [.ref q15]) S (q_Batch l D cI cB cZ q15 H.size) hK.2.2.2 ⟨⟨wT_tab 934 rfl rfl, wT_tab 23 rfl rfl, wT_tab 935 rfl rfl⟩, rfl, by decide, by decide, by decide +kernel⟩ hK hP hD [6] rfl rfl (by decide) ⟨Nat.le_of_ble_eq_true rfl, Nat.le_of_ble_eq_true rfl⟩ ⟨Nat.le_of_ble_eq_true rfl, Nat.le_of_ble_eq_true rfl⟩ rfl hl.1 rfl (Nat.le_of_ble_eq_true rfl) dX11_blend_19) hS (fun q _ h => hFc q h) hFc (fun u_7 t H1 locs ht hvm h_8 hB hz1 hk1 hS => ?_)
  obtain ⟨hP1, hD1⟩ := hB
  rw [ht] at hP1
  obtain ⟨hP, hD⟩ := va_join (wr := [((g 11), .inr (0, [.int 0, .ref (g 50), .int 0])), (q2, .inl (cI, 12, .inl (fun _ => 0))), ((g 0), .inr (12, oX g)), ((g 7), .inl (cI, 11, .inl u_4)), ((g 8), .inr (8, oT g)), ((g 20), .inl (cI, 58, .inl (fun _ => 0)))]) (w1 := [(q15, .inr (1, [.ref u_7, .int 0, .int 0, .int 0, .int 0, .int 0, .int 0, .int 0])), (u_7, .inl (cI, 12, .inl (fun _ => 0)))]) hP hD [6] [0, 1, 2, 3, 4, 5] rfl rfl (by decide) (by decide) hk1 hFc hP1 hD1
  generalize H1 = H at hP hS ⊢
  have hP : va_P D vwCl [((g 11), .inr (0, [.int 0, .ref (g 50), .int 0])), (q2, .inl (cI, 12, .inl (fun _ => 0))), ((g 0), .inr (12, oX g)), ((g 7), .inl (cI, 11, .inl u_4)), ((g 8), .inr (8, oT g)), ((g 20), .inl (cI, 58, .inl (fun _ => 0))), (q15, .inr (1, [.ref u_7, .int 0, .int 0, .int 0, .int 0, .int 0, .int 0, .int 0])), (u_7, .inl (cI, 12, .inl (fun _ => 0)))] H := hP
  have hD : va_D A [((g 11), .inr (0, [.int 0, .ref (g 50), .int 0])), (q2, .inl (cI, 12, .inl (fun _ => 0))), ((g 0), .inr (12, oX g)), ((g 7), .inl (cI, 11, .inl u_4)), ((g 8), .inr (8, oT g)), ((g 20), .inl (cI, 58, .inl (fun _ => 0))), (q15, .inr (1, [.ref u_7, .int 0, .int 0, .int 0, .int 0, .int 0, .int 0, .int 0])), (u_7, .inl (cI, 12, .inl (fun _ => 0)))] := hD
  refine lv_astore_n (lv' := [(3, .ref q15), (2, .int 0), (1, .ref q2), (0, .ref (g 0))]) hx hb dX11_blend_22 rfl hl (by decide) rfl (fun ls hl => ?_)
  refine lv_iconst (v := 0) hx hb dX11_blend_23 (by decide) ?_
  refine lv_istore (lv' := [(4, .int 0), (3, .ref q15), (2, .int 0), (1, .ref q2), (0, .ref (g 0))]) hx hb dX11_blend_24 hl (by decide) rfl (fun ls hl => ?_)
  refine lv_iconst (v := 0) hx hb dX11_blend_26 (by decide) ?_
  refine lv_istore (lv' := [(5, .int 0), (4, .int 0), (3, .ref q15), (2, .int 0), (1, .ref q2), (0, .ref (g 0))]) hx hb dX11_blend_27 hl (by decide) rfl (fun ls hl => ?_)
  refine lv_iconst (v := 0) hx hb dX11_blend_29 (by decide) ?_
  refine lv_istore (lv' := [(6, .int 0), (5, .int 0), (4, .int 0), (3, .ref q15), (2, .int 0), (1, .ref q2), (0, .ref (g 0))]) hx hb dX11_blend_30 hl (by decide) rfl (fun ls hl => ?_)
  refine lv_iconst (v := 1) hx hb dX11_blend_32 (by decide) ?_
  refine lv_istore (lv' := [(7, .int 1), (6, .int 0), (5, .int 0), (4, .int 0), (3, .ref q15), (2, .int 0), (1, .ref q2), (0, .ref (g 0))]) hx hb dX11_blend_33 hl (by decide) rfl (fun ls hl => ?_)
  refine lv_iload hx hb dX11_blend_35 (lv_at hl 0 rfl) ?_
  refine lv_iconst (v := 1) hx hb dX11_blend_37 (by decide) ?_
  refine lv_iload_n hx hb dX11_blend_38 rfl (lv_at hl 5 rfl) ?_
  refine lv_ishl hx hb dX11_blend_39 ?_
  refine lv_topi (fun y_9 ey_9 => ?_)
  obtain rfl : y_9 = 1 := ey_9.trans (by decide)
  refine lv_icmp_ge (tgt := 128) hx hb dX11_blend_40 (by decide) (fun _ => ?_) (fun h => absurd h (by decide))
  refine lv_iload hx hb dX11_blend_128 (lv_at hl 3 rfl) ?_
  exact W.iret (v := 0) hx hb hr (fun t ht hW => ⟨⟨0, (), rfl, rfl, trivial⟩, hS.F ht⟩) hS.2.2 dX11_blend_130
