set_option maxRecDepth 100000 in
theorem kV_RX11_324 : CalV RX11 324 yX11_bestShares cX11_bestShares 7 (some .int) 1 := ⟨⟨wT_tab 901 rfl rfl, wT_tab 903 rfl rfl, wT_sel 39 _ rfl rfl rfl, wT_tab 1 rfl rfl, wT_tab 904 rfl rfl⟩, ⟨by decide, by decide, by decide +kernel⟩⟩
set_option maxRecDepth 100000 in
theorem kV_RX11_382 : CalV RX11 382 yX11_batchAt cX11_batchAt 2 (some (.object "OilHome$Batch")) 1 := ⟨⟨wT_tab 1003 rfl rfl, wT_tab 1005 rfl rfl, wT_sel 48 _ rfl rfl rfl, wT_tab 1 rfl rfl, wT_tab 1006 rfl rfl⟩, ⟨by decide, by decide, by decide +kernel⟩⟩
set_option maxRecDepth 100000 in
theorem kV_RX11_422 : CalV RX11 422 yX11_proofAt cX11_proofAt 2 (some (.object "OilHome$Proof")) 1 := ⟨⟨wT_tab 1078 rfl rfl, wT_tab 1080 rfl rfl, wT_sel 54 _ rfl rfl rfl, wT_tab 1 rfl rfl, wT_tab 1081 rfl rfl⟩, ⟨by decide, by decide, by decide +kernel⟩⟩
set_option maxRecDepth 100000 in
theorem kV_RX11_438 : CalV RX11 438 yX11_boughtIn cX11_boughtIn 6 (some .int) 2 := ⟨⟨wT_tab 1106 rfl rfl, wT_tab 1108 rfl rfl, wT_sel 55 _ rfl rfl rfl, wT_tab 1 rfl rfl, wT_tab 1109 rfl rfl⟩, ⟨by decide, by decide, by decide +kernel⟩⟩
set_option maxRecDepth 100000 in
theorem kS_RX11_192 : CalS RX11 192 yX7_at cX7_at 2 (some .int) 2 := ⟨⟨wT_tab 728 rfl rfl, wT_tab 500 rfl rfl, wT_tab 7 rfl rfl, wT_tab 501 rfl rfl⟩, ⟨by decide, by decide, by decide +kernel⟩⟩
set_option maxRecDepth 100000 in
theorem kV_RX11_460 : CalV RX11 460 yX11_worthOf cX11_worthOf 6 (some .int) 2 := ⟨⟨wT_tab 1136 rfl rfl, wT_tab 1138 rfl rfl, wT_sel 56 _ rfl rfl rfl, wT_tab 1 rfl rfl, wT_tab 1139 rfl rfl⟩, ⟨by decide, by decide, by decide +kernel⟩⟩
set_option maxRecDepth 100000 in
theorem kV_RX11_464 : CalV RX11 464 yX11_comers cX11_comers 4 (some .int) 1 := ⟨⟨wT_tab 1149 rfl rfl, wT_tab 1151 rfl rfl, wT_sel 57 _ rfl rfl rfl, wT_tab 1 rfl rfl, wT_tab 1152 rfl rfl⟩, ⟨by decide, by decide, by decide +kernel⟩⟩
set_option maxRecDepth 100000 in
theorem kV_RX11_470 : CalV RX11 470 yX11_savedFrom cX11_savedFrom 5 (some .int) 2 := ⟨⟨wT_tab 1161 rfl rfl, wT_tab 1163 rfl rfl, wT_sel 58 _ rfl rfl rfl, wT_tab 1 rfl rfl, wT_tab 1164 rfl rfl⟩, ⟨by decide, by decide, by decide +kernel⟩⟩
set_option maxRecDepth 100000 in
theorem gf_RX11_74 {p : Program} {l : Launch} {e : Env} {R : Room} {s : State} {m : MethodId} {args : Array Value} {below : List Frame} {meth : Method} {c : Code} {H : Heap} {locs : List Loc} {cells slots : Nat} {Q : State → Prop} {cc : ByteArray} {nL pc : Nat} {D : va_G} {cI cB cZ : ClassId} {ws : va_W} {rest : List Value} {ls : Array Slot} {a : Nat} {fs : List Value} {v : Value} (S : SF p m c cc nL s args RX11) (hK : KK D cI cB cZ s) (hP : va_P D vwCl ws H) (q0 : Nat) (he : ws[q0]? = some (a, .inr (12, fs))) (hv : fs[14]? = some v) (hdg : decode cc pc = .ok (.getfield 74, 3)) (kk : W p l e R s m args below meth c H locs cells slots Q (F0 m (pc + 3) ls (v :: rest))) : W p l e R s m args below meth c H locs cells slots Q (F0 m pc ls (.ref a :: rest)) :=
  va_get (C := RX11) (T := TX11) (N := 16) S.1 S.2.1 S.2.2.2.2 hin_RX11 S.2.2.2.1 hK.1 hP q0 he rfl 14 (by decide) (S.2.2.2.2 _ (wT_tab 250 rfl rfl)) (fun _ h9 => h9) hv hdg kk
theorem dX11_shared_0 : decode cX11_shared 0 = .ok (.iload_n 3, 1) := by decide +kernel
theorem dX11_shared_1 : decode cX11_shared 1 = .ok (.iconst (-1), 1) := by decide +kernel
theorem dX11_shared_2 : decode cX11_shared 2 = .ok (.if_icmp .eq 11, 3) := by decide +kernel
theorem dX11_shared_13 : decode cX11_shared 13 = .ok (.iconst 1, 1) := by decide +kernel
theorem dX11_shared_14 : decode cX11_shared 14 = .ok (.goto 4, 3) := by decide +kernel
theorem dX11_shared_18 : decode cX11_shared 18 = .ok (.istore 4, 2) := by decide +kernel
theorem dX11_shared_20 : decode cX11_shared 20 = .ok (.iload_n 1, 1) := by decide +kernel
theorem dX11_shared_21 : decode cX11_shared 21 = .ok (.invokestatic 99, 3) := by decide +kernel
theorem dX11_shared_24 : decode cX11_shared 24 = .ok (.ifCond .eq 19, 3) := by decide +kernel
theorem dX11_shared_27 : decode cX11_shared 27 = .ok (.iload_n 2, 1) := by decide +kernel
theorem dX11_shared_28 : decode cX11_shared 28 = .ok (.iconst 1, 1) := by decide +kernel
theorem dX11_shared_29 : decode cX11_shared 29 = .ok (.sipush 400, 3) := by decide +kernel
theorem dX11_shared_32 : decode cX11_shared 32 = .ok (.invokestatic 80, 3) := by decide +kernel
theorem dX11_shared_35 : decode cX11_shared 35 = .ok (.ifCond .eq 8, 3) := by decide +kernel
theorem dX11_shared_38 : decode cX11_shared 38 = .ok (.iload 4, 2) := by decide +kernel
theorem dX11_shared_40 : decode cX11_shared 40 = .ok (.ifCond .ne 5, 3) := by decide +kernel
theorem dX11_shared_45 : decode cX11_shared 45 = .ok (.aload_n 0, 1) := by decide +kernel
theorem dX11_shared_46 : decode cX11_shared 46 = .ok (.iload_n 1, 1) := by decide +kernel
theorem dX11_shared_47 : decode cX11_shared 47 = .ok (.invokevirtual 276, 3) := by decide +kernel
theorem dX11_shared_50 : decode cX11_shared 50 = .ok (.ifCond .eq 14, 3) := by decide +kernel
theorem dX11_shared_53 : decode cX11_shared 53 = .ok (.aload_n 0, 1) := by decide +kernel
theorem dX11_shared_54 : decode cX11_shared 54 = .ok (.iload_n 1, 1) := by decide +kernel
theorem dX11_shared_55 : decode cX11_shared 55 = .ok (.iload_n 2, 1) := by decide +kernel
theorem dX11_shared_56 : decode cX11_shared 56 = .ok (.bipush 6, 2) := by decide +kernel
theorem dX11_shared_58 : decode cX11_shared 58 = .ok (.invokevirtual 279, 3) := by decide +kernel
theorem dX11_shared_61 : decode cX11_shared 61 = .ok (.ifCond .ne 6, 3) := by decide +kernel
theorem dX11_shared_67 : decode cX11_shared 67 = .ok (.aload_n 0, 1) := by decide +kernel
theorem dX11_shared_68 : decode cX11_shared 68 = .ok (.iload_n 1, 1) := by decide +kernel
theorem dX11_shared_69 : decode cX11_shared 69 = .ok (.invokevirtual 324, 3) := by decide +kernel
theorem dX11_shared_72 : decode cX11_shared 72 = .ok (.istore 5, 2) := by decide +kernel
theorem dX11_shared_74 : decode cX11_shared 74 = .ok (.iload 5, 2) := by decide +kernel
theorem dX11_shared_76 : decode cX11_shared 76 = .ok (.iconst (-1), 1) := by decide +kernel
theorem dX11_shared_77 : decode cX11_shared 77 = .ok (.if_icmp .ne 6, 3) := by decide +kernel
theorem dX11_shared_83 : decode cX11_shared 83 = .ok (.iload_n 3, 1) := by decide +kernel
theorem dX11_shared_84 : decode cX11_shared 84 = .ok (.iconst (-1), 1) := by decide +kernel
theorem dX11_shared_85 : decode cX11_shared 85 = .ok (.if_icmp .ne 13, 3) := by decide +kernel
theorem dX11_shared_88 : decode cX11_shared 88 = .ok (.aload_n 0, 1) := by decide +kernel
theorem dX11_shared_89 : decode cX11_shared 89 = .ok (.iload 5, 2) := by decide +kernel
theorem dX11_shared_91 : decode cX11_shared 91 = .ok (.iload_n 1, 1) := by decide +kernel
theorem dX11_shared_92 : decode cX11_shared 92 = .ok (.invokevirtual 327, 3) := by decide +kernel
theorem dX11_shared_95 : decode cX11_shared 95 = .ok (.goto 10, 3) := by decide +kernel
theorem dX11_shared_105 : decode cX11_shared 105 = .ok (.ireturn, 1) := by decide +kernel
theorem dX11_shared_43 : decode cX11_shared 43 = .ok (.iconst (-1), 1) := by decide +kernel
theorem dX11_shared_44 : decode cX11_shared 44 = .ok (.ireturn, 1) := by decide +kernel
theorem dX11_shared_5 : decode cX11_shared 5 = .ok (.aload_n 0, 1) := by decide +kernel
theorem dX11_shared_6 : decode cX11_shared 6 = .ok (.iload_n 3, 1) := by decide +kernel
theorem dX11_shared_7 : decode cX11_shared 7 = .ok (.invokevirtual 114, 3) := by decide +kernel
theorem dX11_shared_10 : decode cX11_shared 10 = .ok (.ifnull 7, 3) := by decide +kernel
theorem dX11_shared_17 : decode cX11_shared 17 = .ok (.iconst 0, 1) := by decide +kernel
theorem dX11_batchIs_0 : decode cX11_batchIs 0 = .ok (.aload_n 0, 1) := by decide +kernel
theorem dX11_batchIs_1 : decode cX11_batchIs 1 = .ok (.iload_n 1, 1) := by decide +kernel
theorem dX11_batchIs_2 : decode cX11_batchIs 2 = .ok (.invokevirtual 382, 3) := by decide +kernel
theorem dX11_batchIs_5 : decode cX11_batchIs 5 = .ok (.astore_n 3, 1) := by decide +kernel
theorem dX11_batchIs_6 : decode cX11_batchIs 6 = .ok (.aload_n 3, 1) := by decide +kernel
theorem dX11_batchIs_7 : decode cX11_batchIs 7 = .ok (.ifnonnull 5, 3) := by decide +kernel
theorem dX11_batchIs_10 : decode cX11_batchIs 10 = .ok (.iconst (-1), 1) := by decide +kernel
theorem dX11_batchIs_11 : decode cX11_batchIs 11 = .ok (.ireturn, 1) := by decide +kernel
theorem dX11_proof_0 : decode cX11_proof 0 = .ok (.aload_n 0, 1) := by decide +kernel
theorem dX11_proof_1 : decode cX11_proof 1 = .ok (.iload_n 1, 1) := by decide +kernel
theorem dX11_proof_2 : decode cX11_proof 2 = .ok (.invokevirtual 382, 3) := by decide +kernel
theorem dX11_proof_5 : decode cX11_proof 5 = .ok (.astore 5, 2) := by decide +kernel
theorem dX11_proof_7 : decode cX11_proof 7 = .ok (.aload 5, 2) := by decide +kernel
theorem dX11_proof_9 : decode cX11_proof 9 = .ok (.ifnull 44, 3) := by decide +kernel
theorem dX11_proof_53 : decode cX11_proof 53 = .ok (.iconst (-1), 1) := by decide +kernel
theorem dX11_proof_54 : decode cX11_proof 54 = .ok (.ireturn, 1) := by decide +kernel
theorem dX11_twice_0 : decode cX11_twice 0 = .ok (.iconst 0, 1) := by decide +kernel
theorem dX11_twice_1 : decode cX11_twice 1 = .ok (.istore_n 2, 1) := by decide +kernel
theorem dX11_twice_2 : decode cX11_twice 2 = .ok (.iload_n 2, 1) := by decide +kernel
theorem dX11_twice_3 : decode cX11_twice 3 = .ok (.aload_n 0, 1) := by decide +kernel
theorem dX11_twice_4 : decode cX11_twice 4 = .ok (.getfield 71, 3) := by decide +kernel
theorem dX11_twice_7 : decode cX11_twice 7 = .ok (.invokevirtual 84, 3) := by decide +kernel
theorem dX11_twice_10 : decode cX11_twice 10 = .ok (.if_icmp .ge 40, 3) := by decide +kernel
theorem dX11_twice_50 : decode cX11_twice 50 = .ok (.iconst (-1), 1) := by decide +kernel
theorem dX11_twice_51 : decode cX11_twice 51 = .ok (.ireturn, 1) := by decide +kernel
theorem dX11_bought_0 : decode cX11_bought 0 = .ok (.aload_n 0, 1) := by decide +kernel
theorem dX11_bought_1 : decode cX11_bought 1 = .ok (.iload_n 1, 1) := by decide +kernel
theorem dX11_bought_2 : decode cX11_bought 2 = .ok (.invokevirtual 382, 3) := by decide +kernel
theorem dX11_bought_5 : decode cX11_bought 5 = .ok (.ifnull 13, 3) := by decide +kernel
theorem dX11_bought_18 : decode cX11_bought 18 = .ok (.iconst (-1), 1) := by decide +kernel
theorem dX11_bought_19 : decode cX11_bought 19 = .ok (.goto 9, 3) := by decide +kernel
theorem dX11_bought_28 : decode cX11_bought 28 = .ok (.ireturn, 1) := by decide +kernel
theorem dX11_whence_0 : decode cX11_whence 0 = .ok (.aload_n 0, 1) := by decide +kernel
theorem dX11_whence_1 : decode cX11_whence 1 = .ok (.iload_n 1, 1) := by decide +kernel
theorem dX11_whence_2 : decode cX11_whence 2 = .ok (.invokevirtual 382, 3) := by decide +kernel
theorem dX11_whence_5 : decode cX11_whence 5 = .ok (.astore_n 3, 1) := by decide +kernel
theorem dX11_whence_6 : decode cX11_whence 6 = .ok (.aload_n 3, 1) := by decide +kernel
theorem dX11_whence_7 : decode cX11_whence 7 = .ok (.ifnull 15, 3) := by decide +kernel
theorem dX11_whence_22 : decode cX11_whence 22 = .ok (.iconst (-1), 1) := by decide +kernel
theorem dX11_whence_23 : decode cX11_whence 23 = .ok (.ireturn, 1) := by decide +kernel
theorem dX11_audit_0 : decode cX11_audit 0 = .ok (.aload_n 0, 1) := by decide +kernel
theorem dX11_audit_1 : decode cX11_audit 1 = .ok (.iload_n 1, 1) := by decide +kernel
theorem dX11_audit_2 : decode cX11_audit 2 = .ok (.invokevirtual 422, 3) := by decide +kernel
theorem dX11_audit_5 : decode cX11_audit 5 = .ok (.astore_n 3, 1) := by decide +kernel
theorem dX11_audit_6 : decode cX11_audit 6 = .ok (.aload_n 3, 1) := by decide +kernel
theorem dX11_audit_7 : decode cX11_audit 7 = .ok (.ifnonnull 7, 3) := by decide +kernel
theorem dX11_audit_10 : decode cX11_audit 10 = .ok (.aconst_null, 1) := by decide +kernel
theorem dX11_audit_11 : decode cX11_audit 11 = .ok (.goto 11, 3) := by decide +kernel
theorem dX11_audit_22 : decode cX11_audit 22 = .ok (.astore 4, 2) := by decide +kernel
theorem dX11_audit_24 : decode cX11_audit 24 = .ok (.aload_n 3, 1) := by decide +kernel
theorem dX11_audit_25 : decode cX11_audit 25 = .ok (.ifnull 16, 3) := by decide +kernel
theorem dX11_audit_41 : decode cX11_audit 41 = .ok (.iconst (-1), 1) := by decide +kernel
theorem dX11_audit_42 : decode cX11_audit 42 = .ok (.ireturn, 1) := by decide +kernel
theorem dX11_tax_0 : decode cX11_tax 0 = .ok (.aload_n 0, 1) := by decide +kernel
theorem dX11_tax_1 : decode cX11_tax 1 = .ok (.iload_n 1, 1) := by decide +kernel
theorem dX11_tax_2 : decode cX11_tax 2 = .ok (.invokevirtual 422, 3) := by decide +kernel
theorem dX11_tax_5 : decode cX11_tax 5 = .ok (.astore_n 2, 1) := by decide +kernel
theorem dX11_tax_6 : decode cX11_tax 6 = .ok (.aload_n 2, 1) := by decide +kernel
theorem dX11_tax_7 : decode cX11_tax 7 = .ok (.ifnonnull 5, 3) := by decide +kernel
theorem dX11_tax_10 : decode cX11_tax 10 = .ok (.iconst (-1), 1) := by decide +kernel
theorem dX11_tax_11 : decode cX11_tax 11 = .ok (.ireturn, 1) := by decide +kernel
theorem dX11_boughtIn_0 : decode cX11_boughtIn 0 = .ok (.iconst 0, 1) := by decide +kernel
theorem dX11_boughtIn_1 : decode cX11_boughtIn 1 = .ok (.istore_n 3, 1) := by decide +kernel
theorem dX11_boughtIn_2 : decode cX11_boughtIn 2 = .ok (.iconst 0, 1) := by decide +kernel
theorem dX11_boughtIn_3 : decode cX11_boughtIn 3 = .ok (.istore 4, 2) := by decide +kernel
theorem dX11_boughtIn_5 : decode cX11_boughtIn 5 = .ok (.iload 4, 2) := by decide +kernel
theorem dX11_boughtIn_7 : decode cX11_boughtIn 7 = .ok (.aload_n 0, 1) := by decide +kernel
theorem dX11_boughtIn_8 : decode cX11_boughtIn 8 = .ok (.getfield 71, 3) := by decide +kernel
theorem dX11_boughtIn_11 : decode cX11_boughtIn 11 = .ok (.invokevirtual 84, 3) := by decide +kernel
theorem dX11_boughtIn_14 : decode cX11_boughtIn 14 = .ok (.if_icmp .ge 56, 3) := by decide +kernel
theorem dX11_boughtIn_70 : decode cX11_boughtIn 70 = .ok (.iload_n 3, 1) := by decide +kernel
theorem dX11_boughtIn_71 : decode cX11_boughtIn 71 = .ok (.ireturn, 1) := by decide +kernel
theorem dX11_overdrawn_0 : decode cX11_overdrawn 0 = .ok (.iload_n 1, 1) := by decide +kernel
theorem dX11_overdrawn_1 : decode cX11_overdrawn 1 = .ok (.iconst 0, 1) := by decide +kernel
theorem dX11_overdrawn_2 : decode cX11_overdrawn 2 = .ok (.bipush 57, 2) := by decide +kernel
theorem dX11_overdrawn_4 : decode cX11_overdrawn 4 = .ok (.invokestatic 80, 3) := by decide +kernel
theorem dX11_overdrawn_7 : decode cX11_overdrawn 7 = .ok (.ifCond .ne 5, 3) := by decide +kernel
theorem dX11_overdrawn_12 : decode cX11_overdrawn 12 = .ok (.iconst 0, 1) := by decide +kernel
theorem dX11_overdrawn_13 : decode cX11_overdrawn 13 = .ok (.istore_n 2, 1) := by decide +kernel
theorem dX11_overdrawn_14 : decode cX11_overdrawn 14 = .ok (.iconst 0, 1) := by decide +kernel
theorem dX11_overdrawn_15 : decode cX11_overdrawn 15 = .ok (.istore_n 3, 1) := by decide +kernel
theorem dX11_overdrawn_16 : decode cX11_overdrawn 16 = .ok (.iload_n 3, 1) := by decide +kernel
theorem dX11_overdrawn_17 : decode cX11_overdrawn 17 = .ok (.bipush 10, 2) := by decide +kernel
theorem dX11_overdrawn_19 : decode cX11_overdrawn 19 = .ok (.if_icmp .ge 39, 3) := by decide +kernel
theorem dX11_overdrawn_58 : decode cX11_overdrawn 58 = .ok (.iload_n 2, 1) := by decide +kernel
theorem dX11_overdrawn_59 : decode cX11_overdrawn 59 = .ok (.ireturn, 1) := by decide +kernel
theorem dX11_overdrawn_22 : decode cX11_overdrawn 22 = .ok (.iload_n 2, 1) := by decide +kernel
theorem dX11_overdrawn_23 : decode cX11_overdrawn 23 = .ok (.aload_n 0, 1) := by decide +kernel
theorem dX11_overdrawn_24 : decode cX11_overdrawn 24 = .ok (.iload_n 1, 1) := by decide +kernel
theorem dX11_overdrawn_25 : decode cX11_overdrawn 25 = .ok (.iload_n 3, 1) := by decide +kernel
theorem dX11_overdrawn_26 : decode cX11_overdrawn 26 = .ok (.invokevirtual 438, 3) := by decide +kernel
theorem dX11_overdrawn_29 : decode cX11_overdrawn 29 = .ok (.aload_n 0, 1) := by decide +kernel
theorem dX11_overdrawn_30 : decode cX11_overdrawn 30 = .ok (.getfield 47, 3) := by decide +kernel
theorem dX11_overdrawn_33 : decode cX11_overdrawn 33 = .ok (.getfield 435, 3) := by decide +kernel
theorem dX11_overdrawn_36 : decode cX11_overdrawn 36 = .ok (.iload_n 3, 1) := by decide +kernel
theorem dX11_overdrawn_37 : decode cX11_overdrawn 37 = .ok (.invokestatic 192, 3) := by decide +kernel
theorem dX11_overdrawn_40 : decode cX11_overdrawn 40 = .ok (.if_icmp .le 9, 3) := by decide +kernel
theorem dX11_overdrawn_49 : decode cX11_overdrawn 49 = .ok (.iconst 0, 1) := by decide +kernel
theorem dX11_overdrawn_50 : decode cX11_overdrawn 50 = .ok (.ior, 1) := by decide +kernel
theorem dX11_overdrawn_51 : decode cX11_overdrawn 51 = .ok (.istore_n 2, 1) := by decide +kernel
theorem dX11_overdrawn_52 : decode cX11_overdrawn 52 = .ok (.iinc 3 1, 3) := by decide +kernel
theorem dX11_overdrawn_55 : decode cX11_overdrawn 55 = .ok (.goto (-39), 3) := by decide +kernel
theorem dX11_overdrawn_10 : decode cX11_overdrawn 10 = .ok (.iconst (-1), 1) := by decide +kernel
theorem dX11_overdrawn_11 : decode cX11_overdrawn 11 = .ok (.ireturn, 1) := by decide +kernel
theorem dX11_sample_0 : decode cX11_sample 0 = .ok (.aload_n 0, 1) := by decide +kernel
theorem dX11_sample_1 : decode cX11_sample 1 = .ok (.iload_n 1, 1) := by decide +kernel
theorem dX11_sample_2 : decode cX11_sample 2 = .ok (.invokevirtual 382, 3) := by decide +kernel
theorem dX11_sample_5 : decode cX11_sample 5 = .ok (.astore_n 3, 1) := by decide +kernel
theorem dX11_sample_6 : decode cX11_sample 6 = .ok (.aload_n 3, 1) := by decide +kernel
theorem dX11_sample_7 : decode cX11_sample 7 = .ok (.ifnull 23, 3) := by decide +kernel
theorem dX11_sample_30 : decode cX11_sample 30 = .ok (.iconst (-1), 1) := by decide +kernel
theorem dX11_sample_31 : decode cX11_sample 31 = .ok (.ireturn, 1) := by decide +kernel
theorem dX11_claim_0 : decode cX11_claim 0 = .ok (.aload_n 0, 1) := by decide +kernel
theorem dX11_claim_1 : decode cX11_claim 1 = .ok (.iload_n 1, 1) := by decide +kernel
theorem dX11_claim_2 : decode cX11_claim 2 = .ok (.invokevirtual 382, 3) := by decide +kernel
theorem dX11_claim_5 : decode cX11_claim 5 = .ok (.astore 4, 2) := by decide +kernel
theorem dX11_claim_7 : decode cX11_claim 7 = .ok (.aload 4, 2) := by decide +kernel
theorem dX11_claim_9 : decode cX11_claim 9 = .ok (.ifnull 25, 3) := by decide +kernel
theorem dX11_claim_34 : decode cX11_claim 34 = .ok (.iconst (-1), 1) := by decide +kernel
theorem dX11_claim_35 : decode cX11_claim 35 = .ok (.ireturn, 1) := by decide +kernel
theorem dX11_offers_0 : decode cX11_offers 0 = .ok (.aload_n 0, 1) := by decide +kernel
theorem dX11_offers_1 : decode cX11_offers 1 = .ok (.iload_n 1, 1) := by decide +kernel
theorem dX11_offers_2 : decode cX11_offers 2 = .ok (.invokevirtual 114, 3) := by decide +kernel
theorem dX11_offers_5 : decode cX11_offers 5 = .ok (.astore 4, 2) := by decide +kernel
theorem dX11_offers_7 : decode cX11_offers 7 = .ok (.aload 4, 2) := by decide +kernel
theorem dX11_offers_9 : decode cX11_offers 9 = .ok (.ifnull 25, 3) := by decide +kernel
theorem dX11_offers_34 : decode cX11_offers 34 = .ok (.iconst 0, 1) := by decide +kernel
theorem dX11_offers_35 : decode cX11_offers 35 = .ok (.ireturn, 1) := by decide +kernel
theorem dX11_worthOf_0 : decode cX11_worthOf 0 = .ok (.iconst 0, 1) := by decide +kernel
theorem dX11_worthOf_1 : decode cX11_worthOf 1 = .ok (.istore_n 3, 1) := by decide +kernel
theorem dX11_worthOf_2 : decode cX11_worthOf 2 = .ok (.iconst 0, 1) := by decide +kernel
theorem dX11_worthOf_3 : decode cX11_worthOf 3 = .ok (.istore 4, 2) := by decide +kernel
theorem dX11_worthOf_5 : decode cX11_worthOf 5 = .ok (.iload 4, 2) := by decide +kernel
theorem dX11_worthOf_7 : decode cX11_worthOf 7 = .ok (.aload_n 0, 1) := by decide +kernel
theorem dX11_worthOf_8 : decode cX11_worthOf 8 = .ok (.getfield 61, 3) := by decide +kernel
theorem dX11_worthOf_11 : decode cX11_worthOf 11 = .ok (.invokevirtual 84, 3) := by decide +kernel
theorem dX11_worthOf_14 : decode cX11_worthOf 14 = .ok (.if_icmp .ge 48, 3) := by decide +kernel
theorem dX11_worthOf_62 : decode cX11_worthOf 62 = .ok (.iload_n 3, 1) := by decide +kernel
theorem dX11_worthOf_63 : decode cX11_worthOf 63 = .ok (.ireturn, 1) := by decide +kernel
theorem dX11_comers_0 : decode cX11_comers 0 = .ok (.iconst 0, 1) := by decide +kernel
theorem dX11_comers_1 : decode cX11_comers 1 = .ok (.istore_n 2, 1) := by decide +kernel
theorem dX11_comers_2 : decode cX11_comers 2 = .ok (.iconst 0, 1) := by decide +kernel
theorem dX11_comers_3 : decode cX11_comers 3 = .ok (.istore_n 3, 1) := by decide +kernel
theorem dX11_comers_4 : decode cX11_comers 4 = .ok (.iload_n 3, 1) := by decide +kernel
theorem dX11_comers_5 : decode cX11_comers 5 = .ok (.aload_n 0, 1) := by decide +kernel
theorem dX11_comers_6 : decode cX11_comers 6 = .ok (.getfield 61, 3) := by decide +kernel
theorem dX11_comers_9 : decode cX11_comers 9 = .ok (.invokevirtual 84, 3) := by decide +kernel
theorem dX11_comers_12 : decode cX11_comers 12 = .ok (.if_icmp .ge 37, 3) := by decide +kernel
theorem dX11_comers_49 : decode cX11_comers 49 = .ok (.iload_n 2, 1) := by decide +kernel
theorem dX11_comers_50 : decode cX11_comers 50 = .ok (.ireturn, 1) := by decide +kernel
theorem dX11_worth_0 : decode cX11_worth 0 = .ok (.iload_n 1, 1) := by decide +kernel
theorem dX11_worth_1 : decode cX11_worth 1 = .ok (.iconst 0, 1) := by decide +kernel
theorem dX11_worth_2 : decode cX11_worth 2 = .ok (.sipush 200, 3) := by decide +kernel
theorem dX11_worth_5 : decode cX11_worth 5 = .ok (.invokestatic 80, 3) := by decide +kernel
theorem dX11_worth_8 : decode cX11_worth 8 = .ok (.ifCond .eq 23, 3) := by decide +kernel
theorem dX11_worth_11 : decode cX11_worth 11 = .ok (.iload_n 2, 1) := by decide +kernel
theorem dX11_worth_12 : decode cX11_worth 12 = .ok (.iconst 0, 1) := by decide +kernel
theorem dX11_worth_13 : decode cX11_worth 13 = .ok (.sipush 1000, 3) := by decide +kernel
theorem dX11_worth_16 : decode cX11_worth 16 = .ok (.invokestatic 80, 3) := by decide +kernel
theorem dX11_worth_19 : decode cX11_worth 19 = .ok (.ifCond .eq 12, 3) := by decide +kernel
theorem dX11_worth_22 : decode cX11_worth 22 = .ok (.aload_n 0, 1) := by decide +kernel
theorem dX11_worth_23 : decode cX11_worth 23 = .ok (.iload_n 1, 1) := by decide +kernel
theorem dX11_worth_24 : decode cX11_worth 24 = .ok (.iload_n 2, 1) := by decide +kernel
theorem dX11_worth_25 : decode cX11_worth 25 = .ok (.invokevirtual 460, 3) := by decide +kernel
theorem dX11_worth_28 : decode cX11_worth 28 = .ok (.goto 6, 3) := by decide +kernel
theorem dX11_worth_34 : decode cX11_worth 34 = .ok (.ireturn, 1) := by decide +kernel
theorem dX11_worth_31 : decode cX11_worth 31 = .ok (.ldc_w 463, 3) := by decide +kernel
theorem dX11_offer_0 : decode cX11_offer 0 = .ok (.iload_n 1, 1) := by decide +kernel
theorem dX11_offer_1 : decode cX11_offer 1 = .ok (.iconst 0, 1) := by decide +kernel
theorem dX11_offer_2 : decode cX11_offer 2 = .ok (.sipush 1000, 3) := by decide +kernel
theorem dX11_offer_5 : decode cX11_offer 5 = .ok (.invokestatic 80, 3) := by decide +kernel
theorem dX11_offer_8 : decode cX11_offer 8 = .ok (.ifCond .eq 12, 3) := by decide +kernel
theorem dX11_offer_11 : decode cX11_offer 11 = .ok (.iload_n 2, 1) := by decide +kernel
theorem dX11_offer_12 : decode cX11_offer 12 = .ok (.iconst 0, 1) := by decide +kernel
theorem dX11_offer_13 : decode cX11_offer 13 = .ok (.iconst 2, 1) := by decide +kernel
theorem dX11_offer_14 : decode cX11_offer 14 = .ok (.invokestatic 80, 3) := by decide +kernel
theorem dX11_offer_17 : decode cX11_offer 17 = .ok (.ifCond .ne 5, 3) := by decide +kernel
theorem dX11_offer_22 : decode cX11_offer 22 = .ok (.iconst 0, 1) := by decide +kernel
theorem dX11_offer_23 : decode cX11_offer 23 = .ok (.istore_n 3, 1) := by decide +kernel
theorem dX11_offer_24 : decode cX11_offer 24 = .ok (.aload_n 0, 1) := by decide +kernel
theorem dX11_offer_25 : decode cX11_offer 25 = .ok (.iconst 0, 1) := by decide +kernel
theorem dX11_offer_26 : decode cX11_offer 26 = .ok (.iload_n 1, 1) := by decide +kernel
theorem dX11_offer_27 : decode cX11_offer 27 = .ok (.invokevirtual 460, 3) := by decide +kernel
theorem dX11_offer_30 : decode cX11_offer 30 = .ok (.istore 4, 2) := by decide +kernel
theorem dX11_offer_32 : decode cX11_offer 32 = .ok (.iconst 1, 1) := by decide +kernel
theorem dX11_offer_33 : decode cX11_offer 33 = .ok (.istore 5, 2) := by decide +kernel
theorem dX11_offer_35 : decode cX11_offer 35 = .ok (.iload 5, 2) := by decide +kernel
theorem dX11_offer_37 : decode cX11_offer 37 = .ok (.sipush 200, 3) := by decide +kernel
theorem dX11_offer_40 : decode cX11_offer 40 = .ok (.if_icmp .gt 32, 3) := by decide +kernel
theorem dX11_offer_72 : decode cX11_offer 72 = .ok (.iload_n 2, 1) := by decide +kernel
theorem dX11_offer_73 : decode cX11_offer 73 = .ok (.ifCond .ne 7, 3) := by decide +kernel
theorem dX11_offer_80 : decode cX11_offer 80 = .ok (.iload_n 2, 1) := by decide +kernel
theorem dX11_offer_81 : decode cX11_offer 81 = .ok (.iconst 1, 1) := by decide +kernel
theorem dX11_offer_82 : decode cX11_offer 82 = .ok (.if_icmp .ne 8, 3) := by decide +kernel
theorem dX11_offer_90 : decode cX11_offer 90 = .ok (.aload_n 0, 1) := by decide +kernel
theorem dX11_offer_91 : decode cX11_offer 91 = .ok (.iload_n 3, 1) := by decide +kernel
theorem dX11_offer_92 : decode cX11_offer 92 = .ok (.invokevirtual 464, 3) := by decide +kernel
theorem dX11_offer_95 : decode cX11_offer 95 = .ok (.ireturn, 1) := by decide +kernel
theorem dX11_offer_85 : decode cX11_offer 85 = .ok (.iload 4, 2) := by decide +kernel
theorem dX11_offer_87 : decode cX11_offer 87 = .ok (.goto 8, 3) := by decide +kernel
theorem dX11_offer_76 : decode cX11_offer 76 = .ok (.iload_n 3, 1) := by decide +kernel
theorem dX11_offer_77 : decode cX11_offer 77 = .ok (.goto 18, 3) := by decide +kernel
theorem dX11_offer_43 : decode cX11_offer 43 = .ok (.aload_n 0, 1) := by decide +kernel
theorem dX11_offer_44 : decode cX11_offer 44 = .ok (.iload 5, 2) := by decide +kernel
theorem dX11_offer_46 : decode cX11_offer 46 = .ok (.iload_n 1, 1) := by decide +kernel
theorem dX11_offer_47 : decode cX11_offer 47 = .ok (.invokevirtual 460, 3) := by decide +kernel
theorem dX11_offer_50 : decode cX11_offer 50 = .ok (.istore 6, 2) := by decide +kernel
theorem dX11_offer_52 : decode cX11_offer 52 = .ok (.iload 6, 2) := by decide +kernel
theorem dX11_offer_54 : decode cX11_offer 54 = .ok (.iload 4, 2) := by decide +kernel
theorem dX11_offer_56 : decode cX11_offer 56 = .ok (.if_icmp .le 10, 3) := by decide +kernel
theorem dX11_offer_66 : decode cX11_offer 66 = .ok (.iinc 5 1, 3) := by decide +kernel
theorem dX11_offer_69 : decode cX11_offer 69 = .ok (.goto (-34), 3) := by decide +kernel
theorem dX11_offer_20 : decode cX11_offer 20 = .ok (.iconst (-1), 1) := by decide +kernel
theorem dX11_offer_21 : decode cX11_offer 21 = .ok (.ireturn, 1) := by decide +kernel
theorem dX11_savedFrom_0 : decode cX11_savedFrom 0 = .ok (.iconst 0, 1) := by decide +kernel
theorem dX11_savedFrom_1 : decode cX11_savedFrom 1 = .ok (.istore_n 3, 1) := by decide +kernel
theorem dX11_savedFrom_2 : decode cX11_savedFrom 2 = .ok (.iconst 0, 1) := by decide +kernel
theorem dX11_savedFrom_3 : decode cX11_savedFrom 3 = .ok (.istore 4, 2) := by decide +kernel
theorem dX11_savedFrom_5 : decode cX11_savedFrom 5 = .ok (.iload 4, 2) := by decide +kernel
theorem dX11_savedFrom_7 : decode cX11_savedFrom 7 = .ok (.iload_n 2, 1) := by decide +kernel
theorem dX11_savedFrom_8 : decode cX11_savedFrom 8 = .ok (.if_icmp .ge 29, 3) := by decide +kernel
theorem dX11_savedFrom_37 : decode cX11_savedFrom 37 = .ok (.iload_n 3, 1) := by decide +kernel
theorem dX11_savedFrom_38 : decode cX11_savedFrom 38 = .ok (.ireturn, 1) := by decide +kernel
theorem dX11_savedFrom_11 : decode cX11_savedFrom 11 = .ok (.iload_n 3, 1) := by decide +kernel
theorem dX11_savedFrom_12 : decode cX11_savedFrom 12 = .ok (.aload_n 0, 1) := by decide +kernel
theorem dX11_savedFrom_13 : decode cX11_savedFrom 13 = .ok (.getfield 47, 3) := by decide +kernel
theorem dX11_savedFrom_16 : decode cX11_savedFrom 16 = .ok (.getfield 467, 3) := by decide +kernel
theorem dX11_savedFrom_19 : decode cX11_savedFrom 19 = .ok (.iload_n 1, 1) := by decide +kernel
theorem dX11_savedFrom_20 : decode cX11_savedFrom 20 = .ok (.iload 4, 2) := by decide +kernel
theorem dX11_savedFrom_22 : decode cX11_savedFrom 22 = .ok (.iadd, 1) := by decide +kernel
theorem dX11_savedFrom_23 : decode cX11_savedFrom 23 = .ok (.bipush 24, 2) := by decide +kernel
theorem dX11_savedFrom_25 : decode cX11_savedFrom 25 = .ok (.irem, 1) := by decide +kernel
theorem dX11_savedFrom_26 : decode cX11_savedFrom 26 = .ok (.invokestatic 192, 3) := by decide +kernel
theorem dX11_savedFrom_29 : decode cX11_savedFrom 29 = .ok (.iadd, 1) := by decide +kernel
theorem dX11_savedFrom_30 : decode cX11_savedFrom 30 = .ok (.istore_n 3, 1) := by decide +kernel
theorem dX11_savedFrom_31 : decode cX11_savedFrom 31 = .ok (.iinc 4 1, 3) := by decide +kernel
theorem dX11_savedFrom_34 : decode cX11_savedFrom 34 = .ok (.goto (-29), 3) := by decide +kernel
theorem dX11_lock_0 : decode cX11_lock 0 = .ok (.iload_n 1, 1) := by decide +kernel
theorem dX11_lock_1 : decode cX11_lock 1 = .ok (.iconst 1, 1) := by decide +kernel
theorem dX11_lock_2 : decode cX11_lock 2 = .ok (.bipush 12, 2) := by decide +kernel
theorem dX11_lock_4 : decode cX11_lock 4 = .ok (.invokestatic 80, 3) := by decide +kernel
theorem dX11_lock_7 : decode cX11_lock 7 = .ok (.ifCond .eq 12, 3) := by decide +kernel
theorem dX11_lock_10 : decode cX11_lock 10 = .ok (.iload_n 2, 1) := by decide +kernel
theorem dX11_lock_11 : decode cX11_lock 11 = .ok (.iconst 0, 1) := by decide +kernel
theorem dX11_lock_12 : decode cX11_lock 12 = .ok (.iconst 1, 1) := by decide +kernel
theorem dX11_lock_13 : decode cX11_lock 13 = .ok (.invokestatic 80, 3) := by decide +kernel
theorem dX11_lock_16 : decode cX11_lock 16 = .ok (.ifCond .ne 5, 3) := by decide +kernel
theorem dX11_lock_21 : decode cX11_lock 21 = .ok (.iconst 0, 1) := by decide +kernel
theorem dX11_lock_22 : decode cX11_lock 22 = .ok (.istore_n 3, 1) := by decide +kernel
theorem dX11_lock_23 : decode cX11_lock 23 = .ok (.aload_n 0, 1) := by decide +kernel
theorem dX11_lock_24 : decode cX11_lock 24 = .ok (.iconst 0, 1) := by decide +kernel
theorem dX11_lock_25 : decode cX11_lock 25 = .ok (.iload_n 1, 1) := by decide +kernel
theorem dX11_lock_26 : decode cX11_lock 26 = .ok (.invokevirtual 470, 3) := by decide +kernel
theorem dX11_lock_29 : decode cX11_lock 29 = .ok (.istore 4, 2) := by decide +kernel
theorem dX11_lock_31 : decode cX11_lock 31 = .ok (.iconst 1, 1) := by decide +kernel
theorem dX11_lock_32 : decode cX11_lock 32 = .ok (.istore 5, 2) := by decide +kernel
theorem dX11_lock_34 : decode cX11_lock 34 = .ok (.iload 5, 2) := by decide +kernel
theorem dX11_lock_36 : decode cX11_lock 36 = .ok (.bipush 24, 2) := by decide +kernel
theorem dX11_lock_38 : decode cX11_lock 38 = .ok (.if_icmp .ge 32, 3) := by decide +kernel
theorem dX11_lock_70 : decode cX11_lock 70 = .ok (.iload_n 2, 1) := by decide +kernel
theorem dX11_lock_71 : decode cX11_lock 71 = .ok (.ifCond .ne 7, 3) := by decide +kernel
theorem dX11_lock_78 : decode cX11_lock 78 = .ok (.iload 4, 2) := by decide +kernel
theorem dX11_lock_80 : decode cX11_lock 80 = .ok (.ireturn, 1) := by decide +kernel
theorem dX11_lock_74 : decode cX11_lock 74 = .ok (.iload_n 3, 1) := by decide +kernel
theorem dX11_lock_75 : decode cX11_lock 75 = .ok (.goto 5, 3) := by decide +kernel
theorem dX11_lock_41 : decode cX11_lock 41 = .ok (.aload_n 0, 1) := by decide +kernel
theorem dX11_lock_42 : decode cX11_lock 42 = .ok (.iload 5, 2) := by decide +kernel
theorem dX11_lock_44 : decode cX11_lock 44 = .ok (.iload_n 1, 1) := by decide +kernel
theorem dX11_lock_45 : decode cX11_lock 45 = .ok (.invokevirtual 470, 3) := by decide +kernel
theorem dX11_lock_48 : decode cX11_lock 48 = .ok (.istore 6, 2) := by decide +kernel
theorem dX11_lock_50 : decode cX11_lock 50 = .ok (.iload 6, 2) := by decide +kernel
theorem dX11_lock_52 : decode cX11_lock 52 = .ok (.iload 4, 2) := by decide +kernel
theorem dX11_lock_54 : decode cX11_lock 54 = .ok (.if_icmp .le 10, 3) := by decide +kernel
theorem dX11_lock_64 : decode cX11_lock 64 = .ok (.iinc 5 1, 3) := by decide +kernel
theorem dX11_lock_67 : decode cX11_lock 67 = .ok (.goto (-33), 3) := by decide +kernel
theorem dX11_lock_19 : decode cX11_lock 19 = .ok (.iconst (-1), 1) := by decide +kernel
theorem dX11_lock_20 : decode cX11_lock 20 = .ok (.ireturn, 1) := by decide +kernel
theorem dX11_blocked_0 : decode cX11_blocked 0 = .ok (.iload_n 1, 1) := by decide +kernel
theorem dX11_blocked_1 : decode cX11_blocked 1 = .ok (.ifCond .lt 14, 3) := by decide +kernel
theorem dX11_blocked_15 : decode cX11_blocked 15 = .ok (.iconst (-1), 1) := by decide +kernel
theorem dX11_blocked_16 : decode cX11_blocked 16 = .ok (.ireturn, 1) := by decide +kernel
theorem dX11_blocked_4 : decode cX11_blocked 4 = .ok (.iload_n 1, 1) := by decide +kernel
theorem dX11_blocked_5 : decode cX11_blocked 5 = .ok (.aload_n 0, 1) := by decide +kernel
theorem dX11_blocked_6 : decode cX11_blocked 6 = .ok (.getfield 74, 3) := by decide +kernel
theorem dX11_blocked_9 : decode cX11_blocked 9 = .ok (.invokevirtual 84, 3) := by decide +kernel
theorem dX11_blocked_12 : decode cX11_blocked 12 = .ok (.if_icmp .lt 5, 3) := by decide +kernel
theorem dX11_beside_0 : decode cX11_beside 0 = .ok (.iload_n 1, 1) := by decide +kernel
theorem dX11_beside_1 : decode cX11_beside 1 = .ok (.iconst 0, 1) := by decide +kernel
theorem dX11_beside_2 : decode cX11_beside 2 = .ok (.sipush 198, 3) := by decide +kernel
theorem dX11_beside_5 : decode cX11_beside 5 = .ok (.invokestatic 80, 3) := by decide +kernel
theorem dX11_beside_8 : decode cX11_beside 8 = .ok (.ifCond .eq 14, 3) := by decide +kernel
theorem dX11_beside_11 : decode cX11_beside 11 = .ok (.iload_n 2, 1) := by decide +kernel
theorem dX11_beside_12 : decode cX11_beside 12 = .ok (.iconst 1, 1) := by decide +kernel
theorem dX11_beside_13 : decode cX11_beside 13 = .ok (.sipush 1000, 3) := by decide +kernel
theorem dX11_beside_16 : decode cX11_beside 16 = .ok (.invokestatic 80, 3) := by decide +kernel
theorem dX11_beside_19 : decode cX11_beside 19 = .ok (.ifCond .ne 5, 3) := by decide +kernel
theorem dX11_beside_24 : decode cX11_beside 24 = .ok (.iconst 0, 1) := by decide +kernel
theorem dX11_beside_25 : decode cX11_beside 25 = .ok (.istore_n 3, 1) := by decide +kernel
theorem dX11_beside_26 : decode cX11_beside 26 = .ok (.iconst 0, 1) := by decide +kernel
theorem dX11_beside_27 : decode cX11_beside 27 = .ok (.istore 4, 2) := by decide +kernel
theorem dX11_beside_29 : decode cX11_beside 29 = .ok (.iload 4, 2) := by decide +kernel
theorem dX11_beside_31 : decode cX11_beside 31 = .ok (.aload_n 0, 1) := by decide +kernel
theorem dX11_beside_32 : decode cX11_beside 32 = .ok (.getfield 61, 3) := by decide +kernel
theorem dX11_beside_35 : decode cX11_beside 35 = .ok (.invokevirtual 84, 3) := by decide +kernel
theorem dX11_beside_38 : decode cX11_beside 38 = .ok (.if_icmp .ge 53, 3) := by decide +kernel
theorem dX11_beside_91 : decode cX11_beside 91 = .ok (.iload_n 3, 1) := by decide +kernel
theorem dX11_beside_92 : decode cX11_beside 92 = .ok (.ireturn, 1) := by decide +kernel
theorem dX11_beside_22 : decode cX11_beside 22 = .ok (.iconst (-1), 1) := by decide +kernel
theorem dX11_beside_23 : decode cX11_beside 23 = .ok (.ireturn, 1) := by decide +kernel
theorem dX11_late_0 : decode cX11_late 0 = .ok (.aload_n 0, 1) := by decide +kernel
theorem dX11_late_1 : decode cX11_late 1 = .ok (.iload_n 1, 1) := by decide +kernel
theorem dX11_late_2 : decode cX11_late 2 = .ok (.invokevirtual 114, 3) := by decide +kernel
theorem dX11_late_5 : decode cX11_late 5 = .ok (.ifnull 14, 3) := by decide +kernel
theorem dX11_late_19 : decode cX11_late 19 = .ok (.iconst (-1), 1) := by decide +kernel
theorem dX11_late_20 : decode cX11_late 20 = .ok (.ireturn, 1) := by decide +kernel
theorem dX11_sets_0 : decode cX11_sets 0 = .ok (.aload_n 0, 1) := by decide +kernel
theorem dX11_sets_1 : decode cX11_sets 1 = .ok (.getfield 47, 3) := by decide +kernel
theorem dX11_sets_4 : decode cX11_sets 4 = .ok (.getfield 486, 3) := by decide +kernel
theorem dX11_sets_7 : decode cX11_sets 7 = .ok (.iload_n 1, 1) := by decide +kernel
theorem dX11_sets_8 : decode cX11_sets 8 = .ok (.invokestatic 192, 3) := by decide +kernel
theorem dX11_sets_11 : decode cX11_sets 11 = .ok (.iload_n 2, 1) := by decide +kernel
theorem dX11_sets_12 : decode cX11_sets 12 = .ok (.if_icmp .ge 7, 3) := by decide +kernel
theorem dX11_sets_19 : decode cX11_sets 19 = .ok (.iconst 0, 1) := by decide +kernel
theorem dX11_sets_20 : decode cX11_sets 20 = .ok (.ireturn, 1) := by decide +kernel
theorem dX11_sets_15 : decode cX11_sets 15 = .ok (.iconst 1, 1) := by decide +kernel
theorem dX11_sets_16 : decode cX11_sets 16 = .ok (.goto 4, 3) := by decide +kernel
set_option maxRecDepth 100000 in
set_option maxHeartbeats 4000000 in
theorem q_X_shared (l : Launch) (D : va_G) (cI cB cZ : ClassId) (g : Nat → Nat) (v0 v1 v2 : Int32) (sz : Nat) : Met l yX11_shared (CWS yX11_shared cX11_shared 6 (some .int)) (RM 6 0 0) (PBw [.ref (g 0), .int v0, .int v1, .int v2] D cI cB cZ [((g 0), .inr (12, oX g)), ((g 10), .inr (0, [.int 0, .ref (g 50), .int 0])), ((g 9), .inr (11, oW g)), ((g 32), .inl (cI, 8, .inl (fun _ => 0))), ((g 33), .inl (cI, 8, .inl (fun _ => 0))), ((g 35), .inl (cI, 256, .inl (fun _ => 0)))] sz) (va_Qi (fun (r : Int32) (_ : Unit) => r = (if (0 ≤ v0.toInt ∧ v0.toInt ≤ 399) ∧ (1 ≤ v1.toInt ∧ v1.toInt ≤ 400) ∧ v2.toInt = -1 then (0 : Int32) else -1)) (fun (_ : Unit) (_ : State) => True) (va_A [((g 0), .inr (12, oX g)), ((g 10), .inr (0, [.int 0, .ref (g 50), .int 0])), ((g 9), .inr (11, oW g)), ((g 32), .inl (cI, 8, .inl (fun _ => 0))), ((g 33), .inl (cI, 8, .inl (fun _ => 0))), ((g 35), .inl (cI, 256, .inl (fun _ => 0)))] sz)) 0 0 (va_A [((g 0), .inr (12, oX g)), ((g 10), .inr (0, [.int 0, .ref (g 50), .int 0])), ((g 9), .inr (11, oW g)), ((g 32), .inl (cI, 8, .inl (fun _ => 0))), ((g 33), .inl (cI, 8, .inl (fun _ => 0))), ((g 35), .inl (cI, 256, .inl (fun _ => 0)))] sz) := by
  refine Met.ofW (cc := cX11_shared) (maxL := 6) (ret := (some .int)) (by decide) rfl ?_
  intro p e s m args below meth c s₁ B hml hv
  obtain ⟨rfl, hsz, hP, hK, hD0⟩ := hv
  have hx := B.exec
  have hb := B.bytes
  have hr := B.returns
  have hts := atoms_spec (ws := (CWS yX11_shared cX11_shared 6 (some .int))) B.pre
  have hown : s.vm.findClass RX11 = some m.cls := findClass_of_methodNamed B.named
  have hlocks := B.notSynchronized
  have S : SF p m c cX11_shared 6 s ([.ref (g 0), .int v0, .int v1, .int v2]).toArray RX11 := ⟨hx, hb, hml, hown, fun w h => hts w (List.mem_cons_of_mem _ h)⟩
  subst hsz
  have hD := hD0.self (sz := s.heap.size)
  generalize hAe : va_A [((g 0), .inr (12, oX g)), ((g 10), .inr (0, [.int 0, .ref (g 50), .int 0])), ((g 9), .inr (11, oW g)), ((g 32), .inl (cI, 8, .inl (fun _ => 0))), ((g 33), .inl (cI, 8, .inl (fun _ => 0))), ((g 35), .inl (cI, 256, .inl (fun _ => 0)))] s.heap.size = A at hD ⊢
  have hA : ∀ q : Nat, s.heap.size ≤ q → A q := fun q h => by rw [← hAe]; exact Or.inr h
  have hS : va_S A s.heap s.heap [] := va_S.rf
  have hP : va_P D vwCl [((g 0), .inr (12, oX g)), ((g 10), .inr (0, [.int 0, .ref (g 50), .int 0])), ((g 9), .inr (11, oW g)), ((g 32), .inl (cI, 8, .inl (fun _ => 0))), ((g 33), .inl (cI, 8, .inl (fun _ => 0))), ((g 35), .inl (cI, 256, .inl (fun _ => 0)))] s.heap := hP
  have hD : va_D A [((g 0), .inr (12, oX g)), ((g 10), .inr (0, [.int 0, .ref (g 50), .int 0])), ((g 9), .inr (11, oW g)), ((g 32), .inl (cI, 8, .inl (fun _ => 0))), ((g 33), .inl (cI, 8, .inl (fun _ => 0))), ((g 35), .inl (cI, 256, .inl (fun _ => 0)))] := hD
  have hl := lv_entry ([.ref (g 0), .int v0, .int v1, .int v2]) (n := 6) (Nat.le_of_ble_eq_true rfl)
  rw [lg_entry_eq]
  generalize (lg_sl ([.ref (g 0), .int v0, .int v1, .int v2]) ++ List.replicate (6 - (lg_sl ([.ref (g 0), .int v0, .int v1, .int v2])).length) Slot.unset).toArray = ls at hl ⊢
  have hl : lv_has ls 6 [(0, .ref (g 0)), (1, .int v0), (2, .int v1), (3, .int v2)] := hl
  refine lv_iload_n hx hb dX11_shared_0 rfl (lv_at hl 3 rfl) ?_
  refine lv_iconst (v := (-1)) hx hb dX11_shared_1 (by decide) ?_
  refine lv_icmp_eq (tgt := 13) hx hb dX11_shared_2 (by decide) (fun c_1 => ?_) (fun c_1 => ?_)
  ·
    have tc_1 : (v2.toInt : Int) = (-1) := congrArg Int32.toInt c_1
    refine lv_iconst (v := 1) hx hb dX11_shared_13 (by decide) ?_
    refine lv_goto (tgt := 18) hx hb dX11_shared_14 (by decide) ?_
    refine lv_istore (lv' := [(4, .int 1), (0, .ref (g 0)), (1, .int v0), (2, .int v1), (3, .int v2)]) hx hb dX11_shared_18 hl (by decide) rfl (fun ls hl => ?_)
    refine lv_iload_n hx hb dX11_shared_20 rfl (lv_at hl 2 rfl) ?_
    refine vp_callSi (runS_r (As := [.int v0]) (rest := []) S (q_isDay l D cI cB cZ v0) kS_RX11_99 hK hP [] rfl ⟨Nat.le_of_ble_eq_true rfl, Nat.le_of_ble_eq_true rfl⟩ ⟨Nat.le_of_ble_eq_true rfl, Nat.le_of_ble_eq_true rfl⟩ rfl hl.1 rfl (Nat.le_of_ble_eq_true rfl) dX11_shared_21) (fun r_2 h_3 => ?_)
    rcases h_3 with ⟨rfl, h_3⟩ | ⟨rfl, h_3⟩
    ·
      have h_3 : 0 ≤ v0.toInt ∧ v0.toInt ≤ 399 := h_3
      refine lv_if_eq (tgt := 43) hx hb dX11_shared_24 (by decide) (fun h => absurd h (by decide)) (fun _ => ?_)
      refine lv_iload_n hx hb dX11_shared_27 rfl (lv_at hl 3 rfl) ?_
      refine lv_iconst (v := 1) hx hb dX11_shared_28 (by decide) ?_
      refine lv_sipush (v := 400) hx hb dX11_shared_29 (by decide) ?_
      refine vp_callSi (runS_r (As := [.int v1, .int 1, .int 400]) (rest := []) S (q_within l D cI cB cZ v1 1 400) kS_RX11_80 hK hP [] rfl ⟨Nat.le_of_ble_eq_true rfl, Nat.le_of_ble_eq_true rfl⟩ ⟨Nat.le_of_ble_eq_true rfl, Nat.le_of_ble_eq_true rfl⟩ rfl hl.1 rfl (Nat.le_of_ble_eq_true rfl) dX11_shared_32) (fun r_4 h_5 => ?_)
      rcases h_5 with ⟨rfl, h_5⟩ | ⟨rfl, h_5⟩
      ·
        have h_5 : 1 ≤ v1.toInt ∧ v1.toInt ≤ 400 := h_5
        refine lv_if_eq (tgt := 43) hx hb dX11_shared_35 (by decide) (fun h => absurd h (by decide)) (fun _ => ?_)
        refine lv_iload hx hb dX11_shared_38 (lv_at hl 0 rfl) ?_
        refine lv_if_ne (tgt := 45) hx hb dX11_shared_40 (by decide) (fun _ => ?_) (fun h => absurd h (by decide))
        refine lv_aload_n hx hb dX11_shared_45 rfl (lv_at hl 1 rfl) ?_
        refine lv_iload_n hx hb dX11_shared_46 rfl (lv_at hl 2 rfl) ?_
        refine vp_callSi (runV_r (As := [.int v0]) (rest := []) S (q_startTrial l D cI cB cZ g v0) kV_RX11_276 hK hP [0, 1] rfl 0 rfl rfl rfl ⟨Nat.le_of_ble_eq_true rfl, Nat.le_of_ble_eq_true rfl⟩ ⟨Nat.le_of_ble_eq_true rfl, Nat.le_of_ble_eq_true rfl⟩ rfl hl.1 rfl (Nat.le_of_ble_eq_true rfl) dX11_shared_47) (fun r_6 h_7 => ?_)
        subst h_7
        refine lv_if_eq (tgt := 64) hx hb dX11_shared_50 (by decide) (fun h => absurd h (by decide)) (fun _ => ?_)
        refine lv_aload_n hx hb dX11_shared_53 rfl (lv_at hl 1 rfl) ?_
        refine lv_iload_n hx hb dX11_shared_54 rfl (lv_at hl 2 rfl) ?_
        refine lv_iload_n hx hb dX11_shared_55 rfl (lv_at hl 3 rfl) ?_
        refine lv_bipush (v := 6) hx hb dX11_shared_56 (by decide) ?_
        have hFc := va_free (wc := [((g 0), .inr (12, oX g)), ((g 10), .inr (0, [.int 0, .ref (g 50), .int 0])), ((g 9), .inr (11, oW g)), ((g 32), .inl (cI, 8, .inl (fun _ => 0))), ((g 33), .inl (cI, 8, .inl (fun _ => 0))), ((g 35), .inl (cI, 256, .inl (fun _ => 0)))]) hD hS hA [0, 1, 2, 3, 4, 5] rfl
        refine va_calli (runV_w (As := [.int v0, .int v1, .int 6]) (rest := []) S (q_gatherStops l D cI cB cZ g v0 v1 6 s.heap.size) kV_RX11_279 hK hP hD [0, 1, 2, 3, 4, 5] rfl rfl (by decide) 0 rfl rfl rfl ⟨Nat.le_of_ble_eq_true rfl, Nat.le_of_ble_eq_true rfl⟩ ⟨Nat.le_of_ble_eq_true rfl, Nat.le_of_ble_eq_true rfl⟩ rfl hl.1 rfl (Nat.le_of_ble_eq_true rfl) dX11_shared_58) hS (fun q _ h => hFc q h) hFc (fun r_8 u_9 t H1 locs ht hvm h_10 hB hz1 hk1 hS => ?_)
        obtain ⟨hP1, hD1⟩ := hB
        rw [ht] at hP1
        obtain ⟨hP, hD⟩ := va_join (wr := []) (w1 := [((g 0), .inr (12, oX g)), ((g 10), .inr (0, [.int 0, .ref (g 50), .int 0])), ((g 9), .inr (11, oW g)), ((g 32), .inl (cI, 8, .inl (fun _ => 0))), ((g 33), .inl (cI, 8, .inl (fun _ => 0))), ((g 35), .inl (cI, 256, .inl (fun _ => 0)))]) hP hD [0, 1, 2, 3, 4, 5] [] rfl rfl (by decide) (by decide) hk1 hFc hP1 hD1
        generalize H1 = H at hP hS ⊢
        have hP : va_P D vwCl [((g 0), .inr (12, oX g)), ((g 10), .inr (0, [.int 0, .ref (g 50), .int 0])), ((g 9), .inr (11, oW g)), ((g 32), .inl (cI, 8, .inl (fun _ => 0))), ((g 33), .inl (cI, 8, .inl (fun _ => 0))), ((g 35), .inl (cI, 256, .inl (fun _ => 0)))] H := hP
        have hD : va_D A [((g 0), .inr (12, oX g)), ((g 10), .inr (0, [.int 0, .ref (g 50), .int 0])), ((g 9), .inr (11, oW g)), ((g 32), .inl (cI, 8, .inl (fun _ => 0))), ((g 33), .inl (cI, 8, .inl (fun _ => 0))), ((g 35), .inl (cI, 256, .inl (fun _ => 0)))] := hD
        subst h_10
        refine lv_if_ne (tgt := 67) hx hb dX11_shared_61 (by decide) (fun _ => ?_) (fun h => absurd h (by decide))
        refine lv_aload_n hx hb dX11_shared_67 rfl (lv_at hl 1 rfl) ?_
        refine lv_iload_n hx hb dX11_shared_68 rfl (lv_at hl 2 rfl) ?_
        refine vp_callSi (runV_r (As := [.int v0]) (rest := []) S (q_bestShares l D cI cB cZ g v0) kV_RX11_324 hK hP [0, 2] rfl 0 rfl rfl rfl ⟨Nat.le_of_ble_eq_true rfl, Nat.le_of_ble_eq_true rfl⟩ ⟨Nat.le_of_ble_eq_true rfl, Nat.le_of_ble_eq_true rfl⟩ rfl hl.1 rfl (Nat.le_of_ble_eq_true rfl) dX11_shared_69) (fun r_11 h_12 => ?_)
        subst h_12
        refine lv_istore (lv' := [(5, .int 0), (4, .int 1), (0, .ref (g 0)), (1, .int v0), (2, .int v1), (3, .int v2)]) hx hb dX11_shared_72 hl (by decide) rfl (fun ls hl => ?_)
        refine lv_iload hx hb dX11_shared_74 (lv_at hl 0 rfl) ?_
        refine lv_iconst (v := (-1)) hx hb dX11_shared_76 (by decide) ?_
        refine lv_icmp_ne (tgt := 83) hx hb dX11_shared_77 (by decide) (fun _ => ?_) (fun h => absurd h (by decide))
        refine lv_iload_n hx hb dX11_shared_83 rfl (lv_at hl 5 rfl) ?_
        refine lv_iconst (v := (-1)) hx hb dX11_shared_84 (by decide) ?_
        refine lv_icmp_ne (tgt := 98) hx hb dX11_shared_85 (by decide) (fun c_13 => False.elim (by have tc_13 : (v2.toInt : Int) ≠ (-1) := fun q => c_13 (Int32.toInt_inj.mp q); omega)) (fun c_13 => ?_)
        have tc_13 : (v2.toInt : Int) = (-1) := congrArg Int32.toInt c_13
        refine lv_aload_n hx hb dX11_shared_88 rfl (lv_at hl 2 rfl) ?_
        refine lv_iload hx hb dX11_shared_89 (lv_at hl 0 rfl) ?_
        refine lv_iload_n hx hb dX11_shared_91 rfl (lv_at hl 3 rfl) ?_
        refine vp_callSi (runV_r (As := [.int 0, .int v0]) (rest := []) S (q_sharedLength l D cI cB cZ g v0) kV_RX11_327 hK hP [0] rfl 0 rfl rfl rfl ⟨Nat.le_of_ble_eq_true rfl, Nat.le_of_ble_eq_true rfl⟩ ⟨Nat.le_of_ble_eq_true rfl, Nat.le_of_ble_eq_true rfl⟩ rfl hl.1 rfl (Nat.le_of_ble_eq_true rfl) dX11_shared_92) (fun r_14 h_15 => ?_)
        subst h_15
        refine lv_goto (tgt := 105) hx hb dX11_shared_95 (by decide) ?_
        exact W.iret (v := 0) hx hb hr (fun t ht hW => ⟨⟨0, (), rfl, (if_pos (by omega)).symm, trivial⟩, hS.F ht⟩) hS.2.2 dX11_shared_105
      ·
        have h_5 : ¬ (1 ≤ v1.toInt ∧ v1.toInt ≤ 400) := h_5
        refine lv_if_eq (tgt := 43) hx hb dX11_shared_35 (by decide) (fun _ => ?_) (fun h => absurd h (by decide))
        refine lv_iconst (v := (-1)) hx hb dX11_shared_43 (by decide) ?_
        exact W.iret (v := (-1)) hx hb hr (fun t ht hW => ⟨⟨(-1), (), rfl, (if_neg (by omega)).symm, trivial⟩, hS.F ht⟩) hS.2.2 dX11_shared_44
    ·
      have h_3 : ¬ (0 ≤ v0.toInt ∧ v0.toInt ≤ 399) := h_3
      refine lv_if_eq (tgt := 43) hx hb dX11_shared_24 (by decide) (fun _ => ?_) (fun h => absurd h (by decide))
      refine lv_iconst (v := (-1)) hx hb dX11_shared_43 (by decide) ?_
      exact W.iret (v := (-1)) hx hb hr (fun t ht hW => ⟨⟨(-1), (), rfl, (if_neg (by omega)).symm, trivial⟩, hS.F ht⟩) hS.2.2 dX11_shared_44
  ·
    have tc_1 : (v2.toInt : Int) ≠ (-1) := fun q => c_1 (Int32.toInt_inj.mp q)
    refine lv_aload_n hx hb dX11_shared_5 rfl (lv_at hl 0 rfl) ?_
    refine lv_iload_n hx hb dX11_shared_6 rfl (lv_at hl 3 rfl) ?_
    refine va_csq (runV_r (As := [.int v2]) (rest := []) S (q_kitchenAt l D cI cB cZ g v2) kV_RX11_114 hK hP [0, 1] rfl 0 rfl rfl rfl ⟨Nat.le_of_ble_eq_true rfl, Nat.le_of_ble_eq_true rfl⟩ ⟨Nat.le_of_ble_eq_true rfl, Nat.le_of_ble_eq_true rfl⟩ rfl hl.1 rfl (Nat.le_of_ble_eq_true rfl) dX11_shared_7) (fun r_16 h_17 => ?_)
    subst h_17
    refine lv_ifnullN (tgt := 17) hx hb dX11_shared_10 (by decide) ?_
    refine lv_iconst (v := 0) hx hb dX11_shared_17 (by decide) ?_
    refine lv_istore (lv' := [(4, .int 0), (0, .ref (g 0)), (1, .int v0), (2, .int v1), (3, .int v2)]) hx hb dX11_shared_18 hl (by decide) rfl (fun ls hl => ?_)
    refine lv_iload_n hx hb dX11_shared_20 rfl (lv_at hl 2 rfl) ?_
    refine vp_callSi (runS_r (As := [.int v0]) (rest := []) S (q_isDay l D cI cB cZ v0) kS_RX11_99 hK hP [] rfl ⟨Nat.le_of_ble_eq_true rfl, Nat.le_of_ble_eq_true rfl⟩ ⟨Nat.le_of_ble_eq_true rfl, Nat.le_of_ble_eq_true rfl⟩ rfl hl.1 rfl (Nat.le_of_ble_eq_true rfl) dX11_shared_21) (fun r_18 h_19 => ?_)
    rcases h_19 with ⟨rfl, h_19⟩ | ⟨rfl, h_19⟩
    ·
      have h_19 : 0 ≤ v0.toInt ∧ v0.toInt ≤ 399 := h_19
      refine lv_if_eq (tgt := 43) hx hb dX11_shared_24 (by decide) (fun h => absurd h (by decide)) (fun _ => ?_)
      refine lv_iload_n hx hb dX11_shared_27 rfl (lv_at hl 3 rfl) ?_
      refine lv_iconst (v := 1) hx hb dX11_shared_28 (by decide) ?_
      refine lv_sipush (v := 400) hx hb dX11_shared_29 (by decide) ?_
      refine vp_callSi (runS_r (As := [.int v1, .int 1, .int 400]) (rest := []) S (q_within l D cI cB cZ v1 1 400) kS_RX11_80 hK hP [] rfl ⟨Nat.le_of_ble_eq_true rfl, Nat.le_of_ble_eq_true rfl⟩ ⟨Nat.le_of_ble_eq_true rfl, Nat.le_of_ble_eq_true rfl⟩ rfl hl.1 rfl (Nat.le_of_ble_eq_true rfl) dX11_shared_32) (fun r_20 h_21 => ?_)
      rcases h_21 with ⟨rfl, h_21⟩ | ⟨rfl, h_21⟩
      ·
        have h_21 : 1 ≤ v1.toInt ∧ v1.toInt ≤ 400 := h_21
        refine lv_if_eq (tgt := 43) hx hb dX11_shared_35 (by decide) (fun h => absurd h (by decide)) (fun _ => ?_)
        refine lv_iload hx hb dX11_shared_38 (lv_at hl 0 rfl) ?_
        refine lv_if_ne (tgt := 45) hx hb dX11_shared_40 (by decide) (fun h => absurd h (by decide)) (fun _ => ?_)
        refine lv_iconst (v := (-1)) hx hb dX11_shared_43 (by decide) ?_
        exact W.iret (v := (-1)) hx hb hr (fun t ht hW => ⟨⟨(-1), (), rfl, (if_neg (by omega)).symm, trivial⟩, hS.F ht⟩) hS.2.2 dX11_shared_44
      ·
        have h_21 : ¬ (1 ≤ v1.toInt ∧ v1.toInt ≤ 400) := h_21
        refine lv_if_eq (tgt := 43) hx hb dX11_shared_35 (by decide) (fun _ => ?_) (fun h => absurd h (by decide))
        refine lv_iconst (v := (-1)) hx hb dX11_shared_43 (by decide) ?_
        exact W.iret (v := (-1)) hx hb hr (fun t ht hW => ⟨⟨(-1), (), rfl, (if_neg (by omega)).symm, trivial⟩, hS.F ht⟩) hS.2.2 dX11_shared_44
    ·
      have h_19 : ¬ (0 ≤ v0.toInt ∧ v0.toInt ≤ 399) := h_19
      refine lv_if_eq (tgt := 43) hx hb dX11_shared_24 (by decide) (fun _ => ?_) (fun h => absurd h (by decide))
      refine lv_iconst (v := (-1)) hx hb dX11_shared_43 (by decide) ?_
      exact W.iret (v := (-1)) hx hb hr (fun t ht hW => ⟨⟨(-1), (), rfl, (if_neg (by omega)).symm, trivial⟩, hS.F ht⟩) hS.2.2 dX11_shared_44
set_option maxRecDepth 100000 in
set_option maxHeartbeats 4000000 in
theorem q_X_batchIs (l : Launch) (D : va_G) (cI cB cZ : ClassId) (g : Nat → Nat) (v0 v1 : Int32) : Met l yX11_batchIs (CWS yX11_batchIs cX11_batchIs 4 (some .int)) (RM 3 0 0) (PBr [.ref (g 0), .int v0, .int v1] D cI cB cZ [((g 0), .inr (12, oX g)), ((g 12), .inr (0, [.int 0, .ref (g 50), .int 0]))]) (vp_Si (fun r => r = -1)) 0 0 (fun _ => False) := by
  refine Met.ofW (cc := cX11_batchIs) (maxL := 4) (ret := (some .int)) (by decide) rfl ?_
  intro p e s m args below meth c s₁ B hml hv
  obtain ⟨rfl, hP, hK⟩ := hv
  have hx := B.exec
  have hb := B.bytes
  have hr := B.returns
  have hts := atoms_spec (ws := (CWS yX11_batchIs cX11_batchIs 4 (some .int))) B.pre
  have hown : s.vm.findClass RX11 = some m.cls := findClass_of_methodNamed B.named
  have hlocks := B.notSynchronized
  have S : SF p m c cX11_batchIs 4 s ([.ref (g 0), .int v0, .int v1]).toArray RX11 := ⟨hx, hb, hml, hown, fun w h => hts w (List.mem_cons_of_mem _ h)⟩
  have hP : va_P D vwCl [((g 0), .inr (12, oX g)), ((g 12), .inr (0, [.int 0, .ref (g 50), .int 0]))] s.heap := hP
  have hl := lv_entry ([.ref (g 0), .int v0, .int v1]) (n := 4) (Nat.le_of_ble_eq_true rfl)
  rw [lg_entry_eq]
  generalize (lg_sl ([.ref (g 0), .int v0, .int v1]) ++ List.replicate (4 - (lg_sl ([.ref (g 0), .int v0, .int v1])).length) Slot.unset).toArray = ls at hl ⊢
  have hl : lv_has ls 4 [(0, .ref (g 0)), (1, .int v0), (2, .int v1)] := hl
  refine lv_aload_n hx hb dX11_batchIs_0 rfl (lv_at hl 0 rfl) ?_
  refine lv_iload_n hx hb dX11_batchIs_1 rfl (lv_at hl 1 rfl) ?_
  refine va_csq (runV_r (As := [.int v0]) (rest := []) S (q_batchAt l D cI cB cZ g v0) kV_RX11_382 hK hP [0, 1] rfl 0 rfl rfl rfl ⟨Nat.le_of_ble_eq_true rfl, Nat.le_of_ble_eq_true rfl⟩ ⟨Nat.le_of_ble_eq_true rfl, Nat.le_of_ble_eq_true rfl⟩ rfl hl.1 rfl (Nat.le_of_ble_eq_true rfl) dX11_batchIs_2) (fun r_1 h_2 => ?_)
  subst h_2
  refine lv_astore_nN (lv' := [(3, .null), (0, .ref (g 0)), (1, .int v0), (2, .int v1)]) hx hb dX11_batchIs_5 rfl hl (by decide) rfl (fun ls hl => ?_)
  refine lv_aload_nN hx hb dX11_batchIs_6 rfl (lv_at hl 0 rfl) ?_
  refine lv_ifnonnullN hx hb dX11_batchIs_7 ?_
  refine lv_iconst (v := (-1)) hx hb dX11_batchIs_10 (by decide) ?_
  exact W.iret (v := (-1)) hx hb hr (fun t ht hW => ⟨(-1), rfl, rfl, ht⟩) (fun _ h => absurd h List.not_mem_nil) dX11_batchIs_11
set_option maxRecDepth 100000 in
set_option maxHeartbeats 4000000 in
theorem q_X_proof (l : Launch) (D : va_G) (cI cB cZ : ClassId) (g : Nat → Nat) (v0 v1 v2 v3 : Int32) : Met l yX11_proof (CWS yX11_proof cX11_proof 6 (some .int)) (RM 3 0 0) (PBr [.ref (g 0), .int v0, .int v1, .int v2, .int v3] D cI cB cZ [((g 0), .inr (12, oX g)), ((g 12), .inr (0, [.int 0, .ref (g 50), .int 0]))]) (vp_Si (fun r => r = -1)) 0 0 (fun _ => False) := by
  refine Met.ofW (cc := cX11_proof) (maxL := 6) (ret := (some .int)) (by decide) rfl ?_
  intro p e s m args below meth c s₁ B hml hv
  obtain ⟨rfl, hP, hK⟩ := hv
  have hx := B.exec
  have hb := B.bytes
  have hr := B.returns
  have hts := atoms_spec (ws := (CWS yX11_proof cX11_proof 6 (some .int))) B.pre
  have hown : s.vm.findClass RX11 = some m.cls := findClass_of_methodNamed B.named
  have hlocks := B.notSynchronized
  have S : SF p m c cX11_proof 6 s ([.ref (g 0), .int v0, .int v1, .int v2, .int v3]).toArray RX11 := ⟨hx, hb, hml, hown, fun w h => hts w (List.mem_cons_of_mem _ h)⟩
  have hP : va_P D vwCl [((g 0), .inr (12, oX g)), ((g 12), .inr (0, [.int 0, .ref (g 50), .int 0]))] s.heap := hP
  have hl := lv_entry ([.ref (g 0), .int v0, .int v1, .int v2, .int v3]) (n := 6) (Nat.le_of_ble_eq_true rfl)
  rw [lg_entry_eq]
  generalize (lg_sl ([.ref (g 0), .int v0, .int v1, .int v2, .int v3]) ++ List.replicate (6 - (lg_sl ([.ref (g 0), .int v0, .int v1, .int v2, .int v3])).length) Slot.unset).toArray = ls at hl ⊢
  have hl : lv_has ls 6 [(0, .ref (g 0)), (1, .int v0), (2, .int v1), (3, .int v2), (4, .int v3)] := hl
  refine lv_aload_n hx hb dX11_proof_0 rfl (lv_at hl 0 rfl) ?_
  refine lv_iload_n hx hb dX11_proof_1 rfl (lv_at hl 1 rfl) ?_
  refine va_csq (runV_r (As := [.int v0]) (rest := []) S (q_batchAt l D cI cB cZ g v0) kV_RX11_382 hK hP [0, 1] rfl 0 rfl rfl rfl ⟨Nat.le_of_ble_eq_true rfl, Nat.le_of_ble_eq_true rfl⟩ ⟨Nat.le_of_ble_eq_true rfl, Nat.le_of_ble_eq_true rfl⟩ rfl hl.1 rfl (Nat.le_of_ble_eq_true rfl) dX11_proof_2) (fun r_1 h_2 => ?_)
  subst h_2
  refine lv_astoreN (lv' := [(5, .null), (0, .ref (g 0)), (1, .int v0), (2, .int v1), (3, .int v2), (4, .int v3)]) hx hb dX11_proof_5 hl (by decide) rfl (fun ls hl => ?_)
  refine lv_aloadN hx hb dX11_proof_7 (lv_at hl 0 rfl) ?_
  refine lv_ifnullN (tgt := 53) hx hb dX11_proof_9 (by decide) ?_
  refine lv_iconst (v := (-1)) hx hb dX11_proof_53 (by decide) ?_
  exact W.iret (v := (-1)) hx hb hr (fun t ht hW => ⟨(-1), rfl, rfl, ht⟩) (fun _ h => absurd h List.not_mem_nil) dX11_proof_54
set_option maxRecDepth 100000 in
set_option maxHeartbeats 4000000 in
theorem q_X_twice (l : Launch) (D : va_G) (cI cB cZ : ClassId) (g : Nat → Nat) (v0 : Int32) : Met l yX11_twice (CWS yX11_twice cX11_twice 4 (some .int)) (RM 3 0 0) (PBr [.ref (g 0), .int v0] D cI cB cZ [((g 0), .inr (12, oX g)), ((g 13), .inr (0, [.int 0, .ref (g 50), .int 0]))]) (vp_Si (fun r => r = -1)) 0 0 (fun _ => False) := by
  refine Met.ofW (cc := cX11_twice) (maxL := 4) (ret := (some .int)) (by decide) rfl ?_
  intro p e s m args below meth c s₁ B hml hv
  obtain ⟨rfl, hP, hK⟩ := hv
  have hx := B.exec
  have hb := B.bytes
  have hr := B.returns
  have hts := atoms_spec (ws := (CWS yX11_twice cX11_twice 4 (some .int))) B.pre
  have hown : s.vm.findClass RX11 = some m.cls := findClass_of_methodNamed B.named
  have hlocks := B.notSynchronized
  have S : SF p m c cX11_twice 4 s ([.ref (g 0), .int v0]).toArray RX11 := ⟨hx, hb, hml, hown, fun w h => hts w (List.mem_cons_of_mem _ h)⟩
  have hP : va_P D vwCl [((g 0), .inr (12, oX g)), ((g 13), .inr (0, [.int 0, .ref (g 50), .int 0]))] s.heap := hP
  have hl := lv_entry ([.ref (g 0), .int v0]) (n := 4) (Nat.le_of_ble_eq_true rfl)
  rw [lg_entry_eq]
  generalize (lg_sl ([.ref (g 0), .int v0]) ++ List.replicate (4 - (lg_sl ([.ref (g 0), .int v0])).length) Slot.unset).toArray = ls at hl ⊢
  have hl : lv_has ls 4 [(0, .ref (g 0)), (1, .int v0)] := hl
  refine lv_iconst (v := 0) hx hb dX11_twice_0 (by decide) ?_
  refine lv_istore_n (lv' := [(2, .int 0), (0, .ref (g 0)), (1, .int v0)]) hx hb dX11_twice_1 rfl hl (by decide) rfl (fun ls hl => ?_)
  refine lv_iload_n hx hb dX11_twice_2 rfl (lv_at hl 0 rfl) ?_
  refine lv_aload_n hx hb dX11_twice_3 rfl (lv_at hl 1 rfl) ?_
  refine gf_RX11_71 S hK hP 0 rfl (v := .ref (g 13)) rfl dX11_twice_4 ?_
  refine vp_callSi (runV_r (As := []) (rest := [.int 0]) S (q_size l D cI cB cZ (g 13) (g 50) 0 0) kV_RX11_84 hK hP [1] rfl 1 rfl rfl rfl ⟨Nat.le_of_ble_eq_true rfl, Nat.le_of_ble_eq_true rfl⟩ ⟨Nat.le_of_ble_eq_true rfl, Nat.le_of_ble_eq_true rfl⟩ rfl hl.1 rfl (Nat.le_of_ble_eq_true rfl) dX11_twice_7) (fun r_1 h_2 => ?_)
  subst h_2
  refine lv_icmp_ge (tgt := 50) hx hb dX11_twice_10 (by decide) (fun _ => ?_) (fun h => absurd h (by decide))
  refine lv_iconst (v := (-1)) hx hb dX11_twice_50 (by decide) ?_
  exact W.iret (v := (-1)) hx hb hr (fun t ht hW => ⟨(-1), rfl, rfl, ht⟩) (fun _ h => absurd h List.not_mem_nil) dX11_twice_51
set_option maxRecDepth 100000 in
set_option maxHeartbeats 4000000 in
theorem q_X_bought (l : Launch) (D : va_G) (cI cB cZ : ClassId) (g : Nat → Nat) (v0 v1 : Int32) : Met l yX11_bought (CWS yX11_bought cX11_bought 3 (some .int)) (RM 3 0 0) (PBr [.ref (g 0), .int v0, .int v1] D cI cB cZ [((g 0), .inr (12, oX g)), ((g 12), .inr (0, [.int 0, .ref (g 50), .int 0]))]) (vp_Si (fun r => r = -1)) 0 0 (fun _ => False) := by
  refine Met.ofW (cc := cX11_bought) (maxL := 3) (ret := (some .int)) (by decide) rfl ?_
  intro p e s m args below meth c s₁ B hml hv
  obtain ⟨rfl, hP, hK⟩ := hv
  have hx := B.exec
  have hb := B.bytes
  have hr := B.returns
  have hts := atoms_spec (ws := (CWS yX11_bought cX11_bought 3 (some .int))) B.pre
  have hown : s.vm.findClass RX11 = some m.cls := findClass_of_methodNamed B.named
  have hlocks := B.notSynchronized
  have S : SF p m c cX11_bought 3 s ([.ref (g 0), .int v0, .int v1]).toArray RX11 := ⟨hx, hb, hml, hown, fun w h => hts w (List.mem_cons_of_mem _ h)⟩
  have hP : va_P D vwCl [((g 0), .inr (12, oX g)), ((g 12), .inr (0, [.int 0, .ref (g 50), .int 0]))] s.heap := hP
  have hl := lv_entry ([.ref (g 0), .int v0, .int v1]) (n := 3) (Nat.le_of_ble_eq_true rfl)
  rw [lg_entry_eq]
  generalize (lg_sl ([.ref (g 0), .int v0, .int v1]) ++ List.replicate (3 - (lg_sl ([.ref (g 0), .int v0, .int v1])).length) Slot.unset).toArray = ls at hl ⊢
  have hl : lv_has ls 3 [(0, .ref (g 0)), (1, .int v0), (2, .int v1)] := hl
  refine lv_aload_n hx hb dX11_bought_0 rfl (lv_at hl 0 rfl) ?_
  refine lv_iload_n hx hb dX11_bought_1 rfl (lv_at hl 1 rfl) ?_
  refine va_csq (runV_r (As := [.int v0]) (rest := []) S (q_batchAt l D cI cB cZ g v0) kV_RX11_382 hK hP [0, 1] rfl 0 rfl rfl rfl ⟨Nat.le_of_ble_eq_true rfl, Nat.le_of_ble_eq_true rfl⟩ ⟨Nat.le_of_ble_eq_true rfl, Nat.le_of_ble_eq_true rfl⟩ rfl hl.1 rfl (Nat.le_of_ble_eq_true rfl) dX11_bought_2) (fun r_1 h_2 => ?_)
  subst h_2
  refine lv_ifnullN (tgt := 18) hx hb dX11_bought_5 (by decide) ?_
  refine lv_iconst (v := (-1)) hx hb dX11_bought_18 (by decide) ?_
  refine lv_goto (tgt := 28) hx hb dX11_bought_19 (by decide) ?_
  exact W.iret (v := (-1)) hx hb hr (fun t ht hW => ⟨(-1), rfl, rfl, ht⟩) (fun _ h => absurd h List.not_mem_nil) dX11_bought_28
set_option maxRecDepth 100000 in
set_option maxHeartbeats 4000000 in
theorem q_X_whence (l : Launch) (D : va_G) (cI cB cZ : ClassId) (g : Nat → Nat) (v0 v1 : Int32) : Met l yX11_whence (CWS yX11_whence cX11_whence 7 (some .int)) (RM 3 0 0) (PBr [.ref (g 0), .int v0, .int v1] D cI cB cZ [((g 0), .inr (12, oX g)), ((g 12), .inr (0, [.int 0, .ref (g 50), .int 0]))]) (vp_Si (fun r => r = -1)) 0 0 (fun _ => False) := by
  refine Met.ofW (cc := cX11_whence) (maxL := 7) (ret := (some .int)) (by decide) rfl ?_
  intro p e s m args below meth c s₁ B hml hv
  obtain ⟨rfl, hP, hK⟩ := hv
  have hx := B.exec
  have hb := B.bytes
  have hr := B.returns
  have hts := atoms_spec (ws := (CWS yX11_whence cX11_whence 7 (some .int))) B.pre
  have hown : s.vm.findClass RX11 = some m.cls := findClass_of_methodNamed B.named
  have hlocks := B.notSynchronized
  have S : SF p m c cX11_whence 7 s ([.ref (g 0), .int v0, .int v1]).toArray RX11 := ⟨hx, hb, hml, hown, fun w h => hts w (List.mem_cons_of_mem _ h)⟩
  have hP : va_P D vwCl [((g 0), .inr (12, oX g)), ((g 12), .inr (0, [.int 0, .ref (g 50), .int 0]))] s.heap := hP
  have hl := lv_entry ([.ref (g 0), .int v0, .int v1]) (n := 7) (Nat.le_of_ble_eq_true rfl)
  rw [lg_entry_eq]
  generalize (lg_sl ([.ref (g 0), .int v0, .int v1]) ++ List.replicate (7 - (lg_sl ([.ref (g 0), .int v0, .int v1])).length) Slot.unset).toArray = ls at hl ⊢
  have hl : lv_has ls 7 [(0, .ref (g 0)), (1, .int v0), (2, .int v1)] := hl
  refine lv_aload_n hx hb dX11_whence_0 rfl (lv_at hl 0 rfl) ?_
  refine lv_iload_n hx hb dX11_whence_1 rfl (lv_at hl 1 rfl) ?_
  refine va_csq (runV_r (As := [.int v0]) (rest := []) S (q_batchAt l D cI cB cZ g v0) kV_RX11_382 hK hP [0, 1] rfl 0 rfl rfl rfl ⟨Nat.le_of_ble_eq_true rfl, Nat.le_of_ble_eq_true rfl⟩ ⟨Nat.le_of_ble_eq_true rfl, Nat.le_of_ble_eq_true rfl⟩ rfl hl.1 rfl (Nat.le_of_ble_eq_true rfl) dX11_whence_2) (fun r_1 h_2 => ?_)
  subst h_2
  refine lv_astore_nN (lv' := [(3, .null), (0, .ref (g 0)), (1, .int v0), (2, .int v1)]) hx hb dX11_whence_5 rfl hl (by decide) rfl (fun ls hl => ?_)
  refine lv_aload_nN hx hb dX11_whence_6 rfl (lv_at hl 0 rfl) ?_
  refine lv_ifnullN (tgt := 22) hx hb dX11_whence_7 (by decide) ?_
  refine lv_iconst (v := (-1)) hx hb dX11_whence_22 (by decide) ?_
  exact W.iret (v := (-1)) hx hb hr (fun t ht hW => ⟨(-1), rfl, rfl, ht⟩) (fun _ h => absurd h List.not_mem_nil) dX11_whence_23
set_option maxRecDepth 100000 in
set_option maxHeartbeats 4000000 in
theorem q_X_audit (l : Launch) (D : va_G) (cI cB cZ : ClassId) (g : Nat → Nat) (v0 v1 : Int32) : Met l yX11_audit (CWS yX11_audit cX11_audit 11 (some .int)) (RM 3 0 0) (PBr [.ref (g 0), .int v0, .int v1] D cI cB cZ [((g 0), .inr (12, oX g)), ((g 13), .inr (0, [.int 0, .ref (g 50), .int 0]))]) (vp_Si (fun r => r = -1)) 0 0 (fun _ => False) := by
  refine Met.ofW (cc := cX11_audit) (maxL := 11) (ret := (some .int)) (by decide) rfl ?_
  intro p e s m args below meth c s₁ B hml hv
  obtain ⟨rfl, hP, hK⟩ := hv
  have hx := B.exec
  have hb := B.bytes
  have hr := B.returns
  have hts := atoms_spec (ws := (CWS yX11_audit cX11_audit 11 (some .int))) B.pre
  have hown : s.vm.findClass RX11 = some m.cls := findClass_of_methodNamed B.named
  have hlocks := B.notSynchronized
  have S : SF p m c cX11_audit 11 s ([.ref (g 0), .int v0, .int v1]).toArray RX11 := ⟨hx, hb, hml, hown, fun w h => hts w (List.mem_cons_of_mem _ h)⟩
  have hP : va_P D vwCl [((g 0), .inr (12, oX g)), ((g 13), .inr (0, [.int 0, .ref (g 50), .int 0]))] s.heap := hP
  have hl := lv_entry ([.ref (g 0), .int v0, .int v1]) (n := 11) (Nat.le_of_ble_eq_true rfl)
  rw [lg_entry_eq]
  generalize (lg_sl ([.ref (g 0), .int v0, .int v1]) ++ List.replicate (11 - (lg_sl ([.ref (g 0), .int v0, .int v1])).length) Slot.unset).toArray = ls at hl ⊢
  have hl : lv_has ls 11 [(0, .ref (g 0)), (1, .int v0), (2, .int v1)] := hl
  refine lv_aload_n hx hb dX11_audit_0 rfl (lv_at hl 0 rfl) ?_
  refine lv_iload_n hx hb dX11_audit_1 rfl (lv_at hl 1 rfl) ?_
  refine va_csq (runV_r (As := [.int v0]) (rest := []) S (q_proofAt l D cI cB cZ g v0) kV_RX11_422 hK hP [0, 1] rfl 0 rfl rfl rfl ⟨Nat.le_of_ble_eq_true rfl, Nat.le_of_ble_eq_true rfl⟩ ⟨Nat.le_of_ble_eq_true rfl, Nat.le_of_ble_eq_true rfl⟩ rfl hl.1 rfl (Nat.le_of_ble_eq_true rfl) dX11_audit_2) (fun r_1 h_2 => ?_)
  subst h_2
  refine lv_astore_nN (lv' := [(3, .null), (0, .ref (g 0)), (1, .int v0), (2, .int v1)]) hx hb dX11_audit_5 rfl hl (by decide) rfl (fun ls hl => ?_)
  refine lv_aload_nN hx hb dX11_audit_6 rfl (lv_at hl 0 rfl) ?_
  refine lv_ifnonnullN hx hb dX11_audit_7 ?_
  refine lv_null hx hb dX11_audit_10 ?_
  refine lv_goto (tgt := 22) hx hb dX11_audit_11 (by decide) ?_
  refine lv_astoreN (lv' := [(4, .null), (3, .null), (0, .ref (g 0)), (1, .int v0), (2, .int v1)]) hx hb dX11_audit_22 hl (by decide) rfl (fun ls hl => ?_)
  refine lv_aload_nN hx hb dX11_audit_24 rfl (lv_at hl 1 rfl) ?_
  refine lv_ifnullN (tgt := 41) hx hb dX11_audit_25 (by decide) ?_
  refine lv_iconst (v := (-1)) hx hb dX11_audit_41 (by decide) ?_
  exact W.iret (v := (-1)) hx hb hr (fun t ht hW => ⟨(-1), rfl, rfl, ht⟩) (fun _ h => absurd h List.not_mem_nil) dX11_audit_42
set_option maxRecDepth 100000 in
set_option maxHeartbeats 4000000 in
theorem q_X_tax (l : Launch) (D : va_G) (cI cB cZ : ClassId) (g : Nat → Nat) (v0 : Int32) : Met l yX11_tax (CWS yX11_tax cX11_tax 4 (some .int)) (RM 3 0 0) (PBr [.ref (g 0), .int v0] D cI cB cZ [((g 0), .inr (12, oX g)), ((g 13), .inr (0, [.int 0, .ref (g 50), .int 0]))]) (vp_Si (fun r => r = -1)) 0 0 (fun _ => False) := by
  refine Met.ofW (cc := cX11_tax) (maxL := 4) (ret := (some .int)) (by decide) rfl ?_
  intro p e s m args below meth c s₁ B hml hv
  obtain ⟨rfl, hP, hK⟩ := hv
  have hx := B.exec
  have hb := B.bytes
  have hr := B.returns
  have hts := atoms_spec (ws := (CWS yX11_tax cX11_tax 4 (some .int))) B.pre
  have hown : s.vm.findClass RX11 = some m.cls := findClass_of_methodNamed B.named
  have hlocks := B.notSynchronized
  have S : SF p m c cX11_tax 4 s ([.ref (g 0), .int v0]).toArray RX11 := ⟨hx, hb, hml, hown, fun w h => hts w (List.mem_cons_of_mem _ h)⟩
  have hP : va_P D vwCl [((g 0), .inr (12, oX g)), ((g 13), .inr (0, [.int 0, .ref (g 50), .int 0]))] s.heap := hP
  have hl := lv_entry ([.ref (g 0), .int v0]) (n := 4) (Nat.le_of_ble_eq_true rfl)
  rw [lg_entry_eq]
  generalize (lg_sl ([.ref (g 0), .int v0]) ++ List.replicate (4 - (lg_sl ([.ref (g 0), .int v0])).length) Slot.unset).toArray = ls at hl ⊢
  have hl : lv_has ls 4 [(0, .ref (g 0)), (1, .int v0)] := hl
  refine lv_aload_n hx hb dX11_tax_0 rfl (lv_at hl 0 rfl) ?_
  refine lv_iload_n hx hb dX11_tax_1 rfl (lv_at hl 1 rfl) ?_
  refine va_csq (runV_r (As := [.int v0]) (rest := []) S (q_proofAt l D cI cB cZ g v0) kV_RX11_422 hK hP [0, 1] rfl 0 rfl rfl rfl ⟨Nat.le_of_ble_eq_true rfl, Nat.le_of_ble_eq_true rfl⟩ ⟨Nat.le_of_ble_eq_true rfl, Nat.le_of_ble_eq_true rfl⟩ rfl hl.1 rfl (Nat.le_of_ble_eq_true rfl) dX11_tax_2) (fun r_1 h_2 => ?_)
  subst h_2
  refine lv_astore_nN (lv' := [(2, .null), (0, .ref (g 0)), (1, .int v0)]) hx hb dX11_tax_5 rfl hl (by decide) rfl (fun ls hl => ?_)
  refine lv_aload_nN hx hb dX11_tax_6 rfl (lv_at hl 0 rfl) ?_
  refine lv_ifnonnullN hx hb dX11_tax_7 ?_
  refine lv_iconst (v := (-1)) hx hb dX11_tax_10 (by decide) ?_
  exact W.iret (v := (-1)) hx hb hr (fun t ht hW => ⟨(-1), rfl, rfl, ht⟩) (fun _ h => absurd h List.not_mem_nil) dX11_tax_11
set_option maxRecDepth 100000 in
set_option maxHeartbeats 4000000 in
theorem q_boughtIn (l : Launch) (D : va_G) (cI cB cZ : ClassId) (g : Nat → Nat) (v0 v1 : Int32) : Met l yX11_boughtIn (CWS yX11_boughtIn cX11_boughtIn 6 (some .int)) (RM 1 0 0) (PBr [.ref (g 0), .int v0, .int v1] D cI cB cZ [((g 0), .inr (12, oX g)), ((g 13), .inr (0, [.int 0, .ref (g 50), .int 0]))]) (vp_Si (fun r => r = 0)) 0 0 (fun _ => False) := by
  refine Met.ofW (cc := cX11_boughtIn) (maxL := 6) (ret := (some .int)) (by decide) rfl ?_
  intro p e s m args below meth c s₁ B hml hv
  obtain ⟨rfl, hP, hK⟩ := hv
  have hx := B.exec
  have hb := B.bytes
  have hr := B.returns
  have hts := atoms_spec (ws := (CWS yX11_boughtIn cX11_boughtIn 6 (some .int))) B.pre
  have hown : s.vm.findClass RX11 = some m.cls := findClass_of_methodNamed B.named
  have hlocks := B.notSynchronized
  have S : SF p m c cX11_boughtIn 6 s ([.ref (g 0), .int v0, .int v1]).toArray RX11 := ⟨hx, hb, hml, hown, fun w h => hts w (List.mem_cons_of_mem _ h)⟩
  have hP : va_P D vwCl [((g 0), .inr (12, oX g)), ((g 13), .inr (0, [.int 0, .ref (g 50), .int 0]))] s.heap := hP
  have hl := lv_entry ([.ref (g 0), .int v0, .int v1]) (n := 6) (Nat.le_of_ble_eq_true rfl)
  rw [lg_entry_eq]
  generalize (lg_sl ([.ref (g 0), .int v0, .int v1]) ++ List.replicate (6 - (lg_sl ([.ref (g 0), .int v0, .int v1])).length) Slot.unset).toArray = ls at hl ⊢
  have hl : lv_has ls 6 [(0, .ref (g 0)), (1, .int v0), (2, .int v1)] := hl
  refine lv_iconst (v := 0) hx hb dX11_boughtIn_0 (by decide) ?_
  refine lv_istore_n (lv' := [(3, .int 0), (0, .ref (g 0)), (1, .int v0), (2, .int v1)]) hx hb dX11_boughtIn_1 rfl hl (by decide) rfl (fun ls hl => ?_)
  refine lv_iconst (v := 0) hx hb dX11_boughtIn_2 (by decide) ?_
  refine lv_istore (lv' := [(4, .int 0), (3, .int 0), (0, .ref (g 0)), (1, .int v0), (2, .int v1)]) hx hb dX11_boughtIn_3 hl (by decide) rfl (fun ls hl => ?_)
  refine lv_iload hx hb dX11_boughtIn_5 (lv_at hl 0 rfl) ?_
  refine lv_aload_n hx hb dX11_boughtIn_7 rfl (lv_at hl 2 rfl) ?_
  refine gf_RX11_71 S hK hP 0 rfl (v := .ref (g 13)) rfl dX11_boughtIn_8 ?_
  refine vp_callSi (runV_r (As := []) (rest := [.int 0]) S (q_size l D cI cB cZ (g 13) (g 50) 0 0) kV_RX11_84 hK hP [1] rfl 1 rfl rfl rfl ⟨Nat.le_of_ble_eq_true rfl, Nat.le_of_ble_eq_true rfl⟩ ⟨Nat.le_of_ble_eq_true rfl, Nat.le_of_ble_eq_true rfl⟩ rfl hl.1 rfl (Nat.le_of_ble_eq_true rfl) dX11_boughtIn_11) (fun r_1 h_2 => ?_)
  subst h_2
  refine lv_icmp_ge (tgt := 70) hx hb dX11_boughtIn_14 (by decide) (fun _ => ?_) (fun h => absurd h (by decide))
  refine lv_iload_n hx hb dX11_boughtIn_70 rfl (lv_at hl 1 rfl) ?_
  exact W.iret (v := 0) hx hb hr (fun t ht hW => ⟨0, rfl, rfl, ht⟩) (fun _ h => absurd h List.not_mem_nil) dX11_boughtIn_71
set_option maxRecDepth 100000 in
set_option maxHeartbeats 4000000 in
theorem q_X_overdrawn (l : Launch) (D : va_G) (cI cB cZ : ClassId) (g : Nat → Nat) (v0 : Int32) : Met l yX11_overdrawn (CWS yX11_overdrawn cX11_overdrawn 4 (some .int)) (RM 3 0 0) (PBr [.ref (g 0), .int v0] D cI cB cZ [((g 0), .inr (12, oX g)), ((g 13), .inr (0, [.int 0, .ref (g 50), .int 0])), ((g 8), .inr (8, oT g)), ((g 25), .inl (cI, 10, .inl (fun _ => 0)))]) (vp_Si (fun r => r = (if 0 ≤ v0.toInt ∧ v0.toInt ≤ 57 then (0 : Int32) else -1))) 0 0 (fun _ => False) := by
  refine Met.ofW (cc := cX11_overdrawn) (maxL := 4) (ret := (some .int)) (by decide) rfl ?_
  intro p e s m args below meth c s₁ B hml hv
  obtain ⟨rfl, hP, hK⟩ := hv
  have hx := B.exec
  have hb := B.bytes
  have hr := B.returns
  have hts := atoms_spec (ws := (CWS yX11_overdrawn cX11_overdrawn 4 (some .int))) B.pre
  have hown : s.vm.findClass RX11 = some m.cls := findClass_of_methodNamed B.named
  have hlocks := B.notSynchronized
  have S : SF p m c cX11_overdrawn 4 s ([.ref (g 0), .int v0]).toArray RX11 := ⟨hx, hb, hml, hown, fun w h => hts w (List.mem_cons_of_mem _ h)⟩
  have hP : va_P D vwCl [((g 0), .inr (12, oX g)), ((g 13), .inr (0, [.int 0, .ref (g 50), .int 0])), ((g 8), .inr (8, oT g)), ((g 25), .inl (cI, 10, .inl (fun _ => 0)))] s.heap := hP
  have hl := lv_entry ([.ref (g 0), .int v0]) (n := 4) (Nat.le_of_ble_eq_true rfl)
  rw [lg_entry_eq]
  generalize (lg_sl ([.ref (g 0), .int v0]) ++ List.replicate (4 - (lg_sl ([.ref (g 0), .int v0])).length) Slot.unset).toArray = ls at hl ⊢
  have hl : lv_has ls 4 [(0, .ref (g 0)), (1, .int v0)] := hl
  refine lv_iload_n hx hb dX11_overdrawn_0 rfl (lv_at hl 1 rfl) ?_
  refine lv_iconst (v := 0) hx hb dX11_overdrawn_1 (by decide) ?_
  refine lv_bipush (v := 57) hx hb dX11_overdrawn_2 (by decide) ?_
  refine vp_callSi (runS_r (As := [.int v0, .int 0, .int 57]) (rest := []) S (q_within l D cI cB cZ v0 0 57) kS_RX11_80 hK hP [] rfl ⟨Nat.le_of_ble_eq_true rfl, Nat.le_of_ble_eq_true rfl⟩ ⟨Nat.le_of_ble_eq_true rfl, Nat.le_of_ble_eq_true rfl⟩ rfl hl.1 rfl (Nat.le_of_ble_eq_true rfl) dX11_overdrawn_4) (fun r_1 h_2 => ?_)
  rcases h_2 with ⟨rfl, h_2⟩ | ⟨rfl, h_2⟩
  ·
    have h_2 : 0 ≤ v0.toInt ∧ v0.toInt ≤ 57 := h_2
    refine lv_if_ne (tgt := 12) hx hb dX11_overdrawn_7 (by decide) (fun _ => ?_) (fun h => absurd h (by decide))
    refine lv_iconst (v := 0) hx hb dX11_overdrawn_12 (by decide) ?_
    refine lv_istore_n (lv' := [(2, .int 0), (0, .ref (g 0)), (1, .int v0)]) hx hb dX11_overdrawn_13 rfl hl (by decide) rfl (fun ls hl => ?_)
    refine lv_iconst (v := 0) hx hb dX11_overdrawn_14 (by decide) ?_
    refine lv_istore_n (lv' := [(3, .int 0), (2, .int 0), (0, .ref (g 0)), (1, .int v0)]) hx hb dX11_overdrawn_15 rfl hl (by decide) rfl (fun ls hl => ?_)
    have lp_16 : ∀ (n i : Nat), 10 + 1 ≤ i + n → i ≤ 10 → ∀ ls : Array Slot, lv_has ls 4 [(3, .int (nI i)), (2, .int 0), (0, .ref (g 0)), (1, .int v0)] → W p l e (RM 3 0 0) s m ([.ref (g 0), .int v0]).toArray below meth c s.heap [] 0 0 (MQ below (vp_Si (fun r => r = (if 0 ≤ v0.toInt ∧ v0.toInt ≤ 57 then (0 : Int32) else -1))) ([.ref (g 0), .int v0]).toArray s 0 0 (fun _ => False)) (F0 m 16 ls []) := by
      intro n
      induction n with
      | zero => intro i h1 h2; exact absurd h1 (by omega)
      | succ n ih =>
        intro i hn1 hi ls hl
        have ti : (nI i).toInt = (i : Int) := nI_toInt (by omega)
        refine lv_iload_n hx hb dX11_overdrawn_16 rfl (lv_at hl 0 rfl) ?_
        refine lv_bipush (v := 10) hx hb dX11_overdrawn_17 (by decide) ?_
        refine lv_icmp_ge (tgt := 58) hx hb dX11_overdrawn_19 (by decide) (fun c_3 => ?_) (fun c_3 => ?_)
        ·
          have tc_3 : (10 : Int) ≤ (nI i).toInt := Int32.le_iff_toInt_le.mp c_3
          refine lv_iload_n hx hb dX11_overdrawn_58 rfl (lv_at hl 1 rfl) ?_
          exact W.iret (v := 0) hx hb hr (fun t ht hW => ⟨0, rfl, (if_pos (by omega)).symm, ht⟩) (fun _ h => absurd h List.not_mem_nil) dX11_overdrawn_59
        ·
          have tc_3 : ((nI i).toInt : Int) < 10 := Int32.lt_iff_toInt_lt.mp (Int32.not_le.mp c_3)
          refine lv_iload_n hx hb dX11_overdrawn_22 rfl (lv_at hl 1 rfl) ?_
          refine lv_aload_n hx hb dX11_overdrawn_23 rfl (lv_at hl 2 rfl) ?_
          refine lv_iload_n hx hb dX11_overdrawn_24 rfl (lv_at hl 3 rfl) ?_
          refine lv_iload_n hx hb dX11_overdrawn_25 rfl (lv_at hl 0 rfl) ?_
          refine vp_callSi (runV_r (As := [.int v0, .int (nI i)]) (rest := [.int 0]) S (q_boughtIn l D cI cB cZ g v0 (nI i)) kV_RX11_438 hK hP [0, 1] rfl 0 rfl rfl rfl ⟨Nat.le_of_ble_eq_true rfl, Nat.le_of_ble_eq_true rfl⟩ ⟨Nat.le_of_ble_eq_true rfl, Nat.le_of_ble_eq_true rfl⟩ rfl hl.1 rfl (Nat.le_of_ble_eq_true rfl) dX11_overdrawn_26) (fun r_4 h_5 => ?_)
          subst h_5
          refine lv_aload_n hx hb dX11_overdrawn_29 rfl (lv_at hl 2 rfl) ?_
          refine gf_RX11_47 S hK hP 0 rfl (v := .ref (g 8)) rfl dX11_overdrawn_30 ?_
          refine gf_RX11_435 S hK hP 2 rfl (v := .ref (g 25)) rfl dX11_overdrawn_33 ?_
          refine lv_iload_n hx hb dX11_overdrawn_36 rfl (lv_at hl 0 rfl) ?_
          refine vp_callSi (runS_r (As := [.ref (g 25), .int (nI i)]) (rest := [.int 0, .int 0]) S (q_at0 l D cI cB cZ (g 25) 10 (nI i) (by omega)) kS_RX11_192 hK hP [3] rfl ⟨Nat.le_of_ble_eq_true rfl, Nat.le_of_ble_eq_true rfl⟩ ⟨Nat.le_of_ble_eq_true rfl, Nat.le_of_ble_eq_true rfl⟩ rfl hl.1 rfl (Nat.le_of_ble_eq_true rfl) dX11_overdrawn_37) (fun r_6 h_7 => ?_)
          subst h_7
          refine lv_icmp_le (tgt := 49) hx hb dX11_overdrawn_40 (by decide) (fun _ => ?_) (fun h => absurd h (by decide))
          refine lv_iconst (v := 0) hx hb dX11_overdrawn_49 (by decide) ?_
          refine lv_ior hx hb dX11_overdrawn_50 ?_
          refine lv_topi (fun y_8 ey_8 => ?_)
          obtain rfl : y_8 = 0 := ey_8.trans (by decide)
          refine lv_istore_n (lv' := [(2, .int 0), (3, .int (nI i)), (0, .ref (g 0)), (1, .int v0)]) hx hb dX11_overdrawn_51 rfl hl (by decide) rfl (fun ls hl => ?_)
          refine lv_iinc (v := (nI (i + 1))) (lv' := [(3, .int (nI (i + 1))), (2, .int 0), (0, .ref (g 0)), (1, .int v0)]) hx hb dX11_overdrawn_52 hl (k := 1) rfl (nI_1 _) (by decide) rfl (fun ls hl => ?_)
          refine lv_goto (tgt := 16) hx hb dX11_overdrawn_55 (by decide) ?_
          exact ih (i + 1) (by omega) (by omega) ls (lv_sub hl [0, 1, 2, 3] rfl)
    exact lp_16 (10 + 1) 0 (by omega) (by omega) ls (lv_sub hl [0, 1, 2, 3] rfl)
  ·
    have h_2 : ¬ (0 ≤ v0.toInt ∧ v0.toInt ≤ 57) := h_2
    refine lv_if_ne (tgt := 12) hx hb dX11_overdrawn_7 (by decide) (fun h => absurd h (by decide)) (fun _ => ?_)
    refine lv_iconst (v := (-1)) hx hb dX11_overdrawn_10 (by decide) ?_
    exact W.iret (v := (-1)) hx hb hr (fun t ht hW => ⟨(-1), rfl, (if_neg (by omega)).symm, ht⟩) (fun _ h => absurd h List.not_mem_nil) dX11_overdrawn_11
set_option maxRecDepth 100000 in
set_option maxHeartbeats 4000000 in
theorem q_X_sample (l : Launch) (D : va_G) (cI cB cZ : ClassId) (g : Nat → Nat) (v0 v1 : Int32) : Met l yX11_sample (CWS yX11_sample cX11_sample 4 (some .int)) (RM 3 0 0) (PBr [.ref (g 0), .int v0, .int v1] D cI cB cZ [((g 0), .inr (12, oX g)), ((g 12), .inr (0, [.int 0, .ref (g 50), .int 0]))]) (vp_Si (fun r => r = -1)) 0 0 (fun _ => False) := by
  refine Met.ofW (cc := cX11_sample) (maxL := 4) (ret := (some .int)) (by decide) rfl ?_
  intro p e s m args below meth c s₁ B hml hv
  obtain ⟨rfl, hP, hK⟩ := hv
  have hx := B.exec
  have hb := B.bytes
  have hr := B.returns
  have hts := atoms_spec (ws := (CWS yX11_sample cX11_sample 4 (some .int))) B.pre
  have hown : s.vm.findClass RX11 = some m.cls := findClass_of_methodNamed B.named
  have hlocks := B.notSynchronized
  have S : SF p m c cX11_sample 4 s ([.ref (g 0), .int v0, .int v1]).toArray RX11 := ⟨hx, hb, hml, hown, fun w h => hts w (List.mem_cons_of_mem _ h)⟩
  have hP : va_P D vwCl [((g 0), .inr (12, oX g)), ((g 12), .inr (0, [.int 0, .ref (g 50), .int 0]))] s.heap := hP
  have hl := lv_entry ([.ref (g 0), .int v0, .int v1]) (n := 4) (Nat.le_of_ble_eq_true rfl)
  rw [lg_entry_eq]
  generalize (lg_sl ([.ref (g 0), .int v0, .int v1]) ++ List.replicate (4 - (lg_sl ([.ref (g 0), .int v0, .int v1])).length) Slot.unset).toArray = ls at hl ⊢
  have hl : lv_has ls 4 [(0, .ref (g 0)), (1, .int v0), (2, .int v1)] := hl
  refine lv_aload_n hx hb dX11_sample_0 rfl (lv_at hl 0 rfl) ?_
  refine lv_iload_n hx hb dX11_sample_1 rfl (lv_at hl 1 rfl) ?_
  refine va_csq (runV_r (As := [.int v0]) (rest := []) S (q_batchAt l D cI cB cZ g v0) kV_RX11_382 hK hP [0, 1] rfl 0 rfl rfl rfl ⟨Nat.le_of_ble_eq_true rfl, Nat.le_of_ble_eq_true rfl⟩ ⟨Nat.le_of_ble_eq_true rfl, Nat.le_of_ble_eq_true rfl⟩ rfl hl.1 rfl (Nat.le_of_ble_eq_true rfl) dX11_sample_2) (fun r_1 h_2 => ?_)
  subst h_2
  refine lv_astore_nN (lv' := [(3, .null), (0, .ref (g 0)), (1, .int v0), (2, .int v1)]) hx hb dX11_sample_5 rfl hl (by decide) rfl (fun ls hl => ?_)
  refine lv_aload_nN hx hb dX11_sample_6 rfl (lv_at hl 0 rfl) ?_
  refine lv_ifnullN (tgt := 30) hx hb dX11_sample_7 (by decide) ?_
  refine lv_iconst (v := (-1)) hx hb dX11_sample_30 (by decide) ?_
  exact W.iret (v := (-1)) hx hb hr (fun t ht hW => ⟨(-1), rfl, rfl, ht⟩) (fun _ h => absurd h List.not_mem_nil) dX11_sample_31
set_option maxRecDepth 100000 in
set_option maxHeartbeats 4000000 in
theorem q_X_claim (l : Launch) (D : va_G) (cI cB cZ : ClassId) (g : Nat → Nat) (v0 v1 v2 : Int32) : Met l yX11_claim (CWS yX11_claim cX11_claim 7 (some .int)) (RM 3 0 0) (PBr [.ref (g 0), .int v0, .int v1, .int v2] D cI cB cZ [((g 0), .inr (12, oX g)), ((g 12), .inr (0, [.int 0, .ref (g 50), .int 0]))]) (vp_Si (fun r => r = -1)) 0 0 (fun _ => False) := by
  refine Met.ofW (cc := cX11_claim) (maxL := 7) (ret := (some .int)) (by decide) rfl ?_
  intro p e s m args below meth c s₁ B hml hv
  obtain ⟨rfl, hP, hK⟩ := hv
  have hx := B.exec
  have hb := B.bytes
  have hr := B.returns
  have hts := atoms_spec (ws := (CWS yX11_claim cX11_claim 7 (some .int))) B.pre
  have hown : s.vm.findClass RX11 = some m.cls := findClass_of_methodNamed B.named
  have hlocks := B.notSynchronized
  have S : SF p m c cX11_claim 7 s ([.ref (g 0), .int v0, .int v1, .int v2]).toArray RX11 := ⟨hx, hb, hml, hown, fun w h => hts w (List.mem_cons_of_mem _ h)⟩
  have hP : va_P D vwCl [((g 0), .inr (12, oX g)), ((g 12), .inr (0, [.int 0, .ref (g 50), .int 0]))] s.heap := hP
  have hl := lv_entry ([.ref (g 0), .int v0, .int v1, .int v2]) (n := 7) (Nat.le_of_ble_eq_true rfl)
  rw [lg_entry_eq]
  generalize (lg_sl ([.ref (g 0), .int v0, .int v1, .int v2]) ++ List.replicate (7 - (lg_sl ([.ref (g 0), .int v0, .int v1, .int v2])).length) Slot.unset).toArray = ls at hl ⊢
  have hl : lv_has ls 7 [(0, .ref (g 0)), (1, .int v0), (2, .int v1), (3, .int v2)] := hl
  refine lv_aload_n hx hb dX11_claim_0 rfl (lv_at hl 0 rfl) ?_
  refine lv_iload_n hx hb dX11_claim_1 rfl (lv_at hl 1 rfl) ?_
  refine va_csq (runV_r (As := [.int v0]) (rest := []) S (q_batchAt l D cI cB cZ g v0) kV_RX11_382 hK hP [0, 1] rfl 0 rfl rfl rfl ⟨Nat.le_of_ble_eq_true rfl, Nat.le_of_ble_eq_true rfl⟩ ⟨Nat.le_of_ble_eq_true rfl, Nat.le_of_ble_eq_true rfl⟩ rfl hl.1 rfl (Nat.le_of_ble_eq_true rfl) dX11_claim_2) (fun r_1 h_2 => ?_)
  subst h_2
  refine lv_astoreN (lv' := [(4, .null), (0, .ref (g 0)), (1, .int v0), (2, .int v1), (3, .int v2)]) hx hb dX11_claim_5 hl (by decide) rfl (fun ls hl => ?_)
  refine lv_aloadN hx hb dX11_claim_7 (lv_at hl 0 rfl) ?_
  refine lv_ifnullN (tgt := 34) hx hb dX11_claim_9 (by decide) ?_
  refine lv_iconst (v := (-1)) hx hb dX11_claim_34 (by decide) ?_
  exact W.iret (v := (-1)) hx hb hr (fun t ht hW => ⟨(-1), rfl, rfl, ht⟩) (fun _ h => absurd h List.not_mem_nil) dX11_claim_35
set_option maxRecDepth 100000 in
set_option maxHeartbeats 4000000 in
theorem q_X_offers (l : Launch) (D : va_G) (cI cB cZ : ClassId) (g : Nat → Nat) (v0 v1 v2 : Int32) : Met l yX11_offers (CWS yX11_offers cX11_offers 5 (some .boolean)) (RM 3 0 0) (PBr [.ref (g 0), .int v0, .int v1, .int v2] D cI cB cZ [((g 0), .inr (12, oX g)), ((g 10), .inr (0, [.int 0, .ref (g 50), .int 0]))]) (vp_Si (fun r => r = 0)) 0 0 (fun _ => False) := by
  refine Met.ofW (cc := cX11_offers) (maxL := 5) (ret := (some .boolean)) (by decide) rfl ?_
  intro p e s m args below meth c s₁ B hml hv
  obtain ⟨rfl, hP, hK⟩ := hv
  have hx := B.exec
  have hb := B.bytes
  have hr := B.returns
  have hts := atoms_spec (ws := (CWS yX11_offers cX11_offers 5 (some .boolean))) B.pre
  have hown : s.vm.findClass RX11 = some m.cls := findClass_of_methodNamed B.named
  have hlocks := B.notSynchronized
  have S : SF p m c cX11_offers 5 s ([.ref (g 0), .int v0, .int v1, .int v2]).toArray RX11 := ⟨hx, hb, hml, hown, fun w h => hts w (List.mem_cons_of_mem _ h)⟩
  have hP : va_P D vwCl [((g 0), .inr (12, oX g)), ((g 10), .inr (0, [.int 0, .ref (g 50), .int 0]))] s.heap := hP
  have hl := lv_entry ([.ref (g 0), .int v0, .int v1, .int v2]) (n := 5) (Nat.le_of_ble_eq_true rfl)
  rw [lg_entry_eq]
  generalize (lg_sl ([.ref (g 0), .int v0, .int v1, .int v2]) ++ List.replicate (5 - (lg_sl ([.ref (g 0), .int v0, .int v1, .int v2])).length) Slot.unset).toArray = ls at hl ⊢
  have hl : lv_has ls 5 [(0, .ref (g 0)), (1, .int v0), (2, .int v1), (3, .int v2)] := hl
  refine lv_aload_n hx hb dX11_offers_0 rfl (lv_at hl 0 rfl) ?_
  refine lv_iload_n hx hb dX11_offers_1 rfl (lv_at hl 1 rfl) ?_
  refine va_csq (runV_r (As := [.int v0]) (rest := []) S (q_kitchenAt l D cI cB cZ g v0) kV_RX11_114 hK hP [0, 1] rfl 0 rfl rfl rfl ⟨Nat.le_of_ble_eq_true rfl, Nat.le_of_ble_eq_true rfl⟩ ⟨Nat.le_of_ble_eq_true rfl, Nat.le_of_ble_eq_true rfl⟩ rfl hl.1 rfl (Nat.le_of_ble_eq_true rfl) dX11_offers_2) (fun r_1 h_2 => ?_)
  subst h_2
  refine lv_astoreN (lv' := [(4, .null), (0, .ref (g 0)), (1, .int v0), (2, .int v1), (3, .int v2)]) hx hb dX11_offers_5 hl (by decide) rfl (fun ls hl => ?_)
  refine lv_aloadN hx hb dX11_offers_7 (lv_at hl 0 rfl) ?_
  refine lv_ifnullN (tgt := 34) hx hb dX11_offers_9 (by decide) ?_
  refine lv_iconst (v := 0) hx hb dX11_offers_34 (by decide) ?_
  exact W.zret (v := 0) hx hb hr rfl (fun t ht hW => ⟨0, rfl, rfl, ht⟩) (fun _ h => absurd h List.not_mem_nil) dX11_offers_35
set_option maxRecDepth 100000 in
set_option maxHeartbeats 4000000 in
theorem q_worthOf (l : Launch) (D : va_G) (cI cB cZ : ClassId) (g : Nat → Nat) (v0 v1 : Int32) : Met l yX11_worthOf (CWS yX11_worthOf cX11_worthOf 6 (some .int)) (RM 1 0 0) (PBr [.ref (g 0), .int v0, .int v1] D cI cB cZ [((g 0), .inr (12, oX g)), ((g 10), .inr (0, [.int 0, .ref (g 50), .int 0]))]) (vp_Si (fun r => r = 0)) 0 0 (fun _ => False) := by
  refine Met.ofW (cc := cX11_worthOf) (maxL := 6) (ret := (some .int)) (by decide) rfl ?_
  intro p e s m args below meth c s₁ B hml hv
  obtain ⟨rfl, hP, hK⟩ := hv
  have hx := B.exec
  have hb := B.bytes
  have hr := B.returns
  have hts := atoms_spec (ws := (CWS yX11_worthOf cX11_worthOf 6 (some .int))) B.pre
  have hown : s.vm.findClass RX11 = some m.cls := findClass_of_methodNamed B.named
  have hlocks := B.notSynchronized
  have S : SF p m c cX11_worthOf 6 s ([.ref (g 0), .int v0, .int v1]).toArray RX11 := ⟨hx, hb, hml, hown, fun w h => hts w (List.mem_cons_of_mem _ h)⟩
  have hP : va_P D vwCl [((g 0), .inr (12, oX g)), ((g 10), .inr (0, [.int 0, .ref (g 50), .int 0]))] s.heap := hP
  have hl := lv_entry ([.ref (g 0), .int v0, .int v1]) (n := 6) (Nat.le_of_ble_eq_true rfl)
  rw [lg_entry_eq]
  generalize (lg_sl ([.ref (g 0), .int v0, .int v1]) ++ List.replicate (6 - (lg_sl ([.ref (g 0), .int v0, .int v1])).length) Slot.unset).toArray = ls at hl ⊢
  have hl : lv_has ls 6 [(0, .ref (g 0)), (1, .int v0), (2, .int v1)] := hl
  refine lv_iconst (v := 0) hx hb dX11_worthOf_0 (by decide) ?_
  refine lv_istore_n (lv' := [(3, .int 0), (0, .ref (g 0)), (1, .int v0), (2, .int v1)]) hx hb dX11_worthOf_1 rfl hl (by decide) rfl (fun ls hl => ?_)
  refine lv_iconst (v := 0) hx hb dX11_worthOf_2 (by decide) ?_
  refine lv_istore (lv' := [(4, .int 0), (3, .int 0), (0, .ref (g 0)), (1, .int v0), (2, .int v1)]) hx hb dX11_worthOf_3 hl (by decide) rfl (fun ls hl => ?_)
  refine lv_iload hx hb dX11_worthOf_5 (lv_at hl 0 rfl) ?_
  refine lv_aload_n hx hb dX11_worthOf_7 rfl (lv_at hl 2 rfl) ?_
  refine gf_RX11_61 S hK hP 0 rfl (v := .ref (g 10)) rfl dX11_worthOf_8 ?_
  refine vp_callSi (runV_r (As := []) (rest := [.int 0]) S (q_size l D cI cB cZ (g 10) (g 50) 0 0) kV_RX11_84 hK hP [1] rfl 1 rfl rfl rfl ⟨Nat.le_of_ble_eq_true rfl, Nat.le_of_ble_eq_true rfl⟩ ⟨Nat.le_of_ble_eq_true rfl, Nat.le_of_ble_eq_true rfl⟩ rfl hl.1 rfl (Nat.le_of_ble_eq_true rfl) dX11_worthOf_11) (fun r_1 h_2 => ?_)
  subst h_2
  refine lv_icmp_ge (tgt := 62) hx hb dX11_worthOf_14 (by decide) (fun _ => ?_) (fun h => absurd h (by decide))
  refine lv_iload_n hx hb dX11_worthOf_62 rfl (lv_at hl 1 rfl) ?_
  exact W.iret (v := 0) hx hb hr (fun t ht hW => ⟨0, rfl, rfl, ht⟩) (fun _ h => absurd h List.not_mem_nil) dX11_worthOf_63
set_option maxRecDepth 100000 in
set_option maxHeartbeats 4000000 in
theorem q_comers (l : Launch) (D : va_G) (cI cB cZ : ClassId) (g : Nat → Nat) (v0 : Int32) : Met l yX11_comers (CWS yX11_comers cX11_comers 4 (some .int)) (RM 1 0 0) (PBr [.ref (g 0), .int v0] D cI cB cZ [((g 0), .inr (12, oX g)), ((g 10), .inr (0, [.int 0, .ref (g 50), .int 0]))]) (vp_Si (fun r => r = 0)) 0 0 (fun _ => False) := by
  refine Met.ofW (cc := cX11_comers) (maxL := 4) (ret := (some .int)) (by decide) rfl ?_
  intro p e s m args below meth c s₁ B hml hv
  obtain ⟨rfl, hP, hK⟩ := hv
  have hx := B.exec
  have hb := B.bytes
  have hr := B.returns
  have hts := atoms_spec (ws := (CWS yX11_comers cX11_comers 4 (some .int))) B.pre
  have hown : s.vm.findClass RX11 = some m.cls := findClass_of_methodNamed B.named
  have hlocks := B.notSynchronized
  have S : SF p m c cX11_comers 4 s ([.ref (g 0), .int v0]).toArray RX11 := ⟨hx, hb, hml, hown, fun w h => hts w (List.mem_cons_of_mem _ h)⟩
  have hP : va_P D vwCl [((g 0), .inr (12, oX g)), ((g 10), .inr (0, [.int 0, .ref (g 50), .int 0]))] s.heap := hP
  have hl := lv_entry ([.ref (g 0), .int v0]) (n := 4) (Nat.le_of_ble_eq_true rfl)
  rw [lg_entry_eq]
  generalize (lg_sl ([.ref (g 0), .int v0]) ++ List.replicate (4 - (lg_sl ([.ref (g 0), .int v0])).length) Slot.unset).toArray = ls at hl ⊢
  have hl : lv_has ls 4 [(0, .ref (g 0)), (1, .int v0)] := hl
  refine lv_iconst (v := 0) hx hb dX11_comers_0 (by decide) ?_
  refine lv_istore_n (lv' := [(2, .int 0), (0, .ref (g 0)), (1, .int v0)]) hx hb dX11_comers_1 rfl hl (by decide) rfl (fun ls hl => ?_)
  refine lv_iconst (v := 0) hx hb dX11_comers_2 (by decide) ?_
  refine lv_istore_n (lv' := [(3, .int 0), (2, .int 0), (0, .ref (g 0)), (1, .int v0)]) hx hb dX11_comers_3 rfl hl (by decide) rfl (fun ls hl => ?_)
  refine lv_iload_n hx hb dX11_comers_4 rfl (lv_at hl 0 rfl) ?_
  refine lv_aload_n hx hb dX11_comers_5 rfl (lv_at hl 2 rfl) ?_
  refine gf_RX11_61 S hK hP 0 rfl (v := .ref (g 10)) rfl dX11_comers_6 ?_
  refine vp_callSi (runV_r (As := []) (rest := [.int 0]) S (q_size l D cI cB cZ (g 10) (g 50) 0 0) kV_RX11_84 hK hP [1] rfl 1 rfl rfl rfl ⟨Nat.le_of_ble_eq_true rfl, Nat.le_of_ble_eq_true rfl⟩ ⟨Nat.le_of_ble_eq_true rfl, Nat.le_of_ble_eq_true rfl⟩ rfl hl.1 rfl (Nat.le_of_ble_eq_true rfl) dX11_comers_9) (fun r_1 h_2 => ?_)
  subst h_2
  refine lv_icmp_ge (tgt := 49) hx hb dX11_comers_12 (by decide) (fun _ => ?_) (fun h => absurd h (by decide))
  refine lv_iload_n hx hb dX11_comers_49 rfl (lv_at hl 1 rfl) ?_
  exact W.iret (v := 0) hx hb hr (fun t ht hW => ⟨0, rfl, rfl, ht⟩) (fun _ h => absurd h List.not_mem_nil) dX11_comers_50
set_option maxRecDepth 100000 in
set_option maxHeartbeats 4000000 in
theorem q_X_worth (l : Launch) (D : va_G) (cI cB cZ : ClassId) (g : Nat → Nat) (v0 v1 : Int32) : Met l yX11_worth (CWS yX11_worth cX11_worth 3 (some .int)) (RM 3 0 0) (PBr [.ref (g 0), .int v0, .int v1] D cI cB cZ [((g 0), .inr (12, oX g)), ((g 10), .inr (0, [.int 0, .ref (g 50), .int 0]))]) (vp_Si (fun r => r = (if (0 ≤ v0.toInt ∧ v0.toInt ≤ 200) ∧ 0 ≤ v1.toInt ∧ v1.toInt ≤ 1000 then (0 : Int32) else -1000000))) 0 0 (fun _ => False) := by
  refine Met.ofW (cc := cX11_worth) (maxL := 3) (ret := (some .int)) (by decide) rfl ?_
  intro p e s m args below meth c s₁ B hml hv
  obtain ⟨rfl, hP, hK⟩ := hv
  have hx := B.exec
  have hb := B.bytes
  have hr := B.returns
  have hts := atoms_spec (ws := (CWS yX11_worth cX11_worth 3 (some .int))) B.pre
  have hown : s.vm.findClass RX11 = some m.cls := findClass_of_methodNamed B.named
  have hlocks := B.notSynchronized
  have S : SF p m c cX11_worth 3 s ([.ref (g 0), .int v0, .int v1]).toArray RX11 := ⟨hx, hb, hml, hown, fun w h => hts w (List.mem_cons_of_mem _ h)⟩
  have hP : va_P D vwCl [((g 0), .inr (12, oX g)), ((g 10), .inr (0, [.int 0, .ref (g 50), .int 0]))] s.heap := hP
  have hl := lv_entry ([.ref (g 0), .int v0, .int v1]) (n := 3) (Nat.le_of_ble_eq_true rfl)
  rw [lg_entry_eq]
  generalize (lg_sl ([.ref (g 0), .int v0, .int v1]) ++ List.replicate (3 - (lg_sl ([.ref (g 0), .int v0, .int v1])).length) Slot.unset).toArray = ls at hl ⊢
  have hl : lv_has ls 3 [(0, .ref (g 0)), (1, .int v0), (2, .int v1)] := hl
  refine lv_iload_n hx hb dX11_worth_0 rfl (lv_at hl 1 rfl) ?_
  refine lv_iconst (v := 0) hx hb dX11_worth_1 (by decide) ?_
  refine lv_sipush (v := 200) hx hb dX11_worth_2 (by decide) ?_
  refine vp_callSi (runS_r (As := [.int v0, .int 0, .int 200]) (rest := []) S (q_within l D cI cB cZ v0 0 200) kS_RX11_80 hK hP [] rfl ⟨Nat.le_of_ble_eq_true rfl, Nat.le_of_ble_eq_true rfl⟩ ⟨Nat.le_of_ble_eq_true rfl, Nat.le_of_ble_eq_true rfl⟩ rfl hl.1 rfl (Nat.le_of_ble_eq_true rfl) dX11_worth_5) (fun r_1 h_2 => ?_)
  rcases h_2 with ⟨rfl, h_2⟩ | ⟨rfl, h_2⟩
  ·
    have h_2 : 0 ≤ v0.toInt ∧ v0.toInt ≤ 200 := h_2
    refine lv_if_eq (tgt := 31) hx hb dX11_worth_8 (by decide) (fun h => absurd h (by decide)) (fun _ => ?_)
    refine lv_iload_n hx hb dX11_worth_11 rfl (lv_at hl 2 rfl) ?_
    refine lv_iconst (v := 0) hx hb dX11_worth_12 (by decide) ?_
    refine lv_sipush (v := 1000) hx hb dX11_worth_13 (by decide) ?_
    refine vp_callSi (runS_r (As := [.int v1, .int 0, .int 1000]) (rest := []) S (q_within l D cI cB cZ v1 0 1000) kS_RX11_80 hK hP [] rfl ⟨Nat.le_of_ble_eq_true rfl, Nat.le_of_ble_eq_true rfl⟩ ⟨Nat.le_of_ble_eq_true rfl, Nat.le_of_ble_eq_true rfl⟩ rfl hl.1 rfl (Nat.le_of_ble_eq_true rfl) dX11_worth_16) (fun r_3 h_4 => ?_)
    rcases h_4 with ⟨rfl, h_4⟩ | ⟨rfl, h_4⟩
    ·
      have h_4 : 0 ≤ v1.toInt ∧ v1.toInt ≤ 1000 := h_4
      refine lv_if_eq (tgt := 31) hx hb dX11_worth_19 (by decide) (fun h => absurd h (by decide)) (fun _ => ?_)
      refine lv_aload_n hx hb dX11_worth_22 rfl (lv_at hl 0 rfl) ?_
      refine lv_iload_n hx hb dX11_worth_23 rfl (lv_at hl 1 rfl) ?_
      refine lv_iload_n hx hb dX11_worth_24 rfl (lv_at hl 2 rfl) ?_
      refine vp_callSi (runV_r (As := [.int v0, .int v1]) (rest := []) S (q_worthOf l D cI cB cZ g v0 v1) kV_RX11_460 hK hP [0, 1] rfl 0 rfl rfl rfl ⟨Nat.le_of_ble_eq_true rfl, Nat.le_of_ble_eq_true rfl⟩ ⟨Nat.le_of_ble_eq_true rfl, Nat.le_of_ble_eq_true rfl⟩ rfl hl.1 rfl (Nat.le_of_ble_eq_true rfl) dX11_worth_25) (fun r_5 h_6 => ?_)
      subst h_6
      refine lv_goto (tgt := 34) hx hb dX11_worth_28 (by decide) ?_
      exact W.iret (v := 0) hx hb hr (fun t ht hW => ⟨0, rfl, (if_pos (by omega)).symm, ht⟩) (fun _ h => absurd h List.not_mem_nil) dX11_worth_34
    ·
      have h_4 : ¬ (0 ≤ v1.toInt ∧ v1.toInt ≤ 1000) := h_4
      refine lv_if_eq (tgt := 31) hx hb dX11_worth_19 (by decide) (fun _ => ?_) (fun h => absurd h (by decide))
      refine lv_ldcw (v := (-1000000)) hx hb hown (S.2.2.2.2 _ (wT_tab 1144 rfl rfl)) dX11_worth_31 ?_
      exact W.iret (v := (-1000000)) hx hb hr (fun t ht hW => ⟨(-1000000), rfl, (if_neg (by omega)).symm, ht⟩) (fun _ h => absurd h List.not_mem_nil) dX11_worth_34
  ·
    have h_2 : ¬ (0 ≤ v0.toInt ∧ v0.toInt ≤ 200) := h_2
    refine lv_if_eq (tgt := 31) hx hb dX11_worth_8 (by decide) (fun _ => ?_) (fun h => absurd h (by decide))
    refine lv_ldcw (v := (-1000000)) hx hb hown (S.2.2.2.2 _ (wT_tab 1144 rfl rfl)) dX11_worth_31 ?_
    exact W.iret (v := (-1000000)) hx hb hr (fun t ht hW => ⟨(-1000000), rfl, (if_neg (by omega)).symm, ht⟩) (fun _ h => absurd h List.not_mem_nil) dX11_worth_34
set_option maxRecDepth 100000 in
set_option maxHeartbeats 4000000 in
theorem q_X_offer (l : Launch) (D : va_G) (cI cB cZ : ClassId) (g : Nat → Nat) (v0 v1 : Int32) : Met l yX11_offer (CWS yX11_offer cX11_offer 7 (some .int)) (RM 3 0 0) (PBr [.ref (g 0), .int v0, .int v1] D cI cB cZ [((g 0), .inr (12, oX g)), ((g 10), .inr (0, [.int 0, .ref (g 50), .int 0]))]) (vp_Si (fun r => r = (if (0 ≤ v0.toInt ∧ v0.toInt ≤ 1000) ∧ 0 ≤ v1.toInt ∧ v1.toInt ≤ 2 then (0 : Int32) else -1))) 0 0 (fun _ => False) := by
  refine Met.ofW (cc := cX11_offer) (maxL := 7) (ret := (some .int)) (by decide) rfl ?_
  intro p e s m args below meth c s₁ B hml hv
  obtain ⟨rfl, hP, hK⟩ := hv
  have hx := B.exec
  have hb := B.bytes
  have hr := B.returns
  have hts := atoms_spec (ws := (CWS yX11_offer cX11_offer 7 (some .int))) B.pre
  have hown : s.vm.findClass RX11 = some m.cls := findClass_of_methodNamed B.named
  have hlocks := B.notSynchronized
  have S : SF p m c cX11_offer 7 s ([.ref (g 0), .int v0, .int v1]).toArray RX11 := ⟨hx, hb, hml, hown, fun w h => hts w (List.mem_cons_of_mem _ h)⟩
  have hP : va_P D vwCl [((g 0), .inr (12, oX g)), ((g 10), .inr (0, [.int 0, .ref (g 50), .int 0]))] s.heap := hP
  have hl := lv_entry ([.ref (g 0), .int v0, .int v1]) (n := 7) (Nat.le_of_ble_eq_true rfl)
  rw [lg_entry_eq]
  generalize (lg_sl ([.ref (g 0), .int v0, .int v1]) ++ List.replicate (7 - (lg_sl ([.ref (g 0), .int v0, .int v1])).length) Slot.unset).toArray = ls at hl ⊢
  have hl : lv_has ls 7 [(0, .ref (g 0)), (1, .int v0), (2, .int v1)] := hl
  refine lv_iload_n hx hb dX11_offer_0 rfl (lv_at hl 1 rfl) ?_
  refine lv_iconst (v := 0) hx hb dX11_offer_1 (by decide) ?_
  refine lv_sipush (v := 1000) hx hb dX11_offer_2 (by decide) ?_
  refine vp_callSi (runS_r (As := [.int v0, .int 0, .int 1000]) (rest := []) S (q_within l D cI cB cZ v0 0 1000) kS_RX11_80 hK hP [] rfl ⟨Nat.le_of_ble_eq_true rfl, Nat.le_of_ble_eq_true rfl⟩ ⟨Nat.le_of_ble_eq_true rfl, Nat.le_of_ble_eq_true rfl⟩ rfl hl.1 rfl (Nat.le_of_ble_eq_true rfl) dX11_offer_5) (fun r_1 h_2 => ?_)
  rcases h_2 with ⟨rfl, h_2⟩ | ⟨rfl, h_2⟩
  ·
    have h_2 : 0 ≤ v0.toInt ∧ v0.toInt ≤ 1000 := h_2
    refine lv_if_eq (tgt := 20) hx hb dX11_offer_8 (by decide) (fun h => absurd h (by decide)) (fun _ => ?_)
    refine lv_iload_n hx hb dX11_offer_11 rfl (lv_at hl 2 rfl) ?_
    refine lv_iconst (v := 0) hx hb dX11_offer_12 (by decide) ?_
    refine lv_iconst (v := 2) hx hb dX11_offer_13 (by decide) ?_
    refine vp_callSi (runS_r (As := [.int v1, .int 0, .int 2]) (rest := []) S (q_within l D cI cB cZ v1 0 2) kS_RX11_80 hK hP [] rfl ⟨Nat.le_of_ble_eq_true rfl, Nat.le_of_ble_eq_true rfl⟩ ⟨Nat.le_of_ble_eq_true rfl, Nat.le_of_ble_eq_true rfl⟩ rfl hl.1 rfl (Nat.le_of_ble_eq_true rfl) dX11_offer_14) (fun r_3 h_4 => ?_)
    rcases h_4 with ⟨rfl, h_4⟩ | ⟨rfl, h_4⟩
    ·
      have h_4 : 0 ≤ v1.toInt ∧ v1.toInt ≤ 2 := h_4
      refine lv_if_ne (tgt := 22) hx hb dX11_offer_17 (by decide) (fun _ => ?_) (fun h => absurd h (by decide))
      refine lv_iconst (v := 0) hx hb dX11_offer_22 (by decide) ?_
      refine lv_istore_n (lv' := [(3, .int 0), (0, .ref (g 0)), (1, .int v0), (2, .int v1)]) hx hb dX11_offer_23 rfl hl (by decide) rfl (fun ls hl => ?_)
      refine lv_aload_n hx hb dX11_offer_24 rfl (lv_at hl 1 rfl) ?_
      refine lv_iconst (v := 0) hx hb dX11_offer_25 (by decide) ?_
      refine lv_iload_n hx hb dX11_offer_26 rfl (lv_at hl 2 rfl) ?_
      refine vp_callSi (runV_r (As := [.int 0, .int v0]) (rest := []) S (q_worthOf l D cI cB cZ g 0 v0) kV_RX11_460 hK hP [0, 1] rfl 0 rfl rfl rfl ⟨Nat.le_of_ble_eq_true rfl, Nat.le_of_ble_eq_true rfl⟩ ⟨Nat.le_of_ble_eq_true rfl, Nat.le_of_ble_eq_true rfl⟩ rfl hl.1 rfl (Nat.le_of_ble_eq_true rfl) dX11_offer_27) (fun r_5 h_6 => ?_)
      subst h_6
      refine lv_istore (lv' := [(4, .int 0), (3, .int 0), (0, .ref (g 0)), (1, .int v0), (2, .int v1)]) hx hb dX11_offer_30 hl (by decide) rfl (fun ls hl => ?_)
      refine lv_iconst (v := 1) hx hb dX11_offer_32 (by decide) ?_
      refine lv_istore (lv' := [(5, .int 1), (4, .int 0), (3, .int 0), (0, .ref (g 0)), (1, .int v0), (2, .int v1)]) hx hb dX11_offer_33 hl (by decide) rfl (fun ls hl => ?_)
      have lp_35 : ∀ (n i : Nat), 201 + 1 ≤ i + n → i ≤ 201 → ∀ ls : Array Slot, lv_has ls 7 [(5, .int (nI i)), (4, .int 0), (3, .int 0), (0, .ref (g 0)), (1, .int v0), (2, .int v1)] → W p l e (RM 3 0 0) s m ([.ref (g 0), .int v0, .int v1]).toArray below meth c s.heap [] 0 0 (MQ below (vp_Si (fun r => r = (if (0 ≤ v0.toInt ∧ v0.toInt ≤ 1000) ∧ 0 ≤ v1.toInt ∧ v1.toInt ≤ 2 then (0 : Int32) else -1))) ([.ref (g 0), .int v0, .int v1]).toArray s 0 0 (fun _ => False)) (F0 m 35 ls []) := by
        intro n
        induction n with
        | zero => intro i h1 h2; exact absurd h1 (by omega)
        | succ n ih =>
          intro i hn1 hi ls hl
          have ti : (nI i).toInt = (i : Int) := nI_toInt (by omega)
          refine lv_iload hx hb dX11_offer_35 (lv_at hl 0 rfl) ?_
          refine lv_sipush (v := 200) hx hb dX11_offer_37 (by decide) ?_
          refine lv_icmp_gt (tgt := 72) hx hb dX11_offer_40 (by decide) (fun c_7 => ?_) (fun c_7 => ?_)
          ·
            have tc_7 : (200 : Int) < (nI i).toInt := Int32.lt_iff_toInt_lt.mp c_7
            refine lv_iload_n hx hb dX11_offer_72 rfl (lv_at hl 5 rfl) ?_
            refine lv_if_ne (tgt := 80) hx hb dX11_offer_73 (by decide) (fun c_8 => ?_) (fun c_8 => ?_)
            ·
              have tc_8 : (v1.toInt : Int) ≠ 0 := fun q => c_8 (Int32.toInt_inj.mp q)
              refine lv_iload_n hx hb dX11_offer_80 rfl (lv_at hl 5 rfl) ?_
              refine lv_iconst (v := 1) hx hb dX11_offer_81 (by decide) ?_
              refine lv_icmp_ne (tgt := 90) hx hb dX11_offer_82 (by decide) (fun c_9 => ?_) (fun c_9 => ?_)
              ·
                have tc_9 : (v1.toInt : Int) ≠ 1 := fun q => c_9 (Int32.toInt_inj.mp q)
                refine lv_aload_n hx hb dX11_offer_90 rfl (lv_at hl 3 rfl) ?_
                refine lv_iload_n hx hb dX11_offer_91 rfl (lv_at hl 2 rfl) ?_
                refine vp_callSi (runV_r (As := [.int 0]) (rest := []) S (q_comers l D cI cB cZ g 0) kV_RX11_464 hK hP [0, 1] rfl 0 rfl rfl rfl ⟨Nat.le_of_ble_eq_true rfl, Nat.le_of_ble_eq_true rfl⟩ ⟨Nat.le_of_ble_eq_true rfl, Nat.le_of_ble_eq_true rfl⟩ rfl hl.1 rfl (Nat.le_of_ble_eq_true rfl) dX11_offer_92) (fun r_10 h_11 => ?_)
                subst h_11
                exact W.iret (v := 0) hx hb hr (fun t ht hW => ⟨0, rfl, (if_pos (by omega)).symm, ht⟩) (fun _ h => absurd h List.not_mem_nil) dX11_offer_95
              ·
                have tc_9 : (v1.toInt : Int) = 1 := congrArg Int32.toInt c_9
                refine lv_iload hx hb dX11_offer_85 (lv_at hl 1 rfl) ?_
                refine lv_goto (tgt := 95) hx hb dX11_offer_87 (by decide) ?_
                exact W.iret (v := 0) hx hb hr (fun t ht hW => ⟨0, rfl, (if_pos (by omega)).symm, ht⟩) (fun _ h => absurd h List.not_mem_nil) dX11_offer_95
            ·
              have tc_8 : (v1.toInt : Int) = 0 := congrArg Int32.toInt c_8
              refine lv_iload_n hx hb dX11_offer_76 rfl (lv_at hl 2 rfl) ?_
              refine lv_goto (tgt := 95) hx hb dX11_offer_77 (by decide) ?_
              exact W.iret (v := 0) hx hb hr (fun t ht hW => ⟨0, rfl, (if_pos (by omega)).symm, ht⟩) (fun _ h => absurd h List.not_mem_nil) dX11_offer_95
          ·
            have tc_7 : ((nI i).toInt : Int) ≤ 200 := Int32.le_iff_toInt_le.mp (Int32.not_lt.mp c_7)
            refine lv_aload_n hx hb dX11_offer_43 rfl (lv_at hl 3 rfl) ?_
            refine lv_iload hx hb dX11_offer_44 (lv_at hl 0 rfl) ?_
            refine lv_iload_n hx hb dX11_offer_46 rfl (lv_at hl 4 rfl) ?_
            refine vp_callSi (runV_r (As := [.int (nI i), .int v0]) (rest := []) S (q_worthOf l D cI cB cZ g (nI i) v0) kV_RX11_460 hK hP [0, 1] rfl 0 rfl rfl rfl ⟨Nat.le_of_ble_eq_true rfl, Nat.le_of_ble_eq_true rfl⟩ ⟨Nat.le_of_ble_eq_true rfl, Nat.le_of_ble_eq_true rfl⟩ rfl hl.1 rfl (Nat.le_of_ble_eq_true rfl) dX11_offer_47) (fun r_12 h_13 => ?_)
            subst h_13
            refine lv_istore (lv' := [(6, .int 0), (5, .int (nI i)), (4, .int 0), (3, .int 0), (0, .ref (g 0)), (1, .int v0), (2, .int v1)]) hx hb dX11_offer_50 hl (by decide) rfl (fun ls hl => ?_)
            refine lv_iload hx hb dX11_offer_52 (lv_at hl 0 rfl) ?_
            refine lv_iload hx hb dX11_offer_54 (lv_at hl 2 rfl) ?_
            refine lv_icmp_le (tgt := 66) hx hb dX11_offer_56 (by decide) (fun _ => ?_) (fun h => absurd h (by decide))
            refine lv_iinc (v := (nI (i + 1))) (lv' := [(5, .int (nI (i + 1))), (6, .int 0), (4, .int 0), (3, .int 0), (0, .ref (g 0)), (1, .int v0), (2, .int v1)]) hx hb dX11_offer_66 hl (k := 1) rfl (nI_1 _) (by decide) rfl (fun ls hl => ?_)
            refine lv_goto (tgt := 35) hx hb dX11_offer_69 (by decide) ?_
            exact ih (i + 1) (by omega) (by omega) ls (lv_sub hl [0, 2, 3, 4, 5, 6] rfl)
      exact lp_35 (201 + 1) 1 (by omega) (by omega) ls (lv_sub hl [0, 1, 2, 3, 4, 5] rfl)
    ·
      have h_4 : ¬ (0 ≤ v1.toInt ∧ v1.toInt ≤ 2) := h_4
      refine lv_if_ne (tgt := 22) hx hb dX11_offer_17 (by decide) (fun h => absurd h (by decide)) (fun _ => ?_)
      refine lv_iconst (v := (-1)) hx hb dX11_offer_20 (by decide) ?_
      exact W.iret (v := (-1)) hx hb hr (fun t ht hW => ⟨(-1), rfl, (if_neg (by omega)).symm, ht⟩) (fun _ h => absurd h List.not_mem_nil) dX11_offer_21
  ·
    have h_2 : ¬ (0 ≤ v0.toInt ∧ v0.toInt ≤ 1000) := h_2
    refine lv_if_eq (tgt := 20) hx hb dX11_offer_8 (by decide) (fun _ => ?_) (fun h => absurd h (by decide))
    refine lv_iconst (v := (-1)) hx hb dX11_offer_20 (by decide) ?_
    exact W.iret (v := (-1)) hx hb hr (fun t ht hW => ⟨(-1), rfl, (if_neg (by omega)).symm, ht⟩) (fun _ h => absurd h List.not_mem_nil) dX11_offer_21
set_option maxRecDepth 100000 in
set_option maxHeartbeats 4000000 in
theorem q_savedFrom (l : Launch) (D : va_G) (cI cB cZ : ClassId) (g : Nat → Nat) (v0 v1 : Int32) (h0 : v1.toInt ≤ 12) : Met l yX11_savedFrom (CWS yX11_savedFrom cX11_savedFrom 5 (some .int)) (RM 1 0 0) (PBr [.ref (g 0), .int v0, .int v1] D cI cB cZ [((g 0), .inr (12, oX g)), ((g 8), .inr (8, oT g)), ((g 21), .inl (cI, 24, .inl (fun _ => 0)))]) (vp_Si (fun r => r = 0)) 0 0 (fun _ => False) := by
  refine Met.ofW (cc := cX11_savedFrom) (maxL := 5) (ret := (some .int)) (by decide) rfl ?_
  intro p e s m args below meth c s₁ B hml hv
  obtain ⟨rfl, hP, hK⟩ := hv
  have hx := B.exec
  have hb := B.bytes
  have hr := B.returns
  have hts := atoms_spec (ws := (CWS yX11_savedFrom cX11_savedFrom 5 (some .int))) B.pre
  have hown : s.vm.findClass RX11 = some m.cls := findClass_of_methodNamed B.named
  have hlocks := B.notSynchronized
  have S : SF p m c cX11_savedFrom 5 s ([.ref (g 0), .int v0, .int v1]).toArray RX11 := ⟨hx, hb, hml, hown, fun w h => hts w (List.mem_cons_of_mem _ h)⟩
  have hP : va_P D vwCl [((g 0), .inr (12, oX g)), ((g 8), .inr (8, oT g)), ((g 21), .inl (cI, 24, .inl (fun _ => 0)))] s.heap := hP
  have hl := lv_entry ([.ref (g 0), .int v0, .int v1]) (n := 5) (Nat.le_of_ble_eq_true rfl)
  rw [lg_entry_eq]
  generalize (lg_sl ([.ref (g 0), .int v0, .int v1]) ++ List.replicate (5 - (lg_sl ([.ref (g 0), .int v0, .int v1])).length) Slot.unset).toArray = ls at hl ⊢
  have hl : lv_has ls 5 [(0, .ref (g 0)), (1, .int v0), (2, .int v1)] := hl
  refine lv_iconst (v := 0) hx hb dX11_savedFrom_0 (by decide) ?_
  refine lv_istore_n (lv' := [(3, .int 0), (0, .ref (g 0)), (1, .int v0), (2, .int v1)]) hx hb dX11_savedFrom_1 rfl hl (by decide) rfl (fun ls hl => ?_)
  refine lv_iconst (v := 0) hx hb dX11_savedFrom_2 (by decide) ?_
  refine lv_istore (lv' := [(4, .int 0), (3, .int 0), (0, .ref (g 0)), (1, .int v0), (2, .int v1)]) hx hb dX11_savedFrom_3 hl (by decide) rfl (fun ls hl => ?_)
  have lp_5 : ∀ (n i : Nat), v1.toInt.toNat + 1 ≤ i + n → i ≤ v1.toInt.toNat → ∀ ls : Array Slot, lv_has ls 5 [(4, .int (nI i)), (3, .int 0), (0, .ref (g 0)), (1, .int v0), (2, .int v1)] → W p l e (RM 1 0 0) s m ([.ref (g 0), .int v0, .int v1]).toArray below meth c s.heap [] 0 0 (MQ below (vp_Si (fun r => r = 0)) ([.ref (g 0), .int v0, .int v1]).toArray s 0 0 (fun _ => False)) (F0 m 5 ls []) := by
    intro n
    induction n with
    | zero => intro i h1 h2; exact absurd h1 (by omega)
    | succ n ih =>
      intro i hn1 hi ls hl
      have ti : (nI i).toInt = (i : Int) := nI_toInt (by omega)
      refine lv_iload hx hb dX11_savedFrom_5 (lv_at hl 0 rfl) ?_
      refine lv_iload_n hx hb dX11_savedFrom_7 rfl (lv_at hl 4 rfl) ?_
      refine lv_icmp_ge (tgt := 37) hx hb dX11_savedFrom_8 (by decide) (fun c_1 => ?_) (fun c_1 => ?_)
      ·
        have tc_1 : (v1.toInt : Int) ≤ (nI i).toInt := Int32.le_iff_toInt_le.mp c_1
        refine lv_iload_n hx hb dX11_savedFrom_37 rfl (lv_at hl 1 rfl) ?_
        exact W.iret (v := 0) hx hb hr (fun t ht hW => ⟨0, rfl, rfl, ht⟩) (fun _ h => absurd h List.not_mem_nil) dX11_savedFrom_38
      ·
        have tc_1 : ((nI i).toInt : Int) < v1.toInt := Int32.lt_iff_toInt_lt.mp (Int32.not_le.mp c_1)
        refine lv_iload_n hx hb dX11_savedFrom_11 rfl (lv_at hl 1 rfl) ?_
        refine lv_aload_n hx hb dX11_savedFrom_12 rfl (lv_at hl 2 rfl) ?_
        refine gf_RX11_47 S hK hP 0 rfl (v := .ref (g 8)) rfl dX11_savedFrom_13 ?_
        refine gf_RX11_467 S hK hP 1 rfl (v := .ref (g 21)) rfl dX11_savedFrom_16 ?_
        refine lv_iload_n hx hb dX11_savedFrom_19 rfl (lv_at hl 3 rfl) ?_
        refine lv_iload hx hb dX11_savedFrom_20 (lv_at hl 0 rfl) ?_
        refine lv_iadd hx hb dX11_savedFrom_22 ?_
        refine lv_bipush (v := 24) hx hb dX11_savedFrom_23 (by decide) ?_
        refine lv_irem hx hb dX11_savedFrom_25 (by decide) ?_
        refine vp_callSi (runS_r (As := [.ref (g 21), .int ((v0 + (nI i)) - (v0 + (nI i)) / 24 * 24)]) (rest := [.int 0]) S (q_at0 l D cI cB cZ (g 21) 24 ((v0 + (nI i)) - (v0 + (nI i)) / 24 * 24) (by omega)) kS_RX11_192 hK hP [2] rfl ⟨Nat.le_of_ble_eq_true rfl, Nat.le_of_ble_eq_true rfl⟩ ⟨Nat.le_of_ble_eq_true rfl, Nat.le_of_ble_eq_true rfl⟩ rfl hl.1 rfl (Nat.le_of_ble_eq_true rfl) dX11_savedFrom_26) (fun r_2 h_3 => ?_)
        subst h_3
        refine lv_iadd hx hb dX11_savedFrom_29 ?_
        refine lv_topi (fun y_4 ey_4 => ?_)
        obtain rfl : y_4 = 0 := ey_4.trans (by decide)
        refine lv_istore_n (lv' := [(3, .int 0), (4, .int (nI i)), (0, .ref (g 0)), (1, .int v0), (2, .int v1)]) hx hb dX11_savedFrom_30 rfl hl (by decide) rfl (fun ls hl => ?_)
        refine lv_iinc (v := (nI (i + 1))) (lv' := [(4, .int (nI (i + 1))), (3, .int 0), (0, .ref (g 0)), (1, .int v0), (2, .int v1)]) hx hb dX11_savedFrom_31 hl (k := 1) rfl (nI_1 _) (by decide) rfl (fun ls hl => ?_)
        refine lv_goto (tgt := 5) hx hb dX11_savedFrom_34 (by decide) ?_
        exact ih (i + 1) (by omega) (by omega) ls (lv_sub hl [0, 1, 2, 3, 4] rfl)
  exact lp_5 (v1.toInt.toNat + 1) 0 (by omega) (by omega) ls (lv_sub hl [0, 1, 2, 3, 4] rfl)
set_option maxRecDepth 100000 in
set_option maxHeartbeats 4000000 in
theorem q_X_lock (l : Launch) (D : va_G) (cI cB cZ : ClassId) (g : Nat → Nat) (v0 v1 : Int32) : Met l yX11_lock (CWS yX11_lock cX11_lock 7 (some .int)) (RM 3 0 0) (PBr [.ref (g 0), .int v0, .int v1] D cI cB cZ [((g 0), .inr (12, oX g)), ((g 8), .inr (8, oT g)), ((g 21), .inl (cI, 24, .inl (fun _ => 0)))]) (vp_Si (fun r => r = (if (1 ≤ v0.toInt ∧ v0.toInt ≤ 12) ∧ 0 ≤ v1.toInt ∧ v1.toInt ≤ 1 then (0 : Int32) else -1))) 0 0 (fun _ => False) := by
  refine Met.ofW (cc := cX11_lock) (maxL := 7) (ret := (some .int)) (by decide) rfl ?_
  intro p e s m args below meth c s₁ B hml hv
  obtain ⟨rfl, hP, hK⟩ := hv
  have hx := B.exec
  have hb := B.bytes
  have hr := B.returns
  have hts := atoms_spec (ws := (CWS yX11_lock cX11_lock 7 (some .int))) B.pre
  have hown : s.vm.findClass RX11 = some m.cls := findClass_of_methodNamed B.named
  have hlocks := B.notSynchronized
  have S : SF p m c cX11_lock 7 s ([.ref (g 0), .int v0, .int v1]).toArray RX11 := ⟨hx, hb, hml, hown, fun w h => hts w (List.mem_cons_of_mem _ h)⟩
  have hP : va_P D vwCl [((g 0), .inr (12, oX g)), ((g 8), .inr (8, oT g)), ((g 21), .inl (cI, 24, .inl (fun _ => 0)))] s.heap := hP
  have hl := lv_entry ([.ref (g 0), .int v0, .int v1]) (n := 7) (Nat.le_of_ble_eq_true rfl)
  rw [lg_entry_eq]
  generalize (lg_sl ([.ref (g 0), .int v0, .int v1]) ++ List.replicate (7 - (lg_sl ([.ref (g 0), .int v0, .int v1])).length) Slot.unset).toArray = ls at hl ⊢
  have hl : lv_has ls 7 [(0, .ref (g 0)), (1, .int v0), (2, .int v1)] := hl
  refine lv_iload_n hx hb dX11_lock_0 rfl (lv_at hl 1 rfl) ?_
  refine lv_iconst (v := 1) hx hb dX11_lock_1 (by decide) ?_
  refine lv_bipush (v := 12) hx hb dX11_lock_2 (by decide) ?_
  refine vp_callSi (runS_r (As := [.int v0, .int 1, .int 12]) (rest := []) S (q_within l D cI cB cZ v0 1 12) kS_RX11_80 hK hP [] rfl ⟨Nat.le_of_ble_eq_true rfl, Nat.le_of_ble_eq_true rfl⟩ ⟨Nat.le_of_ble_eq_true rfl, Nat.le_of_ble_eq_true rfl⟩ rfl hl.1 rfl (Nat.le_of_ble_eq_true rfl) dX11_lock_4) (fun r_1 h_2 => ?_)
  rcases h_2 with ⟨rfl, h_2⟩ | ⟨rfl, h_2⟩
  ·
    have h_2 : 1 ≤ v0.toInt ∧ v0.toInt ≤ 12 := h_2
    refine lv_if_eq (tgt := 19) hx hb dX11_lock_7 (by decide) (fun h => absurd h (by decide)) (fun _ => ?_)
    refine lv_iload_n hx hb dX11_lock_10 rfl (lv_at hl 2 rfl) ?_
    refine lv_iconst (v := 0) hx hb dX11_lock_11 (by decide) ?_
    refine lv_iconst (v := 1) hx hb dX11_lock_12 (by decide) ?_
    refine vp_callSi (runS_r (As := [.int v1, .int 0, .int 1]) (rest := []) S (q_within l D cI cB cZ v1 0 1) kS_RX11_80 hK hP [] rfl ⟨Nat.le_of_ble_eq_true rfl, Nat.le_of_ble_eq_true rfl⟩ ⟨Nat.le_of_ble_eq_true rfl, Nat.le_of_ble_eq_true rfl⟩ rfl hl.1 rfl (Nat.le_of_ble_eq_true rfl) dX11_lock_13) (fun r_3 h_4 => ?_)
    rcases h_4 with ⟨rfl, h_4⟩ | ⟨rfl, h_4⟩
    ·
      have h_4 : 0 ≤ v1.toInt ∧ v1.toInt ≤ 1 := h_4
      refine lv_if_ne (tgt := 21) hx hb dX11_lock_16 (by decide) (fun _ => ?_) (fun h => absurd h (by decide))
      refine lv_iconst (v := 0) hx hb dX11_lock_21 (by decide) ?_
      refine lv_istore_n (lv' := [(3, .int 0), (0, .ref (g 0)), (1, .int v0), (2, .int v1)]) hx hb dX11_lock_22 rfl hl (by decide) rfl (fun ls hl => ?_)
      refine lv_aload_n hx hb dX11_lock_23 rfl (lv_at hl 1 rfl) ?_
      refine lv_iconst (v := 0) hx hb dX11_lock_24 (by decide) ?_
      refine lv_iload_n hx hb dX11_lock_25 rfl (lv_at hl 2 rfl) ?_
      refine vp_callSi (runV_r (As := [.int 0, .int v0]) (rest := []) S (q_savedFrom l D cI cB cZ g 0 v0 (by omega)) kV_RX11_470 hK hP [0, 1, 2] rfl 0 rfl rfl rfl ⟨Nat.le_of_ble_eq_true rfl, Nat.le_of_ble_eq_true rfl⟩ ⟨Nat.le_of_ble_eq_true rfl, Nat.le_of_ble_eq_true rfl⟩ rfl hl.1 rfl (Nat.le_of_ble_eq_true rfl) dX11_lock_26) (fun r_5 h_6 => ?_)
      subst h_6
      refine lv_istore (lv' := [(4, .int 0), (3, .int 0), (0, .ref (g 0)), (1, .int v0), (2, .int v1)]) hx hb dX11_lock_29 hl (by decide) rfl (fun ls hl => ?_)
      refine lv_iconst (v := 1) hx hb dX11_lock_31 (by decide) ?_
      refine lv_istore (lv' := [(5, .int 1), (4, .int 0), (3, .int 0), (0, .ref (g 0)), (1, .int v0), (2, .int v1)]) hx hb dX11_lock_32 hl (by decide) rfl (fun ls hl => ?_)
      have lp_34 : ∀ (n i : Nat), 24 + 1 ≤ i + n → i ≤ 24 → ∀ ls : Array Slot, lv_has ls 7 [(5, .int (nI i)), (4, .int 0), (3, .int 0), (0, .ref (g 0)), (1, .int v0), (2, .int v1)] → W p l e (RM 3 0 0) s m ([.ref (g 0), .int v0, .int v1]).toArray below meth c s.heap [] 0 0 (MQ below (vp_Si (fun r => r = (if (1 ≤ v0.toInt ∧ v0.toInt ≤ 12) ∧ 0 ≤ v1.toInt ∧ v1.toInt ≤ 1 then (0 : Int32) else -1))) ([.ref (g 0), .int v0, .int v1]).toArray s 0 0 (fun _ => False)) (F0 m 34 ls []) := by
        intro n
        induction n with
        | zero => intro i h1 h2; exact absurd h1 (by omega)
        | succ n ih =>
          intro i hn1 hi ls hl
          have ti : (nI i).toInt = (i : Int) := nI_toInt (by omega)
          refine lv_iload hx hb dX11_lock_34 (lv_at hl 0 rfl) ?_
          refine lv_bipush (v := 24) hx hb dX11_lock_36 (by decide) ?_
          refine lv_icmp_ge (tgt := 70) hx hb dX11_lock_38 (by decide) (fun c_7 => ?_) (fun c_7 => ?_)
          ·
            have tc_7 : (24 : Int) ≤ (nI i).toInt := Int32.le_iff_toInt_le.mp c_7
            refine lv_iload_n hx hb dX11_lock_70 rfl (lv_at hl 5 rfl) ?_
            refine lv_if_ne (tgt := 78) hx hb dX11_lock_71 (by decide) (fun c_8 => ?_) (fun c_8 => ?_)
            ·
              have tc_8 : (v1.toInt : Int) ≠ 0 := fun q => c_8 (Int32.toInt_inj.mp q)
              refine lv_iload hx hb dX11_lock_78 (lv_at hl 1 rfl) ?_
              exact W.iret (v := 0) hx hb hr (fun t ht hW => ⟨0, rfl, (if_pos (by omega)).symm, ht⟩) (fun _ h => absurd h List.not_mem_nil) dX11_lock_80
            ·
              have tc_8 : (v1.toInt : Int) = 0 := congrArg Int32.toInt c_8
              refine lv_iload_n hx hb dX11_lock_74 rfl (lv_at hl 2 rfl) ?_
              refine lv_goto (tgt := 80) hx hb dX11_lock_75 (by decide) ?_
              exact W.iret (v := 0) hx hb hr (fun t ht hW => ⟨0, rfl, (if_pos (by omega)).symm, ht⟩) (fun _ h => absurd h List.not_mem_nil) dX11_lock_80
          ·
            have tc_7 : ((nI i).toInt : Int) < 24 := Int32.lt_iff_toInt_lt.mp (Int32.not_le.mp c_7)
            refine lv_aload_n hx hb dX11_lock_41 rfl (lv_at hl 3 rfl) ?_
            refine lv_iload hx hb dX11_lock_42 (lv_at hl 0 rfl) ?_
            refine lv_iload_n hx hb dX11_lock_44 rfl (lv_at hl 4 rfl) ?_
            refine vp_callSi (runV_r (As := [.int (nI i), .int v0]) (rest := []) S (q_savedFrom l D cI cB cZ g (nI i) v0 (by omega)) kV_RX11_470 hK hP [0, 1, 2] rfl 0 rfl rfl rfl ⟨Nat.le_of_ble_eq_true rfl, Nat.le_of_ble_eq_true rfl⟩ ⟨Nat.le_of_ble_eq_true rfl, Nat.le_of_ble_eq_true rfl⟩ rfl hl.1 rfl (Nat.le_of_ble_eq_true rfl) dX11_lock_45) (fun r_9 h_10 => ?_)
            subst h_10
            refine lv_istore (lv' := [(6, .int 0), (5, .int (nI i)), (4, .int 0), (3, .int 0), (0, .ref (g 0)), (1, .int v0), (2, .int v1)]) hx hb dX11_lock_48 hl (by decide) rfl (fun ls hl => ?_)
            refine lv_iload hx hb dX11_lock_50 (lv_at hl 0 rfl) ?_
            refine lv_iload hx hb dX11_lock_52 (lv_at hl 2 rfl) ?_
            refine lv_icmp_le (tgt := 64) hx hb dX11_lock_54 (by decide) (fun _ => ?_) (fun h => absurd h (by decide))
            refine lv_iinc (v := (nI (i + 1))) (lv' := [(5, .int (nI (i + 1))), (6, .int 0), (4, .int 0), (3, .int 0), (0, .ref (g 0)), (1, .int v0), (2, .int v1)]) hx hb dX11_lock_64 hl (k := 1) rfl (nI_1 _) (by decide) rfl (fun ls hl => ?_)
            refine lv_goto (tgt := 34) hx hb dX11_lock_67 (by decide) ?_
            exact ih (i + 1) (by omega) (by omega) ls (lv_sub hl [0, 2, 3, 4, 5, 6] rfl)
      exact lp_34 (24 + 1) 1 (by omega) (by omega) ls (lv_sub hl [0, 1, 2, 3, 4, 5] rfl)
    ·
      have h_4 : ¬ (0 ≤ v1.toInt ∧ v1.toInt ≤ 1) := h_4
      refine lv_if_ne (tgt := 21) hx hb dX11_lock_16 (by decide) (fun h => absurd h (by decide)) (fun _ => ?_)
      refine lv_iconst (v := (-1)) hx hb dX11_lock_19 (by decide) ?_
      exact W.iret (v := (-1)) hx hb hr (fun t ht hW => ⟨(-1), rfl, (if_neg (by omega)).symm, ht⟩) (fun _ h => absurd h List.not_mem_nil) dX11_lock_20
  ·
    have h_2 : ¬ (1 ≤ v0.toInt ∧ v0.toInt ≤ 12) := h_2
    refine lv_if_eq (tgt := 19) hx hb dX11_lock_7 (by decide) (fun _ => ?_) (fun h => absurd h (by decide))
    refine lv_iconst (v := (-1)) hx hb dX11_lock_19 (by decide) ?_
    exact W.iret (v := (-1)) hx hb hr (fun t ht hW => ⟨(-1), rfl, (if_neg (by omega)).symm, ht⟩) (fun _ h => absurd h List.not_mem_nil) dX11_lock_20
set_option maxRecDepth 100000 in
set_option maxHeartbeats 4000000 in
theorem q_X_blocked (l : Launch) (D : va_G) (cI cB cZ : ClassId) (g : Nat → Nat) (v0 : Int32) : Met l yX11_blocked (CWS yX11_blocked cX11_blocked 3 (some .int)) (RM 3 0 0) (PBr [.ref (g 0), .int v0] D cI cB cZ [((g 0), .inr (12, oX g)), ((g 14), .inr (0, [.int 0, .ref (g 50), .int 0]))]) (vp_Si (fun r => r = -1)) 0 0 (fun _ => False) := by
  refine Met.ofW (cc := cX11_blocked) (maxL := 3) (ret := (some .int)) (by decide) rfl ?_
  intro p e s m args below meth c s₁ B hml hv
  obtain ⟨rfl, hP, hK⟩ := hv
  have hx := B.exec
  have hb := B.bytes
  have hr := B.returns
  have hts := atoms_spec (ws := (CWS yX11_blocked cX11_blocked 3 (some .int))) B.pre
  have hown : s.vm.findClass RX11 = some m.cls := findClass_of_methodNamed B.named
  have hlocks := B.notSynchronized
  have S : SF p m c cX11_blocked 3 s ([.ref (g 0), .int v0]).toArray RX11 := ⟨hx, hb, hml, hown, fun w h => hts w (List.mem_cons_of_mem _ h)⟩
  have hP : va_P D vwCl [((g 0), .inr (12, oX g)), ((g 14), .inr (0, [.int 0, .ref (g 50), .int 0]))] s.heap := hP
  have hl := lv_entry ([.ref (g 0), .int v0]) (n := 3) (Nat.le_of_ble_eq_true rfl)
  rw [lg_entry_eq]
  generalize (lg_sl ([.ref (g 0), .int v0]) ++ List.replicate (3 - (lg_sl ([.ref (g 0), .int v0])).length) Slot.unset).toArray = ls at hl ⊢
  have hl : lv_has ls 3 [(0, .ref (g 0)), (1, .int v0)] := hl
  refine lv_iload_n hx hb dX11_blocked_0 rfl (lv_at hl 1 rfl) ?_
  refine lv_if_lt (tgt := 15) hx hb dX11_blocked_1 (by decide) (fun c_1 => ?_) (fun c_1 => ?_)
  ·
    have tc_1 : (v0.toInt : Int) < 0 := Int32.lt_iff_toInt_lt.mp c_1
    refine lv_iconst (v := (-1)) hx hb dX11_blocked_15 (by decide) ?_
    exact W.iret (v := (-1)) hx hb hr (fun t ht hW => ⟨(-1), rfl, rfl, ht⟩) (fun _ h => absurd h List.not_mem_nil) dX11_blocked_16
  ·
    have tc_1 : (0 : Int) ≤ v0.toInt := Int32.le_iff_toInt_le.mp (Int32.not_lt.mp c_1)
    refine lv_iload_n hx hb dX11_blocked_4 rfl (lv_at hl 1 rfl) ?_
    refine lv_aload_n hx hb dX11_blocked_5 rfl (lv_at hl 0 rfl) ?_
    refine gf_RX11_74 S hK hP 0 rfl (v := .ref (g 14)) rfl dX11_blocked_6 ?_
    refine vp_callSi (runV_r (As := []) (rest := [.int v0]) S (q_size l D cI cB cZ (g 14) (g 50) 0 0) kV_RX11_84 hK hP [1] rfl 1 rfl rfl rfl ⟨Nat.le_of_ble_eq_true rfl, Nat.le_of_ble_eq_true rfl⟩ ⟨Nat.le_of_ble_eq_true rfl, Nat.le_of_ble_eq_true rfl⟩ rfl hl.1 rfl (Nat.le_of_ble_eq_true rfl) dX11_blocked_9) (fun r_2 h_3 => ?_)
    subst h_3
    refine lv_icmp_lt (tgt := 17) hx hb dX11_blocked_12 (by decide) (fun c_4 => False.elim (by have tc_4 : (v0.toInt : Int) < 0 := Int32.lt_iff_toInt_lt.mp c_4; omega)) (fun c_4 => ?_)
    have tc_4 : (0 : Int) ≤ v0.toInt := Int32.le_iff_toInt_le.mp (Int32.not_lt.mp c_4)
    refine lv_iconst (v := (-1)) hx hb dX11_blocked_15 (by decide) ?_
    exact W.iret (v := (-1)) hx hb hr (fun t ht hW => ⟨(-1), rfl, rfl, ht⟩) (fun _ h => absurd h List.not_mem_nil) dX11_blocked_16
set_option maxRecDepth 100000 in
set_option maxHeartbeats 4000000 in
theorem q_X_beside (l : Launch) (D : va_G) (cI cB cZ : ClassId) (g : Nat → Nat) (v0 v1 : Int32) : Met l yX11_beside (CWS yX11_beside cX11_beside 6 (some .int)) (RM 3 0 0) (PBr [.ref (g 0), .int v0, .int v1] D cI cB cZ [((g 0), .inr (12, oX g)), ((g 10), .inr (0, [.int 0, .ref (g 50), .int 0]))]) (vp_Si (fun r => r = (if (0 ≤ v0.toInt ∧ v0.toInt ≤ 198) ∧ 1 ≤ v1.toInt ∧ v1.toInt ≤ 1000 then (0 : Int32) else -1))) 0 0 (fun _ => False) := by
  refine Met.ofW (cc := cX11_beside) (maxL := 6) (ret := (some .int)) (by decide) rfl ?_
  intro p e s m args below meth c s₁ B hml hv
  obtain ⟨rfl, hP, hK⟩ := hv
  have hx := B.exec
  have hb := B.bytes
  have hr := B.returns
  have hts := atoms_spec (ws := (CWS yX11_beside cX11_beside 6 (some .int))) B.pre
  have hown : s.vm.findClass RX11 = some m.cls := findClass_of_methodNamed B.named
  have hlocks := B.notSynchronized
  have S : SF p m c cX11_beside 6 s ([.ref (g 0), .int v0, .int v1]).toArray RX11 := ⟨hx, hb, hml, hown, fun w h => hts w (List.mem_cons_of_mem _ h)⟩
  have hP : va_P D vwCl [((g 0), .inr (12, oX g)), ((g 10), .inr (0, [.int 0, .ref (g 50), .int 0]))] s.heap := hP
  have hl := lv_entry ([.ref (g 0), .int v0, .int v1]) (n := 6) (Nat.le_of_ble_eq_true rfl)
  rw [lg_entry_eq]
  generalize (lg_sl ([.ref (g 0), .int v0, .int v1]) ++ List.replicate (6 - (lg_sl ([.ref (g 0), .int v0, .int v1])).length) Slot.unset).toArray = ls at hl ⊢
  have hl : lv_has ls 6 [(0, .ref (g 0)), (1, .int v0), (2, .int v1)] := hl
  refine lv_iload_n hx hb dX11_beside_0 rfl (lv_at hl 1 rfl) ?_
  refine lv_iconst (v := 0) hx hb dX11_beside_1 (by decide) ?_
  refine lv_sipush (v := 198) hx hb dX11_beside_2 (by decide) ?_
  refine vp_callSi (runS_r (As := [.int v0, .int 0, .int 198]) (rest := []) S (q_within l D cI cB cZ v0 0 198) kS_RX11_80 hK hP [] rfl ⟨Nat.le_of_ble_eq_true rfl, Nat.le_of_ble_eq_true rfl⟩ ⟨Nat.le_of_ble_eq_true rfl, Nat.le_of_ble_eq_true rfl⟩ rfl hl.1 rfl (Nat.le_of_ble_eq_true rfl) dX11_beside_5) (fun r_1 h_2 => ?_)
  rcases h_2 with ⟨rfl, h_2⟩ | ⟨rfl, h_2⟩
  ·
    have h_2 : 0 ≤ v0.toInt ∧ v0.toInt ≤ 198 := h_2
    refine lv_if_eq (tgt := 22) hx hb dX11_beside_8 (by decide) (fun h => absurd h (by decide)) (fun _ => ?_)
    refine lv_iload_n hx hb dX11_beside_11 rfl (lv_at hl 2 rfl) ?_
    refine lv_iconst (v := 1) hx hb dX11_beside_12 (by decide) ?_
    refine lv_sipush (v := 1000) hx hb dX11_beside_13 (by decide) ?_
    refine vp_callSi (runS_r (As := [.int v1, .int 1, .int 1000]) (rest := []) S (q_within l D cI cB cZ v1 1 1000) kS_RX11_80 hK hP [] rfl ⟨Nat.le_of_ble_eq_true rfl, Nat.le_of_ble_eq_true rfl⟩ ⟨Nat.le_of_ble_eq_true rfl, Nat.le_of_ble_eq_true rfl⟩ rfl hl.1 rfl (Nat.le_of_ble_eq_true rfl) dX11_beside_16) (fun r_3 h_4 => ?_)
    rcases h_4 with ⟨rfl, h_4⟩ | ⟨rfl, h_4⟩
    ·
      have h_4 : 1 ≤ v1.toInt ∧ v1.toInt ≤ 1000 := h_4
      refine lv_if_ne (tgt := 24) hx hb dX11_beside_19 (by decide) (fun _ => ?_) (fun h => absurd h (by decide))
      refine lv_iconst (v := 0) hx hb dX11_beside_24 (by decide) ?_
      refine lv_istore_n (lv' := [(3, .int 0), (0, .ref (g 0)), (1, .int v0), (2, .int v1)]) hx hb dX11_beside_25 rfl hl (by decide) rfl (fun ls hl => ?_)
      refine lv_iconst (v := 0) hx hb dX11_beside_26 (by decide) ?_
      refine lv_istore (lv' := [(4, .int 0), (3, .int 0), (0, .ref (g 0)), (1, .int v0), (2, .int v1)]) hx hb dX11_beside_27 hl (by decide) rfl (fun ls hl => ?_)
      refine lv_iload hx hb dX11_beside_29 (lv_at hl 0 rfl) ?_
      refine lv_aload_n hx hb dX11_beside_31 rfl (lv_at hl 2 rfl) ?_
      refine gf_RX11_61 S hK hP 0 rfl (v := .ref (g 10)) rfl dX11_beside_32 ?_
      refine vp_callSi (runV_r (As := []) (rest := [.int 0]) S (q_size l D cI cB cZ (g 10) (g 50) 0 0) kV_RX11_84 hK hP [1] rfl 1 rfl rfl rfl ⟨Nat.le_of_ble_eq_true rfl, Nat.le_of_ble_eq_true rfl⟩ ⟨Nat.le_of_ble_eq_true rfl, Nat.le_of_ble_eq_true rfl⟩ rfl hl.1 rfl (Nat.le_of_ble_eq_true rfl) dX11_beside_35) (fun r_5 h_6 => ?_)
      subst h_6
      refine lv_icmp_ge (tgt := 91) hx hb dX11_beside_38 (by decide) (fun _ => ?_) (fun h => absurd h (by decide))
      refine lv_iload_n hx hb dX11_beside_91 rfl (lv_at hl 1 rfl) ?_
      exact W.iret (v := 0) hx hb hr (fun t ht hW => ⟨0, rfl, (if_pos (by omega)).symm, ht⟩) (fun _ h => absurd h List.not_mem_nil) dX11_beside_92
    ·
      have h_4 : ¬ (1 ≤ v1.toInt ∧ v1.toInt ≤ 1000) := h_4
      refine lv_if_ne (tgt := 24) hx hb dX11_beside_19 (by decide) (fun h => absurd h (by decide)) (fun _ => ?_)
      refine lv_iconst (v := (-1)) hx hb dX11_beside_22 (by decide) ?_
      exact W.iret (v := (-1)) hx hb hr (fun t ht hW => ⟨(-1), rfl, (if_neg (by omega)).symm, ht⟩) (fun _ h => absurd h List.not_mem_nil) dX11_beside_23
  ·
    have h_2 : ¬ (0 ≤ v0.toInt ∧ v0.toInt ≤ 198) := h_2
    refine lv_if_eq (tgt := 22) hx hb dX11_beside_8 (by decide) (fun _ => ?_) (fun h => absurd h (by decide))
    refine lv_iconst (v := (-1)) hx hb dX11_beside_22 (by decide) ?_
    exact W.iret (v := (-1)) hx hb hr (fun t ht hW => ⟨(-1), rfl, (if_neg (by omega)).symm, ht⟩) (fun _ h => absurd h List.not_mem_nil) dX11_beside_23
set_option maxRecDepth 100000 in
set_option maxHeartbeats 4000000 in
theorem q_X_late (l : Launch) (D : va_G) (cI cB cZ : ClassId) (g : Nat → Nat) (v0 v1 : Int32) : Met l yX11_late (CWS yX11_late cX11_late 6 (some .int)) (RM 3 0 0) (PBr [.ref (g 0), .int v0, .int v1] D cI cB cZ [((g 0), .inr (12, oX g)), ((g 10), .inr (0, [.int 0, .ref (g 50), .int 0]))]) (vp_Si (fun r => r = -1)) 0 0 (fun _ => False) := by
  refine Met.ofW (cc := cX11_late) (maxL := 6) (ret := (some .int)) (by decide) rfl ?_
  intro p e s m args below meth c s₁ B hml hv
  obtain ⟨rfl, hP, hK⟩ := hv
  have hx := B.exec
  have hb := B.bytes
  have hr := B.returns
  have hts := atoms_spec (ws := (CWS yX11_late cX11_late 6 (some .int))) B.pre
  have hown : s.vm.findClass RX11 = some m.cls := findClass_of_methodNamed B.named
  have hlocks := B.notSynchronized
  have S : SF p m c cX11_late 6 s ([.ref (g 0), .int v0, .int v1]).toArray RX11 := ⟨hx, hb, hml, hown, fun w h => hts w (List.mem_cons_of_mem _ h)⟩
  have hP : va_P D vwCl [((g 0), .inr (12, oX g)), ((g 10), .inr (0, [.int 0, .ref (g 50), .int 0]))] s.heap := hP
  have hl := lv_entry ([.ref (g 0), .int v0, .int v1]) (n := 6) (Nat.le_of_ble_eq_true rfl)
  rw [lg_entry_eq]
  generalize (lg_sl ([.ref (g 0), .int v0, .int v1]) ++ List.replicate (6 - (lg_sl ([.ref (g 0), .int v0, .int v1])).length) Slot.unset).toArray = ls at hl ⊢
  have hl : lv_has ls 6 [(0, .ref (g 0)), (1, .int v0), (2, .int v1)] := hl
  refine lv_aload_n hx hb dX11_late_0 rfl (lv_at hl 0 rfl) ?_
  refine lv_iload_n hx hb dX11_late_1 rfl (lv_at hl 1 rfl) ?_
  refine va_csq (runV_r (As := [.int v0]) (rest := []) S (q_kitchenAt l D cI cB cZ g v0) kV_RX11_114 hK hP [0, 1] rfl 0 rfl rfl rfl ⟨Nat.le_of_ble_eq_true rfl, Nat.le_of_ble_eq_true rfl⟩ ⟨Nat.le_of_ble_eq_true rfl, Nat.le_of_ble_eq_true rfl⟩ rfl hl.1 rfl (Nat.le_of_ble_eq_true rfl) dX11_late_2) (fun r_1 h_2 => ?_)
  subst h_2
  refine lv_ifnullN (tgt := 19) hx hb dX11_late_5 (by decide) ?_
  refine lv_iconst (v := (-1)) hx hb dX11_late_19 (by decide) ?_
  exact W.iret (v := (-1)) hx hb hr (fun t ht hW => ⟨(-1), rfl, rfl, ht⟩) (fun _ h => absurd h List.not_mem_nil) dX11_late_20
set_option maxRecDepth 100000 in
set_option maxHeartbeats 4000000 in
theorem q_sets (l : Launch) (D : va_G) (cI cB cZ : ClassId) (g : Nat → Nat) (v0 v1 : Int32) (h0 : 0 ≤ v0.toInt) (h1 : v0.toInt ≤ 399) : Met l yX11_sets (CWS yX11_sets cX11_sets 3 (some .boolean)) (RM 1 0 0) (PBr [.ref (g 0), .int v0, .int v1] D cI cB cZ [((g 0), .inr (12, oX g)), ((g 8), .inr (8, oT g)), ((g 22), .inl (cI, 400, .inl (dgF 400)))]) (vp_Si (fun r => (r = 1 ∧ (15 < v1.toInt)) ∨ (r = 0 ∧ ¬ (15 < v1.toInt)))) 0 0 (fun _ => False) := by
  refine Met.ofW (cc := cX11_sets) (maxL := 3) (ret := (some .boolean)) (by decide) rfl ?_
  intro p e s m args below meth c s₁ B hml hv
  obtain ⟨rfl, hP, hK⟩ := hv
  have hx := B.exec
  have hb := B.bytes
  have hr := B.returns
  have hts := atoms_spec (ws := (CWS yX11_sets cX11_sets 3 (some .boolean))) B.pre
  have hown : s.vm.findClass RX11 = some m.cls := findClass_of_methodNamed B.named
  have hlocks := B.notSynchronized
  have S : SF p m c cX11_sets 3 s ([.ref (g 0), .int v0, .int v1]).toArray RX11 := ⟨hx, hb, hml, hown, fun w h => hts w (List.mem_cons_of_mem _ h)⟩
  have hP : va_P D vwCl [((g 0), .inr (12, oX g)), ((g 8), .inr (8, oT g)), ((g 22), .inl (cI, 400, .inl (dgF 400)))] s.heap := hP
  have hl := lv_entry ([.ref (g 0), .int v0, .int v1]) (n := 3) (Nat.le_of_ble_eq_true rfl)
  rw [lg_entry_eq]
  generalize (lg_sl ([.ref (g 0), .int v0, .int v1]) ++ List.replicate (3 - (lg_sl ([.ref (g 0), .int v0, .int v1])).length) Slot.unset).toArray = ls at hl ⊢
  have hl : lv_has ls 3 [(0, .ref (g 0)), (1, .int v0), (2, .int v1)] := hl
  refine lv_aload_n hx hb dX11_sets_0 rfl (lv_at hl 0 rfl) ?_
  refine gf_RX11_47 S hK hP 0 rfl (v := .ref (g 8)) rfl dX11_sets_1 ?_
  refine gf_RX11_486 S hK hP 1 rfl (v := .ref (g 22)) rfl dX11_sets_4 ?_
  refine lv_iload_n hx hb dX11_sets_7 rfl (lv_at hl 1 rfl) ?_
  refine vp_callSi (runS_r (As := [.ref (g 22), .int v0]) (rest := []) S (q_atF l D cI cB cZ (g 22) 400 (dgF 400) v0 (by omega) (by omega) (by omega)) kS_RX11_192 hK hP [2] rfl ⟨Nat.le_of_ble_eq_true rfl, Nat.le_of_ble_eq_true rfl⟩ ⟨Nat.le_of_ble_eq_true rfl, Nat.le_of_ble_eq_true rfl⟩ rfl hl.1 rfl (Nat.le_of_ble_eq_true rfl) dX11_sets_8) (fun r_1 h_2 => ?_)
  obtain rfl : r_1 = 15 := h_2.trans (dg15 (by omega))
  refine lv_iload_n hx hb dX11_sets_11 rfl (lv_at hl 2 rfl) ?_
  refine lv_icmp_ge (tgt := 19) hx hb dX11_sets_12 (by decide) (fun c_3 => ?_) (fun c_3 => ?_)
  ·
    have tc_3 : (v1.toInt : Int) ≤ 15 := Int32.le_iff_toInt_le.mp c_3
    refine lv_iconst (v := 0) hx hb dX11_sets_19 (by decide) ?_
    exact W.zret (v := 0) hx hb hr rfl (fun t ht hW => ⟨0, rfl, (Or.inr ⟨rfl, by omega⟩), ht⟩) (fun _ h => absurd h List.not_mem_nil) dX11_sets_20
  ·
    have tc_3 : (15 : Int) < v1.toInt := Int32.lt_iff_toInt_lt.mp (Int32.not_le.mp c_3)
    refine lv_iconst (v := 1) hx hb dX11_sets_15 (by decide) ?_
    refine lv_goto (tgt := 20) hx hb dX11_sets_16 (by decide) ?_
    exact W.zret (v := 1) hx hb hr rfl (fun t ht hW => ⟨1, rfl, (Or.inl ⟨rfl, by omega⟩), ht⟩) (fun _ h => absurd h List.not_mem_nil) dX11_sets_20
