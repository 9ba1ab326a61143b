set_option maxRecDepth 100000 in
theorem kS_RX11_256 : CalS RX11 256 yX11_odds cX11_odds 11 (some .long) 5 := ⟨⟨wT_tab 782 rfl rfl, wT_tab 783 rfl rfl, wT_tab 1 rfl rfl, wT_tab 784 rfl rfl⟩, ⟨by decide, by decide, by decide +kernel⟩⟩
set_option maxRecDepth 100000 in
theorem kV_RX11_276 : CalV RX11 276 yX11_startTrial cX11_startTrial 5 (some .boolean) 1 := ⟨⟨wT_tab 807 rfl rfl, wT_tab 809 rfl rfl, wT_sel 30 _ rfl rfl rfl, wT_tab 1 rfl rfl, wT_tab 810 rfl rfl⟩, ⟨by decide, by decide, by decide +kernel⟩⟩
set_option maxRecDepth 100000 in
theorem kV_RX11_279 : CalV RX11 279 yX11_gatherStops cX11_gatherStops 7 (some .boolean) 3 := ⟨⟨wT_tab 811 rfl rfl, wT_tab 813 rfl rfl, wT_sel 31 _ rfl rfl rfl, wT_tab 1 rfl rfl, wT_tab 814 rfl rfl⟩, ⟨by decide, by decide, by decide +kernel⟩⟩
set_option maxRecDepth 100000 in
theorem kV_RX11_285 : CalV RX11 285 yX10_kitchenInRow cX10_kitchenInRow 5 (some .int) 1 := ⟨⟨wT_tab 855 rfl rfl, wT_tab 856 rfl rfl, wT_tab 857 rfl rfl, wT_tab 9 rfl rfl, wT_tab 858 rfl rfl⟩, ⟨by decide, by decide, by decide +kernel⟩⟩
set_option maxRecDepth 100000 in
theorem kV_RX11_282 : CalV RX11 282 yX10_wholeLength cX10_wholeLength 1 (some .int) 0 := ⟨⟨wT_tab 847 rfl rfl, wT_tab 848 rfl rfl, wT_tab 849 rfl rfl, wT_tab 9 rfl rfl, wT_tab 850 rfl rfl⟩, ⟨by decide, by decide, by decide +kernel⟩⟩
set_option maxRecDepth 100000 in
theorem kS_RX11_299 : CalS RX11 299 yX10_way cX10_way 4 (some .int) 4 := ⟨⟨wT_tab 876 rfl rfl, wT_tab 842 rfl rfl, wT_tab 9 rfl rfl, wT_tab 843 rfl rfl⟩, ⟨by decide, by decide, by decide +kernel⟩⟩
set_option maxRecDepth 100000 in
theorem kV_RX11_288 : CalV RX11 288 yX11_drivenLength cX11_drivenLength 7 (some .int) 1 := ⟨⟨wT_tab 867 rfl rfl, wT_tab 869 rfl rfl, wT_sel 36 _ rfl rfl rfl, wT_tab 1 rfl rfl, wT_tab 870 rfl rfl⟩, ⟨by decide, by decide, by decide +kernel⟩⟩
set_option maxRecDepth 100000 in
theorem kV_RX11_162 : CalV RX11 162 yX8_clear cX8_clear 1 none 0 := ⟨⟨wT_tab 691 rfl rfl, wT_tab 692 rfl rfl, wT_tab 693 rfl rfl, wT_tab 4 rfl rfl, wT_tab 694 rfl rfl⟩, ⟨by decide, by decide, by decide +kernel⟩⟩
set_option maxRecDepth 100000 in
theorem gf_RX11_267 {p : Program} {l : Launch} {e : Env} {R : Room} {s : State} {m : MethodId} {args : Array Value} {below : List Frame} {meth : Method} {c : Code} {H : Heap} {locs : List Loc} {cells slots : Nat} {Q : State → Prop} {cc : ByteArray} {nL pc : Nat} {D : va_G} {cI cB cZ : ClassId} {ws : va_W} {rest : List Value} {ls : Array Slot} {a : Nat} {fs : List Value} {v : Value} (S : SF p m c cc nL s args RX11) (hK : KK D cI cB cZ s) (hP : va_P D vwCl ws H) (q0 : Nat) (he : ws[q0]? = some (a, .inr (11, fs))) (hv : fs[6]? = some v) (hdg : decode cc pc = .ok (.getfield 267, 3)) (kk : W p l e R s m args below meth c H locs cells slots Q (F0 m (pc + 3) ls (v :: rest))) : W p l e R s m args below meth c H locs cells slots Q (F0 m pc ls (.ref a :: rest)) :=
  va_get (C := RX10) (T := TX10) (N := 7) S.1 S.2.1 S.2.2.2.2 hin_RX10 S.2.2.2.1 hK.1 hP q0 he rfl 6 (by decide) (S.2.2.2.2 _ (wT_tab 194 rfl rfl)) (fun _ h9 => h9) hv hdg kk
set_option maxRecDepth 100000 in
theorem kV_RX11_303 : CalV RX11 303 yX11_emptyStops cX11_emptyStops 5 (some .int) 1 := ⟨⟨wT_tab 881 rfl rfl, wT_tab 883 rfl rfl, wT_sel 37 _ rfl rfl rfl, wT_tab 1 rfl rfl, wT_tab 884 rfl rfl⟩, ⟨by decide, by decide, by decide +kernel⟩⟩
set_option maxRecDepth 100000 in
theorem gf_RX11_311 {p : Program} {l : Launch} {e : Env} {R : Room} {s : State} {m : MethodId} {args : Array Value} {below : List Frame} {meth : Method} {c : Code} {H : Heap} {locs : List Loc} {cells slots : Nat} {Q : State → Prop} {cc : ByteArray} {nL pc : Nat} {D : va_G} {cI cB cZ : ClassId} {ws : va_W} {rest : List Value} {ls : Array Slot} {a : Nat} {fs : List Value} {v : Value} (S : SF p m c cc nL s args RX11) (hK : KK D cI cB cZ s) (hP : va_P D vwCl ws H) (q0 : Nat) (he : ws[q0]? = some (a, .inr (12, fs))) (hv : fs[1]? = some v) (hdg : decode cc pc = .ok (.getfield 311, 3)) (kk : W p l e R s m args below meth c H locs cells slots Q (F0 m (pc + 3) ls (v :: rest))) : W p l e R s m args below meth c H locs cells slots Q (F0 m pc ls (.ref a :: rest)) :=
  va_get (C := RX11) (T := TX11) (N := 16) S.1 S.2.1 S.2.2.2.2 hin_RX11 S.2.2.2.1 hK.1 hP q0 he rfl 1 (by decide) (S.2.2.2.2 _ (wT_tab 237 rfl rfl)) (fun _ h9 => h9) hv hdg kk
set_option maxRecDepth 100000 in
theorem gf_RX11_314 {p : Program} {l : Launch} {e : Env} {R : Room} {s : State} {m : MethodId} {args : Array Value} {below : List Frame} {meth : Method} {c : Code} {H : Heap} {locs : List Loc} {cells slots : Nat} {Q : State → Prop} {cc : ByteArray} {nL pc : Nat} {D : va_G} {cI cB cZ : ClassId} {ws : va_W} {rest : List Value} {ls : Array Slot} {a : Nat} {fs : List Value} {v : Value} (S : SF p m c cc nL s args RX11) (hK : KK D cI cB cZ s) (hP : va_P D vwCl ws H) (q0 : Nat) (he : ws[q0]? = some (a, .inr (8, fs))) (hv : fs[7]? = some v) (hdg : decode cc pc = .ok (.getfield 314, 3)) (kk : W p l e R s m args below meth c H locs cells slots Q (F0 m (pc + 3) ls (v :: rest))) : W p l e R s m args below meth c H locs cells slots Q (F0 m pc ls (.ref a :: rest)) :=
  va_get (C := RX7) (T := TX7) (N := 10) S.1 S.2.1 S.2.2.2.2 hin_RX7 S.2.2.2.1 hK.1 hP q0 he rfl 7 (by decide) (S.2.2.2.2 _ (wT_tab 152 rfl rfl)) (fun _ h9 => h9) hv hdg kk
set_option maxRecDepth 100000 in
theorem kS_RX11_184 : CalS RX11 184 yX7_put cX7_put 3 none 3 := ⟨⟨wT_tab 727 rfl rfl, wT_tab 503 rfl rfl, wT_tab 7 rfl rfl, wT_tab 504 rfl rfl⟩, ⟨by decide, by decide, by decide +kernel⟩⟩
set_option maxRecDepth 100000 in
theorem pf_RX11_311 {p : Program} {l : Launch} {e : Env} {R : Room} {s : State} {m : MethodId} {args : Array Value} {below : List Frame} {meth : Method} {c : Code} {H : Heap} {locs : List Loc} {cells slots : Nat} {Q : State → Prop} {cc : ByteArray} {nL pc : Nat} {D : va_G} {cI cB cZ : ClassId} {ws : va_W} {rest : List Value} {ls : Array Slot} {a : Nat} {fs : List Value} {v : Value} {A : Nat → Prop} {H0 : Heap} (S : SF p m c cc nL s args RX11) (hK : KK D cI cB cZ s) (hP : va_P D vwCl ws H) (hD : va_D A ws) (hS : va_S A H0 H locs) (q0 : Nat) (he : ws[q0]? = some (a, .inr (12, fs))) (hl : 1 < fs.length) (hn : narrow (tyX11 1) v = v) (hfit : fits (tyX11 1) v = true) (hdg : decode cc pc = .ok (.putfield 311, 3)) (kk : ∀ (H1 : Heap) (locs1 : List Loc), va_P D vwCl (ws.set q0 (a, .inr (12, fs.set 1 v))) H1 → va_D A (ws.set q0 (a, .inr (12, fs.set 1 v))) → va_S A H0 H1 locs1 → W p l e R s m args below meth c H1 locs1 cells slots Q (F0 m (pc + 3) ls rest)) : W p l e R s m args below meth c H locs cells slots Q (F0 m pc ls (v :: .ref a :: rest)) :=
  va_put (C := RX11) (T := TX11) (N := 16) S.1 S.2.1 S.2.2.2.2 hin_RX11 tyX11 tyX11_ok nmX11 S.2.2.2.1 hK.1 hP hD hS q0 he rfl 1 (by decide) (S.2.2.2.2 _ (wT_tab 237 rfl rfl)) (fun _ h9 => h9) rfl (tyX11_ok 1 (by decide)) hn hfit hl hdg kk
set_option maxRecDepth 100000 in
theorem kV_RX11_327 : CalV RX11 327 yX11_sharedLength cX11_sharedLength 6 (some .int) 2 := ⟨⟨wT_tab 905 rfl rfl, wT_tab 907 rfl rfl, wT_sel 40 _ rfl rfl rfl, wT_tab 1 rfl rfl, wT_tab 908 rfl rfl⟩, ⟨by decide, by decide, by decide +kernel⟩⟩
theorem dX11_pence_0 : decode cX11_pence 0 = .ok (.aload_n 0, 1) := by decide +kernel
theorem dX11_pence_1 : decode cX11_pence 1 = .ok (.iload_n 1, 1) := by decide +kernel
theorem dX11_pence_2 : decode cX11_pence 2 = .ok (.invokevirtual 148, 3) := by decide +kernel
theorem dX11_pence_5 : decode cX11_pence 5 = .ok (.astore_n 2, 1) := by decide +kernel
theorem dX11_pence_6 : decode cX11_pence 6 = .ok (.aload_n 2, 1) := by decide +kernel
theorem dX11_pence_7 : decode cX11_pence 7 = .ok (.ifnonnull 7, 3) := by decide +kernel
theorem dX11_pence_10 : decode cX11_pence 10 = .ok (.aconst_null, 1) := by decide +kernel
theorem dX11_pence_11 : decode cX11_pence 11 = .ok (.goto 11, 3) := by decide +kernel
theorem dX11_pence_22 : decode cX11_pence 22 = .ok (.astore_n 3, 1) := by decide +kernel
theorem dX11_pence_23 : decode cX11_pence 23 = .ok (.aload_n 2, 1) := by decide +kernel
theorem dX11_pence_24 : decode cX11_pence 24 = .ok (.ifnull 7, 3) := by decide +kernel
theorem dX11_pence_31 : decode cX11_pence 31 = .ok (.iconst (-1), 1) := by decide +kernel
theorem dX11_pence_32 : decode cX11_pence 32 = .ok (.goto 12, 3) := by decide +kernel
theorem dX11_pence_44 : decode cX11_pence 44 = .ok (.ireturn, 1) := by decide +kernel
theorem dX11_paid_0 : decode cX11_paid 0 = .ok (.aload_n 0, 1) := by decide +kernel
theorem dX11_paid_1 : decode cX11_paid 1 = .ok (.iload_n 1, 1) := by decide +kernel
theorem dX11_paid_2 : decode cX11_paid 2 = .ok (.invokevirtual 114, 3) := by decide +kernel
theorem dX11_paid_5 : decode cX11_paid 5 = .ok (.astore_n 3, 1) := by decide +kernel
theorem dX11_paid_6 : decode cX11_paid 6 = .ok (.aload_n 3, 1) := by decide +kernel
theorem dX11_paid_7 : decode cX11_paid 7 = .ok (.ifnull 10, 3) := by decide +kernel
theorem dX11_paid_17 : decode cX11_paid 17 = .ok (.iconst (-1), 1) := by decide +kernel
theorem dX11_paid_18 : decode cX11_paid 18 = .ok (.goto 13, 3) := by decide +kernel
theorem dX11_paid_31 : decode cX11_paid 31 = .ok (.ireturn, 1) := by decide +kernel
theorem dX11_asIf_0 : decode cX11_asIf 0 = .ok (.aload_n 0, 1) := by decide +kernel
theorem dX11_asIf_1 : decode cX11_asIf 1 = .ok (.iload_n 2, 1) := by decide +kernel
theorem dX11_asIf_2 : decode cX11_asIf 2 = .ok (.invokevirtual 114, 3) := by decide +kernel
theorem dX11_asIf_5 : decode cX11_asIf 5 = .ok (.astore_n 3, 1) := by decide +kernel
theorem dX11_asIf_6 : decode cX11_asIf 6 = .ok (.aload_n 0, 1) := by decide +kernel
theorem dX11_asIf_7 : decode cX11_asIf 7 = .ok (.iload_n 1, 1) := by decide +kernel
theorem dX11_asIf_8 : decode cX11_asIf 8 = .ok (.invokevirtual 114, 3) := by decide +kernel
theorem dX11_asIf_11 : decode cX11_asIf 11 = .ok (.ifnull 7, 3) := by decide +kernel
theorem dX11_asIf_18 : decode cX11_asIf 18 = .ok (.iconst (-1), 1) := by decide +kernel
theorem dX11_asIf_19 : decode cX11_asIf 19 = .ok (.goto 15, 3) := by decide +kernel
theorem dX11_asIf_34 : decode cX11_asIf 34 = .ok (.ireturn, 1) := by decide +kernel
theorem dX11_beyond_0 : decode cX11_beyond 0 = .ok (.iload_n 1, 1) := by decide +kernel
theorem dX11_beyond_1 : decode cX11_beyond 1 = .ok (.iconst 0, 1) := by decide +kernel
theorem dX11_beyond_2 : decode cX11_beyond 2 = .ok (.bipush 6, 2) := by decide +kernel
theorem dX11_beyond_4 : decode cX11_beyond 4 = .ok (.invokestatic 80, 3) := by decide +kernel
theorem dX11_beyond_7 : decode cX11_beyond 7 = .ok (.ifCond .eq 12, 3) := by decide +kernel
theorem dX11_beyond_10 : decode cX11_beyond 10 = .ok (.iload_n 2, 1) := by decide +kernel
theorem dX11_beyond_11 : decode cX11_beyond 11 = .ok (.iconst 0, 1) := by decide +kernel
theorem dX11_beyond_12 : decode cX11_beyond 12 = .ok (.iconst 2, 1) := by decide +kernel
theorem dX11_beyond_13 : decode cX11_beyond 13 = .ok (.invokestatic 80, 3) := by decide +kernel
theorem dX11_beyond_16 : decode cX11_beyond 16 = .ok (.ifCond .ne 7, 3) := by decide +kernel
theorem dX11_beyond_23 : decode cX11_beyond 23 = .ok (.iconst 0, 1) := by decide +kernel
theorem dX11_beyond_24 : decode cX11_beyond 24 = .ok (.istore_n 3, 1) := by decide +kernel
theorem dX11_beyond_25 : decode cX11_beyond 25 = .ok (.iconst 0, 1) := by decide +kernel
theorem dX11_beyond_26 : decode cX11_beyond 26 = .ok (.istore 4, 2) := by decide +kernel
theorem dX11_beyond_28 : decode cX11_beyond 28 = .ok (.iconst 0, 1) := by decide +kernel
theorem dX11_beyond_29 : decode cX11_beyond 29 = .ok (.istore 5, 2) := by decide +kernel
theorem dX11_beyond_31 : decode cX11_beyond 31 = .ok (.iconst 0, 1) := by decide +kernel
theorem dX11_beyond_32 : decode cX11_beyond 32 = .ok (.istore 6, 2) := by decide +kernel
theorem dX11_beyond_34 : decode cX11_beyond 34 = .ok (.iload 6, 2) := by decide +kernel
theorem dX11_beyond_36 : decode cX11_beyond 36 = .ok (.aload_n 0, 1) := by decide +kernel
theorem dX11_beyond_37 : decode cX11_beyond 37 = .ok (.getfield 65, 3) := by decide +kernel
theorem dX11_beyond_40 : decode cX11_beyond 40 = .ok (.invokevirtual 84, 3) := by decide +kernel
theorem dX11_beyond_43 : decode cX11_beyond 43 = .ok (.if_icmp .ge 96, 3) := by decide +kernel
theorem dX11_beyond_139 : decode cX11_beyond 139 = .ok (.iload_n 3, 1) := by decide +kernel
theorem dX11_beyond_140 : decode cX11_beyond 140 = .ok (.iload 4, 2) := by decide +kernel
theorem dX11_beyond_142 : decode cX11_beyond 142 = .ok (.iload 5, 2) := by decide +kernel
theorem dX11_beyond_144 : decode cX11_beyond 144 = .ok (.aload_n 0, 1) := by decide +kernel
theorem dX11_beyond_145 : decode cX11_beyond 145 = .ok (.getfield 65, 3) := by decide +kernel
theorem dX11_beyond_148 : decode cX11_beyond 148 = .ok (.invokevirtual 84, 3) := by decide +kernel
theorem dX11_beyond_151 : decode cX11_beyond 151 = .ok (.iload_n 2, 1) := by decide +kernel
theorem dX11_beyond_152 : decode cX11_beyond 152 = .ok (.invokestatic 256, 3) := by decide +kernel
theorem dX11_beyond_155 : decode cX11_beyond 155 = .ok (.lreturn, 1) := by decide +kernel
theorem dX11_beyond_19 : decode cX11_beyond 19 = .ok (.ldc2_w 254, 3) := by decide +kernel
theorem dX11_beyond_22 : decode cX11_beyond 22 = .ok (.lreturn, 1) := by decide +kernel
theorem dX11_street_0 : decode cX11_street 0 = .ok (.aload_n 0, 1) := by decide +kernel
theorem dX11_street_1 : decode cX11_street 1 = .ok (.iload_n 1, 1) := by decide +kernel
theorem dX11_street_2 : decode cX11_street 2 = .ok (.invokevirtual 114, 3) := by decide +kernel
theorem dX11_street_5 : decode cX11_street 5 = .ok (.astore_n 3, 1) := by decide +kernel
theorem dX11_street_6 : decode cX11_street 6 = .ok (.aload_n 3, 1) := by decide +kernel
theorem dX11_street_7 : decode cX11_street 7 = .ok (.ifnull 13, 3) := by decide +kernel
theorem dX11_street_20 : decode cX11_street 20 = .ok (.iconst 0, 1) := by decide +kernel
theorem dX11_street_21 : decode cX11_street 21 = .ok (.ireturn, 1) := by decide +kernel
theorem dX11_streets_0 : decode cX11_streets 0 = .ok (.iload_n 1, 1) := by decide +kernel
theorem dX11_streets_1 : decode cX11_streets 1 = .ok (.iconst 0, 1) := by decide +kernel
theorem dX11_streets_2 : decode cX11_streets 2 = .ok (.bipush 9, 2) := by decide +kernel
theorem dX11_streets_4 : decode cX11_streets 4 = .ok (.invokestatic 80, 3) := by decide +kernel
theorem dX11_streets_7 : decode cX11_streets 7 = .ok (.ifCond .eq 12, 3) := by decide +kernel
theorem dX11_streets_10 : decode cX11_streets 10 = .ok (.iload_n 2, 1) := by decide +kernel
theorem dX11_streets_11 : decode cX11_streets 11 = .ok (.iconst 0, 1) := by decide +kernel
theorem dX11_streets_12 : decode cX11_streets 12 = .ok (.iconst 2, 1) := by decide +kernel
theorem dX11_streets_13 : decode cX11_streets 13 = .ok (.invokestatic 80, 3) := by decide +kernel
theorem dX11_streets_16 : decode cX11_streets 16 = .ok (.ifCond .ne 7, 3) := by decide +kernel
theorem dX11_streets_23 : decode cX11_streets 23 = .ok (.iconst 0, 1) := by decide +kernel
theorem dX11_streets_24 : decode cX11_streets 24 = .ok (.istore_n 3, 1) := by decide +kernel
theorem dX11_streets_25 : decode cX11_streets 25 = .ok (.iconst 0, 1) := by decide +kernel
theorem dX11_streets_26 : decode cX11_streets 26 = .ok (.istore 4, 2) := by decide +kernel
theorem dX11_streets_28 : decode cX11_streets 28 = .ok (.iconst 0, 1) := by decide +kernel
theorem dX11_streets_29 : decode cX11_streets 29 = .ok (.istore 5, 2) := by decide +kernel
theorem dX11_streets_31 : decode cX11_streets 31 = .ok (.iconst 0, 1) := by decide +kernel
theorem dX11_streets_32 : decode cX11_streets 32 = .ok (.istore 6, 2) := by decide +kernel
theorem dX11_streets_34 : decode cX11_streets 34 = .ok (.iload 6, 2) := by decide +kernel
theorem dX11_streets_36 : decode cX11_streets 36 = .ok (.aload_n 0, 1) := by decide +kernel
theorem dX11_streets_37 : decode cX11_streets 37 = .ok (.getfield 65, 3) := by decide +kernel
theorem dX11_streets_40 : decode cX11_streets 40 = .ok (.invokevirtual 84, 3) := by decide +kernel
theorem dX11_streets_43 : decode cX11_streets 43 = .ok (.if_icmp .ge 109, 3) := by decide +kernel
theorem dX11_streets_152 : decode cX11_streets 152 = .ok (.iload_n 3, 1) := by decide +kernel
theorem dX11_streets_153 : decode cX11_streets 153 = .ok (.iload 4, 2) := by decide +kernel
theorem dX11_streets_155 : decode cX11_streets 155 = .ok (.iload 5, 2) := by decide +kernel
theorem dX11_streets_157 : decode cX11_streets 157 = .ok (.aload_n 0, 1) := by decide +kernel
theorem dX11_streets_158 : decode cX11_streets 158 = .ok (.getfield 65, 3) := by decide +kernel
theorem dX11_streets_161 : decode cX11_streets 161 = .ok (.invokevirtual 84, 3) := by decide +kernel
theorem dX11_streets_164 : decode cX11_streets 164 = .ok (.iload_n 2, 1) := by decide +kernel
theorem dX11_streets_165 : decode cX11_streets 165 = .ok (.invokestatic 256, 3) := by decide +kernel
theorem dX11_streets_168 : decode cX11_streets 168 = .ok (.lreturn, 1) := by decide +kernel
theorem dX11_streets_19 : decode cX11_streets 19 = .ok (.ldc2_w 254, 3) := by decide +kernel
theorem dX11_streets_22 : decode cX11_streets 22 = .ok (.lreturn, 1) := by decide +kernel
theorem dX11_cheat_0 : decode cX11_cheat 0 = .ok (.aload_n 0, 1) := by decide +kernel
theorem dX11_cheat_1 : decode cX11_cheat 1 = .ok (.iload_n 1, 1) := by decide +kernel
theorem dX11_cheat_2 : decode cX11_cheat 2 = .ok (.invokevirtual 114, 3) := by decide +kernel
theorem dX11_cheat_5 : decode cX11_cheat 5 = .ok (.ifnull 23, 3) := by decide +kernel
theorem dX11_cheat_28 : decode cX11_cheat 28 = .ok (.ldc2_w 254, 3) := by decide +kernel
theorem dX11_cheat_31 : decode cX11_cheat 31 = .ok (.lreturn, 1) := by decide +kernel
theorem dX11_round_0 : decode cX11_round 0 = .ok (.iload_n 1, 1) := by decide +kernel
theorem dX11_round_1 : decode cX11_round 1 = .ok (.invokestatic 99, 3) := by decide +kernel
theorem dX11_round_4 : decode cX11_round 4 = .ok (.ifCond .eq 14, 3) := by decide +kernel
theorem dX11_round_7 : decode cX11_round 7 = .ok (.iload_n 2, 1) := by decide +kernel
theorem dX11_round_8 : decode cX11_round 8 = .ok (.iconst 1, 1) := by decide +kernel
theorem dX11_round_9 : decode cX11_round 9 = .ok (.sipush 400, 3) := by decide +kernel
theorem dX11_round_12 : decode cX11_round 12 = .ok (.invokestatic 80, 3) := by decide +kernel
theorem dX11_round_15 : decode cX11_round 15 = .ok (.ifCond .ne 5, 3) := by decide +kernel
theorem dX11_round_20 : decode cX11_round 20 = .ok (.aload_n 0, 1) := by decide +kernel
theorem dX11_round_21 : decode cX11_round 21 = .ok (.iload_n 1, 1) := by decide +kernel
theorem dX11_round_22 : decode cX11_round 22 = .ok (.invokevirtual 276, 3) := by decide +kernel
theorem dX11_round_25 : decode cX11_round 25 = .ok (.ifCond .eq 14, 3) := by decide +kernel
theorem dX11_round_28 : decode cX11_round 28 = .ok (.aload_n 0, 1) := by decide +kernel
theorem dX11_round_29 : decode cX11_round 29 = .ok (.iload_n 1, 1) := by decide +kernel
theorem dX11_round_30 : decode cX11_round 30 = .ok (.iload_n 2, 1) := by decide +kernel
theorem dX11_round_31 : decode cX11_round 31 = .ok (.bipush 8, 2) := by decide +kernel
theorem dX11_round_33 : decode cX11_round 33 = .ok (.invokevirtual 279, 3) := by decide +kernel
theorem dX11_round_36 : decode cX11_round 36 = .ok (.ifCond .ne 6, 3) := by decide +kernel
theorem dX11_round_42 : decode cX11_round 42 = .ok (.iload_n 3, 1) := by decide +kernel
theorem dX11_round_43 : decode cX11_round 43 = .ok (.iconst (-1), 1) := by decide +kernel
theorem dX11_round_44 : decode cX11_round 44 = .ok (.if_icmp .ne 13, 3) := by decide +kernel
theorem dX11_round_57 : decode cX11_round 57 = .ok (.aload_n 0, 1) := by decide +kernel
theorem dX11_round_58 : decode cX11_round 58 = .ok (.getfield 54, 3) := by decide +kernel
theorem dX11_round_61 : decode cX11_round 61 = .ok (.iload_n 3, 1) := by decide +kernel
theorem dX11_round_62 : decode cX11_round 62 = .ok (.invokevirtual 285, 3) := by decide +kernel
theorem dX11_round_65 : decode cX11_round 65 = .ok (.ireturn, 1) := by decide +kernel
theorem dX11_round_47 : decode cX11_round 47 = .ok (.aload_n 0, 1) := by decide +kernel
theorem dX11_round_48 : decode cX11_round 48 = .ok (.getfield 54, 3) := by decide +kernel
theorem dX11_round_51 : decode cX11_round 51 = .ok (.invokevirtual 282, 3) := by decide +kernel
theorem dX11_round_54 : decode cX11_round 54 = .ok (.goto 11, 3) := by decide +kernel
theorem dX11_round_18 : decode cX11_round 18 = .ok (.iconst (-1), 1) := by decide +kernel
theorem dX11_round_19 : decode cX11_round 19 = .ok (.ireturn, 1) := by decide +kernel
theorem dX11_drivenLength_0 : decode cX11_drivenLength 0 = .ok (.iconst 0, 1) := by decide +kernel
theorem dX11_drivenLength_1 : decode cX11_drivenLength 1 = .ok (.istore_n 2, 1) := by decide +kernel
theorem dX11_drivenLength_2 : decode cX11_drivenLength 2 = .ok (.iconst 0, 1) := by decide +kernel
theorem dX11_drivenLength_3 : decode cX11_drivenLength 3 = .ok (.istore_n 3, 1) := by decide +kernel
theorem dX11_drivenLength_4 : decode cX11_drivenLength 4 = .ok (.iconst 0, 1) := by decide +kernel
theorem dX11_drivenLength_5 : decode cX11_drivenLength 5 = .ok (.istore 4, 2) := by decide +kernel
theorem dX11_drivenLength_7 : decode cX11_drivenLength 7 = .ok (.iconst 0, 1) := by decide +kernel
theorem dX11_drivenLength_8 : decode cX11_drivenLength 8 = .ok (.istore 5, 2) := by decide +kernel
theorem dX11_drivenLength_10 : decode cX11_drivenLength 10 = .ok (.iload 5, 2) := by decide +kernel
theorem dX11_drivenLength_12 : decode cX11_drivenLength 12 = .ok (.iload_n 1, 1) := by decide +kernel
theorem dX11_drivenLength_13 : decode cX11_drivenLength 13 = .ok (.if_icmp .ge 63, 3) := by decide +kernel
theorem dX11_drivenLength_76 : decode cX11_drivenLength 76 = .ok (.iload_n 2, 1) := by decide +kernel
theorem dX11_drivenLength_77 : decode cX11_drivenLength 77 = .ok (.iload_n 3, 1) := by decide +kernel
theorem dX11_drivenLength_78 : decode cX11_drivenLength 78 = .ok (.iload 4, 2) := by decide +kernel
theorem dX11_drivenLength_80 : decode cX11_drivenLength 80 = .ok (.iconst 0, 1) := by decide +kernel
theorem dX11_drivenLength_81 : decode cX11_drivenLength 81 = .ok (.iconst 0, 1) := by decide +kernel
theorem dX11_drivenLength_82 : decode cX11_drivenLength 82 = .ok (.invokestatic 299, 3) := by decide +kernel
theorem dX11_drivenLength_85 : decode cX11_drivenLength 85 = .ok (.iadd, 1) := by decide +kernel
theorem dX11_drivenLength_86 : decode cX11_drivenLength 86 = .ok (.ireturn, 1) := by decide +kernel
theorem dX8_clear_0 : decode cX8_clear 0 = .ok (.aload_n 0, 1) := by decide +kernel
theorem dX8_clear_1 : decode cX8_clear 1 = .ok (.iconst 0, 1) := by decide +kernel
theorem dX8_clear_2 : decode cX8_clear 2 = .ok (.putfield 13, 3) := by decide +kernel
theorem dX8_clear_5 : decode cX8_clear 5 = .ok (.return_, 1) := by decide +kernel
theorem dX11_driven_0 : decode cX11_driven 0 = .ok (.iload_n 1, 1) := by decide +kernel
theorem dX11_driven_1 : decode cX11_driven 1 = .ok (.iconst 0, 1) := by decide +kernel
theorem dX11_driven_2 : decode cX11_driven 2 = .ok (.bipush 20, 2) := by decide +kernel
theorem dX11_driven_4 : decode cX11_driven 4 = .ok (.invokestatic 80, 3) := by decide +kernel
theorem dX11_driven_7 : decode cX11_driven 7 = .ok (.ifCond .eq 14, 3) := by decide +kernel
theorem dX11_driven_10 : decode cX11_driven 10 = .ok (.iload_n 1, 1) := by decide +kernel
theorem dX11_driven_11 : decode cX11_driven 11 = .ok (.aload_n 0, 1) := by decide +kernel
theorem dX11_driven_12 : decode cX11_driven 12 = .ok (.getfield 21, 3) := by decide +kernel
theorem dX11_driven_15 : decode cX11_driven 15 = .ok (.invokevirtual 152, 3) := by decide +kernel
theorem dX11_driven_18 : decode cX11_driven 18 = .ok (.if_icmp .le 5, 3) := by decide +kernel
theorem dX11_driven_23 : decode cX11_driven 23 = .ok (.aload_n 0, 1) := by decide +kernel
theorem dX11_driven_24 : decode cX11_driven 24 = .ok (.iload_n 1, 1) := by decide +kernel
theorem dX11_driven_25 : decode cX11_driven 25 = .ok (.invokevirtual 288, 3) := by decide +kernel
theorem dX11_driven_28 : decode cX11_driven 28 = .ok (.istore_n 2, 1) := by decide +kernel
theorem dX11_driven_29 : decode cX11_driven 29 = .ok (.aload_n 0, 1) := by decide +kernel
theorem dX11_driven_30 : decode cX11_driven 30 = .ok (.getfield 21, 3) := by decide +kernel
theorem dX11_driven_33 : decode cX11_driven 33 = .ok (.invokevirtual 162, 3) := by decide +kernel
theorem dX11_driven_36 : decode cX11_driven 36 = .ok (.iload_n 2, 1) := by decide +kernel
theorem dX11_driven_37 : decode cX11_driven 37 = .ok (.ireturn, 1) := by decide +kernel
theorem dX11_driven_21 : decode cX11_driven 21 = .ok (.iconst (-1), 1) := by decide +kernel
theorem dX11_driven_22 : decode cX11_driven 22 = .ok (.ireturn, 1) := by decide +kernel
theorem dX11_emptyStops_0 : decode cX11_emptyStops 0 = .ok (.iconst 0, 1) := by decide +kernel
theorem dX11_emptyStops_1 : decode cX11_emptyStops 1 = .ok (.istore_n 2, 1) := by decide +kernel
theorem dX11_emptyStops_2 : decode cX11_emptyStops 2 = .ok (.iconst 0, 1) := by decide +kernel
theorem dX11_emptyStops_3 : decode cX11_emptyStops 3 = .ok (.istore_n 3, 1) := by decide +kernel
theorem dX11_emptyStops_4 : decode cX11_emptyStops 4 = .ok (.iload_n 3, 1) := by decide +kernel
theorem dX11_emptyStops_5 : decode cX11_emptyStops 5 = .ok (.aload_n 0, 1) := by decide +kernel
theorem dX11_emptyStops_6 : decode cX11_emptyStops 6 = .ok (.getfield 54, 3) := by decide +kernel
theorem dX11_emptyStops_9 : decode cX11_emptyStops 9 = .ok (.getfield 267, 3) := by decide +kernel
theorem dX11_emptyStops_12 : decode cX11_emptyStops 12 = .ok (.if_icmp .ge 51, 3) := by decide +kernel
theorem dX11_emptyStops_63 : decode cX11_emptyStops 63 = .ok (.iload_n 2, 1) := by decide +kernel
theorem dX11_emptyStops_64 : decode cX11_emptyStops 64 = .ok (.ireturn, 1) := by decide +kernel
theorem dX11_nights_0 : decode cX11_nights 0 = .ok (.iload_n 1, 1) := by decide +kernel
theorem dX11_nights_1 : decode cX11_nights 1 = .ok (.invokestatic 99, 3) := by decide +kernel
theorem dX11_nights_4 : decode cX11_nights 4 = .ok (.ifCond .eq 45, 3) := by decide +kernel
theorem dX11_nights_7 : decode cX11_nights 7 = .ok (.iload_n 2, 1) := by decide +kernel
theorem dX11_nights_8 : decode cX11_nights 8 = .ok (.iconst 1, 1) := by decide +kernel
theorem dX11_nights_9 : decode cX11_nights 9 = .ok (.bipush 7, 2) := by decide +kernel
theorem dX11_nights_11 : decode cX11_nights 11 = .ok (.invokestatic 80, 3) := by decide +kernel
theorem dX11_nights_14 : decode cX11_nights 14 = .ok (.ifCond .eq 35, 3) := by decide +kernel
theorem dX11_nights_17 : decode cX11_nights 17 = .ok (.iload_n 1, 1) := by decide +kernel
theorem dX11_nights_18 : decode cX11_nights 18 = .ok (.iload_n 2, 1) := by decide +kernel
theorem dX11_nights_19 : decode cX11_nights 19 = .ok (.iadd, 1) := by decide +kernel
theorem dX11_nights_20 : decode cX11_nights 20 = .ok (.iconst 1, 1) := by decide +kernel
theorem dX11_nights_21 : decode cX11_nights 21 = .ok (.isub, 1) := by decide +kernel
theorem dX11_nights_22 : decode cX11_nights 22 = .ok (.invokestatic 99, 3) := by decide +kernel
theorem dX11_nights_25 : decode cX11_nights 25 = .ok (.ifCond .eq 24, 3) := by decide +kernel
theorem dX11_nights_28 : decode cX11_nights 28 = .ok (.iload_n 3, 1) := by decide +kernel
theorem dX11_nights_29 : decode cX11_nights 29 = .ok (.iconst 1, 1) := by decide +kernel
theorem dX11_nights_30 : decode cX11_nights 30 = .ok (.sipush 400, 3) := by decide +kernel
theorem dX11_nights_33 : decode cX11_nights 33 = .ok (.invokestatic 80, 3) := by decide +kernel
theorem dX11_nights_36 : decode cX11_nights 36 = .ok (.ifCond .eq 13, 3) := by decide +kernel
theorem dX11_nights_39 : decode cX11_nights 39 = .ok (.iload 4, 2) := by decide +kernel
theorem dX11_nights_41 : decode cX11_nights 41 = .ok (.iconst 0, 1) := by decide +kernel
theorem dX11_nights_42 : decode cX11_nights 42 = .ok (.iconst 2, 1) := by decide +kernel
theorem dX11_nights_43 : decode cX11_nights 43 = .ok (.invokestatic 80, 3) := by decide +kernel
theorem dX11_nights_46 : decode cX11_nights 46 = .ok (.ifCond .ne 5, 3) := by decide +kernel
theorem dX11_nights_51 : decode cX11_nights 51 = .ok (.aload_n 0, 1) := by decide +kernel
theorem dX11_nights_52 : decode cX11_nights 52 = .ok (.iload_n 1, 1) := by decide +kernel
theorem dX11_nights_53 : decode cX11_nights 53 = .ok (.invokevirtual 276, 3) := by decide +kernel
theorem dX11_nights_56 : decode cX11_nights 56 = .ok (.ifCond .ne 6, 3) := by decide +kernel
theorem dX11_nights_62 : decode cX11_nights 62 = .ok (.iconst 0, 1) := by decide +kernel
theorem dX11_nights_63 : decode cX11_nights 63 = .ok (.istore 5, 2) := by decide +kernel
theorem dX11_nights_65 : decode cX11_nights 65 = .ok (.iload_n 1, 1) := by decide +kernel
theorem dX11_nights_66 : decode cX11_nights 66 = .ok (.istore 6, 2) := by decide +kernel
theorem dX11_nights_68 : decode cX11_nights 68 = .ok (.iload 6, 2) := by decide +kernel
theorem dX11_nights_70 : decode cX11_nights 70 = .ok (.iload_n 1, 1) := by decide +kernel
theorem dX11_nights_71 : decode cX11_nights 71 = .ok (.iload_n 2, 1) := by decide +kernel
theorem dX11_nights_72 : decode cX11_nights 72 = .ok (.iadd, 1) := by decide +kernel
theorem dX11_nights_73 : decode cX11_nights 73 = .ok (.if_icmp .ge 70, 3) := by decide +kernel
theorem dX11_nights_143 : decode cX11_nights 143 = .ok (.iload 5, 2) := by decide +kernel
theorem dX11_nights_145 : decode cX11_nights 145 = .ok (.ireturn, 1) := by decide +kernel
theorem dX11_nights_76 : decode cX11_nights 76 = .ok (.aload_n 0, 1) := by decide +kernel
theorem dX11_nights_77 : decode cX11_nights 77 = .ok (.iload 6, 2) := by decide +kernel
theorem dX11_nights_79 : decode cX11_nights 79 = .ok (.iload_n 3, 1) := by decide +kernel
theorem dX11_nights_80 : decode cX11_nights 80 = .ok (.bipush 8, 2) := by decide +kernel
theorem dX11_nights_82 : decode cX11_nights 82 = .ok (.invokevirtual 279, 3) := by decide +kernel
theorem dX11_nights_85 : decode cX11_nights 85 = .ok (.ifCond .ne 6, 3) := by decide +kernel
theorem dX11_nights_91 : decode cX11_nights 91 = .ok (.aload_n 0, 1) := by decide +kernel
theorem dX11_nights_92 : decode cX11_nights 92 = .ok (.iload 6, 2) := by decide +kernel
theorem dX11_nights_94 : decode cX11_nights 94 = .ok (.invokevirtual 303, 3) := by decide +kernel
theorem dX11_nights_97 : decode cX11_nights 97 = .ok (.istore 7, 2) := by decide +kernel
theorem dX11_nights_99 : decode cX11_nights 99 = .ok (.iload 5, 2) := by decide +kernel
theorem dX11_nights_101 : decode cX11_nights 101 = .ok (.iload 4, 2) := by decide +kernel
theorem dX11_nights_103 : decode cX11_nights 103 = .ok (.ifCond .ne 13, 3) := by decide +kernel
theorem dX11_nights_116 : decode cX11_nights 116 = .ok (.iload 4, 2) := by decide +kernel
theorem dX11_nights_118 : decode cX11_nights 118 = .ok (.iconst 1, 1) := by decide +kernel
theorem dX11_nights_119 : decode cX11_nights 119 = .ok (.if_icmp .ne 8, 3) := by decide +kernel
theorem dX11_nights_127 : decode cX11_nights 127 = .ok (.aload_n 0, 1) := by decide +kernel
theorem dX11_nights_128 : decode cX11_nights 128 = .ok (.getfield 54, 3) := by decide +kernel
theorem dX11_nights_131 : decode cX11_nights 131 = .ok (.getfield 267, 3) := by decide +kernel
theorem dX11_nights_134 : decode cX11_nights 134 = .ok (.iadd, 1) := by decide +kernel
theorem dX11_nights_135 : decode cX11_nights 135 = .ok (.istore 5, 2) := by decide +kernel
theorem dX11_nights_137 : decode cX11_nights 137 = .ok (.iinc 6 1, 3) := by decide +kernel
theorem dX11_nights_140 : decode cX11_nights 140 = .ok (.goto (-72), 3) := by decide +kernel
theorem dX11_nights_122 : decode cX11_nights 122 = .ok (.iload 7, 2) := by decide +kernel
theorem dX11_nights_124 : decode cX11_nights 124 = .ok (.goto 10, 3) := by decide +kernel
theorem dX11_nights_106 : decode cX11_nights 106 = .ok (.aload_n 0, 1) := by decide +kernel
theorem dX11_nights_107 : decode cX11_nights 107 = .ok (.getfield 54, 3) := by decide +kernel
theorem dX11_nights_110 : decode cX11_nights 110 = .ok (.invokevirtual 282, 3) := by decide +kernel
theorem dX11_nights_113 : decode cX11_nights 113 = .ok (.goto 21, 3) := by decide +kernel
theorem dX11_nights_49 : decode cX11_nights 49 = .ok (.iconst (-1), 1) := by decide +kernel
theorem dX11_nights_50 : decode cX11_nights 50 = .ok (.ireturn, 1) := by decide +kernel
theorem dX11_lorry_0 : decode cX11_lorry 0 = .ok (.iload_n 1, 1) := by decide +kernel
theorem dX11_lorry_1 : decode cX11_lorry 1 = .ok (.bipush 20, 2) := by decide +kernel
theorem dX11_lorry_3 : decode cX11_lorry 3 = .ok (.sipush 2000, 3) := by decide +kernel
theorem dX11_lorry_6 : decode cX11_lorry 6 = .ok (.invokestatic 80, 3) := by decide +kernel
theorem dX11_lorry_9 : decode cX11_lorry 9 = .ok (.ifCond .eq 11, 3) := by decide +kernel
theorem dX11_lorry_12 : decode cX11_lorry 12 = .ok (.aload_n 0, 1) := by decide +kernel
theorem dX11_lorry_13 : decode cX11_lorry 13 = .ok (.getfield 311, 3) := by decide +kernel
theorem dX11_lorry_16 : decode cX11_lorry 16 = .ok (.iconst 3, 1) := by decide +kernel
theorem dX11_lorry_17 : decode cX11_lorry 17 = .ok (.if_icmp .lt 5, 3) := by decide +kernel
theorem dX11_lorry_22 : decode cX11_lorry 22 = .ok (.aload_n 0, 1) := by decide +kernel
theorem dX11_lorry_23 : decode cX11_lorry 23 = .ok (.getfield 47, 3) := by decide +kernel
theorem dX11_lorry_26 : decode cX11_lorry 26 = .ok (.getfield 314, 3) := by decide +kernel
theorem dX11_lorry_29 : decode cX11_lorry 29 = .ok (.aload_n 0, 1) := by decide +kernel
theorem dX11_lorry_30 : decode cX11_lorry 30 = .ok (.getfield 311, 3) := by decide +kernel
theorem dX11_lorry_33 : decode cX11_lorry 33 = .ok (.iload_n 1, 1) := by decide +kernel
theorem dX11_lorry_34 : decode cX11_lorry 34 = .ok (.invokestatic 184, 3) := by decide +kernel
theorem dX11_lorry_37 : decode cX11_lorry 37 = .ok (.aload_n 0, 1) := by decide +kernel
theorem dX11_lorry_38 : decode cX11_lorry 38 = .ok (.dup, 1) := by decide +kernel
theorem dX11_lorry_39 : decode cX11_lorry 39 = .ok (.getfield 311, 3) := by decide +kernel
theorem dX11_lorry_42 : decode cX11_lorry 42 = .ok (.iconst 1, 1) := by decide +kernel
theorem dX11_lorry_43 : decode cX11_lorry 43 = .ok (.iadd, 1) := by decide +kernel
theorem dX11_lorry_44 : decode cX11_lorry 44 = .ok (.putfield 311, 3) := by decide +kernel
theorem dX11_lorry_47 : decode cX11_lorry 47 = .ok (.aload_n 0, 1) := by decide +kernel
theorem dX11_lorry_48 : decode cX11_lorry 48 = .ok (.getfield 311, 3) := by decide +kernel
theorem dX11_lorry_51 : decode cX11_lorry 51 = .ok (.iconst 1, 1) := by decide +kernel
theorem dX11_lorry_52 : decode cX11_lorry 52 = .ok (.isub, 1) := by decide +kernel
theorem dX11_lorry_53 : decode cX11_lorry 53 = .ok (.ireturn, 1) := by decide +kernel
theorem dX11_lorry_20 : decode cX11_lorry 20 = .ok (.iconst (-1), 1) := by decide +kernel
theorem dX11_lorry_21 : decode cX11_lorry 21 = .ok (.ireturn, 1) := by decide +kernel
theorem dX11_off_0 : decode cX11_off 0 = .ok (.iload_n 1, 1) := by decide +kernel
theorem dX11_off_1 : decode cX11_off 1 = .ok (.iconst 0, 1) := by decide +kernel
theorem dX11_off_2 : decode cX11_off 2 = .ok (.aload_n 0, 1) := by decide +kernel
theorem dX11_off_3 : decode cX11_off 3 = .ok (.getfield 311, 3) := by decide +kernel
theorem dX11_off_6 : decode cX11_off 6 = .ok (.iconst 1, 1) := by decide +kernel
theorem dX11_off_7 : decode cX11_off 7 = .ok (.isub, 1) := by decide +kernel
theorem dX11_off_8 : decode cX11_off 8 = .ok (.invokestatic 80, 3) := by decide +kernel
theorem dX11_off_11 : decode cX11_off 11 = .ok (.ifCond .eq 20, 3) := by decide +kernel
theorem dX11_off_31 : decode cX11_off 31 = .ok (.iconst 0, 1) := by decide +kernel
theorem dX11_off_32 : decode cX11_off 32 = .ok (.ireturn, 1) := by decide +kernel
theorem dX11_sharedLength_0 : decode cX11_sharedLength 0 = .ok (.iconst 0, 1) := by decide +kernel
theorem dX11_sharedLength_1 : decode cX11_sharedLength 1 = .ok (.istore_n 3, 1) := by decide +kernel
theorem dX11_sharedLength_2 : decode cX11_sharedLength 2 = .ok (.iconst 0, 1) := by decide +kernel
theorem dX11_sharedLength_3 : decode cX11_sharedLength 3 = .ok (.istore 4, 2) := by decide +kernel
theorem dX11_sharedLength_5 : decode cX11_sharedLength 5 = .ok (.iload 4, 2) := by decide +kernel
theorem dX11_sharedLength_7 : decode cX11_sharedLength 7 = .ok (.aload_n 0, 1) := by decide +kernel
theorem dX11_sharedLength_8 : decode cX11_sharedLength 8 = .ok (.getfield 311, 3) := by decide +kernel
theorem dX11_sharedLength_11 : decode cX11_sharedLength 11 = .ok (.if_icmp .ge 71, 3) := by decide +kernel
theorem dX11_sharedLength_82 : decode cX11_sharedLength 82 = .ok (.iload_n 3, 1) := by decide +kernel
theorem dX11_sharedLength_83 : decode cX11_sharedLength 83 = .ok (.ireturn, 1) := by decide +kernel
theorem dX11_bestShares_0 : decode cX11_bestShares 0 = .ok (.iconst 1, 1) := by decide +kernel
theorem dX11_bestShares_1 : decode cX11_bestShares 1 = .ok (.istore_n 2, 1) := by decide +kernel
theorem dX11_bestShares_2 : decode cX11_bestShares 2 = .ok (.iconst 0, 1) := by decide +kernel
theorem dX11_bestShares_3 : decode cX11_bestShares 3 = .ok (.istore_n 3, 1) := by decide +kernel
theorem dX11_bestShares_4 : decode cX11_bestShares 4 = .ok (.iload_n 3, 1) := by decide +kernel
theorem dX11_bestShares_5 : decode cX11_bestShares 5 = .ok (.aload_n 0, 1) := by decide +kernel
theorem dX11_bestShares_6 : decode cX11_bestShares 6 = .ok (.getfield 54, 3) := by decide +kernel
theorem dX11_bestShares_9 : decode cX11_bestShares 9 = .ok (.getfield 267, 3) := by decide +kernel
theorem dX11_bestShares_12 : decode cX11_bestShares 12 = .ok (.if_icmp .ge 16, 3) := by decide +kernel
theorem dX11_bestShares_28 : decode cX11_bestShares 28 = .ok (.iconst (-1), 1) := by decide +kernel
theorem dX11_bestShares_29 : decode cX11_bestShares 29 = .ok (.istore_n 3, 1) := by decide +kernel
theorem dX11_bestShares_30 : decode cX11_bestShares 30 = .ok (.iconst 0, 1) := by decide +kernel
theorem dX11_bestShares_31 : decode cX11_bestShares 31 = .ok (.istore 4, 2) := by decide +kernel
theorem dX11_bestShares_33 : decode cX11_bestShares 33 = .ok (.iconst 0, 1) := by decide +kernel
theorem dX11_bestShares_34 : decode cX11_bestShares 34 = .ok (.istore 5, 2) := by decide +kernel
theorem dX11_bestShares_36 : decode cX11_bestShares 36 = .ok (.iload 5, 2) := by decide +kernel
theorem dX11_bestShares_38 : decode cX11_bestShares 38 = .ok (.iload_n 2, 1) := by decide +kernel
theorem dX11_bestShares_39 : decode cX11_bestShares 39 = .ok (.if_icmp .ge 43, 3) := by decide +kernel
theorem dX11_bestShares_42 : decode cX11_bestShares 42 = .ok (.aload_n 0, 1) := by decide +kernel
theorem dX11_bestShares_43 : decode cX11_bestShares 43 = .ok (.iload 5, 2) := by decide +kernel
theorem dX11_bestShares_45 : decode cX11_bestShares 45 = .ok (.iload_n 1, 1) := by decide +kernel
theorem dX11_bestShares_46 : decode cX11_bestShares 46 = .ok (.invokevirtual 327, 3) := by decide +kernel
theorem dX11_bestShares_49 : decode cX11_bestShares 49 = .ok (.istore 6, 2) := by decide +kernel
theorem dX11_bestShares_51 : decode cX11_bestShares 51 = .ok (.iload 6, 2) := by decide +kernel
theorem dX11_bestShares_53 : decode cX11_bestShares 53 = .ok (.iconst (-1), 1) := by decide +kernel
theorem dX11_bestShares_54 : decode cX11_bestShares 54 = .ok (.if_icmp .eq 22, 3) := by decide +kernel
theorem dX11_bestShares_57 : decode cX11_bestShares 57 = .ok (.iload_n 3, 1) := by decide +kernel
theorem dX11_bestShares_58 : decode cX11_bestShares 58 = .ok (.iconst (-1), 1) := by decide +kernel
theorem dX11_bestShares_59 : decode cX11_bestShares 59 = .ok (.if_icmp .eq 10, 3) := by decide +kernel
theorem dX11_bestShares_69 : decode cX11_bestShares 69 = .ok (.iload 5, 2) := by decide +kernel
theorem dX11_bestShares_71 : decode cX11_bestShares 71 = .ok (.istore_n 3, 1) := by decide +kernel
theorem dX11_bestShares_72 : decode cX11_bestShares 72 = .ok (.iload 6, 2) := by decide +kernel
theorem dX11_bestShares_74 : decode cX11_bestShares 74 = .ok (.istore 4, 2) := by decide +kernel
theorem dX11_bestShares_76 : decode cX11_bestShares 76 = .ok (.iinc 5 1, 3) := by decide +kernel
theorem dX11_bestShares_79 : decode cX11_bestShares 79 = .ok (.goto (-43), 3) := by decide +kernel
theorem dX11_bestShares_82 : decode cX11_bestShares 82 = .ok (.iload_n 3, 1) := by decide +kernel
theorem dX11_bestShares_83 : decode cX11_bestShares 83 = .ok (.ireturn, 1) := by decide +kernel
set_option maxRecDepth 100000 in
set_option maxHeartbeats 4000000 in
theorem q_X_pence (l : Launch) (D : va_G) (cI cB cZ : ClassId) (g : Nat → Nat) (v0 : Int32) : Met l yX11_pence (CWS yX11_pence cX11_pence 4 (some .int)) (RM 3 0 0) (PBr [.ref (g 0), .int v0] D cI cB cZ [((g 0), .inr (12, oX g)), ((g 10), .inr (0, [.int 0, .ref (g 50), .int 0])), ((g 11), .inr (0, [.int 0, .ref (g 50), .int 0]))]) (vp_Si (fun r => r = -1)) 0 0 (fun _ => False) := by
  refine Met.ofW (cc := cX11_pence) (maxL := 4) (ret := (some .int)) (by decide) rfl ?_
  intro p e s m args below meth c s₁ B hml hv
  obtain ⟨rfl, hP, hK⟩ := hv
  have hx := B.exec
  have hb := B.bytes
  have hr := B.returns
  have hts := atoms_spec (ws := (CWS yX11_pence cX11_pence 4 (some .int))) B.pre
  have hown : s.vm.findClass RX11 = some m.cls := findClass_of_methodNamed B.named
  have hlocks := B.notSynchronized
  have S : SF p m c cX11_pence 4 s ([.ref (g 0), .int v0]).toArray RX11 := ⟨hx, hb, hml, hown, fun w h => hts w (List.mem_cons_of_mem _ h)⟩
  have hP : va_P D vwCl [((g 0), .inr (12, oX g)), ((g 10), .inr (0, [.int 0, .ref (g 50), .int 0])), ((g 11), .inr (0, [.int 0, .ref (g 50), .int 0]))] s.heap := hP
  have hl := lv_entry ([.ref (g 0), .int v0]) (n := 4) (Nat.le_of_ble_eq_true rfl)
  rw [lg_entry_eq]
  generalize (lg_sl ([.ref (g 0), .int v0]) ++ List.replicate (4 - (lg_sl ([.ref (g 0), .int v0])).length) Slot.unset).toArray = ls at hl ⊢
  have hl : lv_has ls 4 [(0, .ref (g 0)), (1, .int v0)] := hl
  refine lv_aload_n hx hb dX11_pence_0 rfl (lv_at hl 0 rfl) ?_
  refine lv_iload_n hx hb dX11_pence_1 rfl (lv_at hl 1 rfl) ?_
  refine va_csq (runV_r (As := [.int v0]) (rest := []) S (q_loadAt l D cI cB cZ g v0) kV_RX11_148 hK hP [0, 2] rfl 0 rfl rfl rfl ⟨Nat.le_of_ble_eq_true rfl, Nat.le_of_ble_eq_true rfl⟩ ⟨Nat.le_of_ble_eq_true rfl, Nat.le_of_ble_eq_true rfl⟩ rfl hl.1 rfl (Nat.le_of_ble_eq_true rfl) dX11_pence_2) (fun r_1 h_2 => ?_)
  subst h_2
  refine lv_astore_nN (lv' := [(2, .null), (0, .ref (g 0)), (1, .int v0)]) hx hb dX11_pence_5 rfl hl (by decide) rfl (fun ls hl => ?_)
  refine lv_aload_nN hx hb dX11_pence_6 rfl (lv_at hl 0 rfl) ?_
  refine lv_ifnonnullN hx hb dX11_pence_7 ?_
  refine lv_null hx hb dX11_pence_10 ?_
  refine lv_goto (tgt := 22) hx hb dX11_pence_11 (by decide) ?_
  refine lv_astore_nN (lv' := [(3, .null), (2, .null), (0, .ref (g 0)), (1, .int v0)]) hx hb dX11_pence_22 rfl hl (by decide) rfl (fun ls hl => ?_)
  refine lv_aload_nN hx hb dX11_pence_23 rfl (lv_at hl 1 rfl) ?_
  refine lv_ifnullN (tgt := 31) hx hb dX11_pence_24 (by decide) ?_
  refine lv_iconst (v := (-1)) hx hb dX11_pence_31 (by decide) ?_
  refine lv_goto (tgt := 44) hx hb dX11_pence_32 (by decide) ?_
  exact W.iret (v := (-1)) hx hb hr (fun t ht hW => ⟨(-1), rfl, rfl, ht⟩) (fun _ h => absurd h List.not_mem_nil) dX11_pence_44
set_option maxRecDepth 100000 in
set_option maxHeartbeats 4000000 in
theorem q_X_paid (l : Launch) (D : va_G) (cI cB cZ : ClassId) (g : Nat → Nat) (v0 v1 : Int32) : Met l yX11_paid (CWS yX11_paid cX11_paid 4 (some .int)) (RM 3 0 0) (PBr [.ref (g 0), .int v0, .int v1] D cI cB cZ [((g 0), .inr (12, oX g)), ((g 10), .inr (0, [.int 0, .ref (g 50), .int 0]))]) (vp_Si (fun r => r = -1)) 0 0 (fun _ => False) := by
  refine Met.ofW (cc := cX11_paid) (maxL := 4) (ret := (some .int)) (by decide) rfl ?_
  intro p e s m args below meth c s₁ B hml hv
  obtain ⟨rfl, hP, hK⟩ := hv
  have hx := B.exec
  have hb := B.bytes
  have hr := B.returns
  have hts := atoms_spec (ws := (CWS yX11_paid cX11_paid 4 (some .int))) B.pre
  have hown : s.vm.findClass RX11 = some m.cls := findClass_of_methodNamed B.named
  have hlocks := B.notSynchronized
  have S : SF p m c cX11_paid 4 s ([.ref (g 0), .int v0, .int v1]).toArray RX11 := ⟨hx, hb, hml, hown, fun w h => hts w (List.mem_cons_of_mem _ h)⟩
  have hP : va_P D vwCl [((g 0), .inr (12, oX g)), ((g 10), .inr (0, [.int 0, .ref (g 50), .int 0]))] s.heap := hP
  have hl := lv_entry ([.ref (g 0), .int v0, .int v1]) (n := 4) (Nat.le_of_ble_eq_true rfl)
  rw [lg_entry_eq]
  generalize (lg_sl ([.ref (g 0), .int v0, .int v1]) ++ List.replicate (4 - (lg_sl ([.ref (g 0), .int v0, .int v1])).length) Slot.unset).toArray = ls at hl ⊢
  have hl : lv_has ls 4 [(0, .ref (g 0)), (1, .int v0), (2, .int v1)] := hl
  refine lv_aload_n hx hb dX11_paid_0 rfl (lv_at hl 0 rfl) ?_
  refine lv_iload_n hx hb dX11_paid_1 rfl (lv_at hl 1 rfl) ?_
  refine va_csq (runV_r (As := [.int v0]) (rest := []) S (q_kitchenAt l D cI cB cZ g v0) kV_RX11_114 hK hP [0, 1] rfl 0 rfl rfl rfl ⟨Nat.le_of_ble_eq_true rfl, Nat.le_of_ble_eq_true rfl⟩ ⟨Nat.le_of_ble_eq_true rfl, Nat.le_of_ble_eq_true rfl⟩ rfl hl.1 rfl (Nat.le_of_ble_eq_true rfl) dX11_paid_2) (fun r_1 h_2 => ?_)
  subst h_2
  refine lv_astore_nN (lv' := [(3, .null), (0, .ref (g 0)), (1, .int v0), (2, .int v1)]) hx hb dX11_paid_5 rfl hl (by decide) rfl (fun ls hl => ?_)
  refine lv_aload_nN hx hb dX11_paid_6 rfl (lv_at hl 0 rfl) ?_
  refine lv_ifnullN (tgt := 17) hx hb dX11_paid_7 (by decide) ?_
  refine lv_iconst (v := (-1)) hx hb dX11_paid_17 (by decide) ?_
  refine lv_goto (tgt := 31) hx hb dX11_paid_18 (by decide) ?_
  exact W.iret (v := (-1)) hx hb hr (fun t ht hW => ⟨(-1), rfl, rfl, ht⟩) (fun _ h => absurd h List.not_mem_nil) dX11_paid_31
set_option maxRecDepth 100000 in
set_option maxHeartbeats 4000000 in
theorem q_X_asIf (l : Launch) (D : va_G) (cI cB cZ : ClassId) (g : Nat → Nat) (v0 v1 : Int32) : Met l yX11_asIf (CWS yX11_asIf cX11_asIf 4 (some .int)) (RM 3 0 0) (PBr [.ref (g 0), .int v0, .int v1] D cI cB cZ [((g 0), .inr (12, oX g)), ((g 10), .inr (0, [.int 0, .ref (g 50), .int 0]))]) (vp_Si (fun r => r = -1)) 0 0 (fun _ => False) := by
  refine Met.ofW (cc := cX11_asIf) (maxL := 4) (ret := (some .int)) (by decide) rfl ?_
  intro p e s m args below meth c s₁ B hml hv
  obtain ⟨rfl, hP, hK⟩ := hv
  have hx := B.exec
  have hb := B.bytes
  have hr := B.returns
  have hts := atoms_spec (ws := (CWS yX11_asIf cX11_asIf 4 (some .int))) B.pre
  have hown : s.vm.findClass RX11 = some m.cls := findClass_of_methodNamed B.named
  have hlocks := B.notSynchronized
  have S : SF p m c cX11_asIf 4 s ([.ref (g 0), .int v0, .int v1]).toArray RX11 := ⟨hx, hb, hml, hown, fun w h => hts w (List.mem_cons_of_mem _ h)⟩
  have hP : va_P D vwCl [((g 0), .inr (12, oX g)), ((g 10), .inr (0, [.int 0, .ref (g 50), .int 0]))] s.heap := hP
  have hl := lv_entry ([.ref (g 0), .int v0, .int v1]) (n := 4) (Nat.le_of_ble_eq_true rfl)
  rw [lg_entry_eq]
  generalize (lg_sl ([.ref (g 0), .int v0, .int v1]) ++ List.replicate (4 - (lg_sl ([.ref (g 0), .int v0, .int v1])).length) Slot.unset).toArray = ls at hl ⊢
  have hl : lv_has ls 4 [(0, .ref (g 0)), (1, .int v0), (2, .int v1)] := hl
  refine lv_aload_n hx hb dX11_asIf_0 rfl (lv_at hl 0 rfl) ?_
  refine lv_iload_n hx hb dX11_asIf_1 rfl (lv_at hl 2 rfl) ?_
  refine va_csq (runV_r (As := [.int v1]) (rest := []) S (q_kitchenAt l D cI cB cZ g v1) kV_RX11_114 hK hP [0, 1] rfl 0 rfl rfl rfl ⟨Nat.le_of_ble_eq_true rfl, Nat.le_of_ble_eq_true rfl⟩ ⟨Nat.le_of_ble_eq_true rfl, Nat.le_of_ble_eq_true rfl⟩ rfl hl.1 rfl (Nat.le_of_ble_eq_true rfl) dX11_asIf_2) (fun r_1 h_2 => ?_)
  subst h_2
  refine lv_astore_nN (lv' := [(3, .null), (0, .ref (g 0)), (1, .int v0), (2, .int v1)]) hx hb dX11_asIf_5 rfl hl (by decide) rfl (fun ls hl => ?_)
  refine lv_aload_n hx hb dX11_asIf_6 rfl (lv_at hl 1 rfl) ?_
  refine lv_iload_n hx hb dX11_asIf_7 rfl (lv_at hl 2 rfl) ?_
  refine va_csq (runV_r (As := [.int v0]) (rest := []) S (q_kitchenAt l D cI cB cZ g v0) kV_RX11_114 hK hP [0, 1] rfl 0 rfl rfl rfl ⟨Nat.le_of_ble_eq_true rfl, Nat.le_of_ble_eq_true rfl⟩ ⟨Nat.le_of_ble_eq_true rfl, Nat.le_of_ble_eq_true rfl⟩ rfl hl.1 rfl (Nat.le_of_ble_eq_true rfl) dX11_asIf_8) (fun r_3 h_4 => ?_)
  subst h_4
  refine lv_ifnullN (tgt := 18) hx hb dX11_asIf_11 (by decide) ?_
  refine lv_iconst (v := (-1)) hx hb dX11_asIf_18 (by decide) ?_
  refine lv_goto (tgt := 34) hx hb dX11_asIf_19 (by decide) ?_
  exact W.iret (v := (-1)) hx hb hr (fun t ht hW => ⟨(-1), rfl, rfl, ht⟩) (fun _ h => absurd h List.not_mem_nil) dX11_asIf_34
set_option maxRecDepth 100000 in
set_option maxHeartbeats 4000000 in
theorem q_X_beyond (l : Launch) (D : va_G) (cI cB cZ : ClassId) (g : Nat → Nat) (v0 v1 : Int32) : Met l yX11_beyond (CWS yX11_beyond cX11_beyond 9 (some .long)) (RM 3 0 0) (PBr [.ref (g 0), .int v0, .int v1] D cI cB cZ [((g 0), .inr (12, oX g)), ((g 11), .inr (0, [.int 0, .ref (g 50), .int 0]))]) (vp_Sl (fun r => r = (if (0 ≤ v0.toInt ∧ v0.toInt ≤ 6) ∧ 0 ≤ v1.toInt ∧ v1.toInt ≤ 2 then ((if v1.toInt = 2 then (0 : Int64) else 1) : Int64) else -1))) 0 0 (fun _ => False) := by
  refine Met.ofW (cc := cX11_beyond) (maxL := 9) (ret := (some .long)) (by decide) rfl ?_
  intro p e s m args below meth c s₁ B hml hv
  obtain ⟨rfl, hP, hK⟩ := hv
  have hx := B.exec
  have hb := B.bytes
  have hr := B.returns
  have hts := atoms_spec (ws := (CWS yX11_beyond cX11_beyond 9 (some .long))) B.pre
  have hown : s.vm.findClass RX11 = some m.cls := findClass_of_methodNamed B.named
  have hlocks := B.notSynchronized
  have S : SF p m c cX11_beyond 9 s ([.ref (g 0), .int v0, .int v1]).toArray RX11 := ⟨hx, hb, hml, hown, fun w h => hts w (List.mem_cons_of_mem _ h)⟩
  have hP : va_P D vwCl [((g 0), .inr (12, oX g)), ((g 11), .inr (0, [.int 0, .ref (g 50), .int 0]))] s.heap := hP
  have hl := lv_entry ([.ref (g 0), .int v0, .int v1]) (n := 9) (Nat.le_of_ble_eq_true rfl)
  rw [lg_entry_eq]
  generalize (lg_sl ([.ref (g 0), .int v0, .int v1]) ++ List.replicate (9 - (lg_sl ([.ref (g 0), .int v0, .int v1])).length) Slot.unset).toArray = ls at hl ⊢
  have hl : lv_has ls 9 [(0, .ref (g 0)), (1, .int v0), (2, .int v1)] := hl
  refine lv_iload_n hx hb dX11_beyond_0 rfl (lv_at hl 1 rfl) ?_
  refine lv_iconst (v := 0) hx hb dX11_beyond_1 (by decide) ?_
  refine lv_bipush (v := 6) hx hb dX11_beyond_2 (by decide) ?_
  refine vp_callSi (runS_r (As := [.int v0, .int 0, .int 6]) (rest := []) S (q_within l D cI cB cZ v0 0 6) kS_RX11_80 hK hP [] rfl ⟨Nat.le_of_ble_eq_true rfl, Nat.le_of_ble_eq_true rfl⟩ ⟨Nat.le_of_ble_eq_true rfl, Nat.le_of_ble_eq_true rfl⟩ rfl hl.1 rfl (Nat.le_of_ble_eq_true rfl) dX11_beyond_4) (fun r_1 h_2 => ?_)
  rcases h_2 with ⟨rfl, h_2⟩ | ⟨rfl, h_2⟩
  ·
    have h_2 : 0 ≤ v0.toInt ∧ v0.toInt ≤ 6 := h_2
    refine lv_if_eq (tgt := 19) hx hb dX11_beyond_7 (by decide) (fun h => absurd h (by decide)) (fun _ => ?_)
    refine lv_iload_n hx hb dX11_beyond_10 rfl (lv_at hl 2 rfl) ?_
    refine lv_iconst (v := 0) hx hb dX11_beyond_11 (by decide) ?_
    refine lv_iconst (v := 2) hx hb dX11_beyond_12 (by decide) ?_
    refine vp_callSi (runS_r (As := [.int v1, .int 0, .int 2]) (rest := []) S (q_within l D cI cB cZ v1 0 2) kS_RX11_80 hK hP [] rfl ⟨Nat.le_of_ble_eq_true rfl, Nat.le_of_ble_eq_true rfl⟩ ⟨Nat.le_of_ble_eq_true rfl, Nat.le_of_ble_eq_true rfl⟩ rfl hl.1 rfl (Nat.le_of_ble_eq_true rfl) dX11_beyond_13) (fun r_3 h_4 => ?_)
    rcases h_4 with ⟨rfl, h_4⟩ | ⟨rfl, h_4⟩
    ·
      have h_4 : 0 ≤ v1.toInt ∧ v1.toInt ≤ 2 := h_4
      refine lv_if_ne (tgt := 23) hx hb dX11_beyond_16 (by decide) (fun _ => ?_) (fun h => absurd h (by decide))
      refine lv_iconst (v := 0) hx hb dX11_beyond_23 (by decide) ?_
      refine lv_istore_n (lv' := [(3, .int 0), (0, .ref (g 0)), (1, .int v0), (2, .int v1)]) hx hb dX11_beyond_24 rfl hl (by decide) rfl (fun ls hl => ?_)
      refine lv_iconst (v := 0) hx hb dX11_beyond_25 (by decide) ?_
      refine lv_istore (lv' := [(4, .int 0), (3, .int 0), (0, .ref (g 0)), (1, .int v0), (2, .int v1)]) hx hb dX11_beyond_26 hl (by decide) rfl (fun ls hl => ?_)
      refine lv_iconst (v := 0) hx hb dX11_beyond_28 (by decide) ?_
      refine lv_istore (lv' := [(5, .int 0), (4, .int 0), (3, .int 0), (0, .ref (g 0)), (1, .int v0), (2, .int v1)]) hx hb dX11_beyond_29 hl (by decide) rfl (fun ls hl => ?_)
      refine lv_iconst (v := 0) hx hb dX11_beyond_31 (by decide) ?_
      refine lv_istore (lv' := [(6, .int 0), (5, .int 0), (4, .int 0), (3, .int 0), (0, .ref (g 0)), (1, .int v0), (2, .int v1)]) hx hb dX11_beyond_32 hl (by decide) rfl (fun ls hl => ?_)
      refine lv_iload hx hb dX11_beyond_34 (lv_at hl 0 rfl) ?_
      refine lv_aload_n hx hb dX11_beyond_36 rfl (lv_at hl 4 rfl) ?_
      refine gf_RX11_65 S hK hP 0 rfl (v := .ref (g 11)) rfl dX11_beyond_37 ?_
      refine vp_callSi (runV_r (As := []) (rest := [.int 0]) S (q_size l D cI cB cZ (g 11) (g 50) 0 0) kV_RX11_84 hK hP [1] rfl 1 rfl rfl rfl ⟨Nat.le_of_ble_eq_true rfl, Nat.le_of_ble_eq_true rfl⟩ ⟨Nat.le_of_ble_eq_true rfl, Nat.le_of_ble_eq_true rfl⟩ rfl hl.1 rfl (Nat.le_of_ble_eq_true rfl) dX11_beyond_40) (fun r_5 h_6 => ?_)
      subst h_6
      refine lv_icmp_ge (tgt := 139) hx hb dX11_beyond_43 (by decide) (fun _ => ?_) (fun h => absurd h (by decide))
      refine lv_iload_n hx hb dX11_beyond_139 rfl (lv_at hl 3 rfl) ?_
      refine lv_iload hx hb dX11_beyond_140 (lv_at hl 2 rfl) ?_
      refine lv_iload hx hb dX11_beyond_142 (lv_at hl 1 rfl) ?_
      refine lv_aload_n hx hb dX11_beyond_144 rfl (lv_at hl 4 rfl) ?_
      refine gf_RX11_65 S hK hP 0 rfl (v := .ref (g 11)) rfl dX11_beyond_145 ?_
      refine vp_callSi (runV_r (As := []) (rest := [.int 0, .int 0, .int 0]) S (q_size l D cI cB cZ (g 11) (g 50) 0 0) kV_RX11_84 hK hP [1] rfl 1 rfl rfl rfl ⟨Nat.le_of_ble_eq_true rfl, Nat.le_of_ble_eq_true rfl⟩ ⟨Nat.le_of_ble_eq_true rfl, Nat.le_of_ble_eq_true rfl⟩ rfl hl.1 rfl (Nat.le_of_ble_eq_true rfl) dX11_beyond_148) (fun r_7 h_8 => ?_)
      subst h_8
      refine lv_iload_n hx hb dX11_beyond_151 rfl (lv_at hl 6 rfl) ?_
      refine vp_callSl (runS_r (As := [.int 0, .int 0, .int 0, .int 0, .int v1]) (rest := []) S (q_odds l D cI cB cZ v1) kS_RX11_256 hK hP [] rfl ⟨Nat.le_of_ble_eq_true rfl, Nat.le_of_ble_eq_true rfl⟩ ⟨Nat.le_of_ble_eq_true rfl, Nat.le_of_ble_eq_true rfl⟩ rfl hl.1 rfl (Nat.le_of_ble_eq_true rfl) dX11_beyond_152) (fun r_9 h_10 => ?_)
      subst h_10
      exact W.lret (v := ((if v1.toInt = 2 then (0 : Int64) else 1))) hx hb hr (fun t ht hW => ⟨((if v1.toInt = 2 then (0 : Int64) else 1)), rfl, (if_pos (by omega)).symm, ht⟩) (fun _ h => absurd h List.not_mem_nil) dX11_beyond_155
    ·
      have h_4 : ¬ (0 ≤ v1.toInt ∧ v1.toInt ≤ 2) := h_4
      refine lv_if_ne (tgt := 23) hx hb dX11_beyond_16 (by decide) (fun h => absurd h (by decide)) (fun _ => ?_)
      refine lv_ldc2 (v := (-1)) hx hb hown (S.2.2.2.2 _ (wT_tab 781 rfl rfl)) dX11_beyond_19 ?_
      exact W.lret (v := (-1)) hx hb hr (fun t ht hW => ⟨(-1), rfl, (if_neg (by omega)).symm, ht⟩) (fun _ h => absurd h List.not_mem_nil) dX11_beyond_22
  ·
    have h_2 : ¬ (0 ≤ v0.toInt ∧ v0.toInt ≤ 6) := h_2
    refine lv_if_eq (tgt := 19) hx hb dX11_beyond_7 (by decide) (fun _ => ?_) (fun h => absurd h (by decide))
    refine lv_ldc2 (v := (-1)) hx hb hown (S.2.2.2.2 _ (wT_tab 781 rfl rfl)) dX11_beyond_19 ?_
    exact W.lret (v := (-1)) hx hb hr (fun t ht hW => ⟨(-1), rfl, (if_neg (by omega)).symm, ht⟩) (fun _ h => absurd h List.not_mem_nil) dX11_beyond_22
set_option maxRecDepth 100000 in
set_option maxHeartbeats 4000000 in
theorem q_X_street (l : Launch) (D : va_G) (cI cB cZ : ClassId) (g : Nat → Nat) (v0 v1 : Int32) : Met l yX11_street (CWS yX11_street cX11_street 4 (some .boolean)) (RM 3 0 0) (PBr [.ref (g 0), .int v0, .int v1] D cI cB cZ [((g 0), .inr (12, oX g)), ((g 10), .inr (0, [.int 0, .ref (g 50), .int 0]))]) (vp_Si (fun r => r = 0)) 0 0 (fun _ => False) := by
  refine Met.ofW (cc := cX11_street) (maxL := 4) (ret := (some .boolean)) (by decide) rfl ?_
  intro p e s m args below meth c s₁ B hml hv
  obtain ⟨rfl, hP, hK⟩ := hv
  have hx := B.exec
  have hb := B.bytes
  have hr := B.returns
  have hts := atoms_spec (ws := (CWS yX11_street cX11_street 4 (some .boolean))) B.pre
  have hown : s.vm.findClass RX11 = some m.cls := findClass_of_methodNamed B.named
  have hlocks := B.notSynchronized
  have S : SF p m c cX11_street 4 s ([.ref (g 0), .int v0, .int v1]).toArray RX11 := ⟨hx, hb, hml, hown, fun w h => hts w (List.mem_cons_of_mem _ h)⟩
  have hP : va_P D vwCl [((g 0), .inr (12, oX g)), ((g 10), .inr (0, [.int 0, .ref (g 50), .int 0]))] s.heap := hP
  have hl := lv_entry ([.ref (g 0), .int v0, .int v1]) (n := 4) (Nat.le_of_ble_eq_true rfl)
  rw [lg_entry_eq]
  generalize (lg_sl ([.ref (g 0), .int v0, .int v1]) ++ List.replicate (4 - (lg_sl ([.ref (g 0), .int v0, .int v1])).length) Slot.unset).toArray = ls at hl ⊢
  have hl : lv_has ls 4 [(0, .ref (g 0)), (1, .int v0), (2, .int v1)] := hl
  refine lv_aload_n hx hb dX11_street_0 rfl (lv_at hl 0 rfl) ?_
  refine lv_iload_n hx hb dX11_street_1 rfl (lv_at hl 1 rfl) ?_
  refine va_csq (runV_r (As := [.int v0]) (rest := []) S (q_kitchenAt l D cI cB cZ g v0) kV_RX11_114 hK hP [0, 1] rfl 0 rfl rfl rfl ⟨Nat.le_of_ble_eq_true rfl, Nat.le_of_ble_eq_true rfl⟩ ⟨Nat.le_of_ble_eq_true rfl, Nat.le_of_ble_eq_true rfl⟩ rfl hl.1 rfl (Nat.le_of_ble_eq_true rfl) dX11_street_2) (fun r_1 h_2 => ?_)
  subst h_2
  refine lv_astore_nN (lv' := [(3, .null), (0, .ref (g 0)), (1, .int v0), (2, .int v1)]) hx hb dX11_street_5 rfl hl (by decide) rfl (fun ls hl => ?_)
  refine lv_aload_nN hx hb dX11_street_6 rfl (lv_at hl 0 rfl) ?_
  refine lv_ifnullN (tgt := 20) hx hb dX11_street_7 (by decide) ?_
  refine lv_iconst (v := 0) hx hb dX11_street_20 (by decide) ?_
  exact W.zret (v := 0) hx hb hr rfl (fun t ht hW => ⟨0, rfl, rfl, ht⟩) (fun _ h => absurd h List.not_mem_nil) dX11_street_21
set_option maxRecDepth 100000 in
set_option maxHeartbeats 4000000 in
theorem q_X_streets (l : Launch) (D : va_G) (cI cB cZ : ClassId) (g : Nat → Nat) (v0 v1 : Int32) : Met l yX11_streets (CWS yX11_streets cX11_streets 10 (some .long)) (RM 3 0 0) (PBr [.ref (g 0), .int v0, .int v1] D cI cB cZ [((g 0), .inr (12, oX g)), ((g 11), .inr (0, [.int 0, .ref (g 50), .int 0]))]) (vp_Sl (fun r => r = (if (0 ≤ v0.toInt ∧ v0.toInt ≤ 9) ∧ 0 ≤ v1.toInt ∧ v1.toInt ≤ 2 then ((if v1.toInt = 2 then (0 : Int64) else 1) : Int64) else -1))) 0 0 (fun _ => False) := by
  refine Met.ofW (cc := cX11_streets) (maxL := 10) (ret := (some .long)) (by decide) rfl ?_
  intro p e s m args below meth c s₁ B hml hv
  obtain ⟨rfl, hP, hK⟩ := hv
  have hx := B.exec
  have hb := B.bytes
  have hr := B.returns
  have hts := atoms_spec (ws := (CWS yX11_streets cX11_streets 10 (some .long))) B.pre
  have hown : s.vm.findClass RX11 = some m.cls := findClass_of_methodNamed B.named
  have hlocks := B.notSynchronized
  have S : SF p m c cX11_streets 10 s ([.ref (g 0), .int v0, .int v1]).toArray RX11 := ⟨hx, hb, hml, hown, fun w h => hts w (List.mem_cons_of_mem _ h)⟩
  have hP : va_P D vwCl [((g 0), .inr (12, oX g)), ((g 11), .inr (0, [.int 0, .ref (g 50), .int 0]))] s.heap := hP
  have hl := lv_entry ([.ref (g 0), .int v0, .int v1]) (n := 10) (Nat.le_of_ble_eq_true rfl)
  rw [lg_entry_eq]
  generalize (lg_sl ([.ref (g 0), .int v0, .int v1]) ++ List.replicate (10 - (lg_sl ([.ref (g 0), .int v0, .int v1])).length) Slot.unset).toArray = ls at hl ⊢
  have hl : lv_has ls 10 [(0, .ref (g 0)), (1, .int v0), (2, .int v1)] := hl
  refine lv_iload_n hx hb dX11_streets_0 rfl (lv_at hl 1 rfl) ?_
  refine lv_iconst (v := 0) hx hb dX11_streets_1 (by decide) ?_
  refine lv_bipush (v := 9) hx hb dX11_streets_2 (by decide) ?_
  refine vp_callSi (runS_r (As := [.int v0, .int 0, .int 9]) (rest := []) S (q_within l D cI cB cZ v0 0 9) kS_RX11_80 hK hP [] rfl ⟨Nat.le_of_ble_eq_true rfl, Nat.le_of_ble_eq_true rfl⟩ ⟨Nat.le_of_ble_eq_true rfl, Nat.le_of_ble_eq_true rfl⟩ rfl hl.1 rfl (Nat.le_of_ble_eq_true rfl) dX11_streets_4) (fun r_1 h_2 => ?_)
  rcases h_2 with ⟨rfl, h_2⟩ | ⟨rfl, h_2⟩
  ·
    have h_2 : 0 ≤ v0.toInt ∧ v0.toInt ≤ 9 := h_2
    refine lv_if_eq (tgt := 19) hx hb dX11_streets_7 (by decide) (fun h => absurd h (by decide)) (fun _ => ?_)
    refine lv_iload_n hx hb dX11_streets_10 rfl (lv_at hl 2 rfl) ?_
    refine lv_iconst (v := 0) hx hb dX11_streets_11 (by decide) ?_
    refine lv_iconst (v := 2) hx hb dX11_streets_12 (by decide) ?_
    refine vp_callSi (runS_r (As := [.int v1, .int 0, .int 2]) (rest := []) S (q_within l D cI cB cZ v1 0 2) kS_RX11_80 hK hP [] rfl ⟨Nat.le_of_ble_eq_true rfl, Nat.le_of_ble_eq_true rfl⟩ ⟨Nat.le_of_ble_eq_true rfl, Nat.le_of_ble_eq_true rfl⟩ rfl hl.1 rfl (Nat.le_of_ble_eq_true rfl) dX11_streets_13) (fun r_3 h_4 => ?_)
    rcases h_4 with ⟨rfl, h_4⟩ | ⟨rfl, h_4⟩
    ·
      have h_4 : 0 ≤ v1.toInt ∧ v1.toInt ≤ 2 := h_4
      refine lv_if_ne (tgt := 23) hx hb dX11_streets_16 (by decide) (fun _ => ?_) (fun h => absurd h (by decide))
      refine lv_iconst (v := 0) hx hb dX11_streets_23 (by decide) ?_
      refine lv_istore_n (lv' := [(3, .int 0), (0, .ref (g 0)), (1, .int v0), (2, .int v1)]) hx hb dX11_streets_24 rfl hl (by decide) rfl (fun ls hl => ?_)
      refine lv_iconst (v := 0) hx hb dX11_streets_25 (by decide) ?_
      refine lv_istore (lv' := [(4, .int 0), (3, .int 0), (0, .ref (g 0)), (1, .int v0), (2, .int v1)]) hx hb dX11_streets_26 hl (by decide) rfl (fun ls hl => ?_)
      refine lv_iconst (v := 0) hx hb dX11_streets_28 (by decide) ?_
      refine lv_istore (lv' := [(5, .int 0), (4, .int 0), (3, .int 0), (0, .ref (g 0)), (1, .int v0), (2, .int v1)]) hx hb dX11_streets_29 hl (by decide) rfl (fun ls hl => ?_)
      refine lv_iconst (v := 0) hx hb dX11_streets_31 (by decide) ?_
      refine lv_istore (lv' := [(6, .int 0), (5, .int 0), (4, .int 0), (3, .int 0), (0, .ref (g 0)), (1, .int v0), (2, .int v1)]) hx hb dX11_streets_32 hl (by decide) rfl (fun ls hl => ?_)
      refine lv_iload hx hb dX11_streets_34 (lv_at hl 0 rfl) ?_
      refine lv_aload_n hx hb dX11_streets_36 rfl (lv_at hl 4 rfl) ?_
      refine gf_RX11_65 S hK hP 0 rfl (v := .ref (g 11)) rfl dX11_streets_37 ?_
      refine vp_callSi (runV_r (As := []) (rest := [.int 0]) S (q_size l D cI cB cZ (g 11) (g 50) 0 0) kV_RX11_84 hK hP [1] rfl 1 rfl rfl rfl ⟨Nat.le_of_ble_eq_true rfl, Nat.le_of_ble_eq_true rfl⟩ ⟨Nat.le_of_ble_eq_true rfl, Nat.le_of_ble_eq_true rfl⟩ rfl hl.1 rfl (Nat.le_of_ble_eq_true rfl) dX11_streets_40) (fun r_5 h_6 => ?_)
      subst h_6
      refine lv_icmp_ge (tgt := 152) hx hb dX11_streets_43 (by decide) (fun _ => ?_) (fun h => absurd h (by decide))
      refine lv_iload_n hx hb dX11_streets_152 rfl (lv_at hl 3 rfl) ?_
      refine lv_iload hx hb dX11_streets_153 (lv_at hl 2 rfl) ?_
      refine lv_iload hx hb dX11_streets_155 (lv_at hl 1 rfl) ?_
      refine lv_aload_n hx hb dX11_streets_157 rfl (lv_at hl 4 rfl) ?_
      refine gf_RX11_65 S hK hP 0 rfl (v := .ref (g 11)) rfl dX11_streets_158 ?_
      refine vp_callSi (runV_r (As := []) (rest := [.int 0, .int 0, .int 0]) S (q_size l D cI cB cZ (g 11) (g 50) 0 0) kV_RX11_84 hK hP [1] rfl 1 rfl rfl rfl ⟨Nat.le_of_ble_eq_true rfl, Nat.le_of_ble_eq_true rfl⟩ ⟨Nat.le_of_ble_eq_true rfl, Nat.le_of_ble_eq_true rfl⟩ rfl hl.1 rfl (Nat.le_of_ble_eq_true rfl) dX11_streets_161) (fun r_7 h_8 => ?_)
      subst h_8
      refine lv_iload_n hx hb dX11_streets_164 rfl (lv_at hl 6 rfl) ?_
      refine vp_callSl (runS_r (As := [.int 0, .int 0, .int 0, .int 0, .int v1]) (rest := []) S (q_odds l D cI cB cZ v1) kS_RX11_256 hK hP [] rfl ⟨Nat.le_of_ble_eq_true rfl, Nat.le_of_ble_eq_true rfl⟩ ⟨Nat.le_of_ble_eq_true rfl, Nat.le_of_ble_eq_true rfl⟩ rfl hl.1 rfl (Nat.le_of_ble_eq_true rfl) dX11_streets_165) (fun r_9 h_10 => ?_)
      subst h_10
      exact W.lret (v := ((if v1.toInt = 2 then (0 : Int64) else 1))) hx hb hr (fun t ht hW => ⟨((if v1.toInt = 2 then (0 : Int64) else 1)), rfl, (if_pos (by omega)).symm, ht⟩) (fun _ h => absurd h List.not_mem_nil) dX11_streets_168
    ·
      have h_4 : ¬ (0 ≤ v1.toInt ∧ v1.toInt ≤ 2) := h_4
      refine lv_if_ne (tgt := 23) hx hb dX11_streets_16 (by decide) (fun h => absurd h (by decide)) (fun _ => ?_)
      refine lv_ldc2 (v := (-1)) hx hb hown (S.2.2.2.2 _ (wT_tab 781 rfl rfl)) dX11_streets_19 ?_
      exact W.lret (v := (-1)) hx hb hr (fun t ht hW => ⟨(-1), rfl, (if_neg (by omega)).symm, ht⟩) (fun _ h => absurd h List.not_mem_nil) dX11_streets_22
  ·
    have h_2 : ¬ (0 ≤ v0.toInt ∧ v0.toInt ≤ 9) := h_2
    refine lv_if_eq (tgt := 19) hx hb dX11_streets_7 (by decide) (fun _ => ?_) (fun h => absurd h (by decide))
    refine lv_ldc2 (v := (-1)) hx hb hown (S.2.2.2.2 _ (wT_tab 781 rfl rfl)) dX11_streets_19 ?_
    exact W.lret (v := (-1)) hx hb hr (fun t ht hW => ⟨(-1), rfl, (if_neg (by omega)).symm, ht⟩) (fun _ h => absurd h List.not_mem_nil) dX11_streets_22
set_option maxRecDepth 100000 in
set_option maxHeartbeats 4000000 in
theorem q_X_cheat (l : Launch) (D : va_G) (cI cB cZ : ClassId) (g : Nat → Nat) (v0 v1 v2 : Int32) : Met l yX11_cheat (CWS yX11_cheat cX11_cheat 10 (some .long)) (RM 3 0 0) (PBr [.ref (g 0), .int v0, .int v1, .int v2] D cI cB cZ [((g 0), .inr (12, oX g)), ((g 10), .inr (0, [.int 0, .ref (g 50), .int 0]))]) (vp_Sl (fun r => r = -1)) 0 0 (fun _ => False) := by
  refine Met.ofW (cc := cX11_cheat) (maxL := 10) (ret := (some .long)) (by decide) rfl ?_
  intro p e s m args below meth c s₁ B hml hv
  obtain ⟨rfl, hP, hK⟩ := hv
  have hx := B.exec
  have hb := B.bytes
  have hr := B.returns
  have hts := atoms_spec (ws := (CWS yX11_cheat cX11_cheat 10 (some .long))) B.pre
  have hown : s.vm.findClass RX11 = some m.cls := findClass_of_methodNamed B.named
  have hlocks := B.notSynchronized
  have S : SF p m c cX11_cheat 10 s ([.ref (g 0), .int v0, .int v1, .int v2]).toArray RX11 := ⟨hx, hb, hml, hown, fun w h => hts w (List.mem_cons_of_mem _ h)⟩
  have hP : va_P D vwCl [((g 0), .inr (12, oX g)), ((g 10), .inr (0, [.int 0, .ref (g 50), .int 0]))] s.heap := hP
  have hl := lv_entry ([.ref (g 0), .int v0, .int v1, .int v2]) (n := 10) (Nat.le_of_ble_eq_true rfl)
  rw [lg_entry_eq]
  generalize (lg_sl ([.ref (g 0), .int v0, .int v1, .int v2]) ++ List.replicate (10 - (lg_sl ([.ref (g 0), .int v0, .int v1, .int v2])).length) Slot.unset).toArray = ls at hl ⊢
  have hl : lv_has ls 10 [(0, .ref (g 0)), (1, .int v0), (2, .int v1), (3, .int v2)] := hl
  refine lv_aload_n hx hb dX11_cheat_0 rfl (lv_at hl 0 rfl) ?_
  refine lv_iload_n hx hb dX11_cheat_1 rfl (lv_at hl 1 rfl) ?_
  refine va_csq (runV_r (As := [.int v0]) (rest := []) S (q_kitchenAt l D cI cB cZ g v0) kV_RX11_114 hK hP [0, 1] rfl 0 rfl rfl rfl ⟨Nat.le_of_ble_eq_true rfl, Nat.le_of_ble_eq_true rfl⟩ ⟨Nat.le_of_ble_eq_true rfl, Nat.le_of_ble_eq_true rfl⟩ rfl hl.1 rfl (Nat.le_of_ble_eq_true rfl) dX11_cheat_2) (fun r_1 h_2 => ?_)
  subst h_2
  refine lv_ifnullN (tgt := 28) hx hb dX11_cheat_5 (by decide) ?_
  refine lv_ldc2 (v := (-1)) hx hb hown (S.2.2.2.2 _ (wT_tab 781 rfl rfl)) dX11_cheat_28 ?_
  exact W.lret (v := (-1)) hx hb hr (fun t ht hW => ⟨(-1), rfl, rfl, ht⟩) (fun _ h => absurd h List.not_mem_nil) dX11_cheat_31
set_option maxRecDepth 100000 in
set_option maxHeartbeats 4000000 in
theorem q_X_round (l : Launch) (D : va_G) (cI cB cZ : ClassId) (g : Nat → Nat) (v0 v1 v2 : Int32) (sz : Nat) : Met l yX11_round (CWS yX11_round cX11_round 4 (some .int)) (RM 6 0 0) (PBw [.ref (g 0), .int v0, .int v1, .int v2] D cI cB cZ [((g 0), .inr (12, oX g)), ((g 10), .inr (0, [.int 0, .ref (g 50), .int 0])), ((g 9), .inr (11, oW g)), ((g 32), .inl (cI, 8, .inl (fun _ => 0))), ((g 33), .inl (cI, 8, .inl (fun _ => 0))), ((g 35), .inl (cI, 256, .inl (fun _ => 0)))] sz) (va_Qi (fun (r : Int32) (_ : Unit) => r = (if (0 ≤ v0.toInt ∧ v0.toInt ≤ 399) ∧ (1 ≤ v1.toInt ∧ v1.toInt ≤ 400) ∧ v2.toInt = -1 then (0 : Int32) else -1)) (fun (_ : Unit) (_ : State) => True) (va_A [((g 0), .inr (12, oX g)), ((g 10), .inr (0, [.int 0, .ref (g 50), .int 0])), ((g 9), .inr (11, oW g)), ((g 32), .inl (cI, 8, .inl (fun _ => 0))), ((g 33), .inl (cI, 8, .inl (fun _ => 0))), ((g 35), .inl (cI, 256, .inl (fun _ => 0)))] sz)) 0 0 (va_A [((g 0), .inr (12, oX g)), ((g 10), .inr (0, [.int 0, .ref (g 50), .int 0])), ((g 9), .inr (11, oW g)), ((g 32), .inl (cI, 8, .inl (fun _ => 0))), ((g 33), .inl (cI, 8, .inl (fun _ => 0))), ((g 35), .inl (cI, 256, .inl (fun _ => 0)))] sz) := by
  refine Met.ofW (cc := cX11_round) (maxL := 4) (ret := (some .int)) (by decide) rfl ?_
  intro p e s m args below meth c s₁ B hml hv
  obtain ⟨rfl, hsz, hP, hK, hD0⟩ := hv
  have hx := B.exec
  have hb := B.bytes
  have hr := B.returns
  have hts := atoms_spec (ws := (CWS yX11_round cX11_round 4 (some .int))) B.pre
  have hown : s.vm.findClass RX11 = some m.cls := findClass_of_methodNamed B.named
  have hlocks := B.notSynchronized
  have S : SF p m c cX11_round 4 s ([.ref (g 0), .int v0, .int v1, .int v2]).toArray RX11 := ⟨hx, hb, hml, hown, fun w h => hts w (List.mem_cons_of_mem _ h)⟩
  subst hsz
  have hD := hD0.self (sz := s.heap.size)
  generalize hAe : va_A [((g 0), .inr (12, oX g)), ((g 10), .inr (0, [.int 0, .ref (g 50), .int 0])), ((g 9), .inr (11, oW g)), ((g 32), .inl (cI, 8, .inl (fun _ => 0))), ((g 33), .inl (cI, 8, .inl (fun _ => 0))), ((g 35), .inl (cI, 256, .inl (fun _ => 0)))] s.heap.size = A at hD ⊢
  have hA : ∀ q : Nat, s.heap.size ≤ q → A q := fun q h => by rw [← hAe]; exact Or.inr h
  have hS : va_S A s.heap s.heap [] := va_S.rf
  have hP : va_P D vwCl [((g 0), .inr (12, oX g)), ((g 10), .inr (0, [.int 0, .ref (g 50), .int 0])), ((g 9), .inr (11, oW g)), ((g 32), .inl (cI, 8, .inl (fun _ => 0))), ((g 33), .inl (cI, 8, .inl (fun _ => 0))), ((g 35), .inl (cI, 256, .inl (fun _ => 0)))] s.heap := hP
  have hD : va_D A [((g 0), .inr (12, oX g)), ((g 10), .inr (0, [.int 0, .ref (g 50), .int 0])), ((g 9), .inr (11, oW g)), ((g 32), .inl (cI, 8, .inl (fun _ => 0))), ((g 33), .inl (cI, 8, .inl (fun _ => 0))), ((g 35), .inl (cI, 256, .inl (fun _ => 0)))] := hD
  have hl := lv_entry ([.ref (g 0), .int v0, .int v1, .int v2]) (n := 4) (Nat.le_of_ble_eq_true rfl)
  rw [lg_entry_eq]
  generalize (lg_sl ([.ref (g 0), .int v0, .int v1, .int v2]) ++ List.replicate (4 - (lg_sl ([.ref (g 0), .int v0, .int v1, .int v2])).length) Slot.unset).toArray = ls at hl ⊢
  have hl : lv_has ls 4 [(0, .ref (g 0)), (1, .int v0), (2, .int v1), (3, .int v2)] := hl
  refine lv_iload_n hx hb dX11_round_0 rfl (lv_at hl 1 rfl) ?_
  refine vp_callSi (runS_r (As := [.int v0]) (rest := []) S (q_isDay l D cI cB cZ v0) kS_RX11_99 hK hP [] rfl ⟨Nat.le_of_ble_eq_true rfl, Nat.le_of_ble_eq_true rfl⟩ ⟨Nat.le_of_ble_eq_true rfl, Nat.le_of_ble_eq_true rfl⟩ rfl hl.1 rfl (Nat.le_of_ble_eq_true rfl) dX11_round_1) (fun r_1 h_2 => ?_)
  rcases h_2 with ⟨rfl, h_2⟩ | ⟨rfl, h_2⟩
  ·
    have h_2 : 0 ≤ v0.toInt ∧ v0.toInt ≤ 399 := h_2
    refine lv_if_eq (tgt := 18) hx hb dX11_round_4 (by decide) (fun h => absurd h (by decide)) (fun _ => ?_)
    refine lv_iload_n hx hb dX11_round_7 rfl (lv_at hl 2 rfl) ?_
    refine lv_iconst (v := 1) hx hb dX11_round_8 (by decide) ?_
    refine lv_sipush (v := 400) hx hb dX11_round_9 (by decide) ?_
    refine vp_callSi (runS_r (As := [.int v1, .int 1, .int 400]) (rest := []) S (q_within l D cI cB cZ v1 1 400) kS_RX11_80 hK hP [] rfl ⟨Nat.le_of_ble_eq_true rfl, Nat.le_of_ble_eq_true rfl⟩ ⟨Nat.le_of_ble_eq_true rfl, Nat.le_of_ble_eq_true rfl⟩ rfl hl.1 rfl (Nat.le_of_ble_eq_true rfl) dX11_round_12) (fun r_3 h_4 => ?_)
    rcases h_4 with ⟨rfl, h_4⟩ | ⟨rfl, h_4⟩
    ·
      have h_4 : 1 ≤ v1.toInt ∧ v1.toInt ≤ 400 := h_4
      refine lv_if_ne (tgt := 20) hx hb dX11_round_15 (by decide) (fun _ => ?_) (fun h => absurd h (by decide))
      refine lv_aload_n hx hb dX11_round_20 rfl (lv_at hl 0 rfl) ?_
      refine lv_iload_n hx hb dX11_round_21 rfl (lv_at hl 1 rfl) ?_
      refine vp_callSi (runV_r (As := [.int v0]) (rest := []) S (q_startTrial l D cI cB cZ g v0) kV_RX11_276 hK hP [0, 1] rfl 0 rfl rfl rfl ⟨Nat.le_of_ble_eq_true rfl, Nat.le_of_ble_eq_true rfl⟩ ⟨Nat.le_of_ble_eq_true rfl, Nat.le_of_ble_eq_true rfl⟩ rfl hl.1 rfl (Nat.le_of_ble_eq_true rfl) dX11_round_22) (fun r_5 h_6 => ?_)
      subst h_6
      refine lv_if_eq (tgt := 39) hx hb dX11_round_25 (by decide) (fun h => absurd h (by decide)) (fun _ => ?_)
      refine lv_aload_n hx hb dX11_round_28 rfl (lv_at hl 0 rfl) ?_
      refine lv_iload_n hx hb dX11_round_29 rfl (lv_at hl 1 rfl) ?_
      refine lv_iload_n hx hb dX11_round_30 rfl (lv_at hl 2 rfl) ?_
      refine lv_bipush (v := 8) hx hb dX11_round_31 (by decide) ?_
      have hFc := va_free (wc := [((g 0), .inr (12, oX g)), ((g 10), .inr (0, [.int 0, .ref (g 50), .int 0])), ((g 9), .inr (11, oW g)), ((g 32), .inl (cI, 8, .inl (fun _ => 0))), ((g 33), .inl (cI, 8, .inl (fun _ => 0))), ((g 35), .inl (cI, 256, .inl (fun _ => 0)))]) hD hS hA [0, 1, 2, 3, 4, 5] rfl
      refine va_calli (runV_w (As := [.int v0, .int v1, .int 8]) (rest := []) S (q_gatherStops l D cI cB cZ g v0 v1 8 s.heap.size) kV_RX11_279 hK hP hD [0, 1, 2, 3, 4, 5] rfl rfl (by decide) 0 rfl rfl rfl ⟨Nat.le_of_ble_eq_true rfl, Nat.le_of_ble_eq_true rfl⟩ ⟨Nat.le_of_ble_eq_true rfl, Nat.le_of_ble_eq_true rfl⟩ rfl hl.1 rfl (Nat.le_of_ble_eq_true rfl) dX11_round_33) hS (fun q _ h => hFc q h) hFc (fun r_7 u_8 t H1 locs ht hvm h_9 hB hz1 hk1 hS => ?_)
      obtain ⟨hP1, hD1⟩ := hB
      rw [ht] at hP1
      obtain ⟨hP, hD⟩ := va_join (wr := []) (w1 := [((g 0), .inr (12, oX g)), ((g 10), .inr (0, [.int 0, .ref (g 50), .int 0])), ((g 9), .inr (11, oW g)), ((g 32), .inl (cI, 8, .inl (fun _ => 0))), ((g 33), .inl (cI, 8, .inl (fun _ => 0))), ((g 35), .inl (cI, 256, .inl (fun _ => 0)))]) hP hD [0, 1, 2, 3, 4, 5] [] rfl rfl (by decide) (by decide) hk1 hFc hP1 hD1
      generalize H1 = H at hP hS ⊢
      have hP : va_P D vwCl [((g 0), .inr (12, oX g)), ((g 10), .inr (0, [.int 0, .ref (g 50), .int 0])), ((g 9), .inr (11, oW g)), ((g 32), .inl (cI, 8, .inl (fun _ => 0))), ((g 33), .inl (cI, 8, .inl (fun _ => 0))), ((g 35), .inl (cI, 256, .inl (fun _ => 0)))] H := hP
      have hD : va_D A [((g 0), .inr (12, oX g)), ((g 10), .inr (0, [.int 0, .ref (g 50), .int 0])), ((g 9), .inr (11, oW g)), ((g 32), .inl (cI, 8, .inl (fun _ => 0))), ((g 33), .inl (cI, 8, .inl (fun _ => 0))), ((g 35), .inl (cI, 256, .inl (fun _ => 0)))] := hD
      subst h_9
      refine lv_if_ne (tgt := 42) hx hb dX11_round_36 (by decide) (fun _ => ?_) (fun h => absurd h (by decide))
      refine lv_iload_n hx hb dX11_round_42 rfl (lv_at hl 3 rfl) ?_
      refine lv_iconst (v := (-1)) hx hb dX11_round_43 (by decide) ?_
      refine lv_icmp_ne (tgt := 57) hx hb dX11_round_44 (by decide) (fun c_10 => ?_) (fun c_10 => ?_)
      ·
        have tc_10 : (v2.toInt : Int) ≠ (-1) := fun q => c_10 (Int32.toInt_inj.mp q)
        refine lv_aload_n hx hb dX11_round_57 rfl (lv_at hl 0 rfl) ?_
        refine gf_RX11_54 S hK hP 0 rfl (v := .ref (g 9)) rfl dX11_round_58 ?_
        refine lv_iload_n hx hb dX11_round_61 rfl (lv_at hl 3 rfl) ?_
        refine vp_callSi (runV_r (As := [.int v2]) (rest := []) S (q_kitchenInRow l D cI cB cZ g v2) kV_RX11_285 hK hP [2] rfl 2 rfl rfl rfl ⟨Nat.le_of_ble_eq_true rfl, Nat.le_of_ble_eq_true rfl⟩ ⟨Nat.le_of_ble_eq_true rfl, Nat.le_of_ble_eq_true rfl⟩ rfl hl.1 rfl (Nat.le_of_ble_eq_true rfl) dX11_round_62) (fun r_11 h_12 => ?_)
        subst h_12
        exact W.iret (v := (-1)) hx hb hr (fun t ht hW => ⟨⟨(-1), (), rfl, (if_neg (by omega)).symm, trivial⟩, hS.F ht⟩) hS.2.2 dX11_round_65
      ·
        have tc_10 : (v2.toInt : Int) = (-1) := congrArg Int32.toInt c_10
        refine lv_aload_n hx hb dX11_round_47 rfl (lv_at hl 0 rfl) ?_
        refine gf_RX11_54 S hK hP 0 rfl (v := .ref (g 9)) rfl dX11_round_48 ?_
        refine vp_callSi (runV_r (As := []) (rest := []) S (q_wholeLength l D cI cB cZ g) kV_RX11_282 hK hP [2, 5] rfl 2 rfl rfl rfl ⟨Nat.le_of_ble_eq_true rfl, Nat.le_of_ble_eq_true rfl⟩ ⟨Nat.le_of_ble_eq_true rfl, Nat.le_of_ble_eq_true rfl⟩ rfl hl.1 rfl (Nat.le_of_ble_eq_true rfl) dX11_round_51) (fun r_13 h_14 => ?_)
        subst h_14
        refine lv_goto (tgt := 65) hx hb dX11_round_54 (by decide) ?_
        exact W.iret (v := 0) hx hb hr (fun t ht hW => ⟨⟨0, (), rfl, (if_pos (by omega)).symm, trivial⟩, hS.F ht⟩) hS.2.2 dX11_round_65
    ·
      have h_4 : ¬ (1 ≤ v1.toInt ∧ v1.toInt ≤ 400) := h_4
      refine lv_if_ne (tgt := 20) hx hb dX11_round_15 (by decide) (fun h => absurd h (by decide)) (fun _ => ?_)
      refine lv_iconst (v := (-1)) hx hb dX11_round_18 (by decide) ?_
      exact W.iret (v := (-1)) hx hb hr (fun t ht hW => ⟨⟨(-1), (), rfl, (if_neg (by omega)).symm, trivial⟩, hS.F ht⟩) hS.2.2 dX11_round_19
  ·
    have h_2 : ¬ (0 ≤ v0.toInt ∧ v0.toInt ≤ 399) := h_2
    refine lv_if_eq (tgt := 18) hx hb dX11_round_4 (by decide) (fun _ => ?_) (fun h => absurd h (by decide))
    refine lv_iconst (v := (-1)) hx hb dX11_round_18 (by decide) ?_
    exact W.iret (v := (-1)) hx hb hr (fun t ht hW => ⟨⟨(-1), (), rfl, (if_neg (by omega)).symm, trivial⟩, hS.F ht⟩) hS.2.2 dX11_round_19
set_option maxRecDepth 100000 in
set_option maxHeartbeats 4000000 in
theorem q_drivenLength (l : Launch) (D : va_G) (cI cB cZ : ClassId) (g : Nat → Nat) (v0 : Int32) (h0 : v0.toInt ≤ 0) : Met l yX11_drivenLength (CWS yX11_drivenLength cX11_drivenLength 7 (some .int)) (RM 2 0 0) (PBr [.ref (g 0), .int v0] D cI cB cZ [((g 0), .inr (12, oX g)), ((g 5), .inr (9, [.ref (g 40), .int 0]))]) (vp_Si (fun r => r = 0)) 0 0 (fun _ => False) := by
  refine Met.ofW (cc := cX11_drivenLength) (maxL := 7) (ret := (some .int)) (by decide) rfl ?_
  intro p e s m args below meth c s₁ B hml hv
  obtain ⟨rfl, hP, hK⟩ := hv
  have hx := B.exec
  have hb := B.bytes
  have hr := B.returns
  have hts := atoms_spec (ws := (CWS yX11_drivenLength cX11_drivenLength 7 (some .int))) B.pre
  have hown : s.vm.findClass RX11 = some m.cls := findClass_of_methodNamed B.named
  have hlocks := B.notSynchronized
  have S : SF p m c cX11_drivenLength 7 s ([.ref (g 0), .int v0]).toArray RX11 := ⟨hx, hb, hml, hown, fun w h => hts w (List.mem_cons_of_mem _ h)⟩
  have hP : va_P D vwCl [((g 0), .inr (12, oX g)), ((g 5), .inr (9, [.ref (g 40), .int 0]))] s.heap := hP
  have hl := lv_entry ([.ref (g 0), .int v0]) (n := 7) (Nat.le_of_ble_eq_true rfl)
  rw [lg_entry_eq]
  generalize (lg_sl ([.ref (g 0), .int v0]) ++ List.replicate (7 - (lg_sl ([.ref (g 0), .int v0])).length) Slot.unset).toArray = ls at hl ⊢
  have hl : lv_has ls 7 [(0, .ref (g 0)), (1, .int v0)] := hl
  refine lv_iconst (v := 0) hx hb dX11_drivenLength_0 (by decide) ?_
  refine lv_istore_n (lv' := [(2, .int 0), (0, .ref (g 0)), (1, .int v0)]) hx hb dX11_drivenLength_1 rfl hl (by decide) rfl (fun ls hl => ?_)
  refine lv_iconst (v := 0) hx hb dX11_drivenLength_2 (by decide) ?_
  refine lv_istore_n (lv' := [(3, .int 0), (2, .int 0), (0, .ref (g 0)), (1, .int v0)]) hx hb dX11_drivenLength_3 rfl hl (by decide) rfl (fun ls hl => ?_)
  refine lv_iconst (v := 0) hx hb dX11_drivenLength_4 (by decide) ?_
  refine lv_istore (lv' := [(4, .int 0), (3, .int 0), (2, .int 0), (0, .ref (g 0)), (1, .int v0)]) hx hb dX11_drivenLength_5 hl (by decide) rfl (fun ls hl => ?_)
  refine lv_iconst (v := 0) hx hb dX11_drivenLength_7 (by decide) ?_
  refine lv_istore (lv' := [(5, .int 0), (4, .int 0), (3, .int 0), (2, .int 0), (0, .ref (g 0)), (1, .int v0)]) hx hb dX11_drivenLength_8 hl (by decide) rfl (fun ls hl => ?_)
  refine lv_iload hx hb dX11_drivenLength_10 (lv_at hl 0 rfl) ?_
  refine lv_iload_n hx hb dX11_drivenLength_12 rfl (lv_at hl 5 rfl) ?_
  refine lv_icmp_ge (tgt := 76) hx hb dX11_drivenLength_13 (by decide) (fun c_1 => ?_) (fun c_1 => False.elim (by have tc_1 : (0 : Int) < v0.toInt := Int32.lt_iff_toInt_lt.mp (Int32.not_le.mp c_1); omega))
  have tc_1 : (v0.toInt : Int) ≤ 0 := Int32.le_iff_toInt_le.mp c_1
  refine lv_iload_n hx hb dX11_drivenLength_76 rfl (lv_at hl 3 rfl) ?_
  refine lv_iload_n hx hb dX11_drivenLength_77 rfl (lv_at hl 2 rfl) ?_
  refine lv_iload hx hb dX11_drivenLength_78 (lv_at hl 1 rfl) ?_
  refine lv_iconst (v := 0) hx hb dX11_drivenLength_80 (by decide) ?_
  refine lv_iconst (v := 0) hx hb dX11_drivenLength_81 (by decide) ?_
  refine vp_callSi (runS_r (As := [.int 0, .int 0, .int 0, .int 0]) (rest := [.int 0]) S (q_way l D cI cB cZ ) kS_RX11_299 hK hP [] rfl ⟨Nat.le_of_ble_eq_true rfl, Nat.le_of_ble_eq_true rfl⟩ ⟨Nat.le_of_ble_eq_true rfl, Nat.le_of_ble_eq_true rfl⟩ rfl hl.1 rfl (Nat.le_of_ble_eq_true rfl) dX11_drivenLength_82) (fun r_2 h_3 => ?_)
  subst h_3
  refine lv_iadd hx hb dX11_drivenLength_85 ?_
  refine lv_topi (fun y_4 ey_4 => ?_)
  obtain rfl : y_4 = 0 := ey_4.trans (by decide)
  exact W.iret (v := 0) hx hb hr (fun t ht hW => ⟨0, rfl, rfl, ht⟩) (fun _ h => absurd h List.not_mem_nil) dX11_drivenLength_86
set_option maxRecDepth 100000 in
set_option maxHeartbeats 4000000 in
theorem q_tclear (l : Launch) (D : va_G) (cI cB cZ : ClassId) (x b : Nat) (n : Int32) (sz : Nat) : Met l yX8_clear (CWS yX8_clear cX8_clear 1 none) (RM 0 0 0) (PBw [.ref x] D cI cB cZ [(x, .inr (9, [.ref b, .int n]))] sz) (va_Qv (fun (_ : Unit) => True) (fun (u : Unit) (t : State) => va_P D vwCl [(x, .inr (9, [.ref b, .int 0]))] t.heap ∧ va_D (va_A [(x, .inr (9, [.ref b, .int n]))] sz) [(x, .inr (9, [.ref b, .int 0]))]) (va_A [(x, .inr (9, [.ref b, .int n]))] sz)) 0 0 (va_A [(x, .inr (9, [.ref b, .int n]))] sz) := by
  refine Met.ofW (cc := cX8_clear) (maxL := 1) (ret := none) (by decide) rfl ?_
  intro p e s m args below meth c s₁ B hml hv
  obtain ⟨rfl, hsz, hP, hK, hD0⟩ := hv
  have hx := B.exec
  have hb := B.bytes
  have hr := B.returns
  have hts := atoms_spec (ws := (CWS yX8_clear cX8_clear 1 none)) B.pre
  have hown : s.vm.findClass RX8 = some m.cls := findClass_of_methodNamed B.named
  have hlocks := B.notSynchronized
  have S : SF p m c cX8_clear 1 s ([.ref x]).toArray RX8 := ⟨hx, hb, hml, hown, fun w h => hts w (List.mem_cons_of_mem _ h)⟩
  subst hsz
  have hD := hD0.self (sz := s.heap.size)
  generalize hAe : va_A [(x, .inr (9, [.ref b, .int n]))] s.heap.size = A at hD ⊢
  have hA : ∀ q : Nat, s.heap.size ≤ q → A q := fun q h => by rw [← hAe]; exact Or.inr h
  have hS : va_S A s.heap s.heap [] := va_S.rf
  have hP : va_P D vwCl [(x, .inr (9, [.ref b, .int n]))] s.heap := hP
  have hD : va_D A [(x, .inr (9, [.ref b, .int n]))] := hD
  have hl := lv_entry ([.ref x]) (n := 1) (Nat.le_of_ble_eq_true rfl)
  rw [lg_entry_eq]
  generalize (lg_sl ([.ref x]) ++ List.replicate (1 - (lg_sl ([.ref x])).length) Slot.unset).toArray = ls at hl ⊢
  have hl : lv_has ls 1 [(0, .ref x)] := hl
  refine lv_aload_n hx hb dX8_clear_0 rfl (lv_at hl 0 rfl) ?_
  refine lv_iconst (v := 0) hx hb dX8_clear_1 (by decide) ?_
  refine pf_RX8_13 S hK hP hD hS 0 rfl (v := .int 0) (Nat.le_of_ble_eq_true rfl) rfl rfl dX8_clear_2 (fun H locs hP hD hS => ?_)
  have hP : va_P D vwCl [(x, .inr (9, [.ref b, .int 0]))] H := hP
  have hD : va_D A [(x, .inr (9, [.ref b, .int 0]))] := hD
  have hP9 := hP.sub (ws' := [(x, .inr (9, [.ref b, .int 0]))]) [0] rfl
  have hD9 := hD.sub (ws' := [(x, .inr (9, [.ref b, .int 0]))]) [0] (by decide) rfl
  exact W.vret hx hb hr (fun t ht hW => ⟨⟨(), rfl, trivial, by rw [ht]; exact hP9, hD9⟩, hS.F ht⟩) hS.2.2 dX8_clear_5
set_option maxRecDepth 100000 in
set_option maxHeartbeats 4000000 in
theorem q_X_driven (l : Launch) (D : va_G) (cI cB cZ : ClassId) (g : Nat → Nat) (v0 : Int32) (sz : Nat) : Met l yX11_driven (CWS yX11_driven cX11_driven 3 (some .int)) (RM 3 0 0) (PBw [.ref (g 0), .int v0] D cI cB cZ [((g 0), .inr (12, oX g)), ((g 5), .inr (9, [.ref (g 40), .int 0]))] sz) (va_Qi (fun (r : Int32) (_ : Unit) => r = (if v0.toInt = 0 then (0 : Int32) else -1)) (fun (_ : Unit) (_ : State) => True) (va_A [((g 0), .inr (12, oX g)), ((g 5), .inr (9, [.ref (g 40), .int 0]))] sz)) 0 0 (va_A [((g 0), .inr (12, oX g)), ((g 5), .inr (9, [.ref (g 40), .int 0]))] sz) := by
  refine Met.ofW (cc := cX11_driven) (maxL := 3) (ret := (some .int)) (by decide) rfl ?_
  intro p e s m args below meth c s₁ B hml hv
  obtain ⟨rfl, hsz, hP, hK, hD0⟩ := hv
  have hx := B.exec
  have hb := B.bytes
  have hr := B.returns
  have hts := atoms_spec (ws := (CWS yX11_driven cX11_driven 3 (some .int))) B.pre
  have hown : s.vm.findClass RX11 = some m.cls := findClass_of_methodNamed B.named
  have hlocks := B.notSynchronized
  have S : SF p m c cX11_driven 3 s ([.ref (g 0), .int v0]).toArray RX11 := ⟨hx, hb, hml, hown, fun w h => hts w (List.mem_cons_of_mem _ h)⟩
  subst hsz
  have hD := hD0.self (sz := s.heap.size)
  generalize hAe : va_A [((g 0), .inr (12, oX g)), ((g 5), .inr (9, [.ref (g 40), .int 0]))] s.heap.size = A at hD ⊢
  have hA : ∀ q : Nat, s.heap.size ≤ q → A q := fun q h => by rw [← hAe]; exact Or.inr h
  have hS : va_S A s.heap s.heap [] := va_S.rf
  have hP : va_P D vwCl [((g 0), .inr (12, oX g)), ((g 5), .inr (9, [.ref (g 40), .int 0]))] s.heap := hP
  have hD : va_D A [((g 0), .inr (12, oX g)), ((g 5), .inr (9, [.ref (g 40), .int 0]))] := hD
  have hl := lv_entry ([.ref (g 0), .int v0]) (n := 3) (Nat.le_of_ble_eq_true rfl)
  rw [lg_entry_eq]
  generalize (lg_sl ([.ref (g 0), .int v0]) ++ List.replicate (3 - (lg_sl ([.ref (g 0), .int v0])).length) Slot.unset).toArray = ls at hl ⊢
  have hl : lv_has ls 3 [(0, .ref (g 0)), (1, .int v0)] := hl
  refine lv_iload_n hx hb dX11_driven_0 rfl (lv_at hl 1 rfl) ?_
  refine lv_iconst (v := 0) hx hb dX11_driven_1 (by decide) ?_
  refine lv_bipush (v := 20) hx hb dX11_driven_2 (by decide) ?_
  refine vp_callSi (runS_r (As := [.int v0, .int 0, .int 20]) (rest := []) S (q_within l D cI cB cZ v0 0 20) kS_RX11_80 hK hP [] rfl ⟨Nat.le_of_ble_eq_true rfl, Nat.le_of_ble_eq_true rfl⟩ ⟨Nat.le_of_ble_eq_true rfl, Nat.le_of_ble_eq_true rfl⟩ rfl hl.1 rfl (Nat.le_of_ble_eq_true rfl) dX11_driven_4) (fun r_1 h_2 => ?_)
  rcases h_2 with ⟨rfl, h_2⟩ | ⟨rfl, h_2⟩
  ·
    have h_2 : 0 ≤ v0.toInt ∧ v0.toInt ≤ 20 := h_2
    refine lv_if_eq (tgt := 21) hx hb dX11_driven_7 (by decide) (fun h => absurd h (by decide)) (fun _ => ?_)
    refine lv_iload_n hx hb dX11_driven_10 rfl (lv_at hl 1 rfl) ?_
    refine lv_aload_n hx hb dX11_driven_11 rfl (lv_at hl 0 rfl) ?_
    refine gf_RX11_21 S hK hP 0 rfl (v := .ref (g 5)) rfl dX11_driven_12 ?_
    refine vp_callSi (runV_r (As := []) (rest := [.int v0]) S (q_tapeLen l D cI cB cZ (g 5) (g 40) 0) kV_RX11_152 hK hP [1] rfl 1 rfl rfl rfl ⟨Nat.le_of_ble_eq_true rfl, Nat.le_of_ble_eq_true rfl⟩ ⟨Nat.le_of_ble_eq_true rfl, Nat.le_of_ble_eq_true rfl⟩ rfl hl.1 rfl (Nat.le_of_ble_eq_true rfl) dX11_driven_15) (fun r_3 h_4 => ?_)
    subst h_4
    refine lv_icmp_le (tgt := 23) hx hb dX11_driven_18 (by decide) (fun c_5 => ?_) (fun c_5 => ?_)
    ·
      have tc_5 : (v0.toInt : Int) ≤ 0 := Int32.le_iff_toInt_le.mp c_5
      refine lv_aload_n hx hb dX11_driven_23 rfl (lv_at hl 0 rfl) ?_
      refine lv_iload_n hx hb dX11_driven_24 rfl (lv_at hl 1 rfl) ?_
      refine vp_callSi (runV_r (As := [.int v0]) (rest := []) S (q_drivenLength l D cI cB cZ g v0 (by omega)) kV_RX11_288 hK hP [0, 1] rfl 0 rfl rfl rfl ⟨Nat.le_of_ble_eq_true rfl, Nat.le_of_ble_eq_true rfl⟩ ⟨Nat.le_of_ble_eq_true rfl, Nat.le_of_ble_eq_true rfl⟩ rfl hl.1 rfl (Nat.le_of_ble_eq_true rfl) dX11_driven_25) (fun r_6 h_7 => ?_)
      subst h_7
      refine lv_istore_n (lv' := [(2, .int 0), (0, .ref (g 0)), (1, .int v0)]) hx hb dX11_driven_28 rfl hl (by decide) rfl (fun ls hl => ?_)
      refine lv_aload_n hx hb dX11_driven_29 rfl (lv_at hl 1 rfl) ?_
      refine gf_RX11_21 S hK hP 0 rfl (v := .ref (g 5)) rfl dX11_driven_30 ?_
      have hFc := va_free (wc := [((g 5), .inr (9, [.ref (g 40), .int 0]))]) hD hS hA [1] rfl
      refine va_callv (runV_w (As := []) (rest := []) S (q_tclear l D cI cB cZ (g 5) (g 40) 0 s.heap.size) kV_RX11_162 hK hP hD [1] rfl rfl (by decide) 1 rfl rfl rfl ⟨Nat.le_of_ble_eq_true rfl, Nat.le_of_ble_eq_true rfl⟩ ⟨Nat.le_of_ble_eq_true rfl, Nat.le_of_ble_eq_true rfl⟩ rfl hl.1 rfl (Nat.le_of_ble_eq_true rfl) dX11_driven_33) hS (fun q _ h => hFc q h) hFc (fun u_9 t H1 locs ht hvm h_10 hB hz1 hk1 hS => ?_)
      obtain ⟨hP1, hD1⟩ := hB
      rw [ht] at hP1
      obtain ⟨hP, hD⟩ := va_join (wr := [((g 0), .inr (12, oX g))]) (w1 := [((g 5), .inr (9, [.ref (g 40), .int 0]))]) hP hD [1] [0] rfl rfl (by decide) (by decide) hk1 hFc hP1 hD1
      generalize H1 = H at hP hS ⊢
      have hP : va_P D vwCl [((g 0), .inr (12, oX g)), ((g 5), .inr (9, [.ref (g 40), .int 0]))] H := hP
      have hD : va_D A [((g 0), .inr (12, oX g)), ((g 5), .inr (9, [.ref (g 40), .int 0]))] := hD
      refine lv_iload_n hx hb dX11_driven_36 rfl (lv_at hl 0 rfl) ?_
      exact W.iret (v := 0) hx hb hr (fun t ht hW => ⟨⟨0, (), rfl, (if_pos (by omega)).symm, trivial⟩, hS.F ht⟩) hS.2.2 dX11_driven_37
    ·
      have tc_5 : (0 : Int) < v0.toInt := Int32.lt_iff_toInt_lt.mp (Int32.not_le.mp c_5)
      refine lv_iconst (v := (-1)) hx hb dX11_driven_21 (by decide) ?_
      exact W.iret (v := (-1)) hx hb hr (fun t ht hW => ⟨⟨(-1), (), rfl, (if_neg (by omega)).symm, trivial⟩, hS.F ht⟩) hS.2.2 dX11_driven_22
  ·
    have h_2 : ¬ (0 ≤ v0.toInt ∧ v0.toInt ≤ 20) := h_2
    refine lv_if_eq (tgt := 21) hx hb dX11_driven_7 (by decide) (fun _ => ?_) (fun h => absurd h (by decide))
    refine lv_iconst (v := (-1)) hx hb dX11_driven_21 (by decide) ?_
    exact W.iret (v := (-1)) hx hb hr (fun t ht hW => ⟨⟨(-1), (), rfl, (if_neg (by omega)).symm, trivial⟩, hS.F ht⟩) hS.2.2 dX11_driven_22
set_option maxRecDepth 100000 in
set_option maxHeartbeats 4000000 in
theorem q_emptyStops (l : Launch) (D : va_G) (cI cB cZ : ClassId) (g : Nat → Nat) (v0 : Int32) : Met l yX11_emptyStops (CWS yX11_emptyStops cX11_emptyStops 5 (some .int)) (RM 1 0 0) (PBr [.ref (g 0), .int v0] D cI cB cZ [((g 0), .inr (12, oX g)), ((g 9), .inr (11, oW g))]) (vp_Si (fun r => r = 0)) 0 0 (fun _ => False) := by
  refine Met.ofW (cc := cX11_emptyStops) (maxL := 5) (ret := (some .int)) (by decide) rfl ?_
  intro p e s m args below meth c s₁ B hml hv
  obtain ⟨rfl, hP, hK⟩ := hv
  have hx := B.exec
  have hb := B.bytes
  have hr := B.returns
  have hts := atoms_spec (ws := (CWS yX11_emptyStops cX11_emptyStops 5 (some .int))) B.pre
  have hown : s.vm.findClass RX11 = some m.cls := findClass_of_methodNamed B.named
  have hlocks := B.notSynchronized
  have S : SF p m c cX11_emptyStops 5 s ([.ref (g 0), .int v0]).toArray RX11 := ⟨hx, hb, hml, hown, fun w h => hts w (List.mem_cons_of_mem _ h)⟩
  have hP : va_P D vwCl [((g 0), .inr (12, oX g)), ((g 9), .inr (11, oW g))] s.heap := hP
  have hl := lv_entry ([.ref (g 0), .int v0]) (n := 5) (Nat.le_of_ble_eq_true rfl)
  rw [lg_entry_eq]
  generalize (lg_sl ([.ref (g 0), .int v0]) ++ List.replicate (5 - (lg_sl ([.ref (g 0), .int v0])).length) Slot.unset).toArray = ls at hl ⊢
  have hl : lv_has ls 5 [(0, .ref (g 0)), (1, .int v0)] := hl
  refine lv_iconst (v := 0) hx hb dX11_emptyStops_0 (by decide) ?_
  refine lv_istore_n (lv' := [(2, .int 0), (0, .ref (g 0)), (1, .int v0)]) hx hb dX11_emptyStops_1 rfl hl (by decide) rfl (fun ls hl => ?_)
  refine lv_iconst (v := 0) hx hb dX11_emptyStops_2 (by decide) ?_
  refine lv_istore_n (lv' := [(3, .int 0), (2, .int 0), (0, .ref (g 0)), (1, .int v0)]) hx hb dX11_emptyStops_3 rfl hl (by decide) rfl (fun ls hl => ?_)
  refine lv_iload_n hx hb dX11_emptyStops_4 rfl (lv_at hl 0 rfl) ?_
  refine lv_aload_n hx hb dX11_emptyStops_5 rfl (lv_at hl 2 rfl) ?_
  refine gf_RX11_54 S hK hP 0 rfl (v := .ref (g 9)) rfl dX11_emptyStops_6 ?_
  refine gf_RX11_267 S hK hP 1 rfl (v := .int 0) rfl dX11_emptyStops_9 ?_
  refine lv_icmp_ge (tgt := 63) hx hb dX11_emptyStops_12 (by decide) (fun _ => ?_) (fun h => absurd h (by decide))
  refine lv_iload_n hx hb dX11_emptyStops_63 rfl (lv_at hl 1 rfl) ?_
  exact W.iret (v := 0) hx hb hr (fun t ht hW => ⟨0, rfl, rfl, ht⟩) (fun _ h => absurd h List.not_mem_nil) dX11_emptyStops_64
set_option maxRecDepth 100000 in
set_option maxHeartbeats 4000000 in
theorem q_X_nights (l : Launch) (D : va_G) (cI cB cZ : ClassId) (g : Nat → Nat) (v0 v1 v2 v3 : Int32) (sz : Nat) : Met l yX11_nights (CWS yX11_nights cX11_nights 8 (some .int)) (RM 6 0 0) (PBw [.ref (g 0), .int v0, .int v1, .int v2, .int v3] D cI cB cZ [((g 0), .inr (12, oX g)), ((g 10), .inr (0, [.int 0, .ref (g 50), .int 0])), ((g 9), .inr (11, oW g)), ((g 32), .inl (cI, 8, .inl (fun _ => 0))), ((g 33), .inl (cI, 8, .inl (fun _ => 0))), ((g 35), .inl (cI, 256, .inl (fun _ => 0)))] sz) (va_Qi (fun (r : Int32) (_ : Unit) => r = (if (0 ≤ v0.toInt ∧ v0.toInt ≤ 399) ∧ (1 ≤ v1.toInt ∧ v1.toInt ≤ 7) ∧ v0.toInt + v1.toInt - 1 ≤ 399 ∧ (1 ≤ v2.toInt ∧ v2.toInt ≤ 400) ∧ 0 ≤ v3.toInt ∧ v3.toInt ≤ 2 then (0 : Int32) else -1)) (fun (_ : Unit) (_ : State) => True) (va_A [((g 0), .inr (12, oX g)), ((g 10), .inr (0, [.int 0, .ref (g 50), .int 0])), ((g 9), .inr (11, oW g)), ((g 32), .inl (cI, 8, .inl (fun _ => 0))), ((g 33), .inl (cI, 8, .inl (fun _ => 0))), ((g 35), .inl (cI, 256, .inl (fun _ => 0)))] sz)) 0 0 (va_A [((g 0), .inr (12, oX g)), ((g 10), .inr (0, [.int 0, .ref (g 50), .int 0])), ((g 9), .inr (11, oW g)), ((g 32), .inl (cI, 8, .inl (fun _ => 0))), ((g 33), .inl (cI, 8, .inl (fun _ => 0))), ((g 35), .inl (cI, 256, .inl (fun _ => 0)))] sz) := by
  refine Met.ofW (cc := cX11_nights) (maxL := 8) (ret := (some .int)) (by decide) rfl ?_
  intro p e s m args below meth c s₁ B hml hv
  obtain ⟨rfl, hsz, hP, hK, hD0⟩ := hv
  have hx := B.exec
  have hb := B.bytes
  have hr := B.returns
  have hts := atoms_spec (ws := (CWS yX11_nights cX11_nights 8 (some .int))) B.pre
  have hown : s.vm.findClass RX11 = some m.cls := findClass_of_methodNamed B.named
  have hlocks := B.notSynchronized
  have S : SF p m c cX11_nights 8 s ([.ref (g 0), .int v0, .int v1, .int v2, .int v3]).toArray RX11 := ⟨hx, hb, hml, hown, fun w h => hts w (List.mem_cons_of_mem _ h)⟩
  subst hsz
  have hD := hD0.self (sz := s.heap.size)
  generalize hAe : va_A [((g 0), .inr (12, oX g)), ((g 10), .inr (0, [.int 0, .ref (g 50), .int 0])), ((g 9), .inr (11, oW g)), ((g 32), .inl (cI, 8, .inl (fun _ => 0))), ((g 33), .inl (cI, 8, .inl (fun _ => 0))), ((g 35), .inl (cI, 256, .inl (fun _ => 0)))] s.heap.size = A at hD ⊢
  have hA : ∀ q : Nat, s.heap.size ≤ q → A q := fun q h => by rw [← hAe]; exact Or.inr h
  have hS : va_S A s.heap s.heap [] := va_S.rf
  have hP : va_P D vwCl [((g 0), .inr (12, oX g)), ((g 10), .inr (0, [.int 0, .ref (g 50), .int 0])), ((g 9), .inr (11, oW g)), ((g 32), .inl (cI, 8, .inl (fun _ => 0))), ((g 33), .inl (cI, 8, .inl (fun _ => 0))), ((g 35), .inl (cI, 256, .inl (fun _ => 0)))] s.heap := hP
  have hD : va_D A [((g 0), .inr (12, oX g)), ((g 10), .inr (0, [.int 0, .ref (g 50), .int 0])), ((g 9), .inr (11, oW g)), ((g 32), .inl (cI, 8, .inl (fun _ => 0))), ((g 33), .inl (cI, 8, .inl (fun _ => 0))), ((g 35), .inl (cI, 256, .inl (fun _ => 0)))] := hD
  have hl := lv_entry ([.ref (g 0), .int v0, .int v1, .int v2, .int v3]) (n := 8) (Nat.le_of_ble_eq_true rfl)
  rw [lg_entry_eq]
  generalize (lg_sl ([.ref (g 0), .int v0, .int v1, .int v2, .int v3]) ++ List.replicate (8 - (lg_sl ([.ref (g 0), .int v0, .int v1, .int v2, .int v3])).length) Slot.unset).toArray = ls at hl ⊢
  have hl : lv_has ls 8 [(0, .ref (g 0)), (1, .int v0), (2, .int v1), (3, .int v2), (4, .int v3)] := hl
  refine lv_iload_n hx hb dX11_nights_0 rfl (lv_at hl 1 rfl) ?_
  refine vp_callSi (runS_r (As := [.int v0]) (rest := []) S (q_isDay l D cI cB cZ v0) kS_RX11_99 hK hP [] rfl ⟨Nat.le_of_ble_eq_true rfl, Nat.le_of_ble_eq_true rfl⟩ ⟨Nat.le_of_ble_eq_true rfl, Nat.le_of_ble_eq_true rfl⟩ rfl hl.1 rfl (Nat.le_of_ble_eq_true rfl) dX11_nights_1) (fun r_1 h_2 => ?_)
  rcases h_2 with ⟨rfl, h_2⟩ | ⟨rfl, h_2⟩
  ·
    have h_2 : 0 ≤ v0.toInt ∧ v0.toInt ≤ 399 := h_2
    refine lv_if_eq (tgt := 49) hx hb dX11_nights_4 (by decide) (fun h => absurd h (by decide)) (fun _ => ?_)
    refine lv_iload_n hx hb dX11_nights_7 rfl (lv_at hl 2 rfl) ?_
    refine lv_iconst (v := 1) hx hb dX11_nights_8 (by decide) ?_
    refine lv_bipush (v := 7) hx hb dX11_nights_9 (by decide) ?_
    refine vp_callSi (runS_r (As := [.int v1, .int 1, .int 7]) (rest := []) S (q_within l D cI cB cZ v1 1 7) kS_RX11_80 hK hP [] rfl ⟨Nat.le_of_ble_eq_true rfl, Nat.le_of_ble_eq_true rfl⟩ ⟨Nat.le_of_ble_eq_true rfl, Nat.le_of_ble_eq_true rfl⟩ rfl hl.1 rfl (Nat.le_of_ble_eq_true rfl) dX11_nights_11) (fun r_3 h_4 => ?_)
    rcases h_4 with ⟨rfl, h_4⟩ | ⟨rfl, h_4⟩
    ·
      have h_4 : 1 ≤ v1.toInt ∧ v1.toInt ≤ 7 := h_4
      refine lv_if_eq (tgt := 49) hx hb dX11_nights_14 (by decide) (fun h => absurd h (by decide)) (fun _ => ?_)
      have td := sum_day (x := v0) (y := v1) (by omega) (by omega)
      refine lv_iload_n hx hb dX11_nights_17 rfl (lv_at hl 1 rfl) ?_
      refine lv_iload_n hx hb dX11_nights_18 rfl (lv_at hl 2 rfl) ?_
      refine lv_iadd hx hb dX11_nights_19 ?_
      refine lv_iconst (v := 1) hx hb dX11_nights_20 (by decide) ?_
      refine lv_isub hx hb dX11_nights_21 ?_
      refine vp_callSi (runS_r (As := [.int ((v0 + v1) - 1)]) (rest := []) S (q_isDay l D cI cB cZ ((v0 + v1) - 1)) kS_RX11_99 hK hP [] rfl ⟨Nat.le_of_ble_eq_true rfl, Nat.le_of_ble_eq_true rfl⟩ ⟨Nat.le_of_ble_eq_true rfl, Nat.le_of_ble_eq_true rfl⟩ rfl hl.1 rfl (Nat.le_of_ble_eq_true rfl) dX11_nights_22) (fun r_5 h_6 => ?_)
      rcases h_6 with ⟨rfl, h_6⟩ | ⟨rfl, h_6⟩
      ·
        have h_6 : 0 ≤ ((v0 + v1) - 1).toInt ∧ ((v0 + v1) - 1).toInt ≤ 399 := h_6
        refine lv_if_eq (tgt := 49) hx hb dX11_nights_25 (by decide) (fun h => absurd h (by decide)) (fun _ => ?_)
        refine lv_iload_n hx hb dX11_nights_28 rfl (lv_at hl 3 rfl) ?_
        refine lv_iconst (v := 1) hx hb dX11_nights_29 (by decide) ?_
        refine lv_sipush (v := 400) hx hb dX11_nights_30 (by decide) ?_
        refine vp_callSi (runS_r (As := [.int v2, .int 1, .int 400]) (rest := []) S (q_within l D cI cB cZ v2 1 400) kS_RX11_80 hK hP [] rfl ⟨Nat.le_of_ble_eq_true rfl, Nat.le_of_ble_eq_true rfl⟩ ⟨Nat.le_of_ble_eq_true rfl, Nat.le_of_ble_eq_true rfl⟩ rfl hl.1 rfl (Nat.le_of_ble_eq_true rfl) dX11_nights_33) (fun r_7 h_8 => ?_)
        rcases h_8 with ⟨rfl, h_8⟩ | ⟨rfl, h_8⟩
        ·
          have h_8 : 1 ≤ v2.toInt ∧ v2.toInt ≤ 400 := h_8
          refine lv_if_eq (tgt := 49) hx hb dX11_nights_36 (by decide) (fun h => absurd h (by decide)) (fun _ => ?_)
          refine lv_iload hx hb dX11_nights_39 (lv_at hl 4 rfl) ?_
          refine lv_iconst (v := 0) hx hb dX11_nights_41 (by decide) ?_
          refine lv_iconst (v := 2) hx hb dX11_nights_42 (by decide) ?_
          refine vp_callSi (runS_r (As := [.int v3, .int 0, .int 2]) (rest := []) S (q_within l D cI cB cZ v3 0 2) kS_RX11_80 hK hP [] rfl ⟨Nat.le_of_ble_eq_true rfl, Nat.le_of_ble_eq_true rfl⟩ ⟨Nat.le_of_ble_eq_true rfl, Nat.le_of_ble_eq_true rfl⟩ rfl hl.1 rfl (Nat.le_of_ble_eq_true rfl) dX11_nights_43) (fun r_9 h_10 => ?_)
          rcases h_10 with ⟨rfl, h_10⟩ | ⟨rfl, h_10⟩
          ·
            have h_10 : 0 ≤ v3.toInt ∧ v3.toInt ≤ 2 := h_10
            refine lv_if_ne (tgt := 51) hx hb dX11_nights_46 (by decide) (fun _ => ?_) (fun h => absurd h (by decide))
            refine lv_aload_n hx hb dX11_nights_51 rfl (lv_at hl 0 rfl) ?_
            refine lv_iload_n hx hb dX11_nights_52 rfl (lv_at hl 1 rfl) ?_
            refine vp_callSi (runV_r (As := [.int v0]) (rest := []) S (q_startTrial l D cI cB cZ g v0) kV_RX11_276 hK hP [0, 1] rfl 0 rfl rfl rfl ⟨Nat.le_of_ble_eq_true rfl, Nat.le_of_ble_eq_true rfl⟩ ⟨Nat.le_of_ble_eq_true rfl, Nat.le_of_ble_eq_true rfl⟩ rfl hl.1 rfl (Nat.le_of_ble_eq_true rfl) dX11_nights_53) (fun r_11 h_12 => ?_)
            subst h_12
            refine lv_if_ne (tgt := 62) hx hb dX11_nights_56 (by decide) (fun _ => ?_) (fun h => absurd h (by decide))
            refine lv_iconst (v := 0) hx hb dX11_nights_62 (by decide) ?_
            refine lv_istore (lv' := [(5, .int 0), (0, .ref (g 0)), (1, .int v0), (2, .int v1), (3, .int v2), (4, .int v3)]) hx hb dX11_nights_63 hl (by decide) rfl (fun ls hl => ?_)
            obtain ⟨j, hj, rfl⟩ := nI_of (x := v0) (fun q => by have := Int32.lt_iff_toInt_lt.mp q; have e : (0 : Int32).toInt = 0 := rfl; omega)
            have tj : (nI j).toInt = (j : Int) := nI_toInt hj
            refine lv_iload_n hx hb dX11_nights_65 rfl (lv_at hl 2 rfl) ?_
            refine lv_istore (lv' := [(6, .int (nI j)), (5, .int 0), (0, .ref (g 0)), (1, .int (nI j)), (2, .int v1), (3, .int v2), (4, .int v3)]) hx hb dX11_nights_66 hl (by decide) rfl (fun ls hl => ?_)
            have lp_68 : ∀ (n i : Nat), (nI j + v1).toInt.toNat + 1 ≤ i + n → i ≤ (nI j + v1).toInt.toNat → ∀ (H : Heap) (locs : List Loc), va_P D vwCl [((g 0), .inr (12, oX g)), ((g 10), .inr (0, [.int 0, .ref (g 50), .int 0])), ((g 9), .inr (11, oW g)), ((g 32), .inl (cI, 8, .inl (fun _ => 0))), ((g 33), .inl (cI, 8, .inl (fun _ => 0))), ((g 35), .inl (cI, 256, .inl (fun _ => 0)))] H → va_D A [((g 0), .inr (12, oX g)), ((g 10), .inr (0, [.int 0, .ref (g 50), .int 0])), ((g 9), .inr (11, oW g)), ((g 32), .inl (cI, 8, .inl (fun _ => 0))), ((g 33), .inl (cI, 8, .inl (fun _ => 0))), ((g 35), .inl (cI, 256, .inl (fun _ => 0)))] → va_S A s.heap H locs → ∀ ls : Array Slot, lv_has ls 8 [(6, .int (nI i)), (5, .int 0), (0, .ref (g 0)), (1, .int (nI j)), (2, .int v1), (3, .int v2), (4, .int v3)] → W p l e (RM 6 0 0) s m ([.ref (g 0), .int (nI j), .int v1, .int v2, .int v3]).toArray below meth c H locs 0 0 (MQ below (va_Qi (fun (r : Int32) (_ : Unit) => r = (if (0 ≤ (nI j).toInt ∧ (nI j).toInt ≤ 399) ∧ (1 ≤ v1.toInt ∧ v1.toInt ≤ 7) ∧ (nI j).toInt + v1.toInt - 1 ≤ 399 ∧ (1 ≤ v2.toInt ∧ v2.toInt ≤ 400) ∧ 0 ≤ v3.toInt ∧ v3.toInt ≤ 2 then (0 : Int32) else -1)) (fun (_ : Unit) (_ : State) => True) A) ([.ref (g 0), .int (nI j), .int v1, .int v2, .int v3]).toArray s 0 0 A) (F0 m 68 ls []) := by
              intro n
              induction n with
              | zero => intro i h1 h2; exact absurd h1 (by omega)
              | succ n ih =>
                intro i hn1 hi H locs hP hD hS ls hl
                have ti : (nI i).toInt = (i : Int) := nI_toInt (by omega)
                refine lv_iload hx hb dX11_nights_68 (lv_at hl 0 rfl) ?_
                refine lv_iload_n hx hb dX11_nights_70 rfl (lv_at hl 3 rfl) ?_
                refine lv_iload_n hx hb dX11_nights_71 rfl (lv_at hl 4 rfl) ?_
                refine lv_iadd hx hb dX11_nights_72 ?_
                refine lv_icmp_ge (tgt := 143) hx hb dX11_nights_73 (by decide) (fun c_13 => ?_) (fun c_13 => ?_)
                ·
                  have tc_13 : (((nI j) + v1).toInt : Int) ≤ (nI i).toInt := Int32.le_iff_toInt_le.mp c_13
                  refine lv_iload hx hb dX11_nights_143 (lv_at hl 1 rfl) ?_
                  exact W.iret (v := 0) hx hb hr (fun t ht hW => ⟨⟨0, (), rfl, (if_pos (by omega)).symm, trivial⟩, hS.F ht⟩) hS.2.2 dX11_nights_145
                ·
                  have tc_13 : ((nI i).toInt : Int) < ((nI j) + v1).toInt := Int32.lt_iff_toInt_lt.mp (Int32.not_le.mp c_13)
                  refine lv_aload_n hx hb dX11_nights_76 rfl (lv_at hl 2 rfl) ?_
                  refine lv_iload hx hb dX11_nights_77 (lv_at hl 0 rfl) ?_
                  refine lv_iload_n hx hb dX11_nights_79 rfl (lv_at hl 5 rfl) ?_
                  refine lv_bipush (v := 8) hx hb dX11_nights_80 (by decide) ?_
                  have hFc := va_free (wc := [((g 0), .inr (12, oX g)), ((g 10), .inr (0, [.int 0, .ref (g 50), .int 0])), ((g 9), .inr (11, oW g)), ((g 32), .inl (cI, 8, .inl (fun _ => 0))), ((g 33), .inl (cI, 8, .inl (fun _ => 0))), ((g 35), .inl (cI, 256, .inl (fun _ => 0)))]) hD hS hA [0, 1, 2, 3, 4, 5] rfl
                  refine va_calli (runV_w (As := [.int (nI i), .int v2, .int 8]) (rest := []) S (q_gatherStops l D cI cB cZ g (nI i) v2 8 H.size) kV_RX11_279 hK hP hD [0, 1, 2, 3, 4, 5] rfl rfl (by decide) 0 rfl rfl rfl ⟨Nat.le_of_ble_eq_true rfl, Nat.le_of_ble_eq_true rfl⟩ ⟨Nat.le_of_ble_eq_true rfl, Nat.le_of_ble_eq_true rfl⟩ rfl hl.1 rfl (Nat.le_of_ble_eq_true rfl) dX11_nights_82) hS (fun q _ h => hFc q h) hFc (fun r_14 u_15 t H1 locs ht hvm h_16 hB hz1 hk1 hS => ?_)
                  obtain ⟨hP1, hD1⟩ := hB
                  rw [ht] at hP1
                  obtain ⟨hP, hD⟩ := va_join (wr := []) (w1 := [((g 0), .inr (12, oX g)), ((g 10), .inr (0, [.int 0, .ref (g 50), .int 0])), ((g 9), .inr (11, oW g)), ((g 32), .inl (cI, 8, .inl (fun _ => 0))), ((g 33), .inl (cI, 8, .inl (fun _ => 0))), ((g 35), .inl (cI, 256, .inl (fun _ => 0)))]) hP hD [0, 1, 2, 3, 4, 5] [] rfl rfl (by decide) (by decide) hk1 hFc hP1 hD1
                  generalize H1 = H at hP hS ⊢
                  have hP : va_P D vwCl [((g 0), .inr (12, oX g)), ((g 10), .inr (0, [.int 0, .ref (g 50), .int 0])), ((g 9), .inr (11, oW g)), ((g 32), .inl (cI, 8, .inl (fun _ => 0))), ((g 33), .inl (cI, 8, .inl (fun _ => 0))), ((g 35), .inl (cI, 256, .inl (fun _ => 0)))] H := hP
                  have hD : va_D A [((g 0), .inr (12, oX g)), ((g 10), .inr (0, [.int 0, .ref (g 50), .int 0])), ((g 9), .inr (11, oW g)), ((g 32), .inl (cI, 8, .inl (fun _ => 0))), ((g 33), .inl (cI, 8, .inl (fun _ => 0))), ((g 35), .inl (cI, 256, .inl (fun _ => 0)))] := hD
                  subst h_16
                  refine lv_if_ne (tgt := 91) hx hb dX11_nights_85 (by decide) (fun _ => ?_) (fun h => absurd h (by decide))
                  refine lv_aload_n hx hb dX11_nights_91 rfl (lv_at hl 2 rfl) ?_
                  refine lv_iload hx hb dX11_nights_92 (lv_at hl 0 rfl) ?_
                  refine vp_callSi (runV_r (As := [.int (nI i)]) (rest := []) S (q_emptyStops l D cI cB cZ g (nI i)) kV_RX11_303 hK hP [0, 2] rfl 0 rfl rfl rfl ⟨Nat.le_of_ble_eq_true rfl, Nat.le_of_ble_eq_true rfl⟩ ⟨Nat.le_of_ble_eq_true rfl, Nat.le_of_ble_eq_true rfl⟩ rfl hl.1 rfl (Nat.le_of_ble_eq_true rfl) dX11_nights_94) (fun r_17 h_18 => ?_)
                  subst h_18
                  refine lv_istore (lv' := [(7, .int 0), (6, .int (nI i)), (5, .int 0), (0, .ref (g 0)), (1, .int (nI j)), (2, .int v1), (3, .int v2), (4, .int v3)]) hx hb dX11_nights_97 hl (by decide) rfl (fun ls hl => ?_)
                  refine lv_iload hx hb dX11_nights_99 (lv_at hl 2 rfl) ?_
                  refine lv_iload hx hb dX11_nights_101 (lv_at hl 7 rfl) ?_
                  refine lv_if_ne (tgt := 116) hx hb dX11_nights_103 (by decide) (fun c_19 => ?_) (fun c_19 => ?_)
                  ·
                    have tc_19 : (v3.toInt : Int) ≠ 0 := fun q => c_19 (Int32.toInt_inj.mp q)
                    refine lv_iload hx hb dX11_nights_116 (lv_at hl 7 rfl) ?_
                    refine lv_iconst (v := 1) hx hb dX11_nights_118 (by decide) ?_
                    refine lv_icmp_ne (tgt := 127) hx hb dX11_nights_119 (by decide) (fun c_20 => ?_) (fun c_20 => ?_)
                    ·
                      have tc_20 : (v3.toInt : Int) ≠ 1 := fun q => c_20 (Int32.toInt_inj.mp q)
                      refine lv_aload_n hx hb dX11_nights_127 rfl (lv_at hl 3 rfl) ?_
                      refine gf_RX11_54 S hK hP 0 rfl (v := .ref (g 9)) rfl dX11_nights_128 ?_
                      refine gf_RX11_267 S hK hP 2 rfl (v := .int 0) rfl dX11_nights_131 ?_
                      refine lv_iadd hx hb dX11_nights_134 ?_
                      refine lv_topi (fun y_21 ey_21 => ?_)
                      obtain rfl : y_21 = 0 := ey_21.trans (by decide)
                      refine lv_istore (lv' := [(5, .int 0), (7, .int 0), (6, .int (nI i)), (0, .ref (g 0)), (1, .int (nI j)), (2, .int v1), (3, .int v2), (4, .int v3)]) hx hb dX11_nights_135 hl (by decide) rfl (fun ls hl => ?_)
                      refine lv_iinc (v := (nI (i + 1))) (lv' := [(6, .int (nI (i + 1))), (5, .int 0), (7, .int 0), (0, .ref (g 0)), (1, .int (nI j)), (2, .int v1), (3, .int v2), (4, .int v3)]) hx hb dX11_nights_137 hl (k := 2) rfl (nI_1 _) (by decide) rfl (fun ls hl => ?_)
                      refine lv_goto (tgt := 68) hx hb dX11_nights_140 (by decide) ?_
                      exact ih (i + 1) (by omega) (by omega) _ _ hP hD hS ls (lv_sub hl [0, 1, 3, 4, 5, 6, 7] rfl)
                    ·
                      have tc_20 : (v3.toInt : Int) = 1 := congrArg Int32.toInt c_20
                      refine lv_iload hx hb dX11_nights_122 (lv_at hl 0 rfl) ?_
                      refine lv_goto (tgt := 134) hx hb dX11_nights_124 (by decide) ?_
                      refine lv_iadd hx hb dX11_nights_134 ?_
                      refine lv_topi (fun y_22 ey_22 => ?_)
                      obtain rfl : y_22 = 0 := ey_22.trans (by decide)
                      refine lv_istore (lv' := [(5, .int 0), (7, .int 0), (6, .int (nI i)), (0, .ref (g 0)), (1, .int (nI j)), (2, .int v1), (3, .int v2), (4, .int v3)]) hx hb dX11_nights_135 hl (by decide) rfl (fun ls hl => ?_)
                      refine lv_iinc (v := (nI (i + 1))) (lv' := [(6, .int (nI (i + 1))), (5, .int 0), (7, .int 0), (0, .ref (g 0)), (1, .int (nI j)), (2, .int v1), (3, .int v2), (4, .int v3)]) hx hb dX11_nights_137 hl (k := 2) rfl (nI_1 _) (by decide) rfl (fun ls hl => ?_)
                      refine lv_goto (tgt := 68) hx hb dX11_nights_140 (by decide) ?_
                      exact ih (i + 1) (by omega) (by omega) _ _ hP hD hS ls (lv_sub hl [0, 1, 3, 4, 5, 6, 7] rfl)
                  ·
                    have tc_19 : (v3.toInt : Int) = 0 := congrArg Int32.toInt c_19
                    refine lv_aload_n hx hb dX11_nights_106 rfl (lv_at hl 3 rfl) ?_
                    refine gf_RX11_54 S hK hP 0 rfl (v := .ref (g 9)) rfl dX11_nights_107 ?_
                    refine vp_callSi (runV_r (As := []) (rest := [.int 0]) S (q_wholeLength l D cI cB cZ g) kV_RX11_282 hK hP [2, 5] rfl 2 rfl rfl rfl ⟨Nat.le_of_ble_eq_true rfl, Nat.le_of_ble_eq_true rfl⟩ ⟨Nat.le_of_ble_eq_true rfl, Nat.le_of_ble_eq_true rfl⟩ rfl hl.1 rfl (Nat.le_of_ble_eq_true rfl) dX11_nights_110) (fun r_23 h_24 => ?_)
                    subst h_24
                    refine lv_goto (tgt := 134) hx hb dX11_nights_113 (by decide) ?_
                    refine lv_iadd hx hb dX11_nights_134 ?_
                    refine lv_topi (fun y_25 ey_25 => ?_)
                    obtain rfl : y_25 = 0 := ey_25.trans (by decide)
                    refine lv_istore (lv' := [(5, .int 0), (7, .int 0), (6, .int (nI i)), (0, .ref (g 0)), (1, .int (nI j)), (2, .int v1), (3, .int v2), (4, .int v3)]) hx hb dX11_nights_135 hl (by decide) rfl (fun ls hl => ?_)
                    refine lv_iinc (v := (nI (i + 1))) (lv' := [(6, .int (nI (i + 1))), (5, .int 0), (7, .int 0), (0, .ref (g 0)), (1, .int (nI j)), (2, .int v1), (3, .int v2), (4, .int v3)]) hx hb dX11_nights_137 hl (k := 2) rfl (nI_1 _) (by decide) rfl (fun ls hl => ?_)
                    refine lv_goto (tgt := 68) hx hb dX11_nights_140 (by decide) ?_
                    exact ih (i + 1) (by omega) (by omega) _ _ hP hD hS ls (lv_sub hl [0, 1, 3, 4, 5, 6, 7] rfl)
            exact lp_68 ((nI j + v1).toInt.toNat + 1) j (by omega) (by omega) _ _ hP hD hS ls (lv_sub hl [0, 1, 2, 3, 4, 5, 6] rfl)
          ·
            have h_10 : ¬ (0 ≤ v3.toInt ∧ v3.toInt ≤ 2) := h_10
            refine lv_if_ne (tgt := 51) hx hb dX11_nights_46 (by decide) (fun h => absurd h (by decide)) (fun _ => ?_)
            refine lv_iconst (v := (-1)) hx hb dX11_nights_49 (by decide) ?_
            exact W.iret (v := (-1)) hx hb hr (fun t ht hW => ⟨⟨(-1), (), rfl, (if_neg (by omega)).symm, trivial⟩, hS.F ht⟩) hS.2.2 dX11_nights_50
        ·
          have h_8 : ¬ (1 ≤ v2.toInt ∧ v2.toInt ≤ 400) := h_8
          refine lv_if_eq (tgt := 49) hx hb dX11_nights_36 (by decide) (fun _ => ?_) (fun h => absurd h (by decide))
          refine lv_iconst (v := (-1)) hx hb dX11_nights_49 (by decide) ?_
          exact W.iret (v := (-1)) hx hb hr (fun t ht hW => ⟨⟨(-1), (), rfl, (if_neg (by omega)).symm, trivial⟩, hS.F ht⟩) hS.2.2 dX11_nights_50
      ·
        have h_6 : ¬ (0 ≤ ((v0 + v1) - 1).toInt ∧ ((v0 + v1) - 1).toInt ≤ 399) := h_6
        refine lv_if_eq (tgt := 49) hx hb dX11_nights_25 (by decide) (fun _ => ?_) (fun h => absurd h (by decide))
        refine lv_iconst (v := (-1)) hx hb dX11_nights_49 (by decide) ?_
        exact W.iret (v := (-1)) hx hb hr (fun t ht hW => ⟨⟨(-1), (), rfl, (if_neg (by omega)).symm, trivial⟩, hS.F ht⟩) hS.2.2 dX11_nights_50
    ·
      have h_4 : ¬ (1 ≤ v1.toInt ∧ v1.toInt ≤ 7) := h_4
      refine lv_if_eq (tgt := 49) hx hb dX11_nights_14 (by decide) (fun _ => ?_) (fun h => absurd h (by decide))
      refine lv_iconst (v := (-1)) hx hb dX11_nights_49 (by decide) ?_
      exact W.iret (v := (-1)) hx hb hr (fun t ht hW => ⟨⟨(-1), (), rfl, (if_neg (by omega)).symm, trivial⟩, hS.F ht⟩) hS.2.2 dX11_nights_50
  ·
    have h_2 : ¬ (0 ≤ v0.toInt ∧ v0.toInt ≤ 399) := h_2
    refine lv_if_eq (tgt := 49) hx hb dX11_nights_4 (by decide) (fun _ => ?_) (fun h => absurd h (by decide))
    refine lv_iconst (v := (-1)) hx hb dX11_nights_49 (by decide) ?_
    exact W.iret (v := (-1)) hx hb hr (fun t ht hW => ⟨⟨(-1), (), rfl, (if_neg (by omega)).symm, trivial⟩, hS.F ht⟩) hS.2.2 dX11_nights_50
set_option maxRecDepth 100000 in
set_option maxHeartbeats 4000000 in
theorem q_X_lorry (l : Launch) (D : va_G) (cI cB cZ : ClassId) (g : Nat → Nat) (v0 : Int32) (sz : Nat) : Met l yX11_lorry (CWS yX11_lorry cX11_lorry 2 (some .int)) (RM 3 0 0) (PBw [.ref (g 0), .int v0] D cI cB cZ [((g 0), .inr (12, oX g)), ((g 8), .inr (8, oT g)), ((g 27), .inl (cI, 3, .inl (fun _ => 0)))] sz) (va_Qi (fun (r : Int32) (_ : Unit) => r = (if 20 ≤ v0.toInt ∧ v0.toInt ≤ 2000 then (0 : Int32) else -1)) (fun (_ : Unit) (_ : State) => True) (va_A [((g 0), .inr (12, oX g)), ((g 8), .inr (8, oT g)), ((g 27), .inl (cI, 3, .inl (fun _ => 0)))] sz)) 0 0 (va_A [((g 0), .inr (12, oX g)), ((g 8), .inr (8, oT g)), ((g 27), .inl (cI, 3, .inl (fun _ => 0)))] sz) := by
  refine Met.ofW (cc := cX11_lorry) (maxL := 2) (ret := (some .int)) (by decide) rfl ?_
  intro p e s m args below meth c s₁ B hml hv
  obtain ⟨rfl, hsz, hP, hK, hD0⟩ := hv
  have hx := B.exec
  have hb := B.bytes
  have hr := B.returns
  have hts := atoms_spec (ws := (CWS yX11_lorry cX11_lorry 2 (some .int))) B.pre
  have hown : s.vm.findClass RX11 = some m.cls := findClass_of_methodNamed B.named
  have hlocks := B.notSynchronized
  have S : SF p m c cX11_lorry 2 s ([.ref (g 0), .int v0]).toArray RX11 := ⟨hx, hb, hml, hown, fun w h => hts w (List.mem_cons_of_mem _ h)⟩
  subst hsz
  have hD := hD0.self (sz := s.heap.size)
  generalize hAe : va_A [((g 0), .inr (12, oX g)), ((g 8), .inr (8, oT g)), ((g 27), .inl (cI, 3, .inl (fun _ => 0)))] s.heap.size = A at hD ⊢
  have hA : ∀ q : Nat, s.heap.size ≤ q → A q := fun q h => by rw [← hAe]; exact Or.inr h
  have hS : va_S A s.heap s.heap [] := va_S.rf
  have hP : va_P D vwCl [((g 0), .inr (12, oX g)), ((g 8), .inr (8, oT g)), ((g 27), .inl (cI, 3, .inl (fun _ => 0)))] s.heap := hP
  have hD : va_D A [((g 0), .inr (12, oX g)), ((g 8), .inr (8, oT g)), ((g 27), .inl (cI, 3, .inl (fun _ => 0)))] := hD
  have hl := lv_entry ([.ref (g 0), .int v0]) (n := 2) (Nat.le_of_ble_eq_true rfl)
  rw [lg_entry_eq]
  generalize (lg_sl ([.ref (g 0), .int v0]) ++ List.replicate (2 - (lg_sl ([.ref (g 0), .int v0])).length) Slot.unset).toArray = ls at hl ⊢
  have hl : lv_has ls 2 [(0, .ref (g 0)), (1, .int v0)] := hl
  refine lv_iload_n hx hb dX11_lorry_0 rfl (lv_at hl 1 rfl) ?_
  refine lv_bipush (v := 20) hx hb dX11_lorry_1 (by decide) ?_
  refine lv_sipush (v := 2000) hx hb dX11_lorry_3 (by decide) ?_
  refine vp_callSi (runS_r (As := [.int v0, .int 20, .int 2000]) (rest := []) S (q_within l D cI cB cZ v0 20 2000) kS_RX11_80 hK hP [] rfl ⟨Nat.le_of_ble_eq_true rfl, Nat.le_of_ble_eq_true rfl⟩ ⟨Nat.le_of_ble_eq_true rfl, Nat.le_of_ble_eq_true rfl⟩ rfl hl.1 rfl (Nat.le_of_ble_eq_true rfl) dX11_lorry_6) (fun r_1 h_2 => ?_)
  rcases h_2 with ⟨rfl, h_2⟩ | ⟨rfl, h_2⟩
  ·
    have h_2 : 20 ≤ v0.toInt ∧ v0.toInt ≤ 2000 := h_2
    refine lv_if_eq (tgt := 20) hx hb dX11_lorry_9 (by decide) (fun h => absurd h (by decide)) (fun _ => ?_)
    refine lv_aload_n hx hb dX11_lorry_12 rfl (lv_at hl 0 rfl) ?_
    refine gf_RX11_311 S hK hP 0 rfl (v := .int 0) rfl dX11_lorry_13 ?_
    refine lv_iconst (v := 3) hx hb dX11_lorry_16 (by decide) ?_
    refine lv_icmp_lt (tgt := 22) hx hb dX11_lorry_17 (by decide) (fun _ => ?_) (fun h => absurd h (by decide))
    refine lv_aload_n hx hb dX11_lorry_22 rfl (lv_at hl 0 rfl) ?_
    refine gf_RX11_47 S hK hP 0 rfl (v := .ref (g 8)) rfl dX11_lorry_23 ?_
    refine gf_RX11_314 S hK hP 1 rfl (v := .ref (g 27)) rfl dX11_lorry_26 ?_
    refine lv_aload_n hx hb dX11_lorry_29 rfl (lv_at hl 0 rfl) ?_
    refine gf_RX11_311 S hK hP 0 rfl (v := .int 0) rfl dX11_lorry_30 ?_
    refine lv_iload_n hx hb dX11_lorry_33 rfl (lv_at hl 1 rfl) ?_
    have hFc := va_free (wc := [((g 27), .inl (cI, 3, .inl (fun _ => 0)))]) hD hS hA [2] rfl
    refine va_callv (runS_w (As := [.ref (g 27), .int 0, .int v0]) (rest := []) S (q_putU l D cI cB cZ (g 27) 3 (fun _ => 0) 0 v0 s.heap.size (by omega)) kS_RX11_184 hK hP hD [2] rfl rfl (by decide) ⟨Nat.le_of_ble_eq_true rfl, Nat.le_of_ble_eq_true rfl⟩ ⟨Nat.le_of_ble_eq_true rfl, Nat.le_of_ble_eq_true rfl⟩ rfl hl.1 rfl (Nat.le_of_ble_eq_true rfl) dX11_lorry_34) hS (fun q _ h => hFc q h) hFc (fun u_4 t H1 locs ht hvm h_5 hB hz1 hk1 hS => ?_)
    obtain ⟨hP1, hD1⟩ := hB
    rw [ht] at hP1
    obtain ⟨hP, hD⟩ := va_join (wr := [((g 0), .inr (12, oX g)), ((g 8), .inr (8, oT g))]) (w1 := [((g 27), .inl (cI, 3, .inl u_4))]) hP hD [2] [0, 1] rfl rfl (by decide) (by decide) hk1 hFc hP1 hD1
    generalize H1 = H at hP hS ⊢
    have hP : va_P D vwCl [((g 0), .inr (12, oX g)), ((g 8), .inr (8, oT g)), ((g 27), .inl (cI, 3, .inl u_4))] H := hP
    have hD : va_D A [((g 0), .inr (12, oX g)), ((g 8), .inr (8, oT g)), ((g 27), .inl (cI, 3, .inl u_4))] := hD
    refine lv_aload_n hx hb dX11_lorry_37 rfl (lv_at hl 0 rfl) ?_
    refine lv_dup hx hb dX11_lorry_38 rfl ?_
    refine gf_RX11_311 S hK hP 0 rfl (v := .int 0) rfl dX11_lorry_39 ?_
    refine lv_iconst (v := 1) hx hb dX11_lorry_42 (by decide) ?_
    refine lv_iadd hx hb dX11_lorry_43 ?_
    refine lv_topi (fun y_6 ey_6 => ?_)
    obtain rfl : y_6 = 1 := ey_6.trans (by decide)
    refine pf_RX11_311 S hK hP hD hS 0 rfl (v := .int 1) (Nat.le_of_ble_eq_true rfl) rfl rfl dX11_lorry_44 (fun H locs hP hD hS => ?_)
    have hP : va_P D vwCl [((g 0), .inr (12, [.int 0, .int 1, .int 0, .int 0, .ref (g 4), .ref (g 5), .ref (g 6), .ref (g 7), .ref (g 8), .ref (g 9), .ref (g 10), .ref (g 11), .ref (g 12), .ref (g 13), .ref (g 14), .ref (g 15)])), ((g 8), .inr (8, oT g)), ((g 27), .inl (cI, 3, .inl u_4))] H := hP
    have hD : va_D A [((g 0), .inr (12, [.int 0, .int 1, .int 0, .int 0, .ref (g 4), .ref (g 5), .ref (g 6), .ref (g 7), .ref (g 8), .ref (g 9), .ref (g 10), .ref (g 11), .ref (g 12), .ref (g 13), .ref (g 14), .ref (g 15)])), ((g 8), .inr (8, oT g)), ((g 27), .inl (cI, 3, .inl u_4))] := hD
    refine lv_aload_n hx hb dX11_lorry_47 rfl (lv_at hl 0 rfl) ?_
    refine gf_RX11_311 S hK hP 0 rfl (v := .int 1) rfl dX11_lorry_48 ?_
    refine lv_iconst (v := 1) hx hb dX11_lorry_51 (by decide) ?_
    refine lv_isub hx hb dX11_lorry_52 ?_
    refine lv_topi (fun y_7 ey_7 => ?_)
    obtain rfl : y_7 = 0 := ey_7.trans (by decide)
    exact W.iret (v := 0) hx hb hr (fun t ht hW => ⟨⟨0, (), rfl, (if_pos (by omega)).symm, trivial⟩, hS.F ht⟩) hS.2.2 dX11_lorry_53
  ·
    have h_2 : ¬ (20 ≤ v0.toInt ∧ v0.toInt ≤ 2000) := h_2
    refine lv_if_eq (tgt := 20) hx hb dX11_lorry_9 (by decide) (fun _ => ?_) (fun h => absurd h (by decide))
    refine lv_iconst (v := (-1)) hx hb dX11_lorry_20 (by decide) ?_
    exact W.iret (v := (-1)) hx hb hr (fun t ht hW => ⟨⟨(-1), (), rfl, (if_neg (by omega)).symm, trivial⟩, hS.F ht⟩) hS.2.2 dX11_lorry_21
set_option maxRecDepth 100000 in
set_option maxHeartbeats 4000000 in
theorem q_X_off (l : Launch) (D : va_G) (cI cB cZ : ClassId) (g : Nat → Nat) (v0 v1 v2 : Int32) : Met l yX11_off (CWS yX11_off cX11_off 4 (some .boolean)) (RM 3 0 0) (PBr [.ref (g 0), .int v0, .int v1, .int v2] D cI cB cZ [((g 0), .inr (12, oX g))]) (vp_Si (fun r => r = 0)) 0 0 (fun _ => False) := by
  refine Met.ofW (cc := cX11_off) (maxL := 4) (ret := (some .boolean)) (by decide) rfl ?_
  intro p e s m args below meth c s₁ B hml hv
  obtain ⟨rfl, hP, hK⟩ := hv
  have hx := B.exec
  have hb := B.bytes
  have hr := B.returns
  have hts := atoms_spec (ws := (CWS yX11_off cX11_off 4 (some .boolean))) B.pre
  have hown : s.vm.findClass RX11 = some m.cls := findClass_of_methodNamed B.named
  have hlocks := B.notSynchronized
  have S : SF p m c cX11_off 4 s ([.ref (g 0), .int v0, .int v1, .int v2]).toArray RX11 := ⟨hx, hb, hml, hown, fun w h => hts w (List.mem_cons_of_mem _ h)⟩
  have hP : va_P D vwCl [((g 0), .inr (12, oX g))] s.heap := hP
  have hl := lv_entry ([.ref (g 0), .int v0, .int v1, .int v2]) (n := 4) (Nat.le_of_ble_eq_true rfl)
  rw [lg_entry_eq]
  generalize (lg_sl ([.ref (g 0), .int v0, .int v1, .int v2]) ++ List.replicate (4 - (lg_sl ([.ref (g 0), .int v0, .int v1, .int v2])).length) Slot.unset).toArray = ls at hl ⊢
  have hl : lv_has ls 4 [(0, .ref (g 0)), (1, .int v0), (2, .int v1), (3, .int v2)] := hl
  refine lv_iload_n hx hb dX11_off_0 rfl (lv_at hl 1 rfl) ?_
  refine lv_iconst (v := 0) hx hb dX11_off_1 (by decide) ?_
  refine lv_aload_n hx hb dX11_off_2 rfl (lv_at hl 0 rfl) ?_
  refine gf_RX11_311 S hK hP 0 rfl (v := .int 0) rfl dX11_off_3 ?_
  refine lv_iconst (v := 1) hx hb dX11_off_6 (by decide) ?_
  refine lv_isub hx hb dX11_off_7 ?_
  refine lv_topi (fun y_1 ey_1 => ?_)
  obtain rfl : y_1 = (-1) := ey_1.trans (by decide)
  refine vp_callSi (runS_r (As := [.int v0, .int 0, .int (-1)]) (rest := []) S (q_within l D cI cB cZ v0 0 (-1)) kS_RX11_80 hK hP [] rfl ⟨Nat.le_of_ble_eq_true rfl, Nat.le_of_ble_eq_true rfl⟩ ⟨Nat.le_of_ble_eq_true rfl, Nat.le_of_ble_eq_true rfl⟩ rfl hl.1 rfl (Nat.le_of_ble_eq_true rfl) dX11_off_8) (fun r_2 h_3 => ?_)
  rcases h_3 with ⟨rfl, h_3⟩ | ⟨rfl, h_3⟩
  ·
    have h_3 : 0 ≤ v0.toInt ∧ v0.toInt ≤ (-1) := h_3
    exfalso; omega
  ·
    have h_3 : ¬ (0 ≤ v0.toInt ∧ v0.toInt ≤ (-1)) := h_3
    refine lv_if_eq (tgt := 31) hx hb dX11_off_11 (by decide) (fun _ => ?_) (fun h => absurd h (by decide))
    refine lv_iconst (v := 0) hx hb dX11_off_31 (by decide) ?_
    exact W.zret (v := 0) hx hb hr rfl (fun t ht hW => ⟨0, rfl, rfl, ht⟩) (fun _ h => absurd h List.not_mem_nil) dX11_off_32
set_option maxRecDepth 100000 in
set_option maxHeartbeats 4000000 in
theorem q_sharedLength (l : Launch) (D : va_G) (cI cB cZ : ClassId) (g : Nat → Nat) (v0 : Int32) : Met l yX11_sharedLength (CWS yX11_sharedLength cX11_sharedLength 6 (some .int)) (RM 1 0 0) (PBr [.ref (g 0), .int 0, .int v0] D cI cB cZ [((g 0), .inr (12, oX g))]) (vp_Si (fun r => r = 0)) 0 0 (fun _ => False) := by
  refine Met.ofW (cc := cX11_sharedLength) (maxL := 6) (ret := (some .int)) (by decide) rfl ?_
  intro p e s m args below meth c s₁ B hml hv
  obtain ⟨rfl, hP, hK⟩ := hv
  have hx := B.exec
  have hb := B.bytes
  have hr := B.returns
  have hts := atoms_spec (ws := (CWS yX11_sharedLength cX11_sharedLength 6 (some .int))) B.pre
  have hown : s.vm.findClass RX11 = some m.cls := findClass_of_methodNamed B.named
  have hlocks := B.notSynchronized
  have S : SF p m c cX11_sharedLength 6 s ([.ref (g 0), .int 0, .int v0]).toArray RX11 := ⟨hx, hb, hml, hown, fun w h => hts w (List.mem_cons_of_mem _ h)⟩
  have hP : va_P D vwCl [((g 0), .inr (12, oX g))] s.heap := hP
  have hl := lv_entry ([.ref (g 0), .int 0, .int v0]) (n := 6) (Nat.le_of_ble_eq_true rfl)
  rw [lg_entry_eq]
  generalize (lg_sl ([.ref (g 0), .int 0, .int v0]) ++ List.replicate (6 - (lg_sl ([.ref (g 0), .int 0, .int v0])).length) Slot.unset).toArray = ls at hl ⊢
  have hl : lv_has ls 6 [(0, .ref (g 0)), (1, .int 0), (2, .int v0)] := hl
  refine lv_iconst (v := 0) hx hb dX11_sharedLength_0 (by decide) ?_
  refine lv_istore_n (lv' := [(3, .int 0), (0, .ref (g 0)), (1, .int 0), (2, .int v0)]) hx hb dX11_sharedLength_1 rfl hl (by decide) rfl (fun ls hl => ?_)
  refine lv_iconst (v := 0) hx hb dX11_sharedLength_2 (by decide) ?_
  refine lv_istore (lv' := [(4, .int 0), (3, .int 0), (0, .ref (g 0)), (1, .int 0), (2, .int v0)]) hx hb dX11_sharedLength_3 hl (by decide) rfl (fun ls hl => ?_)
  refine lv_iload hx hb dX11_sharedLength_5 (lv_at hl 0 rfl) ?_
  refine lv_aload_n hx hb dX11_sharedLength_7 rfl (lv_at hl 2 rfl) ?_
  refine gf_RX11_311 S hK hP 0 rfl (v := .int 0) rfl dX11_sharedLength_8 ?_
  refine lv_icmp_ge (tgt := 82) hx hb dX11_sharedLength_11 (by decide) (fun _ => ?_) (fun h => absurd h (by decide))
  refine lv_iload_n hx hb dX11_sharedLength_82 rfl (lv_at hl 1 rfl) ?_
  exact W.iret (v := 0) hx hb hr (fun t ht hW => ⟨0, rfl, rfl, ht⟩) (fun _ h => absurd h List.not_mem_nil) dX11_sharedLength_83
set_option maxRecDepth 100000 in
set_option maxHeartbeats 4000000 in
theorem q_bestShares (l : Launch) (D : va_G) (cI cB cZ : ClassId) (g : Nat → Nat) (v0 : Int32) : Met l yX11_bestShares (CWS yX11_bestShares cX11_bestShares 7 (some .int)) (RM 2 0 0) (PBr [.ref (g 0), .int v0] D cI cB cZ [((g 0), .inr (12, oX g)), ((g 9), .inr (11, oW g))]) (vp_Si (fun r => r = 0)) 0 0 (fun _ => False) := by
  refine Met.ofW (cc := cX11_bestShares) (maxL := 7) (ret := (some .int)) (by decide) rfl ?_
  intro p e s m args below meth c s₁ B hml hv
  obtain ⟨rfl, hP, hK⟩ := hv
  have hx := B.exec
  have hb := B.bytes
  have hr := B.returns
  have hts := atoms_spec (ws := (CWS yX11_bestShares cX11_bestShares 7 (some .int))) B.pre
  have hown : s.vm.findClass RX11 = some m.cls := findClass_of_methodNamed B.named
  have hlocks := B.notSynchronized
  have S : SF p m c cX11_bestShares 7 s ([.ref (g 0), .int v0]).toArray RX11 := ⟨hx, hb, hml, hown, fun w h => hts w (List.mem_cons_of_mem _ h)⟩
  have hP : va_P D vwCl [((g 0), .inr (12, oX g)), ((g 9), .inr (11, oW g))] s.heap := hP
  have hl := lv_entry ([.ref (g 0), .int v0]) (n := 7) (Nat.le_of_ble_eq_true rfl)
  rw [lg_entry_eq]
  generalize (lg_sl ([.ref (g 0), .int v0]) ++ List.replicate (7 - (lg_sl ([.ref (g 0), .int v0])).length) Slot.unset).toArray = ls at hl ⊢
  have hl : lv_has ls 7 [(0, .ref (g 0)), (1, .int v0)] := hl
  refine lv_iconst (v := 1) hx hb dX11_bestShares_0 (by decide) ?_
  refine lv_istore_n (lv' := [(2, .int 1), (0, .ref (g 0)), (1, .int v0)]) hx hb dX11_bestShares_1 rfl hl (by decide) rfl (fun ls hl => ?_)
  refine lv_iconst (v := 0) hx hb dX11_bestShares_2 (by decide) ?_
  refine lv_istore_n (lv' := [(3, .int 0), (2, .int 1), (0, .ref (g 0)), (1, .int v0)]) hx hb dX11_bestShares_3 rfl hl (by decide) rfl (fun ls hl => ?_)
  refine lv_iload_n hx hb dX11_bestShares_4 rfl (lv_at hl 0 rfl) ?_
  refine lv_aload_n hx hb dX11_bestShares_5 rfl (lv_at hl 2 rfl) ?_
  refine gf_RX11_54 S hK hP 0 rfl (v := .ref (g 9)) rfl dX11_bestShares_6 ?_
  refine gf_RX11_267 S hK hP 1 rfl (v := .int 0) rfl dX11_bestShares_9 ?_
  refine lv_icmp_ge (tgt := 28) hx hb dX11_bestShares_12 (by decide) (fun _ => ?_) (fun h => absurd h (by decide))
  refine lv_iconst (v := (-1)) hx hb dX11_bestShares_28 (by decide) ?_
  refine lv_istore_n (lv' := [(3, .int (-1)), (2, .int 1), (0, .ref (g 0)), (1, .int v0)]) hx hb dX11_bestShares_29 rfl hl (by decide) rfl (fun ls hl => ?_)
  refine lv_iconst (v := 0) hx hb dX11_bestShares_30 (by decide) ?_
  refine lv_istore (lv' := [(4, .int 0), (3, .int (-1)), (2, .int 1), (0, .ref (g 0)), (1, .int v0)]) hx hb dX11_bestShares_31 hl (by decide) rfl (fun ls hl => ?_)
  refine lv_iconst (v := 0) hx hb dX11_bestShares_33 (by decide) ?_
  refine lv_istore (lv' := [(5, .int 0), (4, .int 0), (3, .int (-1)), (2, .int 1), (0, .ref (g 0)), (1, .int v0)]) hx hb dX11_bestShares_34 hl (by decide) rfl (fun ls hl => ?_)
  refine lv_iload hx hb dX11_bestShares_36 (lv_at hl 0 rfl) ?_
  refine lv_iload_n hx hb dX11_bestShares_38 rfl (lv_at hl 3 rfl) ?_
  refine lv_icmp_ge (tgt := 82) hx hb dX11_bestShares_39 (by decide) (fun h => absurd h (by decide)) (fun _ => ?_)
  refine lv_aload_n hx hb dX11_bestShares_42 rfl (lv_at hl 4 rfl) ?_
  refine lv_iload hx hb dX11_bestShares_43 (lv_at hl 0 rfl) ?_
  refine lv_iload_n hx hb dX11_bestShares_45 rfl (lv_at hl 5 rfl) ?_
  refine vp_callSi (runV_r (As := [.int 0, .int v0]) (rest := []) S (q_sharedLength l D cI cB cZ g v0) kV_RX11_327 hK hP [0] rfl 0 rfl rfl rfl ⟨Nat.le_of_ble_eq_true rfl, Nat.le_of_ble_eq_true rfl⟩ ⟨Nat.le_of_ble_eq_true rfl, Nat.le_of_ble_eq_true rfl⟩ rfl hl.1 rfl (Nat.le_of_ble_eq_true rfl) dX11_bestShares_46) (fun r_1 h_2 => ?_)
  subst h_2
  refine lv_istore (lv' := [(6, .int 0), (5, .int 0), (4, .int 0), (3, .int (-1)), (2, .int 1), (0, .ref (g 0)), (1, .int v0)]) hx hb dX11_bestShares_49 hl (by decide) rfl (fun ls hl => ?_)
  refine lv_iload hx hb dX11_bestShares_51 (lv_at hl 0 rfl) ?_
  refine lv_iconst (v := (-1)) hx hb dX11_bestShares_53 (by decide) ?_
  refine lv_icmp_eq (tgt := 76) hx hb dX11_bestShares_54 (by decide) (fun h => absurd h (by decide)) (fun _ => ?_)
  refine lv_iload_n hx hb dX11_bestShares_57 rfl (lv_at hl 3 rfl) ?_
  refine lv_iconst (v := (-1)) hx hb dX11_bestShares_58 (by decide) ?_
  refine lv_icmp_eq (tgt := 69) hx hb dX11_bestShares_59 (by decide) (fun _ => ?_) (fun h => absurd h (by decide))
  refine lv_iload hx hb dX11_bestShares_69 (lv_at hl 1 rfl) ?_
  refine lv_istore_n (lv' := [(3, .int 0), (6, .int 0), (5, .int 0), (4, .int 0), (2, .int 1), (0, .ref (g 0)), (1, .int v0)]) hx hb dX11_bestShares_71 rfl hl (by decide) rfl (fun ls hl => ?_)
  refine lv_iload hx hb dX11_bestShares_72 (lv_at hl 1 rfl) ?_
  refine lv_istore (lv' := [(4, .int 0), (3, .int 0), (6, .int 0), (5, .int 0), (2, .int 1), (0, .ref (g 0)), (1, .int v0)]) hx hb dX11_bestShares_74 hl (by decide) rfl (fun ls hl => ?_)
  refine lv_iinc (v := 1) (lv' := [(5, .int 1), (4, .int 0), (3, .int 0), (6, .int 0), (2, .int 1), (0, .ref (g 0)), (1, .int v0)]) hx hb dX11_bestShares_76 hl (k := 3) rfl (by decide) (by decide) rfl (fun ls hl => ?_)
  refine lv_goto (tgt := 36) hx hb dX11_bestShares_79 (by decide) ?_
  refine lv_iload hx hb dX11_bestShares_36 (lv_at hl 0 rfl) ?_
  refine lv_iload_n hx hb dX11_bestShares_38 rfl (lv_at hl 4 rfl) ?_
  refine lv_icmp_ge (tgt := 82) hx hb dX11_bestShares_39 (by decide) (fun _ => ?_) (fun h => absurd h (by decide))
  refine lv_iload_n hx hb dX11_bestShares_82 rfl (lv_at hl 2 rfl) ?_
  exact W.iret (v := 0) hx hb hr (fun t ht hW => ⟨0, rfl, rfl, ht⟩) (fun _ h => absurd h List.not_mem_nil) dX11_bestShares_83
