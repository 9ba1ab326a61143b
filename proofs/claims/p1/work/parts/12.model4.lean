set_option maxRecDepth 100000 in
theorem kV_RX12_438 : CalV RX12 438 yX12_isFree cX12_isFree 2 (some .boolean) 1 := ⟨⟨wT_tab 1882 rfl rfl, wT_tab 1884 rfl rfl, wT_sel 105 _ rfl rfl rfl, wT_tab 13 rfl rfl, wT_tab 1885 rfl rfl⟩, ⟨by decide, by decide, by decide +kernel⟩⟩
set_option maxRecDepth 100000 in
theorem kV_RX12_469 : CalV RX12 469 yX12_comers cX12_comers 4 (some .int) 1 := ⟨⟨wT_tab 2002 rfl rfl, wT_tab 2004 rfl rfl, wT_sel 115 _ rfl rfl rfl, wT_tab 13 rfl rfl, wT_tab 2005 rfl rfl⟩, ⟨by decide, by decide, by decide +kernel⟩⟩
set_option maxRecDepth 100000 in
theorem kV_RX12_472 : CalV RX12 472 yX12_worthOf cX12_worthOf 6 (some .int) 2 := ⟨⟨wT_tab 1998 rfl rfl, wT_tab 2000 rfl rfl, wT_sel 114 _ rfl rfl rfl, wT_tab 13 rfl rfl, wT_tab 2001 rfl rfl⟩, ⟨by decide, by decide, by decide +kernel⟩⟩
set_option maxRecDepth 100000 in
theorem kV_RX12_475 : CalV RX12 475 yX12_saves cX12_saves 5 (some .int) 2 := ⟨⟨wT_tab 2018 rfl rfl, wT_tab 2020 rfl rfl, wT_sel 116 _ rfl rfl rfl, wT_tab 13 rfl rfl, wT_tab 2021 rfl rfl⟩, ⟨by decide, by decide, by decide +kernel⟩⟩
set_option maxRecDepth 100000 in
theorem gf_RX12_192 {p : Program} {l : Launch} {e : Env} {R : Room} {s : State} {m : MethodId} {args : Array Value} {below : List Frame} {meth : Method} {c : Code} {H : Heap} {locs : List Loc} {cells slots : Nat} {Q : State → Prop} {cc : ByteArray} {nL pc : Nat} {D : va_G} {cI cB cZ : ClassId} {ws : va_W} {rest : List Value} {ls : Array Slot} {a : Nat} {fs : List Value} {v : Value} (S : SF p m c cc nL s args RX12) (hK : KK D cI cB cZ s) (hP : va_P D vwCl ws H) (q0 : Nat) (he : ws[q0]? = some (a, .inr (13, fs))) (hv : fs[87]? = some v) (hdg : decode cc pc = .ok (.getfield 192, 3)) (kk : W p l e R s m args below meth c H locs cells slots Q (F0 m (pc + 3) ls (v :: rest))) : W p l e R s m args below meth c H locs cells slots Q (F0 m pc ls (.ref a :: rest)) :=
  va_get (C := RX12) (T := TX12) (N := 91) S.1 S.2.1 S.2.2.2.2 hin_RX12 S.2.2.2.1 hK.1 hP q0 he rfl 87 (by decide) (S.2.2.2.2 _ (wT_tab 1400 rfl rfl)) (fun _ h9 => h9) hv hdg kk
set_option maxRecDepth 100000 in
theorem gf_RX12_195 {p : Program} {l : Launch} {e : Env} {R : Room} {s : State} {m : MethodId} {args : Array Value} {below : List Frame} {meth : Method} {c : Code} {H : Heap} {locs : List Loc} {cells slots : Nat} {Q : State → Prop} {cc : ByteArray} {nL pc : Nat} {D : va_G} {cI cB cZ : ClassId} {ws : va_W} {rest : List Value} {ls : Array Slot} {a : Nat} {fs : List Value} {v : Value} (S : SF p m c cc nL s args RX12) (hK : KK D cI cB cZ s) (hP : va_P D vwCl ws H) (q0 : Nat) (he : ws[q0]? = some (a, .inr (13, fs))) (hv : fs[88]? = some v) (hdg : decode cc pc = .ok (.getfield 195, 3)) (kk : W p l e R s m args below meth c H locs cells slots Q (F0 m (pc + 3) ls (v :: rest))) : W p l e R s m args below meth c H locs cells slots Q (F0 m pc ls (.ref a :: rest)) :=
  va_get (C := RX12) (T := TX12) (N := 91) S.1 S.2.1 S.2.2.2.2 hin_RX12 S.2.2.2.1 hK.1 hP q0 he rfl 88 (by decide) (S.2.2.2.2 _ (wT_tab 1401 rfl rfl)) (fun _ h9 => h9) hv hdg kk
set_option maxRecDepth 100000 in
theorem pf_RX12_478 {p : Program} {l : Launch} {e : Env} {R : Room} {s : State} {m : MethodId} {args : Array Value} {below : List Frame} {meth : Method} {c : Code} {H : Heap} {locs : List Loc} {cells slots : Nat} {Q : State → Prop} {cc : ByteArray} {nL pc : Nat} {D : va_G} {cI cB cZ : ClassId} {ws : va_W} {rest : List Value} {ls : Array Slot} {a : Nat} {fs : List Value} {v : Value} {A : Nat → Prop} {H0 : Heap} (S : SF p m c cc nL s args RX12) (hK : KK D cI cB cZ s) (hP : va_P D vwCl ws H) (hD : va_D A ws) (hS : va_S A H0 H locs) (q0 : Nat) (he : ws[q0]? = some (a, .inr (13, fs))) (hl : 83 < fs.length) (hn : narrow (tyX12 83) v = v) (hfit : fits (tyX12 83) v = true) (hdg : decode cc pc = .ok (.putfield 478, 3)) (kk : ∀ (H1 : Heap) (locs1 : List Loc), va_P D vwCl (ws.set q0 (a, .inr (13, fs.set 83 v))) H1 → va_D A (ws.set q0 (a, .inr (13, fs.set 83 v))) → va_S A H0 H1 locs1 → W p l e R s m args below meth c H1 locs1 cells slots Q (F0 m (pc + 3) ls rest)) : W p l e R s m args below meth c H locs cells slots Q (F0 m pc ls (v :: .ref a :: rest)) :=
  va_put (C := RX12) (T := TX12) (N := 91) S.1 S.2.1 S.2.2.2.2 hin_RX12 tyX12 tyX12_ok nmX12 S.2.2.2.1 hK.1 hP hD hS q0 he rfl 83 (by decide) (S.2.2.2.2 _ (wT_tab 1396 rfl rfl)) (fun _ h9 => h9) rfl (tyX12_ok 83 (by decide)) hn hfit hl hdg kk
set_option maxRecDepth 100000 in
theorem pf_RX12_407 {p : Program} {l : Launch} {e : Env} {R : Room} {s : State} {m : MethodId} {args : Array Value} {below : List Frame} {meth : Method} {c : Code} {H : Heap} {locs : List Loc} {cells slots : Nat} {Q : State → Prop} {cc : ByteArray} {nL pc : Nat} {D : va_G} {cI cB cZ : ClassId} {ws : va_W} {rest : List Value} {ls : Array Slot} {a : Nat} {fs : List Value} {v : Value} {A : Nat → Prop} {H0 : Heap} (S : SF p m c cc nL s args RX12) (hK : KK D cI cB cZ s) (hP : va_P D vwCl ws H) (hD : va_D A ws) (hS : va_S A H0 H locs) (q0 : Nat) (he : ws[q0]? = some (a, .inr (13, fs))) (hl : 57 < fs.length) (hn : narrow (tyX12 57) v = v) (hfit : fits (tyX12 57) v = true) (hdg : decode cc pc = .ok (.putfield 407, 3)) (kk : ∀ (H1 : Heap) (locs1 : List Loc), va_P D vwCl (ws.set q0 (a, .inr (13, fs.set 57 v))) H1 → va_D A (ws.set q0 (a, .inr (13, fs.set 57 v))) → va_S A H0 H1 locs1 → W p l e R s m args below meth c H1 locs1 cells slots Q (F0 m (pc + 3) ls rest)) : W p l e R s m args below meth c H locs cells slots Q (F0 m pc ls (v :: .ref a :: rest)) :=
  va_put (C := RX12) (T := TX12) (N := 91) S.1 S.2.1 S.2.2.2.2 hin_RX12 tyX12 tyX12_ok nmX12 S.2.2.2.1 hK.1 hP hD hS q0 he rfl 57 (by decide) (S.2.2.2.2 _ (wT_tab 1370 rfl rfl)) (fun _ h9 => h9) rfl (tyX12_ok 57 (by decide)) hn hfit hl hdg kk
set_option maxRecDepth 100000 in
theorem gf_RX12_462 {p : Program} {l : Launch} {e : Env} {R : Room} {s : State} {m : MethodId} {args : Array Value} {below : List Frame} {meth : Method} {c : Code} {H : Heap} {locs : List Loc} {cells slots : Nat} {Q : State → Prop} {cc : ByteArray} {nL pc : Nat} {D : va_G} {cI cB cZ : ClassId} {ws : va_W} {rest : List Value} {ls : Array Slot} {a : Nat} {fs : List Value} {v : Value} (S : SF p m c cc nL s args RX12) (hK : KK D cI cB cZ s) (hP : va_P D vwCl ws H) (q0 : Nat) (he : ws[q0]? = some (a, .inr (13, fs))) (hv : fs[75]? = some v) (hdg : decode cc pc = .ok (.getfield 462, 3)) (kk : W p l e R s m args below meth c H locs cells slots Q (F0 m (pc + 3) ls (v :: rest))) : W p l e R s m args below meth c H locs cells slots Q (F0 m pc ls (.ref a :: rest)) :=
  va_get (C := RX12) (T := TX12) (N := 91) S.1 S.2.1 S.2.2.2.2 hin_RX12 S.2.2.2.1 hK.1 hP q0 he rfl 75 (by decide) (S.2.2.2.2 _ (wT_tab 1388 rfl rfl)) (fun _ h9 => h9) hv hdg kk
set_option maxRecDepth 100000 in
theorem gf_RX12_177 {p : Program} {l : Launch} {e : Env} {R : Room} {s : State} {m : MethodId} {args : Array Value} {below : List Frame} {meth : Method} {c : Code} {H : Heap} {locs : List Loc} {cells slots : Nat} {Q : State → Prop} {cc : ByteArray} {nL pc : Nat} {D : va_G} {cI cB cZ : ClassId} {ws : va_W} {rest : List Value} {ls : Array Slot} {a : Nat} {fs : List Value} {v : Value} (S : SF p m c cc nL s args RX12) (hK : KK D cI cB cZ s) (hP : va_P D vwCl ws H) (q0 : Nat) (he : ws[q0]? = some (a, .inr (13, fs))) (hv : fs[81]? = some v) (hdg : decode cc pc = .ok (.getfield 177, 3)) (kk : W p l e R s m args below meth c H locs cells slots Q (F0 m (pc + 3) ls (v :: rest))) : W p l e R s m args below meth c H locs cells slots Q (F0 m pc ls (.ref a :: rest)) :=
  va_get (C := RX12) (T := TX12) (N := 91) S.1 S.2.1 S.2.2.2.2 hin_RX12 S.2.2.2.1 hK.1 hP q0 he rfl 81 (by decide) (S.2.2.2.2 _ (wT_tab 1394 rfl rfl)) (fun _ h9 => h9) hv hdg kk
set_option maxRecDepth 100000 in
theorem gf_RX12_180 {p : Program} {l : Launch} {e : Env} {R : Room} {s : State} {m : MethodId} {args : Array Value} {below : List Frame} {meth : Method} {c : Code} {H : Heap} {locs : List Loc} {cells slots : Nat} {Q : State → Prop} {cc : ByteArray} {nL pc : Nat} {D : va_G} {cI cB cZ : ClassId} {ws : va_W} {rest : List Value} {ls : Array Slot} {a : Nat} {fs : List Value} {v : Value} (S : SF p m c cc nL s args RX12) (hK : KK D cI cB cZ s) (hP : va_P D vwCl ws H) (q0 : Nat) (he : ws[q0]? = some (a, .inr (13, fs))) (hv : fs[82]? = some v) (hdg : decode cc pc = .ok (.getfield 180, 3)) (kk : W p l e R s m args below meth c H locs cells slots Q (F0 m (pc + 3) ls (v :: rest))) : W p l e R s m args below meth c H locs cells slots Q (F0 m pc ls (.ref a :: rest)) :=
  va_get (C := RX12) (T := TX12) (N := 91) S.1 S.2.1 S.2.2.2.2 hin_RX12 S.2.2.2.1 hK.1 hP q0 he rfl 82 (by decide) (S.2.2.2.2 _ (wT_tab 1395 rfl rfl)) (fun _ h9 => h9) hv hdg kk
set_option maxRecDepth 100000 in
theorem pf_RX12_462 {p : Program} {l : Launch} {e : Env} {R : Room} {s : State} {m : MethodId} {args : Array Value} {below : List Frame} {meth : Method} {c : Code} {H : Heap} {locs : List Loc} {cells slots : Nat} {Q : State → Prop} {cc : ByteArray} {nL pc : Nat} {D : va_G} {cI cB cZ : ClassId} {ws : va_W} {rest : List Value} {ls : Array Slot} {a : Nat} {fs : List Value} {v : Value} {A : Nat → Prop} {H0 : Heap} (S : SF p m c cc nL s args RX12) (hK : KK D cI cB cZ s) (hP : va_P D vwCl ws H) (hD : va_D A ws) (hS : va_S A H0 H locs) (q0 : Nat) (he : ws[q0]? = some (a, .inr (13, fs))) (hl : 75 < fs.length) (hn : narrow (tyX12 75) v = v) (hfit : fits (tyX12 75) v = true) (hdg : decode cc pc = .ok (.putfield 462, 3)) (kk : ∀ (H1 : Heap) (locs1 : List Loc), va_P D vwCl (ws.set q0 (a, .inr (13, fs.set 75 v))) H1 → va_D A (ws.set q0 (a, .inr (13, fs.set 75 v))) → va_S A H0 H1 locs1 → W p l e R s m args below meth c H1 locs1 cells slots Q (F0 m (pc + 3) ls rest)) : W p l e R s m args below meth c H locs cells slots Q (F0 m pc ls (v :: .ref a :: rest)) :=
  va_put (C := RX12) (T := TX12) (N := 91) S.1 S.2.1 S.2.2.2.2 hin_RX12 tyX12 tyX12_ok nmX12 S.2.2.2.1 hK.1 hP hD hS q0 he rfl 75 (by decide) (S.2.2.2.2 _ (wT_tab 1388 rfl rfl)) (fun _ h9 => h9) rfl (tyX12_ok 75 (by decide)) hn hfit hl hdg kk
set_option maxRecDepth 100000 in
theorem kV_RX12_465 : CalV RX12 465 yX12_stockOn cX12_stockOn 4 (some .int) 1 := ⟨⟨wT_tab 1981 rfl rfl, wT_tab 1983 rfl rfl, wT_sel 113 _ rfl rfl rfl, wT_tab 13 rfl rfl, wT_tab 1984 rfl rfl⟩, ⟨by decide, by decide, by decide +kernel⟩⟩
set_option maxRecDepth 100000 in
theorem gf_RX12_74 {p : Program} {l : Launch} {e : Env} {R : Room} {s : State} {m : MethodId} {args : Array Value} {below : List Frame} {meth : Method} {c : Code} {H : Heap} {locs : List Loc} {cells slots : Nat} {Q : State → Prop} {cc : ByteArray} {nL pc : Nat} {D : va_G} {cI cB cZ : ClassId} {ws : va_W} {rest : List Value} {ls : Array Slot} {a : Nat} {fs : List Value} {v : Value} (S : SF p m c cc nL s args RX12) (hK : KK D cI cB cZ s) (hP : va_P D vwCl ws H) (q0 : Nat) (he : ws[q0]? = some (a, .inr (13, fs))) (hv : fs[33]? = some v) (hdg : decode cc pc = .ok (.getfield 74, 3)) (kk : W p l e R s m args below meth c H locs cells slots Q (F0 m (pc + 3) ls (v :: rest))) : W p l e R s m args below meth c H locs cells slots Q (F0 m pc ls (.ref a :: rest)) :=
  va_get (C := RX12) (T := TX12) (N := 91) S.1 S.2.1 S.2.2.2.2 hin_RX12 S.2.2.2.1 hK.1 hP q0 he rfl 33 (by decide) (S.2.2.2.2 _ (wT_tab 1346 rfl rfl)) (fun _ h9 => h9) hv hdg kk
theorem dX12_batch_0 : decode cX12_batch 0 = .ok (.iload_n 1, 1) := by decide +kernel
theorem dX12_batch_1 : decode cX12_batch 1 = .ok (.iconst 1, 1) := by decide +kernel
theorem dX12_batch_2 : decode cX12_batch 2 = .ok (.ldc_w 434, 3) := by decide +kernel
theorem dX12_batch_5 : decode cX12_batch 5 = .ok (.invokestatic 214, 3) := by decide +kernel
theorem dX12_batch_8 : decode cX12_batch 8 = .ok (.ifCond .eq 12, 3) := by decide +kernel
theorem dX12_batch_11 : decode cX12_batch 11 = .ok (.aload_n 0, 1) := by decide +kernel
theorem dX12_batch_12 : decode cX12_batch 12 = .ok (.getfield 435, 3) := by decide +kernel
theorem dX12_batch_15 : decode cX12_batch 15 = .ok (.bipush 10, 2) := by decide +kernel
theorem dX12_batch_17 : decode cX12_batch 17 = .ok (.if_icmp .ne 5, 3) := by decide +kernel
theorem dX12_batch_22 : decode cX12_batch 22 = .ok (.iconst 0, 1) := by decide +kernel
theorem dX12_batch_23 : decode cX12_batch 23 = .ok (.istore_n 2, 1) := by decide +kernel
theorem dX12_batch_24 : decode cX12_batch 24 = .ok (.iload_n 2, 1) := by decide +kernel
theorem dX12_batch_25 : decode cX12_batch 25 = .ok (.bipush 20, 2) := by decide +kernel
theorem dX12_batch_27 : decode cX12_batch 27 = .ok (.if_icmp .ge 28, 3) := by decide +kernel
theorem dX12_batch_30 : decode cX12_batch 30 = .ok (.iload_n 1, 1) := by decide +kernel
theorem dX12_batch_31 : decode cX12_batch 31 = .ok (.iload_n 2, 1) := by decide +kernel
theorem dX12_batch_32 : decode cX12_batch 32 = .ok (.ishr, 1) := by decide +kernel
theorem dX12_batch_33 : decode cX12_batch 33 = .ok (.iconst 1, 1) := by decide +kernel
theorem dX12_batch_34 : decode cX12_batch 34 = .ok (.iand, 1) := by decide +kernel
theorem dX12_batch_35 : decode cX12_batch 35 = .ok (.iconst 1, 1) := by decide +kernel
theorem dX12_batch_36 : decode cX12_batch 36 = .ok (.if_icmp .ne 13, 3) := by decide +kernel
theorem dX12_batch_49 : decode cX12_batch 49 = .ok (.iinc 2 1, 3) := by decide +kernel
theorem dX12_batch_52 : decode cX12_batch 52 = .ok (.goto (-28), 3) := by decide +kernel
theorem dX12_batch_39 : decode cX12_batch 39 = .ok (.aload_n 0, 1) := by decide +kernel
theorem dX12_batch_40 : decode cX12_batch 40 = .ok (.iload_n 2, 1) := by decide +kernel
theorem dX12_batch_41 : decode cX12_batch 41 = .ok (.invokevirtual 438, 3) := by decide +kernel
theorem dX12_batch_44 : decode cX12_batch 44 = .ok (.ifCond .ne 5, 3) := by decide +kernel
theorem dX12_batch_47 : decode cX12_batch 47 = .ok (.iconst (-1), 1) := by decide +kernel
theorem dX12_batch_48 : decode cX12_batch 48 = .ok (.ireturn, 1) := by decide +kernel
theorem dX12_batch_20 : decode cX12_batch 20 = .ok (.iconst (-1), 1) := by decide +kernel
theorem dX12_batch_21 : decode cX12_batch 21 = .ok (.ireturn, 1) := by decide +kernel
theorem dX12_blend_0 : decode cX12_blend 0 = .ok (.iconst 0, 1) := by decide +kernel
theorem dX12_blend_1 : decode cX12_blend 1 = .ok (.istore_n 1, 1) := by decide +kernel
theorem dX12_blend_2 : decode cX12_blend 2 = .ok (.iconst 0, 1) := by decide +kernel
theorem dX12_blend_3 : decode cX12_blend 3 = .ok (.istore_n 2, 1) := by decide +kernel
theorem dX12_blend_4 : decode cX12_blend 4 = .ok (.iload_n 2, 1) := by decide +kernel
theorem dX12_blend_5 : decode cX12_blend 5 = .ok (.bipush 20, 2) := by decide +kernel
theorem dX12_blend_7 : decode cX12_blend 7 = .ok (.if_icmp .ge 37, 3) := by decide +kernel
theorem dX12_blend_44 : decode cX12_blend 44 = .ok (.iconst 0, 1) := by decide +kernel
theorem dX12_blend_45 : decode cX12_blend 45 = .ok (.istore_n 2, 1) := by decide +kernel
theorem dX12_blend_46 : decode cX12_blend 46 = .ok (.iconst 0, 1) := by decide +kernel
theorem dX12_blend_47 : decode cX12_blend 47 = .ok (.istore_n 3, 1) := by decide +kernel
theorem dX12_blend_48 : decode cX12_blend 48 = .ok (.iconst 1, 1) := by decide +kernel
theorem dX12_blend_49 : decode cX12_blend 49 = .ok (.istore 4, 2) := by decide +kernel
theorem dX12_blend_51 : decode cX12_blend 51 = .ok (.iload 4, 2) := by decide +kernel
theorem dX12_blend_53 : decode cX12_blend 53 = .ok (.iconst 1, 1) := by decide +kernel
theorem dX12_blend_54 : decode cX12_blend 54 = .ok (.iload_n 1, 1) := by decide +kernel
theorem dX12_blend_55 : decode cX12_blend 55 = .ok (.ishl, 1) := by decide +kernel
theorem dX12_blend_56 : decode cX12_blend 56 = .ok (.if_icmp .ge 110, 3) := by decide +kernel
theorem dX12_blend_166 : decode cX12_blend 166 = .ok (.iload_n 2, 1) := by decide +kernel
theorem dX12_blend_167 : decode cX12_blend 167 = .ok (.ireturn, 1) := by decide +kernel
theorem dX12_blend_10 : decode cX12_blend 10 = .ok (.iload_n 1, 1) := by decide +kernel
theorem dX12_blend_11 : decode cX12_blend 11 = .ok (.bipush 12, 2) := by decide +kernel
theorem dX12_blend_13 : decode cX12_blend 13 = .ok (.if_icmp .ge 31, 3) := by decide +kernel
theorem dX12_blend_16 : decode cX12_blend 16 = .ok (.aload_n 0, 1) := by decide +kernel
theorem dX12_blend_17 : decode cX12_blend 17 = .ok (.iload_n 2, 1) := by decide +kernel
theorem dX12_blend_18 : decode cX12_blend 18 = .ok (.invokevirtual 438, 3) := by decide +kernel
theorem dX12_blend_21 : decode cX12_blend 21 = .ok (.ifCond .ne 6, 3) := by decide +kernel
theorem dX12_blend_24 : decode cX12_blend 24 = .ok (.goto 14, 3) := by decide +kernel
theorem dX12_blend_38 : decode cX12_blend 38 = .ok (.iinc 2 1, 3) := by decide +kernel
theorem dX12_blend_41 : decode cX12_blend 41 = .ok (.goto (-37), 3) := by decide +kernel
theorem dX12_overdrawn_0 : decode cX12_overdrawn 0 = .ok (.iload_n 1, 1) := by decide +kernel
theorem dX12_overdrawn_1 : decode cX12_overdrawn 1 = .ok (.iconst 0, 1) := by decide +kernel
theorem dX12_overdrawn_2 : decode cX12_overdrawn 2 = .ok (.bipush 57, 2) := by decide +kernel
theorem dX12_overdrawn_4 : decode cX12_overdrawn 4 = .ok (.invokestatic 214, 3) := by decide +kernel
theorem dX12_overdrawn_7 : decode cX12_overdrawn 7 = .ok (.ifCond .ne 5, 3) := by decide +kernel
theorem dX12_overdrawn_12 : decode cX12_overdrawn 12 = .ok (.iconst 0, 1) := by decide +kernel
theorem dX12_overdrawn_13 : decode cX12_overdrawn 13 = .ok (.istore_n 2, 1) := by decide +kernel
theorem dX12_overdrawn_14 : decode cX12_overdrawn 14 = .ok (.iconst 0, 1) := by decide +kernel
theorem dX12_overdrawn_15 : decode cX12_overdrawn 15 = .ok (.istore_n 3, 1) := by decide +kernel
theorem dX12_overdrawn_16 : decode cX12_overdrawn 16 = .ok (.iload_n 3, 1) := by decide +kernel
theorem dX12_overdrawn_17 : decode cX12_overdrawn 17 = .ok (.bipush 10, 2) := by decide +kernel
theorem dX12_overdrawn_19 : decode cX12_overdrawn 19 = .ok (.if_icmp .ge 100, 3) := by decide +kernel
theorem dX12_overdrawn_119 : decode cX12_overdrawn 119 = .ok (.iload_n 2, 1) := by decide +kernel
theorem dX12_overdrawn_120 : decode cX12_overdrawn 120 = .ok (.ireturn, 1) := by decide +kernel
theorem dX12_overdrawn_22 : decode cX12_overdrawn 22 = .ok (.iconst 0, 1) := by decide +kernel
theorem dX12_overdrawn_23 : decode cX12_overdrawn 23 = .ok (.istore 4, 2) := by decide +kernel
theorem dX12_overdrawn_25 : decode cX12_overdrawn 25 = .ok (.iconst 0, 1) := by decide +kernel
theorem dX12_overdrawn_26 : decode cX12_overdrawn 26 = .ok (.istore 5, 2) := by decide +kernel
theorem dX12_overdrawn_28 : decode cX12_overdrawn 28 = .ok (.iload 5, 2) := by decide +kernel
theorem dX12_overdrawn_30 : decode cX12_overdrawn 30 = .ok (.aload_n 0, 1) := by decide +kernel
theorem dX12_overdrawn_31 : decode cX12_overdrawn 31 = .ok (.getfield 447, 3) := by decide +kernel
theorem dX12_overdrawn_34 : decode cX12_overdrawn 34 = .ok (.if_icmp .ge 58, 3) := by decide +kernel
theorem dX12_overdrawn_92 : decode cX12_overdrawn 92 = .ok (.iload 4, 2) := by decide +kernel
theorem dX12_overdrawn_94 : decode cX12_overdrawn 94 = .ok (.aload_n 0, 1) := by decide +kernel
theorem dX12_overdrawn_95 : decode cX12_overdrawn 95 = .ok (.getfield 168, 3) := by decide +kernel
theorem dX12_overdrawn_98 : decode cX12_overdrawn 98 = .ok (.iload_n 3, 1) := by decide +kernel
theorem dX12_overdrawn_99 : decode cX12_overdrawn 99 = .ok (.iaload, 1) := by decide +kernel
theorem dX12_overdrawn_100 : decode cX12_overdrawn 100 = .ok (.if_icmp .le 11, 3) := by decide +kernel
theorem dX12_overdrawn_111 : decode cX12_overdrawn 111 = .ok (.iload_n 2, 1) := by decide +kernel
theorem dX12_overdrawn_112 : decode cX12_overdrawn 112 = .ok (.istore_n 2, 1) := by decide +kernel
theorem dX12_overdrawn_113 : decode cX12_overdrawn 113 = .ok (.iinc 3 1, 3) := by decide +kernel
theorem dX12_overdrawn_116 : decode cX12_overdrawn 116 = .ok (.goto (-100), 3) := by decide +kernel
theorem dX12_overdrawn_10 : decode cX12_overdrawn 10 = .ok (.iconst (-1), 1) := by decide +kernel
theorem dX12_overdrawn_11 : decode cX12_overdrawn 11 = .ok (.ireturn, 1) := by decide +kernel
theorem dX12_comers_0 : decode cX12_comers 0 = .ok (.iconst 0, 1) := by decide +kernel
theorem dX12_comers_1 : decode cX12_comers 1 = .ok (.istore_n 2, 1) := by decide +kernel
theorem dX12_comers_2 : decode cX12_comers 2 = .ok (.iconst 0, 1) := by decide +kernel
theorem dX12_comers_3 : decode cX12_comers 3 = .ok (.istore_n 3, 1) := by decide +kernel
theorem dX12_comers_4 : decode cX12_comers 4 = .ok (.iload_n 3, 1) := by decide +kernel
theorem dX12_comers_5 : decode cX12_comers 5 = .ok (.aload_n 0, 1) := by decide +kernel
theorem dX12_comers_6 : decode cX12_comers 6 = .ok (.getfield 204, 3) := by decide +kernel
theorem dX12_comers_9 : decode cX12_comers 9 = .ok (.if_icmp .ge 39, 3) := by decide +kernel
theorem dX12_comers_48 : decode cX12_comers 48 = .ok (.iload_n 2, 1) := by decide +kernel
theorem dX12_comers_49 : decode cX12_comers 49 = .ok (.ireturn, 1) := by decide +kernel
theorem dX12_worthOf_0 : decode cX12_worthOf 0 = .ok (.aload_n 0, 1) := by decide +kernel
theorem dX12_worthOf_1 : decode cX12_worthOf 1 = .ok (.iload_n 1, 1) := by decide +kernel
theorem dX12_worthOf_2 : decode cX12_worthOf 2 = .ok (.invokevirtual 469, 3) := by decide +kernel
theorem dX12_worthOf_5 : decode cX12_worthOf 5 = .ok (.istore_n 3, 1) := by decide +kernel
theorem dX12_worthOf_6 : decode cX12_worthOf 6 = .ok (.iconst 0, 1) := by decide +kernel
theorem dX12_worthOf_7 : decode cX12_worthOf 7 = .ok (.istore 4, 2) := by decide +kernel
theorem dX12_worthOf_9 : decode cX12_worthOf 9 = .ok (.iconst 0, 1) := by decide +kernel
theorem dX12_worthOf_10 : decode cX12_worthOf 10 = .ok (.istore 5, 2) := by decide +kernel
theorem dX12_worthOf_12 : decode cX12_worthOf 12 = .ok (.iload 5, 2) := by decide +kernel
theorem dX12_worthOf_14 : decode cX12_worthOf 14 = .ok (.aload_n 0, 1) := by decide +kernel
theorem dX12_worthOf_15 : decode cX12_worthOf 15 = .ok (.getfield 204, 3) := by decide +kernel
theorem dX12_worthOf_18 : decode cX12_worthOf 18 = .ok (.if_icmp .ge 32, 3) := by decide +kernel
theorem dX12_worthOf_50 : decode cX12_worthOf 50 = .ok (.iload 4, 2) := by decide +kernel
theorem dX12_worthOf_52 : decode cX12_worthOf 52 = .ok (.ireturn, 1) := by decide +kernel
theorem dX12_worth_0 : decode cX12_worth 0 = .ok (.iload_n 1, 1) := by decide +kernel
theorem dX12_worth_1 : decode cX12_worth 1 = .ok (.iconst 0, 1) := by decide +kernel
theorem dX12_worth_2 : decode cX12_worth 2 = .ok (.sipush 200, 3) := by decide +kernel
theorem dX12_worth_5 : decode cX12_worth 5 = .ok (.invokestatic 214, 3) := by decide +kernel
theorem dX12_worth_8 : decode cX12_worth 8 = .ok (.ifCond .eq 23, 3) := by decide +kernel
theorem dX12_worth_11 : decode cX12_worth 11 = .ok (.iload_n 2, 1) := by decide +kernel
theorem dX12_worth_12 : decode cX12_worth 12 = .ok (.iconst 0, 1) := by decide +kernel
theorem dX12_worth_13 : decode cX12_worth 13 = .ok (.sipush 1000, 3) := by decide +kernel
theorem dX12_worth_16 : decode cX12_worth 16 = .ok (.invokestatic 214, 3) := by decide +kernel
theorem dX12_worth_19 : decode cX12_worth 19 = .ok (.ifCond .eq 12, 3) := by decide +kernel
theorem dX12_worth_22 : decode cX12_worth 22 = .ok (.aload_n 0, 1) := by decide +kernel
theorem dX12_worth_23 : decode cX12_worth 23 = .ok (.iload_n 1, 1) := by decide +kernel
theorem dX12_worth_24 : decode cX12_worth 24 = .ok (.iload_n 2, 1) := by decide +kernel
theorem dX12_worth_25 : decode cX12_worth 25 = .ok (.invokevirtual 472, 3) := by decide +kernel
theorem dX12_worth_28 : decode cX12_worth 28 = .ok (.goto 6, 3) := by decide +kernel
theorem dX12_worth_34 : decode cX12_worth 34 = .ok (.ireturn, 1) := by decide +kernel
theorem dX12_worth_31 : decode cX12_worth 31 = .ok (.ldc_w 468, 3) := by decide +kernel
theorem dX12_offer_0 : decode cX12_offer 0 = .ok (.iload_n 1, 1) := by decide +kernel
theorem dX12_offer_1 : decode cX12_offer 1 = .ok (.iconst 0, 1) := by decide +kernel
theorem dX12_offer_2 : decode cX12_offer 2 = .ok (.sipush 1000, 3) := by decide +kernel
theorem dX12_offer_5 : decode cX12_offer 5 = .ok (.invokestatic 214, 3) := by decide +kernel
theorem dX12_offer_8 : decode cX12_offer 8 = .ok (.ifCond .eq 12, 3) := by decide +kernel
theorem dX12_offer_11 : decode cX12_offer 11 = .ok (.iload_n 2, 1) := by decide +kernel
theorem dX12_offer_12 : decode cX12_offer 12 = .ok (.iconst 0, 1) := by decide +kernel
theorem dX12_offer_13 : decode cX12_offer 13 = .ok (.iconst 2, 1) := by decide +kernel
theorem dX12_offer_14 : decode cX12_offer 14 = .ok (.invokestatic 214, 3) := by decide +kernel
theorem dX12_offer_17 : decode cX12_offer 17 = .ok (.ifCond .ne 5, 3) := by decide +kernel
theorem dX12_offer_22 : decode cX12_offer 22 = .ok (.iconst 0, 1) := by decide +kernel
theorem dX12_offer_23 : decode cX12_offer 23 = .ok (.istore_n 3, 1) := by decide +kernel
theorem dX12_offer_24 : decode cX12_offer 24 = .ok (.iconst 1, 1) := by decide +kernel
theorem dX12_offer_25 : decode cX12_offer 25 = .ok (.istore 4, 2) := by decide +kernel
theorem dX12_offer_27 : decode cX12_offer 27 = .ok (.iload 4, 2) := by decide +kernel
theorem dX12_offer_29 : decode cX12_offer 29 = .ok (.sipush 200, 3) := by decide +kernel
theorem dX12_offer_32 : decode cX12_offer 32 = .ok (.if_icmp .gt 32, 3) := by decide +kernel
theorem dX12_offer_64 : decode cX12_offer 64 = .ok (.iload_n 2, 1) := by decide +kernel
theorem dX12_offer_65 : decode cX12_offer 65 = .ok (.ifCond .ne 7, 3) := by decide +kernel
theorem dX12_offer_72 : decode cX12_offer 72 = .ok (.iload_n 2, 1) := by decide +kernel
theorem dX12_offer_73 : decode cX12_offer 73 = .ok (.iconst 1, 1) := by decide +kernel
theorem dX12_offer_74 : decode cX12_offer 74 = .ok (.if_icmp .ne 12, 3) := by decide +kernel
theorem dX12_offer_86 : decode cX12_offer 86 = .ok (.aload_n 0, 1) := by decide +kernel
theorem dX12_offer_87 : decode cX12_offer 87 = .ok (.iload_n 3, 1) := by decide +kernel
theorem dX12_offer_88 : decode cX12_offer 88 = .ok (.invokevirtual 469, 3) := by decide +kernel
theorem dX12_offer_91 : decode cX12_offer 91 = .ok (.ireturn, 1) := by decide +kernel
theorem dX12_offer_77 : decode cX12_offer 77 = .ok (.aload_n 0, 1) := by decide +kernel
theorem dX12_offer_78 : decode cX12_offer 78 = .ok (.iload_n 3, 1) := by decide +kernel
theorem dX12_offer_79 : decode cX12_offer 79 = .ok (.iload_n 1, 1) := by decide +kernel
theorem dX12_offer_80 : decode cX12_offer 80 = .ok (.invokevirtual 472, 3) := by decide +kernel
theorem dX12_offer_83 : decode cX12_offer 83 = .ok (.goto 8, 3) := by decide +kernel
theorem dX12_offer_68 : decode cX12_offer 68 = .ok (.iload_n 3, 1) := by decide +kernel
theorem dX12_offer_69 : decode cX12_offer 69 = .ok (.goto 22, 3) := by decide +kernel
theorem dX12_offer_35 : decode cX12_offer 35 = .ok (.aload_n 0, 1) := by decide +kernel
theorem dX12_offer_36 : decode cX12_offer 36 = .ok (.iload 4, 2) := by decide +kernel
theorem dX12_offer_38 : decode cX12_offer 38 = .ok (.iload_n 1, 1) := by decide +kernel
theorem dX12_offer_39 : decode cX12_offer 39 = .ok (.invokevirtual 472, 3) := by decide +kernel
theorem dX12_offer_42 : decode cX12_offer 42 = .ok (.aload_n 0, 1) := by decide +kernel
theorem dX12_offer_43 : decode cX12_offer 43 = .ok (.iload_n 3, 1) := by decide +kernel
theorem dX12_offer_44 : decode cX12_offer 44 = .ok (.iload_n 1, 1) := by decide +kernel
theorem dX12_offer_45 : decode cX12_offer 45 = .ok (.invokevirtual 472, 3) := by decide +kernel
theorem dX12_offer_48 : decode cX12_offer 48 = .ok (.if_icmp .le 8, 3) := by decide +kernel
theorem dX12_offer_56 : decode cX12_offer 56 = .ok (.iload_n 3, 1) := by decide +kernel
theorem dX12_offer_57 : decode cX12_offer 57 = .ok (.istore_n 3, 1) := by decide +kernel
theorem dX12_offer_58 : decode cX12_offer 58 = .ok (.iinc 4 1, 3) := by decide +kernel
theorem dX12_offer_61 : decode cX12_offer 61 = .ok (.goto (-34), 3) := by decide +kernel
theorem dX12_offer_20 : decode cX12_offer 20 = .ok (.iconst (-1), 1) := by decide +kernel
theorem dX12_offer_21 : decode cX12_offer 21 = .ok (.ireturn, 1) := by decide +kernel
theorem dX12_saves_0 : decode cX12_saves 0 = .ok (.iconst 0, 1) := by decide +kernel
theorem dX12_saves_1 : decode cX12_saves 1 = .ok (.istore_n 3, 1) := by decide +kernel
theorem dX12_saves_2 : decode cX12_saves 2 = .ok (.iconst 0, 1) := by decide +kernel
theorem dX12_saves_3 : decode cX12_saves 3 = .ok (.istore 4, 2) := by decide +kernel
theorem dX12_saves_5 : decode cX12_saves 5 = .ok (.iload 4, 2) := by decide +kernel
theorem dX12_saves_7 : decode cX12_saves 7 = .ok (.iload_n 2, 1) := by decide +kernel
theorem dX12_saves_8 : decode cX12_saves 8 = .ok (.if_icmp .ge 24, 3) := by decide +kernel
theorem dX12_saves_32 : decode cX12_saves 32 = .ok (.iload_n 3, 1) := by decide +kernel
theorem dX12_saves_33 : decode cX12_saves 33 = .ok (.ireturn, 1) := by decide +kernel
theorem dX12_saves_11 : decode cX12_saves 11 = .ok (.iload_n 3, 1) := by decide +kernel
theorem dX12_saves_12 : decode cX12_saves 12 = .ok (.aload_n 0, 1) := by decide +kernel
theorem dX12_saves_13 : decode cX12_saves 13 = .ok (.getfield 189, 3) := by decide +kernel
theorem dX12_saves_16 : decode cX12_saves 16 = .ok (.iload_n 1, 1) := by decide +kernel
theorem dX12_saves_17 : decode cX12_saves 17 = .ok (.iload 4, 2) := by decide +kernel
theorem dX12_saves_19 : decode cX12_saves 19 = .ok (.iadd, 1) := by decide +kernel
theorem dX12_saves_20 : decode cX12_saves 20 = .ok (.bipush 24, 2) := by decide +kernel
theorem dX12_saves_22 : decode cX12_saves 22 = .ok (.irem, 1) := by decide +kernel
theorem dX12_saves_23 : decode cX12_saves 23 = .ok (.iaload, 1) := by decide +kernel
theorem dX12_saves_24 : decode cX12_saves 24 = .ok (.iadd, 1) := by decide +kernel
theorem dX12_saves_25 : decode cX12_saves 25 = .ok (.istore_n 3, 1) := by decide +kernel
theorem dX12_saves_26 : decode cX12_saves 26 = .ok (.iinc 4 1, 3) := by decide +kernel
theorem dX12_saves_29 : decode cX12_saves 29 = .ok (.goto (-24), 3) := by decide +kernel
theorem dX12_lock_0 : decode cX12_lock 0 = .ok (.iload_n 1, 1) := by decide +kernel
theorem dX12_lock_1 : decode cX12_lock 1 = .ok (.iconst 1, 1) := by decide +kernel
theorem dX12_lock_2 : decode cX12_lock 2 = .ok (.bipush 12, 2) := by decide +kernel
theorem dX12_lock_4 : decode cX12_lock 4 = .ok (.invokestatic 214, 3) := by decide +kernel
theorem dX12_lock_7 : decode cX12_lock 7 = .ok (.ifCond .eq 12, 3) := by decide +kernel
theorem dX12_lock_10 : decode cX12_lock 10 = .ok (.iload_n 2, 1) := by decide +kernel
theorem dX12_lock_11 : decode cX12_lock 11 = .ok (.iconst 0, 1) := by decide +kernel
theorem dX12_lock_12 : decode cX12_lock 12 = .ok (.iconst 1, 1) := by decide +kernel
theorem dX12_lock_13 : decode cX12_lock 13 = .ok (.invokestatic 214, 3) := by decide +kernel
theorem dX12_lock_16 : decode cX12_lock 16 = .ok (.ifCond .ne 5, 3) := by decide +kernel
theorem dX12_lock_21 : decode cX12_lock 21 = .ok (.iconst 0, 1) := by decide +kernel
theorem dX12_lock_22 : decode cX12_lock 22 = .ok (.istore_n 3, 1) := by decide +kernel
theorem dX12_lock_23 : decode cX12_lock 23 = .ok (.iconst 1, 1) := by decide +kernel
theorem dX12_lock_24 : decode cX12_lock 24 = .ok (.istore 4, 2) := by decide +kernel
theorem dX12_lock_26 : decode cX12_lock 26 = .ok (.iload 4, 2) := by decide +kernel
theorem dX12_lock_28 : decode cX12_lock 28 = .ok (.bipush 24, 2) := by decide +kernel
theorem dX12_lock_30 : decode cX12_lock 30 = .ok (.if_icmp .ge 32, 3) := by decide +kernel
theorem dX12_lock_62 : decode cX12_lock 62 = .ok (.iload_n 2, 1) := by decide +kernel
theorem dX12_lock_63 : decode cX12_lock 63 = .ok (.ifCond .ne 7, 3) := by decide +kernel
theorem dX12_lock_70 : decode cX12_lock 70 = .ok (.aload_n 0, 1) := by decide +kernel
theorem dX12_lock_71 : decode cX12_lock 71 = .ok (.iload_n 3, 1) := by decide +kernel
theorem dX12_lock_72 : decode cX12_lock 72 = .ok (.iload_n 1, 1) := by decide +kernel
theorem dX12_lock_73 : decode cX12_lock 73 = .ok (.invokevirtual 475, 3) := by decide +kernel
theorem dX12_lock_76 : decode cX12_lock 76 = .ok (.ireturn, 1) := by decide +kernel
theorem dX12_lock_66 : decode cX12_lock 66 = .ok (.iload_n 3, 1) := by decide +kernel
theorem dX12_lock_67 : decode cX12_lock 67 = .ok (.goto 9, 3) := by decide +kernel
theorem dX12_lock_33 : decode cX12_lock 33 = .ok (.aload_n 0, 1) := by decide +kernel
theorem dX12_lock_34 : decode cX12_lock 34 = .ok (.iload 4, 2) := by decide +kernel
theorem dX12_lock_36 : decode cX12_lock 36 = .ok (.iload_n 1, 1) := by decide +kernel
theorem dX12_lock_37 : decode cX12_lock 37 = .ok (.invokevirtual 475, 3) := by decide +kernel
theorem dX12_lock_40 : decode cX12_lock 40 = .ok (.aload_n 0, 1) := by decide +kernel
theorem dX12_lock_41 : decode cX12_lock 41 = .ok (.iload_n 3, 1) := by decide +kernel
theorem dX12_lock_42 : decode cX12_lock 42 = .ok (.iload_n 1, 1) := by decide +kernel
theorem dX12_lock_43 : decode cX12_lock 43 = .ok (.invokevirtual 475, 3) := by decide +kernel
theorem dX12_lock_46 : decode cX12_lock 46 = .ok (.if_icmp .le 8, 3) := by decide +kernel
theorem dX12_lock_54 : decode cX12_lock 54 = .ok (.iload_n 3, 1) := by decide +kernel
theorem dX12_lock_55 : decode cX12_lock 55 = .ok (.istore_n 3, 1) := by decide +kernel
theorem dX12_lock_56 : decode cX12_lock 56 = .ok (.iinc 4 1, 3) := by decide +kernel
theorem dX12_lock_59 : decode cX12_lock 59 = .ok (.goto (-33), 3) := by decide +kernel
theorem dX12_lock_19 : decode cX12_lock 19 = .ok (.iconst (-1), 1) := by decide +kernel
theorem dX12_lock_20 : decode cX12_lock 20 = .ok (.ireturn, 1) := by decide +kernel
theorem dX12_sewer_0 : decode cX12_sewer 0 = .ok (.iload_n 1, 1) := by decide +kernel
theorem dX12_sewer_1 : decode cX12_sewer 1 = .ok (.iconst 0, 1) := by decide +kernel
theorem dX12_sewer_2 : decode cX12_sewer 2 = .ok (.bipush 99, 2) := by decide +kernel
theorem dX12_sewer_4 : decode cX12_sewer 4 = .ok (.invokestatic 214, 3) := by decide +kernel
theorem dX12_sewer_7 : decode cX12_sewer 7 = .ok (.ifCond .eq 22, 3) := by decide +kernel
theorem dX12_sewer_10 : decode cX12_sewer 10 = .ok (.iload_n 2, 1) := by decide +kernel
theorem dX12_sewer_11 : decode cX12_sewer 11 = .ok (.iconst 0, 1) := by decide +kernel
theorem dX12_sewer_12 : decode cX12_sewer 12 = .ok (.bipush 99, 2) := by decide +kernel
theorem dX12_sewer_14 : decode cX12_sewer 14 = .ok (.invokestatic 214, 3) := by decide +kernel
theorem dX12_sewer_17 : decode cX12_sewer 17 = .ok (.ifCond .eq 12, 3) := by decide +kernel
theorem dX12_sewer_20 : decode cX12_sewer 20 = .ok (.aload_n 0, 1) := by decide +kernel
theorem dX12_sewer_21 : decode cX12_sewer 21 = .ok (.getfield 478, 3) := by decide +kernel
theorem dX12_sewer_24 : decode cX12_sewer 24 = .ok (.bipush 10, 2) := by decide +kernel
theorem dX12_sewer_26 : decode cX12_sewer 26 = .ok (.if_icmp .ne 5, 3) := by decide +kernel
theorem dX12_sewer_31 : decode cX12_sewer 31 = .ok (.aload_n 0, 1) := by decide +kernel
theorem dX12_sewer_32 : decode cX12_sewer 32 = .ok (.getfield 192, 3) := by decide +kernel
theorem dX12_sewer_35 : decode cX12_sewer 35 = .ok (.aload_n 0, 1) := by decide +kernel
theorem dX12_sewer_36 : decode cX12_sewer 36 = .ok (.getfield 478, 3) := by decide +kernel
theorem dX12_sewer_39 : decode cX12_sewer 39 = .ok (.iload_n 1, 1) := by decide +kernel
theorem dX12_sewer_40 : decode cX12_sewer 40 = .ok (.iastore, 1) := by decide +kernel
theorem dX12_sewer_41 : decode cX12_sewer 41 = .ok (.aload_n 0, 1) := by decide +kernel
theorem dX12_sewer_42 : decode cX12_sewer 42 = .ok (.getfield 195, 3) := by decide +kernel
theorem dX12_sewer_45 : decode cX12_sewer 45 = .ok (.aload_n 0, 1) := by decide +kernel
theorem dX12_sewer_46 : decode cX12_sewer 46 = .ok (.getfield 478, 3) := by decide +kernel
theorem dX12_sewer_49 : decode cX12_sewer 49 = .ok (.iload_n 2, 1) := by decide +kernel
theorem dX12_sewer_50 : decode cX12_sewer 50 = .ok (.iastore, 1) := by decide +kernel
theorem dX12_sewer_51 : decode cX12_sewer 51 = .ok (.aload_n 0, 1) := by decide +kernel
theorem dX12_sewer_52 : decode cX12_sewer 52 = .ok (.aload_n 0, 1) := by decide +kernel
theorem dX12_sewer_53 : decode cX12_sewer 53 = .ok (.getfield 478, 3) := by decide +kernel
theorem dX12_sewer_56 : decode cX12_sewer 56 = .ok (.iconst 1, 1) := by decide +kernel
theorem dX12_sewer_57 : decode cX12_sewer 57 = .ok (.iadd, 1) := by decide +kernel
theorem dX12_sewer_58 : decode cX12_sewer 58 = .ok (.putfield 478, 3) := by decide +kernel
theorem dX12_sewer_61 : decode cX12_sewer 61 = .ok (.aload_n 0, 1) := by decide +kernel
theorem dX12_sewer_62 : decode cX12_sewer 62 = .ok (.getfield 478, 3) := by decide +kernel
theorem dX12_sewer_65 : decode cX12_sewer 65 = .ok (.iconst 1, 1) := by decide +kernel
theorem dX12_sewer_66 : decode cX12_sewer 66 = .ok (.isub, 1) := by decide +kernel
theorem dX12_sewer_67 : decode cX12_sewer 67 = .ok (.ireturn, 1) := by decide +kernel
theorem dX12_sewer_29 : decode cX12_sewer 29 = .ok (.iconst (-1), 1) := by decide +kernel
theorem dX12_sewer_30 : decode cX12_sewer 30 = .ok (.ireturn, 1) := by decide +kernel
theorem dX12_beside_0 : decode cX12_beside 0 = .ok (.iload_n 1, 1) := by decide +kernel
theorem dX12_beside_1 : decode cX12_beside 1 = .ok (.iconst 0, 1) := by decide +kernel
theorem dX12_beside_2 : decode cX12_beside 2 = .ok (.sipush 198, 3) := by decide +kernel
theorem dX12_beside_5 : decode cX12_beside 5 = .ok (.invokestatic 214, 3) := by decide +kernel
theorem dX12_beside_8 : decode cX12_beside 8 = .ok (.ifCond .eq 14, 3) := by decide +kernel
theorem dX12_beside_11 : decode cX12_beside 11 = .ok (.iload_n 2, 1) := by decide +kernel
theorem dX12_beside_12 : decode cX12_beside 12 = .ok (.iconst 1, 1) := by decide +kernel
theorem dX12_beside_13 : decode cX12_beside 13 = .ok (.sipush 1000, 3) := by decide +kernel
theorem dX12_beside_16 : decode cX12_beside 16 = .ok (.invokestatic 214, 3) := by decide +kernel
theorem dX12_beside_19 : decode cX12_beside 19 = .ok (.ifCond .ne 5, 3) := by decide +kernel
theorem dX12_beside_24 : decode cX12_beside 24 = .ok (.iconst 0, 1) := by decide +kernel
theorem dX12_beside_25 : decode cX12_beside 25 = .ok (.istore_n 3, 1) := by decide +kernel
theorem dX12_beside_26 : decode cX12_beside 26 = .ok (.iconst 0, 1) := by decide +kernel
theorem dX12_beside_27 : decode cX12_beside 27 = .ok (.istore 4, 2) := by decide +kernel
theorem dX12_beside_29 : decode cX12_beside 29 = .ok (.iload 4, 2) := by decide +kernel
theorem dX12_beside_31 : decode cX12_beside 31 = .ok (.aload_n 0, 1) := by decide +kernel
theorem dX12_beside_32 : decode cX12_beside 32 = .ok (.getfield 204, 3) := by decide +kernel
theorem dX12_beside_35 : decode cX12_beside 35 = .ok (.if_icmp .ge 90, 3) := by decide +kernel
theorem dX12_beside_125 : decode cX12_beside 125 = .ok (.iload_n 3, 1) := by decide +kernel
theorem dX12_beside_126 : decode cX12_beside 126 = .ok (.ireturn, 1) := by decide +kernel
theorem dX12_beside_22 : decode cX12_beside 22 = .ok (.iconst (-1), 1) := by decide +kernel
theorem dX12_beside_23 : decode cX12_beside 23 = .ok (.ireturn, 1) := by decide +kernel
theorem dX12_first_0 : decode cX12_first 0 = .ok (.iload_n 1, 1) := by decide +kernel
theorem dX12_first_1 : decode cX12_first 1 = .ok (.invokestatic 341, 3) := by decide +kernel
theorem dX12_first_4 : decode cX12_first 4 = .ok (.ifCond .eq 14, 3) := by decide +kernel
theorem dX12_first_7 : decode cX12_first 7 = .ok (.iload_n 2, 1) := by decide +kernel
theorem dX12_first_8 : decode cX12_first 8 = .ok (.bipush (-40), 2) := by decide +kernel
theorem dX12_first_10 : decode cX12_first 10 = .ok (.bipush 41, 2) := by decide +kernel
theorem dX12_first_12 : decode cX12_first 12 = .ok (.invokestatic 214, 3) := by decide +kernel
theorem dX12_first_15 : decode cX12_first 15 = .ok (.ifCond .ne 5, 3) := by decide +kernel
theorem dX12_first_20 : decode cX12_first 20 = .ok (.iload_n 1, 1) := by decide +kernel
theorem dX12_first_21 : decode cX12_first 21 = .ok (.istore_n 3, 1) := by decide +kernel
theorem dX12_first_22 : decode cX12_first 22 = .ok (.iload_n 3, 1) := by decide +kernel
theorem dX12_first_23 : decode cX12_first 23 = .ok (.sipush 399, 3) := by decide +kernel
theorem dX12_first_26 : decode cX12_first 26 = .ok (.if_icmp .gt 21, 3) := by decide +kernel
theorem dX12_first_47 : decode cX12_first 47 = .ok (.bipush (-2), 2) := by decide +kernel
theorem dX12_first_49 : decode cX12_first 49 = .ok (.ireturn, 1) := by decide +kernel
theorem dX12_first_29 : decode cX12_first 29 = .ok (.aload_n 0, 1) := by decide +kernel
theorem dX12_first_30 : decode cX12_first 30 = .ok (.getfield 201, 3) := by decide +kernel
theorem dX12_first_33 : decode cX12_first 33 = .ok (.iload_n 3, 1) := by decide +kernel
theorem dX12_first_34 : decode cX12_first 34 = .ok (.iaload, 1) := by decide +kernel
theorem dX12_first_35 : decode cX12_first 35 = .ok (.iload_n 2, 1) := by decide +kernel
theorem dX12_first_36 : decode cX12_first 36 = .ok (.if_icmp .lt 5, 3) := by decide +kernel
theorem dX12_first_41 : decode cX12_first 41 = .ok (.iinc 3 1, 3) := by decide +kernel
theorem dX12_first_44 : decode cX12_first 44 = .ok (.goto (-22), 3) := by decide +kernel
theorem dX12_first_39 : decode cX12_first 39 = .ok (.iload_n 3, 1) := by decide +kernel
theorem dX12_first_40 : decode cX12_first 40 = .ok (.ireturn, 1) := by decide +kernel
theorem dX12_first_18 : decode cX12_first 18 = .ok (.iconst (-1), 1) := by decide +kernel
theorem dX12_first_19 : decode cX12_first 19 = .ok (.ireturn, 1) := by decide +kernel
theorem dX12_drum_0 : decode cX12_drum 0 = .ok (.aload_n 0, 1) := by decide +kernel
theorem dX12_drum_1 : decode cX12_drum 1 = .ok (.getfield 407, 3) := by decide +kernel
theorem dX12_drum_4 : decode cX12_drum 4 = .ok (.bipush 20, 2) := by decide +kernel
theorem dX12_drum_6 : decode cX12_drum 6 = .ok (.if_icmp .ne 5, 3) := by decide +kernel
theorem dX12_drum_11 : decode cX12_drum 11 = .ok (.aload_n 0, 1) := by decide +kernel
theorem dX12_drum_12 : decode cX12_drum 12 = .ok (.aload_n 0, 1) := by decide +kernel
theorem dX12_drum_13 : decode cX12_drum 13 = .ok (.getfield 407, 3) := by decide +kernel
theorem dX12_drum_16 : decode cX12_drum 16 = .ok (.iconst 1, 1) := by decide +kernel
theorem dX12_drum_17 : decode cX12_drum 17 = .ok (.iadd, 1) := by decide +kernel
theorem dX12_drum_18 : decode cX12_drum 18 = .ok (.putfield 407, 3) := by decide +kernel
theorem dX12_drum_21 : decode cX12_drum 21 = .ok (.aload_n 0, 1) := by decide +kernel
theorem dX12_drum_22 : decode cX12_drum 22 = .ok (.getfield 407, 3) := by decide +kernel
theorem dX12_drum_25 : decode cX12_drum 25 = .ok (.iconst 1, 1) := by decide +kernel
theorem dX12_drum_26 : decode cX12_drum 26 = .ok (.isub, 1) := by decide +kernel
theorem dX12_drum_27 : decode cX12_drum 27 = .ok (.ireturn, 1) := by decide +kernel
theorem dX12_stale_0 : decode cX12_stale 0 = .ok (.iload_n 1, 1) := by decide +kernel
theorem dX12_stale_1 : decode cX12_stale 1 = .ok (.invokestatic 341, 3) := by decide +kernel
theorem dX12_stale_4 : decode cX12_stale 4 = .ok (.ifCond .ne 5, 3) := by decide +kernel
theorem dX12_stale_9 : decode cX12_stale 9 = .ok (.iconst 0, 1) := by decide +kernel
theorem dX12_stale_10 : decode cX12_stale 10 = .ok (.istore_n 2, 1) := by decide +kernel
theorem dX12_stale_11 : decode cX12_stale 11 = .ok (.iconst 0, 1) := by decide +kernel
theorem dX12_stale_12 : decode cX12_stale 12 = .ok (.istore_n 3, 1) := by decide +kernel
theorem dX12_stale_13 : decode cX12_stale 13 = .ok (.iload_n 3, 1) := by decide +kernel
theorem dX12_stale_14 : decode cX12_stale 14 = .ok (.aload_n 0, 1) := by decide +kernel
theorem dX12_stale_15 : decode cX12_stale 15 = .ok (.getfield 407, 3) := by decide +kernel
theorem dX12_stale_18 : decode cX12_stale 18 = .ok (.if_icmp .ge 59, 3) := by decide +kernel
theorem dX12_stale_77 : decode cX12_stale 77 = .ok (.iload_n 2, 1) := by decide +kernel
theorem dX12_stale_78 : decode cX12_stale 78 = .ok (.ireturn, 1) := by decide +kernel
theorem dX12_stale_7 : decode cX12_stale 7 = .ok (.iconst (-1), 1) := by decide +kernel
theorem dX12_stale_8 : decode cX12_stale 8 = .ok (.ireturn, 1) := by decide +kernel
theorem dX12_spill_0 : decode cX12_spill 0 = .ok (.iload_n 1, 1) := by decide +kernel
theorem dX12_spill_1 : decode cX12_spill 1 = .ok (.iconst 0, 1) := by decide +kernel
theorem dX12_spill_2 : decode cX12_spill 2 = .ok (.aload_n 0, 1) := by decide +kernel
theorem dX12_spill_3 : decode cX12_spill 3 = .ok (.getfield 211, 3) := by decide +kernel
theorem dX12_spill_6 : decode cX12_spill 6 = .ok (.invokestatic 214, 3) := by decide +kernel
theorem dX12_spill_9 : decode cX12_spill 9 = .ok (.ifCond .eq 23, 3) := by decide +kernel
theorem dX12_spill_12 : decode cX12_spill 12 = .ok (.iload_n 2, 1) := by decide +kernel
theorem dX12_spill_13 : decode cX12_spill 13 = .ok (.iconst 1, 1) := by decide +kernel
theorem dX12_spill_14 : decode cX12_spill 14 = .ok (.sipush 400, 3) := by decide +kernel
theorem dX12_spill_17 : decode cX12_spill 17 = .ok (.invokestatic 214, 3) := by decide +kernel
theorem dX12_spill_20 : decode cX12_spill 20 = .ok (.ifCond .eq 12, 3) := by decide +kernel
theorem dX12_spill_23 : decode cX12_spill 23 = .ok (.aload_n 0, 1) := by decide +kernel
theorem dX12_spill_24 : decode cX12_spill 24 = .ok (.getfield 462, 3) := by decide +kernel
theorem dX12_spill_27 : decode cX12_spill 27 = .ok (.bipush 40, 2) := by decide +kernel
theorem dX12_spill_29 : decode cX12_spill 29 = .ok (.if_icmp .ne 5, 3) := by decide +kernel
theorem dX12_spill_34 : decode cX12_spill 34 = .ok (.aload_n 0, 1) := by decide +kernel
theorem dX12_spill_35 : decode cX12_spill 35 = .ok (.getfield 177, 3) := by decide +kernel
theorem dX12_spill_38 : decode cX12_spill 38 = .ok (.aload_n 0, 1) := by decide +kernel
theorem dX12_spill_39 : decode cX12_spill 39 = .ok (.getfield 462, 3) := by decide +kernel
theorem dX12_spill_42 : decode cX12_spill 42 = .ok (.iload_n 1, 1) := by decide +kernel
theorem dX12_spill_43 : decode cX12_spill 43 = .ok (.iastore, 1) := by decide +kernel
theorem dX12_spill_44 : decode cX12_spill 44 = .ok (.aload_n 0, 1) := by decide +kernel
theorem dX12_spill_45 : decode cX12_spill 45 = .ok (.getfield 180, 3) := by decide +kernel
theorem dX12_spill_48 : decode cX12_spill 48 = .ok (.aload_n 0, 1) := by decide +kernel
theorem dX12_spill_49 : decode cX12_spill 49 = .ok (.getfield 462, 3) := by decide +kernel
theorem dX12_spill_52 : decode cX12_spill 52 = .ok (.iload_n 2, 1) := by decide +kernel
theorem dX12_spill_53 : decode cX12_spill 53 = .ok (.iastore, 1) := by decide +kernel
theorem dX12_spill_54 : decode cX12_spill 54 = .ok (.aload_n 0, 1) := by decide +kernel
theorem dX12_spill_55 : decode cX12_spill 55 = .ok (.aload_n 0, 1) := by decide +kernel
theorem dX12_spill_56 : decode cX12_spill 56 = .ok (.getfield 462, 3) := by decide +kernel
theorem dX12_spill_59 : decode cX12_spill 59 = .ok (.iconst 1, 1) := by decide +kernel
theorem dX12_spill_60 : decode cX12_spill 60 = .ok (.iadd, 1) := by decide +kernel
theorem dX12_spill_61 : decode cX12_spill 61 = .ok (.putfield 462, 3) := by decide +kernel
theorem dX12_spill_64 : decode cX12_spill 64 = .ok (.aload_n 0, 1) := by decide +kernel
theorem dX12_spill_65 : decode cX12_spill 65 = .ok (.getfield 462, 3) := by decide +kernel
theorem dX12_spill_68 : decode cX12_spill 68 = .ok (.ireturn, 1) := by decide +kernel
theorem dX12_spill_32 : decode cX12_spill 32 = .ok (.iconst (-1), 1) := by decide +kernel
theorem dX12_spill_33 : decode cX12_spill 33 = .ok (.ireturn, 1) := by decide +kernel
theorem dX12_stockOn_0 : decode cX12_stockOn 0 = .ok (.iconst 0, 1) := by decide +kernel
theorem dX12_stockOn_1 : decode cX12_stockOn 1 = .ok (.istore_n 2, 1) := by decide +kernel
theorem dX12_stockOn_2 : decode cX12_stockOn 2 = .ok (.iconst 0, 1) := by decide +kernel
theorem dX12_stockOn_3 : decode cX12_stockOn 3 = .ok (.istore_n 3, 1) := by decide +kernel
theorem dX12_stockOn_4 : decode cX12_stockOn 4 = .ok (.iload_n 3, 1) := by decide +kernel
theorem dX12_stockOn_5 : decode cX12_stockOn 5 = .ok (.aload_n 0, 1) := by decide +kernel
theorem dX12_stockOn_6 : decode cX12_stockOn 6 = .ok (.getfield 208, 3) := by decide +kernel
theorem dX12_stockOn_9 : decode cX12_stockOn 9 = .ok (.if_icmp .ge 32, 3) := by decide +kernel
theorem dX12_stockOn_41 : decode cX12_stockOn 41 = .ok (.iconst 0, 1) := by decide +kernel
theorem dX12_stockOn_42 : decode cX12_stockOn 42 = .ok (.istore_n 3, 1) := by decide +kernel
theorem dX12_stockOn_43 : decode cX12_stockOn 43 = .ok (.iload_n 3, 1) := by decide +kernel
theorem dX12_stockOn_44 : decode cX12_stockOn 44 = .ok (.aload_n 0, 1) := by decide +kernel
theorem dX12_stockOn_45 : decode cX12_stockOn 45 = .ok (.getfield 462, 3) := by decide +kernel
theorem dX12_stockOn_48 : decode cX12_stockOn 48 = .ok (.if_icmp .ge 32, 3) := by decide +kernel
theorem dX12_stockOn_80 : decode cX12_stockOn 80 = .ok (.iconst 0, 1) := by decide +kernel
theorem dX12_stockOn_81 : decode cX12_stockOn 81 = .ok (.istore_n 3, 1) := by decide +kernel
theorem dX12_stockOn_82 : decode cX12_stockOn 82 = .ok (.iload_n 3, 1) := by decide +kernel
theorem dX12_stockOn_83 : decode cX12_stockOn 83 = .ok (.aload_n 0, 1) := by decide +kernel
theorem dX12_stockOn_84 : decode cX12_stockOn 84 = .ok (.getfield 435, 3) := by decide +kernel
theorem dX12_stockOn_87 : decode cX12_stockOn 87 = .ok (.if_icmp .ge 31, 3) := by decide +kernel
theorem dX12_stockOn_118 : decode cX12_stockOn 118 = .ok (.iload_n 2, 1) := by decide +kernel
theorem dX12_stockOn_119 : decode cX12_stockOn 119 = .ok (.ireturn, 1) := by decide +kernel
theorem dX12_stock_0 : decode cX12_stock 0 = .ok (.iload_n 1, 1) := by decide +kernel
theorem dX12_stock_1 : decode cX12_stock 1 = .ok (.invokestatic 341, 3) := by decide +kernel
theorem dX12_stock_4 : decode cX12_stock 4 = .ok (.ifCond .eq 11, 3) := by decide +kernel
theorem dX12_stock_7 : decode cX12_stock 7 = .ok (.aload_n 0, 1) := by decide +kernel
theorem dX12_stock_8 : decode cX12_stock 8 = .ok (.iload_n 1, 1) := by decide +kernel
theorem dX12_stock_9 : decode cX12_stock 9 = .ok (.invokevirtual 465, 3) := by decide +kernel
theorem dX12_stock_12 : decode cX12_stock 12 = .ok (.goto 6, 3) := by decide +kernel
theorem dX12_stock_18 : decode cX12_stock 18 = .ok (.ireturn, 1) := by decide +kernel
theorem dX12_stock_15 : decode cX12_stock 15 = .ok (.ldc_w 468, 3) := by decide +kernel
theorem dX12_below_0 : decode cX12_below 0 = .ok (.iload_n 1, 1) := by decide +kernel
theorem dX12_below_1 : decode cX12_below 1 = .ok (.sipush (-10000), 3) := by decide +kernel
theorem dX12_below_4 : decode cX12_below 4 = .ok (.sipush 10000, 3) := by decide +kernel
theorem dX12_below_7 : decode cX12_below 7 = .ok (.invokestatic 214, 3) := by decide +kernel
theorem dX12_below_10 : decode cX12_below 10 = .ok (.ifCond .ne 5, 3) := by decide +kernel
theorem dX12_below_15 : decode cX12_below 15 = .ok (.iconst 0, 1) := by decide +kernel
theorem dX12_below_16 : decode cX12_below 16 = .ok (.istore_n 2, 1) := by decide +kernel
theorem dX12_below_17 : decode cX12_below 17 = .ok (.iload_n 2, 1) := by decide +kernel
theorem dX12_below_18 : decode cX12_below 18 = .ok (.aload_n 0, 1) := by decide +kernel
theorem dX12_below_19 : decode cX12_below 19 = .ok (.getfield 211, 3) := by decide +kernel
theorem dX12_below_22 : decode cX12_below 22 = .ok (.if_icmp .gt 20, 3) := by decide +kernel
theorem dX12_below_25 : decode cX12_below 25 = .ok (.aload_n 0, 1) := by decide +kernel
theorem dX12_below_26 : decode cX12_below 26 = .ok (.iload_n 2, 1) := by decide +kernel
theorem dX12_below_27 : decode cX12_below 27 = .ok (.invokevirtual 465, 3) := by decide +kernel
theorem dX12_below_30 : decode cX12_below 30 = .ok (.iload_n 1, 1) := by decide +kernel
theorem dX12_below_31 : decode cX12_below 31 = .ok (.if_icmp .ge 5, 3) := by decide +kernel
theorem dX12_below_36 : decode cX12_below 36 = .ok (.iinc 2 1, 3) := by decide +kernel
theorem dX12_below_39 : decode cX12_below 39 = .ok (.goto (-22), 3) := by decide +kernel
theorem dX12_below_42 : decode cX12_below 42 = .ok (.bipush (-2), 2) := by decide +kernel
theorem dX12_below_44 : decode cX12_below 44 = .ok (.ireturn, 1) := by decide +kernel
theorem dX12_below_34 : decode cX12_below 34 = .ok (.iload_n 2, 1) := by decide +kernel
theorem dX12_below_35 : decode cX12_below 35 = .ok (.ireturn, 1) := by decide +kernel
theorem dX12_below_13 : decode cX12_below 13 = .ok (.iconst (-1), 1) := by decide +kernel
theorem dX12_below_14 : decode cX12_below 14 = .ok (.ireturn, 1) := by decide +kernel
theorem dX12_count_0 : decode cX12_count 0 = .ok (.iload_n 1, 1) := by decide +kernel
theorem dX12_count_1 : decode cX12_count 1 = .ok (.tableswitch 108 0 9 #[55, 60, 65, 70, 75, 83, 88, 93, 98, 103], 55) := by decide +kernel
theorem dX12_count_109 : decode cX12_count 109 = .ok (.iload_n 1, 1) := by decide +kernel
theorem dX12_count_110 : decode cX12_count 110 = .ok (.bipush 10, 2) := by decide +kernel
theorem dX12_count_112 : decode cX12_count 112 = .ok (.bipush 9, 2) := by decide +kernel
theorem dX12_count_114 : decode cX12_count 114 = .ok (.aload_n 0, 1) := by decide +kernel
theorem dX12_count_115 : decode cX12_count 115 = .ok (.getfield 204, 3) := by decide +kernel
theorem dX12_count_118 : decode cX12_count 118 = .ok (.iadd, 1) := by decide +kernel
theorem dX12_count_119 : decode cX12_count 119 = .ok (.invokestatic 214, 3) := by decide +kernel
theorem dX12_count_122 : decode cX12_count 122 = .ok (.ifCond .eq 13, 3) := by decide +kernel
theorem dX12_count_135 : decode cX12_count 135 = .ok (.iload_n 1, 1) := by decide +kernel
theorem dX12_count_136 : decode cX12_count 136 = .ok (.bipush 20, 2) := by decide +kernel
theorem dX12_count_138 : decode cX12_count 138 = .ok (.bipush 19, 2) := by decide +kernel
theorem dX12_count_140 : decode cX12_count 140 = .ok (.aload_n 0, 1) := by decide +kernel
theorem dX12_count_141 : decode cX12_count 141 = .ok (.getfield 204, 3) := by decide +kernel
theorem dX12_count_144 : decode cX12_count 144 = .ok (.iadd, 1) := by decide +kernel
theorem dX12_count_145 : decode cX12_count 145 = .ok (.invokestatic 214, 3) := by decide +kernel
theorem dX12_count_148 : decode cX12_count 148 = .ok (.ifCond .eq 13, 3) := by decide +kernel
theorem dX12_count_161 : decode cX12_count 161 = .ok (.iload_n 1, 1) := by decide +kernel
theorem dX12_count_162 : decode cX12_count 162 = .ok (.bipush 30, 2) := by decide +kernel
theorem dX12_count_164 : decode cX12_count 164 = .ok (.bipush 29, 2) := by decide +kernel
theorem dX12_count_166 : decode cX12_count 166 = .ok (.aload_n 0, 1) := by decide +kernel
theorem dX12_count_167 : decode cX12_count 167 = .ok (.getfield 204, 3) := by decide +kernel
theorem dX12_count_170 : decode cX12_count 170 = .ok (.iadd, 1) := by decide +kernel
theorem dX12_count_171 : decode cX12_count 171 = .ok (.invokestatic 214, 3) := by decide +kernel
theorem dX12_count_174 : decode cX12_count 174 = .ok (.ifCond .eq 13, 3) := by decide +kernel
theorem dX12_count_187 : decode cX12_count 187 = .ok (.iload_n 1, 1) := by decide +kernel
theorem dX12_count_188 : decode cX12_count 188 = .ok (.bipush 40, 2) := by decide +kernel
theorem dX12_count_190 : decode cX12_count 190 = .ok (.bipush 39, 2) := by decide +kernel
theorem dX12_count_192 : decode cX12_count 192 = .ok (.aload_n 0, 1) := by decide +kernel
theorem dX12_count_193 : decode cX12_count 193 = .ok (.getfield 435, 3) := by decide +kernel
theorem dX12_count_196 : decode cX12_count 196 = .ok (.iadd, 1) := by decide +kernel
theorem dX12_count_197 : decode cX12_count 197 = .ok (.invokestatic 214, 3) := by decide +kernel
theorem dX12_count_200 : decode cX12_count 200 = .ok (.ifCond .eq 13, 3) := by decide +kernel
theorem dX12_count_213 : decode cX12_count 213 = .ok (.iload_n 1, 1) := by decide +kernel
theorem dX12_count_214 : decode cX12_count 214 = .ok (.bipush 50, 2) := by decide +kernel
theorem dX12_count_216 : decode cX12_count 216 = .ok (.bipush 49, 2) := by decide +kernel
theorem dX12_count_218 : decode cX12_count 218 = .ok (.aload_n 0, 1) := by decide +kernel
theorem dX12_count_219 : decode cX12_count 219 = .ok (.getfield 447, 3) := by decide +kernel
theorem dX12_count_222 : decode cX12_count 222 = .ok (.iadd, 1) := by decide +kernel
theorem dX12_count_223 : decode cX12_count 223 = .ok (.invokestatic 214, 3) := by decide +kernel
theorem dX12_count_226 : decode cX12_count 226 = .ok (.ifCond .eq 15, 3) := by decide +kernel
theorem dX12_count_241 : decode cX12_count 241 = .ok (.iconst (-1), 1) := by decide +kernel
theorem dX12_count_242 : decode cX12_count 242 = .ok (.ireturn, 1) := by decide +kernel
theorem dX12_count_56 : decode cX12_count 56 = .ok (.aload_n 0, 1) := by decide +kernel
theorem dX12_count_57 : decode cX12_count 57 = .ok (.getfield 211, 3) := by decide +kernel
theorem dX12_count_60 : decode cX12_count 60 = .ok (.ireturn, 1) := by decide +kernel
theorem dX12_count_61 : decode cX12_count 61 = .ok (.aload_n 0, 1) := by decide +kernel
theorem dX12_count_62 : decode cX12_count 62 = .ok (.getfield 204, 3) := by decide +kernel
theorem dX12_count_65 : decode cX12_count 65 = .ok (.ireturn, 1) := by decide +kernel
theorem dX12_count_66 : decode cX12_count 66 = .ok (.aload_n 0, 1) := by decide +kernel
theorem dX12_count_67 : decode cX12_count 67 = .ok (.getfield 208, 3) := by decide +kernel
theorem dX12_count_70 : decode cX12_count 70 = .ok (.ireturn, 1) := by decide +kernel
theorem dX12_count_71 : decode cX12_count 71 = .ok (.aload_n 0, 1) := by decide +kernel
theorem dX12_count_72 : decode cX12_count 72 = .ok (.getfield 226, 3) := by decide +kernel
theorem dX12_count_75 : decode cX12_count 75 = .ok (.ireturn, 1) := by decide +kernel
theorem dX12_count_76 : decode cX12_count 76 = .ok (.aload_n 0, 1) := by decide +kernel
theorem dX12_count_77 : decode cX12_count 77 = .ok (.getfield 74, 3) := by decide +kernel
theorem dX12_count_80 : decode cX12_count 80 = .ok (.bipush 10, 2) := by decide +kernel
theorem dX12_count_82 : decode cX12_count 82 = .ok (.iaload, 1) := by decide +kernel
theorem dX12_count_83 : decode cX12_count 83 = .ok (.ireturn, 1) := by decide +kernel
theorem dX12_count_84 : decode cX12_count 84 = .ok (.aload_n 0, 1) := by decide +kernel
theorem dX12_count_85 : decode cX12_count 85 = .ok (.getfield 435, 3) := by decide +kernel
theorem dX12_count_88 : decode cX12_count 88 = .ok (.ireturn, 1) := by decide +kernel
theorem dX12_count_89 : decode cX12_count 89 = .ok (.aload_n 0, 1) := by decide +kernel
theorem dX12_count_90 : decode cX12_count 90 = .ok (.getfield 447, 3) := by decide +kernel
theorem dX12_count_93 : decode cX12_count 93 = .ok (.ireturn, 1) := by decide +kernel
theorem dX12_count_94 : decode cX12_count 94 = .ok (.aload_n 0, 1) := by decide +kernel
theorem dX12_count_95 : decode cX12_count 95 = .ok (.getfield 478, 3) := by decide +kernel
theorem dX12_count_98 : decode cX12_count 98 = .ok (.ireturn, 1) := by decide +kernel
theorem dX12_count_99 : decode cX12_count 99 = .ok (.aload_n 0, 1) := by decide +kernel
theorem dX12_count_100 : decode cX12_count 100 = .ok (.getfield 386, 3) := by decide +kernel
theorem dX12_count_103 : decode cX12_count 103 = .ok (.ireturn, 1) := by decide +kernel
theorem dX12_count_104 : decode cX12_count 104 = .ok (.aload_n 0, 1) := by decide +kernel
theorem dX12_count_105 : decode cX12_count 105 = .ok (.getfield 407, 3) := by decide +kernel
theorem dX12_count_108 : decode cX12_count 108 = .ok (.ireturn, 1) := by decide +kernel
set_option maxRecDepth 100000 in
set_option maxHeartbeats 4000000 in
theorem q_M_batch (l : Launch) (D : va_G) (cI cB cZ : ClassId) (g : Nat → Nat) (v0 : Int32) : Met l yX12_batch (CWS yX12_batch cX12_batch 4 (some .int)) (RM 3 0 0) (PBr [.ref (g 100), .int v0] D cI cB cZ [((g 100), .inr (13, oM g))]) (vp_Si (fun r => r = -1)) 0 0 (fun _ => False) := by
  refine Met.ofW (cc := cX12_batch) (maxL := 4) (ret := (some .int)) (by decide) rfl ?_
  intro p e s m args below meth c s₁ B hml hv
  obtain ⟨rfl, hP, hK⟩ := hv
  have hx := B.exec
  have hb := B.bytes
  have hr := B.returns
  have hts := atoms_spec (ws := (CWS yX12_batch cX12_batch 4 (some .int))) B.pre
  have hown : s.vm.findClass RX12 = some m.cls := findClass_of_methodNamed B.named
  have hlocks := B.notSynchronized
  have S : SF p m c cX12_batch 4 s ([.ref (g 100), .int v0]).toArray RX12 := ⟨hx, hb, hml, hown, fun w h => hts w (List.mem_cons_of_mem _ h)⟩
  have hP : va_P D vwCl [((g 100), .inr (13, oM g))] s.heap := hP
  have hl := lv_entry ([.ref (g 100), .int v0]) (n := 4) (Nat.le_of_ble_eq_true rfl)
  rw [lg_entry_eq]
  generalize (lg_sl ([.ref (g 100), .int v0]) ++ List.replicate (4 - (lg_sl ([.ref (g 100), .int v0])).length) Slot.unset).toArray = ls at hl ⊢
  have hl : lv_has ls 4 [(0, .ref (g 100)), (1, .int v0)] := hl
  refine lv_iload_n hx hb dX12_batch_0 rfl (lv_at hl 1 rfl) ?_
  refine lv_iconst (v := 1) hx hb dX12_batch_1 (by decide) ?_
  refine lv_ldcw (v := 1048575) hx hb hown (S.2.2.2.2 _ (wT_tab 1881 rfl rfl)) dX12_batch_2 ?_
  refine vp_callSi (runS_r (As := [.int v0, .int 1, .int 1048575]) (rest := []) S (q_in l D cI cB cZ v0 1 1048575) kS_RX12_214 hK hP [] rfl ⟨Nat.le_of_ble_eq_true rfl, Nat.le_of_ble_eq_true rfl⟩ ⟨Nat.le_of_ble_eq_true rfl, Nat.le_of_ble_eq_true rfl⟩ rfl hl.1 rfl (Nat.le_of_ble_eq_true rfl) dX12_batch_5) (fun r_1 h_2 => ?_)
  rcases h_2 with ⟨rfl, h_2⟩ | ⟨rfl, h_2⟩
  ·
    have h_2 : 1 ≤ v0.toInt ∧ v0.toInt ≤ 1048575 := h_2
    refine lv_if_eq (tgt := 20) hx hb dX12_batch_8 (by decide) (fun h => absurd h (by decide)) (fun _ => ?_)
    refine lv_aload_n hx hb dX12_batch_11 rfl (lv_at hl 0 rfl) ?_
    refine gf_RX12_435 S hK hP 0 rfl (v := .int 0) rfl dX12_batch_12 ?_
    refine lv_bipush (v := 10) hx hb dX12_batch_15 (by decide) ?_
    refine lv_icmp_ne (tgt := 22) hx hb dX12_batch_17 (by decide) (fun _ => ?_) (fun h => absurd h (by decide))
    obtain ⟨w0, hw, rfl⟩ := nI_of (x := v0) (fun q => by have := Int32.lt_iff_toInt_lt.mp q; have e : (0 : Int32).toInt = 0 := rfl; omega)
    have tw : (nI w0).toInt = (w0 : Int) := nI_toInt hw
    refine lv_iconst (v := 0) hx hb dX12_batch_22 (by decide) ?_
    refine lv_istore_n (lv' := [(2, .int 0), (0, .ref (g 100)), (1, .int (nI w0))]) hx hb dX12_batch_23 rfl hl (by decide) rfl (fun ls hl => ?_)
    have lp_24 : ∀ (n i : Nat), 20 + 1 ≤ i + n → i ≤ 20 → w0 % 2 ^ i = 0 → ∀ ls : Array Slot, lv_has ls 4 [(2, .int (nI i)), (0, .ref (g 100)), (1, .int (nI w0))] → W p l e (RM 3 0 0) s m ([.ref (g 100), .int (nI w0)]).toArray below meth c s.heap [] 0 0 (MQ below (vp_Si (fun r => r = -1)) ([.ref (g 100), .int (nI w0)]).toArray s 0 0 (fun _ => False)) (F0 m 24 ls []) := by
      intro n
      induction n with
      | zero => intro i h1 h2; exact absurd h1 (by omega)
      | succ n ih =>
        intro i hn1 hi hinv ls hl
        have ti : (nI i).toInt = (i : Int) := nI_toInt (by omega)
        obtain ⟨q, hq⟩ : ∃ q : Nat, q = w0 / 2 ^ i % 2 := ⟨_, rfl⟩
        have hq2 : q < 2 := by rw [hq]; exact Nat.mod_lt _ (by decide)
        have tq : (nI q).toInt = (q : Int) := nI_toInt (by omega)
        refine lv_iload_n hx hb dX12_batch_24 rfl (lv_at hl 0 rfl) ?_
        refine lv_bipush (v := 20) hx hb dX12_batch_25 (by decide) ?_
        refine lv_icmp_ge (tgt := 55) hx hb dX12_batch_27 (by decide) (fun c_3 => False.elim (by have tc_3 : (20 : Int) ≤ (nI i).toInt := Int32.le_iff_toInt_le.mp c_3; exact bit_dead hinv (by omega) (by omega) (by omega) (by omega))) (fun c_3 => ?_)
        have tc_3 : ((nI i).toInt : Int) < 20 := Int32.lt_iff_toInt_lt.mp (Int32.not_le.mp c_3)
        refine lv_iload_n hx hb dX12_batch_30 rfl (lv_at hl 2 rfl) ?_
        refine lv_iload_n hx hb dX12_batch_31 rfl (lv_at hl 0 rfl) ?_
        refine lv_ishr hx hb dX12_batch_32 ?_
        refine lv_iconst (v := 1) hx hb dX12_batch_33 (by decide) ?_
        refine lv_iand hx hb dX12_batch_34 ?_
        refine lv_topi (fun y_4 ey_4 => ?_)
        obtain rfl : y_4 = (nI q) := ey_4.trans ((bitq hw (by omega)).trans (congrArg nI hq.symm))
        refine lv_iconst (v := 1) hx hb dX12_batch_35 (by decide) ?_
        refine lv_icmp_ne (tgt := 49) hx hb dX12_batch_36 (by decide) (fun c_5 => ?_) (fun c_5 => ?_)
        ·
          have tc_5 : ((nI q).toInt : Int) ≠ 1 := fun q => c_5 (Int32.toInt_inj.mp q)
          refine lv_iinc (v := (nI (i + 1))) (lv' := [(2, .int (nI (i + 1))), (0, .ref (g 100)), (1, .int (nI w0))]) hx hb dX12_batch_49 hl (k := 0) rfl (nI_1 _) (by decide) rfl (fun ls hl => ?_)
          refine lv_goto (tgt := 24) hx hb dX12_batch_52 (by decide) ?_
          exact ih (i + 1) (by omega) (by omega) (bit_step hinv (hq.symm.trans (by omega))) ls (lv_sub hl [0, 1, 2] rfl)
        ·
          have tc_5 : ((nI q).toInt : Int) = 1 := congrArg Int32.toInt c_5
          refine lv_aload_n hx hb dX12_batch_39 rfl (lv_at hl 1 rfl) ?_
          refine lv_iload_n hx hb dX12_batch_40 rfl (lv_at hl 0 rfl) ?_
          refine vp_callSi (runV_r (As := [.int (nI i)]) (rest := []) S (q_misFree l D cI cB cZ g (nI i)) kV_RX12_438 hK hP [0] rfl 0 rfl rfl rfl ⟨Nat.le_of_ble_eq_true rfl, Nat.le_of_ble_eq_true rfl⟩ ⟨Nat.le_of_ble_eq_true rfl, Nat.le_of_ble_eq_true rfl⟩ rfl hl.1 rfl (Nat.le_of_ble_eq_true rfl) dX12_batch_41) (fun r_6 h_7 => ?_)
          subst h_7
          refine lv_if_ne (tgt := 49) hx hb dX12_batch_44 (by decide) (fun h => absurd h (by decide)) (fun _ => ?_)
          refine lv_iconst (v := (-1)) hx hb dX12_batch_47 (by decide) ?_
          exact W.iret (v := (-1)) hx hb hr (fun t ht hW => ⟨(-1), rfl, rfl, ht⟩) (fun _ h => absurd h List.not_mem_nil) dX12_batch_48
    exact lp_24 (20 + 1) 0 (by omega) (by omega) (Nat.mod_one _) ls (lv_sub hl [0, 1, 2] rfl)
  ·
    have h_2 : ¬ (1 ≤ v0.toInt ∧ v0.toInt ≤ 1048575) := h_2
    refine lv_if_eq (tgt := 20) hx hb dX12_batch_8 (by decide) (fun _ => ?_) (fun h => absurd h (by decide))
    refine lv_iconst (v := (-1)) hx hb dX12_batch_20 (by decide) ?_
    exact W.iret (v := (-1)) hx hb hr (fun t ht hW => ⟨(-1), rfl, rfl, ht⟩) (fun _ h => absurd h List.not_mem_nil) dX12_batch_21
set_option maxRecDepth 100000 in
set_option maxHeartbeats 4000000 in
theorem q_M_blend (l : Launch) (D : va_G) (cI cB cZ : ClassId) (g : Nat → Nat) : Met l yX12_blend (CWS yX12_blend cX12_blend 7 (some .int)) (RM 3 0 0) (PBr [.ref (g 100)] D cI cB cZ [((g 100), .inr (13, oM g))]) (vp_Si (fun r => r = 0)) 0 0 (fun _ => False) := by
  refine Met.ofW (cc := cX12_blend) (maxL := 7) (ret := (some .int)) (by decide) rfl ?_
  intro p e s m args below meth c s₁ B hml hv
  obtain ⟨rfl, hP, hK⟩ := hv
  have hx := B.exec
  have hb := B.bytes
  have hr := B.returns
  have hts := atoms_spec (ws := (CWS yX12_blend cX12_blend 7 (some .int))) B.pre
  have hown : s.vm.findClass RX12 = some m.cls := findClass_of_methodNamed B.named
  have hlocks := B.notSynchronized
  have S : SF p m c cX12_blend 7 s ([.ref (g 100)]).toArray RX12 := ⟨hx, hb, hml, hown, fun w h => hts w (List.mem_cons_of_mem _ h)⟩
  have hP : va_P D vwCl [((g 100), .inr (13, oM g))] s.heap := hP
  have hl := lv_entry ([.ref (g 100)]) (n := 7) (Nat.le_of_ble_eq_true rfl)
  rw [lg_entry_eq]
  generalize (lg_sl ([.ref (g 100)]) ++ List.replicate (7 - (lg_sl ([.ref (g 100)])).length) Slot.unset).toArray = ls at hl ⊢
  have hl : lv_has ls 7 [(0, .ref (g 100))] := hl
  refine lv_iconst (v := 0) hx hb dX12_blend_0 (by decide) ?_
  refine lv_istore_n (lv' := [(1, .int 0), (0, .ref (g 100))]) hx hb dX12_blend_1 rfl hl (by decide) rfl (fun ls hl => ?_)
  refine lv_iconst (v := 0) hx hb dX12_blend_2 (by decide) ?_
  refine lv_istore_n (lv' := [(2, .int 0), (1, .int 0), (0, .ref (g 100))]) hx hb dX12_blend_3 rfl hl (by decide) rfl (fun ls hl => ?_)
  have lp_4 : ∀ (n i : Nat), 20 + 1 ≤ i + n → i ≤ 20 → ∀ ls : Array Slot, lv_has ls 7 [(2, .int (nI i)), (1, .int 0), (0, .ref (g 100))] → W p l e (RM 3 0 0) s m ([.ref (g 100)]).toArray below meth c s.heap [] 0 0 (MQ below (vp_Si (fun r => r = 0)) ([.ref (g 100)]).toArray s 0 0 (fun _ => False)) (F0 m 4 ls []) := by
    intro n
    induction n with
    | zero => intro i h1 h2; exact absurd h1 (by omega)
    | succ n ih =>
      intro i hn1 hi ls hl
      have ti : (nI i).toInt = (i : Int) := nI_toInt (by omega)
      refine lv_iload_n hx hb dX12_blend_4 rfl (lv_at hl 0 rfl) ?_
      refine lv_bipush (v := 20) hx hb dX12_blend_5 (by decide) ?_
      refine lv_icmp_ge (tgt := 44) hx hb dX12_blend_7 (by decide) (fun c_1 => ?_) (fun c_1 => ?_)
      ·
        have tc_1 : (20 : Int) ≤ (nI i).toInt := Int32.le_iff_toInt_le.mp c_1
        refine lv_iconst (v := 0) hx hb dX12_blend_44 (by decide) ?_
        refine lv_istore_n (lv' := [(2, .int 0), (1, .int 0), (0, .ref (g 100))]) hx hb dX12_blend_45 rfl hl (by decide) rfl (fun ls hl => ?_)
        refine lv_iconst (v := 0) hx hb dX12_blend_46 (by decide) ?_
        refine lv_istore_n (lv' := [(3, .int 0), (2, .int 0), (1, .int 0), (0, .ref (g 100))]) hx hb dX12_blend_47 rfl hl (by decide) rfl (fun ls hl => ?_)
        refine lv_iconst (v := 1) hx hb dX12_blend_48 (by decide) ?_
        refine lv_istore (lv' := [(4, .int 1), (3, .int 0), (2, .int 0), (1, .int 0), (0, .ref (g 100))]) hx hb dX12_blend_49 hl (by decide) rfl (fun ls hl => ?_)
        refine lv_iload hx hb dX12_blend_51 (lv_at hl 0 rfl) ?_
        refine lv_iconst (v := 1) hx hb dX12_blend_53 (by decide) ?_
        refine lv_iload_n hx hb dX12_blend_54 rfl (lv_at hl 3 rfl) ?_
        refine lv_ishl hx hb dX12_blend_55 ?_
        refine lv_topi (fun y_2 ey_2 => ?_)
        obtain rfl : y_2 = 1 := ey_2.trans (by decide)
        refine lv_icmp_ge (tgt := 166) hx hb dX12_blend_56 (by decide) (fun _ => ?_) (fun h => absurd h (by decide))
        refine lv_iload_n hx hb dX12_blend_166 rfl (lv_at hl 2 rfl) ?_
        exact W.iret (v := 0) hx hb hr (fun t ht hW => ⟨0, rfl, rfl, ht⟩) (fun _ h => absurd h List.not_mem_nil) dX12_blend_167
      ·
        have tc_1 : ((nI i).toInt : Int) < 20 := Int32.lt_iff_toInt_lt.mp (Int32.not_le.mp c_1)
        refine lv_iload_n hx hb dX12_blend_10 rfl (lv_at hl 1 rfl) ?_
        refine lv_bipush (v := 12) hx hb dX12_blend_11 (by decide) ?_
        refine lv_icmp_ge (tgt := 44) hx hb dX12_blend_13 (by decide) (fun h => absurd h (by decide)) (fun _ => ?_)
        refine lv_aload_n hx hb dX12_blend_16 rfl (lv_at hl 2 rfl) ?_
        refine lv_iload_n hx hb dX12_blend_17 rfl (lv_at hl 0 rfl) ?_
        refine vp_callSi (runV_r (As := [.int (nI i)]) (rest := []) S (q_misFree l D cI cB cZ g (nI i)) kV_RX12_438 hK hP [0] rfl 0 rfl rfl rfl ⟨Nat.le_of_ble_eq_true rfl, Nat.le_of_ble_eq_true rfl⟩ ⟨Nat.le_of_ble_eq_true rfl, Nat.le_of_ble_eq_true rfl⟩ rfl hl.1 rfl (Nat.le_of_ble_eq_true rfl) dX12_blend_18) (fun r_3 h_4 => ?_)
        subst h_4
        refine lv_if_ne (tgt := 27) hx hb dX12_blend_21 (by decide) (fun h => absurd h (by decide)) (fun _ => ?_)
        refine lv_goto (tgt := 38) hx hb dX12_blend_24 (by decide) ?_
        refine lv_iinc (v := (nI (i + 1))) (lv' := [(2, .int (nI (i + 1))), (1, .int 0), (0, .ref (g 100))]) hx hb dX12_blend_38 hl (k := 0) rfl (nI_1 _) (by decide) rfl (fun ls hl => ?_)
        refine lv_goto (tgt := 4) hx hb dX12_blend_41 (by decide) ?_
        exact ih (i + 1) (by omega) (by omega) ls (lv_sub hl [0, 1, 2] rfl)
  exact lp_4 (20 + 1) 0 (by omega) (by omega) ls (lv_sub hl [0, 1, 2] rfl)
set_option maxRecDepth 100000 in
set_option maxHeartbeats 4000000 in
theorem q_M_overdrawn (l : Launch) (D : va_G) (cI cB cZ : ClassId) (g : Nat → Nat) (v0 : Int32) : Met l yX12_overdrawn (CWS yX12_overdrawn cX12_overdrawn 6 (some .int)) (RM 3 0 0) (PBr [.ref (g 100), .int v0] D cI cB cZ [((g 100), .inr (13, oM g)), ((g 78), .inl (cI, 10, .inl (fun _ => 0)))]) (vp_Si (fun r => r = (if 0 ≤ v0.toInt ∧ v0.toInt ≤ 57 then (0 : Int32) else -1))) 0 0 (fun _ => False) := by
  refine Met.ofW (cc := cX12_overdrawn) (maxL := 6) (ret := (some .int)) (by decide) rfl ?_
  intro p e s m args below meth c s₁ B hml hv
  obtain ⟨rfl, hP, hK⟩ := hv
  have hx := B.exec
  have hb := B.bytes
  have hr := B.returns
  have hts := atoms_spec (ws := (CWS yX12_overdrawn cX12_overdrawn 6 (some .int))) B.pre
  have hown : s.vm.findClass RX12 = some m.cls := findClass_of_methodNamed B.named
  have hlocks := B.notSynchronized
  have S : SF p m c cX12_overdrawn 6 s ([.ref (g 100), .int v0]).toArray RX12 := ⟨hx, hb, hml, hown, fun w h => hts w (List.mem_cons_of_mem _ h)⟩
  have hP : va_P D vwCl [((g 100), .inr (13, oM g)), ((g 78), .inl (cI, 10, .inl (fun _ => 0)))] s.heap := hP
  have hl := lv_entry ([.ref (g 100), .int v0]) (n := 6) (Nat.le_of_ble_eq_true rfl)
  rw [lg_entry_eq]
  generalize (lg_sl ([.ref (g 100), .int v0]) ++ List.replicate (6 - (lg_sl ([.ref (g 100), .int v0])).length) Slot.unset).toArray = ls at hl ⊢
  have hl : lv_has ls 6 [(0, .ref (g 100)), (1, .int v0)] := hl
  refine lv_iload_n hx hb dX12_overdrawn_0 rfl (lv_at hl 1 rfl) ?_
  refine lv_iconst (v := 0) hx hb dX12_overdrawn_1 (by decide) ?_
  refine lv_bipush (v := 57) hx hb dX12_overdrawn_2 (by decide) ?_
  refine vp_callSi (runS_r (As := [.int v0, .int 0, .int 57]) (rest := []) S (q_in l D cI cB cZ v0 0 57) kS_RX12_214 hK hP [] rfl ⟨Nat.le_of_ble_eq_true rfl, Nat.le_of_ble_eq_true rfl⟩ ⟨Nat.le_of_ble_eq_true rfl, Nat.le_of_ble_eq_true rfl⟩ rfl hl.1 rfl (Nat.le_of_ble_eq_true rfl) dX12_overdrawn_4) (fun r_1 h_2 => ?_)
  rcases h_2 with ⟨rfl, h_2⟩ | ⟨rfl, h_2⟩
  ·
    have h_2 : 0 ≤ v0.toInt ∧ v0.toInt ≤ 57 := h_2
    refine lv_if_ne (tgt := 12) hx hb dX12_overdrawn_7 (by decide) (fun _ => ?_) (fun h => absurd h (by decide))
    refine lv_iconst (v := 0) hx hb dX12_overdrawn_12 (by decide) ?_
    refine lv_istore_n (lv' := [(2, .int 0), (0, .ref (g 100)), (1, .int v0)]) hx hb dX12_overdrawn_13 rfl hl (by decide) rfl (fun ls hl => ?_)
    refine lv_iconst (v := 0) hx hb dX12_overdrawn_14 (by decide) ?_
    refine lv_istore_n (lv' := [(3, .int 0), (2, .int 0), (0, .ref (g 100)), (1, .int v0)]) hx hb dX12_overdrawn_15 rfl hl (by decide) rfl (fun ls hl => ?_)
    have lp_16 : ∀ (n i : Nat), 10 + 1 ≤ i + n → i ≤ 10 → ∀ ls : Array Slot, lv_has ls 6 [(3, .int (nI i)), (2, .int 0), (0, .ref (g 100)), (1, .int v0)] → W p l e (RM 3 0 0) s m ([.ref (g 100), .int v0]).toArray below meth c s.heap [] 0 0 (MQ below (vp_Si (fun r => r = (if 0 ≤ v0.toInt ∧ v0.toInt ≤ 57 then (0 : Int32) else -1))) ([.ref (g 100), .int v0]).toArray s 0 0 (fun _ => False)) (F0 m 16 ls []) := by
      intro n
      induction n with
      | zero => intro i h1 h2; exact absurd h1 (by omega)
      | succ n ih =>
        intro i hn1 hi ls hl
        have ti : (nI i).toInt = (i : Int) := nI_toInt (by omega)
        refine lv_iload_n hx hb dX12_overdrawn_16 rfl (lv_at hl 0 rfl) ?_
        refine lv_bipush (v := 10) hx hb dX12_overdrawn_17 (by decide) ?_
        refine lv_icmp_ge (tgt := 119) hx hb dX12_overdrawn_19 (by decide) (fun c_3 => ?_) (fun c_3 => ?_)
        ·
          have tc_3 : (10 : Int) ≤ (nI i).toInt := Int32.le_iff_toInt_le.mp c_3
          refine lv_iload_n hx hb dX12_overdrawn_119 rfl (lv_at hl 1 rfl) ?_
          exact W.iret (v := 0) hx hb hr (fun t ht hW => ⟨0, rfl, (if_pos (by omega)).symm, ht⟩) (fun _ h => absurd h List.not_mem_nil) dX12_overdrawn_120
        ·
          have tc_3 : ((nI i).toInt : Int) < 10 := Int32.lt_iff_toInt_lt.mp (Int32.not_le.mp c_3)
          refine lv_iconst (v := 0) hx hb dX12_overdrawn_22 (by decide) ?_
          refine lv_istore (lv' := [(4, .int 0), (3, .int (nI i)), (2, .int 0), (0, .ref (g 100)), (1, .int v0)]) hx hb dX12_overdrawn_23 hl (by decide) rfl (fun ls hl => ?_)
          refine lv_iconst (v := 0) hx hb dX12_overdrawn_25 (by decide) ?_
          refine lv_istore (lv' := [(5, .int 0), (4, .int 0), (3, .int (nI i)), (2, .int 0), (0, .ref (g 100)), (1, .int v0)]) hx hb dX12_overdrawn_26 hl (by decide) rfl (fun ls hl => ?_)
          refine lv_iload hx hb dX12_overdrawn_28 (lv_at hl 0 rfl) ?_
          refine lv_aload_n hx hb dX12_overdrawn_30 rfl (lv_at hl 4 rfl) ?_
          refine gf_RX12_447 S hK hP 0 rfl (v := .int 0) rfl dX12_overdrawn_31 ?_
          refine lv_icmp_ge (tgt := 92) hx hb dX12_overdrawn_34 (by decide) (fun _ => ?_) (fun h => absurd h (by decide))
          refine lv_iload hx hb dX12_overdrawn_92 (lv_at hl 1 rfl) ?_
          refine lv_aload_n hx hb dX12_overdrawn_94 rfl (lv_at hl 4 rfl) ?_
          refine gf_RX12_168 S hK hP 0 rfl (v := .ref (g 78)) rfl dX12_overdrawn_95 ?_
          refine lv_iload_n hx hb dX12_overdrawn_98 rfl (lv_at hl 2 rfl) ?_
          refine va_iald hx hb hK.1 hP 1 0 rfl rfl (vp_in_iff.mpr ⟨by omega, by omega⟩) dX12_overdrawn_99 ?_
          refine lv_topi (fun y_4 ey_4 => ?_)
          obtain rfl : y_4 = 0 := ey_4
          refine lv_icmp_le (tgt := 111) hx hb dX12_overdrawn_100 (by decide) (fun _ => ?_) (fun h => absurd h (by decide))
          refine lv_iload_n hx hb dX12_overdrawn_111 rfl (lv_at hl 3 rfl) ?_
          refine lv_istore_n (lv' := [(2, .int 0), (5, .int 0), (4, .int 0), (3, .int (nI i)), (0, .ref (g 100)), (1, .int v0)]) hx hb dX12_overdrawn_112 rfl hl (by decide) rfl (fun ls hl => ?_)
          refine lv_iinc (v := (nI (i + 1))) (lv' := [(3, .int (nI (i + 1))), (2, .int 0), (5, .int 0), (4, .int 0), (0, .ref (g 100)), (1, .int v0)]) hx hb dX12_overdrawn_113 hl (k := 3) rfl (nI_1 _) (by decide) rfl (fun ls hl => ?_)
          refine lv_goto (tgt := 16) hx hb dX12_overdrawn_116 (by decide) ?_
          exact ih (i + 1) (by omega) (by omega) ls (lv_sub hl [0, 1, 4, 5] rfl)
    exact lp_16 (10 + 1) 0 (by omega) (by omega) ls (lv_sub hl [0, 1, 2, 3] rfl)
  ·
    have h_2 : ¬ (0 ≤ v0.toInt ∧ v0.toInt ≤ 57) := h_2
    refine lv_if_ne (tgt := 12) hx hb dX12_overdrawn_7 (by decide) (fun h => absurd h (by decide)) (fun _ => ?_)
    refine lv_iconst (v := (-1)) hx hb dX12_overdrawn_10 (by decide) ?_
    exact W.iret (v := (-1)) hx hb hr (fun t ht hW => ⟨(-1), rfl, (if_neg (by omega)).symm, ht⟩) (fun _ h => absurd h List.not_mem_nil) dX12_overdrawn_11
set_option maxRecDepth 100000 in
set_option maxHeartbeats 4000000 in
theorem q_mcomers (l : Launch) (D : va_G) (cI cB cZ : ClassId) (g : Nat → Nat) (v0 : Int32) : Met l yX12_comers (CWS yX12_comers cX12_comers 4 (some .int)) (RM 0 0 0) (PBr [.ref (g 100), .int v0] D cI cB cZ [((g 100), .inr (13, oM g))]) (vp_Si (fun r => r = 0)) 0 0 (fun _ => False) := by
  refine Met.ofW (cc := cX12_comers) (maxL := 4) (ret := (some .int)) (by decide) rfl ?_
  intro p e s m args below meth c s₁ B hml hv
  obtain ⟨rfl, hP, hK⟩ := hv
  have hx := B.exec
  have hb := B.bytes
  have hr := B.returns
  have hts := atoms_spec (ws := (CWS yX12_comers cX12_comers 4 (some .int))) B.pre
  have hown : s.vm.findClass RX12 = some m.cls := findClass_of_methodNamed B.named
  have hlocks := B.notSynchronized
  have S : SF p m c cX12_comers 4 s ([.ref (g 100), .int v0]).toArray RX12 := ⟨hx, hb, hml, hown, fun w h => hts w (List.mem_cons_of_mem _ h)⟩
  have hP : va_P D vwCl [((g 100), .inr (13, oM g))] s.heap := hP
  have hl := lv_entry ([.ref (g 100), .int v0]) (n := 4) (Nat.le_of_ble_eq_true rfl)
  rw [lg_entry_eq]
  generalize (lg_sl ([.ref (g 100), .int v0]) ++ List.replicate (4 - (lg_sl ([.ref (g 100), .int v0])).length) Slot.unset).toArray = ls at hl ⊢
  have hl : lv_has ls 4 [(0, .ref (g 100)), (1, .int v0)] := hl
  refine lv_iconst (v := 0) hx hb dX12_comers_0 (by decide) ?_
  refine lv_istore_n (lv' := [(2, .int 0), (0, .ref (g 100)), (1, .int v0)]) hx hb dX12_comers_1 rfl hl (by decide) rfl (fun ls hl => ?_)
  refine lv_iconst (v := 0) hx hb dX12_comers_2 (by decide) ?_
  refine lv_istore_n (lv' := [(3, .int 0), (2, .int 0), (0, .ref (g 100)), (1, .int v0)]) hx hb dX12_comers_3 rfl hl (by decide) rfl (fun ls hl => ?_)
  refine lv_iload_n hx hb dX12_comers_4 rfl (lv_at hl 0 rfl) ?_
  refine lv_aload_n hx hb dX12_comers_5 rfl (lv_at hl 2 rfl) ?_
  refine gf_RX12_204 S hK hP 0 rfl (v := .int 0) rfl dX12_comers_6 ?_
  refine lv_icmp_ge (tgt := 48) hx hb dX12_comers_9 (by decide) (fun _ => ?_) (fun h => absurd h (by decide))
  refine lv_iload_n hx hb dX12_comers_48 rfl (lv_at hl 1 rfl) ?_
  exact W.iret (v := 0) hx hb hr (fun t ht hW => ⟨0, rfl, rfl, ht⟩) (fun _ h => absurd h List.not_mem_nil) dX12_comers_49
set_option maxRecDepth 100000 in
set_option maxHeartbeats 4000000 in
theorem q_mworthOf (l : Launch) (D : va_G) (cI cB cZ : ClassId) (g : Nat → Nat) (v0 v1 : Int32) : Met l yX12_worthOf (CWS yX12_worthOf cX12_worthOf 6 (some .int)) (RM 1 0 0) (PBr [.ref (g 100), .int v0, .int v1] D cI cB cZ [((g 100), .inr (13, oM g))]) (vp_Si (fun r => r = 0)) 0 0 (fun _ => False) := by
  refine Met.ofW (cc := cX12_worthOf) (maxL := 6) (ret := (some .int)) (by decide) rfl ?_
  intro p e s m args below meth c s₁ B hml hv
  obtain ⟨rfl, hP, hK⟩ := hv
  have hx := B.exec
  have hb := B.bytes
  have hr := B.returns
  have hts := atoms_spec (ws := (CWS yX12_worthOf cX12_worthOf 6 (some .int))) B.pre
  have hown : s.vm.findClass RX12 = some m.cls := findClass_of_methodNamed B.named
  have hlocks := B.notSynchronized
  have S : SF p m c cX12_worthOf 6 s ([.ref (g 100), .int v0, .int v1]).toArray RX12 := ⟨hx, hb, hml, hown, fun w h => hts w (List.mem_cons_of_mem _ h)⟩
  have hP : va_P D vwCl [((g 100), .inr (13, oM g))] s.heap := hP
  have hl := lv_entry ([.ref (g 100), .int v0, .int v1]) (n := 6) (Nat.le_of_ble_eq_true rfl)
  rw [lg_entry_eq]
  generalize (lg_sl ([.ref (g 100), .int v0, .int v1]) ++ List.replicate (6 - (lg_sl ([.ref (g 100), .int v0, .int v1])).length) Slot.unset).toArray = ls at hl ⊢
  have hl : lv_has ls 6 [(0, .ref (g 100)), (1, .int v0), (2, .int v1)] := hl
  refine lv_aload_n hx hb dX12_worthOf_0 rfl (lv_at hl 0 rfl) ?_
  refine lv_iload_n hx hb dX12_worthOf_1 rfl (lv_at hl 1 rfl) ?_
  refine vp_callSi (runV_r (As := [.int v0]) (rest := []) S (q_mcomers l D cI cB cZ g v0) kV_RX12_469 hK hP [0] rfl 0 rfl rfl rfl ⟨Nat.le_of_ble_eq_true rfl, Nat.le_of_ble_eq_true rfl⟩ ⟨Nat.le_of_ble_eq_true rfl, Nat.le_of_ble_eq_true rfl⟩ rfl hl.1 rfl (Nat.le_of_ble_eq_true rfl) dX12_worthOf_2) (fun r_1 h_2 => ?_)
  subst h_2
  refine lv_istore_n (lv' := [(3, .int 0), (0, .ref (g 100)), (1, .int v0), (2, .int v1)]) hx hb dX12_worthOf_5 rfl hl (by decide) rfl (fun ls hl => ?_)
  refine lv_iconst (v := 0) hx hb dX12_worthOf_6 (by decide) ?_
  refine lv_istore (lv' := [(4, .int 0), (3, .int 0), (0, .ref (g 100)), (1, .int v0), (2, .int v1)]) hx hb dX12_worthOf_7 hl (by decide) rfl (fun ls hl => ?_)
  refine lv_iconst (v := 0) hx hb dX12_worthOf_9 (by decide) ?_
  refine lv_istore (lv' := [(5, .int 0), (4, .int 0), (3, .int 0), (0, .ref (g 100)), (1, .int v0), (2, .int v1)]) hx hb dX12_worthOf_10 hl (by decide) rfl (fun ls hl => ?_)
  refine lv_iload hx hb dX12_worthOf_12 (lv_at hl 0 rfl) ?_
  refine lv_aload_n hx hb dX12_worthOf_14 rfl (lv_at hl 3 rfl) ?_
  refine gf_RX12_204 S hK hP 0 rfl (v := .int 0) rfl dX12_worthOf_15 ?_
  refine lv_icmp_ge (tgt := 50) hx hb dX12_worthOf_18 (by decide) (fun _ => ?_) (fun h => absurd h (by decide))
  refine lv_iload hx hb dX12_worthOf_50 (lv_at hl 1 rfl) ?_
  exact W.iret (v := 0) hx hb hr (fun t ht hW => ⟨0, rfl, rfl, ht⟩) (fun _ h => absurd h List.not_mem_nil) dX12_worthOf_52
set_option maxRecDepth 100000 in
set_option maxHeartbeats 4000000 in
theorem q_M_worth (l : Launch) (D : va_G) (cI cB cZ : ClassId) (g : Nat → Nat) (v0 v1 : Int32) : Met l yX12_worth (CWS yX12_worth cX12_worth 3 (some .int)) (RM 3 0 0) (PBr [.ref (g 100), .int v0, .int v1] D cI cB cZ [((g 100), .inr (13, oM g))]) (vp_Si (fun r => r = (if (0 ≤ v0.toInt ∧ v0.toInt ≤ 200) ∧ 0 ≤ v1.toInt ∧ v1.toInt ≤ 1000 then (0 : Int32) else -1000000))) 0 0 (fun _ => False) := by
  refine Met.ofW (cc := cX12_worth) (maxL := 3) (ret := (some .int)) (by decide) rfl ?_
  intro p e s m args below meth c s₁ B hml hv
  obtain ⟨rfl, hP, hK⟩ := hv
  have hx := B.exec
  have hb := B.bytes
  have hr := B.returns
  have hts := atoms_spec (ws := (CWS yX12_worth cX12_worth 3 (some .int))) B.pre
  have hown : s.vm.findClass RX12 = some m.cls := findClass_of_methodNamed B.named
  have hlocks := B.notSynchronized
  have S : SF p m c cX12_worth 3 s ([.ref (g 100), .int v0, .int v1]).toArray RX12 := ⟨hx, hb, hml, hown, fun w h => hts w (List.mem_cons_of_mem _ h)⟩
  have hP : va_P D vwCl [((g 100), .inr (13, oM g))] s.heap := hP
  have hl := lv_entry ([.ref (g 100), .int v0, .int v1]) (n := 3) (Nat.le_of_ble_eq_true rfl)
  rw [lg_entry_eq]
  generalize (lg_sl ([.ref (g 100), .int v0, .int v1]) ++ List.replicate (3 - (lg_sl ([.ref (g 100), .int v0, .int v1])).length) Slot.unset).toArray = ls at hl ⊢
  have hl : lv_has ls 3 [(0, .ref (g 100)), (1, .int v0), (2, .int v1)] := hl
  refine lv_iload_n hx hb dX12_worth_0 rfl (lv_at hl 1 rfl) ?_
  refine lv_iconst (v := 0) hx hb dX12_worth_1 (by decide) ?_
  refine lv_sipush (v := 200) hx hb dX12_worth_2 (by decide) ?_
  refine vp_callSi (runS_r (As := [.int v0, .int 0, .int 200]) (rest := []) S (q_in l D cI cB cZ v0 0 200) kS_RX12_214 hK hP [] rfl ⟨Nat.le_of_ble_eq_true rfl, Nat.le_of_ble_eq_true rfl⟩ ⟨Nat.le_of_ble_eq_true rfl, Nat.le_of_ble_eq_true rfl⟩ rfl hl.1 rfl (Nat.le_of_ble_eq_true rfl) dX12_worth_5) (fun r_1 h_2 => ?_)
  rcases h_2 with ⟨rfl, h_2⟩ | ⟨rfl, h_2⟩
  ·
    have h_2 : 0 ≤ v0.toInt ∧ v0.toInt ≤ 200 := h_2
    refine lv_if_eq (tgt := 31) hx hb dX12_worth_8 (by decide) (fun h => absurd h (by decide)) (fun _ => ?_)
    refine lv_iload_n hx hb dX12_worth_11 rfl (lv_at hl 2 rfl) ?_
    refine lv_iconst (v := 0) hx hb dX12_worth_12 (by decide) ?_
    refine lv_sipush (v := 1000) hx hb dX12_worth_13 (by decide) ?_
    refine vp_callSi (runS_r (As := [.int v1, .int 0, .int 1000]) (rest := []) S (q_in l D cI cB cZ v1 0 1000) kS_RX12_214 hK hP [] rfl ⟨Nat.le_of_ble_eq_true rfl, Nat.le_of_ble_eq_true rfl⟩ ⟨Nat.le_of_ble_eq_true rfl, Nat.le_of_ble_eq_true rfl⟩ rfl hl.1 rfl (Nat.le_of_ble_eq_true rfl) dX12_worth_16) (fun r_3 h_4 => ?_)
    rcases h_4 with ⟨rfl, h_4⟩ | ⟨rfl, h_4⟩
    ·
      have h_4 : 0 ≤ v1.toInt ∧ v1.toInt ≤ 1000 := h_4
      refine lv_if_eq (tgt := 31) hx hb dX12_worth_19 (by decide) (fun h => absurd h (by decide)) (fun _ => ?_)
      refine lv_aload_n hx hb dX12_worth_22 rfl (lv_at hl 0 rfl) ?_
      refine lv_iload_n hx hb dX12_worth_23 rfl (lv_at hl 1 rfl) ?_
      refine lv_iload_n hx hb dX12_worth_24 rfl (lv_at hl 2 rfl) ?_
      refine vp_callSi (runV_r (As := [.int v0, .int v1]) (rest := []) S (q_mworthOf l D cI cB cZ g v0 v1) kV_RX12_472 hK hP [0] rfl 0 rfl rfl rfl ⟨Nat.le_of_ble_eq_true rfl, Nat.le_of_ble_eq_true rfl⟩ ⟨Nat.le_of_ble_eq_true rfl, Nat.le_of_ble_eq_true rfl⟩ rfl hl.1 rfl (Nat.le_of_ble_eq_true rfl) dX12_worth_25) (fun r_5 h_6 => ?_)
      subst h_6
      refine lv_goto (tgt := 34) hx hb dX12_worth_28 (by decide) ?_
      exact W.iret (v := 0) hx hb hr (fun t ht hW => ⟨0, rfl, (if_pos (by omega)).symm, ht⟩) (fun _ h => absurd h List.not_mem_nil) dX12_worth_34
    ·
      have h_4 : ¬ (0 ≤ v1.toInt ∧ v1.toInt ≤ 1000) := h_4
      refine lv_if_eq (tgt := 31) hx hb dX12_worth_19 (by decide) (fun _ => ?_) (fun h => absurd h (by decide))
      refine lv_ldcw (v := (-1000000)) hx hb hown (S.2.2.2.2 _ (wT_tab 1985 rfl rfl)) dX12_worth_31 ?_
      exact W.iret (v := (-1000000)) hx hb hr (fun t ht hW => ⟨(-1000000), rfl, (if_neg (by omega)).symm, ht⟩) (fun _ h => absurd h List.not_mem_nil) dX12_worth_34
  ·
    have h_2 : ¬ (0 ≤ v0.toInt ∧ v0.toInt ≤ 200) := h_2
    refine lv_if_eq (tgt := 31) hx hb dX12_worth_8 (by decide) (fun _ => ?_) (fun h => absurd h (by decide))
    refine lv_ldcw (v := (-1000000)) hx hb hown (S.2.2.2.2 _ (wT_tab 1985 rfl rfl)) dX12_worth_31 ?_
    exact W.iret (v := (-1000000)) hx hb hr (fun t ht hW => ⟨(-1000000), rfl, (if_neg (by omega)).symm, ht⟩) (fun _ h => absurd h List.not_mem_nil) dX12_worth_34
set_option maxRecDepth 100000 in
set_option maxHeartbeats 4000000 in
theorem q_M_offer (l : Launch) (D : va_G) (cI cB cZ : ClassId) (g : Nat → Nat) (v0 v1 : Int32) : Met l yX12_offer (CWS yX12_offer cX12_offer 5 (some .int)) (RM 3 0 0) (PBr [.ref (g 100), .int v0, .int v1] D cI cB cZ [((g 100), .inr (13, oM g))]) (vp_Si (fun r => r = (if (0 ≤ v0.toInt ∧ v0.toInt ≤ 1000) ∧ 0 ≤ v1.toInt ∧ v1.toInt ≤ 2 then (0 : Int32) else -1))) 0 0 (fun _ => False) := by
  refine Met.ofW (cc := cX12_offer) (maxL := 5) (ret := (some .int)) (by decide) rfl ?_
  intro p e s m args below meth c s₁ B hml hv
  obtain ⟨rfl, hP, hK⟩ := hv
  have hx := B.exec
  have hb := B.bytes
  have hr := B.returns
  have hts := atoms_spec (ws := (CWS yX12_offer cX12_offer 5 (some .int))) B.pre
  have hown : s.vm.findClass RX12 = some m.cls := findClass_of_methodNamed B.named
  have hlocks := B.notSynchronized
  have S : SF p m c cX12_offer 5 s ([.ref (g 100), .int v0, .int v1]).toArray RX12 := ⟨hx, hb, hml, hown, fun w h => hts w (List.mem_cons_of_mem _ h)⟩
  have hP : va_P D vwCl [((g 100), .inr (13, oM g))] s.heap := hP
  have hl := lv_entry ([.ref (g 100), .int v0, .int v1]) (n := 5) (Nat.le_of_ble_eq_true rfl)
  rw [lg_entry_eq]
  generalize (lg_sl ([.ref (g 100), .int v0, .int v1]) ++ List.replicate (5 - (lg_sl ([.ref (g 100), .int v0, .int v1])).length) Slot.unset).toArray = ls at hl ⊢
  have hl : lv_has ls 5 [(0, .ref (g 100)), (1, .int v0), (2, .int v1)] := hl
  refine lv_iload_n hx hb dX12_offer_0 rfl (lv_at hl 1 rfl) ?_
  refine lv_iconst (v := 0) hx hb dX12_offer_1 (by decide) ?_
  refine lv_sipush (v := 1000) hx hb dX12_offer_2 (by decide) ?_
  refine vp_callSi (runS_r (As := [.int v0, .int 0, .int 1000]) (rest := []) S (q_in l D cI cB cZ v0 0 1000) kS_RX12_214 hK hP [] rfl ⟨Nat.le_of_ble_eq_true rfl, Nat.le_of_ble_eq_true rfl⟩ ⟨Nat.le_of_ble_eq_true rfl, Nat.le_of_ble_eq_true rfl⟩ rfl hl.1 rfl (Nat.le_of_ble_eq_true rfl) dX12_offer_5) (fun r_1 h_2 => ?_)
  rcases h_2 with ⟨rfl, h_2⟩ | ⟨rfl, h_2⟩
  ·
    have h_2 : 0 ≤ v0.toInt ∧ v0.toInt ≤ 1000 := h_2
    refine lv_if_eq (tgt := 20) hx hb dX12_offer_8 (by decide) (fun h => absurd h (by decide)) (fun _ => ?_)
    refine lv_iload_n hx hb dX12_offer_11 rfl (lv_at hl 2 rfl) ?_
    refine lv_iconst (v := 0) hx hb dX12_offer_12 (by decide) ?_
    refine lv_iconst (v := 2) hx hb dX12_offer_13 (by decide) ?_
    refine vp_callSi (runS_r (As := [.int v1, .int 0, .int 2]) (rest := []) S (q_in l D cI cB cZ v1 0 2) kS_RX12_214 hK hP [] rfl ⟨Nat.le_of_ble_eq_true rfl, Nat.le_of_ble_eq_true rfl⟩ ⟨Nat.le_of_ble_eq_true rfl, Nat.le_of_ble_eq_true rfl⟩ rfl hl.1 rfl (Nat.le_of_ble_eq_true rfl) dX12_offer_14) (fun r_3 h_4 => ?_)
    rcases h_4 with ⟨rfl, h_4⟩ | ⟨rfl, h_4⟩
    ·
      have h_4 : 0 ≤ v1.toInt ∧ v1.toInt ≤ 2 := h_4
      refine lv_if_ne (tgt := 22) hx hb dX12_offer_17 (by decide) (fun _ => ?_) (fun h => absurd h (by decide))
      refine lv_iconst (v := 0) hx hb dX12_offer_22 (by decide) ?_
      refine lv_istore_n (lv' := [(3, .int 0), (0, .ref (g 100)), (1, .int v0), (2, .int v1)]) hx hb dX12_offer_23 rfl hl (by decide) rfl (fun ls hl => ?_)
      refine lv_iconst (v := 1) hx hb dX12_offer_24 (by decide) ?_
      refine lv_istore (lv' := [(4, .int 1), (3, .int 0), (0, .ref (g 100)), (1, .int v0), (2, .int v1)]) hx hb dX12_offer_25 hl (by decide) rfl (fun ls hl => ?_)
      have lp_27 : ∀ (n i : Nat), 201 + 1 ≤ i + n → i ≤ 201 → ∀ ls : Array Slot, lv_has ls 5 [(4, .int (nI i)), (3, .int 0), (0, .ref (g 100)), (1, .int v0), (2, .int v1)] → W p l e (RM 3 0 0) s m ([.ref (g 100), .int v0, .int v1]).toArray below meth c s.heap [] 0 0 (MQ below (vp_Si (fun r => r = (if (0 ≤ v0.toInt ∧ v0.toInt ≤ 1000) ∧ 0 ≤ v1.toInt ∧ v1.toInt ≤ 2 then (0 : Int32) else -1))) ([.ref (g 100), .int v0, .int v1]).toArray s 0 0 (fun _ => False)) (F0 m 27 ls []) := by
        intro n
        induction n with
        | zero => intro i h1 h2; exact absurd h1 (by omega)
        | succ n ih =>
          intro i hn1 hi ls hl
          have ti : (nI i).toInt = (i : Int) := nI_toInt (by omega)
          refine lv_iload hx hb dX12_offer_27 (lv_at hl 0 rfl) ?_
          refine lv_sipush (v := 200) hx hb dX12_offer_29 (by decide) ?_
          refine lv_icmp_gt (tgt := 64) hx hb dX12_offer_32 (by decide) (fun c_5 => ?_) (fun c_5 => ?_)
          ·
            have tc_5 : (200 : Int) < (nI i).toInt := Int32.lt_iff_toInt_lt.mp c_5
            refine lv_iload_n hx hb dX12_offer_64 rfl (lv_at hl 4 rfl) ?_
            refine lv_if_ne (tgt := 72) hx hb dX12_offer_65 (by decide) (fun c_6 => ?_) (fun c_6 => ?_)
            ·
              have tc_6 : (v1.toInt : Int) ≠ 0 := fun q => c_6 (Int32.toInt_inj.mp q)
              refine lv_iload_n hx hb dX12_offer_72 rfl (lv_at hl 4 rfl) ?_
              refine lv_iconst (v := 1) hx hb dX12_offer_73 (by decide) ?_
              refine lv_icmp_ne (tgt := 86) hx hb dX12_offer_74 (by decide) (fun c_7 => ?_) (fun c_7 => ?_)
              ·
                have tc_7 : (v1.toInt : Int) ≠ 1 := fun q => c_7 (Int32.toInt_inj.mp q)
                refine lv_aload_n hx hb dX12_offer_86 rfl (lv_at hl 2 rfl) ?_
                refine lv_iload_n hx hb dX12_offer_87 rfl (lv_at hl 1 rfl) ?_
                refine vp_callSi (runV_r (As := [.int 0]) (rest := []) S (q_mcomers l D cI cB cZ g 0) kV_RX12_469 hK hP [0] rfl 0 rfl rfl rfl ⟨Nat.le_of_ble_eq_true rfl, Nat.le_of_ble_eq_true rfl⟩ ⟨Nat.le_of_ble_eq_true rfl, Nat.le_of_ble_eq_true rfl⟩ rfl hl.1 rfl (Nat.le_of_ble_eq_true rfl) dX12_offer_88) (fun r_8 h_9 => ?_)
                subst h_9
                exact W.iret (v := 0) hx hb hr (fun t ht hW => ⟨0, rfl, (if_pos (by omega)).symm, ht⟩) (fun _ h => absurd h List.not_mem_nil) dX12_offer_91
              ·
                have tc_7 : (v1.toInt : Int) = 1 := congrArg Int32.toInt c_7
                refine lv_aload_n hx hb dX12_offer_77 rfl (lv_at hl 2 rfl) ?_
                refine lv_iload_n hx hb dX12_offer_78 rfl (lv_at hl 1 rfl) ?_
                refine lv_iload_n hx hb dX12_offer_79 rfl (lv_at hl 3 rfl) ?_
                refine vp_callSi (runV_r (As := [.int 0, .int v0]) (rest := []) S (q_mworthOf l D cI cB cZ g 0 v0) kV_RX12_472 hK hP [0] rfl 0 rfl rfl rfl ⟨Nat.le_of_ble_eq_true rfl, Nat.le_of_ble_eq_true rfl⟩ ⟨Nat.le_of_ble_eq_true rfl, Nat.le_of_ble_eq_true rfl⟩ rfl hl.1 rfl (Nat.le_of_ble_eq_true rfl) dX12_offer_80) (fun r_10 h_11 => ?_)
                subst h_11
                refine lv_goto (tgt := 91) hx hb dX12_offer_83 (by decide) ?_
                exact W.iret (v := 0) hx hb hr (fun t ht hW => ⟨0, rfl, (if_pos (by omega)).symm, ht⟩) (fun _ h => absurd h List.not_mem_nil) dX12_offer_91
            ·
              have tc_6 : (v1.toInt : Int) = 0 := congrArg Int32.toInt c_6
              refine lv_iload_n hx hb dX12_offer_68 rfl (lv_at hl 1 rfl) ?_
              refine lv_goto (tgt := 91) hx hb dX12_offer_69 (by decide) ?_
              exact W.iret (v := 0) hx hb hr (fun t ht hW => ⟨0, rfl, (if_pos (by omega)).symm, ht⟩) (fun _ h => absurd h List.not_mem_nil) dX12_offer_91
          ·
            have tc_5 : ((nI i).toInt : Int) ≤ 200 := Int32.le_iff_toInt_le.mp (Int32.not_lt.mp c_5)
            refine lv_aload_n hx hb dX12_offer_35 rfl (lv_at hl 2 rfl) ?_
            refine lv_iload hx hb dX12_offer_36 (lv_at hl 0 rfl) ?_
            refine lv_iload_n hx hb dX12_offer_38 rfl (lv_at hl 3 rfl) ?_
            refine vp_callSi (runV_r (As := [.int (nI i), .int v0]) (rest := []) S (q_mworthOf l D cI cB cZ g (nI i) v0) kV_RX12_472 hK hP [0] rfl 0 rfl rfl rfl ⟨Nat.le_of_ble_eq_true rfl, Nat.le_of_ble_eq_true rfl⟩ ⟨Nat.le_of_ble_eq_true rfl, Nat.le_of_ble_eq_true rfl⟩ rfl hl.1 rfl (Nat.le_of_ble_eq_true rfl) dX12_offer_39) (fun r_12 h_13 => ?_)
            subst h_13
            refine lv_aload_n hx hb dX12_offer_42 rfl (lv_at hl 2 rfl) ?_
            refine lv_iload_n hx hb dX12_offer_43 rfl (lv_at hl 1 rfl) ?_
            refine lv_iload_n hx hb dX12_offer_44 rfl (lv_at hl 3 rfl) ?_
            refine vp_callSi (runV_r (As := [.int 0, .int v0]) (rest := [.int 0]) S (q_mworthOf l D cI cB cZ g 0 v0) kV_RX12_472 hK hP [0] rfl 0 rfl rfl rfl ⟨Nat.le_of_ble_eq_true rfl, Nat.le_of_ble_eq_true rfl⟩ ⟨Nat.le_of_ble_eq_true rfl, Nat.le_of_ble_eq_true rfl⟩ rfl hl.1 rfl (Nat.le_of_ble_eq_true rfl) dX12_offer_45) (fun r_14 h_15 => ?_)
            subst h_15
            refine lv_icmp_le (tgt := 56) hx hb dX12_offer_48 (by decide) (fun _ => ?_) (fun h => absurd h (by decide))
            refine lv_iload_n hx hb dX12_offer_56 rfl (lv_at hl 1 rfl) ?_
            refine lv_istore_n (lv' := [(3, .int 0), (4, .int (nI i)), (0, .ref (g 100)), (1, .int v0), (2, .int v1)]) hx hb dX12_offer_57 rfl hl (by decide) rfl (fun ls hl => ?_)
            refine lv_iinc (v := (nI (i + 1))) (lv' := [(4, .int (nI (i + 1))), (3, .int 0), (0, .ref (g 100)), (1, .int v0), (2, .int v1)]) hx hb dX12_offer_58 hl (k := 1) rfl (nI_1 _) (by decide) rfl (fun ls hl => ?_)
            refine lv_goto (tgt := 27) hx hb dX12_offer_61 (by decide) ?_
            exact ih (i + 1) (by omega) (by omega) ls (lv_sub hl [0, 1, 2, 3, 4] rfl)
      exact lp_27 (201 + 1) 1 (by omega) (by omega) ls (lv_sub hl [0, 1, 2, 3, 4] rfl)
    ·
      have h_4 : ¬ (0 ≤ v1.toInt ∧ v1.toInt ≤ 2) := h_4
      refine lv_if_ne (tgt := 22) hx hb dX12_offer_17 (by decide) (fun h => absurd h (by decide)) (fun _ => ?_)
      refine lv_iconst (v := (-1)) hx hb dX12_offer_20 (by decide) ?_
      exact W.iret (v := (-1)) hx hb hr (fun t ht hW => ⟨(-1), rfl, (if_neg (by omega)).symm, ht⟩) (fun _ h => absurd h List.not_mem_nil) dX12_offer_21
  ·
    have h_2 : ¬ (0 ≤ v0.toInt ∧ v0.toInt ≤ 1000) := h_2
    refine lv_if_eq (tgt := 20) hx hb dX12_offer_8 (by decide) (fun _ => ?_) (fun h => absurd h (by decide))
    refine lv_iconst (v := (-1)) hx hb dX12_offer_20 (by decide) ?_
    exact W.iret (v := (-1)) hx hb hr (fun t ht hW => ⟨(-1), rfl, (if_neg (by omega)).symm, ht⟩) (fun _ h => absurd h List.not_mem_nil) dX12_offer_21
set_option maxRecDepth 100000 in
set_option maxHeartbeats 4000000 in
theorem q_msaves (l : Launch) (D : va_G) (cI cB cZ : ClassId) (g : Nat → Nat) (k1 : Nat) (v1 : Int32) (h0 : v1.toInt ≤ 12) (h1 : k1 < 24) : Met l yX12_saves (CWS yX12_saves cX12_saves 5 (some .int)) (RM 0 0 0) (PBr [.ref (g 100), .int (nI k1), .int v1] D cI cB cZ [((g 100), .inr (13, oM g)), ((g 86), .inl (cI, 24, .inl (fun _ => 0)))]) (vp_Si (fun r => r = 0)) 0 0 (fun _ => False) := by
  refine Met.ofW (cc := cX12_saves) (maxL := 5) (ret := (some .int)) (by decide) rfl ?_
  intro p e s m args below meth c s₁ B hml hv
  obtain ⟨rfl, hP, hK⟩ := hv
  have hx := B.exec
  have hb := B.bytes
  have hr := B.returns
  have hts := atoms_spec (ws := (CWS yX12_saves cX12_saves 5 (some .int))) B.pre
  have hown : s.vm.findClass RX12 = some m.cls := findClass_of_methodNamed B.named
  have hlocks := B.notSynchronized
  have S : SF p m c cX12_saves 5 s ([.ref (g 100), .int (nI k1), .int v1]).toArray RX12 := ⟨hx, hb, hml, hown, fun w h => hts w (List.mem_cons_of_mem _ h)⟩
  have hP : va_P D vwCl [((g 100), .inr (13, oM g)), ((g 86), .inl (cI, 24, .inl (fun _ => 0)))] s.heap := hP
  have hl := lv_entry ([.ref (g 100), .int (nI k1), .int v1]) (n := 5) (Nat.le_of_ble_eq_true rfl)
  rw [lg_entry_eq]
  generalize (lg_sl ([.ref (g 100), .int (nI k1), .int v1]) ++ List.replicate (5 - (lg_sl ([.ref (g 100), .int (nI k1), .int v1])).length) Slot.unset).toArray = ls at hl ⊢
  have hl : lv_has ls 5 [(0, .ref (g 100)), (1, .int (nI k1)), (2, .int v1)] := hl
  refine lv_iconst (v := 0) hx hb dX12_saves_0 (by decide) ?_
  refine lv_istore_n (lv' := [(3, .int 0), (0, .ref (g 100)), (1, .int (nI k1)), (2, .int v1)]) hx hb dX12_saves_1 rfl hl (by decide) rfl (fun ls hl => ?_)
  refine lv_iconst (v := 0) hx hb dX12_saves_2 (by decide) ?_
  refine lv_istore (lv' := [(4, .int 0), (3, .int 0), (0, .ref (g 100)), (1, .int (nI k1)), (2, .int v1)]) hx hb dX12_saves_3 hl (by decide) rfl (fun ls hl => ?_)
  have lp_5 : ∀ (n i : Nat), v1.toInt.toNat + 1 ≤ i + n → i ≤ v1.toInt.toNat → ∀ ls : Array Slot, lv_has ls 5 [(4, .int (nI i)), (3, .int 0), (0, .ref (g 100)), (1, .int (nI k1)), (2, .int v1)] → W p l e (RM 0 0 0) s m ([.ref (g 100), .int (nI k1), .int v1]).toArray below meth c s.heap [] 0 0 (MQ below (vp_Si (fun r => r = 0)) ([.ref (g 100), .int (nI k1), .int v1]).toArray s 0 0 (fun _ => False)) (F0 m 5 ls []) := by
    intro n
    induction n with
    | zero => intro i h1 h2; exact absurd h1 (by omega)
    | succ n ih =>
      intro i hn1 hi ls hl
      have ti : (nI i).toInt = (i : Int) := nI_toInt (by omega)
      refine lv_iload hx hb dX12_saves_5 (lv_at hl 0 rfl) ?_
      refine lv_iload_n hx hb dX12_saves_7 rfl (lv_at hl 4 rfl) ?_
      refine lv_icmp_ge (tgt := 32) hx hb dX12_saves_8 (by decide) (fun c_1 => ?_) (fun c_1 => ?_)
      ·
        have tc_1 : (v1.toInt : Int) ≤ (nI i).toInt := Int32.le_iff_toInt_le.mp c_1
        refine lv_iload_n hx hb dX12_saves_32 rfl (lv_at hl 1 rfl) ?_
        exact W.iret (v := 0) hx hb hr (fun t ht hW => ⟨0, rfl, rfl, ht⟩) (fun _ h => absurd h List.not_mem_nil) dX12_saves_33
      ·
        have tc_1 : ((nI i).toInt : Int) < v1.toInt := Int32.lt_iff_toInt_lt.mp (Int32.not_le.mp c_1)
        refine lv_iload_n hx hb dX12_saves_11 rfl (lv_at hl 1 rfl) ?_
        refine lv_aload_n hx hb dX12_saves_12 rfl (lv_at hl 2 rfl) ?_
        refine gf_RX12_189 S hK hP 0 rfl (v := .ref (g 86)) rfl dX12_saves_13 ?_
        refine lv_iload_n hx hb dX12_saves_16 rfl (lv_at hl 3 rfl) ?_
        refine lv_iload hx hb dX12_saves_17 (lv_at hl 0 rfl) ?_
        refine lv_iadd hx hb dX12_saves_19 ?_
        refine lv_bipush (v := 24) hx hb dX12_saves_20 (by decide) ?_
        refine lv_irem hx hb dX12_saves_22 (by decide) ?_
        refine lv_topi (fun y_2 ey_2 => ?_)
        obtain rfl : y_2 = (nI ((k1 + i) % 24)) := ey_2.trans (rem24 (by omega))
        refine va_iald hx hb hK.1 hP 1 0 rfl rfl (vp_in_nI (Nat.mod_lt _ (by decide)) (by decide)) dX12_saves_23 ?_
        refine lv_topi (fun y_3 ey_3 => ?_)
        obtain rfl : y_3 = 0 := ey_3
        refine lv_iadd hx hb dX12_saves_24 ?_
        refine lv_topi (fun y_4 ey_4 => ?_)
        obtain rfl : y_4 = 0 := ey_4.trans (by decide)
        refine lv_istore_n (lv' := [(3, .int 0), (4, .int (nI i)), (0, .ref (g 100)), (1, .int (nI k1)), (2, .int v1)]) hx hb dX12_saves_25 rfl hl (by decide) rfl (fun ls hl => ?_)
        refine lv_iinc (v := (nI (i + 1))) (lv' := [(4, .int (nI (i + 1))), (3, .int 0), (0, .ref (g 100)), (1, .int (nI k1)), (2, .int v1)]) hx hb dX12_saves_26 hl (k := 1) rfl (nI_1 _) (by decide) rfl (fun ls hl => ?_)
        refine lv_goto (tgt := 5) hx hb dX12_saves_29 (by decide) ?_
        exact ih (i + 1) (by omega) (by omega) ls (lv_sub hl [0, 1, 2, 3, 4] rfl)
  exact lp_5 (v1.toInt.toNat + 1) 0 (by omega) (by omega) ls (lv_sub hl [0, 1, 2, 3, 4] rfl)
set_option maxRecDepth 100000 in
set_option maxHeartbeats 4000000 in
theorem q_M_lock (l : Launch) (D : va_G) (cI cB cZ : ClassId) (g : Nat → Nat) (v0 v1 : Int32) : Met l yX12_lock (CWS yX12_lock cX12_lock 5 (some .int)) (RM 3 0 0) (PBr [.ref (g 100), .int v0, .int v1] D cI cB cZ [((g 100), .inr (13, oM g)), ((g 86), .inl (cI, 24, .inl (fun _ => 0)))]) (vp_Si (fun r => r = (if (1 ≤ v0.toInt ∧ v0.toInt ≤ 12) ∧ 0 ≤ v1.toInt ∧ v1.toInt ≤ 1 then (0 : Int32) else -1))) 0 0 (fun _ => False) := by
  refine Met.ofW (cc := cX12_lock) (maxL := 5) (ret := (some .int)) (by decide) rfl ?_
  intro p e s m args below meth c s₁ B hml hv
  obtain ⟨rfl, hP, hK⟩ := hv
  have hx := B.exec
  have hb := B.bytes
  have hr := B.returns
  have hts := atoms_spec (ws := (CWS yX12_lock cX12_lock 5 (some .int))) B.pre
  have hown : s.vm.findClass RX12 = some m.cls := findClass_of_methodNamed B.named
  have hlocks := B.notSynchronized
  have S : SF p m c cX12_lock 5 s ([.ref (g 100), .int v0, .int v1]).toArray RX12 := ⟨hx, hb, hml, hown, fun w h => hts w (List.mem_cons_of_mem _ h)⟩
  have hP : va_P D vwCl [((g 100), .inr (13, oM g)), ((g 86), .inl (cI, 24, .inl (fun _ => 0)))] s.heap := hP
  have hl := lv_entry ([.ref (g 100), .int v0, .int v1]) (n := 5) (Nat.le_of_ble_eq_true rfl)
  rw [lg_entry_eq]
  generalize (lg_sl ([.ref (g 100), .int v0, .int v1]) ++ List.replicate (5 - (lg_sl ([.ref (g 100), .int v0, .int v1])).length) Slot.unset).toArray = ls at hl ⊢
  have hl : lv_has ls 5 [(0, .ref (g 100)), (1, .int v0), (2, .int v1)] := hl
  refine lv_iload_n hx hb dX12_lock_0 rfl (lv_at hl 1 rfl) ?_
  refine lv_iconst (v := 1) hx hb dX12_lock_1 (by decide) ?_
  refine lv_bipush (v := 12) hx hb dX12_lock_2 (by decide) ?_
  refine vp_callSi (runS_r (As := [.int v0, .int 1, .int 12]) (rest := []) S (q_in l D cI cB cZ v0 1 12) kS_RX12_214 hK hP [] rfl ⟨Nat.le_of_ble_eq_true rfl, Nat.le_of_ble_eq_true rfl⟩ ⟨Nat.le_of_ble_eq_true rfl, Nat.le_of_ble_eq_true rfl⟩ rfl hl.1 rfl (Nat.le_of_ble_eq_true rfl) dX12_lock_4) (fun r_1 h_2 => ?_)
  rcases h_2 with ⟨rfl, h_2⟩ | ⟨rfl, h_2⟩
  ·
    have h_2 : 1 ≤ v0.toInt ∧ v0.toInt ≤ 12 := h_2
    refine lv_if_eq (tgt := 19) hx hb dX12_lock_7 (by decide) (fun h => absurd h (by decide)) (fun _ => ?_)
    refine lv_iload_n hx hb dX12_lock_10 rfl (lv_at hl 2 rfl) ?_
    refine lv_iconst (v := 0) hx hb dX12_lock_11 (by decide) ?_
    refine lv_iconst (v := 1) hx hb dX12_lock_12 (by decide) ?_
    refine vp_callSi (runS_r (As := [.int v1, .int 0, .int 1]) (rest := []) S (q_in l D cI cB cZ v1 0 1) kS_RX12_214 hK hP [] rfl ⟨Nat.le_of_ble_eq_true rfl, Nat.le_of_ble_eq_true rfl⟩ ⟨Nat.le_of_ble_eq_true rfl, Nat.le_of_ble_eq_true rfl⟩ rfl hl.1 rfl (Nat.le_of_ble_eq_true rfl) dX12_lock_13) (fun r_3 h_4 => ?_)
    rcases h_4 with ⟨rfl, h_4⟩ | ⟨rfl, h_4⟩
    ·
      have h_4 : 0 ≤ v1.toInt ∧ v1.toInt ≤ 1 := h_4
      refine lv_if_ne (tgt := 21) hx hb dX12_lock_16 (by decide) (fun _ => ?_) (fun h => absurd h (by decide))
      refine lv_iconst (v := 0) hx hb dX12_lock_21 (by decide) ?_
      refine lv_istore_n (lv' := [(3, .int 0), (0, .ref (g 100)), (1, .int v0), (2, .int v1)]) hx hb dX12_lock_22 rfl hl (by decide) rfl (fun ls hl => ?_)
      refine lv_iconst (v := 1) hx hb dX12_lock_23 (by decide) ?_
      refine lv_istore (lv' := [(4, .int 1), (3, .int 0), (0, .ref (g 100)), (1, .int v0), (2, .int v1)]) hx hb dX12_lock_24 hl (by decide) rfl (fun ls hl => ?_)
      have lp_26 : ∀ (n i : Nat), 24 + 1 ≤ i + n → i ≤ 24 → ∀ ls : Array Slot, lv_has ls 5 [(4, .int (nI i)), (3, .int 0), (0, .ref (g 100)), (1, .int v0), (2, .int v1)] → W p l e (RM 3 0 0) s m ([.ref (g 100), .int v0, .int v1]).toArray below meth c s.heap [] 0 0 (MQ below (vp_Si (fun r => r = (if (1 ≤ v0.toInt ∧ v0.toInt ≤ 12) ∧ 0 ≤ v1.toInt ∧ v1.toInt ≤ 1 then (0 : Int32) else -1))) ([.ref (g 100), .int v0, .int v1]).toArray s 0 0 (fun _ => False)) (F0 m 26 ls []) := by
        intro n
        induction n with
        | zero => intro i h1 h2; exact absurd h1 (by omega)
        | succ n ih =>
          intro i hn1 hi ls hl
          have ti : (nI i).toInt = (i : Int) := nI_toInt (by omega)
          refine lv_iload hx hb dX12_lock_26 (lv_at hl 0 rfl) ?_
          refine lv_bipush (v := 24) hx hb dX12_lock_28 (by decide) ?_
          refine lv_icmp_ge (tgt := 62) hx hb dX12_lock_30 (by decide) (fun c_5 => ?_) (fun c_5 => ?_)
          ·
            have tc_5 : (24 : Int) ≤ (nI i).toInt := Int32.le_iff_toInt_le.mp c_5
            refine lv_iload_n hx hb dX12_lock_62 rfl (lv_at hl 4 rfl) ?_
            refine lv_if_ne (tgt := 70) hx hb dX12_lock_63 (by decide) (fun c_6 => ?_) (fun c_6 => ?_)
            ·
              have tc_6 : (v1.toInt : Int) ≠ 0 := fun q => c_6 (Int32.toInt_inj.mp q)
              refine lv_aload_n hx hb dX12_lock_70 rfl (lv_at hl 2 rfl) ?_
              refine lv_iload_n hx hb dX12_lock_71 rfl (lv_at hl 1 rfl) ?_
              refine lv_iload_n hx hb dX12_lock_72 rfl (lv_at hl 3 rfl) ?_
              refine vp_callSi (runV_r (As := [.int 0, .int v0]) (rest := []) S (q_msaves l D cI cB cZ g 0 v0 (by omega) (by omega)) kV_RX12_475 hK hP [0, 1] rfl 0 rfl rfl rfl ⟨Nat.le_of_ble_eq_true rfl, Nat.le_of_ble_eq_true rfl⟩ ⟨Nat.le_of_ble_eq_true rfl, Nat.le_of_ble_eq_true rfl⟩ rfl hl.1 rfl (Nat.le_of_ble_eq_true rfl) dX12_lock_73) (fun r_7 h_8 => ?_)
              subst h_8
              exact W.iret (v := 0) hx hb hr (fun t ht hW => ⟨0, rfl, (if_pos (by omega)).symm, ht⟩) (fun _ h => absurd h List.not_mem_nil) dX12_lock_76
            ·
              have tc_6 : (v1.toInt : Int) = 0 := congrArg Int32.toInt c_6
              refine lv_iload_n hx hb dX12_lock_66 rfl (lv_at hl 1 rfl) ?_
              refine lv_goto (tgt := 76) hx hb dX12_lock_67 (by decide) ?_
              exact W.iret (v := 0) hx hb hr (fun t ht hW => ⟨0, rfl, (if_pos (by omega)).symm, ht⟩) (fun _ h => absurd h List.not_mem_nil) dX12_lock_76
          ·
            have tc_5 : ((nI i).toInt : Int) < 24 := Int32.lt_iff_toInt_lt.mp (Int32.not_le.mp c_5)
            refine lv_aload_n hx hb dX12_lock_33 rfl (lv_at hl 2 rfl) ?_
            refine lv_iload hx hb dX12_lock_34 (lv_at hl 0 rfl) ?_
            refine lv_iload_n hx hb dX12_lock_36 rfl (lv_at hl 3 rfl) ?_
            refine vp_callSi (runV_r (As := [.int (nI i), .int v0]) (rest := []) S (q_msaves l D cI cB cZ g i v0 (by omega) (by omega)) kV_RX12_475 hK hP [0, 1] rfl 0 rfl rfl rfl ⟨Nat.le_of_ble_eq_true rfl, Nat.le_of_ble_eq_true rfl⟩ ⟨Nat.le_of_ble_eq_true rfl, Nat.le_of_ble_eq_true rfl⟩ rfl hl.1 rfl (Nat.le_of_ble_eq_true rfl) dX12_lock_37) (fun r_9 h_10 => ?_)
            subst h_10
            refine lv_aload_n hx hb dX12_lock_40 rfl (lv_at hl 2 rfl) ?_
            refine lv_iload_n hx hb dX12_lock_41 rfl (lv_at hl 1 rfl) ?_
            refine lv_iload_n hx hb dX12_lock_42 rfl (lv_at hl 3 rfl) ?_
            refine vp_callSi (runV_r (As := [.int 0, .int v0]) (rest := [.int 0]) S (q_msaves l D cI cB cZ g 0 v0 (by omega) (by omega)) kV_RX12_475 hK hP [0, 1] rfl 0 rfl rfl rfl ⟨Nat.le_of_ble_eq_true rfl, Nat.le_of_ble_eq_true rfl⟩ ⟨Nat.le_of_ble_eq_true rfl, Nat.le_of_ble_eq_true rfl⟩ rfl hl.1 rfl (Nat.le_of_ble_eq_true rfl) dX12_lock_43) (fun r_11 h_12 => ?_)
            subst h_12
            refine lv_icmp_le (tgt := 54) hx hb dX12_lock_46 (by decide) (fun _ => ?_) (fun h => absurd h (by decide))
            refine lv_iload_n hx hb dX12_lock_54 rfl (lv_at hl 1 rfl) ?_
            refine lv_istore_n (lv' := [(3, .int 0), (4, .int (nI i)), (0, .ref (g 100)), (1, .int v0), (2, .int v1)]) hx hb dX12_lock_55 rfl hl (by decide) rfl (fun ls hl => ?_)
            refine lv_iinc (v := (nI (i + 1))) (lv' := [(4, .int (nI (i + 1))), (3, .int 0), (0, .ref (g 100)), (1, .int v0), (2, .int v1)]) hx hb dX12_lock_56 hl (k := 1) rfl (nI_1 _) (by decide) rfl (fun ls hl => ?_)
            refine lv_goto (tgt := 26) hx hb dX12_lock_59 (by decide) ?_
            exact ih (i + 1) (by omega) (by omega) ls (lv_sub hl [0, 1, 2, 3, 4] rfl)
      exact lp_26 (24 + 1) 1 (by omega) (by omega) ls (lv_sub hl [0, 1, 2, 3, 4] rfl)
    ·
      have h_4 : ¬ (0 ≤ v1.toInt ∧ v1.toInt ≤ 1) := h_4
      refine lv_if_ne (tgt := 21) hx hb dX12_lock_16 (by decide) (fun h => absurd h (by decide)) (fun _ => ?_)
      refine lv_iconst (v := (-1)) hx hb dX12_lock_19 (by decide) ?_
      exact W.iret (v := (-1)) hx hb hr (fun t ht hW => ⟨(-1), rfl, (if_neg (by omega)).symm, ht⟩) (fun _ h => absurd h List.not_mem_nil) dX12_lock_20
  ·
    have h_2 : ¬ (1 ≤ v0.toInt ∧ v0.toInt ≤ 12) := h_2
    refine lv_if_eq (tgt := 19) hx hb dX12_lock_7 (by decide) (fun _ => ?_) (fun h => absurd h (by decide))
    refine lv_iconst (v := (-1)) hx hb dX12_lock_19 (by decide) ?_
    exact W.iret (v := (-1)) hx hb hr (fun t ht hW => ⟨(-1), rfl, (if_neg (by omega)).symm, ht⟩) (fun _ h => absurd h List.not_mem_nil) dX12_lock_20
set_option maxRecDepth 100000 in
set_option maxHeartbeats 4000000 in
theorem q_M_sewer (l : Launch) (D : va_G) (cI cB cZ : ClassId) (g : Nat → Nat) (v0 v1 : Int32) (sz : Nat) : Met l yX12_sewer (CWS yX12_sewer cX12_sewer 3 (some .int)) (RM 3 0 0) (PBw [.ref (g 100), .int v0, .int v1] D cI cB cZ [((g 100), .inr (13, oM g)), ((g 87), .inl (cI, 10, .inl (fun _ => 0))), ((g 88), .inl (cI, 10, .inl (fun _ => 0)))] sz) (va_Qi (fun (r : Int32) (_ : Unit) => r = (if (0 ≤ v0.toInt ∧ v0.toInt ≤ 99) ∧ 0 ≤ v1.toInt ∧ v1.toInt ≤ 99 then (0 : Int32) else -1)) (fun (_ : Unit) (_ : State) => True) (va_A [((g 100), .inr (13, oM g)), ((g 87), .inl (cI, 10, .inl (fun _ => 0))), ((g 88), .inl (cI, 10, .inl (fun _ => 0)))] sz)) 0 0 (va_A [((g 100), .inr (13, oM g)), ((g 87), .inl (cI, 10, .inl (fun _ => 0))), ((g 88), .inl (cI, 10, .inl (fun _ => 0)))] sz) := by
  refine Met.ofW (cc := cX12_sewer) (maxL := 3) (ret := (some .int)) (by decide) rfl ?_
  intro p e s m args below meth c s₁ B hml hv
  obtain ⟨rfl, hsz, hP, hK, hD0⟩ := hv
  have hx := B.exec
  have hb := B.bytes
  have hr := B.returns
  have hts := atoms_spec (ws := (CWS yX12_sewer cX12_sewer 3 (some .int))) B.pre
  have hown : s.vm.findClass RX12 = some m.cls := findClass_of_methodNamed B.named
  have hlocks := B.notSynchronized
  have S : SF p m c cX12_sewer 3 s ([.ref (g 100), .int v0, .int v1]).toArray RX12 := ⟨hx, hb, hml, hown, fun w h => hts w (List.mem_cons_of_mem _ h)⟩
  subst hsz
  have hD := hD0.self (sz := s.heap.size)
  generalize hAe : va_A [((g 100), .inr (13, oM g)), ((g 87), .inl (cI, 10, .inl (fun _ => 0))), ((g 88), .inl (cI, 10, .inl (fun _ => 0)))] s.heap.size = A at hD ⊢
  have hA : ∀ q : Nat, s.heap.size ≤ q → A q := fun q h => by rw [← hAe]; exact Or.inr h
  have hS : va_S A s.heap s.heap [] := va_S.rf
  have hP : va_P D vwCl [((g 100), .inr (13, oM g)), ((g 87), .inl (cI, 10, .inl (fun _ => 0))), ((g 88), .inl (cI, 10, .inl (fun _ => 0)))] s.heap := hP
  have hD : va_D A [((g 100), .inr (13, oM g)), ((g 87), .inl (cI, 10, .inl (fun _ => 0))), ((g 88), .inl (cI, 10, .inl (fun _ => 0)))] := hD
  have hl := lv_entry ([.ref (g 100), .int v0, .int v1]) (n := 3) (Nat.le_of_ble_eq_true rfl)
  rw [lg_entry_eq]
  generalize (lg_sl ([.ref (g 100), .int v0, .int v1]) ++ List.replicate (3 - (lg_sl ([.ref (g 100), .int v0, .int v1])).length) Slot.unset).toArray = ls at hl ⊢
  have hl : lv_has ls 3 [(0, .ref (g 100)), (1, .int v0), (2, .int v1)] := hl
  refine lv_iload_n hx hb dX12_sewer_0 rfl (lv_at hl 1 rfl) ?_
  refine lv_iconst (v := 0) hx hb dX12_sewer_1 (by decide) ?_
  refine lv_bipush (v := 99) hx hb dX12_sewer_2 (by decide) ?_
  refine vp_callSi (runS_r (As := [.int v0, .int 0, .int 99]) (rest := []) S (q_in l D cI cB cZ v0 0 99) kS_RX12_214 hK hP [] rfl ⟨Nat.le_of_ble_eq_true rfl, Nat.le_of_ble_eq_true rfl⟩ ⟨Nat.le_of_ble_eq_true rfl, Nat.le_of_ble_eq_true rfl⟩ rfl hl.1 rfl (Nat.le_of_ble_eq_true rfl) dX12_sewer_4) (fun r_1 h_2 => ?_)
  rcases h_2 with ⟨rfl, h_2⟩ | ⟨rfl, h_2⟩
  ·
    have h_2 : 0 ≤ v0.toInt ∧ v0.toInt ≤ 99 := h_2
    refine lv_if_eq (tgt := 29) hx hb dX12_sewer_7 (by decide) (fun h => absurd h (by decide)) (fun _ => ?_)
    refine lv_iload_n hx hb dX12_sewer_10 rfl (lv_at hl 2 rfl) ?_
    refine lv_iconst (v := 0) hx hb dX12_sewer_11 (by decide) ?_
    refine lv_bipush (v := 99) hx hb dX12_sewer_12 (by decide) ?_
    refine vp_callSi (runS_r (As := [.int v1, .int 0, .int 99]) (rest := []) S (q_in l D cI cB cZ v1 0 99) kS_RX12_214 hK hP [] rfl ⟨Nat.le_of_ble_eq_true rfl, Nat.le_of_ble_eq_true rfl⟩ ⟨Nat.le_of_ble_eq_true rfl, Nat.le_of_ble_eq_true rfl⟩ rfl hl.1 rfl (Nat.le_of_ble_eq_true rfl) dX12_sewer_14) (fun r_3 h_4 => ?_)
    rcases h_4 with ⟨rfl, h_4⟩ | ⟨rfl, h_4⟩
    ·
      have h_4 : 0 ≤ v1.toInt ∧ v1.toInt ≤ 99 := h_4
      refine lv_if_eq (tgt := 29) hx hb dX12_sewer_17 (by decide) (fun h => absurd h (by decide)) (fun _ => ?_)
      refine lv_aload_n hx hb dX12_sewer_20 rfl (lv_at hl 0 rfl) ?_
      refine gf_RX12_478 S hK hP 0 rfl (v := .int 0) rfl dX12_sewer_21 ?_
      refine lv_bipush (v := 10) hx hb dX12_sewer_24 (by decide) ?_
      refine lv_icmp_ne (tgt := 31) hx hb dX12_sewer_26 (by decide) (fun _ => ?_) (fun h => absurd h (by decide))
      refine lv_aload_n hx hb dX12_sewer_31 rfl (lv_at hl 0 rfl) ?_
      refine gf_RX12_192 S hK hP 0 rfl (v := .ref (g 87)) rfl dX12_sewer_32 ?_
      refine lv_aload_n hx hb dX12_sewer_35 rfl (lv_at hl 0 rfl) ?_
      refine gf_RX12_478 S hK hP 0 rfl (v := .int 0) rfl dX12_sewer_36 ?_
      refine lv_iload_n hx hb dX12_sewer_39 rfl (lv_at hl 1 rfl) ?_
      refine va_iast hx hb hK.1 hP hD hS 1 0 rfl rfl (by unfold vp_in; decide) dX12_sewer_40 (fun H locs hP hD hS => ?_)
      have hP : va_P D vwCl [((g 100), .inr (13, oM g)), ((g 87), .inl (cI, 10, .inl (upd (fun _ => 0) (0 : Int32).toNatClampNeg v0))), ((g 88), .inl (cI, 10, .inl (fun _ => 0)))] H := hP
      have hD : va_D A [((g 100), .inr (13, oM g)), ((g 87), .inl (cI, 10, .inl (upd (fun _ => 0) (0 : Int32).toNatClampNeg v0))), ((g 88), .inl (cI, 10, .inl (fun _ => 0)))] := hD
      refine lv_aload_n hx hb dX12_sewer_41 rfl (lv_at hl 0 rfl) ?_
      refine gf_RX12_195 S hK hP 0 rfl (v := .ref (g 88)) rfl dX12_sewer_42 ?_
      refine lv_aload_n hx hb dX12_sewer_45 rfl (lv_at hl 0 rfl) ?_
      refine gf_RX12_478 S hK hP 0 rfl (v := .int 0) rfl dX12_sewer_46 ?_
      refine lv_iload_n hx hb dX12_sewer_49 rfl (lv_at hl 2 rfl) ?_
      refine va_iast hx hb hK.1 hP hD hS 2 0 rfl rfl (by unfold vp_in; decide) dX12_sewer_50 (fun H locs hP hD hS => ?_)
      have hP : va_P D vwCl [((g 100), .inr (13, oM g)), ((g 87), .inl (cI, 10, .inl (upd (fun _ => 0) (0 : Int32).toNatClampNeg v0))), ((g 88), .inl (cI, 10, .inl (upd (fun _ => 0) (0 : Int32).toNatClampNeg v1)))] H := hP
      have hD : va_D A [((g 100), .inr (13, oM g)), ((g 87), .inl (cI, 10, .inl (upd (fun _ => 0) (0 : Int32).toNatClampNeg v0))), ((g 88), .inl (cI, 10, .inl (upd (fun _ => 0) (0 : Int32).toNatClampNeg v1)))] := hD
      refine lv_aload_n hx hb dX12_sewer_51 rfl (lv_at hl 0 rfl) ?_
      refine lv_aload_n hx hb dX12_sewer_52 rfl (lv_at hl 0 rfl) ?_
      refine gf_RX12_478 S hK hP 0 rfl (v := .int 0) rfl dX12_sewer_53 ?_
      refine lv_iconst (v := 1) hx hb dX12_sewer_56 (by decide) ?_
      refine lv_iadd hx hb dX12_sewer_57 ?_
      refine lv_topi (fun y_5 ey_5 => ?_)
      obtain rfl : y_5 = 1 := ey_5.trans (by decide)
      refine pf_RX12_478 S hK hP hD hS 0 rfl (v := .int 1) (Nat.le_of_ble_eq_true rfl) rfl rfl dX12_sewer_58 (fun H locs hP hD hS => ?_)
      have hP : va_P D vwCl [((g 100), .inr (13, [.int 0, .int 0, .int 0, .ref (g 3), .ref (g 4), .ref (g 5), .ref (g 6), .ref (g 7), .ref (g 8), .ref (g 9), .ref (g 10), .ref (g 11), .ref (g 12), .ref (g 13), .ref (g 14), .ref (g 15), .ref (g 16), .ref (g 17), .int 0, .int 0, .int 0, .int 0, .int 0, .int 0, .int 0, .int 0, .int 0, .ref (g 27), .ref (g 28), .ref (g 29), .ref (g 30), .ref (g 31), .ref (g 32), .ref (g 33), .ref (g 34), .ref (g 35), .ref (g 36), .ref (g 37), .ref (g 38), .ref (g 39), .ref (g 40), .ref (g 41), .ref (g 42), .ref (g 43), .int 0, .int 0, .int 0, .ref (g 47), .ref (g 48), .ref (g 49), .ref (g 50), .ref (g 51), .ref (g 52), .ref (g 53), .int 0, .int 0, .int 0, .int 0, .int 0, .ref (g 59), .ref (g 60), .ref (g 61), .int 0, .int 0, .ref (g 64), .ref (g 65), .ref (g 66), .ref (g 67), .ref (g 68), .ref (g 69), .ref (g 70), .int 0, .int 0, .int 0, .ref (g 74), .int 0, .ref (g 76), .ref (g 77), .ref (g 78), .ref (g 79), .ref (g 80), .ref (g 81), .ref (g 82), .int 1, .ref (g 84), .ref (g 85), .ref (g 86), .ref (g 87), .ref (g 88), .ref (g 89), .ref (g 90)])), ((g 87), .inl (cI, 10, .inl (upd (fun _ => 0) (0 : Int32).toNatClampNeg v0))), ((g 88), .inl (cI, 10, .inl (upd (fun _ => 0) (0 : Int32).toNatClampNeg v1)))] H := hP
      have hD : va_D A [((g 100), .inr (13, [.int 0, .int 0, .int 0, .ref (g 3), .ref (g 4), .ref (g 5), .ref (g 6), .ref (g 7), .ref (g 8), .ref (g 9), .ref (g 10), .ref (g 11), .ref (g 12), .ref (g 13), .ref (g 14), .ref (g 15), .ref (g 16), .ref (g 17), .int 0, .int 0, .int 0, .int 0, .int 0, .int 0, .int 0, .int 0, .int 0, .ref (g 27), .ref (g 28), .ref (g 29), .ref (g 30), .ref (g 31), .ref (g 32), .ref (g 33), .ref (g 34), .ref (g 35), .ref (g 36), .ref (g 37), .ref (g 38), .ref (g 39), .ref (g 40), .ref (g 41), .ref (g 42), .ref (g 43), .int 0, .int 0, .int 0, .ref (g 47), .ref (g 48), .ref (g 49), .ref (g 50), .ref (g 51), .ref (g 52), .ref (g 53), .int 0, .int 0, .int 0, .int 0, .int 0, .ref (g 59), .ref (g 60), .ref (g 61), .int 0, .int 0, .ref (g 64), .ref (g 65), .ref (g 66), .ref (g 67), .ref (g 68), .ref (g 69), .ref (g 70), .int 0, .int 0, .int 0, .ref (g 74), .int 0, .ref (g 76), .ref (g 77), .ref (g 78), .ref (g 79), .ref (g 80), .ref (g 81), .ref (g 82), .int 1, .ref (g 84), .ref (g 85), .ref (g 86), .ref (g 87), .ref (g 88), .ref (g 89), .ref (g 90)])), ((g 87), .inl (cI, 10, .inl (upd (fun _ => 0) (0 : Int32).toNatClampNeg v0))), ((g 88), .inl (cI, 10, .inl (upd (fun _ => 0) (0 : Int32).toNatClampNeg v1)))] := hD
      refine lv_aload_n hx hb dX12_sewer_61 rfl (lv_at hl 0 rfl) ?_
      refine gf_RX12_478 S hK hP 0 rfl (v := .int 1) rfl dX12_sewer_62 ?_
      refine lv_iconst (v := 1) hx hb dX12_sewer_65 (by decide) ?_
      refine lv_isub hx hb dX12_sewer_66 ?_
      refine lv_topi (fun y_6 ey_6 => ?_)
      obtain rfl : y_6 = 0 := ey_6.trans (by decide)
      exact W.iret (v := 0) hx hb hr (fun t ht hW => ⟨⟨0, (), rfl, (if_pos (by omega)).symm, trivial⟩, hS.F ht⟩) hS.2.2 dX12_sewer_67
    ·
      have h_4 : ¬ (0 ≤ v1.toInt ∧ v1.toInt ≤ 99) := h_4
      refine lv_if_eq (tgt := 29) hx hb dX12_sewer_17 (by decide) (fun _ => ?_) (fun h => absurd h (by decide))
      refine lv_iconst (v := (-1)) hx hb dX12_sewer_29 (by decide) ?_
      exact W.iret (v := (-1)) hx hb hr (fun t ht hW => ⟨⟨(-1), (), rfl, (if_neg (by omega)).symm, trivial⟩, hS.F ht⟩) hS.2.2 dX12_sewer_30
  ·
    have h_2 : ¬ (0 ≤ v0.toInt ∧ v0.toInt ≤ 99) := h_2
    refine lv_if_eq (tgt := 29) hx hb dX12_sewer_7 (by decide) (fun _ => ?_) (fun h => absurd h (by decide))
    refine lv_iconst (v := (-1)) hx hb dX12_sewer_29 (by decide) ?_
    exact W.iret (v := (-1)) hx hb hr (fun t ht hW => ⟨⟨(-1), (), rfl, (if_neg (by omega)).symm, trivial⟩, hS.F ht⟩) hS.2.2 dX12_sewer_30
set_option maxRecDepth 100000 in
set_option maxHeartbeats 4000000 in
theorem q_M_beside (l : Launch) (D : va_G) (cI cB cZ : ClassId) (g : Nat → Nat) (v0 v1 : Int32) : Met l yX12_beside (CWS yX12_beside cX12_beside 6 (some .int)) (RM 3 0 0) (PBr [.ref (g 100), .int v0, .int v1] D cI cB cZ [((g 100), .inr (13, oM g))]) (vp_Si (fun r => r = (if (0 ≤ v0.toInt ∧ v0.toInt ≤ 198) ∧ 1 ≤ v1.toInt ∧ v1.toInt ≤ 1000 then (0 : Int32) else -1))) 0 0 (fun _ => False) := by
  refine Met.ofW (cc := cX12_beside) (maxL := 6) (ret := (some .int)) (by decide) rfl ?_
  intro p e s m args below meth c s₁ B hml hv
  obtain ⟨rfl, hP, hK⟩ := hv
  have hx := B.exec
  have hb := B.bytes
  have hr := B.returns
  have hts := atoms_spec (ws := (CWS yX12_beside cX12_beside 6 (some .int))) B.pre
  have hown : s.vm.findClass RX12 = some m.cls := findClass_of_methodNamed B.named
  have hlocks := B.notSynchronized
  have S : SF p m c cX12_beside 6 s ([.ref (g 100), .int v0, .int v1]).toArray RX12 := ⟨hx, hb, hml, hown, fun w h => hts w (List.mem_cons_of_mem _ h)⟩
  have hP : va_P D vwCl [((g 100), .inr (13, oM g))] s.heap := hP
  have hl := lv_entry ([.ref (g 100), .int v0, .int v1]) (n := 6) (Nat.le_of_ble_eq_true rfl)
  rw [lg_entry_eq]
  generalize (lg_sl ([.ref (g 100), .int v0, .int v1]) ++ List.replicate (6 - (lg_sl ([.ref (g 100), .int v0, .int v1])).length) Slot.unset).toArray = ls at hl ⊢
  have hl : lv_has ls 6 [(0, .ref (g 100)), (1, .int v0), (2, .int v1)] := hl
  refine lv_iload_n hx hb dX12_beside_0 rfl (lv_at hl 1 rfl) ?_
  refine lv_iconst (v := 0) hx hb dX12_beside_1 (by decide) ?_
  refine lv_sipush (v := 198) hx hb dX12_beside_2 (by decide) ?_
  refine vp_callSi (runS_r (As := [.int v0, .int 0, .int 198]) (rest := []) S (q_in l D cI cB cZ v0 0 198) kS_RX12_214 hK hP [] rfl ⟨Nat.le_of_ble_eq_true rfl, Nat.le_of_ble_eq_true rfl⟩ ⟨Nat.le_of_ble_eq_true rfl, Nat.le_of_ble_eq_true rfl⟩ rfl hl.1 rfl (Nat.le_of_ble_eq_true rfl) dX12_beside_5) (fun r_1 h_2 => ?_)
  rcases h_2 with ⟨rfl, h_2⟩ | ⟨rfl, h_2⟩
  ·
    have h_2 : 0 ≤ v0.toInt ∧ v0.toInt ≤ 198 := h_2
    refine lv_if_eq (tgt := 22) hx hb dX12_beside_8 (by decide) (fun h => absurd h (by decide)) (fun _ => ?_)
    refine lv_iload_n hx hb dX12_beside_11 rfl (lv_at hl 2 rfl) ?_
    refine lv_iconst (v := 1) hx hb dX12_beside_12 (by decide) ?_
    refine lv_sipush (v := 1000) hx hb dX12_beside_13 (by decide) ?_
    refine vp_callSi (runS_r (As := [.int v1, .int 1, .int 1000]) (rest := []) S (q_in l D cI cB cZ v1 1 1000) kS_RX12_214 hK hP [] rfl ⟨Nat.le_of_ble_eq_true rfl, Nat.le_of_ble_eq_true rfl⟩ ⟨Nat.le_of_ble_eq_true rfl, Nat.le_of_ble_eq_true rfl⟩ rfl hl.1 rfl (Nat.le_of_ble_eq_true rfl) dX12_beside_16) (fun r_3 h_4 => ?_)
    rcases h_4 with ⟨rfl, h_4⟩ | ⟨rfl, h_4⟩
    ·
      have h_4 : 1 ≤ v1.toInt ∧ v1.toInt ≤ 1000 := h_4
      refine lv_if_ne (tgt := 24) hx hb dX12_beside_19 (by decide) (fun _ => ?_) (fun h => absurd h (by decide))
      refine lv_iconst (v := 0) hx hb dX12_beside_24 (by decide) ?_
      refine lv_istore_n (lv' := [(3, .int 0), (0, .ref (g 100)), (1, .int v0), (2, .int v1)]) hx hb dX12_beside_25 rfl hl (by decide) rfl (fun ls hl => ?_)
      refine lv_iconst (v := 0) hx hb dX12_beside_26 (by decide) ?_
      refine lv_istore (lv' := [(4, .int 0), (3, .int 0), (0, .ref (g 100)), (1, .int v0), (2, .int v1)]) hx hb dX12_beside_27 hl (by decide) rfl (fun ls hl => ?_)
      refine lv_iload hx hb dX12_beside_29 (lv_at hl 0 rfl) ?_
      refine lv_aload_n hx hb dX12_beside_31 rfl (lv_at hl 2 rfl) ?_
      refine gf_RX12_204 S hK hP 0 rfl (v := .int 0) rfl dX12_beside_32 ?_
      refine lv_icmp_ge (tgt := 125) hx hb dX12_beside_35 (by decide) (fun _ => ?_) (fun h => absurd h (by decide))
      refine lv_iload_n hx hb dX12_beside_125 rfl (lv_at hl 1 rfl) ?_
      exact W.iret (v := 0) hx hb hr (fun t ht hW => ⟨0, rfl, (if_pos (by omega)).symm, ht⟩) (fun _ h => absurd h List.not_mem_nil) dX12_beside_126
    ·
      have h_4 : ¬ (1 ≤ v1.toInt ∧ v1.toInt ≤ 1000) := h_4
      refine lv_if_ne (tgt := 24) hx hb dX12_beside_19 (by decide) (fun h => absurd h (by decide)) (fun _ => ?_)
      refine lv_iconst (v := (-1)) hx hb dX12_beside_22 (by decide) ?_
      exact W.iret (v := (-1)) hx hb hr (fun t ht hW => ⟨(-1), rfl, (if_neg (by omega)).symm, ht⟩) (fun _ h => absurd h List.not_mem_nil) dX12_beside_23
  ·
    have h_2 : ¬ (0 ≤ v0.toInt ∧ v0.toInt ≤ 198) := h_2
    refine lv_if_eq (tgt := 22) hx hb dX12_beside_8 (by decide) (fun _ => ?_) (fun h => absurd h (by decide))
    refine lv_iconst (v := (-1)) hx hb dX12_beside_22 (by decide) ?_
    exact W.iret (v := (-1)) hx hb hr (fun t ht hW => ⟨(-1), rfl, (if_neg (by omega)).symm, ht⟩) (fun _ h => absurd h List.not_mem_nil) dX12_beside_23
set_option maxRecDepth 100000 in
set_option maxHeartbeats 4000000 in
theorem q_M_first (l : Launch) (D : va_G) (cI cB cZ : ClassId) (g : Nat → Nat) (v0 v1 : Int32) : Met l yX12_first (CWS yX12_first cX12_first 4 (some .int)) (RM 3 0 0) (PBr [.ref (g 100), .int v0, .int v1] D cI cB cZ [((g 100), .inr (13, oM g)), ((g 90), .inl (cI, 400, .inl (dgF 400)))]) (vp_Si (fun r => r = (if (0 ≤ v0.toInt ∧ v0.toInt ≤ 399) ∧ -40 ≤ v1.toInt ∧ v1.toInt ≤ 41 then ((if 15 < v1.toInt then (-2 : Int32) else v0) : Int32) else -1))) 0 0 (fun _ => False) := by
  refine Met.ofW (cc := cX12_first) (maxL := 4) (ret := (some .int)) (by decide) rfl ?_
  intro p e s m args below meth c s₁ B hml hv
  obtain ⟨rfl, hP, hK⟩ := hv
  have hx := B.exec
  have hb := B.bytes
  have hr := B.returns
  have hts := atoms_spec (ws := (CWS yX12_first cX12_first 4 (some .int))) B.pre
  have hown : s.vm.findClass RX12 = some m.cls := findClass_of_methodNamed B.named
  have hlocks := B.notSynchronized
  have S : SF p m c cX12_first 4 s ([.ref (g 100), .int v0, .int v1]).toArray RX12 := ⟨hx, hb, hml, hown, fun w h => hts w (List.mem_cons_of_mem _ h)⟩
  have hP : va_P D vwCl [((g 100), .inr (13, oM g)), ((g 90), .inl (cI, 400, .inl (dgF 400)))] s.heap := hP
  have hl := lv_entry ([.ref (g 100), .int v0, .int v1]) (n := 4) (Nat.le_of_ble_eq_true rfl)
  rw [lg_entry_eq]
  generalize (lg_sl ([.ref (g 100), .int v0, .int v1]) ++ List.replicate (4 - (lg_sl ([.ref (g 100), .int v0, .int v1])).length) Slot.unset).toArray = ls at hl ⊢
  have hl : lv_has ls 4 [(0, .ref (g 100)), (1, .int v0), (2, .int v1)] := hl
  refine lv_iload_n hx hb dX12_first_0 rfl (lv_at hl 1 rfl) ?_
  refine vp_callSi (runS_r (As := [.int v0]) (rest := []) S (q_misDay l D cI cB cZ v0) kS_RX12_341 hK hP [] rfl ⟨Nat.le_of_ble_eq_true rfl, Nat.le_of_ble_eq_true rfl⟩ ⟨Nat.le_of_ble_eq_true rfl, Nat.le_of_ble_eq_true rfl⟩ rfl hl.1 rfl (Nat.le_of_ble_eq_true rfl) dX12_first_1) (fun r_1 h_2 => ?_)
  rcases h_2 with ⟨rfl, h_2⟩ | ⟨rfl, h_2⟩
  ·
    have h_2 : 0 ≤ v0.toInt ∧ v0.toInt ≤ 399 := h_2
    refine lv_if_eq (tgt := 18) hx hb dX12_first_4 (by decide) (fun h => absurd h (by decide)) (fun _ => ?_)
    refine lv_iload_n hx hb dX12_first_7 rfl (lv_at hl 2 rfl) ?_
    refine lv_bipush (v := (-40)) hx hb dX12_first_8 (by decide) ?_
    refine lv_bipush (v := 41) hx hb dX12_first_10 (by decide) ?_
    refine vp_callSi (runS_r (As := [.int v1, .int (-40), .int 41]) (rest := []) S (q_in l D cI cB cZ v1 (-40) 41) kS_RX12_214 hK hP [] rfl ⟨Nat.le_of_ble_eq_true rfl, Nat.le_of_ble_eq_true rfl⟩ ⟨Nat.le_of_ble_eq_true rfl, Nat.le_of_ble_eq_true rfl⟩ rfl hl.1 rfl (Nat.le_of_ble_eq_true rfl) dX12_first_12) (fun r_3 h_4 => ?_)
    rcases h_4 with ⟨rfl, h_4⟩ | ⟨rfl, h_4⟩
    ·
      have h_4 : (-40) ≤ v1.toInt ∧ v1.toInt ≤ 41 := h_4
      refine lv_if_ne (tgt := 20) hx hb dX12_first_15 (by decide) (fun _ => ?_) (fun h => absurd h (by decide))
      obtain ⟨j, hj, rfl⟩ := nI_of (x := v0) (fun q => by have := Int32.lt_iff_toInt_lt.mp q; have e : (0 : Int32).toInt = 0 := rfl; omega)
      have tj : (nI j).toInt = (j : Int) := nI_toInt hj
      refine lv_iload_n hx hb dX12_first_20 rfl (lv_at hl 1 rfl) ?_
      refine lv_istore_n (lv' := [(3, .int (nI j)), (0, .ref (g 100)), (1, .int (nI j)), (2, .int v1)]) hx hb dX12_first_21 rfl hl (by decide) rfl (fun ls hl => ?_)
      have lp_22 : ∀ (n i : Nat), 400 + 1 ≤ i + n → i ≤ 400 → (15 < v1.toInt ∨ i = j) → ∀ ls : Array Slot, lv_has ls 4 [(3, .int (nI i)), (0, .ref (g 100)), (1, .int (nI j)), (2, .int v1)] → W p l e (RM 3 0 0) s m ([.ref (g 100), .int (nI j), .int v1]).toArray below meth c s.heap [] 0 0 (MQ below (vp_Si (fun r => r = (if (0 ≤ (nI j).toInt ∧ (nI j).toInt ≤ 399) ∧ -40 ≤ v1.toInt ∧ v1.toInt ≤ 41 then ((if 15 < v1.toInt then (-2 : Int32) else (nI j)) : Int32) else -1))) ([.ref (g 100), .int (nI j), .int v1]).toArray s 0 0 (fun _ => False)) (F0 m 22 ls []) := by
        intro n
        induction n with
        | zero => intro i h1 h2; exact absurd h1 (by omega)
        | succ n ih =>
          intro i hn1 hi hinv ls hl
          have ti : (nI i).toInt = (i : Int) := nI_toInt (by omega)
          refine lv_iload_n hx hb dX12_first_22 rfl (lv_at hl 0 rfl) ?_
          refine lv_sipush (v := 399) hx hb dX12_first_23 (by decide) ?_
          refine lv_icmp_gt (tgt := 47) hx hb dX12_first_26 (by decide) (fun c_5 => ?_) (fun c_5 => ?_)
          ·
            have tc_5 : (399 : Int) < (nI i).toInt := Int32.lt_iff_toInt_lt.mp c_5
            refine lv_bipush (v := (-2)) hx hb dX12_first_47 (by decide) ?_
            exact W.iret (v := (-2)) hx hb hr (fun t ht hW => ⟨(-2), rfl, (by rw [if_pos (by omega), if_pos (by omega)]), ht⟩) (fun _ h => absurd h List.not_mem_nil) dX12_first_49
          ·
            have tc_5 : ((nI i).toInt : Int) ≤ 399 := Int32.le_iff_toInt_le.mp (Int32.not_lt.mp c_5)
            refine lv_aload_n hx hb dX12_first_29 rfl (lv_at hl 1 rfl) ?_
            refine gf_RX12_201 S hK hP 0 rfl (v := .ref (g 90)) rfl dX12_first_30 ?_
            refine lv_iload_n hx hb dX12_first_33 rfl (lv_at hl 0 rfl) ?_
            refine va_iald hx hb hK.1 hP 1 0 rfl rfl (vp_in_iff.mpr ⟨by omega, by omega⟩) dX12_first_34 ?_
            refine lv_topi (fun y_6 ey_6 => ?_)
            obtain rfl : y_6 = 15 := ey_6.trans (dg15 (by omega))
            refine lv_iload_n hx hb dX12_first_35 rfl (lv_at hl 3 rfl) ?_
            refine lv_icmp_lt (tgt := 41) hx hb dX12_first_36 (by decide) (fun c_7 => ?_) (fun c_7 => ?_)
            ·
              have tc_7 : (15 : Int) < v1.toInt := Int32.lt_iff_toInt_lt.mp c_7
              refine lv_iinc (v := (nI (i + 1))) (lv' := [(3, .int (nI (i + 1))), (0, .ref (g 100)), (1, .int (nI j)), (2, .int v1)]) hx hb dX12_first_41 hl (k := 0) rfl (nI_1 _) (by decide) rfl (fun ls hl => ?_)
              refine lv_goto (tgt := 22) hx hb dX12_first_44 (by decide) ?_
              exact ih (i + 1) (by omega) (by omega) (Or.inl (by omega)) ls (lv_sub hl [0, 1, 2, 3] rfl)
            ·
              have tc_7 : (v1.toInt : Int) ≤ 15 := Int32.le_iff_toInt_le.mp (Int32.not_lt.mp c_7)
              refine lv_iload_n hx hb dX12_first_39 rfl (lv_at hl 0 rfl) ?_
              exact W.iret (v := (nI i)) hx hb hr (fun t ht hW => ⟨(nI i), rfl, (by have e : i = j := (by omega); subst e; rw [if_pos (by omega), if_neg (by omega)]), ht⟩) (fun _ h => absurd h List.not_mem_nil) dX12_first_40
      exact lp_22 (400 + 1) j (by omega) (by omega) (Or.inr rfl) ls (lv_sub hl [0, 1, 2, 3] rfl)
    ·
      have h_4 : ¬ ((-40) ≤ v1.toInt ∧ v1.toInt ≤ 41) := h_4
      refine lv_if_ne (tgt := 20) hx hb dX12_first_15 (by decide) (fun h => absurd h (by decide)) (fun _ => ?_)
      refine lv_iconst (v := (-1)) hx hb dX12_first_18 (by decide) ?_
      exact W.iret (v := (-1)) hx hb hr (fun t ht hW => ⟨(-1), rfl, (if_neg (by omega)).symm, ht⟩) (fun _ h => absurd h List.not_mem_nil) dX12_first_19
  ·
    have h_2 : ¬ (0 ≤ v0.toInt ∧ v0.toInt ≤ 399) := h_2
    refine lv_if_eq (tgt := 18) hx hb dX12_first_4 (by decide) (fun _ => ?_) (fun h => absurd h (by decide))
    refine lv_iconst (v := (-1)) hx hb dX12_first_18 (by decide) ?_
    exact W.iret (v := (-1)) hx hb hr (fun t ht hW => ⟨(-1), rfl, (if_neg (by omega)).symm, ht⟩) (fun _ h => absurd h List.not_mem_nil) dX12_first_19
set_option maxRecDepth 100000 in
set_option maxHeartbeats 4000000 in
theorem q_M_drum (l : Launch) (D : va_G) (cI cB cZ : ClassId) (g : Nat → Nat) (sz : Nat) : Met l yX12_drum (CWS yX12_drum cX12_drum 1 (some .int)) (RM 3 0 0) (PBw [.ref (g 100)] D cI cB cZ [((g 100), .inr (13, oM g))] sz) (va_Qi (fun (r : Int32) (_ : Unit) => r = 0) (fun (_ : Unit) (_ : State) => True) (va_A [((g 100), .inr (13, oM g))] sz)) 0 0 (va_A [((g 100), .inr (13, oM g))] sz) := by
  refine Met.ofW (cc := cX12_drum) (maxL := 1) (ret := (some .int)) (by decide) rfl ?_
  intro p e s m args below meth c s₁ B hml hv
  obtain ⟨rfl, hsz, hP, hK, hD0⟩ := hv
  have hx := B.exec
  have hb := B.bytes
  have hr := B.returns
  have hts := atoms_spec (ws := (CWS yX12_drum cX12_drum 1 (some .int))) B.pre
  have hown : s.vm.findClass RX12 = some m.cls := findClass_of_methodNamed B.named
  have hlocks := B.notSynchronized
  have S : SF p m c cX12_drum 1 s ([.ref (g 100)]).toArray RX12 := ⟨hx, hb, hml, hown, fun w h => hts w (List.mem_cons_of_mem _ h)⟩
  subst hsz
  have hD := hD0.self (sz := s.heap.size)
  generalize hAe : va_A [((g 100), .inr (13, oM g))] s.heap.size = A at hD ⊢
  have hA : ∀ q : Nat, s.heap.size ≤ q → A q := fun q h => by rw [← hAe]; exact Or.inr h
  have hS : va_S A s.heap s.heap [] := va_S.rf
  have hP : va_P D vwCl [((g 100), .inr (13, oM g))] s.heap := hP
  have hD : va_D A [((g 100), .inr (13, oM g))] := hD
  have hl := lv_entry ([.ref (g 100)]) (n := 1) (Nat.le_of_ble_eq_true rfl)
  rw [lg_entry_eq]
  generalize (lg_sl ([.ref (g 100)]) ++ List.replicate (1 - (lg_sl ([.ref (g 100)])).length) Slot.unset).toArray = ls at hl ⊢
  have hl : lv_has ls 1 [(0, .ref (g 100))] := hl
  refine lv_aload_n hx hb dX12_drum_0 rfl (lv_at hl 0 rfl) ?_
  refine gf_RX12_407 S hK hP 0 rfl (v := .int 0) rfl dX12_drum_1 ?_
  refine lv_bipush (v := 20) hx hb dX12_drum_4 (by decide) ?_
  refine lv_icmp_ne (tgt := 11) hx hb dX12_drum_6 (by decide) (fun _ => ?_) (fun h => absurd h (by decide))
  refine lv_aload_n hx hb dX12_drum_11 rfl (lv_at hl 0 rfl) ?_
  refine lv_aload_n hx hb dX12_drum_12 rfl (lv_at hl 0 rfl) ?_
  refine gf_RX12_407 S hK hP 0 rfl (v := .int 0) rfl dX12_drum_13 ?_
  refine lv_iconst (v := 1) hx hb dX12_drum_16 (by decide) ?_
  refine lv_iadd hx hb dX12_drum_17 ?_
  refine lv_topi (fun y_1 ey_1 => ?_)
  obtain rfl : y_1 = 1 := ey_1.trans (by decide)
  refine pf_RX12_407 S hK hP hD hS 0 rfl (v := .int 1) (Nat.le_of_ble_eq_true rfl) rfl rfl dX12_drum_18 (fun H locs hP hD hS => ?_)
  have hP : va_P D vwCl [((g 100), .inr (13, [.int 0, .int 0, .int 0, .ref (g 3), .ref (g 4), .ref (g 5), .ref (g 6), .ref (g 7), .ref (g 8), .ref (g 9), .ref (g 10), .ref (g 11), .ref (g 12), .ref (g 13), .ref (g 14), .ref (g 15), .ref (g 16), .ref (g 17), .int 0, .int 0, .int 0, .int 0, .int 0, .int 0, .int 0, .int 0, .int 0, .ref (g 27), .ref (g 28), .ref (g 29), .ref (g 30), .ref (g 31), .ref (g 32), .ref (g 33), .ref (g 34), .ref (g 35), .ref (g 36), .ref (g 37), .ref (g 38), .ref (g 39), .ref (g 40), .ref (g 41), .ref (g 42), .ref (g 43), .int 0, .int 0, .int 0, .ref (g 47), .ref (g 48), .ref (g 49), .ref (g 50), .ref (g 51), .ref (g 52), .ref (g 53), .int 0, .int 0, .int 0, .int 1, .int 0, .ref (g 59), .ref (g 60), .ref (g 61), .int 0, .int 0, .ref (g 64), .ref (g 65), .ref (g 66), .ref (g 67), .ref (g 68), .ref (g 69), .ref (g 70), .int 0, .int 0, .int 0, .ref (g 74), .int 0, .ref (g 76), .ref (g 77), .ref (g 78), .ref (g 79), .ref (g 80), .ref (g 81), .ref (g 82), .int 0, .ref (g 84), .ref (g 85), .ref (g 86), .ref (g 87), .ref (g 88), .ref (g 89), .ref (g 90)]))] H := hP
  have hD : va_D A [((g 100), .inr (13, [.int 0, .int 0, .int 0, .ref (g 3), .ref (g 4), .ref (g 5), .ref (g 6), .ref (g 7), .ref (g 8), .ref (g 9), .ref (g 10), .ref (g 11), .ref (g 12), .ref (g 13), .ref (g 14), .ref (g 15), .ref (g 16), .ref (g 17), .int 0, .int 0, .int 0, .int 0, .int 0, .int 0, .int 0, .int 0, .int 0, .ref (g 27), .ref (g 28), .ref (g 29), .ref (g 30), .ref (g 31), .ref (g 32), .ref (g 33), .ref (g 34), .ref (g 35), .ref (g 36), .ref (g 37), .ref (g 38), .ref (g 39), .ref (g 40), .ref (g 41), .ref (g 42), .ref (g 43), .int 0, .int 0, .int 0, .ref (g 47), .ref (g 48), .ref (g 49), .ref (g 50), .ref (g 51), .ref (g 52), .ref (g 53), .int 0, .int 0, .int 0, .int 1, .int 0, .ref (g 59), .ref (g 60), .ref (g 61), .int 0, .int 0, .ref (g 64), .ref (g 65), .ref (g 66), .ref (g 67), .ref (g 68), .ref (g 69), .ref (g 70), .int 0, .int 0, .int 0, .ref (g 74), .int 0, .ref (g 76), .ref (g 77), .ref (g 78), .ref (g 79), .ref (g 80), .ref (g 81), .ref (g 82), .int 0, .ref (g 84), .ref (g 85), .ref (g 86), .ref (g 87), .ref (g 88), .ref (g 89), .ref (g 90)]))] := hD
  refine lv_aload_n hx hb dX12_drum_21 rfl (lv_at hl 0 rfl) ?_
  refine gf_RX12_407 S hK hP 0 rfl (v := .int 1) rfl dX12_drum_22 ?_
  refine lv_iconst (v := 1) hx hb dX12_drum_25 (by decide) ?_
  refine lv_isub hx hb dX12_drum_26 ?_
  refine lv_topi (fun y_2 ey_2 => ?_)
  obtain rfl : y_2 = 0 := ey_2.trans (by decide)
  exact W.iret (v := 0) hx hb hr (fun t ht hW => ⟨⟨0, (), rfl, rfl, trivial⟩, hS.F ht⟩) hS.2.2 dX12_drum_27
set_option maxRecDepth 100000 in
set_option maxHeartbeats 4000000 in
theorem q_M_stale (l : Launch) (D : va_G) (cI cB cZ : ClassId) (g : Nat → Nat) (v0 : Int32) : Met l yX12_stale (CWS yX12_stale cX12_stale 5 (some .int)) (RM 3 0 0) (PBr [.ref (g 100), .int v0] D cI cB cZ [((g 100), .inr (13, oM g))]) (vp_Si (fun r => r = (if 0 ≤ v0.toInt ∧ v0.toInt ≤ 399 then (0 : Int32) else -1))) 0 0 (fun _ => False) := by
  refine Met.ofW (cc := cX12_stale) (maxL := 5) (ret := (some .int)) (by decide) rfl ?_
  intro p e s m args below meth c s₁ B hml hv
  obtain ⟨rfl, hP, hK⟩ := hv
  have hx := B.exec
  have hb := B.bytes
  have hr := B.returns
  have hts := atoms_spec (ws := (CWS yX12_stale cX12_stale 5 (some .int))) B.pre
  have hown : s.vm.findClass RX12 = some m.cls := findClass_of_methodNamed B.named
  have hlocks := B.notSynchronized
  have S : SF p m c cX12_stale 5 s ([.ref (g 100), .int v0]).toArray RX12 := ⟨hx, hb, hml, hown, fun w h => hts w (List.mem_cons_of_mem _ h)⟩
  have hP : va_P D vwCl [((g 100), .inr (13, oM g))] s.heap := hP
  have hl := lv_entry ([.ref (g 100), .int v0]) (n := 5) (Nat.le_of_ble_eq_true rfl)
  rw [lg_entry_eq]
  generalize (lg_sl ([.ref (g 100), .int v0]) ++ List.replicate (5 - (lg_sl ([.ref (g 100), .int v0])).length) Slot.unset).toArray = ls at hl ⊢
  have hl : lv_has ls 5 [(0, .ref (g 100)), (1, .int v0)] := hl
  refine lv_iload_n hx hb dX12_stale_0 rfl (lv_at hl 1 rfl) ?_
  refine vp_callSi (runS_r (As := [.int v0]) (rest := []) S (q_misDay l D cI cB cZ v0) kS_RX12_341 hK hP [] rfl ⟨Nat.le_of_ble_eq_true rfl, Nat.le_of_ble_eq_true rfl⟩ ⟨Nat.le_of_ble_eq_true rfl, Nat.le_of_ble_eq_true rfl⟩ rfl hl.1 rfl (Nat.le_of_ble_eq_true rfl) dX12_stale_1) (fun r_1 h_2 => ?_)
  rcases h_2 with ⟨rfl, h_2⟩ | ⟨rfl, h_2⟩
  ·
    have h_2 : 0 ≤ v0.toInt ∧ v0.toInt ≤ 399 := h_2
    refine lv_if_ne (tgt := 9) hx hb dX12_stale_4 (by decide) (fun _ => ?_) (fun h => absurd h (by decide))
    refine lv_iconst (v := 0) hx hb dX12_stale_9 (by decide) ?_
    refine lv_istore_n (lv' := [(2, .int 0), (0, .ref (g 100)), (1, .int v0)]) hx hb dX12_stale_10 rfl hl (by decide) rfl (fun ls hl => ?_)
    refine lv_iconst (v := 0) hx hb dX12_stale_11 (by decide) ?_
    refine lv_istore_n (lv' := [(3, .int 0), (2, .int 0), (0, .ref (g 100)), (1, .int v0)]) hx hb dX12_stale_12 rfl hl (by decide) rfl (fun ls hl => ?_)
    refine lv_iload_n hx hb dX12_stale_13 rfl (lv_at hl 0 rfl) ?_
    refine lv_aload_n hx hb dX12_stale_14 rfl (lv_at hl 2 rfl) ?_
    refine gf_RX12_407 S hK hP 0 rfl (v := .int 0) rfl dX12_stale_15 ?_
    refine lv_icmp_ge (tgt := 77) hx hb dX12_stale_18 (by decide) (fun _ => ?_) (fun h => absurd h (by decide))
    refine lv_iload_n hx hb dX12_stale_77 rfl (lv_at hl 1 rfl) ?_
    exact W.iret (v := 0) hx hb hr (fun t ht hW => ⟨0, rfl, (if_pos (by omega)).symm, ht⟩) (fun _ h => absurd h List.not_mem_nil) dX12_stale_78
  ·
    have h_2 : ¬ (0 ≤ v0.toInt ∧ v0.toInt ≤ 399) := h_2
    refine lv_if_ne (tgt := 9) hx hb dX12_stale_4 (by decide) (fun h => absurd h (by decide)) (fun _ => ?_)
    refine lv_iconst (v := (-1)) hx hb dX12_stale_7 (by decide) ?_
    exact W.iret (v := (-1)) hx hb hr (fun t ht hW => ⟨(-1), rfl, (if_neg (by omega)).symm, ht⟩) (fun _ h => absurd h List.not_mem_nil) dX12_stale_8
set_option maxRecDepth 100000 in
set_option maxHeartbeats 4000000 in
theorem q_M_spill (l : Launch) (D : va_G) (cI cB cZ : ClassId) (g : Nat → Nat) (v0 v1 : Int32) (sz : Nat) : Met l yX12_spill (CWS yX12_spill cX12_spill 3 (some .int)) (RM 3 0 0) (PBw [.ref (g 100), .int v0, .int v1] D cI cB cZ [((g 100), .inr (13, oM g)), ((g 81), .inl (cI, 40, .inl (fun _ => 0))), ((g 82), .inl (cI, 40, .inl (fun _ => 0)))] sz) (va_Qi (fun (r : Int32) (_ : Unit) => r = (if (0 ≤ v0.toInt ∧ v0.toInt ≤ 0) ∧ 1 ≤ v1.toInt ∧ v1.toInt ≤ 400 then (1 : Int32) else -1)) (fun (_ : Unit) (_ : State) => True) (va_A [((g 100), .inr (13, oM g)), ((g 81), .inl (cI, 40, .inl (fun _ => 0))), ((g 82), .inl (cI, 40, .inl (fun _ => 0)))] sz)) 0 0 (va_A [((g 100), .inr (13, oM g)), ((g 81), .inl (cI, 40, .inl (fun _ => 0))), ((g 82), .inl (cI, 40, .inl (fun _ => 0)))] sz) := by
  refine Met.ofW (cc := cX12_spill) (maxL := 3) (ret := (some .int)) (by decide) rfl ?_
  intro p e s m args below meth c s₁ B hml hv
  obtain ⟨rfl, hsz, hP, hK, hD0⟩ := hv
  have hx := B.exec
  have hb := B.bytes
  have hr := B.returns
  have hts := atoms_spec (ws := (CWS yX12_spill cX12_spill 3 (some .int))) B.pre
  have hown : s.vm.findClass RX12 = some m.cls := findClass_of_methodNamed B.named
  have hlocks := B.notSynchronized
  have S : SF p m c cX12_spill 3 s ([.ref (g 100), .int v0, .int v1]).toArray RX12 := ⟨hx, hb, hml, hown, fun w h => hts w (List.mem_cons_of_mem _ h)⟩
  subst hsz
  have hD := hD0.self (sz := s.heap.size)
  generalize hAe : va_A [((g 100), .inr (13, oM g)), ((g 81), .inl (cI, 40, .inl (fun _ => 0))), ((g 82), .inl (cI, 40, .inl (fun _ => 0)))] s.heap.size = A at hD ⊢
  have hA : ∀ q : Nat, s.heap.size ≤ q → A q := fun q h => by rw [← hAe]; exact Or.inr h
  have hS : va_S A s.heap s.heap [] := va_S.rf
  have hP : va_P D vwCl [((g 100), .inr (13, oM g)), ((g 81), .inl (cI, 40, .inl (fun _ => 0))), ((g 82), .inl (cI, 40, .inl (fun _ => 0)))] s.heap := hP
  have hD : va_D A [((g 100), .inr (13, oM g)), ((g 81), .inl (cI, 40, .inl (fun _ => 0))), ((g 82), .inl (cI, 40, .inl (fun _ => 0)))] := hD
  have hl := lv_entry ([.ref (g 100), .int v0, .int v1]) (n := 3) (Nat.le_of_ble_eq_true rfl)
  rw [lg_entry_eq]
  generalize (lg_sl ([.ref (g 100), .int v0, .int v1]) ++ List.replicate (3 - (lg_sl ([.ref (g 100), .int v0, .int v1])).length) Slot.unset).toArray = ls at hl ⊢
  have hl : lv_has ls 3 [(0, .ref (g 100)), (1, .int v0), (2, .int v1)] := hl
  refine lv_iload_n hx hb dX12_spill_0 rfl (lv_at hl 1 rfl) ?_
  refine lv_iconst (v := 0) hx hb dX12_spill_1 (by decide) ?_
  refine lv_aload_n hx hb dX12_spill_2 rfl (lv_at hl 0 rfl) ?_
  refine gf_RX12_211 S hK hP 0 rfl (v := .int 0) rfl dX12_spill_3 ?_
  refine vp_callSi (runS_r (As := [.int v0, .int 0, .int 0]) (rest := []) S (q_in l D cI cB cZ v0 0 0) kS_RX12_214 hK hP [] rfl ⟨Nat.le_of_ble_eq_true rfl, Nat.le_of_ble_eq_true rfl⟩ ⟨Nat.le_of_ble_eq_true rfl, Nat.le_of_ble_eq_true rfl⟩ rfl hl.1 rfl (Nat.le_of_ble_eq_true rfl) dX12_spill_6) (fun r_1 h_2 => ?_)
  rcases h_2 with ⟨rfl, h_2⟩ | ⟨rfl, h_2⟩
  ·
    have h_2 : 0 ≤ v0.toInt ∧ v0.toInt ≤ 0 := h_2
    refine lv_if_eq (tgt := 32) hx hb dX12_spill_9 (by decide) (fun h => absurd h (by decide)) (fun _ => ?_)
    refine lv_iload_n hx hb dX12_spill_12 rfl (lv_at hl 2 rfl) ?_
    refine lv_iconst (v := 1) hx hb dX12_spill_13 (by decide) ?_
    refine lv_sipush (v := 400) hx hb dX12_spill_14 (by decide) ?_
    refine vp_callSi (runS_r (As := [.int v1, .int 1, .int 400]) (rest := []) S (q_in l D cI cB cZ v1 1 400) kS_RX12_214 hK hP [] rfl ⟨Nat.le_of_ble_eq_true rfl, Nat.le_of_ble_eq_true rfl⟩ ⟨Nat.le_of_ble_eq_true rfl, Nat.le_of_ble_eq_true rfl⟩ rfl hl.1 rfl (Nat.le_of_ble_eq_true rfl) dX12_spill_17) (fun r_3 h_4 => ?_)
    rcases h_4 with ⟨rfl, h_4⟩ | ⟨rfl, h_4⟩
    ·
      have h_4 : 1 ≤ v1.toInt ∧ v1.toInt ≤ 400 := h_4
      refine lv_if_eq (tgt := 32) hx hb dX12_spill_20 (by decide) (fun h => absurd h (by decide)) (fun _ => ?_)
      refine lv_aload_n hx hb dX12_spill_23 rfl (lv_at hl 0 rfl) ?_
      refine gf_RX12_462 S hK hP 0 rfl (v := .int 0) rfl dX12_spill_24 ?_
      refine lv_bipush (v := 40) hx hb dX12_spill_27 (by decide) ?_
      refine lv_icmp_ne (tgt := 34) hx hb dX12_spill_29 (by decide) (fun _ => ?_) (fun h => absurd h (by decide))
      refine lv_aload_n hx hb dX12_spill_34 rfl (lv_at hl 0 rfl) ?_
      refine gf_RX12_177 S hK hP 0 rfl (v := .ref (g 81)) rfl dX12_spill_35 ?_
      refine lv_aload_n hx hb dX12_spill_38 rfl (lv_at hl 0 rfl) ?_
      refine gf_RX12_462 S hK hP 0 rfl (v := .int 0) rfl dX12_spill_39 ?_
      refine lv_iload_n hx hb dX12_spill_42 rfl (lv_at hl 1 rfl) ?_
      refine va_iast hx hb hK.1 hP hD hS 1 0 rfl rfl (by unfold vp_in; decide) dX12_spill_43 (fun H locs hP hD hS => ?_)
      have hP : va_P D vwCl [((g 100), .inr (13, oM g)), ((g 81), .inl (cI, 40, .inl (upd (fun _ => 0) (0 : Int32).toNatClampNeg v0))), ((g 82), .inl (cI, 40, .inl (fun _ => 0)))] H := hP
      have hD : va_D A [((g 100), .inr (13, oM g)), ((g 81), .inl (cI, 40, .inl (upd (fun _ => 0) (0 : Int32).toNatClampNeg v0))), ((g 82), .inl (cI, 40, .inl (fun _ => 0)))] := hD
      refine lv_aload_n hx hb dX12_spill_44 rfl (lv_at hl 0 rfl) ?_
      refine gf_RX12_180 S hK hP 0 rfl (v := .ref (g 82)) rfl dX12_spill_45 ?_
      refine lv_aload_n hx hb dX12_spill_48 rfl (lv_at hl 0 rfl) ?_
      refine gf_RX12_462 S hK hP 0 rfl (v := .int 0) rfl dX12_spill_49 ?_
      refine lv_iload_n hx hb dX12_spill_52 rfl (lv_at hl 2 rfl) ?_
      refine va_iast hx hb hK.1 hP hD hS 2 0 rfl rfl (by unfold vp_in; decide) dX12_spill_53 (fun H locs hP hD hS => ?_)
      have hP : va_P D vwCl [((g 100), .inr (13, oM g)), ((g 81), .inl (cI, 40, .inl (upd (fun _ => 0) (0 : Int32).toNatClampNeg v0))), ((g 82), .inl (cI, 40, .inl (upd (fun _ => 0) (0 : Int32).toNatClampNeg v1)))] H := hP
      have hD : va_D A [((g 100), .inr (13, oM g)), ((g 81), .inl (cI, 40, .inl (upd (fun _ => 0) (0 : Int32).toNatClampNeg v0))), ((g 82), .inl (cI, 40, .inl (upd (fun _ => 0) (0 : Int32).toNatClampNeg v1)))] := hD
      refine lv_aload_n hx hb dX12_spill_54 rfl (lv_at hl 0 rfl) ?_
      refine lv_aload_n hx hb dX12_spill_55 rfl (lv_at hl 0 rfl) ?_
      refine gf_RX12_462 S hK hP 0 rfl (v := .int 0) rfl dX12_spill_56 ?_
      refine lv_iconst (v := 1) hx hb dX12_spill_59 (by decide) ?_
      refine lv_iadd hx hb dX12_spill_60 ?_
      refine lv_topi (fun y_5 ey_5 => ?_)
      obtain rfl : y_5 = 1 := ey_5.trans (by decide)
      refine pf_RX12_462 S hK hP hD hS 0 rfl (v := .int 1) (Nat.le_of_ble_eq_true rfl) rfl rfl dX12_spill_61 (fun H locs hP hD hS => ?_)
      have hP : va_P D vwCl [((g 100), .inr (13, [.int 0, .int 0, .int 0, .ref (g 3), .ref (g 4), .ref (g 5), .ref (g 6), .ref (g 7), .ref (g 8), .ref (g 9), .ref (g 10), .ref (g 11), .ref (g 12), .ref (g 13), .ref (g 14), .ref (g 15), .ref (g 16), .ref (g 17), .int 0, .int 0, .int 0, .int 0, .int 0, .int 0, .int 0, .int 0, .int 0, .ref (g 27), .ref (g 28), .ref (g 29), .ref (g 30), .ref (g 31), .ref (g 32), .ref (g 33), .ref (g 34), .ref (g 35), .ref (g 36), .ref (g 37), .ref (g 38), .ref (g 39), .ref (g 40), .ref (g 41), .ref (g 42), .ref (g 43), .int 0, .int 0, .int 0, .ref (g 47), .ref (g 48), .ref (g 49), .ref (g 50), .ref (g 51), .ref (g 52), .ref (g 53), .int 0, .int 0, .int 0, .int 0, .int 0, .ref (g 59), .ref (g 60), .ref (g 61), .int 0, .int 0, .ref (g 64), .ref (g 65), .ref (g 66), .ref (g 67), .ref (g 68), .ref (g 69), .ref (g 70), .int 0, .int 0, .int 0, .ref (g 74), .int 1, .ref (g 76), .ref (g 77), .ref (g 78), .ref (g 79), .ref (g 80), .ref (g 81), .ref (g 82), .int 0, .ref (g 84), .ref (g 85), .ref (g 86), .ref (g 87), .ref (g 88), .ref (g 89), .ref (g 90)])), ((g 81), .inl (cI, 40, .inl (upd (fun _ => 0) (0 : Int32).toNatClampNeg v0))), ((g 82), .inl (cI, 40, .inl (upd (fun _ => 0) (0 : Int32).toNatClampNeg v1)))] H := hP
      have hD : va_D A [((g 100), .inr (13, [.int 0, .int 0, .int 0, .ref (g 3), .ref (g 4), .ref (g 5), .ref (g 6), .ref (g 7), .ref (g 8), .ref (g 9), .ref (g 10), .ref (g 11), .ref (g 12), .ref (g 13), .ref (g 14), .ref (g 15), .ref (g 16), .ref (g 17), .int 0, .int 0, .int 0, .int 0, .int 0, .int 0, .int 0, .int 0, .int 0, .ref (g 27), .ref (g 28), .ref (g 29), .ref (g 30), .ref (g 31), .ref (g 32), .ref (g 33), .ref (g 34), .ref (g 35), .ref (g 36), .ref (g 37), .ref (g 38), .ref (g 39), .ref (g 40), .ref (g 41), .ref (g 42), .ref (g 43), .int 0, .int 0, .int 0, .ref (g 47), .ref (g 48), .ref (g 49), .ref (g 50), .ref (g 51), .ref (g 52), .ref (g 53), .int 0, .int 0, .int 0, .int 0, .int 0, .ref (g 59), .ref (g 60), .ref (g 61), .int 0, .int 0, .ref (g 64), .ref (g 65), .ref (g 66), .ref (g 67), .ref (g 68), .ref (g 69), .ref (g 70), .int 0, .int 0, .int 0, .ref (g 74), .int 1, .ref (g 76), .ref (g 77), .ref (g 78), .ref (g 79), .ref (g 80), .ref (g 81), .ref (g 82), .int 0, .ref (g 84), .ref (g 85), .ref (g 86), .ref (g 87), .ref (g 88), .ref (g 89), .ref (g 90)])), ((g 81), .inl (cI, 40, .inl (upd (fun _ => 0) (0 : Int32).toNatClampNeg v0))), ((g 82), .inl (cI, 40, .inl (upd (fun _ => 0) (0 : Int32).toNatClampNeg v1)))] := hD
      refine lv_aload_n hx hb dX12_spill_64 rfl (lv_at hl 0 rfl) ?_
      refine gf_RX12_462 S hK hP 0 rfl (v := .int 1) rfl dX12_spill_65 ?_
      exact W.iret (v := 1) hx hb hr (fun t ht hW => ⟨⟨1, (), rfl, (if_pos (by omega)).symm, trivial⟩, hS.F ht⟩) hS.2.2 dX12_spill_68
    ·
      have h_4 : ¬ (1 ≤ v1.toInt ∧ v1.toInt ≤ 400) := h_4
      refine lv_if_eq (tgt := 32) hx hb dX12_spill_20 (by decide) (fun _ => ?_) (fun h => absurd h (by decide))
      refine lv_iconst (v := (-1)) hx hb dX12_spill_32 (by decide) ?_
      exact W.iret (v := (-1)) hx hb hr (fun t ht hW => ⟨⟨(-1), (), rfl, (if_neg (by omega)).symm, trivial⟩, hS.F ht⟩) hS.2.2 dX12_spill_33
  ·
    have h_2 : ¬ (0 ≤ v0.toInt ∧ v0.toInt ≤ 0) := h_2
    refine lv_if_eq (tgt := 32) hx hb dX12_spill_9 (by decide) (fun _ => ?_) (fun h => absurd h (by decide))
    refine lv_iconst (v := (-1)) hx hb dX12_spill_32 (by decide) ?_
    exact W.iret (v := (-1)) hx hb hr (fun t ht hW => ⟨⟨(-1), (), rfl, (if_neg (by omega)).symm, trivial⟩, hS.F ht⟩) hS.2.2 dX12_spill_33
set_option maxRecDepth 100000 in
set_option maxHeartbeats 4000000 in
theorem q_mstockOn (l : Launch) (D : va_G) (cI cB cZ : ClassId) (g : Nat → Nat) (v0 : Int32) : Met l yX12_stockOn (CWS yX12_stockOn cX12_stockOn 4 (some .int)) (RM 0 0 0) (PBr [.ref (g 100), .int v0] D cI cB cZ [((g 100), .inr (13, oM g))]) (vp_Si (fun r => r = 0)) 0 0 (fun _ => False) := by
  refine Met.ofW (cc := cX12_stockOn) (maxL := 4) (ret := (some .int)) (by decide) rfl ?_
  intro p e s m args below meth c s₁ B hml hv
  obtain ⟨rfl, hP, hK⟩ := hv
  have hx := B.exec
  have hb := B.bytes
  have hr := B.returns
  have hts := atoms_spec (ws := (CWS yX12_stockOn cX12_stockOn 4 (some .int))) B.pre
  have hown : s.vm.findClass RX12 = some m.cls := findClass_of_methodNamed B.named
  have hlocks := B.notSynchronized
  have S : SF p m c cX12_stockOn 4 s ([.ref (g 100), .int v0]).toArray RX12 := ⟨hx, hb, hml, hown, fun w h => hts w (List.mem_cons_of_mem _ h)⟩
  have hP : va_P D vwCl [((g 100), .inr (13, oM g))] s.heap := hP
  have hl := lv_entry ([.ref (g 100), .int v0]) (n := 4) (Nat.le_of_ble_eq_true rfl)
  rw [lg_entry_eq]
  generalize (lg_sl ([.ref (g 100), .int v0]) ++ List.replicate (4 - (lg_sl ([.ref (g 100), .int v0])).length) Slot.unset).toArray = ls at hl ⊢
  have hl : lv_has ls 4 [(0, .ref (g 100)), (1, .int v0)] := hl
  refine lv_iconst (v := 0) hx hb dX12_stockOn_0 (by decide) ?_
  refine lv_istore_n (lv' := [(2, .int 0), (0, .ref (g 100)), (1, .int v0)]) hx hb dX12_stockOn_1 rfl hl (by decide) rfl (fun ls hl => ?_)
  refine lv_iconst (v := 0) hx hb dX12_stockOn_2 (by decide) ?_
  refine lv_istore_n (lv' := [(3, .int 0), (2, .int 0), (0, .ref (g 100)), (1, .int v0)]) hx hb dX12_stockOn_3 rfl hl (by decide) rfl (fun ls hl => ?_)
  refine lv_iload_n hx hb dX12_stockOn_4 rfl (lv_at hl 0 rfl) ?_
  refine lv_aload_n hx hb dX12_stockOn_5 rfl (lv_at hl 2 rfl) ?_
  refine gf_RX12_208 S hK hP 0 rfl (v := .int 0) rfl dX12_stockOn_6 ?_
  refine lv_icmp_ge (tgt := 41) hx hb dX12_stockOn_9 (by decide) (fun _ => ?_) (fun h => absurd h (by decide))
  refine lv_iconst (v := 0) hx hb dX12_stockOn_41 (by decide) ?_
  refine lv_istore_n (lv' := [(3, .int 0), (2, .int 0), (0, .ref (g 100)), (1, .int v0)]) hx hb dX12_stockOn_42 rfl hl (by decide) rfl (fun ls hl => ?_)
  refine lv_iload_n hx hb dX12_stockOn_43 rfl (lv_at hl 0 rfl) ?_
  refine lv_aload_n hx hb dX12_stockOn_44 rfl (lv_at hl 2 rfl) ?_
  refine gf_RX12_462 S hK hP 0 rfl (v := .int 0) rfl dX12_stockOn_45 ?_
  refine lv_icmp_ge (tgt := 80) hx hb dX12_stockOn_48 (by decide) (fun _ => ?_) (fun h => absurd h (by decide))
  refine lv_iconst (v := 0) hx hb dX12_stockOn_80 (by decide) ?_
  refine lv_istore_n (lv' := [(3, .int 0), (2, .int 0), (0, .ref (g 100)), (1, .int v0)]) hx hb dX12_stockOn_81 rfl hl (by decide) rfl (fun ls hl => ?_)
  refine lv_iload_n hx hb dX12_stockOn_82 rfl (lv_at hl 0 rfl) ?_
  refine lv_aload_n hx hb dX12_stockOn_83 rfl (lv_at hl 2 rfl) ?_
  refine gf_RX12_435 S hK hP 0 rfl (v := .int 0) rfl dX12_stockOn_84 ?_
  refine lv_icmp_ge (tgt := 118) hx hb dX12_stockOn_87 (by decide) (fun _ => ?_) (fun h => absurd h (by decide))
  refine lv_iload_n hx hb dX12_stockOn_118 rfl (lv_at hl 1 rfl) ?_
  exact W.iret (v := 0) hx hb hr (fun t ht hW => ⟨0, rfl, rfl, ht⟩) (fun _ h => absurd h List.not_mem_nil) dX12_stockOn_119
set_option maxRecDepth 100000 in
set_option maxHeartbeats 4000000 in
theorem q_M_stock (l : Launch) (D : va_G) (cI cB cZ : ClassId) (g : Nat → Nat) (v0 : Int32) : Met l yX12_stock (CWS yX12_stock cX12_stock 2 (some .int)) (RM 3 0 0) (PBr [.ref (g 100), .int v0] D cI cB cZ [((g 100), .inr (13, oM g))]) (vp_Si (fun r => r = (if 0 ≤ v0.toInt ∧ v0.toInt ≤ 399 then (0 : Int32) else -1000000))) 0 0 (fun _ => False) := by
  refine Met.ofW (cc := cX12_stock) (maxL := 2) (ret := (some .int)) (by decide) rfl ?_
  intro p e s m args below meth c s₁ B hml hv
  obtain ⟨rfl, hP, hK⟩ := hv
  have hx := B.exec
  have hb := B.bytes
  have hr := B.returns
  have hts := atoms_spec (ws := (CWS yX12_stock cX12_stock 2 (some .int))) B.pre
  have hown : s.vm.findClass RX12 = some m.cls := findClass_of_methodNamed B.named
  have hlocks := B.notSynchronized
  have S : SF p m c cX12_stock 2 s ([.ref (g 100), .int v0]).toArray RX12 := ⟨hx, hb, hml, hown, fun w h => hts w (List.mem_cons_of_mem _ h)⟩
  have hP : va_P D vwCl [((g 100), .inr (13, oM g))] s.heap := hP
  have hl := lv_entry ([.ref (g 100), .int v0]) (n := 2) (Nat.le_of_ble_eq_true rfl)
  rw [lg_entry_eq]
  generalize (lg_sl ([.ref (g 100), .int v0]) ++ List.replicate (2 - (lg_sl ([.ref (g 100), .int v0])).length) Slot.unset).toArray = ls at hl ⊢
  have hl : lv_has ls 2 [(0, .ref (g 100)), (1, .int v0)] := hl
  refine lv_iload_n hx hb dX12_stock_0 rfl (lv_at hl 1 rfl) ?_
  refine vp_callSi (runS_r (As := [.int v0]) (rest := []) S (q_misDay l D cI cB cZ v0) kS_RX12_341 hK hP [] rfl ⟨Nat.le_of_ble_eq_true rfl, Nat.le_of_ble_eq_true rfl⟩ ⟨Nat.le_of_ble_eq_true rfl, Nat.le_of_ble_eq_true rfl⟩ rfl hl.1 rfl (Nat.le_of_ble_eq_true rfl) dX12_stock_1) (fun r_1 h_2 => ?_)
  rcases h_2 with ⟨rfl, h_2⟩ | ⟨rfl, h_2⟩
  ·
    have h_2 : 0 ≤ v0.toInt ∧ v0.toInt ≤ 399 := h_2
    refine lv_if_eq (tgt := 15) hx hb dX12_stock_4 (by decide) (fun h => absurd h (by decide)) (fun _ => ?_)
    refine lv_aload_n hx hb dX12_stock_7 rfl (lv_at hl 0 rfl) ?_
    refine lv_iload_n hx hb dX12_stock_8 rfl (lv_at hl 1 rfl) ?_
    refine vp_callSi (runV_r (As := [.int v0]) (rest := []) S (q_mstockOn l D cI cB cZ g v0) kV_RX12_465 hK hP [0] rfl 0 rfl rfl rfl ⟨Nat.le_of_ble_eq_true rfl, Nat.le_of_ble_eq_true rfl⟩ ⟨Nat.le_of_ble_eq_true rfl, Nat.le_of_ble_eq_true rfl⟩ rfl hl.1 rfl (Nat.le_of_ble_eq_true rfl) dX12_stock_9) (fun r_3 h_4 => ?_)
    subst h_4
    refine lv_goto (tgt := 18) hx hb dX12_stock_12 (by decide) ?_
    exact W.iret (v := 0) hx hb hr (fun t ht hW => ⟨0, rfl, (if_pos (by omega)).symm, ht⟩) (fun _ h => absurd h List.not_mem_nil) dX12_stock_18
  ·
    have h_2 : ¬ (0 ≤ v0.toInt ∧ v0.toInt ≤ 399) := h_2
    refine lv_if_eq (tgt := 15) hx hb dX12_stock_4 (by decide) (fun _ => ?_) (fun h => absurd h (by decide))
    refine lv_ldcw (v := (-1000000)) hx hb hown (S.2.2.2.2 _ (wT_tab 1985 rfl rfl)) dX12_stock_15 ?_
    exact W.iret (v := (-1000000)) hx hb hr (fun t ht hW => ⟨(-1000000), rfl, (if_neg (by omega)).symm, ht⟩) (fun _ h => absurd h List.not_mem_nil) dX12_stock_18
set_option maxRecDepth 100000 in
set_option maxHeartbeats 4000000 in
theorem q_M_below (l : Launch) (D : va_G) (cI cB cZ : ClassId) (g : Nat → Nat) (v0 : Int32) : Met l yX12_below (CWS yX12_below cX12_below 3 (some .int)) (RM 3 0 0) (PBr [.ref (g 100), .int v0] D cI cB cZ [((g 100), .inr (13, oM g))]) (vp_Si (fun r => r = (if -10000 ≤ v0.toInt ∧ v0.toInt ≤ 10000 then ((if 0 < v0.toInt then (0 : Int32) else -2) : Int32) else -1))) 0 0 (fun _ => False) := by
  refine Met.ofW (cc := cX12_below) (maxL := 3) (ret := (some .int)) (by decide) rfl ?_
  intro p e s m args below meth c s₁ B hml hv
  obtain ⟨rfl, hP, hK⟩ := hv
  have hx := B.exec
  have hb := B.bytes
  have hr := B.returns
  have hts := atoms_spec (ws := (CWS yX12_below cX12_below 3 (some .int))) B.pre
  have hown : s.vm.findClass RX12 = some m.cls := findClass_of_methodNamed B.named
  have hlocks := B.notSynchronized
  have S : SF p m c cX12_below 3 s ([.ref (g 100), .int v0]).toArray RX12 := ⟨hx, hb, hml, hown, fun w h => hts w (List.mem_cons_of_mem _ h)⟩
  have hP : va_P D vwCl [((g 100), .inr (13, oM g))] s.heap := hP
  have hl := lv_entry ([.ref (g 100), .int v0]) (n := 3) (Nat.le_of_ble_eq_true rfl)
  rw [lg_entry_eq]
  generalize (lg_sl ([.ref (g 100), .int v0]) ++ List.replicate (3 - (lg_sl ([.ref (g 100), .int v0])).length) Slot.unset).toArray = ls at hl ⊢
  have hl : lv_has ls 3 [(0, .ref (g 100)), (1, .int v0)] := hl
  refine lv_iload_n hx hb dX12_below_0 rfl (lv_at hl 1 rfl) ?_
  refine lv_sipush (v := (-10000)) hx hb dX12_below_1 (by decide) ?_
  refine lv_sipush (v := 10000) hx hb dX12_below_4 (by decide) ?_
  refine vp_callSi (runS_r (As := [.int v0, .int (-10000), .int 10000]) (rest := []) S (q_in l D cI cB cZ v0 (-10000) 10000) kS_RX12_214 hK hP [] rfl ⟨Nat.le_of_ble_eq_true rfl, Nat.le_of_ble_eq_true rfl⟩ ⟨Nat.le_of_ble_eq_true rfl, Nat.le_of_ble_eq_true rfl⟩ rfl hl.1 rfl (Nat.le_of_ble_eq_true rfl) dX12_below_7) (fun r_1 h_2 => ?_)
  rcases h_2 with ⟨rfl, h_2⟩ | ⟨rfl, h_2⟩
  ·
    have h_2 : (-10000) ≤ v0.toInt ∧ v0.toInt ≤ 10000 := h_2
    refine lv_if_ne (tgt := 15) hx hb dX12_below_10 (by decide) (fun _ => ?_) (fun h => absurd h (by decide))
    refine lv_iconst (v := 0) hx hb dX12_below_15 (by decide) ?_
    refine lv_istore_n (lv' := [(2, .int 0), (0, .ref (g 100)), (1, .int v0)]) hx hb dX12_below_16 rfl hl (by decide) rfl (fun ls hl => ?_)
    refine lv_iload_n hx hb dX12_below_17 rfl (lv_at hl 0 rfl) ?_
    refine lv_aload_n hx hb dX12_below_18 rfl (lv_at hl 1 rfl) ?_
    refine gf_RX12_211 S hK hP 0 rfl (v := .int 0) rfl dX12_below_19 ?_
    refine lv_icmp_gt (tgt := 42) hx hb dX12_below_22 (by decide) (fun h => absurd h (by decide)) (fun _ => ?_)
    refine lv_aload_n hx hb dX12_below_25 rfl (lv_at hl 1 rfl) ?_
    refine lv_iload_n hx hb dX12_below_26 rfl (lv_at hl 0 rfl) ?_
    refine vp_callSi (runV_r (As := [.int 0]) (rest := []) S (q_mstockOn l D cI cB cZ g 0) kV_RX12_465 hK hP [0] rfl 0 rfl rfl rfl ⟨Nat.le_of_ble_eq_true rfl, Nat.le_of_ble_eq_true rfl⟩ ⟨Nat.le_of_ble_eq_true rfl, Nat.le_of_ble_eq_true rfl⟩ rfl hl.1 rfl (Nat.le_of_ble_eq_true rfl) dX12_below_27) (fun r_3 h_4 => ?_)
    subst h_4
    refine lv_iload_n hx hb dX12_below_30 rfl (lv_at hl 2 rfl) ?_
    refine lv_icmp_ge (tgt := 36) hx hb dX12_below_31 (by decide) (fun c_5 => ?_) (fun c_5 => ?_)
    ·
      have tc_5 : (v0.toInt : Int) ≤ 0 := Int32.le_iff_toInt_le.mp c_5
      refine lv_iinc (v := 1) (lv' := [(2, .int 1), (0, .ref (g 100)), (1, .int v0)]) hx hb dX12_below_36 hl (k := 0) rfl (by decide) (by decide) rfl (fun ls hl => ?_)
      refine lv_goto (tgt := 17) hx hb dX12_below_39 (by decide) ?_
      refine lv_iload_n hx hb dX12_below_17 rfl (lv_at hl 0 rfl) ?_
      refine lv_aload_n hx hb dX12_below_18 rfl (lv_at hl 1 rfl) ?_
      refine gf_RX12_211 S hK hP 0 rfl (v := .int 0) rfl dX12_below_19 ?_
      refine lv_icmp_gt (tgt := 42) hx hb dX12_below_22 (by decide) (fun _ => ?_) (fun h => absurd h (by decide))
      refine lv_bipush (v := (-2)) hx hb dX12_below_42 (by decide) ?_
      exact W.iret (v := (-2)) hx hb hr (fun t ht hW => ⟨(-2), rfl, (by show ((-2) : Int32) = (if -10000 ≤ v0.toInt ∧ v0.toInt ≤ 10000 then ((if 0 < v0.toInt then (0 : Int32) else -2) : Int32) else -1); split <;> (try split) <;> first | rfl | (exfalso; omega)), ht⟩) (fun _ h => absurd h List.not_mem_nil) dX12_below_44
    ·
      have tc_5 : (0 : Int) < v0.toInt := Int32.lt_iff_toInt_lt.mp (Int32.not_le.mp c_5)
      refine lv_iload_n hx hb dX12_below_34 rfl (lv_at hl 0 rfl) ?_
      exact W.iret (v := 0) hx hb hr (fun t ht hW => ⟨0, rfl, (by show (0 : Int32) = (if -10000 ≤ v0.toInt ∧ v0.toInt ≤ 10000 then ((if 0 < v0.toInt then (0 : Int32) else -2) : Int32) else -1); split <;> (try split) <;> first | rfl | (exfalso; omega)), ht⟩) (fun _ h => absurd h List.not_mem_nil) dX12_below_35
  ·
    have h_2 : ¬ ((-10000) ≤ v0.toInt ∧ v0.toInt ≤ 10000) := h_2
    refine lv_if_ne (tgt := 15) hx hb dX12_below_10 (by decide) (fun h => absurd h (by decide)) (fun _ => ?_)
    refine lv_iconst (v := (-1)) hx hb dX12_below_13 (by decide) ?_
    exact W.iret (v := (-1)) hx hb hr (fun t ht hW => ⟨(-1), rfl, (by show ((-1) : Int32) = (if -10000 ≤ v0.toInt ∧ v0.toInt ≤ 10000 then ((if 0 < v0.toInt then (0 : Int32) else -2) : Int32) else -1); split <;> (try split) <;> first | rfl | (exfalso; omega)), ht⟩) (fun _ h => absurd h List.not_mem_nil) dX12_below_14
set_option maxRecDepth 100000 in
set_option maxHeartbeats 4000000 in
theorem q_M_count (l : Launch) (D : va_G) (cI cB cZ : ClassId) (g : Nat → Nat) (v0 : Int32) : Met l yX12_count (CWS yX12_count cX12_count 2 (some .int)) (RM 3 0 0) (PBr [.ref (g 100), .int v0] D cI cB cZ [((g 100), .inr (13, oM g)), ((g 33), .inl (cI, 11, .inl (fun _ => 0)))]) (vp_Si (fun r => r = (if 0 ≤ v0.toInt ∧ v0.toInt ≤ 9 then (0 : Int32) else -1))) 0 0 (fun _ => False) := by
  refine Met.ofW (cc := cX12_count) (maxL := 2) (ret := (some .int)) (by decide) rfl ?_
  intro p e s m args below meth c s₁ B hml hv
  obtain ⟨rfl, hP, hK⟩ := hv
  have hx := B.exec
  have hb := B.bytes
  have hr := B.returns
  have hts := atoms_spec (ws := (CWS yX12_count cX12_count 2 (some .int))) B.pre
  have hown : s.vm.findClass RX12 = some m.cls := findClass_of_methodNamed B.named
  have hlocks := B.notSynchronized
  have S : SF p m c cX12_count 2 s ([.ref (g 100), .int v0]).toArray RX12 := ⟨hx, hb, hml, hown, fun w h => hts w (List.mem_cons_of_mem _ h)⟩
  have hP : va_P D vwCl [((g 100), .inr (13, oM g)), ((g 33), .inl (cI, 11, .inl (fun _ => 0)))] s.heap := hP
  have hl := lv_entry ([.ref (g 100), .int v0]) (n := 2) (Nat.le_of_ble_eq_true rfl)
  rw [lg_entry_eq]
  generalize (lg_sl ([.ref (g 100), .int v0]) ++ List.replicate (2 - (lg_sl ([.ref (g 100), .int v0])).length) Slot.unset).toArray = ls at hl ⊢
  have hl : lv_has ls 2 [(0, .ref (g 100)), (1, .int v0)] := hl
  refine lv_iload_n hx hb dX12_count_0 rfl (lv_at hl 1 rfl) ?_
  rcases (by omega : v0.toInt < 0 ∨ 9 < v0.toInt ∨ v0.toInt = 0 ∨ v0.toInt = 1 ∨ v0.toInt = 2 ∨ v0.toInt = 3 ∨ v0.toInt = 4 ∨ v0.toInt = 5 ∨ v0.toInt = 6 ∨ v0.toInt = 7 ∨ v0.toInt = 8 ∨ v0.toInt = 9) with c_1 | c_1 | c_1 | c_1 | c_1 | c_1 | c_1 | c_1 | c_1 | c_1 | c_1 | c_1
  ·
    refine lv_tableOut (tgt := 109) hx hb dX12_count_1 (Or.inl c_1) (by decide) ?_
    refine lv_iload_n hx hb dX12_count_109 rfl (lv_at hl 1 rfl) ?_
    refine lv_bipush (v := 10) hx hb dX12_count_110 (by decide) ?_
    refine lv_bipush (v := 9) hx hb dX12_count_112 (by decide) ?_
    refine lv_aload_n hx hb dX12_count_114 rfl (lv_at hl 0 rfl) ?_
    refine gf_RX12_204 S hK hP 0 rfl (v := .int 0) rfl dX12_count_115 ?_
    refine lv_iadd hx hb dX12_count_118 ?_
    refine lv_topi (fun y_2 ey_2 => ?_)
    obtain rfl : y_2 = 9 := ey_2.trans (by decide)
    refine vp_callSi (runS_r (As := [.int v0, .int 10, .int 9]) (rest := []) S (q_in l D cI cB cZ v0 10 9) kS_RX12_214 hK hP [] rfl ⟨Nat.le_of_ble_eq_true rfl, Nat.le_of_ble_eq_true rfl⟩ ⟨Nat.le_of_ble_eq_true rfl, Nat.le_of_ble_eq_true rfl⟩ rfl hl.1 rfl (Nat.le_of_ble_eq_true rfl) dX12_count_119) (fun r_3 h_4 => ?_)
    rcases h_4 with ⟨rfl, h_4⟩ | ⟨rfl, h_4⟩
    ·
      have h_4 : 10 ≤ v0.toInt ∧ v0.toInt ≤ 9 := h_4
      exfalso; omega
    ·
      have h_4 : ¬ (10 ≤ v0.toInt ∧ v0.toInt ≤ 9) := h_4
      refine lv_if_eq (tgt := 135) hx hb dX12_count_122 (by decide) (fun _ => ?_) (fun h => absurd h (by decide))
      refine lv_iload_n hx hb dX12_count_135 rfl (lv_at hl 1 rfl) ?_
      refine lv_bipush (v := 20) hx hb dX12_count_136 (by decide) ?_
      refine lv_bipush (v := 19) hx hb dX12_count_138 (by decide) ?_
      refine lv_aload_n hx hb dX12_count_140 rfl (lv_at hl 0 rfl) ?_
      refine gf_RX12_204 S hK hP 0 rfl (v := .int 0) rfl dX12_count_141 ?_
      refine lv_iadd hx hb dX12_count_144 ?_
      refine lv_topi (fun y_5 ey_5 => ?_)
      obtain rfl : y_5 = 19 := ey_5.trans (by decide)
      refine vp_callSi (runS_r (As := [.int v0, .int 20, .int 19]) (rest := []) S (q_in l D cI cB cZ v0 20 19) kS_RX12_214 hK hP [] rfl ⟨Nat.le_of_ble_eq_true rfl, Nat.le_of_ble_eq_true rfl⟩ ⟨Nat.le_of_ble_eq_true rfl, Nat.le_of_ble_eq_true rfl⟩ rfl hl.1 rfl (Nat.le_of_ble_eq_true rfl) dX12_count_145) (fun r_6 h_7 => ?_)
      rcases h_7 with ⟨rfl, h_7⟩ | ⟨rfl, h_7⟩
      ·
        have h_7 : 20 ≤ v0.toInt ∧ v0.toInt ≤ 19 := h_7
        exfalso; omega
      ·
        have h_7 : ¬ (20 ≤ v0.toInt ∧ v0.toInt ≤ 19) := h_7
        refine lv_if_eq (tgt := 161) hx hb dX12_count_148 (by decide) (fun _ => ?_) (fun h => absurd h (by decide))
        refine lv_iload_n hx hb dX12_count_161 rfl (lv_at hl 1 rfl) ?_
        refine lv_bipush (v := 30) hx hb dX12_count_162 (by decide) ?_
        refine lv_bipush (v := 29) hx hb dX12_count_164 (by decide) ?_
        refine lv_aload_n hx hb dX12_count_166 rfl (lv_at hl 0 rfl) ?_
        refine gf_RX12_204 S hK hP 0 rfl (v := .int 0) rfl dX12_count_167 ?_
        refine lv_iadd hx hb dX12_count_170 ?_
        refine lv_topi (fun y_8 ey_8 => ?_)
        obtain rfl : y_8 = 29 := ey_8.trans (by decide)
        refine vp_callSi (runS_r (As := [.int v0, .int 30, .int 29]) (rest := []) S (q_in l D cI cB cZ v0 30 29) kS_RX12_214 hK hP [] rfl ⟨Nat.le_of_ble_eq_true rfl, Nat.le_of_ble_eq_true rfl⟩ ⟨Nat.le_of_ble_eq_true rfl, Nat.le_of_ble_eq_true rfl⟩ rfl hl.1 rfl (Nat.le_of_ble_eq_true rfl) dX12_count_171) (fun r_9 h_10 => ?_)
        rcases h_10 with ⟨rfl, h_10⟩ | ⟨rfl, h_10⟩
        ·
          have h_10 : 30 ≤ v0.toInt ∧ v0.toInt ≤ 29 := h_10
          exfalso; omega
        ·
          have h_10 : ¬ (30 ≤ v0.toInt ∧ v0.toInt ≤ 29) := h_10
          refine lv_if_eq (tgt := 187) hx hb dX12_count_174 (by decide) (fun _ => ?_) (fun h => absurd h (by decide))
          refine lv_iload_n hx hb dX12_count_187 rfl (lv_at hl 1 rfl) ?_
          refine lv_bipush (v := 40) hx hb dX12_count_188 (by decide) ?_
          refine lv_bipush (v := 39) hx hb dX12_count_190 (by decide) ?_
          refine lv_aload_n hx hb dX12_count_192 rfl (lv_at hl 0 rfl) ?_
          refine gf_RX12_435 S hK hP 0 rfl (v := .int 0) rfl dX12_count_193 ?_
          refine lv_iadd hx hb dX12_count_196 ?_
          refine lv_topi (fun y_11 ey_11 => ?_)
          obtain rfl : y_11 = 39 := ey_11.trans (by decide)
          refine vp_callSi (runS_r (As := [.int v0, .int 40, .int 39]) (rest := []) S (q_in l D cI cB cZ v0 40 39) kS_RX12_214 hK hP [] rfl ⟨Nat.le_of_ble_eq_true rfl, Nat.le_of_ble_eq_true rfl⟩ ⟨Nat.le_of_ble_eq_true rfl, Nat.le_of_ble_eq_true rfl⟩ rfl hl.1 rfl (Nat.le_of_ble_eq_true rfl) dX12_count_197) (fun r_12 h_13 => ?_)
          rcases h_13 with ⟨rfl, h_13⟩ | ⟨rfl, h_13⟩
          ·
            have h_13 : 40 ≤ v0.toInt ∧ v0.toInt ≤ 39 := h_13
            exfalso; omega
          ·
            have h_13 : ¬ (40 ≤ v0.toInt ∧ v0.toInt ≤ 39) := h_13
            refine lv_if_eq (tgt := 213) hx hb dX12_count_200 (by decide) (fun _ => ?_) (fun h => absurd h (by decide))
            refine lv_iload_n hx hb dX12_count_213 rfl (lv_at hl 1 rfl) ?_
            refine lv_bipush (v := 50) hx hb dX12_count_214 (by decide) ?_
            refine lv_bipush (v := 49) hx hb dX12_count_216 (by decide) ?_
            refine lv_aload_n hx hb dX12_count_218 rfl (lv_at hl 0 rfl) ?_
            refine gf_RX12_447 S hK hP 0 rfl (v := .int 0) rfl dX12_count_219 ?_
            refine lv_iadd hx hb dX12_count_222 ?_
            refine lv_topi (fun y_14 ey_14 => ?_)
            obtain rfl : y_14 = 49 := ey_14.trans (by decide)
            refine vp_callSi (runS_r (As := [.int v0, .int 50, .int 49]) (rest := []) S (q_in l D cI cB cZ v0 50 49) kS_RX12_214 hK hP [] rfl ⟨Nat.le_of_ble_eq_true rfl, Nat.le_of_ble_eq_true rfl⟩ ⟨Nat.le_of_ble_eq_true rfl, Nat.le_of_ble_eq_true rfl⟩ rfl hl.1 rfl (Nat.le_of_ble_eq_true rfl) dX12_count_223) (fun r_15 h_16 => ?_)
            rcases h_16 with ⟨rfl, h_16⟩ | ⟨rfl, h_16⟩
            ·
              have h_16 : 50 ≤ v0.toInt ∧ v0.toInt ≤ 49 := h_16
              exfalso; omega
            ·
              have h_16 : ¬ (50 ≤ v0.toInt ∧ v0.toInt ≤ 49) := h_16
              refine lv_if_eq (tgt := 241) hx hb dX12_count_226 (by decide) (fun _ => ?_) (fun h => absurd h (by decide))
              refine lv_iconst (v := (-1)) hx hb dX12_count_241 (by decide) ?_
              exact W.iret (v := (-1)) hx hb hr (fun t ht hW => ⟨(-1), rfl, (if_neg (by omega)).symm, ht⟩) (fun _ h => absurd h List.not_mem_nil) dX12_count_242
  ·
    refine lv_tableOut (tgt := 109) hx hb dX12_count_1 (Or.inr c_1) (by decide) ?_
    refine lv_iload_n hx hb dX12_count_109 rfl (lv_at hl 1 rfl) ?_
    refine lv_bipush (v := 10) hx hb dX12_count_110 (by decide) ?_
    refine lv_bipush (v := 9) hx hb dX12_count_112 (by decide) ?_
    refine lv_aload_n hx hb dX12_count_114 rfl (lv_at hl 0 rfl) ?_
    refine gf_RX12_204 S hK hP 0 rfl (v := .int 0) rfl dX12_count_115 ?_
    refine lv_iadd hx hb dX12_count_118 ?_
    refine lv_topi (fun y_17 ey_17 => ?_)
    obtain rfl : y_17 = 9 := ey_17.trans (by decide)
    refine vp_callSi (runS_r (As := [.int v0, .int 10, .int 9]) (rest := []) S (q_in l D cI cB cZ v0 10 9) kS_RX12_214 hK hP [] rfl ⟨Nat.le_of_ble_eq_true rfl, Nat.le_of_ble_eq_true rfl⟩ ⟨Nat.le_of_ble_eq_true rfl, Nat.le_of_ble_eq_true rfl⟩ rfl hl.1 rfl (Nat.le_of_ble_eq_true rfl) dX12_count_119) (fun r_18 h_19 => ?_)
    rcases h_19 with ⟨rfl, h_19⟩ | ⟨rfl, h_19⟩
    ·
      have h_19 : 10 ≤ v0.toInt ∧ v0.toInt ≤ 9 := h_19
      exfalso; omega
    ·
      have h_19 : ¬ (10 ≤ v0.toInt ∧ v0.toInt ≤ 9) := h_19
      refine lv_if_eq (tgt := 135) hx hb dX12_count_122 (by decide) (fun _ => ?_) (fun h => absurd h (by decide))
      refine lv_iload_n hx hb dX12_count_135 rfl (lv_at hl 1 rfl) ?_
      refine lv_bipush (v := 20) hx hb dX12_count_136 (by decide) ?_
      refine lv_bipush (v := 19) hx hb dX12_count_138 (by decide) ?_
      refine lv_aload_n hx hb dX12_count_140 rfl (lv_at hl 0 rfl) ?_
      refine gf_RX12_204 S hK hP 0 rfl (v := .int 0) rfl dX12_count_141 ?_
      refine lv_iadd hx hb dX12_count_144 ?_
      refine lv_topi (fun y_20 ey_20 => ?_)
      obtain rfl : y_20 = 19 := ey_20.trans (by decide)
      refine vp_callSi (runS_r (As := [.int v0, .int 20, .int 19]) (rest := []) S (q_in l D cI cB cZ v0 20 19) kS_RX12_214 hK hP [] rfl ⟨Nat.le_of_ble_eq_true rfl, Nat.le_of_ble_eq_true rfl⟩ ⟨Nat.le_of_ble_eq_true rfl, Nat.le_of_ble_eq_true rfl⟩ rfl hl.1 rfl (Nat.le_of_ble_eq_true rfl) dX12_count_145) (fun r_21 h_22 => ?_)
      rcases h_22 with ⟨rfl, h_22⟩ | ⟨rfl, h_22⟩
      ·
        have h_22 : 20 ≤ v0.toInt ∧ v0.toInt ≤ 19 := h_22
        exfalso; omega
      ·
        have h_22 : ¬ (20 ≤ v0.toInt ∧ v0.toInt ≤ 19) := h_22
        refine lv_if_eq (tgt := 161) hx hb dX12_count_148 (by decide) (fun _ => ?_) (fun h => absurd h (by decide))
        refine lv_iload_n hx hb dX12_count_161 rfl (lv_at hl 1 rfl) ?_
        refine lv_bipush (v := 30) hx hb dX12_count_162 (by decide) ?_
        refine lv_bipush (v := 29) hx hb dX12_count_164 (by decide) ?_
        refine lv_aload_n hx hb dX12_count_166 rfl (lv_at hl 0 rfl) ?_
        refine gf_RX12_204 S hK hP 0 rfl (v := .int 0) rfl dX12_count_167 ?_
        refine lv_iadd hx hb dX12_count_170 ?_
        refine lv_topi (fun y_23 ey_23 => ?_)
        obtain rfl : y_23 = 29 := ey_23.trans (by decide)
        refine vp_callSi (runS_r (As := [.int v0, .int 30, .int 29]) (rest := []) S (q_in l D cI cB cZ v0 30 29) kS_RX12_214 hK hP [] rfl ⟨Nat.le_of_ble_eq_true rfl, Nat.le_of_ble_eq_true rfl⟩ ⟨Nat.le_of_ble_eq_true rfl, Nat.le_of_ble_eq_true rfl⟩ rfl hl.1 rfl (Nat.le_of_ble_eq_true rfl) dX12_count_171) (fun r_24 h_25 => ?_)
        rcases h_25 with ⟨rfl, h_25⟩ | ⟨rfl, h_25⟩
        ·
          have h_25 : 30 ≤ v0.toInt ∧ v0.toInt ≤ 29 := h_25
          exfalso; omega
        ·
          have h_25 : ¬ (30 ≤ v0.toInt ∧ v0.toInt ≤ 29) := h_25
          refine lv_if_eq (tgt := 187) hx hb dX12_count_174 (by decide) (fun _ => ?_) (fun h => absurd h (by decide))
          refine lv_iload_n hx hb dX12_count_187 rfl (lv_at hl 1 rfl) ?_
          refine lv_bipush (v := 40) hx hb dX12_count_188 (by decide) ?_
          refine lv_bipush (v := 39) hx hb dX12_count_190 (by decide) ?_
          refine lv_aload_n hx hb dX12_count_192 rfl (lv_at hl 0 rfl) ?_
          refine gf_RX12_435 S hK hP 0 rfl (v := .int 0) rfl dX12_count_193 ?_
          refine lv_iadd hx hb dX12_count_196 ?_
          refine lv_topi (fun y_26 ey_26 => ?_)
          obtain rfl : y_26 = 39 := ey_26.trans (by decide)
          refine vp_callSi (runS_r (As := [.int v0, .int 40, .int 39]) (rest := []) S (q_in l D cI cB cZ v0 40 39) kS_RX12_214 hK hP [] rfl ⟨Nat.le_of_ble_eq_true rfl, Nat.le_of_ble_eq_true rfl⟩ ⟨Nat.le_of_ble_eq_true rfl, Nat.le_of_ble_eq_true rfl⟩ rfl hl.1 rfl (Nat.le_of_ble_eq_true rfl) dX12_count_197) (fun r_27 h_28 => ?_)
          rcases h_28 with ⟨rfl, h_28⟩ | ⟨rfl, h_28⟩
          ·
            have h_28 : 40 ≤ v0.toInt ∧ v0.toInt ≤ 39 := h_28
            exfalso; omega
          ·
            have h_28 : ¬ (40 ≤ v0.toInt ∧ v0.toInt ≤ 39) := h_28
            refine lv_if_eq (tgt := 213) hx hb dX12_count_200 (by decide) (fun _ => ?_) (fun h => absurd h (by decide))
            refine lv_iload_n hx hb dX12_count_213 rfl (lv_at hl 1 rfl) ?_
            refine lv_bipush (v := 50) hx hb dX12_count_214 (by decide) ?_
            refine lv_bipush (v := 49) hx hb dX12_count_216 (by decide) ?_
            refine lv_aload_n hx hb dX12_count_218 rfl (lv_at hl 0 rfl) ?_
            refine gf_RX12_447 S hK hP 0 rfl (v := .int 0) rfl dX12_count_219 ?_
            refine lv_iadd hx hb dX12_count_222 ?_
            refine lv_topi (fun y_29 ey_29 => ?_)
            obtain rfl : y_29 = 49 := ey_29.trans (by decide)
            refine vp_callSi (runS_r (As := [.int v0, .int 50, .int 49]) (rest := []) S (q_in l D cI cB cZ v0 50 49) kS_RX12_214 hK hP [] rfl ⟨Nat.le_of_ble_eq_true rfl, Nat.le_of_ble_eq_true rfl⟩ ⟨Nat.le_of_ble_eq_true rfl, Nat.le_of_ble_eq_true rfl⟩ rfl hl.1 rfl (Nat.le_of_ble_eq_true rfl) dX12_count_223) (fun r_30 h_31 => ?_)
            rcases h_31 with ⟨rfl, h_31⟩ | ⟨rfl, h_31⟩
            ·
              have h_31 : 50 ≤ v0.toInt ∧ v0.toInt ≤ 49 := h_31
              exfalso; omega
            ·
              have h_31 : ¬ (50 ≤ v0.toInt ∧ v0.toInt ≤ 49) := h_31
              refine lv_if_eq (tgt := 241) hx hb dX12_count_226 (by decide) (fun _ => ?_) (fun h => absurd h (by decide))
              refine lv_iconst (v := (-1)) hx hb dX12_count_241 (by decide) ?_
              exact W.iret (v := (-1)) hx hb hr (fun t ht hW => ⟨(-1), rfl, (if_neg (by omega)).symm, ht⟩) (fun _ h => absurd h List.not_mem_nil) dX12_count_242
  ·
    refine lv_tableIn (tgt := 56) (off := 55) hx hb dX12_count_1 (by omega) (by omega) (by rw [c_1]; rfl) (by decide) ?_
    refine lv_aload_n hx hb dX12_count_56 rfl (lv_at hl 0 rfl) ?_
    refine gf_RX12_211 S hK hP 0 rfl (v := .int 0) rfl dX12_count_57 ?_
    exact W.iret (v := 0) hx hb hr (fun t ht hW => ⟨0, rfl, (if_pos (by omega)).symm, ht⟩) (fun _ h => absurd h List.not_mem_nil) dX12_count_60
  ·
    refine lv_tableIn (tgt := 61) (off := 60) hx hb dX12_count_1 (by omega) (by omega) (by rw [c_1]; rfl) (by decide) ?_
    refine lv_aload_n hx hb dX12_count_61 rfl (lv_at hl 0 rfl) ?_
    refine gf_RX12_204 S hK hP 0 rfl (v := .int 0) rfl dX12_count_62 ?_
    exact W.iret (v := 0) hx hb hr (fun t ht hW => ⟨0, rfl, (if_pos (by omega)).symm, ht⟩) (fun _ h => absurd h List.not_mem_nil) dX12_count_65
  ·
    refine lv_tableIn (tgt := 66) (off := 65) hx hb dX12_count_1 (by omega) (by omega) (by rw [c_1]; rfl) (by decide) ?_
    refine lv_aload_n hx hb dX12_count_66 rfl (lv_at hl 0 rfl) ?_
    refine gf_RX12_208 S hK hP 0 rfl (v := .int 0) rfl dX12_count_67 ?_
    exact W.iret (v := 0) hx hb hr (fun t ht hW => ⟨0, rfl, (if_pos (by omega)).symm, ht⟩) (fun _ h => absurd h List.not_mem_nil) dX12_count_70
  ·
    refine lv_tableIn (tgt := 71) (off := 70) hx hb dX12_count_1 (by omega) (by omega) (by rw [c_1]; rfl) (by decide) ?_
    refine lv_aload_n hx hb dX12_count_71 rfl (lv_at hl 0 rfl) ?_
    refine gf_RX12_226 S hK hP 0 rfl (v := .int 0) rfl dX12_count_72 ?_
    exact W.iret (v := 0) hx hb hr (fun t ht hW => ⟨0, rfl, (if_pos (by omega)).symm, ht⟩) (fun _ h => absurd h List.not_mem_nil) dX12_count_75
  ·
    refine lv_tableIn (tgt := 76) (off := 75) hx hb dX12_count_1 (by omega) (by omega) (by rw [c_1]; rfl) (by decide) ?_
    refine lv_aload_n hx hb dX12_count_76 rfl (lv_at hl 0 rfl) ?_
    refine gf_RX12_74 S hK hP 0 rfl (v := .ref (g 33)) rfl dX12_count_77 ?_
    refine lv_bipush (v := 10) hx hb dX12_count_80 (by decide) ?_
    refine va_iald hx hb hK.1 hP 1 0 rfl rfl (by unfold vp_in; decide) dX12_count_82 ?_
    refine lv_topi (fun y_32 ey_32 => ?_)
    obtain rfl : y_32 = 0 := ey_32
    exact W.iret (v := 0) hx hb hr (fun t ht hW => ⟨0, rfl, (if_pos (by omega)).symm, ht⟩) (fun _ h => absurd h List.not_mem_nil) dX12_count_83
  ·
    refine lv_tableIn (tgt := 84) (off := 83) hx hb dX12_count_1 (by omega) (by omega) (by rw [c_1]; rfl) (by decide) ?_
    refine lv_aload_n hx hb dX12_count_84 rfl (lv_at hl 0 rfl) ?_
    refine gf_RX12_435 S hK hP 0 rfl (v := .int 0) rfl dX12_count_85 ?_
    exact W.iret (v := 0) hx hb hr (fun t ht hW => ⟨0, rfl, (if_pos (by omega)).symm, ht⟩) (fun _ h => absurd h List.not_mem_nil) dX12_count_88
  ·
    refine lv_tableIn (tgt := 89) (off := 88) hx hb dX12_count_1 (by omega) (by omega) (by rw [c_1]; rfl) (by decide) ?_
    refine lv_aload_n hx hb dX12_count_89 rfl (lv_at hl 0 rfl) ?_
    refine gf_RX12_447 S hK hP 0 rfl (v := .int 0) rfl dX12_count_90 ?_
    exact W.iret (v := 0) hx hb hr (fun t ht hW => ⟨0, rfl, (if_pos (by omega)).symm, ht⟩) (fun _ h => absurd h List.not_mem_nil) dX12_count_93
  ·
    refine lv_tableIn (tgt := 94) (off := 93) hx hb dX12_count_1 (by omega) (by omega) (by rw [c_1]; rfl) (by decide) ?_
    refine lv_aload_n hx hb dX12_count_94 rfl (lv_at hl 0 rfl) ?_
    refine gf_RX12_478 S hK hP 0 rfl (v := .int 0) rfl dX12_count_95 ?_
    exact W.iret (v := 0) hx hb hr (fun t ht hW => ⟨0, rfl, (if_pos (by omega)).symm, ht⟩) (fun _ h => absurd h List.not_mem_nil) dX12_count_98
  ·
    refine lv_tableIn (tgt := 99) (off := 98) hx hb dX12_count_1 (by omega) (by omega) (by rw [c_1]; rfl) (by decide) ?_
    refine lv_aload_n hx hb dX12_count_99 rfl (lv_at hl 0 rfl) ?_
    refine gf_RX12_386 S hK hP 0 rfl (v := .int 0) rfl dX12_count_100 ?_
    exact W.iret (v := 0) hx hb hr (fun t ht hW => ⟨0, rfl, (if_pos (by omega)).symm, ht⟩) (fun _ h => absurd h List.not_mem_nil) dX12_count_103
  ·
    refine lv_tableIn (tgt := 104) (off := 103) hx hb dX12_count_1 (by omega) (by omega) (by rw [c_1]; rfl) (by decide) ?_
    refine lv_aload_n hx hb dX12_count_104 rfl (lv_at hl 0 rfl) ?_
    refine gf_RX12_407 S hK hP 0 rfl (v := .int 0) rfl dX12_count_105 ?_
    exact W.iret (v := 0) hx hb hr (fun t ht hW => ⟨0, rfl, (if_pos (by omega)).symm, ht⟩) (fun _ h => absurd h List.not_mem_nil) dX12_count_108
