set_option maxRecDepth 100000 in
theorem kV_RX11_489 : CalV RX11 489 yX11_sets cX11_sets 3 (some .boolean) 2 := ⟨⟨wT_tab 1207 rfl rfl, wT_tab 1209 rfl rfl, wT_sel 60 _ rfl rfl rfl, wT_tab 1 rfl rfl, wT_tab 1210 rfl rfl⟩, ⟨by decide, by decide, by decide +kernel⟩⟩
set_option maxRecDepth 100000 in
theorem gf_RX11_502 {p : Program} {l : Launch} {e : Env} {R : Room} {s : State} {m : MethodId} {args : Array Value} {below : List Frame} {meth : Method} {c : Code} {H : Heap} {locs : List Loc} {cells slots : Nat} {Q : State → Prop} {cc : ByteArray} {nL pc : Nat} {D : va_G} {cI cB cZ : ClassId} {ws : va_W} {rest : List Value} {ls : Array Slot} {a : Nat} {fs : List Value} {v : Value} (S : SF p m c cc nL s args RX11) (hK : KK D cI cB cZ s) (hP : va_P D vwCl ws H) (q0 : Nat) (he : ws[q0]? = some (a, .inr (12, fs))) (hv : fs[2]? = some v) (hdg : decode cc pc = .ok (.getfield 502, 3)) (kk : W p l e R s m args below meth c H locs cells slots Q (F0 m (pc + 3) ls (v :: rest))) : W p l e R s m args below meth c H locs cells slots Q (F0 m pc ls (.ref a :: rest)) :=
  va_get (C := RX11) (T := TX11) (N := 16) S.1 S.2.1 S.2.2.2.2 hin_RX11 S.2.2.2.1 hK.1 hP q0 he rfl 2 (by decide) (S.2.2.2.2 _ (wT_tab 238 rfl rfl)) (fun _ h9 => h9) hv hdg kk
set_option maxRecDepth 100000 in
theorem pf_RX11_502 {p : Program} {l : Launch} {e : Env} {R : Room} {s : State} {m : MethodId} {args : Array Value} {below : List Frame} {meth : Method} {c : Code} {H : Heap} {locs : List Loc} {cells slots : Nat} {Q : State → Prop} {cc : ByteArray} {nL pc : Nat} {D : va_G} {cI cB cZ : ClassId} {ws : va_W} {rest : List Value} {ls : Array Slot} {a : Nat} {fs : List Value} {v : Value} {A : Nat → Prop} {H0 : Heap} (S : SF p m c cc nL s args RX11) (hK : KK D cI cB cZ s) (hP : va_P D vwCl ws H) (hD : va_D A ws) (hS : va_S A H0 H locs) (q0 : Nat) (he : ws[q0]? = some (a, .inr (12, fs))) (hl : 2 < fs.length) (hn : narrow (tyX11 2) v = v) (hfit : fits (tyX11 2) v = true) (hdg : decode cc pc = .ok (.putfield 502, 3)) (kk : ∀ (H1 : Heap) (locs1 : List Loc), va_P D vwCl (ws.set q0 (a, .inr (12, fs.set 2 v))) H1 → va_D A (ws.set q0 (a, .inr (12, fs.set 2 v))) → va_S A H0 H1 locs1 → W p l e R s m args below meth c H1 locs1 cells slots Q (F0 m (pc + 3) ls rest)) : W p l e R s m args below meth c H locs cells slots Q (F0 m pc ls (v :: .ref a :: rest)) :=
  va_put (C := RX11) (T := TX11) (N := 16) S.1 S.2.1 S.2.2.2.2 hin_RX11 tyX11 tyX11_ok nmX11 S.2.2.2.1 hK.1 hP hD hS q0 he rfl 2 (by decide) (S.2.2.2.2 _ (wT_tab 238 rfl rfl)) (fun _ h9 => h9) rfl (tyX11_ok 2 (by decide)) hn hfit hl hdg kk
set_option maxRecDepth 100000 in
theorem gf_RX7_45 {p : Program} {l : Launch} {e : Env} {R : Room} {s : State} {m : MethodId} {args : Array Value} {below : List Frame} {meth : Method} {c : Code} {H : Heap} {locs : List Loc} {cells slots : Nat} {Q : State → Prop} {cc : ByteArray} {nL pc : Nat} {D : va_G} {cI cB cZ : ClassId} {ws : va_W} {rest : List Value} {ls : Array Slot} {a : Nat} {fs : List Value} {v : Value} (S : SF p m c cc nL s args RX7) (hK : KK D cI cB cZ s) (hP : va_P D vwCl ws H) (q0 : Nat) (he : ws[q0]? = some (a, .inr (8, fs))) (hv : fs[9]? = some v) (hdg : decode cc pc = .ok (.getfield 45, 3)) (kk : W p l e R s m args below meth c H locs cells slots Q (F0 m (pc + 3) ls (v :: rest))) : W p l e R s m args below meth c H locs cells slots Q (F0 m pc ls (.ref a :: rest)) :=
  va_get (C := RX7) (T := TX7) (N := 10) S.1 S.2.1 S.2.2.2.2 hin_RX7 S.2.2.2.1 hK.1 hP q0 he rfl 9 (by decide) (S.2.2.2.2 _ (wT_tab 155 rfl rfl)) (fun _ h9 => h9) hv hdg kk
set_option maxRecDepth 100000 in
theorem kS_RX7_48 : CalS RX7 48 yX7_at cX7_at 2 (some .int) 2 := ⟨⟨wT_tab 499 rfl rfl, wT_tab 500 rfl rfl, wT_tab 7 rfl rfl, wT_tab 501 rfl rfl⟩, ⟨by decide, by decide, by decide +kernel⟩⟩
set_option maxRecDepth 100000 in
theorem kS_RX7_52 : CalS RX7 52 yX7_put cX7_put 3 none 3 := ⟨⟨wT_tab 502 rfl rfl, wT_tab 503 rfl rfl, wT_tab 7 rfl rfl, wT_tab 504 rfl rfl⟩, ⟨by decide, by decide, by decide +kernel⟩⟩
set_option maxRecDepth 100000 in
theorem gf_RX11_517 {p : Program} {l : Launch} {e : Env} {R : Room} {s : State} {m : MethodId} {args : Array Value} {below : List Frame} {meth : Method} {c : Code} {H : Heap} {locs : List Loc} {cells slots : Nat} {Q : State → Prop} {cc : ByteArray} {nL pc : Nat} {D : va_G} {cI cB cZ : ClassId} {ws : va_W} {rest : List Value} {ls : Array Slot} {a : Nat} {fs : List Value} {v : Value} (S : SF p m c cc nL s args RX11) (hK : KK D cI cB cZ s) (hP : va_P D vwCl ws H) (q0 : Nat) (he : ws[q0]? = some (a, .inr (12, fs))) (hv : fs[3]? = some v) (hdg : decode cc pc = .ok (.getfield 517, 3)) (kk : W p l e R s m args below meth c H locs cells slots Q (F0 m (pc + 3) ls (v :: rest))) : W p l e R s m args below meth c H locs cells slots Q (F0 m pc ls (.ref a :: rest)) :=
  va_get (C := RX11) (T := TX11) (N := 16) S.1 S.2.1 S.2.2.2.2 hin_RX11 S.2.2.2.1 hK.1 hP q0 he rfl 3 (by decide) (S.2.2.2.2 _ (wT_tab 239 rfl rfl)) (fun _ h9 => h9) hv hdg kk
set_option maxRecDepth 100000 in
theorem kV_RX11_144 : CalV RX11 144 yX7_change cX7_change 3 none 2 := ⟨⟨wT_tab 495 rfl rfl, wT_tab 496 rfl rfl, wT_tab 497 rfl rfl, wT_tab 7 rfl rfl, wT_tab 498 rfl rfl⟩, ⟨by decide, by decide, by decide +kernel⟩⟩
set_option maxRecDepth 100000 in
theorem pf_RX11_517 {p : Program} {l : Launch} {e : Env} {R : Room} {s : State} {m : MethodId} {args : Array Value} {below : List Frame} {meth : Method} {c : Code} {H : Heap} {locs : List Loc} {cells slots : Nat} {Q : State → Prop} {cc : ByteArray} {nL pc : Nat} {D : va_G} {cI cB cZ : ClassId} {ws : va_W} {rest : List Value} {ls : Array Slot} {a : Nat} {fs : List Value} {v : Value} {A : Nat → Prop} {H0 : Heap} (S : SF p m c cc nL s args RX11) (hK : KK D cI cB cZ s) (hP : va_P D vwCl ws H) (hD : va_D A ws) (hS : va_S A H0 H locs) (q0 : Nat) (he : ws[q0]? = some (a, .inr (12, fs))) (hl : 3 < fs.length) (hn : narrow (tyX11 3) v = v) (hfit : fits (tyX11 3) v = true) (hdg : decode cc pc = .ok (.putfield 517, 3)) (kk : ∀ (H1 : Heap) (locs1 : List Loc), va_P D vwCl (ws.set q0 (a, .inr (12, fs.set 3 v))) H1 → va_D A (ws.set q0 (a, .inr (12, fs.set 3 v))) → va_S A H0 H1 locs1 → W p l e R s m args below meth c H1 locs1 cells slots Q (F0 m (pc + 3) ls rest)) : W p l e R s m args below meth c H locs cells slots Q (F0 m pc ls (v :: .ref a :: rest)) :=
  va_put (C := RX11) (T := TX11) (N := 16) S.1 S.2.1 S.2.2.2.2 hin_RX11 tyX11 tyX11_ok nmX11 S.2.2.2.1 hK.1 hP hD hS q0 he rfl 3 (by decide) (S.2.2.2.2 _ (wT_tab 239 rfl rfl)) (fun _ h9 => h9) rfl (tyX11_ok 3 (by decide)) hn hfit hl hdg kk
set_option maxRecDepth 100000 in
theorem gf_RX11_520 {p : Program} {l : Launch} {e : Env} {R : Room} {s : State} {m : MethodId} {args : Array Value} {below : List Frame} {meth : Method} {c : Code} {H : Heap} {locs : List Loc} {cells slots : Nat} {Q : State → Prop} {cc : ByteArray} {nL pc : Nat} {D : va_G} {cI cB cZ : ClassId} {ws : va_W} {rest : List Value} {ls : Array Slot} {a : Nat} {fs : List Value} {v : Value} (S : SF p m c cc nL s args RX11) (hK : KK D cI cB cZ s) (hP : va_P D vwCl ws H) (q0 : Nat) (he : ws[q0]? = some (a, .inr (8, fs))) (hv : fs[9]? = some v) (hdg : decode cc pc = .ok (.getfield 520, 3)) (kk : W p l e R s m args below meth c H locs cells slots Q (F0 m (pc + 3) ls (v :: rest))) : W p l e R s m args below meth c H locs cells slots Q (F0 m pc ls (.ref a :: rest)) :=
  va_get (C := RX7) (T := TX7) (N := 10) S.1 S.2.1 S.2.2.2.2 hin_RX7 S.2.2.2.1 hK.1 hP q0 he rfl 9 (by decide) (S.2.2.2.2 _ (wT_tab 156 rfl rfl)) (fun _ h9 => h9) hv hdg kk
set_option maxRecDepth 100000 in
theorem gf_RX11_12 {p : Program} {l : Launch} {e : Env} {R : Room} {s : State} {m : MethodId} {args : Array Value} {below : List Frame} {meth : Method} {c : Code} {H : Heap} {locs : List Loc} {cells slots : Nat} {Q : State → Prop} {cc : ByteArray} {nL pc : Nat} {D : va_G} {cI cB cZ : ClassId} {ws : va_W} {rest : List Value} {ls : Array Slot} {a : Nat} {fs : List Value} {v : Value} (S : SF p m c cc nL s args RX11) (hK : KK D cI cB cZ s) (hP : va_P D vwCl ws H) (q0 : Nat) (he : ws[q0]? = some (a, .inr (12, fs))) (hv : fs[4]? = some v) (hdg : decode cc pc = .ok (.getfield 12, 3)) (kk : W p l e R s m args below meth c H locs cells slots Q (F0 m (pc + 3) ls (v :: rest))) : W p l e R s m args below meth c H locs cells slots Q (F0 m pc ls (.ref a :: rest)) :=
  va_get (C := RX11) (T := TX11) (N := 16) S.1 S.2.1 S.2.2.2.2 hin_RX11 S.2.2.2.1 hK.1 hP q0 he rfl 4 (by decide) (S.2.2.2.2 _ (wT_tab 240 rfl rfl)) (fun _ h9 => h9) hv hdg kk
set_option maxRecDepth 100000 in
theorem hin_RX9 : ∀ w ∈ u_ws RX9 TX9 9, w ∈ wT := by decide +kernel
set_option maxRecDepth 100000 in
theorem gf_RX11_171 {p : Program} {l : Launch} {e : Env} {R : Room} {s : State} {m : MethodId} {args : Array Value} {below : List Frame} {meth : Method} {c : Code} {H : Heap} {locs : List Loc} {cells slots : Nat} {Q : State → Prop} {cc : ByteArray} {nL pc : Nat} {D : va_G} {cI cB cZ : ClassId} {ws : va_W} {rest : List Value} {ls : Array Slot} {a : Nat} {fs : List Value} {v : Value} (S : SF p m c cc nL s args RX11) (hK : KK D cI cB cZ s) (hP : va_P D vwCl ws H) (q0 : Nat) (he : ws[q0]? = some (a, .inr (10, fs))) (hv : fs[8]? = some v) (hdg : decode cc pc = .ok (.getfield 171, 3)) (kk : W p l e R s m args below meth c H locs cells slots Q (F0 m (pc + 3) ls (v :: rest))) : W p l e R s m args below meth c H locs cells slots Q (F0 m pc ls (.ref a :: rest)) :=
  va_get (C := RX9) (T := TX9) (N := 9) S.1 S.2.1 S.2.2.2.2 hin_RX9 S.2.2.2.1 hK.1 hP q0 he rfl 8 (by decide) (S.2.2.2.2 _ (wT_tab 54 rfl rfl)) (fun _ h9 => h9) hv hdg kk
set_option maxRecDepth 100000 in
theorem kV_RX11_533 : CalV RX11 533 yX11_countOfAll cX11_countOfAll 2 (some .int) 1 := ⟨⟨wT_tab 1299 rfl rfl, wT_tab 1301 rfl rfl, wT_sel 65 _ rfl rfl rfl, wT_tab 1 rfl rfl, wT_tab 1302 rfl rfl⟩, ⟨by decide, by decide, by decide +kernel⟩⟩
set_option maxRecDepth 100000 in
theorem kV_RX11_536 : CalV RX11 536 yX11_countOfKitchen cX11_countOfKitchen 3 (some .int) 2 := ⟨⟨wT_tab 1303 rfl rfl, wT_tab 1305 rfl rfl, wT_sel 66 _ rfl rfl rfl, wT_tab 1 rfl rfl, wT_tab 1306 rfl rfl⟩, ⟨by decide, by decide, by decide +kernel⟩⟩
theorem dX11_first_0 : decode cX11_first 0 = .ok (.iload_n 1, 1) := by decide +kernel
theorem dX11_first_1 : decode cX11_first 1 = .ok (.invokestatic 99, 3) := by decide +kernel
theorem dX11_first_4 : decode cX11_first 4 = .ok (.ifCond .eq 14, 3) := by decide +kernel
theorem dX11_first_7 : decode cX11_first 7 = .ok (.iload_n 2, 1) := by decide +kernel
theorem dX11_first_8 : decode cX11_first 8 = .ok (.bipush (-40), 2) := by decide +kernel
theorem dX11_first_10 : decode cX11_first 10 = .ok (.bipush 41, 2) := by decide +kernel
theorem dX11_first_12 : decode cX11_first 12 = .ok (.invokestatic 80, 3) := by decide +kernel
theorem dX11_first_15 : decode cX11_first 15 = .ok (.ifCond .ne 5, 3) := by decide +kernel
theorem dX11_first_20 : decode cX11_first 20 = .ok (.iload_n 1, 1) := by decide +kernel
theorem dX11_first_21 : decode cX11_first 21 = .ok (.istore_n 3, 1) := by decide +kernel
theorem dX11_first_22 : decode cX11_first 22 = .ok (.iload_n 3, 1) := by decide +kernel
theorem dX11_first_23 : decode cX11_first 23 = .ok (.sipush 400, 3) := by decide +kernel
theorem dX11_first_26 : decode cX11_first 26 = .ok (.if_icmp .ge 20, 3) := by decide +kernel
theorem dX11_first_46 : decode cX11_first 46 = .ok (.bipush (-2), 2) := by decide +kernel
theorem dX11_first_48 : decode cX11_first 48 = .ok (.ireturn, 1) := by decide +kernel
theorem dX11_first_29 : decode cX11_first 29 = .ok (.aload_n 0, 1) := by decide +kernel
theorem dX11_first_30 : decode cX11_first 30 = .ok (.iload_n 3, 1) := by decide +kernel
theorem dX11_first_31 : decode cX11_first 31 = .ok (.iload_n 2, 1) := by decide +kernel
theorem dX11_first_32 : decode cX11_first 32 = .ok (.invokevirtual 489, 3) := by decide +kernel
theorem dX11_first_35 : decode cX11_first 35 = .ok (.ifCond .ne 5, 3) := by decide +kernel
theorem dX11_first_40 : decode cX11_first 40 = .ok (.iinc 3 1, 3) := by decide +kernel
theorem dX11_first_43 : decode cX11_first 43 = .ok (.goto (-21), 3) := by decide +kernel
theorem dX11_first_38 : decode cX11_first 38 = .ok (.iload_n 3, 1) := by decide +kernel
theorem dX11_first_39 : decode cX11_first 39 = .ok (.ireturn, 1) := by decide +kernel
theorem dX11_first_18 : decode cX11_first 18 = .ok (.iconst (-1), 1) := by decide +kernel
theorem dX11_first_19 : decode cX11_first 19 = .ok (.ireturn, 1) := by decide +kernel
theorem dX11_feasted_0 : decode cX11_feasted 0 = .ok (.aload_n 0, 1) := by decide +kernel
theorem dX11_feasted_1 : decode cX11_feasted 1 = .ok (.iload_n 1, 1) := by decide +kernel
theorem dX11_feasted_2 : decode cX11_feasted 2 = .ok (.invokevirtual 148, 3) := by decide +kernel
theorem dX11_feasted_5 : decode cX11_feasted 5 = .ok (.astore_n 3, 1) := by decide +kernel
theorem dX11_feasted_6 : decode cX11_feasted 6 = .ok (.aload_n 3, 1) := by decide +kernel
theorem dX11_feasted_7 : decode cX11_feasted 7 = .ok (.ifnonnull 7, 3) := by decide +kernel
theorem dX11_feasted_10 : decode cX11_feasted 10 = .ok (.aconst_null, 1) := by decide +kernel
theorem dX11_feasted_11 : decode cX11_feasted 11 = .ok (.goto 11, 3) := by decide +kernel
theorem dX11_feasted_22 : decode cX11_feasted 22 = .ok (.astore 4, 2) := by decide +kernel
theorem dX11_feasted_24 : decode cX11_feasted 24 = .ok (.aload_n 3, 1) := by decide +kernel
theorem dX11_feasted_25 : decode cX11_feasted 25 = .ok (.ifnull 17, 3) := by decide +kernel
theorem dX11_feasted_42 : decode cX11_feasted 42 = .ok (.iconst (-1), 1) := by decide +kernel
theorem dX11_feasted_43 : decode cX11_feasted 43 = .ok (.ireturn, 1) := by decide +kernel
theorem dX11_drum_0 : decode cX11_drum 0 = .ok (.aload_n 0, 1) := by decide +kernel
theorem dX11_drum_1 : decode cX11_drum 1 = .ok (.getfield 502, 3) := by decide +kernel
theorem dX11_drum_4 : decode cX11_drum 4 = .ok (.bipush 20, 2) := by decide +kernel
theorem dX11_drum_6 : decode cX11_drum 6 = .ok (.if_icmp .lt 5, 3) := by decide +kernel
theorem dX11_drum_11 : decode cX11_drum 11 = .ok (.aload_n 0, 1) := by decide +kernel
theorem dX11_drum_12 : decode cX11_drum 12 = .ok (.dup, 1) := by decide +kernel
theorem dX11_drum_13 : decode cX11_drum 13 = .ok (.getfield 502, 3) := by decide +kernel
theorem dX11_drum_16 : decode cX11_drum 16 = .ok (.iconst 1, 1) := by decide +kernel
theorem dX11_drum_17 : decode cX11_drum 17 = .ok (.iadd, 1) := by decide +kernel
theorem dX11_drum_18 : decode cX11_drum 18 = .ok (.putfield 502, 3) := by decide +kernel
theorem dX11_drum_21 : decode cX11_drum 21 = .ok (.aload_n 0, 1) := by decide +kernel
theorem dX11_drum_22 : decode cX11_drum 22 = .ok (.getfield 502, 3) := by decide +kernel
theorem dX11_drum_25 : decode cX11_drum 25 = .ok (.iconst 1, 1) := by decide +kernel
theorem dX11_drum_26 : decode cX11_drum 26 = .ok (.isub, 1) := by decide +kernel
theorem dX11_drum_27 : decode cX11_drum 27 = .ok (.ireturn, 1) := by decide +kernel
theorem dX11_moves_0 : decode cX11_moves 0 = .ok (.iload_n 1, 1) := by decide +kernel
theorem dX11_moves_1 : decode cX11_moves 1 = .ok (.iconst 0, 1) := by decide +kernel
theorem dX11_moves_2 : decode cX11_moves 2 = .ok (.aload_n 0, 1) := by decide +kernel
theorem dX11_moves_3 : decode cX11_moves 3 = .ok (.getfield 502, 3) := by decide +kernel
theorem dX11_moves_6 : decode cX11_moves 6 = .ok (.iconst 1, 1) := by decide +kernel
theorem dX11_moves_7 : decode cX11_moves 7 = .ok (.isub, 1) := by decide +kernel
theorem dX11_moves_8 : decode cX11_moves 8 = .ok (.invokestatic 80, 3) := by decide +kernel
theorem dX11_moves_11 : decode cX11_moves 11 = .ok (.ifCond .eq 20, 3) := by decide +kernel
theorem dX11_moves_31 : decode cX11_moves 31 = .ok (.iconst 0, 1) := by decide +kernel
theorem dX11_moves_32 : decode cX11_moves 32 = .ok (.istore 4, 2) := by decide +kernel
theorem dX11_moves_34 : decode cX11_moves 34 = .ok (.iload 4, 2) := by decide +kernel
theorem dX11_moves_36 : decode cX11_moves 36 = .ok (.ifCond .eq 27, 3) := by decide +kernel
theorem dX11_moves_63 : decode cX11_moves 63 = .ok (.iconst 0, 1) := by decide +kernel
theorem dX11_moves_64 : decode cX11_moves 64 = .ok (.ireturn, 1) := by decide +kernel
theorem dX11_stood_0 : decode cX11_stood 0 = .ok (.iload_n 1, 1) := by decide +kernel
theorem dX11_stood_1 : decode cX11_stood 1 = .ok (.iconst 0, 1) := by decide +kernel
theorem dX11_stood_2 : decode cX11_stood 2 = .ok (.aload_n 0, 1) := by decide +kernel
theorem dX11_stood_3 : decode cX11_stood 3 = .ok (.getfield 502, 3) := by decide +kernel
theorem dX11_stood_6 : decode cX11_stood 6 = .ok (.iconst 1, 1) := by decide +kernel
theorem dX11_stood_7 : decode cX11_stood 7 = .ok (.isub, 1) := by decide +kernel
theorem dX11_stood_8 : decode cX11_stood 8 = .ok (.invokestatic 80, 3) := by decide +kernel
theorem dX11_stood_11 : decode cX11_stood 11 = .ok (.ifCond .eq 10, 3) := by decide +kernel
theorem dX11_stood_21 : decode cX11_stood 21 = .ok (.iconst (-1), 1) := by decide +kernel
theorem dX11_stood_22 : decode cX11_stood 22 = .ok (.ireturn, 1) := by decide +kernel
theorem dX11_stale_0 : decode cX11_stale 0 = .ok (.iload_n 1, 1) := by decide +kernel
theorem dX11_stale_1 : decode cX11_stale 1 = .ok (.iconst 0, 1) := by decide +kernel
theorem dX11_stale_2 : decode cX11_stale 2 = .ok (.sipush 399, 3) := by decide +kernel
theorem dX11_stale_5 : decode cX11_stale 5 = .ok (.invokestatic 80, 3) := by decide +kernel
theorem dX11_stale_8 : decode cX11_stale 8 = .ok (.ifCond .ne 5, 3) := by decide +kernel
theorem dX11_stale_13 : decode cX11_stale 13 = .ok (.iconst 0, 1) := by decide +kernel
theorem dX11_stale_14 : decode cX11_stale 14 = .ok (.istore_n 2, 1) := by decide +kernel
theorem dX11_stale_15 : decode cX11_stale 15 = .ok (.iconst 0, 1) := by decide +kernel
theorem dX11_stale_16 : decode cX11_stale 16 = .ok (.istore_n 3, 1) := by decide +kernel
theorem dX11_stale_17 : decode cX11_stale 17 = .ok (.iload_n 3, 1) := by decide +kernel
theorem dX11_stale_18 : decode cX11_stale 18 = .ok (.aload_n 0, 1) := by decide +kernel
theorem dX11_stale_19 : decode cX11_stale 19 = .ok (.getfield 502, 3) := by decide +kernel
theorem dX11_stale_22 : decode cX11_stale 22 = .ok (.if_icmp .ge 70, 3) := by decide +kernel
theorem dX11_stale_92 : decode cX11_stale 92 = .ok (.iload_n 2, 1) := by decide +kernel
theorem dX11_stale_93 : decode cX11_stale 93 = .ok (.ireturn, 1) := by decide +kernel
theorem dX11_stale_11 : decode cX11_stale 11 = .ok (.iconst (-1), 1) := by decide +kernel
theorem dX11_stale_12 : decode cX11_stale 12 = .ok (.ireturn, 1) := by decide +kernel
theorem dX7_change_0 : decode cX7_change 0 = .ok (.aload_n 0, 1) := by decide +kernel
theorem dX7_change_1 : decode cX7_change 1 = .ok (.getfield 45, 3) := by decide +kernel
theorem dX7_change_4 : decode cX7_change 4 = .ok (.iload_n 1, 1) := by decide +kernel
theorem dX7_change_5 : decode cX7_change 5 = .ok (.aload_n 0, 1) := by decide +kernel
theorem dX7_change_6 : decode cX7_change 6 = .ok (.getfield 45, 3) := by decide +kernel
theorem dX7_change_9 : decode cX7_change 9 = .ok (.iload_n 1, 1) := by decide +kernel
theorem dX7_change_10 : decode cX7_change 10 = .ok (.invokestatic 48, 3) := by decide +kernel
theorem dX7_change_13 : decode cX7_change 13 = .ok (.iload_n 2, 1) := by decide +kernel
theorem dX7_change_14 : decode cX7_change 14 = .ok (.iadd, 1) := by decide +kernel
theorem dX7_change_15 : decode cX7_change 15 = .ok (.invokestatic 52, 3) := by decide +kernel
theorem dX7_change_18 : decode cX7_change 18 = .ok (.return_, 1) := by decide +kernel
theorem dX11_spill_0 : decode cX11_spill 0 = .ok (.iload_n 1, 1) := by decide +kernel
theorem dX11_spill_1 : decode cX11_spill 1 = .ok (.iconst 0, 1) := by decide +kernel
theorem dX11_spill_2 : decode cX11_spill 2 = .ok (.aload_n 0, 1) := by decide +kernel
theorem dX11_spill_3 : decode cX11_spill 3 = .ok (.getfield 103, 3) := by decide +kernel
theorem dX11_spill_6 : decode cX11_spill 6 = .ok (.invokestatic 80, 3) := by decide +kernel
theorem dX11_spill_9 : decode cX11_spill 9 = .ok (.ifCond .eq 23, 3) := by decide +kernel
theorem dX11_spill_12 : decode cX11_spill 12 = .ok (.iload_n 2, 1) := by decide +kernel
theorem dX11_spill_13 : decode cX11_spill 13 = .ok (.iconst 1, 1) := by decide +kernel
theorem dX11_spill_14 : decode cX11_spill 14 = .ok (.sipush 400, 3) := by decide +kernel
theorem dX11_spill_17 : decode cX11_spill 17 = .ok (.invokestatic 80, 3) := by decide +kernel
theorem dX11_spill_20 : decode cX11_spill 20 = .ok (.ifCond .eq 12, 3) := by decide +kernel
theorem dX11_spill_23 : decode cX11_spill 23 = .ok (.aload_n 0, 1) := by decide +kernel
theorem dX11_spill_24 : decode cX11_spill 24 = .ok (.getfield 517, 3) := by decide +kernel
theorem dX11_spill_27 : decode cX11_spill 27 = .ok (.bipush 40, 2) := by decide +kernel
theorem dX11_spill_29 : decode cX11_spill 29 = .ok (.if_icmp .lt 5, 3) := by decide +kernel
theorem dX11_spill_34 : decode cX11_spill 34 = .ok (.aload_n 0, 1) := by decide +kernel
theorem dX11_spill_35 : decode cX11_spill 35 = .ok (.getfield 47, 3) := by decide +kernel
theorem dX11_spill_38 : decode cX11_spill 38 = .ok (.iload_n 1, 1) := by decide +kernel
theorem dX11_spill_39 : decode cX11_spill 39 = .ok (.iload_n 2, 1) := by decide +kernel
theorem dX11_spill_40 : decode cX11_spill 40 = .ok (.ineg, 1) := by decide +kernel
theorem dX11_spill_41 : decode cX11_spill 41 = .ok (.invokevirtual 144, 3) := by decide +kernel
theorem dX11_spill_44 : decode cX11_spill 44 = .ok (.aload_n 0, 1) := by decide +kernel
theorem dX11_spill_45 : decode cX11_spill 45 = .ok (.dup, 1) := by decide +kernel
theorem dX11_spill_46 : decode cX11_spill 46 = .ok (.getfield 517, 3) := by decide +kernel
theorem dX11_spill_49 : decode cX11_spill 49 = .ok (.iconst 1, 1) := by decide +kernel
theorem dX11_spill_50 : decode cX11_spill 50 = .ok (.iadd, 1) := by decide +kernel
theorem dX11_spill_51 : decode cX11_spill 51 = .ok (.putfield 517, 3) := by decide +kernel
theorem dX11_spill_54 : decode cX11_spill 54 = .ok (.aload_n 0, 1) := by decide +kernel
theorem dX11_spill_55 : decode cX11_spill 55 = .ok (.getfield 517, 3) := by decide +kernel
theorem dX11_spill_58 : decode cX11_spill 58 = .ok (.ireturn, 1) := by decide +kernel
theorem dX11_spill_32 : decode cX11_spill 32 = .ok (.iconst (-1), 1) := by decide +kernel
theorem dX11_spill_33 : decode cX11_spill 33 = .ok (.ireturn, 1) := by decide +kernel
theorem dX11_stock_0 : decode cX11_stock 0 = .ok (.iload_n 1, 1) := by decide +kernel
theorem dX11_stock_1 : decode cX11_stock 1 = .ok (.invokestatic 99, 3) := by decide +kernel
theorem dX11_stock_4 : decode cX11_stock 4 = .ok (.ifCond .ne 7, 3) := by decide +kernel
theorem dX11_stock_11 : decode cX11_stock 11 = .ok (.iconst 0, 1) := by decide +kernel
theorem dX11_stock_12 : decode cX11_stock 12 = .ok (.istore_n 2, 1) := by decide +kernel
theorem dX11_stock_13 : decode cX11_stock 13 = .ok (.iconst 0, 1) := by decide +kernel
theorem dX11_stock_14 : decode cX11_stock 14 = .ok (.istore_n 3, 1) := by decide +kernel
theorem dX11_stock_15 : decode cX11_stock 15 = .ok (.iload_n 3, 1) := by decide +kernel
theorem dX11_stock_16 : decode cX11_stock 16 = .ok (.iload_n 1, 1) := by decide +kernel
theorem dX11_stock_17 : decode cX11_stock 17 = .ok (.if_icmp .gt 23, 3) := by decide +kernel
theorem dX11_stock_40 : decode cX11_stock 40 = .ok (.iload_n 2, 1) := by decide +kernel
theorem dX11_stock_41 : decode cX11_stock 41 = .ok (.ireturn, 1) := by decide +kernel
theorem dX11_stock_20 : decode cX11_stock 20 = .ok (.iload_n 2, 1) := by decide +kernel
theorem dX11_stock_21 : decode cX11_stock 21 = .ok (.aload_n 0, 1) := by decide +kernel
theorem dX11_stock_22 : decode cX11_stock 22 = .ok (.getfield 47, 3) := by decide +kernel
theorem dX11_stock_25 : decode cX11_stock 25 = .ok (.getfield 520, 3) := by decide +kernel
theorem dX11_stock_28 : decode cX11_stock 28 = .ok (.iload_n 3, 1) := by decide +kernel
theorem dX11_stock_29 : decode cX11_stock 29 = .ok (.invokestatic 192, 3) := by decide +kernel
theorem dX11_stock_32 : decode cX11_stock 32 = .ok (.iadd, 1) := by decide +kernel
theorem dX11_stock_33 : decode cX11_stock 33 = .ok (.istore_n 2, 1) := by decide +kernel
theorem dX11_stock_34 : decode cX11_stock 34 = .ok (.iinc 3 1, 3) := by decide +kernel
theorem dX11_stock_37 : decode cX11_stock 37 = .ok (.goto (-22), 3) := by decide +kernel
theorem dX11_stock_7 : decode cX11_stock 7 = .ok (.ldc_w 463, 3) := by decide +kernel
theorem dX11_stock_10 : decode cX11_stock 10 = .ok (.ireturn, 1) := by decide +kernel
theorem dX11_below_0 : decode cX11_below 0 = .ok (.iload_n 1, 1) := by decide +kernel
theorem dX11_below_1 : decode cX11_below 1 = .ok (.sipush (-10000), 3) := by decide +kernel
theorem dX11_below_4 : decode cX11_below 4 = .ok (.sipush 10000, 3) := by decide +kernel
theorem dX11_below_7 : decode cX11_below 7 = .ok (.invokestatic 80, 3) := by decide +kernel
theorem dX11_below_10 : decode cX11_below 10 = .ok (.ifCond .ne 5, 3) := by decide +kernel
theorem dX11_below_15 : decode cX11_below 15 = .ok (.iconst 0, 1) := by decide +kernel
theorem dX11_below_16 : decode cX11_below 16 = .ok (.istore_n 2, 1) := by decide +kernel
theorem dX11_below_17 : decode cX11_below 17 = .ok (.iconst 0, 1) := by decide +kernel
theorem dX11_below_18 : decode cX11_below 18 = .ok (.istore_n 3, 1) := by decide +kernel
theorem dX11_below_19 : decode cX11_below 19 = .ok (.iload_n 3, 1) := by decide +kernel
theorem dX11_below_20 : decode cX11_below 20 = .ok (.aload_n 0, 1) := by decide +kernel
theorem dX11_below_21 : decode cX11_below 21 = .ok (.getfield 103, 3) := by decide +kernel
theorem dX11_below_24 : decode cX11_below 24 = .ok (.if_icmp .gt 30, 3) := by decide +kernel
theorem dX11_below_27 : decode cX11_below 27 = .ok (.iload_n 2, 1) := by decide +kernel
theorem dX11_below_28 : decode cX11_below 28 = .ok (.aload_n 0, 1) := by decide +kernel
theorem dX11_below_29 : decode cX11_below 29 = .ok (.getfield 47, 3) := by decide +kernel
theorem dX11_below_32 : decode cX11_below 32 = .ok (.getfield 520, 3) := by decide +kernel
theorem dX11_below_35 : decode cX11_below 35 = .ok (.iload_n 3, 1) := by decide +kernel
theorem dX11_below_36 : decode cX11_below 36 = .ok (.invokestatic 192, 3) := by decide +kernel
theorem dX11_below_39 : decode cX11_below 39 = .ok (.iadd, 1) := by decide +kernel
theorem dX11_below_40 : decode cX11_below 40 = .ok (.istore_n 2, 1) := by decide +kernel
theorem dX11_below_41 : decode cX11_below 41 = .ok (.iload_n 2, 1) := by decide +kernel
theorem dX11_below_42 : decode cX11_below 42 = .ok (.iload_n 1, 1) := by decide +kernel
theorem dX11_below_43 : decode cX11_below 43 = .ok (.if_icmp .ge 5, 3) := by decide +kernel
theorem dX11_below_48 : decode cX11_below 48 = .ok (.iinc 3 1, 3) := by decide +kernel
theorem dX11_below_51 : decode cX11_below 51 = .ok (.goto (-32), 3) := by decide +kernel
theorem dX11_below_54 : decode cX11_below 54 = .ok (.bipush (-2), 2) := by decide +kernel
theorem dX11_below_56 : decode cX11_below 56 = .ok (.ireturn, 1) := by decide +kernel
theorem dX11_below_46 : decode cX11_below 46 = .ok (.iload_n 3, 1) := by decide +kernel
theorem dX11_below_47 : decode cX11_below 47 = .ok (.ireturn, 1) := by decide +kernel
theorem dX11_below_13 : decode cX11_below 13 = .ok (.iconst (-1), 1) := by decide +kernel
theorem dX11_below_14 : decode cX11_below 14 = .ok (.ireturn, 1) := by decide +kernel
theorem dX11_check_0 : decode cX11_check 0 = .ok (.aload_n 0, 1) := by decide +kernel
theorem dX11_check_1 : decode cX11_check 1 = .ok (.iload_n 1, 1) := by decide +kernel
theorem dX11_check_2 : decode cX11_check 2 = .ok (.invokevirtual 114, 3) := by decide +kernel
theorem dX11_check_5 : decode cX11_check 5 = .ok (.ifnull 21, 3) := by decide +kernel
theorem dX11_check_26 : decode cX11_check 26 = .ok (.bipush (-2), 2) := by decide +kernel
theorem dX11_check_28 : decode cX11_check 28 = .ok (.ireturn, 1) := by decide +kernel
theorem dX11_countOfAll_0 : decode cX11_countOfAll 0 = .ok (.iload_n 1, 1) := by decide +kernel
theorem dX11_countOfAll_1 : decode cX11_countOfAll 1 = .ok (.tableswitch 117 0 8 #[51, 56, 64, 72, 80, 88, 96, 104, 112], 51) := by decide +kernel
theorem dX11_countOfAll_118 : decode cX11_countOfAll 118 = .ok (.aload_n 0, 1) := by decide +kernel
theorem dX11_countOfAll_119 : decode cX11_countOfAll 119 = .ok (.getfield 502, 3) := by decide +kernel
theorem dX11_countOfAll_122 : decode cX11_countOfAll 122 = .ok (.ireturn, 1) := by decide +kernel
theorem dX11_countOfAll_52 : decode cX11_countOfAll 52 = .ok (.aload_n 0, 1) := by decide +kernel
theorem dX11_countOfAll_53 : decode cX11_countOfAll 53 = .ok (.getfield 103, 3) := by decide +kernel
theorem dX11_countOfAll_56 : decode cX11_countOfAll 56 = .ok (.ireturn, 1) := by decide +kernel
theorem dX11_countOfAll_57 : decode cX11_countOfAll 57 = .ok (.aload_n 0, 1) := by decide +kernel
theorem dX11_countOfAll_58 : decode cX11_countOfAll 58 = .ok (.getfield 61, 3) := by decide +kernel
theorem dX11_countOfAll_61 : decode cX11_countOfAll 61 = .ok (.invokevirtual 84, 3) := by decide +kernel
theorem dX11_countOfAll_64 : decode cX11_countOfAll 64 = .ok (.ireturn, 1) := by decide +kernel
theorem dX11_countOfAll_65 : decode cX11_countOfAll 65 = .ok (.aload_n 0, 1) := by decide +kernel
theorem dX11_countOfAll_66 : decode cX11_countOfAll 66 = .ok (.getfield 65, 3) := by decide +kernel
theorem dX11_countOfAll_69 : decode cX11_countOfAll 69 = .ok (.invokevirtual 84, 3) := by decide +kernel
theorem dX11_countOfAll_72 : decode cX11_countOfAll 72 = .ok (.ireturn, 1) := by decide +kernel
theorem dX11_countOfAll_73 : decode cX11_countOfAll 73 = .ok (.aload_n 0, 1) := by decide +kernel
theorem dX11_countOfAll_74 : decode cX11_countOfAll 74 = .ok (.getfield 21, 3) := by decide +kernel
theorem dX11_countOfAll_77 : decode cX11_countOfAll 77 = .ok (.invokevirtual 152, 3) := by decide +kernel
theorem dX11_countOfAll_80 : decode cX11_countOfAll 80 = .ok (.ireturn, 1) := by decide +kernel
theorem dX11_countOfAll_81 : decode cX11_countOfAll 81 = .ok (.aload_n 0, 1) := by decide +kernel
theorem dX11_countOfAll_82 : decode cX11_countOfAll 82 = .ok (.getfield 12, 3) := by decide +kernel
theorem dX11_countOfAll_85 : decode cX11_countOfAll 85 = .ok (.getfield 171, 3) := by decide +kernel
theorem dX11_countOfAll_88 : decode cX11_countOfAll 88 = .ok (.ireturn, 1) := by decide +kernel
theorem dX11_countOfAll_89 : decode cX11_countOfAll 89 = .ok (.aload_n 0, 1) := by decide +kernel
theorem dX11_countOfAll_90 : decode cX11_countOfAll 90 = .ok (.getfield 68, 3) := by decide +kernel
theorem dX11_countOfAll_93 : decode cX11_countOfAll 93 = .ok (.invokevirtual 84, 3) := by decide +kernel
theorem dX11_countOfAll_96 : decode cX11_countOfAll 96 = .ok (.ireturn, 1) := by decide +kernel
theorem dX11_countOfAll_97 : decode cX11_countOfAll 97 = .ok (.aload_n 0, 1) := by decide +kernel
theorem dX11_countOfAll_98 : decode cX11_countOfAll 98 = .ok (.getfield 71, 3) := by decide +kernel
theorem dX11_countOfAll_101 : decode cX11_countOfAll 101 = .ok (.invokevirtual 84, 3) := by decide +kernel
theorem dX11_countOfAll_104 : decode cX11_countOfAll 104 = .ok (.ireturn, 1) := by decide +kernel
theorem dX11_countOfAll_105 : decode cX11_countOfAll 105 = .ok (.aload_n 0, 1) := by decide +kernel
theorem dX11_countOfAll_106 : decode cX11_countOfAll 106 = .ok (.getfield 74, 3) := by decide +kernel
theorem dX11_countOfAll_109 : decode cX11_countOfAll 109 = .ok (.invokevirtual 84, 3) := by decide +kernel
theorem dX11_countOfAll_112 : decode cX11_countOfAll 112 = .ok (.ireturn, 1) := by decide +kernel
theorem dX11_countOfAll_113 : decode cX11_countOfAll 113 = .ok (.aload_n 0, 1) := by decide +kernel
theorem dX11_countOfAll_114 : decode cX11_countOfAll 114 = .ok (.getfield 311, 3) := by decide +kernel
theorem dX11_countOfAll_117 : decode cX11_countOfAll 117 = .ok (.ireturn, 1) := by decide +kernel
theorem dX11_countOfKitchen_0 : decode cX11_countOfKitchen 0 = .ok (.aload_n 1, 1) := by decide +kernel
theorem dX11_countOfKitchen_1 : decode cX11_countOfKitchen 1 = .ok (.ifnonnull 5, 3) := by decide +kernel
theorem dX11_countOfKitchen_4 : decode cX11_countOfKitchen 4 = .ok (.iconst (-1), 1) := by decide +kernel
theorem dX11_countOfKitchen_5 : decode cX11_countOfKitchen 5 = .ok (.ireturn, 1) := by decide +kernel
theorem dX11_count_0 : decode cX11_count 0 = .ok (.iload_n 1, 1) := by decide +kernel
theorem dX11_count_1 : decode cX11_count 1 = .ok (.iconst 0, 1) := by decide +kernel
theorem dX11_count_2 : decode cX11_count 2 = .ok (.bipush 9, 2) := by decide +kernel
theorem dX11_count_4 : decode cX11_count 4 = .ok (.invokestatic 80, 3) := by decide +kernel
theorem dX11_count_7 : decode cX11_count 7 = .ok (.ifCond .eq 9, 3) := by decide +kernel
theorem dX11_count_10 : decode cX11_count 10 = .ok (.aload_n 0, 1) := by decide +kernel
theorem dX11_count_11 : decode cX11_count 11 = .ok (.iload_n 1, 1) := by decide +kernel
theorem dX11_count_12 : decode cX11_count 12 = .ok (.invokevirtual 533, 3) := by decide +kernel
theorem dX11_count_15 : decode cX11_count 15 = .ok (.ireturn, 1) := by decide +kernel
theorem dX11_count_16 : decode cX11_count 16 = .ok (.iload_n 1, 1) := by decide +kernel
theorem dX11_count_17 : decode cX11_count 17 = .ok (.bipush 10, 2) := by decide +kernel
theorem dX11_count_19 : decode cX11_count 19 = .ok (.bipush 39, 2) := by decide +kernel
theorem dX11_count_21 : decode cX11_count 21 = .ok (.invokestatic 80, 3) := by decide +kernel
theorem dX11_count_24 : decode cX11_count 24 = .ok (.ifCond .eq 20, 3) := by decide +kernel
theorem dX11_count_27 : decode cX11_count 27 = .ok (.aload_n 0, 1) := by decide +kernel
theorem dX11_count_28 : decode cX11_count 28 = .ok (.aload_n 0, 1) := by decide +kernel
theorem dX11_count_29 : decode cX11_count 29 = .ok (.iload_n 1, 1) := by decide +kernel
theorem dX11_count_30 : decode cX11_count 30 = .ok (.bipush 10, 2) := by decide +kernel
theorem dX11_count_32 : decode cX11_count 32 = .ok (.irem, 1) := by decide +kernel
theorem dX11_count_33 : decode cX11_count 33 = .ok (.invokevirtual 114, 3) := by decide +kernel
theorem dX11_count_36 : decode cX11_count 36 = .ok (.iload_n 1, 1) := by decide +kernel
theorem dX11_count_37 : decode cX11_count 37 = .ok (.bipush 10, 2) := by decide +kernel
theorem dX11_count_39 : decode cX11_count 39 = .ok (.idiv, 1) := by decide +kernel
theorem dX11_count_40 : decode cX11_count 40 = .ok (.invokevirtual 536, 3) := by decide +kernel
theorem dX11_count_43 : decode cX11_count 43 = .ok (.ireturn, 1) := by decide +kernel
theorem dX11_count_44 : decode cX11_count 44 = .ok (.iload_n 1, 1) := by decide +kernel
theorem dX11_count_45 : decode cX11_count 45 = .ok (.bipush 40, 2) := by decide +kernel
theorem dX11_count_47 : decode cX11_count 47 = .ok (.bipush 49, 2) := by decide +kernel
theorem dX11_count_49 : decode cX11_count 49 = .ok (.invokestatic 80, 3) := by decide +kernel
theorem dX11_count_52 : decode cX11_count 52 = .ok (.ifCond .eq 25, 3) := by decide +kernel
theorem dX11_count_55 : decode cX11_count 55 = .ok (.aload_n 0, 1) := by decide +kernel
theorem dX11_count_56 : decode cX11_count 56 = .ok (.iload_n 1, 1) := by decide +kernel
theorem dX11_count_57 : decode cX11_count 57 = .ok (.bipush 40, 2) := by decide +kernel
theorem dX11_count_59 : decode cX11_count 59 = .ok (.isub, 1) := by decide +kernel
theorem dX11_count_60 : decode cX11_count 60 = .ok (.invokevirtual 382, 3) := by decide +kernel
theorem dX11_count_63 : decode cX11_count 63 = .ok (.astore_n 2, 1) := by decide +kernel
theorem dX11_count_64 : decode cX11_count 64 = .ok (.aload_n 2, 1) := by decide +kernel
theorem dX11_count_65 : decode cX11_count 65 = .ok (.ifnonnull 7, 3) := by decide +kernel
theorem dX11_count_68 : decode cX11_count 68 = .ok (.iconst (-1), 1) := by decide +kernel
theorem dX11_count_69 : decode cX11_count 69 = .ok (.goto 7, 3) := by decide +kernel
theorem dX11_count_76 : decode cX11_count 76 = .ok (.ireturn, 1) := by decide +kernel
theorem dX11_count_77 : decode cX11_count 77 = .ok (.iload_n 1, 1) := by decide +kernel
theorem dX11_count_78 : decode cX11_count 78 = .ok (.bipush 50, 2) := by decide +kernel
theorem dX11_count_80 : decode cX11_count 80 = .ok (.if_icmp .ge 7, 3) := by decide +kernel
theorem dX11_count_87 : decode cX11_count 87 = .ok (.aload_n 0, 1) := by decide +kernel
theorem dX11_count_88 : decode cX11_count 88 = .ok (.iload_n 1, 1) := by decide +kernel
theorem dX11_count_89 : decode cX11_count 89 = .ok (.bipush 50, 2) := by decide +kernel
theorem dX11_count_91 : decode cX11_count 91 = .ok (.isub, 1) := by decide +kernel
theorem dX11_count_92 : decode cX11_count 92 = .ok (.invokevirtual 422, 3) := by decide +kernel
theorem dX11_count_95 : decode cX11_count 95 = .ok (.astore_n 2, 1) := by decide +kernel
theorem dX11_count_96 : decode cX11_count 96 = .ok (.aload_n 2, 1) := by decide +kernel
theorem dX11_count_97 : decode cX11_count 97 = .ok (.ifnonnull 7, 3) := by decide +kernel
theorem dX11_count_100 : decode cX11_count 100 = .ok (.iconst (-1), 1) := by decide +kernel
theorem dX11_count_101 : decode cX11_count 101 = .ok (.goto 7, 3) := by decide +kernel
theorem dX11_count_108 : decode cX11_count 108 = .ok (.ireturn, 1) := by decide +kernel
theorem dX11_count_83 : decode cX11_count 83 = .ok (.aconst_null, 1) := by decide +kernel
theorem dX11_count_84 : decode cX11_count 84 = .ok (.goto 11, 3) := by decide +kernel
set_option maxRecDepth 100000 in
set_option maxHeartbeats 4000000 in
theorem q_X_first (l : Launch) (D : va_G) (cI cB cZ : ClassId) (g : Nat → Nat) (v0 v1 : Int32) : Met l yX11_first (CWS yX11_first cX11_first 4 (some .int)) (RM 3 0 0) (PBr [.ref (g 0), .int v0, .int v1] D cI cB cZ [((g 0), .inr (12, oX g)), ((g 8), .inr (8, oT g)), ((g 22), .inl (cI, 400, .inl (dgF 400)))]) (vp_Si (fun r => r = (if (0 ≤ v0.toInt ∧ v0.toInt ≤ 399) ∧ -40 ≤ v1.toInt ∧ v1.toInt ≤ 41 then ((if 15 < v1.toInt then (-2 : Int32) else v0) : Int32) else -1))) 0 0 (fun _ => False) := by
  refine Met.ofW (cc := cX11_first) (maxL := 4) (ret := (some .int)) (by decide) rfl ?_
  intro p e s m args below meth c s₁ B hml hv
  obtain ⟨rfl, hP, hK⟩ := hv
  have hx := B.exec
  have hb := B.bytes
  have hr := B.returns
  have hts := atoms_spec (ws := (CWS yX11_first cX11_first 4 (some .int))) B.pre
  have hown : s.vm.findClass RX11 = some m.cls := findClass_of_methodNamed B.named
  have hlocks := B.notSynchronized
  have S : SF p m c cX11_first 4 s ([.ref (g 0), .int v0, .int v1]).toArray RX11 := ⟨hx, hb, hml, hown, fun w h => hts w (List.mem_cons_of_mem _ h)⟩
  have hP : va_P D vwCl [((g 0), .inr (12, oX g)), ((g 8), .inr (8, oT g)), ((g 22), .inl (cI, 400, .inl (dgF 400)))] s.heap := hP
  have hl := lv_entry ([.ref (g 0), .int v0, .int v1]) (n := 4) (Nat.le_of_ble_eq_true rfl)
  rw [lg_entry_eq]
  generalize (lg_sl ([.ref (g 0), .int v0, .int v1]) ++ List.replicate (4 - (lg_sl ([.ref (g 0), .int v0, .int v1])).length) Slot.unset).toArray = ls at hl ⊢
  have hl : lv_has ls 4 [(0, .ref (g 0)), (1, .int v0), (2, .int v1)] := hl
  refine lv_iload_n hx hb dX11_first_0 rfl (lv_at hl 1 rfl) ?_
  refine vp_callSi (runS_r (As := [.int v0]) (rest := []) S (q_isDay l D cI cB cZ v0) kS_RX11_99 hK hP [] rfl ⟨Nat.le_of_ble_eq_true rfl, Nat.le_of_ble_eq_true rfl⟩ ⟨Nat.le_of_ble_eq_true rfl, Nat.le_of_ble_eq_true rfl⟩ rfl hl.1 rfl (Nat.le_of_ble_eq_true rfl) dX11_first_1) (fun r_1 h_2 => ?_)
  rcases h_2 with ⟨rfl, h_2⟩ | ⟨rfl, h_2⟩
  ·
    have h_2 : 0 ≤ v0.toInt ∧ v0.toInt ≤ 399 := h_2
    refine lv_if_eq (tgt := 18) hx hb dX11_first_4 (by decide) (fun h => absurd h (by decide)) (fun _ => ?_)
    refine lv_iload_n hx hb dX11_first_7 rfl (lv_at hl 2 rfl) ?_
    refine lv_bipush (v := (-40)) hx hb dX11_first_8 (by decide) ?_
    refine lv_bipush (v := 41) hx hb dX11_first_10 (by decide) ?_
    refine vp_callSi (runS_r (As := [.int v1, .int (-40), .int 41]) (rest := []) S (q_within l D cI cB cZ v1 (-40) 41) kS_RX11_80 hK hP [] rfl ⟨Nat.le_of_ble_eq_true rfl, Nat.le_of_ble_eq_true rfl⟩ ⟨Nat.le_of_ble_eq_true rfl, Nat.le_of_ble_eq_true rfl⟩ rfl hl.1 rfl (Nat.le_of_ble_eq_true rfl) dX11_first_12) (fun r_3 h_4 => ?_)
    rcases h_4 with ⟨rfl, h_4⟩ | ⟨rfl, h_4⟩
    ·
      have h_4 : (-40) ≤ v1.toInt ∧ v1.toInt ≤ 41 := h_4
      refine lv_if_ne (tgt := 20) hx hb dX11_first_15 (by decide) (fun _ => ?_) (fun h => absurd h (by decide))
      obtain ⟨j, hj, rfl⟩ := nI_of (x := v0) (fun q => by have := Int32.lt_iff_toInt_lt.mp q; have e : (0 : Int32).toInt = 0 := rfl; omega)
      have tj : (nI j).toInt = (j : Int) := nI_toInt hj
      refine lv_iload_n hx hb dX11_first_20 rfl (lv_at hl 1 rfl) ?_
      refine lv_istore_n (lv' := [(3, .int (nI j)), (0, .ref (g 0)), (1, .int (nI j)), (2, .int v1)]) hx hb dX11_first_21 rfl hl (by decide) rfl (fun ls hl => ?_)
      have lp_22 : ∀ (n i : Nat), 400 + 1 ≤ i + n → i ≤ 400 → (15 < v1.toInt ∨ i = j) → ∀ ls : Array Slot, lv_has ls 4 [(3, .int (nI i)), (0, .ref (g 0)), (1, .int (nI j)), (2, .int v1)] → W p l e (RM 3 0 0) s m ([.ref (g 0), .int (nI j), .int v1]).toArray below meth c s.heap [] 0 0 (MQ below (vp_Si (fun r => r = (if (0 ≤ (nI j).toInt ∧ (nI j).toInt ≤ 399) ∧ -40 ≤ v1.toInt ∧ v1.toInt ≤ 41 then ((if 15 < v1.toInt then (-2 : Int32) else (nI j)) : Int32) else -1))) ([.ref (g 0), .int (nI j), .int v1]).toArray s 0 0 (fun _ => False)) (F0 m 22 ls []) := by
        intro n
        induction n with
        | zero => intro i h1 h2; exact absurd h1 (by omega)
        | succ n ih =>
          intro i hn1 hi hinv ls hl
          have ti : (nI i).toInt = (i : Int) := nI_toInt (by omega)
          refine lv_iload_n hx hb dX11_first_22 rfl (lv_at hl 0 rfl) ?_
          refine lv_sipush (v := 400) hx hb dX11_first_23 (by decide) ?_
          refine lv_icmp_ge (tgt := 46) hx hb dX11_first_26 (by decide) (fun c_5 => ?_) (fun c_5 => ?_)
          ·
            have tc_5 : (400 : Int) ≤ (nI i).toInt := Int32.le_iff_toInt_le.mp c_5
            refine lv_bipush (v := (-2)) hx hb dX11_first_46 (by decide) ?_
            exact W.iret (v := (-2)) hx hb hr (fun t ht hW => ⟨(-2), rfl, (by rw [if_pos (by omega), if_pos (by omega)]), ht⟩) (fun _ h => absurd h List.not_mem_nil) dX11_first_48
          ·
            have tc_5 : ((nI i).toInt : Int) < 400 := Int32.lt_iff_toInt_lt.mp (Int32.not_le.mp c_5)
            refine lv_aload_n hx hb dX11_first_29 rfl (lv_at hl 1 rfl) ?_
            refine lv_iload_n hx hb dX11_first_30 rfl (lv_at hl 0 rfl) ?_
            refine lv_iload_n hx hb dX11_first_31 rfl (lv_at hl 3 rfl) ?_
            refine vp_callSi (runV_r (As := [.int (nI i), .int v1]) (rest := []) S (q_sets l D cI cB cZ g (nI i) v1 (by omega) (by omega)) kV_RX11_489 hK hP [0, 1, 2] rfl 0 rfl rfl rfl ⟨Nat.le_of_ble_eq_true rfl, Nat.le_of_ble_eq_true rfl⟩ ⟨Nat.le_of_ble_eq_true rfl, Nat.le_of_ble_eq_true rfl⟩ rfl hl.1 rfl (Nat.le_of_ble_eq_true rfl) dX11_first_32) (fun r_6 h_7 => ?_)
            rcases h_7 with ⟨rfl, h_7⟩ | ⟨rfl, h_7⟩
            ·
              have h_7 : 15 < v1.toInt := h_7
              refine lv_if_ne (tgt := 40) hx hb dX11_first_35 (by decide) (fun _ => ?_) (fun h => absurd h (by decide))
              refine lv_iinc (v := (nI (i + 1))) (lv' := [(3, .int (nI (i + 1))), (0, .ref (g 0)), (1, .int (nI j)), (2, .int v1)]) hx hb dX11_first_40 hl (k := 0) rfl (nI_1 _) (by decide) rfl (fun ls hl => ?_)
              refine lv_goto (tgt := 22) hx hb dX11_first_43 (by decide) ?_
              exact ih (i + 1) (by omega) (by omega) (Or.inl (by omega)) ls (lv_sub hl [0, 1, 2, 3] rfl)
            ·
              have h_7 : ¬ (15 < v1.toInt) := h_7
              refine lv_if_ne (tgt := 40) hx hb dX11_first_35 (by decide) (fun h => absurd h (by decide)) (fun _ => ?_)
              refine lv_iload_n hx hb dX11_first_38 rfl (lv_at hl 0 rfl) ?_
              exact W.iret (v := (nI i)) hx hb hr (fun t ht hW => ⟨(nI i), rfl, (by have e : i = j := (by omega); subst e; rw [if_pos (by omega), if_neg (by omega)]), ht⟩) (fun _ h => absurd h List.not_mem_nil) dX11_first_39
      exact lp_22 (400 + 1) j (by omega) (by omega) (Or.inr rfl) ls (lv_sub hl [0, 1, 2, 3] rfl)
    ·
      have h_4 : ¬ ((-40) ≤ v1.toInt ∧ v1.toInt ≤ 41) := h_4
      refine lv_if_ne (tgt := 20) hx hb dX11_first_15 (by decide) (fun h => absurd h (by decide)) (fun _ => ?_)
      refine lv_iconst (v := (-1)) hx hb dX11_first_18 (by decide) ?_
      exact W.iret (v := (-1)) hx hb hr (fun t ht hW => ⟨(-1), rfl, (if_neg (by omega)).symm, ht⟩) (fun _ h => absurd h List.not_mem_nil) dX11_first_19
  ·
    have h_2 : ¬ (0 ≤ v0.toInt ∧ v0.toInt ≤ 399) := h_2
    refine lv_if_eq (tgt := 18) hx hb dX11_first_4 (by decide) (fun _ => ?_) (fun h => absurd h (by decide))
    refine lv_iconst (v := (-1)) hx hb dX11_first_18 (by decide) ?_
    exact W.iret (v := (-1)) hx hb hr (fun t ht hW => ⟨(-1), rfl, (if_neg (by omega)).symm, ht⟩) (fun _ h => absurd h List.not_mem_nil) dX11_first_19
set_option maxRecDepth 100000 in
set_option maxHeartbeats 4000000 in
theorem q_X_feasted (l : Launch) (D : va_G) (cI cB cZ : ClassId) (g : Nat → Nat) (v0 v1 : Int32) : Met l yX11_feasted (CWS yX11_feasted cX11_feasted 6 (some .int)) (RM 3 0 0) (PBr [.ref (g 0), .int v0, .int v1] D cI cB cZ [((g 0), .inr (12, oX g)), ((g 10), .inr (0, [.int 0, .ref (g 50), .int 0])), ((g 11), .inr (0, [.int 0, .ref (g 50), .int 0]))]) (vp_Si (fun r => r = -1)) 0 0 (fun _ => False) := by
  refine Met.ofW (cc := cX11_feasted) (maxL := 6) (ret := (some .int)) (by decide) rfl ?_
  intro p e s m args below meth c s₁ B hml hv
  obtain ⟨rfl, hP, hK⟩ := hv
  have hx := B.exec
  have hb := B.bytes
  have hr := B.returns
  have hts := atoms_spec (ws := (CWS yX11_feasted cX11_feasted 6 (some .int))) B.pre
  have hown : s.vm.findClass RX11 = some m.cls := findClass_of_methodNamed B.named
  have hlocks := B.notSynchronized
  have S : SF p m c cX11_feasted 6 s ([.ref (g 0), .int v0, .int v1]).toArray RX11 := ⟨hx, hb, hml, hown, fun w h => hts w (List.mem_cons_of_mem _ h)⟩
  have hP : va_P D vwCl [((g 0), .inr (12, oX g)), ((g 10), .inr (0, [.int 0, .ref (g 50), .int 0])), ((g 11), .inr (0, [.int 0, .ref (g 50), .int 0]))] s.heap := hP
  have hl := lv_entry ([.ref (g 0), .int v0, .int v1]) (n := 6) (Nat.le_of_ble_eq_true rfl)
  rw [lg_entry_eq]
  generalize (lg_sl ([.ref (g 0), .int v0, .int v1]) ++ List.replicate (6 - (lg_sl ([.ref (g 0), .int v0, .int v1])).length) Slot.unset).toArray = ls at hl ⊢
  have hl : lv_has ls 6 [(0, .ref (g 0)), (1, .int v0), (2, .int v1)] := hl
  refine lv_aload_n hx hb dX11_feasted_0 rfl (lv_at hl 0 rfl) ?_
  refine lv_iload_n hx hb dX11_feasted_1 rfl (lv_at hl 1 rfl) ?_
  refine va_csq (runV_r (As := [.int v0]) (rest := []) S (q_loadAt l D cI cB cZ g v0) kV_RX11_148 hK hP [0, 2] rfl 0 rfl rfl rfl ⟨Nat.le_of_ble_eq_true rfl, Nat.le_of_ble_eq_true rfl⟩ ⟨Nat.le_of_ble_eq_true rfl, Nat.le_of_ble_eq_true rfl⟩ rfl hl.1 rfl (Nat.le_of_ble_eq_true rfl) dX11_feasted_2) (fun r_1 h_2 => ?_)
  subst h_2
  refine lv_astore_nN (lv' := [(3, .null), (0, .ref (g 0)), (1, .int v0), (2, .int v1)]) hx hb dX11_feasted_5 rfl hl (by decide) rfl (fun ls hl => ?_)
  refine lv_aload_nN hx hb dX11_feasted_6 rfl (lv_at hl 0 rfl) ?_
  refine lv_ifnonnullN hx hb dX11_feasted_7 ?_
  refine lv_null hx hb dX11_feasted_10 ?_
  refine lv_goto (tgt := 22) hx hb dX11_feasted_11 (by decide) ?_
  refine lv_astoreN (lv' := [(4, .null), (3, .null), (0, .ref (g 0)), (1, .int v0), (2, .int v1)]) hx hb dX11_feasted_22 hl (by decide) rfl (fun ls hl => ?_)
  refine lv_aload_nN hx hb dX11_feasted_24 rfl (lv_at hl 1 rfl) ?_
  refine lv_ifnullN (tgt := 42) hx hb dX11_feasted_25 (by decide) ?_
  refine lv_iconst (v := (-1)) hx hb dX11_feasted_42 (by decide) ?_
  exact W.iret (v := (-1)) hx hb hr (fun t ht hW => ⟨(-1), rfl, rfl, ht⟩) (fun _ h => absurd h List.not_mem_nil) dX11_feasted_43
set_option maxRecDepth 100000 in
set_option maxHeartbeats 4000000 in
theorem q_X_drum (l : Launch) (D : va_G) (cI cB cZ : ClassId) (g : Nat → Nat) (sz : Nat) : Met l yX11_drum (CWS yX11_drum cX11_drum 1 (some .int)) (RM 3 0 0) (PBw [.ref (g 0)] D cI cB cZ [((g 0), .inr (12, oX g))] sz) (va_Qi (fun (r : Int32) (_ : Unit) => r = 0) (fun (_ : Unit) (_ : State) => True) (va_A [((g 0), .inr (12, oX g))] sz)) 0 0 (va_A [((g 0), .inr (12, oX g))] sz) := by
  refine Met.ofW (cc := cX11_drum) (maxL := 1) (ret := (some .int)) (by decide) rfl ?_
  intro p e s m args below meth c s₁ B hml hv
  obtain ⟨rfl, hsz, hP, hK, hD0⟩ := hv
  have hx := B.exec
  have hb := B.bytes
  have hr := B.returns
  have hts := atoms_spec (ws := (CWS yX11_drum cX11_drum 1 (some .int))) B.pre
  have hown : s.vm.findClass RX11 = some m.cls := findClass_of_methodNamed B.named
  have hlocks := B.notSynchronized
  have S : SF p m c cX11_drum 1 s ([.ref (g 0)]).toArray RX11 := ⟨hx, hb, hml, hown, fun w h => hts w (List.mem_cons_of_mem _ h)⟩
  subst hsz
  have hD := hD0.self (sz := s.heap.size)
  generalize hAe : va_A [((g 0), .inr (12, oX g))] s.heap.size = A at hD ⊢
  have hA : ∀ q : Nat, s.heap.size ≤ q → A q := fun q h => by rw [← hAe]; exact Or.inr h
  have hS : va_S A s.heap s.heap [] := va_S.rf
  have hP : va_P D vwCl [((g 0), .inr (12, oX g))] s.heap := hP
  have hD : va_D A [((g 0), .inr (12, oX g))] := hD
  have hl := lv_entry ([.ref (g 0)]) (n := 1) (Nat.le_of_ble_eq_true rfl)
  rw [lg_entry_eq]
  generalize (lg_sl ([.ref (g 0)]) ++ List.replicate (1 - (lg_sl ([.ref (g 0)])).length) Slot.unset).toArray = ls at hl ⊢
  have hl : lv_has ls 1 [(0, .ref (g 0))] := hl
  refine lv_aload_n hx hb dX11_drum_0 rfl (lv_at hl 0 rfl) ?_
  refine gf_RX11_502 S hK hP 0 rfl (v := .int 0) rfl dX11_drum_1 ?_
  refine lv_bipush (v := 20) hx hb dX11_drum_4 (by decide) ?_
  refine lv_icmp_lt (tgt := 11) hx hb dX11_drum_6 (by decide) (fun _ => ?_) (fun h => absurd h (by decide))
  refine lv_aload_n hx hb dX11_drum_11 rfl (lv_at hl 0 rfl) ?_
  refine lv_dup hx hb dX11_drum_12 rfl ?_
  refine gf_RX11_502 S hK hP 0 rfl (v := .int 0) rfl dX11_drum_13 ?_
  refine lv_iconst (v := 1) hx hb dX11_drum_16 (by decide) ?_
  refine lv_iadd hx hb dX11_drum_17 ?_
  refine lv_topi (fun y_1 ey_1 => ?_)
  obtain rfl : y_1 = 1 := ey_1.trans (by decide)
  refine pf_RX11_502 S hK hP hD hS 0 rfl (v := .int 1) (Nat.le_of_ble_eq_true rfl) rfl rfl dX11_drum_18 (fun H locs hP hD hS => ?_)
  have hP : va_P D vwCl [((g 0), .inr (12, [.int 0, .int 0, .int 1, .int 0, .ref (g 4), .ref (g 5), .ref (g 6), .ref (g 7), .ref (g 8), .ref (g 9), .ref (g 10), .ref (g 11), .ref (g 12), .ref (g 13), .ref (g 14), .ref (g 15)]))] H := hP
  have hD : va_D A [((g 0), .inr (12, [.int 0, .int 0, .int 1, .int 0, .ref (g 4), .ref (g 5), .ref (g 6), .ref (g 7), .ref (g 8), .ref (g 9), .ref (g 10), .ref (g 11), .ref (g 12), .ref (g 13), .ref (g 14), .ref (g 15)]))] := hD
  refine lv_aload_n hx hb dX11_drum_21 rfl (lv_at hl 0 rfl) ?_
  refine gf_RX11_502 S hK hP 0 rfl (v := .int 1) rfl dX11_drum_22 ?_
  refine lv_iconst (v := 1) hx hb dX11_drum_25 (by decide) ?_
  refine lv_isub hx hb dX11_drum_26 ?_
  refine lv_topi (fun y_2 ey_2 => ?_)
  obtain rfl : y_2 = 0 := ey_2.trans (by decide)
  exact W.iret (v := 0) hx hb hr (fun t ht hW => ⟨⟨0, (), rfl, rfl, trivial⟩, hS.F ht⟩) hS.2.2 dX11_drum_27
set_option maxRecDepth 100000 in
set_option maxHeartbeats 4000000 in
theorem q_X_moves (l : Launch) (D : va_G) (cI cB cZ : ClassId) (g : Nat → Nat) (v0 v1 v2 : Int32) : Met l yX11_moves (CWS yX11_moves cX11_moves 6 (some .boolean)) (RM 3 0 0) (PBr [.ref (g 0), .int v0, .int v1, .int v2] D cI cB cZ [((g 0), .inr (12, oX g)), ((g 10), .inr (0, [.int 0, .ref (g 50), .int 0]))]) (vp_Si (fun r => r = 0)) 0 0 (fun _ => False) := by
  refine Met.ofW (cc := cX11_moves) (maxL := 6) (ret := (some .boolean)) (by decide) rfl ?_
  intro p e s m args below meth c s₁ B hml hv
  obtain ⟨rfl, hP, hK⟩ := hv
  have hx := B.exec
  have hb := B.bytes
  have hr := B.returns
  have hts := atoms_spec (ws := (CWS yX11_moves cX11_moves 6 (some .boolean))) B.pre
  have hown : s.vm.findClass RX11 = some m.cls := findClass_of_methodNamed B.named
  have hlocks := B.notSynchronized
  have S : SF p m c cX11_moves 6 s ([.ref (g 0), .int v0, .int v1, .int v2]).toArray RX11 := ⟨hx, hb, hml, hown, fun w h => hts w (List.mem_cons_of_mem _ h)⟩
  have hP : va_P D vwCl [((g 0), .inr (12, oX g)), ((g 10), .inr (0, [.int 0, .ref (g 50), .int 0]))] s.heap := hP
  have hl := lv_entry ([.ref (g 0), .int v0, .int v1, .int v2]) (n := 6) (Nat.le_of_ble_eq_true rfl)
  rw [lg_entry_eq]
  generalize (lg_sl ([.ref (g 0), .int v0, .int v1, .int v2]) ++ List.replicate (6 - (lg_sl ([.ref (g 0), .int v0, .int v1, .int v2])).length) Slot.unset).toArray = ls at hl ⊢
  have hl : lv_has ls 6 [(0, .ref (g 0)), (1, .int v0), (2, .int v1), (3, .int v2)] := hl
  refine lv_iload_n hx hb dX11_moves_0 rfl (lv_at hl 1 rfl) ?_
  refine lv_iconst (v := 0) hx hb dX11_moves_1 (by decide) ?_
  refine lv_aload_n hx hb dX11_moves_2 rfl (lv_at hl 0 rfl) ?_
  refine gf_RX11_502 S hK hP 0 rfl (v := .int 0) rfl dX11_moves_3 ?_
  refine lv_iconst (v := 1) hx hb dX11_moves_6 (by decide) ?_
  refine lv_isub hx hb dX11_moves_7 ?_
  refine lv_topi (fun y_1 ey_1 => ?_)
  obtain rfl : y_1 = (-1) := ey_1.trans (by decide)
  refine vp_callSi (runS_r (As := [.int v0, .int 0, .int (-1)]) (rest := []) S (q_within l D cI cB cZ v0 0 (-1)) kS_RX11_80 hK hP [] rfl ⟨Nat.le_of_ble_eq_true rfl, Nat.le_of_ble_eq_true rfl⟩ ⟨Nat.le_of_ble_eq_true rfl, Nat.le_of_ble_eq_true rfl⟩ rfl hl.1 rfl (Nat.le_of_ble_eq_true rfl) dX11_moves_8) (fun r_2 h_3 => ?_)
  rcases h_3 with ⟨rfl, h_3⟩ | ⟨rfl, h_3⟩
  ·
    have h_3 : 0 ≤ v0.toInt ∧ v0.toInt ≤ (-1) := h_3
    exfalso; omega
  ·
    have h_3 : ¬ (0 ≤ v0.toInt ∧ v0.toInt ≤ (-1)) := h_3
    refine lv_if_eq (tgt := 31) hx hb dX11_moves_11 (by decide) (fun _ => ?_) (fun h => absurd h (by decide))
    refine lv_iconst (v := 0) hx hb dX11_moves_31 (by decide) ?_
    refine lv_istore (lv' := [(4, .int 0), (0, .ref (g 0)), (1, .int v0), (2, .int v1), (3, .int v2)]) hx hb dX11_moves_32 hl (by decide) rfl (fun ls hl => ?_)
    refine lv_iload hx hb dX11_moves_34 (lv_at hl 0 rfl) ?_
    refine lv_if_eq (tgt := 63) hx hb dX11_moves_36 (by decide) (fun _ => ?_) (fun h => absurd h (by decide))
    refine lv_iconst (v := 0) hx hb dX11_moves_63 (by decide) ?_
    exact W.zret (v := 0) hx hb hr rfl (fun t ht hW => ⟨0, rfl, rfl, ht⟩) (fun _ h => absurd h List.not_mem_nil) dX11_moves_64
set_option maxRecDepth 100000 in
set_option maxHeartbeats 4000000 in
theorem q_X_stood (l : Launch) (D : va_G) (cI cB cZ : ClassId) (g : Nat → Nat) (v0 v1 : Int32) : Met l yX11_stood (CWS yX11_stood cX11_stood 4 (some .int)) (RM 3 0 0) (PBr [.ref (g 0), .int v0, .int v1] D cI cB cZ [((g 0), .inr (12, oX g))]) (vp_Si (fun r => r = -1)) 0 0 (fun _ => False) := by
  refine Met.ofW (cc := cX11_stood) (maxL := 4) (ret := (some .int)) (by decide) rfl ?_
  intro p e s m args below meth c s₁ B hml hv
  obtain ⟨rfl, hP, hK⟩ := hv
  have hx := B.exec
  have hb := B.bytes
  have hr := B.returns
  have hts := atoms_spec (ws := (CWS yX11_stood cX11_stood 4 (some .int))) B.pre
  have hown : s.vm.findClass RX11 = some m.cls := findClass_of_methodNamed B.named
  have hlocks := B.notSynchronized
  have S : SF p m c cX11_stood 4 s ([.ref (g 0), .int v0, .int v1]).toArray RX11 := ⟨hx, hb, hml, hown, fun w h => hts w (List.mem_cons_of_mem _ h)⟩
  have hP : va_P D vwCl [((g 0), .inr (12, oX g))] s.heap := hP
  have hl := lv_entry ([.ref (g 0), .int v0, .int v1]) (n := 4) (Nat.le_of_ble_eq_true rfl)
  rw [lg_entry_eq]
  generalize (lg_sl ([.ref (g 0), .int v0, .int v1]) ++ List.replicate (4 - (lg_sl ([.ref (g 0), .int v0, .int v1])).length) Slot.unset).toArray = ls at hl ⊢
  have hl : lv_has ls 4 [(0, .ref (g 0)), (1, .int v0), (2, .int v1)] := hl
  refine lv_iload_n hx hb dX11_stood_0 rfl (lv_at hl 1 rfl) ?_
  refine lv_iconst (v := 0) hx hb dX11_stood_1 (by decide) ?_
  refine lv_aload_n hx hb dX11_stood_2 rfl (lv_at hl 0 rfl) ?_
  refine gf_RX11_502 S hK hP 0 rfl (v := .int 0) rfl dX11_stood_3 ?_
  refine lv_iconst (v := 1) hx hb dX11_stood_6 (by decide) ?_
  refine lv_isub hx hb dX11_stood_7 ?_
  refine lv_topi (fun y_1 ey_1 => ?_)
  obtain rfl : y_1 = (-1) := ey_1.trans (by decide)
  refine vp_callSi (runS_r (As := [.int v0, .int 0, .int (-1)]) (rest := []) S (q_within l D cI cB cZ v0 0 (-1)) kS_RX11_80 hK hP [] rfl ⟨Nat.le_of_ble_eq_true rfl, Nat.le_of_ble_eq_true rfl⟩ ⟨Nat.le_of_ble_eq_true rfl, Nat.le_of_ble_eq_true rfl⟩ rfl hl.1 rfl (Nat.le_of_ble_eq_true rfl) dX11_stood_8) (fun r_2 h_3 => ?_)
  rcases h_3 with ⟨rfl, h_3⟩ | ⟨rfl, h_3⟩
  ·
    have h_3 : 0 ≤ v0.toInt ∧ v0.toInt ≤ (-1) := h_3
    exfalso; omega
  ·
    have h_3 : ¬ (0 ≤ v0.toInt ∧ v0.toInt ≤ (-1)) := h_3
    refine lv_if_eq (tgt := 21) hx hb dX11_stood_11 (by decide) (fun _ => ?_) (fun h => absurd h (by decide))
    refine lv_iconst (v := (-1)) hx hb dX11_stood_21 (by decide) ?_
    exact W.iret (v := (-1)) hx hb hr (fun t ht hW => ⟨(-1), rfl, rfl, ht⟩) (fun _ h => absurd h List.not_mem_nil) dX11_stood_22
set_option maxRecDepth 100000 in
set_option maxHeartbeats 4000000 in
theorem q_X_stale (l : Launch) (D : va_G) (cI cB cZ : ClassId) (g : Nat → Nat) (v0 : Int32) : Met l yX11_stale (CWS yX11_stale cX11_stale 6 (some .int)) (RM 3 0 0) (PBr [.ref (g 0), .int v0] D cI cB cZ [((g 0), .inr (12, oX g))]) (vp_Si (fun r => r = (if 0 ≤ v0.toInt ∧ v0.toInt ≤ 399 then (0 : Int32) else -1))) 0 0 (fun _ => False) := by
  refine Met.ofW (cc := cX11_stale) (maxL := 6) (ret := (some .int)) (by decide) rfl ?_
  intro p e s m args below meth c s₁ B hml hv
  obtain ⟨rfl, hP, hK⟩ := hv
  have hx := B.exec
  have hb := B.bytes
  have hr := B.returns
  have hts := atoms_spec (ws := (CWS yX11_stale cX11_stale 6 (some .int))) B.pre
  have hown : s.vm.findClass RX11 = some m.cls := findClass_of_methodNamed B.named
  have hlocks := B.notSynchronized
  have S : SF p m c cX11_stale 6 s ([.ref (g 0), .int v0]).toArray RX11 := ⟨hx, hb, hml, hown, fun w h => hts w (List.mem_cons_of_mem _ h)⟩
  have hP : va_P D vwCl [((g 0), .inr (12, oX g))] s.heap := hP
  have hl := lv_entry ([.ref (g 0), .int v0]) (n := 6) (Nat.le_of_ble_eq_true rfl)
  rw [lg_entry_eq]
  generalize (lg_sl ([.ref (g 0), .int v0]) ++ List.replicate (6 - (lg_sl ([.ref (g 0), .int v0])).length) Slot.unset).toArray = ls at hl ⊢
  have hl : lv_has ls 6 [(0, .ref (g 0)), (1, .int v0)] := hl
  refine lv_iload_n hx hb dX11_stale_0 rfl (lv_at hl 1 rfl) ?_
  refine lv_iconst (v := 0) hx hb dX11_stale_1 (by decide) ?_
  refine lv_sipush (v := 399) hx hb dX11_stale_2 (by decide) ?_
  refine vp_callSi (runS_r (As := [.int v0, .int 0, .int 399]) (rest := []) S (q_within l D cI cB cZ v0 0 399) kS_RX11_80 hK hP [] rfl ⟨Nat.le_of_ble_eq_true rfl, Nat.le_of_ble_eq_true rfl⟩ ⟨Nat.le_of_ble_eq_true rfl, Nat.le_of_ble_eq_true rfl⟩ rfl hl.1 rfl (Nat.le_of_ble_eq_true rfl) dX11_stale_5) (fun r_1 h_2 => ?_)
  rcases h_2 with ⟨rfl, h_2⟩ | ⟨rfl, h_2⟩
  ·
    have h_2 : 0 ≤ v0.toInt ∧ v0.toInt ≤ 399 := h_2
    refine lv_if_ne (tgt := 13) hx hb dX11_stale_8 (by decide) (fun _ => ?_) (fun h => absurd h (by decide))
    refine lv_iconst (v := 0) hx hb dX11_stale_13 (by decide) ?_
    refine lv_istore_n (lv' := [(2, .int 0), (0, .ref (g 0)), (1, .int v0)]) hx hb dX11_stale_14 rfl hl (by decide) rfl (fun ls hl => ?_)
    refine lv_iconst (v := 0) hx hb dX11_stale_15 (by decide) ?_
    refine lv_istore_n (lv' := [(3, .int 0), (2, .int 0), (0, .ref (g 0)), (1, .int v0)]) hx hb dX11_stale_16 rfl hl (by decide) rfl (fun ls hl => ?_)
    refine lv_iload_n hx hb dX11_stale_17 rfl (lv_at hl 0 rfl) ?_
    refine lv_aload_n hx hb dX11_stale_18 rfl (lv_at hl 2 rfl) ?_
    refine gf_RX11_502 S hK hP 0 rfl (v := .int 0) rfl dX11_stale_19 ?_
    refine lv_icmp_ge (tgt := 92) hx hb dX11_stale_22 (by decide) (fun _ => ?_) (fun h => absurd h (by decide))
    refine lv_iload_n hx hb dX11_stale_92 rfl (lv_at hl 1 rfl) ?_
    exact W.iret (v := 0) hx hb hr (fun t ht hW => ⟨0, rfl, (if_pos (by omega)).symm, ht⟩) (fun _ h => absurd h List.not_mem_nil) dX11_stale_93
  ·
    have h_2 : ¬ (0 ≤ v0.toInt ∧ v0.toInt ≤ 399) := h_2
    refine lv_if_ne (tgt := 13) hx hb dX11_stale_8 (by decide) (fun h => absurd h (by decide)) (fun _ => ?_)
    refine lv_iconst (v := (-1)) hx hb dX11_stale_11 (by decide) ?_
    exact W.iret (v := (-1)) hx hb hr (fun t ht hW => ⟨(-1), rfl, (if_neg (by omega)).symm, ht⟩) (fun _ h => absurd h List.not_mem_nil) dX11_stale_12
set_option maxRecDepth 100000 in
set_option maxHeartbeats 4000000 in
theorem q_change (l : Launch) (D : va_G) (cI cB cZ : ClassId) (g : Nat → Nat) (v0 v1 : Int32) (sz : Nat) : Met l yX7_change (CWS yX7_change cX7_change 3 none) (RM 1 0 0) (PBw [.ref (g 8), .int v0, .int v1] D cI cB cZ [((g 8), .inr (8, oT g)), ((g 29), .inl (cI, 400, .inl (fun _ => 0)))] sz) (va_Qv (fun (_ : Unit) => True) (fun (_ : Unit) (_ : State) => True) (va_A [((g 8), .inr (8, oT g)), ((g 29), .inl (cI, 400, .inl (fun _ => 0)))] sz)) 0 0 (va_A [((g 8), .inr (8, oT g)), ((g 29), .inl (cI, 400, .inl (fun _ => 0)))] sz) := by
  refine Met.ofW (cc := cX7_change) (maxL := 3) (ret := none) (by decide) rfl ?_
  intro p e s m args below meth c s₁ B hml hv
  obtain ⟨rfl, hsz, hP, hK, hD0⟩ := hv
  have hx := B.exec
  have hb := B.bytes
  have hr := B.returns
  have hts := atoms_spec (ws := (CWS yX7_change cX7_change 3 none)) B.pre
  have hown : s.vm.findClass RX7 = some m.cls := findClass_of_methodNamed B.named
  have hlocks := B.notSynchronized
  have S : SF p m c cX7_change 3 s ([.ref (g 8), .int v0, .int v1]).toArray RX7 := ⟨hx, hb, hml, hown, fun w h => hts w (List.mem_cons_of_mem _ h)⟩
  subst hsz
  have hD := hD0.self (sz := s.heap.size)
  generalize hAe : va_A [((g 8), .inr (8, oT g)), ((g 29), .inl (cI, 400, .inl (fun _ => 0)))] s.heap.size = A at hD ⊢
  have hA : ∀ q : Nat, s.heap.size ≤ q → A q := fun q h => by rw [← hAe]; exact Or.inr h
  have hS : va_S A s.heap s.heap [] := va_S.rf
  have hP : va_P D vwCl [((g 8), .inr (8, oT g)), ((g 29), .inl (cI, 400, .inl (fun _ => 0)))] s.heap := hP
  have hD : va_D A [((g 8), .inr (8, oT g)), ((g 29), .inl (cI, 400, .inl (fun _ => 0)))] := hD
  have hl := lv_entry ([.ref (g 8), .int v0, .int v1]) (n := 3) (Nat.le_of_ble_eq_true rfl)
  rw [lg_entry_eq]
  generalize (lg_sl ([.ref (g 8), .int v0, .int v1]) ++ List.replicate (3 - (lg_sl ([.ref (g 8), .int v0, .int v1])).length) Slot.unset).toArray = ls at hl ⊢
  have hl : lv_has ls 3 [(0, .ref (g 8)), (1, .int v0), (2, .int v1)] := hl
  refine lv_aload_n hx hb dX7_change_0 rfl (lv_at hl 0 rfl) ?_
  refine gf_RX7_45 S hK hP 0 rfl (v := .ref (g 29)) rfl dX7_change_1 ?_
  refine lv_iload_n hx hb dX7_change_4 rfl (lv_at hl 1 rfl) ?_
  refine lv_aload_n hx hb dX7_change_5 rfl (lv_at hl 0 rfl) ?_
  refine gf_RX7_45 S hK hP 0 rfl (v := .ref (g 29)) rfl dX7_change_6 ?_
  refine lv_iload_n hx hb dX7_change_9 rfl (lv_at hl 1 rfl) ?_
  refine vp_callSi (runS_r (As := [.ref (g 29), .int v0]) (rest := [.int v0, .ref (g 29)]) S (q_at0 l D cI cB cZ (g 29) 400 v0 (by omega)) kS_RX7_48 hK hP [1] rfl ⟨Nat.le_of_ble_eq_true rfl, Nat.le_of_ble_eq_true rfl⟩ ⟨Nat.le_of_ble_eq_true rfl, Nat.le_of_ble_eq_true rfl⟩ rfl hl.1 rfl (Nat.le_of_ble_eq_true rfl) dX7_change_10) (fun r_1 h_2 => ?_)
  subst h_2
  refine lv_iload_n hx hb dX7_change_13 rfl (lv_at hl 2 rfl) ?_
  refine lv_iadd hx hb dX7_change_14 ?_
  have hFc := va_free (wc := [((g 29), .inl (cI, 400, .inl (fun _ => 0)))]) hD hS hA [1] rfl
  refine va_callv (runS_w (As := [.ref (g 29), .int v0, .int (0 + v1)]) (rest := []) S (q_putU l D cI cB cZ (g 29) 400 (fun _ => 0) v0 (0 + v1) s.heap.size (by omega)) kS_RX7_52 hK hP hD [1] rfl rfl (by decide) ⟨Nat.le_of_ble_eq_true rfl, Nat.le_of_ble_eq_true rfl⟩ ⟨Nat.le_of_ble_eq_true rfl, Nat.le_of_ble_eq_true rfl⟩ rfl hl.1 rfl (Nat.le_of_ble_eq_true rfl) dX7_change_15) hS (fun q _ h => hFc q h) hFc (fun u_4 t H1 locs ht hvm h_5 hB hz1 hk1 hS => ?_)
  obtain ⟨hP1, hD1⟩ := hB
  rw [ht] at hP1
  obtain ⟨hP, hD⟩ := va_join (wr := [((g 8), .inr (8, oT g))]) (w1 := [((g 29), .inl (cI, 400, .inl u_4))]) hP hD [1] [0] rfl rfl (by decide) (by decide) hk1 hFc hP1 hD1
  generalize H1 = H at hP hS ⊢
  have hP : va_P D vwCl [((g 8), .inr (8, oT g)), ((g 29), .inl (cI, 400, .inl u_4))] H := hP
  have hD : va_D A [((g 8), .inr (8, oT g)), ((g 29), .inl (cI, 400, .inl u_4))] := hD
  exact W.vret hx hb hr (fun t ht hW => ⟨⟨(), rfl, trivial, trivial⟩, hS.F ht⟩) hS.2.2 dX7_change_18
set_option maxRecDepth 100000 in
set_option maxHeartbeats 4000000 in
theorem q_X_spill (l : Launch) (D : va_G) (cI cB cZ : ClassId) (g : Nat → Nat) (v0 v1 : Int32) (sz : Nat) : Met l yX11_spill (CWS yX11_spill cX11_spill 3 (some .int)) (RM 3 0 0) (PBw [.ref (g 0), .int v0, .int v1] D cI cB cZ [((g 0), .inr (12, oX g)), ((g 8), .inr (8, oT g)), ((g 29), .inl (cI, 400, .inl (fun _ => 0)))] sz) (va_Qi (fun (r : Int32) (_ : Unit) => r = (if (0 ≤ v0.toInt ∧ v0.toInt ≤ 0) ∧ 1 ≤ v1.toInt ∧ v1.toInt ≤ 400 then (1 : Int32) else -1)) (fun (_ : Unit) (_ : State) => True) (va_A [((g 0), .inr (12, oX g)), ((g 8), .inr (8, oT g)), ((g 29), .inl (cI, 400, .inl (fun _ => 0)))] sz)) 0 0 (va_A [((g 0), .inr (12, oX g)), ((g 8), .inr (8, oT g)), ((g 29), .inl (cI, 400, .inl (fun _ => 0)))] sz) := by
  refine Met.ofW (cc := cX11_spill) (maxL := 3) (ret := (some .int)) (by decide) rfl ?_
  intro p e s m args below meth c s₁ B hml hv
  obtain ⟨rfl, hsz, hP, hK, hD0⟩ := hv
  have hx := B.exec
  have hb := B.bytes
  have hr := B.returns
  have hts := atoms_spec (ws := (CWS yX11_spill cX11_spill 3 (some .int))) B.pre
  have hown : s.vm.findClass RX11 = some m.cls := findClass_of_methodNamed B.named
  have hlocks := B.notSynchronized
  have S : SF p m c cX11_spill 3 s ([.ref (g 0), .int v0, .int v1]).toArray RX11 := ⟨hx, hb, hml, hown, fun w h => hts w (List.mem_cons_of_mem _ h)⟩
  subst hsz
  have hD := hD0.self (sz := s.heap.size)
  generalize hAe : va_A [((g 0), .inr (12, oX g)), ((g 8), .inr (8, oT g)), ((g 29), .inl (cI, 400, .inl (fun _ => 0)))] s.heap.size = A at hD ⊢
  have hA : ∀ q : Nat, s.heap.size ≤ q → A q := fun q h => by rw [← hAe]; exact Or.inr h
  have hS : va_S A s.heap s.heap [] := va_S.rf
  have hP : va_P D vwCl [((g 0), .inr (12, oX g)), ((g 8), .inr (8, oT g)), ((g 29), .inl (cI, 400, .inl (fun _ => 0)))] s.heap := hP
  have hD : va_D A [((g 0), .inr (12, oX g)), ((g 8), .inr (8, oT g)), ((g 29), .inl (cI, 400, .inl (fun _ => 0)))] := hD
  have hl := lv_entry ([.ref (g 0), .int v0, .int v1]) (n := 3) (Nat.le_of_ble_eq_true rfl)
  rw [lg_entry_eq]
  generalize (lg_sl ([.ref (g 0), .int v0, .int v1]) ++ List.replicate (3 - (lg_sl ([.ref (g 0), .int v0, .int v1])).length) Slot.unset).toArray = ls at hl ⊢
  have hl : lv_has ls 3 [(0, .ref (g 0)), (1, .int v0), (2, .int v1)] := hl
  refine lv_iload_n hx hb dX11_spill_0 rfl (lv_at hl 1 rfl) ?_
  refine lv_iconst (v := 0) hx hb dX11_spill_1 (by decide) ?_
  refine lv_aload_n hx hb dX11_spill_2 rfl (lv_at hl 0 rfl) ?_
  refine gf_RX11_103 S hK hP 0 rfl (v := .int 0) rfl dX11_spill_3 ?_
  refine vp_callSi (runS_r (As := [.int v0, .int 0, .int 0]) (rest := []) S (q_within l D cI cB cZ v0 0 0) kS_RX11_80 hK hP [] rfl ⟨Nat.le_of_ble_eq_true rfl, Nat.le_of_ble_eq_true rfl⟩ ⟨Nat.le_of_ble_eq_true rfl, Nat.le_of_ble_eq_true rfl⟩ rfl hl.1 rfl (Nat.le_of_ble_eq_true rfl) dX11_spill_6) (fun r_1 h_2 => ?_)
  rcases h_2 with ⟨rfl, h_2⟩ | ⟨rfl, h_2⟩
  ·
    have h_2 : 0 ≤ v0.toInt ∧ v0.toInt ≤ 0 := h_2
    refine lv_if_eq (tgt := 32) hx hb dX11_spill_9 (by decide) (fun h => absurd h (by decide)) (fun _ => ?_)
    refine lv_iload_n hx hb dX11_spill_12 rfl (lv_at hl 2 rfl) ?_
    refine lv_iconst (v := 1) hx hb dX11_spill_13 (by decide) ?_
    refine lv_sipush (v := 400) hx hb dX11_spill_14 (by decide) ?_
    refine vp_callSi (runS_r (As := [.int v1, .int 1, .int 400]) (rest := []) S (q_within l D cI cB cZ v1 1 400) kS_RX11_80 hK hP [] rfl ⟨Nat.le_of_ble_eq_true rfl, Nat.le_of_ble_eq_true rfl⟩ ⟨Nat.le_of_ble_eq_true rfl, Nat.le_of_ble_eq_true rfl⟩ rfl hl.1 rfl (Nat.le_of_ble_eq_true rfl) dX11_spill_17) (fun r_3 h_4 => ?_)
    rcases h_4 with ⟨rfl, h_4⟩ | ⟨rfl, h_4⟩
    ·
      have h_4 : 1 ≤ v1.toInt ∧ v1.toInt ≤ 400 := h_4
      refine lv_if_eq (tgt := 32) hx hb dX11_spill_20 (by decide) (fun h => absurd h (by decide)) (fun _ => ?_)
      refine lv_aload_n hx hb dX11_spill_23 rfl (lv_at hl 0 rfl) ?_
      refine gf_RX11_517 S hK hP 0 rfl (v := .int 0) rfl dX11_spill_24 ?_
      refine lv_bipush (v := 40) hx hb dX11_spill_27 (by decide) ?_
      refine lv_icmp_lt (tgt := 34) hx hb dX11_spill_29 (by decide) (fun _ => ?_) (fun h => absurd h (by decide))
      refine lv_aload_n hx hb dX11_spill_34 rfl (lv_at hl 0 rfl) ?_
      refine gf_RX11_47 S hK hP 0 rfl (v := .ref (g 8)) rfl dX11_spill_35 ?_
      refine lv_iload_n hx hb dX11_spill_38 rfl (lv_at hl 1 rfl) ?_
      refine lv_iload_n hx hb dX11_spill_39 rfl (lv_at hl 2 rfl) ?_
      refine lv_ineg hx hb dX11_spill_40 ?_
      have hFc := va_free (wc := [((g 8), .inr (8, oT g)), ((g 29), .inl (cI, 400, .inl (fun _ => 0)))]) hD hS hA [1, 2] rfl
      refine va_callv (runV_w (As := [.int v0, .int (-v1)]) (rest := []) S (q_change l D cI cB cZ g v0 (-v1) s.heap.size) kV_RX11_144 hK hP hD [1, 2] rfl rfl (by decide) 1 rfl rfl rfl ⟨Nat.le_of_ble_eq_true rfl, Nat.le_of_ble_eq_true rfl⟩ ⟨Nat.le_of_ble_eq_true rfl, Nat.le_of_ble_eq_true rfl⟩ rfl hl.1 rfl (Nat.le_of_ble_eq_true rfl) dX11_spill_41) hS (fun q _ h => hFc q h) hFc (fun u_6 t H1 locs ht hvm h_7 hB hz1 hk1 hS => ?_)
      have hP1 : va_P D vwCl [] H1 := fun k q h => by simp at h
      have hD1 : va_D (va_A [((g 8), .inr (8, oT g)), ((g 29), .inl (cI, 400, .inl (fun _ => 0)))] s.heap.size) [] := ⟨fun i j p q h => by simp at h, fun k q h => by simp at h⟩
      obtain ⟨hP, hD⟩ := va_join (wr := [((g 0), .inr (12, oX g))]) (w1 := []) hP hD [1, 2] [0] rfl rfl (by decide) (by decide) hk1 hFc hP1 hD1
      generalize H1 = H at hP hS ⊢
      have hP : va_P D vwCl [((g 0), .inr (12, oX g))] H := hP
      have hD : va_D A [((g 0), .inr (12, oX g))] := hD
      refine lv_aload_n hx hb dX11_spill_44 rfl (lv_at hl 0 rfl) ?_
      refine lv_dup hx hb dX11_spill_45 rfl ?_
      refine gf_RX11_517 S hK hP 0 rfl (v := .int 0) rfl dX11_spill_46 ?_
      refine lv_iconst (v := 1) hx hb dX11_spill_49 (by decide) ?_
      refine lv_iadd hx hb dX11_spill_50 ?_
      refine lv_topi (fun y_8 ey_8 => ?_)
      obtain rfl : y_8 = 1 := ey_8.trans (by decide)
      refine pf_RX11_517 S hK hP hD hS 0 rfl (v := .int 1) (Nat.le_of_ble_eq_true rfl) rfl rfl dX11_spill_51 (fun H locs hP hD hS => ?_)
      have hP : va_P D vwCl [((g 0), .inr (12, [.int 0, .int 0, .int 0, .int 1, .ref (g 4), .ref (g 5), .ref (g 6), .ref (g 7), .ref (g 8), .ref (g 9), .ref (g 10), .ref (g 11), .ref (g 12), .ref (g 13), .ref (g 14), .ref (g 15)]))] H := hP
      have hD : va_D A [((g 0), .inr (12, [.int 0, .int 0, .int 0, .int 1, .ref (g 4), .ref (g 5), .ref (g 6), .ref (g 7), .ref (g 8), .ref (g 9), .ref (g 10), .ref (g 11), .ref (g 12), .ref (g 13), .ref (g 14), .ref (g 15)]))] := hD
      refine lv_aload_n hx hb dX11_spill_54 rfl (lv_at hl 0 rfl) ?_
      refine gf_RX11_517 S hK hP 0 rfl (v := .int 1) rfl dX11_spill_55 ?_
      exact W.iret (v := 1) hx hb hr (fun t ht hW => ⟨⟨1, (), rfl, (if_pos (by omega)).symm, trivial⟩, hS.F ht⟩) hS.2.2 dX11_spill_58
    ·
      have h_4 : ¬ (1 ≤ v1.toInt ∧ v1.toInt ≤ 400) := h_4
      refine lv_if_eq (tgt := 32) hx hb dX11_spill_20 (by decide) (fun _ => ?_) (fun h => absurd h (by decide))
      refine lv_iconst (v := (-1)) hx hb dX11_spill_32 (by decide) ?_
      exact W.iret (v := (-1)) hx hb hr (fun t ht hW => ⟨⟨(-1), (), rfl, (if_neg (by omega)).symm, trivial⟩, hS.F ht⟩) hS.2.2 dX11_spill_33
  ·
    have h_2 : ¬ (0 ≤ v0.toInt ∧ v0.toInt ≤ 0) := h_2
    refine lv_if_eq (tgt := 32) hx hb dX11_spill_9 (by decide) (fun _ => ?_) (fun h => absurd h (by decide))
    refine lv_iconst (v := (-1)) hx hb dX11_spill_32 (by decide) ?_
    exact W.iret (v := (-1)) hx hb hr (fun t ht hW => ⟨⟨(-1), (), rfl, (if_neg (by omega)).symm, trivial⟩, hS.F ht⟩) hS.2.2 dX11_spill_33
set_option maxRecDepth 100000 in
set_option maxHeartbeats 4000000 in
theorem q_X_stock (l : Launch) (D : va_G) (cI cB cZ : ClassId) (g : Nat → Nat) (v0 : Int32) : Met l yX11_stock (CWS yX11_stock cX11_stock 4 (some .int)) (RM 3 0 0) (PBr [.ref (g 0), .int v0] D cI cB cZ [((g 0), .inr (12, oX g)), ((g 8), .inr (8, oT g)), ((g 29), .inl (cI, 400, .inl (fun _ => 0)))]) (vp_Si (fun r => r = (if 0 ≤ v0.toInt ∧ v0.toInt ≤ 399 then (0 : Int32) else -1000000))) 0 0 (fun _ => False) := by
  refine Met.ofW (cc := cX11_stock) (maxL := 4) (ret := (some .int)) (by decide) rfl ?_
  intro p e s m args below meth c s₁ B hml hv
  obtain ⟨rfl, hP, hK⟩ := hv
  have hx := B.exec
  have hb := B.bytes
  have hr := B.returns
  have hts := atoms_spec (ws := (CWS yX11_stock cX11_stock 4 (some .int))) B.pre
  have hown : s.vm.findClass RX11 = some m.cls := findClass_of_methodNamed B.named
  have hlocks := B.notSynchronized
  have S : SF p m c cX11_stock 4 s ([.ref (g 0), .int v0]).toArray RX11 := ⟨hx, hb, hml, hown, fun w h => hts w (List.mem_cons_of_mem _ h)⟩
  have hP : va_P D vwCl [((g 0), .inr (12, oX g)), ((g 8), .inr (8, oT g)), ((g 29), .inl (cI, 400, .inl (fun _ => 0)))] s.heap := hP
  have hl := lv_entry ([.ref (g 0), .int v0]) (n := 4) (Nat.le_of_ble_eq_true rfl)
  rw [lg_entry_eq]
  generalize (lg_sl ([.ref (g 0), .int v0]) ++ List.replicate (4 - (lg_sl ([.ref (g 0), .int v0])).length) Slot.unset).toArray = ls at hl ⊢
  have hl : lv_has ls 4 [(0, .ref (g 0)), (1, .int v0)] := hl
  refine lv_iload_n hx hb dX11_stock_0 rfl (lv_at hl 1 rfl) ?_
  refine vp_callSi (runS_r (As := [.int v0]) (rest := []) S (q_isDay l D cI cB cZ v0) kS_RX11_99 hK hP [] rfl ⟨Nat.le_of_ble_eq_true rfl, Nat.le_of_ble_eq_true rfl⟩ ⟨Nat.le_of_ble_eq_true rfl, Nat.le_of_ble_eq_true rfl⟩ rfl hl.1 rfl (Nat.le_of_ble_eq_true rfl) dX11_stock_1) (fun r_1 h_2 => ?_)
  rcases h_2 with ⟨rfl, h_2⟩ | ⟨rfl, h_2⟩
  ·
    have h_2 : 0 ≤ v0.toInt ∧ v0.toInt ≤ 399 := h_2
    refine lv_if_ne (tgt := 11) hx hb dX11_stock_4 (by decide) (fun _ => ?_) (fun h => absurd h (by decide))
    refine lv_iconst (v := 0) hx hb dX11_stock_11 (by decide) ?_
    refine lv_istore_n (lv' := [(2, .int 0), (0, .ref (g 0)), (1, .int v0)]) hx hb dX11_stock_12 rfl hl (by decide) rfl (fun ls hl => ?_)
    refine lv_iconst (v := 0) hx hb dX11_stock_13 (by decide) ?_
    refine lv_istore_n (lv' := [(3, .int 0), (2, .int 0), (0, .ref (g 0)), (1, .int v0)]) hx hb dX11_stock_14 rfl hl (by decide) rfl (fun ls hl => ?_)
    have lp_15 : ∀ (n i : Nat), (v0.toInt.toNat + 1) + 1 ≤ i + n → i ≤ (v0.toInt.toNat + 1) → ∀ ls : Array Slot, lv_has ls 4 [(3, .int (nI i)), (2, .int 0), (0, .ref (g 0)), (1, .int v0)] → W p l e (RM 3 0 0) s m ([.ref (g 0), .int v0]).toArray below meth c s.heap [] 0 0 (MQ below (vp_Si (fun r => r = (if 0 ≤ v0.toInt ∧ v0.toInt ≤ 399 then (0 : Int32) else -1000000))) ([.ref (g 0), .int v0]).toArray s 0 0 (fun _ => False)) (F0 m 15 ls []) := by
      intro n
      induction n with
      | zero => intro i h1 h2; exact absurd h1 (by omega)
      | succ n ih =>
        intro i hn1 hi ls hl
        have ti : (nI i).toInt = (i : Int) := nI_toInt (by omega)
        refine lv_iload_n hx hb dX11_stock_15 rfl (lv_at hl 0 rfl) ?_
        refine lv_iload_n hx hb dX11_stock_16 rfl (lv_at hl 3 rfl) ?_
        refine lv_icmp_gt (tgt := 40) hx hb dX11_stock_17 (by decide) (fun c_3 => ?_) (fun c_3 => ?_)
        ·
          have tc_3 : (v0.toInt : Int) < (nI i).toInt := Int32.lt_iff_toInt_lt.mp c_3
          refine lv_iload_n hx hb dX11_stock_40 rfl (lv_at hl 1 rfl) ?_
          exact W.iret (v := 0) hx hb hr (fun t ht hW => ⟨0, rfl, (if_pos (by omega)).symm, ht⟩) (fun _ h => absurd h List.not_mem_nil) dX11_stock_41
        ·
          have tc_3 : ((nI i).toInt : Int) ≤ v0.toInt := Int32.le_iff_toInt_le.mp (Int32.not_lt.mp c_3)
          refine lv_iload_n hx hb dX11_stock_20 rfl (lv_at hl 1 rfl) ?_
          refine lv_aload_n hx hb dX11_stock_21 rfl (lv_at hl 2 rfl) ?_
          refine gf_RX11_47 S hK hP 0 rfl (v := .ref (g 8)) rfl dX11_stock_22 ?_
          refine gf_RX11_520 S hK hP 1 rfl (v := .ref (g 29)) rfl dX11_stock_25 ?_
          refine lv_iload_n hx hb dX11_stock_28 rfl (lv_at hl 0 rfl) ?_
          refine vp_callSi (runS_r (As := [.ref (g 29), .int (nI i)]) (rest := [.int 0]) S (q_at0 l D cI cB cZ (g 29) 400 (nI i) (by omega)) kS_RX11_192 hK hP [2] rfl ⟨Nat.le_of_ble_eq_true rfl, Nat.le_of_ble_eq_true rfl⟩ ⟨Nat.le_of_ble_eq_true rfl, Nat.le_of_ble_eq_true rfl⟩ rfl hl.1 rfl (Nat.le_of_ble_eq_true rfl) dX11_stock_29) (fun r_4 h_5 => ?_)
          subst h_5
          refine lv_iadd hx hb dX11_stock_32 ?_
          refine lv_topi (fun y_6 ey_6 => ?_)
          obtain rfl : y_6 = 0 := ey_6.trans (by decide)
          refine lv_istore_n (lv' := [(2, .int 0), (3, .int (nI i)), (0, .ref (g 0)), (1, .int v0)]) hx hb dX11_stock_33 rfl hl (by decide) rfl (fun ls hl => ?_)
          refine lv_iinc (v := (nI (i + 1))) (lv' := [(3, .int (nI (i + 1))), (2, .int 0), (0, .ref (g 0)), (1, .int v0)]) hx hb dX11_stock_34 hl (k := 1) rfl (nI_1 _) (by decide) rfl (fun ls hl => ?_)
          refine lv_goto (tgt := 15) hx hb dX11_stock_37 (by decide) ?_
          exact ih (i + 1) (by omega) (by omega) ls (lv_sub hl [0, 1, 2, 3] rfl)
    exact lp_15 ((v0.toInt.toNat + 1) + 1) 0 (by omega) (by omega) ls (lv_sub hl [0, 1, 2, 3] rfl)
  ·
    have h_2 : ¬ (0 ≤ v0.toInt ∧ v0.toInt ≤ 399) := h_2
    refine lv_if_ne (tgt := 11) hx hb dX11_stock_4 (by decide) (fun h => absurd h (by decide)) (fun _ => ?_)
    refine lv_ldcw (v := (-1000000)) hx hb hown (S.2.2.2.2 _ (wT_tab 1144 rfl rfl)) dX11_stock_7 ?_
    exact W.iret (v := (-1000000)) hx hb hr (fun t ht hW => ⟨(-1000000), rfl, (if_neg (by omega)).symm, ht⟩) (fun _ h => absurd h List.not_mem_nil) dX11_stock_10
set_option maxRecDepth 100000 in
set_option maxHeartbeats 4000000 in
theorem q_X_below (l : Launch) (D : va_G) (cI cB cZ : ClassId) (g : Nat → Nat) (v0 : Int32) : Met l yX11_below (CWS yX11_below cX11_below 4 (some .int)) (RM 3 0 0) (PBr [.ref (g 0), .int v0] D cI cB cZ [((g 0), .inr (12, oX g)), ((g 8), .inr (8, oT g)), ((g 29), .inl (cI, 400, .inl (fun _ => 0)))]) (vp_Si (fun r => r = (if -10000 ≤ v0.toInt ∧ v0.toInt ≤ 10000 then ((if 0 < v0.toInt then (0 : Int32) else -2) : Int32) else -1))) 0 0 (fun _ => False) := by
  refine Met.ofW (cc := cX11_below) (maxL := 4) (ret := (some .int)) (by decide) rfl ?_
  intro p e s m args below meth c s₁ B hml hv
  obtain ⟨rfl, hP, hK⟩ := hv
  have hx := B.exec
  have hb := B.bytes
  have hr := B.returns
  have hts := atoms_spec (ws := (CWS yX11_below cX11_below 4 (some .int))) B.pre
  have hown : s.vm.findClass RX11 = some m.cls := findClass_of_methodNamed B.named
  have hlocks := B.notSynchronized
  have S : SF p m c cX11_below 4 s ([.ref (g 0), .int v0]).toArray RX11 := ⟨hx, hb, hml, hown, fun w h => hts w (List.mem_cons_of_mem _ h)⟩
  have hP : va_P D vwCl [((g 0), .inr (12, oX g)), ((g 8), .inr (8, oT g)), ((g 29), .inl (cI, 400, .inl (fun _ => 0)))] s.heap := hP
  have hl := lv_entry ([.ref (g 0), .int v0]) (n := 4) (Nat.le_of_ble_eq_true rfl)
  rw [lg_entry_eq]
  generalize (lg_sl ([.ref (g 0), .int v0]) ++ List.replicate (4 - (lg_sl ([.ref (g 0), .int v0])).length) Slot.unset).toArray = ls at hl ⊢
  have hl : lv_has ls 4 [(0, .ref (g 0)), (1, .int v0)] := hl
  refine lv_iload_n hx hb dX11_below_0 rfl (lv_at hl 1 rfl) ?_
  refine lv_sipush (v := (-10000)) hx hb dX11_below_1 (by decide) ?_
  refine lv_sipush (v := 10000) hx hb dX11_below_4 (by decide) ?_
  refine vp_callSi (runS_r (As := [.int v0, .int (-10000), .int 10000]) (rest := []) S (q_within l D cI cB cZ v0 (-10000) 10000) kS_RX11_80 hK hP [] rfl ⟨Nat.le_of_ble_eq_true rfl, Nat.le_of_ble_eq_true rfl⟩ ⟨Nat.le_of_ble_eq_true rfl, Nat.le_of_ble_eq_true rfl⟩ rfl hl.1 rfl (Nat.le_of_ble_eq_true rfl) dX11_below_7) (fun r_1 h_2 => ?_)
  rcases h_2 with ⟨rfl, h_2⟩ | ⟨rfl, h_2⟩
  ·
    have h_2 : (-10000) ≤ v0.toInt ∧ v0.toInt ≤ 10000 := h_2
    refine lv_if_ne (tgt := 15) hx hb dX11_below_10 (by decide) (fun _ => ?_) (fun h => absurd h (by decide))
    refine lv_iconst (v := 0) hx hb dX11_below_15 (by decide) ?_
    refine lv_istore_n (lv' := [(2, .int 0), (0, .ref (g 0)), (1, .int v0)]) hx hb dX11_below_16 rfl hl (by decide) rfl (fun ls hl => ?_)
    refine lv_iconst (v := 0) hx hb dX11_below_17 (by decide) ?_
    refine lv_istore_n (lv' := [(3, .int 0), (2, .int 0), (0, .ref (g 0)), (1, .int v0)]) hx hb dX11_below_18 rfl hl (by decide) rfl (fun ls hl => ?_)
    refine lv_iload_n hx hb dX11_below_19 rfl (lv_at hl 0 rfl) ?_
    refine lv_aload_n hx hb dX11_below_20 rfl (lv_at hl 2 rfl) ?_
    refine gf_RX11_103 S hK hP 0 rfl (v := .int 0) rfl dX11_below_21 ?_
    refine lv_icmp_gt (tgt := 54) hx hb dX11_below_24 (by decide) (fun h => absurd h (by decide)) (fun _ => ?_)
    refine lv_iload_n hx hb dX11_below_27 rfl (lv_at hl 1 rfl) ?_
    refine lv_aload_n hx hb dX11_below_28 rfl (lv_at hl 2 rfl) ?_
    refine gf_RX11_47 S hK hP 0 rfl (v := .ref (g 8)) rfl dX11_below_29 ?_
    refine gf_RX11_520 S hK hP 1 rfl (v := .ref (g 29)) rfl dX11_below_32 ?_
    refine lv_iload_n hx hb dX11_below_35 rfl (lv_at hl 0 rfl) ?_
    refine vp_callSi (runS_r (As := [.ref (g 29), .int 0]) (rest := [.int 0]) S (q_at0 l D cI cB cZ (g 29) 400 0 (by omega)) kS_RX11_192 hK hP [2] rfl ⟨Nat.le_of_ble_eq_true rfl, Nat.le_of_ble_eq_true rfl⟩ ⟨Nat.le_of_ble_eq_true rfl, Nat.le_of_ble_eq_true rfl⟩ rfl hl.1 rfl (Nat.le_of_ble_eq_true rfl) dX11_below_36) (fun r_3 h_4 => ?_)
    subst h_4
    refine lv_iadd hx hb dX11_below_39 ?_
    refine lv_topi (fun y_5 ey_5 => ?_)
    obtain rfl : y_5 = 0 := ey_5.trans (by decide)
    refine lv_istore_n (lv' := [(2, .int 0), (3, .int 0), (0, .ref (g 0)), (1, .int v0)]) hx hb dX11_below_40 rfl hl (by decide) rfl (fun ls hl => ?_)
    refine lv_iload_n hx hb dX11_below_41 rfl (lv_at hl 0 rfl) ?_
    refine lv_iload_n hx hb dX11_below_42 rfl (lv_at hl 3 rfl) ?_
    refine lv_icmp_ge (tgt := 48) hx hb dX11_below_43 (by decide) (fun c_6 => ?_) (fun c_6 => ?_)
    ·
      have tc_6 : (v0.toInt : Int) ≤ 0 := Int32.le_iff_toInt_le.mp c_6
      refine lv_iinc (v := 1) (lv' := [(3, .int 1), (2, .int 0), (0, .ref (g 0)), (1, .int v0)]) hx hb dX11_below_48 hl (k := 1) rfl (by decide) (by decide) rfl (fun ls hl => ?_)
      refine lv_goto (tgt := 19) hx hb dX11_below_51 (by decide) ?_
      refine lv_iload_n hx hb dX11_below_19 rfl (lv_at hl 0 rfl) ?_
      refine lv_aload_n hx hb dX11_below_20 rfl (lv_at hl 2 rfl) ?_
      refine gf_RX11_103 S hK hP 0 rfl (v := .int 0) rfl dX11_below_21 ?_
      refine lv_icmp_gt (tgt := 54) hx hb dX11_below_24 (by decide) (fun _ => ?_) (fun h => absurd h (by decide))
      refine lv_bipush (v := (-2)) hx hb dX11_below_54 (by decide) ?_
      exact W.iret (v := (-2)) hx hb hr (fun t ht hW => ⟨(-2), rfl, (by show ((-2) : Int32) = (if -10000 ≤ v0.toInt ∧ v0.toInt ≤ 10000 then ((if 0 < v0.toInt then (0 : Int32) else -2) : Int32) else -1); split <;> (try split) <;> first | rfl | (exfalso; omega)), ht⟩) (fun _ h => absurd h List.not_mem_nil) dX11_below_56
    ·
      have tc_6 : (0 : Int) < v0.toInt := Int32.lt_iff_toInt_lt.mp (Int32.not_le.mp c_6)
      refine lv_iload_n hx hb dX11_below_46 rfl (lv_at hl 1 rfl) ?_
      exact W.iret (v := 0) hx hb hr (fun t ht hW => ⟨0, rfl, (by show (0 : Int32) = (if -10000 ≤ v0.toInt ∧ v0.toInt ≤ 10000 then ((if 0 < v0.toInt then (0 : Int32) else -2) : Int32) else -1); split <;> (try split) <;> first | rfl | (exfalso; omega)), ht⟩) (fun _ h => absurd h List.not_mem_nil) dX11_below_47
  ·
    have h_2 : ¬ ((-10000) ≤ v0.toInt ∧ v0.toInt ≤ 10000) := h_2
    refine lv_if_ne (tgt := 15) hx hb dX11_below_10 (by decide) (fun h => absurd h (by decide)) (fun _ => ?_)
    refine lv_iconst (v := (-1)) hx hb dX11_below_13 (by decide) ?_
    exact W.iret (v := (-1)) hx hb hr (fun t ht hW => ⟨(-1), rfl, (by show ((-1) : Int32) = (if -10000 ≤ v0.toInt ∧ v0.toInt ≤ 10000 then ((if 0 < v0.toInt then (0 : Int32) else -2) : Int32) else -1); split <;> (try split) <;> first | rfl | (exfalso; omega)), ht⟩) (fun _ h => absurd h List.not_mem_nil) dX11_below_14
set_option maxRecDepth 100000 in
set_option maxHeartbeats 4000000 in
theorem q_X_check (l : Launch) (D : va_G) (cI cB cZ : ClassId) (g : Nat → Nat) (v0 v1 : Int32) : Met l yX11_check (CWS yX11_check cX11_check 4 (some .int)) (RM 3 0 0) (PBr [.ref (g 0), .int v0, .int v1] D cI cB cZ [((g 0), .inr (12, oX g)), ((g 10), .inr (0, [.int 0, .ref (g 50), .int 0])), ((g 5), .inr (9, [.ref (g 40), .int 0]))]) (vp_Si (fun r => r = -2)) 0 0 (fun _ => False) := by
  refine Met.ofW (cc := cX11_check) (maxL := 4) (ret := (some .int)) (by decide) rfl ?_
  intro p e s m args below meth c s₁ B hml hv
  obtain ⟨rfl, hP, hK⟩ := hv
  have hx := B.exec
  have hb := B.bytes
  have hr := B.returns
  have hts := atoms_spec (ws := (CWS yX11_check cX11_check 4 (some .int))) B.pre
  have hown : s.vm.findClass RX11 = some m.cls := findClass_of_methodNamed B.named
  have hlocks := B.notSynchronized
  have S : SF p m c cX11_check 4 s ([.ref (g 0), .int v0, .int v1]).toArray RX11 := ⟨hx, hb, hml, hown, fun w h => hts w (List.mem_cons_of_mem _ h)⟩
  have hP : va_P D vwCl [((g 0), .inr (12, oX g)), ((g 10), .inr (0, [.int 0, .ref (g 50), .int 0])), ((g 5), .inr (9, [.ref (g 40), .int 0]))] s.heap := hP
  have hl := lv_entry ([.ref (g 0), .int v0, .int v1]) (n := 4) (Nat.le_of_ble_eq_true rfl)
  rw [lg_entry_eq]
  generalize (lg_sl ([.ref (g 0), .int v0, .int v1]) ++ List.replicate (4 - (lg_sl ([.ref (g 0), .int v0, .int v1])).length) Slot.unset).toArray = ls at hl ⊢
  have hl : lv_has ls 4 [(0, .ref (g 0)), (1, .int v0), (2, .int v1)] := hl
  refine lv_aload_n hx hb dX11_check_0 rfl (lv_at hl 0 rfl) ?_
  refine lv_iload_n hx hb dX11_check_1 rfl (lv_at hl 1 rfl) ?_
  refine va_csq (runV_r (As := [.int v0]) (rest := []) S (q_kitchenAt l D cI cB cZ g v0) kV_RX11_114 hK hP [0, 1] rfl 0 rfl rfl rfl ⟨Nat.le_of_ble_eq_true rfl, Nat.le_of_ble_eq_true rfl⟩ ⟨Nat.le_of_ble_eq_true rfl, Nat.le_of_ble_eq_true rfl⟩ rfl hl.1 rfl (Nat.le_of_ble_eq_true rfl) dX11_check_2) (fun r_1 h_2 => ?_)
  subst h_2
  refine lv_ifnullN (tgt := 26) hx hb dX11_check_5 (by decide) ?_
  refine lv_bipush (v := (-2)) hx hb dX11_check_26 (by decide) ?_
  exact W.iret (v := (-2)) hx hb hr (fun t ht hW => ⟨(-2), rfl, rfl, ht⟩) (fun _ h => absurd h List.not_mem_nil) dX11_check_28
set_option maxRecDepth 100000 in
set_option maxHeartbeats 4000000 in
theorem q_countOfAll (l : Launch) (D : va_G) (cI cB cZ : ClassId) (g : Nat → Nat) (v0 : Int32) (h0 : 0 ≤ v0.toInt) (h1 : v0.toInt ≤ 9) : Met l yX11_countOfAll (CWS yX11_countOfAll cX11_countOfAll 2 (some .int)) (RM 1 0 0) (PBr [.ref (g 0), .int v0] D cI cB cZ [((g 0), .inr (12, oX g)), ((g 10), .inr (0, [.int 0, .ref (g 50), .int 0])), ((g 11), .inr (0, [.int 0, .ref (g 50), .int 0])), ((g 12), .inr (0, [.int 0, .ref (g 50), .int 0])), ((g 13), .inr (0, [.int 0, .ref (g 50), .int 0])), ((g 14), .inr (0, [.int 0, .ref (g 50), .int 0])), ((g 5), .inr (9, [.ref (g 40), .int 0])), ((g 4), .inr (10, [.ref (g 60), .ref (g 61), .ref (g 62), .ref (g 63), .ref (g 64), .int 0, .int 0, .int 0, .int 0]))]) (vp_Si (fun r => r = 0)) 0 0 (fun _ => False) := by
  refine Met.ofW (cc := cX11_countOfAll) (maxL := 2) (ret := (some .int)) (by decide) rfl ?_
  intro p e s m args below meth c s₁ B hml hv
  obtain ⟨rfl, hP, hK⟩ := hv
  have hx := B.exec
  have hb := B.bytes
  have hr := B.returns
  have hts := atoms_spec (ws := (CWS yX11_countOfAll cX11_countOfAll 2 (some .int))) B.pre
  have hown : s.vm.findClass RX11 = some m.cls := findClass_of_methodNamed B.named
  have hlocks := B.notSynchronized
  have S : SF p m c cX11_countOfAll 2 s ([.ref (g 0), .int v0]).toArray RX11 := ⟨hx, hb, hml, hown, fun w h => hts w (List.mem_cons_of_mem _ h)⟩
  have hP : va_P D vwCl [((g 0), .inr (12, oX g)), ((g 10), .inr (0, [.int 0, .ref (g 50), .int 0])), ((g 11), .inr (0, [.int 0, .ref (g 50), .int 0])), ((g 12), .inr (0, [.int 0, .ref (g 50), .int 0])), ((g 13), .inr (0, [.int 0, .ref (g 50), .int 0])), ((g 14), .inr (0, [.int 0, .ref (g 50), .int 0])), ((g 5), .inr (9, [.ref (g 40), .int 0])), ((g 4), .inr (10, [.ref (g 60), .ref (g 61), .ref (g 62), .ref (g 63), .ref (g 64), .int 0, .int 0, .int 0, .int 0]))] s.heap := hP
  have hl := lv_entry ([.ref (g 0), .int v0]) (n := 2) (Nat.le_of_ble_eq_true rfl)
  rw [lg_entry_eq]
  generalize (lg_sl ([.ref (g 0), .int v0]) ++ List.replicate (2 - (lg_sl ([.ref (g 0), .int v0])).length) Slot.unset).toArray = ls at hl ⊢
  have hl : lv_has ls 2 [(0, .ref (g 0)), (1, .int v0)] := hl
  refine lv_iload_n hx hb dX11_countOfAll_0 rfl (lv_at hl 1 rfl) ?_
  rcases (by omega : v0.toInt < 0 ∨ 8 < v0.toInt ∨ v0.toInt = 0 ∨ v0.toInt = 1 ∨ v0.toInt = 2 ∨ v0.toInt = 3 ∨ v0.toInt = 4 ∨ v0.toInt = 5 ∨ v0.toInt = 6 ∨ v0.toInt = 7 ∨ v0.toInt = 8) with c_1 | c_1 | c_1 | c_1 | c_1 | c_1 | c_1 | c_1 | c_1 | c_1 | c_1
  ·
    exfalso; omega
  ·
    refine lv_tableOut (tgt := 118) hx hb dX11_countOfAll_1 (Or.inr c_1) (by decide) ?_
    refine lv_aload_n hx hb dX11_countOfAll_118 rfl (lv_at hl 0 rfl) ?_
    refine gf_RX11_502 S hK hP 0 rfl (v := .int 0) rfl dX11_countOfAll_119 ?_
    exact W.iret (v := 0) hx hb hr (fun t ht hW => ⟨0, rfl, rfl, ht⟩) (fun _ h => absurd h List.not_mem_nil) dX11_countOfAll_122
  ·
    refine lv_tableIn (tgt := 52) (off := 51) hx hb dX11_countOfAll_1 (by omega) (by omega) (by rw [c_1]; rfl) (by decide) ?_
    refine lv_aload_n hx hb dX11_countOfAll_52 rfl (lv_at hl 0 rfl) ?_
    refine gf_RX11_103 S hK hP 0 rfl (v := .int 0) rfl dX11_countOfAll_53 ?_
    exact W.iret (v := 0) hx hb hr (fun t ht hW => ⟨0, rfl, rfl, ht⟩) (fun _ h => absurd h List.not_mem_nil) dX11_countOfAll_56
  ·
    refine lv_tableIn (tgt := 57) (off := 56) hx hb dX11_countOfAll_1 (by omega) (by omega) (by rw [c_1]; rfl) (by decide) ?_
    refine lv_aload_n hx hb dX11_countOfAll_57 rfl (lv_at hl 0 rfl) ?_
    refine gf_RX11_61 S hK hP 0 rfl (v := .ref (g 10)) rfl dX11_countOfAll_58 ?_
    refine vp_callSi (runV_r (As := []) (rest := []) S (q_size l D cI cB cZ (g 10) (g 50) 0 0) kV_RX11_84 hK hP [1] rfl 1 rfl rfl rfl ⟨Nat.le_of_ble_eq_true rfl, Nat.le_of_ble_eq_true rfl⟩ ⟨Nat.le_of_ble_eq_true rfl, Nat.le_of_ble_eq_true rfl⟩ rfl hl.1 rfl (Nat.le_of_ble_eq_true rfl) dX11_countOfAll_61) (fun r_2 h_3 => ?_)
    subst h_3
    exact W.iret (v := 0) hx hb hr (fun t ht hW => ⟨0, rfl, rfl, ht⟩) (fun _ h => absurd h List.not_mem_nil) dX11_countOfAll_64
  ·
    refine lv_tableIn (tgt := 65) (off := 64) hx hb dX11_countOfAll_1 (by omega) (by omega) (by rw [c_1]; rfl) (by decide) ?_
    refine lv_aload_n hx hb dX11_countOfAll_65 rfl (lv_at hl 0 rfl) ?_
    refine gf_RX11_65 S hK hP 0 rfl (v := .ref (g 11)) rfl dX11_countOfAll_66 ?_
    refine vp_callSi (runV_r (As := []) (rest := []) S (q_size l D cI cB cZ (g 11) (g 50) 0 0) kV_RX11_84 hK hP [2] rfl 2 rfl rfl rfl ⟨Nat.le_of_ble_eq_true rfl, Nat.le_of_ble_eq_true rfl⟩ ⟨Nat.le_of_ble_eq_true rfl, Nat.le_of_ble_eq_true rfl⟩ rfl hl.1 rfl (Nat.le_of_ble_eq_true rfl) dX11_countOfAll_69) (fun r_4 h_5 => ?_)
    subst h_5
    exact W.iret (v := 0) hx hb hr (fun t ht hW => ⟨0, rfl, rfl, ht⟩) (fun _ h => absurd h List.not_mem_nil) dX11_countOfAll_72
  ·
    refine lv_tableIn (tgt := 73) (off := 72) hx hb dX11_countOfAll_1 (by omega) (by omega) (by rw [c_1]; rfl) (by decide) ?_
    refine lv_aload_n hx hb dX11_countOfAll_73 rfl (lv_at hl 0 rfl) ?_
    refine gf_RX11_21 S hK hP 0 rfl (v := .ref (g 5)) rfl dX11_countOfAll_74 ?_
    refine vp_callSi (runV_r (As := []) (rest := []) S (q_tapeLen l D cI cB cZ (g 5) (g 40) 0) kV_RX11_152 hK hP [6] rfl 6 rfl rfl rfl ⟨Nat.le_of_ble_eq_true rfl, Nat.le_of_ble_eq_true rfl⟩ ⟨Nat.le_of_ble_eq_true rfl, Nat.le_of_ble_eq_true rfl⟩ rfl hl.1 rfl (Nat.le_of_ble_eq_true rfl) dX11_countOfAll_77) (fun r_6 h_7 => ?_)
    subst h_7
    exact W.iret (v := 0) hx hb hr (fun t ht hW => ⟨0, rfl, rfl, ht⟩) (fun _ h => absurd h List.not_mem_nil) dX11_countOfAll_80
  ·
    refine lv_tableIn (tgt := 81) (off := 80) hx hb dX11_countOfAll_1 (by omega) (by omega) (by rw [c_1]; rfl) (by decide) ?_
    refine lv_aload_n hx hb dX11_countOfAll_81 rfl (lv_at hl 0 rfl) ?_
    refine gf_RX11_12 S hK hP 0 rfl (v := .ref (g 4)) rfl dX11_countOfAll_82 ?_
    refine gf_RX11_171 S hK hP 7 rfl (v := .int 0) rfl dX11_countOfAll_85 ?_
    exact W.iret (v := 0) hx hb hr (fun t ht hW => ⟨0, rfl, rfl, ht⟩) (fun _ h => absurd h List.not_mem_nil) dX11_countOfAll_88
  ·
    refine lv_tableIn (tgt := 89) (off := 88) hx hb dX11_countOfAll_1 (by omega) (by omega) (by rw [c_1]; rfl) (by decide) ?_
    refine lv_aload_n hx hb dX11_countOfAll_89 rfl (lv_at hl 0 rfl) ?_
    refine gf_RX11_68 S hK hP 0 rfl (v := .ref (g 12)) rfl dX11_countOfAll_90 ?_
    refine vp_callSi (runV_r (As := []) (rest := []) S (q_size l D cI cB cZ (g 12) (g 50) 0 0) kV_RX11_84 hK hP [3] rfl 3 rfl rfl rfl ⟨Nat.le_of_ble_eq_true rfl, Nat.le_of_ble_eq_true rfl⟩ ⟨Nat.le_of_ble_eq_true rfl, Nat.le_of_ble_eq_true rfl⟩ rfl hl.1 rfl (Nat.le_of_ble_eq_true rfl) dX11_countOfAll_93) (fun r_8 h_9 => ?_)
    subst h_9
    exact W.iret (v := 0) hx hb hr (fun t ht hW => ⟨0, rfl, rfl, ht⟩) (fun _ h => absurd h List.not_mem_nil) dX11_countOfAll_96
  ·
    refine lv_tableIn (tgt := 97) (off := 96) hx hb dX11_countOfAll_1 (by omega) (by omega) (by rw [c_1]; rfl) (by decide) ?_
    refine lv_aload_n hx hb dX11_countOfAll_97 rfl (lv_at hl 0 rfl) ?_
    refine gf_RX11_71 S hK hP 0 rfl (v := .ref (g 13)) rfl dX11_countOfAll_98 ?_
    refine vp_callSi (runV_r (As := []) (rest := []) S (q_size l D cI cB cZ (g 13) (g 50) 0 0) kV_RX11_84 hK hP [4] rfl 4 rfl rfl rfl ⟨Nat.le_of_ble_eq_true rfl, Nat.le_of_ble_eq_true rfl⟩ ⟨Nat.le_of_ble_eq_true rfl, Nat.le_of_ble_eq_true rfl⟩ rfl hl.1 rfl (Nat.le_of_ble_eq_true rfl) dX11_countOfAll_101) (fun r_10 h_11 => ?_)
    subst h_11
    exact W.iret (v := 0) hx hb hr (fun t ht hW => ⟨0, rfl, rfl, ht⟩) (fun _ h => absurd h List.not_mem_nil) dX11_countOfAll_104
  ·
    refine lv_tableIn (tgt := 105) (off := 104) hx hb dX11_countOfAll_1 (by omega) (by omega) (by rw [c_1]; rfl) (by decide) ?_
    refine lv_aload_n hx hb dX11_countOfAll_105 rfl (lv_at hl 0 rfl) ?_
    refine gf_RX11_74 S hK hP 0 rfl (v := .ref (g 14)) rfl dX11_countOfAll_106 ?_
    refine vp_callSi (runV_r (As := []) (rest := []) S (q_size l D cI cB cZ (g 14) (g 50) 0 0) kV_RX11_84 hK hP [5] rfl 5 rfl rfl rfl ⟨Nat.le_of_ble_eq_true rfl, Nat.le_of_ble_eq_true rfl⟩ ⟨Nat.le_of_ble_eq_true rfl, Nat.le_of_ble_eq_true rfl⟩ rfl hl.1 rfl (Nat.le_of_ble_eq_true rfl) dX11_countOfAll_109) (fun r_12 h_13 => ?_)
    subst h_13
    exact W.iret (v := 0) hx hb hr (fun t ht hW => ⟨0, rfl, rfl, ht⟩) (fun _ h => absurd h List.not_mem_nil) dX11_countOfAll_112
  ·
    refine lv_tableIn (tgt := 113) (off := 112) hx hb dX11_countOfAll_1 (by omega) (by omega) (by rw [c_1]; rfl) (by decide) ?_
    refine lv_aload_n hx hb dX11_countOfAll_113 rfl (lv_at hl 0 rfl) ?_
    refine gf_RX11_311 S hK hP 0 rfl (v := .int 0) rfl dX11_countOfAll_114 ?_
    exact W.iret (v := 0) hx hb hr (fun t ht hW => ⟨0, rfl, rfl, ht⟩) (fun _ h => absurd h List.not_mem_nil) dX11_countOfAll_117
set_option maxRecDepth 100000 in
set_option maxHeartbeats 4000000 in
theorem q_countOfKitchen (l : Launch) (D : va_G) (cI cB cZ : ClassId) (g : Nat → Nat) (v0 : Int32) : Met l yX11_countOfKitchen (CWS yX11_countOfKitchen cX11_countOfKitchen 3 (some .int)) (RM 0 0 0) (PBr [.ref (g 0), .null, .int v0] D cI cB cZ [((g 0), .inr (12, oX g))]) (vp_Si (fun r => r = -1)) 0 0 (fun _ => False) := by
  refine Met.ofW (cc := cX11_countOfKitchen) (maxL := 3) (ret := (some .int)) (by decide) rfl ?_
  intro p e s m args below meth c s₁ B hml hv
  obtain ⟨rfl, hP, hK⟩ := hv
  have hx := B.exec
  have hb := B.bytes
  have hr := B.returns
  have hts := atoms_spec (ws := (CWS yX11_countOfKitchen cX11_countOfKitchen 3 (some .int))) B.pre
  have hown : s.vm.findClass RX11 = some m.cls := findClass_of_methodNamed B.named
  have hlocks := B.notSynchronized
  have S : SF p m c cX11_countOfKitchen 3 s ([.ref (g 0), .null, .int v0]).toArray RX11 := ⟨hx, hb, hml, hown, fun w h => hts w (List.mem_cons_of_mem _ h)⟩
  have hP : va_P D vwCl [((g 0), .inr (12, oX g))] s.heap := hP
  have hl := lv_entry ([.ref (g 0), .null, .int v0]) (n := 3) (Nat.le_of_ble_eq_true rfl)
  rw [lg_entry_eq]
  generalize (lg_sl ([.ref (g 0), .null, .int v0]) ++ List.replicate (3 - (lg_sl ([.ref (g 0), .null, .int v0])).length) Slot.unset).toArray = ls at hl ⊢
  have hl : lv_has ls 3 [(0, .ref (g 0)), (1, .null), (2, .int v0)] := hl
  refine lv_aload_nN hx hb dX11_countOfKitchen_0 rfl (lv_at hl 1 rfl) ?_
  refine lv_ifnonnullN hx hb dX11_countOfKitchen_1 ?_
  refine lv_iconst (v := (-1)) hx hb dX11_countOfKitchen_4 (by decide) ?_
  exact W.iret (v := (-1)) hx hb hr (fun t ht hW => ⟨(-1), rfl, rfl, ht⟩) (fun _ h => absurd h List.not_mem_nil) dX11_countOfKitchen_5
set_option maxRecDepth 100000 in
set_option maxHeartbeats 4000000 in
theorem q_X_count (l : Launch) (D : va_G) (cI cB cZ : ClassId) (g : Nat → Nat) (v0 : Int32) : Met l yX11_count (CWS yX11_count cX11_count 3 (some .int)) (RM 3 0 0) (PBr [.ref (g 0), .int v0] D cI cB cZ [((g 0), .inr (12, oX g)), ((g 10), .inr (0, [.int 0, .ref (g 50), .int 0])), ((g 11), .inr (0, [.int 0, .ref (g 50), .int 0])), ((g 12), .inr (0, [.int 0, .ref (g 50), .int 0])), ((g 13), .inr (0, [.int 0, .ref (g 50), .int 0])), ((g 14), .inr (0, [.int 0, .ref (g 50), .int 0])), ((g 5), .inr (9, [.ref (g 40), .int 0])), ((g 4), .inr (10, [.ref (g 60), .ref (g 61), .ref (g 62), .ref (g 63), .ref (g 64), .int 0, .int 0, .int 0, .int 0]))]) (vp_Si (fun r => r = (if 0 ≤ v0.toInt ∧ v0.toInt ≤ 9 then (0 : Int32) else -1))) 0 0 (fun _ => False) := by
  refine Met.ofW (cc := cX11_count) (maxL := 3) (ret := (some .int)) (by decide) rfl ?_
  intro p e s m args below meth c s₁ B hml hv
  obtain ⟨rfl, hP, hK⟩ := hv
  have hx := B.exec
  have hb := B.bytes
  have hr := B.returns
  have hts := atoms_spec (ws := (CWS yX11_count cX11_count 3 (some .int))) B.pre
  have hown : s.vm.findClass RX11 = some m.cls := findClass_of_methodNamed B.named
  have hlocks := B.notSynchronized
  have S : SF p m c cX11_count 3 s ([.ref (g 0), .int v0]).toArray RX11 := ⟨hx, hb, hml, hown, fun w h => hts w (List.mem_cons_of_mem _ h)⟩
  have hP : va_P D vwCl [((g 0), .inr (12, oX g)), ((g 10), .inr (0, [.int 0, .ref (g 50), .int 0])), ((g 11), .inr (0, [.int 0, .ref (g 50), .int 0])), ((g 12), .inr (0, [.int 0, .ref (g 50), .int 0])), ((g 13), .inr (0, [.int 0, .ref (g 50), .int 0])), ((g 14), .inr (0, [.int 0, .ref (g 50), .int 0])), ((g 5), .inr (9, [.ref (g 40), .int 0])), ((g 4), .inr (10, [.ref (g 60), .ref (g 61), .ref (g 62), .ref (g 63), .ref (g 64), .int 0, .int 0, .int 0, .int 0]))] s.heap := hP
  have hl := lv_entry ([.ref (g 0), .int v0]) (n := 3) (Nat.le_of_ble_eq_true rfl)
  rw [lg_entry_eq]
  generalize (lg_sl ([.ref (g 0), .int v0]) ++ List.replicate (3 - (lg_sl ([.ref (g 0), .int v0])).length) Slot.unset).toArray = ls at hl ⊢
  have hl : lv_has ls 3 [(0, .ref (g 0)), (1, .int v0)] := hl
  refine lv_iload_n hx hb dX11_count_0 rfl (lv_at hl 1 rfl) ?_
  refine lv_iconst (v := 0) hx hb dX11_count_1 (by decide) ?_
  refine lv_bipush (v := 9) hx hb dX11_count_2 (by decide) ?_
  refine vp_callSi (runS_r (As := [.int v0, .int 0, .int 9]) (rest := []) S (q_within l D cI cB cZ v0 0 9) kS_RX11_80 hK hP [] rfl ⟨Nat.le_of_ble_eq_true rfl, Nat.le_of_ble_eq_true rfl⟩ ⟨Nat.le_of_ble_eq_true rfl, Nat.le_of_ble_eq_true rfl⟩ rfl hl.1 rfl (Nat.le_of_ble_eq_true rfl) dX11_count_4) (fun r_1 h_2 => ?_)
  rcases h_2 with ⟨rfl, h_2⟩ | ⟨rfl, h_2⟩
  ·
    have h_2 : 0 ≤ v0.toInt ∧ v0.toInt ≤ 9 := h_2
    refine lv_if_eq (tgt := 16) hx hb dX11_count_7 (by decide) (fun h => absurd h (by decide)) (fun _ => ?_)
    refine lv_aload_n hx hb dX11_count_10 rfl (lv_at hl 0 rfl) ?_
    refine lv_iload_n hx hb dX11_count_11 rfl (lv_at hl 1 rfl) ?_
    refine vp_callSi (runV_r (As := [.int v0]) (rest := []) S (q_countOfAll l D cI cB cZ g v0 (by omega) (by omega)) kV_RX11_533 hK hP [0, 1, 2, 3, 4, 5, 6, 7] rfl 0 rfl rfl rfl ⟨Nat.le_of_ble_eq_true rfl, Nat.le_of_ble_eq_true rfl⟩ ⟨Nat.le_of_ble_eq_true rfl, Nat.le_of_ble_eq_true rfl⟩ rfl hl.1 rfl (Nat.le_of_ble_eq_true rfl) dX11_count_12) (fun r_3 h_4 => ?_)
    subst h_4
    exact W.iret (v := 0) hx hb hr (fun t ht hW => ⟨0, rfl, (if_pos (by omega)).symm, ht⟩) (fun _ h => absurd h List.not_mem_nil) dX11_count_15
  ·
    have h_2 : ¬ (0 ≤ v0.toInt ∧ v0.toInt ≤ 9) := h_2
    refine lv_if_eq (tgt := 16) hx hb dX11_count_7 (by decide) (fun _ => ?_) (fun h => absurd h (by decide))
    refine lv_iload_n hx hb dX11_count_16 rfl (lv_at hl 1 rfl) ?_
    refine lv_bipush (v := 10) hx hb dX11_count_17 (by decide) ?_
    refine lv_bipush (v := 39) hx hb dX11_count_19 (by decide) ?_
    refine vp_callSi (runS_r (As := [.int v0, .int 10, .int 39]) (rest := []) S (q_within l D cI cB cZ v0 10 39) kS_RX11_80 hK hP [] rfl ⟨Nat.le_of_ble_eq_true rfl, Nat.le_of_ble_eq_true rfl⟩ ⟨Nat.le_of_ble_eq_true rfl, Nat.le_of_ble_eq_true rfl⟩ rfl hl.1 rfl (Nat.le_of_ble_eq_true rfl) dX11_count_21) (fun r_5 h_6 => ?_)
    rcases h_6 with ⟨rfl, h_6⟩ | ⟨rfl, h_6⟩
    ·
      have h_6 : 10 ≤ v0.toInt ∧ v0.toInt ≤ 39 := h_6
      refine lv_if_eq (tgt := 44) hx hb dX11_count_24 (by decide) (fun h => absurd h (by decide)) (fun _ => ?_)
      refine lv_aload_n hx hb dX11_count_27 rfl (lv_at hl 0 rfl) ?_
      refine lv_aload_n hx hb dX11_count_28 rfl (lv_at hl 0 rfl) ?_
      refine lv_iload_n hx hb dX11_count_29 rfl (lv_at hl 1 rfl) ?_
      refine lv_bipush (v := 10) hx hb dX11_count_30 (by decide) ?_
      refine lv_irem hx hb dX11_count_32 (by decide) ?_
      refine va_csq (runV_r (As := [.int (v0 - v0 / 10 * 10)]) (rest := [.ref (g 0)]) S (q_kitchenAt l D cI cB cZ g (v0 - v0 / 10 * 10)) kV_RX11_114 hK hP [0, 1] rfl 0 rfl rfl rfl ⟨Nat.le_of_ble_eq_true rfl, Nat.le_of_ble_eq_true rfl⟩ ⟨Nat.le_of_ble_eq_true rfl, Nat.le_of_ble_eq_true rfl⟩ rfl hl.1 rfl (Nat.le_of_ble_eq_true rfl) dX11_count_33) (fun r_7 h_8 => ?_)
      subst h_8
      refine lv_iload_n hx hb dX11_count_36 rfl (lv_at hl 1 rfl) ?_
      refine lv_bipush (v := 10) hx hb dX11_count_37 (by decide) ?_
      refine lv_idiv hx hb dX11_count_39 (by decide) ?_
      refine vp_callSi (runV_r (As := [.null, .int (v0 / 10)]) (rest := []) S (q_countOfKitchen l D cI cB cZ g (v0 / 10)) kV_RX11_536 hK hP [0] rfl 0 rfl rfl rfl ⟨Nat.le_of_ble_eq_true rfl, Nat.le_of_ble_eq_true rfl⟩ ⟨Nat.le_of_ble_eq_true rfl, Nat.le_of_ble_eq_true rfl⟩ rfl hl.1 rfl (Nat.le_of_ble_eq_true rfl) dX11_count_40) (fun r_9 h_10 => ?_)
      subst h_10
      exact W.iret (v := (-1)) hx hb hr (fun t ht hW => ⟨(-1), rfl, (if_neg (by omega)).symm, ht⟩) (fun _ h => absurd h List.not_mem_nil) dX11_count_43
    ·
      have h_6 : ¬ (10 ≤ v0.toInt ∧ v0.toInt ≤ 39) := h_6
      refine lv_if_eq (tgt := 44) hx hb dX11_count_24 (by decide) (fun _ => ?_) (fun h => absurd h (by decide))
      refine lv_iload_n hx hb dX11_count_44 rfl (lv_at hl 1 rfl) ?_
      refine lv_bipush (v := 40) hx hb dX11_count_45 (by decide) ?_
      refine lv_bipush (v := 49) hx hb dX11_count_47 (by decide) ?_
      refine vp_callSi (runS_r (As := [.int v0, .int 40, .int 49]) (rest := []) S (q_within l D cI cB cZ v0 40 49) kS_RX11_80 hK hP [] rfl ⟨Nat.le_of_ble_eq_true rfl, Nat.le_of_ble_eq_true rfl⟩ ⟨Nat.le_of_ble_eq_true rfl, Nat.le_of_ble_eq_true rfl⟩ rfl hl.1 rfl (Nat.le_of_ble_eq_true rfl) dX11_count_49) (fun r_11 h_12 => ?_)
      rcases h_12 with ⟨rfl, h_12⟩ | ⟨rfl, h_12⟩
      ·
        have h_12 : 40 ≤ v0.toInt ∧ v0.toInt ≤ 49 := h_12
        refine lv_if_eq (tgt := 77) hx hb dX11_count_52 (by decide) (fun h => absurd h (by decide)) (fun _ => ?_)
        refine lv_aload_n hx hb dX11_count_55 rfl (lv_at hl 0 rfl) ?_
        refine lv_iload_n hx hb dX11_count_56 rfl (lv_at hl 1 rfl) ?_
        refine lv_bipush (v := 40) hx hb dX11_count_57 (by decide) ?_
        refine lv_isub hx hb dX11_count_59 ?_
        refine va_csq (runV_r (As := [.int (v0 - 40)]) (rest := []) S (q_batchAt l D cI cB cZ g (v0 - 40)) kV_RX11_382 hK hP [0, 3] rfl 0 rfl rfl rfl ⟨Nat.le_of_ble_eq_true rfl, Nat.le_of_ble_eq_true rfl⟩ ⟨Nat.le_of_ble_eq_true rfl, Nat.le_of_ble_eq_true rfl⟩ rfl hl.1 rfl (Nat.le_of_ble_eq_true rfl) dX11_count_60) (fun r_13 h_14 => ?_)
        subst h_14
        refine lv_astore_nN (lv' := [(2, .null), (0, .ref (g 0)), (1, .int v0)]) hx hb dX11_count_63 rfl hl (by decide) rfl (fun ls hl => ?_)
        refine lv_aload_nN hx hb dX11_count_64 rfl (lv_at hl 0 rfl) ?_
        refine lv_ifnonnullN hx hb dX11_count_65 ?_
        refine lv_iconst (v := (-1)) hx hb dX11_count_68 (by decide) ?_
        refine lv_goto (tgt := 76) hx hb dX11_count_69 (by decide) ?_
        exact W.iret (v := (-1)) hx hb hr (fun t ht hW => ⟨(-1), rfl, (if_neg (by omega)).symm, ht⟩) (fun _ h => absurd h List.not_mem_nil) dX11_count_76
      ·
        have h_12 : ¬ (40 ≤ v0.toInt ∧ v0.toInt ≤ 49) := h_12
        refine lv_if_eq (tgt := 77) hx hb dX11_count_52 (by decide) (fun _ => ?_) (fun h => absurd h (by decide))
        refine lv_iload_n hx hb dX11_count_77 rfl (lv_at hl 1 rfl) ?_
        refine lv_bipush (v := 50) hx hb dX11_count_78 (by decide) ?_
        refine lv_icmp_ge (tgt := 87) hx hb dX11_count_80 (by decide) (fun c_15 => ?_) (fun c_15 => ?_)
        ·
          have tc_15 : (50 : Int) ≤ v0.toInt := Int32.le_iff_toInt_le.mp c_15
          refine lv_aload_n hx hb dX11_count_87 rfl (lv_at hl 0 rfl) ?_
          refine lv_iload_n hx hb dX11_count_88 rfl (lv_at hl 1 rfl) ?_
          refine lv_bipush (v := 50) hx hb dX11_count_89 (by decide) ?_
          refine lv_isub hx hb dX11_count_91 ?_
          refine va_csq (runV_r (As := [.int (v0 - 50)]) (rest := []) S (q_proofAt l D cI cB cZ g (v0 - 50)) kV_RX11_422 hK hP [0, 4] rfl 0 rfl rfl rfl ⟨Nat.le_of_ble_eq_true rfl, Nat.le_of_ble_eq_true rfl⟩ ⟨Nat.le_of_ble_eq_true rfl, Nat.le_of_ble_eq_true rfl⟩ rfl hl.1 rfl (Nat.le_of_ble_eq_true rfl) dX11_count_92) (fun r_16 h_17 => ?_)
          subst h_17
          refine lv_astore_nN (lv' := [(2, .null), (0, .ref (g 0)), (1, .int v0)]) hx hb dX11_count_95 rfl hl (by decide) rfl (fun ls hl => ?_)
          refine lv_aload_nN hx hb dX11_count_96 rfl (lv_at hl 0 rfl) ?_
          refine lv_ifnonnullN hx hb dX11_count_97 ?_
          refine lv_iconst (v := (-1)) hx hb dX11_count_100 (by decide) ?_
          refine lv_goto (tgt := 108) hx hb dX11_count_101 (by decide) ?_
          exact W.iret (v := (-1)) hx hb hr (fun t ht hW => ⟨(-1), rfl, (if_neg (by omega)).symm, ht⟩) (fun _ h => absurd h List.not_mem_nil) dX11_count_108
        ·
          have tc_15 : (v0.toInt : Int) < 50 := Int32.lt_iff_toInt_lt.mp (Int32.not_le.mp c_15)
          refine lv_null hx hb dX11_count_83 ?_
          refine lv_goto (tgt := 95) hx hb dX11_count_84 (by decide) ?_
          refine lv_astore_nN (lv' := [(2, .null), (0, .ref (g 0)), (1, .int v0)]) hx hb dX11_count_95 rfl hl (by decide) rfl (fun ls hl => ?_)
          refine lv_aload_nN hx hb dX11_count_96 rfl (lv_at hl 0 rfl) ?_
          refine lv_ifnonnullN hx hb dX11_count_97 ?_
          refine lv_iconst (v := (-1)) hx hb dX11_count_100 (by decide) ?_
          refine lv_goto (tgt := 108) hx hb dX11_count_101 (by decide) ?_
          exact W.iret (v := (-1)) hx hb hr (fun t ht hW => ⟨(-1), rfl, (if_neg (by omega)).symm, ht⟩) (fun _ h => absurd h List.not_mem_nil) dX11_count_108
