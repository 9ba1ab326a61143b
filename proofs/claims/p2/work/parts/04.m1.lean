set_option maxRecDepth 100000 in
theorem hin_RX12 : ∀ w ∈ u_ws RX12 TX12 91, w ∈ wT := by decide +kernel
set_option maxRecDepth 100000 in
theorem gf_RX12_204 {p : Program} {l : Launch} {e : Env} {R : Room} {s : State} {m : MethodId} {args : Array Value} {below : List Frame} {meth : Method} {c : Code} {H : Heap} {locs : List Loc} {cells slots : Nat} {Q : State → Prop} {cc : ByteArray} {nL pc : Nat} {D : va_G} {cI cB cZ : ClassId} {ws : va_W} {rest : List Value} {ls : Array Slot} {a : Nat} {fs : List Value} {v : Value} (S : SF p m c cc nL s args RX12) (hK : KK D cI cB cZ s) (hP : va_P D vwCl ws H) (q0 : Nat) (he : ws[q0]? = some (a, .inr (13, fs))) (hv : fs[1]? = some v) (hdg : decode cc pc = .ok (.getfield 204, 3)) (kk : W p l e R s m args below meth c H locs cells slots Q (F0 m (pc + 3) ls (v :: rest))) : W p l e R s m args below meth c H locs cells slots Q (F0 m pc ls (.ref a :: rest)) :=
  va_get (C := RX12) (T := TX12) (N := 91) S.1 S.2.1 S.2.2.2.2 hin_RX12 S.2.2.2.1 hK.1 hP q0 he rfl 1 (by decide) (S.2.2.2.2 _ (wT_tab 1314 rfl rfl)) (fun _ h9 => h9) hv hdg kk
set_option maxRecDepth 100000 in
theorem gf_RX12_208 {p : Program} {l : Launch} {e : Env} {R : Room} {s : State} {m : MethodId} {args : Array Value} {below : List Frame} {meth : Method} {c : Code} {H : Heap} {locs : List Loc} {cells slots : Nat} {Q : State → Prop} {cc : ByteArray} {nL pc : Nat} {D : va_G} {cI cB cZ : ClassId} {ws : va_W} {rest : List Value} {ls : Array Slot} {a : Nat} {fs : List Value} {v : Value} (S : SF p m c cc nL s args RX12) (hK : KK D cI cB cZ s) (hP : va_P D vwCl ws H) (q0 : Nat) (he : ws[q0]? = some (a, .inr (13, fs))) (hv : fs[2]? = some v) (hdg : decode cc pc = .ok (.getfield 208, 3)) (kk : W p l e R s m args below meth c H locs cells slots Q (F0 m (pc + 3) ls (v :: rest))) : W p l e R s m args below meth c H locs cells slots Q (F0 m pc ls (.ref a :: rest)) :=
  va_get (C := RX12) (T := TX12) (N := 91) S.1 S.2.1 S.2.2.2.2 hin_RX12 S.2.2.2.1 hK.1 hP q0 he rfl 2 (by decide) (S.2.2.2.2 _ (wT_tab 1315 rfl rfl)) (fun _ h9 => h9) hv hdg kk
set_option maxRecDepth 100000 in
theorem gf_RX12_435 {p : Program} {l : Launch} {e : Env} {R : Room} {s : State} {m : MethodId} {args : Array Value} {below : List Frame} {meth : Method} {c : Code} {H : Heap} {locs : List Loc} {cells slots : Nat} {Q : State → Prop} {cc : ByteArray} {nL pc : Nat} {D : va_G} {cI cB cZ : ClassId} {ws : va_W} {rest : List Value} {ls : Array Slot} {a : Nat} {fs : List Value} {v : Value} (S : SF p m c cc nL s args RX12) (hK : KK D cI cB cZ s) (hP : va_P D vwCl ws H) (q0 : Nat) (he : ws[q0]? = some (a, .inr (13, fs))) (hv : fs[62]? = some v) (hdg : decode cc pc = .ok (.getfield 435, 3)) (kk : W p l e R s m args below meth c H locs cells slots Q (F0 m (pc + 3) ls (v :: rest))) : W p l e R s m args below meth c H locs cells slots Q (F0 m pc ls (.ref a :: rest)) :=
  va_get (C := RX12) (T := TX12) (N := 91) S.1 S.2.1 S.2.2.2.2 hin_RX12 S.2.2.2.1 hK.1 hP q0 he rfl 62 (by decide) (S.2.2.2.2 _ (wT_tab 1375 rfl rfl)) (fun _ h9 => h9) hv hdg kk
set_option maxRecDepth 100000 in
theorem gf_RX12_447 {p : Program} {l : Launch} {e : Env} {R : Room} {s : State} {m : MethodId} {args : Array Value} {below : List Frame} {meth : Method} {c : Code} {H : Heap} {locs : List Loc} {cells slots : Nat} {Q : State → Prop} {cc : ByteArray} {nL pc : Nat} {D : va_G} {cI cB cZ : ClassId} {ws : va_W} {rest : List Value} {ls : Array Slot} {a : Nat} {fs : List Value} {v : Value} (S : SF p m c cc nL s args RX12) (hK : KK D cI cB cZ s) (hP : va_P D vwCl ws H) (q0 : Nat) (he : ws[q0]? = some (a, .inr (13, fs))) (hv : fs[63]? = some v) (hdg : decode cc pc = .ok (.getfield 447, 3)) (kk : W p l e R s m args below meth c H locs cells slots Q (F0 m (pc + 3) ls (v :: rest))) : W p l e R s m args below meth c H locs cells slots Q (F0 m pc ls (.ref a :: rest)) :=
  va_get (C := RX12) (T := TX12) (N := 91) S.1 S.2.1 S.2.2.2.2 hin_RX12 S.2.2.2.1 hK.1 hP q0 he rfl 63 (by decide) (S.2.2.2.2 _ (wT_tab 1376 rfl rfl)) (fun _ h9 => h9) hv hdg kk
set_option maxRecDepth 100000 in
theorem gf_RX12_407 {p : Program} {l : Launch} {e : Env} {R : Room} {s : State} {m : MethodId} {args : Array Value} {below : List Frame} {meth : Method} {c : Code} {H : Heap} {locs : List Loc} {cells slots : Nat} {Q : State → Prop} {cc : ByteArray} {nL pc : Nat} {D : va_G} {cI cB cZ : ClassId} {ws : va_W} {rest : List Value} {ls : Array Slot} {a : Nat} {fs : List Value} {v : Value} (S : SF p m c cc nL s args RX12) (hK : KK D cI cB cZ s) (hP : va_P D vwCl ws H) (q0 : Nat) (he : ws[q0]? = some (a, .inr (13, fs))) (hv : fs[57]? = some v) (hdg : decode cc pc = .ok (.getfield 407, 3)) (kk : W p l e R s m args below meth c H locs cells slots Q (F0 m (pc + 3) ls (v :: rest))) : W p l e R s m args below meth c H locs cells slots Q (F0 m pc ls (.ref a :: rest)) :=
  va_get (C := RX12) (T := TX12) (N := 91) S.1 S.2.1 S.2.2.2.2 hin_RX12 S.2.2.2.1 hK.1 hP q0 he rfl 57 (by decide) (S.2.2.2.2 _ (wT_tab 1370 rfl rfl)) (fun _ h9 => h9) hv hdg kk
set_option maxRecDepth 100000 in
theorem gf_RX12_211 {p : Program} {l : Launch} {e : Env} {R : Room} {s : State} {m : MethodId} {args : Array Value} {below : List Frame} {meth : Method} {c : Code} {H : Heap} {locs : List Loc} {cells slots : Nat} {Q : State → Prop} {cc : ByteArray} {nL pc : Nat} {D : va_G} {cI cB cZ : ClassId} {ws : va_W} {rest : List Value} {ls : Array Slot} {a : Nat} {fs : List Value} {v : Value} (S : SF p m c cc nL s args RX12) (hK : KK D cI cB cZ s) (hP : va_P D vwCl ws H) (q0 : Nat) (he : ws[q0]? = some (a, .inr (13, fs))) (hv : fs[0]? = some v) (hdg : decode cc pc = .ok (.getfield 211, 3)) (kk : W p l e R s m args below meth c H locs cells slots Q (F0 m (pc + 3) ls (v :: rest))) : W p l e R s m args below meth c H locs cells slots Q (F0 m pc ls (.ref a :: rest)) :=
  va_get (C := RX12) (T := TX12) (N := 91) S.1 S.2.1 S.2.2.2.2 hin_RX12 S.2.2.2.1 hK.1 hP q0 he rfl 0 (by decide) (S.2.2.2.2 _ (wT_tab 1313 rfl rfl)) (fun _ h9 => h9) hv hdg kk
set_option maxRecDepth 100000 in
theorem kS_RX12_214 : CalS RX12 214 yX12_in cX12_in 3 (some .boolean) 3 := ⟨⟨wT_tab 1592 rfl rfl, wT_tab 1593 rfl rfl, wT_tab 13 rfl rfl, wT_tab 1594 rfl rfl⟩, ⟨by decide, by decide, by decide +kernel⟩⟩
set_option maxRecDepth 100000 in
theorem pf_RX12_211 {p : Program} {l : Launch} {e : Env} {R : Room} {s : State} {m : MethodId} {args : Array Value} {below : List Frame} {meth : Method} {c : Code} {H : Heap} {locs : List Loc} {cells slots : Nat} {Q : State → Prop} {cc : ByteArray} {nL pc : Nat} {D : va_G} {cI cB cZ : ClassId} {ws : va_W} {rest : List Value} {ls : Array Slot} {a : Nat} {fs : List Value} {v : Value} {A : Nat → Prop} {H0 : Heap} (S : SF p m c cc nL s args RX12) (hK : KK D cI cB cZ s) (hP : va_P D vwCl ws H) (hD : va_D A ws) (hS : va_S A H0 H locs) (q0 : Nat) (he : ws[q0]? = some (a, .inr (13, fs))) (hl : 0 < fs.length) (hn : narrow (tyX12 0) v = v) (hfit : fits (tyX12 0) v = true) (hdg : decode cc pc = .ok (.putfield 211, 3)) (kk : ∀ (H1 : Heap) (locs1 : List Loc), va_P D vwCl (ws.set q0 (a, .inr (13, fs.set 0 v))) H1 → va_D A (ws.set q0 (a, .inr (13, fs.set 0 v))) → va_S A H0 H1 locs1 → W p l e R s m args below meth c H1 locs1 cells slots Q (F0 m (pc + 3) ls rest)) : W p l e R s m args below meth c H locs cells slots Q (F0 m pc ls (v :: .ref a :: rest)) :=
  va_put (C := RX12) (T := TX12) (N := 91) S.1 S.2.1 S.2.2.2.2 hin_RX12 tyX12 tyX12_ok nmX12 S.2.2.2.1 hK.1 hP hD hS q0 he rfl 0 (by decide) (S.2.2.2.2 _ (wT_tab 1313 rfl rfl)) (fun _ h9 => h9) rfl (tyX12_ok 0 (by decide)) hn hfit hl hdg kk
set_option maxRecDepth 100000 in
theorem gf_RX12_7 {p : Program} {l : Launch} {e : Env} {R : Room} {s : State} {m : MethodId} {args : Array Value} {below : List Frame} {meth : Method} {c : Code} {H : Heap} {locs : List Loc} {cells slots : Nat} {Q : State → Prop} {cc : ByteArray} {nL pc : Nat} {D : va_G} {cI cB cZ : ClassId} {ws : va_W} {rest : List Value} {ls : Array Slot} {a : Nat} {fs : List Value} {v : Value} (S : SF p m c cc nL s args RX12) (hK : KK D cI cB cZ s) (hP : va_P D vwCl ws H) (q0 : Nat) (he : ws[q0]? = some (a, .inr (13, fs))) (hv : fs[3]? = some v) (hdg : decode cc pc = .ok (.getfield 7, 3)) (kk : W p l e R s m args below meth c H locs cells slots Q (F0 m (pc + 3) ls (v :: rest))) : W p l e R s m args below meth c H locs cells slots Q (F0 m pc ls (.ref a :: rest)) :=
  va_get (C := RX12) (T := TX12) (N := 91) S.1 S.2.1 S.2.2.2.2 hin_RX12 S.2.2.2.1 hK.1 hP q0 he rfl 3 (by decide) (S.2.2.2.2 _ (wT_tab 1316 rfl rfl)) (fun _ h9 => h9) hv hdg kk
set_option maxRecDepth 100000 in
theorem gf_RX12_13 {p : Program} {l : Launch} {e : Env} {R : Room} {s : State} {m : MethodId} {args : Array Value} {below : List Frame} {meth : Method} {c : Code} {H : Heap} {locs : List Loc} {cells slots : Nat} {Q : State → Prop} {cc : ByteArray} {nL pc : Nat} {D : va_G} {cI cB cZ : ClassId} {ws : va_W} {rest : List Value} {ls : Array Slot} {a : Nat} {fs : List Value} {v : Value} (S : SF p m c cc nL s args RX12) (hK : KK D cI cB cZ s) (hP : va_P D vwCl ws H) (q0 : Nat) (he : ws[q0]? = some (a, .inr (13, fs))) (hv : fs[4]? = some v) (hdg : decode cc pc = .ok (.getfield 13, 3)) (kk : W p l e R s m args below meth c H locs cells slots Q (F0 m (pc + 3) ls (v :: rest))) : W p l e R s m args below meth c H locs cells slots Q (F0 m pc ls (.ref a :: rest)) :=
  va_get (C := RX12) (T := TX12) (N := 91) S.1 S.2.1 S.2.2.2.2 hin_RX12 S.2.2.2.1 hK.1 hP q0 he rfl 4 (by decide) (S.2.2.2.2 _ (wT_tab 1317 rfl rfl)) (fun _ h9 => h9) hv hdg kk
set_option maxRecDepth 100000 in
theorem gf_RX12_16 {p : Program} {l : Launch} {e : Env} {R : Room} {s : State} {m : MethodId} {args : Array Value} {below : List Frame} {meth : Method} {c : Code} {H : Heap} {locs : List Loc} {cells slots : Nat} {Q : State → Prop} {cc : ByteArray} {nL pc : Nat} {D : va_G} {cI cB cZ : ClassId} {ws : va_W} {rest : List Value} {ls : Array Slot} {a : Nat} {fs : List Value} {v : Value} (S : SF p m c cc nL s args RX12) (hK : KK D cI cB cZ s) (hP : va_P D vwCl ws H) (q0 : Nat) (he : ws[q0]? = some (a, .inr (13, fs))) (hv : fs[5]? = some v) (hdg : decode cc pc = .ok (.getfield 16, 3)) (kk : W p l e R s m args below meth c H locs cells slots Q (F0 m (pc + 3) ls (v :: rest))) : W p l e R s m args below meth c H locs cells slots Q (F0 m pc ls (.ref a :: rest)) :=
  va_get (C := RX12) (T := TX12) (N := 91) S.1 S.2.1 S.2.2.2.2 hin_RX12 S.2.2.2.1 hK.1 hP q0 he rfl 5 (by decide) (S.2.2.2.2 _ (wT_tab 1318 rfl rfl)) (fun _ h9 => h9) hv hdg kk
set_option maxRecDepth 100000 in
theorem gf_RX12_19 {p : Program} {l : Launch} {e : Env} {R : Room} {s : State} {m : MethodId} {args : Array Value} {below : List Frame} {meth : Method} {c : Code} {H : Heap} {locs : List Loc} {cells slots : Nat} {Q : State → Prop} {cc : ByteArray} {nL pc : Nat} {D : va_G} {cI cB cZ : ClassId} {ws : va_W} {rest : List Value} {ls : Array Slot} {a : Nat} {fs : List Value} {v : Value} (S : SF p m c cc nL s args RX12) (hK : KK D cI cB cZ s) (hP : va_P D vwCl ws H) (q0 : Nat) (he : ws[q0]? = some (a, .inr (13, fs))) (hv : fs[6]? = some v) (hdg : decode cc pc = .ok (.getfield 19, 3)) (kk : W p l e R s m args below meth c H locs cells slots Q (F0 m (pc + 3) ls (v :: rest))) : W p l e R s m args below meth c H locs cells slots Q (F0 m pc ls (.ref a :: rest)) :=
  va_get (C := RX12) (T := TX12) (N := 91) S.1 S.2.1 S.2.2.2.2 hin_RX12 S.2.2.2.1 hK.1 hP q0 he rfl 6 (by decide) (S.2.2.2.2 _ (wT_tab 1319 rfl rfl)) (fun _ h9 => h9) hv hdg kk
set_option maxRecDepth 100000 in
theorem pf_RX12_204 {p : Program} {l : Launch} {e : Env} {R : Room} {s : State} {m : MethodId} {args : Array Value} {below : List Frame} {meth : Method} {c : Code} {H : Heap} {locs : List Loc} {cells slots : Nat} {Q : State → Prop} {cc : ByteArray} {nL pc : Nat} {D : va_G} {cI cB cZ : ClassId} {ws : va_W} {rest : List Value} {ls : Array Slot} {a : Nat} {fs : List Value} {v : Value} {A : Nat → Prop} {H0 : Heap} (S : SF p m c cc nL s args RX12) (hK : KK D cI cB cZ s) (hP : va_P D vwCl ws H) (hD : va_D A ws) (hS : va_S A H0 H locs) (q0 : Nat) (he : ws[q0]? = some (a, .inr (13, fs))) (hl : 1 < fs.length) (hn : narrow (tyX12 1) v = v) (hfit : fits (tyX12 1) v = true) (hdg : decode cc pc = .ok (.putfield 204, 3)) (kk : ∀ (H1 : Heap) (locs1 : List Loc), va_P D vwCl (ws.set q0 (a, .inr (13, fs.set 1 v))) H1 → va_D A (ws.set q0 (a, .inr (13, fs.set 1 v))) → va_S A H0 H1 locs1 → W p l e R s m args below meth c H1 locs1 cells slots Q (F0 m (pc + 3) ls rest)) : W p l e R s m args below meth c H locs cells slots Q (F0 m pc ls (v :: .ref a :: rest)) :=
  va_put (C := RX12) (T := TX12) (N := 91) S.1 S.2.1 S.2.2.2.2 hin_RX12 tyX12 tyX12_ok nmX12 S.2.2.2.1 hK.1 hP hD hS q0 he rfl 1 (by decide) (S.2.2.2.2 _ (wT_tab 1314 rfl rfl)) (fun _ h9 => h9) rfl (tyX12_ok 1 (by decide)) hn hfit hl hdg kk
theorem dX12_in_0 : decode cX12_in 0 = .ok (.iload_n 0, 1) := by decide +kernel
theorem dX12_in_1 : decode cX12_in 1 = .ok (.iload_n 1, 1) := by decide +kernel
theorem dX12_in_2 : decode cX12_in 2 = .ok (.if_icmp .lt 12, 3) := by decide +kernel
theorem dX12_in_14 : decode cX12_in 14 = .ok (.iconst 0, 1) := by decide +kernel
theorem dX12_in_15 : decode cX12_in 15 = .ok (.ireturn, 1) := by decide +kernel
theorem dX12_in_5 : decode cX12_in 5 = .ok (.iload_n 0, 1) := by decide +kernel
theorem dX12_in_6 : decode cX12_in 6 = .ok (.iload_n 2, 1) := by decide +kernel
theorem dX12_in_7 : decode cX12_in 7 = .ok (.if_icmp .gt 7, 3) := by decide +kernel
theorem dX12_in_10 : decode cX12_in 10 = .ok (.iconst 1, 1) := by decide +kernel
theorem dX12_in_11 : decode cX12_in 11 = .ok (.goto 4, 3) := by decide +kernel
theorem dX12_isDay_0 : decode cX12_isDay 0 = .ok (.iload_n 0, 1) := by decide +kernel
theorem dX12_isDay_1 : decode cX12_isDay 1 = .ok (.ifCond .lt 14, 3) := by decide +kernel
theorem dX12_isDay_15 : decode cX12_isDay 15 = .ok (.iconst 0, 1) := by decide +kernel
theorem dX12_isDay_16 : decode cX12_isDay 16 = .ok (.ireturn, 1) := by decide +kernel
theorem dX12_isDay_4 : decode cX12_isDay 4 = .ok (.iload_n 0, 1) := by decide +kernel
theorem dX12_isDay_5 : decode cX12_isDay 5 = .ok (.sipush 399, 3) := by decide +kernel
theorem dX12_isDay_8 : decode cX12_isDay 8 = .ok (.if_icmp .gt 7, 3) := by decide +kernel
theorem dX12_isDay_11 : decode cX12_isDay 11 = .ok (.iconst 1, 1) := by decide +kernel
theorem dX12_isDay_12 : decode cX12_isDay 12 = .ok (.goto 4, 3) := by decide +kernel
theorem dX12_isKitchen_0 : decode cX12_isKitchen 0 = .ok (.iload_n 1, 1) := by decide +kernel
theorem dX12_isKitchen_1 : decode cX12_isKitchen 1 = .ok (.ifCond .lt 15, 3) := by decide +kernel
theorem dX12_isKitchen_16 : decode cX12_isKitchen 16 = .ok (.iconst 0, 1) := by decide +kernel
theorem dX12_isKitchen_17 : decode cX12_isKitchen 17 = .ok (.ireturn, 1) := by decide +kernel
theorem dX12_isKitchen_4 : decode cX12_isKitchen 4 = .ok (.iload_n 1, 1) := by decide +kernel
theorem dX12_isKitchen_5 : decode cX12_isKitchen 5 = .ok (.aload_n 0, 1) := by decide +kernel
theorem dX12_isKitchen_6 : decode cX12_isKitchen 6 = .ok (.getfield 204, 3) := by decide +kernel
theorem dX12_isKitchen_9 : decode cX12_isKitchen 9 = .ok (.if_icmp .ge 7, 3) := by decide +kernel
theorem dX12_isKitchen_12 : decode cX12_isKitchen 12 = .ok (.iconst 1, 1) := by decide +kernel
theorem dX12_isKitchen_13 : decode cX12_isKitchen 13 = .ok (.goto 4, 3) := by decide +kernel
theorem dX12_isLoad_0 : decode cX12_isLoad 0 = .ok (.iload_n 1, 1) := by decide +kernel
theorem dX12_isLoad_1 : decode cX12_isLoad 1 = .ok (.ifCond .lt 15, 3) := by decide +kernel
theorem dX12_isLoad_16 : decode cX12_isLoad 16 = .ok (.iconst 0, 1) := by decide +kernel
theorem dX12_isLoad_17 : decode cX12_isLoad 17 = .ok (.ireturn, 1) := by decide +kernel
theorem dX12_isLoad_4 : decode cX12_isLoad 4 = .ok (.iload_n 1, 1) := by decide +kernel
theorem dX12_isLoad_5 : decode cX12_isLoad 5 = .ok (.aload_n 0, 1) := by decide +kernel
theorem dX12_isLoad_6 : decode cX12_isLoad 6 = .ok (.getfield 208, 3) := by decide +kernel
theorem dX12_isLoad_9 : decode cX12_isLoad 9 = .ok (.if_icmp .ge 7, 3) := by decide +kernel
theorem dX12_isLoad_12 : decode cX12_isLoad 12 = .ok (.iconst 1, 1) := by decide +kernel
theorem dX12_isLoad_13 : decode cX12_isLoad 13 = .ok (.goto 4, 3) := by decide +kernel
theorem dX12_isBatch_0 : decode cX12_isBatch 0 = .ok (.iload_n 1, 1) := by decide +kernel
theorem dX12_isBatch_1 : decode cX12_isBatch 1 = .ok (.ifCond .lt 15, 3) := by decide +kernel
theorem dX12_isBatch_16 : decode cX12_isBatch 16 = .ok (.iconst 0, 1) := by decide +kernel
theorem dX12_isBatch_17 : decode cX12_isBatch 17 = .ok (.ireturn, 1) := by decide +kernel
theorem dX12_isBatch_4 : decode cX12_isBatch 4 = .ok (.iload_n 1, 1) := by decide +kernel
theorem dX12_isBatch_5 : decode cX12_isBatch 5 = .ok (.aload_n 0, 1) := by decide +kernel
theorem dX12_isBatch_6 : decode cX12_isBatch 6 = .ok (.getfield 435, 3) := by decide +kernel
theorem dX12_isBatch_9 : decode cX12_isBatch 9 = .ok (.if_icmp .ge 7, 3) := by decide +kernel
theorem dX12_isBatch_12 : decode cX12_isBatch 12 = .ok (.iconst 1, 1) := by decide +kernel
theorem dX12_isBatch_13 : decode cX12_isBatch 13 = .ok (.goto 4, 3) := by decide +kernel
theorem dX12_isProof_0 : decode cX12_isProof 0 = .ok (.iload_n 1, 1) := by decide +kernel
theorem dX12_isProof_1 : decode cX12_isProof 1 = .ok (.ifCond .lt 15, 3) := by decide +kernel
theorem dX12_isProof_16 : decode cX12_isProof 16 = .ok (.iconst 0, 1) := by decide +kernel
theorem dX12_isProof_17 : decode cX12_isProof 17 = .ok (.ireturn, 1) := by decide +kernel
theorem dX12_isProof_4 : decode cX12_isProof 4 = .ok (.iload_n 1, 1) := by decide +kernel
theorem dX12_isProof_5 : decode cX12_isProof 5 = .ok (.aload_n 0, 1) := by decide +kernel
theorem dX12_isProof_6 : decode cX12_isProof 6 = .ok (.getfield 447, 3) := by decide +kernel
theorem dX12_isProof_9 : decode cX12_isProof 9 = .ok (.if_icmp .ge 7, 3) := by decide +kernel
theorem dX12_isProof_12 : decode cX12_isProof 12 = .ok (.iconst 1, 1) := by decide +kernel
theorem dX12_isProof_13 : decode cX12_isProof 13 = .ok (.goto 4, 3) := by decide +kernel
theorem dX12_isDrum_0 : decode cX12_isDrum 0 = .ok (.iload_n 1, 1) := by decide +kernel
theorem dX12_isDrum_1 : decode cX12_isDrum 1 = .ok (.ifCond .lt 15, 3) := by decide +kernel
theorem dX12_isDrum_16 : decode cX12_isDrum 16 = .ok (.iconst 0, 1) := by decide +kernel
theorem dX12_isDrum_17 : decode cX12_isDrum 17 = .ok (.ireturn, 1) := by decide +kernel
theorem dX12_isDrum_4 : decode cX12_isDrum 4 = .ok (.iload_n 1, 1) := by decide +kernel
theorem dX12_isDrum_5 : decode cX12_isDrum 5 = .ok (.aload_n 0, 1) := by decide +kernel
theorem dX12_isDrum_6 : decode cX12_isDrum 6 = .ok (.getfield 407, 3) := by decide +kernel
theorem dX12_isDrum_9 : decode cX12_isDrum 9 = .ok (.if_icmp .ge 7, 3) := by decide +kernel
theorem dX12_isDrum_12 : decode cX12_isDrum 12 = .ok (.iconst 1, 1) := by decide +kernel
theorem dX12_isDrum_13 : decode cX12_isDrum 13 = .ok (.goto 4, 3) := by decide +kernel
theorem dX12_now_0 : decode cX12_now 0 = .ok (.iload_n 1, 1) := by decide +kernel
theorem dX12_now_1 : decode cX12_now 1 = .ok (.aload_n 0, 1) := by decide +kernel
theorem dX12_now_2 : decode cX12_now 2 = .ok (.getfield 211, 3) := by decide +kernel
theorem dX12_now_5 : decode cX12_now 5 = .ok (.sipush 399, 3) := by decide +kernel
theorem dX12_now_8 : decode cX12_now 8 = .ok (.invokestatic 214, 3) := by decide +kernel
theorem dX12_now_11 : decode cX12_now 11 = .ok (.ifCond .ne 5, 3) := by decide +kernel
theorem dX12_now_16 : decode cX12_now 16 = .ok (.aload_n 0, 1) := by decide +kernel
theorem dX12_now_17 : decode cX12_now 17 = .ok (.iload_n 1, 1) := by decide +kernel
theorem dX12_now_18 : decode cX12_now 18 = .ok (.putfield 211, 3) := by decide +kernel
theorem dX12_now_21 : decode cX12_now 21 = .ok (.iconst 1, 1) := by decide +kernel
theorem dX12_now_22 : decode cX12_now 22 = .ok (.ireturn, 1) := by decide +kernel
theorem dX12_now_14 : decode cX12_now 14 = .ok (.iconst 0, 1) := by decide +kernel
theorem dX12_now_15 : decode cX12_now 15 = .ok (.ireturn, 1) := by decide +kernel
theorem dX12_kitchen_0 : decode cX12_kitchen 0 = .ok (.iload_n 1, 1) := by decide +kernel
theorem dX12_kitchen_1 : decode cX12_kitchen 1 = .ok (.iconst 0, 1) := by decide +kernel
theorem dX12_kitchen_2 : decode cX12_kitchen 2 = .ok (.bipush 99, 2) := by decide +kernel
theorem dX12_kitchen_4 : decode cX12_kitchen 4 = .ok (.invokestatic 214, 3) := by decide +kernel
theorem dX12_kitchen_7 : decode cX12_kitchen 7 = .ok (.ifCond .eq 45, 3) := by decide +kernel
theorem dX12_kitchen_10 : decode cX12_kitchen 10 = .ok (.iload_n 2, 1) := by decide +kernel
theorem dX12_kitchen_11 : decode cX12_kitchen 11 = .ok (.iconst 0, 1) := by decide +kernel
theorem dX12_kitchen_12 : decode cX12_kitchen 12 = .ok (.bipush 99, 2) := by decide +kernel
theorem dX12_kitchen_14 : decode cX12_kitchen 14 = .ok (.invokestatic 214, 3) := by decide +kernel
theorem dX12_kitchen_17 : decode cX12_kitchen 17 = .ok (.ifCond .eq 35, 3) := by decide +kernel
theorem dX12_kitchen_20 : decode cX12_kitchen 20 = .ok (.iload_n 3, 1) := by decide +kernel
theorem dX12_kitchen_21 : decode cX12_kitchen 21 = .ok (.iconst 0, 1) := by decide +kernel
theorem dX12_kitchen_22 : decode cX12_kitchen 22 = .ok (.bipush 50, 2) := by decide +kernel
theorem dX12_kitchen_24 : decode cX12_kitchen 24 = .ok (.invokestatic 214, 3) := by decide +kernel
theorem dX12_kitchen_27 : decode cX12_kitchen 27 = .ok (.ifCond .eq 25, 3) := by decide +kernel
theorem dX12_kitchen_30 : decode cX12_kitchen 30 = .ok (.iload 4, 2) := by decide +kernel
theorem dX12_kitchen_32 : decode cX12_kitchen 32 = .ok (.bipush 20, 2) := by decide +kernel
theorem dX12_kitchen_34 : decode cX12_kitchen 34 = .ok (.sipush 400, 3) := by decide +kernel
theorem dX12_kitchen_37 : decode cX12_kitchen 37 = .ok (.invokestatic 214, 3) := by decide +kernel
theorem dX12_kitchen_40 : decode cX12_kitchen 40 = .ok (.ifCond .eq 12, 3) := by decide +kernel
theorem dX12_kitchen_43 : decode cX12_kitchen 43 = .ok (.aload_n 0, 1) := by decide +kernel
theorem dX12_kitchen_44 : decode cX12_kitchen 44 = .ok (.getfield 204, 3) := by decide +kernel
theorem dX12_kitchen_47 : decode cX12_kitchen 47 = .ok (.bipush 10, 2) := by decide +kernel
theorem dX12_kitchen_49 : decode cX12_kitchen 49 = .ok (.if_icmp .ne 5, 3) := by decide +kernel
theorem dX12_kitchen_54 : decode cX12_kitchen 54 = .ok (.aload_n 0, 1) := by decide +kernel
theorem dX12_kitchen_55 : decode cX12_kitchen 55 = .ok (.getfield 7, 3) := by decide +kernel
theorem dX12_kitchen_58 : decode cX12_kitchen 58 = .ok (.aload_n 0, 1) := by decide +kernel
theorem dX12_kitchen_59 : decode cX12_kitchen 59 = .ok (.getfield 204, 3) := by decide +kernel
theorem dX12_kitchen_62 : decode cX12_kitchen 62 = .ok (.iload_n 1, 1) := by decide +kernel
theorem dX12_kitchen_63 : decode cX12_kitchen 63 = .ok (.iastore, 1) := by decide +kernel
theorem dX12_kitchen_64 : decode cX12_kitchen 64 = .ok (.aload_n 0, 1) := by decide +kernel
theorem dX12_kitchen_65 : decode cX12_kitchen 65 = .ok (.getfield 13, 3) := by decide +kernel
theorem dX12_kitchen_68 : decode cX12_kitchen 68 = .ok (.aload_n 0, 1) := by decide +kernel
theorem dX12_kitchen_69 : decode cX12_kitchen 69 = .ok (.getfield 204, 3) := by decide +kernel
theorem dX12_kitchen_72 : decode cX12_kitchen 72 = .ok (.iload_n 2, 1) := by decide +kernel
theorem dX12_kitchen_73 : decode cX12_kitchen 73 = .ok (.iastore, 1) := by decide +kernel
theorem dX12_kitchen_74 : decode cX12_kitchen 74 = .ok (.aload_n 0, 1) := by decide +kernel
theorem dX12_kitchen_75 : decode cX12_kitchen 75 = .ok (.getfield 16, 3) := by decide +kernel
theorem dX12_kitchen_78 : decode cX12_kitchen 78 = .ok (.aload_n 0, 1) := by decide +kernel
theorem dX12_kitchen_79 : decode cX12_kitchen 79 = .ok (.getfield 204, 3) := by decide +kernel
theorem dX12_kitchen_82 : decode cX12_kitchen 82 = .ok (.iload_n 3, 1) := by decide +kernel
theorem dX12_kitchen_83 : decode cX12_kitchen 83 = .ok (.iastore, 1) := by decide +kernel
theorem dX12_kitchen_84 : decode cX12_kitchen 84 = .ok (.aload_n 0, 1) := by decide +kernel
theorem dX12_kitchen_85 : decode cX12_kitchen 85 = .ok (.getfield 19, 3) := by decide +kernel
theorem dX12_kitchen_88 : decode cX12_kitchen 88 = .ok (.aload_n 0, 1) := by decide +kernel
theorem dX12_kitchen_89 : decode cX12_kitchen 89 = .ok (.getfield 204, 3) := by decide +kernel
theorem dX12_kitchen_92 : decode cX12_kitchen 92 = .ok (.iload 4, 2) := by decide +kernel
theorem dX12_kitchen_94 : decode cX12_kitchen 94 = .ok (.iastore, 1) := by decide +kernel
theorem dX12_kitchen_95 : decode cX12_kitchen 95 = .ok (.aload_n 0, 1) := by decide +kernel
theorem dX12_kitchen_96 : decode cX12_kitchen 96 = .ok (.aload_n 0, 1) := by decide +kernel
theorem dX12_kitchen_97 : decode cX12_kitchen 97 = .ok (.getfield 204, 3) := by decide +kernel
theorem dX12_kitchen_100 : decode cX12_kitchen 100 = .ok (.iconst 1, 1) := by decide +kernel
theorem dX12_kitchen_101 : decode cX12_kitchen 101 = .ok (.iadd, 1) := by decide +kernel
theorem dX12_kitchen_102 : decode cX12_kitchen 102 = .ok (.putfield 204, 3) := by decide +kernel
theorem dX12_kitchen_105 : decode cX12_kitchen 105 = .ok (.aload_n 0, 1) := by decide +kernel
theorem dX12_kitchen_106 : decode cX12_kitchen 106 = .ok (.getfield 204, 3) := by decide +kernel
theorem dX12_kitchen_109 : decode cX12_kitchen 109 = .ok (.iconst 1, 1) := by decide +kernel
theorem dX12_kitchen_110 : decode cX12_kitchen 110 = .ok (.isub, 1) := by decide +kernel
theorem dX12_kitchen_111 : decode cX12_kitchen 111 = .ok (.ireturn, 1) := by decide +kernel
theorem dX12_kitchen_52 : decode cX12_kitchen 52 = .ok (.iconst (-1), 1) := by decide +kernel
theorem dX12_kitchen_53 : decode cX12_kitchen 53 = .ok (.ireturn, 1) := by decide +kernel
set_option maxRecDepth 100000 in
set_option maxHeartbeats 4000000 in
theorem q_in (l : Launch) (D : va_G) (cI cB cZ : ClassId) (v0 v1 v2 : Int32)  : Met l yX12_in (CWS yX12_in cX12_in 3 (some .boolean)) (RM 0 0 0) (PBr [.int v0, .int v1, .int v2] D cI cB cZ []) (vp_Si (fun r => (r = 1 ∧ (v1.toInt ≤ v0.toInt ∧ v0.toInt ≤ v2.toInt)) ∨ (r = 0 ∧ ¬ (v1.toInt ≤ v0.toInt ∧ v0.toInt ≤ v2.toInt)))) 0 0 (fun _ => False) := by
  refine Met.ofW (cc := cX12_in) (maxL := 3) (ret := (some .boolean)) (by decide) rfl ?_
  intro p e s m args below meth c s₁ B hml hv
  obtain ⟨rfl, hP, hK⟩ := hv
  have hx := B.exec
  have hb := B.bytes
  have hr := B.returns
  have hts := atoms_spec (ws := (CWS yX12_in cX12_in 3 (some .boolean))) B.pre
  have hown : s.vm.findClass RX12 = some m.cls := findClass_of_methodNamed B.named
  have hlocks := B.notSynchronized
  have S : SF p m c cX12_in 3 s ([.int v0, .int v1, .int v2]).toArray RX12 := ⟨hx, hb, hml, hown, fun w h => hts w (List.mem_cons_of_mem _ h)⟩
  have hl := lv_entry ([.int v0, .int v1, .int v2]) (n := 3) (Nat.le_of_ble_eq_true rfl)
  rw [lg_entry_eq]
  generalize (lg_sl ([.int v0, .int v1, .int v2]) ++ List.replicate (3 - (lg_sl ([.int v0, .int v1, .int v2])).length) Slot.unset).toArray = ls at hl ⊢
  have hl : lv_has ls 3 [(0, .int v0), (1, .int v1), (2, .int v2)] := hl
  refine lv_iload_n hx hb dX12_in_0 rfl (lv_at hl 0 rfl) ?_
  refine lv_iload_n hx hb dX12_in_1 rfl (lv_at hl 1 rfl) ?_
  refine lv_icmp_lt (tgt := 14) hx hb dX12_in_2 (by decide) (fun c_1 => ?_) (fun c_1 => ?_)
  ·
    have tc_1 : (v0.toInt : Int) < v1.toInt := Int32.lt_iff_toInt_lt.mp c_1
    refine lv_iconst (v := 0) hx hb dX12_in_14 (by decide) ?_
    exact W.zret (v := 0) hx hb hr rfl (fun t ht hW => ⟨0, rfl, (Or.inr ⟨rfl, by omega⟩), ht⟩) (fun _ h => absurd h List.not_mem_nil) dX12_in_15
  ·
    have tc_1 : (v1.toInt : Int) ≤ v0.toInt := Int32.le_iff_toInt_le.mp (Int32.not_lt.mp c_1)
    refine lv_iload_n hx hb dX12_in_5 rfl (lv_at hl 0 rfl) ?_
    refine lv_iload_n hx hb dX12_in_6 rfl (lv_at hl 2 rfl) ?_
    refine lv_icmp_gt (tgt := 14) hx hb dX12_in_7 (by decide) (fun c_2 => ?_) (fun c_2 => ?_)
    ·
      have tc_2 : (v2.toInt : Int) < v0.toInt := Int32.lt_iff_toInt_lt.mp c_2
      refine lv_iconst (v := 0) hx hb dX12_in_14 (by decide) ?_
      exact W.zret (v := 0) hx hb hr rfl (fun t ht hW => ⟨0, rfl, (Or.inr ⟨rfl, by omega⟩), ht⟩) (fun _ h => absurd h List.not_mem_nil) dX12_in_15
    ·
      have tc_2 : (v0.toInt : Int) ≤ v2.toInt := Int32.le_iff_toInt_le.mp (Int32.not_lt.mp c_2)
      refine lv_iconst (v := 1) hx hb dX12_in_10 (by decide) ?_
      refine lv_goto (tgt := 15) hx hb dX12_in_11 (by decide) ?_
      exact W.zret (v := 1) hx hb hr rfl (fun t ht hW => ⟨1, rfl, (Or.inl ⟨rfl, by omega⟩), ht⟩) (fun _ h => absurd h List.not_mem_nil) dX12_in_15
set_option maxRecDepth 100000 in
set_option maxHeartbeats 4000000 in
theorem q_isDay (l : Launch) (D : va_G) (cI cB cZ : ClassId) (v0 : Int32)  : Met l yX12_isDay (CWS yX12_isDay cX12_isDay 1 (some .boolean)) (RM 0 0 0) (PBr [.int v0] D cI cB cZ []) (vp_Si (fun r => (r = 1 ∧ (0 ≤ v0.toInt ∧ v0.toInt ≤ 399)) ∨ (r = 0 ∧ ¬ (0 ≤ v0.toInt ∧ v0.toInt ≤ 399)))) 0 0 (fun _ => False) := by
  refine Met.ofW (cc := cX12_isDay) (maxL := 1) (ret := (some .boolean)) (by decide) rfl ?_
  intro p e s m args below meth c s₁ B hml hv
  obtain ⟨rfl, hP, hK⟩ := hv
  have hx := B.exec
  have hb := B.bytes
  have hr := B.returns
  have hts := atoms_spec (ws := (CWS yX12_isDay cX12_isDay 1 (some .boolean))) B.pre
  have hown : s.vm.findClass RX12 = some m.cls := findClass_of_methodNamed B.named
  have hlocks := B.notSynchronized
  have S : SF p m c cX12_isDay 1 s ([.int v0]).toArray RX12 := ⟨hx, hb, hml, hown, fun w h => hts w (List.mem_cons_of_mem _ h)⟩
  have hl := lv_entry ([.int v0]) (n := 1) (Nat.le_of_ble_eq_true rfl)
  rw [lg_entry_eq]
  generalize (lg_sl ([.int v0]) ++ List.replicate (1 - (lg_sl ([.int v0])).length) Slot.unset).toArray = ls at hl ⊢
  have hl : lv_has ls 1 [(0, .int v0)] := hl
  refine lv_iload_n hx hb dX12_isDay_0 rfl (lv_at hl 0 rfl) ?_
  refine lv_if_lt (tgt := 15) hx hb dX12_isDay_1 (by decide) (fun c_1 => ?_) (fun c_1 => ?_)
  ·
    have tc_1 : (v0.toInt : Int) < 0 := Int32.lt_iff_toInt_lt.mp c_1
    refine lv_iconst (v := 0) hx hb dX12_isDay_15 (by decide) ?_
    exact W.zret (v := 0) hx hb hr rfl (fun t ht hW => ⟨0, rfl, (Or.inr ⟨rfl, by omega⟩), ht⟩) (fun _ h => absurd h List.not_mem_nil) dX12_isDay_16
  ·
    have tc_1 : (0 : Int) ≤ v0.toInt := Int32.le_iff_toInt_le.mp (Int32.not_lt.mp c_1)
    refine lv_iload_n hx hb dX12_isDay_4 rfl (lv_at hl 0 rfl) ?_
    refine lv_sipush (v := 399) hx hb dX12_isDay_5 (by decide) ?_
    refine lv_icmp_gt (tgt := 15) hx hb dX12_isDay_8 (by decide) (fun c_2 => ?_) (fun c_2 => ?_)
    ·
      have tc_2 : (399 : Int) < v0.toInt := Int32.lt_iff_toInt_lt.mp c_2
      refine lv_iconst (v := 0) hx hb dX12_isDay_15 (by decide) ?_
      exact W.zret (v := 0) hx hb hr rfl (fun t ht hW => ⟨0, rfl, (Or.inr ⟨rfl, by omega⟩), ht⟩) (fun _ h => absurd h List.not_mem_nil) dX12_isDay_16
    ·
      have tc_2 : (v0.toInt : Int) ≤ 399 := Int32.le_iff_toInt_le.mp (Int32.not_lt.mp c_2)
      refine lv_iconst (v := 1) hx hb dX12_isDay_11 (by decide) ?_
      refine lv_goto (tgt := 16) hx hb dX12_isDay_12 (by decide) ?_
      exact W.zret (v := 1) hx hb hr rfl (fun t ht hW => ⟨1, rfl, (Or.inl ⟨rfl, by omega⟩), ht⟩) (fun _ h => absurd h List.not_mem_nil) dX12_isDay_16
set_option maxRecDepth 100000 in
set_option maxHeartbeats 4000000 in
theorem q_isKitchen (l : Launch) (D : va_G) (cI cB cZ : ClassId) (g : Nat → Nat) (cn : Nat → Nat) (In : Nat → Int32) (Fn : Nat → Nat → Int32) (v0 : Int32) (hi : CB cn) : Met l yX12_isKitchen (CWS yX12_isKitchen cX12_isKitchen 2 (some .boolean)) (RM 0 0 0) (PBr [.ref (g 100), .int v0] D cI cB cZ (wM cI cB cZ g cn In Fn)) (vp_Si (fun r => (r = 1 ∧ (0 ≤ v0.toInt ∧ v0.toInt < (cn 1 : Int))) ∨ (r = 0 ∧ ¬ (0 ≤ v0.toInt ∧ v0.toInt < (cn 1 : Int))))) 0 0 (fun _ => False) := by
  refine Met.ofW (cc := cX12_isKitchen) (maxL := 2) (ret := (some .boolean)) (by decide) rfl ?_
  intro p e s m args below meth c s₁ B hml hv
  obtain ⟨rfl, hP, hK⟩ := hv
  have hx := B.exec
  have hb := B.bytes
  have hr := B.returns
  have hts := atoms_spec (ws := (CWS yX12_isKitchen cX12_isKitchen 2 (some .boolean))) B.pre
  have hown : s.vm.findClass RX12 = some m.cls := findClass_of_methodNamed B.named
  have hlocks := B.notSynchronized
  have S : SF p m c cX12_isKitchen 2 s ([.ref (g 100), .int v0]).toArray RX12 := ⟨hx, hb, hml, hown, fun w h => hts w (List.mem_cons_of_mem _ h)⟩
  have hl := lv_entry ([.ref (g 100), .int v0]) (n := 2) (Nat.le_of_ble_eq_true rfl)
  rw [lg_entry_eq]
  generalize (lg_sl ([.ref (g 100), .int v0]) ++ List.replicate (2 - (lg_sl ([.ref (g 100), .int v0])).length) Slot.unset).toArray = ls at hl ⊢
  have hl : lv_has ls 2 [(0, .ref (g 100)), (1, .int v0)] := hl
  refine lv_iload_n hx hb dX12_isKitchen_0 rfl (lv_at hl 1 rfl) ?_
  refine lv_if_lt (tgt := 16) hx hb dX12_isKitchen_1 (by decide) (fun c_1 => ?_) (fun c_1 => ?_)
  ·
    have tc_1 : (v0.toInt : Int) < 0 := Int32.lt_iff_toInt_lt.mp c_1
    refine lv_iconst (v := 0) hx hb dX12_isKitchen_16 (by decide) ?_
    exact W.zret (v := 0) hx hb hr rfl (fun t ht hW => ⟨0, rfl, (Or.inr ⟨rfl, by omega⟩), ht⟩) (fun _ h => absurd h List.not_mem_nil) dX12_isKitchen_17
  ·
    have tc_1 : (0 : Int) ≤ v0.toInt := Int32.le_iff_toInt_le.mp (Int32.not_lt.mp c_1)
    refine lv_iload_n hx hb dX12_isKitchen_4 rfl (lv_at hl 1 rfl) ?_
    refine lv_aload_n hx hb dX12_isKitchen_5 rfl (lv_at hl 0 rfl) ?_
    refine gf_RX12_204 S hK hP 0 rfl (v := .int (nI (cn 1))) rfl dX12_isKitchen_6 ?_
    have : (nI (cn 1)).toInt = (((cn 1) : Nat) : Int) := nI_toInt (by omega)
    refine lv_icmp_ge (tgt := 16) hx hb dX12_isKitchen_9 (by decide) (fun c_2 => ?_) (fun c_2 => ?_)
    ·
      have tc_2 : ((nI (cn 1)).toInt : Int) ≤ v0.toInt := Int32.le_iff_toInt_le.mp c_2
      refine lv_iconst (v := 0) hx hb dX12_isKitchen_16 (by decide) ?_
      exact W.zret (v := 0) hx hb hr rfl (fun t ht hW => ⟨0, rfl, (Or.inr ⟨rfl, by omega⟩), ht⟩) (fun _ h => absurd h List.not_mem_nil) dX12_isKitchen_17
    ·
      have tc_2 : (v0.toInt : Int) < (nI (cn 1)).toInt := Int32.lt_iff_toInt_lt.mp (Int32.not_le.mp c_2)
      refine lv_iconst (v := 1) hx hb dX12_isKitchen_12 (by decide) ?_
      refine lv_goto (tgt := 17) hx hb dX12_isKitchen_13 (by decide) ?_
      exact W.zret (v := 1) hx hb hr rfl (fun t ht hW => ⟨1, rfl, (Or.inl ⟨rfl, by omega⟩), ht⟩) (fun _ h => absurd h List.not_mem_nil) dX12_isKitchen_17
set_option maxRecDepth 100000 in
set_option maxHeartbeats 4000000 in
theorem q_isLoad (l : Launch) (D : va_G) (cI cB cZ : ClassId) (g : Nat → Nat) (cn : Nat → Nat) (In : Nat → Int32) (Fn : Nat → Nat → Int32) (v0 : Int32) (hi : CB cn) : Met l yX12_isLoad (CWS yX12_isLoad cX12_isLoad 2 (some .boolean)) (RM 0 0 0) (PBr [.ref (g 100), .int v0] D cI cB cZ (wM cI cB cZ g cn In Fn)) (vp_Si (fun r => (r = 1 ∧ (0 ≤ v0.toInt ∧ v0.toInt < (cn 2 : Int))) ∨ (r = 0 ∧ ¬ (0 ≤ v0.toInt ∧ v0.toInt < (cn 2 : Int))))) 0 0 (fun _ => False) := by
  refine Met.ofW (cc := cX12_isLoad) (maxL := 2) (ret := (some .boolean)) (by decide) rfl ?_
  intro p e s m args below meth c s₁ B hml hv
  obtain ⟨rfl, hP, hK⟩ := hv
  have hx := B.exec
  have hb := B.bytes
  have hr := B.returns
  have hts := atoms_spec (ws := (CWS yX12_isLoad cX12_isLoad 2 (some .boolean))) B.pre
  have hown : s.vm.findClass RX12 = some m.cls := findClass_of_methodNamed B.named
  have hlocks := B.notSynchronized
  have S : SF p m c cX12_isLoad 2 s ([.ref (g 100), .int v0]).toArray RX12 := ⟨hx, hb, hml, hown, fun w h => hts w (List.mem_cons_of_mem _ h)⟩
  have hl := lv_entry ([.ref (g 100), .int v0]) (n := 2) (Nat.le_of_ble_eq_true rfl)
  rw [lg_entry_eq]
  generalize (lg_sl ([.ref (g 100), .int v0]) ++ List.replicate (2 - (lg_sl ([.ref (g 100), .int v0])).length) Slot.unset).toArray = ls at hl ⊢
  have hl : lv_has ls 2 [(0, .ref (g 100)), (1, .int v0)] := hl
  refine lv_iload_n hx hb dX12_isLoad_0 rfl (lv_at hl 1 rfl) ?_
  refine lv_if_lt (tgt := 16) hx hb dX12_isLoad_1 (by decide) (fun c_1 => ?_) (fun c_1 => ?_)
  ·
    have tc_1 : (v0.toInt : Int) < 0 := Int32.lt_iff_toInt_lt.mp c_1
    refine lv_iconst (v := 0) hx hb dX12_isLoad_16 (by decide) ?_
    exact W.zret (v := 0) hx hb hr rfl (fun t ht hW => ⟨0, rfl, (Or.inr ⟨rfl, by omega⟩), ht⟩) (fun _ h => absurd h List.not_mem_nil) dX12_isLoad_17
  ·
    have tc_1 : (0 : Int) ≤ v0.toInt := Int32.le_iff_toInt_le.mp (Int32.not_lt.mp c_1)
    refine lv_iload_n hx hb dX12_isLoad_4 rfl (lv_at hl 1 rfl) ?_
    refine lv_aload_n hx hb dX12_isLoad_5 rfl (lv_at hl 0 rfl) ?_
    refine gf_RX12_208 S hK hP 0 rfl (v := .int (nI (cn 2))) rfl dX12_isLoad_6 ?_
    have : (nI (cn 2)).toInt = (((cn 2) : Nat) : Int) := nI_toInt (by omega)
    refine lv_icmp_ge (tgt := 16) hx hb dX12_isLoad_9 (by decide) (fun c_2 => ?_) (fun c_2 => ?_)
    ·
      have tc_2 : ((nI (cn 2)).toInt : Int) ≤ v0.toInt := Int32.le_iff_toInt_le.mp c_2
      refine lv_iconst (v := 0) hx hb dX12_isLoad_16 (by decide) ?_
      exact W.zret (v := 0) hx hb hr rfl (fun t ht hW => ⟨0, rfl, (Or.inr ⟨rfl, by omega⟩), ht⟩) (fun _ h => absurd h List.not_mem_nil) dX12_isLoad_17
    ·
      have tc_2 : (v0.toInt : Int) < (nI (cn 2)).toInt := Int32.lt_iff_toInt_lt.mp (Int32.not_le.mp c_2)
      refine lv_iconst (v := 1) hx hb dX12_isLoad_12 (by decide) ?_
      refine lv_goto (tgt := 17) hx hb dX12_isLoad_13 (by decide) ?_
      exact W.zret (v := 1) hx hb hr rfl (fun t ht hW => ⟨1, rfl, (Or.inl ⟨rfl, by omega⟩), ht⟩) (fun _ h => absurd h List.not_mem_nil) dX12_isLoad_17
set_option maxRecDepth 100000 in
set_option maxHeartbeats 4000000 in
theorem q_isBatch (l : Launch) (D : va_G) (cI cB cZ : ClassId) (g : Nat → Nat) (cn : Nat → Nat) (In : Nat → Int32) (Fn : Nat → Nat → Int32) (v0 : Int32) (hi : CB cn) : Met l yX12_isBatch (CWS yX12_isBatch cX12_isBatch 2 (some .boolean)) (RM 0 0 0) (PBr [.ref (g 100), .int v0] D cI cB cZ (wM cI cB cZ g cn In Fn)) (vp_Si (fun r => (r = 1 ∧ (0 ≤ v0.toInt ∧ v0.toInt < (cn 62 : Int))) ∨ (r = 0 ∧ ¬ (0 ≤ v0.toInt ∧ v0.toInt < (cn 62 : Int))))) 0 0 (fun _ => False) := by
  refine Met.ofW (cc := cX12_isBatch) (maxL := 2) (ret := (some .boolean)) (by decide) rfl ?_
  intro p e s m args below meth c s₁ B hml hv
  obtain ⟨rfl, hP, hK⟩ := hv
  have hx := B.exec
  have hb := B.bytes
  have hr := B.returns
  have hts := atoms_spec (ws := (CWS yX12_isBatch cX12_isBatch 2 (some .boolean))) B.pre
  have hown : s.vm.findClass RX12 = some m.cls := findClass_of_methodNamed B.named
  have hlocks := B.notSynchronized
  have S : SF p m c cX12_isBatch 2 s ([.ref (g 100), .int v0]).toArray RX12 := ⟨hx, hb, hml, hown, fun w h => hts w (List.mem_cons_of_mem _ h)⟩
  have hl := lv_entry ([.ref (g 100), .int v0]) (n := 2) (Nat.le_of_ble_eq_true rfl)
  rw [lg_entry_eq]
  generalize (lg_sl ([.ref (g 100), .int v0]) ++ List.replicate (2 - (lg_sl ([.ref (g 100), .int v0])).length) Slot.unset).toArray = ls at hl ⊢
  have hl : lv_has ls 2 [(0, .ref (g 100)), (1, .int v0)] := hl
  refine lv_iload_n hx hb dX12_isBatch_0 rfl (lv_at hl 1 rfl) ?_
  refine lv_if_lt (tgt := 16) hx hb dX12_isBatch_1 (by decide) (fun c_1 => ?_) (fun c_1 => ?_)
  ·
    have tc_1 : (v0.toInt : Int) < 0 := Int32.lt_iff_toInt_lt.mp c_1
    refine lv_iconst (v := 0) hx hb dX12_isBatch_16 (by decide) ?_
    exact W.zret (v := 0) hx hb hr rfl (fun t ht hW => ⟨0, rfl, (Or.inr ⟨rfl, by omega⟩), ht⟩) (fun _ h => absurd h List.not_mem_nil) dX12_isBatch_17
  ·
    have tc_1 : (0 : Int) ≤ v0.toInt := Int32.le_iff_toInt_le.mp (Int32.not_lt.mp c_1)
    refine lv_iload_n hx hb dX12_isBatch_4 rfl (lv_at hl 1 rfl) ?_
    refine lv_aload_n hx hb dX12_isBatch_5 rfl (lv_at hl 0 rfl) ?_
    refine gf_RX12_435 S hK hP 0 rfl (v := .int (nI (cn 62))) rfl dX12_isBatch_6 ?_
    have : (nI (cn 62)).toInt = (((cn 62) : Nat) : Int) := nI_toInt (by omega)
    refine lv_icmp_ge (tgt := 16) hx hb dX12_isBatch_9 (by decide) (fun c_2 => ?_) (fun c_2 => ?_)
    ·
      have tc_2 : ((nI (cn 62)).toInt : Int) ≤ v0.toInt := Int32.le_iff_toInt_le.mp c_2
      refine lv_iconst (v := 0) hx hb dX12_isBatch_16 (by decide) ?_
      exact W.zret (v := 0) hx hb hr rfl (fun t ht hW => ⟨0, rfl, (Or.inr ⟨rfl, by omega⟩), ht⟩) (fun _ h => absurd h List.not_mem_nil) dX12_isBatch_17
    ·
      have tc_2 : (v0.toInt : Int) < (nI (cn 62)).toInt := Int32.lt_iff_toInt_lt.mp (Int32.not_le.mp c_2)
      refine lv_iconst (v := 1) hx hb dX12_isBatch_12 (by decide) ?_
      refine lv_goto (tgt := 17) hx hb dX12_isBatch_13 (by decide) ?_
      exact W.zret (v := 1) hx hb hr rfl (fun t ht hW => ⟨1, rfl, (Or.inl ⟨rfl, by omega⟩), ht⟩) (fun _ h => absurd h List.not_mem_nil) dX12_isBatch_17
set_option maxRecDepth 100000 in
set_option maxHeartbeats 4000000 in
theorem q_isProof (l : Launch) (D : va_G) (cI cB cZ : ClassId) (g : Nat → Nat) (cn : Nat → Nat) (In : Nat → Int32) (Fn : Nat → Nat → Int32) (v0 : Int32) (hi : CB cn) : Met l yX12_isProof (CWS yX12_isProof cX12_isProof 2 (some .boolean)) (RM 0 0 0) (PBr [.ref (g 100), .int v0] D cI cB cZ (wM cI cB cZ g cn In Fn)) (vp_Si (fun r => (r = 1 ∧ (0 ≤ v0.toInt ∧ v0.toInt < (cn 63 : Int))) ∨ (r = 0 ∧ ¬ (0 ≤ v0.toInt ∧ v0.toInt < (cn 63 : Int))))) 0 0 (fun _ => False) := by
  refine Met.ofW (cc := cX12_isProof) (maxL := 2) (ret := (some .boolean)) (by decide) rfl ?_
  intro p e s m args below meth c s₁ B hml hv
  obtain ⟨rfl, hP, hK⟩ := hv
  have hx := B.exec
  have hb := B.bytes
  have hr := B.returns
  have hts := atoms_spec (ws := (CWS yX12_isProof cX12_isProof 2 (some .boolean))) B.pre
  have hown : s.vm.findClass RX12 = some m.cls := findClass_of_methodNamed B.named
  have hlocks := B.notSynchronized
  have S : SF p m c cX12_isProof 2 s ([.ref (g 100), .int v0]).toArray RX12 := ⟨hx, hb, hml, hown, fun w h => hts w (List.mem_cons_of_mem _ h)⟩
  have hl := lv_entry ([.ref (g 100), .int v0]) (n := 2) (Nat.le_of_ble_eq_true rfl)
  rw [lg_entry_eq]
  generalize (lg_sl ([.ref (g 100), .int v0]) ++ List.replicate (2 - (lg_sl ([.ref (g 100), .int v0])).length) Slot.unset).toArray = ls at hl ⊢
  have hl : lv_has ls 2 [(0, .ref (g 100)), (1, .int v0)] := hl
  refine lv_iload_n hx hb dX12_isProof_0 rfl (lv_at hl 1 rfl) ?_
  refine lv_if_lt (tgt := 16) hx hb dX12_isProof_1 (by decide) (fun c_1 => ?_) (fun c_1 => ?_)
  ·
    have tc_1 : (v0.toInt : Int) < 0 := Int32.lt_iff_toInt_lt.mp c_1
    refine lv_iconst (v := 0) hx hb dX12_isProof_16 (by decide) ?_
    exact W.zret (v := 0) hx hb hr rfl (fun t ht hW => ⟨0, rfl, (Or.inr ⟨rfl, by omega⟩), ht⟩) (fun _ h => absurd h List.not_mem_nil) dX12_isProof_17
  ·
    have tc_1 : (0 : Int) ≤ v0.toInt := Int32.le_iff_toInt_le.mp (Int32.not_lt.mp c_1)
    refine lv_iload_n hx hb dX12_isProof_4 rfl (lv_at hl 1 rfl) ?_
    refine lv_aload_n hx hb dX12_isProof_5 rfl (lv_at hl 0 rfl) ?_
    refine gf_RX12_447 S hK hP 0 rfl (v := .int (nI (cn 63))) rfl dX12_isProof_6 ?_
    have : (nI (cn 63)).toInt = (((cn 63) : Nat) : Int) := nI_toInt (by omega)
    refine lv_icmp_ge (tgt := 16) hx hb dX12_isProof_9 (by decide) (fun c_2 => ?_) (fun c_2 => ?_)
    ·
      have tc_2 : ((nI (cn 63)).toInt : Int) ≤ v0.toInt := Int32.le_iff_toInt_le.mp c_2
      refine lv_iconst (v := 0) hx hb dX12_isProof_16 (by decide) ?_
      exact W.zret (v := 0) hx hb hr rfl (fun t ht hW => ⟨0, rfl, (Or.inr ⟨rfl, by omega⟩), ht⟩) (fun _ h => absurd h List.not_mem_nil) dX12_isProof_17
    ·
      have tc_2 : (v0.toInt : Int) < (nI (cn 63)).toInt := Int32.lt_iff_toInt_lt.mp (Int32.not_le.mp c_2)
      refine lv_iconst (v := 1) hx hb dX12_isProof_12 (by decide) ?_
      refine lv_goto (tgt := 17) hx hb dX12_isProof_13 (by decide) ?_
      exact W.zret (v := 1) hx hb hr rfl (fun t ht hW => ⟨1, rfl, (Or.inl ⟨rfl, by omega⟩), ht⟩) (fun _ h => absurd h List.not_mem_nil) dX12_isProof_17
set_option maxRecDepth 100000 in
set_option maxHeartbeats 4000000 in
theorem q_isDrum (l : Launch) (D : va_G) (cI cB cZ : ClassId) (g : Nat → Nat) (cn : Nat → Nat) (In : Nat → Int32) (Fn : Nat → Nat → Int32) (v0 : Int32) (hi : CB cn) : Met l yX12_isDrum (CWS yX12_isDrum cX12_isDrum 2 (some .boolean)) (RM 0 0 0) (PBr [.ref (g 100), .int v0] D cI cB cZ (wM cI cB cZ g cn In Fn)) (vp_Si (fun r => (r = 1 ∧ (0 ≤ v0.toInt ∧ v0.toInt < (cn 57 : Int))) ∨ (r = 0 ∧ ¬ (0 ≤ v0.toInt ∧ v0.toInt < (cn 57 : Int))))) 0 0 (fun _ => False) := by
  refine Met.ofW (cc := cX12_isDrum) (maxL := 2) (ret := (some .boolean)) (by decide) rfl ?_
  intro p e s m args below meth c s₁ B hml hv
  obtain ⟨rfl, hP, hK⟩ := hv
  have hx := B.exec
  have hb := B.bytes
  have hr := B.returns
  have hts := atoms_spec (ws := (CWS yX12_isDrum cX12_isDrum 2 (some .boolean))) B.pre
  have hown : s.vm.findClass RX12 = some m.cls := findClass_of_methodNamed B.named
  have hlocks := B.notSynchronized
  have S : SF p m c cX12_isDrum 2 s ([.ref (g 100), .int v0]).toArray RX12 := ⟨hx, hb, hml, hown, fun w h => hts w (List.mem_cons_of_mem _ h)⟩
  have hl := lv_entry ([.ref (g 100), .int v0]) (n := 2) (Nat.le_of_ble_eq_true rfl)
  rw [lg_entry_eq]
  generalize (lg_sl ([.ref (g 100), .int v0]) ++ List.replicate (2 - (lg_sl ([.ref (g 100), .int v0])).length) Slot.unset).toArray = ls at hl ⊢
  have hl : lv_has ls 2 [(0, .ref (g 100)), (1, .int v0)] := hl
  refine lv_iload_n hx hb dX12_isDrum_0 rfl (lv_at hl 1 rfl) ?_
  refine lv_if_lt (tgt := 16) hx hb dX12_isDrum_1 (by decide) (fun c_1 => ?_) (fun c_1 => ?_)
  ·
    have tc_1 : (v0.toInt : Int) < 0 := Int32.lt_iff_toInt_lt.mp c_1
    refine lv_iconst (v := 0) hx hb dX12_isDrum_16 (by decide) ?_
    exact W.zret (v := 0) hx hb hr rfl (fun t ht hW => ⟨0, rfl, (Or.inr ⟨rfl, by omega⟩), ht⟩) (fun _ h => absurd h List.not_mem_nil) dX12_isDrum_17
  ·
    have tc_1 : (0 : Int) ≤ v0.toInt := Int32.le_iff_toInt_le.mp (Int32.not_lt.mp c_1)
    refine lv_iload_n hx hb dX12_isDrum_4 rfl (lv_at hl 1 rfl) ?_
    refine lv_aload_n hx hb dX12_isDrum_5 rfl (lv_at hl 0 rfl) ?_
    refine gf_RX12_407 S hK hP 0 rfl (v := .int (nI (cn 57))) rfl dX12_isDrum_6 ?_
    have : (nI (cn 57)).toInt = (((cn 57) : Nat) : Int) := nI_toInt (by omega)
    refine lv_icmp_ge (tgt := 16) hx hb dX12_isDrum_9 (by decide) (fun c_2 => ?_) (fun c_2 => ?_)
    ·
      have tc_2 : ((nI (cn 57)).toInt : Int) ≤ v0.toInt := Int32.le_iff_toInt_le.mp c_2
      refine lv_iconst (v := 0) hx hb dX12_isDrum_16 (by decide) ?_
      exact W.zret (v := 0) hx hb hr rfl (fun t ht hW => ⟨0, rfl, (Or.inr ⟨rfl, by omega⟩), ht⟩) (fun _ h => absurd h List.not_mem_nil) dX12_isDrum_17
    ·
      have tc_2 : (v0.toInt : Int) < (nI (cn 57)).toInt := Int32.lt_iff_toInt_lt.mp (Int32.not_le.mp c_2)
      refine lv_iconst (v := 1) hx hb dX12_isDrum_12 (by decide) ?_
      refine lv_goto (tgt := 17) hx hb dX12_isDrum_13 (by decide) ?_
      exact W.zret (v := 1) hx hb hr rfl (fun t ht hW => ⟨1, rfl, (Or.inl ⟨rfl, by omega⟩), ht⟩) (fun _ h => absurd h List.not_mem_nil) dX12_isDrum_17
set_option maxRecDepth 100000 in
set_option maxHeartbeats 4000000 in
theorem q_now (l : Launch) (D : va_G) (cI cB cZ : ClassId) (g : Nat → Nat) (cn : Nat → Nat) (In : Nat → Int32) (Fn : Nat → Nat → Int32) (v0 : Int32) (sz : Nat) (hi : CB cn) : Met l yX12_now (CWS yX12_now cX12_now 2 (some .boolean)) (RM 1 0 0) (PBw [.ref (g 100), .int v0] D cI cB cZ (wM cI cB cZ g cn In Fn) sz) (va_Qi (fun (r : Int32) (u : (Nat → Nat) × (Nat → Int32) × (Nat → Nat → Int32)) => (fun r c2 I2 F2 => (((cn 0 : Int) ≤ v0.toInt ∧ v0.toInt ≤ 399) ∧ r = 1 ∧ c2 = va_up cn 0 v0.toInt.toNat ∧ I2 = In ∧ F2 = Fn) ∨ ((¬ ((cn 0 : Int) ≤ v0.toInt ∧ v0.toInt ≤ 399)) ∧ r = 0 ∧ c2 = cn ∧ I2 = In ∧ F2 = Fn)) r u.1 u.2.1 u.2.2) (fun (u : (Nat → Nat) × (Nat → Int32) × (Nat → Nat → Int32)) (t : State) => va_P D vwCl (wM cI cB cZ g u.1 u.2.1 u.2.2) t.heap ∧ va_D (va_A (wM cI cB cZ g cn In Fn) sz) (wM cI cB cZ g u.1 u.2.1 u.2.2)) (va_A (wM cI cB cZ g cn In Fn) sz)) 0 0 (va_A (wM cI cB cZ g cn In Fn) sz) := by
  refine Met.ofW (cc := cX12_now) (maxL := 2) (ret := (some .boolean)) (by decide) rfl ?_
  intro p e s m args below meth c s₁ B hml hv
  obtain ⟨rfl, hsz, hP, hK, hD0⟩ := hv
  have hx := B.exec
  have hb := B.bytes
  have hr := B.returns
  have hts := atoms_spec (ws := (CWS yX12_now cX12_now 2 (some .boolean))) B.pre
  have hown : s.vm.findClass RX12 = some m.cls := findClass_of_methodNamed B.named
  have hlocks := B.notSynchronized
  have S : SF p m c cX12_now 2 s ([.ref (g 100), .int v0]).toArray RX12 := ⟨hx, hb, hml, hown, fun w h => hts w (List.mem_cons_of_mem _ h)⟩
  subst hsz
  have hD := hD0.self (sz := s.heap.size)
  generalize hAe : va_A (wM cI cB cZ g cn In Fn) s.heap.size = A at hD ⊢
  have hA : ∀ q : Nat, s.heap.size ≤ q → A q := fun q h => by rw [← hAe]; exact Or.inr h
  have hS : va_S A s.heap s.heap [] := va_S.rf
  have hl := lv_entry ([.ref (g 100), .int v0]) (n := 2) (Nat.le_of_ble_eq_true rfl)
  rw [lg_entry_eq]
  generalize (lg_sl ([.ref (g 100), .int v0]) ++ List.replicate (2 - (lg_sl ([.ref (g 100), .int v0])).length) Slot.unset).toArray = ls at hl ⊢
  have hl : lv_has ls 2 [(0, .ref (g 100)), (1, .int v0)] := hl
  refine lv_iload_n hx hb dX12_now_0 rfl (lv_at hl 1 rfl) ?_
  refine lv_aload_n hx hb dX12_now_1 rfl (lv_at hl 0 rfl) ?_
  refine gf_RX12_211 S hK hP 0 rfl (v := .int (nI (cn 0))) rfl dX12_now_2 ?_
  refine lv_sipush (v := 399) hx hb dX12_now_5 (by decide) ?_
  refine vp_callSi (runS_r (As := [.int v0, .int (nI (cn 0)), .int 399]) (rest := []) S (q_in l D cI cB cZ v0 (nI (cn 0)) 399 ) kS_RX12_214 hK hP [] rfl ⟨Nat.le_of_ble_eq_true rfl, Nat.le_of_ble_eq_true rfl⟩ ⟨Nat.le_of_ble_eq_true rfl, Nat.le_of_ble_eq_true rfl⟩ rfl hl.1 rfl (Nat.le_of_ble_eq_true rfl) dX12_now_8) (fun r_1 h_2 => ?_)
  rcases h_2 with ⟨rfl, h_2⟩ | ⟨rfl, h_2⟩
  ·
    have h_2 : (nI (cn 0)).toInt ≤ v0.toInt ∧ v0.toInt ≤ 399 := h_2
    refine lv_if_ne (tgt := 16) hx hb dX12_now_11 (by decide) (fun _ => ?_) (fun h => absurd h (by decide))
    obtain ⟨d0, hd0, rfl⟩ := nI_of (x := v0) (fun q => by have := Int32.lt_iff_toInt_lt.mp q; have e : (0 : Int32).toInt = 0 := rfl; omega)
    have td0 : (nI d0).toInt = (d0 : Int) := nI_toInt hd0
    refine lv_aload_n hx hb dX12_now_16 rfl (lv_at hl 0 rfl) ?_
    refine lv_iload_n hx hb dX12_now_17 rfl (lv_at hl 1 rfl) ?_
    refine pf_RX12_211 S hK hP hD hS 0 rfl (v := .int (nI d0)) (Nat.le_of_ble_eq_true rfl) rfl rfl dX12_now_18 (fun H locs hP hD hS => ?_)
    have hP : va_P D vwCl (wM cI cB cZ g (va_up cn 0 d0) In Fn) H := hP
    have hD : va_D A (wM cI cB cZ g (va_up cn 0 d0) In Fn) := hD
    refine lv_iconst (v := 1) hx hb dX12_now_21 (by decide) ?_
    exact W.zret (v := 1) hx hb hr rfl (fun t ht hW => ⟨⟨1, ((va_up cn 0 d0), In, Fn), rfl, (Or.inl ⟨by omega, rfl, by rw [show (nI d0).toInt.toNat = d0 by omega], rfl, rfl⟩), by rw [ht]; exact hP, hD⟩, hS.F ht⟩) hS.2.2 dX12_now_22
  ·
    have h_2 : ¬ ((nI (cn 0)).toInt ≤ v0.toInt ∧ v0.toInt ≤ 399) := h_2
    refine lv_if_ne (tgt := 16) hx hb dX12_now_11 (by decide) (fun h => absurd h (by decide)) (fun _ => ?_)
    refine lv_iconst (v := 0) hx hb dX12_now_14 (by decide) ?_
    exact W.zret (v := 0) hx hb hr rfl (fun t ht hW => ⟨⟨0, (cn, In, Fn), rfl, (Or.inr ⟨by omega, rfl, rfl, rfl, rfl⟩), by rw [ht]; exact hP, hD⟩, hS.F ht⟩) hS.2.2 dX12_now_15
set_option maxRecDepth 100000 in
set_option maxHeartbeats 4000000 in
theorem q_kitchen (l : Launch) (D : va_G) (cI cB cZ : ClassId) (g : Nat → Nat) (cn : Nat → Nat) (In : Nat → Int32) (Fn : Nat → Nat → Int32) (v0 v1 v2 v3 : Int32) (sz : Nat) (hi : CB cn) : Met l yX12_kitchen (CWS yX12_kitchen cX12_kitchen 5 (some .int)) (RM 1 0 0) (PBw [.ref (g 100), .int v0, .int v1, .int v2, .int v3] D cI cB cZ (wM cI cB cZ g cn In Fn) sz) (va_Qi (fun (r : Int32) (u : (Nat → Nat) × (Nat → Int32) × (Nat → Nat → Int32)) => (fun r c2 I2 F2 => (((0 ≤ v0.toInt ∧ v0.toInt ≤ 99) ∧ (0 ≤ v1.toInt ∧ v1.toInt ≤ 99) ∧ (0 ≤ v2.toInt ∧ v2.toInt ≤ 50) ∧ (20 ≤ v3.toInt ∧ v3.toInt ≤ 400) ∧ cn 1 < 10) ∧ r = nI (cn 1) ∧ c2 = va_up cn 1 (cn 1 + 1) ∧ I2 = In ∧ F2 = va_up (va_up (va_up (va_up Fn 3 (upd (Fn 3) (cn 1) v0)) 4 (upd (Fn 4) (cn 1) v1)) 5 (upd (Fn 5) (cn 1) v2)) 6 (upd (Fn 6) (cn 1) v3)) ∨ ((¬ ((0 ≤ v0.toInt ∧ v0.toInt ≤ 99) ∧ (0 ≤ v1.toInt ∧ v1.toInt ≤ 99) ∧ (0 ≤ v2.toInt ∧ v2.toInt ≤ 50) ∧ (20 ≤ v3.toInt ∧ v3.toInt ≤ 400) ∧ cn 1 < 10)) ∧ r = -1 ∧ c2 = cn ∧ I2 = In ∧ F2 = Fn)) r u.1 u.2.1 u.2.2) (fun (u : (Nat → Nat) × (Nat → Int32) × (Nat → Nat → Int32)) (t : State) => va_P D vwCl (wM cI cB cZ g u.1 u.2.1 u.2.2) t.heap ∧ va_D (va_A (wM cI cB cZ g cn In Fn) sz) (wM cI cB cZ g u.1 u.2.1 u.2.2)) (va_A (wM cI cB cZ g cn In Fn) sz)) 0 0 (va_A (wM cI cB cZ g cn In Fn) sz) := by
  refine Met.ofW (cc := cX12_kitchen) (maxL := 5) (ret := (some .int)) (by decide) rfl ?_
  intro p e s m args below meth c s₁ B hml hv
  obtain ⟨rfl, hsz, hP, hK, hD0⟩ := hv
  have hx := B.exec
  have hb := B.bytes
  have hr := B.returns
  have hts := atoms_spec (ws := (CWS yX12_kitchen cX12_kitchen 5 (some .int))) B.pre
  have hown : s.vm.findClass RX12 = some m.cls := findClass_of_methodNamed B.named
  have hlocks := B.notSynchronized
  have S : SF p m c cX12_kitchen 5 s ([.ref (g 100), .int v0, .int v1, .int v2, .int v3]).toArray RX12 := ⟨hx, hb, hml, hown, fun w h => hts w (List.mem_cons_of_mem _ h)⟩
  subst hsz
  have hD := hD0.self (sz := s.heap.size)
  generalize hAe : va_A (wM cI cB cZ g cn In Fn) s.heap.size = A at hD ⊢
  have hA : ∀ q : Nat, s.heap.size ≤ q → A q := fun q h => by rw [← hAe]; exact Or.inr h
  have hS : va_S A s.heap s.heap [] := va_S.rf
  have hl := lv_entry ([.ref (g 100), .int v0, .int v1, .int v2, .int v3]) (n := 5) (Nat.le_of_ble_eq_true rfl)
  rw [lg_entry_eq]
  generalize (lg_sl ([.ref (g 100), .int v0, .int v1, .int v2, .int v3]) ++ List.replicate (5 - (lg_sl ([.ref (g 100), .int v0, .int v1, .int v2, .int v3])).length) Slot.unset).toArray = ls at hl ⊢
  have hl : lv_has ls 5 [(0, .ref (g 100)), (1, .int v0), (2, .int v1), (3, .int v2), (4, .int v3)] := hl
  refine lv_iload_n hx hb dX12_kitchen_0 rfl (lv_at hl 1 rfl) ?_
  refine lv_iconst (v := 0) hx hb dX12_kitchen_1 (by decide) ?_
  refine lv_bipush (v := 99) hx hb dX12_kitchen_2 (by decide) ?_
  refine vp_callSi (runS_r (As := [.int v0, .int 0, .int 99]) (rest := []) S (q_in l D cI cB cZ v0 0 99 ) kS_RX12_214 hK hP [] rfl ⟨Nat.le_of_ble_eq_true rfl, Nat.le_of_ble_eq_true rfl⟩ ⟨Nat.le_of_ble_eq_true rfl, Nat.le_of_ble_eq_true rfl⟩ rfl hl.1 rfl (Nat.le_of_ble_eq_true rfl) dX12_kitchen_4) (fun r_1 h_2 => ?_)
  rcases h_2 with ⟨rfl, h_2⟩ | ⟨rfl, h_2⟩
  ·
    have h_2 : 0 ≤ v0.toInt ∧ v0.toInt ≤ 99 := h_2
    refine lv_if_eq (tgt := 52) hx hb dX12_kitchen_7 (by decide) (fun h => absurd h (by decide)) (fun _ => ?_)
    refine lv_iload_n hx hb dX12_kitchen_10 rfl (lv_at hl 2 rfl) ?_
    refine lv_iconst (v := 0) hx hb dX12_kitchen_11 (by decide) ?_
    refine lv_bipush (v := 99) hx hb dX12_kitchen_12 (by decide) ?_
    refine vp_callSi (runS_r (As := [.int v1, .int 0, .int 99]) (rest := []) S (q_in l D cI cB cZ v1 0 99 ) kS_RX12_214 hK hP [] rfl ⟨Nat.le_of_ble_eq_true rfl, Nat.le_of_ble_eq_true rfl⟩ ⟨Nat.le_of_ble_eq_true rfl, Nat.le_of_ble_eq_true rfl⟩ rfl hl.1 rfl (Nat.le_of_ble_eq_true rfl) dX12_kitchen_14) (fun r_3 h_4 => ?_)
    rcases h_4 with ⟨rfl, h_4⟩ | ⟨rfl, h_4⟩
    ·
      have h_4 : 0 ≤ v1.toInt ∧ v1.toInt ≤ 99 := h_4
      refine lv_if_eq (tgt := 52) hx hb dX12_kitchen_17 (by decide) (fun h => absurd h (by decide)) (fun _ => ?_)
      refine lv_iload_n hx hb dX12_kitchen_20 rfl (lv_at hl 3 rfl) ?_
      refine lv_iconst (v := 0) hx hb dX12_kitchen_21 (by decide) ?_
      refine lv_bipush (v := 50) hx hb dX12_kitchen_22 (by decide) ?_
      refine vp_callSi (runS_r (As := [.int v2, .int 0, .int 50]) (rest := []) S (q_in l D cI cB cZ v2 0 50 ) kS_RX12_214 hK hP [] rfl ⟨Nat.le_of_ble_eq_true rfl, Nat.le_of_ble_eq_true rfl⟩ ⟨Nat.le_of_ble_eq_true rfl, Nat.le_of_ble_eq_true rfl⟩ rfl hl.1 rfl (Nat.le_of_ble_eq_true rfl) dX12_kitchen_24) (fun r_5 h_6 => ?_)
      rcases h_6 with ⟨rfl, h_6⟩ | ⟨rfl, h_6⟩
      ·
        have h_6 : 0 ≤ v2.toInt ∧ v2.toInt ≤ 50 := h_6
        refine lv_if_eq (tgt := 52) hx hb dX12_kitchen_27 (by decide) (fun h => absurd h (by decide)) (fun _ => ?_)
        refine lv_iload hx hb dX12_kitchen_30 (lv_at hl 4 rfl) ?_
        refine lv_bipush (v := 20) hx hb dX12_kitchen_32 (by decide) ?_
        refine lv_sipush (v := 400) hx hb dX12_kitchen_34 (by decide) ?_
        refine vp_callSi (runS_r (As := [.int v3, .int 20, .int 400]) (rest := []) S (q_in l D cI cB cZ v3 20 400 ) kS_RX12_214 hK hP [] rfl ⟨Nat.le_of_ble_eq_true rfl, Nat.le_of_ble_eq_true rfl⟩ ⟨Nat.le_of_ble_eq_true rfl, Nat.le_of_ble_eq_true rfl⟩ rfl hl.1 rfl (Nat.le_of_ble_eq_true rfl) dX12_kitchen_37) (fun r_7 h_8 => ?_)
        rcases h_8 with ⟨rfl, h_8⟩ | ⟨rfl, h_8⟩
        ·
          have h_8 : 20 ≤ v3.toInt ∧ v3.toInt ≤ 400 := h_8
          refine lv_if_eq (tgt := 52) hx hb dX12_kitchen_40 (by decide) (fun h => absurd h (by decide)) (fun _ => ?_)
          refine lv_aload_n hx hb dX12_kitchen_43 rfl (lv_at hl 0 rfl) ?_
          refine gf_RX12_204 S hK hP 0 rfl (v := .int (nI (cn 1))) rfl dX12_kitchen_44 ?_
          refine lv_bipush (v := 10) hx hb dX12_kitchen_47 (by decide) ?_
          have : (nI (cn 1)).toInt = (((cn 1) : Nat) : Int) := nI_toInt (by omega)
          refine lv_icmp_ne (tgt := 54) hx hb dX12_kitchen_49 (by decide) (fun c_9 => ?_) (fun c_9 => ?_)
          ·
            have tc_9 : ((nI (cn 1)).toInt : Int) ≠ 10 := fun q => c_9 (Int32.toInt_inj.mp q)
            refine lv_aload_n hx hb dX12_kitchen_54 rfl (lv_at hl 0 rfl) ?_
            refine gf_RX12_7 S hK hP 0 rfl (v := .ref (g 3)) rfl dX12_kitchen_55 ?_
            refine lv_aload_n hx hb dX12_kitchen_58 rfl (lv_at hl 0 rfl) ?_
            refine gf_RX12_204 S hK hP 0 rfl (v := .int (nI (cn 1))) rfl dX12_kitchen_59 ?_
            refine lv_iload_n hx hb dX12_kitchen_62 rfl (lv_at hl 1 rfl) ?_
            refine va_iast (f := (Fn 3)) hx hb hK.1 hP hD hS 1 0 rfl rfl (vp_in_nI (by omega) (by decide)) dX12_kitchen_63 (fun H locs hP hD hS => ?_)
            rw [nI_clamp (by omega)] at hP hD
            have hP : va_P D vwCl (wM cI cB cZ g cn In (va_up Fn 3 (upd (Fn 3) (cn 1) v0))) H := hP
            have hD : va_D A (wM cI cB cZ g cn In (va_up Fn 3 (upd (Fn 3) (cn 1) v0))) := hD
            refine lv_aload_n hx hb dX12_kitchen_64 rfl (lv_at hl 0 rfl) ?_
            refine gf_RX12_13 S hK hP 0 rfl (v := .ref (g 4)) rfl dX12_kitchen_65 ?_
            refine lv_aload_n hx hb dX12_kitchen_68 rfl (lv_at hl 0 rfl) ?_
            refine gf_RX12_204 S hK hP 0 rfl (v := .int (nI (cn 1))) rfl dX12_kitchen_69 ?_
            refine lv_iload_n hx hb dX12_kitchen_72 rfl (lv_at hl 2 rfl) ?_
            refine va_iast (f := (Fn 4)) hx hb hK.1 hP hD hS 2 0 rfl rfl (vp_in_nI (by omega) (by decide)) dX12_kitchen_73 (fun H locs hP hD hS => ?_)
            rw [nI_clamp (by omega)] at hP hD
            have hP : va_P D vwCl (wM cI cB cZ g cn In (va_up (va_up Fn 3 (upd (Fn 3) (cn 1) v0)) 4 (upd (Fn 4) (cn 1) v1))) H := hP
            have hD : va_D A (wM cI cB cZ g cn In (va_up (va_up Fn 3 (upd (Fn 3) (cn 1) v0)) 4 (upd (Fn 4) (cn 1) v1))) := hD
            refine lv_aload_n hx hb dX12_kitchen_74 rfl (lv_at hl 0 rfl) ?_
            refine gf_RX12_16 S hK hP 0 rfl (v := .ref (g 5)) rfl dX12_kitchen_75 ?_
            refine lv_aload_n hx hb dX12_kitchen_78 rfl (lv_at hl 0 rfl) ?_
            refine gf_RX12_204 S hK hP 0 rfl (v := .int (nI (cn 1))) rfl dX12_kitchen_79 ?_
            refine lv_iload_n hx hb dX12_kitchen_82 rfl (lv_at hl 3 rfl) ?_
            refine va_iast (f := (Fn 5)) hx hb hK.1 hP hD hS 3 0 rfl rfl (vp_in_nI (by omega) (by decide)) dX12_kitchen_83 (fun H locs hP hD hS => ?_)
            rw [nI_clamp (by omega)] at hP hD
            have hP : va_P D vwCl (wM cI cB cZ g cn In (va_up (va_up (va_up Fn 3 (upd (Fn 3) (cn 1) v0)) 4 (upd (Fn 4) (cn 1) v1)) 5 (upd (Fn 5) (cn 1) v2))) H := hP
            have hD : va_D A (wM cI cB cZ g cn In (va_up (va_up (va_up Fn 3 (upd (Fn 3) (cn 1) v0)) 4 (upd (Fn 4) (cn 1) v1)) 5 (upd (Fn 5) (cn 1) v2))) := hD
            refine lv_aload_n hx hb dX12_kitchen_84 rfl (lv_at hl 0 rfl) ?_
            refine gf_RX12_19 S hK hP 0 rfl (v := .ref (g 6)) rfl dX12_kitchen_85 ?_
            refine lv_aload_n hx hb dX12_kitchen_88 rfl (lv_at hl 0 rfl) ?_
            refine gf_RX12_204 S hK hP 0 rfl (v := .int (nI (cn 1))) rfl dX12_kitchen_89 ?_
            refine lv_iload hx hb dX12_kitchen_92 (lv_at hl 4 rfl) ?_
            refine va_iast (f := (Fn 6)) hx hb hK.1 hP hD hS 4 0 rfl rfl (vp_in_nI (by omega) (by decide)) dX12_kitchen_94 (fun H locs hP hD hS => ?_)
            rw [nI_clamp (by omega)] at hP hD
            have hP : va_P D vwCl (wM cI cB cZ g cn In (va_up (va_up (va_up (va_up Fn 3 (upd (Fn 3) (cn 1) v0)) 4 (upd (Fn 4) (cn 1) v1)) 5 (upd (Fn 5) (cn 1) v2)) 6 (upd (Fn 6) (cn 1) v3))) H := hP
            have hD : va_D A (wM cI cB cZ g cn In (va_up (va_up (va_up (va_up Fn 3 (upd (Fn 3) (cn 1) v0)) 4 (upd (Fn 4) (cn 1) v1)) 5 (upd (Fn 5) (cn 1) v2)) 6 (upd (Fn 6) (cn 1) v3))) := hD
            refine lv_aload_n hx hb dX12_kitchen_95 rfl (lv_at hl 0 rfl) ?_
            refine lv_aload_n hx hb dX12_kitchen_96 rfl (lv_at hl 0 rfl) ?_
            refine gf_RX12_204 S hK hP 0 rfl (v := .int (nI (cn 1))) rfl dX12_kitchen_97 ?_
            refine lv_iconst (v := 1) hx hb dX12_kitchen_100 (by decide) ?_
            refine lv_iadd hx hb dX12_kitchen_101 ?_
            refine lv_topi (fun y_10 ey_10 => ?_)
            obtain rfl : y_10 = (nI ((cn 1) + 1)) := ey_10.trans (nI_add (cn 1) 1)
            refine pf_RX12_204 S hK hP hD hS 0 rfl (v := .int (nI ((cn 1) + 1))) (Nat.le_of_ble_eq_true rfl) rfl rfl dX12_kitchen_102 (fun H locs hP hD hS => ?_)
            have hP : va_P D vwCl (wM cI cB cZ g (va_up cn 1 ((cn 1) + 1)) In (va_up (va_up (va_up (va_up Fn 3 (upd (Fn 3) (cn 1) v0)) 4 (upd (Fn 4) (cn 1) v1)) 5 (upd (Fn 5) (cn 1) v2)) 6 (upd (Fn 6) (cn 1) v3))) H := hP
            have hD : va_D A (wM cI cB cZ g (va_up cn 1 ((cn 1) + 1)) In (va_up (va_up (va_up (va_up Fn 3 (upd (Fn 3) (cn 1) v0)) 4 (upd (Fn 4) (cn 1) v1)) 5 (upd (Fn 5) (cn 1) v2)) 6 (upd (Fn 6) (cn 1) v3))) := hD
            refine lv_aload_n hx hb dX12_kitchen_105 rfl (lv_at hl 0 rfl) ?_
            refine gf_RX12_204 S hK hP 0 rfl (v := .int (nI ((cn 1) + 1))) rfl dX12_kitchen_106 ?_
            refine lv_iconst (v := 1) hx hb dX12_kitchen_109 (by decide) ?_
            refine lv_isub hx hb dX12_kitchen_110 ?_
            refine lv_topi (fun y_11 ey_11 => ?_)
            obtain rfl : y_11 = (nI (cn 1)) := ey_11.trans (nI_pred _)
            exact W.iret (v := (nI (cn 1))) hx hb hr (fun t ht hW => ⟨⟨(nI (cn 1)), ((va_up cn 1 ((cn 1) + 1)), In, (va_up (va_up (va_up (va_up Fn 3 (upd (Fn 3) (cn 1) v0)) 4 (upd (Fn 4) (cn 1) v1)) 5 (upd (Fn 5) (cn 1) v2)) 6 (upd (Fn 6) (cn 1) v3))), rfl, (Or.inl ⟨by omega, rfl, rfl, rfl, rfl⟩), by rw [ht]; exact hP, hD⟩, hS.F ht⟩) hS.2.2 dX12_kitchen_111
          ·
            have tc_9 : ((nI (cn 1)).toInt : Int) = 10 := congrArg Int32.toInt c_9
            refine lv_iconst (v := (-1)) hx hb dX12_kitchen_52 (by decide) ?_
            exact W.iret (v := (-1)) hx hb hr (fun t ht hW => ⟨⟨(-1), (cn, In, Fn), rfl, (Or.inr ⟨by omega, rfl, rfl, rfl, rfl⟩), by rw [ht]; exact hP, hD⟩, hS.F ht⟩) hS.2.2 dX12_kitchen_53
        ·
          have h_8 : ¬ (20 ≤ v3.toInt ∧ v3.toInt ≤ 400) := h_8
          refine lv_if_eq (tgt := 52) hx hb dX12_kitchen_40 (by decide) (fun _ => ?_) (fun h => absurd h (by decide))
          refine lv_iconst (v := (-1)) hx hb dX12_kitchen_52 (by decide) ?_
          exact W.iret (v := (-1)) hx hb hr (fun t ht hW => ⟨⟨(-1), (cn, In, Fn), rfl, (Or.inr ⟨by omega, rfl, rfl, rfl, rfl⟩), by rw [ht]; exact hP, hD⟩, hS.F ht⟩) hS.2.2 dX12_kitchen_53
      ·
        have h_6 : ¬ (0 ≤ v2.toInt ∧ v2.toInt ≤ 50) := h_6
        refine lv_if_eq (tgt := 52) hx hb dX12_kitchen_27 (by decide) (fun _ => ?_) (fun h => absurd h (by decide))
        refine lv_iconst (v := (-1)) hx hb dX12_kitchen_52 (by decide) ?_
        exact W.iret (v := (-1)) hx hb hr (fun t ht hW => ⟨⟨(-1), (cn, In, Fn), rfl, (Or.inr ⟨by omega, rfl, rfl, rfl, rfl⟩), by rw [ht]; exact hP, hD⟩, hS.F ht⟩) hS.2.2 dX12_kitchen_53
    ·
      have h_4 : ¬ (0 ≤ v1.toInt ∧ v1.toInt ≤ 99) := h_4
      refine lv_if_eq (tgt := 52) hx hb dX12_kitchen_17 (by decide) (fun _ => ?_) (fun h => absurd h (by decide))
      refine lv_iconst (v := (-1)) hx hb dX12_kitchen_52 (by decide) ?_
      exact W.iret (v := (-1)) hx hb hr (fun t ht hW => ⟨⟨(-1), (cn, In, Fn), rfl, (Or.inr ⟨by omega, rfl, rfl, rfl, rfl⟩), by rw [ht]; exact hP, hD⟩, hS.F ht⟩) hS.2.2 dX12_kitchen_53
  ·
    have h_2 : ¬ (0 ≤ v0.toInt ∧ v0.toInt ≤ 99) := h_2
    refine lv_if_eq (tgt := 52) hx hb dX12_kitchen_7 (by decide) (fun _ => ?_) (fun h => absurd h (by decide))
    refine lv_iconst (v := (-1)) hx hb dX12_kitchen_52 (by decide) ?_
    exact W.iret (v := (-1)) hx hb hr (fun t ht hW => ⟨⟨(-1), (cn, In, Fn), rfl, (Or.inr ⟨by omega, rfl, rfl, rfl, rfl⟩), by rw [ht]; exact hP, hD⟩, hS.F ht⟩) hS.2.2 dX12_kitchen_53
