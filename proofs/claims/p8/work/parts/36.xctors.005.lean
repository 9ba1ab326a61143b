set_option maxRecDepth 100000 in
theorem pf_RX12_186 {p : Program} {l : Launch} {e : Env} {R : Room} {s : State} {m : MethodId} {args : Array Value} {below : List Frame} {meth : Method} {c : Code} {H : Heap} {locs : List Loc} {cells slots : Nat} {Q : State → Prop} {cc : ByteArray} {nL pc : Nat} {D : va_G} {cI cB cZ : ClassId} {ws : va_W} {rest : List Value} {ls : Array Slot} {a : Nat} {fs : List Value} {v : Value} {A : Nat → Prop} {H0 : Heap} (S : SF p m c cc nL s args RX12) (hin : meth.name = "<init>") (hK : KK D cI cB cZ s) (hP : va_P D vwCl ws H) (hD : va_D A ws) (hS : va_S A H0 H locs) (q0 : Nat) (he : ws[q0]? = some (a, .inr (13, fs))) (hl : 85 < fs.length) (hn : narrow (tyX12 85) v = v) (hfit : fits (tyX12 85) v = true) (hdg : decode cc pc = .ok (.putfield 186, 3)) (kk : ∀ (H1 : Heap) (locs1 : List Loc), va_P D vwCl (ws.set q0 (a, .inr (13, fs.set 85 v))) H1 → va_D A (ws.set q0 (a, .inr (13, fs.set 85 v))) → va_S A H0 H1 locs1 → W p l e R s m args below meth c H1 locs1 cells slots Q (F0 m (pc + 3) ls rest)) : W p l e R s m args below meth c H locs cells slots Q (F0 m pc ls (v :: .ref a :: rest)) :=
  va_putF (C := RX12) (T := TX12) (N := 91) S.1 S.2.1 S.2.2.2.2 hin_RX12 tyX12 tyX12_ok nmX12 S.2.2.2.1 hK.1 hP hD hS q0 he rfl 85 (by decide) (S.2.2.2.2 _ (wk6_16 6 rfl rfl)) (fun _ h9 => h9) rfl hin rfl (tyX12_ok 85 (by decide)) hn hfit hl hdg kk
set_option maxRecDepth 100000 in
theorem pf_RX12_189 {p : Program} {l : Launch} {e : Env} {R : Room} {s : State} {m : MethodId} {args : Array Value} {below : List Frame} {meth : Method} {c : Code} {H : Heap} {locs : List Loc} {cells slots : Nat} {Q : State → Prop} {cc : ByteArray} {nL pc : Nat} {D : va_G} {cI cB cZ : ClassId} {ws : va_W} {rest : List Value} {ls : Array Slot} {a : Nat} {fs : List Value} {v : Value} {A : Nat → Prop} {H0 : Heap} (S : SF p m c cc nL s args RX12) (hin : meth.name = "<init>") (hK : KK D cI cB cZ s) (hP : va_P D vwCl ws H) (hD : va_D A ws) (hS : va_S A H0 H locs) (q0 : Nat) (he : ws[q0]? = some (a, .inr (13, fs))) (hl : 86 < fs.length) (hn : narrow (tyX12 86) v = v) (hfit : fits (tyX12 86) v = true) (hdg : decode cc pc = .ok (.putfield 189, 3)) (kk : ∀ (H1 : Heap) (locs1 : List Loc), va_P D vwCl (ws.set q0 (a, .inr (13, fs.set 86 v))) H1 → va_D A (ws.set q0 (a, .inr (13, fs.set 86 v))) → va_S A H0 H1 locs1 → W p l e R s m args below meth c H1 locs1 cells slots Q (F0 m (pc + 3) ls rest)) : W p l e R s m args below meth c H locs cells slots Q (F0 m pc ls (v :: .ref a :: rest)) :=
  va_putF (C := RX12) (T := TX12) (N := 91) S.1 S.2.1 S.2.2.2.2 hin_RX12 tyX12 tyX12_ok nmX12 S.2.2.2.1 hK.1 hP hD hS q0 he rfl 86 (by decide) (S.2.2.2.2 _ (wk6_16 7 rfl rfl)) (fun _ h9 => h9) rfl hin rfl (tyX12_ok 86 (by decide)) hn hfit hl hdg kk
set_option maxRecDepth 100000 in
theorem pf_RX12_192 {p : Program} {l : Launch} {e : Env} {R : Room} {s : State} {m : MethodId} {args : Array Value} {below : List Frame} {meth : Method} {c : Code} {H : Heap} {locs : List Loc} {cells slots : Nat} {Q : State → Prop} {cc : ByteArray} {nL pc : Nat} {D : va_G} {cI cB cZ : ClassId} {ws : va_W} {rest : List Value} {ls : Array Slot} {a : Nat} {fs : List Value} {v : Value} {A : Nat → Prop} {H0 : Heap} (S : SF p m c cc nL s args RX12) (hin : meth.name = "<init>") (hK : KK D cI cB cZ s) (hP : va_P D vwCl ws H) (hD : va_D A ws) (hS : va_S A H0 H locs) (q0 : Nat) (he : ws[q0]? = some (a, .inr (13, fs))) (hl : 87 < fs.length) (hn : narrow (tyX12 87) v = v) (hfit : fits (tyX12 87) v = true) (hdg : decode cc pc = .ok (.putfield 192, 3)) (kk : ∀ (H1 : Heap) (locs1 : List Loc), va_P D vwCl (ws.set q0 (a, .inr (13, fs.set 87 v))) H1 → va_D A (ws.set q0 (a, .inr (13, fs.set 87 v))) → va_S A H0 H1 locs1 → W p l e R s m args below meth c H1 locs1 cells slots Q (F0 m (pc + 3) ls rest)) : W p l e R s m args below meth c H locs cells slots Q (F0 m pc ls (v :: .ref a :: rest)) :=
  va_putF (C := RX12) (T := TX12) (N := 91) S.1 S.2.1 S.2.2.2.2 hin_RX12 tyX12 tyX12_ok nmX12 S.2.2.2.1 hK.1 hP hD hS q0 he rfl 87 (by decide) (S.2.2.2.2 _ (wk6_16 8 rfl rfl)) (fun _ h9 => h9) rfl hin rfl (tyX12_ok 87 (by decide)) hn hfit hl hdg kk
set_option maxRecDepth 100000 in
theorem pf_RX12_195 {p : Program} {l : Launch} {e : Env} {R : Room} {s : State} {m : MethodId} {args : Array Value} {below : List Frame} {meth : Method} {c : Code} {H : Heap} {locs : List Loc} {cells slots : Nat} {Q : State → Prop} {cc : ByteArray} {nL pc : Nat} {D : va_G} {cI cB cZ : ClassId} {ws : va_W} {rest : List Value} {ls : Array Slot} {a : Nat} {fs : List Value} {v : Value} {A : Nat → Prop} {H0 : Heap} (S : SF p m c cc nL s args RX12) (hin : meth.name = "<init>") (hK : KK D cI cB cZ s) (hP : va_P D vwCl ws H) (hD : va_D A ws) (hS : va_S A H0 H locs) (q0 : Nat) (he : ws[q0]? = some (a, .inr (13, fs))) (hl : 88 < fs.length) (hn : narrow (tyX12 88) v = v) (hfit : fits (tyX12 88) v = true) (hdg : decode cc pc = .ok (.putfield 195, 3)) (kk : ∀ (H1 : Heap) (locs1 : List Loc), va_P D vwCl (ws.set q0 (a, .inr (13, fs.set 88 v))) H1 → va_D A (ws.set q0 (a, .inr (13, fs.set 88 v))) → va_S A H0 H1 locs1 → W p l e R s m args below meth c H1 locs1 cells slots Q (F0 m (pc + 3) ls rest)) : W p l e R s m args below meth c H locs cells slots Q (F0 m pc ls (v :: .ref a :: rest)) :=
  va_putF (C := RX12) (T := TX12) (N := 91) S.1 S.2.1 S.2.2.2.2 hin_RX12 tyX12 tyX12_ok nmX12 S.2.2.2.1 hK.1 hP hD hS q0 he rfl 88 (by decide) (S.2.2.2.2 _ (wk6_16 9 rfl rfl)) (fun _ h9 => h9) rfl hin rfl (tyX12_ok 88 (by decide)) hn hfit hl hdg kk
set_option maxRecDepth 100000 in
theorem pf_RX12_198 {p : Program} {l : Launch} {e : Env} {R : Room} {s : State} {m : MethodId} {args : Array Value} {below : List Frame} {meth : Method} {c : Code} {H : Heap} {locs : List Loc} {cells slots : Nat} {Q : State → Prop} {cc : ByteArray} {nL pc : Nat} {D : va_G} {cI cB cZ : ClassId} {ws : va_W} {rest : List Value} {ls : Array Slot} {a : Nat} {fs : List Value} {v : Value} {A : Nat → Prop} {H0 : Heap} (S : SF p m c cc nL s args RX12) (hin : meth.name = "<init>") (hK : KK D cI cB cZ s) (hP : va_P D vwCl ws H) (hD : va_D A ws) (hS : va_S A H0 H locs) (q0 : Nat) (he : ws[q0]? = some (a, .inr (13, fs))) (hl : 89 < fs.length) (hn : narrow (tyX12 89) v = v) (hfit : fits (tyX12 89) v = true) (hdg : decode cc pc = .ok (.putfield 198, 3)) (kk : ∀ (H1 : Heap) (locs1 : List Loc), va_P D vwCl (ws.set q0 (a, .inr (13, fs.set 89 v))) H1 → va_D A (ws.set q0 (a, .inr (13, fs.set 89 v))) → va_S A H0 H1 locs1 → W p l e R s m args below meth c H1 locs1 cells slots Q (F0 m (pc + 3) ls rest)) : W p l e R s m args below meth c H locs cells slots Q (F0 m pc ls (v :: .ref a :: rest)) :=
  va_putF (C := RX12) (T := TX12) (N := 91) S.1 S.2.1 S.2.2.2.2 hin_RX12 tyX12 tyX12_ok nmX12 S.2.2.2.1 hK.1 hP hD hS q0 he rfl 89 (by decide) (S.2.2.2.2 _ (wk6_16 10 rfl rfl)) (fun _ h9 => h9) rfl hin rfl (tyX12_ok 89 (by decide)) hn hfit hl hdg kk
set_option maxRecDepth 100000 in
theorem pf_RX12_201 {p : Program} {l : Launch} {e : Env} {R : Room} {s : State} {m : MethodId} {args : Array Value} {below : List Frame} {meth : Method} {c : Code} {H : Heap} {locs : List Loc} {cells slots : Nat} {Q : State → Prop} {cc : ByteArray} {nL pc : Nat} {D : va_G} {cI cB cZ : ClassId} {ws : va_W} {rest : List Value} {ls : Array Slot} {a : Nat} {fs : List Value} {v : Value} {A : Nat → Prop} {H0 : Heap} (S : SF p m c cc nL s args RX12) (hin : meth.name = "<init>") (hK : KK D cI cB cZ s) (hP : va_P D vwCl ws H) (hD : va_D A ws) (hS : va_S A H0 H locs) (q0 : Nat) (he : ws[q0]? = some (a, .inr (13, fs))) (hl : 90 < fs.length) (hn : narrow (tyX12 90) v = v) (hfit : fits (tyX12 90) v = true) (hdg : decode cc pc = .ok (.putfield 201, 3)) (kk : ∀ (H1 : Heap) (locs1 : List Loc), va_P D vwCl (ws.set q0 (a, .inr (13, fs.set 90 v))) H1 → va_D A (ws.set q0 (a, .inr (13, fs.set 90 v))) → va_S A H0 H1 locs1 → W p l e R s m args below meth c H1 locs1 cells slots Q (F0 m (pc + 3) ls rest)) : W p l e R s m args below meth c H locs cells slots Q (F0 m pc ls (v :: .ref a :: rest)) :=
  va_putF (C := RX12) (T := TX12) (N := 91) S.1 S.2.1 S.2.2.2.2 hin_RX12 tyX12 tyX12_ok nmX12 S.2.2.2.1 hK.1 hP hD hS q0 he rfl 90 (by decide) (S.2.2.2.2 _ (wk6_16 11 rfl rfl)) (fun _ h9 => h9) rfl hin rfl (tyX12_ok 90 (by decide)) hn hfit hl hdg kk
set_option maxRecDepth 100000 in
theorem gf_RX12_201 {p : Program} {l : Launch} {e : Env} {R : Room} {s : State} {m : MethodId} {args : Array Value} {below : List Frame} {meth : Method} {c : Code} {H : Heap} {locs : List Loc} {cells slots : Nat} {Q : State → Prop} {cc : ByteArray} {nL pc : Nat} {D : va_G} {cI cB cZ : ClassId} {ws : va_W} {rest : List Value} {ls : Array Slot} {a : Nat} {fs : List Value} {v : Value} (S : SF p m c cc nL s args RX12) (hK : KK D cI cB cZ s) (hP : va_P D vwCl ws H) (q0 : Nat) (he : ws[q0]? = some (a, .inr (13, fs))) (hv : fs[90]? = some v) (hdg : decode cc pc = .ok (.getfield 201, 3)) (kk : W p l e R s m args below meth c H locs cells slots Q (F0 m (pc + 3) ls (v :: rest))) : W p l e R s m args below meth c H locs cells slots Q (F0 m pc ls (.ref a :: rest)) :=
  va_get (C := RX12) (T := TX12) (N := 91) S.1 S.2.1 S.2.2.2.2 hin_RX12 S.2.2.2.1 hK.1 hP q0 he rfl 90 (by decide) (S.2.2.2.2 _ (wk6_16 11 rfl rfl)) (fun _ h9 => h9) hv hdg kk
noncomputable def sxX8_init_14 : List UInt8 := []
noncomputable def sxX8_init_13 : List UInt8 := 177 :: sxX8_init_14
noncomputable def sxX8_init_10 : List UInt8 := 181 :: 0 :: 9 :: sxX8_init_13
noncomputable def sxX8_init_8 : List UInt8 := 188 :: 10 :: sxX8_init_10
noncomputable def sxX8_init_5 : List UInt8 := 17 :: 0 :: 200 :: sxX8_init_8
noncomputable def sxX8_init_4 : List UInt8 := 42 :: sxX8_init_5
noncomputable def sxX8_init_1 : List UInt8 := 183 :: 0 :: 1 :: sxX8_init_4
noncomputable def sxX8_init_0 : List UInt8 := 42 :: sxX8_init_1
theorem shX8_init_0 : cX8_init.data.toList.drop 0 = sxX8_init_0 := rfl
theorem shX8_init_1 : cX8_init.data.toList.drop 1 = sxX8_init_1 := dSn 1 shX8_init_0
theorem shX8_init_4 : cX8_init.data.toList.drop 4 = sxX8_init_4 := dSn 3 shX8_init_1
theorem shX8_init_5 : cX8_init.data.toList.drop 5 = sxX8_init_5 := dSn 1 shX8_init_4
theorem shX8_init_8 : cX8_init.data.toList.drop 8 = sxX8_init_8 := dSn 3 shX8_init_5
theorem shX8_init_10 : cX8_init.data.toList.drop 10 = sxX8_init_10 := dSn 2 shX8_init_8
theorem shX8_init_13 : cX8_init.data.toList.drop 13 = sxX8_init_13 := dSn 3 shX8_init_10
theorem dX8_init_0 : decode cX8_init 0 = .ok (.aload_n 0, 1) := oc_42 shX8_init_0
theorem dX8_init_1 : decode cX8_init 1 = .ok (.invokespecial 1, 3) := oc_183 shX8_init_1
theorem dX8_init_4 : decode cX8_init 4 = .ok (.aload_n 0, 1) := oc_42 shX8_init_4
theorem dX8_init_5 : decode cX8_init 5 = .ok (.sipush 200, 3) := oc_17 shX8_init_5 sgw_0_200
theorem dX8_init_8 : decode cX8_init 8 = .ok (.newarray .int, 2) := oc_188_10 shX8_init_8
theorem dX8_init_10 : decode cX8_init 10 = .ok (.putfield 9, 3) := oc_181 shX8_init_10
theorem dX8_init_13 : decode cX8_init 13 = .ok (.return_, 1) := oc_177 shX8_init_13
noncomputable def sxX5_init_24 : List UInt8 := []
noncomputable def sxX5_init_23 : List UInt8 := 177 :: sxX5_init_24
noncomputable def sxX5_init_20 : List UInt8 := 181 :: 0 :: 20 :: sxX5_init_23
noncomputable def sxX5_init_17 : List UInt8 := 183 :: 0 :: 17 :: sxX5_init_20
noncomputable def sxX5_init_16 : List UInt8 := 3 :: sxX5_init_17
noncomputable def sxX5_init_15 : List UInt8 := 89 :: sxX5_init_16
noncomputable def sxX5_init_12 : List UInt8 := 187 :: 0 :: 15 :: sxX5_init_15
noncomputable def sxX5_init_11 : List UInt8 := 42 :: sxX5_init_12
noncomputable def sxX5_init_8 : List UInt8 := 181 :: 0 :: 9 :: sxX5_init_11
noncomputable def sxX5_init_6 : List UInt8 := 188 :: 10 :: sxX5_init_8
noncomputable def sxX5_init_5 : List UInt8 := 3 :: sxX5_init_6
noncomputable def sxX5_init_4 : List UInt8 := 42 :: sxX5_init_5
noncomputable def sxX5_init_1 : List UInt8 := 183 :: 0 :: 3 :: sxX5_init_4
noncomputable def sxX5_init_0 : List UInt8 := 42 :: sxX5_init_1
theorem shX5_init_0 : cX5_init.data.toList.drop 0 = sxX5_init_0 := rfl
theorem shX5_init_1 : cX5_init.data.toList.drop 1 = sxX5_init_1 := dSn 1 shX5_init_0
theorem shX5_init_4 : cX5_init.data.toList.drop 4 = sxX5_init_4 := dSn 3 shX5_init_1
theorem shX5_init_5 : cX5_init.data.toList.drop 5 = sxX5_init_5 := dSn 1 shX5_init_4
theorem shX5_init_6 : cX5_init.data.toList.drop 6 = sxX5_init_6 := dSn 1 shX5_init_5
theorem shX5_init_8 : cX5_init.data.toList.drop 8 = sxX5_init_8 := dSn 2 shX5_init_6
theorem shX5_init_11 : cX5_init.data.toList.drop 11 = sxX5_init_11 := dSn 3 shX5_init_8
theorem shX5_init_12 : cX5_init.data.toList.drop 12 = sxX5_init_12 := dSn 1 shX5_init_11
theorem shX5_init_15 : cX5_init.data.toList.drop 15 = sxX5_init_15 := dSn 3 shX5_init_12
theorem shX5_init_16 : cX5_init.data.toList.drop 16 = sxX5_init_16 := dSn 1 shX5_init_15
theorem shX5_init_17 : cX5_init.data.toList.drop 17 = sxX5_init_17 := dSn 1 shX5_init_16
theorem shX5_init_20 : cX5_init.data.toList.drop 20 = sxX5_init_20 := dSn 3 shX5_init_17
theorem shX5_init_23 : cX5_init.data.toList.drop 23 = sxX5_init_23 := dSn 3 shX5_init_20
theorem dX5_init_0 : decode cX5_init 0 = .ok (.aload_n 0, 1) := oc_42 shX5_init_0
theorem dX5_init_1 : decode cX5_init 1 = .ok (.invokespecial 3, 3) := oc_183 shX5_init_1
theorem dX5_init_4 : decode cX5_init 4 = .ok (.aload_n 0, 1) := oc_42 shX5_init_4
theorem dX5_init_5 : decode cX5_init 5 = .ok (.iconst 0, 1) := oc_3 shX5_init_5
theorem dX5_init_6 : decode cX5_init 6 = .ok (.newarray .int, 2) := oc_188_10 shX5_init_6
theorem dX5_init_8 : decode cX5_init 8 = .ok (.putfield 9, 3) := oc_181 shX5_init_8
theorem dX5_init_11 : decode cX5_init 11 = .ok (.aload_n 0, 1) := oc_42 shX5_init_11
theorem dX5_init_12 : decode cX5_init 12 = .ok (.new 15, 3) := oc_187 shX5_init_12
theorem dX5_init_15 : decode cX5_init 15 = .ok (.dup, 1) := oc_89 shX5_init_15
theorem dX5_init_16 : decode cX5_init 16 = .ok (.iconst 0, 1) := oc_3 shX5_init_16
theorem dX5_init_17 : decode cX5_init 17 = .ok (.invokespecial 17, 3) := oc_183 shX5_init_17
theorem dX5_init_20 : decode cX5_init 20 = .ok (.putfield 20, 3) := oc_181 shX5_init_20
theorem dX5_init_23 : decode cX5_init 23 = .ok (.return_, 1) := oc_177 shX5_init_23
noncomputable def sxJ7_fill_53178_21 : List UInt8 := []
noncomputable def sxJ7_fill_53178_20 : List UInt8 := 177 :: sxJ7_fill_53178_21
noncomputable def sxJ7_fill_53178_17 : List UInt8 := 167 :: 255 :: 244 :: sxJ7_fill_53178_20
noncomputable def sxJ7_fill_53178_14 : List UInt8 := 132 :: 2 :: 1 :: sxJ7_fill_53178_17
noncomputable def sxJ7_fill_53178_13 : List UInt8 := 79 :: sxJ7_fill_53178_14
noncomputable def sxJ7_fill_53178_12 : List UInt8 := 27 :: sxJ7_fill_53178_13
noncomputable def sxJ7_fill_53178_11 : List UInt8 := 28 :: sxJ7_fill_53178_12
noncomputable def sxJ7_fill_53178_10 : List UInt8 := 42 :: sxJ7_fill_53178_11
noncomputable def sxJ7_fill_53178_7 : List UInt8 := 162 :: 0 :: 13 :: sxJ7_fill_53178_10
noncomputable def sxJ7_fill_53178_6 : List UInt8 := 29 :: sxJ7_fill_53178_7
noncomputable def sxJ7_fill_53178_5 : List UInt8 := 28 :: sxJ7_fill_53178_6
noncomputable def sxJ7_fill_53178_4 : List UInt8 := 62 :: sxJ7_fill_53178_5
noncomputable def sxJ7_fill_53178_3 : List UInt8 := 190 :: sxJ7_fill_53178_4
noncomputable def sxJ7_fill_53178_2 : List UInt8 := 42 :: sxJ7_fill_53178_3
noncomputable def sxJ7_fill_53178_1 : List UInt8 := 61 :: sxJ7_fill_53178_2
noncomputable def sxJ7_fill_53178_0 : List UInt8 := 3 :: sxJ7_fill_53178_1
theorem shJ7_fill_53178_0 : cJ7_fill_53178.data.toList.drop 0 = sxJ7_fill_53178_0 := rfl
theorem shJ7_fill_53178_1 : cJ7_fill_53178.data.toList.drop 1 = sxJ7_fill_53178_1 := dSn 1 shJ7_fill_53178_0
theorem shJ7_fill_53178_2 : cJ7_fill_53178.data.toList.drop 2 = sxJ7_fill_53178_2 := dSn 1 shJ7_fill_53178_1
theorem shJ7_fill_53178_3 : cJ7_fill_53178.data.toList.drop 3 = sxJ7_fill_53178_3 := dSn 1 shJ7_fill_53178_2
theorem shJ7_fill_53178_4 : cJ7_fill_53178.data.toList.drop 4 = sxJ7_fill_53178_4 := dSn 1 shJ7_fill_53178_3
theorem shJ7_fill_53178_5 : cJ7_fill_53178.data.toList.drop 5 = sxJ7_fill_53178_5 := dSn 1 shJ7_fill_53178_4
theorem shJ7_fill_53178_6 : cJ7_fill_53178.data.toList.drop 6 = sxJ7_fill_53178_6 := dSn 1 shJ7_fill_53178_5
theorem shJ7_fill_53178_7 : cJ7_fill_53178.data.toList.drop 7 = sxJ7_fill_53178_7 := dSn 1 shJ7_fill_53178_6
theorem shJ7_fill_53178_10 : cJ7_fill_53178.data.toList.drop 10 = sxJ7_fill_53178_10 := dSn 3 shJ7_fill_53178_7
theorem shJ7_fill_53178_11 : cJ7_fill_53178.data.toList.drop 11 = sxJ7_fill_53178_11 := dSn 1 shJ7_fill_53178_10
theorem shJ7_fill_53178_12 : cJ7_fill_53178.data.toList.drop 12 = sxJ7_fill_53178_12 := dSn 1 shJ7_fill_53178_11
theorem shJ7_fill_53178_13 : cJ7_fill_53178.data.toList.drop 13 = sxJ7_fill_53178_13 := dSn 1 shJ7_fill_53178_12
theorem shJ7_fill_53178_14 : cJ7_fill_53178.data.toList.drop 14 = sxJ7_fill_53178_14 := dSn 1 shJ7_fill_53178_13
theorem shJ7_fill_53178_17 : cJ7_fill_53178.data.toList.drop 17 = sxJ7_fill_53178_17 := dSn 3 shJ7_fill_53178_14
theorem shJ7_fill_53178_20 : cJ7_fill_53178.data.toList.drop 20 = sxJ7_fill_53178_20 := dSn 3 shJ7_fill_53178_17
theorem dJ7_fill_53178_0 : decode cJ7_fill_53178 0 = .ok (.iconst 0, 1) := oc_3 shJ7_fill_53178_0
theorem dJ7_fill_53178_1 : decode cJ7_fill_53178 1 = .ok (.istore_n 2, 1) := oc_61 shJ7_fill_53178_1
theorem dJ7_fill_53178_2 : decode cJ7_fill_53178 2 = .ok (.aload_n 0, 1) := oc_42 shJ7_fill_53178_2
theorem dJ7_fill_53178_3 : decode cJ7_fill_53178 3 = .ok (.arraylength, 1) := oc_190 shJ7_fill_53178_3
theorem dJ7_fill_53178_4 : decode cJ7_fill_53178 4 = .ok (.istore_n 3, 1) := oc_62 shJ7_fill_53178_4
theorem dJ7_fill_53178_5 : decode cJ7_fill_53178 5 = .ok (.iload_n 2, 1) := oc_28 shJ7_fill_53178_5
theorem dJ7_fill_53178_6 : decode cJ7_fill_53178 6 = .ok (.iload_n 3, 1) := oc_29 shJ7_fill_53178_6
theorem dJ7_fill_53178_7 : decode cJ7_fill_53178 7 = .ok (.if_icmp .ge 13, 3) := oc_162 shJ7_fill_53178_7 sgw_0_13
theorem dJ7_fill_53178_20 : decode cJ7_fill_53178 20 = .ok (.return_, 1) := oc_177 shJ7_fill_53178_20
theorem dJ7_fill_53178_10 : decode cJ7_fill_53178 10 = .ok (.aload_n 0, 1) := oc_42 shJ7_fill_53178_10
theorem dJ7_fill_53178_11 : decode cJ7_fill_53178 11 = .ok (.iload_n 2, 1) := oc_28 shJ7_fill_53178_11
theorem dJ7_fill_53178_12 : decode cJ7_fill_53178 12 = .ok (.iload_n 1, 1) := oc_27 shJ7_fill_53178_12
theorem dJ7_fill_53178_13 : decode cJ7_fill_53178 13 = .ok (.iastore, 1) := oc_79 shJ7_fill_53178_13
theorem dJ7_fill_53178_14 : decode cJ7_fill_53178 14 = .ok (.iinc 2 1, 3) := oc_132 shJ7_fill_53178_14 sgb_1
theorem dJ7_fill_53178_17 : decode cJ7_fill_53178 17 = .ok (.goto (-12), 3) := oc_167 shJ7_fill_53178_17 sgw_255_244
noncomputable def sxX7_init_98 : List UInt8 := []
noncomputable def sxX7_init_97 : List UInt8 := 177 :: sxX7_init_98
noncomputable def sxX7_init_94 : List UInt8 := 181 :: 0 :: 45 :: sxX7_init_97
noncomputable def sxX7_init_92 : List UInt8 := 188 :: 10 :: sxX7_init_94
noncomputable def sxX7_init_89 : List UInt8 := 17 :: 1 :: 144 :: sxX7_init_92
noncomputable def sxX7_init_88 : List UInt8 := 42 :: sxX7_init_89
noncomputable def sxX7_init_85 : List UInt8 := 181 :: 0 :: 42 :: sxX7_init_88
noncomputable def sxX7_init_83 : List UInt8 := 188 :: 10 :: sxX7_init_85
noncomputable def sxX7_init_80 : List UInt8 := 17 :: 4 :: 176 :: sxX7_init_83
noncomputable def sxX7_init_79 : List UInt8 := 42 :: sxX7_init_80
noncomputable def sxX7_init_76 : List UInt8 := 181 :: 0 :: 39 :: sxX7_init_79
noncomputable def sxX7_init_74 : List UInt8 := 188 :: 10 :: sxX7_init_76
noncomputable def sxX7_init_73 : List UInt8 := 6 :: sxX7_init_74
noncomputable def sxX7_init_72 : List UInt8 := 42 :: sxX7_init_73
noncomputable def sxX7_init_69 : List UInt8 := 181 :: 0 :: 36 :: sxX7_init_72
noncomputable def sxX7_init_67 : List UInt8 := 188 :: 10 :: sxX7_init_69
noncomputable def sxX7_init_64 : List UInt8 := 17 :: 0 :: 232 :: sxX7_init_67
noncomputable def sxX7_init_63 : List UInt8 := 42 :: sxX7_init_64
noncomputable def sxX7_init_60 : List UInt8 := 181 :: 0 :: 33 :: sxX7_init_63
noncomputable def sxX7_init_58 : List UInt8 := 188 :: 10 :: sxX7_init_60
noncomputable def sxX7_init_56 : List UInt8 := 16 :: 10 :: sxX7_init_58
noncomputable def sxX7_init_55 : List UInt8 := 42 :: sxX7_init_56
noncomputable def sxX7_init_52 : List UInt8 := 181 :: 0 :: 30 :: sxX7_init_55
noncomputable def sxX7_init_50 : List UInt8 := 188 :: 10 :: sxX7_init_52
noncomputable def sxX7_init_48 : List UInt8 := 16 :: 10 :: sxX7_init_50
noncomputable def sxX7_init_47 : List UInt8 := 42 :: sxX7_init_48
noncomputable def sxX7_init_44 : List UInt8 := 181 :: 0 :: 27 :: sxX7_init_47
noncomputable def sxX7_init_42 : List UInt8 := 188 :: 10 :: sxX7_init_44
noncomputable def sxX7_init_39 : List UInt8 := 17 :: 1 :: 144 :: sxX7_init_42
noncomputable def sxX7_init_38 : List UInt8 := 42 :: sxX7_init_39
noncomputable def sxX7_init_35 : List UInt8 := 184 :: 0 :: 21 :: sxX7_init_38
noncomputable def sxX7_init_33 : List UInt8 := 16 :: 15 :: sxX7_init_35
noncomputable def sxX7_init_30 : List UInt8 := 180 :: 0 :: 18 :: sxX7_init_33
noncomputable def sxX7_init_29 : List UInt8 := 42 :: sxX7_init_30
noncomputable def sxX7_init_26 : List UInt8 := 181 :: 0 :: 18 :: sxX7_init_29
noncomputable def sxX7_init_24 : List UInt8 := 188 :: 10 :: sxX7_init_26
noncomputable def sxX7_init_21 : List UInt8 := 17 :: 1 :: 144 :: sxX7_init_24
noncomputable def sxX7_init_20 : List UInt8 := 42 :: sxX7_init_21
noncomputable def sxX7_init_17 : List UInt8 := 181 :: 0 :: 15 :: sxX7_init_20
noncomputable def sxX7_init_15 : List UInt8 := 188 :: 10 :: sxX7_init_17
noncomputable def sxX7_init_13 : List UInt8 := 16 :: 24 :: sxX7_init_15
noncomputable def sxX7_init_12 : List UInt8 := 42 :: sxX7_init_13
noncomputable def sxX7_init_9 : List UInt8 := 181 :: 0 :: 9 :: sxX7_init_12
noncomputable def sxX7_init_7 : List UInt8 := 188 :: 10 :: sxX7_init_9
noncomputable def sxX7_init_5 : List UInt8 := 16 :: 58 :: sxX7_init_7
noncomputable def sxX7_init_4 : List UInt8 := 42 :: sxX7_init_5
noncomputable def sxX7_init_1 : List UInt8 := 183 :: 0 :: 3 :: sxX7_init_4
noncomputable def sxX7_init_0 : List UInt8 := 42 :: sxX7_init_1
theorem shX7_init_0 : cX7_init.data.toList.drop 0 = sxX7_init_0 := rfl
theorem shX7_init_1 : cX7_init.data.toList.drop 1 = sxX7_init_1 := dSn 1 shX7_init_0
theorem shX7_init_4 : cX7_init.data.toList.drop 4 = sxX7_init_4 := dSn 3 shX7_init_1
theorem shX7_init_5 : cX7_init.data.toList.drop 5 = sxX7_init_5 := dSn 1 shX7_init_4
theorem shX7_init_7 : cX7_init.data.toList.drop 7 = sxX7_init_7 := dSn 2 shX7_init_5
theorem shX7_init_9 : cX7_init.data.toList.drop 9 = sxX7_init_9 := dSn 2 shX7_init_7
theorem shX7_init_12 : cX7_init.data.toList.drop 12 = sxX7_init_12 := dSn 3 shX7_init_9
theorem shX7_init_13 : cX7_init.data.toList.drop 13 = sxX7_init_13 := dSn 1 shX7_init_12
theorem shX7_init_15 : cX7_init.data.toList.drop 15 = sxX7_init_15 := dSn 2 shX7_init_13
theorem shX7_init_17 : cX7_init.data.toList.drop 17 = sxX7_init_17 := dSn 2 shX7_init_15
theorem shX7_init_20 : cX7_init.data.toList.drop 20 = sxX7_init_20 := dSn 3 shX7_init_17
theorem shX7_init_21 : cX7_init.data.toList.drop 21 = sxX7_init_21 := dSn 1 shX7_init_20
theorem shX7_init_24 : cX7_init.data.toList.drop 24 = sxX7_init_24 := dSn 3 shX7_init_21
theorem shX7_init_26 : cX7_init.data.toList.drop 26 = sxX7_init_26 := dSn 2 shX7_init_24
theorem shX7_init_29 : cX7_init.data.toList.drop 29 = sxX7_init_29 := dSn 3 shX7_init_26
theorem shX7_init_30 : cX7_init.data.toList.drop 30 = sxX7_init_30 := dSn 1 shX7_init_29
theorem shX7_init_33 : cX7_init.data.toList.drop 33 = sxX7_init_33 := dSn 3 shX7_init_30
theorem shX7_init_35 : cX7_init.data.toList.drop 35 = sxX7_init_35 := dSn 2 shX7_init_33
theorem shX7_init_38 : cX7_init.data.toList.drop 38 = sxX7_init_38 := dSn 3 shX7_init_35
theorem shX7_init_39 : cX7_init.data.toList.drop 39 = sxX7_init_39 := dSn 1 shX7_init_38
theorem shX7_init_42 : cX7_init.data.toList.drop 42 = sxX7_init_42 := dSn 3 shX7_init_39
theorem shX7_init_44 : cX7_init.data.toList.drop 44 = sxX7_init_44 := dSn 2 shX7_init_42
theorem shX7_init_47 : cX7_init.data.toList.drop 47 = sxX7_init_47 := dSn 3 shX7_init_44
theorem shX7_init_48 : cX7_init.data.toList.drop 48 = sxX7_init_48 := dSn 1 shX7_init_47
theorem shX7_init_50 : cX7_init.data.toList.drop 50 = sxX7_init_50 := dSn 2 shX7_init_48
theorem shX7_init_52 : cX7_init.data.toList.drop 52 = sxX7_init_52 := dSn 2 shX7_init_50
theorem shX7_init_55 : cX7_init.data.toList.drop 55 = sxX7_init_55 := dSn 3 shX7_init_52
theorem shX7_init_56 : cX7_init.data.toList.drop 56 = sxX7_init_56 := dSn 1 shX7_init_55
theorem shX7_init_58 : cX7_init.data.toList.drop 58 = sxX7_init_58 := dSn 2 shX7_init_56
theorem shX7_init_60 : cX7_init.data.toList.drop 60 = sxX7_init_60 := dSn 2 shX7_init_58
theorem shX7_init_63 : cX7_init.data.toList.drop 63 = sxX7_init_63 := dSn 3 shX7_init_60
theorem shX7_init_64 : cX7_init.data.toList.drop 64 = sxX7_init_64 := dSn 1 shX7_init_63
theorem shX7_init_67 : cX7_init.data.toList.drop 67 = sxX7_init_67 := dSn 3 shX7_init_64
theorem shX7_init_69 : cX7_init.data.toList.drop 69 = sxX7_init_69 := dSn 2 shX7_init_67
theorem shX7_init_72 : cX7_init.data.toList.drop 72 = sxX7_init_72 := dSn 3 shX7_init_69
theorem shX7_init_73 : cX7_init.data.toList.drop 73 = sxX7_init_73 := dSn 1 shX7_init_72
theorem shX7_init_74 : cX7_init.data.toList.drop 74 = sxX7_init_74 := dSn 1 shX7_init_73
theorem shX7_init_76 : cX7_init.data.toList.drop 76 = sxX7_init_76 := dSn 2 shX7_init_74
theorem shX7_init_79 : cX7_init.data.toList.drop 79 = sxX7_init_79 := dSn 3 shX7_init_76
theorem shX7_init_80 : cX7_init.data.toList.drop 80 = sxX7_init_80 := dSn 1 shX7_init_79
theorem shX7_init_83 : cX7_init.data.toList.drop 83 = sxX7_init_83 := dSn 3 shX7_init_80
theorem shX7_init_85 : cX7_init.data.toList.drop 85 = sxX7_init_85 := dSn 2 shX7_init_83
theorem shX7_init_88 : cX7_init.data.toList.drop 88 = sxX7_init_88 := dSn 3 shX7_init_85
theorem shX7_init_89 : cX7_init.data.toList.drop 89 = sxX7_init_89 := dSn 1 shX7_init_88
theorem shX7_init_92 : cX7_init.data.toList.drop 92 = sxX7_init_92 := dSn 3 shX7_init_89
theorem shX7_init_94 : cX7_init.data.toList.drop 94 = sxX7_init_94 := dSn 2 shX7_init_92
theorem shX7_init_97 : cX7_init.data.toList.drop 97 = sxX7_init_97 := dSn 3 shX7_init_94
theorem dX7_init_0 : decode cX7_init 0 = .ok (.aload_n 0, 1) := oc_42 shX7_init_0
theorem dX7_init_1 : decode cX7_init 1 = .ok (.invokespecial 3, 3) := oc_183 shX7_init_1
theorem dX7_init_4 : decode cX7_init 4 = .ok (.aload_n 0, 1) := oc_42 shX7_init_4
theorem dX7_init_5 : decode cX7_init 5 = .ok (.bipush 58, 2) := oc_16 shX7_init_5 sgb_58
theorem dX7_init_7 : decode cX7_init 7 = .ok (.newarray .int, 2) := oc_188_10 shX7_init_7
theorem dX7_init_9 : decode cX7_init 9 = .ok (.putfield 9, 3) := oc_181 shX7_init_9
theorem dX7_init_12 : decode cX7_init 12 = .ok (.aload_n 0, 1) := oc_42 shX7_init_12
theorem dX7_init_13 : decode cX7_init 13 = .ok (.bipush 24, 2) := oc_16 shX7_init_13 sgb_24
theorem dX7_init_15 : decode cX7_init 15 = .ok (.newarray .int, 2) := oc_188_10 shX7_init_15
theorem dX7_init_17 : decode cX7_init 17 = .ok (.putfield 15, 3) := oc_181 shX7_init_17
theorem dX7_init_20 : decode cX7_init 20 = .ok (.aload_n 0, 1) := oc_42 shX7_init_20
theorem dX7_init_21 : decode cX7_init 21 = .ok (.sipush 400, 3) := oc_17 shX7_init_21 sgw_1_144
theorem dX7_init_24 : decode cX7_init 24 = .ok (.newarray .int, 2) := oc_188_10 shX7_init_24
theorem dX7_init_26 : decode cX7_init 26 = .ok (.putfield 18, 3) := oc_181 shX7_init_26
theorem dX7_init_29 : decode cX7_init 29 = .ok (.aload_n 0, 1) := oc_42 shX7_init_29
theorem dX7_init_30 : decode cX7_init 30 = .ok (.getfield 18, 3) := oc_180 shX7_init_30
theorem dX7_init_33 : decode cX7_init 33 = .ok (.bipush 15, 2) := oc_16 shX7_init_33 sgb_15
theorem dX7_init_35 : decode cX7_init 35 = .ok (.invokestatic 21, 3) := oc_184 shX7_init_35
theorem dX7_init_38 : decode cX7_init 38 = .ok (.aload_n 0, 1) := oc_42 shX7_init_38
theorem dX7_init_39 : decode cX7_init 39 = .ok (.sipush 400, 3) := oc_17 shX7_init_39 sgw_1_144
theorem dX7_init_42 : decode cX7_init 42 = .ok (.newarray .int, 2) := oc_188_10 shX7_init_42
theorem dX7_init_44 : decode cX7_init 44 = .ok (.putfield 27, 3) := oc_181 shX7_init_44
theorem dX7_init_47 : decode cX7_init 47 = .ok (.aload_n 0, 1) := oc_42 shX7_init_47
theorem dX7_init_48 : decode cX7_init 48 = .ok (.bipush 10, 2) := oc_16 shX7_init_48 sgb_10
theorem dX7_init_50 : decode cX7_init 50 = .ok (.newarray .int, 2) := oc_188_10 shX7_init_50
theorem dX7_init_52 : decode cX7_init 52 = .ok (.putfield 30, 3) := oc_181 shX7_init_52
theorem dX7_init_55 : decode cX7_init 55 = .ok (.aload_n 0, 1) := oc_42 shX7_init_55
theorem dX7_init_56 : decode cX7_init 56 = .ok (.bipush 10, 2) := oc_16 shX7_init_56 sgb_10
theorem dX7_init_58 : decode cX7_init 58 = .ok (.newarray .int, 2) := oc_188_10 shX7_init_58
theorem dX7_init_60 : decode cX7_init 60 = .ok (.putfield 33, 3) := oc_181 shX7_init_60
theorem dX7_init_63 : decode cX7_init 63 = .ok (.aload_n 0, 1) := oc_42 shX7_init_63
theorem dX7_init_64 : decode cX7_init 64 = .ok (.sipush 232, 3) := oc_17 shX7_init_64 sgw_0_232
theorem dX7_init_67 : decode cX7_init 67 = .ok (.newarray .int, 2) := oc_188_10 shX7_init_67
theorem dX7_init_69 : decode cX7_init 69 = .ok (.putfield 36, 3) := oc_181 shX7_init_69
theorem dX7_init_72 : decode cX7_init 72 = .ok (.aload_n 0, 1) := oc_42 shX7_init_72
theorem dX7_init_73 : decode cX7_init 73 = .ok (.iconst 3, 1) := oc_6 shX7_init_73
theorem dX7_init_74 : decode cX7_init 74 = .ok (.newarray .int, 2) := oc_188_10 shX7_init_74
theorem dX7_init_76 : decode cX7_init 76 = .ok (.putfield 39, 3) := oc_181 shX7_init_76
theorem dX7_init_79 : decode cX7_init 79 = .ok (.aload_n 0, 1) := oc_42 shX7_init_79
theorem dX7_init_80 : decode cX7_init 80 = .ok (.sipush 1200, 3) := oc_17 shX7_init_80 sgw_4_176
theorem dX7_init_83 : decode cX7_init 83 = .ok (.newarray .int, 2) := oc_188_10 shX7_init_83
theorem dX7_init_85 : decode cX7_init 85 = .ok (.putfield 42, 3) := oc_181 shX7_init_85
theorem dX7_init_88 : decode cX7_init 88 = .ok (.aload_n 0, 1) := oc_42 shX7_init_88
theorem dX7_init_89 : decode cX7_init 89 = .ok (.sipush 400, 3) := oc_17 shX7_init_89 sgw_1_144
theorem dX7_init_92 : decode cX7_init 92 = .ok (.newarray .int, 2) := oc_188_10 shX7_init_92
theorem dX7_init_94 : decode cX7_init 94 = .ok (.putfield 45, 3) := oc_181 shX7_init_94
theorem dX7_init_97 : decode cX7_init 97 = .ok (.return_, 1) := oc_177 shX7_init_97
noncomputable def sxX10_init_55 : List UInt8 := []
noncomputable def sxX10_init_54 : List UInt8 := 177 :: sxX10_init_55
noncomputable def sxX10_init_51 : List UInt8 := 181 :: 0 :: 27 :: sxX10_init_54
noncomputable def sxX10_init_49 : List UInt8 := 188 :: 10 :: sxX10_init_51
noncomputable def sxX10_init_46 : List UInt8 := 17 :: 1 :: 0 :: sxX10_init_49
noncomputable def sxX10_init_45 : List UInt8 := 42 :: sxX10_init_46
noncomputable def sxX10_init_42 : List UInt8 := 181 :: 0 :: 24 :: sxX10_init_45
noncomputable def sxX10_init_40 : List UInt8 := 188 :: 10 :: sxX10_init_42
noncomputable def sxX10_init_37 : List UInt8 := 17 :: 8 :: 0 :: sxX10_init_40
noncomputable def sxX10_init_36 : List UInt8 := 42 :: sxX10_init_37
noncomputable def sxX10_init_33 : List UInt8 := 181 :: 0 :: 21 :: sxX10_init_36
noncomputable def sxX10_init_31 : List UInt8 := 188 :: 10 :: sxX10_init_33
noncomputable def sxX10_init_29 : List UInt8 := 16 :: 8 :: sxX10_init_31
noncomputable def sxX10_init_28 : List UInt8 := 42 :: sxX10_init_29
noncomputable def sxX10_init_25 : List UInt8 := 181 :: 0 :: 18 :: sxX10_init_28
noncomputable def sxX10_init_23 : List UInt8 := 188 :: 10 :: sxX10_init_25
noncomputable def sxX10_init_21 : List UInt8 := 16 :: 8 :: sxX10_init_23
noncomputable def sxX10_init_20 : List UInt8 := 42 :: sxX10_init_21
noncomputable def sxX10_init_17 : List UInt8 := 181 :: 0 :: 15 :: sxX10_init_20
noncomputable def sxX10_init_15 : List UInt8 := 188 :: 10 :: sxX10_init_17
noncomputable def sxX10_init_13 : List UInt8 := 16 :: 8 :: sxX10_init_15
noncomputable def sxX10_init_12 : List UInt8 := 42 :: sxX10_init_13
noncomputable def sxX10_init_9 : List UInt8 := 181 :: 0 :: 9 :: sxX10_init_12
noncomputable def sxX10_init_7 : List UInt8 := 188 :: 10 :: sxX10_init_9
noncomputable def sxX10_init_5 : List UInt8 := 16 :: 8 :: sxX10_init_7
noncomputable def sxX10_init_4 : List UInt8 := 42 :: sxX10_init_5
noncomputable def sxX10_init_1 : List UInt8 := 183 :: 0 :: 3 :: sxX10_init_4
noncomputable def sxX10_init_0 : List UInt8 := 42 :: sxX10_init_1
theorem shX10_init_0 : cX10_init.data.toList.drop 0 = sxX10_init_0 := rfl
theorem shX10_init_1 : cX10_init.data.toList.drop 1 = sxX10_init_1 := dSn 1 shX10_init_0
theorem shX10_init_4 : cX10_init.data.toList.drop 4 = sxX10_init_4 := dSn 3 shX10_init_1
theorem shX10_init_5 : cX10_init.data.toList.drop 5 = sxX10_init_5 := dSn 1 shX10_init_4
theorem shX10_init_7 : cX10_init.data.toList.drop 7 = sxX10_init_7 := dSn 2 shX10_init_5
theorem shX10_init_9 : cX10_init.data.toList.drop 9 = sxX10_init_9 := dSn 2 shX10_init_7
theorem shX10_init_12 : cX10_init.data.toList.drop 12 = sxX10_init_12 := dSn 3 shX10_init_9
theorem shX10_init_13 : cX10_init.data.toList.drop 13 = sxX10_init_13 := dSn 1 shX10_init_12
theorem shX10_init_15 : cX10_init.data.toList.drop 15 = sxX10_init_15 := dSn 2 shX10_init_13
theorem shX10_init_17 : cX10_init.data.toList.drop 17 = sxX10_init_17 := dSn 2 shX10_init_15
theorem shX10_init_20 : cX10_init.data.toList.drop 20 = sxX10_init_20 := dSn 3 shX10_init_17
theorem shX10_init_21 : cX10_init.data.toList.drop 21 = sxX10_init_21 := dSn 1 shX10_init_20
theorem shX10_init_23 : cX10_init.data.toList.drop 23 = sxX10_init_23 := dSn 2 shX10_init_21
theorem shX10_init_25 : cX10_init.data.toList.drop 25 = sxX10_init_25 := dSn 2 shX10_init_23
theorem shX10_init_28 : cX10_init.data.toList.drop 28 = sxX10_init_28 := dSn 3 shX10_init_25
theorem shX10_init_29 : cX10_init.data.toList.drop 29 = sxX10_init_29 := dSn 1 shX10_init_28
theorem shX10_init_31 : cX10_init.data.toList.drop 31 = sxX10_init_31 := dSn 2 shX10_init_29
theorem shX10_init_33 : cX10_init.data.toList.drop 33 = sxX10_init_33 := dSn 2 shX10_init_31
theorem shX10_init_36 : cX10_init.data.toList.drop 36 = sxX10_init_36 := dSn 3 shX10_init_33
theorem shX10_init_37 : cX10_init.data.toList.drop 37 = sxX10_init_37 := dSn 1 shX10_init_36
theorem shX10_init_40 : cX10_init.data.toList.drop 40 = sxX10_init_40 := dSn 3 shX10_init_37
theorem shX10_init_42 : cX10_init.data.toList.drop 42 = sxX10_init_42 := dSn 2 shX10_init_40
theorem shX10_init_45 : cX10_init.data.toList.drop 45 = sxX10_init_45 := dSn 3 shX10_init_42
theorem shX10_init_46 : cX10_init.data.toList.drop 46 = sxX10_init_46 := dSn 1 shX10_init_45
theorem shX10_init_49 : cX10_init.data.toList.drop 49 = sxX10_init_49 := dSn 3 shX10_init_46
theorem shX10_init_51 : cX10_init.data.toList.drop 51 = sxX10_init_51 := dSn 2 shX10_init_49
theorem shX10_init_54 : cX10_init.data.toList.drop 54 = sxX10_init_54 := dSn 3 shX10_init_51
theorem dX10_init_0 : decode cX10_init 0 = .ok (.aload_n 0, 1) := oc_42 shX10_init_0
theorem dX10_init_1 : decode cX10_init 1 = .ok (.invokespecial 3, 3) := oc_183 shX10_init_1
theorem dX10_init_4 : decode cX10_init 4 = .ok (.aload_n 0, 1) := oc_42 shX10_init_4
theorem dX10_init_5 : decode cX10_init 5 = .ok (.bipush 8, 2) := oc_16 shX10_init_5 sgb_8
theorem dX10_init_7 : decode cX10_init 7 = .ok (.newarray .int, 2) := oc_188_10 shX10_init_7
theorem dX10_init_9 : decode cX10_init 9 = .ok (.putfield 9, 3) := oc_181 shX10_init_9
theorem dX10_init_12 : decode cX10_init 12 = .ok (.aload_n 0, 1) := oc_42 shX10_init_12
theorem dX10_init_13 : decode cX10_init 13 = .ok (.bipush 8, 2) := oc_16 shX10_init_13 sgb_8
theorem dX10_init_15 : decode cX10_init 15 = .ok (.newarray .int, 2) := oc_188_10 shX10_init_15
theorem dX10_init_17 : decode cX10_init 17 = .ok (.putfield 15, 3) := oc_181 shX10_init_17
theorem dX10_init_20 : decode cX10_init 20 = .ok (.aload_n 0, 1) := oc_42 shX10_init_20
theorem dX10_init_21 : decode cX10_init 21 = .ok (.bipush 8, 2) := oc_16 shX10_init_21 sgb_8
theorem dX10_init_23 : decode cX10_init 23 = .ok (.newarray .int, 2) := oc_188_10 shX10_init_23
theorem dX10_init_25 : decode cX10_init 25 = .ok (.putfield 18, 3) := oc_181 shX10_init_25
theorem dX10_init_28 : decode cX10_init 28 = .ok (.aload_n 0, 1) := oc_42 shX10_init_28
theorem dX10_init_29 : decode cX10_init 29 = .ok (.bipush 8, 2) := oc_16 shX10_init_29 sgb_8
theorem dX10_init_31 : decode cX10_init 31 = .ok (.newarray .int, 2) := oc_188_10 shX10_init_31
theorem dX10_init_33 : decode cX10_init 33 = .ok (.putfield 21, 3) := oc_181 shX10_init_33
theorem dX10_init_36 : decode cX10_init 36 = .ok (.aload_n 0, 1) := oc_42 shX10_init_36
theorem dX10_init_37 : decode cX10_init 37 = .ok (.sipush 2048, 3) := oc_17 shX10_init_37 sgw_8_0
theorem dX10_init_40 : decode cX10_init 40 = .ok (.newarray .int, 2) := oc_188_10 shX10_init_40
theorem dX10_init_42 : decode cX10_init 42 = .ok (.putfield 24, 3) := oc_181 shX10_init_42
theorem dX10_init_45 : decode cX10_init 45 = .ok (.aload_n 0, 1) := oc_42 shX10_init_45
theorem dX10_init_46 : decode cX10_init 46 = .ok (.sipush 256, 3) := oc_17 shX10_init_46 sgw_1_0
theorem dX10_init_49 : decode cX10_init 49 = .ok (.newarray .int, 2) := oc_188_10 shX10_init_49
theorem dX10_init_51 : decode cX10_init 51 = .ok (.putfield 27, 3) := oc_181 shX10_init_51
theorem dX10_init_54 : decode cX10_init 54 = .ok (.return_, 1) := oc_177 shX10_init_54
noncomputable def sxJxa1e45_init_da8c8_5 : List UInt8 := []
noncomputable def sxJxa1e45_init_da8c8_4 : List UInt8 := 177 :: sxJxa1e45_init_da8c8_5
noncomputable def sxJxa1e45_init_da8c8_1 : List UInt8 := 183 :: 0 :: 1 :: sxJxa1e45_init_da8c8_4
noncomputable def sxJxa1e45_init_da8c8_0 : List UInt8 := 42 :: sxJxa1e45_init_da8c8_1
theorem shJxa1e45_init_da8c8_0 : cJxa1e45_init_da8c8.data.toList.drop 0 = sxJxa1e45_init_da8c8_0 := rfl
theorem shJxa1e45_init_da8c8_1 : cJxa1e45_init_da8c8.data.toList.drop 1 = sxJxa1e45_init_da8c8_1 := dSn 1 shJxa1e45_init_da8c8_0
theorem shJxa1e45_init_da8c8_4 : cJxa1e45_init_da8c8.data.toList.drop 4 = sxJxa1e45_init_da8c8_4 := dSn 3 shJxa1e45_init_da8c8_1
theorem dJxa1e45_init_da8c8_0 : decode cJxa1e45_init_da8c8 0 = .ok (.aload_n 0, 1) := oc_42 shJxa1e45_init_da8c8_0
theorem dJxa1e45_init_da8c8_1 : decode cJxa1e45_init_da8c8 1 = .ok (.invokespecial 1, 3) := oc_183 shJxa1e45_init_da8c8_1
theorem dJxa1e45_init_da8c8_4 : decode cJxa1e45_init_da8c8 4 = .ok (.return_, 1) := oc_177 shJxa1e45_init_da8c8_4
noncomputable def sxJxc12de_init_da8c8_10 : List UInt8 := []
noncomputable def sxJxc12de_init_da8c8_9 : List UInt8 := 177 :: sxJxc12de_init_da8c8_10
noncomputable def sxJxc12de_init_da8c8_6 : List UInt8 := 181 :: 0 :: 7 :: sxJxc12de_init_da8c8_9
noncomputable def sxJxc12de_init_da8c8_5 : List UInt8 := 3 :: sxJxc12de_init_da8c8_6
noncomputable def sxJxc12de_init_da8c8_4 : List UInt8 := 42 :: sxJxc12de_init_da8c8_5
noncomputable def sxJxc12de_init_da8c8_1 : List UInt8 := 183 :: 0 :: 1 :: sxJxc12de_init_da8c8_4
noncomputable def sxJxc12de_init_da8c8_0 : List UInt8 := 42 :: sxJxc12de_init_da8c8_1
theorem shJxc12de_init_da8c8_0 : cJxc12de_init_da8c8.data.toList.drop 0 = sxJxc12de_init_da8c8_0 := rfl
theorem shJxc12de_init_da8c8_1 : cJxc12de_init_da8c8.data.toList.drop 1 = sxJxc12de_init_da8c8_1 := dSn 1 shJxc12de_init_da8c8_0
theorem shJxc12de_init_da8c8_4 : cJxc12de_init_da8c8.data.toList.drop 4 = sxJxc12de_init_da8c8_4 := dSn 3 shJxc12de_init_da8c8_1
theorem shJxc12de_init_da8c8_5 : cJxc12de_init_da8c8.data.toList.drop 5 = sxJxc12de_init_da8c8_5 := dSn 1 shJxc12de_init_da8c8_4
theorem shJxc12de_init_da8c8_6 : cJxc12de_init_da8c8.data.toList.drop 6 = sxJxc12de_init_da8c8_6 := dSn 1 shJxc12de_init_da8c8_5
theorem shJxc12de_init_da8c8_9 : cJxc12de_init_da8c8.data.toList.drop 9 = sxJxc12de_init_da8c8_9 := dSn 3 shJxc12de_init_da8c8_6
theorem dJxc12de_init_da8c8_0 : decode cJxc12de_init_da8c8 0 = .ok (.aload_n 0, 1) := oc_42 shJxc12de_init_da8c8_0
theorem dJxc12de_init_da8c8_1 : decode cJxc12de_init_da8c8 1 = .ok (.invokespecial 1, 3) := oc_183 shJxc12de_init_da8c8_1
theorem dJxc12de_init_da8c8_4 : decode cJxc12de_init_da8c8 4 = .ok (.aload_n 0, 1) := oc_42 shJxc12de_init_da8c8_4
theorem dJxc12de_init_da8c8_5 : decode cJxc12de_init_da8c8 5 = .ok (.iconst 0, 1) := oc_3 shJxc12de_init_da8c8_5
theorem dJxc12de_init_da8c8_6 : decode cJxc12de_init_da8c8 6 = .ok (.putfield 7, 3) := oc_181 shJxc12de_init_da8c8_6
theorem dJxc12de_init_da8c8_9 : decode cJxc12de_init_da8c8 9 = .ok (.return_, 1) := oc_177 shJxc12de_init_da8c8_9
noncomputable def sxJx4a65c_init_da8c8_12 : List UInt8 := []
noncomputable def sxJx4a65c_init_da8c8_11 : List UInt8 := 177 :: sxJx4a65c_init_da8c8_12
noncomputable def sxJx4a65c_init_da8c8_8 : List UInt8 := 181 :: 0 :: 9 :: sxJx4a65c_init_da8c8_11
noncomputable def sxJx4a65c_init_da8c8_5 : List UInt8 := 178 :: 0 :: 39 :: sxJx4a65c_init_da8c8_8
noncomputable def sxJx4a65c_init_da8c8_4 : List UInt8 := 42 :: sxJx4a65c_init_da8c8_5
noncomputable def sxJx4a65c_init_da8c8_1 : List UInt8 := 183 :: 0 :: 1 :: sxJx4a65c_init_da8c8_4
noncomputable def sxJx4a65c_init_da8c8_0 : List UInt8 := 42 :: sxJx4a65c_init_da8c8_1
theorem shJx4a65c_init_da8c8_0 : cJx4a65c_init_da8c8.data.toList.drop 0 = sxJx4a65c_init_da8c8_0 := rfl
theorem shJx4a65c_init_da8c8_1 : cJx4a65c_init_da8c8.data.toList.drop 1 = sxJx4a65c_init_da8c8_1 := dSn 1 shJx4a65c_init_da8c8_0
theorem shJx4a65c_init_da8c8_4 : cJx4a65c_init_da8c8.data.toList.drop 4 = sxJx4a65c_init_da8c8_4 := dSn 3 shJx4a65c_init_da8c8_1
theorem shJx4a65c_init_da8c8_5 : cJx4a65c_init_da8c8.data.toList.drop 5 = sxJx4a65c_init_da8c8_5 := dSn 1 shJx4a65c_init_da8c8_4
theorem shJx4a65c_init_da8c8_8 : cJx4a65c_init_da8c8.data.toList.drop 8 = sxJx4a65c_init_da8c8_8 := dSn 3 shJx4a65c_init_da8c8_5
theorem shJx4a65c_init_da8c8_11 : cJx4a65c_init_da8c8.data.toList.drop 11 = sxJx4a65c_init_da8c8_11 := dSn 3 shJx4a65c_init_da8c8_8
theorem dJx4a65c_init_da8c8_0 : decode cJx4a65c_init_da8c8 0 = .ok (.aload_n 0, 1) := oc_42 shJx4a65c_init_da8c8_0
theorem dJx4a65c_init_da8c8_1 : decode cJx4a65c_init_da8c8 1 = .ok (.invokespecial 1, 3) := oc_183 shJx4a65c_init_da8c8_1
theorem dJx4a65c_init_da8c8_4 : decode cJx4a65c_init_da8c8 4 = .ok (.aload_n 0, 1) := oc_42 shJx4a65c_init_da8c8_4
theorem dJx4a65c_init_da8c8_5 : decode cJx4a65c_init_da8c8 5 = .ok (.getstatic 39, 3) := oc_178 shJx4a65c_init_da8c8_5
theorem dJx4a65c_init_da8c8_8 : decode cJx4a65c_init_da8c8 8 = .ok (.putfield 9, 3) := oc_181 shJx4a65c_init_da8c8_8
