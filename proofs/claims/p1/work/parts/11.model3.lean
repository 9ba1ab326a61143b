set_option maxRecDepth 100000 in
theorem pf_RX12_395 {p : Program} {l : Launch} {e : Env} {R : Room} {s : State} {m : MethodId} {args : Array Value} {below : List Frame} {meth : Method} {c : Code} {H : Heap} {locs : List Loc} {cells slots : Nat} {Q : State → Prop} {cc : ByteArray} {nL pc : Nat} {D : va_G} {cI cB cZ : ClassId} {ws : va_W} {rest : List Value} {ls : Array Slot} {a : Nat} {fs : List Value} {v : Value} {A : Nat → Prop} {H0 : Heap} (S : SF p m c cc nL s args RX12) (hK : KK D cI cB cZ s) (hP : va_P D vwCl ws H) (hD : va_D A ws) (hS : va_S A H0 H locs) (q0 : Nat) (he : ws[q0]? = some (a, .inr (13, fs))) (hl : 54 < fs.length) (hn : narrow (tyX12 54) v = v) (hfit : fits (tyX12 54) v = true) (hdg : decode cc pc = .ok (.putfield 395, 3)) (kk : ∀ (H1 : Heap) (locs1 : List Loc), va_P D vwCl (ws.set q0 (a, .inr (13, fs.set 54 v))) H1 → va_D A (ws.set q0 (a, .inr (13, fs.set 54 v))) → va_S A H0 H1 locs1 → W p l e R s m args below meth c H1 locs1 cells slots Q (F0 m (pc + 3) ls rest)) : W p l e R s m args below meth c H locs cells slots Q (F0 m pc ls (v :: .ref a :: rest)) :=
  va_put (C := RX12) (T := TX12) (N := 91) S.1 S.2.1 S.2.2.2.2 hin_RX12 tyX12 tyX12_ok nmX12 S.2.2.2.1 hK.1 hP hD hS q0 he rfl 54 (by decide) (S.2.2.2.2 _ (wT_tab 1367 rfl rfl)) (fun _ h9 => h9) rfl (tyX12_ok 54 (by decide)) hn hfit hl hdg kk
set_option maxRecDepth 100000 in
theorem pf_RX12_398 {p : Program} {l : Launch} {e : Env} {R : Room} {s : State} {m : MethodId} {args : Array Value} {below : List Frame} {meth : Method} {c : Code} {H : Heap} {locs : List Loc} {cells slots : Nat} {Q : State → Prop} {cc : ByteArray} {nL pc : Nat} {D : va_G} {cI cB cZ : ClassId} {ws : va_W} {rest : List Value} {ls : Array Slot} {a : Nat} {fs : List Value} {v : Value} {A : Nat → Prop} {H0 : Heap} (S : SF p m c cc nL s args RX12) (hK : KK D cI cB cZ s) (hP : va_P D vwCl ws H) (hD : va_D A ws) (hS : va_S A H0 H locs) (q0 : Nat) (he : ws[q0]? = some (a, .inr (13, fs))) (hl : 55 < fs.length) (hn : narrow (tyX12 55) v = v) (hfit : fits (tyX12 55) v = true) (hdg : decode cc pc = .ok (.putfield 398, 3)) (kk : ∀ (H1 : Heap) (locs1 : List Loc), va_P D vwCl (ws.set q0 (a, .inr (13, fs.set 55 v))) H1 → va_D A (ws.set q0 (a, .inr (13, fs.set 55 v))) → va_S A H0 H1 locs1 → W p l e R s m args below meth c H1 locs1 cells slots Q (F0 m (pc + 3) ls rest)) : W p l e R s m args below meth c H locs cells slots Q (F0 m pc ls (v :: .ref a :: rest)) :=
  va_put (C := RX12) (T := TX12) (N := 91) S.1 S.2.1 S.2.2.2.2 hin_RX12 tyX12 tyX12_ok nmX12 S.2.2.2.1 hK.1 hP hD hS q0 he rfl 55 (by decide) (S.2.2.2.2 _ (wT_tab 1368 rfl rfl)) (fun _ h9 => h9) rfl (tyX12_ok 55 (by decide)) hn hfit hl hdg kk
set_option maxRecDepth 100000 in
theorem pf_RX12_401 {p : Program} {l : Launch} {e : Env} {R : Room} {s : State} {m : MethodId} {args : Array Value} {below : List Frame} {meth : Method} {c : Code} {H : Heap} {locs : List Loc} {cells slots : Nat} {Q : State → Prop} {cc : ByteArray} {nL pc : Nat} {D : va_G} {cI cB cZ : ClassId} {ws : va_W} {rest : List Value} {ls : Array Slot} {a : Nat} {fs : List Value} {v : Value} {A : Nat → Prop} {H0 : Heap} (S : SF p m c cc nL s args RX12) (hK : KK D cI cB cZ s) (hP : va_P D vwCl ws H) (hD : va_D A ws) (hS : va_S A H0 H locs) (q0 : Nat) (he : ws[q0]? = some (a, .inr (13, fs))) (hl : 56 < fs.length) (hn : narrow (tyX12 56) v = v) (hfit : fits (tyX12 56) v = true) (hdg : decode cc pc = .ok (.putfield 401, 3)) (kk : ∀ (H1 : Heap) (locs1 : List Loc), va_P D vwCl (ws.set q0 (a, .inr (13, fs.set 56 v))) H1 → va_D A (ws.set q0 (a, .inr (13, fs.set 56 v))) → va_S A H0 H1 locs1 → W p l e R s m args below meth c H1 locs1 cells slots Q (F0 m (pc + 3) ls rest)) : W p l e R s m args below meth c H locs cells slots Q (F0 m pc ls (v :: .ref a :: rest)) :=
  va_put (C := RX12) (T := TX12) (N := 91) S.1 S.2.1 S.2.2.2.2 hin_RX12 tyX12 tyX12_ok nmX12 S.2.2.2.1 hK.1 hP hD hS q0 he rfl 56 (by decide) (S.2.2.2.2 _ (wT_tab 1369 rfl rfl)) (fun _ h9 => h9) rfl (tyX12_ok 56 (by decide)) hn hfit hl hdg kk
set_option maxRecDepth 100000 in
theorem gf_RX12_395 {p : Program} {l : Launch} {e : Env} {R : Room} {s : State} {m : MethodId} {args : Array Value} {below : List Frame} {meth : Method} {c : Code} {H : Heap} {locs : List Loc} {cells slots : Nat} {Q : State → Prop} {cc : ByteArray} {nL pc : Nat} {D : va_G} {cI cB cZ : ClassId} {ws : va_W} {rest : List Value} {ls : Array Slot} {a : Nat} {fs : List Value} {v : Value} (S : SF p m c cc nL s args RX12) (hK : KK D cI cB cZ s) (hP : va_P D vwCl ws H) (q0 : Nat) (he : ws[q0]? = some (a, .inr (13, fs))) (hv : fs[54]? = some v) (hdg : decode cc pc = .ok (.getfield 395, 3)) (kk : W p l e R s m args below meth c H locs cells slots Q (F0 m (pc + 3) ls (v :: rest))) : W p l e R s m args below meth c H locs cells slots Q (F0 m pc ls (.ref a :: rest)) :=
  va_get (C := RX12) (T := TX12) (N := 91) S.1 S.2.1 S.2.2.2.2 hin_RX12 S.2.2.2.1 hK.1 hP q0 he rfl 54 (by decide) (S.2.2.2.2 _ (wT_tab 1367 rfl rfl)) (fun _ h9 => h9) hv hdg kk
set_option maxRecDepth 100000 in
theorem kV_RX12_389 : CalV RX12 389 yX12_roundTo cX12_roundTo 5 (some .int) 1 := ⟨⟨wT_tab 1837 rfl rfl, wT_tab 1839 rfl rfl, wT_sel 101 _ rfl rfl rfl, wT_tab 13 rfl rfl, wT_tab 1840 rfl rfl⟩, ⟨by decide, by decide, by decide +kernel⟩⟩
set_option maxRecDepth 100000 in
theorem kV_RX12_404 : CalV RX12 404 yX12_goNights cX12_goNights 6 (some .boolean) 3 := ⟨⟨wT_tab 1845 rfl rfl, wT_tab 1847 rfl rfl, wT_sel 102 _ rfl rfl rfl, wT_tab 13 rfl rfl, wT_tab 1848 rfl rfl⟩, ⟨by decide, by decide, by decide +kernel⟩⟩
set_option maxRecDepth 100000 in
theorem gf_RX12_401 {p : Program} {l : Launch} {e : Env} {R : Room} {s : State} {m : MethodId} {args : Array Value} {below : List Frame} {meth : Method} {c : Code} {H : Heap} {locs : List Loc} {cells slots : Nat} {Q : State → Prop} {cc : ByteArray} {nL pc : Nat} {D : va_G} {cI cB cZ : ClassId} {ws : va_W} {rest : List Value} {ls : Array Slot} {a : Nat} {fs : List Value} {v : Value} (S : SF p m c cc nL s args RX12) (hK : KK D cI cB cZ s) (hP : va_P D vwCl ws H) (q0 : Nat) (he : ws[q0]? = some (a, .inr (13, fs))) (hv : fs[56]? = some v) (hdg : decode cc pc = .ok (.getfield 401, 3)) (kk : W p l e R s m args below meth c H locs cells slots Q (F0 m (pc + 3) ls (v :: rest))) : W p l e R s m args below meth c H locs cells slots Q (F0 m pc ls (.ref a :: rest)) :=
  va_get (C := RX12) (T := TX12) (N := 91) S.1 S.2.1 S.2.2.2.2 hin_RX12 S.2.2.2.1 hK.1 hP q0 he rfl 56 (by decide) (S.2.2.2.2 _ (wT_tab 1369 rfl rfl)) (fun _ h9 => h9) hv hdg kk
set_option maxRecDepth 100000 in
theorem gf_RX12_398 {p : Program} {l : Launch} {e : Env} {R : Room} {s : State} {m : MethodId} {args : Array Value} {below : List Frame} {meth : Method} {c : Code} {H : Heap} {locs : List Loc} {cells slots : Nat} {Q : State → Prop} {cc : ByteArray} {nL pc : Nat} {D : va_G} {cI cB cZ : ClassId} {ws : va_W} {rest : List Value} {ls : Array Slot} {a : Nat} {fs : List Value} {v : Value} (S : SF p m c cc nL s args RX12) (hK : KK D cI cB cZ s) (hP : va_P D vwCl ws H) (q0 : Nat) (he : ws[q0]? = some (a, .inr (13, fs))) (hv : fs[55]? = some v) (hdg : decode cc pc = .ok (.getfield 398, 3)) (kk : W p l e R s m args below meth c H locs cells slots Q (F0 m (pc + 3) ls (v :: rest))) : W p l e R s m args below meth c H locs cells slots Q (F0 m pc ls (.ref a :: rest)) :=
  va_get (C := RX12) (T := TX12) (N := 91) S.1 S.2.1 S.2.2.2.2 hin_RX12 S.2.2.2.1 hK.1 hP q0 he rfl 55 (by decide) (S.2.2.2.2 _ (wT_tab 1368 rfl rfl)) (fun _ h9 => h9) hv hdg kk
set_option maxRecDepth 100000 in
theorem gf_RX12_107 {p : Program} {l : Launch} {e : Env} {R : Room} {s : State} {m : MethodId} {args : Array Value} {below : List Frame} {meth : Method} {c : Code} {H : Heap} {locs : List Loc} {cells slots : Nat} {Q : State → Prop} {cc : ByteArray} {nL pc : Nat} {D : va_G} {cI cB cZ : ClassId} {ws : va_W} {rest : List Value} {ls : Array Slot} {a : Nat} {fs : List Value} {v : Value} (S : SF p m c cc nL s args RX12) (hK : KK D cI cB cZ s) (hP : va_P D vwCl ws H) (q0 : Nat) (he : ws[q0]? = some (a, .inr (13, fs))) (hv : fs[47]? = some v) (hdg : decode cc pc = .ok (.getfield 107, 3)) (kk : W p l e R s m args below meth c H locs cells slots Q (F0 m (pc + 3) ls (v :: rest))) : W p l e R s m args below meth c H locs cells slots Q (F0 m pc ls (.ref a :: rest)) :=
  va_get (C := RX12) (T := TX12) (N := 91) S.1 S.2.1 S.2.2.2.2 hin_RX12 S.2.2.2.1 hK.1 hP q0 he rfl 47 (by decide) (S.2.2.2.2 _ (wT_tab 1360 rfl rfl)) (fun _ h9 => h9) hv hdg kk
set_option maxRecDepth 100000 in
theorem pf_RX12_386 {p : Program} {l : Launch} {e : Env} {R : Room} {s : State} {m : MethodId} {args : Array Value} {below : List Frame} {meth : Method} {c : Code} {H : Heap} {locs : List Loc} {cells slots : Nat} {Q : State → Prop} {cc : ByteArray} {nL pc : Nat} {D : va_G} {cI cB cZ : ClassId} {ws : va_W} {rest : List Value} {ls : Array Slot} {a : Nat} {fs : List Value} {v : Value} {A : Nat → Prop} {H0 : Heap} (S : SF p m c cc nL s args RX12) (hK : KK D cI cB cZ s) (hP : va_P D vwCl ws H) (hD : va_D A ws) (hS : va_S A H0 H locs) (q0 : Nat) (he : ws[q0]? = some (a, .inr (13, fs))) (hl : 46 < fs.length) (hn : narrow (tyX12 46) v = v) (hfit : fits (tyX12 46) v = true) (hdg : decode cc pc = .ok (.putfield 386, 3)) (kk : ∀ (H1 : Heap) (locs1 : List Loc), va_P D vwCl (ws.set q0 (a, .inr (13, fs.set 46 v))) H1 → va_D A (ws.set q0 (a, .inr (13, fs.set 46 v))) → va_S A H0 H1 locs1 → W p l e R s m args below meth c H1 locs1 cells slots Q (F0 m (pc + 3) ls rest)) : W p l e R s m args below meth c H locs cells slots Q (F0 m pc ls (v :: .ref a :: rest)) :=
  va_put (C := RX12) (T := TX12) (N := 91) S.1 S.2.1 S.2.2.2.2 hin_RX12 tyX12 tyX12_ok nmX12 S.2.2.2.1 hK.1 hP hD hS q0 he rfl 46 (by decide) (S.2.2.2.2 _ (wT_tab 1359 rfl rfl)) (fun _ h9 => h9) rfl (tyX12_ok 46 (by decide)) hn hfit hl hdg kk
set_option maxRecDepth 100000 in
theorem gf_RX12_110 {p : Program} {l : Launch} {e : Env} {R : Room} {s : State} {m : MethodId} {args : Array Value} {below : List Frame} {meth : Method} {c : Code} {H : Heap} {locs : List Loc} {cells slots : Nat} {Q : State → Prop} {cc : ByteArray} {nL pc : Nat} {D : va_G} {cI cB cZ : ClassId} {ws : va_W} {rest : List Value} {ls : Array Slot} {a : Nat} {fs : List Value} {v : Value} (S : SF p m c cc nL s args RX12) (hK : KK D cI cB cZ s) (hP : va_P D vwCl ws H) (q0 : Nat) (he : ws[q0]? = some (a, .inr (13, fs))) (hv : fs[48]? = some v) (hdg : decode cc pc = .ok (.getfield 110, 3)) (kk : W p l e R s m args below meth c H locs cells slots Q (F0 m (pc + 3) ls (v :: rest))) : W p l e R s m args below meth c H locs cells slots Q (F0 m pc ls (.ref a :: rest)) :=
  va_get (C := RX12) (T := TX12) (N := 91) S.1 S.2.1 S.2.2.2.2 hin_RX12 S.2.2.2.1 hK.1 hP q0 he rfl 48 (by decide) (S.2.2.2.2 _ (wT_tab 1361 rfl rfl)) (fun _ h9 => h9) hv hdg kk
set_option maxRecDepth 100000 in
theorem gf_RX12_113 {p : Program} {l : Launch} {e : Env} {R : Room} {s : State} {m : MethodId} {args : Array Value} {below : List Frame} {meth : Method} {c : Code} {H : Heap} {locs : List Loc} {cells slots : Nat} {Q : State → Prop} {cc : ByteArray} {nL pc : Nat} {D : va_G} {cI cB cZ : ClassId} {ws : va_W} {rest : List Value} {ls : Array Slot} {a : Nat} {fs : List Value} {v : Value} (S : SF p m c cc nL s args RX12) (hK : KK D cI cB cZ s) (hP : va_P D vwCl ws H) (q0 : Nat) (he : ws[q0]? = some (a, .inr (13, fs))) (hv : fs[49]? = some v) (hdg : decode cc pc = .ok (.getfield 113, 3)) (kk : W p l e R s m args below meth c H locs cells slots Q (F0 m (pc + 3) ls (v :: rest))) : W p l e R s m args below meth c H locs cells slots Q (F0 m pc ls (.ref a :: rest)) :=
  va_get (C := RX12) (T := TX12) (N := 91) S.1 S.2.1 S.2.2.2.2 hin_RX12 S.2.2.2.1 hK.1 hP q0 he rfl 49 (by decide) (S.2.2.2.2 _ (wT_tab 1362 rfl rfl)) (fun _ h9 => h9) hv hdg kk
set_option maxRecDepth 100000 in
theorem kV_RX12_392 : CalV RX12 392 yX12_sharedBy cX12_sharedBy 4 (some .int) 1 := ⟨⟨wT_tab 1833 rfl rfl, wT_tab 1835 rfl rfl, wT_sel 100 _ rfl rfl rfl, wT_tab 13 rfl rfl, wT_tab 1836 rfl rfl⟩, ⟨by decide, by decide, by decide +kernel⟩⟩
theorem dX12_driven_0 : decode cX12_driven 0 = .ok (.iload_n 1, 1) := by decide +kernel
theorem dX12_driven_1 : decode cX12_driven 1 = .ok (.iconst 0, 1) := by decide +kernel
theorem dX12_driven_2 : decode cX12_driven 2 = .ok (.bipush 20, 2) := by decide +kernel
theorem dX12_driven_4 : decode cX12_driven 4 = .ok (.invokestatic 214, 3) := by decide +kernel
theorem dX12_driven_7 : decode cX12_driven 7 = .ok (.ifCond .eq 11, 3) := by decide +kernel
theorem dX12_driven_10 : decode cX12_driven 10 = .ok (.iload_n 1, 1) := by decide +kernel
theorem dX12_driven_11 : decode cX12_driven 11 = .ok (.aload_n 0, 1) := by decide +kernel
theorem dX12_driven_12 : decode cX12_driven 12 = .ok (.getfield 226, 3) := by decide +kernel
theorem dX12_driven_15 : decode cX12_driven 15 = .ok (.if_icmp .le 5, 3) := by decide +kernel
theorem dX12_driven_20 : decode cX12_driven 20 = .ok (.aload_n 0, 1) := by decide +kernel
theorem dX12_driven_21 : decode cX12_driven 21 = .ok (.iconst 0, 1) := by decide +kernel
theorem dX12_driven_22 : decode cX12_driven 22 = .ok (.putfield 226, 3) := by decide +kernel
theorem dX12_driven_25 : decode cX12_driven 25 = .ok (.iconst 0, 1) := by decide +kernel
theorem dX12_driven_26 : decode cX12_driven 26 = .ok (.istore_n 2, 1) := by decide +kernel
theorem dX12_driven_27 : decode cX12_driven 27 = .ok (.iconst 0, 1) := by decide +kernel
theorem dX12_driven_28 : decode cX12_driven 28 = .ok (.istore_n 3, 1) := by decide +kernel
theorem dX12_driven_29 : decode cX12_driven 29 = .ok (.iconst 0, 1) := by decide +kernel
theorem dX12_driven_30 : decode cX12_driven 30 = .ok (.istore 4, 2) := by decide +kernel
theorem dX12_driven_32 : decode cX12_driven 32 = .ok (.iconst 0, 1) := by decide +kernel
theorem dX12_driven_33 : decode cX12_driven 33 = .ok (.istore 5, 2) := by decide +kernel
theorem dX12_driven_35 : decode cX12_driven 35 = .ok (.iload 5, 2) := by decide +kernel
theorem dX12_driven_37 : decode cX12_driven 37 = .ok (.iload_n 1, 1) := by decide +kernel
theorem dX12_driven_38 : decode cX12_driven 38 = .ok (.if_icmp .ge 73, 3) := by decide +kernel
theorem dX12_driven_111 : decode cX12_driven 111 = .ok (.iload_n 2, 1) := by decide +kernel
theorem dX12_driven_112 : decode cX12_driven 112 = .ok (.iload_n 3, 1) := by decide +kernel
theorem dX12_driven_113 : decode cX12_driven 113 = .ok (.iadd, 1) := by decide +kernel
theorem dX12_driven_114 : decode cX12_driven 114 = .ok (.iload 4, 2) := by decide +kernel
theorem dX12_driven_116 : decode cX12_driven 116 = .ok (.iadd, 1) := by decide +kernel
theorem dX12_driven_117 : decode cX12_driven 117 = .ok (.ireturn, 1) := by decide +kernel
theorem dX12_driven_18 : decode cX12_driven 18 = .ok (.iconst (-1), 1) := by decide +kernel
theorem dX12_driven_19 : decode cX12_driven 19 = .ok (.ireturn, 1) := by decide +kernel
theorem dX12_roundTo_0 : decode cX12_roundTo 0 = .ok (.iload_n 1, 1) := by decide +kernel
theorem dX12_roundTo_1 : decode cX12_roundTo 1 = .ok (.ifCond .ne 7, 3) := by decide +kernel
theorem dX12_roundTo_4 : decode cX12_roundTo 4 = .ok (.iconst 0, 1) := by decide +kernel
theorem dX12_roundTo_5 : decode cX12_roundTo 5 = .ok (.goto 6, 3) := by decide +kernel
theorem dX12_roundTo_11 : decode cX12_roundTo 11 = .ok (.istore_n 2, 1) := by decide +kernel
theorem dX12_roundTo_12 : decode cX12_roundTo 12 = .ok (.iconst 0, 1) := by decide +kernel
theorem dX12_roundTo_13 : decode cX12_roundTo 13 = .ok (.istore_n 3, 1) := by decide +kernel
theorem dX12_roundTo_14 : decode cX12_roundTo 14 = .ok (.iload_n 3, 1) := by decide +kernel
theorem dX12_roundTo_15 : decode cX12_roundTo 15 = .ok (.aload_n 0, 1) := by decide +kernel
theorem dX12_roundTo_16 : decode cX12_roundTo 16 = .ok (.getfield 364, 3) := by decide +kernel
theorem dX12_roundTo_19 : decode cX12_roundTo 19 = .ok (.if_icmp .ge 63, 3) := by decide +kernel
theorem dX12_roundTo_82 : decode cX12_roundTo 82 = .ok (.iload_n 2, 1) := by decide +kernel
theorem dX12_roundTo_83 : decode cX12_roundTo 83 = .ok (.ireturn, 1) := by decide +kernel
theorem dX12_goNights_0 : decode cX12_goNights 0 = .ok (.aload_n 0, 1) := by decide +kernel
theorem dX12_goNights_1 : decode cX12_goNights 1 = .ok (.iconst 0, 1) := by decide +kernel
theorem dX12_goNights_2 : decode cX12_goNights 2 = .ok (.putfield 395, 3) := by decide +kernel
theorem dX12_goNights_5 : decode cX12_goNights 5 = .ok (.aload_n 0, 1) := by decide +kernel
theorem dX12_goNights_6 : decode cX12_goNights 6 = .ok (.iconst 0, 1) := by decide +kernel
theorem dX12_goNights_7 : decode cX12_goNights 7 = .ok (.putfield 398, 3) := by decide +kernel
theorem dX12_goNights_10 : decode cX12_goNights 10 = .ok (.aload_n 0, 1) := by decide +kernel
theorem dX12_goNights_11 : decode cX12_goNights 11 = .ok (.iconst 0, 1) := by decide +kernel
theorem dX12_goNights_12 : decode cX12_goNights 12 = .ok (.putfield 401, 3) := by decide +kernel
theorem dX12_goNights_15 : decode cX12_goNights 15 = .ok (.iload_n 1, 1) := by decide +kernel
theorem dX12_goNights_16 : decode cX12_goNights 16 = .ok (.istore 4, 2) := by decide +kernel
theorem dX12_goNights_18 : decode cX12_goNights 18 = .ok (.iload 4, 2) := by decide +kernel
theorem dX12_goNights_20 : decode cX12_goNights 20 = .ok (.iload_n 1, 1) := by decide +kernel
theorem dX12_goNights_21 : decode cX12_goNights 21 = .ok (.iload_n 2, 1) := by decide +kernel
theorem dX12_goNights_22 : decode cX12_goNights 22 = .ok (.iadd, 1) := by decide +kernel
theorem dX12_goNights_23 : decode cX12_goNights 23 = .ok (.if_icmp .ge 108, 3) := by decide +kernel
theorem dX12_goNights_131 : decode cX12_goNights 131 = .ok (.iconst 1, 1) := by decide +kernel
theorem dX12_goNights_132 : decode cX12_goNights 132 = .ok (.ireturn, 1) := by decide +kernel
theorem dX12_goNights_26 : decode cX12_goNights 26 = .ok (.aload_n 0, 1) := by decide +kernel
theorem dX12_goNights_27 : decode cX12_goNights 27 = .ok (.iload 4, 2) := by decide +kernel
theorem dX12_goNights_29 : decode cX12_goNights 29 = .ok (.iload_n 3, 1) := by decide +kernel
theorem dX12_goNights_30 : decode cX12_goNights 30 = .ok (.bipush 8, 2) := by decide +kernel
theorem dX12_goNights_32 : decode cX12_goNights 32 = .ok (.invokevirtual 380, 3) := by decide +kernel
theorem dX12_goNights_35 : decode cX12_goNights 35 = .ok (.ifCond .ne 5, 3) := by decide +kernel
theorem dX12_goNights_40 : decode cX12_goNights 40 = .ok (.aload_n 0, 1) := by decide +kernel
theorem dX12_goNights_41 : decode cX12_goNights 41 = .ok (.aload_n 0, 1) := by decide +kernel
theorem dX12_goNights_42 : decode cX12_goNights 42 = .ok (.getfield 395, 3) := by decide +kernel
theorem dX12_goNights_45 : decode cX12_goNights 45 = .ok (.aload_n 0, 1) := by decide +kernel
theorem dX12_goNights_46 : decode cX12_goNights 46 = .ok (.iconst 1, 1) := by decide +kernel
theorem dX12_goNights_47 : decode cX12_goNights 47 = .ok (.aload_n 0, 1) := by decide +kernel
theorem dX12_goNights_48 : decode cX12_goNights 48 = .ok (.getfield 364, 3) := by decide +kernel
theorem dX12_goNights_51 : decode cX12_goNights 51 = .ok (.ishl, 1) := by decide +kernel
theorem dX12_goNights_52 : decode cX12_goNights 52 = .ok (.iconst 1, 1) := by decide +kernel
theorem dX12_goNights_53 : decode cX12_goNights 53 = .ok (.isub, 1) := by decide +kernel
theorem dX12_goNights_54 : decode cX12_goNights 54 = .ok (.invokevirtual 389, 3) := by decide +kernel
theorem dX12_goNights_57 : decode cX12_goNights 57 = .ok (.iadd, 1) := by decide +kernel
theorem dX12_goNights_58 : decode cX12_goNights 58 = .ok (.putfield 395, 3) := by decide +kernel
theorem dX12_goNights_61 : decode cX12_goNights 61 = .ok (.iconst 0, 1) := by decide +kernel
theorem dX12_goNights_62 : decode cX12_goNights 62 = .ok (.istore 5, 2) := by decide +kernel
theorem dX12_goNights_64 : decode cX12_goNights 64 = .ok (.iload 5, 2) := by decide +kernel
theorem dX12_goNights_66 : decode cX12_goNights 66 = .ok (.aload_n 0, 1) := by decide +kernel
theorem dX12_goNights_67 : decode cX12_goNights 67 = .ok (.getfield 364, 3) := by decide +kernel
theorem dX12_goNights_70 : decode cX12_goNights 70 = .ok (.if_icmp .ge 55, 3) := by decide +kernel
theorem dX12_goNights_125 : decode cX12_goNights 125 = .ok (.iinc 4 1, 3) := by decide +kernel
theorem dX12_goNights_128 : decode cX12_goNights 128 = .ok (.goto (-110), 3) := by decide +kernel
theorem dX12_nights_0 : decode cX12_nights 0 = .ok (.iload_n 1, 1) := by decide +kernel
theorem dX12_nights_1 : decode cX12_nights 1 = .ok (.invokestatic 341, 3) := by decide +kernel
theorem dX12_nights_4 : decode cX12_nights 4 = .ok (.ifCond .eq 45, 3) := by decide +kernel
theorem dX12_nights_7 : decode cX12_nights 7 = .ok (.iload_n 2, 1) := by decide +kernel
theorem dX12_nights_8 : decode cX12_nights 8 = .ok (.iconst 1, 1) := by decide +kernel
theorem dX12_nights_9 : decode cX12_nights 9 = .ok (.bipush 7, 2) := by decide +kernel
theorem dX12_nights_11 : decode cX12_nights 11 = .ok (.invokestatic 214, 3) := by decide +kernel
theorem dX12_nights_14 : decode cX12_nights 14 = .ok (.ifCond .eq 35, 3) := by decide +kernel
theorem dX12_nights_17 : decode cX12_nights 17 = .ok (.iload_n 1, 1) := by decide +kernel
theorem dX12_nights_18 : decode cX12_nights 18 = .ok (.iload_n 2, 1) := by decide +kernel
theorem dX12_nights_19 : decode cX12_nights 19 = .ok (.iadd, 1) := by decide +kernel
theorem dX12_nights_20 : decode cX12_nights 20 = .ok (.iconst 1, 1) := by decide +kernel
theorem dX12_nights_21 : decode cX12_nights 21 = .ok (.isub, 1) := by decide +kernel
theorem dX12_nights_22 : decode cX12_nights 22 = .ok (.sipush 399, 3) := by decide +kernel
theorem dX12_nights_25 : decode cX12_nights 25 = .ok (.if_icmp .gt 24, 3) := by decide +kernel
theorem dX12_nights_49 : decode cX12_nights 49 = .ok (.iconst (-1), 1) := by decide +kernel
theorem dX12_nights_50 : decode cX12_nights 50 = .ok (.ireturn, 1) := by decide +kernel
theorem dX12_nights_28 : decode cX12_nights 28 = .ok (.iload_n 3, 1) := by decide +kernel
theorem dX12_nights_29 : decode cX12_nights 29 = .ok (.iconst 1, 1) := by decide +kernel
theorem dX12_nights_30 : decode cX12_nights 30 = .ok (.sipush 400, 3) := by decide +kernel
theorem dX12_nights_33 : decode cX12_nights 33 = .ok (.invokestatic 214, 3) := by decide +kernel
theorem dX12_nights_36 : decode cX12_nights 36 = .ok (.ifCond .eq 13, 3) := by decide +kernel
theorem dX12_nights_39 : decode cX12_nights 39 = .ok (.iload 4, 2) := by decide +kernel
theorem dX12_nights_41 : decode cX12_nights 41 = .ok (.iconst 0, 1) := by decide +kernel
theorem dX12_nights_42 : decode cX12_nights 42 = .ok (.iconst 2, 1) := by decide +kernel
theorem dX12_nights_43 : decode cX12_nights 43 = .ok (.invokestatic 214, 3) := by decide +kernel
theorem dX12_nights_46 : decode cX12_nights 46 = .ok (.ifCond .ne 5, 3) := by decide +kernel
theorem dX12_nights_51 : decode cX12_nights 51 = .ok (.iconst 0, 1) := by decide +kernel
theorem dX12_nights_52 : decode cX12_nights 52 = .ok (.istore 5, 2) := by decide +kernel
theorem dX12_nights_54 : decode cX12_nights 54 = .ok (.iload 5, 2) := by decide +kernel
theorem dX12_nights_56 : decode cX12_nights 56 = .ok (.aload_n 0, 1) := by decide +kernel
theorem dX12_nights_57 : decode cX12_nights 57 = .ok (.getfield 204, 3) := by decide +kernel
theorem dX12_nights_60 : decode cX12_nights 60 = .ok (.if_icmp .ge 23, 3) := by decide +kernel
theorem dX12_nights_83 : decode cX12_nights 83 = .ok (.aload_n 0, 1) := by decide +kernel
theorem dX12_nights_84 : decode cX12_nights 84 = .ok (.iload_n 1, 1) := by decide +kernel
theorem dX12_nights_85 : decode cX12_nights 85 = .ok (.iload_n 2, 1) := by decide +kernel
theorem dX12_nights_86 : decode cX12_nights 86 = .ok (.iload_n 3, 1) := by decide +kernel
theorem dX12_nights_87 : decode cX12_nights 87 = .ok (.invokevirtual 404, 3) := by decide +kernel
theorem dX12_nights_90 : decode cX12_nights 90 = .ok (.istore 5, 2) := by decide +kernel
theorem dX12_nights_92 : decode cX12_nights 92 = .ok (.iconst 0, 1) := by decide +kernel
theorem dX12_nights_93 : decode cX12_nights 93 = .ok (.istore 6, 2) := by decide +kernel
theorem dX12_nights_95 : decode cX12_nights 95 = .ok (.iload 6, 2) := by decide +kernel
theorem dX12_nights_97 : decode cX12_nights 97 = .ok (.aload_n 0, 1) := by decide +kernel
theorem dX12_nights_98 : decode cX12_nights 98 = .ok (.getfield 204, 3) := by decide +kernel
theorem dX12_nights_101 : decode cX12_nights 101 = .ok (.if_icmp .ge 23, 3) := by decide +kernel
theorem dX12_nights_124 : decode cX12_nights 124 = .ok (.iload 5, 2) := by decide +kernel
theorem dX12_nights_126 : decode cX12_nights 126 = .ok (.ifCond .ne 8, 3) := by decide +kernel
theorem dX12_nights_134 : decode cX12_nights 134 = .ok (.iload 4, 2) := by decide +kernel
theorem dX12_nights_136 : decode cX12_nights 136 = .ok (.ifCond .ne 10, 3) := by decide +kernel
theorem dX12_nights_146 : decode cX12_nights 146 = .ok (.iload 4, 2) := by decide +kernel
theorem dX12_nights_148 : decode cX12_nights 148 = .ok (.iconst 1, 1) := by decide +kernel
theorem dX12_nights_149 : decode cX12_nights 149 = .ok (.if_icmp .ne 10, 3) := by decide +kernel
theorem dX12_nights_159 : decode cX12_nights 159 = .ok (.aload_n 0, 1) := by decide +kernel
theorem dX12_nights_160 : decode cX12_nights 160 = .ok (.getfield 401, 3) := by decide +kernel
theorem dX12_nights_163 : decode cX12_nights 163 = .ok (.ireturn, 1) := by decide +kernel
theorem dX12_nights_152 : decode cX12_nights 152 = .ok (.aload_n 0, 1) := by decide +kernel
theorem dX12_nights_153 : decode cX12_nights 153 = .ok (.getfield 398, 3) := by decide +kernel
theorem dX12_nights_156 : decode cX12_nights 156 = .ok (.goto 7, 3) := by decide +kernel
theorem dX12_nights_139 : decode cX12_nights 139 = .ok (.aload_n 0, 1) := by decide +kernel
theorem dX12_nights_140 : decode cX12_nights 140 = .ok (.getfield 395, 3) := by decide +kernel
theorem dX12_nights_143 : decode cX12_nights 143 = .ok (.goto 20, 3) := by decide +kernel
theorem dX12_lorry_0 : decode cX12_lorry 0 = .ok (.iload_n 1, 1) := by decide +kernel
theorem dX12_lorry_1 : decode cX12_lorry 1 = .ok (.bipush 20, 2) := by decide +kernel
theorem dX12_lorry_3 : decode cX12_lorry 3 = .ok (.sipush 2000, 3) := by decide +kernel
theorem dX12_lorry_6 : decode cX12_lorry 6 = .ok (.invokestatic 214, 3) := by decide +kernel
theorem dX12_lorry_9 : decode cX12_lorry 9 = .ok (.ifCond .eq 11, 3) := by decide +kernel
theorem dX12_lorry_12 : decode cX12_lorry 12 = .ok (.aload_n 0, 1) := by decide +kernel
theorem dX12_lorry_13 : decode cX12_lorry 13 = .ok (.getfield 386, 3) := by decide +kernel
theorem dX12_lorry_16 : decode cX12_lorry 16 = .ok (.iconst 3, 1) := by decide +kernel
theorem dX12_lorry_17 : decode cX12_lorry 17 = .ok (.if_icmp .ne 5, 3) := by decide +kernel
theorem dX12_lorry_22 : decode cX12_lorry 22 = .ok (.aload_n 0, 1) := by decide +kernel
theorem dX12_lorry_23 : decode cX12_lorry 23 = .ok (.getfield 107, 3) := by decide +kernel
theorem dX12_lorry_26 : decode cX12_lorry 26 = .ok (.aload_n 0, 1) := by decide +kernel
theorem dX12_lorry_27 : decode cX12_lorry 27 = .ok (.getfield 386, 3) := by decide +kernel
theorem dX12_lorry_30 : decode cX12_lorry 30 = .ok (.iload_n 1, 1) := by decide +kernel
theorem dX12_lorry_31 : decode cX12_lorry 31 = .ok (.iastore, 1) := by decide +kernel
theorem dX12_lorry_32 : decode cX12_lorry 32 = .ok (.aload_n 0, 1) := by decide +kernel
theorem dX12_lorry_33 : decode cX12_lorry 33 = .ok (.aload_n 0, 1) := by decide +kernel
theorem dX12_lorry_34 : decode cX12_lorry 34 = .ok (.getfield 386, 3) := by decide +kernel
theorem dX12_lorry_37 : decode cX12_lorry 37 = .ok (.iconst 1, 1) := by decide +kernel
theorem dX12_lorry_38 : decode cX12_lorry 38 = .ok (.iadd, 1) := by decide +kernel
theorem dX12_lorry_39 : decode cX12_lorry 39 = .ok (.putfield 386, 3) := by decide +kernel
theorem dX12_lorry_42 : decode cX12_lorry 42 = .ok (.aload_n 0, 1) := by decide +kernel
theorem dX12_lorry_43 : decode cX12_lorry 43 = .ok (.getfield 386, 3) := by decide +kernel
theorem dX12_lorry_46 : decode cX12_lorry 46 = .ok (.iconst 1, 1) := by decide +kernel
theorem dX12_lorry_47 : decode cX12_lorry 47 = .ok (.isub, 1) := by decide +kernel
theorem dX12_lorry_48 : decode cX12_lorry 48 = .ok (.ireturn, 1) := by decide +kernel
theorem dX12_lorry_20 : decode cX12_lorry 20 = .ok (.iconst (-1), 1) := by decide +kernel
theorem dX12_lorry_21 : decode cX12_lorry 21 = .ok (.ireturn, 1) := by decide +kernel
theorem dX12_sharedBy_0 : decode cX12_sharedBy 0 = .ok (.iconst 0, 1) := by decide +kernel
theorem dX12_sharedBy_1 : decode cX12_sharedBy 1 = .ok (.istore_n 2, 1) := by decide +kernel
theorem dX12_sharedBy_2 : decode cX12_sharedBy 2 = .ok (.iload_n 2, 1) := by decide +kernel
theorem dX12_sharedBy_3 : decode cX12_sharedBy 3 = .ok (.iconst 3, 1) := by decide +kernel
theorem dX12_sharedBy_4 : decode cX12_sharedBy 4 = .ok (.if_icmp .ge 23, 3) := by decide +kernel
theorem dX12_sharedBy_7 : decode cX12_sharedBy 7 = .ok (.aload_n 0, 1) := by decide +kernel
theorem dX12_sharedBy_8 : decode cX12_sharedBy 8 = .ok (.getfield 110, 3) := by decide +kernel
theorem dX12_sharedBy_11 : decode cX12_sharedBy 11 = .ok (.iload_n 2, 1) := by decide +kernel
theorem dX12_sharedBy_12 : decode cX12_sharedBy 12 = .ok (.iconst 0, 1) := by decide +kernel
theorem dX12_sharedBy_13 : decode cX12_sharedBy 13 = .ok (.iastore, 1) := by decide +kernel
theorem dX12_sharedBy_14 : decode cX12_sharedBy 14 = .ok (.aload_n 0, 1) := by decide +kernel
theorem dX12_sharedBy_15 : decode cX12_sharedBy 15 = .ok (.getfield 113, 3) := by decide +kernel
theorem dX12_sharedBy_18 : decode cX12_sharedBy 18 = .ok (.iload_n 2, 1) := by decide +kernel
theorem dX12_sharedBy_19 : decode cX12_sharedBy 19 = .ok (.iconst 0, 1) := by decide +kernel
theorem dX12_sharedBy_20 : decode cX12_sharedBy 20 = .ok (.iastore, 1) := by decide +kernel
theorem dX12_sharedBy_21 : decode cX12_sharedBy 21 = .ok (.iinc 2 1, 3) := by decide +kernel
theorem dX12_sharedBy_24 : decode cX12_sharedBy 24 = .ok (.goto (-22), 3) := by decide +kernel
theorem dX12_sharedBy_27 : decode cX12_sharedBy 27 = .ok (.iconst 0, 1) := by decide +kernel
theorem dX12_sharedBy_28 : decode cX12_sharedBy 28 = .ok (.istore_n 2, 1) := by decide +kernel
theorem dX12_sharedBy_29 : decode cX12_sharedBy 29 = .ok (.iload_n 2, 1) := by decide +kernel
theorem dX12_sharedBy_30 : decode cX12_sharedBy 30 = .ok (.aload_n 0, 1) := by decide +kernel
theorem dX12_sharedBy_31 : decode cX12_sharedBy 31 = .ok (.getfield 364, 3) := by decide +kernel
theorem dX12_sharedBy_34 : decode cX12_sharedBy 34 = .ok (.if_icmp .ge 73, 3) := by decide +kernel
theorem dX12_sharedBy_107 : decode cX12_sharedBy 107 = .ok (.iconst 0, 1) := by decide +kernel
theorem dX12_sharedBy_108 : decode cX12_sharedBy 108 = .ok (.istore_n 2, 1) := by decide +kernel
theorem dX12_sharedBy_109 : decode cX12_sharedBy 109 = .ok (.iconst 0, 1) := by decide +kernel
theorem dX12_sharedBy_110 : decode cX12_sharedBy 110 = .ok (.istore_n 3, 1) := by decide +kernel
theorem dX12_sharedBy_111 : decode cX12_sharedBy 111 = .ok (.iload_n 3, 1) := by decide +kernel
theorem dX12_sharedBy_112 : decode cX12_sharedBy 112 = .ok (.aload_n 0, 1) := by decide +kernel
theorem dX12_sharedBy_113 : decode cX12_sharedBy 113 = .ok (.getfield 386, 3) := by decide +kernel
theorem dX12_sharedBy_116 : decode cX12_sharedBy 116 = .ok (.if_icmp .ge 39, 3) := by decide +kernel
theorem dX12_sharedBy_155 : decode cX12_sharedBy 155 = .ok (.iload_n 2, 1) := by decide +kernel
theorem dX12_sharedBy_156 : decode cX12_sharedBy 156 = .ok (.ireturn, 1) := by decide +kernel
theorem dX12_shared_0 : decode cX12_shared 0 = .ok (.iload_n 1, 1) := by decide +kernel
theorem dX12_shared_1 : decode cX12_shared 1 = .ok (.invokestatic 341, 3) := by decide +kernel
theorem dX12_shared_4 : decode cX12_shared 4 = .ok (.ifCond .eq 27, 3) := by decide +kernel
theorem dX12_shared_7 : decode cX12_shared 7 = .ok (.iload_n 2, 1) := by decide +kernel
theorem dX12_shared_8 : decode cX12_shared 8 = .ok (.iconst 1, 1) := by decide +kernel
theorem dX12_shared_9 : decode cX12_shared 9 = .ok (.sipush 400, 3) := by decide +kernel
theorem dX12_shared_12 : decode cX12_shared 12 = .ok (.invokestatic 214, 3) := by decide +kernel
theorem dX12_shared_15 : decode cX12_shared 15 = .ok (.ifCond .eq 16, 3) := by decide +kernel
theorem dX12_shared_18 : decode cX12_shared 18 = .ok (.iload_n 3, 1) := by decide +kernel
theorem dX12_shared_19 : decode cX12_shared 19 = .ok (.iconst (-1), 1) := by decide +kernel
theorem dX12_shared_20 : decode cX12_shared 20 = .ok (.if_icmp .eq 13, 3) := by decide +kernel
theorem dX12_shared_33 : decode cX12_shared 33 = .ok (.aload_n 0, 1) := by decide +kernel
theorem dX12_shared_34 : decode cX12_shared 34 = .ok (.iload_n 1, 1) := by decide +kernel
theorem dX12_shared_35 : decode cX12_shared 35 = .ok (.iload_n 2, 1) := by decide +kernel
theorem dX12_shared_36 : decode cX12_shared 36 = .ok (.bipush 6, 2) := by decide +kernel
theorem dX12_shared_38 : decode cX12_shared 38 = .ok (.invokevirtual 380, 3) := by decide +kernel
theorem dX12_shared_41 : decode cX12_shared 41 = .ok (.ifCond .ne 6, 3) := by decide +kernel
theorem dX12_shared_47 : decode cX12_shared 47 = .ok (.iconst 1, 1) := by decide +kernel
theorem dX12_shared_48 : decode cX12_shared 48 = .ok (.istore 4, 2) := by decide +kernel
theorem dX12_shared_50 : decode cX12_shared 50 = .ok (.iconst 0, 1) := by decide +kernel
theorem dX12_shared_51 : decode cX12_shared 51 = .ok (.istore 5, 2) := by decide +kernel
theorem dX12_shared_53 : decode cX12_shared 53 = .ok (.iload 5, 2) := by decide +kernel
theorem dX12_shared_55 : decode cX12_shared 55 = .ok (.aload_n 0, 1) := by decide +kernel
theorem dX12_shared_56 : decode cX12_shared 56 = .ok (.getfield 364, 3) := by decide +kernel
theorem dX12_shared_59 : decode cX12_shared 59 = .ok (.if_icmp .ge 18, 3) := by decide +kernel
theorem dX12_shared_77 : decode cX12_shared 77 = .ok (.iconst (-1), 1) := by decide +kernel
theorem dX12_shared_78 : decode cX12_shared 78 = .ok (.istore 5, 2) := by decide +kernel
theorem dX12_shared_80 : decode cX12_shared 80 = .ok (.iconst 0, 1) := by decide +kernel
theorem dX12_shared_81 : decode cX12_shared 81 = .ok (.istore 6, 2) := by decide +kernel
theorem dX12_shared_83 : decode cX12_shared 83 = .ok (.iload 6, 2) := by decide +kernel
theorem dX12_shared_85 : decode cX12_shared 85 = .ok (.iload 4, 2) := by decide +kernel
theorem dX12_shared_87 : decode cX12_shared 87 = .ok (.if_icmp .ge 120, 3) := by decide +kernel
theorem dX12_shared_90 : decode cX12_shared 90 = .ok (.iload 6, 2) := by decide +kernel
theorem dX12_shared_92 : decode cX12_shared 92 = .ok (.istore 7, 2) := by decide +kernel
theorem dX12_shared_94 : decode cX12_shared 94 = .ok (.aload_n 0, 1) := by decide +kernel
theorem dX12_shared_95 : decode cX12_shared 95 = .ok (.getfield 364, 3) := by decide +kernel
theorem dX12_shared_98 : decode cX12_shared 98 = .ok (.iconst 1, 1) := by decide +kernel
theorem dX12_shared_99 : decode cX12_shared 99 = .ok (.isub, 1) := by decide +kernel
theorem dX12_shared_100 : decode cX12_shared 100 = .ok (.istore 8, 2) := by decide +kernel
theorem dX12_shared_102 : decode cX12_shared 102 = .ok (.iload 8, 2) := by decide +kernel
theorem dX12_shared_104 : decode cX12_shared 104 = .ok (.ifCond .lt 32, 3) := by decide +kernel
theorem dX12_shared_136 : decode cX12_shared 136 = .ok (.aload_n 0, 1) := by decide +kernel
theorem dX12_shared_137 : decode cX12_shared 137 = .ok (.iload_n 1, 1) := by decide +kernel
theorem dX12_shared_138 : decode cX12_shared 138 = .ok (.invokevirtual 392, 3) := by decide +kernel
theorem dX12_shared_141 : decode cX12_shared 141 = .ok (.istore 8, 2) := by decide +kernel
theorem dX12_shared_143 : decode cX12_shared 143 = .ok (.iload 8, 2) := by decide +kernel
theorem dX12_shared_145 : decode cX12_shared 145 = .ok (.iconst (-1), 1) := by decide +kernel
theorem dX12_shared_146 : decode cX12_shared 146 = .ok (.if_icmp .eq 55, 3) := by decide +kernel
theorem dX12_shared_149 : decode cX12_shared 149 = .ok (.iload 5, 2) := by decide +kernel
theorem dX12_shared_151 : decode cX12_shared 151 = .ok (.iconst (-1), 1) := by decide +kernel
theorem dX12_shared_152 : decode cX12_shared 152 = .ok (.if_icmp .eq 13, 3) := by decide +kernel
theorem dX12_shared_165 : decode cX12_shared 165 = .ok (.iload 8, 2) := by decide +kernel
theorem dX12_shared_167 : decode cX12_shared 167 = .ok (.istore 5, 2) := by decide +kernel
theorem dX12_shared_169 : decode cX12_shared 169 = .ok (.iconst 0, 1) := by decide +kernel
theorem dX12_shared_170 : decode cX12_shared 170 = .ok (.istore 9, 2) := by decide +kernel
theorem dX12_shared_172 : decode cX12_shared 172 = .ok (.iload 9, 2) := by decide +kernel
theorem dX12_shared_174 : decode cX12_shared 174 = .ok (.aload_n 0, 1) := by decide +kernel
theorem dX12_shared_175 : decode cX12_shared 175 = .ok (.getfield 364, 3) := by decide +kernel
theorem dX12_shared_178 : decode cX12_shared 178 = .ok (.if_icmp .ge 23, 3) := by decide +kernel
theorem dX12_shared_201 : decode cX12_shared 201 = .ok (.iinc 6 1, 3) := by decide +kernel
theorem dX12_shared_204 : decode cX12_shared 204 = .ok (.goto (-121), 3) := by decide +kernel
theorem dX12_shared_207 : decode cX12_shared 207 = .ok (.iload 5, 2) := by decide +kernel
theorem dX12_shared_209 : decode cX12_shared 209 = .ok (.iconst (-1), 1) := by decide +kernel
theorem dX12_shared_210 : decode cX12_shared 210 = .ok (.if_icmp .ne 6, 3) := by decide +kernel
theorem dX12_shared_216 : decode cX12_shared 216 = .ok (.iload_n 3, 1) := by decide +kernel
theorem dX12_shared_217 : decode cX12_shared 217 = .ok (.iconst (-1), 1) := by decide +kernel
theorem dX12_shared_218 : decode cX12_shared 218 = .ok (.if_icmp .ne 6, 3) := by decide +kernel
theorem dX12_shared_221 : decode cX12_shared 221 = .ok (.iload 5, 2) := by decide +kernel
theorem dX12_shared_223 : decode cX12_shared 223 = .ok (.ireturn, 1) := by decide +kernel
theorem dX12_shared_23 : decode cX12_shared 23 = .ok (.aload_n 0, 1) := by decide +kernel
theorem dX12_shared_24 : decode cX12_shared 24 = .ok (.iload_n 3, 1) := by decide +kernel
theorem dX12_shared_25 : decode cX12_shared 25 = .ok (.invokevirtual 218, 3) := by decide +kernel
theorem dX12_shared_28 : decode cX12_shared 28 = .ok (.ifCond .ne 5, 3) := by decide +kernel
theorem dX12_shared_31 : decode cX12_shared 31 = .ok (.iconst (-1), 1) := by decide +kernel
theorem dX12_shared_32 : decode cX12_shared 32 = .ok (.ireturn, 1) := by decide +kernel
set_option maxRecDepth 100000 in
set_option maxHeartbeats 4000000 in
theorem q_M_driven (l : Launch) (D : va_G) (cI cB cZ : ClassId) (g : Nat → Nat) (v0 : Int32) (sz : Nat) : Met l yX12_driven (CWS yX12_driven cX12_driven 7 (some .int)) (RM 3 0 0) (PBw [.ref (g 100), .int v0] D cI cB cZ [((g 100), .inr (13, oM g))] sz) (va_Qi (fun (r : Int32) (_ : Unit) => r = (if v0.toInt = 0 then (0 : Int32) else -1)) (fun (_ : Unit) (_ : State) => True) (va_A [((g 100), .inr (13, oM g))] sz)) 0 0 (va_A [((g 100), .inr (13, oM g))] sz) := by
  refine Met.ofW (cc := cX12_driven) (maxL := 7) (ret := (some .int)) (by decide) rfl ?_
  intro p e s m args below meth c s₁ B hml hv
  obtain ⟨rfl, hsz, hP, hK, hD0⟩ := hv
  have hx := B.exec
  have hb := B.bytes
  have hr := B.returns
  have hts := atoms_spec (ws := (CWS yX12_driven cX12_driven 7 (some .int))) B.pre
  have hown : s.vm.findClass RX12 = some m.cls := findClass_of_methodNamed B.named
  have hlocks := B.notSynchronized
  have S : SF p m c cX12_driven 7 s ([.ref (g 100), .int v0]).toArray RX12 := ⟨hx, hb, hml, hown, fun w h => hts w (List.mem_cons_of_mem _ h)⟩
  subst hsz
  have hD := hD0.self (sz := s.heap.size)
  generalize hAe : va_A [((g 100), .inr (13, oM g))] s.heap.size = A at hD ⊢
  have hA : ∀ q : Nat, s.heap.size ≤ q → A q := fun q h => by rw [← hAe]; exact Or.inr h
  have hS : va_S A s.heap s.heap [] := va_S.rf
  have hP : va_P D vwCl [((g 100), .inr (13, oM g))] s.heap := hP
  have hD : va_D A [((g 100), .inr (13, oM g))] := hD
  have hl := lv_entry ([.ref (g 100), .int v0]) (n := 7) (Nat.le_of_ble_eq_true rfl)
  rw [lg_entry_eq]
  generalize (lg_sl ([.ref (g 100), .int v0]) ++ List.replicate (7 - (lg_sl ([.ref (g 100), .int v0])).length) Slot.unset).toArray = ls at hl ⊢
  have hl : lv_has ls 7 [(0, .ref (g 100)), (1, .int v0)] := hl
  refine lv_iload_n hx hb dX12_driven_0 rfl (lv_at hl 1 rfl) ?_
  refine lv_iconst (v := 0) hx hb dX12_driven_1 (by decide) ?_
  refine lv_bipush (v := 20) hx hb dX12_driven_2 (by decide) ?_
  refine vp_callSi (runS_r (As := [.int v0, .int 0, .int 20]) (rest := []) S (q_in l D cI cB cZ v0 0 20) kS_RX12_214 hK hP [] rfl ⟨Nat.le_of_ble_eq_true rfl, Nat.le_of_ble_eq_true rfl⟩ ⟨Nat.le_of_ble_eq_true rfl, Nat.le_of_ble_eq_true rfl⟩ rfl hl.1 rfl (Nat.le_of_ble_eq_true rfl) dX12_driven_4) (fun r_1 h_2 => ?_)
  rcases h_2 with ⟨rfl, h_2⟩ | ⟨rfl, h_2⟩
  ·
    have h_2 : 0 ≤ v0.toInt ∧ v0.toInt ≤ 20 := h_2
    refine lv_if_eq (tgt := 18) hx hb dX12_driven_7 (by decide) (fun h => absurd h (by decide)) (fun _ => ?_)
    refine lv_iload_n hx hb dX12_driven_10 rfl (lv_at hl 1 rfl) ?_
    refine lv_aload_n hx hb dX12_driven_11 rfl (lv_at hl 0 rfl) ?_
    refine gf_RX12_226 S hK hP 0 rfl (v := .int 0) rfl dX12_driven_12 ?_
    refine lv_icmp_le (tgt := 20) hx hb dX12_driven_15 (by decide) (fun c_3 => ?_) (fun c_3 => ?_)
    ·
      have tc_3 : (v0.toInt : Int) ≤ 0 := Int32.le_iff_toInt_le.mp c_3
      refine lv_aload_n hx hb dX12_driven_20 rfl (lv_at hl 0 rfl) ?_
      refine lv_iconst (v := 0) hx hb dX12_driven_21 (by decide) ?_
      refine pf_RX12_226 S hK hP hD hS 0 rfl (v := .int 0) (Nat.le_of_ble_eq_true rfl) rfl rfl dX12_driven_22 (fun H locs hP hD hS => ?_)
      have hP : va_P D vwCl [((g 100), .inr (13, oM g))] H := hP
      have hD : va_D A [((g 100), .inr (13, oM g))] := hD
      refine lv_iconst (v := 0) hx hb dX12_driven_25 (by decide) ?_
      refine lv_istore_n (lv' := [(2, .int 0), (0, .ref (g 100)), (1, .int v0)]) hx hb dX12_driven_26 rfl hl (by decide) rfl (fun ls hl => ?_)
      refine lv_iconst (v := 0) hx hb dX12_driven_27 (by decide) ?_
      refine lv_istore_n (lv' := [(3, .int 0), (2, .int 0), (0, .ref (g 100)), (1, .int v0)]) hx hb dX12_driven_28 rfl hl (by decide) rfl (fun ls hl => ?_)
      refine lv_iconst (v := 0) hx hb dX12_driven_29 (by decide) ?_
      refine lv_istore (lv' := [(4, .int 0), (3, .int 0), (2, .int 0), (0, .ref (g 100)), (1, .int v0)]) hx hb dX12_driven_30 hl (by decide) rfl (fun ls hl => ?_)
      refine lv_iconst (v := 0) hx hb dX12_driven_32 (by decide) ?_
      refine lv_istore (lv' := [(5, .int 0), (4, .int 0), (3, .int 0), (2, .int 0), (0, .ref (g 100)), (1, .int v0)]) hx hb dX12_driven_33 hl (by decide) rfl (fun ls hl => ?_)
      refine lv_iload hx hb dX12_driven_35 (lv_at hl 0 rfl) ?_
      refine lv_iload_n hx hb dX12_driven_37 rfl (lv_at hl 5 rfl) ?_
      refine lv_icmp_ge (tgt := 111) hx hb dX12_driven_38 (by decide) (fun c_4 => ?_) (fun c_4 => False.elim (by have tc_4 : (0 : Int) < v0.toInt := Int32.lt_iff_toInt_lt.mp (Int32.not_le.mp c_4); omega))
      have tc_4 : (v0.toInt : Int) ≤ 0 := Int32.le_iff_toInt_le.mp c_4
      refine lv_iload_n hx hb dX12_driven_111 rfl (lv_at hl 3 rfl) ?_
      refine lv_iload_n hx hb dX12_driven_112 rfl (lv_at hl 2 rfl) ?_
      refine lv_iadd hx hb dX12_driven_113 ?_
      refine lv_topi (fun y_5 ey_5 => ?_)
      obtain rfl : y_5 = 0 := ey_5.trans (by decide)
      refine lv_iload hx hb dX12_driven_114 (lv_at hl 1 rfl) ?_
      refine lv_iadd hx hb dX12_driven_116 ?_
      refine lv_topi (fun y_6 ey_6 => ?_)
      obtain rfl : y_6 = 0 := ey_6.trans (by decide)
      exact W.iret (v := 0) hx hb hr (fun t ht hW => ⟨⟨0, (), rfl, (if_pos (by omega)).symm, trivial⟩, hS.F ht⟩) hS.2.2 dX12_driven_117
    ·
      have tc_3 : (0 : Int) < v0.toInt := Int32.lt_iff_toInt_lt.mp (Int32.not_le.mp c_3)
      refine lv_iconst (v := (-1)) hx hb dX12_driven_18 (by decide) ?_
      exact W.iret (v := (-1)) hx hb hr (fun t ht hW => ⟨⟨(-1), (), rfl, (if_neg (by omega)).symm, trivial⟩, hS.F ht⟩) hS.2.2 dX12_driven_19
  ·
    have h_2 : ¬ (0 ≤ v0.toInt ∧ v0.toInt ≤ 20) := h_2
    refine lv_if_eq (tgt := 18) hx hb dX12_driven_7 (by decide) (fun _ => ?_) (fun h => absurd h (by decide))
    refine lv_iconst (v := (-1)) hx hb dX12_driven_18 (by decide) ?_
    exact W.iret (v := (-1)) hx hb hr (fun t ht hW => ⟨⟨(-1), (), rfl, (if_neg (by omega)).symm, trivial⟩, hS.F ht⟩) hS.2.2 dX12_driven_19
set_option maxRecDepth 100000 in
set_option maxHeartbeats 4000000 in
theorem q_mroundTo (l : Launch) (D : va_G) (cI cB cZ : ClassId) (g : Nat → Nat) : Met l yX12_roundTo (CWS yX12_roundTo cX12_roundTo 5 (some .int)) (RM 0 0 0) (PBr [.ref (g 100), .int 0] D cI cB cZ [((g 100), .inr (13, oM g))]) (vp_Si (fun r => r = 0)) 0 0 (fun _ => False) := by
  refine Met.ofW (cc := cX12_roundTo) (maxL := 5) (ret := (some .int)) (by decide) rfl ?_
  intro p e s m args below meth c s₁ B hml hv
  obtain ⟨rfl, hP, hK⟩ := hv
  have hx := B.exec
  have hb := B.bytes
  have hr := B.returns
  have hts := atoms_spec (ws := (CWS yX12_roundTo cX12_roundTo 5 (some .int))) B.pre
  have hown : s.vm.findClass RX12 = some m.cls := findClass_of_methodNamed B.named
  have hlocks := B.notSynchronized
  have S : SF p m c cX12_roundTo 5 s ([.ref (g 100), .int 0]).toArray RX12 := ⟨hx, hb, hml, hown, fun w h => hts w (List.mem_cons_of_mem _ h)⟩
  have hP : va_P D vwCl [((g 100), .inr (13, oM g))] s.heap := hP
  have hl := lv_entry ([.ref (g 100), .int 0]) (n := 5) (Nat.le_of_ble_eq_true rfl)
  rw [lg_entry_eq]
  generalize (lg_sl ([.ref (g 100), .int 0]) ++ List.replicate (5 - (lg_sl ([.ref (g 100), .int 0])).length) Slot.unset).toArray = ls at hl ⊢
  have hl : lv_has ls 5 [(0, .ref (g 100)), (1, .int 0)] := hl
  refine lv_iload_n hx hb dX12_roundTo_0 rfl (lv_at hl 1 rfl) ?_
  refine lv_if_ne (tgt := 8) hx hb dX12_roundTo_1 (by decide) (fun h => absurd h (by decide)) (fun _ => ?_)
  refine lv_iconst (v := 0) hx hb dX12_roundTo_4 (by decide) ?_
  refine lv_goto (tgt := 11) hx hb dX12_roundTo_5 (by decide) ?_
  refine lv_istore_n (lv' := [(2, .int 0), (0, .ref (g 100)), (1, .int 0)]) hx hb dX12_roundTo_11 rfl hl (by decide) rfl (fun ls hl => ?_)
  refine lv_iconst (v := 0) hx hb dX12_roundTo_12 (by decide) ?_
  refine lv_istore_n (lv' := [(3, .int 0), (2, .int 0), (0, .ref (g 100)), (1, .int 0)]) hx hb dX12_roundTo_13 rfl hl (by decide) rfl (fun ls hl => ?_)
  refine lv_iload_n hx hb dX12_roundTo_14 rfl (lv_at hl 0 rfl) ?_
  refine lv_aload_n hx hb dX12_roundTo_15 rfl (lv_at hl 2 rfl) ?_
  refine gf_RX12_364 S hK hP 0 rfl (v := .int 0) rfl dX12_roundTo_16 ?_
  refine lv_icmp_ge (tgt := 82) hx hb dX12_roundTo_19 (by decide) (fun _ => ?_) (fun h => absurd h (by decide))
  refine lv_iload_n hx hb dX12_roundTo_82 rfl (lv_at hl 1 rfl) ?_
  exact W.iret (v := 0) hx hb hr (fun t ht hW => ⟨0, rfl, rfl, ht⟩) (fun _ h => absurd h List.not_mem_nil) dX12_roundTo_83
set_option maxRecDepth 100000 in
set_option maxHeartbeats 4000000 in
theorem q_mgoNights (l : Launch) (D : va_G) (cI cB cZ : ClassId) (g : Nat → Nat) (v0 v1 v2 : Int32) (sz : Nat) (h0 : 0 ≤ v0.toInt ∧ v0.toInt ≤ 399) (h1 : 1 ≤ v1.toInt ∧ v1.toInt ≤ 7) : Met l yX12_goNights (CWS yX12_goNights cX12_goNights 6 (some .boolean)) (RM 2 0 0) (PBw [.ref (g 100), .int v0, .int v1, .int v2] D cI cB cZ [((g 100), .inr (13, oM g))] sz) (va_Qi (fun (r : Int32) (_ : Unit) => r = 1) (fun (u : Unit) (t : State) => va_P D vwCl [((g 100), .inr (13, oM g))] t.heap ∧ va_D (va_A [((g 100), .inr (13, oM g))] sz) [((g 100), .inr (13, oM g))]) (va_A [((g 100), .inr (13, oM g))] sz)) 0 0 (va_A [((g 100), .inr (13, oM g))] sz) := by
  refine Met.ofW (cc := cX12_goNights) (maxL := 6) (ret := (some .boolean)) (by decide) rfl ?_
  intro p e s m args below meth c s₁ B hml hv
  obtain ⟨rfl, hsz, hP, hK, hD0⟩ := hv
  have hx := B.exec
  have hb := B.bytes
  have hr := B.returns
  have hts := atoms_spec (ws := (CWS yX12_goNights cX12_goNights 6 (some .boolean))) B.pre
  have hown : s.vm.findClass RX12 = some m.cls := findClass_of_methodNamed B.named
  have hlocks := B.notSynchronized
  have S : SF p m c cX12_goNights 6 s ([.ref (g 100), .int v0, .int v1, .int v2]).toArray RX12 := ⟨hx, hb, hml, hown, fun w h => hts w (List.mem_cons_of_mem _ h)⟩
  subst hsz
  have hD := hD0.self (sz := s.heap.size)
  generalize hAe : va_A [((g 100), .inr (13, oM g))] s.heap.size = A at hD ⊢
  have hA : ∀ q : Nat, s.heap.size ≤ q → A q := fun q h => by rw [← hAe]; exact Or.inr h
  have hS : va_S A s.heap s.heap [] := va_S.rf
  have hP : va_P D vwCl [((g 100), .inr (13, oM g))] s.heap := hP
  have hD : va_D A [((g 100), .inr (13, oM g))] := hD
  have hl := lv_entry ([.ref (g 100), .int v0, .int v1, .int v2]) (n := 6) (Nat.le_of_ble_eq_true rfl)
  rw [lg_entry_eq]
  generalize (lg_sl ([.ref (g 100), .int v0, .int v1, .int v2]) ++ List.replicate (6 - (lg_sl ([.ref (g 100), .int v0, .int v1, .int v2])).length) Slot.unset).toArray = ls at hl ⊢
  have hl : lv_has ls 6 [(0, .ref (g 100)), (1, .int v0), (2, .int v1), (3, .int v2)] := hl
  refine lv_aload_n hx hb dX12_goNights_0 rfl (lv_at hl 0 rfl) ?_
  refine lv_iconst (v := 0) hx hb dX12_goNights_1 (by decide) ?_
  refine pf_RX12_395 S hK hP hD hS 0 rfl (v := .int 0) (Nat.le_of_ble_eq_true rfl) rfl rfl dX12_goNights_2 (fun H locs hP hD hS => ?_)
  have hP : va_P D vwCl [((g 100), .inr (13, oM g))] H := hP
  have hD : va_D A [((g 100), .inr (13, oM g))] := hD
  refine lv_aload_n hx hb dX12_goNights_5 rfl (lv_at hl 0 rfl) ?_
  refine lv_iconst (v := 0) hx hb dX12_goNights_6 (by decide) ?_
  refine pf_RX12_398 S hK hP hD hS 0 rfl (v := .int 0) (Nat.le_of_ble_eq_true rfl) rfl rfl dX12_goNights_7 (fun H locs hP hD hS => ?_)
  have hP : va_P D vwCl [((g 100), .inr (13, oM g))] H := hP
  have hD : va_D A [((g 100), .inr (13, oM g))] := hD
  refine lv_aload_n hx hb dX12_goNights_10 rfl (lv_at hl 0 rfl) ?_
  refine lv_iconst (v := 0) hx hb dX12_goNights_11 (by decide) ?_
  refine pf_RX12_401 S hK hP hD hS 0 rfl (v := .int 0) (Nat.le_of_ble_eq_true rfl) rfl rfl dX12_goNights_12 (fun H locs hP hD hS => ?_)
  have hP : va_P D vwCl [((g 100), .inr (13, oM g))] H := hP
  have hD : va_D A [((g 100), .inr (13, oM g))] := hD
  obtain ⟨j, hj, rfl⟩ := nI_of (x := v0) (fun q => by have := Int32.lt_iff_toInt_lt.mp q; have e : (0 : Int32).toInt = 0 := rfl; omega)
  have tj : (nI j).toInt = (j : Int) := nI_toInt hj
  have td := sum_day (x := nI j) (y := v1) (by omega) (by omega)
  refine lv_iload_n hx hb dX12_goNights_15 rfl (lv_at hl 1 rfl) ?_
  refine lv_istore (lv' := [(4, .int (nI j)), (0, .ref (g 100)), (1, .int (nI j)), (2, .int v1), (3, .int v2)]) hx hb dX12_goNights_16 hl (by decide) rfl (fun ls hl => ?_)
  have lp_18 : ∀ (n i : Nat), (nI j + v1).toInt.toNat + 1 ≤ i + n → i ≤ (nI j + v1).toInt.toNat → ∀ (H : Heap) (locs : List Loc), va_P D vwCl [((g 100), .inr (13, oM g))] H → va_D A [((g 100), .inr (13, oM g))] → va_S A s.heap H locs → ∀ ls : Array Slot, lv_has ls 6 [(4, .int (nI i)), (0, .ref (g 100)), (1, .int (nI j)), (2, .int v1), (3, .int v2)] → W p l e (RM 2 0 0) s m ([.ref (g 100), .int (nI j), .int v1, .int v2]).toArray below meth c H locs 0 0 (MQ below (va_Qi (fun (r : Int32) (_ : Unit) => r = 1) (fun (u : Unit) (t : State) => va_P D vwCl [((g 100), .inr (13, oM g))] t.heap ∧ va_D A [((g 100), .inr (13, oM g))]) A) ([.ref (g 100), .int (nI j), .int v1, .int v2]).toArray s 0 0 A) (F0 m 18 ls []) := by
    intro n
    induction n with
    | zero => intro i h1 h2; exact absurd h1 (by omega)
    | succ n ih =>
      intro i hn1 hi H locs hP hD hS ls hl
      have ti : (nI i).toInt = (i : Int) := nI_toInt (by omega)
      refine lv_iload hx hb dX12_goNights_18 (lv_at hl 0 rfl) ?_
      refine lv_iload_n hx hb dX12_goNights_20 rfl (lv_at hl 2 rfl) ?_
      refine lv_iload_n hx hb dX12_goNights_21 rfl (lv_at hl 3 rfl) ?_
      refine lv_iadd hx hb dX12_goNights_22 ?_
      refine lv_icmp_ge (tgt := 131) hx hb dX12_goNights_23 (by decide) (fun c_1 => ?_) (fun c_1 => ?_)
      ·
        have tc_1 : (((nI j) + v1).toInt : Int) ≤ (nI i).toInt := Int32.le_iff_toInt_le.mp c_1
        refine lv_iconst (v := 1) hx hb dX12_goNights_131 (by decide) ?_
        have hP9 := hP.sub (ws' := [((g 100), .inr (13, oM g))]) [0] rfl
        have hD9 := hD.sub (ws' := [((g 100), .inr (13, oM g))]) [0] (by decide) rfl
        exact W.zret (v := 1) hx hb hr rfl (fun t ht hW => ⟨⟨1, (), rfl, rfl, by rw [ht]; exact hP9, hD9⟩, hS.F ht⟩) hS.2.2 dX12_goNights_132
      ·
        have tc_1 : ((nI i).toInt : Int) < ((nI j) + v1).toInt := Int32.lt_iff_toInt_lt.mp (Int32.not_le.mp c_1)
        refine lv_aload_n hx hb dX12_goNights_26 rfl (lv_at hl 1 rfl) ?_
        refine lv_iload hx hb dX12_goNights_27 (lv_at hl 0 rfl) ?_
        refine lv_iload_n hx hb dX12_goNights_29 rfl (lv_at hl 4 rfl) ?_
        refine lv_bipush (v := 8) hx hb dX12_goNights_30 (by decide) ?_
        have hFc := va_free (wc := [((g 100), .inr (13, oM g))]) hD hS hA [0] rfl
        refine va_calli (runV_w (As := [.int (nI i), .int v2, .int 8]) (rest := []) S (q_mlays l D cI cB cZ g (nI i) v2 8 H.size (by omega)) kV_RX12_380 hK hP hD [0] rfl rfl (by decide) 0 rfl rfl rfl ⟨Nat.le_of_ble_eq_true rfl, Nat.le_of_ble_eq_true rfl⟩ ⟨Nat.le_of_ble_eq_true rfl, Nat.le_of_ble_eq_true rfl⟩ rfl hl.1 rfl (Nat.le_of_ble_eq_true rfl) dX12_goNights_32) hS (fun q _ h => hFc q h) hFc (fun r_2 u_3 t H1 locs ht hvm h_4 hB hz1 hk1 hS => ?_)
        obtain ⟨hP1, hD1⟩ := hB
        rw [ht] at hP1
        obtain ⟨hP, hD⟩ := va_join (wr := []) (w1 := [((g 100), .inr (13, oM g))]) hP hD [0] [] rfl rfl (by decide) (by decide) hk1 hFc hP1 hD1
        generalize H1 = H at hP hS ⊢
        have hP : va_P D vwCl [((g 100), .inr (13, oM g))] H := hP
        have hD : va_D A [((g 100), .inr (13, oM g))] := hD
        subst h_4
        refine lv_if_ne (tgt := 40) hx hb dX12_goNights_35 (by decide) (fun _ => ?_) (fun h => absurd h (by decide))
        refine lv_aload_n hx hb dX12_goNights_40 rfl (lv_at hl 1 rfl) ?_
        refine lv_aload_n hx hb dX12_goNights_41 rfl (lv_at hl 1 rfl) ?_
        refine gf_RX12_395 S hK hP 0 rfl (v := .int 0) rfl dX12_goNights_42 ?_
        refine lv_aload_n hx hb dX12_goNights_45 rfl (lv_at hl 1 rfl) ?_
        refine lv_iconst (v := 1) hx hb dX12_goNights_46 (by decide) ?_
        refine lv_aload_n hx hb dX12_goNights_47 rfl (lv_at hl 1 rfl) ?_
        refine gf_RX12_364 S hK hP 0 rfl (v := .int 0) rfl dX12_goNights_48 ?_
        refine lv_ishl hx hb dX12_goNights_51 ?_
        refine lv_topi (fun y_5 ey_5 => ?_)
        obtain rfl : y_5 = 1 := ey_5.trans (by decide)
        refine lv_iconst (v := 1) hx hb dX12_goNights_52 (by decide) ?_
        refine lv_isub hx hb dX12_goNights_53 ?_
        refine lv_topi (fun y_6 ey_6 => ?_)
        obtain rfl : y_6 = 0 := ey_6.trans (by decide)
        refine vp_callSi (runV_r (As := [.int 0]) (rest := [.int 0, .ref (g 100)]) S (q_mroundTo l D cI cB cZ g) kV_RX12_389 hK hP [0] rfl 0 rfl rfl rfl ⟨Nat.le_of_ble_eq_true rfl, Nat.le_of_ble_eq_true rfl⟩ ⟨Nat.le_of_ble_eq_true rfl, Nat.le_of_ble_eq_true rfl⟩ rfl hl.1 rfl (Nat.le_of_ble_eq_true rfl) dX12_goNights_54) (fun r_7 h_8 => ?_)
        subst h_8
        refine lv_iadd hx hb dX12_goNights_57 ?_
        refine lv_topi (fun y_9 ey_9 => ?_)
        obtain rfl : y_9 = 0 := ey_9.trans (by decide)
        refine pf_RX12_395 S hK hP hD hS 0 rfl (v := .int 0) (Nat.le_of_ble_eq_true rfl) rfl rfl dX12_goNights_58 (fun H locs hP hD hS => ?_)
        have hP : va_P D vwCl [((g 100), .inr (13, oM g))] H := hP
        have hD : va_D A [((g 100), .inr (13, oM g))] := hD
        refine lv_iconst (v := 0) hx hb dX12_goNights_61 (by decide) ?_
        refine lv_istore (lv' := [(5, .int 0), (4, .int (nI i)), (0, .ref (g 100)), (1, .int (nI j)), (2, .int v1), (3, .int v2)]) hx hb dX12_goNights_62 hl (by decide) rfl (fun ls hl => ?_)
        refine lv_iload hx hb dX12_goNights_64 (lv_at hl 0 rfl) ?_
        refine lv_aload_n hx hb dX12_goNights_66 rfl (lv_at hl 2 rfl) ?_
        refine gf_RX12_364 S hK hP 0 rfl (v := .int 0) rfl dX12_goNights_67 ?_
        refine lv_icmp_ge (tgt := 125) hx hb dX12_goNights_70 (by decide) (fun _ => ?_) (fun h => absurd h (by decide))
        refine lv_iinc (v := (nI (i + 1))) (lv' := [(4, .int (nI (i + 1))), (5, .int 0), (0, .ref (g 100)), (1, .int (nI j)), (2, .int v1), (3, .int v2)]) hx hb dX12_goNights_125 hl (k := 1) rfl (nI_1 _) (by decide) rfl (fun ls hl => ?_)
        refine lv_goto (tgt := 18) hx hb dX12_goNights_128 (by decide) ?_
        exact ih (i + 1) (by omega) (by omega) _ _ hP hD hS ls (lv_sub hl [0, 2, 3, 4, 5] rfl)
  exact lp_18 ((nI j + v1).toInt.toNat + 1) j (by omega) (by omega) H locs hP hD hS ls (lv_sub hl [0, 1, 2, 3, 4] rfl)
set_option maxRecDepth 100000 in
set_option maxHeartbeats 4000000 in
theorem q_M_nights (l : Launch) (D : va_G) (cI cB cZ : ClassId) (g : Nat → Nat) (v0 v1 v2 v3 : Int32) (sz : Nat) : Met l yX12_nights (CWS yX12_nights cX12_nights 7 (some .int)) (RM 4 0 0) (PBw [.ref (g 100), .int v0, .int v1, .int v2, .int v3] D cI cB cZ [((g 100), .inr (13, oM g))] sz) (va_Qi (fun (r : Int32) (_ : Unit) => r = (if (0 ≤ v0.toInt ∧ v0.toInt ≤ 399) ∧ (1 ≤ v1.toInt ∧ v1.toInt ≤ 7) ∧ v0.toInt + v1.toInt - 1 ≤ 399 ∧ (1 ≤ v2.toInt ∧ v2.toInt ≤ 400) ∧ 0 ≤ v3.toInt ∧ v3.toInt ≤ 2 then (0 : Int32) else -1)) (fun (_ : Unit) (_ : State) => True) (va_A [((g 100), .inr (13, oM g))] sz)) 0 0 (va_A [((g 100), .inr (13, oM g))] sz) := by
  refine Met.ofW (cc := cX12_nights) (maxL := 7) (ret := (some .int)) (by decide) rfl ?_
  intro p e s m args below meth c s₁ B hml hv
  obtain ⟨rfl, hsz, hP, hK, hD0⟩ := hv
  have hx := B.exec
  have hb := B.bytes
  have hr := B.returns
  have hts := atoms_spec (ws := (CWS yX12_nights cX12_nights 7 (some .int))) B.pre
  have hown : s.vm.findClass RX12 = some m.cls := findClass_of_methodNamed B.named
  have hlocks := B.notSynchronized
  have S : SF p m c cX12_nights 7 s ([.ref (g 100), .int v0, .int v1, .int v2, .int v3]).toArray RX12 := ⟨hx, hb, hml, hown, fun w h => hts w (List.mem_cons_of_mem _ h)⟩
  subst hsz
  have hD := hD0.self (sz := s.heap.size)
  generalize hAe : va_A [((g 100), .inr (13, oM g))] s.heap.size = A at hD ⊢
  have hA : ∀ q : Nat, s.heap.size ≤ q → A q := fun q h => by rw [← hAe]; exact Or.inr h
  have hS : va_S A s.heap s.heap [] := va_S.rf
  have hP : va_P D vwCl [((g 100), .inr (13, oM g))] s.heap := hP
  have hD : va_D A [((g 100), .inr (13, oM g))] := hD
  have hl := lv_entry ([.ref (g 100), .int v0, .int v1, .int v2, .int v3]) (n := 7) (Nat.le_of_ble_eq_true rfl)
  rw [lg_entry_eq]
  generalize (lg_sl ([.ref (g 100), .int v0, .int v1, .int v2, .int v3]) ++ List.replicate (7 - (lg_sl ([.ref (g 100), .int v0, .int v1, .int v2, .int v3])).length) Slot.unset).toArray = ls at hl ⊢
  have hl : lv_has ls 7 [(0, .ref (g 100)), (1, .int v0), (2, .int v1), (3, .int v2), (4, .int v3)] := hl
  refine lv_iload_n hx hb dX12_nights_0 rfl (lv_at hl 1 rfl) ?_
  refine vp_callSi (runS_r (As := [.int v0]) (rest := []) S (q_misDay l D cI cB cZ v0) kS_RX12_341 hK hP [] rfl ⟨Nat.le_of_ble_eq_true rfl, Nat.le_of_ble_eq_true rfl⟩ ⟨Nat.le_of_ble_eq_true rfl, Nat.le_of_ble_eq_true rfl⟩ rfl hl.1 rfl (Nat.le_of_ble_eq_true rfl) dX12_nights_1) (fun r_1 h_2 => ?_)
  rcases h_2 with ⟨rfl, h_2⟩ | ⟨rfl, h_2⟩
  ·
    have h_2 : 0 ≤ v0.toInt ∧ v0.toInt ≤ 399 := h_2
    refine lv_if_eq (tgt := 49) hx hb dX12_nights_4 (by decide) (fun h => absurd h (by decide)) (fun _ => ?_)
    refine lv_iload_n hx hb dX12_nights_7 rfl (lv_at hl 2 rfl) ?_
    refine lv_iconst (v := 1) hx hb dX12_nights_8 (by decide) ?_
    refine lv_bipush (v := 7) hx hb dX12_nights_9 (by decide) ?_
    refine vp_callSi (runS_r (As := [.int v1, .int 1, .int 7]) (rest := []) S (q_in l D cI cB cZ v1 1 7) kS_RX12_214 hK hP [] rfl ⟨Nat.le_of_ble_eq_true rfl, Nat.le_of_ble_eq_true rfl⟩ ⟨Nat.le_of_ble_eq_true rfl, Nat.le_of_ble_eq_true rfl⟩ rfl hl.1 rfl (Nat.le_of_ble_eq_true rfl) dX12_nights_11) (fun r_3 h_4 => ?_)
    rcases h_4 with ⟨rfl, h_4⟩ | ⟨rfl, h_4⟩
    ·
      have h_4 : 1 ≤ v1.toInt ∧ v1.toInt ≤ 7 := h_4
      refine lv_if_eq (tgt := 49) hx hb dX12_nights_14 (by decide) (fun h => absurd h (by decide)) (fun _ => ?_)
      have td := sum_day (x := v0) (y := v1) (by omega) (by omega)
      refine lv_iload_n hx hb dX12_nights_17 rfl (lv_at hl 1 rfl) ?_
      refine lv_iload_n hx hb dX12_nights_18 rfl (lv_at hl 2 rfl) ?_
      refine lv_iadd hx hb dX12_nights_19 ?_
      refine lv_iconst (v := 1) hx hb dX12_nights_20 (by decide) ?_
      refine lv_isub hx hb dX12_nights_21 ?_
      refine lv_sipush (v := 399) hx hb dX12_nights_22 (by decide) ?_
      refine lv_icmp_gt (tgt := 49) hx hb dX12_nights_25 (by decide) (fun c_5 => ?_) (fun c_5 => ?_)
      ·
        have tc_5 : (399 : Int) < ((v0 + v1) - 1).toInt := Int32.lt_iff_toInt_lt.mp c_5
        refine lv_iconst (v := (-1)) hx hb dX12_nights_49 (by decide) ?_
        exact W.iret (v := (-1)) hx hb hr (fun t ht hW => ⟨⟨(-1), (), rfl, (if_neg (by omega)).symm, trivial⟩, hS.F ht⟩) hS.2.2 dX12_nights_50
      ·
        have tc_5 : (((v0 + v1) - 1).toInt : Int) ≤ 399 := Int32.le_iff_toInt_le.mp (Int32.not_lt.mp c_5)
        refine lv_iload_n hx hb dX12_nights_28 rfl (lv_at hl 3 rfl) ?_
        refine lv_iconst (v := 1) hx hb dX12_nights_29 (by decide) ?_
        refine lv_sipush (v := 400) hx hb dX12_nights_30 (by decide) ?_
        refine vp_callSi (runS_r (As := [.int v2, .int 1, .int 400]) (rest := []) S (q_in l D cI cB cZ v2 1 400) kS_RX12_214 hK hP [] rfl ⟨Nat.le_of_ble_eq_true rfl, Nat.le_of_ble_eq_true rfl⟩ ⟨Nat.le_of_ble_eq_true rfl, Nat.le_of_ble_eq_true rfl⟩ rfl hl.1 rfl (Nat.le_of_ble_eq_true rfl) dX12_nights_33) (fun r_6 h_7 => ?_)
        rcases h_7 with ⟨rfl, h_7⟩ | ⟨rfl, h_7⟩
        ·
          have h_7 : 1 ≤ v2.toInt ∧ v2.toInt ≤ 400 := h_7
          refine lv_if_eq (tgt := 49) hx hb dX12_nights_36 (by decide) (fun h => absurd h (by decide)) (fun _ => ?_)
          refine lv_iload hx hb dX12_nights_39 (lv_at hl 4 rfl) ?_
          refine lv_iconst (v := 0) hx hb dX12_nights_41 (by decide) ?_
          refine lv_iconst (v := 2) hx hb dX12_nights_42 (by decide) ?_
          refine vp_callSi (runS_r (As := [.int v3, .int 0, .int 2]) (rest := []) S (q_in l D cI cB cZ v3 0 2) kS_RX12_214 hK hP [] rfl ⟨Nat.le_of_ble_eq_true rfl, Nat.le_of_ble_eq_true rfl⟩ ⟨Nat.le_of_ble_eq_true rfl, Nat.le_of_ble_eq_true rfl⟩ rfl hl.1 rfl (Nat.le_of_ble_eq_true rfl) dX12_nights_43) (fun r_8 h_9 => ?_)
          rcases h_9 with ⟨rfl, h_9⟩ | ⟨rfl, h_9⟩
          ·
            have h_9 : 0 ≤ v3.toInt ∧ v3.toInt ≤ 2 := h_9
            refine lv_if_ne (tgt := 51) hx hb dX12_nights_46 (by decide) (fun _ => ?_) (fun h => absurd h (by decide))
            refine lv_iconst (v := 0) hx hb dX12_nights_51 (by decide) ?_
            refine lv_istore (lv' := [(5, .int 0), (0, .ref (g 100)), (1, .int v0), (2, .int v1), (3, .int v2), (4, .int v3)]) hx hb dX12_nights_52 hl (by decide) rfl (fun ls hl => ?_)
            refine lv_iload hx hb dX12_nights_54 (lv_at hl 0 rfl) ?_
            refine lv_aload_n hx hb dX12_nights_56 rfl (lv_at hl 1 rfl) ?_
            refine gf_RX12_204 S hK hP 0 rfl (v := .int 0) rfl dX12_nights_57 ?_
            refine lv_icmp_ge (tgt := 83) hx hb dX12_nights_60 (by decide) (fun _ => ?_) (fun h => absurd h (by decide))
            refine lv_aload_n hx hb dX12_nights_83 rfl (lv_at hl 1 rfl) ?_
            refine lv_iload_n hx hb dX12_nights_84 rfl (lv_at hl 2 rfl) ?_
            refine lv_iload_n hx hb dX12_nights_85 rfl (lv_at hl 3 rfl) ?_
            refine lv_iload_n hx hb dX12_nights_86 rfl (lv_at hl 4 rfl) ?_
            have hFc := va_free (wc := [((g 100), .inr (13, oM g))]) hD hS hA [0] rfl
            refine va_calli (runV_w (As := [.int v0, .int v1, .int v2]) (rest := []) S (q_mgoNights l D cI cB cZ g v0 v1 v2 s.heap.size (by omega) (by omega)) kV_RX12_404 hK hP hD [0] rfl rfl (by decide) 0 rfl rfl rfl ⟨Nat.le_of_ble_eq_true rfl, Nat.le_of_ble_eq_true rfl⟩ ⟨Nat.le_of_ble_eq_true rfl, Nat.le_of_ble_eq_true rfl⟩ rfl hl.1 rfl (Nat.le_of_ble_eq_true rfl) dX12_nights_87) hS (fun q _ h => hFc q h) hFc (fun r_10 u_11 t H1 locs ht hvm h_12 hB hz1 hk1 hS => ?_)
            obtain ⟨hP1, hD1⟩ := hB
            rw [ht] at hP1
            obtain ⟨hP, hD⟩ := va_join (wr := []) (w1 := [((g 100), .inr (13, oM g))]) hP hD [0] [] rfl rfl (by decide) (by decide) hk1 hFc hP1 hD1
            generalize H1 = H at hP hS ⊢
            have hP : va_P D vwCl [((g 100), .inr (13, oM g))] H := hP
            have hD : va_D A [((g 100), .inr (13, oM g))] := hD
            subst h_12
            refine lv_istore (lv' := [(5, .int 1), (0, .ref (g 100)), (1, .int v0), (2, .int v1), (3, .int v2), (4, .int v3)]) hx hb dX12_nights_90 hl (by decide) rfl (fun ls hl => ?_)
            refine lv_iconst (v := 0) hx hb dX12_nights_92 (by decide) ?_
            refine lv_istore (lv' := [(6, .int 0), (5, .int 1), (0, .ref (g 100)), (1, .int v0), (2, .int v1), (3, .int v2), (4, .int v3)]) hx hb dX12_nights_93 hl (by decide) rfl (fun ls hl => ?_)
            refine lv_iload hx hb dX12_nights_95 (lv_at hl 0 rfl) ?_
            refine lv_aload_n hx hb dX12_nights_97 rfl (lv_at hl 2 rfl) ?_
            refine gf_RX12_204 S hK hP 0 rfl (v := .int 0) rfl dX12_nights_98 ?_
            refine lv_icmp_ge (tgt := 124) hx hb dX12_nights_101 (by decide) (fun _ => ?_) (fun h => absurd h (by decide))
            refine lv_iload hx hb dX12_nights_124 (lv_at hl 1 rfl) ?_
            refine lv_if_ne (tgt := 134) hx hb dX12_nights_126 (by decide) (fun _ => ?_) (fun h => absurd h (by decide))
            refine lv_iload hx hb dX12_nights_134 (lv_at hl 6 rfl) ?_
            refine lv_if_ne (tgt := 146) hx hb dX12_nights_136 (by decide) (fun c_13 => ?_) (fun c_13 => ?_)
            ·
              have tc_13 : (v3.toInt : Int) ≠ 0 := fun q => c_13 (Int32.toInt_inj.mp q)
              refine lv_iload hx hb dX12_nights_146 (lv_at hl 6 rfl) ?_
              refine lv_iconst (v := 1) hx hb dX12_nights_148 (by decide) ?_
              refine lv_icmp_ne (tgt := 159) hx hb dX12_nights_149 (by decide) (fun c_14 => ?_) (fun c_14 => ?_)
              ·
                have tc_14 : (v3.toInt : Int) ≠ 1 := fun q => c_14 (Int32.toInt_inj.mp q)
                refine lv_aload_n hx hb dX12_nights_159 rfl (lv_at hl 2 rfl) ?_
                refine gf_RX12_401 S hK hP 0 rfl (v := .int 0) rfl dX12_nights_160 ?_
                exact W.iret (v := 0) hx hb hr (fun t ht hW => ⟨⟨0, (), rfl, (if_pos (by omega)).symm, trivial⟩, hS.F ht⟩) hS.2.2 dX12_nights_163
              ·
                have tc_14 : (v3.toInt : Int) = 1 := congrArg Int32.toInt c_14
                refine lv_aload_n hx hb dX12_nights_152 rfl (lv_at hl 2 rfl) ?_
                refine gf_RX12_398 S hK hP 0 rfl (v := .int 0) rfl dX12_nights_153 ?_
                refine lv_goto (tgt := 163) hx hb dX12_nights_156 (by decide) ?_
                exact W.iret (v := 0) hx hb hr (fun t ht hW => ⟨⟨0, (), rfl, (if_pos (by omega)).symm, trivial⟩, hS.F ht⟩) hS.2.2 dX12_nights_163
            ·
              have tc_13 : (v3.toInt : Int) = 0 := congrArg Int32.toInt c_13
              refine lv_aload_n hx hb dX12_nights_139 rfl (lv_at hl 2 rfl) ?_
              refine gf_RX12_395 S hK hP 0 rfl (v := .int 0) rfl dX12_nights_140 ?_
              refine lv_goto (tgt := 163) hx hb dX12_nights_143 (by decide) ?_
              exact W.iret (v := 0) hx hb hr (fun t ht hW => ⟨⟨0, (), rfl, (if_pos (by omega)).symm, trivial⟩, hS.F ht⟩) hS.2.2 dX12_nights_163
          ·
            have h_9 : ¬ (0 ≤ v3.toInt ∧ v3.toInt ≤ 2) := h_9
            refine lv_if_ne (tgt := 51) hx hb dX12_nights_46 (by decide) (fun h => absurd h (by decide)) (fun _ => ?_)
            refine lv_iconst (v := (-1)) hx hb dX12_nights_49 (by decide) ?_
            exact W.iret (v := (-1)) hx hb hr (fun t ht hW => ⟨⟨(-1), (), rfl, (if_neg (by omega)).symm, trivial⟩, hS.F ht⟩) hS.2.2 dX12_nights_50
        ·
          have h_7 : ¬ (1 ≤ v2.toInt ∧ v2.toInt ≤ 400) := h_7
          refine lv_if_eq (tgt := 49) hx hb dX12_nights_36 (by decide) (fun _ => ?_) (fun h => absurd h (by decide))
          refine lv_iconst (v := (-1)) hx hb dX12_nights_49 (by decide) ?_
          exact W.iret (v := (-1)) hx hb hr (fun t ht hW => ⟨⟨(-1), (), rfl, (if_neg (by omega)).symm, trivial⟩, hS.F ht⟩) hS.2.2 dX12_nights_50
    ·
      have h_4 : ¬ (1 ≤ v1.toInt ∧ v1.toInt ≤ 7) := h_4
      refine lv_if_eq (tgt := 49) hx hb dX12_nights_14 (by decide) (fun _ => ?_) (fun h => absurd h (by decide))
      refine lv_iconst (v := (-1)) hx hb dX12_nights_49 (by decide) ?_
      exact W.iret (v := (-1)) hx hb hr (fun t ht hW => ⟨⟨(-1), (), rfl, (if_neg (by omega)).symm, trivial⟩, hS.F ht⟩) hS.2.2 dX12_nights_50
  ·
    have h_2 : ¬ (0 ≤ v0.toInt ∧ v0.toInt ≤ 399) := h_2
    refine lv_if_eq (tgt := 49) hx hb dX12_nights_4 (by decide) (fun _ => ?_) (fun h => absurd h (by decide))
    refine lv_iconst (v := (-1)) hx hb dX12_nights_49 (by decide) ?_
    exact W.iret (v := (-1)) hx hb hr (fun t ht hW => ⟨⟨(-1), (), rfl, (if_neg (by omega)).symm, trivial⟩, hS.F ht⟩) hS.2.2 dX12_nights_50
set_option maxRecDepth 100000 in
set_option maxHeartbeats 4000000 in
theorem q_M_lorry (l : Launch) (D : va_G) (cI cB cZ : ClassId) (g : Nat → Nat) (v0 : Int32) (sz : Nat) : Met l yX12_lorry (CWS yX12_lorry cX12_lorry 2 (some .int)) (RM 3 0 0) (PBw [.ref (g 100), .int v0] D cI cB cZ [((g 100), .inr (13, oM g)), ((g 47), .inl (cI, 3, .inl (fun _ => 0)))] sz) (va_Qi (fun (r : Int32) (_ : Unit) => r = (if 20 ≤ v0.toInt ∧ v0.toInt ≤ 2000 then (0 : Int32) else -1)) (fun (_ : Unit) (_ : State) => True) (va_A [((g 100), .inr (13, oM g)), ((g 47), .inl (cI, 3, .inl (fun _ => 0)))] sz)) 0 0 (va_A [((g 100), .inr (13, oM g)), ((g 47), .inl (cI, 3, .inl (fun _ => 0)))] sz) := by
  refine Met.ofW (cc := cX12_lorry) (maxL := 2) (ret := (some .int)) (by decide) rfl ?_
  intro p e s m args below meth c s₁ B hml hv
  obtain ⟨rfl, hsz, hP, hK, hD0⟩ := hv
  have hx := B.exec
  have hb := B.bytes
  have hr := B.returns
  have hts := atoms_spec (ws := (CWS yX12_lorry cX12_lorry 2 (some .int))) B.pre
  have hown : s.vm.findClass RX12 = some m.cls := findClass_of_methodNamed B.named
  have hlocks := B.notSynchronized
  have S : SF p m c cX12_lorry 2 s ([.ref (g 100), .int v0]).toArray RX12 := ⟨hx, hb, hml, hown, fun w h => hts w (List.mem_cons_of_mem _ h)⟩
  subst hsz
  have hD := hD0.self (sz := s.heap.size)
  generalize hAe : va_A [((g 100), .inr (13, oM g)), ((g 47), .inl (cI, 3, .inl (fun _ => 0)))] s.heap.size = A at hD ⊢
  have hA : ∀ q : Nat, s.heap.size ≤ q → A q := fun q h => by rw [← hAe]; exact Or.inr h
  have hS : va_S A s.heap s.heap [] := va_S.rf
  have hP : va_P D vwCl [((g 100), .inr (13, oM g)), ((g 47), .inl (cI, 3, .inl (fun _ => 0)))] s.heap := hP
  have hD : va_D A [((g 100), .inr (13, oM g)), ((g 47), .inl (cI, 3, .inl (fun _ => 0)))] := hD
  have hl := lv_entry ([.ref (g 100), .int v0]) (n := 2) (Nat.le_of_ble_eq_true rfl)
  rw [lg_entry_eq]
  generalize (lg_sl ([.ref (g 100), .int v0]) ++ List.replicate (2 - (lg_sl ([.ref (g 100), .int v0])).length) Slot.unset).toArray = ls at hl ⊢
  have hl : lv_has ls 2 [(0, .ref (g 100)), (1, .int v0)] := hl
  refine lv_iload_n hx hb dX12_lorry_0 rfl (lv_at hl 1 rfl) ?_
  refine lv_bipush (v := 20) hx hb dX12_lorry_1 (by decide) ?_
  refine lv_sipush (v := 2000) hx hb dX12_lorry_3 (by decide) ?_
  refine vp_callSi (runS_r (As := [.int v0, .int 20, .int 2000]) (rest := []) S (q_in l D cI cB cZ v0 20 2000) kS_RX12_214 hK hP [] rfl ⟨Nat.le_of_ble_eq_true rfl, Nat.le_of_ble_eq_true rfl⟩ ⟨Nat.le_of_ble_eq_true rfl, Nat.le_of_ble_eq_true rfl⟩ rfl hl.1 rfl (Nat.le_of_ble_eq_true rfl) dX12_lorry_6) (fun r_1 h_2 => ?_)
  rcases h_2 with ⟨rfl, h_2⟩ | ⟨rfl, h_2⟩
  ·
    have h_2 : 20 ≤ v0.toInt ∧ v0.toInt ≤ 2000 := h_2
    refine lv_if_eq (tgt := 20) hx hb dX12_lorry_9 (by decide) (fun h => absurd h (by decide)) (fun _ => ?_)
    refine lv_aload_n hx hb dX12_lorry_12 rfl (lv_at hl 0 rfl) ?_
    refine gf_RX12_386 S hK hP 0 rfl (v := .int 0) rfl dX12_lorry_13 ?_
    refine lv_iconst (v := 3) hx hb dX12_lorry_16 (by decide) ?_
    refine lv_icmp_ne (tgt := 22) hx hb dX12_lorry_17 (by decide) (fun _ => ?_) (fun h => absurd h (by decide))
    refine lv_aload_n hx hb dX12_lorry_22 rfl (lv_at hl 0 rfl) ?_
    refine gf_RX12_107 S hK hP 0 rfl (v := .ref (g 47)) rfl dX12_lorry_23 ?_
    refine lv_aload_n hx hb dX12_lorry_26 rfl (lv_at hl 0 rfl) ?_
    refine gf_RX12_386 S hK hP 0 rfl (v := .int 0) rfl dX12_lorry_27 ?_
    refine lv_iload_n hx hb dX12_lorry_30 rfl (lv_at hl 1 rfl) ?_
    refine va_iast hx hb hK.1 hP hD hS 1 0 rfl rfl (by unfold vp_in; decide) dX12_lorry_31 (fun H locs hP hD hS => ?_)
    have hP : va_P D vwCl [((g 100), .inr (13, oM g)), ((g 47), .inl (cI, 3, .inl (upd (fun _ => 0) (0 : Int32).toNatClampNeg v0)))] H := hP
    have hD : va_D A [((g 100), .inr (13, oM g)), ((g 47), .inl (cI, 3, .inl (upd (fun _ => 0) (0 : Int32).toNatClampNeg v0)))] := hD
    refine lv_aload_n hx hb dX12_lorry_32 rfl (lv_at hl 0 rfl) ?_
    refine lv_aload_n hx hb dX12_lorry_33 rfl (lv_at hl 0 rfl) ?_
    refine gf_RX12_386 S hK hP 0 rfl (v := .int 0) rfl dX12_lorry_34 ?_
    refine lv_iconst (v := 1) hx hb dX12_lorry_37 (by decide) ?_
    refine lv_iadd hx hb dX12_lorry_38 ?_
    refine lv_topi (fun y_3 ey_3 => ?_)
    obtain rfl : y_3 = 1 := ey_3.trans (by decide)
    refine pf_RX12_386 S hK hP hD hS 0 rfl (v := .int 1) (Nat.le_of_ble_eq_true rfl) rfl rfl dX12_lorry_39 (fun H locs hP hD hS => ?_)
    have hP : va_P D vwCl [((g 100), .inr (13, [.int 0, .int 0, .int 0, .ref (g 3), .ref (g 4), .ref (g 5), .ref (g 6), .ref (g 7), .ref (g 8), .ref (g 9), .ref (g 10), .ref (g 11), .ref (g 12), .ref (g 13), .ref (g 14), .ref (g 15), .ref (g 16), .ref (g 17), .int 0, .int 0, .int 0, .int 0, .int 0, .int 0, .int 0, .int 0, .int 0, .ref (g 27), .ref (g 28), .ref (g 29), .ref (g 30), .ref (g 31), .ref (g 32), .ref (g 33), .ref (g 34), .ref (g 35), .ref (g 36), .ref (g 37), .ref (g 38), .ref (g 39), .ref (g 40), .ref (g 41), .ref (g 42), .ref (g 43), .int 0, .int 0, .int 1, .ref (g 47), .ref (g 48), .ref (g 49), .ref (g 50), .ref (g 51), .ref (g 52), .ref (g 53), .int 0, .int 0, .int 0, .int 0, .int 0, .ref (g 59), .ref (g 60), .ref (g 61), .int 0, .int 0, .ref (g 64), .ref (g 65), .ref (g 66), .ref (g 67), .ref (g 68), .ref (g 69), .ref (g 70), .int 0, .int 0, .int 0, .ref (g 74), .int 0, .ref (g 76), .ref (g 77), .ref (g 78), .ref (g 79), .ref (g 80), .ref (g 81), .ref (g 82), .int 0, .ref (g 84), .ref (g 85), .ref (g 86), .ref (g 87), .ref (g 88), .ref (g 89), .ref (g 90)])), ((g 47), .inl (cI, 3, .inl (upd (fun _ => 0) (0 : Int32).toNatClampNeg v0)))] H := hP
    have hD : va_D A [((g 100), .inr (13, [.int 0, .int 0, .int 0, .ref (g 3), .ref (g 4), .ref (g 5), .ref (g 6), .ref (g 7), .ref (g 8), .ref (g 9), .ref (g 10), .ref (g 11), .ref (g 12), .ref (g 13), .ref (g 14), .ref (g 15), .ref (g 16), .ref (g 17), .int 0, .int 0, .int 0, .int 0, .int 0, .int 0, .int 0, .int 0, .int 0, .ref (g 27), .ref (g 28), .ref (g 29), .ref (g 30), .ref (g 31), .ref (g 32), .ref (g 33), .ref (g 34), .ref (g 35), .ref (g 36), .ref (g 37), .ref (g 38), .ref (g 39), .ref (g 40), .ref (g 41), .ref (g 42), .ref (g 43), .int 0, .int 0, .int 1, .ref (g 47), .ref (g 48), .ref (g 49), .ref (g 50), .ref (g 51), .ref (g 52), .ref (g 53), .int 0, .int 0, .int 0, .int 0, .int 0, .ref (g 59), .ref (g 60), .ref (g 61), .int 0, .int 0, .ref (g 64), .ref (g 65), .ref (g 66), .ref (g 67), .ref (g 68), .ref (g 69), .ref (g 70), .int 0, .int 0, .int 0, .ref (g 74), .int 0, .ref (g 76), .ref (g 77), .ref (g 78), .ref (g 79), .ref (g 80), .ref (g 81), .ref (g 82), .int 0, .ref (g 84), .ref (g 85), .ref (g 86), .ref (g 87), .ref (g 88), .ref (g 89), .ref (g 90)])), ((g 47), .inl (cI, 3, .inl (upd (fun _ => 0) (0 : Int32).toNatClampNeg v0)))] := hD
    refine lv_aload_n hx hb dX12_lorry_42 rfl (lv_at hl 0 rfl) ?_
    refine gf_RX12_386 S hK hP 0 rfl (v := .int 1) rfl dX12_lorry_43 ?_
    refine lv_iconst (v := 1) hx hb dX12_lorry_46 (by decide) ?_
    refine lv_isub hx hb dX12_lorry_47 ?_
    refine lv_topi (fun y_4 ey_4 => ?_)
    obtain rfl : y_4 = 0 := ey_4.trans (by decide)
    exact W.iret (v := 0) hx hb hr (fun t ht hW => ⟨⟨0, (), rfl, (if_pos (by omega)).symm, trivial⟩, hS.F ht⟩) hS.2.2 dX12_lorry_48
  ·
    have h_2 : ¬ (20 ≤ v0.toInt ∧ v0.toInt ≤ 2000) := h_2
    refine lv_if_eq (tgt := 20) hx hb dX12_lorry_9 (by decide) (fun _ => ?_) (fun h => absurd h (by decide))
    refine lv_iconst (v := (-1)) hx hb dX12_lorry_20 (by decide) ?_
    exact W.iret (v := (-1)) hx hb hr (fun t ht hW => ⟨⟨(-1), (), rfl, (if_neg (by omega)).symm, trivial⟩, hS.F ht⟩) hS.2.2 dX12_lorry_21
set_option maxRecDepth 100000 in
set_option maxHeartbeats 4000000 in
theorem q_msharedBy (l : Launch) (D : va_G) (cI cB cZ : ClassId) (g : Nat → Nat) (v0 : Int32) (sz : Nat) : Met l yX12_sharedBy (CWS yX12_sharedBy cX12_sharedBy 4 (some .int)) (RM 1 0 0) (PBw [.ref (g 100), .int v0] D cI cB cZ [((g 100), .inr (13, oM g)), ((g 48), .inl (cI, 3, .inl (fun _ => 0))), ((g 49), .inl (cI, 3, .inl (fun _ => 0)))] sz) (va_Qi (fun (r : Int32) (_ : Unit) => r = 0) (fun (u : Unit) (t : State) => va_P D vwCl [((g 100), .inr (13, oM g)), ((g 48), .inl (cI, 3, .inl (fun _ => 0))), ((g 49), .inl (cI, 3, .inl (fun _ => 0)))] t.heap ∧ va_D (va_A [((g 100), .inr (13, oM g)), ((g 48), .inl (cI, 3, .inl (fun _ => 0))), ((g 49), .inl (cI, 3, .inl (fun _ => 0)))] sz) [((g 100), .inr (13, oM g)), ((g 48), .inl (cI, 3, .inl (fun _ => 0))), ((g 49), .inl (cI, 3, .inl (fun _ => 0)))]) (va_A [((g 100), .inr (13, oM g)), ((g 48), .inl (cI, 3, .inl (fun _ => 0))), ((g 49), .inl (cI, 3, .inl (fun _ => 0)))] sz)) 0 0 (va_A [((g 100), .inr (13, oM g)), ((g 48), .inl (cI, 3, .inl (fun _ => 0))), ((g 49), .inl (cI, 3, .inl (fun _ => 0)))] sz) := by
  refine Met.ofW (cc := cX12_sharedBy) (maxL := 4) (ret := (some .int)) (by decide) rfl ?_
  intro p e s m args below meth c s₁ B hml hv
  obtain ⟨rfl, hsz, hP, hK, hD0⟩ := hv
  have hx := B.exec
  have hb := B.bytes
  have hr := B.returns
  have hts := atoms_spec (ws := (CWS yX12_sharedBy cX12_sharedBy 4 (some .int))) B.pre
  have hown : s.vm.findClass RX12 = some m.cls := findClass_of_methodNamed B.named
  have hlocks := B.notSynchronized
  have S : SF p m c cX12_sharedBy 4 s ([.ref (g 100), .int v0]).toArray RX12 := ⟨hx, hb, hml, hown, fun w h => hts w (List.mem_cons_of_mem _ h)⟩
  subst hsz
  have hD := hD0.self (sz := s.heap.size)
  generalize hAe : va_A [((g 100), .inr (13, oM g)), ((g 48), .inl (cI, 3, .inl (fun _ => 0))), ((g 49), .inl (cI, 3, .inl (fun _ => 0)))] s.heap.size = A at hD ⊢
  have hA : ∀ q : Nat, s.heap.size ≤ q → A q := fun q h => by rw [← hAe]; exact Or.inr h
  have hS : va_S A s.heap s.heap [] := va_S.rf
  have hP : va_P D vwCl [((g 100), .inr (13, oM g)), ((g 48), .inl (cI, 3, .inl (fun _ => 0))), ((g 49), .inl (cI, 3, .inl (fun _ => 0)))] s.heap := hP
  have hD : va_D A [((g 100), .inr (13, oM g)), ((g 48), .inl (cI, 3, .inl (fun _ => 0))), ((g 49), .inl (cI, 3, .inl (fun _ => 0)))] := hD
  have hl := lv_entry ([.ref (g 100), .int v0]) (n := 4) (Nat.le_of_ble_eq_true rfl)
  rw [lg_entry_eq]
  generalize (lg_sl ([.ref (g 100), .int v0]) ++ List.replicate (4 - (lg_sl ([.ref (g 100), .int v0])).length) Slot.unset).toArray = ls at hl ⊢
  have hl : lv_has ls 4 [(0, .ref (g 100)), (1, .int v0)] := hl
  refine lv_iconst (v := 0) hx hb dX12_sharedBy_0 (by decide) ?_
  refine lv_istore_n (lv' := [(2, .int 0), (0, .ref (g 100)), (1, .int v0)]) hx hb dX12_sharedBy_1 rfl hl (by decide) rfl (fun ls hl => ?_)
  refine lv_iload_n hx hb dX12_sharedBy_2 rfl (lv_at hl 0 rfl) ?_
  refine lv_iconst (v := 3) hx hb dX12_sharedBy_3 (by decide) ?_
  refine lv_icmp_ge (tgt := 27) hx hb dX12_sharedBy_4 (by decide) (fun h => absurd h (by decide)) (fun _ => ?_)
  refine lv_aload_n hx hb dX12_sharedBy_7 rfl (lv_at hl 1 rfl) ?_
  refine gf_RX12_110 S hK hP 0 rfl (v := .ref (g 48)) rfl dX12_sharedBy_8 ?_
  refine lv_iload_n hx hb dX12_sharedBy_11 rfl (lv_at hl 0 rfl) ?_
  refine lv_iconst (v := 0) hx hb dX12_sharedBy_12 (by decide) ?_
  refine va_iast hx hb hK.1 hP hD hS 1 0 rfl rfl (by unfold vp_in; decide) dX12_sharedBy_13 (fun H locs hP hD hS => ?_)
  rw [upd_0] at hP hD
  have hP : va_P D vwCl [((g 100), .inr (13, oM g)), ((g 48), .inl (cI, 3, .inl (fun _ => 0))), ((g 49), .inl (cI, 3, .inl (fun _ => 0)))] H := hP
  have hD : va_D A [((g 100), .inr (13, oM g)), ((g 48), .inl (cI, 3, .inl (fun _ => 0))), ((g 49), .inl (cI, 3, .inl (fun _ => 0)))] := hD
  refine lv_aload_n hx hb dX12_sharedBy_14 rfl (lv_at hl 1 rfl) ?_
  refine gf_RX12_113 S hK hP 0 rfl (v := .ref (g 49)) rfl dX12_sharedBy_15 ?_
  refine lv_iload_n hx hb dX12_sharedBy_18 rfl (lv_at hl 0 rfl) ?_
  refine lv_iconst (v := 0) hx hb dX12_sharedBy_19 (by decide) ?_
  refine va_iast hx hb hK.1 hP hD hS 2 0 rfl rfl (by unfold vp_in; decide) dX12_sharedBy_20 (fun H locs hP hD hS => ?_)
  rw [upd_0] at hP hD
  have hP : va_P D vwCl [((g 100), .inr (13, oM g)), ((g 48), .inl (cI, 3, .inl (fun _ => 0))), ((g 49), .inl (cI, 3, .inl (fun _ => 0)))] H := hP
  have hD : va_D A [((g 100), .inr (13, oM g)), ((g 48), .inl (cI, 3, .inl (fun _ => 0))), ((g 49), .inl (cI, 3, .inl (fun _ => 0)))] := hD
  refine lv_iinc (v := 1) (lv' := [(2, .int 1), (0, .ref (g 100)), (1, .int v0)]) hx hb dX12_sharedBy_21 hl (k := 0) rfl (by decide) (by decide) rfl (fun ls hl => ?_)
  refine lv_goto (tgt := 2) hx hb dX12_sharedBy_24 (by decide) ?_
  refine lv_iload_n hx hb dX12_sharedBy_2 rfl (lv_at hl 0 rfl) ?_
  refine lv_iconst (v := 3) hx hb dX12_sharedBy_3 (by decide) ?_
  refine lv_icmp_ge (tgt := 27) hx hb dX12_sharedBy_4 (by decide) (fun h => absurd h (by decide)) (fun _ => ?_)
  refine lv_aload_n hx hb dX12_sharedBy_7 rfl (lv_at hl 1 rfl) ?_
  refine gf_RX12_110 S hK hP 0 rfl (v := .ref (g 48)) rfl dX12_sharedBy_8 ?_
  refine lv_iload_n hx hb dX12_sharedBy_11 rfl (lv_at hl 0 rfl) ?_
  refine lv_iconst (v := 0) hx hb dX12_sharedBy_12 (by decide) ?_
  refine va_iast hx hb hK.1 hP hD hS 1 0 rfl rfl (by unfold vp_in; decide) dX12_sharedBy_13 (fun H locs hP hD hS => ?_)
  rw [upd_0] at hP hD
  have hP : va_P D vwCl [((g 100), .inr (13, oM g)), ((g 48), .inl (cI, 3, .inl (fun _ => 0))), ((g 49), .inl (cI, 3, .inl (fun _ => 0)))] H := hP
  have hD : va_D A [((g 100), .inr (13, oM g)), ((g 48), .inl (cI, 3, .inl (fun _ => 0))), ((g 49), .inl (cI, 3, .inl (fun _ => 0)))] := hD
  refine lv_aload_n hx hb dX12_sharedBy_14 rfl (lv_at hl 1 rfl) ?_
  refine gf_RX12_113 S hK hP 0 rfl (v := .ref (g 49)) rfl dX12_sharedBy_15 ?_
  refine lv_iload_n hx hb dX12_sharedBy_18 rfl (lv_at hl 0 rfl) ?_
  refine lv_iconst (v := 0) hx hb dX12_sharedBy_19 (by decide) ?_
  refine va_iast hx hb hK.1 hP hD hS 2 0 rfl rfl (by unfold vp_in; decide) dX12_sharedBy_20 (fun H locs hP hD hS => ?_)
  rw [upd_0] at hP hD
  have hP : va_P D vwCl [((g 100), .inr (13, oM g)), ((g 48), .inl (cI, 3, .inl (fun _ => 0))), ((g 49), .inl (cI, 3, .inl (fun _ => 0)))] H := hP
  have hD : va_D A [((g 100), .inr (13, oM g)), ((g 48), .inl (cI, 3, .inl (fun _ => 0))), ((g 49), .inl (cI, 3, .inl (fun _ => 0)))] := hD
  refine lv_iinc (v := 2) (lv' := [(2, .int 2), (0, .ref (g 100)), (1, .int v0)]) hx hb dX12_sharedBy_21 hl (k := 0) rfl (by decide) (by decide) rfl (fun ls hl => ?_)
  refine lv_goto (tgt := 2) hx hb dX12_sharedBy_24 (by decide) ?_
  refine lv_iload_n hx hb dX12_sharedBy_2 rfl (lv_at hl 0 rfl) ?_
  refine lv_iconst (v := 3) hx hb dX12_sharedBy_3 (by decide) ?_
  refine lv_icmp_ge (tgt := 27) hx hb dX12_sharedBy_4 (by decide) (fun h => absurd h (by decide)) (fun _ => ?_)
  refine lv_aload_n hx hb dX12_sharedBy_7 rfl (lv_at hl 1 rfl) ?_
  refine gf_RX12_110 S hK hP 0 rfl (v := .ref (g 48)) rfl dX12_sharedBy_8 ?_
  refine lv_iload_n hx hb dX12_sharedBy_11 rfl (lv_at hl 0 rfl) ?_
  refine lv_iconst (v := 0) hx hb dX12_sharedBy_12 (by decide) ?_
  refine va_iast hx hb hK.1 hP hD hS 1 0 rfl rfl (by unfold vp_in; decide) dX12_sharedBy_13 (fun H locs hP hD hS => ?_)
  rw [upd_0] at hP hD
  have hP : va_P D vwCl [((g 100), .inr (13, oM g)), ((g 48), .inl (cI, 3, .inl (fun _ => 0))), ((g 49), .inl (cI, 3, .inl (fun _ => 0)))] H := hP
  have hD : va_D A [((g 100), .inr (13, oM g)), ((g 48), .inl (cI, 3, .inl (fun _ => 0))), ((g 49), .inl (cI, 3, .inl (fun _ => 0)))] := hD
  refine lv_aload_n hx hb dX12_sharedBy_14 rfl (lv_at hl 1 rfl) ?_
  refine gf_RX12_113 S hK hP 0 rfl (v := .ref (g 49)) rfl dX12_sharedBy_15 ?_
  refine lv_iload_n hx hb dX12_sharedBy_18 rfl (lv_at hl 0 rfl) ?_
  refine lv_iconst (v := 0) hx hb dX12_sharedBy_19 (by decide) ?_
  refine va_iast hx hb hK.1 hP hD hS 2 0 rfl rfl (by unfold vp_in; decide) dX12_sharedBy_20 (fun H locs hP hD hS => ?_)
  rw [upd_0] at hP hD
  have hP : va_P D vwCl [((g 100), .inr (13, oM g)), ((g 48), .inl (cI, 3, .inl (fun _ => 0))), ((g 49), .inl (cI, 3, .inl (fun _ => 0)))] H := hP
  have hD : va_D A [((g 100), .inr (13, oM g)), ((g 48), .inl (cI, 3, .inl (fun _ => 0))), ((g 49), .inl (cI, 3, .inl (fun _ => 0)))] := hD
  refine lv_iinc (v := 3) (lv' := [(2, .int 3), (0, .ref (g 100)), (1, .int v0)]) hx hb dX12_sharedBy_21 hl (k := 0) rfl (by decide) (by decide) rfl (fun ls hl => ?_)
  refine lv_goto (tgt := 2) hx hb dX12_sharedBy_24 (by decide) ?_
  refine lv_iload_n hx hb dX12_sharedBy_2 rfl (lv_at hl 0 rfl) ?_
  refine lv_iconst (v := 3) hx hb dX12_sharedBy_3 (by decide) ?_
  refine lv_icmp_ge (tgt := 27) hx hb dX12_sharedBy_4 (by decide) (fun _ => ?_) (fun h => absurd h (by decide))
  refine lv_iconst (v := 0) hx hb dX12_sharedBy_27 (by decide) ?_
  refine lv_istore_n (lv' := [(2, .int 0), (0, .ref (g 100)), (1, .int v0)]) hx hb dX12_sharedBy_28 rfl hl (by decide) rfl (fun ls hl => ?_)
  refine lv_iload_n hx hb dX12_sharedBy_29 rfl (lv_at hl 0 rfl) ?_
  refine lv_aload_n hx hb dX12_sharedBy_30 rfl (lv_at hl 1 rfl) ?_
  refine gf_RX12_364 S hK hP 0 rfl (v := .int 0) rfl dX12_sharedBy_31 ?_
  refine lv_icmp_ge (tgt := 107) hx hb dX12_sharedBy_34 (by decide) (fun _ => ?_) (fun h => absurd h (by decide))
  refine lv_iconst (v := 0) hx hb dX12_sharedBy_107 (by decide) ?_
  refine lv_istore_n (lv' := [(2, .int 0), (0, .ref (g 100)), (1, .int v0)]) hx hb dX12_sharedBy_108 rfl hl (by decide) rfl (fun ls hl => ?_)
  refine lv_iconst (v := 0) hx hb dX12_sharedBy_109 (by decide) ?_
  refine lv_istore_n (lv' := [(3, .int 0), (2, .int 0), (0, .ref (g 100)), (1, .int v0)]) hx hb dX12_sharedBy_110 rfl hl (by decide) rfl (fun ls hl => ?_)
  refine lv_iload_n hx hb dX12_sharedBy_111 rfl (lv_at hl 0 rfl) ?_
  refine lv_aload_n hx hb dX12_sharedBy_112 rfl (lv_at hl 2 rfl) ?_
  refine gf_RX12_386 S hK hP 0 rfl (v := .int 0) rfl dX12_sharedBy_113 ?_
  refine lv_icmp_ge (tgt := 155) hx hb dX12_sharedBy_116 (by decide) (fun _ => ?_) (fun h => absurd h (by decide))
  refine lv_iload_n hx hb dX12_sharedBy_155 rfl (lv_at hl 1 rfl) ?_
  have hP9 := hP.sub (ws' := [((g 100), .inr (13, oM g)), ((g 48), .inl (cI, 3, .inl (fun _ => 0))), ((g 49), .inl (cI, 3, .inl (fun _ => 0)))]) [0, 1, 2] rfl
  have hD9 := hD.sub (ws' := [((g 100), .inr (13, oM g)), ((g 48), .inl (cI, 3, .inl (fun _ => 0))), ((g 49), .inl (cI, 3, .inl (fun _ => 0)))]) [0, 1, 2] (by decide) rfl
  exact W.iret (v := 0) hx hb hr (fun t ht hW => ⟨⟨0, (), rfl, rfl, by rw [ht]; exact hP9, hD9⟩, hS.F ht⟩) hS.2.2 dX12_sharedBy_156
set_option maxRecDepth 100000 in
set_option maxHeartbeats 4000000 in
theorem q_M_shared (l : Launch) (D : va_G) (cI cB cZ : ClassId) (g : Nat → Nat) (v0 v1 v2 : Int32) (sz : Nat) : Met l yX12_shared (CWS yX12_shared cX12_shared 10 (some .int)) (RM 3 0 0) (PBw [.ref (g 100), .int v0, .int v1, .int v2] D cI cB cZ [((g 100), .inr (13, oM g)), ((g 48), .inl (cI, 3, .inl (fun _ => 0))), ((g 49), .inl (cI, 3, .inl (fun _ => 0)))] sz) (va_Qi (fun (r : Int32) (_ : Unit) => r = (if (0 ≤ v0.toInt ∧ v0.toInt ≤ 399) ∧ (1 ≤ v1.toInt ∧ v1.toInt ≤ 400) ∧ v2.toInt = -1 then (0 : Int32) else -1)) (fun (_ : Unit) (_ : State) => True) (va_A [((g 100), .inr (13, oM g)), ((g 48), .inl (cI, 3, .inl (fun _ => 0))), ((g 49), .inl (cI, 3, .inl (fun _ => 0)))] sz)) 0 0 (va_A [((g 100), .inr (13, oM g)), ((g 48), .inl (cI, 3, .inl (fun _ => 0))), ((g 49), .inl (cI, 3, .inl (fun _ => 0)))] sz) := by
  refine Met.ofW (cc := cX12_shared) (maxL := 10) (ret := (some .int)) (by decide) rfl ?_
  intro p e s m args below meth c s₁ B hml hv
  obtain ⟨rfl, hsz, hP, hK, hD0⟩ := hv
  have hx := B.exec
  have hb := B.bytes
  have hr := B.returns
  have hts := atoms_spec (ws := (CWS yX12_shared cX12_shared 10 (some .int))) B.pre
  have hown : s.vm.findClass RX12 = some m.cls := findClass_of_methodNamed B.named
  have hlocks := B.notSynchronized
  have S : SF p m c cX12_shared 10 s ([.ref (g 100), .int v0, .int v1, .int v2]).toArray RX12 := ⟨hx, hb, hml, hown, fun w h => hts w (List.mem_cons_of_mem _ h)⟩
  subst hsz
  have hD := hD0.self (sz := s.heap.size)
  generalize hAe : va_A [((g 100), .inr (13, oM g)), ((g 48), .inl (cI, 3, .inl (fun _ => 0))), ((g 49), .inl (cI, 3, .inl (fun _ => 0)))] s.heap.size = A at hD ⊢
  have hA : ∀ q : Nat, s.heap.size ≤ q → A q := fun q h => by rw [← hAe]; exact Or.inr h
  have hS : va_S A s.heap s.heap [] := va_S.rf
  have hP : va_P D vwCl [((g 100), .inr (13, oM g)), ((g 48), .inl (cI, 3, .inl (fun _ => 0))), ((g 49), .inl (cI, 3, .inl (fun _ => 0)))] s.heap := hP
  have hD : va_D A [((g 100), .inr (13, oM g)), ((g 48), .inl (cI, 3, .inl (fun _ => 0))), ((g 49), .inl (cI, 3, .inl (fun _ => 0)))] := hD
  have hl := lv_entry ([.ref (g 100), .int v0, .int v1, .int v2]) (n := 10) (Nat.le_of_ble_eq_true rfl)
  rw [lg_entry_eq]
  generalize (lg_sl ([.ref (g 100), .int v0, .int v1, .int v2]) ++ List.replicate (10 - (lg_sl ([.ref (g 100), .int v0, .int v1, .int v2])).length) Slot.unset).toArray = ls at hl ⊢
  have hl : lv_has ls 10 [(0, .ref (g 100)), (1, .int v0), (2, .int v1), (3, .int v2)] := hl
  refine lv_iload_n hx hb dX12_shared_0 rfl (lv_at hl 1 rfl) ?_
  refine vp_callSi (runS_r (As := [.int v0]) (rest := []) S (q_misDay l D cI cB cZ v0) kS_RX12_341 hK hP [] rfl ⟨Nat.le_of_ble_eq_true rfl, Nat.le_of_ble_eq_true rfl⟩ ⟨Nat.le_of_ble_eq_true rfl, Nat.le_of_ble_eq_true rfl⟩ rfl hl.1 rfl (Nat.le_of_ble_eq_true rfl) dX12_shared_1) (fun r_1 h_2 => ?_)
  rcases h_2 with ⟨rfl, h_2⟩ | ⟨rfl, h_2⟩
  ·
    have h_2 : 0 ≤ v0.toInt ∧ v0.toInt ≤ 399 := h_2
    refine lv_if_eq (tgt := 31) hx hb dX12_shared_4 (by decide) (fun h => absurd h (by decide)) (fun _ => ?_)
    refine lv_iload_n hx hb dX12_shared_7 rfl (lv_at hl 2 rfl) ?_
    refine lv_iconst (v := 1) hx hb dX12_shared_8 (by decide) ?_
    refine lv_sipush (v := 400) hx hb dX12_shared_9 (by decide) ?_
    refine vp_callSi (runS_r (As := [.int v1, .int 1, .int 400]) (rest := []) S (q_in l D cI cB cZ v1 1 400) kS_RX12_214 hK hP [] rfl ⟨Nat.le_of_ble_eq_true rfl, Nat.le_of_ble_eq_true rfl⟩ ⟨Nat.le_of_ble_eq_true rfl, Nat.le_of_ble_eq_true rfl⟩ rfl hl.1 rfl (Nat.le_of_ble_eq_true rfl) dX12_shared_12) (fun r_3 h_4 => ?_)
    rcases h_4 with ⟨rfl, h_4⟩ | ⟨rfl, h_4⟩
    ·
      have h_4 : 1 ≤ v1.toInt ∧ v1.toInt ≤ 400 := h_4
      refine lv_if_eq (tgt := 31) hx hb dX12_shared_15 (by decide) (fun h => absurd h (by decide)) (fun _ => ?_)
      refine lv_iload_n hx hb dX12_shared_18 rfl (lv_at hl 3 rfl) ?_
      refine lv_iconst (v := (-1)) hx hb dX12_shared_19 (by decide) ?_
      refine lv_icmp_eq (tgt := 33) hx hb dX12_shared_20 (by decide) (fun c_5 => ?_) (fun c_5 => ?_)
      ·
        have tc_5 : (v2.toInt : Int) = (-1) := congrArg Int32.toInt c_5
        refine lv_aload_n hx hb dX12_shared_33 rfl (lv_at hl 0 rfl) ?_
        refine lv_iload_n hx hb dX12_shared_34 rfl (lv_at hl 1 rfl) ?_
        refine lv_iload_n hx hb dX12_shared_35 rfl (lv_at hl 2 rfl) ?_
        refine lv_bipush (v := 6) hx hb dX12_shared_36 (by decide) ?_
        have hFc := va_free (wc := [((g 100), .inr (13, oM g))]) hD hS hA [0] rfl
        refine va_calli (runV_w (As := [.int v0, .int v1, .int 6]) (rest := []) S (q_mlays l D cI cB cZ g v0 v1 6 s.heap.size (by omega)) kV_RX12_380 hK hP hD [0] rfl rfl (by decide) 0 rfl rfl rfl ⟨Nat.le_of_ble_eq_true rfl, Nat.le_of_ble_eq_true rfl⟩ ⟨Nat.le_of_ble_eq_true rfl, Nat.le_of_ble_eq_true rfl⟩ rfl hl.1 rfl (Nat.le_of_ble_eq_true rfl) dX12_shared_38) hS (fun q _ h => hFc q h) hFc (fun r_6 u_7 t H1 locs ht hvm h_8 hB hz1 hk1 hS => ?_)
        obtain ⟨hP1, hD1⟩ := hB
        rw [ht] at hP1
        obtain ⟨hP, hD⟩ := va_join (wr := [((g 48), .inl (cI, 3, .inl (fun _ => 0))), ((g 49), .inl (cI, 3, .inl (fun _ => 0)))]) (w1 := [((g 100), .inr (13, oM g))]) hP hD [0] [1, 2] rfl rfl (by decide) (by decide) hk1 hFc hP1 hD1
        generalize H1 = H at hP hS ⊢
        have hP : va_P D vwCl [((g 48), .inl (cI, 3, .inl (fun _ => 0))), ((g 49), .inl (cI, 3, .inl (fun _ => 0))), ((g 100), .inr (13, oM g))] H := hP
        have hD : va_D A [((g 48), .inl (cI, 3, .inl (fun _ => 0))), ((g 49), .inl (cI, 3, .inl (fun _ => 0))), ((g 100), .inr (13, oM g))] := hD
        subst h_8
        refine lv_if_ne (tgt := 47) hx hb dX12_shared_41 (by decide) (fun _ => ?_) (fun h => absurd h (by decide))
        refine lv_iconst (v := 1) hx hb dX12_shared_47 (by decide) ?_
        refine lv_istore (lv' := [(4, .int 1), (0, .ref (g 100)), (1, .int v0), (2, .int v1), (3, .int v2)]) hx hb dX12_shared_48 hl (by decide) rfl (fun ls hl => ?_)
        refine lv_iconst (v := 0) hx hb dX12_shared_50 (by decide) ?_
        refine lv_istore (lv' := [(5, .int 0), (4, .int 1), (0, .ref (g 100)), (1, .int v0), (2, .int v1), (3, .int v2)]) hx hb dX12_shared_51 hl (by decide) rfl (fun ls hl => ?_)
        refine lv_iload hx hb dX12_shared_53 (lv_at hl 0 rfl) ?_
        refine lv_aload_n hx hb dX12_shared_55 rfl (lv_at hl 2 rfl) ?_
        refine gf_RX12_364 S hK hP 2 rfl (v := .int 0) rfl dX12_shared_56 ?_
        refine lv_icmp_ge (tgt := 77) hx hb dX12_shared_59 (by decide) (fun _ => ?_) (fun h => absurd h (by decide))
        refine lv_iconst (v := (-1)) hx hb dX12_shared_77 (by decide) ?_
        refine lv_istore (lv' := [(5, .int (-1)), (4, .int 1), (0, .ref (g 100)), (1, .int v0), (2, .int v1), (3, .int v2)]) hx hb dX12_shared_78 hl (by decide) rfl (fun ls hl => ?_)
        refine lv_iconst (v := 0) hx hb dX12_shared_80 (by decide) ?_
        refine lv_istore (lv' := [(6, .int 0), (5, .int (-1)), (4, .int 1), (0, .ref (g 100)), (1, .int v0), (2, .int v1), (3, .int v2)]) hx hb dX12_shared_81 hl (by decide) rfl (fun ls hl => ?_)
        refine lv_iload hx hb dX12_shared_83 (lv_at hl 0 rfl) ?_
        refine lv_iload hx hb dX12_shared_85 (lv_at hl 2 rfl) ?_
        refine lv_icmp_ge (tgt := 207) hx hb dX12_shared_87 (by decide) (fun h => absurd h (by decide)) (fun _ => ?_)
        refine lv_iload hx hb dX12_shared_90 (lv_at hl 0 rfl) ?_
        refine lv_istore (lv' := [(7, .int 0), (6, .int 0), (5, .int (-1)), (4, .int 1), (0, .ref (g 100)), (1, .int v0), (2, .int v1), (3, .int v2)]) hx hb dX12_shared_92 hl (by decide) rfl (fun ls hl => ?_)
        refine lv_aload_n hx hb dX12_shared_94 rfl (lv_at hl 4 rfl) ?_
        refine gf_RX12_364 S hK hP 2 rfl (v := .int 0) rfl dX12_shared_95 ?_
        refine lv_iconst (v := 1) hx hb dX12_shared_98 (by decide) ?_
        refine lv_isub hx hb dX12_shared_99 ?_
        refine lv_topi (fun y_9 ey_9 => ?_)
        obtain rfl : y_9 = (-1) := ey_9.trans (by decide)
        refine lv_istore (lv' := [(8, .int (-1)), (7, .int 0), (6, .int 0), (5, .int (-1)), (4, .int 1), (0, .ref (g 100)), (1, .int v0), (2, .int v1), (3, .int v2)]) hx hb dX12_shared_100 hl (by decide) rfl (fun ls hl => ?_)
        refine lv_iload hx hb dX12_shared_102 (lv_at hl 0 rfl) ?_
        refine lv_if_lt (tgt := 136) hx hb dX12_shared_104 (by decide) (fun _ => ?_) (fun h => absurd h (by decide))
        refine lv_aload_n hx hb dX12_shared_136 rfl (lv_at hl 5 rfl) ?_
        refine lv_iload_n hx hb dX12_shared_137 rfl (lv_at hl 6 rfl) ?_
        have hFc := va_free (wc := [((g 100), .inr (13, oM g)), ((g 48), .inl (cI, 3, .inl (fun _ => 0))), ((g 49), .inl (cI, 3, .inl (fun _ => 0)))]) hD hS hA [2, 0, 1] rfl
        refine va_calli (runV_w (As := [.int v0]) (rest := []) S (q_msharedBy l D cI cB cZ g v0 H.size) kV_RX12_392 hK hP hD [2, 0, 1] rfl rfl (by decide) 2 rfl rfl rfl ⟨Nat.le_of_ble_eq_true rfl, Nat.le_of_ble_eq_true rfl⟩ ⟨Nat.le_of_ble_eq_true rfl, Nat.le_of_ble_eq_true rfl⟩ rfl hl.1 rfl (Nat.le_of_ble_eq_true rfl) dX12_shared_138) hS (fun q _ h => hFc q h) hFc (fun r_10 u_11 t H1 locs ht hvm h_12 hB hz1 hk1 hS => ?_)
        obtain ⟨hP1, hD1⟩ := hB
        rw [ht] at hP1
        obtain ⟨hP, hD⟩ := va_join (wr := []) (w1 := [((g 100), .inr (13, oM g)), ((g 48), .inl (cI, 3, .inl (fun _ => 0))), ((g 49), .inl (cI, 3, .inl (fun _ => 0)))]) hP hD [2, 0, 1] [] rfl rfl (by decide) (by decide) hk1 hFc hP1 hD1
        generalize H1 = H at hP hS ⊢
        have hP : va_P D vwCl [((g 100), .inr (13, oM g)), ((g 48), .inl (cI, 3, .inl (fun _ => 0))), ((g 49), .inl (cI, 3, .inl (fun _ => 0)))] H := hP
        have hD : va_D A [((g 100), .inr (13, oM g)), ((g 48), .inl (cI, 3, .inl (fun _ => 0))), ((g 49), .inl (cI, 3, .inl (fun _ => 0)))] := hD
        subst h_12
        refine lv_istore (lv' := [(8, .int 0), (7, .int 0), (6, .int 0), (5, .int (-1)), (4, .int 1), (0, .ref (g 100)), (1, .int v0), (2, .int v1), (3, .int v2)]) hx hb dX12_shared_141 hl (by decide) rfl (fun ls hl => ?_)
        refine lv_iload hx hb dX12_shared_143 (lv_at hl 0 rfl) ?_
        refine lv_iconst (v := (-1)) hx hb dX12_shared_145 (by decide) ?_
        refine lv_icmp_eq (tgt := 201) hx hb dX12_shared_146 (by decide) (fun h => absurd h (by decide)) (fun _ => ?_)
        refine lv_iload hx hb dX12_shared_149 (lv_at hl 3 rfl) ?_
        refine lv_iconst (v := (-1)) hx hb dX12_shared_151 (by decide) ?_
        refine lv_icmp_eq (tgt := 165) hx hb dX12_shared_152 (by decide) (fun _ => ?_) (fun h => absurd h (by decide))
        refine lv_iload hx hb dX12_shared_165 (lv_at hl 0 rfl) ?_
        refine lv_istore (lv' := [(5, .int 0), (8, .int 0), (7, .int 0), (6, .int 0), (4, .int 1), (0, .ref (g 100)), (1, .int v0), (2, .int v1), (3, .int v2)]) hx hb dX12_shared_167 hl (by decide) rfl (fun ls hl => ?_)
        refine lv_iconst (v := 0) hx hb dX12_shared_169 (by decide) ?_
        refine lv_istore (lv' := [(9, .int 0), (5, .int 0), (8, .int 0), (7, .int 0), (6, .int 0), (4, .int 1), (0, .ref (g 100)), (1, .int v0), (2, .int v1), (3, .int v2)]) hx hb dX12_shared_170 hl (by decide) rfl (fun ls hl => ?_)
        refine lv_iload hx hb dX12_shared_172 (lv_at hl 0 rfl) ?_
        refine lv_aload_n hx hb dX12_shared_174 rfl (lv_at hl 6 rfl) ?_
        refine gf_RX12_364 S hK hP 0 rfl (v := .int 0) rfl dX12_shared_175 ?_
        refine lv_icmp_ge (tgt := 201) hx hb dX12_shared_178 (by decide) (fun _ => ?_) (fun h => absurd h (by decide))
        refine lv_iinc (v := 1) (lv' := [(6, .int 1), (9, .int 0), (5, .int 0), (8, .int 0), (7, .int 0), (4, .int 1), (0, .ref (g 100)), (1, .int v0), (2, .int v1), (3, .int v2)]) hx hb dX12_shared_201 hl (k := 4) rfl (by decide) (by decide) rfl (fun ls hl => ?_)
        refine lv_goto (tgt := 83) hx hb dX12_shared_204 (by decide) ?_
        refine lv_iload hx hb dX12_shared_83 (lv_at hl 0 rfl) ?_
        refine lv_iload hx hb dX12_shared_85 (lv_at hl 5 rfl) ?_
        refine lv_icmp_ge (tgt := 207) hx hb dX12_shared_87 (by decide) (fun _ => ?_) (fun h => absurd h (by decide))
        refine lv_iload hx hb dX12_shared_207 (lv_at hl 2 rfl) ?_
        refine lv_iconst (v := (-1)) hx hb dX12_shared_209 (by decide) ?_
        refine lv_icmp_ne (tgt := 216) hx hb dX12_shared_210 (by decide) (fun _ => ?_) (fun h => absurd h (by decide))
        refine lv_iload_n hx hb dX12_shared_216 rfl (lv_at hl 9 rfl) ?_
        refine lv_iconst (v := (-1)) hx hb dX12_shared_217 (by decide) ?_
        refine lv_icmp_ne (tgt := 224) hx hb dX12_shared_218 (by decide) (fun c_13 => False.elim (by have tc_13 : (v2.toInt : Int) ≠ (-1) := fun q => c_13 (Int32.toInt_inj.mp q); omega)) (fun c_13 => ?_)
        have tc_13 : (v2.toInt : Int) = (-1) := congrArg Int32.toInt c_13
        refine lv_iload hx hb dX12_shared_221 (lv_at hl 2 rfl) ?_
        exact W.iret (v := 0) hx hb hr (fun t ht hW => ⟨⟨0, (), rfl, (if_pos (by omega)).symm, trivial⟩, hS.F ht⟩) hS.2.2 dX12_shared_223
      ·
        have tc_5 : (v2.toInt : Int) ≠ (-1) := fun q => c_5 (Int32.toInt_inj.mp q)
        refine lv_aload_n hx hb dX12_shared_23 rfl (lv_at hl 0 rfl) ?_
        refine lv_iload_n hx hb dX12_shared_24 rfl (lv_at hl 3 rfl) ?_
        refine vp_callSi (runV_r (As := [.int v2]) (rest := []) S (q_misKitchen l D cI cB cZ g v2) kV_RX12_218 hK hP [0] rfl 0 rfl rfl rfl ⟨Nat.le_of_ble_eq_true rfl, Nat.le_of_ble_eq_true rfl⟩ ⟨Nat.le_of_ble_eq_true rfl, Nat.le_of_ble_eq_true rfl⟩ rfl hl.1 rfl (Nat.le_of_ble_eq_true rfl) dX12_shared_25) (fun r_14 h_15 => ?_)
        subst h_15
        refine lv_if_ne (tgt := 33) hx hb dX12_shared_28 (by decide) (fun h => absurd h (by decide)) (fun _ => ?_)
        refine lv_iconst (v := (-1)) hx hb dX12_shared_31 (by decide) ?_
        exact W.iret (v := (-1)) hx hb hr (fun t ht hW => ⟨⟨(-1), (), rfl, (if_neg (by omega)).symm, trivial⟩, hS.F ht⟩) hS.2.2 dX12_shared_32
    ·
      have h_4 : ¬ (1 ≤ v1.toInt ∧ v1.toInt ≤ 400) := h_4
      refine lv_if_eq (tgt := 31) hx hb dX12_shared_15 (by decide) (fun _ => ?_) (fun h => absurd h (by decide))
      refine lv_iconst (v := (-1)) hx hb dX12_shared_31 (by decide) ?_
      exact W.iret (v := (-1)) hx hb hr (fun t ht hW => ⟨⟨(-1), (), rfl, (if_neg (by omega)).symm, trivial⟩, hS.F ht⟩) hS.2.2 dX12_shared_32
  ·
    have h_2 : ¬ (0 ≤ v0.toInt ∧ v0.toInt ≤ 399) := h_2
    refine lv_if_eq (tgt := 31) hx hb dX12_shared_4 (by decide) (fun _ => ?_) (fun h => absurd h (by decide))
    refine lv_iconst (v := (-1)) hx hb dX12_shared_31 (by decide) ?_
    exact W.iret (v := (-1)) hx hb hr (fun t ht hW => ⟨⟨(-1), (), rfl, (if_neg (by omega)).symm, trivial⟩, hS.F ht⟩) hS.2.2 dX12_shared_32
