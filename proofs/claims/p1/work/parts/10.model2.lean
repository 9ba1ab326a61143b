set_option maxRecDepth 100000 in
theorem kV_RX12_350 : CalV RX12 350 yX12_lacking cX12_lacking 3 (some .int) 0 := ⟨⟨wT_tab 1758 rfl rfl, wT_tab 1760 rfl rfl, wT_sel 92 _ rfl rfl rfl, wT_tab 13 rfl rfl, wT_tab 1761 rfl rfl⟩, ⟨by decide, by decide, by decide +kernel⟩⟩
set_option maxRecDepth 100000 in
theorem kV_RX12_353 : CalV RX12 353 yX12_byLot cX12_byLot 15 (some .long) 4 := ⟨⟨wT_tab 1762 rfl rfl, wT_tab 1764 rfl rfl, wT_sel 93 _ rfl rfl rfl, wT_tab 13 rfl rfl, wT_tab 1765 rfl rfl⟩, ⟨by decide, by decide, by decide +kernel⟩⟩
set_option maxRecDepth 100000 in
theorem gf_RX12_92 {p : Program} {l : Launch} {e : Env} {R : Room} {s : State} {m : MethodId} {args : Array Value} {below : List Frame} {meth : Method} {c : Code} {H : Heap} {locs : List Loc} {cells slots : Nat} {Q : State → Prop} {cc : ByteArray} {nL pc : Nat} {D : va_G} {cI cB cZ : ClassId} {ws : va_W} {rest : List Value} {ls : Array Slot} {a : Nat} {fs : List Value} {v : Value} (S : SF p m c cc nL s args RX12) (hK : KK D cI cB cZ s) (hP : va_P D vwCl ws H) (q0 : Nat) (he : ws[q0]? = some (a, .inr (13, fs))) (hv : fs[39]? = some v) (hdg : decode cc pc = .ok (.getfield 92, 3)) (kk : W p l e R s m args below meth c H locs cells slots Q (F0 m (pc + 3) ls (v :: rest))) : W p l e R s m args below meth c H locs cells slots Q (F0 m pc ls (.ref a :: rest)) :=
  va_get (C := RX12) (T := TX12) (N := 91) S.1 S.2.1 S.2.2.2.2 hin_RX12 S.2.2.2.1 hK.1 hP q0 he rfl 39 (by decide) (S.2.2.2.2 _ (wT_tab 1352 rfl rfl)) (fun _ h9 => h9) hv hdg kk
set_option maxRecDepth 100000 in
theorem gf_RX12_189 {p : Program} {l : Launch} {e : Env} {R : Room} {s : State} {m : MethodId} {args : Array Value} {below : List Frame} {meth : Method} {c : Code} {H : Heap} {locs : List Loc} {cells slots : Nat} {Q : State → Prop} {cc : ByteArray} {nL pc : Nat} {D : va_G} {cI cB cZ : ClassId} {ws : va_W} {rest : List Value} {ls : Array Slot} {a : Nat} {fs : List Value} {v : Value} (S : SF p m c cc nL s args RX12) (hK : KK D cI cB cZ s) (hP : va_P D vwCl ws H) (q0 : Nat) (he : ws[q0]? = some (a, .inr (13, fs))) (hv : fs[86]? = some v) (hdg : decode cc pc = .ok (.getfield 189, 3)) (kk : W p l e R s m args below meth c H locs cells slots Q (F0 m (pc + 3) ls (v :: rest))) : W p l e R s m args below meth c H locs cells slots Q (F0 m pc ls (.ref a :: rest)) :=
  va_get (C := RX12) (T := TX12) (N := 91) S.1 S.2.1 S.2.2.2.2 hin_RX12 S.2.2.2.1 hK.1 hP q0 he rfl 86 (by decide) (S.2.2.2.2 _ (wT_tab 1399 rfl rfl)) (fun _ h9 => h9) hv hdg kk
set_option maxRecDepth 100000 in
theorem kS_RX12_341 : CalS RX12 341 yX12_isDay cX12_isDay 1 (some .boolean) 1 := ⟨⟨wT_tab 1742 rfl rfl, wT_tab 1743 rfl rfl, wT_tab 13 rfl rfl, wT_tab 1744 rfl rfl⟩, ⟨by decide, by decide, by decide +kernel⟩⟩
set_option maxRecDepth 100000 in
theorem gf_RX12_201 {p : Program} {l : Launch} {e : Env} {R : Room} {s : State} {m : MethodId} {args : Array Value} {below : List Frame} {meth : Method} {c : Code} {H : Heap} {locs : List Loc} {cells slots : Nat} {Q : State → Prop} {cc : ByteArray} {nL pc : Nat} {D : va_G} {cI cB cZ : ClassId} {ws : va_W} {rest : List Value} {ls : Array Slot} {a : Nat} {fs : List Value} {v : Value} (S : SF p m c cc nL s args RX12) (hK : KK D cI cB cZ s) (hP : va_P D vwCl ws H) (q0 : Nat) (he : ws[q0]? = some (a, .inr (13, fs))) (hv : fs[90]? = some v) (hdg : decode cc pc = .ok (.getfield 201, 3)) (kk : W p l e R s m args below meth c H locs cells slots Q (F0 m (pc + 3) ls (v :: rest))) : W p l e R s m args below meth c H locs cells slots Q (F0 m pc ls (.ref a :: rest)) :=
  va_get (C := RX12) (T := TX12) (N := 91) S.1 S.2.1 S.2.2.2.2 hin_RX12 S.2.2.2.1 hK.1 hP q0 he rfl 90 (by decide) (S.2.2.2.2 _ (wT_tab 1403 rfl rfl)) (fun _ h9 => h9) hv hdg kk
set_option maxRecDepth 100000 in
theorem gf_RX12_98 {p : Program} {l : Launch} {e : Env} {R : Room} {s : State} {m : MethodId} {args : Array Value} {below : List Frame} {meth : Method} {c : Code} {H : Heap} {locs : List Loc} {cells slots : Nat} {Q : State → Prop} {cc : ByteArray} {nL pc : Nat} {D : va_G} {cI cB cZ : ClassId} {ws : va_W} {rest : List Value} {ls : Array Slot} {a : Nat} {fs : List Value} {v : Value} (S : SF p m c cc nL s args RX12) (hK : KK D cI cB cZ s) (hP : va_P D vwCl ws H) (q0 : Nat) (he : ws[q0]? = some (a, .inr (13, fs))) (hv : fs[41]? = some v) (hdg : decode cc pc = .ok (.getfield 98, 3)) (kk : W p l e R s m args below meth c H locs cells slots Q (F0 m (pc + 3) ls (v :: rest))) : W p l e R s m args below meth c H locs cells slots Q (F0 m pc ls (.ref a :: rest)) :=
  va_get (C := RX12) (T := TX12) (N := 91) S.1 S.2.1 S.2.2.2.2 hin_RX12 S.2.2.2.1 hK.1 hP q0 he rfl 41 (by decide) (S.2.2.2.2 _ (wT_tab 1354 rfl rfl)) (fun _ h9 => h9) hv hdg kk
set_option maxRecDepth 100000 in
theorem gf_RX12_162 {p : Program} {l : Launch} {e : Env} {R : Room} {s : State} {m : MethodId} {args : Array Value} {below : List Frame} {meth : Method} {c : Code} {H : Heap} {locs : List Loc} {cells slots : Nat} {Q : State → Prop} {cc : ByteArray} {nL pc : Nat} {D : va_G} {cI cB cZ : ClassId} {ws : va_W} {rest : List Value} {ls : Array Slot} {a : Nat} {fs : List Value} {v : Value} (S : SF p m c cc nL s args RX12) (hK : KK D cI cB cZ s) (hP : va_P D vwCl ws H) (q0 : Nat) (he : ws[q0]? = some (a, .inr (13, fs))) (hv : fs[76]? = some v) (hdg : decode cc pc = .ok (.getfield 162, 3)) (kk : W p l e R s m args below meth c H locs cells slots Q (F0 m (pc + 3) ls (v :: rest))) : W p l e R s m args below meth c H locs cells slots Q (F0 m pc ls (.ref a :: rest)) :=
  va_get (C := RX12) (T := TX12) (N := 91) S.1 S.2.1 S.2.2.2.2 hin_RX12 S.2.2.2.1 hK.1 hP q0 he rfl 76 (by decide) (S.2.2.2.2 _ (wT_tab 1389 rfl rfl)) (fun _ h9 => h9) hv hdg kk
set_option maxRecDepth 100000 in
theorem gf_RX12_168 {p : Program} {l : Launch} {e : Env} {R : Room} {s : State} {m : MethodId} {args : Array Value} {below : List Frame} {meth : Method} {c : Code} {H : Heap} {locs : List Loc} {cells slots : Nat} {Q : State → Prop} {cc : ByteArray} {nL pc : Nat} {D : va_G} {cI cB cZ : ClassId} {ws : va_W} {rest : List Value} {ls : Array Slot} {a : Nat} {fs : List Value} {v : Value} (S : SF p m c cc nL s args RX12) (hK : KK D cI cB cZ s) (hP : va_P D vwCl ws H) (q0 : Nat) (he : ws[q0]? = some (a, .inr (13, fs))) (hv : fs[78]? = some v) (hdg : decode cc pc = .ok (.getfield 168, 3)) (kk : W p l e R s m args below meth c H locs cells slots Q (F0 m (pc + 3) ls (v :: rest))) : W p l e R s m args below meth c H locs cells slots Q (F0 m pc ls (.ref a :: rest)) :=
  va_get (C := RX12) (T := TX12) (N := 91) S.1 S.2.1 S.2.2.2.2 hin_RX12 S.2.2.2.1 hK.1 hP q0 he rfl 78 (by decide) (S.2.2.2.2 _ (wT_tab 1391 rfl rfl)) (fun _ h9 => h9) hv hdg kk
set_option maxRecDepth 100000 in
theorem gf_RX12_165 {p : Program} {l : Launch} {e : Env} {R : Room} {s : State} {m : MethodId} {args : Array Value} {below : List Frame} {meth : Method} {c : Code} {H : Heap} {locs : List Loc} {cells slots : Nat} {Q : State → Prop} {cc : ByteArray} {nL pc : Nat} {D : va_G} {cI cB cZ : ClassId} {ws : va_W} {rest : List Value} {ls : Array Slot} {a : Nat} {fs : List Value} {v : Value} (S : SF p m c cc nL s args RX12) (hK : KK D cI cB cZ s) (hP : va_P D vwCl ws H) (q0 : Nat) (he : ws[q0]? = some (a, .inr (13, fs))) (hv : fs[77]? = some v) (hdg : decode cc pc = .ok (.getfield 165, 3)) (kk : W p l e R s m args below meth c H locs cells slots Q (F0 m (pc + 3) ls (v :: rest))) : W p l e R s m args below meth c H locs cells slots Q (F0 m pc ls (.ref a :: rest)) :=
  va_get (C := RX12) (T := TX12) (N := 91) S.1 S.2.1 S.2.2.2.2 hin_RX12 S.2.2.2.1 hK.1 hP q0 he rfl 77 (by decide) (S.2.2.2.2 _ (wT_tab 1390 rfl rfl)) (fun _ h9 => h9) hv hdg kk
set_option maxRecDepth 100000 in
theorem gf_RX12_52 {p : Program} {l : Launch} {e : Env} {R : Room} {s : State} {m : MethodId} {args : Array Value} {below : List Frame} {meth : Method} {c : Code} {H : Heap} {locs : List Loc} {cells slots : Nat} {Q : State → Prop} {cc : ByteArray} {nL pc : Nat} {D : va_G} {cI cB cZ : ClassId} {ws : va_W} {rest : List Value} {ls : Array Slot} {a : Nat} {fs : List Value} {v : Value} (S : SF p m c cc nL s args RX12) (hK : KK D cI cB cZ s) (hP : va_P D vwCl ws H) (q0 : Nat) (he : ws[q0]? = some (a, .inr (13, fs))) (hv : fs[17]? = some v) (hdg : decode cc pc = .ok (.getfield 52, 3)) (kk : W p l e R s m args below meth c H locs cells slots Q (F0 m (pc + 3) ls (v :: rest))) : W p l e R s m args below meth c H locs cells slots Q (F0 m pc ls (.ref a :: rest)) :=
  va_get (C := RX12) (T := TX12) (N := 91) S.1 S.2.1 S.2.2.2.2 hin_RX12 S.2.2.2.1 hK.1 hP q0 he rfl 17 (by decide) (S.2.2.2.2 _ (wT_tab 1330 rfl rfl)) (fun _ h9 => h9) hv hdg kk
set_option maxRecDepth 100000 in
theorem pf_RX12_226 {p : Program} {l : Launch} {e : Env} {R : Room} {s : State} {m : MethodId} {args : Array Value} {below : List Frame} {meth : Method} {c : Code} {H : Heap} {locs : List Loc} {cells slots : Nat} {Q : State → Prop} {cc : ByteArray} {nL pc : Nat} {D : va_G} {cI cB cZ : ClassId} {ws : va_W} {rest : List Value} {ls : Array Slot} {a : Nat} {fs : List Value} {v : Value} {A : Nat → Prop} {H0 : Heap} (S : SF p m c cc nL s args RX12) (hK : KK D cI cB cZ s) (hP : va_P D vwCl ws H) (hD : va_D A ws) (hS : va_S A H0 H locs) (q0 : Nat) (he : ws[q0]? = some (a, .inr (13, fs))) (hl : 18 < fs.length) (hn : narrow (tyX12 18) v = v) (hfit : fits (tyX12 18) v = true) (hdg : decode cc pc = .ok (.putfield 226, 3)) (kk : ∀ (H1 : Heap) (locs1 : List Loc), va_P D vwCl (ws.set q0 (a, .inr (13, fs.set 18 v))) H1 → va_D A (ws.set q0 (a, .inr (13, fs.set 18 v))) → va_S A H0 H1 locs1 → W p l e R s m args below meth c H1 locs1 cells slots Q (F0 m (pc + 3) ls rest)) : W p l e R s m args below meth c H locs cells slots Q (F0 m pc ls (v :: .ref a :: rest)) :=
  va_put (C := RX12) (T := TX12) (N := 91) S.1 S.2.1 S.2.2.2.2 hin_RX12 tyX12 tyX12_ok nmX12 S.2.2.2.1 hK.1 hP hD hS q0 he rfl 18 (by decide) (S.2.2.2.2 _ (wT_tab 1331 rfl rfl)) (fun _ h9 => h9) rfl (tyX12_ok 18 (by decide)) hn hfit hl hdg kk
set_option maxRecDepth 100000 in
theorem kV_RX12_229 : CalV RX12 229 yX12_types cX12_types 3 none 1 := ⟨⟨wT_tab 1619 rfl rfl, wT_tab 1621 rfl rfl, wT_sel 69 _ rfl rfl rfl, wT_tab 13 rfl rfl, wT_tab 1622 rfl rfl⟩, ⟨by decide, by decide, by decide +kernel⟩⟩
set_option maxRecDepth 100000 in
theorem gf_RX12_364 {p : Program} {l : Launch} {e : Env} {R : Room} {s : State} {m : MethodId} {args : Array Value} {below : List Frame} {meth : Method} {c : Code} {H : Heap} {locs : List Loc} {cells slots : Nat} {Q : State → Prop} {cc : ByteArray} {nL pc : Nat} {D : va_G} {cI cB cZ : ClassId} {ws : va_W} {rest : List Value} {ls : Array Slot} {a : Nat} {fs : List Value} {v : Value} (S : SF p m c cc nL s args RX12) (hK : KK D cI cB cZ s) (hP : va_P D vwCl ws H) (q0 : Nat) (he : ws[q0]? = some (a, .inr (13, fs))) (hv : fs[44]? = some v) (hdg : decode cc pc = .ok (.getfield 364, 3)) (kk : W p l e R s m args below meth c H locs cells slots Q (F0 m (pc + 3) ls (v :: rest))) : W p l e R s m args below meth c H locs cells slots Q (F0 m pc ls (.ref a :: rest)) :=
  va_get (C := RX12) (T := TX12) (N := 91) S.1 S.2.1 S.2.2.2.2 hin_RX12 S.2.2.2.1 hK.1 hP q0 he rfl 44 (by decide) (S.2.2.2.2 _ (wT_tab 1357 rfl rfl)) (fun _ h9 => h9) hv hdg kk
set_option maxRecDepth 100000 in
theorem pf_RX12_364 {p : Program} {l : Launch} {e : Env} {R : Room} {s : State} {m : MethodId} {args : Array Value} {below : List Frame} {meth : Method} {c : Code} {H : Heap} {locs : List Loc} {cells slots : Nat} {Q : State → Prop} {cc : ByteArray} {nL pc : Nat} {D : va_G} {cI cB cZ : ClassId} {ws : va_W} {rest : List Value} {ls : Array Slot} {a : Nat} {fs : List Value} {v : Value} {A : Nat → Prop} {H0 : Heap} (S : SF p m c cc nL s args RX12) (hK : KK D cI cB cZ s) (hP : va_P D vwCl ws H) (hD : va_D A ws) (hS : va_S A H0 H locs) (q0 : Nat) (he : ws[q0]? = some (a, .inr (13, fs))) (hl : 44 < fs.length) (hn : narrow (tyX12 44) v = v) (hfit : fits (tyX12 44) v = true) (hdg : decode cc pc = .ok (.putfield 364, 3)) (kk : ∀ (H1 : Heap) (locs1 : List Loc), va_P D vwCl (ws.set q0 (a, .inr (13, fs.set 44 v))) H1 → va_D A (ws.set q0 (a, .inr (13, fs.set 44 v))) → va_S A H0 H1 locs1 → W p l e R s m args below meth c H1 locs1 cells slots Q (F0 m (pc + 3) ls rest)) : W p l e R s m args below meth c H locs cells slots Q (F0 m pc ls (v :: .ref a :: rest)) :=
  va_put (C := RX12) (T := TX12) (N := 91) S.1 S.2.1 S.2.2.2.2 hin_RX12 tyX12 tyX12_ok nmX12 S.2.2.2.1 hK.1 hP hD hS q0 he rfl 44 (by decide) (S.2.2.2.2 _ (wT_tab 1357 rfl rfl)) (fun _ h9 => h9) rfl (tyX12_ok 44 (by decide)) hn hfit hl hdg kk
set_option maxRecDepth 100000 in
theorem kV_RX12_377 : CalV RX12 377 yX12_goes cX12_goes 7 none 0 := ⟨⟨wT_tab 1801 rfl rfl, wT_tab 1803 rfl rfl, wT_sel 96 _ rfl rfl rfl, wT_tab 13 rfl rfl, wT_tab 1804 rfl rfl⟩, ⟨by decide, by decide, by decide +kernel⟩⟩
set_option maxRecDepth 100000 in
theorem pf_RX12_374 {p : Program} {l : Launch} {e : Env} {R : Room} {s : State} {m : MethodId} {args : Array Value} {below : List Frame} {meth : Method} {c : Code} {H : Heap} {locs : List Loc} {cells slots : Nat} {Q : State → Prop} {cc : ByteArray} {nL pc : Nat} {D : va_G} {cI cB cZ : ClassId} {ws : va_W} {rest : List Value} {ls : Array Slot} {a : Nat} {fs : List Value} {v : Value} {A : Nat → Prop} {H0 : Heap} (S : SF p m c cc nL s args RX12) (hK : KK D cI cB cZ s) (hP : va_P D vwCl ws H) (hD : va_D A ws) (hS : va_S A H0 H locs) (q0 : Nat) (he : ws[q0]? = some (a, .inr (13, fs))) (hl : 45 < fs.length) (hn : narrow (tyX12 45) v = v) (hfit : fits (tyX12 45) v = true) (hdg : decode cc pc = .ok (.putfield 374, 3)) (kk : ∀ (H1 : Heap) (locs1 : List Loc), va_P D vwCl (ws.set q0 (a, .inr (13, fs.set 45 v))) H1 → va_D A (ws.set q0 (a, .inr (13, fs.set 45 v))) → va_S A H0 H1 locs1 → W p l e R s m args below meth c H1 locs1 cells slots Q (F0 m (pc + 3) ls rest)) : W p l e R s m args below meth c H locs cells slots Q (F0 m pc ls (v :: .ref a :: rest)) :=
  va_put (C := RX12) (T := TX12) (N := 91) S.1 S.2.1 S.2.2.2.2 hin_RX12 tyX12 tyX12_ok nmX12 S.2.2.2.1 hK.1 hP hD hS q0 he rfl 45 (by decide) (S.2.2.2.2 _ (wT_tab 1358 rfl rfl)) (fun _ h9 => h9) rfl (tyX12_ok 45 (by decide)) hn hfit hl hdg kk
set_option maxRecDepth 100000 in
theorem kV_RX12_380 : CalV RX12 380 yX12_lays cX12_lays 5 (some .boolean) 3 := ⟨⟨wT_tab 1797 rfl rfl, wT_tab 1799 rfl rfl, wT_sel 95 _ rfl rfl rfl, wT_tab 13 rfl rfl, wT_tab 1800 rfl rfl⟩, ⟨by decide, by decide, by decide +kernel⟩⟩
set_option maxRecDepth 100000 in
theorem kV_RX12_383 : CalV RX12 383 yX12_nextOf cX12_nextOf 7 (some .int) 2 := ⟨⟨wT_tab 1817 rfl rfl, wT_tab 1819 rfl rfl, wT_sel 99 _ rfl rfl rfl, wT_tab 13 rfl rfl, wT_tab 1820 rfl rfl⟩, ⟨by decide, by decide, by decide +kernel⟩⟩
set_option maxRecDepth 100000 in
theorem gf_RX12_374 {p : Program} {l : Launch} {e : Env} {R : Room} {s : State} {m : MethodId} {args : Array Value} {below : List Frame} {meth : Method} {c : Code} {H : Heap} {locs : List Loc} {cells slots : Nat} {Q : State → Prop} {cc : ByteArray} {nL pc : Nat} {D : va_G} {cI cB cZ : ClassId} {ws : va_W} {rest : List Value} {ls : Array Slot} {a : Nat} {fs : List Value} {v : Value} (S : SF p m c cc nL s args RX12) (hK : KK D cI cB cZ s) (hP : va_P D vwCl ws H) (q0 : Nat) (he : ws[q0]? = some (a, .inr (13, fs))) (hv : fs[45]? = some v) (hdg : decode cc pc = .ok (.getfield 374, 3)) (kk : W p l e R s m args below meth c H locs cells slots Q (F0 m (pc + 3) ls (v :: rest))) : W p l e R s m args below meth c H locs cells slots Q (F0 m pc ls (.ref a :: rest)) :=
  va_get (C := RX12) (T := TX12) (N := 91) S.1 S.2.1 S.2.2.2.2 hin_RX12 S.2.2.2.1 hK.1 hP q0 he rfl 45 (by decide) (S.2.2.2.2 _ (wT_tab 1358 rfl rfl)) (fun _ h9 => h9) hv hdg kk
theorem dX12_beyond_0 : decode cX12_beyond 0 = .ok (.iload_n 1, 1) := by decide +kernel
theorem dX12_beyond_1 : decode cX12_beyond 1 = .ok (.iconst 0, 1) := by decide +kernel
theorem dX12_beyond_2 : decode cX12_beyond 2 = .ok (.bipush 6, 2) := by decide +kernel
theorem dX12_beyond_4 : decode cX12_beyond 4 = .ok (.invokestatic 214, 3) := by decide +kernel
theorem dX12_beyond_7 : decode cX12_beyond 7 = .ok (.ifCond .eq 12, 3) := by decide +kernel
theorem dX12_beyond_10 : decode cX12_beyond 10 = .ok (.iload_n 2, 1) := by decide +kernel
theorem dX12_beyond_11 : decode cX12_beyond 11 = .ok (.iconst 0, 1) := by decide +kernel
theorem dX12_beyond_12 : decode cX12_beyond 12 = .ok (.iconst 2, 1) := by decide +kernel
theorem dX12_beyond_13 : decode cX12_beyond 13 = .ok (.invokestatic 214, 3) := by decide +kernel
theorem dX12_beyond_16 : decode cX12_beyond 16 = .ok (.ifCond .ne 7, 3) := by decide +kernel
theorem dX12_beyond_23 : decode cX12_beyond 23 = .ok (.iconst 0, 1) := by decide +kernel
theorem dX12_beyond_24 : decode cX12_beyond 24 = .ok (.istore_n 3, 1) := by decide +kernel
theorem dX12_beyond_25 : decode cX12_beyond 25 = .ok (.iconst 0, 1) := by decide +kernel
theorem dX12_beyond_26 : decode cX12_beyond 26 = .ok (.istore 4, 2) := by decide +kernel
theorem dX12_beyond_28 : decode cX12_beyond 28 = .ok (.iconst 0, 1) := by decide +kernel
theorem dX12_beyond_29 : decode cX12_beyond 29 = .ok (.istore 5, 2) := by decide +kernel
theorem dX12_beyond_31 : decode cX12_beyond 31 = .ok (.iload 5, 2) := by decide +kernel
theorem dX12_beyond_33 : decode cX12_beyond 33 = .ok (.aload_n 0, 1) := by decide +kernel
theorem dX12_beyond_34 : decode cX12_beyond 34 = .ok (.getfield 208, 3) := by decide +kernel
theorem dX12_beyond_37 : decode cX12_beyond 37 = .ok (.if_icmp .ge 50, 3) := by decide +kernel
theorem dX12_beyond_87 : decode cX12_beyond 87 = .ok (.aload_n 0, 1) := by decide +kernel
theorem dX12_beyond_88 : decode cX12_beyond 88 = .ok (.aload_n 0, 1) := by decide +kernel
theorem dX12_beyond_89 : decode cX12_beyond 89 = .ok (.invokevirtual 350, 3) := by decide +kernel
theorem dX12_beyond_92 : decode cX12_beyond 92 = .ok (.iload_n 3, 1) := by decide +kernel
theorem dX12_beyond_93 : decode cX12_beyond 93 = .ok (.iload 4, 2) := by decide +kernel
theorem dX12_beyond_95 : decode cX12_beyond 95 = .ok (.iload_n 2, 1) := by decide +kernel
theorem dX12_beyond_96 : decode cX12_beyond 96 = .ok (.invokevirtual 353, 3) := by decide +kernel
theorem dX12_beyond_99 : decode cX12_beyond 99 = .ok (.lreturn, 1) := by decide +kernel
theorem dX12_beyond_19 : decode cX12_beyond 19 = .ok (.ldc2_w 348, 3) := by decide +kernel
theorem dX12_beyond_22 : decode cX12_beyond 22 = .ok (.lreturn, 1) := by decide +kernel
theorem dX12_streets_0 : decode cX12_streets 0 = .ok (.iload_n 1, 1) := by decide +kernel
theorem dX12_streets_1 : decode cX12_streets 1 = .ok (.iconst 0, 1) := by decide +kernel
theorem dX12_streets_2 : decode cX12_streets 2 = .ok (.bipush 9, 2) := by decide +kernel
theorem dX12_streets_4 : decode cX12_streets 4 = .ok (.invokestatic 214, 3) := by decide +kernel
theorem dX12_streets_7 : decode cX12_streets 7 = .ok (.ifCond .eq 12, 3) := by decide +kernel
theorem dX12_streets_10 : decode cX12_streets 10 = .ok (.iload_n 2, 1) := by decide +kernel
theorem dX12_streets_11 : decode cX12_streets 11 = .ok (.iconst 0, 1) := by decide +kernel
theorem dX12_streets_12 : decode cX12_streets 12 = .ok (.iconst 2, 1) := by decide +kernel
theorem dX12_streets_13 : decode cX12_streets 13 = .ok (.invokestatic 214, 3) := by decide +kernel
theorem dX12_streets_16 : decode cX12_streets 16 = .ok (.ifCond .ne 7, 3) := by decide +kernel
theorem dX12_streets_23 : decode cX12_streets 23 = .ok (.iconst 0, 1) := by decide +kernel
theorem dX12_streets_24 : decode cX12_streets 24 = .ok (.istore_n 3, 1) := by decide +kernel
theorem dX12_streets_25 : decode cX12_streets 25 = .ok (.iconst 0, 1) := by decide +kernel
theorem dX12_streets_26 : decode cX12_streets 26 = .ok (.istore 4, 2) := by decide +kernel
theorem dX12_streets_28 : decode cX12_streets 28 = .ok (.iconst 0, 1) := by decide +kernel
theorem dX12_streets_29 : decode cX12_streets 29 = .ok (.istore 5, 2) := by decide +kernel
theorem dX12_streets_31 : decode cX12_streets 31 = .ok (.iload 5, 2) := by decide +kernel
theorem dX12_streets_33 : decode cX12_streets 33 = .ok (.aload_n 0, 1) := by decide +kernel
theorem dX12_streets_34 : decode cX12_streets 34 = .ok (.getfield 208, 3) := by decide +kernel
theorem dX12_streets_37 : decode cX12_streets 37 = .ok (.if_icmp .ge 52, 3) := by decide +kernel
theorem dX12_streets_89 : decode cX12_streets 89 = .ok (.aload_n 0, 1) := by decide +kernel
theorem dX12_streets_90 : decode cX12_streets 90 = .ok (.aload_n 0, 1) := by decide +kernel
theorem dX12_streets_91 : decode cX12_streets 91 = .ok (.invokevirtual 350, 3) := by decide +kernel
theorem dX12_streets_94 : decode cX12_streets 94 = .ok (.iload_n 3, 1) := by decide +kernel
theorem dX12_streets_95 : decode cX12_streets 95 = .ok (.iload 4, 2) := by decide +kernel
theorem dX12_streets_97 : decode cX12_streets 97 = .ok (.iload_n 2, 1) := by decide +kernel
theorem dX12_streets_98 : decode cX12_streets 98 = .ok (.invokevirtual 353, 3) := by decide +kernel
theorem dX12_streets_101 : decode cX12_streets 101 = .ok (.lreturn, 1) := by decide +kernel
theorem dX12_streets_19 : decode cX12_streets 19 = .ok (.ldc2_w 348, 3) := by decide +kernel
theorem dX12_streets_22 : decode cX12_streets 22 = .ok (.lreturn, 1) := by decide +kernel
theorem dX12_price_0 : decode cX12_price 0 = .ok (.iload_n 1, 1) := by decide +kernel
theorem dX12_price_1 : decode cX12_price 1 = .ok (.iconst 0, 1) := by decide +kernel
theorem dX12_price_2 : decode cX12_price 2 = .ok (.bipush 57, 2) := by decide +kernel
theorem dX12_price_4 : decode cX12_price 4 = .ok (.invokestatic 214, 3) := by decide +kernel
theorem dX12_price_7 : decode cX12_price 7 = .ok (.ifCond .eq 14, 3) := by decide +kernel
theorem dX12_price_10 : decode cX12_price 10 = .ok (.iload_n 2, 1) := by decide +kernel
theorem dX12_price_11 : decode cX12_price 11 = .ok (.iconst 0, 1) := by decide +kernel
theorem dX12_price_12 : decode cX12_price 12 = .ok (.sipush 1000, 3) := by decide +kernel
theorem dX12_price_15 : decode cX12_price 15 = .ok (.invokestatic 214, 3) := by decide +kernel
theorem dX12_price_18 : decode cX12_price 18 = .ok (.ifCond .ne 5, 3) := by decide +kernel
theorem dX12_price_23 : decode cX12_price 23 = .ok (.aload_n 0, 1) := by decide +kernel
theorem dX12_price_24 : decode cX12_price 24 = .ok (.getfield 92, 3) := by decide +kernel
theorem dX12_price_27 : decode cX12_price 27 = .ok (.iload_n 1, 1) := by decide +kernel
theorem dX12_price_28 : decode cX12_price 28 = .ok (.iload_n 2, 1) := by decide +kernel
theorem dX12_price_29 : decode cX12_price 29 = .ok (.iastore, 1) := by decide +kernel
theorem dX12_price_30 : decode cX12_price 30 = .ok (.iconst 1, 1) := by decide +kernel
theorem dX12_price_31 : decode cX12_price 31 = .ok (.ireturn, 1) := by decide +kernel
theorem dX12_price_21 : decode cX12_price 21 = .ok (.iconst 0, 1) := by decide +kernel
theorem dX12_price_22 : decode cX12_price 22 = .ok (.ireturn, 1) := by decide +kernel
theorem dX12_thefts_0 : decode cX12_thefts 0 = .ok (.iload_n 1, 1) := by decide +kernel
theorem dX12_thefts_1 : decode cX12_thefts 1 = .ok (.iconst 0, 1) := by decide +kernel
theorem dX12_thefts_2 : decode cX12_thefts 2 = .ok (.bipush 23, 2) := by decide +kernel
theorem dX12_thefts_4 : decode cX12_thefts 4 = .ok (.invokestatic 214, 3) := by decide +kernel
theorem dX12_thefts_7 : decode cX12_thefts 7 = .ok (.ifCond .eq 14, 3) := by decide +kernel
theorem dX12_thefts_10 : decode cX12_thefts 10 = .ok (.iload_n 2, 1) := by decide +kernel
theorem dX12_thefts_11 : decode cX12_thefts 11 = .ok (.iconst 0, 1) := by decide +kernel
theorem dX12_thefts_12 : decode cX12_thefts 12 = .ok (.sipush 1000, 3) := by decide +kernel
theorem dX12_thefts_15 : decode cX12_thefts 15 = .ok (.invokestatic 214, 3) := by decide +kernel
theorem dX12_thefts_18 : decode cX12_thefts 18 = .ok (.ifCond .ne 5, 3) := by decide +kernel
theorem dX12_thefts_23 : decode cX12_thefts 23 = .ok (.aload_n 0, 1) := by decide +kernel
theorem dX12_thefts_24 : decode cX12_thefts 24 = .ok (.getfield 189, 3) := by decide +kernel
theorem dX12_thefts_27 : decode cX12_thefts 27 = .ok (.iload_n 1, 1) := by decide +kernel
theorem dX12_thefts_28 : decode cX12_thefts 28 = .ok (.iload_n 2, 1) := by decide +kernel
theorem dX12_thefts_29 : decode cX12_thefts 29 = .ok (.iastore, 1) := by decide +kernel
theorem dX12_thefts_30 : decode cX12_thefts 30 = .ok (.iconst 1, 1) := by decide +kernel
theorem dX12_thefts_31 : decode cX12_thefts 31 = .ok (.ireturn, 1) := by decide +kernel
theorem dX12_thefts_21 : decode cX12_thefts 21 = .ok (.iconst 0, 1) := by decide +kernel
theorem dX12_thefts_22 : decode cX12_thefts 22 = .ok (.ireturn, 1) := by decide +kernel
theorem dX12_degrees_0 : decode cX12_degrees 0 = .ok (.iload_n 1, 1) := by decide +kernel
theorem dX12_degrees_1 : decode cX12_degrees 1 = .ok (.invokestatic 341, 3) := by decide +kernel
theorem dX12_degrees_4 : decode cX12_degrees 4 = .ok (.ifCond .eq 14, 3) := by decide +kernel
theorem dX12_degrees_7 : decode cX12_degrees 7 = .ok (.iload_n 2, 1) := by decide +kernel
theorem dX12_degrees_8 : decode cX12_degrees 8 = .ok (.bipush (-40), 2) := by decide +kernel
theorem dX12_degrees_10 : decode cX12_degrees 10 = .ok (.bipush 40, 2) := by decide +kernel
theorem dX12_degrees_12 : decode cX12_degrees 12 = .ok (.invokestatic 214, 3) := by decide +kernel
theorem dX12_degrees_15 : decode cX12_degrees 15 = .ok (.ifCond .ne 5, 3) := by decide +kernel
theorem dX12_degrees_20 : decode cX12_degrees 20 = .ok (.aload_n 0, 1) := by decide +kernel
theorem dX12_degrees_21 : decode cX12_degrees 21 = .ok (.getfield 201, 3) := by decide +kernel
theorem dX12_degrees_24 : decode cX12_degrees 24 = .ok (.iload_n 1, 1) := by decide +kernel
theorem dX12_degrees_25 : decode cX12_degrees 25 = .ok (.iload_n 2, 1) := by decide +kernel
theorem dX12_degrees_26 : decode cX12_degrees 26 = .ok (.iastore, 1) := by decide +kernel
theorem dX12_degrees_27 : decode cX12_degrees 27 = .ok (.iconst 1, 1) := by decide +kernel
theorem dX12_degrees_28 : decode cX12_degrees 28 = .ok (.ireturn, 1) := by decide +kernel
theorem dX12_degrees_18 : decode cX12_degrees 18 = .ok (.iconst 0, 1) := by decide +kernel
theorem dX12_degrees_19 : decode cX12_degrees 19 = .ok (.ireturn, 1) := by decide +kernel
theorem dX12_feast_0 : decode cX12_feast 0 = .ok (.iload_n 1, 1) := by decide +kernel
theorem dX12_feast_1 : decode cX12_feast 1 = .ok (.invokestatic 341, 3) := by decide +kernel
theorem dX12_feast_4 : decode cX12_feast 4 = .ok (.ifCond .eq 14, 3) := by decide +kernel
theorem dX12_feast_7 : decode cX12_feast 7 = .ok (.iload_n 2, 1) := by decide +kernel
theorem dX12_feast_8 : decode cX12_feast 8 = .ok (.iconst 0, 1) := by decide +kernel
theorem dX12_feast_9 : decode cX12_feast 9 = .ok (.sipush 300, 3) := by decide +kernel
theorem dX12_feast_12 : decode cX12_feast 12 = .ok (.invokestatic 214, 3) := by decide +kernel
theorem dX12_feast_15 : decode cX12_feast 15 = .ok (.ifCond .ne 5, 3) := by decide +kernel
theorem dX12_feast_20 : decode cX12_feast 20 = .ok (.aload_n 0, 1) := by decide +kernel
theorem dX12_feast_21 : decode cX12_feast 21 = .ok (.getfield 98, 3) := by decide +kernel
theorem dX12_feast_24 : decode cX12_feast 24 = .ok (.iload_n 1, 1) := by decide +kernel
theorem dX12_feast_25 : decode cX12_feast 25 = .ok (.iload_n 2, 1) := by decide +kernel
theorem dX12_feast_26 : decode cX12_feast 26 = .ok (.iastore, 1) := by decide +kernel
theorem dX12_feast_27 : decode cX12_feast 27 = .ok (.iconst 1, 1) := by decide +kernel
theorem dX12_feast_28 : decode cX12_feast 28 = .ok (.ireturn, 1) := by decide +kernel
theorem dX12_feast_18 : decode cX12_feast 18 = .ok (.iconst 0, 1) := by decide +kernel
theorem dX12_feast_19 : decode cX12_feast 19 = .ok (.ireturn, 1) := by decide +kernel
theorem dX12_use_0 : decode cX12_use 0 = .ok (.iload_n 1, 1) := by decide +kernel
theorem dX12_use_1 : decode cX12_use 1 = .ok (.iconst 0, 1) := by decide +kernel
theorem dX12_use_2 : decode cX12_use 2 = .ok (.bipush 9, 2) := by decide +kernel
theorem dX12_use_4 : decode cX12_use 4 = .ok (.invokestatic 214, 3) := by decide +kernel
theorem dX12_use_7 : decode cX12_use 7 = .ok (.ifCond .eq 12, 3) := by decide +kernel
theorem dX12_use_10 : decode cX12_use 10 = .ok (.iload_n 2, 1) := by decide +kernel
theorem dX12_use_11 : decode cX12_use 11 = .ok (.iconst 0, 1) := by decide +kernel
theorem dX12_use_12 : decode cX12_use 12 = .ok (.iconst 3, 1) := by decide +kernel
theorem dX12_use_13 : decode cX12_use 13 = .ok (.invokestatic 214, 3) := by decide +kernel
theorem dX12_use_16 : decode cX12_use 16 = .ok (.ifCond .ne 5, 3) := by decide +kernel
theorem dX12_use_21 : decode cX12_use 21 = .ok (.aload_n 0, 1) := by decide +kernel
theorem dX12_use_22 : decode cX12_use 22 = .ok (.getfield 162, 3) := by decide +kernel
theorem dX12_use_25 : decode cX12_use 25 = .ok (.iload_n 1, 1) := by decide +kernel
theorem dX12_use_26 : decode cX12_use 26 = .ok (.iload_n 2, 1) := by decide +kernel
theorem dX12_use_27 : decode cX12_use 27 = .ok (.iastore, 1) := by decide +kernel
theorem dX12_use_28 : decode cX12_use 28 = .ok (.iconst 1, 1) := by decide +kernel
theorem dX12_use_29 : decode cX12_use 29 = .ok (.ireturn, 1) := by decide +kernel
theorem dX12_use_19 : decode cX12_use 19 = .ok (.iconst 0, 1) := by decide +kernel
theorem dX12_use_20 : decode cX12_use 20 = .ok (.ireturn, 1) := by decide +kernel
theorem dX12_most_0 : decode cX12_most 0 = .ok (.iload_n 1, 1) := by decide +kernel
theorem dX12_most_1 : decode cX12_most 1 = .ok (.iconst 0, 1) := by decide +kernel
theorem dX12_most_2 : decode cX12_most 2 = .ok (.bipush 9, 2) := by decide +kernel
theorem dX12_most_4 : decode cX12_most 4 = .ok (.invokestatic 214, 3) := by decide +kernel
theorem dX12_most_7 : decode cX12_most 7 = .ok (.ifCond .eq 14, 3) := by decide +kernel
theorem dX12_most_10 : decode cX12_most 10 = .ok (.iload_n 2, 1) := by decide +kernel
theorem dX12_most_11 : decode cX12_most 11 = .ok (.iconst 0, 1) := by decide +kernel
theorem dX12_most_12 : decode cX12_most 12 = .ok (.ldc_w 334, 3) := by decide +kernel
theorem dX12_most_15 : decode cX12_most 15 = .ok (.invokestatic 214, 3) := by decide +kernel
theorem dX12_most_18 : decode cX12_most 18 = .ok (.ifCond .ne 5, 3) := by decide +kernel
theorem dX12_most_23 : decode cX12_most 23 = .ok (.aload_n 0, 1) := by decide +kernel
theorem dX12_most_24 : decode cX12_most 24 = .ok (.getfield 168, 3) := by decide +kernel
theorem dX12_most_27 : decode cX12_most 27 = .ok (.iload_n 1, 1) := by decide +kernel
theorem dX12_most_28 : decode cX12_most 28 = .ok (.iload_n 2, 1) := by decide +kernel
theorem dX12_most_29 : decode cX12_most 29 = .ok (.iastore, 1) := by decide +kernel
theorem dX12_most_30 : decode cX12_most 30 = .ok (.iconst 1, 1) := by decide +kernel
theorem dX12_most_31 : decode cX12_most 31 = .ok (.ireturn, 1) := by decide +kernel
theorem dX12_most_21 : decode cX12_most 21 = .ok (.iconst 0, 1) := by decide +kernel
theorem dX12_most_22 : decode cX12_most 22 = .ok (.ireturn, 1) := by decide +kernel
theorem dX12_rate_0 : decode cX12_rate 0 = .ok (.iload_n 1, 1) := by decide +kernel
theorem dX12_rate_1 : decode cX12_rate 1 = .ok (.iconst 0, 1) := by decide +kernel
theorem dX12_rate_2 : decode cX12_rate 2 = .ok (.iconst 3, 1) := by decide +kernel
theorem dX12_rate_3 : decode cX12_rate 3 = .ok (.invokestatic 214, 3) := by decide +kernel
theorem dX12_rate_6 : decode cX12_rate 6 = .ok (.ifCond .eq 24, 3) := by decide +kernel
theorem dX12_rate_9 : decode cX12_rate 9 = .ok (.iload_n 2, 1) := by decide +kernel
theorem dX12_rate_10 : decode cX12_rate 10 = .ok (.iconst 0, 1) := by decide +kernel
theorem dX12_rate_11 : decode cX12_rate 11 = .ok (.bipush 57, 2) := by decide +kernel
theorem dX12_rate_13 : decode cX12_rate 13 = .ok (.invokestatic 214, 3) := by decide +kernel
theorem dX12_rate_16 : decode cX12_rate 16 = .ok (.ifCond .eq 14, 3) := by decide +kernel
theorem dX12_rate_19 : decode cX12_rate 19 = .ok (.iload_n 3, 1) := by decide +kernel
theorem dX12_rate_20 : decode cX12_rate 20 = .ok (.iconst 0, 1) := by decide +kernel
theorem dX12_rate_21 : decode cX12_rate 21 = .ok (.sipush 1000, 3) := by decide +kernel
theorem dX12_rate_24 : decode cX12_rate 24 = .ok (.invokestatic 214, 3) := by decide +kernel
theorem dX12_rate_27 : decode cX12_rate 27 = .ok (.ifCond .ne 5, 3) := by decide +kernel
theorem dX12_rate_32 : decode cX12_rate 32 = .ok (.aload_n 0, 1) := by decide +kernel
theorem dX12_rate_33 : decode cX12_rate 33 = .ok (.getfield 165, 3) := by decide +kernel
theorem dX12_rate_36 : decode cX12_rate 36 = .ok (.bipush 58, 2) := by decide +kernel
theorem dX12_rate_38 : decode cX12_rate 38 = .ok (.iload_n 1, 1) := by decide +kernel
theorem dX12_rate_39 : decode cX12_rate 39 = .ok (.imul, 1) := by decide +kernel
theorem dX12_rate_40 : decode cX12_rate 40 = .ok (.iload_n 2, 1) := by decide +kernel
theorem dX12_rate_41 : decode cX12_rate 41 = .ok (.iadd, 1) := by decide +kernel
theorem dX12_rate_42 : decode cX12_rate 42 = .ok (.iload_n 3, 1) := by decide +kernel
theorem dX12_rate_43 : decode cX12_rate 43 = .ok (.iastore, 1) := by decide +kernel
theorem dX12_rate_44 : decode cX12_rate 44 = .ok (.iconst 1, 1) := by decide +kernel
theorem dX12_rate_45 : decode cX12_rate 45 = .ok (.ireturn, 1) := by decide +kernel
theorem dX12_rate_30 : decode cX12_rate 30 = .ok (.iconst 0, 1) := by decide +kernel
theorem dX12_rate_31 : decode cX12_rate 31 = .ok (.ireturn, 1) := by decide +kernel
theorem dX12_types_0 : decode cX12_types 0 = .ok (.iconst 3, 1) := by decide +kernel
theorem dX12_types_1 : decode cX12_types 1 = .ok (.istore_n 2, 1) := by decide +kernel
theorem dX12_types_2 : decode cX12_types 2 = .ok (.iload_n 2, 1) := by decide +kernel
theorem dX12_types_3 : decode cX12_types 3 = .ok (.ifCond .lt 35, 3) := by decide +kernel
theorem dX12_types_6 : decode cX12_types 6 = .ok (.aload_n 0, 1) := by decide +kernel
theorem dX12_types_7 : decode cX12_types 7 = .ok (.getfield 52, 3) := by decide +kernel
theorem dX12_types_10 : decode cX12_types 10 = .ok (.aload_n 0, 1) := by decide +kernel
theorem dX12_types_11 : decode cX12_types 11 = .ok (.getfield 226, 3) := by decide +kernel
theorem dX12_types_14 : decode cX12_types 14 = .ok (.iload_n 1, 1) := by decide +kernel
theorem dX12_types_15 : decode cX12_types 15 = .ok (.bipush 8, 2) := by decide +kernel
theorem dX12_types_17 : decode cX12_types 17 = .ok (.iload_n 2, 1) := by decide +kernel
theorem dX12_types_18 : decode cX12_types 18 = .ok (.imul, 1) := by decide +kernel
theorem dX12_types_19 : decode cX12_types 19 = .ok (.ishr, 1) := by decide +kernel
theorem dX12_types_20 : decode cX12_types 20 = .ok (.i2b, 1) := by decide +kernel
theorem dX12_types_21 : decode cX12_types 21 = .ok (.bastore, 1) := by decide +kernel
theorem dX12_types_22 : decode cX12_types 22 = .ok (.aload_n 0, 1) := by decide +kernel
theorem dX12_types_23 : decode cX12_types 23 = .ok (.aload_n 0, 1) := by decide +kernel
theorem dX12_types_24 : decode cX12_types 24 = .ok (.getfield 226, 3) := by decide +kernel
theorem dX12_types_27 : decode cX12_types 27 = .ok (.iconst 1, 1) := by decide +kernel
theorem dX12_types_28 : decode cX12_types 28 = .ok (.iadd, 1) := by decide +kernel
theorem dX12_types_29 : decode cX12_types 29 = .ok (.putfield 226, 3) := by decide +kernel
theorem dX12_types_32 : decode cX12_types 32 = .ok (.iinc 2 (-1), 3) := by decide +kernel
theorem dX12_types_35 : decode cX12_types 35 = .ok (.goto (-33), 3) := by decide +kernel
theorem dX12_types_38 : decode cX12_types 38 = .ok (.return_, 1) := by decide +kernel
theorem dX12_feed_0 : decode cX12_feed 0 = .ok (.aload_n 0, 1) := by decide +kernel
theorem dX12_feed_1 : decode cX12_feed 1 = .ok (.getfield 226, 3) := by decide +kernel
theorem dX12_feed_4 : decode cX12_feed 4 = .ok (.bipush 20, 2) := by decide +kernel
theorem dX12_feed_6 : decode cX12_feed 6 = .ok (.iadd, 1) := by decide +kernel
theorem dX12_feed_7 : decode cX12_feed 7 = .ok (.sipush 200, 3) := by decide +kernel
theorem dX12_feed_10 : decode cX12_feed 10 = .ok (.if_icmp .le 5, 3) := by decide +kernel
theorem dX12_feed_15 : decode cX12_feed 15 = .ok (.aload_n 0, 1) := by decide +kernel
theorem dX12_feed_16 : decode cX12_feed 16 = .ok (.iload_n 1, 1) := by decide +kernel
theorem dX12_feed_17 : decode cX12_feed 17 = .ok (.invokevirtual 229, 3) := by decide +kernel
theorem dX12_feed_20 : decode cX12_feed 20 = .ok (.aload_n 0, 1) := by decide +kernel
theorem dX12_feed_21 : decode cX12_feed 21 = .ok (.iload_n 2, 1) := by decide +kernel
theorem dX12_feed_22 : decode cX12_feed 22 = .ok (.invokevirtual 229, 3) := by decide +kernel
theorem dX12_feed_25 : decode cX12_feed 25 = .ok (.aload_n 0, 1) := by decide +kernel
theorem dX12_feed_26 : decode cX12_feed 26 = .ok (.iload_n 3, 1) := by decide +kernel
theorem dX12_feed_27 : decode cX12_feed 27 = .ok (.invokevirtual 229, 3) := by decide +kernel
theorem dX12_feed_30 : decode cX12_feed 30 = .ok (.aload_n 0, 1) := by decide +kernel
theorem dX12_feed_31 : decode cX12_feed 31 = .ok (.iload 4, 2) := by decide +kernel
theorem dX12_feed_33 : decode cX12_feed 33 = .ok (.invokevirtual 229, 3) := by decide +kernel
theorem dX12_feed_36 : decode cX12_feed 36 = .ok (.aload_n 0, 1) := by decide +kernel
theorem dX12_feed_37 : decode cX12_feed 37 = .ok (.iload 5, 2) := by decide +kernel
theorem dX12_feed_39 : decode cX12_feed 39 = .ok (.invokevirtual 229, 3) := by decide +kernel
theorem dX12_feed_42 : decode cX12_feed 42 = .ok (.aload_n 0, 1) := by decide +kernel
theorem dX12_feed_43 : decode cX12_feed 43 = .ok (.getfield 226, 3) := by decide +kernel
theorem dX12_feed_46 : decode cX12_feed 46 = .ok (.ireturn, 1) := by decide +kernel
theorem dX12_goes_0 : decode cX12_goes 0 = .ok (.iconst 1, 1) := by decide +kernel
theorem dX12_goes_1 : decode cX12_goes 1 = .ok (.aload_n 0, 1) := by decide +kernel
theorem dX12_goes_2 : decode cX12_goes 2 = .ok (.getfield 364, 3) := by decide +kernel
theorem dX12_goes_5 : decode cX12_goes 5 = .ok (.ishl, 1) := by decide +kernel
theorem dX12_goes_6 : decode cX12_goes 6 = .ok (.iconst 1, 1) := by decide +kernel
theorem dX12_goes_7 : decode cX12_goes 7 = .ok (.isub, 1) := by decide +kernel
theorem dX12_goes_8 : decode cX12_goes 8 = .ok (.istore_n 1, 1) := by decide +kernel
theorem dX12_goes_9 : decode cX12_goes 9 = .ok (.iconst 0, 1) := by decide +kernel
theorem dX12_goes_10 : decode cX12_goes 10 = .ok (.istore_n 2, 1) := by decide +kernel
theorem dX12_goes_11 : decode cX12_goes 11 = .ok (.iload_n 2, 1) := by decide +kernel
theorem dX12_goes_12 : decode cX12_goes 12 = .ok (.iload_n 1, 1) := by decide +kernel
theorem dX12_goes_13 : decode cX12_goes 13 = .ok (.if_icmp .gt 145, 3) := by decide +kernel
theorem dX12_goes_16 : decode cX12_goes 16 = .ok (.iconst 0, 1) := by decide +kernel
theorem dX12_goes_17 : decode cX12_goes 17 = .ok (.istore_n 3, 1) := by decide +kernel
theorem dX12_goes_18 : decode cX12_goes 18 = .ok (.iload_n 3, 1) := by decide +kernel
theorem dX12_goes_19 : decode cX12_goes 19 = .ok (.aload_n 0, 1) := by decide +kernel
theorem dX12_goes_20 : decode cX12_goes 20 = .ok (.getfield 364, 3) := by decide +kernel
theorem dX12_goes_23 : decode cX12_goes 23 = .ok (.if_icmp .ge 129, 3) := by decide +kernel
theorem dX12_goes_152 : decode cX12_goes 152 = .ok (.iinc 2 1, 3) := by decide +kernel
theorem dX12_goes_155 : decode cX12_goes 155 = .ok (.goto (-144), 3) := by decide +kernel
theorem dX12_goes_158 : decode cX12_goes 158 = .ok (.return_, 1) := by decide +kernel
theorem dX12_lays_0 : decode cX12_lays 0 = .ok (.aload_n 0, 1) := by decide +kernel
theorem dX12_lays_1 : decode cX12_lays 1 = .ok (.iconst 0, 1) := by decide +kernel
theorem dX12_lays_2 : decode cX12_lays 2 = .ok (.putfield 364, 3) := by decide +kernel
theorem dX12_lays_5 : decode cX12_lays 5 = .ok (.iconst 0, 1) := by decide +kernel
theorem dX12_lays_6 : decode cX12_lays 6 = .ok (.istore 4, 2) := by decide +kernel
theorem dX12_lays_8 : decode cX12_lays 8 = .ok (.iload 4, 2) := by decide +kernel
theorem dX12_lays_10 : decode cX12_lays 10 = .ok (.aload_n 0, 1) := by decide +kernel
theorem dX12_lays_11 : decode cX12_lays 11 = .ok (.getfield 204, 3) := by decide +kernel
theorem dX12_lays_14 : decode cX12_lays 14 = .ok (.if_icmp .ge 57, 3) := by decide +kernel
theorem dX12_lays_71 : decode cX12_lays 71 = .ok (.aload_n 0, 1) := by decide +kernel
theorem dX12_lays_72 : decode cX12_lays 72 = .ok (.getfield 364, 3) := by decide +kernel
theorem dX12_lays_75 : decode cX12_lays 75 = .ok (.iload_n 3, 1) := by decide +kernel
theorem dX12_lays_76 : decode cX12_lays 76 = .ok (.if_icmp .le 5, 3) := by decide +kernel
theorem dX12_lays_81 : decode cX12_lays 81 = .ok (.aload_n 0, 1) := by decide +kernel
theorem dX12_lays_82 : decode cX12_lays 82 = .ok (.invokevirtual 377, 3) := by decide +kernel
theorem dX12_lays_85 : decode cX12_lays 85 = .ok (.iconst 1, 1) := by decide +kernel
theorem dX12_lays_86 : decode cX12_lays 86 = .ok (.ireturn, 1) := by decide +kernel
theorem dX12_nextOf_0 : decode cX12_nextOf 0 = .ok (.iconst (-1), 1) := by decide +kernel
theorem dX12_nextOf_1 : decode cX12_nextOf 1 = .ok (.istore_n 3, 1) := by decide +kernel
theorem dX12_nextOf_2 : decode cX12_nextOf 2 = .ok (.iconst 0, 1) := by decide +kernel
theorem dX12_nextOf_3 : decode cX12_nextOf 3 = .ok (.istore 4, 2) := by decide +kernel
theorem dX12_nextOf_5 : decode cX12_nextOf 5 = .ok (.iconst 0, 1) := by decide +kernel
theorem dX12_nextOf_6 : decode cX12_nextOf 6 = .ok (.istore 5, 2) := by decide +kernel
theorem dX12_nextOf_8 : decode cX12_nextOf 8 = .ok (.iload 5, 2) := by decide +kernel
theorem dX12_nextOf_10 : decode cX12_nextOf 10 = .ok (.aload_n 0, 1) := by decide +kernel
theorem dX12_nextOf_11 : decode cX12_nextOf 11 = .ok (.getfield 364, 3) := by decide +kernel
theorem dX12_nextOf_14 : decode cX12_nextOf 14 = .ok (.if_icmp .ge 101, 3) := by decide +kernel
theorem dX12_nextOf_115 : decode cX12_nextOf 115 = .ok (.aload_n 0, 1) := by decide +kernel
theorem dX12_nextOf_116 : decode cX12_nextOf 116 = .ok (.iload_n 3, 1) := by decide +kernel
theorem dX12_nextOf_117 : decode cX12_nextOf 117 = .ok (.iconst (-1), 1) := by decide +kernel
theorem dX12_nextOf_118 : decode cX12_nextOf 118 = .ok (.if_icmp .ne 7, 3) := by decide +kernel
theorem dX12_nextOf_121 : decode cX12_nextOf 121 = .ok (.iconst 0, 1) := by decide +kernel
theorem dX12_nextOf_122 : decode cX12_nextOf 122 = .ok (.goto 5, 3) := by decide +kernel
theorem dX12_nextOf_127 : decode cX12_nextOf 127 = .ok (.putfield 374, 3) := by decide +kernel
theorem dX12_nextOf_130 : decode cX12_nextOf 130 = .ok (.iload_n 3, 1) := by decide +kernel
theorem dX12_nextOf_131 : decode cX12_nextOf 131 = .ok (.ireturn, 1) := by decide +kernel
theorem dX12_round_0 : decode cX12_round 0 = .ok (.iload_n 1, 1) := by decide +kernel
theorem dX12_round_1 : decode cX12_round 1 = .ok (.invokestatic 341, 3) := by decide +kernel
theorem dX12_round_4 : decode cX12_round 4 = .ok (.ifCond .eq 19, 3) := by decide +kernel
theorem dX12_round_7 : decode cX12_round 7 = .ok (.iload_n 2, 1) := by decide +kernel
theorem dX12_round_8 : decode cX12_round 8 = .ok (.iconst 1, 1) := by decide +kernel
theorem dX12_round_9 : decode cX12_round 9 = .ok (.sipush 400, 3) := by decide +kernel
theorem dX12_round_12 : decode cX12_round 12 = .ok (.invokestatic 214, 3) := by decide +kernel
theorem dX12_round_15 : decode cX12_round 15 = .ok (.ifCond .eq 8, 3) := by decide +kernel
theorem dX12_round_18 : decode cX12_round 18 = .ok (.iload_n 3, 1) := by decide +kernel
theorem dX12_round_19 : decode cX12_round 19 = .ok (.iconst (-1), 1) := by decide +kernel
theorem dX12_round_20 : decode cX12_round 20 = .ok (.if_icmp .ge 5, 3) := by decide +kernel
theorem dX12_round_25 : decode cX12_round 25 = .ok (.aload_n 0, 1) := by decide +kernel
theorem dX12_round_26 : decode cX12_round 26 = .ok (.iload_n 1, 1) := by decide +kernel
theorem dX12_round_27 : decode cX12_round 27 = .ok (.iload_n 2, 1) := by decide +kernel
theorem dX12_round_28 : decode cX12_round 28 = .ok (.bipush 8, 2) := by decide +kernel
theorem dX12_round_30 : decode cX12_round 30 = .ok (.invokevirtual 380, 3) := by decide +kernel
theorem dX12_round_33 : decode cX12_round 33 = .ok (.ifCond .ne 6, 3) := by decide +kernel
theorem dX12_round_39 : decode cX12_round 39 = .ok (.aload_n 0, 1) := by decide +kernel
theorem dX12_round_40 : decode cX12_round 40 = .ok (.getfield 364, 3) := by decide +kernel
theorem dX12_round_43 : decode cX12_round 43 = .ok (.istore 4, 2) := by decide +kernel
theorem dX12_round_45 : decode cX12_round 45 = .ok (.iconst 1, 1) := by decide +kernel
theorem dX12_round_46 : decode cX12_round 46 = .ok (.iload 4, 2) := by decide +kernel
theorem dX12_round_48 : decode cX12_round 48 = .ok (.ishl, 1) := by decide +kernel
theorem dX12_round_49 : decode cX12_round 49 = .ok (.iconst 1, 1) := by decide +kernel
theorem dX12_round_50 : decode cX12_round 50 = .ok (.isub, 1) := by decide +kernel
theorem dX12_round_51 : decode cX12_round 51 = .ok (.istore 5, 2) := by decide +kernel
theorem dX12_round_53 : decode cX12_round 53 = .ok (.aload_n 0, 1) := by decide +kernel
theorem dX12_round_54 : decode cX12_round 54 = .ok (.iconst (-1), 1) := by decide +kernel
theorem dX12_round_55 : decode cX12_round 55 = .ok (.iload 5, 2) := by decide +kernel
theorem dX12_round_57 : decode cX12_round 57 = .ok (.invokevirtual 383, 3) := by decide +kernel
theorem dX12_round_60 : decode cX12_round 60 = .ok (.istore 6, 2) := by decide +kernel
theorem dX12_round_62 : decode cX12_round 62 = .ok (.iload_n 3, 1) := by decide +kernel
theorem dX12_round_63 : decode cX12_round 63 = .ok (.iconst (-1), 1) := by decide +kernel
theorem dX12_round_64 : decode cX12_round 64 = .ok (.if_icmp .ne 8, 3) := by decide +kernel
theorem dX12_round_72 : decode cX12_round 72 = .ok (.iload_n 3, 1) := by decide +kernel
theorem dX12_round_73 : decode cX12_round 73 = .ok (.iload 4, 2) := by decide +kernel
theorem dX12_round_75 : decode cX12_round 75 = .ok (.if_icmp .lt 5, 3) := by decide +kernel
theorem dX12_round_78 : decode cX12_round 78 = .ok (.iconst (-1), 1) := by decide +kernel
theorem dX12_round_79 : decode cX12_round 79 = .ok (.ireturn, 1) := by decide +kernel
theorem dX12_round_67 : decode cX12_round 67 = .ok (.aload_n 0, 1) := by decide +kernel
theorem dX12_round_68 : decode cX12_round 68 = .ok (.getfield 374, 3) := by decide +kernel
theorem dX12_round_71 : decode cX12_round 71 = .ok (.ireturn, 1) := by decide +kernel
theorem dX12_round_23 : decode cX12_round 23 = .ok (.iconst (-1), 1) := by decide +kernel
theorem dX12_round_24 : decode cX12_round 24 = .ok (.ireturn, 1) := by decide +kernel
set_option maxRecDepth 100000 in
set_option maxHeartbeats 4000000 in
theorem q_M_beyond (l : Launch) (D : va_G) (cI cB cZ : ClassId) (g : Nat → Nat) (v0 v1 : Int32) : Met l yX12_beyond (CWS yX12_beyond cX12_beyond 6 (some .long)) (RM 3 0 0) (PBr [.ref (g 100), .int v0, .int v1] D cI cB cZ [((g 100), .inr (13, oM g))]) (vp_Sl (fun r => r = (if (0 ≤ v0.toInt ∧ v0.toInt ≤ 6) ∧ 0 ≤ v1.toInt ∧ v1.toInt ≤ 2 then ((if v1.toInt = 2 then (0 : Int64) else 1) : Int64) else -1))) 0 0 (fun _ => False) := by
  refine Met.ofW (cc := cX12_beyond) (maxL := 6) (ret := (some .long)) (by decide) rfl ?_
  intro p e s m args below meth c s₁ B hml hv
  obtain ⟨rfl, hP, hK⟩ := hv
  have hx := B.exec
  have hb := B.bytes
  have hr := B.returns
  have hts := atoms_spec (ws := (CWS yX12_beyond cX12_beyond 6 (some .long))) B.pre
  have hown : s.vm.findClass RX12 = some m.cls := findClass_of_methodNamed B.named
  have hlocks := B.notSynchronized
  have S : SF p m c cX12_beyond 6 s ([.ref (g 100), .int v0, .int v1]).toArray RX12 := ⟨hx, hb, hml, hown, fun w h => hts w (List.mem_cons_of_mem _ h)⟩
  have hP : va_P D vwCl [((g 100), .inr (13, oM g))] s.heap := hP
  have hl := lv_entry ([.ref (g 100), .int v0, .int v1]) (n := 6) (Nat.le_of_ble_eq_true rfl)
  rw [lg_entry_eq]
  generalize (lg_sl ([.ref (g 100), .int v0, .int v1]) ++ List.replicate (6 - (lg_sl ([.ref (g 100), .int v0, .int v1])).length) Slot.unset).toArray = ls at hl ⊢
  have hl : lv_has ls 6 [(0, .ref (g 100)), (1, .int v0), (2, .int v1)] := hl
  refine lv_iload_n hx hb dX12_beyond_0 rfl (lv_at hl 1 rfl) ?_
  refine lv_iconst (v := 0) hx hb dX12_beyond_1 (by decide) ?_
  refine lv_bipush (v := 6) hx hb dX12_beyond_2 (by decide) ?_
  refine vp_callSi (runS_r (As := [.int v0, .int 0, .int 6]) (rest := []) S (q_in l D cI cB cZ v0 0 6) kS_RX12_214 hK hP [] rfl ⟨Nat.le_of_ble_eq_true rfl, Nat.le_of_ble_eq_true rfl⟩ ⟨Nat.le_of_ble_eq_true rfl, Nat.le_of_ble_eq_true rfl⟩ rfl hl.1 rfl (Nat.le_of_ble_eq_true rfl) dX12_beyond_4) (fun r_1 h_2 => ?_)
  rcases h_2 with ⟨rfl, h_2⟩ | ⟨rfl, h_2⟩
  ·
    have h_2 : 0 ≤ v0.toInt ∧ v0.toInt ≤ 6 := h_2
    refine lv_if_eq (tgt := 19) hx hb dX12_beyond_7 (by decide) (fun h => absurd h (by decide)) (fun _ => ?_)
    refine lv_iload_n hx hb dX12_beyond_10 rfl (lv_at hl 2 rfl) ?_
    refine lv_iconst (v := 0) hx hb dX12_beyond_11 (by decide) ?_
    refine lv_iconst (v := 2) hx hb dX12_beyond_12 (by decide) ?_
    refine vp_callSi (runS_r (As := [.int v1, .int 0, .int 2]) (rest := []) S (q_in l D cI cB cZ v1 0 2) kS_RX12_214 hK hP [] rfl ⟨Nat.le_of_ble_eq_true rfl, Nat.le_of_ble_eq_true rfl⟩ ⟨Nat.le_of_ble_eq_true rfl, Nat.le_of_ble_eq_true rfl⟩ rfl hl.1 rfl (Nat.le_of_ble_eq_true rfl) dX12_beyond_13) (fun r_3 h_4 => ?_)
    rcases h_4 with ⟨rfl, h_4⟩ | ⟨rfl, h_4⟩
    ·
      have h_4 : 0 ≤ v1.toInt ∧ v1.toInt ≤ 2 := h_4
      refine lv_if_ne (tgt := 23) hx hb dX12_beyond_16 (by decide) (fun _ => ?_) (fun h => absurd h (by decide))
      refine lv_iconst (v := 0) hx hb dX12_beyond_23 (by decide) ?_
      refine lv_istore_n (lv' := [(3, .int 0), (0, .ref (g 100)), (1, .int v0), (2, .int v1)]) hx hb dX12_beyond_24 rfl hl (by decide) rfl (fun ls hl => ?_)
      refine lv_iconst (v := 0) hx hb dX12_beyond_25 (by decide) ?_
      refine lv_istore (lv' := [(4, .int 0), (3, .int 0), (0, .ref (g 100)), (1, .int v0), (2, .int v1)]) hx hb dX12_beyond_26 hl (by decide) rfl (fun ls hl => ?_)
      refine lv_iconst (v := 0) hx hb dX12_beyond_28 (by decide) ?_
      refine lv_istore (lv' := [(5, .int 0), (4, .int 0), (3, .int 0), (0, .ref (g 100)), (1, .int v0), (2, .int v1)]) hx hb dX12_beyond_29 hl (by decide) rfl (fun ls hl => ?_)
      refine lv_iload hx hb dX12_beyond_31 (lv_at hl 0 rfl) ?_
      refine lv_aload_n hx hb dX12_beyond_33 rfl (lv_at hl 3 rfl) ?_
      refine gf_RX12_208 S hK hP 0 rfl (v := .int 0) rfl dX12_beyond_34 ?_
      refine lv_icmp_ge (tgt := 87) hx hb dX12_beyond_37 (by decide) (fun _ => ?_) (fun h => absurd h (by decide))
      refine lv_aload_n hx hb dX12_beyond_87 rfl (lv_at hl 3 rfl) ?_
      refine lv_aload_n hx hb dX12_beyond_88 rfl (lv_at hl 3 rfl) ?_
      refine vp_callSi (runV_r (As := []) (rest := [.ref (g 100)]) S (q_mlacking l D cI cB cZ g) kV_RX12_350 hK hP [0] rfl 0 rfl rfl rfl ⟨Nat.le_of_ble_eq_true rfl, Nat.le_of_ble_eq_true rfl⟩ ⟨Nat.le_of_ble_eq_true rfl, Nat.le_of_ble_eq_true rfl⟩ rfl hl.1 rfl (Nat.le_of_ble_eq_true rfl) dX12_beyond_89) (fun r_5 h_6 => ?_)
      subst h_6
      refine lv_iload_n hx hb dX12_beyond_92 rfl (lv_at hl 2 rfl) ?_
      refine lv_iload hx hb dX12_beyond_93 (lv_at hl 1 rfl) ?_
      refine lv_iload_n hx hb dX12_beyond_95 rfl (lv_at hl 5 rfl) ?_
      refine vp_callSl (runV_r (As := [.int 0, .int 0, .int 0, .int v1]) (rest := []) S (q_mbyLot l D cI cB cZ g v1) kV_RX12_353 hK hP [0] rfl 0 rfl rfl rfl ⟨Nat.le_of_ble_eq_true rfl, Nat.le_of_ble_eq_true rfl⟩ ⟨Nat.le_of_ble_eq_true rfl, Nat.le_of_ble_eq_true rfl⟩ rfl hl.1 rfl (Nat.le_of_ble_eq_true rfl) dX12_beyond_96) (fun r_7 h_8 => ?_)
      subst h_8
      exact W.lret (v := ((if v1.toInt = 2 then (0 : Int64) else 1))) hx hb hr (fun t ht hW => ⟨((if v1.toInt = 2 then (0 : Int64) else 1)), rfl, (if_pos (by omega)).symm, ht⟩) (fun _ h => absurd h List.not_mem_nil) dX12_beyond_99
    ·
      have h_4 : ¬ (0 ≤ v1.toInt ∧ v1.toInt ≤ 2) := h_4
      refine lv_if_ne (tgt := 23) hx hb dX12_beyond_16 (by decide) (fun h => absurd h (by decide)) (fun _ => ?_)
      refine lv_ldc2 (v := (-1)) hx hb hown (S.2.2.2.2 _ (wT_tab 1757 rfl rfl)) dX12_beyond_19 ?_
      exact W.lret (v := (-1)) hx hb hr (fun t ht hW => ⟨(-1), rfl, (if_neg (by omega)).symm, ht⟩) (fun _ h => absurd h List.not_mem_nil) dX12_beyond_22
  ·
    have h_2 : ¬ (0 ≤ v0.toInt ∧ v0.toInt ≤ 6) := h_2
    refine lv_if_eq (tgt := 19) hx hb dX12_beyond_7 (by decide) (fun _ => ?_) (fun h => absurd h (by decide))
    refine lv_ldc2 (v := (-1)) hx hb hown (S.2.2.2.2 _ (wT_tab 1757 rfl rfl)) dX12_beyond_19 ?_
    exact W.lret (v := (-1)) hx hb hr (fun t ht hW => ⟨(-1), rfl, (if_neg (by omega)).symm, ht⟩) (fun _ h => absurd h List.not_mem_nil) dX12_beyond_22
set_option maxRecDepth 100000 in
set_option maxHeartbeats 4000000 in
theorem q_M_streets (l : Launch) (D : va_G) (cI cB cZ : ClassId) (g : Nat → Nat) (v0 v1 : Int32) : Met l yX12_streets (CWS yX12_streets cX12_streets 6 (some .long)) (RM 3 0 0) (PBr [.ref (g 100), .int v0, .int v1] D cI cB cZ [((g 100), .inr (13, oM g))]) (vp_Sl (fun r => r = (if (0 ≤ v0.toInt ∧ v0.toInt ≤ 9) ∧ 0 ≤ v1.toInt ∧ v1.toInt ≤ 2 then ((if v1.toInt = 2 then (0 : Int64) else 1) : Int64) else -1))) 0 0 (fun _ => False) := by
  refine Met.ofW (cc := cX12_streets) (maxL := 6) (ret := (some .long)) (by decide) rfl ?_
  intro p e s m args below meth c s₁ B hml hv
  obtain ⟨rfl, hP, hK⟩ := hv
  have hx := B.exec
  have hb := B.bytes
  have hr := B.returns
  have hts := atoms_spec (ws := (CWS yX12_streets cX12_streets 6 (some .long))) B.pre
  have hown : s.vm.findClass RX12 = some m.cls := findClass_of_methodNamed B.named
  have hlocks := B.notSynchronized
  have S : SF p m c cX12_streets 6 s ([.ref (g 100), .int v0, .int v1]).toArray RX12 := ⟨hx, hb, hml, hown, fun w h => hts w (List.mem_cons_of_mem _ h)⟩
  have hP : va_P D vwCl [((g 100), .inr (13, oM g))] s.heap := hP
  have hl := lv_entry ([.ref (g 100), .int v0, .int v1]) (n := 6) (Nat.le_of_ble_eq_true rfl)
  rw [lg_entry_eq]
  generalize (lg_sl ([.ref (g 100), .int v0, .int v1]) ++ List.replicate (6 - (lg_sl ([.ref (g 100), .int v0, .int v1])).length) Slot.unset).toArray = ls at hl ⊢
  have hl : lv_has ls 6 [(0, .ref (g 100)), (1, .int v0), (2, .int v1)] := hl
  refine lv_iload_n hx hb dX12_streets_0 rfl (lv_at hl 1 rfl) ?_
  refine lv_iconst (v := 0) hx hb dX12_streets_1 (by decide) ?_
  refine lv_bipush (v := 9) hx hb dX12_streets_2 (by decide) ?_
  refine vp_callSi (runS_r (As := [.int v0, .int 0, .int 9]) (rest := []) S (q_in l D cI cB cZ v0 0 9) kS_RX12_214 hK hP [] rfl ⟨Nat.le_of_ble_eq_true rfl, Nat.le_of_ble_eq_true rfl⟩ ⟨Nat.le_of_ble_eq_true rfl, Nat.le_of_ble_eq_true rfl⟩ rfl hl.1 rfl (Nat.le_of_ble_eq_true rfl) dX12_streets_4) (fun r_1 h_2 => ?_)
  rcases h_2 with ⟨rfl, h_2⟩ | ⟨rfl, h_2⟩
  ·
    have h_2 : 0 ≤ v0.toInt ∧ v0.toInt ≤ 9 := h_2
    refine lv_if_eq (tgt := 19) hx hb dX12_streets_7 (by decide) (fun h => absurd h (by decide)) (fun _ => ?_)
    refine lv_iload_n hx hb dX12_streets_10 rfl (lv_at hl 2 rfl) ?_
    refine lv_iconst (v := 0) hx hb dX12_streets_11 (by decide) ?_
    refine lv_iconst (v := 2) hx hb dX12_streets_12 (by decide) ?_
    refine vp_callSi (runS_r (As := [.int v1, .int 0, .int 2]) (rest := []) S (q_in l D cI cB cZ v1 0 2) kS_RX12_214 hK hP [] rfl ⟨Nat.le_of_ble_eq_true rfl, Nat.le_of_ble_eq_true rfl⟩ ⟨Nat.le_of_ble_eq_true rfl, Nat.le_of_ble_eq_true rfl⟩ rfl hl.1 rfl (Nat.le_of_ble_eq_true rfl) dX12_streets_13) (fun r_3 h_4 => ?_)
    rcases h_4 with ⟨rfl, h_4⟩ | ⟨rfl, h_4⟩
    ·
      have h_4 : 0 ≤ v1.toInt ∧ v1.toInt ≤ 2 := h_4
      refine lv_if_ne (tgt := 23) hx hb dX12_streets_16 (by decide) (fun _ => ?_) (fun h => absurd h (by decide))
      refine lv_iconst (v := 0) hx hb dX12_streets_23 (by decide) ?_
      refine lv_istore_n (lv' := [(3, .int 0), (0, .ref (g 100)), (1, .int v0), (2, .int v1)]) hx hb dX12_streets_24 rfl hl (by decide) rfl (fun ls hl => ?_)
      refine lv_iconst (v := 0) hx hb dX12_streets_25 (by decide) ?_
      refine lv_istore (lv' := [(4, .int 0), (3, .int 0), (0, .ref (g 100)), (1, .int v0), (2, .int v1)]) hx hb dX12_streets_26 hl (by decide) rfl (fun ls hl => ?_)
      refine lv_iconst (v := 0) hx hb dX12_streets_28 (by decide) ?_
      refine lv_istore (lv' := [(5, .int 0), (4, .int 0), (3, .int 0), (0, .ref (g 100)), (1, .int v0), (2, .int v1)]) hx hb dX12_streets_29 hl (by decide) rfl (fun ls hl => ?_)
      refine lv_iload hx hb dX12_streets_31 (lv_at hl 0 rfl) ?_
      refine lv_aload_n hx hb dX12_streets_33 rfl (lv_at hl 3 rfl) ?_
      refine gf_RX12_208 S hK hP 0 rfl (v := .int 0) rfl dX12_streets_34 ?_
      refine lv_icmp_ge (tgt := 89) hx hb dX12_streets_37 (by decide) (fun _ => ?_) (fun h => absurd h (by decide))
      refine lv_aload_n hx hb dX12_streets_89 rfl (lv_at hl 3 rfl) ?_
      refine lv_aload_n hx hb dX12_streets_90 rfl (lv_at hl 3 rfl) ?_
      refine vp_callSi (runV_r (As := []) (rest := [.ref (g 100)]) S (q_mlacking l D cI cB cZ g) kV_RX12_350 hK hP [0] rfl 0 rfl rfl rfl ⟨Nat.le_of_ble_eq_true rfl, Nat.le_of_ble_eq_true rfl⟩ ⟨Nat.le_of_ble_eq_true rfl, Nat.le_of_ble_eq_true rfl⟩ rfl hl.1 rfl (Nat.le_of_ble_eq_true rfl) dX12_streets_91) (fun r_5 h_6 => ?_)
      subst h_6
      refine lv_iload_n hx hb dX12_streets_94 rfl (lv_at hl 2 rfl) ?_
      refine lv_iload hx hb dX12_streets_95 (lv_at hl 1 rfl) ?_
      refine lv_iload_n hx hb dX12_streets_97 rfl (lv_at hl 5 rfl) ?_
      refine vp_callSl (runV_r (As := [.int 0, .int 0, .int 0, .int v1]) (rest := []) S (q_mbyLot l D cI cB cZ g v1) kV_RX12_353 hK hP [0] rfl 0 rfl rfl rfl ⟨Nat.le_of_ble_eq_true rfl, Nat.le_of_ble_eq_true rfl⟩ ⟨Nat.le_of_ble_eq_true rfl, Nat.le_of_ble_eq_true rfl⟩ rfl hl.1 rfl (Nat.le_of_ble_eq_true rfl) dX12_streets_98) (fun r_7 h_8 => ?_)
      subst h_8
      exact W.lret (v := ((if v1.toInt = 2 then (0 : Int64) else 1))) hx hb hr (fun t ht hW => ⟨((if v1.toInt = 2 then (0 : Int64) else 1)), rfl, (if_pos (by omega)).symm, ht⟩) (fun _ h => absurd h List.not_mem_nil) dX12_streets_101
    ·
      have h_4 : ¬ (0 ≤ v1.toInt ∧ v1.toInt ≤ 2) := h_4
      refine lv_if_ne (tgt := 23) hx hb dX12_streets_16 (by decide) (fun h => absurd h (by decide)) (fun _ => ?_)
      refine lv_ldc2 (v := (-1)) hx hb hown (S.2.2.2.2 _ (wT_tab 1757 rfl rfl)) dX12_streets_19 ?_
      exact W.lret (v := (-1)) hx hb hr (fun t ht hW => ⟨(-1), rfl, (if_neg (by omega)).symm, ht⟩) (fun _ h => absurd h List.not_mem_nil) dX12_streets_22
  ·
    have h_2 : ¬ (0 ≤ v0.toInt ∧ v0.toInt ≤ 9) := h_2
    refine lv_if_eq (tgt := 19) hx hb dX12_streets_7 (by decide) (fun _ => ?_) (fun h => absurd h (by decide))
    refine lv_ldc2 (v := (-1)) hx hb hown (S.2.2.2.2 _ (wT_tab 1757 rfl rfl)) dX12_streets_19 ?_
    exact W.lret (v := (-1)) hx hb hr (fun t ht hW => ⟨(-1), rfl, (if_neg (by omega)).symm, ht⟩) (fun _ h => absurd h List.not_mem_nil) dX12_streets_22
set_option maxRecDepth 100000 in
set_option maxHeartbeats 4000000 in
theorem q_M_price (l : Launch) (D : va_G) (cI cB cZ : ClassId) (g : Nat → Nat) (v0 v1 : Int32) (sz : Nat) : Met l yX12_price (CWS yX12_price cX12_price 3 (some .boolean)) (RM 3 0 0) (PBw [.ref (g 100), .int v0, .int v1] D cI cB cZ [((g 100), .inr (13, oM g)), ((g 39), .inl (cI, 58, .inl (fun _ => 0)))] sz) (va_Qi (fun (r : Int32) (_ : Unit) => r = (if 0 ≤ v0.toInt ∧ v0.toInt ≤ 57 ∧ 0 ≤ v1.toInt ∧ v1.toInt ≤ 1000 then (1 : Int32) else 0)) (fun (_ : Unit) (_ : State) => True) (va_A [((g 100), .inr (13, oM g)), ((g 39), .inl (cI, 58, .inl (fun _ => 0)))] sz)) 0 0 (va_A [((g 100), .inr (13, oM g)), ((g 39), .inl (cI, 58, .inl (fun _ => 0)))] sz) := by
  refine Met.ofW (cc := cX12_price) (maxL := 3) (ret := (some .boolean)) (by decide) rfl ?_
  intro p e s m args below meth c s₁ B hml hv
  obtain ⟨rfl, hsz, hP, hK, hD0⟩ := hv
  have hx := B.exec
  have hb := B.bytes
  have hr := B.returns
  have hts := atoms_spec (ws := (CWS yX12_price cX12_price 3 (some .boolean))) B.pre
  have hown : s.vm.findClass RX12 = some m.cls := findClass_of_methodNamed B.named
  have hlocks := B.notSynchronized
  have S : SF p m c cX12_price 3 s ([.ref (g 100), .int v0, .int v1]).toArray RX12 := ⟨hx, hb, hml, hown, fun w h => hts w (List.mem_cons_of_mem _ h)⟩
  subst hsz
  have hD := hD0.self (sz := s.heap.size)
  generalize hAe : va_A [((g 100), .inr (13, oM g)), ((g 39), .inl (cI, 58, .inl (fun _ => 0)))] s.heap.size = A at hD ⊢
  have hA : ∀ q : Nat, s.heap.size ≤ q → A q := fun q h => by rw [← hAe]; exact Or.inr h
  have hS : va_S A s.heap s.heap [] := va_S.rf
  have hP : va_P D vwCl [((g 100), .inr (13, oM g)), ((g 39), .inl (cI, 58, .inl (fun _ => 0)))] s.heap := hP
  have hD : va_D A [((g 100), .inr (13, oM g)), ((g 39), .inl (cI, 58, .inl (fun _ => 0)))] := hD
  have hl := lv_entry ([.ref (g 100), .int v0, .int v1]) (n := 3) (Nat.le_of_ble_eq_true rfl)
  rw [lg_entry_eq]
  generalize (lg_sl ([.ref (g 100), .int v0, .int v1]) ++ List.replicate (3 - (lg_sl ([.ref (g 100), .int v0, .int v1])).length) Slot.unset).toArray = ls at hl ⊢
  have hl : lv_has ls 3 [(0, .ref (g 100)), (1, .int v0), (2, .int v1)] := hl
  refine lv_iload_n hx hb dX12_price_0 rfl (lv_at hl 1 rfl) ?_
  refine lv_iconst (v := 0) hx hb dX12_price_1 (by decide) ?_
  refine lv_bipush (v := 57) hx hb dX12_price_2 (by decide) ?_
  refine vp_callSi (runS_r (As := [.int v0, .int 0, .int 57]) (rest := []) S (q_in l D cI cB cZ v0 0 57) kS_RX12_214 hK hP [] rfl ⟨Nat.le_of_ble_eq_true rfl, Nat.le_of_ble_eq_true rfl⟩ ⟨Nat.le_of_ble_eq_true rfl, Nat.le_of_ble_eq_true rfl⟩ rfl hl.1 rfl (Nat.le_of_ble_eq_true rfl) dX12_price_4) (fun r_1 h_2 => ?_)
  rcases h_2 with ⟨rfl, h_2⟩ | ⟨rfl, h_2⟩
  ·
    have h_2 : 0 ≤ v0.toInt ∧ v0.toInt ≤ 57 := h_2
    refine lv_if_eq (tgt := 21) hx hb dX12_price_7 (by decide) (fun h => absurd h (by decide)) (fun _ => ?_)
    refine lv_iload_n hx hb dX12_price_10 rfl (lv_at hl 2 rfl) ?_
    refine lv_iconst (v := 0) hx hb dX12_price_11 (by decide) ?_
    refine lv_sipush (v := 1000) hx hb dX12_price_12 (by decide) ?_
    refine vp_callSi (runS_r (As := [.int v1, .int 0, .int 1000]) (rest := []) S (q_in l D cI cB cZ v1 0 1000) kS_RX12_214 hK hP [] rfl ⟨Nat.le_of_ble_eq_true rfl, Nat.le_of_ble_eq_true rfl⟩ ⟨Nat.le_of_ble_eq_true rfl, Nat.le_of_ble_eq_true rfl⟩ rfl hl.1 rfl (Nat.le_of_ble_eq_true rfl) dX12_price_15) (fun r_3 h_4 => ?_)
    rcases h_4 with ⟨rfl, h_4⟩ | ⟨rfl, h_4⟩
    ·
      have h_4 : 0 ≤ v1.toInt ∧ v1.toInt ≤ 1000 := h_4
      refine lv_if_ne (tgt := 23) hx hb dX12_price_18 (by decide) (fun _ => ?_) (fun h => absurd h (by decide))
      refine lv_aload_n hx hb dX12_price_23 rfl (lv_at hl 0 rfl) ?_
      refine gf_RX12_92 S hK hP 0 rfl (v := .ref (g 39)) rfl dX12_price_24 ?_
      refine lv_iload_n hx hb dX12_price_27 rfl (lv_at hl 1 rfl) ?_
      refine lv_iload_n hx hb dX12_price_28 rfl (lv_at hl 2 rfl) ?_
      refine va_iast hx hb hK.1 hP hD hS 1 0 rfl rfl (vp_in_iff.mpr ⟨by omega, by omega⟩) dX12_price_29 (fun H locs hP hD hS => ?_)
      have hP : va_P D vwCl [((g 100), .inr (13, oM g)), ((g 39), .inl (cI, 58, .inl (upd (fun _ => 0) v0.toNatClampNeg v1)))] H := hP
      have hD : va_D A [((g 100), .inr (13, oM g)), ((g 39), .inl (cI, 58, .inl (upd (fun _ => 0) v0.toNatClampNeg v1)))] := hD
      refine lv_iconst (v := 1) hx hb dX12_price_30 (by decide) ?_
      exact W.zret (v := 1) hx hb hr rfl (fun t ht hW => ⟨⟨1, (), rfl, (if_pos (by omega)).symm, trivial⟩, hS.F ht⟩) hS.2.2 dX12_price_31
    ·
      have h_4 : ¬ (0 ≤ v1.toInt ∧ v1.toInt ≤ 1000) := h_4
      refine lv_if_ne (tgt := 23) hx hb dX12_price_18 (by decide) (fun h => absurd h (by decide)) (fun _ => ?_)
      refine lv_iconst (v := 0) hx hb dX12_price_21 (by decide) ?_
      exact W.zret (v := 0) hx hb hr rfl (fun t ht hW => ⟨⟨0, (), rfl, (if_neg (by omega)).symm, trivial⟩, hS.F ht⟩) hS.2.2 dX12_price_22
  ·
    have h_2 : ¬ (0 ≤ v0.toInt ∧ v0.toInt ≤ 57) := h_2
    refine lv_if_eq (tgt := 21) hx hb dX12_price_7 (by decide) (fun _ => ?_) (fun h => absurd h (by decide))
    refine lv_iconst (v := 0) hx hb dX12_price_21 (by decide) ?_
    exact W.zret (v := 0) hx hb hr rfl (fun t ht hW => ⟨⟨0, (), rfl, (if_neg (by omega)).symm, trivial⟩, hS.F ht⟩) hS.2.2 dX12_price_22
set_option maxRecDepth 100000 in
set_option maxHeartbeats 4000000 in
theorem q_M_thefts (l : Launch) (D : va_G) (cI cB cZ : ClassId) (g : Nat → Nat) (v0 v1 : Int32) (sz : Nat) : Met l yX12_thefts (CWS yX12_thefts cX12_thefts 3 (some .boolean)) (RM 3 0 0) (PBw [.ref (g 100), .int v0, .int v1] D cI cB cZ [((g 100), .inr (13, oM g)), ((g 86), .inl (cI, 24, .inl (fun _ => 0)))] sz) (va_Qi (fun (r : Int32) (_ : Unit) => r = (if 0 ≤ v0.toInt ∧ v0.toInt ≤ 23 ∧ 0 ≤ v1.toInt ∧ v1.toInt ≤ 1000 then (1 : Int32) else 0)) (fun (_ : Unit) (_ : State) => True) (va_A [((g 100), .inr (13, oM g)), ((g 86), .inl (cI, 24, .inl (fun _ => 0)))] sz)) 0 0 (va_A [((g 100), .inr (13, oM g)), ((g 86), .inl (cI, 24, .inl (fun _ => 0)))] sz) := by
  refine Met.ofW (cc := cX12_thefts) (maxL := 3) (ret := (some .boolean)) (by decide) rfl ?_
  intro p e s m args below meth c s₁ B hml hv
  obtain ⟨rfl, hsz, hP, hK, hD0⟩ := hv
  have hx := B.exec
  have hb := B.bytes
  have hr := B.returns
  have hts := atoms_spec (ws := (CWS yX12_thefts cX12_thefts 3 (some .boolean))) B.pre
  have hown : s.vm.findClass RX12 = some m.cls := findClass_of_methodNamed B.named
  have hlocks := B.notSynchronized
  have S : SF p m c cX12_thefts 3 s ([.ref (g 100), .int v0, .int v1]).toArray RX12 := ⟨hx, hb, hml, hown, fun w h => hts w (List.mem_cons_of_mem _ h)⟩
  subst hsz
  have hD := hD0.self (sz := s.heap.size)
  generalize hAe : va_A [((g 100), .inr (13, oM g)), ((g 86), .inl (cI, 24, .inl (fun _ => 0)))] s.heap.size = A at hD ⊢
  have hA : ∀ q : Nat, s.heap.size ≤ q → A q := fun q h => by rw [← hAe]; exact Or.inr h
  have hS : va_S A s.heap s.heap [] := va_S.rf
  have hP : va_P D vwCl [((g 100), .inr (13, oM g)), ((g 86), .inl (cI, 24, .inl (fun _ => 0)))] s.heap := hP
  have hD : va_D A [((g 100), .inr (13, oM g)), ((g 86), .inl (cI, 24, .inl (fun _ => 0)))] := hD
  have hl := lv_entry ([.ref (g 100), .int v0, .int v1]) (n := 3) (Nat.le_of_ble_eq_true rfl)
  rw [lg_entry_eq]
  generalize (lg_sl ([.ref (g 100), .int v0, .int v1]) ++ List.replicate (3 - (lg_sl ([.ref (g 100), .int v0, .int v1])).length) Slot.unset).toArray = ls at hl ⊢
  have hl : lv_has ls 3 [(0, .ref (g 100)), (1, .int v0), (2, .int v1)] := hl
  refine lv_iload_n hx hb dX12_thefts_0 rfl (lv_at hl 1 rfl) ?_
  refine lv_iconst (v := 0) hx hb dX12_thefts_1 (by decide) ?_
  refine lv_bipush (v := 23) hx hb dX12_thefts_2 (by decide) ?_
  refine vp_callSi (runS_r (As := [.int v0, .int 0, .int 23]) (rest := []) S (q_in l D cI cB cZ v0 0 23) kS_RX12_214 hK hP [] rfl ⟨Nat.le_of_ble_eq_true rfl, Nat.le_of_ble_eq_true rfl⟩ ⟨Nat.le_of_ble_eq_true rfl, Nat.le_of_ble_eq_true rfl⟩ rfl hl.1 rfl (Nat.le_of_ble_eq_true rfl) dX12_thefts_4) (fun r_1 h_2 => ?_)
  rcases h_2 with ⟨rfl, h_2⟩ | ⟨rfl, h_2⟩
  ·
    have h_2 : 0 ≤ v0.toInt ∧ v0.toInt ≤ 23 := h_2
    refine lv_if_eq (tgt := 21) hx hb dX12_thefts_7 (by decide) (fun h => absurd h (by decide)) (fun _ => ?_)
    refine lv_iload_n hx hb dX12_thefts_10 rfl (lv_at hl 2 rfl) ?_
    refine lv_iconst (v := 0) hx hb dX12_thefts_11 (by decide) ?_
    refine lv_sipush (v := 1000) hx hb dX12_thefts_12 (by decide) ?_
    refine vp_callSi (runS_r (As := [.int v1, .int 0, .int 1000]) (rest := []) S (q_in l D cI cB cZ v1 0 1000) kS_RX12_214 hK hP [] rfl ⟨Nat.le_of_ble_eq_true rfl, Nat.le_of_ble_eq_true rfl⟩ ⟨Nat.le_of_ble_eq_true rfl, Nat.le_of_ble_eq_true rfl⟩ rfl hl.1 rfl (Nat.le_of_ble_eq_true rfl) dX12_thefts_15) (fun r_3 h_4 => ?_)
    rcases h_4 with ⟨rfl, h_4⟩ | ⟨rfl, h_4⟩
    ·
      have h_4 : 0 ≤ v1.toInt ∧ v1.toInt ≤ 1000 := h_4
      refine lv_if_ne (tgt := 23) hx hb dX12_thefts_18 (by decide) (fun _ => ?_) (fun h => absurd h (by decide))
      refine lv_aload_n hx hb dX12_thefts_23 rfl (lv_at hl 0 rfl) ?_
      refine gf_RX12_189 S hK hP 0 rfl (v := .ref (g 86)) rfl dX12_thefts_24 ?_
      refine lv_iload_n hx hb dX12_thefts_27 rfl (lv_at hl 1 rfl) ?_
      refine lv_iload_n hx hb dX12_thefts_28 rfl (lv_at hl 2 rfl) ?_
      refine va_iast hx hb hK.1 hP hD hS 1 0 rfl rfl (vp_in_iff.mpr ⟨by omega, by omega⟩) dX12_thefts_29 (fun H locs hP hD hS => ?_)
      have hP : va_P D vwCl [((g 100), .inr (13, oM g)), ((g 86), .inl (cI, 24, .inl (upd (fun _ => 0) v0.toNatClampNeg v1)))] H := hP
      have hD : va_D A [((g 100), .inr (13, oM g)), ((g 86), .inl (cI, 24, .inl (upd (fun _ => 0) v0.toNatClampNeg v1)))] := hD
      refine lv_iconst (v := 1) hx hb dX12_thefts_30 (by decide) ?_
      exact W.zret (v := 1) hx hb hr rfl (fun t ht hW => ⟨⟨1, (), rfl, (if_pos (by omega)).symm, trivial⟩, hS.F ht⟩) hS.2.2 dX12_thefts_31
    ·
      have h_4 : ¬ (0 ≤ v1.toInt ∧ v1.toInt ≤ 1000) := h_4
      refine lv_if_ne (tgt := 23) hx hb dX12_thefts_18 (by decide) (fun h => absurd h (by decide)) (fun _ => ?_)
      refine lv_iconst (v := 0) hx hb dX12_thefts_21 (by decide) ?_
      exact W.zret (v := 0) hx hb hr rfl (fun t ht hW => ⟨⟨0, (), rfl, (if_neg (by omega)).symm, trivial⟩, hS.F ht⟩) hS.2.2 dX12_thefts_22
  ·
    have h_2 : ¬ (0 ≤ v0.toInt ∧ v0.toInt ≤ 23) := h_2
    refine lv_if_eq (tgt := 21) hx hb dX12_thefts_7 (by decide) (fun _ => ?_) (fun h => absurd h (by decide))
    refine lv_iconst (v := 0) hx hb dX12_thefts_21 (by decide) ?_
    exact W.zret (v := 0) hx hb hr rfl (fun t ht hW => ⟨⟨0, (), rfl, (if_neg (by omega)).symm, trivial⟩, hS.F ht⟩) hS.2.2 dX12_thefts_22
set_option maxRecDepth 100000 in
set_option maxHeartbeats 4000000 in
theorem q_M_degrees (l : Launch) (D : va_G) (cI cB cZ : ClassId) (g : Nat → Nat) (v0 v1 : Int32) (sz : Nat) : Met l yX12_degrees (CWS yX12_degrees cX12_degrees 3 (some .boolean)) (RM 3 0 0) (PBw [.ref (g 100), .int v0, .int v1] D cI cB cZ [((g 100), .inr (13, oM g)), ((g 90), .inl (cI, 400, .inl (dgF 400)))] sz) (va_Qi (fun (r : Int32) (_ : Unit) => r = (if 0 ≤ v0.toInt ∧ v0.toInt ≤ 399 ∧ -40 ≤ v1.toInt ∧ v1.toInt ≤ 40 then (1 : Int32) else 0)) (fun (_ : Unit) (_ : State) => True) (va_A [((g 100), .inr (13, oM g)), ((g 90), .inl (cI, 400, .inl (dgF 400)))] sz)) 0 0 (va_A [((g 100), .inr (13, oM g)), ((g 90), .inl (cI, 400, .inl (dgF 400)))] sz) := by
  refine Met.ofW (cc := cX12_degrees) (maxL := 3) (ret := (some .boolean)) (by decide) rfl ?_
  intro p e s m args below meth c s₁ B hml hv
  obtain ⟨rfl, hsz, hP, hK, hD0⟩ := hv
  have hx := B.exec
  have hb := B.bytes
  have hr := B.returns
  have hts := atoms_spec (ws := (CWS yX12_degrees cX12_degrees 3 (some .boolean))) B.pre
  have hown : s.vm.findClass RX12 = some m.cls := findClass_of_methodNamed B.named
  have hlocks := B.notSynchronized
  have S : SF p m c cX12_degrees 3 s ([.ref (g 100), .int v0, .int v1]).toArray RX12 := ⟨hx, hb, hml, hown, fun w h => hts w (List.mem_cons_of_mem _ h)⟩
  subst hsz
  have hD := hD0.self (sz := s.heap.size)
  generalize hAe : va_A [((g 100), .inr (13, oM g)), ((g 90), .inl (cI, 400, .inl (dgF 400)))] s.heap.size = A at hD ⊢
  have hA : ∀ q : Nat, s.heap.size ≤ q → A q := fun q h => by rw [← hAe]; exact Or.inr h
  have hS : va_S A s.heap s.heap [] := va_S.rf
  have hP : va_P D vwCl [((g 100), .inr (13, oM g)), ((g 90), .inl (cI, 400, .inl (dgF 400)))] s.heap := hP
  have hD : va_D A [((g 100), .inr (13, oM g)), ((g 90), .inl (cI, 400, .inl (dgF 400)))] := hD
  have hl := lv_entry ([.ref (g 100), .int v0, .int v1]) (n := 3) (Nat.le_of_ble_eq_true rfl)
  rw [lg_entry_eq]
  generalize (lg_sl ([.ref (g 100), .int v0, .int v1]) ++ List.replicate (3 - (lg_sl ([.ref (g 100), .int v0, .int v1])).length) Slot.unset).toArray = ls at hl ⊢
  have hl : lv_has ls 3 [(0, .ref (g 100)), (1, .int v0), (2, .int v1)] := hl
  refine lv_iload_n hx hb dX12_degrees_0 rfl (lv_at hl 1 rfl) ?_
  refine vp_callSi (runS_r (As := [.int v0]) (rest := []) S (q_misDay l D cI cB cZ v0) kS_RX12_341 hK hP [] rfl ⟨Nat.le_of_ble_eq_true rfl, Nat.le_of_ble_eq_true rfl⟩ ⟨Nat.le_of_ble_eq_true rfl, Nat.le_of_ble_eq_true rfl⟩ rfl hl.1 rfl (Nat.le_of_ble_eq_true rfl) dX12_degrees_1) (fun r_1 h_2 => ?_)
  rcases h_2 with ⟨rfl, h_2⟩ | ⟨rfl, h_2⟩
  ·
    have h_2 : 0 ≤ v0.toInt ∧ v0.toInt ≤ 399 := h_2
    refine lv_if_eq (tgt := 18) hx hb dX12_degrees_4 (by decide) (fun h => absurd h (by decide)) (fun _ => ?_)
    refine lv_iload_n hx hb dX12_degrees_7 rfl (lv_at hl 2 rfl) ?_
    refine lv_bipush (v := (-40)) hx hb dX12_degrees_8 (by decide) ?_
    refine lv_bipush (v := 40) hx hb dX12_degrees_10 (by decide) ?_
    refine vp_callSi (runS_r (As := [.int v1, .int (-40), .int 40]) (rest := []) S (q_in l D cI cB cZ v1 (-40) 40) kS_RX12_214 hK hP [] rfl ⟨Nat.le_of_ble_eq_true rfl, Nat.le_of_ble_eq_true rfl⟩ ⟨Nat.le_of_ble_eq_true rfl, Nat.le_of_ble_eq_true rfl⟩ rfl hl.1 rfl (Nat.le_of_ble_eq_true rfl) dX12_degrees_12) (fun r_3 h_4 => ?_)
    rcases h_4 with ⟨rfl, h_4⟩ | ⟨rfl, h_4⟩
    ·
      have h_4 : (-40) ≤ v1.toInt ∧ v1.toInt ≤ 40 := h_4
      refine lv_if_ne (tgt := 20) hx hb dX12_degrees_15 (by decide) (fun _ => ?_) (fun h => absurd h (by decide))
      refine lv_aload_n hx hb dX12_degrees_20 rfl (lv_at hl 0 rfl) ?_
      refine gf_RX12_201 S hK hP 0 rfl (v := .ref (g 90)) rfl dX12_degrees_21 ?_
      refine lv_iload_n hx hb dX12_degrees_24 rfl (lv_at hl 1 rfl) ?_
      refine lv_iload_n hx hb dX12_degrees_25 rfl (lv_at hl 2 rfl) ?_
      refine va_iast hx hb hK.1 hP hD hS 1 0 rfl rfl (vp_in_iff.mpr ⟨by omega, by omega⟩) dX12_degrees_26 (fun H locs hP hD hS => ?_)
      have hP : va_P D vwCl [((g 100), .inr (13, oM g)), ((g 90), .inl (cI, 400, .inl (upd (dgF 400) v0.toNatClampNeg v1)))] H := hP
      have hD : va_D A [((g 100), .inr (13, oM g)), ((g 90), .inl (cI, 400, .inl (upd (dgF 400) v0.toNatClampNeg v1)))] := hD
      refine lv_iconst (v := 1) hx hb dX12_degrees_27 (by decide) ?_
      exact W.zret (v := 1) hx hb hr rfl (fun t ht hW => ⟨⟨1, (), rfl, (if_pos (by omega)).symm, trivial⟩, hS.F ht⟩) hS.2.2 dX12_degrees_28
    ·
      have h_4 : ¬ ((-40) ≤ v1.toInt ∧ v1.toInt ≤ 40) := h_4
      refine lv_if_ne (tgt := 20) hx hb dX12_degrees_15 (by decide) (fun h => absurd h (by decide)) (fun _ => ?_)
      refine lv_iconst (v := 0) hx hb dX12_degrees_18 (by decide) ?_
      exact W.zret (v := 0) hx hb hr rfl (fun t ht hW => ⟨⟨0, (), rfl, (if_neg (by omega)).symm, trivial⟩, hS.F ht⟩) hS.2.2 dX12_degrees_19
  ·
    have h_2 : ¬ (0 ≤ v0.toInt ∧ v0.toInt ≤ 399) := h_2
    refine lv_if_eq (tgt := 18) hx hb dX12_degrees_4 (by decide) (fun _ => ?_) (fun h => absurd h (by decide))
    refine lv_iconst (v := 0) hx hb dX12_degrees_18 (by decide) ?_
    exact W.zret (v := 0) hx hb hr rfl (fun t ht hW => ⟨⟨0, (), rfl, (if_neg (by omega)).symm, trivial⟩, hS.F ht⟩) hS.2.2 dX12_degrees_19
set_option maxRecDepth 100000 in
set_option maxHeartbeats 4000000 in
theorem q_M_feast (l : Launch) (D : va_G) (cI cB cZ : ClassId) (g : Nat → Nat) (v0 v1 : Int32) (sz : Nat) : Met l yX12_feast (CWS yX12_feast cX12_feast 3 (some .boolean)) (RM 3 0 0) (PBw [.ref (g 100), .int v0, .int v1] D cI cB cZ [((g 100), .inr (13, oM g)), ((g 41), .inl (cI, 400, .inl (fun _ => 0)))] sz) (va_Qi (fun (r : Int32) (_ : Unit) => r = (if 0 ≤ v0.toInt ∧ v0.toInt ≤ 399 ∧ 0 ≤ v1.toInt ∧ v1.toInt ≤ 300 then (1 : Int32) else 0)) (fun (_ : Unit) (_ : State) => True) (va_A [((g 100), .inr (13, oM g)), ((g 41), .inl (cI, 400, .inl (fun _ => 0)))] sz)) 0 0 (va_A [((g 100), .inr (13, oM g)), ((g 41), .inl (cI, 400, .inl (fun _ => 0)))] sz) := by
  refine Met.ofW (cc := cX12_feast) (maxL := 3) (ret := (some .boolean)) (by decide) rfl ?_
  intro p e s m args below meth c s₁ B hml hv
  obtain ⟨rfl, hsz, hP, hK, hD0⟩ := hv
  have hx := B.exec
  have hb := B.bytes
  have hr := B.returns
  have hts := atoms_spec (ws := (CWS yX12_feast cX12_feast 3 (some .boolean))) B.pre
  have hown : s.vm.findClass RX12 = some m.cls := findClass_of_methodNamed B.named
  have hlocks := B.notSynchronized
  have S : SF p m c cX12_feast 3 s ([.ref (g 100), .int v0, .int v1]).toArray RX12 := ⟨hx, hb, hml, hown, fun w h => hts w (List.mem_cons_of_mem _ h)⟩
  subst hsz
  have hD := hD0.self (sz := s.heap.size)
  generalize hAe : va_A [((g 100), .inr (13, oM g)), ((g 41), .inl (cI, 400, .inl (fun _ => 0)))] s.heap.size = A at hD ⊢
  have hA : ∀ q : Nat, s.heap.size ≤ q → A q := fun q h => by rw [← hAe]; exact Or.inr h
  have hS : va_S A s.heap s.heap [] := va_S.rf
  have hP : va_P D vwCl [((g 100), .inr (13, oM g)), ((g 41), .inl (cI, 400, .inl (fun _ => 0)))] s.heap := hP
  have hD : va_D A [((g 100), .inr (13, oM g)), ((g 41), .inl (cI, 400, .inl (fun _ => 0)))] := hD
  have hl := lv_entry ([.ref (g 100), .int v0, .int v1]) (n := 3) (Nat.le_of_ble_eq_true rfl)
  rw [lg_entry_eq]
  generalize (lg_sl ([.ref (g 100), .int v0, .int v1]) ++ List.replicate (3 - (lg_sl ([.ref (g 100), .int v0, .int v1])).length) Slot.unset).toArray = ls at hl ⊢
  have hl : lv_has ls 3 [(0, .ref (g 100)), (1, .int v0), (2, .int v1)] := hl
  refine lv_iload_n hx hb dX12_feast_0 rfl (lv_at hl 1 rfl) ?_
  refine vp_callSi (runS_r (As := [.int v0]) (rest := []) S (q_misDay l D cI cB cZ v0) kS_RX12_341 hK hP [] rfl ⟨Nat.le_of_ble_eq_true rfl, Nat.le_of_ble_eq_true rfl⟩ ⟨Nat.le_of_ble_eq_true rfl, Nat.le_of_ble_eq_true rfl⟩ rfl hl.1 rfl (Nat.le_of_ble_eq_true rfl) dX12_feast_1) (fun r_1 h_2 => ?_)
  rcases h_2 with ⟨rfl, h_2⟩ | ⟨rfl, h_2⟩
  ·
    have h_2 : 0 ≤ v0.toInt ∧ v0.toInt ≤ 399 := h_2
    refine lv_if_eq (tgt := 18) hx hb dX12_feast_4 (by decide) (fun h => absurd h (by decide)) (fun _ => ?_)
    refine lv_iload_n hx hb dX12_feast_7 rfl (lv_at hl 2 rfl) ?_
    refine lv_iconst (v := 0) hx hb dX12_feast_8 (by decide) ?_
    refine lv_sipush (v := 300) hx hb dX12_feast_9 (by decide) ?_
    refine vp_callSi (runS_r (As := [.int v1, .int 0, .int 300]) (rest := []) S (q_in l D cI cB cZ v1 0 300) kS_RX12_214 hK hP [] rfl ⟨Nat.le_of_ble_eq_true rfl, Nat.le_of_ble_eq_true rfl⟩ ⟨Nat.le_of_ble_eq_true rfl, Nat.le_of_ble_eq_true rfl⟩ rfl hl.1 rfl (Nat.le_of_ble_eq_true rfl) dX12_feast_12) (fun r_3 h_4 => ?_)
    rcases h_4 with ⟨rfl, h_4⟩ | ⟨rfl, h_4⟩
    ·
      have h_4 : 0 ≤ v1.toInt ∧ v1.toInt ≤ 300 := h_4
      refine lv_if_ne (tgt := 20) hx hb dX12_feast_15 (by decide) (fun _ => ?_) (fun h => absurd h (by decide))
      refine lv_aload_n hx hb dX12_feast_20 rfl (lv_at hl 0 rfl) ?_
      refine gf_RX12_98 S hK hP 0 rfl (v := .ref (g 41)) rfl dX12_feast_21 ?_
      refine lv_iload_n hx hb dX12_feast_24 rfl (lv_at hl 1 rfl) ?_
      refine lv_iload_n hx hb dX12_feast_25 rfl (lv_at hl 2 rfl) ?_
      refine va_iast hx hb hK.1 hP hD hS 1 0 rfl rfl (vp_in_iff.mpr ⟨by omega, by omega⟩) dX12_feast_26 (fun H locs hP hD hS => ?_)
      have hP : va_P D vwCl [((g 100), .inr (13, oM g)), ((g 41), .inl (cI, 400, .inl (upd (fun _ => 0) v0.toNatClampNeg v1)))] H := hP
      have hD : va_D A [((g 100), .inr (13, oM g)), ((g 41), .inl (cI, 400, .inl (upd (fun _ => 0) v0.toNatClampNeg v1)))] := hD
      refine lv_iconst (v := 1) hx hb dX12_feast_27 (by decide) ?_
      exact W.zret (v := 1) hx hb hr rfl (fun t ht hW => ⟨⟨1, (), rfl, (if_pos (by omega)).symm, trivial⟩, hS.F ht⟩) hS.2.2 dX12_feast_28
    ·
      have h_4 : ¬ (0 ≤ v1.toInt ∧ v1.toInt ≤ 300) := h_4
      refine lv_if_ne (tgt := 20) hx hb dX12_feast_15 (by decide) (fun h => absurd h (by decide)) (fun _ => ?_)
      refine lv_iconst (v := 0) hx hb dX12_feast_18 (by decide) ?_
      exact W.zret (v := 0) hx hb hr rfl (fun t ht hW => ⟨⟨0, (), rfl, (if_neg (by omega)).symm, trivial⟩, hS.F ht⟩) hS.2.2 dX12_feast_19
  ·
    have h_2 : ¬ (0 ≤ v0.toInt ∧ v0.toInt ≤ 399) := h_2
    refine lv_if_eq (tgt := 18) hx hb dX12_feast_4 (by decide) (fun _ => ?_) (fun h => absurd h (by decide))
    refine lv_iconst (v := 0) hx hb dX12_feast_18 (by decide) ?_
    exact W.zret (v := 0) hx hb hr rfl (fun t ht hW => ⟨⟨0, (), rfl, (if_neg (by omega)).symm, trivial⟩, hS.F ht⟩) hS.2.2 dX12_feast_19
set_option maxRecDepth 100000 in
set_option maxHeartbeats 4000000 in
theorem q_M_use (l : Launch) (D : va_G) (cI cB cZ : ClassId) (g : Nat → Nat) (v0 v1 : Int32) (sz : Nat) : Met l yX12_use (CWS yX12_use cX12_use 3 (some .boolean)) (RM 3 0 0) (PBw [.ref (g 100), .int v0, .int v1] D cI cB cZ [((g 100), .inr (13, oM g)), ((g 76), .inl (cI, 10, .inl (fun _ => 0)))] sz) (va_Qi (fun (r : Int32) (_ : Unit) => r = (if 0 ≤ v0.toInt ∧ v0.toInt ≤ 9 ∧ 0 ≤ v1.toInt ∧ v1.toInt ≤ 3 then (1 : Int32) else 0)) (fun (_ : Unit) (_ : State) => True) (va_A [((g 100), .inr (13, oM g)), ((g 76), .inl (cI, 10, .inl (fun _ => 0)))] sz)) 0 0 (va_A [((g 100), .inr (13, oM g)), ((g 76), .inl (cI, 10, .inl (fun _ => 0)))] sz) := by
  refine Met.ofW (cc := cX12_use) (maxL := 3) (ret := (some .boolean)) (by decide) rfl ?_
  intro p e s m args below meth c s₁ B hml hv
  obtain ⟨rfl, hsz, hP, hK, hD0⟩ := hv
  have hx := B.exec
  have hb := B.bytes
  have hr := B.returns
  have hts := atoms_spec (ws := (CWS yX12_use cX12_use 3 (some .boolean))) B.pre
  have hown : s.vm.findClass RX12 = some m.cls := findClass_of_methodNamed B.named
  have hlocks := B.notSynchronized
  have S : SF p m c cX12_use 3 s ([.ref (g 100), .int v0, .int v1]).toArray RX12 := ⟨hx, hb, hml, hown, fun w h => hts w (List.mem_cons_of_mem _ h)⟩
  subst hsz
  have hD := hD0.self (sz := s.heap.size)
  generalize hAe : va_A [((g 100), .inr (13, oM g)), ((g 76), .inl (cI, 10, .inl (fun _ => 0)))] s.heap.size = A at hD ⊢
  have hA : ∀ q : Nat, s.heap.size ≤ q → A q := fun q h => by rw [← hAe]; exact Or.inr h
  have hS : va_S A s.heap s.heap [] := va_S.rf
  have hP : va_P D vwCl [((g 100), .inr (13, oM g)), ((g 76), .inl (cI, 10, .inl (fun _ => 0)))] s.heap := hP
  have hD : va_D A [((g 100), .inr (13, oM g)), ((g 76), .inl (cI, 10, .inl (fun _ => 0)))] := hD
  have hl := lv_entry ([.ref (g 100), .int v0, .int v1]) (n := 3) (Nat.le_of_ble_eq_true rfl)
  rw [lg_entry_eq]
  generalize (lg_sl ([.ref (g 100), .int v0, .int v1]) ++ List.replicate (3 - (lg_sl ([.ref (g 100), .int v0, .int v1])).length) Slot.unset).toArray = ls at hl ⊢
  have hl : lv_has ls 3 [(0, .ref (g 100)), (1, .int v0), (2, .int v1)] := hl
  refine lv_iload_n hx hb dX12_use_0 rfl (lv_at hl 1 rfl) ?_
  refine lv_iconst (v := 0) hx hb dX12_use_1 (by decide) ?_
  refine lv_bipush (v := 9) hx hb dX12_use_2 (by decide) ?_
  refine vp_callSi (runS_r (As := [.int v0, .int 0, .int 9]) (rest := []) S (q_in l D cI cB cZ v0 0 9) kS_RX12_214 hK hP [] rfl ⟨Nat.le_of_ble_eq_true rfl, Nat.le_of_ble_eq_true rfl⟩ ⟨Nat.le_of_ble_eq_true rfl, Nat.le_of_ble_eq_true rfl⟩ rfl hl.1 rfl (Nat.le_of_ble_eq_true rfl) dX12_use_4) (fun r_1 h_2 => ?_)
  rcases h_2 with ⟨rfl, h_2⟩ | ⟨rfl, h_2⟩
  ·
    have h_2 : 0 ≤ v0.toInt ∧ v0.toInt ≤ 9 := h_2
    refine lv_if_eq (tgt := 19) hx hb dX12_use_7 (by decide) (fun h => absurd h (by decide)) (fun _ => ?_)
    refine lv_iload_n hx hb dX12_use_10 rfl (lv_at hl 2 rfl) ?_
    refine lv_iconst (v := 0) hx hb dX12_use_11 (by decide) ?_
    refine lv_iconst (v := 3) hx hb dX12_use_12 (by decide) ?_
    refine vp_callSi (runS_r (As := [.int v1, .int 0, .int 3]) (rest := []) S (q_in l D cI cB cZ v1 0 3) kS_RX12_214 hK hP [] rfl ⟨Nat.le_of_ble_eq_true rfl, Nat.le_of_ble_eq_true rfl⟩ ⟨Nat.le_of_ble_eq_true rfl, Nat.le_of_ble_eq_true rfl⟩ rfl hl.1 rfl (Nat.le_of_ble_eq_true rfl) dX12_use_13) (fun r_3 h_4 => ?_)
    rcases h_4 with ⟨rfl, h_4⟩ | ⟨rfl, h_4⟩
    ·
      have h_4 : 0 ≤ v1.toInt ∧ v1.toInt ≤ 3 := h_4
      refine lv_if_ne (tgt := 21) hx hb dX12_use_16 (by decide) (fun _ => ?_) (fun h => absurd h (by decide))
      refine lv_aload_n hx hb dX12_use_21 rfl (lv_at hl 0 rfl) ?_
      refine gf_RX12_162 S hK hP 0 rfl (v := .ref (g 76)) rfl dX12_use_22 ?_
      refine lv_iload_n hx hb dX12_use_25 rfl (lv_at hl 1 rfl) ?_
      refine lv_iload_n hx hb dX12_use_26 rfl (lv_at hl 2 rfl) ?_
      refine va_iast hx hb hK.1 hP hD hS 1 0 rfl rfl (vp_in_iff.mpr ⟨by omega, by omega⟩) dX12_use_27 (fun H locs hP hD hS => ?_)
      have hP : va_P D vwCl [((g 100), .inr (13, oM g)), ((g 76), .inl (cI, 10, .inl (upd (fun _ => 0) v0.toNatClampNeg v1)))] H := hP
      have hD : va_D A [((g 100), .inr (13, oM g)), ((g 76), .inl (cI, 10, .inl (upd (fun _ => 0) v0.toNatClampNeg v1)))] := hD
      refine lv_iconst (v := 1) hx hb dX12_use_28 (by decide) ?_
      exact W.zret (v := 1) hx hb hr rfl (fun t ht hW => ⟨⟨1, (), rfl, (if_pos (by omega)).symm, trivial⟩, hS.F ht⟩) hS.2.2 dX12_use_29
    ·
      have h_4 : ¬ (0 ≤ v1.toInt ∧ v1.toInt ≤ 3) := h_4
      refine lv_if_ne (tgt := 21) hx hb dX12_use_16 (by decide) (fun h => absurd h (by decide)) (fun _ => ?_)
      refine lv_iconst (v := 0) hx hb dX12_use_19 (by decide) ?_
      exact W.zret (v := 0) hx hb hr rfl (fun t ht hW => ⟨⟨0, (), rfl, (if_neg (by omega)).symm, trivial⟩, hS.F ht⟩) hS.2.2 dX12_use_20
  ·
    have h_2 : ¬ (0 ≤ v0.toInt ∧ v0.toInt ≤ 9) := h_2
    refine lv_if_eq (tgt := 19) hx hb dX12_use_7 (by decide) (fun _ => ?_) (fun h => absurd h (by decide))
    refine lv_iconst (v := 0) hx hb dX12_use_19 (by decide) ?_
    exact W.zret (v := 0) hx hb hr rfl (fun t ht hW => ⟨⟨0, (), rfl, (if_neg (by omega)).symm, trivial⟩, hS.F ht⟩) hS.2.2 dX12_use_20
set_option maxRecDepth 100000 in
set_option maxHeartbeats 4000000 in
theorem q_M_most (l : Launch) (D : va_G) (cI cB cZ : ClassId) (g : Nat → Nat) (v0 v1 : Int32) (sz : Nat) : Met l yX12_most (CWS yX12_most cX12_most 3 (some .boolean)) (RM 3 0 0) (PBw [.ref (g 100), .int v0, .int v1] D cI cB cZ [((g 100), .inr (13, oM g)), ((g 78), .inl (cI, 10, .inl (fun _ => 0)))] sz) (va_Qi (fun (r : Int32) (_ : Unit) => r = (if 0 ≤ v0.toInt ∧ v0.toInt ≤ 9 ∧ 0 ≤ v1.toInt ∧ v1.toInt ≤ 100000 then (1 : Int32) else 0)) (fun (_ : Unit) (_ : State) => True) (va_A [((g 100), .inr (13, oM g)), ((g 78), .inl (cI, 10, .inl (fun _ => 0)))] sz)) 0 0 (va_A [((g 100), .inr (13, oM g)), ((g 78), .inl (cI, 10, .inl (fun _ => 0)))] sz) := by
  refine Met.ofW (cc := cX12_most) (maxL := 3) (ret := (some .boolean)) (by decide) rfl ?_
  intro p e s m args below meth c s₁ B hml hv
  obtain ⟨rfl, hsz, hP, hK, hD0⟩ := hv
  have hx := B.exec
  have hb := B.bytes
  have hr := B.returns
  have hts := atoms_spec (ws := (CWS yX12_most cX12_most 3 (some .boolean))) B.pre
  have hown : s.vm.findClass RX12 = some m.cls := findClass_of_methodNamed B.named
  have hlocks := B.notSynchronized
  have S : SF p m c cX12_most 3 s ([.ref (g 100), .int v0, .int v1]).toArray RX12 := ⟨hx, hb, hml, hown, fun w h => hts w (List.mem_cons_of_mem _ h)⟩
  subst hsz
  have hD := hD0.self (sz := s.heap.size)
  generalize hAe : va_A [((g 100), .inr (13, oM g)), ((g 78), .inl (cI, 10, .inl (fun _ => 0)))] s.heap.size = A at hD ⊢
  have hA : ∀ q : Nat, s.heap.size ≤ q → A q := fun q h => by rw [← hAe]; exact Or.inr h
  have hS : va_S A s.heap s.heap [] := va_S.rf
  have hP : va_P D vwCl [((g 100), .inr (13, oM g)), ((g 78), .inl (cI, 10, .inl (fun _ => 0)))] s.heap := hP
  have hD : va_D A [((g 100), .inr (13, oM g)), ((g 78), .inl (cI, 10, .inl (fun _ => 0)))] := hD
  have hl := lv_entry ([.ref (g 100), .int v0, .int v1]) (n := 3) (Nat.le_of_ble_eq_true rfl)
  rw [lg_entry_eq]
  generalize (lg_sl ([.ref (g 100), .int v0, .int v1]) ++ List.replicate (3 - (lg_sl ([.ref (g 100), .int v0, .int v1])).length) Slot.unset).toArray = ls at hl ⊢
  have hl : lv_has ls 3 [(0, .ref (g 100)), (1, .int v0), (2, .int v1)] := hl
  refine lv_iload_n hx hb dX12_most_0 rfl (lv_at hl 1 rfl) ?_
  refine lv_iconst (v := 0) hx hb dX12_most_1 (by decide) ?_
  refine lv_bipush (v := 9) hx hb dX12_most_2 (by decide) ?_
  refine vp_callSi (runS_r (As := [.int v0, .int 0, .int 9]) (rest := []) S (q_in l D cI cB cZ v0 0 9) kS_RX12_214 hK hP [] rfl ⟨Nat.le_of_ble_eq_true rfl, Nat.le_of_ble_eq_true rfl⟩ ⟨Nat.le_of_ble_eq_true rfl, Nat.le_of_ble_eq_true rfl⟩ rfl hl.1 rfl (Nat.le_of_ble_eq_true rfl) dX12_most_4) (fun r_1 h_2 => ?_)
  rcases h_2 with ⟨rfl, h_2⟩ | ⟨rfl, h_2⟩
  ·
    have h_2 : 0 ≤ v0.toInt ∧ v0.toInt ≤ 9 := h_2
    refine lv_if_eq (tgt := 21) hx hb dX12_most_7 (by decide) (fun h => absurd h (by decide)) (fun _ => ?_)
    refine lv_iload_n hx hb dX12_most_10 rfl (lv_at hl 2 rfl) ?_
    refine lv_iconst (v := 0) hx hb dX12_most_11 (by decide) ?_
    refine lv_ldcw (v := 100000) hx hb hown (S.2.2.2.2 _ (wT_tab 1737 rfl rfl)) dX12_most_12 ?_
    refine vp_callSi (runS_r (As := [.int v1, .int 0, .int 100000]) (rest := []) S (q_in l D cI cB cZ v1 0 100000) kS_RX12_214 hK hP [] rfl ⟨Nat.le_of_ble_eq_true rfl, Nat.le_of_ble_eq_true rfl⟩ ⟨Nat.le_of_ble_eq_true rfl, Nat.le_of_ble_eq_true rfl⟩ rfl hl.1 rfl (Nat.le_of_ble_eq_true rfl) dX12_most_15) (fun r_3 h_4 => ?_)
    rcases h_4 with ⟨rfl, h_4⟩ | ⟨rfl, h_4⟩
    ·
      have h_4 : 0 ≤ v1.toInt ∧ v1.toInt ≤ 100000 := h_4
      refine lv_if_ne (tgt := 23) hx hb dX12_most_18 (by decide) (fun _ => ?_) (fun h => absurd h (by decide))
      refine lv_aload_n hx hb dX12_most_23 rfl (lv_at hl 0 rfl) ?_
      refine gf_RX12_168 S hK hP 0 rfl (v := .ref (g 78)) rfl dX12_most_24 ?_
      refine lv_iload_n hx hb dX12_most_27 rfl (lv_at hl 1 rfl) ?_
      refine lv_iload_n hx hb dX12_most_28 rfl (lv_at hl 2 rfl) ?_
      refine va_iast hx hb hK.1 hP hD hS 1 0 rfl rfl (vp_in_iff.mpr ⟨by omega, by omega⟩) dX12_most_29 (fun H locs hP hD hS => ?_)
      have hP : va_P D vwCl [((g 100), .inr (13, oM g)), ((g 78), .inl (cI, 10, .inl (upd (fun _ => 0) v0.toNatClampNeg v1)))] H := hP
      have hD : va_D A [((g 100), .inr (13, oM g)), ((g 78), .inl (cI, 10, .inl (upd (fun _ => 0) v0.toNatClampNeg v1)))] := hD
      refine lv_iconst (v := 1) hx hb dX12_most_30 (by decide) ?_
      exact W.zret (v := 1) hx hb hr rfl (fun t ht hW => ⟨⟨1, (), rfl, (if_pos (by omega)).symm, trivial⟩, hS.F ht⟩) hS.2.2 dX12_most_31
    ·
      have h_4 : ¬ (0 ≤ v1.toInt ∧ v1.toInt ≤ 100000) := h_4
      refine lv_if_ne (tgt := 23) hx hb dX12_most_18 (by decide) (fun h => absurd h (by decide)) (fun _ => ?_)
      refine lv_iconst (v := 0) hx hb dX12_most_21 (by decide) ?_
      exact W.zret (v := 0) hx hb hr rfl (fun t ht hW => ⟨⟨0, (), rfl, (if_neg (by omega)).symm, trivial⟩, hS.F ht⟩) hS.2.2 dX12_most_22
  ·
    have h_2 : ¬ (0 ≤ v0.toInt ∧ v0.toInt ≤ 9) := h_2
    refine lv_if_eq (tgt := 21) hx hb dX12_most_7 (by decide) (fun _ => ?_) (fun h => absurd h (by decide))
    refine lv_iconst (v := 0) hx hb dX12_most_21 (by decide) ?_
    exact W.zret (v := 0) hx hb hr rfl (fun t ht hW => ⟨⟨0, (), rfl, (if_neg (by omega)).symm, trivial⟩, hS.F ht⟩) hS.2.2 dX12_most_22
set_option maxRecDepth 100000 in
set_option maxHeartbeats 4000000 in
theorem q_M_rate (l : Launch) (D : va_G) (cI cB cZ : ClassId) (g : Nat → Nat) (v0 v1 v2 : Int32) (sz : Nat) : Met l yX12_rate (CWS yX12_rate cX12_rate 4 (some .boolean)) (RM 3 0 0) (PBw [.ref (g 100), .int v0, .int v1, .int v2] D cI cB cZ [((g 100), .inr (13, oM g)), ((g 77), .inl (cI, 232, .inl (fun _ => 0)))] sz) (va_Qi (fun (r : Int32) (_ : Unit) => r = (if 0 ≤ v0.toInt ∧ v0.toInt ≤ 3 ∧ 0 ≤ v1.toInt ∧ v1.toInt ≤ 57 ∧ 0 ≤ v2.toInt ∧ v2.toInt ≤ 1000 then (1 : Int32) else 0)) (fun (_ : Unit) (_ : State) => True) (va_A [((g 100), .inr (13, oM g)), ((g 77), .inl (cI, 232, .inl (fun _ => 0)))] sz)) 0 0 (va_A [((g 100), .inr (13, oM g)), ((g 77), .inl (cI, 232, .inl (fun _ => 0)))] sz) := by
  refine Met.ofW (cc := cX12_rate) (maxL := 4) (ret := (some .boolean)) (by decide) rfl ?_
  intro p e s m args below meth c s₁ B hml hv
  obtain ⟨rfl, hsz, hP, hK, hD0⟩ := hv
  have hx := B.exec
  have hb := B.bytes
  have hr := B.returns
  have hts := atoms_spec (ws := (CWS yX12_rate cX12_rate 4 (some .boolean))) B.pre
  have hown : s.vm.findClass RX12 = some m.cls := findClass_of_methodNamed B.named
  have hlocks := B.notSynchronized
  have S : SF p m c cX12_rate 4 s ([.ref (g 100), .int v0, .int v1, .int v2]).toArray RX12 := ⟨hx, hb, hml, hown, fun w h => hts w (List.mem_cons_of_mem _ h)⟩
  subst hsz
  have hD := hD0.self (sz := s.heap.size)
  generalize hAe : va_A [((g 100), .inr (13, oM g)), ((g 77), .inl (cI, 232, .inl (fun _ => 0)))] s.heap.size = A at hD ⊢
  have hA : ∀ q : Nat, s.heap.size ≤ q → A q := fun q h => by rw [← hAe]; exact Or.inr h
  have hS : va_S A s.heap s.heap [] := va_S.rf
  have hP : va_P D vwCl [((g 100), .inr (13, oM g)), ((g 77), .inl (cI, 232, .inl (fun _ => 0)))] s.heap := hP
  have hD : va_D A [((g 100), .inr (13, oM g)), ((g 77), .inl (cI, 232, .inl (fun _ => 0)))] := hD
  have hl := lv_entry ([.ref (g 100), .int v0, .int v1, .int v2]) (n := 4) (Nat.le_of_ble_eq_true rfl)
  rw [lg_entry_eq]
  generalize (lg_sl ([.ref (g 100), .int v0, .int v1, .int v2]) ++ List.replicate (4 - (lg_sl ([.ref (g 100), .int v0, .int v1, .int v2])).length) Slot.unset).toArray = ls at hl ⊢
  have hl : lv_has ls 4 [(0, .ref (g 100)), (1, .int v0), (2, .int v1), (3, .int v2)] := hl
  refine lv_iload_n hx hb dX12_rate_0 rfl (lv_at hl 1 rfl) ?_
  refine lv_iconst (v := 0) hx hb dX12_rate_1 (by decide) ?_
  refine lv_iconst (v := 3) hx hb dX12_rate_2 (by decide) ?_
  refine vp_callSi (runS_r (As := [.int v0, .int 0, .int 3]) (rest := []) S (q_in l D cI cB cZ v0 0 3) kS_RX12_214 hK hP [] rfl ⟨Nat.le_of_ble_eq_true rfl, Nat.le_of_ble_eq_true rfl⟩ ⟨Nat.le_of_ble_eq_true rfl, Nat.le_of_ble_eq_true rfl⟩ rfl hl.1 rfl (Nat.le_of_ble_eq_true rfl) dX12_rate_3) (fun r_1 h_2 => ?_)
  rcases h_2 with ⟨rfl, h_2⟩ | ⟨rfl, h_2⟩
  ·
    have h_2 : 0 ≤ v0.toInt ∧ v0.toInt ≤ 3 := h_2
    refine lv_if_eq (tgt := 30) hx hb dX12_rate_6 (by decide) (fun h => absurd h (by decide)) (fun _ => ?_)
    refine lv_iload_n hx hb dX12_rate_9 rfl (lv_at hl 2 rfl) ?_
    refine lv_iconst (v := 0) hx hb dX12_rate_10 (by decide) ?_
    refine lv_bipush (v := 57) hx hb dX12_rate_11 (by decide) ?_
    refine vp_callSi (runS_r (As := [.int v1, .int 0, .int 57]) (rest := []) S (q_in l D cI cB cZ v1 0 57) kS_RX12_214 hK hP [] rfl ⟨Nat.le_of_ble_eq_true rfl, Nat.le_of_ble_eq_true rfl⟩ ⟨Nat.le_of_ble_eq_true rfl, Nat.le_of_ble_eq_true rfl⟩ rfl hl.1 rfl (Nat.le_of_ble_eq_true rfl) dX12_rate_13) (fun r_3 h_4 => ?_)
    rcases h_4 with ⟨rfl, h_4⟩ | ⟨rfl, h_4⟩
    ·
      have h_4 : 0 ≤ v1.toInt ∧ v1.toInt ≤ 57 := h_4
      refine lv_if_eq (tgt := 30) hx hb dX12_rate_16 (by decide) (fun h => absurd h (by decide)) (fun _ => ?_)
      refine lv_iload_n hx hb dX12_rate_19 rfl (lv_at hl 3 rfl) ?_
      refine lv_iconst (v := 0) hx hb dX12_rate_20 (by decide) ?_
      refine lv_sipush (v := 1000) hx hb dX12_rate_21 (by decide) ?_
      refine vp_callSi (runS_r (As := [.int v2, .int 0, .int 1000]) (rest := []) S (q_in l D cI cB cZ v2 0 1000) kS_RX12_214 hK hP [] rfl ⟨Nat.le_of_ble_eq_true rfl, Nat.le_of_ble_eq_true rfl⟩ ⟨Nat.le_of_ble_eq_true rfl, Nat.le_of_ble_eq_true rfl⟩ rfl hl.1 rfl (Nat.le_of_ble_eq_true rfl) dX12_rate_24) (fun r_5 h_6 => ?_)
      rcases h_6 with ⟨rfl, h_6⟩ | ⟨rfl, h_6⟩
      ·
        have h_6 : 0 ≤ v2.toInt ∧ v2.toInt ≤ 1000 := h_6
        refine lv_if_ne (tgt := 32) hx hb dX12_rate_27 (by decide) (fun _ => ?_) (fun h => absurd h (by decide))
        refine lv_aload_n hx hb dX12_rate_32 rfl (lv_at hl 0 rfl) ?_
        refine gf_RX12_165 S hK hP 0 rfl (v := .ref (g 77)) rfl dX12_rate_33 ?_
        refine lv_bipush (v := 58) hx hb dX12_rate_36 (by decide) ?_
        refine lv_iload_n hx hb dX12_rate_38 rfl (lv_at hl 1 rfl) ?_
        refine lv_imul hx hb dX12_rate_39 ?_
        refine lv_iload_n hx hb dX12_rate_40 rfl (lv_at hl 2 rfl) ?_
        refine lv_iadd hx hb dX12_rate_41 ?_
        refine lv_iload_n hx hb dX12_rate_42 rfl (lv_at hl 3 rfl) ?_
        refine va_iast hx hb hK.1 hP hD hS 1 0 rfl rfl (vp_in_iff.mpr (by have t := idx58b (x := v0) (y := v1) (by omega) (by omega); constructor <;> omega)) dX12_rate_43 (fun H locs hP hD hS => ?_)
        have hP : va_P D vwCl [((g 100), .inr (13, oM g)), ((g 77), .inl (cI, 232, .inl (upd (fun _ => 0) ((58 * v0) + v1).toNatClampNeg v2)))] H := hP
        have hD : va_D A [((g 100), .inr (13, oM g)), ((g 77), .inl (cI, 232, .inl (upd (fun _ => 0) ((58 * v0) + v1).toNatClampNeg v2)))] := hD
        refine lv_iconst (v := 1) hx hb dX12_rate_44 (by decide) ?_
        exact W.zret (v := 1) hx hb hr rfl (fun t ht hW => ⟨⟨1, (), rfl, (if_pos (by omega)).symm, trivial⟩, hS.F ht⟩) hS.2.2 dX12_rate_45
      ·
        have h_6 : ¬ (0 ≤ v2.toInt ∧ v2.toInt ≤ 1000) := h_6
        refine lv_if_ne (tgt := 32) hx hb dX12_rate_27 (by decide) (fun h => absurd h (by decide)) (fun _ => ?_)
        refine lv_iconst (v := 0) hx hb dX12_rate_30 (by decide) ?_
        exact W.zret (v := 0) hx hb hr rfl (fun t ht hW => ⟨⟨0, (), rfl, (if_neg (by omega)).symm, trivial⟩, hS.F ht⟩) hS.2.2 dX12_rate_31
    ·
      have h_4 : ¬ (0 ≤ v1.toInt ∧ v1.toInt ≤ 57) := h_4
      refine lv_if_eq (tgt := 30) hx hb dX12_rate_16 (by decide) (fun _ => ?_) (fun h => absurd h (by decide))
      refine lv_iconst (v := 0) hx hb dX12_rate_30 (by decide) ?_
      exact W.zret (v := 0) hx hb hr rfl (fun t ht hW => ⟨⟨0, (), rfl, (if_neg (by omega)).symm, trivial⟩, hS.F ht⟩) hS.2.2 dX12_rate_31
  ·
    have h_2 : ¬ (0 ≤ v0.toInt ∧ v0.toInt ≤ 3) := h_2
    refine lv_if_eq (tgt := 30) hx hb dX12_rate_6 (by decide) (fun _ => ?_) (fun h => absurd h (by decide))
    refine lv_iconst (v := 0) hx hb dX12_rate_30 (by decide) ?_
    exact W.zret (v := 0) hx hb hr rfl (fun t ht hW => ⟨⟨0, (), rfl, (if_neg (by omega)).symm, trivial⟩, hS.F ht⟩) hS.2.2 dX12_rate_31
set_option maxRecDepth 100000 in
set_option maxHeartbeats 4000000 in
theorem q_mtypes (l : Launch) (D : va_G) (cI cB cZ : ClassId) (g : Nat → Nat) (k0 : Nat) (f : Nat → Int32) (v0 : Int32) (sz : Nat) (h4 : k0 + 4 ≤ 200) : Met l yX12_types (CWS yX12_types cX12_types 3 none) (RM 0 0 0) (PBw [.ref (g 100), .int v0] D cI cB cZ [((g 100), .inr (13, oMt g (nI k0))), ((g 17), .inl (cB, 200, .inl f))] sz) (va_Qv (fun (_ : Nat → Int32) => True) (fun (u : Nat → Int32) (t : State) => va_P D vwCl [((g 100), .inr (13, oMt g (nI (k0 + 4)))), ((g 17), .inl (cB, 200, .inl u))] t.heap ∧ va_D (va_A [((g 100), .inr (13, oMt g (nI k0))), ((g 17), .inl (cB, 200, .inl f))] sz) [((g 100), .inr (13, oMt g (nI (k0 + 4)))), ((g 17), .inl (cB, 200, .inl u))]) (va_A [((g 100), .inr (13, oMt g (nI k0))), ((g 17), .inl (cB, 200, .inl f))] sz)) 0 0 (va_A [((g 100), .inr (13, oMt g (nI k0))), ((g 17), .inl (cB, 200, .inl f))] sz) := by
  refine Met.ofW (cc := cX12_types) (maxL := 3) (ret := none) (by decide) rfl ?_
  intro p e s m args below meth c s₁ B hml hv
  obtain ⟨rfl, hsz, hP, hK, hD0⟩ := hv
  have hx := B.exec
  have hb := B.bytes
  have hr := B.returns
  have hts := atoms_spec (ws := (CWS yX12_types cX12_types 3 none)) B.pre
  have hown : s.vm.findClass RX12 = some m.cls := findClass_of_methodNamed B.named
  have hlocks := B.notSynchronized
  have S : SF p m c cX12_types 3 s ([.ref (g 100), .int v0]).toArray RX12 := ⟨hx, hb, hml, hown, fun w h => hts w (List.mem_cons_of_mem _ h)⟩
  subst hsz
  have hD := hD0.self (sz := s.heap.size)
  generalize hAe : va_A [((g 100), .inr (13, oMt g (nI k0))), ((g 17), .inl (cB, 200, .inl f))] s.heap.size = A at hD ⊢
  have hA : ∀ q : Nat, s.heap.size ≤ q → A q := fun q h => by rw [← hAe]; exact Or.inr h
  have hS : va_S A s.heap s.heap [] := va_S.rf
  have hP : va_P D vwCl [((g 100), .inr (13, oMt g (nI k0))), ((g 17), .inl (cB, 200, .inl f))] s.heap := hP
  have hD : va_D A [((g 100), .inr (13, oMt g (nI k0))), ((g 17), .inl (cB, 200, .inl f))] := hD
  have hl := lv_entry ([.ref (g 100), .int v0]) (n := 3) (Nat.le_of_ble_eq_true rfl)
  rw [lg_entry_eq]
  generalize (lg_sl ([.ref (g 100), .int v0]) ++ List.replicate (3 - (lg_sl ([.ref (g 100), .int v0])).length) Slot.unset).toArray = ls at hl ⊢
  have hl : lv_has ls 3 [(0, .ref (g 100)), (1, .int v0)] := hl
  refine lv_iconst (v := 3) hx hb dX12_types_0 (by decide) ?_
  refine lv_istore_n (lv' := [(2, .int 3), (0, .ref (g 100)), (1, .int v0)]) hx hb dX12_types_1 rfl hl (by decide) rfl (fun ls hl => ?_)
  refine lv_iload_n hx hb dX12_types_2 rfl (lv_at hl 0 rfl) ?_
  refine lv_if_lt (tgt := 38) hx hb dX12_types_3 (by decide) (fun h => absurd h (by decide)) (fun _ => ?_)
  refine lv_aload_n hx hb dX12_types_6 rfl (lv_at hl 1 rfl) ?_
  refine gf_RX12_52 S hK hP 0 rfl (v := .ref (g 17)) rfl dX12_types_7 ?_
  refine lv_aload_n hx hb dX12_types_10 rfl (lv_at hl 1 rfl) ?_
  refine gf_RX12_226 S hK hP 0 rfl (v := .int (nI k0)) rfl dX12_types_11 ?_
  refine lv_iload_n hx hb dX12_types_14 rfl (lv_at hl 2 rfl) ?_
  refine lv_bipush (v := 8) hx hb dX12_types_15 (by decide) ?_
  refine lv_iload_n hx hb dX12_types_17 rfl (lv_at hl 0 rfl) ?_
  refine lv_imul hx hb dX12_types_18 ?_
  refine lv_topi (fun y_1 ey_1 => ?_)
  obtain rfl : y_1 = 24 := ey_1.trans (by decide)
  refine lv_ishr hx hb dX12_types_19 ?_
  refine lv_i2b (v := (v0 >>> (24 &&& 31)).toInt8.toInt32) hx hb dX12_types_20 rfl ?_
  refine va_bast hx hb hK.1 hP hD hS 1 1 rfl rfl (vp_in_nI (by omega) (by omega)) dX12_types_21 (fun H locs hP hD hS => ?_)
  have hP : va_P D vwCl [((g 100), .inr (13, oMt g (nI k0))), ((g 17), .inl (cB, 200, .inl (upd f (nI k0).toNatClampNeg (vp_nar .byte (v0 >>> (24 &&& 31)).toInt8.toInt32))))] H := hP
  have hD : va_D A [((g 100), .inr (13, oMt g (nI k0))), ((g 17), .inl (cB, 200, .inl (upd f (nI k0).toNatClampNeg (vp_nar .byte (v0 >>> (24 &&& 31)).toInt8.toInt32))))] := hD
  refine lv_aload_n hx hb dX12_types_22 rfl (lv_at hl 1 rfl) ?_
  refine lv_aload_n hx hb dX12_types_23 rfl (lv_at hl 1 rfl) ?_
  refine gf_RX12_226 S hK hP 0 rfl (v := .int (nI k0)) rfl dX12_types_24 ?_
  refine lv_iconst (v := 1) hx hb dX12_types_27 (by decide) ?_
  refine lv_iadd hx hb dX12_types_28 ?_
  refine lv_topi (fun y_2 ey_2 => ?_)
  obtain rfl : y_2 = (nI (k0 + 1)) := ey_2.trans (nI_1 _)
  refine pf_RX12_226 S hK hP hD hS 0 rfl (v := .int (nI (k0 + 1))) (Nat.le_of_ble_eq_true rfl) rfl rfl dX12_types_29 (fun H locs hP hD hS => ?_)
  have hP : va_P D vwCl [((g 100), .inr (13, oMt g (nI (k0 + 1)))), ((g 17), .inl (cB, 200, .inl (upd f (nI k0).toNatClampNeg (vp_nar .byte (v0 >>> (24 &&& 31)).toInt8.toInt32))))] H := hP
  have hD : va_D A [((g 100), .inr (13, oMt g (nI (k0 + 1)))), ((g 17), .inl (cB, 200, .inl (upd f (nI k0).toNatClampNeg (vp_nar .byte (v0 >>> (24 &&& 31)).toInt8.toInt32))))] := hD
  refine lv_iinc (v := 2) (lv' := [(2, .int 2), (0, .ref (g 100)), (1, .int v0)]) hx hb dX12_types_32 hl (k := 0) rfl (by decide) (by decide) rfl (fun ls hl => ?_)
  refine lv_goto (tgt := 2) hx hb dX12_types_35 (by decide) ?_
  refine lv_iload_n hx hb dX12_types_2 rfl (lv_at hl 0 rfl) ?_
  refine lv_if_lt (tgt := 38) hx hb dX12_types_3 (by decide) (fun h => absurd h (by decide)) (fun _ => ?_)
  refine lv_aload_n hx hb dX12_types_6 rfl (lv_at hl 1 rfl) ?_
  refine gf_RX12_52 S hK hP 0 rfl (v := .ref (g 17)) rfl dX12_types_7 ?_
  refine lv_aload_n hx hb dX12_types_10 rfl (lv_at hl 1 rfl) ?_
  refine gf_RX12_226 S hK hP 0 rfl (v := .int (nI (k0 + 1))) rfl dX12_types_11 ?_
  refine lv_iload_n hx hb dX12_types_14 rfl (lv_at hl 2 rfl) ?_
  refine lv_bipush (v := 8) hx hb dX12_types_15 (by decide) ?_
  refine lv_iload_n hx hb dX12_types_17 rfl (lv_at hl 0 rfl) ?_
  refine lv_imul hx hb dX12_types_18 ?_
  refine lv_topi (fun y_3 ey_3 => ?_)
  obtain rfl : y_3 = 16 := ey_3.trans (by decide)
  refine lv_ishr hx hb dX12_types_19 ?_
  refine lv_i2b (v := (v0 >>> (16 &&& 31)).toInt8.toInt32) hx hb dX12_types_20 rfl ?_
  refine va_bast hx hb hK.1 hP hD hS 1 1 rfl rfl (vp_in_nI (by omega) (by omega)) dX12_types_21 (fun H locs hP hD hS => ?_)
  have hP : va_P D vwCl [((g 100), .inr (13, oMt g (nI (k0 + 1)))), ((g 17), .inl (cB, 200, .inl (upd (upd f (nI k0).toNatClampNeg (vp_nar .byte (v0 >>> (24 &&& 31)).toInt8.toInt32)) (nI (k0 + 1)).toNatClampNeg (vp_nar .byte (v0 >>> (16 &&& 31)).toInt8.toInt32))))] H := hP
  have hD : va_D A [((g 100), .inr (13, oMt g (nI (k0 + 1)))), ((g 17), .inl (cB, 200, .inl (upd (upd f (nI k0).toNatClampNeg (vp_nar .byte (v0 >>> (24 &&& 31)).toInt8.toInt32)) (nI (k0 + 1)).toNatClampNeg (vp_nar .byte (v0 >>> (16 &&& 31)).toInt8.toInt32))))] := hD
  refine lv_aload_n hx hb dX12_types_22 rfl (lv_at hl 1 rfl) ?_
  refine lv_aload_n hx hb dX12_types_23 rfl (lv_at hl 1 rfl) ?_
  refine gf_RX12_226 S hK hP 0 rfl (v := .int (nI (k0 + 1))) rfl dX12_types_24 ?_
  refine lv_iconst (v := 1) hx hb dX12_types_27 (by decide) ?_
  refine lv_iadd hx hb dX12_types_28 ?_
  refine lv_topi (fun y_4 ey_4 => ?_)
  obtain rfl : y_4 = (nI (k0 + 2)) := ey_4.trans (nI_1 _)
  refine pf_RX12_226 S hK hP hD hS 0 rfl (v := .int (nI (k0 + 2))) (Nat.le_of_ble_eq_true rfl) rfl rfl dX12_types_29 (fun H locs hP hD hS => ?_)
  have hP : va_P D vwCl [((g 100), .inr (13, oMt g (nI (k0 + 2)))), ((g 17), .inl (cB, 200, .inl (upd (upd f (nI k0).toNatClampNeg (vp_nar .byte (v0 >>> (24 &&& 31)).toInt8.toInt32)) (nI (k0 + 1)).toNatClampNeg (vp_nar .byte (v0 >>> (16 &&& 31)).toInt8.toInt32))))] H := hP
  have hD : va_D A [((g 100), .inr (13, oMt g (nI (k0 + 2)))), ((g 17), .inl (cB, 200, .inl (upd (upd f (nI k0).toNatClampNeg (vp_nar .byte (v0 >>> (24 &&& 31)).toInt8.toInt32)) (nI (k0 + 1)).toNatClampNeg (vp_nar .byte (v0 >>> (16 &&& 31)).toInt8.toInt32))))] := hD
  refine lv_iinc (v := 1) (lv' := [(2, .int 1), (0, .ref (g 100)), (1, .int v0)]) hx hb dX12_types_32 hl (k := 0) rfl (by decide) (by decide) rfl (fun ls hl => ?_)
  refine lv_goto (tgt := 2) hx hb dX12_types_35 (by decide) ?_
  refine lv_iload_n hx hb dX12_types_2 rfl (lv_at hl 0 rfl) ?_
  refine lv_if_lt (tgt := 38) hx hb dX12_types_3 (by decide) (fun h => absurd h (by decide)) (fun _ => ?_)
  refine lv_aload_n hx hb dX12_types_6 rfl (lv_at hl 1 rfl) ?_
  refine gf_RX12_52 S hK hP 0 rfl (v := .ref (g 17)) rfl dX12_types_7 ?_
  refine lv_aload_n hx hb dX12_types_10 rfl (lv_at hl 1 rfl) ?_
  refine gf_RX12_226 S hK hP 0 rfl (v := .int (nI (k0 + 2))) rfl dX12_types_11 ?_
  refine lv_iload_n hx hb dX12_types_14 rfl (lv_at hl 2 rfl) ?_
  refine lv_bipush (v := 8) hx hb dX12_types_15 (by decide) ?_
  refine lv_iload_n hx hb dX12_types_17 rfl (lv_at hl 0 rfl) ?_
  refine lv_imul hx hb dX12_types_18 ?_
  refine lv_topi (fun y_5 ey_5 => ?_)
  obtain rfl : y_5 = 8 := ey_5.trans (by decide)
  refine lv_ishr hx hb dX12_types_19 ?_
  refine lv_i2b (v := (v0 >>> (8 &&& 31)).toInt8.toInt32) hx hb dX12_types_20 rfl ?_
  refine va_bast hx hb hK.1 hP hD hS 1 1 rfl rfl (vp_in_nI (by omega) (by omega)) dX12_types_21 (fun H locs hP hD hS => ?_)
  have hP : va_P D vwCl [((g 100), .inr (13, oMt g (nI (k0 + 2)))), ((g 17), .inl (cB, 200, .inl (upd (upd (upd f (nI k0).toNatClampNeg (vp_nar .byte (v0 >>> (24 &&& 31)).toInt8.toInt32)) (nI (k0 + 1)).toNatClampNeg (vp_nar .byte (v0 >>> (16 &&& 31)).toInt8.toInt32)) (nI (k0 + 2)).toNatClampNeg (vp_nar .byte (v0 >>> (8 &&& 31)).toInt8.toInt32))))] H := hP
  have hD : va_D A [((g 100), .inr (13, oMt g (nI (k0 + 2)))), ((g 17), .inl (cB, 200, .inl (upd (upd (upd f (nI k0).toNatClampNeg (vp_nar .byte (v0 >>> (24 &&& 31)).toInt8.toInt32)) (nI (k0 + 1)).toNatClampNeg (vp_nar .byte (v0 >>> (16 &&& 31)).toInt8.toInt32)) (nI (k0 + 2)).toNatClampNeg (vp_nar .byte (v0 >>> (8 &&& 31)).toInt8.toInt32))))] := hD
  refine lv_aload_n hx hb dX12_types_22 rfl (lv_at hl 1 rfl) ?_
  refine lv_aload_n hx hb dX12_types_23 rfl (lv_at hl 1 rfl) ?_
  refine gf_RX12_226 S hK hP 0 rfl (v := .int (nI (k0 + 2))) rfl dX12_types_24 ?_
  refine lv_iconst (v := 1) hx hb dX12_types_27 (by decide) ?_
  refine lv_iadd hx hb dX12_types_28 ?_
  refine lv_topi (fun y_6 ey_6 => ?_)
  obtain rfl : y_6 = (nI (k0 + 3)) := ey_6.trans (nI_1 _)
  refine pf_RX12_226 S hK hP hD hS 0 rfl (v := .int (nI (k0 + 3))) (Nat.le_of_ble_eq_true rfl) rfl rfl dX12_types_29 (fun H locs hP hD hS => ?_)
  have hP : va_P D vwCl [((g 100), .inr (13, oMt g (nI (k0 + 3)))), ((g 17), .inl (cB, 200, .inl (upd (upd (upd f (nI k0).toNatClampNeg (vp_nar .byte (v0 >>> (24 &&& 31)).toInt8.toInt32)) (nI (k0 + 1)).toNatClampNeg (vp_nar .byte (v0 >>> (16 &&& 31)).toInt8.toInt32)) (nI (k0 + 2)).toNatClampNeg (vp_nar .byte (v0 >>> (8 &&& 31)).toInt8.toInt32))))] H := hP
  have hD : va_D A [((g 100), .inr (13, oMt g (nI (k0 + 3)))), ((g 17), .inl (cB, 200, .inl (upd (upd (upd f (nI k0).toNatClampNeg (vp_nar .byte (v0 >>> (24 &&& 31)).toInt8.toInt32)) (nI (k0 + 1)).toNatClampNeg (vp_nar .byte (v0 >>> (16 &&& 31)).toInt8.toInt32)) (nI (k0 + 2)).toNatClampNeg (vp_nar .byte (v0 >>> (8 &&& 31)).toInt8.toInt32))))] := hD
  refine lv_iinc (v := 0) (lv' := [(2, .int 0), (0, .ref (g 100)), (1, .int v0)]) hx hb dX12_types_32 hl (k := 0) rfl (by decide) (by decide) rfl (fun ls hl => ?_)
  refine lv_goto (tgt := 2) hx hb dX12_types_35 (by decide) ?_
  refine lv_iload_n hx hb dX12_types_2 rfl (lv_at hl 0 rfl) ?_
  refine lv_if_lt (tgt := 38) hx hb dX12_types_3 (by decide) (fun h => absurd h (by decide)) (fun _ => ?_)
  refine lv_aload_n hx hb dX12_types_6 rfl (lv_at hl 1 rfl) ?_
  refine gf_RX12_52 S hK hP 0 rfl (v := .ref (g 17)) rfl dX12_types_7 ?_
  refine lv_aload_n hx hb dX12_types_10 rfl (lv_at hl 1 rfl) ?_
  refine gf_RX12_226 S hK hP 0 rfl (v := .int (nI (k0 + 3))) rfl dX12_types_11 ?_
  refine lv_iload_n hx hb dX12_types_14 rfl (lv_at hl 2 rfl) ?_
  refine lv_bipush (v := 8) hx hb dX12_types_15 (by decide) ?_
  refine lv_iload_n hx hb dX12_types_17 rfl (lv_at hl 0 rfl) ?_
  refine lv_imul hx hb dX12_types_18 ?_
  refine lv_topi (fun y_7 ey_7 => ?_)
  obtain rfl : y_7 = 0 := ey_7.trans (by decide)
  refine lv_ishr hx hb dX12_types_19 ?_
  refine lv_i2b (v := (v0 >>> (0 &&& 31)).toInt8.toInt32) hx hb dX12_types_20 rfl ?_
  refine va_bast hx hb hK.1 hP hD hS 1 1 rfl rfl (vp_in_nI (by omega) (by omega)) dX12_types_21 (fun H locs hP hD hS => ?_)
  have hP : va_P D vwCl [((g 100), .inr (13, oMt g (nI (k0 + 3)))), ((g 17), .inl (cB, 200, .inl (upd (upd (upd (upd f (nI k0).toNatClampNeg (vp_nar .byte (v0 >>> (24 &&& 31)).toInt8.toInt32)) (nI (k0 + 1)).toNatClampNeg (vp_nar .byte (v0 >>> (16 &&& 31)).toInt8.toInt32)) (nI (k0 + 2)).toNatClampNeg (vp_nar .byte (v0 >>> (8 &&& 31)).toInt8.toInt32)) (nI (k0 + 3)).toNatClampNeg (vp_nar .byte (v0 >>> (0 &&& 31)).toInt8.toInt32))))] H := hP
  have hD : va_D A [((g 100), .inr (13, oMt g (nI (k0 + 3)))), ((g 17), .inl (cB, 200, .inl (upd (upd (upd (upd f (nI k0).toNatClampNeg (vp_nar .byte (v0 >>> (24 &&& 31)).toInt8.toInt32)) (nI (k0 + 1)).toNatClampNeg (vp_nar .byte (v0 >>> (16 &&& 31)).toInt8.toInt32)) (nI (k0 + 2)).toNatClampNeg (vp_nar .byte (v0 >>> (8 &&& 31)).toInt8.toInt32)) (nI (k0 + 3)).toNatClampNeg (vp_nar .byte (v0 >>> (0 &&& 31)).toInt8.toInt32))))] := hD
  refine lv_aload_n hx hb dX12_types_22 rfl (lv_at hl 1 rfl) ?_
  refine lv_aload_n hx hb dX12_types_23 rfl (lv_at hl 1 rfl) ?_
  refine gf_RX12_226 S hK hP 0 rfl (v := .int (nI (k0 + 3))) rfl dX12_types_24 ?_
  refine lv_iconst (v := 1) hx hb dX12_types_27 (by decide) ?_
  refine lv_iadd hx hb dX12_types_28 ?_
  refine lv_topi (fun y_8 ey_8 => ?_)
  obtain rfl : y_8 = (nI (k0 + 4)) := ey_8.trans (nI_1 _)
  refine pf_RX12_226 S hK hP hD hS 0 rfl (v := .int (nI (k0 + 4))) (Nat.le_of_ble_eq_true rfl) rfl rfl dX12_types_29 (fun H locs hP hD hS => ?_)
  have hP : va_P D vwCl [((g 100), .inr (13, oMt g (nI (k0 + 4)))), ((g 17), .inl (cB, 200, .inl (upd (upd (upd (upd f (nI k0).toNatClampNeg (vp_nar .byte (v0 >>> (24 &&& 31)).toInt8.toInt32)) (nI (k0 + 1)).toNatClampNeg (vp_nar .byte (v0 >>> (16 &&& 31)).toInt8.toInt32)) (nI (k0 + 2)).toNatClampNeg (vp_nar .byte (v0 >>> (8 &&& 31)).toInt8.toInt32)) (nI (k0 + 3)).toNatClampNeg (vp_nar .byte (v0 >>> (0 &&& 31)).toInt8.toInt32))))] H := hP
  have hD : va_D A [((g 100), .inr (13, oMt g (nI (k0 + 4)))), ((g 17), .inl (cB, 200, .inl (upd (upd (upd (upd f (nI k0).toNatClampNeg (vp_nar .byte (v0 >>> (24 &&& 31)).toInt8.toInt32)) (nI (k0 + 1)).toNatClampNeg (vp_nar .byte (v0 >>> (16 &&& 31)).toInt8.toInt32)) (nI (k0 + 2)).toNatClampNeg (vp_nar .byte (v0 >>> (8 &&& 31)).toInt8.toInt32)) (nI (k0 + 3)).toNatClampNeg (vp_nar .byte (v0 >>> (0 &&& 31)).toInt8.toInt32))))] := hD
  refine lv_iinc (v := (-1)) (lv' := [(2, .int (-1)), (0, .ref (g 100)), (1, .int v0)]) hx hb dX12_types_32 hl (k := 0) rfl (by decide) (by decide) rfl (fun ls hl => ?_)
  refine lv_goto (tgt := 2) hx hb dX12_types_35 (by decide) ?_
  refine lv_iload_n hx hb dX12_types_2 rfl (lv_at hl 0 rfl) ?_
  refine lv_if_lt (tgt := 38) hx hb dX12_types_3 (by decide) (fun _ => ?_) (fun h => absurd h (by decide))
  have hP9 := hP.sub (ws' := [((g 100), .inr (13, oMt g (nI (k0 + 4)))), ((g 17), .inl (cB, 200, .inl (upd (upd (upd (upd f (nI k0).toNatClampNeg (vp_nar .byte (v0 >>> (24 &&& 31)).toInt8.toInt32)) (nI (k0 + 1)).toNatClampNeg (vp_nar .byte (v0 >>> (16 &&& 31)).toInt8.toInt32)) (nI (k0 + 2)).toNatClampNeg (vp_nar .byte (v0 >>> (8 &&& 31)).toInt8.toInt32)) (nI (k0 + 3)).toNatClampNeg (vp_nar .byte (v0 >>> (0 &&& 31)).toInt8.toInt32))))]) [0, 1] rfl
  have hD9 := hD.sub (ws' := [((g 100), .inr (13, oMt g (nI (k0 + 4)))), ((g 17), .inl (cB, 200, .inl (upd (upd (upd (upd f (nI k0).toNatClampNeg (vp_nar .byte (v0 >>> (24 &&& 31)).toInt8.toInt32)) (nI (k0 + 1)).toNatClampNeg (vp_nar .byte (v0 >>> (16 &&& 31)).toInt8.toInt32)) (nI (k0 + 2)).toNatClampNeg (vp_nar .byte (v0 >>> (8 &&& 31)).toInt8.toInt32)) (nI (k0 + 3)).toNatClampNeg (vp_nar .byte (v0 >>> (0 &&& 31)).toInt8.toInt32))))]) [0, 1] (by decide) rfl
  exact W.vret hx hb hr (fun t ht hW => ⟨⟨(upd (upd (upd (upd f (nI k0).toNatClampNeg (vp_nar .byte (v0 >>> (24 &&& 31)).toInt8.toInt32)) (nI (k0 + 1)).toNatClampNeg (vp_nar .byte (v0 >>> (16 &&& 31)).toInt8.toInt32)) (nI (k0 + 2)).toNatClampNeg (vp_nar .byte (v0 >>> (8 &&& 31)).toInt8.toInt32)) (nI (k0 + 3)).toNatClampNeg (vp_nar .byte (v0 >>> (0 &&& 31)).toInt8.toInt32)), rfl, trivial, by rw [ht]; exact hP9, hD9⟩, hS.F ht⟩) hS.2.2 dX12_types_38
set_option maxRecDepth 100000 in
set_option maxHeartbeats 4000000 in
theorem q_M_feed (l : Launch) (D : va_G) (cI cB cZ : ClassId) (g : Nat → Nat) (v0 v1 v2 v3 v4 : Int32) (sz : Nat) : Met l yX12_feed (CWS yX12_feed cX12_feed 6 (some .int)) (RM 1 0 0) (PBw [.ref (g 100), .int v0, .int v1, .int v2, .int v3, .int v4] D cI cB cZ [((g 100), .inr (13, oM g)), ((g 17), .inl (cB, 200, .inl (fun _ => 0)))] sz) (va_Qi (fun (r : Int32) (_ : Unit) => r = 20) (fun (_ : Unit) (_ : State) => True) (va_A [((g 100), .inr (13, oM g)), ((g 17), .inl (cB, 200, .inl (fun _ => 0)))] sz)) 0 0 (va_A [((g 100), .inr (13, oM g)), ((g 17), .inl (cB, 200, .inl (fun _ => 0)))] sz) := by
  refine Met.ofW (cc := cX12_feed) (maxL := 6) (ret := (some .int)) (by decide) rfl ?_
  intro p e s m args below meth c s₁ B hml hv
  obtain ⟨rfl, hsz, hP, hK, hD0⟩ := hv
  have hx := B.exec
  have hb := B.bytes
  have hr := B.returns
  have hts := atoms_spec (ws := (CWS yX12_feed cX12_feed 6 (some .int))) B.pre
  have hown : s.vm.findClass RX12 = some m.cls := findClass_of_methodNamed B.named
  have hlocks := B.notSynchronized
  have S : SF p m c cX12_feed 6 s ([.ref (g 100), .int v0, .int v1, .int v2, .int v3, .int v4]).toArray RX12 := ⟨hx, hb, hml, hown, fun w h => hts w (List.mem_cons_of_mem _ h)⟩
  subst hsz
  have hD := hD0.self (sz := s.heap.size)
  generalize hAe : va_A [((g 100), .inr (13, oM g)), ((g 17), .inl (cB, 200, .inl (fun _ => 0)))] s.heap.size = A at hD ⊢
  have hA : ∀ q : Nat, s.heap.size ≤ q → A q := fun q h => by rw [← hAe]; exact Or.inr h
  have hS : va_S A s.heap s.heap [] := va_S.rf
  have hP : va_P D vwCl [((g 100), .inr (13, oM g)), ((g 17), .inl (cB, 200, .inl (fun _ => 0)))] s.heap := hP
  have hD : va_D A [((g 100), .inr (13, oM g)), ((g 17), .inl (cB, 200, .inl (fun _ => 0)))] := hD
  have hl := lv_entry ([.ref (g 100), .int v0, .int v1, .int v2, .int v3, .int v4]) (n := 6) (Nat.le_of_ble_eq_true rfl)
  rw [lg_entry_eq]
  generalize (lg_sl ([.ref (g 100), .int v0, .int v1, .int v2, .int v3, .int v4]) ++ List.replicate (6 - (lg_sl ([.ref (g 100), .int v0, .int v1, .int v2, .int v3, .int v4])).length) Slot.unset).toArray = ls at hl ⊢
  have hl : lv_has ls 6 [(0, .ref (g 100)), (1, .int v0), (2, .int v1), (3, .int v2), (4, .int v3), (5, .int v4)] := hl
  refine lv_aload_n hx hb dX12_feed_0 rfl (lv_at hl 0 rfl) ?_
  refine gf_RX12_226 S hK hP 0 rfl (v := .int 0) rfl dX12_feed_1 ?_
  refine lv_bipush (v := 20) hx hb dX12_feed_4 (by decide) ?_
  refine lv_iadd hx hb dX12_feed_6 ?_
  refine lv_topi (fun y_1 ey_1 => ?_)
  obtain rfl : y_1 = 20 := ey_1.trans (by decide)
  refine lv_sipush (v := 200) hx hb dX12_feed_7 (by decide) ?_
  refine lv_icmp_le (tgt := 15) hx hb dX12_feed_10 (by decide) (fun _ => ?_) (fun h => absurd h (by decide))
  refine lv_aload_n hx hb dX12_feed_15 rfl (lv_at hl 0 rfl) ?_
  refine lv_iload_n hx hb dX12_feed_16 rfl (lv_at hl 1 rfl) ?_
  have hFc := va_free (wc := [((g 100), .inr (13, oM g)), ((g 17), .inl (cB, 200, .inl (fun _ => 0)))]) hD hS hA [0, 1] rfl
  refine va_callv (runV_w (As := [.int v0]) (rest := []) S (q_mtypes l D cI cB cZ g 0 (fun _ => 0) v0 s.heap.size (by omega)) kV_RX12_229 hK hP hD [0, 1] rfl rfl (by decide) 0 rfl rfl rfl ⟨Nat.le_of_ble_eq_true rfl, Nat.le_of_ble_eq_true rfl⟩ ⟨Nat.le_of_ble_eq_true rfl, Nat.le_of_ble_eq_true rfl⟩ rfl hl.1 rfl (Nat.le_of_ble_eq_true rfl) dX12_feed_17) hS (fun q _ h => hFc q h) hFc (fun u_3 t H1 locs ht hvm h_4 hB hz1 hk1 hS => ?_)
  obtain ⟨hP1, hD1⟩ := hB
  rw [ht] at hP1
  obtain ⟨hP, hD⟩ := va_join (wr := []) (w1 := [((g 100), .inr (13, oMt g (nI (0 + 4)))), ((g 17), .inl (cB, 200, .inl u_3))]) hP hD [0, 1] [] rfl rfl (by decide) (by decide) hk1 hFc hP1 hD1
  generalize H1 = H at hP hS ⊢
  have hP : va_P D vwCl [((g 100), .inr (13, oMt g (nI (0 + 4)))), ((g 17), .inl (cB, 200, .inl u_3))] H := hP
  have hD : va_D A [((g 100), .inr (13, oMt g (nI (0 + 4)))), ((g 17), .inl (cB, 200, .inl u_3))] := hD
  refine lv_aload_n hx hb dX12_feed_20 rfl (lv_at hl 0 rfl) ?_
  refine lv_iload_n hx hb dX12_feed_21 rfl (lv_at hl 2 rfl) ?_
  have hFc := va_free (wc := [((g 100), .inr (13, oMt g (nI (0 + 4)))), ((g 17), .inl (cB, 200, .inl u_3))]) hD hS hA [0, 1] rfl
  refine va_callv (runV_w (As := [.int v1]) (rest := []) S (q_mtypes l D cI cB cZ g 4 u_3 v1 H.size (by omega)) kV_RX12_229 hK hP hD [0, 1] rfl rfl (by decide) 0 rfl rfl rfl ⟨Nat.le_of_ble_eq_true rfl, Nat.le_of_ble_eq_true rfl⟩ ⟨Nat.le_of_ble_eq_true rfl, Nat.le_of_ble_eq_true rfl⟩ rfl hl.1 rfl (Nat.le_of_ble_eq_true rfl) dX12_feed_22) hS (fun q _ h => hFc q h) hFc (fun u_6 t H1 locs ht hvm h_7 hB hz1 hk1 hS => ?_)
  obtain ⟨hP1, hD1⟩ := hB
  rw [ht] at hP1
  obtain ⟨hP, hD⟩ := va_join (wr := []) (w1 := [((g 100), .inr (13, oMt g (nI (4 + 4)))), ((g 17), .inl (cB, 200, .inl u_6))]) hP hD [0, 1] [] rfl rfl (by decide) (by decide) hk1 hFc hP1 hD1
  generalize H1 = H at hP hS ⊢
  have hP : va_P D vwCl [((g 100), .inr (13, oMt g (nI (4 + 4)))), ((g 17), .inl (cB, 200, .inl u_6))] H := hP
  have hD : va_D A [((g 100), .inr (13, oMt g (nI (4 + 4)))), ((g 17), .inl (cB, 200, .inl u_6))] := hD
  refine lv_aload_n hx hb dX12_feed_25 rfl (lv_at hl 0 rfl) ?_
  refine lv_iload_n hx hb dX12_feed_26 rfl (lv_at hl 3 rfl) ?_
  have hFc := va_free (wc := [((g 100), .inr (13, oMt g (nI (4 + 4)))), ((g 17), .inl (cB, 200, .inl u_6))]) hD hS hA [0, 1] rfl
  refine va_callv (runV_w (As := [.int v2]) (rest := []) S (q_mtypes l D cI cB cZ g 8 u_6 v2 H.size (by omega)) kV_RX12_229 hK hP hD [0, 1] rfl rfl (by decide) 0 rfl rfl rfl ⟨Nat.le_of_ble_eq_true rfl, Nat.le_of_ble_eq_true rfl⟩ ⟨Nat.le_of_ble_eq_true rfl, Nat.le_of_ble_eq_true rfl⟩ rfl hl.1 rfl (Nat.le_of_ble_eq_true rfl) dX12_feed_27) hS (fun q _ h => hFc q h) hFc (fun u_9 t H1 locs ht hvm h_10 hB hz1 hk1 hS => ?_)
  obtain ⟨hP1, hD1⟩ := hB
  rw [ht] at hP1
  obtain ⟨hP, hD⟩ := va_join (wr := []) (w1 := [((g 100), .inr (13, oMt g (nI (8 + 4)))), ((g 17), .inl (cB, 200, .inl u_9))]) hP hD [0, 1] [] rfl rfl (by decide) (by decide) hk1 hFc hP1 hD1
  generalize H1 = H at hP hS ⊢
  have hP : va_P D vwCl [((g 100), .inr (13, oMt g (nI (8 + 4)))), ((g 17), .inl (cB, 200, .inl u_9))] H := hP
  have hD : va_D A [((g 100), .inr (13, oMt g (nI (8 + 4)))), ((g 17), .inl (cB, 200, .inl u_9))] := hD
  refine lv_aload_n hx hb dX12_feed_30 rfl (lv_at hl 0 rfl) ?_
  refine lv_iload hx hb dX12_feed_31 (lv_at hl 4 rfl) ?_
  have hFc := va_free (wc := [((g 100), .inr (13, oMt g (nI (8 + 4)))), ((g 17), .inl (cB, 200, .inl u_9))]) hD hS hA [0, 1] rfl
  refine va_callv (runV_w (As := [.int v3]) (rest := []) S (q_mtypes l D cI cB cZ g 12 u_9 v3 H.size (by omega)) kV_RX12_229 hK hP hD [0, 1] rfl rfl (by decide) 0 rfl rfl rfl ⟨Nat.le_of_ble_eq_true rfl, Nat.le_of_ble_eq_true rfl⟩ ⟨Nat.le_of_ble_eq_true rfl, Nat.le_of_ble_eq_true rfl⟩ rfl hl.1 rfl (Nat.le_of_ble_eq_true rfl) dX12_feed_33) hS (fun q _ h => hFc q h) hFc (fun u_12 t H1 locs ht hvm h_13 hB hz1 hk1 hS => ?_)
  obtain ⟨hP1, hD1⟩ := hB
  rw [ht] at hP1
  obtain ⟨hP, hD⟩ := va_join (wr := []) (w1 := [((g 100), .inr (13, oMt g (nI (12 + 4)))), ((g 17), .inl (cB, 200, .inl u_12))]) hP hD [0, 1] [] rfl rfl (by decide) (by decide) hk1 hFc hP1 hD1
  generalize H1 = H at hP hS ⊢
  have hP : va_P D vwCl [((g 100), .inr (13, oMt g (nI (12 + 4)))), ((g 17), .inl (cB, 200, .inl u_12))] H := hP
  have hD : va_D A [((g 100), .inr (13, oMt g (nI (12 + 4)))), ((g 17), .inl (cB, 200, .inl u_12))] := hD
  refine lv_aload_n hx hb dX12_feed_36 rfl (lv_at hl 0 rfl) ?_
  refine lv_iload hx hb dX12_feed_37 (lv_at hl 5 rfl) ?_
  have hFc := va_free (wc := [((g 100), .inr (13, oMt g (nI (12 + 4)))), ((g 17), .inl (cB, 200, .inl u_12))]) hD hS hA [0, 1] rfl
  refine va_callv (runV_w (As := [.int v4]) (rest := []) S (q_mtypes l D cI cB cZ g 16 u_12 v4 H.size (by omega)) kV_RX12_229 hK hP hD [0, 1] rfl rfl (by decide) 0 rfl rfl rfl ⟨Nat.le_of_ble_eq_true rfl, Nat.le_of_ble_eq_true rfl⟩ ⟨Nat.le_of_ble_eq_true rfl, Nat.le_of_ble_eq_true rfl⟩ rfl hl.1 rfl (Nat.le_of_ble_eq_true rfl) dX12_feed_39) hS (fun q _ h => hFc q h) hFc (fun u_15 t H1 locs ht hvm h_16 hB hz1 hk1 hS => ?_)
  obtain ⟨hP1, hD1⟩ := hB
  rw [ht] at hP1
  obtain ⟨hP, hD⟩ := va_join (wr := []) (w1 := [((g 100), .inr (13, oMt g (nI (16 + 4)))), ((g 17), .inl (cB, 200, .inl u_15))]) hP hD [0, 1] [] rfl rfl (by decide) (by decide) hk1 hFc hP1 hD1
  generalize H1 = H at hP hS ⊢
  have hP : va_P D vwCl [((g 100), .inr (13, oMt g (nI (16 + 4)))), ((g 17), .inl (cB, 200, .inl u_15))] H := hP
  have hD : va_D A [((g 100), .inr (13, oMt g (nI (16 + 4)))), ((g 17), .inl (cB, 200, .inl u_15))] := hD
  refine lv_aload_n hx hb dX12_feed_42 rfl (lv_at hl 0 rfl) ?_
  refine gf_RX12_226 S hK hP 0 rfl (v := .int (nI (16 + 4))) rfl dX12_feed_43 ?_
  exact W.iret (v := (nI (16 + 4))) hx hb hr (fun t ht hW => ⟨⟨(nI (16 + 4)), (), rfl, rfl, trivial⟩, hS.F ht⟩) hS.2.2 dX12_feed_46
set_option maxRecDepth 100000 in
set_option maxHeartbeats 4000000 in
theorem q_mgoes (l : Launch) (D : va_G) (cI cB cZ : ClassId) (g : Nat → Nat) : Met l yX12_goes (CWS yX12_goes cX12_goes 7 none) (RM 0 0 0) (PBr [.ref (g 100)] D cI cB cZ [((g 100), .inr (13, oM g))]) (va_Sv (fun _ => True)) 0 0 (fun _ => False) := by
  refine Met.ofW (cc := cX12_goes) (maxL := 7) (ret := none) (by decide) rfl ?_
  intro p e s m args below meth c s₁ B hml hv
  obtain ⟨rfl, hP, hK⟩ := hv
  have hx := B.exec
  have hb := B.bytes
  have hr := B.returns
  have hts := atoms_spec (ws := (CWS yX12_goes cX12_goes 7 none)) B.pre
  have hown : s.vm.findClass RX12 = some m.cls := findClass_of_methodNamed B.named
  have hlocks := B.notSynchronized
  have S : SF p m c cX12_goes 7 s ([.ref (g 100)]).toArray RX12 := ⟨hx, hb, hml, hown, fun w h => hts w (List.mem_cons_of_mem _ h)⟩
  have hP : va_P D vwCl [((g 100), .inr (13, oM g))] s.heap := hP
  have hl := lv_entry ([.ref (g 100)]) (n := 7) (Nat.le_of_ble_eq_true rfl)
  rw [lg_entry_eq]
  generalize (lg_sl ([.ref (g 100)]) ++ List.replicate (7 - (lg_sl ([.ref (g 100)])).length) Slot.unset).toArray = ls at hl ⊢
  have hl : lv_has ls 7 [(0, .ref (g 100))] := hl
  refine lv_iconst (v := 1) hx hb dX12_goes_0 (by decide) ?_
  refine lv_aload_n hx hb dX12_goes_1 rfl (lv_at hl 0 rfl) ?_
  refine gf_RX12_364 S hK hP 0 rfl (v := .int 0) rfl dX12_goes_2 ?_
  refine lv_ishl hx hb dX12_goes_5 ?_
  refine lv_topi (fun y_1 ey_1 => ?_)
  obtain rfl : y_1 = 1 := ey_1.trans (by decide)
  refine lv_iconst (v := 1) hx hb dX12_goes_6 (by decide) ?_
  refine lv_isub hx hb dX12_goes_7 ?_
  refine lv_topi (fun y_2 ey_2 => ?_)
  obtain rfl : y_2 = 0 := ey_2.trans (by decide)
  refine lv_istore_n (lv' := [(1, .int 0), (0, .ref (g 100))]) hx hb dX12_goes_8 rfl hl (by decide) rfl (fun ls hl => ?_)
  refine lv_iconst (v := 0) hx hb dX12_goes_9 (by decide) ?_
  refine lv_istore_n (lv' := [(2, .int 0), (1, .int 0), (0, .ref (g 100))]) hx hb dX12_goes_10 rfl hl (by decide) rfl (fun ls hl => ?_)
  refine lv_iload_n hx hb dX12_goes_11 rfl (lv_at hl 0 rfl) ?_
  refine lv_iload_n hx hb dX12_goes_12 rfl (lv_at hl 1 rfl) ?_
  refine lv_icmp_gt (tgt := 158) hx hb dX12_goes_13 (by decide) (fun h => absurd h (by decide)) (fun _ => ?_)
  refine lv_iconst (v := 0) hx hb dX12_goes_16 (by decide) ?_
  refine lv_istore_n (lv' := [(3, .int 0), (2, .int 0), (1, .int 0), (0, .ref (g 100))]) hx hb dX12_goes_17 rfl hl (by decide) rfl (fun ls hl => ?_)
  refine lv_iload_n hx hb dX12_goes_18 rfl (lv_at hl 0 rfl) ?_
  refine lv_aload_n hx hb dX12_goes_19 rfl (lv_at hl 3 rfl) ?_
  refine gf_RX12_364 S hK hP 0 rfl (v := .int 0) rfl dX12_goes_20 ?_
  refine lv_icmp_ge (tgt := 152) hx hb dX12_goes_23 (by decide) (fun _ => ?_) (fun h => absurd h (by decide))
  refine lv_iinc (v := 1) (lv' := [(2, .int 1), (3, .int 0), (1, .int 0), (0, .ref (g 100))]) hx hb dX12_goes_152 hl (k := 1) rfl (by decide) (by decide) rfl (fun ls hl => ?_)
  refine lv_goto (tgt := 11) hx hb dX12_goes_155 (by decide) ?_
  refine lv_iload_n hx hb dX12_goes_11 rfl (lv_at hl 0 rfl) ?_
  refine lv_iload_n hx hb dX12_goes_12 rfl (lv_at hl 2 rfl) ?_
  refine lv_icmp_gt (tgt := 158) hx hb dX12_goes_13 (by decide) (fun _ => ?_) (fun h => absurd h (by decide))
  exact W.vret hx hb hr (fun t ht hW => ⟨rfl, trivial, ht⟩) (fun _ h => absurd h List.not_mem_nil) dX12_goes_158
set_option maxRecDepth 100000 in
set_option maxHeartbeats 4000000 in
theorem q_mlays (l : Launch) (D : va_G) (cI cB cZ : ClassId) (g : Nat → Nat) (v0 v1 : Int32) (k1 : Nat) (sz : Nat) (h8 : k1 < 9) : Met l yX12_lays (CWS yX12_lays cX12_lays 5 (some .boolean)) (RM 1 0 0) (PBw [.ref (g 100), .int v0, .int v1, .int (nI k1)] D cI cB cZ [((g 100), .inr (13, oM g))] sz) (va_Qi (fun (r : Int32) (_ : Unit) => r = 1) (fun (u : Unit) (t : State) => va_P D vwCl [((g 100), .inr (13, oM g))] t.heap ∧ va_D (va_A [((g 100), .inr (13, oM g))] sz) [((g 100), .inr (13, oM g))]) (va_A [((g 100), .inr (13, oM g))] sz)) 0 0 (va_A [((g 100), .inr (13, oM g))] sz) := by
  refine Met.ofW (cc := cX12_lays) (maxL := 5) (ret := (some .boolean)) (by decide) rfl ?_
  intro p e s m args below meth c s₁ B hml hv
  obtain ⟨rfl, hsz, hP, hK, hD0⟩ := hv
  have hx := B.exec
  have hb := B.bytes
  have hr := B.returns
  have hts := atoms_spec (ws := (CWS yX12_lays cX12_lays 5 (some .boolean))) B.pre
  have hown : s.vm.findClass RX12 = some m.cls := findClass_of_methodNamed B.named
  have hlocks := B.notSynchronized
  have S : SF p m c cX12_lays 5 s ([.ref (g 100), .int v0, .int v1, .int (nI k1)]).toArray RX12 := ⟨hx, hb, hml, hown, fun w h => hts w (List.mem_cons_of_mem _ h)⟩
  subst hsz
  have hD := hD0.self (sz := s.heap.size)
  generalize hAe : va_A [((g 100), .inr (13, oM g))] s.heap.size = A at hD ⊢
  have hA : ∀ q : Nat, s.heap.size ≤ q → A q := fun q h => by rw [← hAe]; exact Or.inr h
  have hS : va_S A s.heap s.heap [] := va_S.rf
  have hP : va_P D vwCl [((g 100), .inr (13, oM g))] s.heap := hP
  have hD : va_D A [((g 100), .inr (13, oM g))] := hD
  have hl := lv_entry ([.ref (g 100), .int v0, .int v1, .int (nI k1)]) (n := 5) (Nat.le_of_ble_eq_true rfl)
  rw [lg_entry_eq]
  generalize (lg_sl ([.ref (g 100), .int v0, .int v1, .int (nI k1)]) ++ List.replicate (5 - (lg_sl ([.ref (g 100), .int v0, .int v1, .int (nI k1)])).length) Slot.unset).toArray = ls at hl ⊢
  have hl : lv_has ls 5 [(0, .ref (g 100)), (1, .int v0), (2, .int v1), (3, .int (nI k1))] := hl
  have t1 : (nI k1).toInt = (k1 : Int) := nI_toInt (by omega)
  refine lv_aload_n hx hb dX12_lays_0 rfl (lv_at hl 0 rfl) ?_
  refine lv_iconst (v := 0) hx hb dX12_lays_1 (by decide) ?_
  refine pf_RX12_364 S hK hP hD hS 0 rfl (v := .int 0) (Nat.le_of_ble_eq_true rfl) rfl rfl dX12_lays_2 (fun H locs hP hD hS => ?_)
  have hP : va_P D vwCl [((g 100), .inr (13, oM g))] H := hP
  have hD : va_D A [((g 100), .inr (13, oM g))] := hD
  refine lv_iconst (v := 0) hx hb dX12_lays_5 (by decide) ?_
  refine lv_istore (lv' := [(4, .int 0), (0, .ref (g 100)), (1, .int v0), (2, .int v1), (3, .int (nI k1))]) hx hb dX12_lays_6 hl (by decide) rfl (fun ls hl => ?_)
  refine lv_iload hx hb dX12_lays_8 (lv_at hl 0 rfl) ?_
  refine lv_aload_n hx hb dX12_lays_10 rfl (lv_at hl 1 rfl) ?_
  refine gf_RX12_204 S hK hP 0 rfl (v := .int 0) rfl dX12_lays_11 ?_
  refine lv_icmp_ge (tgt := 71) hx hb dX12_lays_14 (by decide) (fun _ => ?_) (fun h => absurd h (by decide))
  refine lv_aload_n hx hb dX12_lays_71 rfl (lv_at hl 1 rfl) ?_
  refine gf_RX12_364 S hK hP 0 rfl (v := .int 0) rfl dX12_lays_72 ?_
  refine lv_iload_n hx hb dX12_lays_75 rfl (lv_at hl 4 rfl) ?_
  refine lv_icmp_le (tgt := 81) hx hb dX12_lays_76 (by decide) (fun c_1 => ?_) (fun c_1 => False.elim (by have tc_1 : ((nI k1).toInt : Int) < 0 := Int32.lt_iff_toInt_lt.mp (Int32.not_le.mp c_1); omega))
  have tc_1 : (0 : Int) ≤ (nI k1).toInt := Int32.le_iff_toInt_le.mp c_1
  refine lv_aload_n hx hb dX12_lays_81 rfl (lv_at hl 1 rfl) ?_
  refine va_csv (runV_r (As := []) (rest := []) S (q_mgoes l D cI cB cZ g) kV_RX12_377 hK hP [0] rfl 0 rfl rfl rfl ⟨Nat.le_of_ble_eq_true rfl, Nat.le_of_ble_eq_true rfl⟩ ⟨Nat.le_of_ble_eq_true rfl, Nat.le_of_ble_eq_true rfl⟩ rfl hl.1 rfl (Nat.le_of_ble_eq_true rfl) dX12_lays_82) (fun h_3 => ?_)
  refine lv_iconst (v := 1) hx hb dX12_lays_85 (by decide) ?_
  have hP9 := hP.sub (ws' := [((g 100), .inr (13, oM g))]) [0] rfl
  have hD9 := hD.sub (ws' := [((g 100), .inr (13, oM g))]) [0] (by decide) rfl
  exact W.zret (v := 1) hx hb hr rfl (fun t ht hW => ⟨⟨1, (), rfl, rfl, by rw [ht]; exact hP9, hD9⟩, hS.F ht⟩) hS.2.2 dX12_lays_86
set_option maxRecDepth 100000 in
set_option maxHeartbeats 4000000 in
theorem q_mnextOf (l : Launch) (D : va_G) (cI cB cZ : ClassId) (g : Nat → Nat) (sz : Nat) : Met l yX12_nextOf (CWS yX12_nextOf cX12_nextOf 7 (some .int)) (RM 0 0 0) (PBw [.ref (g 100), .int (-1), .int 0] D cI cB cZ [((g 100), .inr (13, oM g))] sz) (va_Qi (fun (r : Int32) (_ : Unit) => r = -1) (fun (u : Unit) (t : State) => va_P D vwCl [((g 100), .inr (13, oM g))] t.heap ∧ va_D (va_A [((g 100), .inr (13, oM g))] sz) [((g 100), .inr (13, oM g))]) (va_A [((g 100), .inr (13, oM g))] sz)) 0 0 (va_A [((g 100), .inr (13, oM g))] sz) := by
  refine Met.ofW (cc := cX12_nextOf) (maxL := 7) (ret := (some .int)) (by decide) rfl ?_
  intro p e s m args below meth c s₁ B hml hv
  obtain ⟨rfl, hsz, hP, hK, hD0⟩ := hv
  have hx := B.exec
  have hb := B.bytes
  have hr := B.returns
  have hts := atoms_spec (ws := (CWS yX12_nextOf cX12_nextOf 7 (some .int))) B.pre
  have hown : s.vm.findClass RX12 = some m.cls := findClass_of_methodNamed B.named
  have hlocks := B.notSynchronized
  have S : SF p m c cX12_nextOf 7 s ([.ref (g 100), .int (-1), .int 0]).toArray RX12 := ⟨hx, hb, hml, hown, fun w h => hts w (List.mem_cons_of_mem _ h)⟩
  subst hsz
  have hD := hD0.self (sz := s.heap.size)
  generalize hAe : va_A [((g 100), .inr (13, oM g))] s.heap.size = A at hD ⊢
  have hA : ∀ q : Nat, s.heap.size ≤ q → A q := fun q h => by rw [← hAe]; exact Or.inr h
  have hS : va_S A s.heap s.heap [] := va_S.rf
  have hP : va_P D vwCl [((g 100), .inr (13, oM g))] s.heap := hP
  have hD : va_D A [((g 100), .inr (13, oM g))] := hD
  have hl := lv_entry ([.ref (g 100), .int (-1), .int 0]) (n := 7) (Nat.le_of_ble_eq_true rfl)
  rw [lg_entry_eq]
  generalize (lg_sl ([.ref (g 100), .int (-1), .int 0]) ++ List.replicate (7 - (lg_sl ([.ref (g 100), .int (-1), .int 0])).length) Slot.unset).toArray = ls at hl ⊢
  have hl : lv_has ls 7 [(0, .ref (g 100)), (1, .int (-1)), (2, .int 0)] := hl
  refine lv_iconst (v := (-1)) hx hb dX12_nextOf_0 (by decide) ?_
  refine lv_istore_n (lv' := [(3, .int (-1)), (0, .ref (g 100)), (1, .int (-1)), (2, .int 0)]) hx hb dX12_nextOf_1 rfl hl (by decide) rfl (fun ls hl => ?_)
  refine lv_iconst (v := 0) hx hb dX12_nextOf_2 (by decide) ?_
  refine lv_istore (lv' := [(4, .int 0), (3, .int (-1)), (0, .ref (g 100)), (1, .int (-1)), (2, .int 0)]) hx hb dX12_nextOf_3 hl (by decide) rfl (fun ls hl => ?_)
  refine lv_iconst (v := 0) hx hb dX12_nextOf_5 (by decide) ?_
  refine lv_istore (lv' := [(5, .int 0), (4, .int 0), (3, .int (-1)), (0, .ref (g 100)), (1, .int (-1)), (2, .int 0)]) hx hb dX12_nextOf_6 hl (by decide) rfl (fun ls hl => ?_)
  refine lv_iload hx hb dX12_nextOf_8 (lv_at hl 0 rfl) ?_
  refine lv_aload_n hx hb dX12_nextOf_10 rfl (lv_at hl 3 rfl) ?_
  refine gf_RX12_364 S hK hP 0 rfl (v := .int 0) rfl dX12_nextOf_11 ?_
  refine lv_icmp_ge (tgt := 115) hx hb dX12_nextOf_14 (by decide) (fun _ => ?_) (fun h => absurd h (by decide))
  refine lv_aload_n hx hb dX12_nextOf_115 rfl (lv_at hl 3 rfl) ?_
  refine lv_iload_n hx hb dX12_nextOf_116 rfl (lv_at hl 2 rfl) ?_
  refine lv_iconst (v := (-1)) hx hb dX12_nextOf_117 (by decide) ?_
  refine lv_icmp_ne (tgt := 125) hx hb dX12_nextOf_118 (by decide) (fun h => absurd h (by decide)) (fun _ => ?_)
  refine lv_iconst (v := 0) hx hb dX12_nextOf_121 (by decide) ?_
  refine lv_goto (tgt := 127) hx hb dX12_nextOf_122 (by decide) ?_
  refine pf_RX12_374 S hK hP hD hS 0 rfl (v := .int 0) (Nat.le_of_ble_eq_true rfl) rfl rfl dX12_nextOf_127 (fun H locs hP hD hS => ?_)
  have hP : va_P D vwCl [((g 100), .inr (13, oM g))] H := hP
  have hD : va_D A [((g 100), .inr (13, oM g))] := hD
  refine lv_iload_n hx hb dX12_nextOf_130 rfl (lv_at hl 2 rfl) ?_
  have hP9 := hP.sub (ws' := [((g 100), .inr (13, oM g))]) [0] rfl
  have hD9 := hD.sub (ws' := [((g 100), .inr (13, oM g))]) [0] (by decide) rfl
  exact W.iret (v := (-1)) hx hb hr (fun t ht hW => ⟨⟨(-1), (), rfl, rfl, by rw [ht]; exact hP9, hD9⟩, hS.F ht⟩) hS.2.2 dX12_nextOf_131
set_option maxRecDepth 100000 in
set_option maxHeartbeats 4000000 in
theorem q_M_round (l : Launch) (D : va_G) (cI cB cZ : ClassId) (g : Nat → Nat) (v0 v1 v2 : Int32) (sz : Nat) : Met l yX12_round (CWS yX12_round cX12_round 8 (some .int)) (RM 3 0 0) (PBw [.ref (g 100), .int v0, .int v1, .int v2] D cI cB cZ [((g 100), .inr (13, oM g))] sz) (va_Qi (fun (r : Int32) (_ : Unit) => r = (if (0 ≤ v0.toInt ∧ v0.toInt ≤ 399) ∧ (1 ≤ v1.toInt ∧ v1.toInt ≤ 400) ∧ v2.toInt = -1 then (0 : Int32) else -1)) (fun (_ : Unit) (_ : State) => True) (va_A [((g 100), .inr (13, oM g))] sz)) 0 0 (va_A [((g 100), .inr (13, oM g))] sz) := by
  refine Met.ofW (cc := cX12_round) (maxL := 8) (ret := (some .int)) (by decide) rfl ?_
  intro p e s m args below meth c s₁ B hml hv
  obtain ⟨rfl, hsz, hP, hK, hD0⟩ := hv
  have hx := B.exec
  have hb := B.bytes
  have hr := B.returns
  have hts := atoms_spec (ws := (CWS yX12_round cX12_round 8 (some .int))) B.pre
  have hown : s.vm.findClass RX12 = some m.cls := findClass_of_methodNamed B.named
  have hlocks := B.notSynchronized
  have S : SF p m c cX12_round 8 s ([.ref (g 100), .int v0, .int v1, .int v2]).toArray RX12 := ⟨hx, hb, hml, hown, fun w h => hts w (List.mem_cons_of_mem _ h)⟩
  subst hsz
  have hD := hD0.self (sz := s.heap.size)
  generalize hAe : va_A [((g 100), .inr (13, oM g))] s.heap.size = A at hD ⊢
  have hA : ∀ q : Nat, s.heap.size ≤ q → A q := fun q h => by rw [← hAe]; exact Or.inr h
  have hS : va_S A s.heap s.heap [] := va_S.rf
  have hP : va_P D vwCl [((g 100), .inr (13, oM g))] s.heap := hP
  have hD : va_D A [((g 100), .inr (13, oM g))] := hD
  have hl := lv_entry ([.ref (g 100), .int v0, .int v1, .int v2]) (n := 8) (Nat.le_of_ble_eq_true rfl)
  rw [lg_entry_eq]
  generalize (lg_sl ([.ref (g 100), .int v0, .int v1, .int v2]) ++ List.replicate (8 - (lg_sl ([.ref (g 100), .int v0, .int v1, .int v2])).length) Slot.unset).toArray = ls at hl ⊢
  have hl : lv_has ls 8 [(0, .ref (g 100)), (1, .int v0), (2, .int v1), (3, .int v2)] := hl
  refine lv_iload_n hx hb dX12_round_0 rfl (lv_at hl 1 rfl) ?_
  refine vp_callSi (runS_r (As := [.int v0]) (rest := []) S (q_misDay l D cI cB cZ v0) kS_RX12_341 hK hP [] rfl ⟨Nat.le_of_ble_eq_true rfl, Nat.le_of_ble_eq_true rfl⟩ ⟨Nat.le_of_ble_eq_true rfl, Nat.le_of_ble_eq_true rfl⟩ rfl hl.1 rfl (Nat.le_of_ble_eq_true rfl) dX12_round_1) (fun r_1 h_2 => ?_)
  rcases h_2 with ⟨rfl, h_2⟩ | ⟨rfl, h_2⟩
  ·
    have h_2 : 0 ≤ v0.toInt ∧ v0.toInt ≤ 399 := h_2
    refine lv_if_eq (tgt := 23) hx hb dX12_round_4 (by decide) (fun h => absurd h (by decide)) (fun _ => ?_)
    refine lv_iload_n hx hb dX12_round_7 rfl (lv_at hl 2 rfl) ?_
    refine lv_iconst (v := 1) hx hb dX12_round_8 (by decide) ?_
    refine lv_sipush (v := 400) hx hb dX12_round_9 (by decide) ?_
    refine vp_callSi (runS_r (As := [.int v1, .int 1, .int 400]) (rest := []) S (q_in l D cI cB cZ v1 1 400) kS_RX12_214 hK hP [] rfl ⟨Nat.le_of_ble_eq_true rfl, Nat.le_of_ble_eq_true rfl⟩ ⟨Nat.le_of_ble_eq_true rfl, Nat.le_of_ble_eq_true rfl⟩ rfl hl.1 rfl (Nat.le_of_ble_eq_true rfl) dX12_round_12) (fun r_3 h_4 => ?_)
    rcases h_4 with ⟨rfl, h_4⟩ | ⟨rfl, h_4⟩
    ·
      have h_4 : 1 ≤ v1.toInt ∧ v1.toInt ≤ 400 := h_4
      refine lv_if_eq (tgt := 23) hx hb dX12_round_15 (by decide) (fun h => absurd h (by decide)) (fun _ => ?_)
      refine lv_iload_n hx hb dX12_round_18 rfl (lv_at hl 3 rfl) ?_
      refine lv_iconst (v := (-1)) hx hb dX12_round_19 (by decide) ?_
      refine lv_icmp_ge (tgt := 25) hx hb dX12_round_20 (by decide) (fun c_5 => ?_) (fun c_5 => ?_)
      ·
        have tc_5 : ((-1) : Int) ≤ v2.toInt := Int32.le_iff_toInt_le.mp c_5
        refine lv_aload_n hx hb dX12_round_25 rfl (lv_at hl 0 rfl) ?_
        refine lv_iload_n hx hb dX12_round_26 rfl (lv_at hl 1 rfl) ?_
        refine lv_iload_n hx hb dX12_round_27 rfl (lv_at hl 2 rfl) ?_
        refine lv_bipush (v := 8) hx hb dX12_round_28 (by decide) ?_
        have hFc := va_free (wc := [((g 100), .inr (13, oM g))]) hD hS hA [0] rfl
        refine va_calli (runV_w (As := [.int v0, .int v1, .int 8]) (rest := []) S (q_mlays l D cI cB cZ g v0 v1 8 s.heap.size (by omega)) kV_RX12_380 hK hP hD [0] rfl rfl (by decide) 0 rfl rfl rfl ⟨Nat.le_of_ble_eq_true rfl, Nat.le_of_ble_eq_true rfl⟩ ⟨Nat.le_of_ble_eq_true rfl, Nat.le_of_ble_eq_true rfl⟩ rfl hl.1 rfl (Nat.le_of_ble_eq_true rfl) dX12_round_30) hS (fun q _ h => hFc q h) hFc (fun r_6 u_7 t H1 locs ht hvm h_8 hB hz1 hk1 hS => ?_)
        obtain ⟨hP1, hD1⟩ := hB
        rw [ht] at hP1
        obtain ⟨hP, hD⟩ := va_join (wr := []) (w1 := [((g 100), .inr (13, oM g))]) hP hD [0] [] rfl rfl (by decide) (by decide) hk1 hFc hP1 hD1
        generalize H1 = H at hP hS ⊢
        have hP : va_P D vwCl [((g 100), .inr (13, oM g))] H := hP
        have hD : va_D A [((g 100), .inr (13, oM g))] := hD
        subst h_8
        refine lv_if_ne (tgt := 39) hx hb dX12_round_33 (by decide) (fun _ => ?_) (fun h => absurd h (by decide))
        refine lv_aload_n hx hb dX12_round_39 rfl (lv_at hl 0 rfl) ?_
        refine gf_RX12_364 S hK hP 0 rfl (v := .int 0) rfl dX12_round_40 ?_
        refine lv_istore (lv' := [(4, .int 0), (0, .ref (g 100)), (1, .int v0), (2, .int v1), (3, .int v2)]) hx hb dX12_round_43 hl (by decide) rfl (fun ls hl => ?_)
        refine lv_iconst (v := 1) hx hb dX12_round_45 (by decide) ?_
        refine lv_iload hx hb dX12_round_46 (lv_at hl 0 rfl) ?_
        refine lv_ishl hx hb dX12_round_48 ?_
        refine lv_topi (fun y_9 ey_9 => ?_)
        obtain rfl : y_9 = 1 := ey_9.trans (by decide)
        refine lv_iconst (v := 1) hx hb dX12_round_49 (by decide) ?_
        refine lv_isub hx hb dX12_round_50 ?_
        refine lv_topi (fun y_10 ey_10 => ?_)
        obtain rfl : y_10 = 0 := ey_10.trans (by decide)
        refine lv_istore (lv' := [(5, .int 0), (4, .int 0), (0, .ref (g 100)), (1, .int v0), (2, .int v1), (3, .int v2)]) hx hb dX12_round_51 hl (by decide) rfl (fun ls hl => ?_)
        refine lv_aload_n hx hb dX12_round_53 rfl (lv_at hl 2 rfl) ?_
        refine lv_iconst (v := (-1)) hx hb dX12_round_54 (by decide) ?_
        refine lv_iload hx hb dX12_round_55 (lv_at hl 0 rfl) ?_
        have hFc := va_free (wc := [((g 100), .inr (13, oM g))]) hD hS hA [0] rfl
        refine va_calli (runV_w (As := [.int (-1), .int 0]) (rest := []) S (q_mnextOf l D cI cB cZ g H.size) kV_RX12_383 hK hP hD [0] rfl rfl (by decide) 0 rfl rfl rfl ⟨Nat.le_of_ble_eq_true rfl, Nat.le_of_ble_eq_true rfl⟩ ⟨Nat.le_of_ble_eq_true rfl, Nat.le_of_ble_eq_true rfl⟩ rfl hl.1 rfl (Nat.le_of_ble_eq_true rfl) dX12_round_57) hS (fun q _ h => hFc q h) hFc (fun r_11 u_12 t H1 locs ht hvm h_13 hB hz1 hk1 hS => ?_)
        obtain ⟨hP1, hD1⟩ := hB
        rw [ht] at hP1
        obtain ⟨hP, hD⟩ := va_join (wr := []) (w1 := [((g 100), .inr (13, oM g))]) hP hD [0] [] rfl rfl (by decide) (by decide) hk1 hFc hP1 hD1
        generalize H1 = H at hP hS ⊢
        have hP : va_P D vwCl [((g 100), .inr (13, oM g))] H := hP
        have hD : va_D A [((g 100), .inr (13, oM g))] := hD
        subst h_13
        refine lv_istore (lv' := [(6, .int (-1)), (5, .int 0), (4, .int 0), (0, .ref (g 100)), (1, .int v0), (2, .int v1), (3, .int v2)]) hx hb dX12_round_60 hl (by decide) rfl (fun ls hl => ?_)
        refine lv_iload_n hx hb dX12_round_62 rfl (lv_at hl 6 rfl) ?_
        refine lv_iconst (v := (-1)) hx hb dX12_round_63 (by decide) ?_
        refine lv_icmp_ne (tgt := 72) hx hb dX12_round_64 (by decide) (fun c_14 => ?_) (fun c_14 => ?_)
        ·
          have tc_14 : (v2.toInt : Int) ≠ (-1) := fun q => c_14 (Int32.toInt_inj.mp q)
          refine lv_iload_n hx hb dX12_round_72 rfl (lv_at hl 6 rfl) ?_
          refine lv_iload hx hb dX12_round_73 (lv_at hl 2 rfl) ?_
          refine lv_icmp_lt (tgt := 80) hx hb dX12_round_75 (by decide) (fun c_15 => False.elim (by have tc_15 : (v2.toInt : Int) < 0 := Int32.lt_iff_toInt_lt.mp c_15; omega)) (fun c_15 => ?_)
          have tc_15 : (0 : Int) ≤ v2.toInt := Int32.le_iff_toInt_le.mp (Int32.not_lt.mp c_15)
          refine lv_iconst (v := (-1)) hx hb dX12_round_78 (by decide) ?_
          exact W.iret (v := (-1)) hx hb hr (fun t ht hW => ⟨⟨(-1), (), rfl, (if_neg (by omega)).symm, trivial⟩, hS.F ht⟩) hS.2.2 dX12_round_79
        ·
          have tc_14 : (v2.toInt : Int) = (-1) := congrArg Int32.toInt c_14
          refine lv_aload_n hx hb dX12_round_67 rfl (lv_at hl 3 rfl) ?_
          refine gf_RX12_374 S hK hP 0 rfl (v := .int 0) rfl dX12_round_68 ?_
          exact W.iret (v := 0) hx hb hr (fun t ht hW => ⟨⟨0, (), rfl, (if_pos (by omega)).symm, trivial⟩, hS.F ht⟩) hS.2.2 dX12_round_71
      ·
        have tc_5 : (v2.toInt : Int) < (-1) := Int32.lt_iff_toInt_lt.mp (Int32.not_le.mp c_5)
        refine lv_iconst (v := (-1)) hx hb dX12_round_23 (by decide) ?_
        exact W.iret (v := (-1)) hx hb hr (fun t ht hW => ⟨⟨(-1), (), rfl, (if_neg (by omega)).symm, trivial⟩, hS.F ht⟩) hS.2.2 dX12_round_24
    ·
      have h_4 : ¬ (1 ≤ v1.toInt ∧ v1.toInt ≤ 400) := h_4
      refine lv_if_eq (tgt := 23) hx hb dX12_round_15 (by decide) (fun _ => ?_) (fun h => absurd h (by decide))
      refine lv_iconst (v := (-1)) hx hb dX12_round_23 (by decide) ?_
      exact W.iret (v := (-1)) hx hb hr (fun t ht hW => ⟨⟨(-1), (), rfl, (if_neg (by omega)).symm, trivial⟩, hS.F ht⟩) hS.2.2 dX12_round_24
  ·
    have h_2 : ¬ (0 ≤ v0.toInt ∧ v0.toInt ≤ 399) := h_2
    refine lv_if_eq (tgt := 23) hx hb dX12_round_4 (by decide) (fun _ => ?_) (fun h => absurd h (by decide))
    refine lv_iconst (v := (-1)) hx hb dX12_round_23 (by decide) ?_
    exact W.iret (v := (-1)) hx hb hr (fun t ht hW => ⟨⟨(-1), (), rfl, (if_neg (by omega)).symm, trivial⟩, hS.F ht⟩) hS.2.2 dX12_round_24
