set_option maxRecDepth 100000 in
theorem kV_RX0_17 : CalV RX0 17 yX0_has cX0_has 2 (some .boolean) 1 := ⟨⟨wk5_1 2 rfl rfl, wk5_1 3 rfl rfl, wk5_1 4 rfl rfl, wk1_1 11 rfl rfl, wk5_1 5 rfl rfl⟩, ⟨nmh_1.1, nmh_1.2, pd_15⟩⟩
set_option maxRecDepth 100000 in
theorem pf_RX0_13 {p : Program} {l : Launch} {e : Env} {R : Room} {s : State} {m : MethodId} {args : Array Value} {below : List Frame} {meth : Method} {c : Code} {H : Heap} {locs : List Loc} {cells slots : Nat} {Q : State → Prop} {cc : ByteArray} {nL pc : Nat} {D : va_G} {cI cB cZ : ClassId} {ws : va_W} {rest : List Value} {ls : Array Slot} {a : Nat} {fs : List Value} {v : Value} {A : Nat → Prop} {H0 : Heap} (S : SF p m c cc nL s args RX0) (hK : KK D cI cB cZ s) (hP : va_P D vwCl ws H) (hD : va_D A ws) (hS : va_S A H0 H locs) (q0 : Nat) (he : ws[q0]? = some (a, .inr (1, fs))) (hl : 4 < fs.length) (hn : narrow (tyX0 4) v = v) (hfit : fits (tyX0 4) v = true) (hdg : decode cc pc = .ok (.putfield 13, 3)) (kk : ∀ (H1 : Heap) (locs1 : List Loc), va_P D vwCl (ws.set q0 (a, .inr (1, fs.set 4 v))) H1 → va_D A (ws.set q0 (a, .inr (1, fs.set 4 v))) → va_S A H0 H1 locs1 → W p l e R s m args below meth c H1 locs1 cells slots Q (F0 m (pc + 3) ls rest)) : W p l e R s m args below meth c H locs cells slots Q (F0 m pc ls (v :: .ref a :: rest)) :=
  va_put (C := RX0) (T := TX0) (N := 8) S.1 S.2.1 S.2.2.2.2 hin_RX0 tyX0 tyX0_ok nmX0 S.2.2.2.1 hK.1 hP hD hS q0 he rfl 4 (by decide) (S.2.2.2.2 _ (wk4_18 6 rfl rfl)) (fun _ h9 => h9) rfl (tyX0_ok 4 (by decide)) hn hfit hl hdg kk
set_option maxRecDepth 100000 in
theorem gf_RX0_21 {p : Program} {l : Launch} {e : Env} {R : Room} {s : State} {m : MethodId} {args : Array Value} {below : List Frame} {meth : Method} {c : Code} {H : Heap} {locs : List Loc} {cells slots : Nat} {Q : State → Prop} {cc : ByteArray} {nL pc : Nat} {D : va_G} {cI cB cZ : ClassId} {ws : va_W} {rest : List Value} {ls : Array Slot} {a : Nat} {fs : List Value} {v : Value} (S : SF p m c cc nL s args RX0) (hK : KK D cI cB cZ s) (hP : va_P D vwCl ws H) (q0 : Nat) (he : ws[q0]? = some (a, .inr (1, fs))) (hv : fs[5]? = some v) (hdg : decode cc pc = .ok (.getfield 21, 3)) (kk : W p l e R s m args below meth c H locs cells slots Q (F0 m (pc + 3) ls (v :: rest))) : W p l e R s m args below meth c H locs cells slots Q (F0 m pc ls (.ref a :: rest)) :=
  va_get (C := RX0) (T := TX0) (N := 8) S.1 S.2.1 S.2.2.2.2 hin_RX0 S.2.2.2.1 hK.1 hP q0 he rfl 5 (by decide) (S.2.2.2.2 _ (wk4_18 8 rfl rfl)) (fun _ h9 => h9) hv hdg kk
set_option maxRecDepth 100000 in
theorem pf_RX0_21 {p : Program} {l : Launch} {e : Env} {R : Room} {s : State} {m : MethodId} {args : Array Value} {below : List Frame} {meth : Method} {c : Code} {H : Heap} {locs : List Loc} {cells slots : Nat} {Q : State → Prop} {cc : ByteArray} {nL pc : Nat} {D : va_G} {cI cB cZ : ClassId} {ws : va_W} {rest : List Value} {ls : Array Slot} {a : Nat} {fs : List Value} {v : Value} {A : Nat → Prop} {H0 : Heap} (S : SF p m c cc nL s args RX0) (hK : KK D cI cB cZ s) (hP : va_P D vwCl ws H) (hD : va_D A ws) (hS : va_S A H0 H locs) (q0 : Nat) (he : ws[q0]? = some (a, .inr (1, fs))) (hl : 5 < fs.length) (hn : narrow (tyX0 5) v = v) (hfit : fits (tyX0 5) v = true) (hdg : decode cc pc = .ok (.putfield 21, 3)) (kk : ∀ (H1 : Heap) (locs1 : List Loc), va_P D vwCl (ws.set q0 (a, .inr (1, fs.set 5 v))) H1 → va_D A (ws.set q0 (a, .inr (1, fs.set 5 v))) → va_S A H0 H1 locs1 → W p l e R s m args below meth c H1 locs1 cells slots Q (F0 m (pc + 3) ls rest)) : W p l e R s m args below meth c H locs cells slots Q (F0 m pc ls (v :: .ref a :: rest)) :=
  va_put (C := RX0) (T := TX0) (N := 8) S.1 S.2.1 S.2.2.2.2 hin_RX0 tyX0 tyX0_ok nmX0 S.2.2.2.1 hK.1 hP hD hS q0 he rfl 5 (by decide) (S.2.2.2.2 _ (wk4_18 8 rfl rfl)) (fun _ h9 => h9) rfl (tyX0_ok 5 (by decide)) hn hfit hl hdg kk
set_option maxRecDepth 100000 in
theorem gf_RX0_27 {p : Program} {l : Launch} {e : Env} {R : Room} {s : State} {m : MethodId} {args : Array Value} {below : List Frame} {meth : Method} {c : Code} {H : Heap} {locs : List Loc} {cells slots : Nat} {Q : State → Prop} {cc : ByteArray} {nL pc : Nat} {D : va_G} {cI cB cZ : ClassId} {ws : va_W} {rest : List Value} {ls : Array Slot} {a : Nat} {fs : List Value} {v : Value} (S : SF p m c cc nL s args RX0) (hK : KK D cI cB cZ s) (hP : va_P D vwCl ws H) (q0 : Nat) (he : ws[q0]? = some (a, .inr (3, fs))) (hv : fs[2]? = some v) (hdg : decode cc pc = .ok (.getfield 27, 3)) (kk : W p l e R s m args below meth c H locs cells slots Q (F0 m (pc + 3) ls (v :: rest))) : W p l e R s m args below meth c H locs cells slots Q (F0 m pc ls (.ref a :: rest)) :=
  va_get (C := RX2) (T := TX2) (N := 10) S.1 S.2.1 S.2.2.2.2 hin_RX2 S.2.2.2.1 hK.1 hP q0 he rfl 2 (by decide) (S.2.2.2.2 _ (wk2_17 11 rfl rfl)) (fun _ h9 => h9) hv hdg kk
set_option maxRecDepth 100000 in
theorem pf_RX0_24 {p : Program} {l : Launch} {e : Env} {R : Room} {s : State} {m : MethodId} {args : Array Value} {below : List Frame} {meth : Method} {c : Code} {H : Heap} {locs : List Loc} {cells slots : Nat} {Q : State → Prop} {cc : ByteArray} {nL pc : Nat} {D : va_G} {cI cB cZ : ClassId} {ws : va_W} {rest : List Value} {ls : Array Slot} {a : Nat} {fs : List Value} {v : Value} {A : Nat → Prop} {H0 : Heap} (S : SF p m c cc nL s args RX0) (hK : KK D cI cB cZ s) (hP : va_P D vwCl ws H) (hD : va_D A ws) (hS : va_S A H0 H locs) (q0 : Nat) (he : ws[q0]? = some (a, .inr (1, fs))) (hl : 6 < fs.length) (hn : narrow (tyX0 6) v = v) (hfit : fits (tyX0 6) v = true) (hdg : decode cc pc = .ok (.putfield 24, 3)) (kk : ∀ (H1 : Heap) (locs1 : List Loc), va_P D vwCl (ws.set q0 (a, .inr (1, fs.set 6 v))) H1 → va_D A (ws.set q0 (a, .inr (1, fs.set 6 v))) → va_S A H0 H1 locs1 → W p l e R s m args below meth c H1 locs1 cells slots Q (F0 m (pc + 3) ls rest)) : W p l e R s m args below meth c H locs cells slots Q (F0 m pc ls (v :: .ref a :: rest)) :=
  va_put (C := RX0) (T := TX0) (N := 8) S.1 S.2.1 S.2.2.2.2 hin_RX0 tyX0 tyX0_ok nmX0 S.2.2.2.1 hK.1 hP hD hS q0 he rfl 6 (by decide) (S.2.2.2.2 _ (wk4_18 10 rfl rfl)) (fun _ h9 => h9) rfl (tyX0_ok 6 (by decide)) hn hfit hl hdg kk
set_option maxRecDepth 100000 in
theorem gf_RX0_33 {p : Program} {l : Launch} {e : Env} {R : Room} {s : State} {m : MethodId} {args : Array Value} {below : List Frame} {meth : Method} {c : Code} {H : Heap} {locs : List Loc} {cells slots : Nat} {Q : State → Prop} {cc : ByteArray} {nL pc : Nat} {D : va_G} {cI cB cZ : ClassId} {ws : va_W} {rest : List Value} {ls : Array Slot} {a : Nat} {fs : List Value} {v : Value} (S : SF p m c cc nL s args RX0) (hK : KK D cI cB cZ s) (hP : va_P D vwCl ws H) (q0 : Nat) (he : ws[q0]? = some (a, .inr (3, fs))) (hv : fs[3]? = some v) (hdg : decode cc pc = .ok (.getfield 33, 3)) (kk : W p l e R s m args below meth c H locs cells slots Q (F0 m (pc + 3) ls (v :: rest))) : W p l e R s m args below meth c H locs cells slots Q (F0 m pc ls (.ref a :: rest)) :=
  va_get (C := RX2) (T := TX2) (N := 10) S.1 S.2.1 S.2.2.2.2 hin_RX2 S.2.2.2.1 hK.1 hP q0 he rfl 3 (by decide) (S.2.2.2.2 _ (wk2_18 2 rfl rfl)) (fun _ h9 => h9) hv hdg kk
set_option maxRecDepth 100000 in
theorem pf_RX0_30 {p : Program} {l : Launch} {e : Env} {R : Room} {s : State} {m : MethodId} {args : Array Value} {below : List Frame} {meth : Method} {c : Code} {H : Heap} {locs : List Loc} {cells slots : Nat} {Q : State → Prop} {cc : ByteArray} {nL pc : Nat} {D : va_G} {cI cB cZ : ClassId} {ws : va_W} {rest : List Value} {ls : Array Slot} {a : Nat} {fs : List Value} {v : Value} {A : Nat → Prop} {H0 : Heap} (S : SF p m c cc nL s args RX0) (hK : KK D cI cB cZ s) (hP : va_P D vwCl ws H) (hD : va_D A ws) (hS : va_S A H0 H locs) (q0 : Nat) (he : ws[q0]? = some (a, .inr (1, fs))) (hl : 1 < fs.length) (hn : narrow (tyX0 1) v = v) (hfit : fits (tyX0 1) v = true) (hdg : decode cc pc = .ok (.putfield 30, 3)) (kk : ∀ (H1 : Heap) (locs1 : List Loc), va_P D vwCl (ws.set q0 (a, .inr (1, fs.set 1 v))) H1 → va_D A (ws.set q0 (a, .inr (1, fs.set 1 v))) → va_S A H0 H1 locs1 → W p l e R s m args below meth c H1 locs1 cells slots Q (F0 m (pc + 3) ls rest)) : W p l e R s m args below meth c H locs cells slots Q (F0 m pc ls (v :: .ref a :: rest)) :=
  va_put (C := RX0) (T := TX0) (N := 8) S.1 S.2.1 S.2.2.2.2 hin_RX0 tyX0 tyX0_ok nmX0 S.2.2.2.1 hK.1 hP hD hS q0 he rfl 1 (by decide) (S.2.2.2.2 _ (wk4_18 2 rfl rfl)) (fun _ h9 => h9) rfl (tyX0_ok 1 (by decide)) hn hfit hl hdg kk
set_option maxRecDepth 100000 in
theorem gf_RX0_39 {p : Program} {l : Launch} {e : Env} {R : Room} {s : State} {m : MethodId} {args : Array Value} {below : List Frame} {meth : Method} {c : Code} {H : Heap} {locs : List Loc} {cells slots : Nat} {Q : State → Prop} {cc : ByteArray} {nL pc : Nat} {D : va_G} {cI cB cZ : ClassId} {ws : va_W} {rest : List Value} {ls : Array Slot} {a : Nat} {fs : List Value} {v : Value} (S : SF p m c cc nL s args RX0) (hK : KK D cI cB cZ s) (hP : va_P D vwCl ws H) (q0 : Nat) (he : ws[q0]? = some (a, .inr (3, fs))) (hv : fs[4]? = some v) (hdg : decode cc pc = .ok (.getfield 39, 3)) (kk : W p l e R s m args below meth c H locs cells slots Q (F0 m (pc + 3) ls (v :: rest))) : W p l e R s m args below meth c H locs cells slots Q (F0 m pc ls (.ref a :: rest)) :=
  va_get (C := RX2) (T := TX2) (N := 10) S.1 S.2.1 S.2.2.2.2 hin_RX2 S.2.2.2.1 hK.1 hP q0 he rfl 4 (by decide) (S.2.2.2.2 _ (wk2_18 5 rfl rfl)) (fun _ h9 => h9) hv hdg kk
set_option maxRecDepth 100000 in
theorem pf_RX0_36 {p : Program} {l : Launch} {e : Env} {R : Room} {s : State} {m : MethodId} {args : Array Value} {below : List Frame} {meth : Method} {c : Code} {H : Heap} {locs : List Loc} {cells slots : Nat} {Q : State → Prop} {cc : ByteArray} {nL pc : Nat} {D : va_G} {cI cB cZ : ClassId} {ws : va_W} {rest : List Value} {ls : Array Slot} {a : Nat} {fs : List Value} {v : Value} {A : Nat → Prop} {H0 : Heap} (S : SF p m c cc nL s args RX0) (hK : KK D cI cB cZ s) (hP : va_P D vwCl ws H) (hD : va_D A ws) (hS : va_S A H0 H locs) (q0 : Nat) (he : ws[q0]? = some (a, .inr (1, fs))) (hl : 2 < fs.length) (hn : narrow (tyX0 2) v = v) (hfit : fits (tyX0 2) v = true) (hdg : decode cc pc = .ok (.putfield 36, 3)) (kk : ∀ (H1 : Heap) (locs1 : List Loc), va_P D vwCl (ws.set q0 (a, .inr (1, fs.set 2 v))) H1 → va_D A (ws.set q0 (a, .inr (1, fs.set 2 v))) → va_S A H0 H1 locs1 → W p l e R s m args below meth c H1 locs1 cells slots Q (F0 m (pc + 3) ls rest)) : W p l e R s m args below meth c H locs cells slots Q (F0 m pc ls (v :: .ref a :: rest)) :=
  va_put (C := RX0) (T := TX0) (N := 8) S.1 S.2.1 S.2.2.2.2 hin_RX0 tyX0 tyX0_ok nmX0 S.2.2.2.1 hK.1 hP hD hS q0 he rfl 2 (by decide) (S.2.2.2.2 _ (wk4_18 3 rfl rfl)) (fun _ h9 => h9) rfl (tyX0_ok 2 (by decide)) hn hfit hl hdg kk
set_option maxRecDepth 100000 in
theorem kV_RX11_354 : CalV RX11 354 yX11_canBeBatched cX11_canBeBatched 2 (some .boolean) 1 := ⟨⟨wk5_0 6 rfl rfl, wk5_0 8 rfl rfl, wT_sel 44 _ rfl rfl rfl, wk1_0 1 rfl rfl, wk5_0 9 rfl rfl⟩, ⟨nmh_0.1, nmh_0.2, pd_52⟩⟩
set_option maxRecDepth 100000 in
theorem kV_RX11_358 : CalV RX11 358 yX0_flip cX0_flip 4 none 2 := ⟨⟨wk5_0 10 rfl rfl, wk5_0 11 rfl rfl, wk5_1 0 rfl rfl, wk1_1 11 rfl rfl, wk5_1 1 rfl rfl⟩, ⟨nmh_1.1, nmh_1.2, pd_42⟩⟩
set_option maxRecDepth 100000 in
theorem gf_RX11_347 {p : Program} {l : Launch} {e : Env} {R : Room} {s : State} {m : MethodId} {args : Array Value} {below : List Frame} {meth : Method} {c : Code} {H : Heap} {locs : List Loc} {cells slots : Nat} {Q : State → Prop} {cc : ByteArray} {nL pc : Nat} {D : va_G} {cI cB cZ : ClassId} {ws : va_W} {rest : List Value} {ls : Array Slot} {a : Nat} {fs : List Value} {v : Value} (S : SF p m c cc nL s args RX11) (hK : KK D cI cB cZ s) (hP : va_P D vwCl ws H) (q0 : Nat) (he : ws[q0]? = some (a, .inr (1, fs))) (hv : fs[5]? = some v) (hdg : decode cc pc = .ok (.getfield 347, 3)) (kk : W p l e R s m args below meth c H locs cells slots Q (F0 m (pc + 3) ls (v :: rest))) : W p l e R s m args below meth c H locs cells slots Q (F0 m pc ls (.ref a :: rest)) :=
  va_get (C := RX0) (T := TX0) (N := 8) S.1 S.2.1 S.2.2.2.2 hin_RX0 S.2.2.2.1 hK.1 hP q0 he rfl 5 (by decide) (S.2.2.2.2 _ (wk4_18 9 rfl rfl)) (fun _ h9 => h9) hv hdg kk
set_option maxRecDepth 100000 in
theorem pf_RX11_381 {p : Program} {l : Launch} {e : Env} {R : Room} {s : State} {m : MethodId} {args : Array Value} {below : List Frame} {meth : Method} {c : Code} {H : Heap} {locs : List Loc} {cells slots : Nat} {Q : State → Prop} {cc : ByteArray} {nL pc : Nat} {D : va_G} {cI cB cZ : ClassId} {ws : va_W} {rest : List Value} {ls : Array Slot} {a : Nat} {fs : List Value} {v : Value} {A : Nat → Prop} {H0 : Heap} (S : SF p m c cc nL s args RX11) (hK : KK D cI cB cZ s) (hP : va_P D vwCl ws H) (hD : va_D A ws) (hS : va_S A H0 H locs) (q0 : Nat) (he : ws[q0]? = some (a, .inr (1, fs))) (hl : 7 < fs.length) (hn : narrow (tyX0 7) v = v) (hfit : fits (tyX0 7) v = true) (hdg : decode cc pc = .ok (.putfield 381, 3)) (kk : ∀ (H1 : Heap) (locs1 : List Loc), va_P D vwCl (ws.set q0 (a, .inr (1, fs.set 7 v))) H1 → va_D A (ws.set q0 (a, .inr (1, fs.set 7 v))) → va_S A H0 H1 locs1 → W p l e R s m args below meth c H1 locs1 cells slots Q (F0 m (pc + 3) ls rest)) : W p l e R s m args below meth c H locs cells slots Q (F0 m pc ls (v :: .ref a :: rest)) :=
  va_put (C := RX0) (T := TX0) (N := 8) S.1 S.2.1 S.2.2.2.2 hin_RX0 tyX0 tyX0_ok nmX0 S.2.2.2.1 hK.1 hP hD hS q0 he rfl 7 (by decide) (S.2.2.2.2 _ (wk4_19 0 rfl rfl)) (fun _ h9 => h9) rfl (tyX0_ok 7 (by decide)) hn hfit hl hdg kk
set_option maxRecDepth 100000 in
theorem pf_RX11_349 {p : Program} {l : Launch} {e : Env} {R : Room} {s : State} {m : MethodId} {args : Array Value} {below : List Frame} {meth : Method} {c : Code} {H : Heap} {locs : List Loc} {cells slots : Nat} {Q : State → Prop} {cc : ByteArray} {nL pc : Nat} {D : va_G} {cI cB cZ : ClassId} {ws : va_W} {rest : List Value} {ls : Array Slot} {a : Nat} {fs : List Value} {v : Value} {A : Nat → Prop} {H0 : Heap} (S : SF p m c cc nL s args RX11) (hK : KK D cI cB cZ s) (hP : va_P D vwCl ws H) (hD : va_D A ws) (hS : va_S A H0 H locs) (q0 : Nat) (he : ws[q0]? = some (a, .inr (3, fs))) (hl : 9 < fs.length) (hn : narrow (tyX2 9) v = v) (hfit : fits (tyX2 9) v = true) (hdg : decode cc pc = .ok (.putfield 349, 3)) (kk : ∀ (H1 : Heap) (locs1 : List Loc), va_P D vwCl (ws.set q0 (a, .inr (3, fs.set 9 v))) H1 → va_D A (ws.set q0 (a, .inr (3, fs.set 9 v))) → va_S A H0 H1 locs1 → W p l e R s m args below meth c H1 locs1 cells slots Q (F0 m (pc + 3) ls rest)) : W p l e R s m args below meth c H locs cells slots Q (F0 m pc ls (v :: .ref a :: rest)) :=
  va_put (C := RX2) (T := TX2) (N := 10) S.1 S.2.1 S.2.2.2.2 hin_RX2 tyX2 tyX2_ok nmX2 S.2.2.2.1 hK.1 hP hD hS q0 he rfl 9 (by decide) (S.2.2.2.2 _ (wk2_19 0 rfl rfl)) (fun _ h9 => h9) rfl (tyX2_ok 9 (by decide)) hn hfit hl hdg kk
set_option maxRecDepth 100000 in
theorem kV_RX11_363 : CalV RX11 363 yX11_mixed cX11_mixed 5 (some (.object "OilHome$Batch")) 1 := ⟨⟨wk4_17 3 rfl rfl, wk4_17 5 rfl rfl, wT_sel 43 _ rfl rfl rfl, wk1_0 1 rfl rfl, wk4_17 6 rfl rfl⟩, ⟨nmh_0.1, nmh_0.2, pd_9⟩⟩
set_option maxRecDepth 100000 in
theorem kV_RX11_367 : CalV RX11 367 yX11_lettersOfLaw cX11_lettersOfLaw 1 none 0 := ⟨⟨wk5_1 6 rfl rfl, wk5_1 8 rfl rfl, wT_sel 45 _ rfl rfl rfl, wk1_0 1 rfl rfl, wk5_1 9 rfl rfl⟩, ⟨nmh_0.1, nmh_0.2, pd_2⟩⟩
set_option maxRecDepth 100000 in
theorem kV_RX11_370 : CalV RX11 370 yX11_brokenClause cX11_brokenClause 2 (some .int) 1 := ⟨⟨wk5_1 10 rfl rfl, wk5_2 0 rfl rfl, wT_sel 46 _ rfl rfl rfl, wk1_0 1 rfl rfl, wk5_2 1 rfl rfl⟩, ⟨nmh_0.1, nmh_0.2, pd_46⟩⟩
set_option maxRecDepth 100000 in
theorem kV_RX11_374 : CalV RX11 374 yX11_keep cX11_keep 4 none 1 := ⟨⟨wk5_2 10 rfl rfl, wk5_3 0 rfl rfl, wT_sel 47 _ rfl rfl rfl, wk1_0 1 rfl rfl, wk5_3 1 rfl rfl⟩, ⟨nmh_0.1, nmh_0.2, pd_47⟩⟩
set_option maxRecDepth 100000 in
theorem kV_RX11_391 : CalV RX11 391 yX11_gatherBlendable cX11_gatherBlendable 4 (some .int) 1 := ⟨⟨wk5_5 0 rfl rfl, wk5_5 2 rfl rfl, wT_sel 51 _ rfl rfl rfl, wk1_0 1 rfl rfl, wk5_5 3 rfl rfl⟩, ⟨nmh_0.1, nmh_0.2, pd_65⟩⟩
set_option maxRecDepth 100000 in
theorem kV_RX11_395 : CalV RX11 395 yX11_flipTo cX11_flipTo 7 none 3 := ⟨⟨wk5_5 4 rfl rfl, wk5_5 6 rfl rfl, wT_sel 52 _ rfl rfl rfl, wk1_0 1 rfl rfl, wk5_5 7 rfl rfl⟩, ⟨nmh_0.1, nmh_0.2, pd_48⟩⟩
noncomputable def sxX0_flip_92 : List UInt8 := []
noncomputable def sxX0_flip_91 : List UInt8 := 177 :: sxX0_flip_92
noncomputable def sxX0_flip_88 : List UInt8 := 181 :: 0 :: 36 :: sxX0_flip_91
noncomputable def sxX0_flip_87 : List UInt8 := 96 :: sxX0_flip_88
noncomputable def sxX0_flip_86 : List UInt8 := 104 :: sxX0_flip_87
noncomputable def sxX0_flip_83 : List UInt8 := 180 :: 0 :: 39 :: sxX0_flip_86
noncomputable def sxX0_flip_82 : List UInt8 := 44 :: sxX0_flip_83
noncomputable def sxX0_flip_81 : List UInt8 := 104 :: sxX0_flip_82
noncomputable def sxX0_flip_78 : List UInt8 := 180 :: 0 :: 27 :: sxX0_flip_81
noncomputable def sxX0_flip_77 : List UInt8 := 44 :: sxX0_flip_78
noncomputable def sxX0_flip_76 : List UInt8 := 29 :: sxX0_flip_77
noncomputable def sxX0_flip_73 : List UInt8 := 180 :: 0 :: 36 :: sxX0_flip_76
noncomputable def sxX0_flip_72 : List UInt8 := 89 :: sxX0_flip_73
noncomputable def sxX0_flip_71 : List UInt8 := 42 :: sxX0_flip_72
noncomputable def sxX0_flip_68 : List UInt8 := 181 :: 0 :: 30 :: sxX0_flip_71
noncomputable def sxX0_flip_67 : List UInt8 := 96 :: sxX0_flip_68
noncomputable def sxX0_flip_66 : List UInt8 := 104 :: sxX0_flip_67
noncomputable def sxX0_flip_63 : List UInt8 := 180 :: 0 :: 33 :: sxX0_flip_66
noncomputable def sxX0_flip_62 : List UInt8 := 44 :: sxX0_flip_63
noncomputable def sxX0_flip_61 : List UInt8 := 104 :: sxX0_flip_62
noncomputable def sxX0_flip_58 : List UInt8 := 180 :: 0 :: 27 :: sxX0_flip_61
noncomputable def sxX0_flip_57 : List UInt8 := 44 :: sxX0_flip_58
noncomputable def sxX0_flip_56 : List UInt8 := 29 :: sxX0_flip_57
noncomputable def sxX0_flip_53 : List UInt8 := 180 :: 0 :: 30 :: sxX0_flip_56
noncomputable def sxX0_flip_52 : List UInt8 := 89 :: sxX0_flip_53
noncomputable def sxX0_flip_51 : List UInt8 := 42 :: sxX0_flip_52
noncomputable def sxX0_flip_48 : List UInt8 := 181 :: 0 :: 24 :: sxX0_flip_51
noncomputable def sxX0_flip_47 : List UInt8 := 96 :: sxX0_flip_48
noncomputable def sxX0_flip_46 : List UInt8 := 104 :: sxX0_flip_47
noncomputable def sxX0_flip_43 : List UInt8 := 180 :: 0 :: 27 :: sxX0_flip_46
noncomputable def sxX0_flip_42 : List UInt8 := 44 :: sxX0_flip_43
noncomputable def sxX0_flip_41 : List UInt8 := 29 :: sxX0_flip_42
noncomputable def sxX0_flip_38 : List UInt8 := 180 :: 0 :: 24 :: sxX0_flip_41
noncomputable def sxX0_flip_37 : List UInt8 := 89 :: sxX0_flip_38
noncomputable def sxX0_flip_36 : List UInt8 := 42 :: sxX0_flip_37
noncomputable def sxX0_flip_33 : List UInt8 := 181 :: 0 :: 21 :: sxX0_flip_36
noncomputable def sxX0_flip_32 : List UInt8 := 96 :: sxX0_flip_33
noncomputable def sxX0_flip_31 : List UInt8 := 29 :: sxX0_flip_32
noncomputable def sxX0_flip_28 : List UInt8 := 180 :: 0 :: 21 :: sxX0_flip_31
noncomputable def sxX0_flip_27 : List UInt8 := 89 :: sxX0_flip_28
noncomputable def sxX0_flip_26 : List UInt8 := 42 :: sxX0_flip_27
noncomputable def sxX0_flip_23 : List UInt8 := 181 :: 0 :: 13 :: sxX0_flip_26
noncomputable def sxX0_flip_22 : List UInt8 := 130 :: sxX0_flip_23
noncomputable def sxX0_flip_21 : List UInt8 := 120 :: sxX0_flip_22
noncomputable def sxX0_flip_20 : List UInt8 := 27 :: sxX0_flip_21
noncomputable def sxX0_flip_19 : List UInt8 := 4 :: sxX0_flip_20
noncomputable def sxX0_flip_16 : List UInt8 := 180 :: 0 :: 13 :: sxX0_flip_19
noncomputable def sxX0_flip_15 : List UInt8 := 89 :: sxX0_flip_16
noncomputable def sxX0_flip_14 : List UInt8 := 42 :: sxX0_flip_15
noncomputable def sxX0_flip_13 : List UInt8 := 62 :: sxX0_flip_14
noncomputable def sxX0_flip_12 : List UInt8 := 4 :: sxX0_flip_13
noncomputable def sxX0_flip_9 : List UInt8 := 167 :: 0 :: 4 :: sxX0_flip_12
noncomputable def sxX0_flip_8 : List UInt8 := 2 :: sxX0_flip_9
noncomputable def sxX0_flip_5 : List UInt8 := 153 :: 0 :: 7 :: sxX0_flip_8
noncomputable def sxX0_flip_2 : List UInt8 := 182 :: 0 :: 17 :: sxX0_flip_5
noncomputable def sxX0_flip_1 : List UInt8 := 27 :: sxX0_flip_2
noncomputable def sxX0_flip_0 : List UInt8 := 42 :: sxX0_flip_1
theorem shX0_flip_0 : cX0_flip.data.toList.drop 0 = sxX0_flip_0 := rfl
theorem shX0_flip_1 : cX0_flip.data.toList.drop 1 = sxX0_flip_1 := dSn 1 shX0_flip_0
theorem shX0_flip_2 : cX0_flip.data.toList.drop 2 = sxX0_flip_2 := dSn 1 shX0_flip_1
theorem shX0_flip_5 : cX0_flip.data.toList.drop 5 = sxX0_flip_5 := dSn 3 shX0_flip_2
theorem shX0_flip_8 : cX0_flip.data.toList.drop 8 = sxX0_flip_8 := dSn 3 shX0_flip_5
theorem shX0_flip_9 : cX0_flip.data.toList.drop 9 = sxX0_flip_9 := dSn 1 shX0_flip_8
theorem shX0_flip_12 : cX0_flip.data.toList.drop 12 = sxX0_flip_12 := dSn 3 shX0_flip_9
theorem shX0_flip_13 : cX0_flip.data.toList.drop 13 = sxX0_flip_13 := dSn 1 shX0_flip_12
theorem shX0_flip_14 : cX0_flip.data.toList.drop 14 = sxX0_flip_14 := dSn 1 shX0_flip_13
theorem shX0_flip_15 : cX0_flip.data.toList.drop 15 = sxX0_flip_15 := dSn 1 shX0_flip_14
theorem shX0_flip_16 : cX0_flip.data.toList.drop 16 = sxX0_flip_16 := dSn 1 shX0_flip_15
theorem shX0_flip_19 : cX0_flip.data.toList.drop 19 = sxX0_flip_19 := dSn 3 shX0_flip_16
theorem shX0_flip_20 : cX0_flip.data.toList.drop 20 = sxX0_flip_20 := dSn 1 shX0_flip_19
theorem shX0_flip_21 : cX0_flip.data.toList.drop 21 = sxX0_flip_21 := dSn 1 shX0_flip_20
theorem shX0_flip_22 : cX0_flip.data.toList.drop 22 = sxX0_flip_22 := dSn 1 shX0_flip_21
theorem shX0_flip_23 : cX0_flip.data.toList.drop 23 = sxX0_flip_23 := dSn 1 shX0_flip_22
theorem shX0_flip_26 : cX0_flip.data.toList.drop 26 = sxX0_flip_26 := dSn 3 shX0_flip_23
theorem shX0_flip_27 : cX0_flip.data.toList.drop 27 = sxX0_flip_27 := dSn 1 shX0_flip_26
theorem shX0_flip_28 : cX0_flip.data.toList.drop 28 = sxX0_flip_28 := dSn 1 shX0_flip_27
theorem shX0_flip_31 : cX0_flip.data.toList.drop 31 = sxX0_flip_31 := dSn 3 shX0_flip_28
theorem shX0_flip_32 : cX0_flip.data.toList.drop 32 = sxX0_flip_32 := dSn 1 shX0_flip_31
theorem shX0_flip_33 : cX0_flip.data.toList.drop 33 = sxX0_flip_33 := dSn 1 shX0_flip_32
theorem shX0_flip_36 : cX0_flip.data.toList.drop 36 = sxX0_flip_36 := dSn 3 shX0_flip_33
theorem shX0_flip_37 : cX0_flip.data.toList.drop 37 = sxX0_flip_37 := dSn 1 shX0_flip_36
theorem shX0_flip_38 : cX0_flip.data.toList.drop 38 = sxX0_flip_38 := dSn 1 shX0_flip_37
theorem shX0_flip_41 : cX0_flip.data.toList.drop 41 = sxX0_flip_41 := dSn 3 shX0_flip_38
theorem shX0_flip_42 : cX0_flip.data.toList.drop 42 = sxX0_flip_42 := dSn 1 shX0_flip_41
theorem shX0_flip_43 : cX0_flip.data.toList.drop 43 = sxX0_flip_43 := dSn 1 shX0_flip_42
theorem shX0_flip_46 : cX0_flip.data.toList.drop 46 = sxX0_flip_46 := dSn 3 shX0_flip_43
theorem shX0_flip_47 : cX0_flip.data.toList.drop 47 = sxX0_flip_47 := dSn 1 shX0_flip_46
theorem shX0_flip_48 : cX0_flip.data.toList.drop 48 = sxX0_flip_48 := dSn 1 shX0_flip_47
theorem shX0_flip_51 : cX0_flip.data.toList.drop 51 = sxX0_flip_51 := dSn 3 shX0_flip_48
theorem shX0_flip_52 : cX0_flip.data.toList.drop 52 = sxX0_flip_52 := dSn 1 shX0_flip_51
theorem shX0_flip_53 : cX0_flip.data.toList.drop 53 = sxX0_flip_53 := dSn 1 shX0_flip_52
theorem shX0_flip_56 : cX0_flip.data.toList.drop 56 = sxX0_flip_56 := dSn 3 shX0_flip_53
theorem shX0_flip_57 : cX0_flip.data.toList.drop 57 = sxX0_flip_57 := dSn 1 shX0_flip_56
theorem shX0_flip_58 : cX0_flip.data.toList.drop 58 = sxX0_flip_58 := dSn 1 shX0_flip_57
theorem shX0_flip_61 : cX0_flip.data.toList.drop 61 = sxX0_flip_61 := dSn 3 shX0_flip_58
theorem shX0_flip_62 : cX0_flip.data.toList.drop 62 = sxX0_flip_62 := dSn 1 shX0_flip_61
theorem shX0_flip_63 : cX0_flip.data.toList.drop 63 = sxX0_flip_63 := dSn 1 shX0_flip_62
theorem shX0_flip_66 : cX0_flip.data.toList.drop 66 = sxX0_flip_66 := dSn 3 shX0_flip_63
theorem shX0_flip_67 : cX0_flip.data.toList.drop 67 = sxX0_flip_67 := dSn 1 shX0_flip_66
theorem shX0_flip_68 : cX0_flip.data.toList.drop 68 = sxX0_flip_68 := dSn 1 shX0_flip_67
theorem shX0_flip_71 : cX0_flip.data.toList.drop 71 = sxX0_flip_71 := dSn 3 shX0_flip_68
theorem shX0_flip_72 : cX0_flip.data.toList.drop 72 = sxX0_flip_72 := dSn 1 shX0_flip_71
theorem shX0_flip_73 : cX0_flip.data.toList.drop 73 = sxX0_flip_73 := dSn 1 shX0_flip_72
theorem shX0_flip_76 : cX0_flip.data.toList.drop 76 = sxX0_flip_76 := dSn 3 shX0_flip_73
theorem shX0_flip_77 : cX0_flip.data.toList.drop 77 = sxX0_flip_77 := dSn 1 shX0_flip_76
theorem shX0_flip_78 : cX0_flip.data.toList.drop 78 = sxX0_flip_78 := dSn 1 shX0_flip_77
theorem shX0_flip_81 : cX0_flip.data.toList.drop 81 = sxX0_flip_81 := dSn 3 shX0_flip_78
theorem shX0_flip_82 : cX0_flip.data.toList.drop 82 = sxX0_flip_82 := dSn 1 shX0_flip_81
theorem shX0_flip_83 : cX0_flip.data.toList.drop 83 = sxX0_flip_83 := dSn 1 shX0_flip_82
theorem shX0_flip_86 : cX0_flip.data.toList.drop 86 = sxX0_flip_86 := dSn 3 shX0_flip_83
theorem shX0_flip_87 : cX0_flip.data.toList.drop 87 = sxX0_flip_87 := dSn 1 shX0_flip_86
theorem shX0_flip_88 : cX0_flip.data.toList.drop 88 = sxX0_flip_88 := dSn 1 shX0_flip_87
theorem shX0_flip_91 : cX0_flip.data.toList.drop 91 = sxX0_flip_91 := dSn 3 shX0_flip_88
theorem dX0_flip_0 : decode cX0_flip 0 = .ok (.aload_n 0, 1) := oc_42 shX0_flip_0
theorem dX0_flip_1 : decode cX0_flip 1 = .ok (.iload_n 1, 1) := oc_27 shX0_flip_1
theorem dX0_flip_2 : decode cX0_flip 2 = .ok (.invokevirtual 17, 3) := oc_182 shX0_flip_2
theorem dX0_flip_5 : decode cX0_flip 5 = .ok (.ifCond .eq 7, 3) := oc_153 shX0_flip_5 sgw_0_7
theorem dX0_flip_8 : decode cX0_flip 8 = .ok (.iconst (-1), 1) := oc_2 shX0_flip_8
theorem dX0_flip_9 : decode cX0_flip 9 = .ok (.goto 4, 3) := oc_167 shX0_flip_9 sgw_0_4
theorem dX0_flip_13 : decode cX0_flip 13 = .ok (.istore_n 3, 1) := oc_62 shX0_flip_13
theorem dX0_flip_14 : decode cX0_flip 14 = .ok (.aload_n 0, 1) := oc_42 shX0_flip_14
theorem dX0_flip_15 : decode cX0_flip 15 = .ok (.dup, 1) := oc_89 shX0_flip_15
theorem dX0_flip_16 : decode cX0_flip 16 = .ok (.getfield 13, 3) := oc_180 shX0_flip_16
theorem dX0_flip_19 : decode cX0_flip 19 = .ok (.iconst 1, 1) := oc_4 shX0_flip_19
theorem dX0_flip_20 : decode cX0_flip 20 = .ok (.iload_n 1, 1) := oc_27 shX0_flip_20
theorem dX0_flip_21 : decode cX0_flip 21 = .ok (.ishl, 1) := oc_120 shX0_flip_21
theorem dX0_flip_22 : decode cX0_flip 22 = .ok (.ixor, 1) := oc_130 shX0_flip_22
theorem dX0_flip_23 : decode cX0_flip 23 = .ok (.putfield 13, 3) := oc_181 shX0_flip_23
theorem dX0_flip_26 : decode cX0_flip 26 = .ok (.aload_n 0, 1) := oc_42 shX0_flip_26
theorem dX0_flip_27 : decode cX0_flip 27 = .ok (.dup, 1) := oc_89 shX0_flip_27
theorem dX0_flip_28 : decode cX0_flip 28 = .ok (.getfield 21, 3) := oc_180 shX0_flip_28
theorem dX0_flip_31 : decode cX0_flip 31 = .ok (.iload_n 3, 1) := oc_29 shX0_flip_31
theorem dX0_flip_32 : decode cX0_flip 32 = .ok (.iadd, 1) := oc_96 shX0_flip_32
theorem dX0_flip_33 : decode cX0_flip 33 = .ok (.putfield 21, 3) := oc_181 shX0_flip_33
theorem dX0_flip_36 : decode cX0_flip 36 = .ok (.aload_n 0, 1) := oc_42 shX0_flip_36
theorem dX0_flip_37 : decode cX0_flip 37 = .ok (.dup, 1) := oc_89 shX0_flip_37
theorem dX0_flip_38 : decode cX0_flip 38 = .ok (.getfield 24, 3) := oc_180 shX0_flip_38
theorem dX0_flip_41 : decode cX0_flip 41 = .ok (.iload_n 3, 1) := oc_29 shX0_flip_41
theorem dX0_flip_42 : decode cX0_flip 42 = .ok (.aload_n 2, 1) := oc_44 shX0_flip_42
theorem dX0_flip_43 : decode cX0_flip 43 = .ok (.getfield 27, 3) := oc_180 shX0_flip_43
theorem dX0_flip_46 : decode cX0_flip 46 = .ok (.imul, 1) := oc_104 shX0_flip_46
theorem dX0_flip_47 : decode cX0_flip 47 = .ok (.iadd, 1) := oc_96 shX0_flip_47
theorem dX0_flip_48 : decode cX0_flip 48 = .ok (.putfield 24, 3) := oc_181 shX0_flip_48
theorem dX0_flip_51 : decode cX0_flip 51 = .ok (.aload_n 0, 1) := oc_42 shX0_flip_51
theorem dX0_flip_52 : decode cX0_flip 52 = .ok (.dup, 1) := oc_89 shX0_flip_52
theorem dX0_flip_53 : decode cX0_flip 53 = .ok (.getfield 30, 3) := oc_180 shX0_flip_53
theorem dX0_flip_56 : decode cX0_flip 56 = .ok (.iload_n 3, 1) := oc_29 shX0_flip_56
theorem dX0_flip_57 : decode cX0_flip 57 = .ok (.aload_n 2, 1) := oc_44 shX0_flip_57
theorem dX0_flip_58 : decode cX0_flip 58 = .ok (.getfield 27, 3) := oc_180 shX0_flip_58
theorem dX0_flip_61 : decode cX0_flip 61 = .ok (.imul, 1) := oc_104 shX0_flip_61
theorem dX0_flip_62 : decode cX0_flip 62 = .ok (.aload_n 2, 1) := oc_44 shX0_flip_62
theorem dX0_flip_63 : decode cX0_flip 63 = .ok (.getfield 33, 3) := oc_180 shX0_flip_63
theorem dX0_flip_66 : decode cX0_flip 66 = .ok (.imul, 1) := oc_104 shX0_flip_66
theorem dX0_flip_67 : decode cX0_flip 67 = .ok (.iadd, 1) := oc_96 shX0_flip_67
theorem dX0_flip_68 : decode cX0_flip 68 = .ok (.putfield 30, 3) := oc_181 shX0_flip_68
theorem dX0_flip_71 : decode cX0_flip 71 = .ok (.aload_n 0, 1) := oc_42 shX0_flip_71
theorem dX0_flip_72 : decode cX0_flip 72 = .ok (.dup, 1) := oc_89 shX0_flip_72
theorem dX0_flip_73 : decode cX0_flip 73 = .ok (.getfield 36, 3) := oc_180 shX0_flip_73
theorem dX0_flip_76 : decode cX0_flip 76 = .ok (.iload_n 3, 1) := oc_29 shX0_flip_76
theorem dX0_flip_77 : decode cX0_flip 77 = .ok (.aload_n 2, 1) := oc_44 shX0_flip_77
theorem dX0_flip_78 : decode cX0_flip 78 = .ok (.getfield 27, 3) := oc_180 shX0_flip_78
theorem dX0_flip_81 : decode cX0_flip 81 = .ok (.imul, 1) := oc_104 shX0_flip_81
theorem dX0_flip_82 : decode cX0_flip 82 = .ok (.aload_n 2, 1) := oc_44 shX0_flip_82
theorem dX0_flip_83 : decode cX0_flip 83 = .ok (.getfield 39, 3) := oc_180 shX0_flip_83
theorem dX0_flip_86 : decode cX0_flip 86 = .ok (.imul, 1) := oc_104 shX0_flip_86
theorem dX0_flip_87 : decode cX0_flip 87 = .ok (.iadd, 1) := oc_96 shX0_flip_87
theorem dX0_flip_88 : decode cX0_flip 88 = .ok (.putfield 36, 3) := oc_181 shX0_flip_88
theorem dX0_flip_91 : decode cX0_flip 91 = .ok (.return_, 1) := oc_177 shX0_flip_91
theorem dX0_flip_12 : decode cX0_flip 12 = .ok (.iconst 1, 1) := oc_4 shX0_flip_12
noncomputable def sxX11_mixed_65 : List UInt8 := []
noncomputable def sxX11_mixed_64 : List UInt8 := 176 :: sxX11_mixed_65
noncomputable def sxX11_mixed_63 : List UInt8 := 44 :: sxX11_mixed_64
noncomputable def sxX11_mixed_60 : List UInt8 := 167 :: 255 :: 206 :: sxX11_mixed_63
noncomputable def sxX11_mixed_57 : List UInt8 := 132 :: 3 :: 1 :: sxX11_mixed_60
noncomputable def sxX11_mixed_54 : List UInt8 := 182 :: 1 :: 102 :: sxX11_mixed_57
noncomputable def sxX11_mixed_52 : List UInt8 := 25 :: 4 :: sxX11_mixed_54
noncomputable def sxX11_mixed_51 : List UInt8 := 29 :: sxX11_mixed_52
noncomputable def sxX11_mixed_50 : List UInt8 := 44 :: sxX11_mixed_51
noncomputable def sxX11_mixed_49 : List UInt8 := 176 :: sxX11_mixed_50
noncomputable def sxX11_mixed_48 : List UInt8 := 1 :: sxX11_mixed_49
noncomputable def sxX11_mixed_45 : List UInt8 := 154 :: 0 :: 5 :: sxX11_mixed_48
noncomputable def sxX11_mixed_42 : List UInt8 := 182 :: 1 :: 98 :: sxX11_mixed_45
noncomputable def sxX11_mixed_40 : List UInt8 := 25 :: 4 :: sxX11_mixed_42
noncomputable def sxX11_mixed_39 : List UInt8 := 42 :: sxX11_mixed_40
noncomputable def sxX11_mixed_36 : List UInt8 := 198 :: 0 :: 12 :: sxX11_mixed_39
noncomputable def sxX11_mixed_34 : List UInt8 := 25 :: 4 :: sxX11_mixed_36
noncomputable def sxX11_mixed_32 : List UInt8 := 58 :: 4 :: sxX11_mixed_34
noncomputable def sxX11_mixed_29 : List UInt8 := 182 :: 0 :: 148 :: sxX11_mixed_32
noncomputable def sxX11_mixed_28 : List UInt8 := 29 :: sxX11_mixed_29
noncomputable def sxX11_mixed_27 : List UInt8 := 42 :: sxX11_mixed_28
noncomputable def sxX11_mixed_24 : List UInt8 := 167 :: 0 :: 33 :: sxX11_mixed_27
noncomputable def sxX11_mixed_21 : List UInt8 := 154 :: 0 :: 6 :: sxX11_mixed_24
noncomputable def sxX11_mixed_20 : List UInt8 := 126 :: sxX11_mixed_21
noncomputable def sxX11_mixed_19 : List UInt8 := 4 :: sxX11_mixed_20
noncomputable def sxX11_mixed_18 : List UInt8 := 122 :: sxX11_mixed_19
noncomputable def sxX11_mixed_17 : List UInt8 := 29 :: sxX11_mixed_18
noncomputable def sxX11_mixed_16 : List UInt8 := 27 :: sxX11_mixed_17
noncomputable def sxX11_mixed_13 : List UInt8 := 162 :: 0 :: 50 :: sxX11_mixed_16
noncomputable def sxX11_mixed_11 : List UInt8 := 16 :: 20 :: sxX11_mixed_13
noncomputable def sxX11_mixed_10 : List UInt8 := 29 :: sxX11_mixed_11
noncomputable def sxX11_mixed_9 : List UInt8 := 62 :: sxX11_mixed_10
noncomputable def sxX11_mixed_8 : List UInt8 := 3 :: sxX11_mixed_9
noncomputable def sxX11_mixed_7 : List UInt8 := 77 :: sxX11_mixed_8
noncomputable def sxX11_mixed_4 : List UInt8 := 183 :: 1 :: 97 :: sxX11_mixed_7
noncomputable def sxX11_mixed_3 : List UInt8 := 89 :: sxX11_mixed_4
noncomputable def sxX11_mixed_0 : List UInt8 := 187 :: 0 :: 95 :: sxX11_mixed_3
theorem shX11_mixed_0 : cX11_mixed.data.toList.drop 0 = sxX11_mixed_0 := rfl
theorem shX11_mixed_3 : cX11_mixed.data.toList.drop 3 = sxX11_mixed_3 := dSn 3 shX11_mixed_0
theorem shX11_mixed_4 : cX11_mixed.data.toList.drop 4 = sxX11_mixed_4 := dSn 1 shX11_mixed_3
theorem shX11_mixed_7 : cX11_mixed.data.toList.drop 7 = sxX11_mixed_7 := dSn 3 shX11_mixed_4
theorem shX11_mixed_8 : cX11_mixed.data.toList.drop 8 = sxX11_mixed_8 := dSn 1 shX11_mixed_7
theorem shX11_mixed_9 : cX11_mixed.data.toList.drop 9 = sxX11_mixed_9 := dSn 1 shX11_mixed_8
theorem shX11_mixed_10 : cX11_mixed.data.toList.drop 10 = sxX11_mixed_10 := dSn 1 shX11_mixed_9
theorem shX11_mixed_11 : cX11_mixed.data.toList.drop 11 = sxX11_mixed_11 := dSn 1 shX11_mixed_10
theorem shX11_mixed_13 : cX11_mixed.data.toList.drop 13 = sxX11_mixed_13 := dSn 2 shX11_mixed_11
theorem shX11_mixed_16 : cX11_mixed.data.toList.drop 16 = sxX11_mixed_16 := dSn 3 shX11_mixed_13
theorem shX11_mixed_17 : cX11_mixed.data.toList.drop 17 = sxX11_mixed_17 := dSn 1 shX11_mixed_16
theorem shX11_mixed_18 : cX11_mixed.data.toList.drop 18 = sxX11_mixed_18 := dSn 1 shX11_mixed_17
theorem shX11_mixed_19 : cX11_mixed.data.toList.drop 19 = sxX11_mixed_19 := dSn 1 shX11_mixed_18
theorem shX11_mixed_20 : cX11_mixed.data.toList.drop 20 = sxX11_mixed_20 := dSn 1 shX11_mixed_19
theorem shX11_mixed_21 : cX11_mixed.data.toList.drop 21 = sxX11_mixed_21 := dSn 1 shX11_mixed_20
theorem shX11_mixed_24 : cX11_mixed.data.toList.drop 24 = sxX11_mixed_24 := dSn 3 shX11_mixed_21
theorem shX11_mixed_27 : cX11_mixed.data.toList.drop 27 = sxX11_mixed_27 := dSn 3 shX11_mixed_24
theorem shX11_mixed_28 : cX11_mixed.data.toList.drop 28 = sxX11_mixed_28 := dSn 1 shX11_mixed_27
theorem shX11_mixed_29 : cX11_mixed.data.toList.drop 29 = sxX11_mixed_29 := dSn 1 shX11_mixed_28
theorem shX11_mixed_32 : cX11_mixed.data.toList.drop 32 = sxX11_mixed_32 := dSn 3 shX11_mixed_29
theorem shX11_mixed_34 : cX11_mixed.data.toList.drop 34 = sxX11_mixed_34 := dSn 2 shX11_mixed_32
theorem shX11_mixed_36 : cX11_mixed.data.toList.drop 36 = sxX11_mixed_36 := dSn 2 shX11_mixed_34
theorem shX11_mixed_39 : cX11_mixed.data.toList.drop 39 = sxX11_mixed_39 := dSn 3 shX11_mixed_36
theorem shX11_mixed_40 : cX11_mixed.data.toList.drop 40 = sxX11_mixed_40 := dSn 1 shX11_mixed_39
theorem shX11_mixed_42 : cX11_mixed.data.toList.drop 42 = sxX11_mixed_42 := dSn 2 shX11_mixed_40
theorem shX11_mixed_45 : cX11_mixed.data.toList.drop 45 = sxX11_mixed_45 := dSn 3 shX11_mixed_42
theorem shX11_mixed_48 : cX11_mixed.data.toList.drop 48 = sxX11_mixed_48 := dSn 3 shX11_mixed_45
theorem shX11_mixed_49 : cX11_mixed.data.toList.drop 49 = sxX11_mixed_49 := dSn 1 shX11_mixed_48
theorem shX11_mixed_50 : cX11_mixed.data.toList.drop 50 = sxX11_mixed_50 := dSn 1 shX11_mixed_49
theorem shX11_mixed_51 : cX11_mixed.data.toList.drop 51 = sxX11_mixed_51 := dSn 1 shX11_mixed_50
theorem shX11_mixed_52 : cX11_mixed.data.toList.drop 52 = sxX11_mixed_52 := dSn 1 shX11_mixed_51
theorem shX11_mixed_54 : cX11_mixed.data.toList.drop 54 = sxX11_mixed_54 := dSn 2 shX11_mixed_52
theorem shX11_mixed_57 : cX11_mixed.data.toList.drop 57 = sxX11_mixed_57 := dSn 3 shX11_mixed_54
theorem shX11_mixed_60 : cX11_mixed.data.toList.drop 60 = sxX11_mixed_60 := dSn 3 shX11_mixed_57
theorem shX11_mixed_63 : cX11_mixed.data.toList.drop 63 = sxX11_mixed_63 := dSn 3 shX11_mixed_60
theorem shX11_mixed_64 : cX11_mixed.data.toList.drop 64 = sxX11_mixed_64 := dSn 1 shX11_mixed_63
theorem dX11_mixed_0 : decode cX11_mixed 0 = .ok (.new 95, 3) := oc_187 shX11_mixed_0
theorem dX11_mixed_3 : decode cX11_mixed 3 = .ok (.dup, 1) := oc_89 shX11_mixed_3
theorem dX11_mixed_4 : decode cX11_mixed 4 = .ok (.invokespecial 353, 3) := oc_183 shX11_mixed_4
theorem dX11_mixed_7 : decode cX11_mixed 7 = .ok (.astore_n 2, 1) := oc_77 shX11_mixed_7
theorem dX11_mixed_8 : decode cX11_mixed 8 = .ok (.iconst 0, 1) := oc_3 shX11_mixed_8
theorem dX11_mixed_9 : decode cX11_mixed 9 = .ok (.istore_n 3, 1) := oc_62 shX11_mixed_9
theorem dX11_mixed_10 : decode cX11_mixed 10 = .ok (.iload_n 3, 1) := oc_29 shX11_mixed_10
theorem dX11_mixed_11 : decode cX11_mixed 11 = .ok (.bipush 20, 2) := oc_16 shX11_mixed_11 sgb_20
theorem dX11_mixed_13 : decode cX11_mixed 13 = .ok (.if_icmp .ge 50, 3) := oc_162 shX11_mixed_13 sgw_0_50
theorem dX11_mixed_63 : decode cX11_mixed 63 = .ok (.aload_n 2, 1) := oc_44 shX11_mixed_63
theorem dX11_mixed_64 : decode cX11_mixed 64 = .ok (.areturn, 1) := oc_176 shX11_mixed_64
theorem dX11_mixed_16 : decode cX11_mixed 16 = .ok (.iload_n 1, 1) := oc_27 shX11_mixed_16
theorem dX11_mixed_17 : decode cX11_mixed 17 = .ok (.iload_n 3, 1) := oc_29 shX11_mixed_17
theorem dX11_mixed_18 : decode cX11_mixed 18 = .ok (.ishr, 1) := oc_122 shX11_mixed_18
theorem dX11_mixed_19 : decode cX11_mixed 19 = .ok (.iconst 1, 1) := oc_4 shX11_mixed_19
theorem dX11_mixed_20 : decode cX11_mixed 20 = .ok (.iand, 1) := oc_126 shX11_mixed_20
theorem dX11_mixed_21 : decode cX11_mixed 21 = .ok (.ifCond .ne 6, 3) := oc_154 shX11_mixed_21 sgw_0_6
theorem dX11_mixed_27 : decode cX11_mixed 27 = .ok (.aload_n 0, 1) := oc_42 shX11_mixed_27
theorem dX11_mixed_28 : decode cX11_mixed 28 = .ok (.iload_n 3, 1) := oc_29 shX11_mixed_28
theorem dX11_mixed_29 : decode cX11_mixed 29 = .ok (.invokevirtual 148, 3) := oc_182 shX11_mixed_29
theorem dX11_mixed_32 : decode cX11_mixed 32 = .ok (.astore 4, 2) := oc_58 shX11_mixed_32
theorem dX11_mixed_34 : decode cX11_mixed 34 = .ok (.aload 4, 2) := oc_25 shX11_mixed_34
theorem dX11_mixed_36 : decode cX11_mixed 36 = .ok (.ifnull 12, 3) := oc_198 shX11_mixed_36 sgw_0_12
theorem dX11_mixed_39 : decode cX11_mixed 39 = .ok (.aload_n 0, 1) := oc_42 shX11_mixed_39
theorem dX11_mixed_40 : decode cX11_mixed 40 = .ok (.aload 4, 2) := oc_25 shX11_mixed_40
theorem dX11_mixed_42 : decode cX11_mixed 42 = .ok (.invokevirtual 354, 3) := oc_182 shX11_mixed_42
theorem dX11_mixed_45 : decode cX11_mixed 45 = .ok (.ifCond .ne 5, 3) := oc_154 shX11_mixed_45 sgw_0_5
theorem dX11_mixed_48 : decode cX11_mixed 48 = .ok (.aconst_null, 1) := oc_1 shX11_mixed_48
theorem dX11_mixed_49 : decode cX11_mixed 49 = .ok (.areturn, 1) := oc_176 shX11_mixed_49
theorem dX11_mixed_50 : decode cX11_mixed 50 = .ok (.aload_n 2, 1) := oc_44 shX11_mixed_50
theorem dX11_mixed_51 : decode cX11_mixed 51 = .ok (.iload_n 3, 1) := oc_29 shX11_mixed_51
theorem dX11_mixed_52 : decode cX11_mixed 52 = .ok (.aload 4, 2) := oc_25 shX11_mixed_52
theorem dX11_mixed_54 : decode cX11_mixed 54 = .ok (.invokevirtual 358, 3) := oc_182 shX11_mixed_54
theorem dX11_mixed_57 : decode cX11_mixed 57 = .ok (.iinc 3 1, 3) := oc_132 shX11_mixed_57 sgb_1
theorem dX11_mixed_60 : decode cX11_mixed 60 = .ok (.goto (-50), 3) := oc_167 shX11_mixed_60 sgw_255_206
theorem dX11_mixed_24 : decode cX11_mixed 24 = .ok (.goto 33, 3) := oc_167 shX11_mixed_24 sgw_0_33
noncomputable def sxX11_brokenClause_53 : List UInt8 := []
noncomputable def sxX11_brokenClause_52 : List UInt8 := 172 :: sxX11_brokenClause_53
noncomputable def sxX11_brokenClause_49 : List UInt8 := 182 :: 0 :: 218 :: sxX11_brokenClause_52
noncomputable def sxX11_brokenClause_46 : List UInt8 := 180 :: 0 :: 40 :: sxX11_brokenClause_49
noncomputable def sxX11_brokenClause_45 : List UInt8 := 42 :: sxX11_brokenClause_46
noncomputable def sxX11_brokenClause_44 : List UInt8 := 3 :: sxX11_brokenClause_45
noncomputable def sxX11_brokenClause_41 : List UInt8 := 180 :: 0 :: 12 :: sxX11_brokenClause_44
noncomputable def sxX11_brokenClause_40 : List UInt8 := 42 :: sxX11_brokenClause_41
noncomputable def sxX11_brokenClause_37 : List UInt8 := 182 :: 0 :: 188 :: sxX11_brokenClause_40
noncomputable def sxX11_brokenClause_34 : List UInt8 := 180 :: 1 :: 91 :: sxX11_brokenClause_37
noncomputable def sxX11_brokenClause_33 : List UInt8 := 43 :: sxX11_brokenClause_34
noncomputable def sxX11_brokenClause_31 : List UInt8 := 16 :: 110 :: sxX11_brokenClause_33
noncomputable def sxX11_brokenClause_30 : List UInt8 := 42 :: sxX11_brokenClause_31
noncomputable def sxX11_brokenClause_27 : List UInt8 := 182 :: 0 :: 188 :: sxX11_brokenClause_30
noncomputable def sxX11_brokenClause_24 : List UInt8 := 182 :: 1 :: 89 :: sxX11_brokenClause_27
noncomputable def sxX11_brokenClause_23 : List UInt8 := 43 :: sxX11_brokenClause_24
noncomputable def sxX11_brokenClause_21 : List UInt8 := 16 :: 97 :: sxX11_brokenClause_23
noncomputable def sxX11_brokenClause_20 : List UInt8 := 42 :: sxX11_brokenClause_21
noncomputable def sxX11_brokenClause_17 : List UInt8 := 182 :: 0 :: 188 :: sxX11_brokenClause_20
noncomputable def sxX11_brokenClause_14 : List UInt8 := 182 :: 1 :: 87 :: sxX11_brokenClause_17
noncomputable def sxX11_brokenClause_13 : List UInt8 := 43 :: sxX11_brokenClause_14
noncomputable def sxX11_brokenClause_11 : List UInt8 := 16 :: 102 :: sxX11_brokenClause_13
noncomputable def sxX11_brokenClause_10 : List UInt8 := 42 :: sxX11_brokenClause_11
noncomputable def sxX11_brokenClause_7 : List UInt8 := 182 :: 0 :: 188 :: sxX11_brokenClause_10
noncomputable def sxX11_brokenClause_4 : List UInt8 := 180 :: 1 :: 86 :: sxX11_brokenClause_7
noncomputable def sxX11_brokenClause_3 : List UInt8 := 43 :: sxX11_brokenClause_4
noncomputable def sxX11_brokenClause_1 : List UInt8 := 16 :: 113 :: sxX11_brokenClause_3
noncomputable def sxX11_brokenClause_0 : List UInt8 := 42 :: sxX11_brokenClause_1
theorem shX11_brokenClause_0 : cX11_brokenClause.data.toList.drop 0 = sxX11_brokenClause_0 := rfl
theorem shX11_brokenClause_1 : cX11_brokenClause.data.toList.drop 1 = sxX11_brokenClause_1 := dSn 1 shX11_brokenClause_0
theorem shX11_brokenClause_3 : cX11_brokenClause.data.toList.drop 3 = sxX11_brokenClause_3 := dSn 2 shX11_brokenClause_1
theorem shX11_brokenClause_4 : cX11_brokenClause.data.toList.drop 4 = sxX11_brokenClause_4 := dSn 1 shX11_brokenClause_3
theorem shX11_brokenClause_7 : cX11_brokenClause.data.toList.drop 7 = sxX11_brokenClause_7 := dSn 3 shX11_brokenClause_4
theorem shX11_brokenClause_10 : cX11_brokenClause.data.toList.drop 10 = sxX11_brokenClause_10 := dSn 3 shX11_brokenClause_7
theorem shX11_brokenClause_11 : cX11_brokenClause.data.toList.drop 11 = sxX11_brokenClause_11 := dSn 1 shX11_brokenClause_10
theorem shX11_brokenClause_13 : cX11_brokenClause.data.toList.drop 13 = sxX11_brokenClause_13 := dSn 2 shX11_brokenClause_11
theorem shX11_brokenClause_14 : cX11_brokenClause.data.toList.drop 14 = sxX11_brokenClause_14 := dSn 1 shX11_brokenClause_13
theorem shX11_brokenClause_17 : cX11_brokenClause.data.toList.drop 17 = sxX11_brokenClause_17 := dSn 3 shX11_brokenClause_14
theorem shX11_brokenClause_20 : cX11_brokenClause.data.toList.drop 20 = sxX11_brokenClause_20 := dSn 3 shX11_brokenClause_17
theorem shX11_brokenClause_21 : cX11_brokenClause.data.toList.drop 21 = sxX11_brokenClause_21 := dSn 1 shX11_brokenClause_20
theorem shX11_brokenClause_23 : cX11_brokenClause.data.toList.drop 23 = sxX11_brokenClause_23 := dSn 2 shX11_brokenClause_21
theorem shX11_brokenClause_24 : cX11_brokenClause.data.toList.drop 24 = sxX11_brokenClause_24 := dSn 1 shX11_brokenClause_23
theorem shX11_brokenClause_27 : cX11_brokenClause.data.toList.drop 27 = sxX11_brokenClause_27 := dSn 3 shX11_brokenClause_24
theorem shX11_brokenClause_30 : cX11_brokenClause.data.toList.drop 30 = sxX11_brokenClause_30 := dSn 3 shX11_brokenClause_27
theorem shX11_brokenClause_31 : cX11_brokenClause.data.toList.drop 31 = sxX11_brokenClause_31 := dSn 1 shX11_brokenClause_30
theorem shX11_brokenClause_33 : cX11_brokenClause.data.toList.drop 33 = sxX11_brokenClause_33 := dSn 2 shX11_brokenClause_31
theorem shX11_brokenClause_34 : cX11_brokenClause.data.toList.drop 34 = sxX11_brokenClause_34 := dSn 1 shX11_brokenClause_33
theorem shX11_brokenClause_37 : cX11_brokenClause.data.toList.drop 37 = sxX11_brokenClause_37 := dSn 3 shX11_brokenClause_34
theorem shX11_brokenClause_40 : cX11_brokenClause.data.toList.drop 40 = sxX11_brokenClause_40 := dSn 3 shX11_brokenClause_37
theorem shX11_brokenClause_41 : cX11_brokenClause.data.toList.drop 41 = sxX11_brokenClause_41 := dSn 1 shX11_brokenClause_40
theorem shX11_brokenClause_44 : cX11_brokenClause.data.toList.drop 44 = sxX11_brokenClause_44 := dSn 3 shX11_brokenClause_41
theorem shX11_brokenClause_45 : cX11_brokenClause.data.toList.drop 45 = sxX11_brokenClause_45 := dSn 1 shX11_brokenClause_44
theorem shX11_brokenClause_46 : cX11_brokenClause.data.toList.drop 46 = sxX11_brokenClause_46 := dSn 1 shX11_brokenClause_45
theorem shX11_brokenClause_49 : cX11_brokenClause.data.toList.drop 49 = sxX11_brokenClause_49 := dSn 3 shX11_brokenClause_46
theorem shX11_brokenClause_52 : cX11_brokenClause.data.toList.drop 52 = sxX11_brokenClause_52 := dSn 3 shX11_brokenClause_49
theorem dX11_brokenClause_0 : decode cX11_brokenClause 0 = .ok (.aload_n 0, 1) := oc_42 shX11_brokenClause_0
theorem dX11_brokenClause_1 : decode cX11_brokenClause 1 = .ok (.bipush 113, 2) := oc_16 shX11_brokenClause_1 sgb_113
theorem dX11_brokenClause_3 : decode cX11_brokenClause 3 = .ok (.aload_n 1, 1) := oc_43 shX11_brokenClause_3
theorem dX11_brokenClause_4 : decode cX11_brokenClause 4 = .ok (.getfield 342, 3) := oc_180 shX11_brokenClause_4
theorem dX11_brokenClause_7 : decode cX11_brokenClause 7 = .ok (.invokevirtual 188, 3) := oc_182 shX11_brokenClause_7
theorem dX11_brokenClause_10 : decode cX11_brokenClause 10 = .ok (.aload_n 0, 1) := oc_42 shX11_brokenClause_10
theorem dX11_brokenClause_11 : decode cX11_brokenClause 11 = .ok (.bipush 102, 2) := oc_16 shX11_brokenClause_11 sgb_102
theorem dX11_brokenClause_13 : decode cX11_brokenClause 13 = .ok (.aload_n 1, 1) := oc_43 shX11_brokenClause_13
theorem dX11_brokenClause_14 : decode cX11_brokenClause 14 = .ok (.invokevirtual 343, 3) := oc_182 shX11_brokenClause_14
theorem dX11_brokenClause_17 : decode cX11_brokenClause 17 = .ok (.invokevirtual 188, 3) := oc_182 shX11_brokenClause_17
theorem dX11_brokenClause_20 : decode cX11_brokenClause 20 = .ok (.aload_n 0, 1) := oc_42 shX11_brokenClause_20
theorem dX11_brokenClause_21 : decode cX11_brokenClause 21 = .ok (.bipush 97, 2) := oc_16 shX11_brokenClause_21 sgb_97
theorem dX11_brokenClause_23 : decode cX11_brokenClause 23 = .ok (.aload_n 1, 1) := oc_43 shX11_brokenClause_23
theorem dX11_brokenClause_24 : decode cX11_brokenClause 24 = .ok (.invokevirtual 345, 3) := oc_182 shX11_brokenClause_24
theorem dX11_brokenClause_27 : decode cX11_brokenClause 27 = .ok (.invokevirtual 188, 3) := oc_182 shX11_brokenClause_27
theorem dX11_brokenClause_30 : decode cX11_brokenClause 30 = .ok (.aload_n 0, 1) := oc_42 shX11_brokenClause_30
theorem dX11_brokenClause_31 : decode cX11_brokenClause 31 = .ok (.bipush 110, 2) := oc_16 shX11_brokenClause_31 sgb_110
theorem dX11_brokenClause_33 : decode cX11_brokenClause 33 = .ok (.aload_n 1, 1) := oc_43 shX11_brokenClause_33
theorem dX11_brokenClause_34 : decode cX11_brokenClause 34 = .ok (.getfield 347, 3) := oc_180 shX11_brokenClause_34
theorem dX11_brokenClause_37 : decode cX11_brokenClause 37 = .ok (.invokevirtual 188, 3) := oc_182 shX11_brokenClause_37
theorem dX11_brokenClause_40 : decode cX11_brokenClause 40 = .ok (.aload_n 0, 1) := oc_42 shX11_brokenClause_40
theorem dX11_brokenClause_41 : decode cX11_brokenClause 41 = .ok (.getfield 12, 3) := oc_180 shX11_brokenClause_41
theorem dX11_brokenClause_44 : decode cX11_brokenClause 44 = .ok (.iconst 0, 1) := oc_3 shX11_brokenClause_44
theorem dX11_brokenClause_45 : decode cX11_brokenClause 45 = .ok (.aload_n 0, 1) := oc_42 shX11_brokenClause_45
theorem dX11_brokenClause_46 : decode cX11_brokenClause 46 = .ok (.getfield 40, 3) := oc_180 shX11_brokenClause_46
theorem dX11_brokenClause_49 : decode cX11_brokenClause 49 = .ok (.invokevirtual 218, 3) := oc_182 shX11_brokenClause_49
theorem dX11_brokenClause_52 : decode cX11_brokenClause 52 = .ok (.ireturn, 1) := oc_172 shX11_brokenClause_52
noncomputable def sxX11_keep_71 : List UInt8 := []
noncomputable def sxX11_keep_70 : List UInt8 := 177 :: sxX11_keep_71
noncomputable def sxX11_keep_69 : List UInt8 := 87 :: sxX11_keep_70
noncomputable def sxX11_keep_66 : List UInt8 := 182 :: 0 :: 110 :: sxX11_keep_69
noncomputable def sxX11_keep_65 : List UInt8 := 43 :: sxX11_keep_66
noncomputable def sxX11_keep_62 : List UInt8 := 180 :: 0 :: 68 :: sxX11_keep_65
noncomputable def sxX11_keep_61 : List UInt8 := 42 :: sxX11_keep_62
noncomputable def sxX11_keep_58 : List UInt8 := 182 :: 0 :: 144 :: sxX11_keep_61
noncomputable def sxX11_keep_57 : List UInt8 := 116 :: sxX11_keep_58
noncomputable def sxX11_keep_54 : List UInt8 := 180 :: 1 :: 86 :: sxX11_keep_57
noncomputable def sxX11_keep_53 : List UInt8 := 43 :: sxX11_keep_54
noncomputable def sxX11_keep_50 : List UInt8 := 180 :: 0 :: 103 :: sxX11_keep_53
noncomputable def sxX11_keep_49 : List UInt8 := 42 :: sxX11_keep_50
noncomputable def sxX11_keep_46 : List UInt8 := 180 :: 0 :: 47 :: sxX11_keep_49
noncomputable def sxX11_keep_45 : List UInt8 := 42 :: sxX11_keep_46
noncomputable def sxX11_keep_42 : List UInt8 := 181 :: 1 :: 125 :: sxX11_keep_45
noncomputable def sxX11_keep_39 : List UInt8 := 180 :: 0 :: 103 :: sxX11_keep_42
noncomputable def sxX11_keep_38 : List UInt8 := 42 :: sxX11_keep_39
noncomputable def sxX11_keep_37 : List UInt8 := 43 :: sxX11_keep_38
noncomputable def sxX11_keep_34 : List UInt8 := 167 :: 255 :: 224 :: sxX11_keep_37
noncomputable def sxX11_keep_31 : List UInt8 := 132 :: 2 :: 1 :: sxX11_keep_34
noncomputable def sxX11_keep_28 : List UInt8 := 181 :: 1 :: 93 :: sxX11_keep_31
noncomputable def sxX11_keep_27 : List UInt8 := 4 :: sxX11_keep_28
noncomputable def sxX11_keep_26 : List UInt8 := 45 :: sxX11_keep_27
noncomputable def sxX11_keep_23 : List UInt8 := 153 :: 0 :: 8 :: sxX11_keep_26
noncomputable def sxX11_keep_20 : List UInt8 := 182 :: 1 :: 122 :: sxX11_keep_23
noncomputable def sxX11_keep_19 : List UInt8 := 28 :: sxX11_keep_20
noncomputable def sxX11_keep_18 : List UInt8 := 43 :: sxX11_keep_19
noncomputable def sxX11_keep_15 : List UInt8 := 198 :: 0 :: 16 :: sxX11_keep_18
noncomputable def sxX11_keep_14 : List UInt8 := 45 :: sxX11_keep_15
noncomputable def sxX11_keep_13 : List UInt8 := 78 :: sxX11_keep_14
noncomputable def sxX11_keep_10 : List UInt8 := 182 :: 0 :: 148 :: sxX11_keep_13
noncomputable def sxX11_keep_9 : List UInt8 := 28 :: sxX11_keep_10
noncomputable def sxX11_keep_8 : List UInt8 := 42 :: sxX11_keep_9
noncomputable def sxX11_keep_5 : List UInt8 := 162 :: 0 :: 32 :: sxX11_keep_8
noncomputable def sxX11_keep_3 : List UInt8 := 16 :: 20 :: sxX11_keep_5
noncomputable def sxX11_keep_2 : List UInt8 := 28 :: sxX11_keep_3
noncomputable def sxX11_keep_1 : List UInt8 := 61 :: sxX11_keep_2
noncomputable def sxX11_keep_0 : List UInt8 := 3 :: sxX11_keep_1
theorem shX11_keep_0 : cX11_keep.data.toList.drop 0 = sxX11_keep_0 := rfl
theorem shX11_keep_1 : cX11_keep.data.toList.drop 1 = sxX11_keep_1 := dSn 1 shX11_keep_0
theorem shX11_keep_2 : cX11_keep.data.toList.drop 2 = sxX11_keep_2 := dSn 1 shX11_keep_1
theorem shX11_keep_3 : cX11_keep.data.toList.drop 3 = sxX11_keep_3 := dSn 1 shX11_keep_2
theorem shX11_keep_5 : cX11_keep.data.toList.drop 5 = sxX11_keep_5 := dSn 2 shX11_keep_3
theorem shX11_keep_8 : cX11_keep.data.toList.drop 8 = sxX11_keep_8 := dSn 3 shX11_keep_5
theorem shX11_keep_9 : cX11_keep.data.toList.drop 9 = sxX11_keep_9 := dSn 1 shX11_keep_8
theorem shX11_keep_10 : cX11_keep.data.toList.drop 10 = sxX11_keep_10 := dSn 1 shX11_keep_9
theorem shX11_keep_13 : cX11_keep.data.toList.drop 13 = sxX11_keep_13 := dSn 3 shX11_keep_10
theorem shX11_keep_14 : cX11_keep.data.toList.drop 14 = sxX11_keep_14 := dSn 1 shX11_keep_13
theorem shX11_keep_15 : cX11_keep.data.toList.drop 15 = sxX11_keep_15 := dSn 1 shX11_keep_14
theorem shX11_keep_18 : cX11_keep.data.toList.drop 18 = sxX11_keep_18 := dSn 3 shX11_keep_15
theorem shX11_keep_19 : cX11_keep.data.toList.drop 19 = sxX11_keep_19 := dSn 1 shX11_keep_18
theorem shX11_keep_20 : cX11_keep.data.toList.drop 20 = sxX11_keep_20 := dSn 1 shX11_keep_19
theorem shX11_keep_23 : cX11_keep.data.toList.drop 23 = sxX11_keep_23 := dSn 3 shX11_keep_20
theorem shX11_keep_26 : cX11_keep.data.toList.drop 26 = sxX11_keep_26 := dSn 3 shX11_keep_23
theorem shX11_keep_27 : cX11_keep.data.toList.drop 27 = sxX11_keep_27 := dSn 1 shX11_keep_26
theorem shX11_keep_28 : cX11_keep.data.toList.drop 28 = sxX11_keep_28 := dSn 1 shX11_keep_27
theorem shX11_keep_31 : cX11_keep.data.toList.drop 31 = sxX11_keep_31 := dSn 3 shX11_keep_28
theorem shX11_keep_34 : cX11_keep.data.toList.drop 34 = sxX11_keep_34 := dSn 3 shX11_keep_31
theorem shX11_keep_37 : cX11_keep.data.toList.drop 37 = sxX11_keep_37 := dSn 3 shX11_keep_34
theorem shX11_keep_38 : cX11_keep.data.toList.drop 38 = sxX11_keep_38 := dSn 1 shX11_keep_37
theorem shX11_keep_39 : cX11_keep.data.toList.drop 39 = sxX11_keep_39 := dSn 1 shX11_keep_38
theorem shX11_keep_42 : cX11_keep.data.toList.drop 42 = sxX11_keep_42 := dSn 3 shX11_keep_39
theorem shX11_keep_45 : cX11_keep.data.toList.drop 45 = sxX11_keep_45 := dSn 3 shX11_keep_42
theorem shX11_keep_46 : cX11_keep.data.toList.drop 46 = sxX11_keep_46 := dSn 1 shX11_keep_45
theorem shX11_keep_49 : cX11_keep.data.toList.drop 49 = sxX11_keep_49 := dSn 3 shX11_keep_46
theorem shX11_keep_50 : cX11_keep.data.toList.drop 50 = sxX11_keep_50 := dSn 1 shX11_keep_49
theorem shX11_keep_53 : cX11_keep.data.toList.drop 53 = sxX11_keep_53 := dSn 3 shX11_keep_50
theorem shX11_keep_54 : cX11_keep.data.toList.drop 54 = sxX11_keep_54 := dSn 1 shX11_keep_53
theorem shX11_keep_57 : cX11_keep.data.toList.drop 57 = sxX11_keep_57 := dSn 3 shX11_keep_54
theorem shX11_keep_58 : cX11_keep.data.toList.drop 58 = sxX11_keep_58 := dSn 1 shX11_keep_57
theorem shX11_keep_61 : cX11_keep.data.toList.drop 61 = sxX11_keep_61 := dSn 3 shX11_keep_58
theorem shX11_keep_62 : cX11_keep.data.toList.drop 62 = sxX11_keep_62 := dSn 1 shX11_keep_61
theorem shX11_keep_65 : cX11_keep.data.toList.drop 65 = sxX11_keep_65 := dSn 3 shX11_keep_62
theorem shX11_keep_66 : cX11_keep.data.toList.drop 66 = sxX11_keep_66 := dSn 1 shX11_keep_65
theorem shX11_keep_69 : cX11_keep.data.toList.drop 69 = sxX11_keep_69 := dSn 3 shX11_keep_66
theorem shX11_keep_70 : cX11_keep.data.toList.drop 70 = sxX11_keep_70 := dSn 1 shX11_keep_69
theorem dX11_keep_0 : decode cX11_keep 0 = .ok (.iconst 0, 1) := oc_3 shX11_keep_0
theorem dX11_keep_1 : decode cX11_keep 1 = .ok (.istore_n 2, 1) := oc_61 shX11_keep_1
theorem dX11_keep_2 : decode cX11_keep 2 = .ok (.iload_n 2, 1) := oc_28 shX11_keep_2
theorem dX11_keep_3 : decode cX11_keep 3 = .ok (.bipush 20, 2) := oc_16 shX11_keep_3 sgb_20
theorem dX11_keep_5 : decode cX11_keep 5 = .ok (.if_icmp .ge 32, 3) := oc_162 shX11_keep_5 sgw_0_32
theorem dX11_keep_37 : decode cX11_keep 37 = .ok (.aload_n 1, 1) := oc_43 shX11_keep_37
theorem dX11_keep_38 : decode cX11_keep 38 = .ok (.aload_n 0, 1) := oc_42 shX11_keep_38
theorem dX11_keep_39 : decode cX11_keep 39 = .ok (.getfield 103, 3) := oc_180 shX11_keep_39
theorem dX11_keep_42 : decode cX11_keep 42 = .ok (.putfield 381, 3) := oc_181 shX11_keep_42
theorem dX11_keep_45 : decode cX11_keep 45 = .ok (.aload_n 0, 1) := oc_42 shX11_keep_45
theorem dX11_keep_46 : decode cX11_keep 46 = .ok (.getfield 47, 3) := oc_180 shX11_keep_46
theorem dX11_keep_49 : decode cX11_keep 49 = .ok (.aload_n 0, 1) := oc_42 shX11_keep_49
theorem dX11_keep_50 : decode cX11_keep 50 = .ok (.getfield 103, 3) := oc_180 shX11_keep_50
theorem dX11_keep_53 : decode cX11_keep 53 = .ok (.aload_n 1, 1) := oc_43 shX11_keep_53
theorem dX11_keep_54 : decode cX11_keep 54 = .ok (.getfield 342, 3) := oc_180 shX11_keep_54
theorem dX11_keep_57 : decode cX11_keep 57 = .ok (.ineg, 1) := oc_116 shX11_keep_57
theorem dX11_keep_58 : decode cX11_keep 58 = .ok (.invokevirtual 144, 3) := oc_182 shX11_keep_58
theorem dX11_keep_61 : decode cX11_keep 61 = .ok (.aload_n 0, 1) := oc_42 shX11_keep_61
theorem dX11_keep_62 : decode cX11_keep 62 = .ok (.getfield 68, 3) := oc_180 shX11_keep_62
theorem dX11_keep_65 : decode cX11_keep 65 = .ok (.aload_n 1, 1) := oc_43 shX11_keep_65
theorem dX11_keep_66 : decode cX11_keep 66 = .ok (.invokevirtual 110, 3) := oc_182 shX11_keep_66
theorem dX11_keep_69 : decode cX11_keep 69 = .ok (.pop, 1) := oc_87 shX11_keep_69
theorem dX11_keep_70 : decode cX11_keep 70 = .ok (.return_, 1) := oc_177 shX11_keep_70
theorem dX11_keep_8 : decode cX11_keep 8 = .ok (.aload_n 0, 1) := oc_42 shX11_keep_8
theorem dX11_keep_9 : decode cX11_keep 9 = .ok (.iload_n 2, 1) := oc_28 shX11_keep_9
theorem dX11_keep_10 : decode cX11_keep 10 = .ok (.invokevirtual 148, 3) := oc_182 shX11_keep_10
theorem dX11_keep_13 : decode cX11_keep 13 = .ok (.astore_n 3, 1) := oc_78 shX11_keep_13
theorem dX11_keep_14 : decode cX11_keep 14 = .ok (.aload_n 3, 1) := oc_45 shX11_keep_14
theorem dX11_keep_15 : decode cX11_keep 15 = .ok (.ifnull 16, 3) := oc_198 shX11_keep_15 sgw_0_16
theorem dX11_keep_18 : decode cX11_keep 18 = .ok (.aload_n 1, 1) := oc_43 shX11_keep_18
theorem dX11_keep_19 : decode cX11_keep 19 = .ok (.iload_n 2, 1) := oc_28 shX11_keep_19
theorem dX11_keep_20 : decode cX11_keep 20 = .ok (.invokevirtual 378, 3) := oc_182 shX11_keep_20
theorem dX11_keep_23 : decode cX11_keep 23 = .ok (.ifCond .eq 8, 3) := oc_153 shX11_keep_23 sgw_0_8
theorem dX11_keep_26 : decode cX11_keep 26 = .ok (.aload_n 3, 1) := oc_45 shX11_keep_26
theorem dX11_keep_27 : decode cX11_keep 27 = .ok (.iconst 1, 1) := oc_4 shX11_keep_27
theorem dX11_keep_28 : decode cX11_keep 28 = .ok (.putfield 349, 3) := oc_181 shX11_keep_28
theorem dX11_keep_31 : decode cX11_keep 31 = .ok (.iinc 2 1, 3) := oc_132 shX11_keep_31 sgb_1
theorem dX11_keep_34 : decode cX11_keep 34 = .ok (.goto (-32), 3) := oc_167 shX11_keep_34 sgw_255_224
noncomputable def sxX11_batch_72 : List UInt8 := []
noncomputable def sxX11_batch_71 : List UInt8 := 172 :: sxX11_batch_72
noncomputable def sxX11_batch_70 : List UInt8 := 100 :: sxX11_batch_71
noncomputable def sxX11_batch_69 : List UInt8 := 4 :: sxX11_batch_70
noncomputable def sxX11_batch_66 : List UInt8 := 182 :: 0 :: 84 :: sxX11_batch_69
noncomputable def sxX11_batch_63 : List UInt8 := 180 :: 0 :: 68 :: sxX11_batch_66
noncomputable def sxX11_batch_62 : List UInt8 := 42 :: sxX11_batch_63
noncomputable def sxX11_batch_59 : List UInt8 := 182 :: 1 :: 118 :: sxX11_batch_62
noncomputable def sxX11_batch_58 : List UInt8 := 44 :: sxX11_batch_59
noncomputable def sxX11_batch_57 : List UInt8 := 42 :: sxX11_batch_58
noncomputable def sxX11_batch_56 : List UInt8 := 172 :: sxX11_batch_57
noncomputable def sxX11_batch_55 : List UInt8 := 100 :: sxX11_batch_56
noncomputable def sxX11_batch_54 : List UInt8 := 29 :: sxX11_batch_55
noncomputable def sxX11_batch_52 : List UInt8 := 16 :: 246 :: sxX11_batch_54
noncomputable def sxX11_batch_49 : List UInt8 := 159 :: 0 :: 8 :: sxX11_batch_52
noncomputable def sxX11_batch_48 : List UInt8 := 2 :: sxX11_batch_49
noncomputable def sxX11_batch_47 : List UInt8 := 29 :: sxX11_batch_48
noncomputable def sxX11_batch_46 : List UInt8 := 62 :: sxX11_batch_47
noncomputable def sxX11_batch_43 : List UInt8 := 182 :: 1 :: 114 :: sxX11_batch_46
noncomputable def sxX11_batch_42 : List UInt8 := 44 :: sxX11_batch_43
noncomputable def sxX11_batch_41 : List UInt8 := 42 :: sxX11_batch_42
noncomputable def sxX11_batch_38 : List UInt8 := 182 :: 1 :: 111 :: sxX11_batch_41
noncomputable def sxX11_batch_37 : List UInt8 := 42 :: sxX11_batch_38
noncomputable def sxX11_batch_36 : List UInt8 := 172 :: sxX11_batch_37
noncomputable def sxX11_batch_35 : List UInt8 := 2 :: sxX11_batch_36
noncomputable def sxX11_batch_32 : List UInt8 := 199 :: 0 :: 5 :: sxX11_batch_35
noncomputable def sxX11_batch_31 : List UInt8 := 44 :: sxX11_batch_32
noncomputable def sxX11_batch_30 : List UInt8 := 77 :: sxX11_batch_31
noncomputable def sxX11_batch_27 : List UInt8 := 182 :: 1 :: 107 :: sxX11_batch_30
noncomputable def sxX11_batch_26 : List UInt8 := 27 :: sxX11_batch_27
noncomputable def sxX11_batch_25 : List UInt8 := 42 :: sxX11_batch_26
noncomputable def sxX11_batch_24 : List UInt8 := 172 :: sxX11_batch_25
noncomputable def sxX11_batch_23 : List UInt8 := 2 :: sxX11_batch_24
noncomputable def sxX11_batch_20 : List UInt8 := 161 :: 0 :: 5 :: sxX11_batch_23
noncomputable def sxX11_batch_18 : List UInt8 := 16 :: 10 :: sxX11_batch_20
noncomputable def sxX11_batch_15 : List UInt8 := 182 :: 0 :: 84 :: sxX11_batch_18
noncomputable def sxX11_batch_12 : List UInt8 := 180 :: 0 :: 68 :: sxX11_batch_15
noncomputable def sxX11_batch_11 : List UInt8 := 42 :: sxX11_batch_12
noncomputable def sxX11_batch_8 : List UInt8 := 153 :: 0 :: 15 :: sxX11_batch_11
noncomputable def sxX11_batch_5 : List UInt8 := 184 :: 0 :: 80 :: sxX11_batch_8
noncomputable def sxX11_batch_2 : List UInt8 := 19 :: 1 :: 106 :: sxX11_batch_5
noncomputable def sxX11_batch_1 : List UInt8 := 4 :: sxX11_batch_2
noncomputable def sxX11_batch_0 : List UInt8 := 27 :: sxX11_batch_1
theorem shX11_batch_0 : cX11_batch.data.toList.drop 0 = sxX11_batch_0 := rfl
theorem shX11_batch_1 : cX11_batch.data.toList.drop 1 = sxX11_batch_1 := dSn 1 shX11_batch_0
theorem shX11_batch_2 : cX11_batch.data.toList.drop 2 = sxX11_batch_2 := dSn 1 shX11_batch_1
theorem shX11_batch_5 : cX11_batch.data.toList.drop 5 = sxX11_batch_5 := dSn 3 shX11_batch_2
theorem shX11_batch_8 : cX11_batch.data.toList.drop 8 = sxX11_batch_8 := dSn 3 shX11_batch_5
theorem shX11_batch_11 : cX11_batch.data.toList.drop 11 = sxX11_batch_11 := dSn 3 shX11_batch_8
theorem shX11_batch_12 : cX11_batch.data.toList.drop 12 = sxX11_batch_12 := dSn 1 shX11_batch_11
theorem shX11_batch_15 : cX11_batch.data.toList.drop 15 = sxX11_batch_15 := dSn 3 shX11_batch_12
theorem shX11_batch_18 : cX11_batch.data.toList.drop 18 = sxX11_batch_18 := dSn 3 shX11_batch_15
theorem shX11_batch_20 : cX11_batch.data.toList.drop 20 = sxX11_batch_20 := dSn 2 shX11_batch_18
theorem shX11_batch_23 : cX11_batch.data.toList.drop 23 = sxX11_batch_23 := dSn 3 shX11_batch_20
theorem shX11_batch_24 : cX11_batch.data.toList.drop 24 = sxX11_batch_24 := dSn 1 shX11_batch_23
theorem shX11_batch_25 : cX11_batch.data.toList.drop 25 = sxX11_batch_25 := dSn 1 shX11_batch_24
theorem shX11_batch_26 : cX11_batch.data.toList.drop 26 = sxX11_batch_26 := dSn 1 shX11_batch_25
theorem shX11_batch_27 : cX11_batch.data.toList.drop 27 = sxX11_batch_27 := dSn 1 shX11_batch_26
theorem shX11_batch_30 : cX11_batch.data.toList.drop 30 = sxX11_batch_30 := dSn 3 shX11_batch_27
theorem shX11_batch_31 : cX11_batch.data.toList.drop 31 = sxX11_batch_31 := dSn 1 shX11_batch_30
theorem shX11_batch_32 : cX11_batch.data.toList.drop 32 = sxX11_batch_32 := dSn 1 shX11_batch_31
theorem shX11_batch_35 : cX11_batch.data.toList.drop 35 = sxX11_batch_35 := dSn 3 shX11_batch_32
theorem shX11_batch_36 : cX11_batch.data.toList.drop 36 = sxX11_batch_36 := dSn 1 shX11_batch_35
theorem shX11_batch_37 : cX11_batch.data.toList.drop 37 = sxX11_batch_37 := dSn 1 shX11_batch_36
theorem shX11_batch_38 : cX11_batch.data.toList.drop 38 = sxX11_batch_38 := dSn 1 shX11_batch_37
theorem shX11_batch_41 : cX11_batch.data.toList.drop 41 = sxX11_batch_41 := dSn 3 shX11_batch_38
theorem shX11_batch_42 : cX11_batch.data.toList.drop 42 = sxX11_batch_42 := dSn 1 shX11_batch_41
theorem shX11_batch_43 : cX11_batch.data.toList.drop 43 = sxX11_batch_43 := dSn 1 shX11_batch_42
theorem shX11_batch_46 : cX11_batch.data.toList.drop 46 = sxX11_batch_46 := dSn 3 shX11_batch_43
theorem shX11_batch_47 : cX11_batch.data.toList.drop 47 = sxX11_batch_47 := dSn 1 shX11_batch_46
theorem shX11_batch_48 : cX11_batch.data.toList.drop 48 = sxX11_batch_48 := dSn 1 shX11_batch_47
theorem shX11_batch_49 : cX11_batch.data.toList.drop 49 = sxX11_batch_49 := dSn 1 shX11_batch_48
theorem shX11_batch_52 : cX11_batch.data.toList.drop 52 = sxX11_batch_52 := dSn 3 shX11_batch_49
theorem shX11_batch_54 : cX11_batch.data.toList.drop 54 = sxX11_batch_54 := dSn 2 shX11_batch_52
theorem shX11_batch_55 : cX11_batch.data.toList.drop 55 = sxX11_batch_55 := dSn 1 shX11_batch_54
theorem shX11_batch_56 : cX11_batch.data.toList.drop 56 = sxX11_batch_56 := dSn 1 shX11_batch_55
theorem shX11_batch_57 : cX11_batch.data.toList.drop 57 = sxX11_batch_57 := dSn 1 shX11_batch_56
theorem shX11_batch_58 : cX11_batch.data.toList.drop 58 = sxX11_batch_58 := dSn 1 shX11_batch_57
theorem shX11_batch_59 : cX11_batch.data.toList.drop 59 = sxX11_batch_59 := dSn 1 shX11_batch_58
theorem shX11_batch_62 : cX11_batch.data.toList.drop 62 = sxX11_batch_62 := dSn 3 shX11_batch_59
theorem shX11_batch_63 : cX11_batch.data.toList.drop 63 = sxX11_batch_63 := dSn 1 shX11_batch_62
theorem shX11_batch_66 : cX11_batch.data.toList.drop 66 = sxX11_batch_66 := dSn 3 shX11_batch_63
theorem shX11_batch_69 : cX11_batch.data.toList.drop 69 = sxX11_batch_69 := dSn 3 shX11_batch_66
theorem shX11_batch_70 : cX11_batch.data.toList.drop 70 = sxX11_batch_70 := dSn 1 shX11_batch_69
theorem shX11_batch_71 : cX11_batch.data.toList.drop 71 = sxX11_batch_71 := dSn 1 shX11_batch_70
theorem dX11_batch_0 : decode cX11_batch 0 = .ok (.iload_n 1, 1) := oc_27 shX11_batch_0
theorem dX11_batch_1 : decode cX11_batch 1 = .ok (.iconst 1, 1) := oc_4 shX11_batch_1
theorem dX11_batch_2 : decode cX11_batch 2 = .ok (.ldc_w 362, 3) := oc_19 shX11_batch_2
theorem dX11_batch_5 : decode cX11_batch 5 = .ok (.invokestatic 80, 3) := oc_184 shX11_batch_5
theorem dX11_batch_8 : decode cX11_batch 8 = .ok (.ifCond .eq 15, 3) := oc_153 shX11_batch_8 sgw_0_15
theorem dX11_batch_11 : decode cX11_batch 11 = .ok (.aload_n 0, 1) := oc_42 shX11_batch_11
theorem dX11_batch_12 : decode cX11_batch 12 = .ok (.getfield 68, 3) := oc_180 shX11_batch_12
theorem dX11_batch_15 : decode cX11_batch 15 = .ok (.invokevirtual 84, 3) := oc_182 shX11_batch_15
theorem dX11_batch_18 : decode cX11_batch 18 = .ok (.bipush 10, 2) := oc_16 shX11_batch_18 sgb_10
theorem dX11_batch_20 : decode cX11_batch 20 = .ok (.if_icmp .lt 5, 3) := oc_161 shX11_batch_20 sgw_0_5
theorem dX11_batch_25 : decode cX11_batch 25 = .ok (.aload_n 0, 1) := oc_42 shX11_batch_25
theorem dX11_batch_26 : decode cX11_batch 26 = .ok (.iload_n 1, 1) := oc_27 shX11_batch_26
theorem dX11_batch_27 : decode cX11_batch 27 = .ok (.invokevirtual 363, 3) := oc_182 shX11_batch_27
theorem dX11_batch_30 : decode cX11_batch 30 = .ok (.astore_n 2, 1) := oc_77 shX11_batch_30
theorem dX11_batch_31 : decode cX11_batch 31 = .ok (.aload_n 2, 1) := oc_44 shX11_batch_31
theorem dX11_batch_32 : decode cX11_batch 32 = .ok (.ifnonnull 5, 3) := oc_199 shX11_batch_32 sgw_0_5
theorem dX11_batch_35 : decode cX11_batch 35 = .ok (.iconst (-1), 1) := oc_2 shX11_batch_35
theorem dX11_batch_36 : decode cX11_batch 36 = .ok (.ireturn, 1) := oc_172 shX11_batch_36
theorem dX11_batch_37 : decode cX11_batch 37 = .ok (.aload_n 0, 1) := oc_42 shX11_batch_37
theorem dX11_batch_38 : decode cX11_batch 38 = .ok (.invokevirtual 367, 3) := oc_182 shX11_batch_38
theorem dX11_batch_41 : decode cX11_batch 41 = .ok (.aload_n 0, 1) := oc_42 shX11_batch_41
theorem dX11_batch_42 : decode cX11_batch 42 = .ok (.aload_n 2, 1) := oc_44 shX11_batch_42
theorem dX11_batch_43 : decode cX11_batch 43 = .ok (.invokevirtual 370, 3) := oc_182 shX11_batch_43
theorem dX11_batch_46 : decode cX11_batch 46 = .ok (.istore_n 3, 1) := oc_62 shX11_batch_46
theorem dX11_batch_47 : decode cX11_batch 47 = .ok (.iload_n 3, 1) := oc_29 shX11_batch_47
theorem dX11_batch_48 : decode cX11_batch 48 = .ok (.iconst (-1), 1) := oc_2 shX11_batch_48
theorem dX11_batch_49 : decode cX11_batch 49 = .ok (.if_icmp .eq 8, 3) := oc_159 shX11_batch_49 sgw_0_8
theorem dX11_batch_57 : decode cX11_batch 57 = .ok (.aload_n 0, 1) := oc_42 shX11_batch_57
theorem dX11_batch_58 : decode cX11_batch 58 = .ok (.aload_n 2, 1) := oc_44 shX11_batch_58
theorem dX11_batch_59 : decode cX11_batch 59 = .ok (.invokevirtual 374, 3) := oc_182 shX11_batch_59
theorem dX11_batch_62 : decode cX11_batch 62 = .ok (.aload_n 0, 1) := oc_42 shX11_batch_62
theorem dX11_batch_63 : decode cX11_batch 63 = .ok (.getfield 68, 3) := oc_180 shX11_batch_63
theorem dX11_batch_66 : decode cX11_batch 66 = .ok (.invokevirtual 84, 3) := oc_182 shX11_batch_66
theorem dX11_batch_69 : decode cX11_batch 69 = .ok (.iconst 1, 1) := oc_4 shX11_batch_69
theorem dX11_batch_70 : decode cX11_batch 70 = .ok (.isub, 1) := oc_100 shX11_batch_70
theorem dX11_batch_71 : decode cX11_batch 71 = .ok (.ireturn, 1) := oc_172 shX11_batch_71
theorem dX11_batch_52 : decode cX11_batch 52 = .ok (.bipush (-10), 2) := oc_16 shX11_batch_52 sgb_246
theorem dX11_batch_54 : decode cX11_batch 54 = .ok (.iload_n 3, 1) := oc_29 shX11_batch_54
theorem dX11_batch_55 : decode cX11_batch 55 = .ok (.isub, 1) := oc_100 shX11_batch_55
theorem dX11_batch_56 : decode cX11_batch 56 = .ok (.ireturn, 1) := oc_172 shX11_batch_56
theorem dX11_batch_23 : decode cX11_batch 23 = .ok (.iconst (-1), 1) := oc_2 shX11_batch_23
theorem dX11_batch_24 : decode cX11_batch 24 = .ok (.ireturn, 1) := oc_172 shX11_batch_24
noncomputable def sxX11_gatherBlendable_45 : List UInt8 := []
noncomputable def sxX11_gatherBlendable_44 : List UInt8 := 172 :: sxX11_gatherBlendable_45
noncomputable def sxX11_gatherBlendable_43 : List UInt8 := 28 :: sxX11_gatherBlendable_44
noncomputable def sxX11_gatherBlendable_40 : List UInt8 := 167 :: 255 :: 220 :: sxX11_gatherBlendable_43
noncomputable def sxX11_gatherBlendable_37 : List UInt8 := 132 :: 3 :: 1 :: sxX11_gatherBlendable_40
noncomputable def sxX11_gatherBlendable_34 : List UInt8 := 132 :: 2 :: 1 :: sxX11_gatherBlendable_37
noncomputable def sxX11_gatherBlendable_31 : List UInt8 := 184 :: 0 :: 184 :: sxX11_gatherBlendable_34
noncomputable def sxX11_gatherBlendable_30 : List UInt8 := 29 :: sxX11_gatherBlendable_31
noncomputable def sxX11_gatherBlendable_29 : List UInt8 := 28 :: sxX11_gatherBlendable_30
noncomputable def sxX11_gatherBlendable_28 : List UInt8 := 43 :: sxX11_gatherBlendable_29
noncomputable def sxX11_gatherBlendable_25 : List UInt8 := 153 :: 0 :: 12 :: sxX11_gatherBlendable_28
noncomputable def sxX11_gatherBlendable_22 : List UInt8 := 182 :: 1 :: 98 :: sxX11_gatherBlendable_25
noncomputable def sxX11_gatherBlendable_19 : List UInt8 := 182 :: 0 :: 148 :: sxX11_gatherBlendable_22
noncomputable def sxX11_gatherBlendable_18 : List UInt8 := 29 :: sxX11_gatherBlendable_19
noncomputable def sxX11_gatherBlendable_17 : List UInt8 := 42 :: sxX11_gatherBlendable_18
noncomputable def sxX11_gatherBlendable_16 : List UInt8 := 42 :: sxX11_gatherBlendable_17
noncomputable def sxX11_gatherBlendable_13 : List UInt8 := 162 :: 0 :: 30 :: sxX11_gatherBlendable_16
noncomputable def sxX11_gatherBlendable_12 : List UInt8 := 190 :: sxX11_gatherBlendable_13
noncomputable def sxX11_gatherBlendable_11 : List UInt8 := 43 :: sxX11_gatherBlendable_12
noncomputable def sxX11_gatherBlendable_10 : List UInt8 := 28 :: sxX11_gatherBlendable_11
noncomputable def sxX11_gatherBlendable_7 : List UInt8 := 162 :: 0 :: 36 :: sxX11_gatherBlendable_10
noncomputable def sxX11_gatherBlendable_5 : List UInt8 := 16 :: 20 :: sxX11_gatherBlendable_7
noncomputable def sxX11_gatherBlendable_4 : List UInt8 := 29 :: sxX11_gatherBlendable_5
noncomputable def sxX11_gatherBlendable_3 : List UInt8 := 62 :: sxX11_gatherBlendable_4
noncomputable def sxX11_gatherBlendable_2 : List UInt8 := 3 :: sxX11_gatherBlendable_3
noncomputable def sxX11_gatherBlendable_1 : List UInt8 := 61 :: sxX11_gatherBlendable_2
noncomputable def sxX11_gatherBlendable_0 : List UInt8 := 3 :: sxX11_gatherBlendable_1
theorem shX11_gatherBlendable_0 : cX11_gatherBlendable.data.toList.drop 0 = sxX11_gatherBlendable_0 := rfl
theorem shX11_gatherBlendable_1 : cX11_gatherBlendable.data.toList.drop 1 = sxX11_gatherBlendable_1 := dSn 1 shX11_gatherBlendable_0
theorem shX11_gatherBlendable_2 : cX11_gatherBlendable.data.toList.drop 2 = sxX11_gatherBlendable_2 := dSn 1 shX11_gatherBlendable_1
theorem shX11_gatherBlendable_3 : cX11_gatherBlendable.data.toList.drop 3 = sxX11_gatherBlendable_3 := dSn 1 shX11_gatherBlendable_2
theorem shX11_gatherBlendable_4 : cX11_gatherBlendable.data.toList.drop 4 = sxX11_gatherBlendable_4 := dSn 1 shX11_gatherBlendable_3
theorem shX11_gatherBlendable_5 : cX11_gatherBlendable.data.toList.drop 5 = sxX11_gatherBlendable_5 := dSn 1 shX11_gatherBlendable_4
theorem shX11_gatherBlendable_7 : cX11_gatherBlendable.data.toList.drop 7 = sxX11_gatherBlendable_7 := dSn 2 shX11_gatherBlendable_5
theorem shX11_gatherBlendable_10 : cX11_gatherBlendable.data.toList.drop 10 = sxX11_gatherBlendable_10 := dSn 3 shX11_gatherBlendable_7
theorem shX11_gatherBlendable_11 : cX11_gatherBlendable.data.toList.drop 11 = sxX11_gatherBlendable_11 := dSn 1 shX11_gatherBlendable_10
theorem shX11_gatherBlendable_12 : cX11_gatherBlendable.data.toList.drop 12 = sxX11_gatherBlendable_12 := dSn 1 shX11_gatherBlendable_11
theorem shX11_gatherBlendable_13 : cX11_gatherBlendable.data.toList.drop 13 = sxX11_gatherBlendable_13 := dSn 1 shX11_gatherBlendable_12
theorem shX11_gatherBlendable_16 : cX11_gatherBlendable.data.toList.drop 16 = sxX11_gatherBlendable_16 := dSn 3 shX11_gatherBlendable_13
theorem shX11_gatherBlendable_17 : cX11_gatherBlendable.data.toList.drop 17 = sxX11_gatherBlendable_17 := dSn 1 shX11_gatherBlendable_16
theorem shX11_gatherBlendable_18 : cX11_gatherBlendable.data.toList.drop 18 = sxX11_gatherBlendable_18 := dSn 1 shX11_gatherBlendable_17
theorem shX11_gatherBlendable_19 : cX11_gatherBlendable.data.toList.drop 19 = sxX11_gatherBlendable_19 := dSn 1 shX11_gatherBlendable_18
theorem shX11_gatherBlendable_22 : cX11_gatherBlendable.data.toList.drop 22 = sxX11_gatherBlendable_22 := dSn 3 shX11_gatherBlendable_19
theorem shX11_gatherBlendable_25 : cX11_gatherBlendable.data.toList.drop 25 = sxX11_gatherBlendable_25 := dSn 3 shX11_gatherBlendable_22
theorem shX11_gatherBlendable_28 : cX11_gatherBlendable.data.toList.drop 28 = sxX11_gatherBlendable_28 := dSn 3 shX11_gatherBlendable_25
theorem shX11_gatherBlendable_29 : cX11_gatherBlendable.data.toList.drop 29 = sxX11_gatherBlendable_29 := dSn 1 shX11_gatherBlendable_28
theorem shX11_gatherBlendable_30 : cX11_gatherBlendable.data.toList.drop 30 = sxX11_gatherBlendable_30 := dSn 1 shX11_gatherBlendable_29
theorem shX11_gatherBlendable_31 : cX11_gatherBlendable.data.toList.drop 31 = sxX11_gatherBlendable_31 := dSn 1 shX11_gatherBlendable_30
theorem shX11_gatherBlendable_34 : cX11_gatherBlendable.data.toList.drop 34 = sxX11_gatherBlendable_34 := dSn 3 shX11_gatherBlendable_31
theorem shX11_gatherBlendable_37 : cX11_gatherBlendable.data.toList.drop 37 = sxX11_gatherBlendable_37 := dSn 3 shX11_gatherBlendable_34
theorem shX11_gatherBlendable_40 : cX11_gatherBlendable.data.toList.drop 40 = sxX11_gatherBlendable_40 := dSn 3 shX11_gatherBlendable_37
theorem shX11_gatherBlendable_43 : cX11_gatherBlendable.data.toList.drop 43 = sxX11_gatherBlendable_43 := dSn 3 shX11_gatherBlendable_40
theorem shX11_gatherBlendable_44 : cX11_gatherBlendable.data.toList.drop 44 = sxX11_gatherBlendable_44 := dSn 1 shX11_gatherBlendable_43
theorem dX11_gatherBlendable_0 : decode cX11_gatherBlendable 0 = .ok (.iconst 0, 1) := oc_3 shX11_gatherBlendable_0
theorem dX11_gatherBlendable_1 : decode cX11_gatherBlendable 1 = .ok (.istore_n 2, 1) := oc_61 shX11_gatherBlendable_1
theorem dX11_gatherBlendable_2 : decode cX11_gatherBlendable 2 = .ok (.iconst 0, 1) := oc_3 shX11_gatherBlendable_2
theorem dX11_gatherBlendable_3 : decode cX11_gatherBlendable 3 = .ok (.istore_n 3, 1) := oc_62 shX11_gatherBlendable_3
theorem dX11_gatherBlendable_4 : decode cX11_gatherBlendable 4 = .ok (.iload_n 3, 1) := oc_29 shX11_gatherBlendable_4
theorem dX11_gatherBlendable_5 : decode cX11_gatherBlendable 5 = .ok (.bipush 20, 2) := oc_16 shX11_gatherBlendable_5 sgb_20
theorem dX11_gatherBlendable_7 : decode cX11_gatherBlendable 7 = .ok (.if_icmp .ge 36, 3) := oc_162 shX11_gatherBlendable_7 sgw_0_36
theorem dX11_gatherBlendable_43 : decode cX11_gatherBlendable 43 = .ok (.iload_n 2, 1) := oc_28 shX11_gatherBlendable_43
theorem dX11_gatherBlendable_44 : decode cX11_gatherBlendable 44 = .ok (.ireturn, 1) := oc_172 shX11_gatherBlendable_44
theorem dX11_gatherBlendable_10 : decode cX11_gatherBlendable 10 = .ok (.iload_n 2, 1) := oc_28 shX11_gatherBlendable_10
theorem dX11_gatherBlendable_11 : decode cX11_gatherBlendable 11 = .ok (.aload_n 1, 1) := oc_43 shX11_gatherBlendable_11
theorem dX11_gatherBlendable_12 : decode cX11_gatherBlendable 12 = .ok (.arraylength, 1) := oc_190 shX11_gatherBlendable_12
theorem dX11_gatherBlendable_13 : decode cX11_gatherBlendable 13 = .ok (.if_icmp .ge 30, 3) := oc_162 shX11_gatherBlendable_13 sgw_0_30
theorem dX11_gatherBlendable_16 : decode cX11_gatherBlendable 16 = .ok (.aload_n 0, 1) := oc_42 shX11_gatherBlendable_16
theorem dX11_gatherBlendable_17 : decode cX11_gatherBlendable 17 = .ok (.aload_n 0, 1) := oc_42 shX11_gatherBlendable_17
theorem dX11_gatherBlendable_18 : decode cX11_gatherBlendable 18 = .ok (.iload_n 3, 1) := oc_29 shX11_gatherBlendable_18
theorem dX11_gatherBlendable_19 : decode cX11_gatherBlendable 19 = .ok (.invokevirtual 148, 3) := oc_182 shX11_gatherBlendable_19
theorem dX11_gatherBlendable_22 : decode cX11_gatherBlendable 22 = .ok (.invokevirtual 354, 3) := oc_182 shX11_gatherBlendable_22
theorem dX11_gatherBlendable_25 : decode cX11_gatherBlendable 25 = .ok (.ifCond .eq 12, 3) := oc_153 shX11_gatherBlendable_25 sgw_0_12
theorem dX11_gatherBlendable_37 : decode cX11_gatherBlendable 37 = .ok (.iinc 3 1, 3) := oc_132 shX11_gatherBlendable_37 sgb_1
theorem dX11_gatherBlendable_40 : decode cX11_gatherBlendable 40 = .ok (.goto (-36), 3) := oc_167 shX11_gatherBlendable_40 sgw_255_220
theorem dX11_gatherBlendable_28 : decode cX11_gatherBlendable 28 = .ok (.aload_n 1, 1) := oc_43 shX11_gatherBlendable_28
theorem dX11_gatherBlendable_29 : decode cX11_gatherBlendable 29 = .ok (.iload_n 2, 1) := oc_28 shX11_gatherBlendable_29
theorem dX11_gatherBlendable_30 : decode cX11_gatherBlendable 30 = .ok (.iload_n 3, 1) := oc_29 shX11_gatherBlendable_30
theorem dX11_gatherBlendable_31 : decode cX11_gatherBlendable 31 = .ok (.invokestatic 184, 3) := oc_184 shX11_gatherBlendable_31
theorem dX11_gatherBlendable_34 : decode cX11_gatherBlendable 34 = .ok (.iinc 2 1, 3) := oc_132 shX11_gatherBlendable_34 sgb_1
noncomputable def sxX11_flipTo_59 : List UInt8 := []
noncomputable def sxX11_flipTo_58 : List UInt8 := 177 :: sxX11_flipTo_59
noncomputable def sxX11_flipTo_55 : List UInt8 := 167 :: 255 :: 211 :: sxX11_flipTo_58
noncomputable def sxX11_flipTo_52 : List UInt8 := 132 :: 5 :: 1 :: sxX11_flipTo_55
noncomputable def sxX11_flipTo_49 : List UInt8 := 182 :: 1 :: 102 :: sxX11_flipTo_52
noncomputable def sxX11_flipTo_47 : List UInt8 := 25 :: 6 :: sxX11_flipTo_49
noncomputable def sxX11_flipTo_46 : List UInt8 := 46 :: sxX11_flipTo_47
noncomputable def sxX11_flipTo_44 : List UInt8 := 21 :: 5 :: sxX11_flipTo_46
noncomputable def sxX11_flipTo_43 : List UInt8 := 45 :: sxX11_flipTo_44
noncomputable def sxX11_flipTo_42 : List UInt8 := 43 :: sxX11_flipTo_43
noncomputable def sxX11_flipTo_39 : List UInt8 := 198 :: 0 :: 13 :: sxX11_flipTo_42
noncomputable def sxX11_flipTo_37 : List UInt8 := 25 :: 6 :: sxX11_flipTo_39
noncomputable def sxX11_flipTo_35 : List UInt8 := 58 :: 6 :: sxX11_flipTo_37
noncomputable def sxX11_flipTo_32 : List UInt8 := 182 :: 0 :: 148 :: sxX11_flipTo_35
noncomputable def sxX11_flipTo_31 : List UInt8 := 46 :: sxX11_flipTo_32
noncomputable def sxX11_flipTo_29 : List UInt8 := 21 :: 5 :: sxX11_flipTo_31
noncomputable def sxX11_flipTo_28 : List UInt8 := 45 :: sxX11_flipTo_29
noncomputable def sxX11_flipTo_27 : List UInt8 := 42 :: sxX11_flipTo_28
noncomputable def sxX11_flipTo_24 : List UInt8 := 153 :: 0 :: 34 :: sxX11_flipTo_27
noncomputable def sxX11_flipTo_23 : List UInt8 := 126 :: sxX11_flipTo_24
noncomputable def sxX11_flipTo_22 : List UInt8 := 4 :: sxX11_flipTo_23
noncomputable def sxX11_flipTo_21 : List UInt8 := 122 :: sxX11_flipTo_22
noncomputable def sxX11_flipTo_19 : List UInt8 := 21 :: 5 :: sxX11_flipTo_21
noncomputable def sxX11_flipTo_17 : List UInt8 := 21 :: 4 :: sxX11_flipTo_19
noncomputable def sxX11_flipTo_14 : List UInt8 := 162 :: 0 :: 44 :: sxX11_flipTo_17
noncomputable def sxX11_flipTo_13 : List UInt8 := 190 :: sxX11_flipTo_14
noncomputable def sxX11_flipTo_12 : List UInt8 := 45 :: sxX11_flipTo_13
noncomputable def sxX11_flipTo_10 : List UInt8 := 21 :: 5 :: sxX11_flipTo_12
noncomputable def sxX11_flipTo_8 : List UInt8 := 54 :: 5 :: sxX11_flipTo_10
noncomputable def sxX11_flipTo_7 : List UInt8 := 3 :: sxX11_flipTo_8
noncomputable def sxX11_flipTo_5 : List UInt8 := 54 :: 4 :: sxX11_flipTo_7
noncomputable def sxX11_flipTo_4 : List UInt8 := 130 :: sxX11_flipTo_5
noncomputable def sxX11_flipTo_3 : List UInt8 := 100 :: sxX11_flipTo_4
noncomputable def sxX11_flipTo_2 : List UInt8 := 4 :: sxX11_flipTo_3
noncomputable def sxX11_flipTo_1 : List UInt8 := 28 :: sxX11_flipTo_2
noncomputable def sxX11_flipTo_0 : List UInt8 := 28 :: sxX11_flipTo_1
theorem shX11_flipTo_0 : cX11_flipTo.data.toList.drop 0 = sxX11_flipTo_0 := rfl
theorem shX11_flipTo_1 : cX11_flipTo.data.toList.drop 1 = sxX11_flipTo_1 := dSn 1 shX11_flipTo_0
theorem shX11_flipTo_2 : cX11_flipTo.data.toList.drop 2 = sxX11_flipTo_2 := dSn 1 shX11_flipTo_1
theorem shX11_flipTo_3 : cX11_flipTo.data.toList.drop 3 = sxX11_flipTo_3 := dSn 1 shX11_flipTo_2
theorem shX11_flipTo_4 : cX11_flipTo.data.toList.drop 4 = sxX11_flipTo_4 := dSn 1 shX11_flipTo_3
theorem shX11_flipTo_5 : cX11_flipTo.data.toList.drop 5 = sxX11_flipTo_5 := dSn 1 shX11_flipTo_4
theorem shX11_flipTo_7 : cX11_flipTo.data.toList.drop 7 = sxX11_flipTo_7 := dSn 2 shX11_flipTo_5
theorem shX11_flipTo_8 : cX11_flipTo.data.toList.drop 8 = sxX11_flipTo_8 := dSn 1 shX11_flipTo_7
theorem shX11_flipTo_10 : cX11_flipTo.data.toList.drop 10 = sxX11_flipTo_10 := dSn 2 shX11_flipTo_8
theorem shX11_flipTo_12 : cX11_flipTo.data.toList.drop 12 = sxX11_flipTo_12 := dSn 2 shX11_flipTo_10
theorem shX11_flipTo_13 : cX11_flipTo.data.toList.drop 13 = sxX11_flipTo_13 := dSn 1 shX11_flipTo_12
theorem shX11_flipTo_14 : cX11_flipTo.data.toList.drop 14 = sxX11_flipTo_14 := dSn 1 shX11_flipTo_13
theorem shX11_flipTo_17 : cX11_flipTo.data.toList.drop 17 = sxX11_flipTo_17 := dSn 3 shX11_flipTo_14
theorem shX11_flipTo_19 : cX11_flipTo.data.toList.drop 19 = sxX11_flipTo_19 := dSn 2 shX11_flipTo_17
theorem shX11_flipTo_21 : cX11_flipTo.data.toList.drop 21 = sxX11_flipTo_21 := dSn 2 shX11_flipTo_19
theorem shX11_flipTo_22 : cX11_flipTo.data.toList.drop 22 = sxX11_flipTo_22 := dSn 1 shX11_flipTo_21
theorem shX11_flipTo_23 : cX11_flipTo.data.toList.drop 23 = sxX11_flipTo_23 := dSn 1 shX11_flipTo_22
theorem shX11_flipTo_24 : cX11_flipTo.data.toList.drop 24 = sxX11_flipTo_24 := dSn 1 shX11_flipTo_23
theorem shX11_flipTo_27 : cX11_flipTo.data.toList.drop 27 = sxX11_flipTo_27 := dSn 3 shX11_flipTo_24
theorem shX11_flipTo_28 : cX11_flipTo.data.toList.drop 28 = sxX11_flipTo_28 := dSn 1 shX11_flipTo_27
theorem shX11_flipTo_29 : cX11_flipTo.data.toList.drop 29 = sxX11_flipTo_29 := dSn 1 shX11_flipTo_28
theorem shX11_flipTo_31 : cX11_flipTo.data.toList.drop 31 = sxX11_flipTo_31 := dSn 2 shX11_flipTo_29
theorem shX11_flipTo_32 : cX11_flipTo.data.toList.drop 32 = sxX11_flipTo_32 := dSn 1 shX11_flipTo_31
theorem shX11_flipTo_35 : cX11_flipTo.data.toList.drop 35 = sxX11_flipTo_35 := dSn 3 shX11_flipTo_32
theorem shX11_flipTo_37 : cX11_flipTo.data.toList.drop 37 = sxX11_flipTo_37 := dSn 2 shX11_flipTo_35
theorem shX11_flipTo_39 : cX11_flipTo.data.toList.drop 39 = sxX11_flipTo_39 := dSn 2 shX11_flipTo_37
theorem shX11_flipTo_42 : cX11_flipTo.data.toList.drop 42 = sxX11_flipTo_42 := dSn 3 shX11_flipTo_39
theorem shX11_flipTo_43 : cX11_flipTo.data.toList.drop 43 = sxX11_flipTo_43 := dSn 1 shX11_flipTo_42
theorem shX11_flipTo_44 : cX11_flipTo.data.toList.drop 44 = sxX11_flipTo_44 := dSn 1 shX11_flipTo_43
theorem shX11_flipTo_46 : cX11_flipTo.data.toList.drop 46 = sxX11_flipTo_46 := dSn 2 shX11_flipTo_44
theorem shX11_flipTo_47 : cX11_flipTo.data.toList.drop 47 = sxX11_flipTo_47 := dSn 1 shX11_flipTo_46
theorem shX11_flipTo_49 : cX11_flipTo.data.toList.drop 49 = sxX11_flipTo_49 := dSn 2 shX11_flipTo_47
theorem shX11_flipTo_52 : cX11_flipTo.data.toList.drop 52 = sxX11_flipTo_52 := dSn 3 shX11_flipTo_49
theorem shX11_flipTo_55 : cX11_flipTo.data.toList.drop 55 = sxX11_flipTo_55 := dSn 3 shX11_flipTo_52
theorem shX11_flipTo_58 : cX11_flipTo.data.toList.drop 58 = sxX11_flipTo_58 := dSn 3 shX11_flipTo_55
theorem dX11_flipTo_0 : decode cX11_flipTo 0 = .ok (.iload_n 2, 1) := oc_28 shX11_flipTo_0
theorem dX11_flipTo_1 : decode cX11_flipTo 1 = .ok (.iload_n 2, 1) := oc_28 shX11_flipTo_1
theorem dX11_flipTo_2 : decode cX11_flipTo 2 = .ok (.iconst 1, 1) := oc_4 shX11_flipTo_2
theorem dX11_flipTo_3 : decode cX11_flipTo 3 = .ok (.isub, 1) := oc_100 shX11_flipTo_3
theorem dX11_flipTo_4 : decode cX11_flipTo 4 = .ok (.ixor, 1) := oc_130 shX11_flipTo_4
theorem dX11_flipTo_5 : decode cX11_flipTo 5 = .ok (.istore 4, 2) := oc_54 shX11_flipTo_5
theorem dX11_flipTo_7 : decode cX11_flipTo 7 = .ok (.iconst 0, 1) := oc_3 shX11_flipTo_7
theorem dX11_flipTo_8 : decode cX11_flipTo 8 = .ok (.istore 5, 2) := oc_54 shX11_flipTo_8
theorem dX11_flipTo_10 : decode cX11_flipTo 10 = .ok (.iload 5, 2) := oc_21 shX11_flipTo_10
theorem dX11_flipTo_12 : decode cX11_flipTo 12 = .ok (.aload_n 3, 1) := oc_45 shX11_flipTo_12
theorem dX11_flipTo_13 : decode cX11_flipTo 13 = .ok (.arraylength, 1) := oc_190 shX11_flipTo_13
theorem dX11_flipTo_14 : decode cX11_flipTo 14 = .ok (.if_icmp .ge 44, 3) := oc_162 shX11_flipTo_14 sgw_0_44
theorem dX11_flipTo_58 : decode cX11_flipTo 58 = .ok (.return_, 1) := oc_177 shX11_flipTo_58
theorem dX11_flipTo_17 : decode cX11_flipTo 17 = .ok (.iload 4, 2) := oc_21 shX11_flipTo_17
theorem dX11_flipTo_19 : decode cX11_flipTo 19 = .ok (.iload 5, 2) := oc_21 shX11_flipTo_19
theorem dX11_flipTo_21 : decode cX11_flipTo 21 = .ok (.ishr, 1) := oc_122 shX11_flipTo_21
theorem dX11_flipTo_22 : decode cX11_flipTo 22 = .ok (.iconst 1, 1) := oc_4 shX11_flipTo_22
theorem dX11_flipTo_23 : decode cX11_flipTo 23 = .ok (.iand, 1) := oc_126 shX11_flipTo_23
theorem dX11_flipTo_24 : decode cX11_flipTo 24 = .ok (.ifCond .eq 34, 3) := oc_153 shX11_flipTo_24 sgw_0_34
theorem dX11_flipTo_27 : decode cX11_flipTo 27 = .ok (.aload_n 0, 1) := oc_42 shX11_flipTo_27
theorem dX11_flipTo_28 : decode cX11_flipTo 28 = .ok (.aload_n 3, 1) := oc_45 shX11_flipTo_28
theorem dX11_flipTo_29 : decode cX11_flipTo 29 = .ok (.iload 5, 2) := oc_21 shX11_flipTo_29
theorem dX11_flipTo_31 : decode cX11_flipTo 31 = .ok (.iaload, 1) := oc_46 shX11_flipTo_31
theorem dX11_flipTo_32 : decode cX11_flipTo 32 = .ok (.invokevirtual 148, 3) := oc_182 shX11_flipTo_32
theorem dX11_flipTo_35 : decode cX11_flipTo 35 = .ok (.astore 6, 2) := oc_58 shX11_flipTo_35
theorem dX11_flipTo_37 : decode cX11_flipTo 37 = .ok (.aload 6, 2) := oc_25 shX11_flipTo_37
theorem dX11_flipTo_39 : decode cX11_flipTo 39 = .ok (.ifnull 13, 3) := oc_198 shX11_flipTo_39 sgw_0_13
theorem dX11_flipTo_42 : decode cX11_flipTo 42 = .ok (.aload_n 1, 1) := oc_43 shX11_flipTo_42
theorem dX11_flipTo_43 : decode cX11_flipTo 43 = .ok (.aload_n 3, 1) := oc_45 shX11_flipTo_43
theorem dX11_flipTo_44 : decode cX11_flipTo 44 = .ok (.iload 5, 2) := oc_21 shX11_flipTo_44
theorem dX11_flipTo_46 : decode cX11_flipTo 46 = .ok (.iaload, 1) := oc_46 shX11_flipTo_46
theorem dX11_flipTo_47 : decode cX11_flipTo 47 = .ok (.aload 6, 2) := oc_25 shX11_flipTo_47
theorem dX11_flipTo_49 : decode cX11_flipTo 49 = .ok (.invokevirtual 358, 3) := oc_182 shX11_flipTo_49
theorem dX11_flipTo_52 : decode cX11_flipTo 52 = .ok (.iinc 5 1, 3) := oc_132 shX11_flipTo_52 sgb_1
theorem dX11_flipTo_55 : decode cX11_flipTo 55 = .ok (.goto (-45), 3) := oc_167 shX11_flipTo_55 sgw_255_211
noncomputable def sxX11_blend_131 : List UInt8 := []
noncomputable def sxX11_blend_130 : List UInt8 := 172 :: sxX11_blend_131
noncomputable def sxX11_blend_128 : List UInt8 := 21 :: 4 :: sxX11_blend_130
noncomputable def sxX11_blend_125 : List UInt8 := 167 :: 255 :: 166 :: sxX11_blend_128
noncomputable def sxX11_blend_122 : List UInt8 := 132 :: 7 :: 1 :: sxX11_blend_125
noncomputable def sxX11_blend_120 : List UInt8 := 54 :: 6 :: sxX11_blend_122
noncomputable def sxX11_blend_117 : List UInt8 := 180 :: 1 :: 91 :: sxX11_blend_120
noncomputable def sxX11_blend_116 : List UInt8 := 45 :: sxX11_blend_117
noncomputable def sxX11_blend_114 : List UInt8 := 54 :: 5 :: sxX11_blend_116
noncomputable def sxX11_blend_111 : List UInt8 := 180 :: 1 :: 86 :: sxX11_blend_114
noncomputable def sxX11_blend_110 : List UInt8 := 45 :: sxX11_blend_111
noncomputable def sxX11_blend_108 : List UInt8 := 54 :: 4 :: sxX11_blend_110
noncomputable def sxX11_blend_105 : List UInt8 := 180 :: 1 :: 132 :: sxX11_blend_108
noncomputable def sxX11_blend_104 : List UInt8 := 45 :: sxX11_blend_105
noncomputable def sxX11_blend_101 : List UInt8 := 160 :: 0 :: 21 :: sxX11_blend_104
noncomputable def sxX11_blend_100 : List UInt8 := 2 :: sxX11_blend_101
noncomputable def sxX11_blend_97 : List UInt8 := 182 :: 1 :: 114 :: sxX11_blend_100
noncomputable def sxX11_blend_96 : List UInt8 := 45 :: sxX11_blend_97
noncomputable def sxX11_blend_95 : List UInt8 := 42 :: sxX11_blend_96
noncomputable def sxX11_blend_92 : List UInt8 := 153 :: 0 :: 30 :: sxX11_blend_95
noncomputable def sxX11_blend_90 : List UInt8 := 21 :: 8 :: sxX11_blend_92
noncomputable def sxX11_blend_88 : List UInt8 := 54 :: 8 :: sxX11_blend_90
noncomputable def sxX11_blend_87 : List UInt8 := 3 :: sxX11_blend_88
noncomputable def sxX11_blend_84 : List UInt8 := 167 :: 0 :: 4 :: sxX11_blend_87
noncomputable def sxX11_blend_83 : List UInt8 := 4 :: sxX11_blend_84
noncomputable def sxX11_blend_80 : List UInt8 := 162 :: 0 :: 7 :: sxX11_blend_83
noncomputable def sxX11_blend_78 : List UInt8 := 21 :: 6 :: sxX11_blend_80
noncomputable def sxX11_blend_75 : List UInt8 := 180 :: 1 :: 91 :: sxX11_blend_78
noncomputable def sxX11_blend_74 : List UInt8 := 45 :: sxX11_blend_75
noncomputable def sxX11_blend_71 : List UInt8 := 160 :: 0 :: 16 :: sxX11_blend_74
noncomputable def sxX11_blend_69 : List UInt8 := 21 :: 5 :: sxX11_blend_71
noncomputable def sxX11_blend_66 : List UInt8 := 180 :: 1 :: 86 :: sxX11_blend_69
noncomputable def sxX11_blend_65 : List UInt8 := 45 :: sxX11_blend_66
noncomputable def sxX11_blend_62 : List UInt8 := 163 :: 0 :: 21 :: sxX11_blend_65
noncomputable def sxX11_blend_60 : List UInt8 := 21 :: 5 :: sxX11_blend_62
noncomputable def sxX11_blend_57 : List UInt8 := 180 :: 1 :: 86 :: sxX11_blend_60
noncomputable def sxX11_blend_56 : List UInt8 := 45 :: sxX11_blend_57
noncomputable def sxX11_blend_53 : List UInt8 := 153 :: 0 :: 30 :: sxX11_blend_56
noncomputable def sxX11_blend_51 : List UInt8 := 21 :: 4 :: sxX11_blend_53
noncomputable def sxX11_blend_48 : List UInt8 := 182 :: 1 :: 139 :: sxX11_blend_51
noncomputable def sxX11_blend_47 : List UInt8 := 43 :: sxX11_blend_48
noncomputable def sxX11_blend_45 : List UInt8 := 21 :: 7 :: sxX11_blend_47
noncomputable def sxX11_blend_44 : List UInt8 := 45 :: sxX11_blend_45
noncomputable def sxX11_blend_43 : List UInt8 := 42 :: sxX11_blend_44
noncomputable def sxX11_blend_40 : List UInt8 := 162 :: 0 :: 88 :: sxX11_blend_43
noncomputable def sxX11_blend_39 : List UInt8 := 120 :: sxX11_blend_40
noncomputable def sxX11_blend_38 : List UInt8 := 28 :: sxX11_blend_39
noncomputable def sxX11_blend_37 : List UInt8 := 4 :: sxX11_blend_38
noncomputable def sxX11_blend_35 : List UInt8 := 21 :: 7 :: sxX11_blend_37
noncomputable def sxX11_blend_33 : List UInt8 := 54 :: 7 :: sxX11_blend_35
noncomputable def sxX11_blend_32 : List UInt8 := 4 :: sxX11_blend_33
noncomputable def sxX11_blend_30 : List UInt8 := 54 :: 6 :: sxX11_blend_32
noncomputable def sxX11_blend_29 : List UInt8 := 3 :: sxX11_blend_30
noncomputable def sxX11_blend_27 : List UInt8 := 54 :: 5 :: sxX11_blend_29
noncomputable def sxX11_blend_26 : List UInt8 := 3 :: sxX11_blend_27
noncomputable def sxX11_blend_24 : List UInt8 := 54 :: 4 :: sxX11_blend_26
noncomputable def sxX11_blend_23 : List UInt8 := 3 :: sxX11_blend_24
noncomputable def sxX11_blend_22 : List UInt8 := 78 :: sxX11_blend_23
noncomputable def sxX11_blend_19 : List UInt8 := 183 :: 1 :: 97 :: sxX11_blend_22
noncomputable def sxX11_blend_18 : List UInt8 := 89 :: sxX11_blend_19
noncomputable def sxX11_blend_15 : List UInt8 := 187 :: 0 :: 95 :: sxX11_blend_18
noncomputable def sxX11_blend_12 : List UInt8 := 182 :: 1 :: 111 :: sxX11_blend_15
noncomputable def sxX11_blend_11 : List UInt8 := 42 :: sxX11_blend_12
noncomputable def sxX11_blend_10 : List UInt8 := 61 :: sxX11_blend_11
noncomputable def sxX11_blend_7 : List UInt8 := 182 :: 1 :: 135 :: sxX11_blend_10
noncomputable def sxX11_blend_6 : List UInt8 := 43 :: sxX11_blend_7
noncomputable def sxX11_blend_5 : List UInt8 := 42 :: sxX11_blend_6
noncomputable def sxX11_blend_4 : List UInt8 := 76 :: sxX11_blend_5
noncomputable def sxX11_blend_2 : List UInt8 := 188 :: 10 :: sxX11_blend_4
noncomputable def sxX11_blend_0 : List UInt8 := 16 :: 12 :: sxX11_blend_2
theorem shX11_blend_0 : cX11_blend.data.toList.drop 0 = sxX11_blend_0 := rfl
theorem shX11_blend_2 : cX11_blend.data.toList.drop 2 = sxX11_blend_2 := dSn 2 shX11_blend_0
theorem shX11_blend_4 : cX11_blend.data.toList.drop 4 = sxX11_blend_4 := dSn 2 shX11_blend_2
theorem shX11_blend_5 : cX11_blend.data.toList.drop 5 = sxX11_blend_5 := dSn 1 shX11_blend_4
theorem shX11_blend_6 : cX11_blend.data.toList.drop 6 = sxX11_blend_6 := dSn 1 shX11_blend_5
theorem shX11_blend_7 : cX11_blend.data.toList.drop 7 = sxX11_blend_7 := dSn 1 shX11_blend_6
theorem shX11_blend_10 : cX11_blend.data.toList.drop 10 = sxX11_blend_10 := dSn 3 shX11_blend_7
theorem shX11_blend_11 : cX11_blend.data.toList.drop 11 = sxX11_blend_11 := dSn 1 shX11_blend_10
theorem shX11_blend_12 : cX11_blend.data.toList.drop 12 = sxX11_blend_12 := dSn 1 shX11_blend_11
theorem shX11_blend_15 : cX11_blend.data.toList.drop 15 = sxX11_blend_15 := dSn 3 shX11_blend_12
theorem shX11_blend_18 : cX11_blend.data.toList.drop 18 = sxX11_blend_18 := dSn 3 shX11_blend_15
theorem shX11_blend_19 : cX11_blend.data.toList.drop 19 = sxX11_blend_19 := dSn 1 shX11_blend_18
theorem shX11_blend_22 : cX11_blend.data.toList.drop 22 = sxX11_blend_22 := dSn 3 shX11_blend_19
theorem shX11_blend_23 : cX11_blend.data.toList.drop 23 = sxX11_blend_23 := dSn 1 shX11_blend_22
theorem shX11_blend_24 : cX11_blend.data.toList.drop 24 = sxX11_blend_24 := dSn 1 shX11_blend_23
theorem shX11_blend_26 : cX11_blend.data.toList.drop 26 = sxX11_blend_26 := dSn 2 shX11_blend_24
theorem shX11_blend_27 : cX11_blend.data.toList.drop 27 = sxX11_blend_27 := dSn 1 shX11_blend_26
theorem shX11_blend_29 : cX11_blend.data.toList.drop 29 = sxX11_blend_29 := dSn 2 shX11_blend_27
theorem shX11_blend_30 : cX11_blend.data.toList.drop 30 = sxX11_blend_30 := dSn 1 shX11_blend_29
theorem shX11_blend_32 : cX11_blend.data.toList.drop 32 = sxX11_blend_32 := dSn 2 shX11_blend_30
theorem shX11_blend_33 : cX11_blend.data.toList.drop 33 = sxX11_blend_33 := dSn 1 shX11_blend_32
theorem shX11_blend_35 : cX11_blend.data.toList.drop 35 = sxX11_blend_35 := dSn 2 shX11_blend_33
theorem shX11_blend_37 : cX11_blend.data.toList.drop 37 = sxX11_blend_37 := dSn 2 shX11_blend_35
theorem shX11_blend_38 : cX11_blend.data.toList.drop 38 = sxX11_blend_38 := dSn 1 shX11_blend_37
theorem shX11_blend_39 : cX11_blend.data.toList.drop 39 = sxX11_blend_39 := dSn 1 shX11_blend_38
theorem shX11_blend_40 : cX11_blend.data.toList.drop 40 = sxX11_blend_40 := dSn 1 shX11_blend_39
theorem shX11_blend_43 : cX11_blend.data.toList.drop 43 = sxX11_blend_43 := dSn 3 shX11_blend_40
theorem shX11_blend_44 : cX11_blend.data.toList.drop 44 = sxX11_blend_44 := dSn 1 shX11_blend_43
theorem shX11_blend_45 : cX11_blend.data.toList.drop 45 = sxX11_blend_45 := dSn 1 shX11_blend_44
theorem shX11_blend_47 : cX11_blend.data.toList.drop 47 = sxX11_blend_47 := dSn 2 shX11_blend_45
theorem shX11_blend_48 : cX11_blend.data.toList.drop 48 = sxX11_blend_48 := dSn 1 shX11_blend_47
theorem shX11_blend_51 : cX11_blend.data.toList.drop 51 = sxX11_blend_51 := dSn 3 shX11_blend_48
theorem shX11_blend_53 : cX11_blend.data.toList.drop 53 = sxX11_blend_53 := dSn 2 shX11_blend_51
theorem shX11_blend_56 : cX11_blend.data.toList.drop 56 = sxX11_blend_56 := dSn 3 shX11_blend_53
theorem shX11_blend_57 : cX11_blend.data.toList.drop 57 = sxX11_blend_57 := dSn 1 shX11_blend_56
theorem shX11_blend_60 : cX11_blend.data.toList.drop 60 = sxX11_blend_60 := dSn 3 shX11_blend_57
theorem shX11_blend_62 : cX11_blend.data.toList.drop 62 = sxX11_blend_62 := dSn 2 shX11_blend_60
theorem shX11_blend_65 : cX11_blend.data.toList.drop 65 = sxX11_blend_65 := dSn 3 shX11_blend_62
theorem shX11_blend_66 : cX11_blend.data.toList.drop 66 = sxX11_blend_66 := dSn 1 shX11_blend_65
theorem shX11_blend_69 : cX11_blend.data.toList.drop 69 = sxX11_blend_69 := dSn 3 shX11_blend_66
theorem shX11_blend_71 : cX11_blend.data.toList.drop 71 = sxX11_blend_71 := dSn 2 shX11_blend_69
theorem shX11_blend_74 : cX11_blend.data.toList.drop 74 = sxX11_blend_74 := dSn 3 shX11_blend_71
theorem shX11_blend_75 : cX11_blend.data.toList.drop 75 = sxX11_blend_75 := dSn 1 shX11_blend_74
theorem shX11_blend_78 : cX11_blend.data.toList.drop 78 = sxX11_blend_78 := dSn 3 shX11_blend_75
theorem shX11_blend_80 : cX11_blend.data.toList.drop 80 = sxX11_blend_80 := dSn 2 shX11_blend_78
theorem shX11_blend_83 : cX11_blend.data.toList.drop 83 = sxX11_blend_83 := dSn 3 shX11_blend_80
theorem shX11_blend_84 : cX11_blend.data.toList.drop 84 = sxX11_blend_84 := dSn 1 shX11_blend_83
theorem shX11_blend_87 : cX11_blend.data.toList.drop 87 = sxX11_blend_87 := dSn 3 shX11_blend_84
theorem shX11_blend_88 : cX11_blend.data.toList.drop 88 = sxX11_blend_88 := dSn 1 shX11_blend_87
theorem shX11_blend_90 : cX11_blend.data.toList.drop 90 = sxX11_blend_90 := dSn 2 shX11_blend_88
theorem shX11_blend_92 : cX11_blend.data.toList.drop 92 = sxX11_blend_92 := dSn 2 shX11_blend_90
theorem shX11_blend_95 : cX11_blend.data.toList.drop 95 = sxX11_blend_95 := dSn 3 shX11_blend_92
theorem shX11_blend_96 : cX11_blend.data.toList.drop 96 = sxX11_blend_96 := dSn 1 shX11_blend_95
theorem shX11_blend_97 : cX11_blend.data.toList.drop 97 = sxX11_blend_97 := dSn 1 shX11_blend_96
theorem shX11_blend_100 : cX11_blend.data.toList.drop 100 = sxX11_blend_100 := dSn 3 shX11_blend_97
theorem shX11_blend_101 : cX11_blend.data.toList.drop 101 = sxX11_blend_101 := dSn 1 shX11_blend_100
theorem shX11_blend_104 : cX11_blend.data.toList.drop 104 = sxX11_blend_104 := dSn 3 shX11_blend_101
theorem shX11_blend_105 : cX11_blend.data.toList.drop 105 = sxX11_blend_105 := dSn 1 shX11_blend_104
theorem shX11_blend_108 : cX11_blend.data.toList.drop 108 = sxX11_blend_108 := dSn 3 shX11_blend_105
theorem shX11_blend_110 : cX11_blend.data.toList.drop 110 = sxX11_blend_110 := dSn 2 shX11_blend_108
theorem shX11_blend_111 : cX11_blend.data.toList.drop 111 = sxX11_blend_111 := dSn 1 shX11_blend_110
theorem shX11_blend_114 : cX11_blend.data.toList.drop 114 = sxX11_blend_114 := dSn 3 shX11_blend_111
theorem shX11_blend_116 : cX11_blend.data.toList.drop 116 = sxX11_blend_116 := dSn 2 shX11_blend_114
theorem shX11_blend_117 : cX11_blend.data.toList.drop 117 = sxX11_blend_117 := dSn 1 shX11_blend_116
theorem shX11_blend_120 : cX11_blend.data.toList.drop 120 = sxX11_blend_120 := dSn 3 shX11_blend_117
theorem shX11_blend_122 : cX11_blend.data.toList.drop 122 = sxX11_blend_122 := dSn 2 shX11_blend_120
theorem shX11_blend_125 : cX11_blend.data.toList.drop 125 = sxX11_blend_125 := dSn 3 shX11_blend_122
theorem shX11_blend_128 : cX11_blend.data.toList.drop 128 = sxX11_blend_128 := dSn 3 shX11_blend_125
theorem shX11_blend_130 : cX11_blend.data.toList.drop 130 = sxX11_blend_130 := dSn 2 shX11_blend_128
theorem dX11_blend_0 : decode cX11_blend 0 = .ok (.bipush 12, 2) := oc_16 shX11_blend_0 sgb_12
theorem dX11_blend_2 : decode cX11_blend 2 = .ok (.newarray .int, 2) := oc_188_10 shX11_blend_2
theorem dX11_blend_4 : decode cX11_blend 4 = .ok (.astore_n 1, 1) := oc_76 shX11_blend_4
theorem dX11_blend_5 : decode cX11_blend 5 = .ok (.aload_n 0, 1) := oc_42 shX11_blend_5
theorem dX11_blend_6 : decode cX11_blend 6 = .ok (.aload_n 1, 1) := oc_43 shX11_blend_6
theorem dX11_blend_7 : decode cX11_blend 7 = .ok (.invokevirtual 391, 3) := oc_182 shX11_blend_7
theorem dX11_blend_10 : decode cX11_blend 10 = .ok (.istore_n 2, 1) := oc_61 shX11_blend_10
theorem dX11_blend_11 : decode cX11_blend 11 = .ok (.aload_n 0, 1) := oc_42 shX11_blend_11
theorem dX11_blend_12 : decode cX11_blend 12 = .ok (.invokevirtual 367, 3) := oc_182 shX11_blend_12
theorem dX11_blend_15 : decode cX11_blend 15 = .ok (.new 95, 3) := oc_187 shX11_blend_15
theorem dX11_blend_18 : decode cX11_blend 18 = .ok (.dup, 1) := oc_89 shX11_blend_18
theorem dX11_blend_19 : decode cX11_blend 19 = .ok (.invokespecial 353, 3) := oc_183 shX11_blend_19
theorem dX11_blend_22 : decode cX11_blend 22 = .ok (.astore_n 3, 1) := oc_78 shX11_blend_22
theorem dX11_blend_23 : decode cX11_blend 23 = .ok (.iconst 0, 1) := oc_3 shX11_blend_23
theorem dX11_blend_24 : decode cX11_blend 24 = .ok (.istore 4, 2) := oc_54 shX11_blend_24
theorem dX11_blend_26 : decode cX11_blend 26 = .ok (.iconst 0, 1) := oc_3 shX11_blend_26
theorem dX11_blend_27 : decode cX11_blend 27 = .ok (.istore 5, 2) := oc_54 shX11_blend_27
theorem dX11_blend_29 : decode cX11_blend 29 = .ok (.iconst 0, 1) := oc_3 shX11_blend_29
theorem dX11_blend_30 : decode cX11_blend 30 = .ok (.istore 6, 2) := oc_54 shX11_blend_30
theorem dX11_blend_32 : decode cX11_blend 32 = .ok (.iconst 1, 1) := oc_4 shX11_blend_32
theorem dX11_blend_33 : decode cX11_blend 33 = .ok (.istore 7, 2) := oc_54 shX11_blend_33
theorem dX11_blend_35 : decode cX11_blend 35 = .ok (.iload 7, 2) := oc_21 shX11_blend_35
theorem dX11_blend_37 : decode cX11_blend 37 = .ok (.iconst 1, 1) := oc_4 shX11_blend_37
theorem dX11_blend_38 : decode cX11_blend 38 = .ok (.iload_n 2, 1) := oc_28 shX11_blend_38
theorem dX11_blend_39 : decode cX11_blend 39 = .ok (.ishl, 1) := oc_120 shX11_blend_39
theorem dX11_blend_40 : decode cX11_blend 40 = .ok (.if_icmp .ge 88, 3) := oc_162 shX11_blend_40 sgw_0_88
theorem dX11_blend_128 : decode cX11_blend 128 = .ok (.iload 4, 2) := oc_21 shX11_blend_128
theorem dX11_blend_130 : decode cX11_blend 130 = .ok (.ireturn, 1) := oc_172 shX11_blend_130
theorem dX11_blend_43 : decode cX11_blend 43 = .ok (.aload_n 0, 1) := oc_42 shX11_blend_43
theorem dX11_blend_44 : decode cX11_blend 44 = .ok (.aload_n 3, 1) := oc_45 shX11_blend_44
theorem dX11_blend_45 : decode cX11_blend 45 = .ok (.iload 7, 2) := oc_21 shX11_blend_45
theorem dX11_blend_47 : decode cX11_blend 47 = .ok (.aload_n 1, 1) := oc_43 shX11_blend_47
theorem dX11_blend_48 : decode cX11_blend 48 = .ok (.invokevirtual 395, 3) := oc_182 shX11_blend_48
theorem dX11_blend_51 : decode cX11_blend 51 = .ok (.iload 4, 2) := oc_21 shX11_blend_51
theorem dX11_blend_53 : decode cX11_blend 53 = .ok (.ifCond .eq 30, 3) := oc_153 shX11_blend_53 sgw_0_30
theorem dX11_blend_83 : decode cX11_blend 83 = .ok (.iconst 1, 1) := oc_4 shX11_blend_83
theorem dX11_blend_84 : decode cX11_blend 84 = .ok (.goto 4, 3) := oc_167 shX11_blend_84 sgw_0_4
theorem dX11_blend_88 : decode cX11_blend 88 = .ok (.istore 8, 2) := oc_54 shX11_blend_88
theorem dX11_blend_90 : decode cX11_blend 90 = .ok (.iload 8, 2) := oc_21 shX11_blend_90
theorem dX11_blend_92 : decode cX11_blend 92 = .ok (.ifCond .eq 30, 3) := oc_153 shX11_blend_92 sgw_0_30
theorem dX11_blend_95 : decode cX11_blend 95 = .ok (.aload_n 0, 1) := oc_42 shX11_blend_95
theorem dX11_blend_96 : decode cX11_blend 96 = .ok (.aload_n 3, 1) := oc_45 shX11_blend_96
theorem dX11_blend_97 : decode cX11_blend 97 = .ok (.invokevirtual 370, 3) := oc_182 shX11_blend_97
theorem dX11_blend_100 : decode cX11_blend 100 = .ok (.iconst (-1), 1) := oc_2 shX11_blend_100
theorem dX11_blend_101 : decode cX11_blend 101 = .ok (.if_icmp .ne 21, 3) := oc_160 shX11_blend_101 sgw_0_21
theorem dX11_blend_122 : decode cX11_blend 122 = .ok (.iinc 7 1, 3) := oc_132 shX11_blend_122 sgb_1
theorem dX11_blend_125 : decode cX11_blend 125 = .ok (.goto (-90), 3) := oc_167 shX11_blend_125 sgw_255_166
theorem dX11_blend_104 : decode cX11_blend 104 = .ok (.aload_n 3, 1) := oc_45 shX11_blend_104
theorem dX11_blend_105 : decode cX11_blend 105 = .ok (.getfield 388, 3) := oc_180 shX11_blend_105
theorem dX11_blend_108 : decode cX11_blend 108 = .ok (.istore 4, 2) := oc_54 shX11_blend_108
theorem dX11_blend_110 : decode cX11_blend 110 = .ok (.aload_n 3, 1) := oc_45 shX11_blend_110
theorem dX11_blend_111 : decode cX11_blend 111 = .ok (.getfield 342, 3) := oc_180 shX11_blend_111
theorem dX11_blend_114 : decode cX11_blend 114 = .ok (.istore 5, 2) := oc_54 shX11_blend_114
theorem dX11_blend_116 : decode cX11_blend 116 = .ok (.aload_n 3, 1) := oc_45 shX11_blend_116
theorem dX11_blend_117 : decode cX11_blend 117 = .ok (.getfield 347, 3) := oc_180 shX11_blend_117
theorem dX11_blend_120 : decode cX11_blend 120 = .ok (.istore 6, 2) := oc_54 shX11_blend_120
theorem dX11_blend_56 : decode cX11_blend 56 = .ok (.aload_n 3, 1) := oc_45 shX11_blend_56
theorem dX11_blend_57 : decode cX11_blend 57 = .ok (.getfield 342, 3) := oc_180 shX11_blend_57
theorem dX11_blend_60 : decode cX11_blend 60 = .ok (.iload 5, 2) := oc_21 shX11_blend_60
theorem dX11_blend_62 : decode cX11_blend 62 = .ok (.if_icmp .gt 21, 3) := oc_163 shX11_blend_62 sgw_0_21
theorem dX11_blend_65 : decode cX11_blend 65 = .ok (.aload_n 3, 1) := oc_45 shX11_blend_65
theorem dX11_blend_66 : decode cX11_blend 66 = .ok (.getfield 342, 3) := oc_180 shX11_blend_66
theorem dX11_blend_69 : decode cX11_blend 69 = .ok (.iload 5, 2) := oc_21 shX11_blend_69
theorem dX11_blend_71 : decode cX11_blend 71 = .ok (.if_icmp .ne 16, 3) := oc_160 shX11_blend_71 sgw_0_16
theorem dX11_blend_87 : decode cX11_blend 87 = .ok (.iconst 0, 1) := oc_3 shX11_blend_87
theorem dX11_blend_74 : decode cX11_blend 74 = .ok (.aload_n 3, 1) := oc_45 shX11_blend_74
theorem dX11_blend_75 : decode cX11_blend 75 = .ok (.getfield 347, 3) := oc_180 shX11_blend_75
theorem dX11_blend_78 : decode cX11_blend 78 = .ok (.iload 6, 2) := oc_21 shX11_blend_78
theorem dX11_blend_80 : decode cX11_blend 80 = .ok (.if_icmp .ge 7, 3) := oc_162 shX11_blend_80 sgw_0_7
set_option maxRecDepth 100000 in
set_option maxHeartbeats 4000000 in
theorem q_l_has (l : Launch) (D : va_G) (cI cB cZ : ClassId) (bo w : Nat) (x1 x2 x3 x4 x5 x6 x7 : Int32) (v0 : Int32) : Met l yX0_has (CWS yX0_has cX0_has 2 (some .boolean)) (RM 0 0 0) (PBr [.ref bo, .int v0] D cI cB cZ [(bo, .inr (1, [.ref w, .int x1, .int x2, .int x3, .int x4, .int x5, .int x6, .int x7]))]) (vp_Si (fun r => (r = 1 ∧ ¬ (x4 >>> (v0 &&& 31)) &&& 1 = 0) ∨ (r = 0 ∧ (x4 >>> (v0 &&& 31)) &&& 1 = 0))) 0 0 (fun _ => False) := by
  refine en_r rfl pn_RX0 (Nat.le_of_ble_eq_true rfl) (fun p e s m below meth c hx hb hml hown S hr hlocks hnm hP hK hS ls hl => ?_)
  have hP : va_P D vwCl [(bo, .inr (1, [.ref w, .int x1, .int x2, .int x3, .int x4, .int x5, .int x6, .int x7]))] s.heap := hP
  have hl : lv_has ls 2 [(0, .ref bo), (1, .int v0)] := hl
  refine lv_aload_n hx hb dX0_has_0 rfl (lvA0 hl) ?_
  refine gf_RX0_13 S hK hP 0 rfl (v := .int x4) rfl dX0_has_1 ?_
  refine lv_iload_n hx hb dX0_has_4 rfl (lvA1 hl) ?_
  refine lv_ishr hx hb dX0_has_5 ?_
  refine lv_iconst (v := 1) hx hb dX0_has_6 kic_1 ?_
  refine lv_iand hx hb dX0_has_7 ?_
  refine lv_if_eq (tgt := 15) hx hb dX0_has_8 rfl (fun c_1 => ?_) (fun c_1 => ?_)
  ·
    have tc_1 : (((x4 >>> (v0 &&& 31)) &&& 1).toInt : Int) = 0 := congrArg Int32.toInt c_1
    refine lv_iconst (v := 0) hx hb dX0_has_15 kic_0 ?_
    exact W.zret (v := 0) hx hb hr rfl (fun t ht hW => ⟨0, rfl, (Or.inr ⟨rfl, by assumption⟩), ht⟩) (fun _ h => absurd h List.not_mem_nil) dX0_has_16
  ·
    have tc_1 : (((x4 >>> (v0 &&& 31)) &&& 1).toInt : Int) ≠ 0 := fun q => c_1 (Int32.toInt_inj.mp q)
    refine lv_iconst (v := 1) hx hb dX0_has_11 kic_1 ?_
    refine lv_goto (tgt := 16) hx hb dX0_has_12 rfl ?_
    exact W.zret (v := 1) hx hb hr rfl (fun t ht hW => ⟨1, rfl, (Or.inl ⟨rfl, by assumption⟩), ht⟩) (fun _ h => absurd h List.not_mem_nil) dX0_has_16
set_option maxRecDepth 100000 in
set_option maxHeartbeats 4000000 in
theorem q_l_water (l : Launch) (D : va_G) (cI cB cZ : ClassId) (bo w : Nat) (x1 x2 x3 x4 x5 x6 x7 : Int32) : Met l yX0_water (CWS yX0_water cX0_water 1 (some .int)) (RM 0 0 0) (PBr [.ref bo] D cI cB cZ [(bo, .inr (1, [.ref w, .int x1, .int x2, .int x3, .int x4, .int x5, .int x6, .int x7]))]) (vp_Si (fun r => r = if x6 = 0 then 0 else x1 / x6)) 0 0 (fun _ => False) := by
  refine en_r rfl pn_RX0 (Nat.le_of_ble_eq_true rfl) (fun p e s m below meth c hx hb hml hown S hr hlocks hnm hP hK hS ls hl => ?_)
  have hP : va_P D vwCl [(bo, .inr (1, [.ref w, .int x1, .int x2, .int x3, .int x4, .int x5, .int x6, .int x7]))] s.heap := hP
  have hl : lv_has ls 1 [(0, .ref bo)] := hl
  refine lv_aload_n hx hb dX0_water_0 rfl (lvA0 hl) ?_
  refine gf_RX0_24 S hK hP 0 rfl (v := .int x6) rfl dX0_water_1 ?_
  refine lv_if_ne (tgt := 11) hx hb dX0_water_4 rfl (fun c_1 => ?_) (fun c_1 => ?_)
  ·
    have tc_1 : (x6.toInt : Int) ≠ 0 := fun q => c_1 (Int32.toInt_inj.mp q)
    refine lv_aload_n hx hb dX0_water_11 rfl (lvA0 hl) ?_
    refine gf_RX0_30 S hK hP 0 rfl (v := .int x1) rfl dX0_water_12 ?_
    refine lv_aload_n hx hb dX0_water_15 rfl (lvA0 hl) ?_
    refine gf_RX0_24 S hK hP 0 rfl (v := .int x6) rfl dX0_water_16 ?_
    refine lv_idiv hx hb dX0_water_19 (by assumption) ?_
    exact W.iret (v := (x1 / x6)) hx hb hr (fun t ht hW => ⟨(x1 / x6), rfl, (if_neg (by assumption)).symm, ht⟩) (fun _ h => absurd h List.not_mem_nil) dX0_water_20
  ·
    have tc_1 : (x6.toInt : Int) = 0 := congrArg Int32.toInt c_1
    refine lv_iconst (v := 0) hx hb dX0_water_7 kic_0 ?_
    refine lv_goto (tgt := 20) hx hb dX0_water_8 rfl ?_
    exact W.iret (v := 0) hx hb hr (fun t ht hW => ⟨0, rfl, (if_pos (by assumption)).symm, ht⟩) (fun _ h => absurd h List.not_mem_nil) dX0_water_20
set_option maxRecDepth 100000 in
set_option maxHeartbeats 4000000 in
theorem q_l_acid (l : Launch) (D : va_G) (cI cB cZ : ClassId) (bo w : Nat) (x1 x2 x3 x4 x5 x6 x7 : Int32) : Met l yX0_acid (CWS yX0_acid cX0_acid 1 (some .int)) (RM 0 0 0) (PBr [.ref bo] D cI cB cZ [(bo, .inr (1, [.ref w, .int x1, .int x2, .int x3, .int x4, .int x5, .int x6, .int x7]))]) (vp_Si (fun r => r = if x6 = 0 then 0 else x2 / x6)) 0 0 (fun _ => False) := by
  refine en_r rfl pn_RX0 (Nat.le_of_ble_eq_true rfl) (fun p e s m below meth c hx hb hml hown S hr hlocks hnm hP hK hS ls hl => ?_)
  have hP : va_P D vwCl [(bo, .inr (1, [.ref w, .int x1, .int x2, .int x3, .int x4, .int x5, .int x6, .int x7]))] s.heap := hP
  have hl : lv_has ls 1 [(0, .ref bo)] := hl
  refine lv_aload_n hx hb dX0_acid_0 rfl (lvA0 hl) ?_
  refine gf_RX0_24 S hK hP 0 rfl (v := .int x6) rfl dX0_acid_1 ?_
  refine lv_if_ne (tgt := 11) hx hb dX0_acid_4 rfl (fun c_1 => ?_) (fun c_1 => ?_)
  ·
    have tc_1 : (x6.toInt : Int) ≠ 0 := fun q => c_1 (Int32.toInt_inj.mp q)
    refine lv_aload_n hx hb dX0_acid_11 rfl (lvA0 hl) ?_
    refine gf_RX0_36 S hK hP 0 rfl (v := .int x2) rfl dX0_acid_12 ?_
    refine lv_aload_n hx hb dX0_acid_15 rfl (lvA0 hl) ?_
    refine gf_RX0_24 S hK hP 0 rfl (v := .int x6) rfl dX0_acid_16 ?_
    refine lv_idiv hx hb dX0_acid_19 (by assumption) ?_
    exact W.iret (v := (x2 / x6)) hx hb hr (fun t ht hW => ⟨(x2 / x6), rfl, (if_neg (by assumption)).symm, ht⟩) (fun _ h => absurd h List.not_mem_nil) dX0_acid_20
  ·
    have tc_1 : (x6.toInt : Int) = 0 := congrArg Int32.toInt c_1
    refine lv_iconst (v := 0) hx hb dX0_acid_7 kic_0 ?_
    refine lv_goto (tgt := 20) hx hb dX0_acid_8 rfl ?_
    exact W.iret (v := 0) hx hb hr (fun t ht hW => ⟨0, rfl, (if_pos (by assumption)).symm, ht⟩) (fun _ h => absurd h List.not_mem_nil) dX0_acid_20
set_option maxRecDepth 100000 in
set_option maxHeartbeats 4000000 in
theorem q_Eflip (l : Launch) (D : va_G) (cI cB cZ : ClassId) (zz qq vv : Nat) (bt : Nat → Int32) (g : Nat → Nat) (ad : Nat → Nat → Nat) (cn : Nat → Nat) (In : Nat → Int32) (Fn : Nat → Nat → Int32) (bo w : Nat) (x1 x2 x3 x4 x5 x6 x7 : Int32) (v0 : Int32) (k0 : Nat) (ws : va_W) (sz : Nat) (hB : CBX cn) (hk : k0 < cn 11) : Met l yX0_flip (CWS yX0_flip cX0_flip 4 none) (RM 1 0 0) (PBx [.ref bo, .int v0, .ref (ad 11 k0)] D cI cB cZ zz qq vv bt ((wX cI (D.1 99) zz g ad cn In Fn) ++ (([(bo, .inr (1, [.ref w, .int x1, .int x2, .int x3, .int x4, .int x5, .int x6, .int x7]))] : va_W) ++ ws)) sz) (va_Qv (fun (u : (Nat → Nat → Nat) × (Nat → Nat) × (Nat → Int32) × (Nat → Nat → Int32) × va_W) => (fun a2 c2 I2 F2 W2 => ad = a2 ∧ cn = c2 ∧ In = I2 ∧ Fn = F2 ∧ ∃ sg : Int32, ((sg = -1 ∧ ¬ (x4 >>> (v0 &&& 31)) &&& 1 = 0) ∨ (sg = 1 ∧ (x4 >>> (v0 &&& 31)) &&& 1 = 0)) ∧ W2 = (([(bo, .inr (1, [.ref w, .int (x1 + sg * (Fn 122 k0) * (Fn 123 k0)), .int (x2 + sg * (Fn 122 k0) * (Fn 124 k0)), .int x3, .int (x4 ^^^ 1 <<< (v0 &&& 31)), .int (x5 + sg), .int (x6 + sg * (Fn 122 k0)), .int x7]))] : va_W) ++ ws)) u.1 u.2.1 u.2.2.1 u.2.2.2.1 u.2.2.2.2) (fun (u : (Nat → Nat → Nat) × (Nat → Nat) × (Nat → Int32) × (Nat → Nat → Int32) × va_W) (t : State) => va_P D vwCl (wX cI (D.1 99) zz g u.1 u.2.1 u.2.2.1 u.2.2.2.1 ++ u.2.2.2.2) t.heap ∧ va_D (va_A ((wX cI (D.1 99) zz g ad cn In Fn) ++ (([(bo, .inr (1, [.ref w, .int x1, .int x2, .int x3, .int x4, .int x5, .int x6, .int x7]))] : va_W) ++ ws)) sz) (wX cI (D.1 99) zz g u.1 u.2.1 u.2.2.1 u.2.2.2.1 ++ u.2.2.2.2)) (va_A ((wX cI (D.1 99) zz g ad cn In Fn) ++ (([(bo, .inr (1, [.ref w, .int x1, .int x2, .int x3, .int x4, .int x5, .int x6, .int x7]))] : va_W) ++ ws)) sz)) 0 0 (va_A ((wX cI (D.1 99) zz g ad cn In Fn) ++ (([(bo, .inr (1, [.ref w, .int x1, .int x2, .int x3, .int x4, .int x5, .int x6, .int x7]))] : va_W) ++ ws)) sz) := by
  refine en_x (fun A => (va_Qv (fun (u : (Nat → Nat → Nat) × (Nat → Nat) × (Nat → Int32) × (Nat → Nat → Int32) × va_W) => (fun (a2 : Nat → Nat → Nat) (c2 : Nat → Nat) (I2 : Nat → Int32) (F2 : Nat → Nat → Int32) (W2 : va_W) => ad = a2 ∧ cn = c2 ∧ In = I2 ∧ Fn = F2 ∧ ∃ sg : Int32, ((sg = -1 ∧ ¬ (x4 >>> (v0 &&& 31)) &&& 1 = 0) ∨ (sg = 1 ∧ (x4 >>> (v0 &&& 31)) &&& 1 = 0)) ∧ W2 = (([(bo, .inr (1, [.ref w, .int (x1 + sg * (Fn 122 k0) * (Fn 123 k0)), .int (x2 + sg * (Fn 122 k0) * (Fn 124 k0)), .int x3, .int (x4 ^^^ 1 <<< (v0 &&& 31)), .int (x5 + sg), .int (x6 + sg * (Fn 122 k0)), .int x7]))] : va_W) ++ ws)) u.1 u.2.1 u.2.2.1 u.2.2.2.1 u.2.2.2.2) (fun (u : (Nat → Nat → Nat) × (Nat → Nat) × (Nat → Int32) × (Nat → Nat → Int32) × va_W) (t : State) => va_P D vwCl (wX cI (D.1 99) zz g u.1 u.2.1 u.2.2.1 u.2.2.2.1 ++ u.2.2.2.2) t.heap ∧ va_D A (wX cI (D.1 99) zz g u.1 u.2.1 u.2.2.1 u.2.2.2.1 ++ u.2.2.2.2)) A)) rfl rfl pn_RX0 (Nat.le_of_ble_eq_true rfl) (fun p e s m below meth c A hx hb hml hown S hr hlocks hnm hA hP hK hD hXS hS ls hl => ?_)
  have hl : lv_has ls 4 [(0, .ref bo), (1, .int v0), (2, .ref (ad 11 k0))] := hl
  refine lv_aload_n hx hb dX0_flip_0 rfl (lvA0 hl) ?_
  refine lv_iload_n hx hb dX0_flip_1 rfl (lvA1 hl) ?_
  refine vp_callSi (runV_r (As := [.int v0]) (rest := []) S (q_l_has l D cI cB cZ bo w x1 x2 x3 x4 x5 x6 x7 v0) kV_RX0_17 hK hP _ (one_is (exr (m := 0) rfl)) _ (exr (m := 0) rfl) rfl rfl ⟨Nat.le_of_ble_eq_true rfl, Nat.le_of_ble_eq_true rfl⟩ ⟨Nat.le_of_ble_eq_true rfl, Nat.le_of_ble_eq_true rfl⟩ rfl hl.1 rfl (Nat.le_of_ble_eq_true rfl) dX0_flip_2) (fun r_1 h_2 => ?_)
  rcases h_2 with ⟨rfl, h_2⟩ | ⟨rfl, h_2⟩
  ·
    refine lv_if_eq (tgt := 12) hx hb dX0_flip_5 rfl (fun h => absurd h cq_eq_1_0) (fun _ => ?_)
    refine lv_iconst (v := (-1)) hx hb dX0_flip_8 kic_m1 ?_
    refine lv_goto (tgt := 13) hx hb dX0_flip_9 rfl ?_
    refine lv_istore_n (lv' := [(3, .int (-1)), (0, .ref bo), (1, .int v0), (2, .ref (ad 11 k0))]) hx hb dX0_flip_13 rfl hl (ltb rfl) rfl (fun ls hl => ?_)
    refine lv_aload_n hx hb dX0_flip_14 rfl (lvA1 hl) ?_
    refine lv_dup hx hb dX0_flip_15 rfl ?_
    refine gf_RX0_13 S hK hP _ (exr (m := 0) rfl) (v := .int x4) rfl dX0_flip_16 ?_
    refine lv_iconst (v := 1) hx hb dX0_flip_19 kic_1 ?_
    refine lv_iload_n hx hb dX0_flip_20 rfl (lvA2 hl) ?_
    refine lv_ishl hx hb dX0_flip_21 ?_
    refine lv_ixor hx hb dX0_flip_22 ?_
    refine pf_RX0_13 S hK hP hD hS _ (exr (m := 0) rfl) (v := .int (x4 ^^^ (1 <<< (v0 &&& 31)))) (Nat.le_of_ble_eq_true rfl) rfl rfl dX0_flip_23 (fun H locs hP hD hS => ?_)
    have hP : va_P D vwCl ((wX cI (D.1 99) zz g ad cn In Fn) ++ (([(bo, .inr (1, [.ref w, .int x1, .int x2, .int x3, .int (x4 ^^^ (1 <<< (v0 &&& 31))), .int x5, .int x6, .int x7]))] : va_W) ++ ws)) H := va_P_eq (exs_r rfl) hP
    have hD : va_D A ((wX cI (D.1 99) zz g ad cn In Fn) ++ (([(bo, .inr (1, [.ref w, .int x1, .int x2, .int x3, .int (x4 ^^^ (1 <<< (v0 &&& 31))), .int x5, .int x6, .int x7]))] : va_W) ++ ws)) := va_D_eq (exs_r rfl) hD
    refine lv_aload_n hx hb dX0_flip_26 rfl (lvA1 hl) ?_
    refine lv_dup hx hb dX0_flip_27 rfl ?_
    refine gf_RX0_21 S hK hP _ (exr (m := 0) rfl) (v := .int x5) rfl dX0_flip_28 ?_
    refine lv_iload_n hx hb dX0_flip_31 rfl (lvA0 hl) ?_
    refine lv_iadd hx hb dX0_flip_32 ?_
    refine pf_RX0_21 S hK hP hD hS _ (exr (m := 0) rfl) (v := .int (x5 + (-1))) (Nat.le_of_ble_eq_true rfl) rfl rfl dX0_flip_33 (fun H locs hP hD hS => ?_)
    have hP : va_P D vwCl ((wX cI (D.1 99) zz g ad cn In Fn) ++ (([(bo, .inr (1, [.ref w, .int x1, .int x2, .int x3, .int (x4 ^^^ (1 <<< (v0 &&& 31))), .int (x5 + (-1)), .int x6, .int x7]))] : va_W) ++ ws)) H := va_P_eq (exs_r rfl) hP
    have hD : va_D A ((wX cI (D.1 99) zz g ad cn In Fn) ++ (([(bo, .inr (1, [.ref w, .int x1, .int x2, .int x3, .int (x4 ^^^ (1 <<< (v0 &&& 31))), .int (x5 + (-1)), .int x6, .int x7]))] : va_W) ++ ws)) := va_D_eq (exs_r rfl) hD
    refine lv_aload_n hx hb dX0_flip_36 rfl (lvA1 hl) ?_
    refine lv_dup hx hb dX0_flip_37 rfl ?_
    refine gf_RX0_24 S hK hP _ (exr (m := 0) rfl) (v := .int x6) rfl dX0_flip_38 ?_
    refine lv_iload_n hx hb dX0_flip_41 rfl (lvA0 hl) ?_
    refine lv_aload_n hx hb dX0_flip_42 rfl (lvA3 hl) ?_
    refine gf_RX0_27 S hK hP _ (exl (xf_1 (by omega))) (v := .int ((Fn 122) k0)) rfl dX0_flip_43 ?_
    refine lv_imul hx hb dX0_flip_46 ?_
    refine lv_iadd hx hb dX0_flip_47 ?_
    refine pf_RX0_24 S hK hP hD hS _ (exr (m := 0) rfl) (v := .int (x6 + ((-1) * ((Fn 122) k0)))) (Nat.le_of_ble_eq_true rfl) rfl rfl dX0_flip_48 (fun H locs hP hD hS => ?_)
    have hP : va_P D vwCl ((wX cI (D.1 99) zz g ad cn In Fn) ++ (([(bo, .inr (1, [.ref w, .int x1, .int x2, .int x3, .int (x4 ^^^ (1 <<< (v0 &&& 31))), .int (x5 + (-1)), .int (x6 + ((-1) * ((Fn 122) k0))), .int x7]))] : va_W) ++ ws)) H := va_P_eq (exs_r rfl) hP
    have hD : va_D A ((wX cI (D.1 99) zz g ad cn In Fn) ++ (([(bo, .inr (1, [.ref w, .int x1, .int x2, .int x3, .int (x4 ^^^ (1 <<< (v0 &&& 31))), .int (x5 + (-1)), .int (x6 + ((-1) * ((Fn 122) k0))), .int x7]))] : va_W) ++ ws)) := va_D_eq (exs_r rfl) hD
    refine lv_aload_n hx hb dX0_flip_51 rfl (lvA1 hl) ?_
    refine lv_dup hx hb dX0_flip_52 rfl ?_
    refine gf_RX0_30 S hK hP _ (exr (m := 0) rfl) (v := .int x1) rfl dX0_flip_53 ?_
    refine lv_iload_n hx hb dX0_flip_56 rfl (lvA0 hl) ?_
    refine lv_aload_n hx hb dX0_flip_57 rfl (lvA3 hl) ?_
    refine gf_RX0_27 S hK hP _ (exl (xf_1 (by omega))) (v := .int ((Fn 122) k0)) rfl dX0_flip_58 ?_
    refine lv_imul hx hb dX0_flip_61 ?_
    refine lv_aload_n hx hb dX0_flip_62 rfl (lvA3 hl) ?_
    refine gf_RX0_33 S hK hP _ (exl (xf_1 (by omega))) (v := .int ((Fn 123) k0)) rfl dX0_flip_63 ?_
    refine lv_imul hx hb dX0_flip_66 ?_
    refine lv_iadd hx hb dX0_flip_67 ?_
    refine pf_RX0_30 S hK hP hD hS _ (exr (m := 0) rfl) (v := .int (x1 + (((-1) * ((Fn 122) k0)) * ((Fn 123) k0)))) (Nat.le_of_ble_eq_true rfl) rfl rfl dX0_flip_68 (fun H locs hP hD hS => ?_)
    have hP : va_P D vwCl ((wX cI (D.1 99) zz g ad cn In Fn) ++ (([(bo, .inr (1, [.ref w, .int (x1 + (((-1) * ((Fn 122) k0)) * ((Fn 123) k0))), .int x2, .int x3, .int (x4 ^^^ (1 <<< (v0 &&& 31))), .int (x5 + (-1)), .int (x6 + ((-1) * ((Fn 122) k0))), .int x7]))] : va_W) ++ ws)) H := va_P_eq (exs_r rfl) hP
    have hD : va_D A ((wX cI (D.1 99) zz g ad cn In Fn) ++ (([(bo, .inr (1, [.ref w, .int (x1 + (((-1) * ((Fn 122) k0)) * ((Fn 123) k0))), .int x2, .int x3, .int (x4 ^^^ (1 <<< (v0 &&& 31))), .int (x5 + (-1)), .int (x6 + ((-1) * ((Fn 122) k0))), .int x7]))] : va_W) ++ ws)) := va_D_eq (exs_r rfl) hD
    refine lv_aload_n hx hb dX0_flip_71 rfl (lvA1 hl) ?_
    refine lv_dup hx hb dX0_flip_72 rfl ?_
    refine gf_RX0_36 S hK hP _ (exr (m := 0) rfl) (v := .int x2) rfl dX0_flip_73 ?_
    refine lv_iload_n hx hb dX0_flip_76 rfl (lvA0 hl) ?_
    refine lv_aload_n hx hb dX0_flip_77 rfl (lvA3 hl) ?_
    refine gf_RX0_27 S hK hP _ (exl (xf_1 (by omega))) (v := .int ((Fn 122) k0)) rfl dX0_flip_78 ?_
    refine lv_imul hx hb dX0_flip_81 ?_
    refine lv_aload_n hx hb dX0_flip_82 rfl (lvA3 hl) ?_
    refine gf_RX0_39 S hK hP _ (exl (xf_1 (by omega))) (v := .int ((Fn 124) k0)) rfl dX0_flip_83 ?_
    refine lv_imul hx hb dX0_flip_86 ?_
    refine lv_iadd hx hb dX0_flip_87 ?_
    refine pf_RX0_36 S hK hP hD hS _ (exr (m := 0) rfl) (v := .int (x2 + (((-1) * ((Fn 122) k0)) * ((Fn 124) k0)))) (Nat.le_of_ble_eq_true rfl) rfl rfl dX0_flip_88 (fun H locs hP hD hS => ?_)
    have hP : va_P D vwCl ((wX cI (D.1 99) zz g ad cn In Fn) ++ (([(bo, .inr (1, [.ref w, .int (x1 + (((-1) * ((Fn 122) k0)) * ((Fn 123) k0))), .int (x2 + (((-1) * ((Fn 122) k0)) * ((Fn 124) k0))), .int x3, .int (x4 ^^^ (1 <<< (v0 &&& 31))), .int (x5 + (-1)), .int (x6 + ((-1) * ((Fn 122) k0))), .int x7]))] : va_W) ++ ws)) H := va_P_eq (exs_r rfl) hP
    have hD : va_D A ((wX cI (D.1 99) zz g ad cn In Fn) ++ (([(bo, .inr (1, [.ref w, .int (x1 + (((-1) * ((Fn 122) k0)) * ((Fn 123) k0))), .int (x2 + (((-1) * ((Fn 122) k0)) * ((Fn 124) k0))), .int x3, .int (x4 ^^^ (1 <<< (v0 &&& 31))), .int (x5 + (-1)), .int (x6 + ((-1) * ((Fn 122) k0))), .int x7]))] : va_W) ++ ws)) := va_D_eq (exs_r rfl) hD
    exact W.vret hx hb hr (fun t ht hW => ⟨⟨(ad, cn, In, Fn, (([(bo, .inr (1, [.ref w, .int (x1 + (((-1) * ((Fn 122) k0)) * ((Fn 123) k0))), .int (x2 + (((-1) * ((Fn 122) k0)) * ((Fn 124) k0))), .int x3, .int (x4 ^^^ (1 <<< (v0 &&& 31))), .int (x5 + (-1)), .int (x6 + ((-1) * ((Fn 122) k0))), .int x7]))] : va_W) ++ ws)), rfl, ⟨rfl, rfl, rfl, rfl, (-1), Or.inl ⟨rfl, h_2⟩, rfl⟩, by rw [ht]; exact hP, hD⟩, hS.F ht⟩) hS.2.2 dX0_flip_91
  ·
    refine lv_if_eq (tgt := 12) hx hb dX0_flip_5 rfl (fun _ => ?_) (fun h => absurd h cq_eq_0_0)
    refine lv_iconst (v := 1) hx hb dX0_flip_12 kic_1 ?_
    refine lv_istore_n (lv' := [(3, .int 1), (0, .ref bo), (1, .int v0), (2, .ref (ad 11 k0))]) hx hb dX0_flip_13 rfl hl (ltb rfl) rfl (fun ls hl => ?_)
    refine lv_aload_n hx hb dX0_flip_14 rfl (lvA1 hl) ?_
    refine lv_dup hx hb dX0_flip_15 rfl ?_
    refine gf_RX0_13 S hK hP _ (exr (m := 0) rfl) (v := .int x4) rfl dX0_flip_16 ?_
    refine lv_iconst (v := 1) hx hb dX0_flip_19 kic_1 ?_
    refine lv_iload_n hx hb dX0_flip_20 rfl (lvA2 hl) ?_
    refine lv_ishl hx hb dX0_flip_21 ?_
    refine lv_ixor hx hb dX0_flip_22 ?_
    refine pf_RX0_13 S hK hP hD hS _ (exr (m := 0) rfl) (v := .int (x4 ^^^ (1 <<< (v0 &&& 31)))) (Nat.le_of_ble_eq_true rfl) rfl rfl dX0_flip_23 (fun H locs hP hD hS => ?_)
    have hP : va_P D vwCl ((wX cI (D.1 99) zz g ad cn In Fn) ++ (([(bo, .inr (1, [.ref w, .int x1, .int x2, .int x3, .int (x4 ^^^ (1 <<< (v0 &&& 31))), .int x5, .int x6, .int x7]))] : va_W) ++ ws)) H := va_P_eq (exs_r rfl) hP
    have hD : va_D A ((wX cI (D.1 99) zz g ad cn In Fn) ++ (([(bo, .inr (1, [.ref w, .int x1, .int x2, .int x3, .int (x4 ^^^ (1 <<< (v0 &&& 31))), .int x5, .int x6, .int x7]))] : va_W) ++ ws)) := va_D_eq (exs_r rfl) hD
    refine lv_aload_n hx hb dX0_flip_26 rfl (lvA1 hl) ?_
    refine lv_dup hx hb dX0_flip_27 rfl ?_
    refine gf_RX0_21 S hK hP _ (exr (m := 0) rfl) (v := .int x5) rfl dX0_flip_28 ?_
    refine lv_iload_n hx hb dX0_flip_31 rfl (lvA0 hl) ?_
    refine lv_iadd hx hb dX0_flip_32 ?_
    refine pf_RX0_21 S hK hP hD hS _ (exr (m := 0) rfl) (v := .int (x5 + 1)) (Nat.le_of_ble_eq_true rfl) rfl rfl dX0_flip_33 (fun H locs hP hD hS => ?_)
    have hP : va_P D vwCl ((wX cI (D.1 99) zz g ad cn In Fn) ++ (([(bo, .inr (1, [.ref w, .int x1, .int x2, .int x3, .int (x4 ^^^ (1 <<< (v0 &&& 31))), .int (x5 + 1), .int x6, .int x7]))] : va_W) ++ ws)) H := va_P_eq (exs_r rfl) hP
    have hD : va_D A ((wX cI (D.1 99) zz g ad cn In Fn) ++ (([(bo, .inr (1, [.ref w, .int x1, .int x2, .int x3, .int (x4 ^^^ (1 <<< (v0 &&& 31))), .int (x5 + 1), .int x6, .int x7]))] : va_W) ++ ws)) := va_D_eq (exs_r rfl) hD
    refine lv_aload_n hx hb dX0_flip_36 rfl (lvA1 hl) ?_
    refine lv_dup hx hb dX0_flip_37 rfl ?_
    refine gf_RX0_24 S hK hP _ (exr (m := 0) rfl) (v := .int x6) rfl dX0_flip_38 ?_
    refine lv_iload_n hx hb dX0_flip_41 rfl (lvA0 hl) ?_
    refine lv_aload_n hx hb dX0_flip_42 rfl (lvA3 hl) ?_
    refine gf_RX0_27 S hK hP _ (exl (xf_1 (by omega))) (v := .int ((Fn 122) k0)) rfl dX0_flip_43 ?_
    refine lv_imul hx hb dX0_flip_46 ?_
    refine lv_iadd hx hb dX0_flip_47 ?_
    refine pf_RX0_24 S hK hP hD hS _ (exr (m := 0) rfl) (v := .int (x6 + (1 * ((Fn 122) k0)))) (Nat.le_of_ble_eq_true rfl) rfl rfl dX0_flip_48 (fun H locs hP hD hS => ?_)
    have hP : va_P D vwCl ((wX cI (D.1 99) zz g ad cn In Fn) ++ (([(bo, .inr (1, [.ref w, .int x1, .int x2, .int x3, .int (x4 ^^^ (1 <<< (v0 &&& 31))), .int (x5 + 1), .int (x6 + (1 * ((Fn 122) k0))), .int x7]))] : va_W) ++ ws)) H := va_P_eq (exs_r rfl) hP
    have hD : va_D A ((wX cI (D.1 99) zz g ad cn In Fn) ++ (([(bo, .inr (1, [.ref w, .int x1, .int x2, .int x3, .int (x4 ^^^ (1 <<< (v0 &&& 31))), .int (x5 + 1), .int (x6 + (1 * ((Fn 122) k0))), .int x7]))] : va_W) ++ ws)) := va_D_eq (exs_r rfl) hD
    refine lv_aload_n hx hb dX0_flip_51 rfl (lvA1 hl) ?_
    refine lv_dup hx hb dX0_flip_52 rfl ?_
    refine gf_RX0_30 S hK hP _ (exr (m := 0) rfl) (v := .int x1) rfl dX0_flip_53 ?_
    refine lv_iload_n hx hb dX0_flip_56 rfl (lvA0 hl) ?_
    refine lv_aload_n hx hb dX0_flip_57 rfl (lvA3 hl) ?_
    refine gf_RX0_27 S hK hP _ (exl (xf_1 (by omega))) (v := .int ((Fn 122) k0)) rfl dX0_flip_58 ?_
    refine lv_imul hx hb dX0_flip_61 ?_
    refine lv_aload_n hx hb dX0_flip_62 rfl (lvA3 hl) ?_
    refine gf_RX0_33 S hK hP _ (exl (xf_1 (by omega))) (v := .int ((Fn 123) k0)) rfl dX0_flip_63 ?_
    refine lv_imul hx hb dX0_flip_66 ?_
    refine lv_iadd hx hb dX0_flip_67 ?_
    refine pf_RX0_30 S hK hP hD hS _ (exr (m := 0) rfl) (v := .int (x1 + ((1 * ((Fn 122) k0)) * ((Fn 123) k0)))) (Nat.le_of_ble_eq_true rfl) rfl rfl dX0_flip_68 (fun H locs hP hD hS => ?_)
    have hP : va_P D vwCl ((wX cI (D.1 99) zz g ad cn In Fn) ++ (([(bo, .inr (1, [.ref w, .int (x1 + ((1 * ((Fn 122) k0)) * ((Fn 123) k0))), .int x2, .int x3, .int (x4 ^^^ (1 <<< (v0 &&& 31))), .int (x5 + 1), .int (x6 + (1 * ((Fn 122) k0))), .int x7]))] : va_W) ++ ws)) H := va_P_eq (exs_r rfl) hP
    have hD : va_D A ((wX cI (D.1 99) zz g ad cn In Fn) ++ (([(bo, .inr (1, [.ref w, .int (x1 + ((1 * ((Fn 122) k0)) * ((Fn 123) k0))), .int x2, .int x3, .int (x4 ^^^ (1 <<< (v0 &&& 31))), .int (x5 + 1), .int (x6 + (1 * ((Fn 122) k0))), .int x7]))] : va_W) ++ ws)) := va_D_eq (exs_r rfl) hD
    refine lv_aload_n hx hb dX0_flip_71 rfl (lvA1 hl) ?_
    refine lv_dup hx hb dX0_flip_72 rfl ?_
    refine gf_RX0_36 S hK hP _ (exr (m := 0) rfl) (v := .int x2) rfl dX0_flip_73 ?_
    refine lv_iload_n hx hb dX0_flip_76 rfl (lvA0 hl) ?_
    refine lv_aload_n hx hb dX0_flip_77 rfl (lvA3 hl) ?_
    refine gf_RX0_27 S hK hP _ (exl (xf_1 (by omega))) (v := .int ((Fn 122) k0)) rfl dX0_flip_78 ?_
    refine lv_imul hx hb dX0_flip_81 ?_
    refine lv_aload_n hx hb dX0_flip_82 rfl (lvA3 hl) ?_
    refine gf_RX0_39 S hK hP _ (exl (xf_1 (by omega))) (v := .int ((Fn 124) k0)) rfl dX0_flip_83 ?_
    refine lv_imul hx hb dX0_flip_86 ?_
    refine lv_iadd hx hb dX0_flip_87 ?_
    refine pf_RX0_36 S hK hP hD hS _ (exr (m := 0) rfl) (v := .int (x2 + ((1 * ((Fn 122) k0)) * ((Fn 124) k0)))) (Nat.le_of_ble_eq_true rfl) rfl rfl dX0_flip_88 (fun H locs hP hD hS => ?_)
    have hP : va_P D vwCl ((wX cI (D.1 99) zz g ad cn In Fn) ++ (([(bo, .inr (1, [.ref w, .int (x1 + ((1 * ((Fn 122) k0)) * ((Fn 123) k0))), .int (x2 + ((1 * ((Fn 122) k0)) * ((Fn 124) k0))), .int x3, .int (x4 ^^^ (1 <<< (v0 &&& 31))), .int (x5 + 1), .int (x6 + (1 * ((Fn 122) k0))), .int x7]))] : va_W) ++ ws)) H := va_P_eq (exs_r rfl) hP
    have hD : va_D A ((wX cI (D.1 99) zz g ad cn In Fn) ++ (([(bo, .inr (1, [.ref w, .int (x1 + ((1 * ((Fn 122) k0)) * ((Fn 123) k0))), .int (x2 + ((1 * ((Fn 122) k0)) * ((Fn 124) k0))), .int x3, .int (x4 ^^^ (1 <<< (v0 &&& 31))), .int (x5 + 1), .int (x6 + (1 * ((Fn 122) k0))), .int x7]))] : va_W) ++ ws)) := va_D_eq (exs_r rfl) hD
    exact W.vret hx hb hr (fun t ht hW => ⟨⟨(ad, cn, In, Fn, (([(bo, .inr (1, [.ref w, .int (x1 + ((1 * ((Fn 122) k0)) * ((Fn 123) k0))), .int (x2 + ((1 * ((Fn 122) k0)) * ((Fn 124) k0))), .int x3, .int (x4 ^^^ (1 <<< (v0 &&& 31))), .int (x5 + 1), .int (x6 + (1 * ((Fn 122) k0))), .int x7]))] : va_W) ++ ws)), rfl, ⟨rfl, rfl, rfl, rfl, 1, Or.inr ⟨rfl, h_2⟩, rfl⟩, by rw [ht]; exact hP, hD⟩, hS.F ht⟩) hS.2.2 dX0_flip_91
set_option maxRecDepth 100000 in
set_option maxHeartbeats 4000000 in
theorem q_Emixed (l : Launch) (D : va_G) (cI cB cZ : ClassId) (zz qq vv : Nat) (bt : Nat → Int32) (g : Nat → Nat) (ad : Nat → Nat → Nat) (cn : Nat → Nat) (In : Nat → Int32) (Fn : Nat → Nat → Int32) (v0 : Int32) (sz : Nat) (hB : CBX cn) : Met l yX11_mixed (CWS yX11_mixed cX11_mixed 5 (some (.object "OilHome$Batch"))) (RM 4 2 20) (PBx [.ref (g 0), .int v0] D cI cB cZ zz qq vv bt (wX cI (D.1 99) zz g ad cn In Fn) sz) (va_Qq (fun (r : Option Nat) (u : (Nat → Nat → Nat) × (Nat → Nat) × (Nat → Int32) × (Nat → Nat → Int32) × va_W) => (fun r a2 c2 I2 F2 W2 => ad = a2 ∧ cn = c2 ∧ In = I2 ∧ Fn = F2 ∧ ((r = none ∧ W2 = []) ∨ ∃ (bo w : Nat) (x1 x2 x4 x5 x6 : Int32), r = some bo ∧ W2 = ([(bo, .inr (1, [.ref w, .int x1, .int x2, .int 0, .int x4, .int x5, .int x6, .int 0])), (w, .inl (cI, 12, .inl (fun _ => 0)))] : va_W))) r u.1 u.2.1 u.2.2.1 u.2.2.2.1 u.2.2.2.2) (fun (u : (Nat → Nat → Nat) × (Nat → Nat) × (Nat → Int32) × (Nat → Nat → Int32) × va_W) (t : State) => va_P D vwCl (wX cI (D.1 99) zz g u.1 u.2.1 u.2.2.1 u.2.2.2.1 ++ u.2.2.2.2) t.heap ∧ va_D (va_A (wX cI (D.1 99) zz g ad cn In Fn) sz) (wX cI (D.1 99) zz g u.1 u.2.1 u.2.2.1 u.2.2.2.1 ++ u.2.2.2.2)) (va_A (wX cI (D.1 99) zz g ad cn In Fn) sz)) 2 20 (va_A (wX cI (D.1 99) zz g ad cn In Fn) sz) := by
  refine en_x (fun A => (va_Qq (fun (r : Option Nat) (u : (Nat → Nat → Nat) × (Nat → Nat) × (Nat → Int32) × (Nat → Nat → Int32) × va_W) => (fun (r : Option Nat) (a2 : Nat → Nat → Nat) (c2 : Nat → Nat) (I2 : Nat → Int32) (F2 : Nat → Nat → Int32) (W2 : va_W) => ad = a2 ∧ cn = c2 ∧ In = I2 ∧ Fn = F2 ∧ ((r = none ∧ W2 = []) ∨ ∃ (bo w : Nat) (x1 x2 x4 x5 x6 : Int32), r = some bo ∧ W2 = ([(bo, .inr (1, [.ref w, .int x1, .int x2, .int 0, .int x4, .int x5, .int x6, .int 0])), (w, .inl (cI, 12, .inl (fun _ => 0)))] : va_W))) r u.1 u.2.1 u.2.2.1 u.2.2.2.1 u.2.2.2.2) (fun (u : (Nat → Nat → Nat) × (Nat → Nat) × (Nat → Int32) × (Nat → Nat → Int32) × va_W) (t : State) => va_P D vwCl (wX cI (D.1 99) zz g u.1 u.2.1 u.2.2.1 u.2.2.2.1 ++ u.2.2.2.2) t.heap ∧ va_D A (wX cI (D.1 99) zz g u.1 u.2.1 u.2.2.1 u.2.2.2.1 ++ u.2.2.2.2)) A)) rfl rfl pn_RX11 (Nat.le_of_ble_eq_true rfl) (fun p e s m below meth c A hx hb hml hown S hr hlocks hnm hA hP hK hD hXS hS ls hl => ?_)
  have hl : lv_has ls 5 [(0, .ref (g 0)), (1, .int v0)] := hl
  refine va_new (ci := 1) (fs := [.null, .int 0, .int 0, .int 0, .int 0, .int 0, .int 0, .int 0]) (C := RX0) (T := TX0) (N := 8) hx hb S.2.2.2.2 hin_RX0 tyX0 tyX0_ok hown (S.2.2.2.2 _ (wk4_17 7 rfl rfl)) (S.2.2.2.2 _ (wk4_17 8 rfl rfl)) (S.2.2.2.2 _ (wk1_1 11 rfl rfl)) hK.1 hP hD hS hA rfl (by decide +kernel) (Nat.le_of_ble_eq_true rfl) (Nat.le_of_ble_eq_true rfl) dX11_mixed_0 (fun q0 H hP hD hS => ?_)
  have hP : va_P D vwCl ((wX cI (D.1 99) zz g ad cn In Fn) ++ ([(q0, .inr (1, [.null, .int 0, .int 0, .int 0, .int 0, .int 0, .int 0, .int 0]))] : va_W)) H := hP
  have hD : va_D A ((wX cI (D.1 99) zz g ad cn In Fn) ++ ([(q0, .inr (1, [.null, .int 0, .int 0, .int 0, .int 0, .int 0, .int 0, .int 0]))] : va_W)) := hD
  refine lv_dup hx hb dX11_mixed_3 rfl ?_
  have hFc := va_free (wc := [(q0, .inr (1, [.null, .int 0, .int 0, .int 0, .int 0, .int 0, .int 0, .int 0]))]) hD hS hA [_] (one_im (exr (m := 0) rfl))
  refine va_callv (runIN_w (As := []) (rest := [.ref q0]) S (q_l_Batch l D cI cB cZ q0 H.size) hK.2.2.2 ⟨⟨wk4_17 10 rfl rfl, wk1_1 11 rfl rfl, wk4_17 11 rfl rfl⟩, rfl, by decide, by decide, by decide +kernel⟩ hK hP hD [_] (one_is (exr (m := 0) rfl)) (one_im (exr (m := 0) rfl)) rfl ⟨Nat.le_of_ble_eq_true rfl, Nat.le_of_ble_eq_true rfl⟩ ⟨Nat.le_of_ble_eq_true rfl, Nat.le_of_ble_eq_true rfl⟩ rfl hl.1 rfl (Nat.le_of_ble_eq_true rfl) dX11_mixed_4) hS (fun q _ h => hFc q h) hFc (fun u_1 t H1 locs ht hvm h_2 hB1 hz1 hk1 hS => ?_)
  obtain ⟨hP1, hD1⟩ := hB1
  rw [ht] at hP1
  obtain ⟨hP, hD⟩ := exjoin hP hD hk1 hFc hP1 hD1
  generalize H1 = H at hP hS ⊢
  have hP : va_P D vwCl ((wX cI (D.1 99) zz g ad cn In Fn) ++ ([(q0, .inr (1, [.ref u_1, .int 0, .int 0, .int 0, .int 0, .int 0, .int 0, .int 0])), (u_1, .inl (cI, 12, .inl (fun _ => 0)))] : va_W)) H := hP
  have hD : va_D A ((wX cI (D.1 99) zz g ad cn In Fn) ++ ([(q0, .inr (1, [.ref u_1, .int 0, .int 0, .int 0, .int 0, .int 0, .int 0, .int 0])), (u_1, .inl (cI, 12, .inl (fun _ => 0)))] : va_W)) := hD
  refine lv_astore_n (lv' := [(2, .ref q0), (0, .ref (g 0)), (1, .int v0)]) hx hb dX11_mixed_7 rfl hl (ltb rfl) rfl (fun ls hl => ?_)
  refine lv_iconst (v := 0) hx hb dX11_mixed_8 kic_0 ?_
  refine lv_istore_n (lv' := [(3, .int 0), (2, .ref q0), (0, .ref (g 0)), (1, .int v0)]) hx hb dX11_mixed_9 rfl hl (ltb rfl) rfl (fun ls hl => ?_)
  have lp_10 : ∀ (n : Nat) (i10 : Nat) (b10_01 : Int32) (b10_02 : Int32) (b10_04 : Int32) (b10_05 : Int32) (b10_06 : Int32) (H : Heap) (locs : List Loc) , 20 - i10 < n → (i10 ≤ 20 ∧ Fr [] [] [] cn In Fn cn In Fn) → va_P D vwCl ((wX cI (D.1 99) zz g ad cn In Fn) ++ ([(q0, .inr (1, [.ref u_1, .int b10_01, .int b10_02, .int 0, .int b10_04, .int b10_05, .int b10_06, .int 0])), (u_1, .inl (cI, 12, .inl (fun _ => 0)))] : va_W)) H → va_D A ((wX cI (D.1 99) zz g ad cn In Fn) ++ ([(q0, .inr (1, [.ref u_1, .int b10_01, .int b10_02, .int 0, .int b10_04, .int b10_05, .int b10_06, .int 0])), (u_1, .inl (cI, 12, .inl (fun _ => 0)))] : va_W)) → va_S A s.heap H locs → ∀ ls : Array Slot, lv_has ls 5 [(3, .int (nI i10)), (2, .ref q0), (0, .ref (g 0)), (1, .int v0)] → W p l e (RM 4 2 20) s m ([.ref (g 0), .int v0]).toArray below meth c H locs 2 20 (MQ below (va_Qq (fun (r : Option Nat) (u : (Nat → Nat → Nat) × (Nat → Nat) × (Nat → Int32) × (Nat → Nat → Int32) × va_W) => (fun r a2 c2 I2 F2 W2 => ad = a2 ∧ cn = c2 ∧ In = I2 ∧ Fn = F2 ∧ ((r = none ∧ W2 = []) ∨ ∃ (bo w : Nat) (x1 x2 x4 x5 x6 : Int32), r = some bo ∧ W2 = ([(bo, .inr (1, [.ref w, .int x1, .int x2, .int 0, .int x4, .int x5, .int x6, .int 0])), (w, .inl (cI, 12, .inl (fun _ => 0)))] : va_W))) r u.1 u.2.1 u.2.2.1 u.2.2.2.1 u.2.2.2.2) (fun (u : (Nat → Nat → Nat) × (Nat → Nat) × (Nat → Int32) × (Nat → Nat → Int32) × va_W) (t : State) => va_P D vwCl (wX cI (D.1 99) zz g u.1 u.2.1 u.2.2.1 u.2.2.2.1 ++ u.2.2.2.2) t.heap ∧ va_D A (wX cI (D.1 99) zz g u.1 u.2.1 u.2.2.1 u.2.2.2.1 ++ u.2.2.2.2)) A) ([.ref (g 0), .int v0]).toArray s 2 20 A) (F0 m 10 ls []) := by
    intro n10
    induction n10 with
    | zero => intros; omega
    | succ n10 ih10 =>
      intro i10 b10_01 b10_02 b10_04 b10_05 b10_06  H locs hmu10 hinv10 hP hD hS ls hl
      obtain ⟨hr10, hfr10⟩ := hinv10
      have ti10 : (nI i10).toInt = (i10 : Int) := nI_toInt (by omega)
      refine lv_iload_n hx hb dX11_mixed_10 rfl (lvA0 hl) ?_
      refine lv_bipush (v := 20) hx hb dX11_mixed_11 kbc_20 ?_
      refine lv_icmp_ge (tgt := 63) hx hb dX11_mixed_13 rfl (fun c_3 => ?_) (fun c_3 => ?_)
      ·
        have tc_3 : (20 : Int) ≤ (nI i10).toInt := Int32.le_iff_toInt_le.mp c_3
        refine lv_aload_n hx hb dX11_mixed_63 rfl (lvA1 hl) ?_
        exact W.aret (v := .ref q0) hx hb hr (Or.inl ⟨_, rfl⟩) (Or.inr ⟨_, rfl⟩) (fun t ht hW => ⟨⟨some q0, (ad, cn, In, Fn, ([(q0, .inr (1, [.ref u_1, .int b10_01, .int b10_02, .int 0, .int b10_04, .int b10_05, .int b10_06, .int 0])), (u_1, .inl (cI, 12, .inl (fun _ => 0)))] : va_W)), rfl, ⟨rfl, rfl, rfl, rfl, Or.inr ⟨q0, u_1, b10_01, b10_02, b10_04, b10_05, b10_06, rfl, rfl⟩⟩, by rw [ht]; exact hP, hD⟩, hS.F ht⟩) hS.2.2 dX11_mixed_64
      ·
        have tc_3 : ((nI i10).toInt : Int) < 20 := Int32.lt_iff_toInt_lt.mp (Int32.not_le.mp c_3)
        refine lv_iload_n hx hb dX11_mixed_16 rfl (lvA3 hl) ?_
        refine lv_iload_n hx hb dX11_mixed_17 rfl (lvA0 hl) ?_
        refine lv_ishr hx hb dX11_mixed_18 ?_
        refine lv_iconst (v := 1) hx hb dX11_mixed_19 kic_1 ?_
        refine lv_iand hx hb dX11_mixed_20 ?_
        refine lv_if_ne (tgt := 27) hx hb dX11_mixed_21 rfl (fun c_4 => ?_) (fun c_4 => ?_)
        ·
          have tc_4 : (((v0 >>> ((nI i10) &&& 31)) &&& 1).toInt : Int) ≠ 0 := fun q => c_4 (Int32.toInt_inj.mp q)
          refine lv_aload_n hx hb dX11_mixed_27 rfl (lvA2 hl) ?_
          refine lv_iload_n hx hb dX11_mixed_28 rfl (lvA0 hl) ?_
          refine va_csq (runV_rxa (As := [.int (nI i10)]) (rest := []) S (q_XloadAt l D cI cB cZ zz qq vv bt g ad cn In Fn (nI i10) hB) kV_RX11_148 hK hXS hS (exP hP) 0 xo_0 rfl rfl ⟨Nat.le_of_ble_eq_true rfl, Nat.le_of_ble_eq_true rfl⟩ ⟨Nat.le_of_ble_eq_true rfl, Nat.le_of_ble_eq_true rfl⟩ rfl hl.1 rfl (Nat.le_of_ble_eq_true rfl) dX11_mixed_29) (fun r_5 h_6 => ?_)
          rcases h_6 with ⟨mr_5, er_5, hr_5, rfl⟩ | ⟨hr_5, rfl⟩
          ·
            refine lv_astore (lv' := [(4, .ref (ad 11 mr_5)), (3, .int (nI i10)), (2, .ref q0), (0, .ref (g 0)), (1, .int v0)]) hx hb dX11_mixed_32 hl (ltb rfl) rfl (fun ls hl => ?_)
            refine lv_aload hx hb dX11_mixed_34 (lvA0 hl) ?_
            refine lv_ifnull hx hb dX11_mixed_36 ?_
            refine lv_aload_n hx hb dX11_mixed_39 rfl (lvA3 hl) ?_
            refine lv_aload hx hb dX11_mixed_40 (lvA0 hl) ?_
            refine vp_callSi (runV_rxa (As := [.ref (ad 11 mr_5)]) (rest := []) S (q_XcanLoad l D cI cB cZ zz qq vv bt g ad cn In Fn mr_5 hB (by omega)) kV_RX11_354 hK hXS hS (exP hP) 0 xo_0 rfl rfl ⟨Nat.le_of_ble_eq_true rfl, Nat.le_of_ble_eq_true rfl⟩ ⟨Nat.le_of_ble_eq_true rfl, Nat.le_of_ble_eq_true rfl⟩ rfl hl.1 rfl (Nat.le_of_ble_eq_true rfl) dX11_mixed_42) (fun r_7 h_8 => ?_)
            rcases h_8 with rfl | rfl
            ·
              refine lv_if_ne (tgt := 50) hx hb dX11_mixed_45 rfl (fun h => absurd h cq_eq_0_0) (fun _ => ?_)
              refine lv_null hx hb dX11_mixed_48 ?_
              have hP := exP hP
              have hD := exD hD
              have hP : va_P D vwCl ((wX cI (D.1 99) zz g ad cn In Fn) ++ ([] : va_W)) H := va_P_eq (List.append_nil _).symm hP
              have hD : va_D A ((wX cI (D.1 99) zz g ad cn In Fn) ++ ([] : va_W)) := va_D_eq (List.append_nil _).symm hD
              exact W.aret (v := .null) hx hb hr (Or.inl ⟨_, rfl⟩) (Or.inl rfl) (fun t ht hW => ⟨⟨none, (ad, cn, In, Fn, ([] : va_W)), rfl, ⟨rfl, rfl, rfl, rfl, Or.inl ⟨rfl, rfl⟩⟩, by rw [ht]; exact hP, hD⟩, hS.F ht⟩) hS.2.2 dX11_mixed_49
            ·
              refine lv_if_ne (tgt := 50) hx hb dX11_mixed_45 rfl (fun _ => ?_) (fun h => absurd h cq_eq_1_0)
              refine lv_aload_n hx hb dX11_mixed_50 rfl (lvA2 hl) ?_
              refine lv_iload_n hx hb dX11_mixed_51 rfl (lvA1 hl) ?_
              refine lv_aload hx hb dX11_mixed_52 (lvA0 hl) ?_
              have hFc := free_all hD hS hA
              refine va_callv (runV_xa (As := [.int (nI i10), .ref (ad 11 mr_5)]) (rest := []) S (q_Eflip l D cI cB cZ zz qq vv bt g ad cn In Fn q0 u_1 b10_01 b10_02 0 b10_04 b10_05 b10_06 0 (nI i10) mr_5 (([(u_1, .inl (cI, 12, .inl (fun _ => 0)))] : va_W)) H.size hB (by omega)) kV_RX11_358 hK hXS hS hFc hP hD _ (exr (m := 0) rfl) rfl rfl ⟨Nat.le_of_ble_eq_true rfl, Nat.le_of_ble_eq_true rfl⟩ ⟨Nat.le_of_ble_eq_true rfl, Nat.le_of_ble_eq_true rfl⟩ rfl hl.1 rfl (Nat.le_of_ble_eq_true rfl) dX11_mixed_54) hS (fun q _ h => hFc q h) hFc (fun u8 t H1 locs ht hvm h8 hB1 hz1 hk1 hS => ?_)
              obtain ⟨hP1, hD1⟩ := hB1
              rw [ht] at hP1
              obtain ⟨a8, c8, I8, F8, W8⟩ := u8
              obtain ⟨rfl, rfl, rfl, rfl, sg8, hsg8, rfl⟩ := h8
              have hP : va_P D vwCl ((wX cI (D.1 99) zz g ad cn In Fn) ++ ([(q0, .inr (1, [.ref u_1, .int (b10_01 + sg8 * ((Fn 122) mr_5) * ((Fn 123) mr_5)), .int (b10_02 + sg8 * ((Fn 122) mr_5) * ((Fn 124) mr_5)), .int 0, .int (b10_04 ^^^ 1 <<< ((nI i10) &&& 31)), .int (b10_05 + sg8), .int (b10_06 + sg8 * ((Fn 122) mr_5)), .int 0])), (u_1, .inl (cI, 12, .inl (fun _ => 0)))] : va_W)) H1 := hP1
              have hD : va_D A ((wX cI (D.1 99) zz g ad cn In Fn) ++ ([(q0, .inr (1, [.ref u_1, .int (b10_01 + sg8 * ((Fn 122) mr_5) * ((Fn 123) mr_5)), .int (b10_02 + sg8 * ((Fn 122) mr_5) * ((Fn 124) mr_5)), .int 0, .int (b10_04 ^^^ 1 <<< ((nI i10) &&& 31)), .int (b10_05 + sg8), .int (b10_06 + sg8 * ((Fn 122) mr_5)), .int 0])), (u_1, .inl (cI, 12, .inl (fun _ => 0)))] : va_W)) := hD1.weaken (fun _ _ _ h => hFc _ h)
              generalize H1 = H at hP hS ⊢
              refine lv_iinc (v := (nI (i10 + 1))) (lv' := [(3, .int (nI (i10 + 1))), (4, .ref (ad 11 mr_5)), (2, .ref q0), (0, .ref (g 0)), (1, .int v0)]) hx hb dX11_mixed_57 hl (k := 1) rfl (nI_1 _) (ltb rfl) rfl (fun ls hl => ?_)
              refine lv_goto (tgt := 10) hx hb dX11_mixed_60 rfl ?_
              exact ih10 (i10 + 1) (b10_01 + sg8 * ((Fn 122) mr_5) * ((Fn 123) mr_5)) (b10_02 + sg8 * ((Fn 122) mr_5) * ((Fn 124) mr_5)) (b10_04 ^^^ 1 <<< ((nI i10) &&& 31)) (b10_05 + sg8) (b10_06 + sg8 * ((Fn 122) mr_5))  _ _ (by omega) ⟨(by omega), (Fr.mo hfr10 (sbl rfl) (sbl rfl) (sbl rfl))⟩ hP hD hS ls (lv_sub hl [0, 2, 3, 4] rfl)
          ·
            refine lv_astoreN (lv' := [(4, .null), (3, .int (nI i10)), (2, .ref q0), (0, .ref (g 0)), (1, .int v0)]) hx hb dX11_mixed_32 hl (ltb rfl) rfl (fun ls hl => ?_)
            refine lv_aloadN hx hb dX11_mixed_34 (lvA0 hl) ?_
            refine lv_ifnullN (tgt := 48) hx hb dX11_mixed_36 rfl ?_
            refine lv_null hx hb dX11_mixed_48 ?_
            have hP := exP hP
            have hD := exD hD
            have hP : va_P D vwCl ((wX cI (D.1 99) zz g ad cn In Fn) ++ ([] : va_W)) H := va_P_eq (List.append_nil _).symm hP
            have hD : va_D A ((wX cI (D.1 99) zz g ad cn In Fn) ++ ([] : va_W)) := va_D_eq (List.append_nil _).symm hD
            exact W.aret (v := .null) hx hb hr (Or.inl ⟨_, rfl⟩) (Or.inl rfl) (fun t ht hW => ⟨⟨none, (ad, cn, In, Fn, ([] : va_W)), rfl, ⟨rfl, rfl, rfl, rfl, Or.inl ⟨rfl, rfl⟩⟩, by rw [ht]; exact hP, hD⟩, hS.F ht⟩) hS.2.2 dX11_mixed_49
        ·
          have tc_4 : (((v0 >>> ((nI i10) &&& 31)) &&& 1).toInt : Int) = 0 := congrArg Int32.toInt c_4
          refine lv_goto (tgt := 57) hx hb dX11_mixed_24 rfl ?_
          refine lv_iinc (v := (nI (i10 + 1))) (lv' := [(3, .int (nI (i10 + 1))), (2, .ref q0), (0, .ref (g 0)), (1, .int v0)]) hx hb dX11_mixed_57 hl (k := 0) rfl (nI_1 _) (ltb rfl) rfl (fun ls hl => ?_)
          refine lv_goto (tgt := 10) hx hb dX11_mixed_60 rfl ?_
          exact ih10 (i10 + 1) b10_01 b10_02 b10_04 b10_05 b10_06  _ _ (by omega) ⟨(by omega), (Fr.mo hfr10 (sbl rfl) (sbl rfl) (sbl rfl))⟩ hP hD hS ls (lv_sub hl [0, 1, 2, 3] rfl)
  exact lp_10 _ 0 0 0 0 0 0  _ _ (Nat.lt_succ_self _) ⟨(by omega), (Fr.mo Fr.rf (sbl rfl) (sbl rfl) (sbl rfl))⟩ hP hD hS ls (lv_sub hl [0, 1, 2, 3] rfl)
set_option maxRecDepth 100000 in
set_option maxHeartbeats 4000000 in
theorem q_EbrokenClause (l : Launch) (D : va_G) (cI cB cZ : ClassId) (zz qq vv : Nat) (bt : Nat → Int32) (g : Nat → Nat) (ad : Nat → Nat → Nat) (cn : Nat → Nat) (In : Nat → Int32) (Fn : Nat → Nat → Int32) (bo w : Nat) (x1 x2 x3 x4 x5 x6 x7 : Int32) (ws : va_W) (sz : Nat) (hB : CBX cn) (hT : (∀ k : Nat, k < cn 10 → ad 3 k < cn 6) ∧ ad 4 0 < cn 6 ∧ ad 4 1 < cn 6) (hC : ∀ k : Nat, k < cn 6 → ∃ n : Nat, n ≤ 12 ∧ Fn 198 k = nI n) : Met l yX11_brokenClause (CWS yX11_brokenClause cX11_brokenClause 2 (some .int)) (RM 5 0 0) (PBx [.ref (g 0), .ref bo] D cI cB cZ zz qq vv bt ((wX cI (D.1 99) zz g ad cn In Fn) ++ (([(bo, .inr (1, [.ref w, .int x1, .int x2, .int x3, .int x4, .int x5, .int x6, .int x7]))] : va_W) ++ ws)) sz) (va_Qi (fun (r : Int32) (u : (Nat → Nat → Nat) × (Nat → Nat) × (Nat → Int32) × (Nat → Nat → Int32)) => (fun r a2 c2 I2 F2 => ad = a2 ∧ cn = c2 ∧ In = I2 ∧ ∀ k, k ∉ [7, 196, 197, 305] → F2 k = Fn k) r u.1 u.2.1 u.2.2.1 u.2.2.2) (fun (u : (Nat → Nat → Nat) × (Nat → Nat) × (Nat → Int32) × (Nat → Nat → Int32)) (t : State) => va_P D vwCl ((wX cI (D.1 99) zz g u.1 u.2.1 u.2.2.1 u.2.2.2) ++ (([(bo, .inr (1, [.ref w, .int x1, .int x2, .int x3, .int x4, .int x5, .int x6, .int x7]))] : va_W) ++ ws)) t.heap ∧ va_D (va_A ((wX cI (D.1 99) zz g ad cn In Fn) ++ (([(bo, .inr (1, [.ref w, .int x1, .int x2, .int x3, .int x4, .int x5, .int x6, .int x7]))] : va_W) ++ ws)) sz) ((wX cI (D.1 99) zz g u.1 u.2.1 u.2.2.1 u.2.2.2) ++ (([(bo, .inr (1, [.ref w, .int x1, .int x2, .int x3, .int x4, .int x5, .int x6, .int x7]))] : va_W) ++ ws))) (va_A ((wX cI (D.1 99) zz g ad cn In Fn) ++ (([(bo, .inr (1, [.ref w, .int x1, .int x2, .int x3, .int x4, .int x5, .int x6, .int x7]))] : va_W) ++ ws)) sz)) 0 0 (va_A ((wX cI (D.1 99) zz g ad cn In Fn) ++ (([(bo, .inr (1, [.ref w, .int x1, .int x2, .int x3, .int x4, .int x5, .int x6, .int x7]))] : va_W) ++ ws)) sz) := by
  refine en_x (fun A => (va_Qi (fun (r : Int32) (u : (Nat → Nat → Nat) × (Nat → Nat) × (Nat → Int32) × (Nat → Nat → Int32)) => (fun (r : Int32) (a2 : Nat → Nat → Nat) (c2 : Nat → Nat) (I2 : Nat → Int32) (F2 : Nat → Nat → Int32) => ad = a2 ∧ cn = c2 ∧ In = I2 ∧ ∀ k, k ∉ [7, 196, 197, 305] → F2 k = Fn k) r u.1 u.2.1 u.2.2.1 u.2.2.2) (fun (u : (Nat → Nat → Nat) × (Nat → Nat) × (Nat → Int32) × (Nat → Nat → Int32)) (t : State) => va_P D vwCl ((wX cI (D.1 99) zz g u.1 u.2.1 u.2.2.1 u.2.2.2) ++ (([(bo, .inr (1, [.ref w, .int x1, .int x2, .int x3, .int x4, .int x5, .int x6, .int x7]))] : va_W) ++ ws)) t.heap ∧ va_D A ((wX cI (D.1 99) zz g u.1 u.2.1 u.2.2.1 u.2.2.2) ++ (([(bo, .inr (1, [.ref w, .int x1, .int x2, .int x3, .int x4, .int x5, .int x6, .int x7]))] : va_W) ++ ws))) A)) rfl rfl pn_RX11 (Nat.le_of_ble_eq_true rfl) (fun p e s m below meth c A hx hb hml hown S hr hlocks hnm hA hP hK hD hXS hS ls hl => ?_)
  have hl : lv_has ls 2 [(0, .ref (g 0)), (1, .ref bo)] := hl
  refine lv_aload_n hx hb dX11_brokenClause_0 rfl (lvA0 hl) ?_
  refine lv_bipush (v := 113) hx hb dX11_brokenClause_1 kbc_113 ?_
  refine lv_aload_n hx hb dX11_brokenClause_3 rfl (lvA1 hl) ?_
  refine gf_RX11_342 S hK hP _ (exr (m := 0) rfl) (v := .int x6) rfl dX11_brokenClause_4 ?_
  have hFc := free_all (exD hD) hS hA
  refine va_callv (runV_xa (As := [.int 113, .int x6]) (rest := []) S (q_Xletter l D cI cB cZ zz qq vv bt g ad cn In Fn 113 x6 s.heap.size hB) kV_RX11_188 hK hXS hS hFc (exP hP) (exD hD) 0 xo_0 rfl rfl ⟨Nat.le_of_ble_eq_true rfl, Nat.le_of_ble_eq_true rfl⟩ ⟨Nat.le_of_ble_eq_true rfl, Nat.le_of_ble_eq_true rfl⟩ rfl hl.1 rfl (Nat.le_of_ble_eq_true rfl) dX11_brokenClause_7) hS (fun q _ h => hFc q h) hFc (fun u t H1 locs ht hvm wh_2 hB1 hz1 hk1 hS => ?_)
  obtain ⟨cn2, In2, Fn2⟩ := u
  obtain ⟨hP1, hD1⟩ := hB1
  rw [ht] at hP1
  obtain ⟨hP, hD⟩ := exjoinL hP hD hk1 hFc hP1 hD1
  have hP : va_P D vwCl ((wX cI (D.1 99) zz g ad cn2 In2 Fn2) ++ (([(bo, .inr (1, [.ref w, .int x1, .int x2, .int x3, .int x4, .int x5, .int x6, .int x7]))] : va_W) ++ ws)) H1 := hP
  have hD : va_D A ((wX cI (D.1 99) zz g ad cn2 In2 Fn2) ++ (([(bo, .inr (1, [.ref w, .int x1, .int x2, .int x3, .int x4, .int x5, .int x6, .int x7]))] : va_W) ++ ws)) := hD
  generalize H1 = H at hP hS ⊢
  have vh_2 : (fun c2 I2 F2 => Fr [] [] [7] cn In Fn c2 I2 F2 ∧ CBX c2 ∧ (True)) cn2 In2 Fn2 := wh_2
  obtain ⟨hfc2, hIn2, h_2⟩ := vh_2
  obtain rfl : cn = cn2 := (funext (fun k => hfc2.1 k List.not_mem_nil)).symm
  obtain rfl : In = In2 := (funext (fun k => hfc2.2.1 k List.not_mem_nil)).symm
  have hf2 : Fr [] [] [7, 196, 197, 305] cn In Fn cn In Fn2 := Fr.mo (Fr.tr (Fr.rf (cn := cn) (In := In) (Fn := Fn)) hfc2) (sbl rfl) (sbl rfl) (sbl rfl)
  refine lv_aload_n hx hb dX11_brokenClause_10 rfl (lvA0 hl) ?_
  refine lv_bipush (v := 102) hx hb dX11_brokenClause_11 kbc_102 ?_
  refine lv_aload_n hx hb dX11_brokenClause_13 rfl (lvA1 hl) ?_
  refine vp_callSi (runV_r (As := []) (rest := [.int 102, .ref (g 0)]) S (q_l_water l D cI cB cZ bo w x1 x2 x3 x4 x5 x6 x7) kV_RX11_343 hK hP _ (one_is (exr (m := 0) rfl)) _ (exr (m := 0) rfl) rfl rfl ⟨Nat.le_of_ble_eq_true rfl, Nat.le_of_ble_eq_true rfl⟩ ⟨Nat.le_of_ble_eq_true rfl, Nat.le_of_ble_eq_true rfl⟩ rfl hl.1 rfl (Nat.le_of_ble_eq_true rfl) dX11_brokenClause_14) (fun r_3 h_4 => ?_)
  subst h_4
  have hFc := free_all (exD hD) hS hA
  refine va_callv (runV_xa (As := [.int 102, .int (if x6 = 0 then 0 else x1 / x6)]) (rest := []) S (q_Xletter l D cI cB cZ zz qq vv bt g ad cn In Fn2 102 (if x6 = 0 then 0 else x1 / x6) H.size hIn2) kV_RX11_188 hK hXS hS hFc (exP hP) (exD hD) 0 xo_0 rfl rfl ⟨Nat.le_of_ble_eq_true rfl, Nat.le_of_ble_eq_true rfl⟩ ⟨Nat.le_of_ble_eq_true rfl, Nat.le_of_ble_eq_true rfl⟩ rfl hl.1 rfl (Nat.le_of_ble_eq_true rfl) dX11_brokenClause_17) hS (fun q _ h => hFc q h) hFc (fun u t H1 locs ht hvm wh_6 hB1 hz1 hk1 hS => ?_)
  obtain ⟨cn6, In6, Fn6⟩ := u
  obtain ⟨hP1, hD1⟩ := hB1
  rw [ht] at hP1
  obtain ⟨hP, hD⟩ := exjoinL hP hD hk1 hFc hP1 hD1
  have hP : va_P D vwCl ((wX cI (D.1 99) zz g ad cn6 In6 Fn6) ++ (([(bo, .inr (1, [.ref w, .int x1, .int x2, .int x3, .int x4, .int x5, .int x6, .int x7]))] : va_W) ++ ws)) H1 := hP
  have hD : va_D A ((wX cI (D.1 99) zz g ad cn6 In6 Fn6) ++ (([(bo, .inr (1, [.ref w, .int x1, .int x2, .int x3, .int x4, .int x5, .int x6, .int x7]))] : va_W) ++ ws)) := hD
  generalize H1 = H at hP hS ⊢
  have vh_6 : (fun c2 I2 F2 => Fr [] [] [7] cn In Fn2 c2 I2 F2 ∧ CBX c2 ∧ (True)) cn6 In6 Fn6 := wh_6
  obtain ⟨hfc6, hIn6, h_6⟩ := vh_6
  obtain rfl : cn = cn6 := (funext (fun k => hfc6.1 k List.not_mem_nil)).symm
  obtain rfl : In = In6 := (funext (fun k => hfc6.2.1 k List.not_mem_nil)).symm
  have hf6 : Fr [] [] [7, 196, 197, 305] cn In Fn cn In Fn6 := Fr.mo (Fr.tr hf2 hfc6) (sbl rfl) (sbl rfl) (sbl rfl)
  refine lv_aload_n hx hb dX11_brokenClause_20 rfl (lvA0 hl) ?_
  refine lv_bipush (v := 97) hx hb dX11_brokenClause_21 kbc_97 ?_
  refine lv_aload_n hx hb dX11_brokenClause_23 rfl (lvA1 hl) ?_
  refine vp_callSi (runV_r (As := []) (rest := [.int 97, .ref (g 0)]) S (q_l_acid l D cI cB cZ bo w x1 x2 x3 x4 x5 x6 x7) kV_RX11_345 hK hP _ (one_is (exr (m := 0) rfl)) _ (exr (m := 0) rfl) rfl rfl ⟨Nat.le_of_ble_eq_true rfl, Nat.le_of_ble_eq_true rfl⟩ ⟨Nat.le_of_ble_eq_true rfl, Nat.le_of_ble_eq_true rfl⟩ rfl hl.1 rfl (Nat.le_of_ble_eq_true rfl) dX11_brokenClause_24) (fun r_7 h_8 => ?_)
  subst h_8
  have hFc := free_all (exD hD) hS hA
  refine va_callv (runV_xa (As := [.int 97, .int (if x6 = 0 then 0 else x2 / x6)]) (rest := []) S (q_Xletter l D cI cB cZ zz qq vv bt g ad cn In Fn6 97 (if x6 = 0 then 0 else x2 / x6) H.size hIn6) kV_RX11_188 hK hXS hS hFc (exP hP) (exD hD) 0 xo_0 rfl rfl ⟨Nat.le_of_ble_eq_true rfl, Nat.le_of_ble_eq_true rfl⟩ ⟨Nat.le_of_ble_eq_true rfl, Nat.le_of_ble_eq_true rfl⟩ rfl hl.1 rfl (Nat.le_of_ble_eq_true rfl) dX11_brokenClause_27) hS (fun q _ h => hFc q h) hFc (fun u t H1 locs ht hvm wh_10 hB1 hz1 hk1 hS => ?_)
  obtain ⟨cn10, In10, Fn10⟩ := u
  obtain ⟨hP1, hD1⟩ := hB1
  rw [ht] at hP1
  obtain ⟨hP, hD⟩ := exjoinL hP hD hk1 hFc hP1 hD1
  have hP : va_P D vwCl ((wX cI (D.1 99) zz g ad cn10 In10 Fn10) ++ (([(bo, .inr (1, [.ref w, .int x1, .int x2, .int x3, .int x4, .int x5, .int x6, .int x7]))] : va_W) ++ ws)) H1 := hP
  have hD : va_D A ((wX cI (D.1 99) zz g ad cn10 In10 Fn10) ++ (([(bo, .inr (1, [.ref w, .int x1, .int x2, .int x3, .int x4, .int x5, .int x6, .int x7]))] : va_W) ++ ws)) := hD
  generalize H1 = H at hP hS ⊢
  have vh_10 : (fun c2 I2 F2 => Fr [] [] [7] cn In Fn6 c2 I2 F2 ∧ CBX c2 ∧ (True)) cn10 In10 Fn10 := wh_10
  obtain ⟨hfc10, hIn10, h_10⟩ := vh_10
  obtain rfl : cn = cn10 := (funext (fun k => hfc10.1 k List.not_mem_nil)).symm
  obtain rfl : In = In10 := (funext (fun k => hfc10.2.1 k List.not_mem_nil)).symm
  have hf10 : Fr [] [] [7, 196, 197, 305] cn In Fn cn In Fn10 := Fr.mo (Fr.tr hf6 hfc10) (sbl rfl) (sbl rfl) (sbl rfl)
  refine lv_aload_n hx hb dX11_brokenClause_30 rfl (lvA0 hl) ?_
  refine lv_bipush (v := 110) hx hb dX11_brokenClause_31 kbc_110 ?_
  refine lv_aload_n hx hb dX11_brokenClause_33 rfl (lvA1 hl) ?_
  refine gf_RX11_347 S hK hP _ (exr (m := 0) rfl) (v := .int x5) rfl dX11_brokenClause_34 ?_
  have hFc := free_all (exD hD) hS hA
  refine va_callv (runV_xa (As := [.int 110, .int x5]) (rest := []) S (q_Xletter l D cI cB cZ zz qq vv bt g ad cn In Fn10 110 x5 H.size hIn10) kV_RX11_188 hK hXS hS hFc (exP hP) (exD hD) 0 xo_0 rfl rfl ⟨Nat.le_of_ble_eq_true rfl, Nat.le_of_ble_eq_true rfl⟩ ⟨Nat.le_of_ble_eq_true rfl, Nat.le_of_ble_eq_true rfl⟩ rfl hl.1 rfl (Nat.le_of_ble_eq_true rfl) dX11_brokenClause_37) hS (fun q _ h => hFc q h) hFc (fun u t H1 locs ht hvm wh_12 hB1 hz1 hk1 hS => ?_)
  obtain ⟨cn12, In12, Fn12⟩ := u
  obtain ⟨hP1, hD1⟩ := hB1
  rw [ht] at hP1
  obtain ⟨hP, hD⟩ := exjoinL hP hD hk1 hFc hP1 hD1
  have hP : va_P D vwCl ((wX cI (D.1 99) zz g ad cn12 In12 Fn12) ++ (([(bo, .inr (1, [.ref w, .int x1, .int x2, .int x3, .int x4, .int x5, .int x6, .int x7]))] : va_W) ++ ws)) H1 := hP
  have hD : va_D A ((wX cI (D.1 99) zz g ad cn12 In12 Fn12) ++ (([(bo, .inr (1, [.ref w, .int x1, .int x2, .int x3, .int x4, .int x5, .int x6, .int x7]))] : va_W) ++ ws)) := hD
  generalize H1 = H at hP hS ⊢
  have vh_12 : (fun c2 I2 F2 => Fr [] [] [7] cn In Fn10 c2 I2 F2 ∧ CBX c2 ∧ (True)) cn12 In12 Fn12 := wh_12
  obtain ⟨hfc12, hIn12, h_12⟩ := vh_12
  obtain rfl : cn = cn12 := (funext (fun k => hfc12.1 k List.not_mem_nil)).symm
  obtain rfl : In = In12 := (funext (fun k => hfc12.2.1 k List.not_mem_nil)).symm
  have hf12 : Fr [] [] [7, 196, 197, 305] cn In Fn cn In Fn12 := Fr.mo (Fr.tr hf10 hfc12) (sbl rfl) (sbl rfl) (sbl rfl)
  refine lv_aload_n hx hb dX11_brokenClause_40 rfl (lvA0 hl) ?_
  refine gf_RX11_12 S hK hP _ (exl xo_0) (v := .ref (ad 5 (ad 4 0))) rfl dX11_brokenClause_41 ?_
  refine lv_iconst (v := 0) hx hb dX11_brokenClause_44 kic_0 ?_
  refine lv_aload_n hx hb dX11_brokenClause_45 rfl (lvA0 hl) ?_
  obtain ⟨n9, hn9, en9⟩ := hC (ad 4 0) hT.2.1
  refine gf_RX11_40 S hK hP _ (exl xo_0) (v := .ref (g 7)) rfl dX11_brokenClause_46 ?_
  have hFc := free_all (exD hD) hS hA
  refine va_calli (runV_xa (As := [.int 0, .ref (g 7)]) (rest := []) S (q_XfirstThat l D cI cB cZ zz qq vv bt g ad cn In Fn12 (ad 4 0) n9 0 H.size hIn12 hT.2.1 ((congrFun (hf12.2.2 198 (nml rfl)) (ad 4 0)).trans en9) hn9) kV_RX11_218 hK hXS hS hFc (exP hP) (exD hD) _ (xf_7 hT.2.1) rfl rfl ⟨Nat.le_of_ble_eq_true rfl, Nat.le_of_ble_eq_true rfl⟩ ⟨Nat.le_of_ble_eq_true rfl, Nat.le_of_ble_eq_true rfl⟩ rfl hl.1 rfl (Nat.le_of_ble_eq_true rfl) dX11_brokenClause_49) hS (fun q _ h => hFc q h) hFc (fun r_13 u t H1 locs ht hvm wh_14 hB1 hz1 hk1 hS => ?_)
  obtain ⟨cn14, In14, Fn14⟩ := u
  obtain ⟨hP1, hD1⟩ := hB1
  rw [ht] at hP1
  obtain ⟨hP, hD⟩ := exjoinL hP hD hk1 hFc hP1 hD1
  have hP : va_P D vwCl ((wX cI (D.1 99) zz g ad cn14 In14 Fn14) ++ (([(bo, .inr (1, [.ref w, .int x1, .int x2, .int x3, .int x4, .int x5, .int x6, .int x7]))] : va_W) ++ ws)) H1 := hP
  have hD : va_D A ((wX cI (D.1 99) zz g ad cn14 In14 Fn14) ++ (([(bo, .inr (1, [.ref w, .int x1, .int x2, .int x3, .int x4, .int x5, .int x6, .int x7]))] : va_W) ++ ws)) := hD
  generalize H1 = H at hP hS ⊢
  have vh_14 : (fun r c2 I2 F2 => Fr [] [] [196, 197, 305] cn In Fn12 c2 I2 F2 ∧ CBX c2 ∧ (True)) r_13 cn14 In14 Fn14 := wh_14
  obtain ⟨hfc14, hIn14, h_14⟩ := vh_14
  obtain rfl : cn = cn14 := (funext (fun k => hfc14.1 k List.not_mem_nil)).symm
  obtain rfl : In = In14 := (funext (fun k => hfc14.2.1 k List.not_mem_nil)).symm
  have hf14 : Fr [] [] [7, 196, 197, 305] cn In Fn cn In Fn14 := Fr.mo (Fr.tr hf12 hfc14) (sbl rfl) (sbl rfl) (sbl rfl)
  exact W.iret (v := r_13) hx hb hr (fun t ht hW => ⟨⟨r_13, (ad, cn, In, Fn14), rfl, ⟨rfl, rfl, rfl, (show Fr [] [] [7, 196, 197, 305] cn In Fn cn In Fn14 from (Fr.mo hf14 (sbl rfl) (sbl rfl) (sbl rfl))).2.2⟩, by rw [ht]; exact hP, hD⟩, hS.F ht⟩) hS.2.2 dX11_brokenClause_52
set_option maxRecDepth 100000 in
set_option maxHeartbeats 4000000 in
theorem q_Ekeep (l : Launch) (D : va_G) (cI cB cZ : ClassId) (zz qq vv : Nat) (bt : Nat → Int32) (g : Nat → Nat) (ad : Nat → Nat → Nat) (cn : Nat → Nat) (In : Nat → Int32) (Fn : Nat → Nat → Int32) (bo w : Nat) (x1 x2 x3 x4 x5 x6 x7 : Int32) (f : Nat → Int32) (sz : Nat) (hB : CBX cn) (h12 : cn 12 < 10) (hf0 : ∀ i : Nat, 12 ≤ i → f i = 0) : Met l yX11_keep (CWS yX11_keep cX11_keep 4 none) (RM 8 1 100) (PBx [.ref (g 0), .ref bo] D cI cB cZ zz qq vv bt ((wX cI (D.1 99) zz g ad cn In Fn) ++ ([(bo, .inr (1, [.ref w, .int x1, .int x2, .int x3, .int x4, .int x5, .int x6, .int x7])), (w, .inl (cI, 12, .inl f))] : va_W)) sz) (va_Qv (fun (u : (Nat → Nat → Nat) × (Nat → Nat) × (Nat → Int32) × (Nat → Nat → Int32)) => (fun a2 c2 I2 F2 => ∃ (Fb : Nat → Nat → Int32), (∀ k, k ∉ [129] → Fb k = Fn k) ∧ ∃ (z c : Nat) (y : Int32), (cn 12 < c ∧ c ≤ 100) ∧ (adO (adO (adO ad 12 (cn 12) bo) 1 (cn 12) w) 2 2 z) = a2 ∧ (va_up (va_up cn 12 ((cn 12) + 1)) 22 c) = c2 ∧ (va_up In 12 y) = I2 ∧ (va_up (va_up (va_up (va_up (va_up (va_up (va_up (va_up (va_up Fb 29 (putM (Fb 29) 400 (nI (cn 0)) (atM (Fb 29) 400 (nI (cn 0)) + -x6))) 141 (upd ((va_up Fb 29 (putM (Fb 29) 400 (nI (cn 0)) (atM (Fb 29) 400 (nI (cn 0)) + -x6))) 141) (cn 12) x1)) 142 (upd ((va_up Fb 29 (putM (Fb 29) 400 (nI (cn 0)) (atM (Fb 29) 400 (nI (cn 0)) + -x6))) 142) (cn 12) x2)) 143 (upd ((va_up Fb 29 (putM (Fb 29) 400 (nI (cn 0)) (atM (Fb 29) 400 (nI (cn 0)) + -x6))) 143) (cn 12) x3)) 144 (upd ((va_up Fb 29 (putM (Fb 29) 400 (nI (cn 0)) (atM (Fb 29) 400 (nI (cn 0)) + -x6))) 144) (cn 12) x4)) 145 (upd ((va_up Fb 29 (putM (Fb 29) 400 (nI (cn 0)) (atM (Fb 29) 400 (nI (cn 0)) + -x6))) 145) (cn 12) x5)) 146 (upd ((va_up Fb 29 (putM (Fb 29) 400 (nI (cn 0)) (atM (Fb 29) 400 (nI (cn 0)) + -x6))) 146) (cn 12) x6)) 147 (upd ((va_up Fb 29 (putM (Fb 29) 400 (nI (cn 0)) (atM (Fb 29) 400 (nI (cn 0)) + -x6))) 147) (cn 12) (nI (cn 0)))) 150 (flat ((va_up Fb 29 (putM (Fb 29) 400 (nI (cn 0)) (atM (Fb 29) 400 (nI (cn 0)) + -x6))) 150) 12 (cn 12) f)) = F2) u.1 u.2.1 u.2.2.1 u.2.2.2) (fun (u : (Nat → Nat → Nat) × (Nat → Nat) × (Nat → Int32) × (Nat → Nat → Int32)) (t : State) => va_P D vwCl (wX cI (D.1 99) zz g u.1 u.2.1 u.2.2.1 u.2.2.2) t.heap ∧ va_D (va_A ((wX cI (D.1 99) zz g ad cn In Fn) ++ ([(bo, .inr (1, [.ref w, .int x1, .int x2, .int x3, .int x4, .int x5, .int x6, .int x7])), (w, .inl (cI, 12, .inl f))] : va_W)) sz) (wX cI (D.1 99) zz g u.1 u.2.1 u.2.2.1 u.2.2.2)) (va_A ((wX cI (D.1 99) zz g ad cn In Fn) ++ ([(bo, .inr (1, [.ref w, .int x1, .int x2, .int x3, .int x4, .int x5, .int x6, .int x7])), (w, .inl (cI, 12, .inl f))] : va_W)) sz)) 1 100 (va_A ((wX cI (D.1 99) zz g ad cn In Fn) ++ ([(bo, .inr (1, [.ref w, .int x1, .int x2, .int x3, .int x4, .int x5, .int x6, .int x7])), (w, .inl (cI, 12, .inl f))] : va_W)) sz) := by
  refine en_x (fun A => (va_Qv (fun (u : (Nat → Nat → Nat) × (Nat → Nat) × (Nat → Int32) × (Nat → Nat → Int32)) => (fun (a2 : Nat → Nat → Nat) (c2 : Nat → Nat) (I2 : Nat → Int32) (F2 : Nat → Nat → Int32) => ∃ (Fb : Nat → Nat → Int32), (∀ k, k ∉ [129] → Fb k = Fn k) ∧ ∃ (z c : Nat) (y : Int32), (cn 12 < c ∧ c ≤ 100) ∧ (adO (adO (adO ad 12 (cn 12) bo) 1 (cn 12) w) 2 2 z) = a2 ∧ (va_up (va_up cn 12 ((cn 12) + 1)) 22 c) = c2 ∧ (va_up In 12 y) = I2 ∧ (va_up (va_up (va_up (va_up (va_up (va_up (va_up (va_up (va_up Fb 29 (putM (Fb 29) 400 (nI (cn 0)) (atM (Fb 29) 400 (nI (cn 0)) + -x6))) 141 (upd ((va_up Fb 29 (putM (Fb 29) 400 (nI (cn 0)) (atM (Fb 29) 400 (nI (cn 0)) + -x6))) 141) (cn 12) x1)) 142 (upd ((va_up Fb 29 (putM (Fb 29) 400 (nI (cn 0)) (atM (Fb 29) 400 (nI (cn 0)) + -x6))) 142) (cn 12) x2)) 143 (upd ((va_up Fb 29 (putM (Fb 29) 400 (nI (cn 0)) (atM (Fb 29) 400 (nI (cn 0)) + -x6))) 143) (cn 12) x3)) 144 (upd ((va_up Fb 29 (putM (Fb 29) 400 (nI (cn 0)) (atM (Fb 29) 400 (nI (cn 0)) + -x6))) 144) (cn 12) x4)) 145 (upd ((va_up Fb 29 (putM (Fb 29) 400 (nI (cn 0)) (atM (Fb 29) 400 (nI (cn 0)) + -x6))) 145) (cn 12) x5)) 146 (upd ((va_up Fb 29 (putM (Fb 29) 400 (nI (cn 0)) (atM (Fb 29) 400 (nI (cn 0)) + -x6))) 146) (cn 12) x6)) 147 (upd ((va_up Fb 29 (putM (Fb 29) 400 (nI (cn 0)) (atM (Fb 29) 400 (nI (cn 0)) + -x6))) 147) (cn 12) (nI (cn 0)))) 150 (flat ((va_up Fb 29 (putM (Fb 29) 400 (nI (cn 0)) (atM (Fb 29) 400 (nI (cn 0)) + -x6))) 150) 12 (cn 12) f)) = F2) u.1 u.2.1 u.2.2.1 u.2.2.2) (fun (u : (Nat → Nat → Nat) × (Nat → Nat) × (Nat → Int32) × (Nat → Nat → Int32)) (t : State) => va_P D vwCl (wX cI (D.1 99) zz g u.1 u.2.1 u.2.2.1 u.2.2.2) t.heap ∧ va_D A (wX cI (D.1 99) zz g u.1 u.2.1 u.2.2.1 u.2.2.2)) A)) rfl rfl pn_RX11 (Nat.le_of_ble_eq_true rfl) (fun p e s m below meth c A hx hb hml hown S hr hlocks hnm hA hP hK hD hXS hS ls hl => ?_)
  have hl : lv_has ls 4 [(0, .ref (g 0)), (1, .ref bo)] := hl
  refine lv_iconst (v := 0) hx hb dX11_keep_0 kic_0 ?_
  refine lv_istore_n (lv' := [(2, .int 0), (0, .ref (g 0)), (1, .ref bo)]) hx hb dX11_keep_1 rfl hl (ltb rfl) rfl (fun ls hl => ?_)
  have lp_2 : ∀ (n : Nat) (i2 : Nat) (Fw : Nat → Nat → Int32) (H : Heap) (locs : List Loc) , 20 - i2 < n → (i2 ≤ 20 ∧ Fr [] [] [129] cn In Fn cn In Fw ∧ CBX cn) → va_P D vwCl ((wX cI (D.1 99) zz g ad cn In Fw) ++ ([(bo, .inr (1, [.ref w, .int x1, .int x2, .int x3, .int x4, .int x5, .int x6, .int x7])), (w, .inl (cI, 12, .inl f))] : va_W)) H → va_D A ((wX cI (D.1 99) zz g ad cn In Fw) ++ ([(bo, .inr (1, [.ref w, .int x1, .int x2, .int x3, .int x4, .int x5, .int x6, .int x7])), (w, .inl (cI, 12, .inl f))] : va_W)) → va_S A s.heap H locs → ∀ ls : Array Slot, lv_has ls 4 [(2, .int (nI i2)), (0, .ref (g 0)), (1, .ref bo)] → W p l e (RM 8 1 100) s m ([.ref (g 0), .ref bo]).toArray below meth c H locs 0 0 (MQ below (va_Qv (fun (u : (Nat → Nat → Nat) × (Nat → Nat) × (Nat → Int32) × (Nat → Nat → Int32)) => (fun a2 c2 I2 F2 => ∃ (Fb : Nat → Nat → Int32), (∀ k, k ∉ [129] → Fb k = Fn k) ∧ ∃ (z c : Nat) (y : Int32), (cn 12 < c ∧ c ≤ 100) ∧ (adO (adO (adO ad 12 (cn 12) bo) 1 (cn 12) w) 2 2 z) = a2 ∧ (va_up (va_up cn 12 ((cn 12) + 1)) 22 c) = c2 ∧ (va_up In 12 y) = I2 ∧ (va_up (va_up (va_up (va_up (va_up (va_up (va_up (va_up (va_up Fb 29 (putM (Fb 29) 400 (nI (cn 0)) (atM (Fb 29) 400 (nI (cn 0)) + -x6))) 141 (upd ((va_up Fb 29 (putM (Fb 29) 400 (nI (cn 0)) (atM (Fb 29) 400 (nI (cn 0)) + -x6))) 141) (cn 12) x1)) 142 (upd ((va_up Fb 29 (putM (Fb 29) 400 (nI (cn 0)) (atM (Fb 29) 400 (nI (cn 0)) + -x6))) 142) (cn 12) x2)) 143 (upd ((va_up Fb 29 (putM (Fb 29) 400 (nI (cn 0)) (atM (Fb 29) 400 (nI (cn 0)) + -x6))) 143) (cn 12) x3)) 144 (upd ((va_up Fb 29 (putM (Fb 29) 400 (nI (cn 0)) (atM (Fb 29) 400 (nI (cn 0)) + -x6))) 144) (cn 12) x4)) 145 (upd ((va_up Fb 29 (putM (Fb 29) 400 (nI (cn 0)) (atM (Fb 29) 400 (nI (cn 0)) + -x6))) 145) (cn 12) x5)) 146 (upd ((va_up Fb 29 (putM (Fb 29) 400 (nI (cn 0)) (atM (Fb 29) 400 (nI (cn 0)) + -x6))) 146) (cn 12) x6)) 147 (upd ((va_up Fb 29 (putM (Fb 29) 400 (nI (cn 0)) (atM (Fb 29) 400 (nI (cn 0)) + -x6))) 147) (cn 12) (nI (cn 0)))) 150 (flat ((va_up Fb 29 (putM (Fb 29) 400 (nI (cn 0)) (atM (Fb 29) 400 (nI (cn 0)) + -x6))) 150) 12 (cn 12) f)) = F2) u.1 u.2.1 u.2.2.1 u.2.2.2) (fun (u : (Nat → Nat → Nat) × (Nat → Nat) × (Nat → Int32) × (Nat → Nat → Int32)) (t : State) => va_P D vwCl (wX cI (D.1 99) zz g u.1 u.2.1 u.2.2.1 u.2.2.2) t.heap ∧ va_D A (wX cI (D.1 99) zz g u.1 u.2.1 u.2.2.1 u.2.2.2)) A) ([.ref (g 0), .ref bo]).toArray s 1 100 A) (F0 m 2 ls []) := by
    intro n2
    induction n2 with
    | zero => intros; omega
    | succ n2 ih2 =>
      intro i2 Fw H locs hmu2 hinv2 hP hD hS ls hl
      obtain ⟨hr2, hfr2, hI2⟩ := hinv2
      have ti2 : (nI i2).toInt = (i2 : Int) := nI_toInt (by omega)
      refine lv_iload_n hx hb dX11_keep_2 rfl (lvA0 hl) ?_
      refine lv_bipush (v := 20) hx hb dX11_keep_3 kbc_20 ?_
      refine lv_icmp_ge (tgt := 37) hx hb dX11_keep_5 rfl (fun c_1 => ?_) (fun c_1 => ?_)
      ·
        have tc_1 : (20 : Int) ≤ (nI i2).toInt := Int32.le_iff_toInt_le.mp c_1
        refine lv_aload_n hx hb dX11_keep_37 rfl (lvA2 hl) ?_
        refine lv_aload_n hx hb dX11_keep_38 rfl (lvA1 hl) ?_
        refine gf_RX11_103 S hK hP _ (exl xo_0) (v := .int (nI (cn 0))) rfl dX11_keep_39 ?_
        refine pf_RX11_381 S hK hP hD hS _ (exr (m := 0) rfl) (v := .int (nI (cn 0))) (Nat.le_of_ble_eq_true rfl) rfl rfl dX11_keep_42 (fun H locs hP hD hS => ?_)
        have hP : va_P D vwCl ((wX cI (D.1 99) zz g ad cn In Fw) ++ ([(bo, .inr (1, [.ref w, .int x1, .int x2, .int x3, .int x4, .int x5, .int x6, .int (nI (cn 0))])), (w, .inl (cI, 12, .inl f))] : va_W)) H := va_P_eq (exs_r rfl) hP
        have hD : va_D A ((wX cI (D.1 99) zz g ad cn In Fw) ++ ([(bo, .inr (1, [.ref w, .int x1, .int x2, .int x3, .int x4, .int x5, .int x6, .int (nI (cn 0))])), (w, .inl (cI, 12, .inl f))] : va_W)) := va_D_eq (exs_r rfl) hD
        refine lv_aload_n hx hb dX11_keep_45 rfl (lvA1 hl) ?_
        refine gf_RX11_47 S hK hP _ (exl xo_0) (v := .ref (g 8)) rfl dX11_keep_46 ?_
        refine lv_aload_n hx hb dX11_keep_49 rfl (lvA1 hl) ?_
        refine gf_RX11_103 S hK hP _ (exl xo_0) (v := .int (nI (cn 0))) rfl dX11_keep_50 ?_
        refine lv_aload_n hx hb dX11_keep_53 rfl (lvA2 hl) ?_
        refine gf_RX11_342 S hK hP _ (exr (m := 0) rfl) (v := .int x6) rfl dX11_keep_54 ?_
        refine lv_ineg hx hb dX11_keep_57 ?_
        have hFc := free_all (exD hD) hS hA
        refine va_callv (runV_xa (As := [.int (nI (cn 0)), .int (-x6)]) (rest := []) S (q_Xchange l D cI cB cZ zz qq vv bt g ad cn In Fw (nI (cn 0)) (-x6) H.size hI2) kV_RX11_144 hK hXS hS hFc (exP hP) (exD hD) 6 xo_6 rfl rfl ⟨Nat.le_of_ble_eq_true rfl, Nat.le_of_ble_eq_true rfl⟩ ⟨Nat.le_of_ble_eq_true rfl, Nat.le_of_ble_eq_true rfl⟩ rfl hl.1 rfl (Nat.le_of_ble_eq_true rfl) dX11_keep_58) hS (fun q _ h => hFc q h) hFc (fun u t H1 locs ht hvm wh_3 hB1 hz1 hk1 hS => ?_)
        obtain ⟨cn3, In3, Fn3⟩ := u
        obtain ⟨hP1, hD1⟩ := hB1
        rw [ht] at hP1
        have vh_3 : (fun c2 I2 F2 => (∀ k : Nat, k ∉ [] → I2 k = In k) ∧ (((True) ∧ cn = c2 ∧ (va_up Fw 29 (putM ((Fw 29)) 400 (nI (cn 0)) (atM ((Fw 29)) 400 (nI (cn 0)) + (-x6)))) = F2))) cn3 In3 Fn3 := wh_3
        obtain ⟨hI3_, vh_3⟩ := vh_3
        obtain ⟨h_3, rfl, rfl⟩ := vh_3
        obtain rfl : In = In3 := (funext (fun k => hI3_ k List.not_mem_nil)).symm
        obtain ⟨hP, hD⟩ := exjoinL hP hD hk1 hFc hP1 hD1
        have hP : va_P D vwCl ((wX cI (D.1 99) zz g ad cn In (va_up Fw 29 (putM ((Fw 29)) 400 (nI (cn 0)) (atM ((Fw 29)) 400 (nI (cn 0)) + (-x6))))) ++ ([(bo, .inr (1, [.ref w, .int x1, .int x2, .int x3, .int x4, .int x5, .int x6, .int (nI (cn 0))])), (w, .inl (cI, 12, .inl f))] : va_W)) H1 := hP
        have hD : va_D A ((wX cI (D.1 99) zz g ad cn In (va_up Fw 29 (putM ((Fw 29)) 400 (nI (cn 0)) (atM ((Fw 29)) 400 (nI (cn 0)) + (-x6))))) ++ ([(bo, .inr (1, [.ref w, .int x1, .int x2, .int x3, .int x4, .int x5, .int x6, .int (nI (cn 0))])), (w, .inl (cI, 12, .inl f))] : va_W)) := hD
        generalize H1 = H at hP hS ⊢
        refine lv_aload_n hx hb dX11_keep_61 rfl (lvA1 hl) ?_
        refine gf_RX11_68 S hK hP _ (exl xo_0) (v := .ref (g 12)) rfl dX11_keep_62 ?_
        refine lv_aload_n hx hb dX11_keep_65 rfl (lvA2 hl) ?_
        rcases Nat.eq_zero_or_pos (cn 12) with hz0 | hz0
        ·
          have hi9 : (wX cI (D.1 99) zz g ad cn In (va_up Fw 29 (putM ((Fw 29)) 400 (nI (cn 0)) (atM ((Fw 29)) 400 (nI (cn 0)) + (-x6)))))[26]? = _ := xlz_2 hz0
          have hp2P := pick2P hP (exl hi9) (exr (m := 0) rfl)
          have hp2D := pick2D hD (exl hi9) (exr (m := 0) rfl) (ne_ex hi9)
          have hFc := free_all hp2D hS hA
          refine va_calli (runV_xa (As := [.ref bo]) (rest := []) S (q_l_addZB l D cI cB cZ zz qq vv bt (g 12) bo (In 12) x1 x2 x3 x4 x5 x6 (nI (cn 0)) w H.size) kV_RX11_110 hK hXS hS hFc hp2P hp2D 0 rfl rfl rfl ⟨Nat.le_of_ble_eq_true rfl, Nat.le_of_ble_eq_true rfl⟩ ⟨Nat.le_of_ble_eq_true rfl, Nat.le_of_ble_eq_true rfl⟩ rfl hl.1 rfl (Nat.le_of_ble_eq_true rfl) dX11_keep_66) hS (fun q _ h => hFc q h) hFc (fun r3 u3 t H1 locs ht hvm h3 hB1 hz1 hk1 hS => ?_)
          obtain ⟨hP1, hD1⟩ := hB1
          rw [ht] at hP1
          obtain rfl : r3 = 1 := h3
          obtain ⟨hP, hD⟩ := add0_join hP hD hi9 rfl hk1 hFc hP1 hD1 rfl (xuB (z := u3) (c := 10) (y := (In 12) + 1) (q := bo) (qs := w) (f := f) (x1 := x1) (x2 := x2) (x3 := x3) (x4 := x4) (x5 := x5) (x6 := x6) (x7 := (nI (cn 0))) hz0 hf0)
          have hP : va_P D vwCl (wX cI (D.1 99) zz g (adO (adO (adO ad 12 (cn 12) bo) 1 (cn 12) w) 2 2 u3) (va_up (va_up cn 12 ((cn 12) + 1)) 22 10) (va_up In 12 ((In 12) + 1)) (va_up (va_up (va_up (va_up (va_up (va_up (va_up (va_up (va_up Fw 29 (putM ((Fw 29)) 400 (nI (cn 0)) (atM ((Fw 29)) 400 (nI (cn 0)) + (-x6)))) 141 (upd ((va_up Fw 29 (putM ((Fw 29)) 400 (nI (cn 0)) (atM ((Fw 29)) 400 (nI (cn 0)) + (-x6)))) 141) (cn 12) x1)) 142 (upd ((va_up Fw 29 (putM ((Fw 29)) 400 (nI (cn 0)) (atM ((Fw 29)) 400 (nI (cn 0)) + (-x6)))) 142) (cn 12) x2)) 143 (upd ((va_up Fw 29 (putM ((Fw 29)) 400 (nI (cn 0)) (atM ((Fw 29)) 400 (nI (cn 0)) + (-x6)))) 143) (cn 12) x3)) 144 (upd ((va_up Fw 29 (putM ((Fw 29)) 400 (nI (cn 0)) (atM ((Fw 29)) 400 (nI (cn 0)) + (-x6)))) 144) (cn 12) x4)) 145 (upd ((va_up Fw 29 (putM ((Fw 29)) 400 (nI (cn 0)) (atM ((Fw 29)) 400 (nI (cn 0)) + (-x6)))) 145) (cn 12) x5)) 146 (upd ((va_up Fw 29 (putM ((Fw 29)) 400 (nI (cn 0)) (atM ((Fw 29)) 400 (nI (cn 0)) + (-x6)))) 146) (cn 12) x6)) 147 (upd ((va_up Fw 29 (putM ((Fw 29)) 400 (nI (cn 0)) (atM ((Fw 29)) 400 (nI (cn 0)) + (-x6)))) 147) (cn 12) (nI (cn 0)))) 150 (flat ((va_up Fw 29 (putM ((Fw 29)) 400 (nI (cn 0)) (atM ((Fw 29)) 400 (nI (cn 0)) + (-x6)))) 150) 12 (cn 12) f))) H1 := hP
          have hD : va_D A (wX cI (D.1 99) zz g (adO (adO (adO ad 12 (cn 12) bo) 1 (cn 12) w) 2 2 u3) (va_up (va_up cn 12 ((cn 12) + 1)) 22 10) (va_up In 12 ((In 12) + 1)) (va_up (va_up (va_up (va_up (va_up (va_up (va_up (va_up (va_up Fw 29 (putM ((Fw 29)) 400 (nI (cn 0)) (atM ((Fw 29)) 400 (nI (cn 0)) + (-x6)))) 141 (upd ((va_up Fw 29 (putM ((Fw 29)) 400 (nI (cn 0)) (atM ((Fw 29)) 400 (nI (cn 0)) + (-x6)))) 141) (cn 12) x1)) 142 (upd ((va_up Fw 29 (putM ((Fw 29)) 400 (nI (cn 0)) (atM ((Fw 29)) 400 (nI (cn 0)) + (-x6)))) 142) (cn 12) x2)) 143 (upd ((va_up Fw 29 (putM ((Fw 29)) 400 (nI (cn 0)) (atM ((Fw 29)) 400 (nI (cn 0)) + (-x6)))) 143) (cn 12) x3)) 144 (upd ((va_up Fw 29 (putM ((Fw 29)) 400 (nI (cn 0)) (atM ((Fw 29)) 400 (nI (cn 0)) + (-x6)))) 144) (cn 12) x4)) 145 (upd ((va_up Fw 29 (putM ((Fw 29)) 400 (nI (cn 0)) (atM ((Fw 29)) 400 (nI (cn 0)) + (-x6)))) 145) (cn 12) x5)) 146 (upd ((va_up Fw 29 (putM ((Fw 29)) 400 (nI (cn 0)) (atM ((Fw 29)) 400 (nI (cn 0)) + (-x6)))) 146) (cn 12) x6)) 147 (upd ((va_up Fw 29 (putM ((Fw 29)) 400 (nI (cn 0)) (atM ((Fw 29)) 400 (nI (cn 0)) + (-x6)))) 147) (cn 12) (nI (cn 0)))) 150 (flat ((va_up Fw 29 (putM ((Fw 29)) 400 (nI (cn 0)) (atM ((Fw 29)) 400 (nI (cn 0)) + (-x6)))) 150) 12 (cn 12) f))) := hD
          generalize H1 = H at hP hS ⊢
          refine W.widen (k := 1) (n := 100) (Nat.le_of_ble_eq_true rfl) (Nat.le_of_ble_eq_true rfl) ?_
          refine lv_pop hx hb dX11_keep_69 rfl ?_
          have hFr9 := (hfr2.2.2)
          exact W.vret hx hb hr (fun t ht hW => ⟨⟨((adO (adO (adO ad 12 (cn 12) bo) 1 (cn 12) w) 2 2 u3), (va_up (va_up cn 12 ((cn 12) + 1)) 22 10), (va_up In 12 ((In 12) + 1)), (va_up (va_up (va_up (va_up (va_up (va_up (va_up (va_up (va_up Fw 29 (putM ((Fw 29)) 400 (nI (cn 0)) (atM ((Fw 29)) 400 (nI (cn 0)) + (-x6)))) 141 (upd ((va_up Fw 29 (putM ((Fw 29)) 400 (nI (cn 0)) (atM ((Fw 29)) 400 (nI (cn 0)) + (-x6)))) 141) (cn 12) x1)) 142 (upd ((va_up Fw 29 (putM ((Fw 29)) 400 (nI (cn 0)) (atM ((Fw 29)) 400 (nI (cn 0)) + (-x6)))) 142) (cn 12) x2)) 143 (upd ((va_up Fw 29 (putM ((Fw 29)) 400 (nI (cn 0)) (atM ((Fw 29)) 400 (nI (cn 0)) + (-x6)))) 143) (cn 12) x3)) 144 (upd ((va_up Fw 29 (putM ((Fw 29)) 400 (nI (cn 0)) (atM ((Fw 29)) 400 (nI (cn 0)) + (-x6)))) 144) (cn 12) x4)) 145 (upd ((va_up Fw 29 (putM ((Fw 29)) 400 (nI (cn 0)) (atM ((Fw 29)) 400 (nI (cn 0)) + (-x6)))) 145) (cn 12) x5)) 146 (upd ((va_up Fw 29 (putM ((Fw 29)) 400 (nI (cn 0)) (atM ((Fw 29)) 400 (nI (cn 0)) + (-x6)))) 146) (cn 12) x6)) 147 (upd ((va_up Fw 29 (putM ((Fw 29)) 400 (nI (cn 0)) (atM ((Fw 29)) 400 (nI (cn 0)) + (-x6)))) 147) (cn 12) (nI (cn 0)))) 150 (flat ((va_up Fw 29 (putM ((Fw 29)) 400 (nI (cn 0)) (atM ((Fw 29)) 400 (nI (cn 0)) + (-x6)))) 150) 12 (cn 12) f))), rfl, ⟨Fw, hFr9, u3, 10, ((In 12) + 1), ⟨by omega, by omega⟩, rfl, rfl, rfl, rfl⟩, by rw [ht]; exact hP, hD⟩, hS.F ht⟩) hS.2.2 dX11_keep_70
        ·
          have hi9 : (wX cI (D.1 99) zz g ad cn In (va_up Fw 29 (putM ((Fw 29)) 400 (nI (cn 0)) (atM ((Fw 29)) 400 (nI (cn 0)) + (-x6)))))[26]? = _ := xl_2 hz0
          have hj9 : (wX cI (D.1 99) zz g ad cn In (va_up Fw 29 (putM ((Fw 29)) 400 (nI (cn 0)) (atM ((Fw 29)) 400 (nI (cn 0)) + (-x6)))))[_]? = _ := xf_15 (k := 0) (show 0 < min 1 (cn 12) by omega)
          obtain ⟨ws9, hp1, hp2⟩ := pickG (W := ((wX cI (D.1 99) zz g ad cn In (va_up Fw 29 (putM ((Fw 29)) 400 (nI (cn 0)) (atM ((Fw 29)) 400 (nI (cn 0)) + (-x6))))) ++ ([(bo, .inr (1, [.ref w, .int x1, .int x2, .int x3, .int x4, .int x5, .int x6, .int (nI (cn 0))])), (w, .inl (cI, 12, .inl f))] : va_W))) (exl hi9) (exl hj9) (exr (m := 0) rfl) (xij (by decide)) (ne_ex hi9) (ne_ex hj9)
          have hP9 := va_P_perm hp1 hP
          have hD9 := va_D_perm hp1 hD
          have hFc := free_all hD9 hS hA
          refine va_calli (runV_xa (As := [.ref bo]) (rest := []) S (q_l_addGB l D cI cB cZ zz qq vv bt (cn 22) (g 12) (ad 2 2) (cn 12) bo (In 12) (ad 12) x1 x2 x3 x4 x5 x6 (nI (cn 0)) w ws9 H.size (by omega) (by omega) hz0 (by omega) (fun i hi => ⟨_, g_mem (hp1.mem_iff.mp (List.mem_of_getElem? (exl (xf_2 (k := i) hi)))) (by decide)⟩)) kV_RX11_110 hK hXS hS hFc hP9 hD9 0 rfl rfl rfl ⟨Nat.le_of_ble_eq_true rfl, Nat.le_of_ble_eq_true rfl⟩ ⟨Nat.le_of_ble_eq_true rfl, Nat.le_of_ble_eq_true rfl⟩ rfl hl.1 rfl (Nat.le_of_ble_eq_true rfl) dX11_keep_66) hS (fun q _ h => hFc q h) hFc (fun r3 u3 t H1 locs ht hvm h3 hB1 hz1 hk1 hS => ?_)
          obtain ⟨hP1, hD1⟩ := hB1
          rw [ht] at hP1
          obtain ⟨hr3, h3⟩ := h3
          obtain rfl : r3 = 1 := hr3
          obtain ⟨ua3, uc3⟩ := u3
          have hu3 : cn 12 < uc3 ∧ uc3 ≤ 100 := h3
          obtain ⟨hP, hD⟩ := addG_join hp2 hi9 hj9 hP1 hD1 hFc (xaddB (z := ua3) (c := uc3) (y := (In 12) + 1) (q := bo) (qs := w) (f := f) (x1 := x1) (x2 := x2) (x3 := x3) (x4 := x4) (x5 := x5) (x6 := x6) (x7 := (nI (cn 0))) hz0 hf0)
          have hP : va_P D vwCl (wX cI (D.1 99) zz g (adO (adO (adO ad 12 (cn 12) bo) 1 (cn 12) w) 2 2 ua3) (va_up (va_up cn 12 ((cn 12) + 1)) 22 uc3) (va_up In 12 ((In 12) + 1)) (va_up (va_up (va_up (va_up (va_up (va_up (va_up (va_up (va_up Fw 29 (putM ((Fw 29)) 400 (nI (cn 0)) (atM ((Fw 29)) 400 (nI (cn 0)) + (-x6)))) 141 (upd ((va_up Fw 29 (putM ((Fw 29)) 400 (nI (cn 0)) (atM ((Fw 29)) 400 (nI (cn 0)) + (-x6)))) 141) (cn 12) x1)) 142 (upd ((va_up Fw 29 (putM ((Fw 29)) 400 (nI (cn 0)) (atM ((Fw 29)) 400 (nI (cn 0)) + (-x6)))) 142) (cn 12) x2)) 143 (upd ((va_up Fw 29 (putM ((Fw 29)) 400 (nI (cn 0)) (atM ((Fw 29)) 400 (nI (cn 0)) + (-x6)))) 143) (cn 12) x3)) 144 (upd ((va_up Fw 29 (putM ((Fw 29)) 400 (nI (cn 0)) (atM ((Fw 29)) 400 (nI (cn 0)) + (-x6)))) 144) (cn 12) x4)) 145 (upd ((va_up Fw 29 (putM ((Fw 29)) 400 (nI (cn 0)) (atM ((Fw 29)) 400 (nI (cn 0)) + (-x6)))) 145) (cn 12) x5)) 146 (upd ((va_up Fw 29 (putM ((Fw 29)) 400 (nI (cn 0)) (atM ((Fw 29)) 400 (nI (cn 0)) + (-x6)))) 146) (cn 12) x6)) 147 (upd ((va_up Fw 29 (putM ((Fw 29)) 400 (nI (cn 0)) (atM ((Fw 29)) 400 (nI (cn 0)) + (-x6)))) 147) (cn 12) (nI (cn 0)))) 150 (flat ((va_up Fw 29 (putM ((Fw 29)) 400 (nI (cn 0)) (atM ((Fw 29)) 400 (nI (cn 0)) + (-x6)))) 150) 12 (cn 12) f))) H1 := hP
          have hD : va_D A (wX cI (D.1 99) zz g (adO (adO (adO ad 12 (cn 12) bo) 1 (cn 12) w) 2 2 ua3) (va_up (va_up cn 12 ((cn 12) + 1)) 22 uc3) (va_up In 12 ((In 12) + 1)) (va_up (va_up (va_up (va_up (va_up (va_up (va_up (va_up (va_up Fw 29 (putM ((Fw 29)) 400 (nI (cn 0)) (atM ((Fw 29)) 400 (nI (cn 0)) + (-x6)))) 141 (upd ((va_up Fw 29 (putM ((Fw 29)) 400 (nI (cn 0)) (atM ((Fw 29)) 400 (nI (cn 0)) + (-x6)))) 141) (cn 12) x1)) 142 (upd ((va_up Fw 29 (putM ((Fw 29)) 400 (nI (cn 0)) (atM ((Fw 29)) 400 (nI (cn 0)) + (-x6)))) 142) (cn 12) x2)) 143 (upd ((va_up Fw 29 (putM ((Fw 29)) 400 (nI (cn 0)) (atM ((Fw 29)) 400 (nI (cn 0)) + (-x6)))) 143) (cn 12) x3)) 144 (upd ((va_up Fw 29 (putM ((Fw 29)) 400 (nI (cn 0)) (atM ((Fw 29)) 400 (nI (cn 0)) + (-x6)))) 144) (cn 12) x4)) 145 (upd ((va_up Fw 29 (putM ((Fw 29)) 400 (nI (cn 0)) (atM ((Fw 29)) 400 (nI (cn 0)) + (-x6)))) 145) (cn 12) x5)) 146 (upd ((va_up Fw 29 (putM ((Fw 29)) 400 (nI (cn 0)) (atM ((Fw 29)) 400 (nI (cn 0)) + (-x6)))) 146) (cn 12) x6)) 147 (upd ((va_up Fw 29 (putM ((Fw 29)) 400 (nI (cn 0)) (atM ((Fw 29)) 400 (nI (cn 0)) + (-x6)))) 147) (cn 12) (nI (cn 0)))) 150 (flat ((va_up Fw 29 (putM ((Fw 29)) 400 (nI (cn 0)) (atM ((Fw 29)) 400 (nI (cn 0)) + (-x6)))) 150) 12 (cn 12) f))) := hD
          generalize H1 = H at hP hS ⊢
          refine lv_pop hx hb dX11_keep_69 rfl ?_
          have hFr9 := (hfr2.2.2)
          exact W.vret hx hb hr (fun t ht hW => ⟨⟨((adO (adO (adO ad 12 (cn 12) bo) 1 (cn 12) w) 2 2 ua3), (va_up (va_up cn 12 ((cn 12) + 1)) 22 uc3), (va_up In 12 ((In 12) + 1)), (va_up (va_up (va_up (va_up (va_up (va_up (va_up (va_up (va_up Fw 29 (putM ((Fw 29)) 400 (nI (cn 0)) (atM ((Fw 29)) 400 (nI (cn 0)) + (-x6)))) 141 (upd ((va_up Fw 29 (putM ((Fw 29)) 400 (nI (cn 0)) (atM ((Fw 29)) 400 (nI (cn 0)) + (-x6)))) 141) (cn 12) x1)) 142 (upd ((va_up Fw 29 (putM ((Fw 29)) 400 (nI (cn 0)) (atM ((Fw 29)) 400 (nI (cn 0)) + (-x6)))) 142) (cn 12) x2)) 143 (upd ((va_up Fw 29 (putM ((Fw 29)) 400 (nI (cn 0)) (atM ((Fw 29)) 400 (nI (cn 0)) + (-x6)))) 143) (cn 12) x3)) 144 (upd ((va_up Fw 29 (putM ((Fw 29)) 400 (nI (cn 0)) (atM ((Fw 29)) 400 (nI (cn 0)) + (-x6)))) 144) (cn 12) x4)) 145 (upd ((va_up Fw 29 (putM ((Fw 29)) 400 (nI (cn 0)) (atM ((Fw 29)) 400 (nI (cn 0)) + (-x6)))) 145) (cn 12) x5)) 146 (upd ((va_up Fw 29 (putM ((Fw 29)) 400 (nI (cn 0)) (atM ((Fw 29)) 400 (nI (cn 0)) + (-x6)))) 146) (cn 12) x6)) 147 (upd ((va_up Fw 29 (putM ((Fw 29)) 400 (nI (cn 0)) (atM ((Fw 29)) 400 (nI (cn 0)) + (-x6)))) 147) (cn 12) (nI (cn 0)))) 150 (flat ((va_up Fw 29 (putM ((Fw 29)) 400 (nI (cn 0)) (atM ((Fw 29)) 400 (nI (cn 0)) + (-x6)))) 150) 12 (cn 12) f))), rfl, ⟨Fw, hFr9, ua3, uc3, ((In 12) + 1), ⟨by omega, by omega⟩, rfl, rfl, rfl, rfl⟩, by rw [ht]; exact hP, hD⟩, hS.F ht⟩) hS.2.2 dX11_keep_70
      ·
        have tc_1 : ((nI i2).toInt : Int) < 20 := Int32.lt_iff_toInt_lt.mp (Int32.not_le.mp c_1)
        refine lv_aload_n hx hb dX11_keep_8 rfl (lvA1 hl) ?_
        refine lv_iload_n hx hb dX11_keep_9 rfl (lvA0 hl) ?_
        refine va_csq (runV_rxa (As := [.int (nI i2)]) (rest := []) S (q_XloadAt l D cI cB cZ zz qq vv bt g ad cn In Fw (nI i2) hI2) kV_RX11_148 hK hXS hS (exP hP) 0 xo_0 rfl rfl ⟨Nat.le_of_ble_eq_true rfl, Nat.le_of_ble_eq_true rfl⟩ ⟨Nat.le_of_ble_eq_true rfl, Nat.le_of_ble_eq_true rfl⟩ rfl hl.1 rfl (Nat.le_of_ble_eq_true rfl) dX11_keep_10) (fun r_5 h_6 => ?_)
        rcases h_6 with ⟨mr_5, er_5, hr_5, rfl⟩ | ⟨hr_5, rfl⟩
        ·
          refine lv_astore_n (lv' := [(3, .ref (ad 11 mr_5)), (2, .int (nI i2)), (0, .ref (g 0)), (1, .ref bo)]) hx hb dX11_keep_13 rfl hl (ltb rfl) rfl (fun ls hl => ?_)
          refine lv_aload_n hx hb dX11_keep_14 rfl (lvA0 hl) ?_
          refine lv_ifnull hx hb dX11_keep_15 ?_
          refine lv_aload_n hx hb dX11_keep_18 rfl (lvA3 hl) ?_
          refine lv_iload_n hx hb dX11_keep_19 rfl (lvA1 hl) ?_
          refine vp_callSi (runV_r (As := [.int (nI i2)]) (rest := []) S (q_l_has l D cI cB cZ bo w x1 x2 x3 x4 x5 x6 x7 (nI i2)) kV_RX11_378 hK hP _ (one_is (exr (m := 0) rfl)) _ (exr (m := 0) rfl) rfl rfl ⟨Nat.le_of_ble_eq_true rfl, Nat.le_of_ble_eq_true rfl⟩ ⟨Nat.le_of_ble_eq_true rfl, Nat.le_of_ble_eq_true rfl⟩ rfl hl.1 rfl (Nat.le_of_ble_eq_true rfl) dX11_keep_20) (fun r_7 h_8 => ?_)
          rcases h_8 with ⟨rfl, h_8⟩ | ⟨rfl, h_8⟩
          ·
            refine lv_if_eq (tgt := 31) hx hb dX11_keep_23 rfl (fun h => absurd h cq_eq_1_0) (fun _ => ?_)
            refine lv_aload_n hx hb dX11_keep_26 rfl (lvA0 hl) ?_
            refine lv_iconst (v := 1) hx hb dX11_keep_27 kic_1 ?_
            refine pf_RX11_349 S hK hP hD hS _ (exl (xf_1 (by omega))) (v := .int 1) (Nat.le_of_ble_eq_true rfl) rfl rfl dX11_keep_28 (fun H locs hP hD hS => ?_)
            have hP : va_P D vwCl ((wX cI (D.1 99) zz g ad cn In (va_up Fw 129 (upd (Fw 129) mr_5 1))) ++ ([(bo, .inr (1, [.ref w, .int x1, .int x2, .int x3, .int x4, .int x5, .int x6, .int x7])), (w, .inl (cI, 12, .inl f))] : va_W)) H := va_P_eq (exs_l (xf_1 (by omega)) (xs_129 (by omega))) hP
            have hD : va_D A ((wX cI (D.1 99) zz g ad cn In (va_up Fw 129 (upd (Fw 129) mr_5 1))) ++ ([(bo, .inr (1, [.ref w, .int x1, .int x2, .int x3, .int x4, .int x5, .int x6, .int x7])), (w, .inl (cI, 12, .inl f))] : va_W)) := va_D_eq (exs_l (xf_1 (by omega)) (xs_129 (by omega))) hD
            refine lv_iinc (v := (nI (i2 + 1))) (lv' := [(2, .int (nI (i2 + 1))), (3, .ref (ad 11 mr_5)), (0, .ref (g 0)), (1, .ref bo)]) hx hb dX11_keep_31 hl (k := 1) rfl (nI_1 _) (ltb rfl) rfl (fun ls hl => ?_)
            refine lv_goto (tgt := 2) hx hb dX11_keep_34 rfl ?_
            exact ih2 (i2 + 1) (va_up Fw 129 (upd (Fw 129) mr_5 1)) _ _ (by omega) ⟨(by omega), (Fr.mo (Fr.f 129 hfr2) (sbl rfl) (sbl rfl) (sbl rfl)), hI2⟩ hP hD hS ls (lv_sub hl [0, 2, 3] rfl)
          ·
            refine lv_if_eq (tgt := 31) hx hb dX11_keep_23 rfl (fun _ => ?_) (fun h => absurd h cq_eq_0_0)
            refine lv_iinc (v := (nI (i2 + 1))) (lv' := [(2, .int (nI (i2 + 1))), (3, .ref (ad 11 mr_5)), (0, .ref (g 0)), (1, .ref bo)]) hx hb dX11_keep_31 hl (k := 1) rfl (nI_1 _) (ltb rfl) rfl (fun ls hl => ?_)
            refine lv_goto (tgt := 2) hx hb dX11_keep_34 rfl ?_
            exact ih2 (i2 + 1) Fw _ _ (by omega) ⟨(by omega), (Fr.mo hfr2 (sbl rfl) (sbl rfl) (sbl rfl)), hI2⟩ hP hD hS ls (lv_sub hl [0, 2, 3] rfl)
        ·
          refine lv_astore_nN (lv' := [(3, .null), (2, .int (nI i2)), (0, .ref (g 0)), (1, .ref bo)]) hx hb dX11_keep_13 rfl hl (ltb rfl) rfl (fun ls hl => ?_)
          refine lv_aload_nN hx hb dX11_keep_14 rfl (lvA0 hl) ?_
          refine lv_ifnullN (tgt := 31) hx hb dX11_keep_15 rfl ?_
          refine lv_iinc (v := (nI (i2 + 1))) (lv' := [(2, .int (nI (i2 + 1))), (3, .null), (0, .ref (g 0)), (1, .ref bo)]) hx hb dX11_keep_31 hl (k := 1) rfl (nI_1 _) (ltb rfl) rfl (fun ls hl => ?_)
          refine lv_goto (tgt := 2) hx hb dX11_keep_34 rfl ?_
          exact ih2 (i2 + 1) Fw _ _ (by omega) ⟨(by omega), (Fr.mo hfr2 (sbl rfl) (sbl rfl) (sbl rfl)), hI2⟩ hP hD hS ls (lv_sub hl [0, 2, 3] rfl)
  exact lp_2 _ 0 Fn _ _ (Nat.lt_succ_self _) ⟨(by omega), (Fr.mo Fr.rf (sbl rfl) (sbl rfl) (sbl rfl)), hB⟩ hP hD hS ls (lv_sub hl [0, 1, 2] rfl)
set_option maxRecDepth 100000 in
set_option maxHeartbeats 4000000 in
theorem q_Xbatch (l : Launch) (D : va_G) (cI cB cZ : ClassId) (zz qq vv : Nat) (bt : Nat → Int32) (g : Nat → Nat) (ad : Nat → Nat → Nat) (cn : Nat → Nat) (In : Nat → Int32) (Fn : Nat → Nat → Int32) (v0 : Int32) (sz : Nat) (hB : CBX cn) (hT : (∀ k : Nat, k < cn 10 → ad 3 k < cn 6) ∧ ad 4 0 < cn 6 ∧ ad 4 1 < cn 6) (hC : ∀ k : Nat, k < cn 6 → ∃ n : Nat, n ≤ 12 ∧ Fn 198 k = nI n) : Met l yX11_batch (CWS yX11_batch cX11_batch 4 (some .int)) (RM 9 3 120) (PBx [.ref (g 0), .int v0] D cI cB cZ zz qq vv bt (wX cI (D.1 99) zz g ad cn In Fn) sz) (va_Qi (fun (r : Int32) (u : (Nat → Nat → Nat) × (Nat → Nat) × (Nat → Int32) × (Nat → Nat → Int32)) => (fun r a2 c2 I2 F2 => ∃ (Fb : Nat → Nat → Int32), (∀ k, k ∉ [7, 129, 196, 197, 305] → Fb k = Fn k) ∧ ((ad = a2 ∧ cn = c2 ∧ In = I2 ∧ Fb = F2) ∨ (r = nI (cn 12) ∧ cn 12 < 10 ∧ ∃ (q qs z c : Nat) (y x1 x2 x4 x5 x6 : Int32), (cn 12 < c ∧ c ≤ 100) ∧ (adO (adO (adO ad 12 (cn 12) q) 1 (cn 12) qs) 2 2 z) = a2 ∧ (va_up (va_up cn 12 ((cn 12) + 1)) 22 c) = c2 ∧ (va_up In 12 y) = I2 ∧ (va_up (va_up (va_up (va_up (va_up (va_up (va_up (va_up (va_up Fb 29 (putM (Fb 29) 400 (nI (cn 0)) (atM (Fb 29) 400 (nI (cn 0)) + -x6))) 141 (upd ((va_up Fb 29 (putM (Fb 29) 400 (nI (cn 0)) (atM (Fb 29) 400 (nI (cn 0)) + -x6))) 141) (cn 12) x1)) 142 (upd ((va_up Fb 29 (putM (Fb 29) 400 (nI (cn 0)) (atM (Fb 29) 400 (nI (cn 0)) + -x6))) 142) (cn 12) x2)) 143 (upd ((va_up Fb 29 (putM (Fb 29) 400 (nI (cn 0)) (atM (Fb 29) 400 (nI (cn 0)) + -x6))) 143) (cn 12) 0)) 144 (upd ((va_up Fb 29 (putM (Fb 29) 400 (nI (cn 0)) (atM (Fb 29) 400 (nI (cn 0)) + -x6))) 144) (cn 12) x4)) 145 (upd ((va_up Fb 29 (putM (Fb 29) 400 (nI (cn 0)) (atM (Fb 29) 400 (nI (cn 0)) + -x6))) 145) (cn 12) x5)) 146 (upd ((va_up Fb 29 (putM (Fb 29) 400 (nI (cn 0)) (atM (Fb 29) 400 (nI (cn 0)) + -x6))) 146) (cn 12) x6)) 147 (upd ((va_up Fb 29 (putM (Fb 29) 400 (nI (cn 0)) (atM (Fb 29) 400 (nI (cn 0)) + -x6))) 147) (cn 12) (nI (cn 0)))) 150 (flat ((va_up Fb 29 (putM (Fb 29) 400 (nI (cn 0)) (atM (Fb 29) 400 (nI (cn 0)) + -x6))) 150) 12 (cn 12) (fun _ => 0))) = F2))) r u.1 u.2.1 u.2.2.1 u.2.2.2) (fun (u : (Nat → Nat → Nat) × (Nat → Nat) × (Nat → Int32) × (Nat → Nat → Int32)) (t : State) => va_P D vwCl (wX cI (D.1 99) zz g u.1 u.2.1 u.2.2.1 u.2.2.2) t.heap ∧ va_D (va_A (wX cI (D.1 99) zz g ad cn In Fn) sz) (wX cI (D.1 99) zz g u.1 u.2.1 u.2.2.1 u.2.2.2)) (va_A (wX cI (D.1 99) zz g ad cn In Fn) sz)) 3 120 (va_A (wX cI (D.1 99) zz g ad cn In Fn) sz) := by
  refine en_x (fun A => (va_Qi (fun (r : Int32) (u : (Nat → Nat → Nat) × (Nat → Nat) × (Nat → Int32) × (Nat → Nat → Int32)) => (fun (r : Int32) (a2 : Nat → Nat → Nat) (c2 : Nat → Nat) (I2 : Nat → Int32) (F2 : Nat → Nat → Int32) => ∃ (Fb : Nat → Nat → Int32), (∀ k, k ∉ [7, 129, 196, 197, 305] → Fb k = Fn k) ∧ ((ad = a2 ∧ cn = c2 ∧ In = I2 ∧ Fb = F2) ∨ (r = nI (cn 12) ∧ cn 12 < 10 ∧ ∃ (q qs z c : Nat) (y x1 x2 x4 x5 x6 : Int32), (cn 12 < c ∧ c ≤ 100) ∧ (adO (adO (adO ad 12 (cn 12) q) 1 (cn 12) qs) 2 2 z) = a2 ∧ (va_up (va_up cn 12 ((cn 12) + 1)) 22 c) = c2 ∧ (va_up In 12 y) = I2 ∧ (va_up (va_up (va_up (va_up (va_up (va_up (va_up (va_up (va_up Fb 29 (putM (Fb 29) 400 (nI (cn 0)) (atM (Fb 29) 400 (nI (cn 0)) + -x6))) 141 (upd ((va_up Fb 29 (putM (Fb 29) 400 (nI (cn 0)) (atM (Fb 29) 400 (nI (cn 0)) + -x6))) 141) (cn 12) x1)) 142 (upd ((va_up Fb 29 (putM (Fb 29) 400 (nI (cn 0)) (atM (Fb 29) 400 (nI (cn 0)) + -x6))) 142) (cn 12) x2)) 143 (upd ((va_up Fb 29 (putM (Fb 29) 400 (nI (cn 0)) (atM (Fb 29) 400 (nI (cn 0)) + -x6))) 143) (cn 12) 0)) 144 (upd ((va_up Fb 29 (putM (Fb 29) 400 (nI (cn 0)) (atM (Fb 29) 400 (nI (cn 0)) + -x6))) 144) (cn 12) x4)) 145 (upd ((va_up Fb 29 (putM (Fb 29) 400 (nI (cn 0)) (atM (Fb 29) 400 (nI (cn 0)) + -x6))) 145) (cn 12) x5)) 146 (upd ((va_up Fb 29 (putM (Fb 29) 400 (nI (cn 0)) (atM (Fb 29) 400 (nI (cn 0)) + -x6))) 146) (cn 12) x6)) 147 (upd ((va_up Fb 29 (putM (Fb 29) 400 (nI (cn 0)) (atM (Fb 29) 400 (nI (cn 0)) + -x6))) 147) (cn 12) (nI (cn 0)))) 150 (flat ((va_up Fb 29 (putM (Fb 29) 400 (nI (cn 0)) (atM (Fb 29) 400 (nI (cn 0)) + -x6))) 150) 12 (cn 12) (fun _ => 0))) = F2))) r u.1 u.2.1 u.2.2.1 u.2.2.2) (fun (u : (Nat → Nat → Nat) × (Nat → Nat) × (Nat → Int32) × (Nat → Nat → Int32)) (t : State) => va_P D vwCl (wX cI (D.1 99) zz g u.1 u.2.1 u.2.2.1 u.2.2.2) t.heap ∧ va_D A (wX cI (D.1 99) zz g u.1 u.2.1 u.2.2.1 u.2.2.2)) A)) rfl rfl pn_RX11 (Nat.le_of_ble_eq_true rfl) (fun p e s m below meth c A hx hb hml hown S hr hlocks hnm hA hP hK hD hXS hS ls hl => ?_)
  have hl : lv_has ls 4 [(0, .ref (g 0)), (1, .int v0)] := hl
  refine lv_iload_n hx hb dX11_batch_0 rfl (lvA1 hl) ?_
  refine lv_iconst (v := 1) hx hb dX11_batch_1 kic_1 ?_
  refine lv_ldcw (v := 1048575) hx hb hown (S.2.2.2.2 _ (wk4_17 2 rfl rfl)) dX11_batch_2 ?_
  refine vp_callSi (runS_r (As := [.int v0, .int 1, .int 1048575]) (rest := []) S (q_l_within l D cI cB cZ v0 1 1048575) kS_RX11_80 hK hP [] rfl ⟨Nat.le_of_ble_eq_true rfl, Nat.le_of_ble_eq_true rfl⟩ ⟨Nat.le_of_ble_eq_true rfl, Nat.le_of_ble_eq_true rfl⟩ rfl hl.1 rfl (Nat.le_of_ble_eq_true rfl) dX11_batch_5) (fun r_1 h_2 => ?_)
  rcases h_2 with ⟨rfl, h_2⟩ | ⟨rfl, h_2⟩
  ·
    have h_2 : 1 ≤ v0.toInt ∧ v0.toInt ≤ 1048575 := h_2
    refine lv_if_eq (tgt := 23) hx hb dX11_batch_8 rfl (fun h => absurd h cq_eq_1_0) (fun _ => ?_)
    refine lv_aload_n hx hb dX11_batch_11 rfl (lvA0 hl) ?_
    refine gf_RX11_68 S hK hP 0 xo_0 (v := .ref (g 12)) rfl dX11_batch_12 ?_
    refine vp_callSi (runV_r (As := []) (rest := []) S (q_l_size l D cI cB cZ (g 12) (if (cn 12) = 0 then zz else ad 2 2) (In 12) (nI (cn 12))) kV_RX11_84 hK hP [26] (one_is xo_26) 26 xo_26 rfl rfl ⟨Nat.le_of_ble_eq_true rfl, Nat.le_of_ble_eq_true rfl⟩ ⟨Nat.le_of_ble_eq_true rfl, Nat.le_of_ble_eq_true rfl⟩ rfl hl.1 rfl (Nat.le_of_ble_eq_true rfl) dX11_batch_15) (fun r_3 h_4 => ?_)
    subst h_4
    refine lv_bipush (v := 10) hx hb dX11_batch_18 kbc_10 ?_
    have : (nI (cn 12)).toInt = (((cn 12) : Nat) : Int) := nI_toInt (by omega)
    refine lv_icmp_lt (tgt := 25) hx hb dX11_batch_20 rfl (fun c_5 => ?_) (fun c_5 => ?_)
    ·
      have tc_5 : ((nI (cn 12)).toInt : Int) < 10 := Int32.lt_iff_toInt_lt.mp c_5
      refine lv_aload_n hx hb dX11_batch_25 rfl (lvA0 hl) ?_
      refine lv_iload_n hx hb dX11_batch_26 rfl (lvA1 hl) ?_
      have hFc := free_all hD hS hA
      refine va_callq (runV_xa (As := [.int v0]) (rest := []) S (q_Emixed l D cI cB cZ zz qq vv bt g ad cn In Fn v0 s.heap.size hB) kV_RX11_363 hK hXS hS hFc hP hD 0 xo_0 rfl rfl ⟨Nat.le_of_ble_eq_true rfl, Nat.le_of_ble_eq_true rfl⟩ ⟨Nat.le_of_ble_eq_true rfl, Nat.le_of_ble_eq_true rfl⟩ rfl hl.1 rfl (Nat.le_of_ble_eq_true rfl) dX11_batch_27) hS (fun q _ h => hFc q h) hFc (fun r5 u5 t H1 locs ht hvm h5 hB1 hz1 hk1 hS => ?_)
      obtain ⟨hP1, hD1⟩ := hB1
      rw [ht] at hP1
      obtain ⟨a5, c5, I5, F5, W5⟩ := u5
      obtain ⟨rfl, rfl, rfl, rfl, h5⟩ := h5
      rcases h5 with ⟨rfl, rfl⟩ | ⟨bo5, w5, xa5, xb5, xd5, xe5, xf5, rfl, rfl⟩
      ·
        rw [List.append_nil] at hP1 hD1
        have hP : va_P D vwCl (wX cI (D.1 99) zz g ad cn In Fn) H1 := hP1
        have hD : va_D A (wX cI (D.1 99) zz g ad cn In Fn) := hD1.weaken (fun _ _ _ h => hFc _ h)
        generalize H1 = H at hP hS ⊢
        refine lv_astore_nN (lv' := [(2, .null), (0, .ref (g 0)), (1, .int v0)]) hx hb dX11_batch_30 rfl hl (ltb rfl) rfl (fun ls hl => ?_)
        refine lv_aload_nN hx hb dX11_batch_31 rfl (lvA0 hl) ?_
        refine lv_ifnonnullN hx hb dX11_batch_32 ?_
        refine lv_iconst (v := (-1)) hx hb dX11_batch_35 kic_m1 ?_
        refine W.widen (k := 3) (n := 120) (Nat.le_of_ble_eq_true rfl) (Nat.le_of_ble_eq_true rfl) ?_
        exact W.iret (v := (-1)) hx hb hr (fun t ht hW => ⟨⟨(-1), (ad, cn, In, Fn), rfl, ⟨Fn, (Fr.mo (show Fr [] [] [] cn In Fn cn In Fn from Fr.rf) (sbl rfl) (sbl rfl) (sbl rfl) : Fr [] [] [7, 129, 196, 197, 305] cn In Fn cn In Fn).2.2, Or.inl ⟨rfl, rfl, rfl, rfl⟩⟩, by rw [ht]; exact hP, hD⟩, hS.F ht⟩) hS.2.2 dX11_batch_36
      ·
        have hP : va_P D vwCl ((wX cI (D.1 99) zz g ad cn In Fn) ++ ([(bo5, .inr (1, [.ref w5, .int xa5, .int xb5, .int 0, .int xd5, .int xe5, .int xf5, .int 0])), (w5, .inl (cI, 12, .inl (fun _ => 0)))] : va_W)) H1 := hP1
        have hD : va_D A ((wX cI (D.1 99) zz g ad cn In Fn) ++ ([(bo5, .inr (1, [.ref w5, .int xa5, .int xb5, .int 0, .int xd5, .int xe5, .int xf5, .int 0])), (w5, .inl (cI, 12, .inl (fun _ => 0)))] : va_W)) := hD1.weaken (fun _ _ _ h => hFc _ h)
        generalize H1 = H at hP hS ⊢
        refine lv_astore_n (lv' := [(2, .ref bo5), (0, .ref (g 0)), (1, .int v0)]) hx hb dX11_batch_30 rfl hl (ltb rfl) rfl (fun ls hl => ?_)
        refine lv_aload_n hx hb dX11_batch_31 rfl (lvA0 hl) ?_
        refine lv_ifnonnull (tgt := 37) hx hb dX11_batch_32 rfl ?_
        refine lv_aload_n hx hb dX11_batch_37 rfl (lvA1 hl) ?_
        have hFc := free_all (exD hD) hS hA
        refine va_callv (runV_xa (As := []) (rest := []) S (q_XlettersOfLaw l D cI cB cZ zz qq vv bt g ad cn In Fn  H.size hB) kV_RX11_367 hK hXS hS hFc (exP hP) (exD hD) 0 xo_0 rfl rfl ⟨Nat.le_of_ble_eq_true rfl, Nat.le_of_ble_eq_true rfl⟩ ⟨Nat.le_of_ble_eq_true rfl, Nat.le_of_ble_eq_true rfl⟩ rfl hl.1 rfl (Nat.le_of_ble_eq_true rfl) dX11_batch_38) hS (fun q _ h => hFc q h) hFc (fun u t H1 locs ht hvm wh_8 hB1 hz1 hk1 hS => ?_)
        obtain ⟨cn8, In8, Fn8⟩ := u
        obtain ⟨hP1, hD1⟩ := hB1
        rw [ht] at hP1
        obtain ⟨hP, hD⟩ := exjoinL hP hD hk1 hFc hP1 hD1
        have hP : va_P D vwCl ((wX cI (D.1 99) zz g ad cn8 In8 Fn8) ++ ([(bo5, .inr (1, [.ref w5, .int xa5, .int xb5, .int 0, .int xd5, .int xe5, .int xf5, .int 0])), (w5, .inl (cI, 12, .inl (fun _ => 0)))] : va_W)) H1 := hP
        have hD : va_D A ((wX cI (D.1 99) zz g ad cn8 In8 Fn8) ++ ([(bo5, .inr (1, [.ref w5, .int xa5, .int xb5, .int 0, .int xd5, .int xe5, .int xf5, .int 0])), (w5, .inl (cI, 12, .inl (fun _ => 0)))] : va_W)) := hD
        generalize H1 = H at hP hS ⊢
        have vh_8 : (fun c2 I2 F2 => Fr [] [] [7] cn In Fn c2 I2 F2 ∧ CBX c2 ∧ (True)) cn8 In8 Fn8 := wh_8
        obtain ⟨hfc8, hIn8, h_8⟩ := vh_8
        obtain rfl : cn = cn8 := (funext (fun k => hfc8.1 k List.not_mem_nil)).symm
        obtain rfl : In = In8 := (funext (fun k => hfc8.2.1 k List.not_mem_nil)).symm
        have hf8 : Fr [] [] [7, 129, 196, 197, 305] cn In Fn cn In Fn8 := Fr.mo (Fr.tr (Fr.rf (cn := cn) (In := In) (Fn := Fn)) hfc8) (sbl rfl) (sbl rfl) (sbl rfl)
        refine lv_aload_n hx hb dX11_batch_41 rfl (lvA1 hl) ?_
        refine lv_aload_n hx hb dX11_batch_42 rfl (lvA0 hl) ?_
        have hFc := free_all hD hS hA
        refine va_calli (runV_xa (As := [.ref bo5]) (rest := []) S (q_EbrokenClause l D cI cB cZ zz qq vv bt g ad cn In Fn8 bo5 w5 xa5 xb5 0 xd5 xe5 xf5 0 (([(w5, .inl (cI, 12, .inl (fun _ => 0)))] : va_W)) H.size hIn8 hT (fun k hk => by rw [hf8.2.2 198 (nml rfl)]; exact hC k hk)) kV_RX11_370 hK hXS hS hFc hP hD _ (exl xo_0) rfl rfl ⟨Nat.le_of_ble_eq_true rfl, Nat.le_of_ble_eq_true rfl⟩ ⟨Nat.le_of_ble_eq_true rfl, Nat.le_of_ble_eq_true rfl⟩ rfl hl.1 rfl (Nat.le_of_ble_eq_true rfl) dX11_batch_43) hS (fun q _ h => hFc q h) hFc (fun r8 u8 t H1 locs ht hvm h8 hB1 hz1 hk1 hS => ?_)
        obtain ⟨hP1, hD1⟩ := hB1
        rw [ht] at hP1
        obtain ⟨a8, c8, I8, F8⟩ := u8
        obtain ⟨rfl, rfl, rfl, h8⟩ := h8
        have hf8 : Fr [] [] [7, 129, 196, 197, 305] cn In Fn cn In F8 := Fr.mo (Fr.tr hf8 (show Fr [] [] [7, 196, 197, 305] cn In Fn8 cn In F8 from ⟨fun _ _ => rfl, fun _ _ => rfl, h8⟩)) (sbl rfl) (sbl rfl) (sbl rfl)
        have hP : va_P D vwCl ((wX cI (D.1 99) zz g ad cn In F8) ++ ([(bo5, .inr (1, [.ref w5, .int xa5, .int xb5, .int 0, .int xd5, .int xe5, .int xf5, .int 0])), (w5, .inl (cI, 12, .inl (fun _ => 0)))] : va_W)) H1 := hP1
        have hD : va_D A ((wX cI (D.1 99) zz g ad cn In F8) ++ ([(bo5, .inr (1, [.ref w5, .int xa5, .int xb5, .int 0, .int xd5, .int xe5, .int xf5, .int 0])), (w5, .inl (cI, 12, .inl (fun _ => 0)))] : va_W)) := hD1.weaken (fun _ _ _ h => hFc _ h)
        generalize H1 = H at hP hS ⊢
        refine lv_istore_n (lv' := [(3, .int r8), (2, .ref bo5), (0, .ref (g 0)), (1, .int v0)]) hx hb dX11_batch_46 rfl hl (ltb rfl) rfl (fun ls hl => ?_)
        refine lv_iload_n hx hb dX11_batch_47 rfl (lvA0 hl) ?_
        refine lv_iconst (v := (-1)) hx hb dX11_batch_48 kic_m1 ?_
        refine lv_icmp_eq (tgt := 57) hx hb dX11_batch_49 rfl (fun c_10 => ?_) (fun c_10 => ?_)
        ·
          have tc_10 : (r8.toInt : Int) = (-1) := congrArg Int32.toInt c_10
          refine lv_aload_n hx hb dX11_batch_57 rfl (lvA2 hl) ?_
          refine lv_aload_n hx hb dX11_batch_58 rfl (lvA1 hl) ?_
          have hFc := free_all hD hS hA
          refine va_callv (runV_xa (As := [.ref bo5]) (rest := []) S (q_Ekeep l D cI cB cZ zz qq vv bt g ad cn In F8 bo5 w5 xa5 xb5 0 xd5 xe5 xf5 0 (fun _ => 0) H.size hIn8 (by omega) (fun _ _ => rfl)) kV_RX11_374 hK hXS hS hFc hP hD _ (exl xo_0) rfl rfl ⟨Nat.le_of_ble_eq_true rfl, Nat.le_of_ble_eq_true rfl⟩ ⟨Nat.le_of_ble_eq_true rfl, Nat.le_of_ble_eq_true rfl⟩ rfl hl.1 rfl (Nat.le_of_ble_eq_true rfl) dX11_batch_59) hS (fun q _ h => hFc q h) hFc (fun u10 t H1 locs ht hvm h10 hB1 hz1 hk1 hS => ?_)
          obtain ⟨hP1, hD1⟩ := hB1
          rw [ht] at hP1
          obtain ⟨a10, c10, I10, F10⟩ := u10
          obtain ⟨G10, hG10, z10, k10, y10, hk10, rfl, rfl, rfl, rfl⟩ := h10
          have hf10 : Fr [] [] [7, 129, 196, 197, 305] cn In Fn cn In G10 := Fr.mo (Fr.tr hf8 (show Fr [] [] [129] cn In F8 cn In G10 from ⟨fun _ _ => rfl, fun _ _ => rfl, hG10⟩)) (sbl rfl) (sbl rfl) (sbl rfl)
          have hP : va_P D vwCl (wX cI (D.1 99) zz g (adO (adO (adO ad 12 (cn 12) bo5) 1 (cn 12) w5) 2 2 z10) (va_up (va_up cn 12 ((cn 12) + 1)) 22 k10) (va_up In 12 y10) (va_up (va_up (va_up (va_up (va_up (va_up (va_up (va_up (va_up G10 29 (putM (G10 29) 400 (nI (cn 0)) (atM (G10 29) 400 (nI (cn 0)) + -xf5))) 141 (upd ((va_up G10 29 (putM (G10 29) 400 (nI (cn 0)) (atM (G10 29) 400 (nI (cn 0)) + -xf5))) 141) (cn 12) xa5)) 142 (upd ((va_up G10 29 (putM (G10 29) 400 (nI (cn 0)) (atM (G10 29) 400 (nI (cn 0)) + -xf5))) 142) (cn 12) xb5)) 143 (upd ((va_up G10 29 (putM (G10 29) 400 (nI (cn 0)) (atM (G10 29) 400 (nI (cn 0)) + -xf5))) 143) (cn 12) 0)) 144 (upd ((va_up G10 29 (putM (G10 29) 400 (nI (cn 0)) (atM (G10 29) 400 (nI (cn 0)) + -xf5))) 144) (cn 12) xd5)) 145 (upd ((va_up G10 29 (putM (G10 29) 400 (nI (cn 0)) (atM (G10 29) 400 (nI (cn 0)) + -xf5))) 145) (cn 12) xe5)) 146 (upd ((va_up G10 29 (putM (G10 29) 400 (nI (cn 0)) (atM (G10 29) 400 (nI (cn 0)) + -xf5))) 146) (cn 12) xf5)) 147 (upd ((va_up G10 29 (putM (G10 29) 400 (nI (cn 0)) (atM (G10 29) 400 (nI (cn 0)) + -xf5))) 147) (cn 12) (nI (cn 0)))) 150 (flat ((va_up G10 29 (putM (G10 29) 400 (nI (cn 0)) (atM (G10 29) 400 (nI (cn 0)) + -xf5))) 150) 12 (cn 12) (fun _ => 0)))) H1 := hP1
          have hD : va_D A (wX cI (D.1 99) zz g (adO (adO (adO ad 12 (cn 12) bo5) 1 (cn 12) w5) 2 2 z10) (va_up (va_up cn 12 ((cn 12) + 1)) 22 k10) (va_up In 12 y10) (va_up (va_up (va_up (va_up (va_up (va_up (va_up (va_up (va_up G10 29 (putM (G10 29) 400 (nI (cn 0)) (atM (G10 29) 400 (nI (cn 0)) + -xf5))) 141 (upd ((va_up G10 29 (putM (G10 29) 400 (nI (cn 0)) (atM (G10 29) 400 (nI (cn 0)) + -xf5))) 141) (cn 12) xa5)) 142 (upd ((va_up G10 29 (putM (G10 29) 400 (nI (cn 0)) (atM (G10 29) 400 (nI (cn 0)) + -xf5))) 142) (cn 12) xb5)) 143 (upd ((va_up G10 29 (putM (G10 29) 400 (nI (cn 0)) (atM (G10 29) 400 (nI (cn 0)) + -xf5))) 143) (cn 12) 0)) 144 (upd ((va_up G10 29 (putM (G10 29) 400 (nI (cn 0)) (atM (G10 29) 400 (nI (cn 0)) + -xf5))) 144) (cn 12) xd5)) 145 (upd ((va_up G10 29 (putM (G10 29) 400 (nI (cn 0)) (atM (G10 29) 400 (nI (cn 0)) + -xf5))) 145) (cn 12) xe5)) 146 (upd ((va_up G10 29 (putM (G10 29) 400 (nI (cn 0)) (atM (G10 29) 400 (nI (cn 0)) + -xf5))) 146) (cn 12) xf5)) 147 (upd ((va_up G10 29 (putM (G10 29) 400 (nI (cn 0)) (atM (G10 29) 400 (nI (cn 0)) + -xf5))) 147) (cn 12) (nI (cn 0)))) 150 (flat ((va_up G10 29 (putM (G10 29) 400 (nI (cn 0)) (atM (G10 29) 400 (nI (cn 0)) + -xf5))) 150) 12 (cn 12) (fun _ => 0)))) := hD1.weaken (fun _ _ _ h => hFc _ h)
          generalize H1 = H at hP hS ⊢
          refine lv_aload_n hx hb dX11_batch_62 rfl (lvA2 hl) ?_
          refine gf_RX11_68 S hK hP 0 xo_0 (v := .ref (g 12)) rfl dX11_batch_63 ?_
          refine vp_callSi (runV_r (As := []) (rest := []) S (q_l_size l D cI cB cZ (g 12) (if ((cn 12) + 1) = 0 then zz else (adO (adO (adO ad 12 (cn 12) bo5) 1 (cn 12) w5) 2 2 z10) 2 2) y10 (nI ((cn 12) + 1))) kV_RX11_84 hK hP [26] (one_is xo_26) 26 xo_26 rfl rfl ⟨Nat.le_of_ble_eq_true rfl, Nat.le_of_ble_eq_true rfl⟩ ⟨Nat.le_of_ble_eq_true rfl, Nat.le_of_ble_eq_true rfl⟩ rfl hl.1 rfl (Nat.le_of_ble_eq_true rfl) dX11_batch_66) (fun r_12 h_13 => ?_)
          subst h_13
          refine lv_iconst (v := 1) hx hb dX11_batch_69 kic_1 ?_
          refine lv_isub hx hb dX11_batch_70 ?_
          refine lv_topi (fun y_14 ey_14 => ?_)
          obtain rfl : y_14 = (nI (cn 12)) := ey_14.trans (nI_sub (b := 1) (by omega))
          exact W.iret (v := (nI (cn 12))) hx hb hr (fun t ht hW => ⟨⟨(nI (cn 12)), ((adO (adO (adO ad 12 (cn 12) bo5) 1 (cn 12) w5) 2 2 z10), (va_up (va_up cn 12 ((cn 12) + 1)) 22 k10), (va_up In 12 y10), (va_up (va_up (va_up (va_up (va_up (va_up (va_up (va_up (va_up G10 29 (putM (G10 29) 400 (nI (cn 0)) (atM (G10 29) 400 (nI (cn 0)) + -xf5))) 141 (upd ((va_up G10 29 (putM (G10 29) 400 (nI (cn 0)) (atM (G10 29) 400 (nI (cn 0)) + -xf5))) 141) (cn 12) xa5)) 142 (upd ((va_up G10 29 (putM (G10 29) 400 (nI (cn 0)) (atM (G10 29) 400 (nI (cn 0)) + -xf5))) 142) (cn 12) xb5)) 143 (upd ((va_up G10 29 (putM (G10 29) 400 (nI (cn 0)) (atM (G10 29) 400 (nI (cn 0)) + -xf5))) 143) (cn 12) 0)) 144 (upd ((va_up G10 29 (putM (G10 29) 400 (nI (cn 0)) (atM (G10 29) 400 (nI (cn 0)) + -xf5))) 144) (cn 12) xd5)) 145 (upd ((va_up G10 29 (putM (G10 29) 400 (nI (cn 0)) (atM (G10 29) 400 (nI (cn 0)) + -xf5))) 145) (cn 12) xe5)) 146 (upd ((va_up G10 29 (putM (G10 29) 400 (nI (cn 0)) (atM (G10 29) 400 (nI (cn 0)) + -xf5))) 146) (cn 12) xf5)) 147 (upd ((va_up G10 29 (putM (G10 29) 400 (nI (cn 0)) (atM (G10 29) 400 (nI (cn 0)) + -xf5))) 147) (cn 12) (nI (cn 0)))) 150 (flat ((va_up G10 29 (putM (G10 29) 400 (nI (cn 0)) (atM (G10 29) 400 (nI (cn 0)) + -xf5))) 150) 12 (cn 12) (fun _ => 0)))), rfl, ⟨G10, ((hf10).2.2), Or.inr ⟨rfl, by omega, bo5, w5, z10, k10, y10, xa5, xb5, xd5, xe5, xf5, hk10, rfl, rfl, rfl, rfl⟩⟩, by rw [ht]; exact hP, hD⟩, hS.F ht⟩) hS.2.2 dX11_batch_71
        ·
          have tc_10 : (r8.toInt : Int) ≠ (-1) := fun q => c_10 (Int32.toInt_inj.mp q)
          refine lv_bipush (v := (-10)) hx hb dX11_batch_52 kbc_m10 ?_
          refine lv_iload_n hx hb dX11_batch_54 rfl (lvA0 hl) ?_
          refine lv_isub hx hb dX11_batch_55 ?_
          have hP := exP hP
          have hD := exD hD
          refine W.widen (k := 3) (n := 120) (Nat.le_of_ble_eq_true rfl) (Nat.le_of_ble_eq_true rfl) ?_
          exact W.iret (v := ((-10) - r8)) hx hb hr (fun t ht hW => ⟨⟨((-10) - r8), (ad, cn, In, F8), rfl, ⟨F8, (Fr.mo (show Fr [] [] [7, 129, 196, 197, 305] cn In Fn cn In F8 from hf8) (sbl rfl) (sbl rfl) (sbl rfl) : Fr [] [] [7, 129, 196, 197, 305] cn In Fn cn In F8).2.2, Or.inl ⟨rfl, rfl, rfl, rfl⟩⟩, by rw [ht]; exact hP, hD⟩, hS.F ht⟩) hS.2.2 dX11_batch_56
    ·
      have tc_5 : (10 : Int) ≤ (nI (cn 12)).toInt := Int32.le_iff_toInt_le.mp (Int32.not_lt.mp c_5)
      refine lv_iconst (v := (-1)) hx hb dX11_batch_23 kic_m1 ?_
      refine W.widen (k := 3) (n := 120) (Nat.le_of_ble_eq_true rfl) (Nat.le_of_ble_eq_true rfl) ?_
      exact W.iret (v := (-1)) hx hb hr (fun t ht hW => ⟨⟨(-1), (ad, cn, In, Fn), rfl, ⟨Fn, (Fr.mo (show Fr [] [] [] cn In Fn cn In Fn from Fr.rf) (sbl rfl) (sbl rfl) (sbl rfl) : Fr [] [] [7, 129, 196, 197, 305] cn In Fn cn In Fn).2.2, Or.inl ⟨rfl, rfl, rfl, rfl⟩⟩, by rw [ht]; exact hP, hD⟩, hS.F ht⟩) hS.2.2 dX11_batch_24
  ·
    have h_2 : ¬ (1 ≤ v0.toInt ∧ v0.toInt ≤ 1048575) := h_2
    refine lv_if_eq (tgt := 23) hx hb dX11_batch_8 rfl (fun _ => ?_) (fun h => absurd h cq_eq_0_0)
    refine lv_iconst (v := (-1)) hx hb dX11_batch_23 kic_m1 ?_
    refine W.widen (k := 3) (n := 120) (Nat.le_of_ble_eq_true rfl) (Nat.le_of_ble_eq_true rfl) ?_
    exact W.iret (v := (-1)) hx hb hr (fun t ht hW => ⟨⟨(-1), (ad, cn, In, Fn), rfl, ⟨Fn, (Fr.mo (show Fr [] [] [] cn In Fn cn In Fn from Fr.rf) (sbl rfl) (sbl rfl) (sbl rfl) : Fr [] [] [7, 129, 196, 197, 305] cn In Fn cn In Fn).2.2, Or.inl ⟨rfl, rfl, rfl, rfl⟩⟩, by rw [ht]; exact hP, hD⟩, hS.F ht⟩) hS.2.2 dX11_batch_24
set_option maxRecDepth 100000 in
set_option maxHeartbeats 4000000 in
theorem q_EgatherB (l : Launch) (D : va_G) (cI cB cZ : ClassId) (zz qq vv : Nat) (bt : Nat → Int32) (g : Nat → Nat) (ad : Nat → Nat → Nat) (cn : Nat → Nat) (In : Nat → Int32) (Fn : Nat → Nat → Int32) (ro : Nat) (f : Nat → Int32) (sz : Nat) (hB : CBX cn) : Met l yX11_gatherBlendable (CWS yX11_gatherBlendable cX11_gatherBlendable 4 (some .int)) (RM 4 0 0) (PBx [.ref (g 0), .ref ro] D cI cB cZ zz qq vv bt ((wX cI (D.1 99) zz g ad cn In Fn) ++ ([(ro, .inl (cI, 12, .inl f))] : va_W)) sz) (va_Qi (fun (r : Int32) (u : (Nat → Nat → Nat) × (Nat → Nat) × (Nat → Int32) × (Nat → Nat → Int32) × va_W) => (fun r a2 c2 I2 F2 W2 => ad = a2 ∧ cn = c2 ∧ In = I2 ∧ Fn = F2 ∧ ∃ (n : Nat) (f2 : Nat → Int32), r = nI n ∧ n ≤ 12 ∧ W2 = ([(ro, .inl (cI, 12, .inl f2))] : va_W)) r u.1 u.2.1 u.2.2.1 u.2.2.2.1 u.2.2.2.2) (fun (u : (Nat → Nat → Nat) × (Nat → Nat) × (Nat → Int32) × (Nat → Nat → Int32) × va_W) (t : State) => va_P D vwCl (wX cI (D.1 99) zz g u.1 u.2.1 u.2.2.1 u.2.2.2.1 ++ u.2.2.2.2) t.heap ∧ va_D (va_A ((wX cI (D.1 99) zz g ad cn In Fn) ++ ([(ro, .inl (cI, 12, .inl f))] : va_W)) sz) (wX cI (D.1 99) zz g u.1 u.2.1 u.2.2.1 u.2.2.2.1 ++ u.2.2.2.2)) (va_A ((wX cI (D.1 99) zz g ad cn In Fn) ++ ([(ro, .inl (cI, 12, .inl f))] : va_W)) sz)) 0 0 (va_A ((wX cI (D.1 99) zz g ad cn In Fn) ++ ([(ro, .inl (cI, 12, .inl f))] : va_W)) sz) := by
  refine en_x (fun A => (va_Qi (fun (r : Int32) (u : (Nat → Nat → Nat) × (Nat → Nat) × (Nat → Int32) × (Nat → Nat → Int32) × va_W) => (fun (r : Int32) (a2 : Nat → Nat → Nat) (c2 : Nat → Nat) (I2 : Nat → Int32) (F2 : Nat → Nat → Int32) (W2 : va_W) => ad = a2 ∧ cn = c2 ∧ In = I2 ∧ Fn = F2 ∧ ∃ (n : Nat) (f2 : Nat → Int32), r = nI n ∧ n ≤ 12 ∧ W2 = ([(ro, .inl (cI, 12, .inl f2))] : va_W)) r u.1 u.2.1 u.2.2.1 u.2.2.2.1 u.2.2.2.2) (fun (u : (Nat → Nat → Nat) × (Nat → Nat) × (Nat → Int32) × (Nat → Nat → Int32) × va_W) (t : State) => va_P D vwCl (wX cI (D.1 99) zz g u.1 u.2.1 u.2.2.1 u.2.2.2.1 ++ u.2.2.2.2) t.heap ∧ va_D A (wX cI (D.1 99) zz g u.1 u.2.1 u.2.2.1 u.2.2.2.1 ++ u.2.2.2.2)) A)) rfl rfl pn_RX11 (Nat.le_of_ble_eq_true rfl) (fun p e s m below meth c A hx hb hml hown S hr hlocks hnm hA hP hK hD hXS hS ls hl => ?_)
  have hl : lv_has ls 4 [(0, .ref (g 0)), (1, .ref ro)] := hl
  refine lv_iconst (v := 0) hx hb dX11_gatherBlendable_0 kic_0 ?_
  refine lv_istore_n (lv' := [(2, .int 0), (0, .ref (g 0)), (1, .ref ro)]) hx hb dX11_gatherBlendable_1 rfl hl (ltb rfl) rfl (fun ls hl => ?_)
  refine lv_iconst (v := 0) hx hb dX11_gatherBlendable_2 kic_0 ?_
  refine lv_istore_n (lv' := [(3, .int 0), (2, .int 0), (0, .ref (g 0)), (1, .ref ro)]) hx hb dX11_gatherBlendable_3 rfl hl (ltb rfl) rfl (fun ls hl => ?_)
  have lp_4 : ∀ (n : Nat) (i4 : Nat) (n2 : Nat) (b4_0f : Nat → Int32) (H : Heap) (locs : List Loc) , 20 - i4 < n → (i4 ≤ 20 ∧ Fr [] [] [] cn In Fn cn In Fn ∧ (n2 ≤ 12)) → va_P D vwCl ((wX cI (D.1 99) zz g ad cn In Fn) ++ ([(ro, .inl (cI, 12, .inl b4_0f))] : va_W)) H → va_D A ((wX cI (D.1 99) zz g ad cn In Fn) ++ ([(ro, .inl (cI, 12, .inl b4_0f))] : va_W)) → va_S A s.heap H locs → ∀ ls : Array Slot, lv_has ls 4 [(3, .int (nI i4)), (2, .int (nI n2)), (0, .ref (g 0)), (1, .ref ro)] → W p l e (RM 4 0 0) s m ([.ref (g 0), .ref ro]).toArray below meth c H locs 0 0 (MQ below (va_Qi (fun (r : Int32) (u : (Nat → Nat → Nat) × (Nat → Nat) × (Nat → Int32) × (Nat → Nat → Int32) × va_W) => (fun r a2 c2 I2 F2 W2 => ad = a2 ∧ cn = c2 ∧ In = I2 ∧ Fn = F2 ∧ ∃ (n : Nat) (f2 : Nat → Int32), r = nI n ∧ n ≤ 12 ∧ W2 = ([(ro, .inl (cI, 12, .inl f2))] : va_W)) r u.1 u.2.1 u.2.2.1 u.2.2.2.1 u.2.2.2.2) (fun (u : (Nat → Nat → Nat) × (Nat → Nat) × (Nat → Int32) × (Nat → Nat → Int32) × va_W) (t : State) => va_P D vwCl (wX cI (D.1 99) zz g u.1 u.2.1 u.2.2.1 u.2.2.2.1 ++ u.2.2.2.2) t.heap ∧ va_D A (wX cI (D.1 99) zz g u.1 u.2.1 u.2.2.1 u.2.2.2.1 ++ u.2.2.2.2)) A) ([.ref (g 0), .ref ro]).toArray s 0 0 A) (F0 m 4 ls []) := by
    intro n4
    induction n4 with
    | zero => intros; omega
    | succ n4 ih4 =>
      intro i4 n2 b4_0f  H locs hmu4 hinv4 hP hD hS ls hl
      obtain ⟨hr4, hfr4, hx4_0⟩ := hinv4
      have ti4 : (nI i4).toInt = (i4 : Int) := nI_toInt (by omega)
      have tn2 : (nI n2).toInt = (n2 : Int) := nI_toInt (by omega)
      refine lv_iload_n hx hb dX11_gatherBlendable_4 rfl (lvA0 hl) ?_
      refine lv_bipush (v := 20) hx hb dX11_gatherBlendable_5 kbc_20 ?_
      refine lv_icmp_ge (tgt := 43) hx hb dX11_gatherBlendable_7 rfl (fun c_1 => ?_) (fun c_1 => ?_)
      ·
        have tc_1 : (20 : Int) ≤ (nI i4).toInt := Int32.le_iff_toInt_le.mp c_1
        refine lv_iload_n hx hb dX11_gatherBlendable_43 rfl (lvA1 hl) ?_
        exact W.iret (v := (nI n2)) hx hb hr (fun t ht hW => ⟨⟨(nI n2), (ad, cn, In, Fn, ([(ro, .inl (cI, 12, .inl b4_0f))] : va_W)), rfl, ⟨rfl, rfl, rfl, rfl, n2, b4_0f, rfl, by omega, rfl⟩, by rw [ht]; exact hP, hD⟩, hS.F ht⟩) hS.2.2 dX11_gatherBlendable_44
      ·
        have tc_1 : ((nI i4).toInt : Int) < 20 := Int32.lt_iff_toInt_lt.mp (Int32.not_le.mp c_1)
        refine lv_iload_n hx hb dX11_gatherBlendable_10 rfl (lvA1 hl) ?_
        refine lv_aload_n hx hb dX11_gatherBlendable_11 rfl (lvA3 hl) ?_
        refine va_alen hx hb hK.1 hP _ 0 (exr (m := 0) rfl) rfl (v := 12) rfl dX11_gatherBlendable_12 ?_
        have : (nI n2).toInt = ((n2 : Nat) : Int) := nI_toInt (by omega)
        refine lv_icmp_ge (tgt := 43) hx hb dX11_gatherBlendable_13 rfl (fun c_2 => ?_) (fun c_2 => ?_)
        ·
          have tc_2 : (12 : Int) ≤ (nI n2).toInt := Int32.le_iff_toInt_le.mp c_2
          refine lv_iload_n hx hb dX11_gatherBlendable_43 rfl (lvA1 hl) ?_
          exact W.iret (v := (nI n2)) hx hb hr (fun t ht hW => ⟨⟨(nI n2), (ad, cn, In, Fn, ([(ro, .inl (cI, 12, .inl b4_0f))] : va_W)), rfl, ⟨rfl, rfl, rfl, rfl, n2, b4_0f, rfl, by omega, rfl⟩, by rw [ht]; exact hP, hD⟩, hS.F ht⟩) hS.2.2 dX11_gatherBlendable_44
        ·
          have tc_2 : ((nI n2).toInt : Int) < 12 := Int32.lt_iff_toInt_lt.mp (Int32.not_le.mp c_2)
          refine lv_aload_n hx hb dX11_gatherBlendable_16 rfl (lvA2 hl) ?_
          refine lv_aload_n hx hb dX11_gatherBlendable_17 rfl (lvA2 hl) ?_
          refine lv_iload_n hx hb dX11_gatherBlendable_18 rfl (lvA0 hl) ?_
          refine va_csq (runV_rxa (As := [.int (nI i4)]) (rest := [.ref (g 0)]) S (q_XloadAt l D cI cB cZ zz qq vv bt g ad cn In Fn (nI i4) hB) kV_RX11_148 hK hXS hS (exP hP) 0 xo_0 rfl rfl ⟨Nat.le_of_ble_eq_true rfl, Nat.le_of_ble_eq_true rfl⟩ ⟨Nat.le_of_ble_eq_true rfl, Nat.le_of_ble_eq_true rfl⟩ rfl hl.1 rfl (Nat.le_of_ble_eq_true rfl) dX11_gatherBlendable_19) (fun r_3 h_4 => ?_)
          rcases h_4 with ⟨mr_3, er_3, hr_3, rfl⟩ | ⟨hr_3, rfl⟩
          ·
            refine vp_callSi (runV_rxa (As := [.ref (ad 11 mr_3)]) (rest := []) S (q_XcanLoad l D cI cB cZ zz qq vv bt g ad cn In Fn mr_3 hB (by omega)) kV_RX11_354 hK hXS hS (exP hP) 0 xo_0 rfl rfl ⟨Nat.le_of_ble_eq_true rfl, Nat.le_of_ble_eq_true rfl⟩ ⟨Nat.le_of_ble_eq_true rfl, Nat.le_of_ble_eq_true rfl⟩ rfl hl.1 rfl (Nat.le_of_ble_eq_true rfl) dX11_gatherBlendable_22) (fun r_5 h_6 => ?_)
            rcases h_6 with rfl | rfl
            ·
              refine lv_if_eq (tgt := 37) hx hb dX11_gatherBlendable_25 rfl (fun _ => ?_) (fun h => absurd h cq_eq_0_0)
              refine lv_iinc (v := (nI (i4 + 1))) (lv' := [(3, .int (nI (i4 + 1))), (2, .int (nI n2)), (0, .ref (g 0)), (1, .ref ro)]) hx hb dX11_gatherBlendable_37 hl (k := 0) rfl (nI_1 _) (ltb rfl) rfl (fun ls hl => ?_)
              refine lv_goto (tgt := 4) hx hb dX11_gatherBlendable_40 rfl ?_
              exact ih4 (i4 + 1) n2 b4_0f  _ _ (by omega) ⟨(by omega), (Fr.mo hfr4 (sbl rfl) (sbl rfl) (sbl rfl)), (by omega)⟩ hP hD hS ls (lv_sub hl [0, 1, 2, 3] rfl)
            ·
              refine lv_if_eq (tgt := 37) hx hb dX11_gatherBlendable_25 rfl (fun h => absurd h cq_eq_1_0) (fun _ => ?_)
              refine lv_aload_n hx hb dX11_gatherBlendable_28 rfl (lvA3 hl) ?_
              refine lv_iload_n hx hb dX11_gatherBlendable_29 rfl (lvA1 hl) ?_
              refine lv_iload_n hx hb dX11_gatherBlendable_30 rfl (lvA0 hl) ?_
              have hFc := va_free (wc := [(ro, .inl (cI, 12, .inl b4_0f))]) hD hS hA [_] (one_im (exr (m := 0) rfl))
              refine va_callv (runS_w (As := [.ref ro, .int (nI n2), .int (nI i4)]) (rest := []) S (q_l_put l D cI cB cZ ro 12 b4_0f (nI n2) (nI i4) H.size (by omega)) kS_RX11_184 hK hP hD [_] (one_is (exr (m := 0) rfl)) (one_im (exr (m := 0) rfl)) rfl ⟨Nat.le_of_ble_eq_true rfl, Nat.le_of_ble_eq_true rfl⟩ ⟨Nat.le_of_ble_eq_true rfl, Nat.le_of_ble_eq_true rfl⟩ rfl hl.1 rfl (Nat.le_of_ble_eq_true rfl) dX11_gatherBlendable_31) hS (fun q _ h => hFc q h) hFc (fun u_7 t H1 locs ht hvm h_8 hB1 hz1 hk1 hS => ?_)
              obtain ⟨hP1, hD1⟩ := hB1
              rw [ht] at hP1
              obtain ⟨hP, hD⟩ := wset1 hP hD (exr (m := 0) rfl) hk1 hP1
              generalize H1 = H at hP hS ⊢
              have hP : va_P D vwCl ((wX cI (D.1 99) zz g ad cn In Fn) ++ ([(ro, .inl (cI, 12, .inl u_7))] : va_W)) H := va_P_eq (exs_r rfl) hP
              have hD : va_D A ((wX cI (D.1 99) zz g ad cn In Fn) ++ ([(ro, .inl (cI, 12, .inl u_7))] : va_W)) := va_D_eq (exs_r rfl) hD
              refine lv_iinc (v := (nI (n2 + 1))) (lv' := [(2, .int (nI (n2 + 1))), (3, .int (nI i4)), (0, .ref (g 0)), (1, .ref ro)]) hx hb dX11_gatherBlendable_34 hl (k := 1) rfl (nI_1 _) (ltb rfl) rfl (fun ls hl => ?_)
              refine lv_iinc (v := (nI (i4 + 1))) (lv' := [(3, .int (nI (i4 + 1))), (2, .int (nI (n2 + 1))), (0, .ref (g 0)), (1, .ref ro)]) hx hb dX11_gatherBlendable_37 hl (k := 1) rfl (nI_1 _) (ltb rfl) rfl (fun ls hl => ?_)
              refine lv_goto (tgt := 4) hx hb dX11_gatherBlendable_40 rfl ?_
              exact ih4 (i4 + 1) (n2 + 1) u_7  _ _ (by omega) ⟨(by omega), (Fr.mo hfr4 (sbl rfl) (sbl rfl) (sbl rfl)), (by omega)⟩ hP hD hS ls (lv_sub hl [0, 1, 2, 3] rfl)
          ·
            refine vp_callSi (runV_rxa (As := [.null]) (rest := []) S (q_XcanNull l D cI cB cZ zz qq vv bt g ad cn In Fn  hB) kV_RX11_354 hK hXS hS (exP hP) 0 xo_0 rfl rfl ⟨Nat.le_of_ble_eq_true rfl, Nat.le_of_ble_eq_true rfl⟩ ⟨Nat.le_of_ble_eq_true rfl, Nat.le_of_ble_eq_true rfl⟩ rfl hl.1 rfl (Nat.le_of_ble_eq_true rfl) dX11_gatherBlendable_22) (fun r_9 h_10 => ?_)
            subst h_10
            refine lv_if_eq (tgt := 37) hx hb dX11_gatherBlendable_25 rfl (fun _ => ?_) (fun h => absurd h cq_eq_0_0)
            refine lv_iinc (v := (nI (i4 + 1))) (lv' := [(3, .int (nI (i4 + 1))), (2, .int (nI n2)), (0, .ref (g 0)), (1, .ref ro)]) hx hb dX11_gatherBlendable_37 hl (k := 0) rfl (nI_1 _) (ltb rfl) rfl (fun ls hl => ?_)
            refine lv_goto (tgt := 4) hx hb dX11_gatherBlendable_40 rfl ?_
            exact ih4 (i4 + 1) n2 b4_0f  _ _ (by omega) ⟨(by omega), (Fr.mo hfr4 (sbl rfl) (sbl rfl) (sbl rfl)), (by omega)⟩ hP hD hS ls (lv_sub hl [0, 1, 2, 3] rfl)
  exact lp_4 _ 0 0 f  _ _ (Nat.lt_succ_self _) ⟨(by omega), (Fr.mo Fr.rf (sbl rfl) (sbl rfl) (sbl rfl)), (by omega)⟩ hP hD hS ls (lv_sub hl [0, 1, 2, 3] rfl)
set_option maxRecDepth 100000 in
set_option maxHeartbeats 4000000 in
theorem q_EflipTo (l : Launch) (D : va_G) (cI cB cZ : ClassId) (zz qq vv : Nat) (bt : Nat → Int32) (g : Nat → Nat) (ad : Nat → Nat → Nat) (cn : Nat → Nat) (In : Nat → Int32) (Fn : Nat → Nat → Int32) (bo w : Nat) (x1 x2 x3 x4 x5 x6 x7 : Int32) (ro : Nat) (f : Nat → Int32) (v0 : Int32) (ws : va_W) (sz : Nat) (hB : CBX cn) : Met l yX11_flipTo (CWS yX11_flipTo cX11_flipTo 7 none) (RM 5 0 0) (PBx [.ref (g 0), .ref bo, .int v0, .ref ro] D cI cB cZ zz qq vv bt ((wX cI (D.1 99) zz g ad cn In Fn) ++ (([(bo, .inr (1, [.ref w, .int x1, .int x2, .int x3, .int x4, .int x5, .int x6, .int x7])), (ro, .inl (cI, 12, .inl f))] : va_W) ++ ws)) sz) (va_Qv (fun (u : (Nat → Nat → Nat) × (Nat → Nat) × (Nat → Int32) × (Nat → Nat → Int32) × va_W) => (fun a2 c2 I2 F2 W2 => ad = a2 ∧ cn = c2 ∧ In = I2 ∧ Fn = F2 ∧ ∃ (z1 z2 z4 z5 z6 : Int32), W2 = (([(bo, .inr (1, [.ref w, .int z1, .int z2, .int x3, .int z4, .int z5, .int z6, .int x7])), (ro, .inl (cI, 12, .inl f))] : va_W) ++ ws)) u.1 u.2.1 u.2.2.1 u.2.2.2.1 u.2.2.2.2) (fun (u : (Nat → Nat → Nat) × (Nat → Nat) × (Nat → Int32) × (Nat → Nat → Int32) × va_W) (t : State) => va_P D vwCl (wX cI (D.1 99) zz g u.1 u.2.1 u.2.2.1 u.2.2.2.1 ++ u.2.2.2.2) t.heap ∧ va_D (va_A ((wX cI (D.1 99) zz g ad cn In Fn) ++ (([(bo, .inr (1, [.ref w, .int x1, .int x2, .int x3, .int x4, .int x5, .int x6, .int x7])), (ro, .inl (cI, 12, .inl f))] : va_W) ++ ws)) sz) (wX cI (D.1 99) zz g u.1 u.2.1 u.2.2.1 u.2.2.2.1 ++ u.2.2.2.2)) (va_A ((wX cI (D.1 99) zz g ad cn In Fn) ++ (([(bo, .inr (1, [.ref w, .int x1, .int x2, .int x3, .int x4, .int x5, .int x6, .int x7])), (ro, .inl (cI, 12, .inl f))] : va_W) ++ ws)) sz)) 0 0 (va_A ((wX cI (D.1 99) zz g ad cn In Fn) ++ (([(bo, .inr (1, [.ref w, .int x1, .int x2, .int x3, .int x4, .int x5, .int x6, .int x7])), (ro, .inl (cI, 12, .inl f))] : va_W) ++ ws)) sz) := by
  refine en_x (fun A => (va_Qv (fun (u : (Nat → Nat → Nat) × (Nat → Nat) × (Nat → Int32) × (Nat → Nat → Int32) × va_W) => (fun (a2 : Nat → Nat → Nat) (c2 : Nat → Nat) (I2 : Nat → Int32) (F2 : Nat → Nat → Int32) (W2 : va_W) => ad = a2 ∧ cn = c2 ∧ In = I2 ∧ Fn = F2 ∧ ∃ (z1 z2 z4 z5 z6 : Int32), W2 = (([(bo, .inr (1, [.ref w, .int z1, .int z2, .int x3, .int z4, .int z5, .int z6, .int x7])), (ro, .inl (cI, 12, .inl f))] : va_W) ++ ws)) u.1 u.2.1 u.2.2.1 u.2.2.2.1 u.2.2.2.2) (fun (u : (Nat → Nat → Nat) × (Nat → Nat) × (Nat → Int32) × (Nat → Nat → Int32) × va_W) (t : State) => va_P D vwCl (wX cI (D.1 99) zz g u.1 u.2.1 u.2.2.1 u.2.2.2.1 ++ u.2.2.2.2) t.heap ∧ va_D A (wX cI (D.1 99) zz g u.1 u.2.1 u.2.2.1 u.2.2.2.1 ++ u.2.2.2.2)) A)) rfl rfl pn_RX11 (Nat.le_of_ble_eq_true rfl) (fun p e s m below meth c A hx hb hml hown S hr hlocks hnm hA hP hK hD hXS hS ls hl => ?_)
  have hl : lv_has ls 7 [(0, .ref (g 0)), (1, .ref bo), (2, .int v0), (3, .ref ro)] := hl
  refine lv_iload_n hx hb dX11_flipTo_0 rfl (lvA2 hl) ?_
  refine lv_iload_n hx hb dX11_flipTo_1 rfl (lvA2 hl) ?_
  refine lv_iconst (v := 1) hx hb dX11_flipTo_2 kic_1 ?_
  refine lv_isub hx hb dX11_flipTo_3 ?_
  refine lv_ixor hx hb dX11_flipTo_4 ?_
  refine lv_istore (lv' := [(4, .int (v0 ^^^ (v0 - 1))), (0, .ref (g 0)), (1, .ref bo), (2, .int v0), (3, .ref ro)]) hx hb dX11_flipTo_5 hl (ltb rfl) rfl (fun ls hl => ?_)
  refine lv_iconst (v := 0) hx hb dX11_flipTo_7 kic_0 ?_
  refine lv_istore (lv' := [(5, .int 0), (4, .int (v0 ^^^ (v0 - 1))), (0, .ref (g 0)), (1, .ref bo), (2, .int v0), (3, .ref ro)]) hx hb dX11_flipTo_8 hl (ltb rfl) rfl (fun ls hl => ?_)
  have lp_10 : ∀ (n : Nat) (i10 : Nat) (b10_01 : Int32) (b10_02 : Int32) (b10_04 : Int32) (b10_05 : Int32) (b10_06 : Int32) (H : Heap) (locs : List Loc) , 12 - i10 < n → (i10 ≤ 12 ∧ Fr [] [] [] cn In Fn cn In Fn) → va_P D vwCl ((wX cI (D.1 99) zz g ad cn In Fn) ++ (([(bo, .inr (1, [.ref w, .int b10_01, .int b10_02, .int x3, .int b10_04, .int b10_05, .int b10_06, .int x7])), (ro, .inl (cI, 12, .inl f))] : va_W) ++ ws)) H → va_D A ((wX cI (D.1 99) zz g ad cn In Fn) ++ (([(bo, .inr (1, [.ref w, .int b10_01, .int b10_02, .int x3, .int b10_04, .int b10_05, .int b10_06, .int x7])), (ro, .inl (cI, 12, .inl f))] : va_W) ++ ws)) → va_S A s.heap H locs → ∀ ls : Array Slot, lv_has ls 7 [(5, .int (nI i10)), (4, .int (v0 ^^^ (v0 - 1))), (0, .ref (g 0)), (1, .ref bo), (2, .int v0), (3, .ref ro)] → W p l e (RM 5 0 0) s m ([.ref (g 0), .ref bo, .int v0, .ref ro]).toArray below meth c H locs 0 0 (MQ below (va_Qv (fun (u : (Nat → Nat → Nat) × (Nat → Nat) × (Nat → Int32) × (Nat → Nat → Int32) × va_W) => (fun a2 c2 I2 F2 W2 => ad = a2 ∧ cn = c2 ∧ In = I2 ∧ Fn = F2 ∧ ∃ (z1 z2 z4 z5 z6 : Int32), W2 = (([(bo, .inr (1, [.ref w, .int z1, .int z2, .int x3, .int z4, .int z5, .int z6, .int x7])), (ro, .inl (cI, 12, .inl f))] : va_W) ++ ws)) u.1 u.2.1 u.2.2.1 u.2.2.2.1 u.2.2.2.2) (fun (u : (Nat → Nat → Nat) × (Nat → Nat) × (Nat → Int32) × (Nat → Nat → Int32) × va_W) (t : State) => va_P D vwCl (wX cI (D.1 99) zz g u.1 u.2.1 u.2.2.1 u.2.2.2.1 ++ u.2.2.2.2) t.heap ∧ va_D A (wX cI (D.1 99) zz g u.1 u.2.1 u.2.2.1 u.2.2.2.1 ++ u.2.2.2.2)) A) ([.ref (g 0), .ref bo, .int v0, .ref ro]).toArray s 0 0 A) (F0 m 10 ls []) := by
    intro n10
    induction n10 with
    | zero => intros; omega
    | succ n10 ih10 =>
      intro i10 b10_01 b10_02 b10_04 b10_05 b10_06  H locs hmu10 hinv10 hP hD hS ls hl
      obtain ⟨hr10, hfr10⟩ := hinv10
      have ti10 : (nI i10).toInt = (i10 : Int) := nI_toInt (by omega)
      refine lv_iload hx hb dX11_flipTo_10 (lvA0 hl) ?_
      refine lv_aload_n hx hb dX11_flipTo_12 rfl (lvA5 hl) ?_
      refine va_alen hx hb hK.1 hP _ 0 (exr (m := 1) rfl) rfl (v := 12) rfl dX11_flipTo_13 ?_
      refine lv_icmp_ge (tgt := 58) hx hb dX11_flipTo_14 rfl (fun c_1 => ?_) (fun c_1 => ?_)
      ·
        have tc_1 : (12 : Int) ≤ (nI i10).toInt := Int32.le_iff_toInt_le.mp c_1
        exact W.vret hx hb hr (fun t ht hW => ⟨⟨(ad, cn, In, Fn, (([(bo, .inr (1, [.ref w, .int b10_01, .int b10_02, .int x3, .int b10_04, .int b10_05, .int b10_06, .int x7])), (ro, .inl (cI, 12, .inl f))] : va_W) ++ ws)), rfl, ⟨rfl, rfl, rfl, rfl, b10_01, b10_02, b10_04, b10_05, b10_06, rfl⟩, by rw [ht]; exact hP, hD⟩, hS.F ht⟩) hS.2.2 dX11_flipTo_58
      ·
        have tc_1 : ((nI i10).toInt : Int) < 12 := Int32.lt_iff_toInt_lt.mp (Int32.not_le.mp c_1)
        refine lv_iload hx hb dX11_flipTo_17 (lvA1 hl) ?_
        refine lv_iload hx hb dX11_flipTo_19 (lvA0 hl) ?_
        refine lv_ishr hx hb dX11_flipTo_21 ?_
        refine lv_iconst (v := 1) hx hb dX11_flipTo_22 kic_1 ?_
        refine lv_iand hx hb dX11_flipTo_23 ?_
        refine lv_if_eq (tgt := 58) hx hb dX11_flipTo_24 rfl (fun c_2 => ?_) (fun c_2 => ?_)
        ·
          have tc_2 : ((((v0 ^^^ (v0 - 1)) >>> ((nI i10) &&& 31)) &&& 1).toInt : Int) = 0 := congrArg Int32.toInt c_2
          exact W.vret hx hb hr (fun t ht hW => ⟨⟨(ad, cn, In, Fn, (([(bo, .inr (1, [.ref w, .int b10_01, .int b10_02, .int x3, .int b10_04, .int b10_05, .int b10_06, .int x7])), (ro, .inl (cI, 12, .inl f))] : va_W) ++ ws)), rfl, ⟨rfl, rfl, rfl, rfl, b10_01, b10_02, b10_04, b10_05, b10_06, rfl⟩, by rw [ht]; exact hP, hD⟩, hS.F ht⟩) hS.2.2 dX11_flipTo_58
        ·
          have tc_2 : ((((v0 ^^^ (v0 - 1)) >>> ((nI i10) &&& 31)) &&& 1).toInt : Int) ≠ 0 := fun q => c_2 (Int32.toInt_inj.mp q)
          refine lv_aload_n hx hb dX11_flipTo_27 rfl (lvA2 hl) ?_
          refine lv_aload_n hx hb dX11_flipTo_28 rfl (lvA5 hl) ?_
          refine lv_iload hx hb dX11_flipTo_29 (lvA0 hl) ?_
          refine va_iald hx hb hK.1 hP _ 0 (exr (m := 1) rfl) rfl (vp_in_nI (by omega) (ltb rfl)) dX11_flipTo_31 ?_
          refine lv_topi (fun y_3 ey_3 => ?_)
          obtain rfl : y_3 = (f i10) := ey_3.trans (congrArg f (nI_clamp (by omega)))
          refine va_csq (runV_rxa (As := [.int (f i10)]) (rest := []) S (q_XloadAt l D cI cB cZ zz qq vv bt g ad cn In Fn (f i10) hB) kV_RX11_148 hK hXS hS (exP hP) 0 xo_0 rfl rfl ⟨Nat.le_of_ble_eq_true rfl, Nat.le_of_ble_eq_true rfl⟩ ⟨Nat.le_of_ble_eq_true rfl, Nat.le_of_ble_eq_true rfl⟩ rfl hl.1 rfl (Nat.le_of_ble_eq_true rfl) dX11_flipTo_32) (fun r_4 h_5 => ?_)
          rcases h_5 with ⟨mr_4, er_4, hr_4, rfl⟩ | ⟨hr_4, rfl⟩
          ·
            refine lv_astore (lv' := [(6, .ref (ad 11 mr_4)), (5, .int (nI i10)), (4, .int (v0 ^^^ (v0 - 1))), (0, .ref (g 0)), (1, .ref bo), (2, .int v0), (3, .ref ro)]) hx hb dX11_flipTo_35 hl (ltb rfl) rfl (fun ls hl => ?_)
            refine lv_aload hx hb dX11_flipTo_37 (lvA0 hl) ?_
            refine lv_ifnull hx hb dX11_flipTo_39 ?_
            refine lv_aload_n hx hb dX11_flipTo_42 rfl (lvA4 hl) ?_
            refine lv_aload_n hx hb dX11_flipTo_43 rfl (lvA6 hl) ?_
            refine lv_iload hx hb dX11_flipTo_44 (lvA1 hl) ?_
            refine va_iald hx hb hK.1 hP _ 0 (exr (m := 1) rfl) rfl (vp_in_nI (by omega) (ltb rfl)) dX11_flipTo_46 ?_
            refine lv_topi (fun y_6 ey_6 => ?_)
            obtain rfl : y_6 = (f i10) := ey_6.trans (congrArg f (nI_clamp (by omega)))
            refine lv_aload hx hb dX11_flipTo_47 (lvA0 hl) ?_
            have hFc := free_all hD hS hA
            refine va_callv (runV_xa (As := [.int (f i10), .ref (ad 11 mr_4)]) (rest := []) S (q_Eflip l D cI cB cZ zz qq vv bt g ad cn In Fn bo w b10_01 b10_02 x3 b10_04 b10_05 b10_06 x7 (f i10) mr_4 (([(ro, .inl (cI, 12, .inl f))] : va_W) ++ ws) H.size hB (by omega)) kV_RX11_358 hK hXS hS hFc hP hD _ (exr (m := 0) rfl) rfl rfl ⟨Nat.le_of_ble_eq_true rfl, Nat.le_of_ble_eq_true rfl⟩ ⟨Nat.le_of_ble_eq_true rfl, Nat.le_of_ble_eq_true rfl⟩ rfl hl.1 rfl (Nat.le_of_ble_eq_true rfl) dX11_flipTo_49) hS (fun q _ h => hFc q h) hFc (fun u6 t H1 locs ht hvm h6 hB1 hz1 hk1 hS => ?_)
            obtain ⟨hP1, hD1⟩ := hB1
            rw [ht] at hP1
            obtain ⟨a6, c6, I6, F6, W6⟩ := u6
            obtain ⟨rfl, rfl, rfl, rfl, sg6, hsg6, rfl⟩ := h6
            have hP : va_P D vwCl ((wX cI (D.1 99) zz g ad cn In Fn) ++ (([(bo, .inr (1, [.ref w, .int (b10_01 + sg6 * ((Fn 122) mr_4) * ((Fn 123) mr_4)), .int (b10_02 + sg6 * ((Fn 122) mr_4) * ((Fn 124) mr_4)), .int x3, .int (b10_04 ^^^ 1 <<< ((f i10) &&& 31)), .int (b10_05 + sg6), .int (b10_06 + sg6 * ((Fn 122) mr_4)), .int x7])), (ro, .inl (cI, 12, .inl f))] : va_W) ++ ws)) H1 := hP1
            have hD : va_D A ((wX cI (D.1 99) zz g ad cn In Fn) ++ (([(bo, .inr (1, [.ref w, .int (b10_01 + sg6 * ((Fn 122) mr_4) * ((Fn 123) mr_4)), .int (b10_02 + sg6 * ((Fn 122) mr_4) * ((Fn 124) mr_4)), .int x3, .int (b10_04 ^^^ 1 <<< ((f i10) &&& 31)), .int (b10_05 + sg6), .int (b10_06 + sg6 * ((Fn 122) mr_4)), .int x7])), (ro, .inl (cI, 12, .inl f))] : va_W) ++ ws)) := hD1.weaken (fun _ _ _ h => hFc _ h)
            generalize H1 = H at hP hS ⊢
            refine lv_iinc (v := (nI (i10 + 1))) (lv' := [(5, .int (nI (i10 + 1))), (6, .ref (ad 11 mr_4)), (4, .int (v0 ^^^ (v0 - 1))), (0, .ref (g 0)), (1, .ref bo), (2, .int v0), (3, .ref ro)]) hx hb dX11_flipTo_52 hl (k := 1) rfl (nI_1 _) (ltb rfl) rfl (fun ls hl => ?_)
            refine lv_goto (tgt := 10) hx hb dX11_flipTo_55 rfl ?_
            exact ih10 (i10 + 1) (b10_01 + sg6 * ((Fn 122) mr_4) * ((Fn 123) mr_4)) (b10_02 + sg6 * ((Fn 122) mr_4) * ((Fn 124) mr_4)) (b10_04 ^^^ 1 <<< ((f i10) &&& 31)) (b10_05 + sg6) (b10_06 + sg6 * ((Fn 122) mr_4))  _ _ (by omega) ⟨(by omega), (Fr.mo hfr10 (sbl rfl) (sbl rfl) (sbl rfl))⟩ hP hD hS ls (lv_sub hl [0, 2, 3, 4, 5, 6] rfl)
          ·
            refine lv_astoreN (lv' := [(6, .null), (5, .int (nI i10)), (4, .int (v0 ^^^ (v0 - 1))), (0, .ref (g 0)), (1, .ref bo), (2, .int v0), (3, .ref ro)]) hx hb dX11_flipTo_35 hl (ltb rfl) rfl (fun ls hl => ?_)
            refine lv_aloadN hx hb dX11_flipTo_37 (lvA0 hl) ?_
            refine lv_ifnullN (tgt := 52) hx hb dX11_flipTo_39 rfl ?_
            refine lv_iinc (v := (nI (i10 + 1))) (lv' := [(5, .int (nI (i10 + 1))), (6, .null), (4, .int (v0 ^^^ (v0 - 1))), (0, .ref (g 0)), (1, .ref bo), (2, .int v0), (3, .ref ro)]) hx hb dX11_flipTo_52 hl (k := 1) rfl (nI_1 _) (ltb rfl) rfl (fun ls hl => ?_)
            refine lv_goto (tgt := 10) hx hb dX11_flipTo_55 rfl ?_
            exact ih10 (i10 + 1) b10_01 b10_02 b10_04 b10_05 b10_06  _ _ (by omega) ⟨(by omega), (Fr.mo hfr10 (sbl rfl) (sbl rfl) (sbl rfl))⟩ hP hD hS ls (lv_sub hl [0, 2, 3, 4, 5, 6] rfl)
  exact lp_10 _ 0 x1 x2 x4 x5 x6  _ _ (Nat.lt_succ_self _) ⟨(by omega), (Fr.mo Fr.rf (sbl rfl) (sbl rfl) (sbl rfl))⟩ hP hD hS ls (lv_sub hl [0, 1, 2, 3, 4, 5] rfl)
set_option maxRecDepth 100000 in
set_option maxHeartbeats 4000000 in
theorem q_Xblend (l : Launch) (D : va_G) (cI cB cZ : ClassId) (zz qq vv : Nat) (bt : Nat → Int32) (g : Nat → Nat) (ad : Nat → Nat → Nat) (cn : Nat → Nat) (In : Nat → Int32) (Fn : Nat → Nat → Int32)  (sz : Nat) (hB : CBX cn) (hT : (∀ k : Nat, k < cn 10 → ad 3 k < cn 6) ∧ ad 4 0 < cn 6 ∧ ad 4 1 < cn 6) (hC : ∀ k : Nat, k < cn 6 → ∃ n : Nat, n ≤ 12 ∧ Fn 198 k = nI n) : Met l yX11_blend (CWS yX11_blend cX11_blend 9 (some .int)) (RM 7 3 32) (PBx [.ref (g 0)] D cI cB cZ zz qq vv bt (wX cI (D.1 99) zz g ad cn In Fn) sz) (va_Qi (fun (r : Int32) (u : (Nat → Nat → Nat) × (Nat → Nat) × (Nat → Int32) × (Nat → Nat → Int32)) => (fun r a2 c2 I2 F2 => ad = a2 ∧ cn = c2 ∧ In = I2 ∧ ∀ k, k ∉ [7, 196, 197, 305] → F2 k = Fn k) r u.1 u.2.1 u.2.2.1 u.2.2.2) (fun (u : (Nat → Nat → Nat) × (Nat → Nat) × (Nat → Int32) × (Nat → Nat → Int32)) (t : State) => va_P D vwCl (wX cI (D.1 99) zz g u.1 u.2.1 u.2.2.1 u.2.2.2) t.heap ∧ va_D (va_A (wX cI (D.1 99) zz g ad cn In Fn) sz) (wX cI (D.1 99) zz g u.1 u.2.1 u.2.2.1 u.2.2.2)) (va_A (wX cI (D.1 99) zz g ad cn In Fn) sz)) 3 32 (va_A (wX cI (D.1 99) zz g ad cn In Fn) sz) := by
  refine en_x (fun A => (va_Qi (fun (r : Int32) (u : (Nat → Nat → Nat) × (Nat → Nat) × (Nat → Int32) × (Nat → Nat → Int32)) => (fun (r : Int32) (a2 : Nat → Nat → Nat) (c2 : Nat → Nat) (I2 : Nat → Int32) (F2 : Nat → Nat → Int32) => ad = a2 ∧ cn = c2 ∧ In = I2 ∧ ∀ k, k ∉ [7, 196, 197, 305] → F2 k = Fn k) r u.1 u.2.1 u.2.2.1 u.2.2.2) (fun (u : (Nat → Nat → Nat) × (Nat → Nat) × (Nat → Int32) × (Nat → Nat → Int32)) (t : State) => va_P D vwCl (wX cI (D.1 99) zz g u.1 u.2.1 u.2.2.1 u.2.2.2) t.heap ∧ va_D A (wX cI (D.1 99) zz g u.1 u.2.1 u.2.2.1 u.2.2.2)) A)) rfl rfl pn_RX11 (Nat.le_of_ble_eq_true rfl) (fun p e s m below meth c A hx hb hml hown S hr hlocks hnm hA hP hK hD hXS hS ls hl => ?_)
  have hl : lv_has ls 9 [(0, .ref (g 0))] := hl
  refine lv_bipush (v := 12) hx hb dX11_blend_0 kbc_12 ?_
  refine newa_int S hK hP hD hS hA (N' := 12) (by decide) (by decide) (Nat.le_of_ble_eq_true rfl) (Nat.le_of_ble_eq_true rfl) (Nat.le_of_ble_eq_true rfl) dX11_blend_2 (fun q2 H hP hD hS => ?_)
  have hP : va_P D vwCl ((wX cI (D.1 99) zz g ad cn In Fn) ++ ([(q2, .inl (cI, 12, .inl (fun _ => 0)))] : va_W)) H := hP
  have hD : va_D A ((wX cI (D.1 99) zz g ad cn In Fn) ++ ([(q2, .inl (cI, 12, .inl (fun _ => 0)))] : va_W)) := hD
  refine lv_astore_n (lv' := [(1, .ref q2), (0, .ref (g 0))]) hx hb dX11_blend_4 rfl hl (ltb rfl) rfl (fun ls hl => ?_)
  refine lv_aload_n hx hb dX11_blend_5 rfl (lvA1 hl) ?_
  refine lv_aload_n hx hb dX11_blend_6 rfl (lvA0 hl) ?_
  have hFc := free_all hD hS hA
  refine va_calli (runV_xa (As := [.ref q2]) (rest := []) S (q_EgatherB l D cI cB cZ zz qq vv bt g ad cn In Fn q2 (fun _ => 0) H.size hB) kV_RX11_391 hK hXS hS hFc hP hD _ (exl xo_0) rfl rfl ⟨Nat.le_of_ble_eq_true rfl, Nat.le_of_ble_eq_true rfl⟩ ⟨Nat.le_of_ble_eq_true rfl, Nat.le_of_ble_eq_true rfl⟩ rfl hl.1 rfl (Nat.le_of_ble_eq_true rfl) dX11_blend_7) hS (fun q _ h => hFc q h) hFc (fun r0 u0 t H1 locs ht hvm h0 hB1 hz1 hk1 hS => ?_)
  obtain ⟨hP1, hD1⟩ := hB1
  rw [ht] at hP1
  obtain ⟨a0, c0, I0, F0, W0⟩ := u0
  obtain ⟨rfl, rfl, rfl, rfl, n0, f0, hr0, hn0, rfl⟩ := h0
  subst hr0
  have hP : va_P D vwCl ((wX cI (D.1 99) zz g ad cn In Fn) ++ ([(q2, .inl (cI, 12, .inl f0))] : va_W)) H1 := hP1
  have hD : va_D A ((wX cI (D.1 99) zz g ad cn In Fn) ++ ([(q2, .inl (cI, 12, .inl f0))] : va_W)) := hD1.weaken (fun _ _ _ h => hFc _ h)
  generalize H1 = H at hP hS ⊢
  refine lv_istore_n (lv' := [(2, .int (nI n0)), (1, .ref q2), (0, .ref (g 0))]) hx hb dX11_blend_10 rfl hl (ltb rfl) rfl (fun ls hl => ?_)
  refine lv_aload_n hx hb dX11_blend_11 rfl (lvA2 hl) ?_
  have hFc := free_all (exD hD) hS hA
  refine va_callv (runV_xa (As := []) (rest := []) S (q_XlettersOfLaw l D cI cB cZ zz qq vv bt g ad cn In Fn  H.size hB) kV_RX11_367 hK hXS hS hFc (exP hP) (exD hD) 0 xo_0 rfl rfl ⟨Nat.le_of_ble_eq_true rfl, Nat.le_of_ble_eq_true rfl⟩ ⟨Nat.le_of_ble_eq_true rfl, Nat.le_of_ble_eq_true rfl⟩ rfl hl.1 rfl (Nat.le_of_ble_eq_true rfl) dX11_blend_12) hS (fun q _ h => hFc q h) hFc (fun u t H1 locs ht hvm wh_3 hB1 hz1 hk1 hS => ?_)
  obtain ⟨cn3, In3, Fn3⟩ := u
  obtain ⟨hP1, hD1⟩ := hB1
  rw [ht] at hP1
  obtain ⟨hP, hD⟩ := exjoinL hP hD hk1 hFc hP1 hD1
  have hP : va_P D vwCl ((wX cI (D.1 99) zz g ad cn3 In3 Fn3) ++ ([(q2, .inl (cI, 12, .inl f0))] : va_W)) H1 := hP
  have hD : va_D A ((wX cI (D.1 99) zz g ad cn3 In3 Fn3) ++ ([(q2, .inl (cI, 12, .inl f0))] : va_W)) := hD
  generalize H1 = H at hP hS ⊢
  have vh_3 : (fun c2 I2 F2 => Fr [] [] [7] cn In Fn c2 I2 F2 ∧ CBX c2 ∧ (True)) cn3 In3 Fn3 := wh_3
  obtain ⟨hfc3, hIn3, h_3⟩ := vh_3
  obtain rfl : cn = cn3 := (funext (fun k => hfc3.1 k List.not_mem_nil)).symm
  obtain rfl : In = In3 := (funext (fun k => hfc3.2.1 k List.not_mem_nil)).symm
  have hf3 : Fr [] [] [7, 196, 197, 305] cn In Fn cn In Fn3 := Fr.mo (Fr.tr (Fr.rf (cn := cn) (In := In) (Fn := Fn)) hfc3) (sbl rfl) (sbl rfl) (sbl rfl)
  refine va_new (ci := 1) (fs := [.null, .int 0, .int 0, .int 0, .int 0, .int 0, .int 0, .int 0]) (C := RX0) (T := TX0) (N := 8) hx hb S.2.2.2.2 hin_RX0 tyX0 tyX0_ok hown (S.2.2.2.2 _ (wk4_17 7 rfl rfl)) (S.2.2.2.2 _ (wk4_17 8 rfl rfl)) (S.2.2.2.2 _ (wk1_1 11 rfl rfl)) hK.1 hP hD hS hA rfl (by decide +kernel) (Nat.le_of_ble_eq_true rfl) (Nat.le_of_ble_eq_true rfl) dX11_blend_15 (fun q15 H hP hD hS => ?_)
  rw [List.append_assoc] at hP hD
  have hP : va_P D vwCl ((wX cI (D.1 99) zz g ad cn In Fn3) ++ ([(q2, .inl (cI, 12, .inl f0)), (q15, .inr (1, [.null, .int 0, .int 0, .int 0, .int 0, .int 0, .int 0, .int 0]))] : va_W)) H := hP
  have hD : va_D A ((wX cI (D.1 99) zz g ad cn In Fn3) ++ ([(q2, .inl (cI, 12, .inl f0)), (q15, .inr (1, [.null, .int 0, .int 0, .int 0, .int 0, .int 0, .int 0, .int 0]))] : va_W)) := hD
  refine lv_dup hx hb dX11_blend_18 rfl ?_
  have hP : va_P D vwCl (((wX cI (D.1 99) zz g ad cn In Fn3) ++ ([(q2, .inl (cI, 12, .inl f0))] : va_W)) ++ ([(q15, .inr (1, [.null, .int 0, .int 0, .int 0, .int 0, .int 0, .int 0, .int 0]))] : va_W)) H := va_P_eq (List.append_assoc _ _ _).symm hP
  have hD : va_D A (((wX cI (D.1 99) zz g ad cn In Fn3) ++ ([(q2, .inl (cI, 12, .inl f0))] : va_W)) ++ ([(q15, .inr (1, [.null, .int 0, .int 0, .int 0, .int 0, .int 0, .int 0, .int 0]))] : va_W)) := va_D_eq (List.append_assoc _ _ _).symm hD
  have hFc := va_free (wc := [(q15, .inr (1, [.null, .int 0, .int 0, .int 0, .int 0, .int 0, .int 0, .int 0]))]) hD hS hA [_] (one_im (exr (m := 0) rfl))
  refine va_callv (runIN_w (As := []) (rest := [.ref q15]) S (q_l_Batch l D cI cB cZ q15 H.size) hK.2.2.2 ⟨⟨wk4_17 10 rfl rfl, wk1_1 11 rfl rfl, wk4_17 11 rfl rfl⟩, rfl, by decide, by decide, by decide +kernel⟩ hK hP hD [_] (one_is (exr (m := 0) rfl)) (one_im (exr (m := 0) rfl)) rfl ⟨Nat.le_of_ble_eq_true rfl, Nat.le_of_ble_eq_true rfl⟩ ⟨Nat.le_of_ble_eq_true rfl, Nat.le_of_ble_eq_true rfl⟩ rfl hl.1 rfl (Nat.le_of_ble_eq_true rfl) dX11_blend_19) hS (fun q _ h => hFc q h) hFc (fun u_4 t H1 locs ht hvm h_5 hB1 hz1 hk1 hS => ?_)
  obtain ⟨hP1, hD1⟩ := hB1
  rw [ht] at hP1
  obtain ⟨hP, hD⟩ := exjoin hP hD hk1 hFc hP1 hD1
  generalize H1 = H at hP hS ⊢
  rw [List.append_assoc] at hP hD
  have hP : va_P D vwCl ((wX cI (D.1 99) zz g ad cn In Fn3) ++ ([(q2, .inl (cI, 12, .inl f0)), (q15, .inr (1, [.ref u_4, .int 0, .int 0, .int 0, .int 0, .int 0, .int 0, .int 0])), (u_4, .inl (cI, 12, .inl (fun _ => 0)))] : va_W)) H := hP
  have hD : va_D A ((wX cI (D.1 99) zz g ad cn In Fn3) ++ ([(q2, .inl (cI, 12, .inl f0)), (q15, .inr (1, [.ref u_4, .int 0, .int 0, .int 0, .int 0, .int 0, .int 0, .int 0])), (u_4, .inl (cI, 12, .inl (fun _ => 0)))] : va_W)) := hD
  have hP : va_P D vwCl ((wX cI (D.1 99) zz g ad cn In Fn3) ++ ([(q15, .inr (1, [.ref u_4, .int 0, .int 0, .int 0, .int 0, .int 0, .int 0, .int 0])), (q2, .inl (cI, 12, .inl f0)), (u_4, .inl (cI, 12, .inl (fun _ => 0)))] : va_W)) H := va_P_perm (List.Perm.append_left _ (List.Perm.swap _ _ _)) hP
  have hD : va_D A ((wX cI (D.1 99) zz g ad cn In Fn3) ++ ([(q15, .inr (1, [.ref u_4, .int 0, .int 0, .int 0, .int 0, .int 0, .int 0, .int 0])), (q2, .inl (cI, 12, .inl f0)), (u_4, .inl (cI, 12, .inl (fun _ => 0)))] : va_W)) := va_D_perm (List.Perm.append_left _ (List.Perm.swap _ _ _)) hD
  refine lv_astore_n (lv' := [(3, .ref q15), (2, .int (nI n0)), (1, .ref q2), (0, .ref (g 0))]) hx hb dX11_blend_22 rfl hl (ltb rfl) rfl (fun ls hl => ?_)
  refine lv_iconst (v := 0) hx hb dX11_blend_23 kic_0 ?_
  refine lv_istore (lv' := [(4, .int 0), (3, .ref q15), (2, .int (nI n0)), (1, .ref q2), (0, .ref (g 0))]) hx hb dX11_blend_24 hl (ltb rfl) rfl (fun ls hl => ?_)
  refine lv_iconst (v := 0) hx hb dX11_blend_26 kic_0 ?_
  refine lv_istore (lv' := [(5, .int 0), (4, .int 0), (3, .ref q15), (2, .int (nI n0)), (1, .ref q2), (0, .ref (g 0))]) hx hb dX11_blend_27 hl (ltb rfl) rfl (fun ls hl => ?_)
  refine lv_iconst (v := 0) hx hb dX11_blend_29 kic_0 ?_
  refine lv_istore (lv' := [(6, .int 0), (5, .int 0), (4, .int 0), (3, .ref q15), (2, .int (nI n0)), (1, .ref q2), (0, .ref (g 0))]) hx hb dX11_blend_30 hl (ltb rfl) rfl (fun ls hl => ?_)
  have h2p := p2b (n := n0) (by omega)
  refine lv_iconst (v := 1) hx hb dX11_blend_32 kic_1 ?_
  refine lv_istore (lv' := [(7, .int 1), (6, .int 0), (5, .int 0), (4, .int 0), (3, .ref q15), (2, .int (nI n0)), (1, .ref q2), (0, .ref (g 0))]) hx hb dX11_blend_33 hl (ltb rfl) rfl (fun ls hl => ?_)
  have lp_35 : ∀ (n : Nat) (i35 : Nat) (x35_4 : Int32) (x35_5 : Int32) (x35_6 : Int32) (b35_01 : Int32) (b35_02 : Int32) (b35_04 : Int32) (b35_05 : Int32) (b35_06 : Int32) (F35 : Nat → Nat → Int32) (H : Heap) (locs : List Loc) , 2 ^ n0 - i35 < n → (i35 ≤ 2 ^ n0 ∧ Fr [] [] [7, 196, 197, 305] cn In Fn cn In F35) → va_P D vwCl ((wX cI (D.1 99) zz g ad cn In F35) ++ ([(q15, .inr (1, [.ref u_4, .int b35_01, .int b35_02, .int 0, .int b35_04, .int b35_05, .int b35_06, .int 0])), (q2, .inl (cI, 12, .inl f0)), (u_4, .inl (cI, 12, .inl (fun _ => 0)))] : va_W)) H → va_D A ((wX cI (D.1 99) zz g ad cn In F35) ++ ([(q15, .inr (1, [.ref u_4, .int b35_01, .int b35_02, .int 0, .int b35_04, .int b35_05, .int b35_06, .int 0])), (q2, .inl (cI, 12, .inl f0)), (u_4, .inl (cI, 12, .inl (fun _ => 0)))] : va_W)) → va_S A s.heap H locs → ∀ ls : Array Slot, lv_has ls 9 [(7, .int (nI i35)), (6, .int x35_6), (5, .int x35_5), (4, .int x35_4), (3, .ref q15), (2, .int (nI n0)), (1, .ref q2), (0, .ref (g 0))] → W p l e (RM 7 3 32) s m ([.ref (g 0)]).toArray below meth c H locs 3 32 (MQ below (va_Qi (fun (r : Int32) (u : (Nat → Nat → Nat) × (Nat → Nat) × (Nat → Int32) × (Nat → Nat → Int32)) => (fun r a2 c2 I2 F2 => ad = a2 ∧ cn = c2 ∧ In = I2 ∧ ∀ k, k ∉ [7, 196, 197, 305] → F2 k = Fn k) r u.1 u.2.1 u.2.2.1 u.2.2.2) (fun (u : (Nat → Nat → Nat) × (Nat → Nat) × (Nat → Int32) × (Nat → Nat → Int32)) (t : State) => va_P D vwCl (wX cI (D.1 99) zz g u.1 u.2.1 u.2.2.1 u.2.2.2) t.heap ∧ va_D A (wX cI (D.1 99) zz g u.1 u.2.1 u.2.2.1 u.2.2.2)) A) ([.ref (g 0)]).toArray s 3 32 A) (F0 m 35 ls []) := by
    intro n35
    induction n35 with
    | zero => intros; omega
    | succ n35 ih35 =>
      intro i35 x35_4 x35_5 x35_6 b35_01 b35_02 b35_04 b35_05 b35_06 F35 H locs hmu35 hinv35 hP hD hS ls hl
      obtain ⟨hr35, hfr35⟩ := hinv35
      have ti35 : (nI i35).toInt = (i35 : Int) := nI_toInt (by omega)
      refine lv_iload hx hb dX11_blend_35 (lvA0 hl) ?_
      refine lv_iconst (v := 1) hx hb dX11_blend_37 kic_1 ?_
      refine lv_iload_n hx hb dX11_blend_38 rfl (lvA5 hl) ?_
      refine lv_ishl hx hb dX11_blend_39 ?_
      refine lv_topi (fun y_6 ey_6 => ?_)
      obtain rfl : y_6 = (nI (2 ^ n0)) := ey_6.trans (sh1 (by omega))
      have : (nI (2 ^ n0)).toInt = (((2 ^ n0) : Nat) : Int) := nI_toInt (by omega)
      refine lv_icmp_ge (tgt := 128) hx hb dX11_blend_40 rfl (fun c_7 => ?_) (fun c_7 => ?_)
      ·
        have tc_7 : ((nI (2 ^ n0)).toInt : Int) ≤ (nI i35).toInt := Int32.le_iff_toInt_le.mp c_7
        refine lv_iload hx hb dX11_blend_128 (lvA3 hl) ?_
        have hP := exP hP
        have hD := exD hD
        exact W.iret (v := x35_4) hx hb hr (fun t ht hW => ⟨⟨x35_4, (ad, cn, In, F35), rfl, ⟨rfl, rfl, rfl, (show Fr [] [] [7, 196, 197, 305] cn In Fn cn In F35 from (Fr.mo hfr35 (sbl rfl) (sbl rfl) (sbl rfl))).2.2⟩, by rw [ht]; exact hP, hD⟩, hS.F ht⟩) hS.2.2 dX11_blend_130
      ·
        have tc_7 : ((nI i35).toInt : Int) < (nI (2 ^ n0)).toInt := Int32.lt_iff_toInt_lt.mp (Int32.not_le.mp c_7)
        refine lv_aload_n hx hb dX11_blend_43 rfl (lvA7 hl) ?_
        refine lv_aload_n hx hb dX11_blend_44 rfl (lvA4 hl) ?_
        refine lv_iload hx hb dX11_blend_45 (lvA0 hl) ?_
        refine lv_aload_n hx hb dX11_blend_47 rfl (lvA6 hl) ?_
        have hFc := free_all hD hS hA
        refine va_callv (runV_xa (As := [.ref q15, .int (nI i35), .ref q2]) (rest := []) S (q_EflipTo l D cI cB cZ zz qq vv bt g ad cn In F35 q15 u_4 b35_01 b35_02 0 b35_04 b35_05 b35_06 0 q2 f0 (nI i35) (([(u_4, .inl (cI, 12, .inl (fun _ => 0)))] : va_W)) H.size hIn3) kV_RX11_395 hK hXS hS hFc hP hD _ (exl xo_0) rfl rfl ⟨Nat.le_of_ble_eq_true rfl, Nat.le_of_ble_eq_true rfl⟩ ⟨Nat.le_of_ble_eq_true rfl, Nat.le_of_ble_eq_true rfl⟩ rfl hl.1 rfl (Nat.le_of_ble_eq_true rfl) dX11_blend_48) hS (fun q _ h => hFc q h) hFc (fun u7 t H1 locs ht hvm h7 hB1 hz1 hk1 hS => ?_)
        obtain ⟨hP1, hD1⟩ := hB1
        rw [ht] at hP1
        obtain ⟨a7, c7, I7, F7, W7⟩ := u7
        obtain ⟨rfl, rfl, rfl, rfl, za7, zb7, zd7, ze7, zf7, rfl⟩ := h7
        have hP : va_P D vwCl ((wX cI (D.1 99) zz g ad cn In F35) ++ ([(q15, .inr (1, [.ref u_4, .int za7, .int zb7, .int 0, .int zd7, .int ze7, .int zf7, .int 0])), (q2, .inl (cI, 12, .inl f0)), (u_4, .inl (cI, 12, .inl (fun _ => 0)))] : va_W)) H1 := hP1
        have hD : va_D A ((wX cI (D.1 99) zz g ad cn In F35) ++ ([(q15, .inr (1, [.ref u_4, .int za7, .int zb7, .int 0, .int zd7, .int ze7, .int zf7, .int 0])), (q2, .inl (cI, 12, .inl f0)), (u_4, .inl (cI, 12, .inl (fun _ => 0)))] : va_W)) := hD1.weaken (fun _ _ _ h => hFc _ h)
        generalize H1 = H at hP hS ⊢
        refine lv_iload hx hb dX11_blend_51 (lvA3 hl) ?_
        refine lv_if_eq (tgt := 83) hx hb dX11_blend_53 rfl (fun c_9 => ?_) (fun c_9 => ?_)
        ·
          have tc_9 : (x35_4.toInt : Int) = 0 := congrArg Int32.toInt c_9
          refine lv_iconst (v := 1) hx hb dX11_blend_83 kic_1 ?_
          refine lv_goto (tgt := 88) hx hb dX11_blend_84 rfl ?_
          refine lv_istore (lv' := [(8, .int 1), (7, .int (nI i35)), (6, .int x35_6), (5, .int x35_5), (4, .int x35_4), (3, .ref q15), (2, .int (nI n0)), (1, .ref q2), (0, .ref (g 0))]) hx hb dX11_blend_88 hl (ltb rfl) rfl (fun ls hl => ?_)
          refine lv_iload hx hb dX11_blend_90 (lvA0 hl) ?_
          refine lv_if_eq (tgt := 122) hx hb dX11_blend_92 rfl (fun h => absurd h cq_eq_1_0) (fun _ => ?_)
          refine lv_aload_n hx hb dX11_blend_95 rfl (lvA8 hl) ?_
          refine lv_aload_n hx hb dX11_blend_96 rfl (lvA5 hl) ?_
          have hFc := free_all hD hS hA
          refine va_calli (runV_xa (As := [.ref q15]) (rest := []) S (q_EbrokenClause l D cI cB cZ zz qq vv bt g ad cn In F35 q15 u_4 za7 zb7 0 zd7 ze7 zf7 0 (([(q2, .inl (cI, 12, .inl f0)), (u_4, .inl (cI, 12, .inl (fun _ => 0)))] : va_W)) H.size hIn3 hT (fun k hk => by rw [hfr35.2.2 198 (nml rfl)]; exact hC k hk)) kV_RX11_370 hK hXS hS hFc hP hD _ (exl xo_0) rfl rfl ⟨Nat.le_of_ble_eq_true rfl, Nat.le_of_ble_eq_true rfl⟩ ⟨Nat.le_of_ble_eq_true rfl, Nat.le_of_ble_eq_true rfl⟩ rfl hl.1 rfl (Nat.le_of_ble_eq_true rfl) dX11_blend_97) hS (fun q _ h => hFc q h) hFc (fun r9 u9 t H1 locs ht hvm h9 hB1 hz1 hk1 hS => ?_)
          obtain ⟨hP1, hD1⟩ := hB1
          rw [ht] at hP1
          obtain ⟨a9, c9, I9, F9⟩ := u9
          obtain ⟨rfl, rfl, rfl, h9⟩ := h9
          have hf9 : Fr [] [] [7, 196, 197, 305] cn In Fn cn In F9 := Fr.mo (Fr.tr hfr35 (show Fr [] [] [7, 196, 197, 305] cn In F35 cn In F9 from ⟨fun _ _ => rfl, fun _ _ => rfl, h9⟩)) (sbl rfl) (sbl rfl) (sbl rfl)
          have hP : va_P D vwCl ((wX cI (D.1 99) zz g ad cn In F9) ++ ([(q15, .inr (1, [.ref u_4, .int za7, .int zb7, .int 0, .int zd7, .int ze7, .int zf7, .int 0])), (q2, .inl (cI, 12, .inl f0)), (u_4, .inl (cI, 12, .inl (fun _ => 0)))] : va_W)) H1 := hP1
          have hD : va_D A ((wX cI (D.1 99) zz g ad cn In F9) ++ ([(q15, .inr (1, [.ref u_4, .int za7, .int zb7, .int 0, .int zd7, .int ze7, .int zf7, .int 0])), (q2, .inl (cI, 12, .inl f0)), (u_4, .inl (cI, 12, .inl (fun _ => 0)))] : va_W)) := hD1.weaken (fun _ _ _ h => hFc _ h)
          generalize H1 = H at hP hS ⊢
          refine lv_iconst (v := (-1)) hx hb dX11_blend_100 kic_m1 ?_
          refine lv_icmp_ne (tgt := 122) hx hb dX11_blend_101 rfl (fun c_11 => ?_) (fun c_11 => ?_)
          ·
            have tc_11 : (r9.toInt : Int) ≠ (-1) := fun q => c_11 (Int32.toInt_inj.mp q)
            refine lv_iinc (v := (nI (i35 + 1))) (lv' := [(7, .int (nI (i35 + 1))), (8, .int 1), (6, .int x35_6), (5, .int x35_5), (4, .int x35_4), (3, .ref q15), (2, .int (nI n0)), (1, .ref q2), (0, .ref (g 0))]) hx hb dX11_blend_122 hl (k := 1) rfl (nI_1 _) (ltb rfl) rfl (fun ls hl => ?_)
            refine lv_goto (tgt := 35) hx hb dX11_blend_125 rfl ?_
            exact ih35 (i35 + 1) x35_4 x35_5 x35_6 za7 zb7 zd7 ze7 zf7 F9 _ _ (by omega) ⟨(by omega), (Fr.mo hf9 (sbl rfl) (sbl rfl) (sbl rfl))⟩ hP hD hS ls (lv_sub hl [0, 2, 3, 4, 5, 6, 7, 8] rfl)
          ·
            have tc_11 : (r9.toInt : Int) = (-1) := congrArg Int32.toInt c_11
            refine lv_aload_n hx hb dX11_blend_104 rfl (lvA5 hl) ?_
            refine gf_RX11_388 S hK hP _ (exr (m := 0) rfl) (v := .int zd7) rfl dX11_blend_105 ?_
            refine lv_istore (lv' := [(4, .int zd7), (8, .int 1), (7, .int (nI i35)), (6, .int x35_6), (5, .int x35_5), (3, .ref q15), (2, .int (nI n0)), (1, .ref q2), (0, .ref (g 0))]) hx hb dX11_blend_108 hl (ltb rfl) rfl (fun ls hl => ?_)
            refine lv_aload_n hx hb dX11_blend_110 rfl (lvA5 hl) ?_
            refine gf_RX11_342 S hK hP _ (exr (m := 0) rfl) (v := .int zf7) rfl dX11_blend_111 ?_
            refine lv_istore (lv' := [(5, .int zf7), (4, .int zd7), (8, .int 1), (7, .int (nI i35)), (6, .int x35_6), (3, .ref q15), (2, .int (nI n0)), (1, .ref q2), (0, .ref (g 0))]) hx hb dX11_blend_114 hl (ltb rfl) rfl (fun ls hl => ?_)
            refine lv_aload_n hx hb dX11_blend_116 rfl (lvA5 hl) ?_
            refine gf_RX11_347 S hK hP _ (exr (m := 0) rfl) (v := .int ze7) rfl dX11_blend_117 ?_
            refine lv_istore (lv' := [(6, .int ze7), (5, .int zf7), (4, .int zd7), (8, .int 1), (7, .int (nI i35)), (3, .ref q15), (2, .int (nI n0)), (1, .ref q2), (0, .ref (g 0))]) hx hb dX11_blend_120 hl (ltb rfl) rfl (fun ls hl => ?_)
            refine lv_iinc (v := (nI (i35 + 1))) (lv' := [(7, .int (nI (i35 + 1))), (6, .int ze7), (5, .int zf7), (4, .int zd7), (8, .int 1), (3, .ref q15), (2, .int (nI n0)), (1, .ref q2), (0, .ref (g 0))]) hx hb dX11_blend_122 hl (k := 4) rfl (nI_1 _) (ltb rfl) rfl (fun ls hl => ?_)
            refine lv_goto (tgt := 35) hx hb dX11_blend_125 rfl ?_
            exact ih35 (i35 + 1) zd7 zf7 ze7 za7 zb7 zd7 ze7 zf7 F9 _ _ (by omega) ⟨(by omega), (Fr.mo hf9 (sbl rfl) (sbl rfl) (sbl rfl))⟩ hP hD hS ls (lv_sub hl [0, 1, 2, 3, 5, 6, 7, 8] rfl)
        ·
          have tc_9 : (x35_4.toInt : Int) ≠ 0 := fun q => c_9 (Int32.toInt_inj.mp q)
          refine lv_aload_n hx hb dX11_blend_56 rfl (lvA4 hl) ?_
          refine gf_RX11_342 S hK hP _ (exr (m := 0) rfl) (v := .int zf7) rfl dX11_blend_57 ?_
          refine lv_iload hx hb dX11_blend_60 (lvA2 hl) ?_
          refine lv_icmp_gt (tgt := 83) hx hb dX11_blend_62 rfl (fun c_12 => ?_) (fun c_12 => ?_)
          ·
            have tc_12 : (x35_5.toInt : Int) < zf7.toInt := Int32.lt_iff_toInt_lt.mp c_12
            refine lv_iconst (v := 1) hx hb dX11_blend_83 kic_1 ?_
            refine lv_goto (tgt := 88) hx hb dX11_blend_84 rfl ?_
            refine lv_istore (lv' := [(8, .int 1), (7, .int (nI i35)), (6, .int x35_6), (5, .int x35_5), (4, .int x35_4), (3, .ref q15), (2, .int (nI n0)), (1, .ref q2), (0, .ref (g 0))]) hx hb dX11_blend_88 hl (ltb rfl) rfl (fun ls hl => ?_)
            refine lv_iload hx hb dX11_blend_90 (lvA0 hl) ?_
            refine lv_if_eq (tgt := 122) hx hb dX11_blend_92 rfl (fun h => absurd h cq_eq_1_0) (fun _ => ?_)
            refine lv_aload_n hx hb dX11_blend_95 rfl (lvA8 hl) ?_
            refine lv_aload_n hx hb dX11_blend_96 rfl (lvA5 hl) ?_
            have hFc := free_all hD hS hA
            refine va_calli (runV_xa (As := [.ref q15]) (rest := []) S (q_EbrokenClause l D cI cB cZ zz qq vv bt g ad cn In F35 q15 u_4 za7 zb7 0 zd7 ze7 zf7 0 (([(q2, .inl (cI, 12, .inl f0)), (u_4, .inl (cI, 12, .inl (fun _ => 0)))] : va_W)) H.size hIn3 hT (fun k hk => by rw [hfr35.2.2 198 (nml rfl)]; exact hC k hk)) kV_RX11_370 hK hXS hS hFc hP hD _ (exl xo_0) rfl rfl ⟨Nat.le_of_ble_eq_true rfl, Nat.le_of_ble_eq_true rfl⟩ ⟨Nat.le_of_ble_eq_true rfl, Nat.le_of_ble_eq_true rfl⟩ rfl hl.1 rfl (Nat.le_of_ble_eq_true rfl) dX11_blend_97) hS (fun q _ h => hFc q h) hFc (fun r12 u12 t H1 locs ht hvm h12 hB1 hz1 hk1 hS => ?_)
            obtain ⟨hP1, hD1⟩ := hB1
            rw [ht] at hP1
            obtain ⟨a12, c12, I12, F12⟩ := u12
            obtain ⟨rfl, rfl, rfl, h12⟩ := h12
            have hf12 : Fr [] [] [7, 196, 197, 305] cn In Fn cn In F12 := Fr.mo (Fr.tr hfr35 (show Fr [] [] [7, 196, 197, 305] cn In F35 cn In F12 from ⟨fun _ _ => rfl, fun _ _ => rfl, h12⟩)) (sbl rfl) (sbl rfl) (sbl rfl)
            have hP : va_P D vwCl ((wX cI (D.1 99) zz g ad cn In F12) ++ ([(q15, .inr (1, [.ref u_4, .int za7, .int zb7, .int 0, .int zd7, .int ze7, .int zf7, .int 0])), (q2, .inl (cI, 12, .inl f0)), (u_4, .inl (cI, 12, .inl (fun _ => 0)))] : va_W)) H1 := hP1
            have hD : va_D A ((wX cI (D.1 99) zz g ad cn In F12) ++ ([(q15, .inr (1, [.ref u_4, .int za7, .int zb7, .int 0, .int zd7, .int ze7, .int zf7, .int 0])), (q2, .inl (cI, 12, .inl f0)), (u_4, .inl (cI, 12, .inl (fun _ => 0)))] : va_W)) := hD1.weaken (fun _ _ _ h => hFc _ h)
            generalize H1 = H at hP hS ⊢
            refine lv_iconst (v := (-1)) hx hb dX11_blend_100 kic_m1 ?_
            refine lv_icmp_ne (tgt := 122) hx hb dX11_blend_101 rfl (fun c_14 => ?_) (fun c_14 => ?_)
            ·
              have tc_14 : (r12.toInt : Int) ≠ (-1) := fun q => c_14 (Int32.toInt_inj.mp q)
              refine lv_iinc (v := (nI (i35 + 1))) (lv' := [(7, .int (nI (i35 + 1))), (8, .int 1), (6, .int x35_6), (5, .int x35_5), (4, .int x35_4), (3, .ref q15), (2, .int (nI n0)), (1, .ref q2), (0, .ref (g 0))]) hx hb dX11_blend_122 hl (k := 1) rfl (nI_1 _) (ltb rfl) rfl (fun ls hl => ?_)
              refine lv_goto (tgt := 35) hx hb dX11_blend_125 rfl ?_
              exact ih35 (i35 + 1) x35_4 x35_5 x35_6 za7 zb7 zd7 ze7 zf7 F12 _ _ (by omega) ⟨(by omega), (Fr.mo hf12 (sbl rfl) (sbl rfl) (sbl rfl))⟩ hP hD hS ls (lv_sub hl [0, 2, 3, 4, 5, 6, 7, 8] rfl)
            ·
              have tc_14 : (r12.toInt : Int) = (-1) := congrArg Int32.toInt c_14
              refine lv_aload_n hx hb dX11_blend_104 rfl (lvA5 hl) ?_
              refine gf_RX11_388 S hK hP _ (exr (m := 0) rfl) (v := .int zd7) rfl dX11_blend_105 ?_
              refine lv_istore (lv' := [(4, .int zd7), (8, .int 1), (7, .int (nI i35)), (6, .int x35_6), (5, .int x35_5), (3, .ref q15), (2, .int (nI n0)), (1, .ref q2), (0, .ref (g 0))]) hx hb dX11_blend_108 hl (ltb rfl) rfl (fun ls hl => ?_)
              refine lv_aload_n hx hb dX11_blend_110 rfl (lvA5 hl) ?_
              refine gf_RX11_342 S hK hP _ (exr (m := 0) rfl) (v := .int zf7) rfl dX11_blend_111 ?_
              refine lv_istore (lv' := [(5, .int zf7), (4, .int zd7), (8, .int 1), (7, .int (nI i35)), (6, .int x35_6), (3, .ref q15), (2, .int (nI n0)), (1, .ref q2), (0, .ref (g 0))]) hx hb dX11_blend_114 hl (ltb rfl) rfl (fun ls hl => ?_)
              refine lv_aload_n hx hb dX11_blend_116 rfl (lvA5 hl) ?_
              refine gf_RX11_347 S hK hP _ (exr (m := 0) rfl) (v := .int ze7) rfl dX11_blend_117 ?_
              refine lv_istore (lv' := [(6, .int ze7), (5, .int zf7), (4, .int zd7), (8, .int 1), (7, .int (nI i35)), (3, .ref q15), (2, .int (nI n0)), (1, .ref q2), (0, .ref (g 0))]) hx hb dX11_blend_120 hl (ltb rfl) rfl (fun ls hl => ?_)
              refine lv_iinc (v := (nI (i35 + 1))) (lv' := [(7, .int (nI (i35 + 1))), (6, .int ze7), (5, .int zf7), (4, .int zd7), (8, .int 1), (3, .ref q15), (2, .int (nI n0)), (1, .ref q2), (0, .ref (g 0))]) hx hb dX11_blend_122 hl (k := 4) rfl (nI_1 _) (ltb rfl) rfl (fun ls hl => ?_)
              refine lv_goto (tgt := 35) hx hb dX11_blend_125 rfl ?_
              exact ih35 (i35 + 1) zd7 zf7 ze7 za7 zb7 zd7 ze7 zf7 F12 _ _ (by omega) ⟨(by omega), (Fr.mo hf12 (sbl rfl) (sbl rfl) (sbl rfl))⟩ hP hD hS ls (lv_sub hl [0, 1, 2, 3, 5, 6, 7, 8] rfl)
          ·
            have tc_12 : (zf7.toInt : Int) ≤ x35_5.toInt := Int32.le_iff_toInt_le.mp (Int32.not_lt.mp c_12)
            refine lv_aload_n hx hb dX11_blend_65 rfl (lvA4 hl) ?_
            refine gf_RX11_342 S hK hP _ (exr (m := 0) rfl) (v := .int zf7) rfl dX11_blend_66 ?_
            refine lv_iload hx hb dX11_blend_69 (lvA2 hl) ?_
            refine lv_icmp_ne (tgt := 87) hx hb dX11_blend_71 rfl (fun c_15 => ?_) (fun c_15 => ?_)
            ·
              have tc_15 : (zf7.toInt : Int) ≠ x35_5.toInt := fun q => c_15 (Int32.toInt_inj.mp q)
              refine lv_iconst (v := 0) hx hb dX11_blend_87 kic_0 ?_
              refine lv_istore (lv' := [(8, .int 0), (7, .int (nI i35)), (6, .int x35_6), (5, .int x35_5), (4, .int x35_4), (3, .ref q15), (2, .int (nI n0)), (1, .ref q2), (0, .ref (g 0))]) hx hb dX11_blend_88 hl (ltb rfl) rfl (fun ls hl => ?_)
              refine lv_iload hx hb dX11_blend_90 (lvA0 hl) ?_
              refine lv_if_eq (tgt := 122) hx hb dX11_blend_92 rfl (fun _ => ?_) (fun h => absurd h cq_eq_0_0)
              refine lv_iinc (v := (nI (i35 + 1))) (lv' := [(7, .int (nI (i35 + 1))), (8, .int 0), (6, .int x35_6), (5, .int x35_5), (4, .int x35_4), (3, .ref q15), (2, .int (nI n0)), (1, .ref q2), (0, .ref (g 0))]) hx hb dX11_blend_122 hl (k := 1) rfl (nI_1 _) (ltb rfl) rfl (fun ls hl => ?_)
              refine lv_goto (tgt := 35) hx hb dX11_blend_125 rfl ?_
              exact ih35 (i35 + 1) x35_4 x35_5 x35_6 za7 zb7 zd7 ze7 zf7 F35 _ _ (by omega) ⟨(by omega), (Fr.mo hfr35 (sbl rfl) (sbl rfl) (sbl rfl))⟩ hP hD hS ls (lv_sub hl [0, 2, 3, 4, 5, 6, 7, 8] rfl)
            ·
              have tc_15 : (zf7.toInt : Int) = x35_5.toInt := congrArg Int32.toInt c_15
              refine lv_aload_n hx hb dX11_blend_74 rfl (lvA4 hl) ?_
              refine gf_RX11_347 S hK hP _ (exr (m := 0) rfl) (v := .int ze7) rfl dX11_blend_75 ?_
              refine lv_iload hx hb dX11_blend_78 (lvA1 hl) ?_
              refine lv_icmp_ge (tgt := 87) hx hb dX11_blend_80 rfl (fun c_16 => ?_) (fun c_16 => ?_)
              ·
                have tc_16 : (x35_6.toInt : Int) ≤ ze7.toInt := Int32.le_iff_toInt_le.mp c_16
                refine lv_iconst (v := 0) hx hb dX11_blend_87 kic_0 ?_
                refine lv_istore (lv' := [(8, .int 0), (7, .int (nI i35)), (6, .int x35_6), (5, .int x35_5), (4, .int x35_4), (3, .ref q15), (2, .int (nI n0)), (1, .ref q2), (0, .ref (g 0))]) hx hb dX11_blend_88 hl (ltb rfl) rfl (fun ls hl => ?_)
                refine lv_iload hx hb dX11_blend_90 (lvA0 hl) ?_
                refine lv_if_eq (tgt := 122) hx hb dX11_blend_92 rfl (fun _ => ?_) (fun h => absurd h cq_eq_0_0)
                refine lv_iinc (v := (nI (i35 + 1))) (lv' := [(7, .int (nI (i35 + 1))), (8, .int 0), (6, .int x35_6), (5, .int x35_5), (4, .int x35_4), (3, .ref q15), (2, .int (nI n0)), (1, .ref q2), (0, .ref (g 0))]) hx hb dX11_blend_122 hl (k := 1) rfl (nI_1 _) (ltb rfl) rfl (fun ls hl => ?_)
                refine lv_goto (tgt := 35) hx hb dX11_blend_125 rfl ?_
                exact ih35 (i35 + 1) x35_4 x35_5 x35_6 za7 zb7 zd7 ze7 zf7 F35 _ _ (by omega) ⟨(by omega), (Fr.mo hfr35 (sbl rfl) (sbl rfl) (sbl rfl))⟩ hP hD hS ls (lv_sub hl [0, 2, 3, 4, 5, 6, 7, 8] rfl)
              ·
                have tc_16 : (ze7.toInt : Int) < x35_6.toInt := Int32.lt_iff_toInt_lt.mp (Int32.not_le.mp c_16)
                refine lv_iconst (v := 1) hx hb dX11_blend_83 kic_1 ?_
                refine lv_goto (tgt := 88) hx hb dX11_blend_84 rfl ?_
                refine lv_istore (lv' := [(8, .int 1), (7, .int (nI i35)), (6, .int x35_6), (5, .int x35_5), (4, .int x35_4), (3, .ref q15), (2, .int (nI n0)), (1, .ref q2), (0, .ref (g 0))]) hx hb dX11_blend_88 hl (ltb rfl) rfl (fun ls hl => ?_)
                refine lv_iload hx hb dX11_blend_90 (lvA0 hl) ?_
                refine lv_if_eq (tgt := 122) hx hb dX11_blend_92 rfl (fun h => absurd h cq_eq_1_0) (fun _ => ?_)
                refine lv_aload_n hx hb dX11_blend_95 rfl (lvA8 hl) ?_
                refine lv_aload_n hx hb dX11_blend_96 rfl (lvA5 hl) ?_
                have hFc := free_all hD hS hA
                refine va_calli (runV_xa (As := [.ref q15]) (rest := []) S (q_EbrokenClause l D cI cB cZ zz qq vv bt g ad cn In F35 q15 u_4 za7 zb7 0 zd7 ze7 zf7 0 (([(q2, .inl (cI, 12, .inl f0)), (u_4, .inl (cI, 12, .inl (fun _ => 0)))] : va_W)) H.size hIn3 hT (fun k hk => by rw [hfr35.2.2 198 (nml rfl)]; exact hC k hk)) kV_RX11_370 hK hXS hS hFc hP hD _ (exl xo_0) rfl rfl ⟨Nat.le_of_ble_eq_true rfl, Nat.le_of_ble_eq_true rfl⟩ ⟨Nat.le_of_ble_eq_true rfl, Nat.le_of_ble_eq_true rfl⟩ rfl hl.1 rfl (Nat.le_of_ble_eq_true rfl) dX11_blend_97) hS (fun q _ h => hFc q h) hFc (fun r16 u16 t H1 locs ht hvm h16 hB1 hz1 hk1 hS => ?_)
                obtain ⟨hP1, hD1⟩ := hB1
                rw [ht] at hP1
                obtain ⟨a16, c16, I16, F16⟩ := u16
                obtain ⟨rfl, rfl, rfl, h16⟩ := h16
                have hf16 : Fr [] [] [7, 196, 197, 305] cn In Fn cn In F16 := Fr.mo (Fr.tr hfr35 (show Fr [] [] [7, 196, 197, 305] cn In F35 cn In F16 from ⟨fun _ _ => rfl, fun _ _ => rfl, h16⟩)) (sbl rfl) (sbl rfl) (sbl rfl)
                have hP : va_P D vwCl ((wX cI (D.1 99) zz g ad cn In F16) ++ ([(q15, .inr (1, [.ref u_4, .int za7, .int zb7, .int 0, .int zd7, .int ze7, .int zf7, .int 0])), (q2, .inl (cI, 12, .inl f0)), (u_4, .inl (cI, 12, .inl (fun _ => 0)))] : va_W)) H1 := hP1
                have hD : va_D A ((wX cI (D.1 99) zz g ad cn In F16) ++ ([(q15, .inr (1, [.ref u_4, .int za7, .int zb7, .int 0, .int zd7, .int ze7, .int zf7, .int 0])), (q2, .inl (cI, 12, .inl f0)), (u_4, .inl (cI, 12, .inl (fun _ => 0)))] : va_W)) := hD1.weaken (fun _ _ _ h => hFc _ h)
                generalize H1 = H at hP hS ⊢
                refine lv_iconst (v := (-1)) hx hb dX11_blend_100 kic_m1 ?_
                refine lv_icmp_ne (tgt := 122) hx hb dX11_blend_101 rfl (fun c_18 => ?_) (fun c_18 => ?_)
                ·
                  have tc_18 : (r16.toInt : Int) ≠ (-1) := fun q => c_18 (Int32.toInt_inj.mp q)
                  refine lv_iinc (v := (nI (i35 + 1))) (lv' := [(7, .int (nI (i35 + 1))), (8, .int 1), (6, .int x35_6), (5, .int x35_5), (4, .int x35_4), (3, .ref q15), (2, .int (nI n0)), (1, .ref q2), (0, .ref (g 0))]) hx hb dX11_blend_122 hl (k := 1) rfl (nI_1 _) (ltb rfl) rfl (fun ls hl => ?_)
                  refine lv_goto (tgt := 35) hx hb dX11_blend_125 rfl ?_
                  exact ih35 (i35 + 1) x35_4 x35_5 x35_6 za7 zb7 zd7 ze7 zf7 F16 _ _ (by omega) ⟨(by omega), (Fr.mo hf16 (sbl rfl) (sbl rfl) (sbl rfl))⟩ hP hD hS ls (lv_sub hl [0, 2, 3, 4, 5, 6, 7, 8] rfl)
                ·
                  have tc_18 : (r16.toInt : Int) = (-1) := congrArg Int32.toInt c_18
                  refine lv_aload_n hx hb dX11_blend_104 rfl (lvA5 hl) ?_
                  refine gf_RX11_388 S hK hP _ (exr (m := 0) rfl) (v := .int zd7) rfl dX11_blend_105 ?_
                  refine lv_istore (lv' := [(4, .int zd7), (8, .int 1), (7, .int (nI i35)), (6, .int x35_6), (5, .int x35_5), (3, .ref q15), (2, .int (nI n0)), (1, .ref q2), (0, .ref (g 0))]) hx hb dX11_blend_108 hl (ltb rfl) rfl (fun ls hl => ?_)
                  refine lv_aload_n hx hb dX11_blend_110 rfl (lvA5 hl) ?_
                  refine gf_RX11_342 S hK hP _ (exr (m := 0) rfl) (v := .int zf7) rfl dX11_blend_111 ?_
                  refine lv_istore (lv' := [(5, .int zf7), (4, .int zd7), (8, .int 1), (7, .int (nI i35)), (6, .int x35_6), (3, .ref q15), (2, .int (nI n0)), (1, .ref q2), (0, .ref (g 0))]) hx hb dX11_blend_114 hl (ltb rfl) rfl (fun ls hl => ?_)
                  refine lv_aload_n hx hb dX11_blend_116 rfl (lvA5 hl) ?_
                  refine gf_RX11_347 S hK hP _ (exr (m := 0) rfl) (v := .int ze7) rfl dX11_blend_117 ?_
                  refine lv_istore (lv' := [(6, .int ze7), (5, .int zf7), (4, .int zd7), (8, .int 1), (7, .int (nI i35)), (3, .ref q15), (2, .int (nI n0)), (1, .ref q2), (0, .ref (g 0))]) hx hb dX11_blend_120 hl (ltb rfl) rfl (fun ls hl => ?_)
                  refine lv_iinc (v := (nI (i35 + 1))) (lv' := [(7, .int (nI (i35 + 1))), (6, .int ze7), (5, .int zf7), (4, .int zd7), (8, .int 1), (3, .ref q15), (2, .int (nI n0)), (1, .ref q2), (0, .ref (g 0))]) hx hb dX11_blend_122 hl (k := 4) rfl (nI_1 _) (ltb rfl) rfl (fun ls hl => ?_)
                  refine lv_goto (tgt := 35) hx hb dX11_blend_125 rfl ?_
                  exact ih35 (i35 + 1) zd7 zf7 ze7 za7 zb7 zd7 ze7 zf7 F16 _ _ (by omega) ⟨(by omega), (Fr.mo hf16 (sbl rfl) (sbl rfl) (sbl rfl))⟩ hP hD hS ls (lv_sub hl [0, 1, 2, 3, 5, 6, 7, 8] rfl)
  exact lp_35 _ 1 0 0 0 0 0 0 0 0 Fn3 _ _ (Nat.lt_succ_self _) ⟨(by omega), (Fr.mo hf3 (sbl rfl) (sbl rfl) (sbl rfl))⟩ hP hD hS ls (lv_sub hl [0, 1, 2, 3, 4, 5, 6, 7] rfl)
