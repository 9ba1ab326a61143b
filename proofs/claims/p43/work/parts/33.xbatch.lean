set_option maxRecDepth 100000 in
theorem kV_RX0_17 : CalV RX0 17 yX0_has cX0_has 2 (some .boolean) 1 := ⟨⟨wk5_1 2 rfl rfl, wk5_1 3 rfl rfl, wk5_1 4 rfl rfl, wk1_1 11 rfl rfl, wk5_1 5 rfl rfl⟩, ⟨nmh_1.1, nmh_1.2, pd_15⟩⟩
set_option maxRecDepth 100000 in
theorem pf_RX0_13 {p : Program} {l : Launch} {e : Env} {R : Room} {s : State} {m : MethodId} {args : Array Value} {below : List Frame} {meth : Method} {c : Code} {H : Heap} {locs : List Loc} {cells slots : Nat} {Q : State → Prop} {cc : ByteArray} {nL pc : Nat} {D : va_G} {cI cB cZ : ClassId} {ws : va_W} {rest : List Value} {ls : Array Slot} {a : Nat} {fs : List Value} {v : Value} {A : Nat → Prop} {H0 : Heap} (S : SF p m c cc nL s args RX0) (hK : KK D cI cB cZ s) (hP : va_P D vwCl ws H) (hD : va_D A ws) (hS : va_S A H0 H locs) (q0 : Nat) (he : ws[q0]? = some (a, .inr (1, fs))) (hl : 4 < fs.length) (hn : narrow (tyX0 4) v = v) (hfit : fits (tyX0 4) v = true) (hdg : decode cc pc = .ok (.putfield 13, 3)) (kk : ∀ (H1 : Heap) (locs1 : List Loc), va_P D vwCl (ws.set q0 (a, .inr (1, fs.set 4 v))) H1 → va_D A (ws.set q0 (a, .inr (1, fs.set 4 v))) → va_S A H0 H1 locs1 → W p l e R s m args below meth c H1 locs1 cells slots Q (F0 m (pc + 3) ls rest)) : W p l e R s m args below meth c H locs cells slots Q (F0 m pc ls (v :: .ref a :: rest)) :=
  va_put (C := RX0) (T := TX0) (N := 8) S.1 S.2.1 S.2.2.2.2 hin_RX0 tyX0 tyX0_ok nmX0 S.2.2.2.1 hK.1 hP hD hS q0 he rfl 4 (by decide) (S.2.2.2.2 _ (wk4_18 6 rfl rfl)) (fun _ h9 => h9) rfl (tyX0_ok 4 (by decide)) hn hfit hl hdg kk
set_option maxRecDepth 100000 in
theorem gf_RX0_21 {p : Program} {l : Launch} {e : Env} {R : Room} {s : State} {m : MethodId} {args : Array Value} {below : List Frame} {meth : Method} {c : Code} {H : Heap} {locs : List Loc} {cells slots : Nat} {Q : State → Prop} {cc : ByteArray} {nL pc : Nat} {D : va_G} {cI cB cZ : ClassId} {ws : va_W} {rest : List Value} {ls : Array Slot} {a : Nat} {fs : List Value} {v : Value} (S : SF p m c cc nL s args RX0) (hK : KK D cI cB cZ s) (hP : va_P D vwCl ws H) (q0 : Nat) (he : ws[q0]? = some (a, .inr (1, fs))) (hv : fs[5]? = some v) (hdg : decode cc pc = .ok (.getfield 21, 3)) (kk : W p l e R s m args below meth c H locs cells slots Q (F0 m (pc + 3) ls (v :: rest))) : W p l e R s m args below meth c H locs cells slots Q (F0 m pc ls (.ref a :: rest)) :=
  va_get (C := RX0) (T := TX0) (N := 8) S.1 S.2.1 S.2.2.2.2 hin_RX0 S.2.2.2.1 hK.1 hP q0 he rfl 5 (by decide) (S.2.2.2.2 _ (wk4_18 8 rfl rfl)) (fun _ h9 => h9) hv hdg kk
set_option maxRecDepth 100000 in
theorem pf_RX0_21 {p : Program} {l : Launch} {e : Env} {R : Room} {s : State} {m : MethodId} {args : Array Value} {below : List Frame} {meth : Method} {c : Code} {H : Heap} {locs : List Loc} {cells slots : Nat} {Q : State → Prop} {cc : ByteArray} {nL pc : Nat} {D : va_G} {cI cB cZ : ClassId} {ws : va_W} {rest : List Value} {ls : Array Slot} {a : Nat} {fs : List Value} {v : Value} {A : Nat → Prop} {H0 : Heap} (S : SF p m c cc nL s args RX0) (hK : KK D cI cB cZ s) (hP : va_P D vwCl ws H) (hD : va_D A ws) (hS : va_S A H0 H locs) (q0 : Nat) (he : ws[q0]? = some (a, .inr (1, fs))) (hl : 5 < fs.length) (hn : narrow (tyX0 5) v = v) (hfit : fits (tyX0 5) v = true) (hdg : decode cc pc = .ok (.putfield 21, 3)) (kk : ∀ (H1 : Heap) (locs1 : List Loc), va_P D vwCl (ws.set q0 (a, .inr (1, fs.set 5 v))) H1 → va_D A (ws.set q0 (a, .inr (1, fs.set 5 v))) → va_S A H0 H1 locs1 → W p l e R s m args below meth c H1 locs1 cells slots Q (F0 m (pc + 3) ls rest)) : W p l e R s m args below meth c H locs cells slots Q (F0 m pc ls (v :: .ref a :: rest)) :=
  va_put (C := RX0) (T := TX0) (N := 8) S.1 S.2.1 S.2.2.2.2 hin_RX0 tyX0 tyX0_ok nmX0 S.2.2.2.1 hK.1 hP hD hS q0 he rfl 5 (by decide) (S.2.2.2.2 _ (wk4_18 8 rfl rfl)) (fun _ h9 => h9) rfl (tyX0_ok 5 (by decide)) hn hfit hl hdg kk
set_option maxRecDepth 100000 in
theorem gf_RX0_27 {p : Program} {l : Launch} {e : Env} {R : Room} {s : State} {m : MethodId} {args : Array Value} {below : List Frame} {meth : Method} {c : Code} {H : Heap} {locs : List Loc} {cells slots : Nat} {Q : State → Prop} {cc : ByteArray} {nL pc : Nat} {D : va_G} {cI cB cZ : ClassId} {ws : va_W} {rest : List Value} {ls : Array Slot} {a : Nat} {fs : List Value} {v : Value} (S : SF p m c cc nL s args RX0) (hK : KK D cI cB cZ s) (hP : va_P D vwCl ws H) (q0 : Nat) (he : ws[q0]? = some (a, .inr (3, fs))) (hv : fs[2]? = some v) (hdg : decode cc pc = .ok (.getfield 27, 3)) (kk : W p l e R s m args below meth c H locs cells slots Q (F0 m (pc + 3) ls (v :: rest))) : W p l e R s m args below meth c H locs cells slots Q (F0 m pc ls (.ref a :: rest)) :=
  va_get (C := RX2) (T := TX2) (N := 10) S.1 S.2.1 S.2.2.2.2 hin_RX2 S.2.2.2.1 hK.1 hP q0 he rfl 2 (by decide) (S.2.2.2.2 _ (wk2_17 11 rfl rfl)) (fun _ h9 => h9) hv hdg kk
set_option maxRecDepth 100000 in
theorem pf_RX0_24 {p : Program} {l : Launch} {e : Env} {R : Room} {s : State} {m : MethodId} {args : Array Value} {below : List Frame} {meth : Method} {c : Code} {H : Heap} {locs : List Loc} {cells slots : Nat} {Q : State → Prop} {cc : ByteArray} {nL pc : Nat} {D : va_G} {cI cB cZ : ClassId} {ws : va_W} {rest : List Value} {ls : Array Slot} {a : Nat} {fs : List Value} {v : Value} {A : Nat → Prop} {H0 : Heap} (S : SF p m c cc nL s args RX0) (hK : KK D cI cB cZ s) (hP : va_P D vwCl ws H) (hD : va_D A ws) (hS : va_S A H0 H locs) (q0 : Nat) (he : ws[q0]? = some (a, .inr (1, fs))) (hl : 6 < fs.length) (hn : narrow (tyX0 6) v = v) (hfit : fits (tyX0 6) v = true) (hdg : decode cc pc = .ok (.putfield 24, 3)) (kk : ∀ (H1 : Heap) (locs1 : List Loc), va_P D vwCl (ws.set q0 (a, .inr (1, fs.set 6 v))) H1 → va_D A (ws.set q0 (a, .inr (1, fs.set 6 v))) → va_S A H0 H1 locs1 → W p l e R s m args below meth c H1 locs1 cells slots Q (F0 m (pc + 3) ls rest)) : W p l e R s m args below meth c H locs cells slots Q (F0 m pc ls (v :: .ref a :: rest)) :=
  va_put (C := RX0) (T := TX0) (N := 8) S.1 S.2.1 S.2.2.2.2 hin_RX0 tyX0 tyX0_ok nmX0 S.2.2.2.1 hK.1 hP hD hS q0 he rfl 6 (by decide) (S.2.2.2.2 _ (wk4_18 10 rfl rfl)) (fun _ h9 => h9) rfl (tyX0_ok 6 (by decide)) hn hfit hl hdg kk
set_option maxRecDepth 100000 in
theorem gf_RX0_33 {p : Program} {l : Launch} {e : Env} {R : Room} {s : State} {m : MethodId} {args : Array Value} {below : List Frame} {meth : Method} {c : Code} {H : Heap} {locs : List Loc} {cells slots : Nat} {Q : State → Prop} {cc : ByteArray} {nL pc : Nat} {D : va_G} {cI cB cZ : ClassId} {ws : va_W} {rest : List Value} {ls : Array Slot} {a : Nat} {fs : List Value} {v : Value} (S : SF p m c cc nL s args RX0) (hK : KK D cI cB cZ s) (hP : va_P D vwCl ws H) (q0 : Nat) (he : ws[q0]? = some (a, .inr (3, fs))) (hv : fs[3]? = some v) (hdg : decode cc pc = .ok (.getfield 33, 3)) (kk : W p l e R s m args below meth c H locs cells slots Q (F0 m (pc + 3) ls (v :: rest))) : W p l e R s m args below meth c H locs cells slots Q (F0 m pc ls (.ref a :: rest)) :=
  va_get (C := RX2) (T := TX2) (N := 10) S.1 S.2.1 S.2.2.2.2 hin_RX2 S.2.2.2.1 hK.1 hP q0 he rfl 3 (by decide) (S.2.2.2.2 _ (wk2_18 2 rfl rfl)) (fun _ h9 => h9) hv hdg kk
set_option maxRecDepth 100000 in
theorem pf_RX0_30 {p : Program} {l : Launch} {e : Env} {R : Room} {s : State} {m : MethodId} {args : Array Value} {below : List Frame} {meth : Method} {c : Code} {H : Heap} {locs : List Loc} {cells slots : Nat} {Q : State → Prop} {cc : ByteArray} {nL pc : Nat} {D : va_G} {cI cB cZ : ClassId} {ws : va_W} {rest : List Value} {ls : Array Slot} {a : Nat} {fs : List Value} {v : Value} {A : Nat → Prop} {H0 : Heap} (S : SF p m c cc nL s args RX0) (hK : KK D cI cB cZ s) (hP : va_P D vwCl ws H) (hD : va_D A ws) (hS : va_S A H0 H locs) (q0 : Nat) (he : ws[q0]? = some (a, .inr (1, fs))) (hl : 1 < fs.length) (hn : narrow (tyX0 1) v = v) (hfit : fits (tyX0 1) v = true) (hdg : decode cc pc = .ok (.putfield 30, 3)) (kk : ∀ (H1 : Heap) (locs1 : List Loc), va_P D vwCl (ws.set q0 (a, .inr (1, fs.set 1 v))) H1 → va_D A (ws.set q0 (a, .inr (1, fs.set 1 v))) → va_S A H0 H1 locs1 → W p l e R s m args below meth c H1 locs1 cells slots Q (F0 m (pc + 3) ls rest)) : W p l e R s m args below meth c H locs cells slots Q (F0 m pc ls (v :: .ref a :: rest)) :=
  va_put (C := RX0) (T := TX0) (N := 8) S.1 S.2.1 S.2.2.2.2 hin_RX0 tyX0 tyX0_ok nmX0 S.2.2.2.1 hK.1 hP hD hS q0 he rfl 1 (by decide) (S.2.2.2.2 _ (wk4_18 2 rfl rfl)) (fun _ h9 => h9) rfl (tyX0_ok 1 (by decide)) hn hfit hl hdg kk
set_option maxRecDepth 100000 in
theorem gf_RX0_39 {p : Program} {l : Launch} {e : Env} {R : Room} {s : State} {m : MethodId} {args : Array Value} {below : List Frame} {meth : Method} {c : Code} {H : Heap} {locs : List Loc} {cells slots : Nat} {Q : State → Prop} {cc : ByteArray} {nL pc : Nat} {D : va_G} {cI cB cZ : ClassId} {ws : va_W} {rest : List Value} {ls : Array Slot} {a : Nat} {fs : List Value} {v : Value} (S : SF p m c cc nL s args RX0) (hK : KK D cI cB cZ s) (hP : va_P D vwCl ws H) (q0 : Nat) (he : ws[q0]? = some (a, .inr (3, fs))) (hv : fs[4]? = some v) (hdg : decode cc pc = .ok (.getfield 39, 3)) (kk : W p l e R s m args below meth c H locs cells slots Q (F0 m (pc + 3) ls (v :: rest))) : W p l e R s m args below meth c H locs cells slots Q (F0 m pc ls (.ref a :: rest)) :=
  va_get (C := RX2) (T := TX2) (N := 10) S.1 S.2.1 S.2.2.2.2 hin_RX2 S.2.2.2.1 hK.1 hP q0 he rfl 4 (by decide) (S.2.2.2.2 _ (wk2_18 5 rfl rfl)) (fun _ h9 => h9) hv hdg kk
set_option maxRecDepth 100000 in
theorem pf_RX0_36 {p : Program} {l : Launch} {e : Env} {R : Room} {s : State} {m : MethodId} {args : Array Value} {below : List Frame} {meth : Method} {c : Code} {H : Heap} {locs : List Loc} {cells slots : Nat} {Q : State → Prop} {cc : ByteArray} {nL pc : Nat} {D : va_G} {cI cB cZ : ClassId} {ws : va_W} {rest : List Value} {ls : Array Slot} {a : Nat} {fs : List Value} {v : Value} {A : Nat → Prop} {H0 : Heap} (S : SF p m c cc nL s args RX0) (hK : KK D cI cB cZ s) (hP : va_P D vwCl ws H) (hD : va_D A ws) (hS : va_S A H0 H locs) (q0 : Nat) (he : ws[q0]? = some (a, .inr (1, fs))) (hl : 2 < fs.length) (hn : narrow (tyX0 2) v = v) (hfit : fits (tyX0 2) v = true) (hdg : decode cc pc = .ok (.putfield 36, 3)) (kk : ∀ (H1 : Heap) (locs1 : List Loc), va_P D vwCl (ws.set q0 (a, .inr (1, fs.set 2 v))) H1 → va_D A (ws.set q0 (a, .inr (1, fs.set 2 v))) → va_S A H0 H1 locs1 → W p l e R s m args below meth c H1 locs1 cells slots Q (F0 m (pc + 3) ls rest)) : W p l e R s m args below meth c H locs cells slots Q (F0 m pc ls (v :: .ref a :: rest)) :=
  va_put (C := RX0) (T := TX0) (N := 8) S.1 S.2.1 S.2.2.2.2 hin_RX0 tyX0 tyX0_ok nmX0 S.2.2.2.1 hK.1 hP hD hS q0 he rfl 2 (by decide) (S.2.2.2.2 _ (wk4_18 3 rfl rfl)) (fun _ h9 => h9) rfl (tyX0_ok 2 (by decide)) hn hfit hl hdg kk
set_option maxRecDepth 100000 in
theorem kV_RX11_354 : CalV RX11 354 yX11_canBeBatched cX11_canBeBatched 2 (some .boolean) 1 := ⟨⟨wk5_0 6 rfl rfl, wk5_0 8 rfl rfl, wT_sel 44 _ rfl rfl rfl, wk1_0 1 rfl rfl, wk5_0 9 rfl rfl⟩, ⟨nmh_0.1, nmh_0.2, pd_52⟩⟩
set_option maxRecDepth 100000 in
theorem kV_RX11_358 : CalV RX11 358 yX0_flip cX0_flip 4 none 2 := ⟨⟨wk5_0 10 rfl rfl, wk5_0 11 rfl rfl, wk5_1 0 rfl rfl, wk1_1 11 rfl rfl, wk5_1 1 rfl rfl⟩, ⟨nmh_1.1, nmh_1.2, pd_42⟩⟩
set_option maxRecDepth 100000 in
theorem gf_RX11_347 {p : Program} {l : Launch} {e : Env} {R : Room} {s : State} {m : MethodId} {args : Array Value} {below : List Frame} {meth : Method} {c : Code} {H : Heap} {locs : List Loc} {cells slots : Nat} {Q : State → Prop} {cc : ByteArray} {nL pc : Nat} {D : va_G} {cI cB cZ : ClassId} {ws : va_W} {rest : List Value} {ls : Array Slot} {a : Nat} {fs : List Value} {v : Value} (S : SF p m c cc nL s args RX11) (hK : KK D cI cB cZ s) (hP : va_P D vwCl ws H) (q0 : Nat) (he : ws[q0]? = some (a, .inr (1, fs))) (hv : fs[5]? = some v) (hdg : decode cc pc = .ok (.getfield 347, 3)) (kk : W p l e R s m args below meth c H locs cells slots Q (F0 m (pc + 3) ls (v :: rest))) : W p l e R s m args below meth c H locs cells slots Q (F0 m pc ls (.ref a :: rest)) :=
  va_get (C := RX0) (T := TX0) (N := 8) S.1 S.2.1 S.2.2.2.2 hin_RX0 S.2.2.2.1 hK.1 hP q0 he rfl 5 (by decide) (S.2.2.2.2 _ (wk4_18 9 rfl rfl)) (fun _ h9 => h9) hv hdg kk
set_option maxRecDepth 100000 in
theorem pf_RX11_381 {p : Program} {l : Launch} {e : Env} {R : Room} {s : State} {m : MethodId} {args : Array Value} {below : List Frame} {meth : Method} {c : Code} {H : Heap} {locs : List Loc} {cells slots : Nat} {Q : State → Prop} {cc : ByteArray} {nL pc : Nat} {D : va_G} {cI cB cZ : ClassId} {ws : va_W} {rest : List Value} {ls : Array Slot} {a : Nat} {fs : List Value} {v : Value} {A : Nat → Prop} {H0 : Heap} (S : SF p m c cc nL s args RX11) (hK : KK D cI cB cZ s) (hP : va_P D vwCl ws H) (hD : va_D A ws) (hS : va_S A H0 H locs) (q0 : Nat) (he : ws[q0]? = some (a, .inr (1, fs))) (hl : 7 < fs.length) (hn : narrow (tyX0 7) v = v) (hfit : fits (tyX0 7) v = true) (hdg : decode cc pc = .ok (.putfield 381, 3)) (kk : ∀ (H1 : Heap) (locs1 : List Loc), va_P D vwCl (ws.set q0 (a, .inr (1, fs.set 7 v))) H1 → va_D A (ws.set q0 (a, .inr (1, fs.set 7 v))) → va_S A H0 H1 locs1 → W p l e R s m args below meth c H1 locs1 cells slots Q (F0 m (pc + 3) ls rest)) : W p l e R s m args below meth c H locs cells slots Q (F0 m pc ls (v :: .ref a :: rest)) :=
  va_put (C := RX0) (T := TX0) (N := 8) S.1 S.2.1 S.2.2.2.2 hin_RX0 tyX0 tyX0_ok nmX0 S.2.2.2.1 hK.1 hP hD hS q0 he rfl 7 (by decide) (S.2.2.2.2 _ (wk4_19 0 rfl rfl)) (fun _ h9 => h9) rfl (tyX0_ok 7 (by decide)) hn hfit hl hdg kk
set_option maxRecDepth 100000 in
theorem pf_RX11_349 {p : Program} {l : Launch} {e : Env} {R : Room} {s : State} {m : MethodId} {args : Array Value} {below : List Frame} {meth : Method} {c : Code} {H : Heap} {locs : List Loc} {cells slots : Nat} {Q : State → Prop} {cc : ByteArray} {nL pc : Nat} {D : va_G} {cI cB cZ : ClassId} {ws : va_W} {rest : List Value} {ls : Array Slot} {a : Nat} {fs : List Value} {v : Value} {A : Nat → Prop} {H0 : Heap} (S : SF p m c cc nL s args RX11) (hK : KK D cI cB cZ s) (hP : va_P D vwCl ws H) (hD : va_D A ws) (hS : va_S A H0 H locs) (q0 : Nat) (he : ws[q0]? = some (a, .inr (3, fs))) (hl : 9 < fs.length) (hn : narrow (tyX2 9) v = v) (hfit : fits (tyX2 9) v = true) (hdg : decode cc pc = .ok (.putfield 349, 3)) (kk : ∀ (H1 : Heap) (locs1 : List Loc), va_P D vwCl (ws.set q0 (a, .inr (3, fs.set 9 v))) H1 → va_D A (ws.set q0 (a, .inr (3, fs.set 9 v))) → va_S A H0 H1 locs1 → W p l e R s m args below meth c H1 locs1 cells slots Q (F0 m (pc + 3) ls rest)) : W p l e R s m args below meth c H locs cells slots Q (F0 m pc ls (v :: .ref a :: rest)) :=
  va_put (C := RX2) (T := TX2) (N := 10) S.1 S.2.1 S.2.2.2.2 hin_RX2 tyX2 tyX2_ok nmX2 S.2.2.2.1 hK.1 hP hD hS q0 he rfl 9 (by decide) (S.2.2.2.2 _ (wk2_19 0 rfl rfl)) (fun _ h9 => h9) rfl (tyX2_ok 9 (by decide)) hn hfit hl hdg kk
set_option maxRecDepth 100000 in
theorem kV_RX11_363 : CalV RX11 363 yX11_mixed cX11_mixed 5 (some (.object "OilHome$Batch")) 1 := ⟨⟨wk4_17 3 rfl rfl, wk4_17 5 rfl rfl, wT_sel 43 _ rfl rfl rfl, wk1_0 1 rfl rfl, wk4_17 6 rfl rfl⟩, ⟨nmh_0.1, nmh_0.2, pd_9⟩⟩
set_option maxRecDepth 100000 in
theorem kV_RX11_367 : CalV RX11 367 yX11_lettersOfLaw cX11_lettersOfLaw 1 none 0 := ⟨⟨wk5_1 6 rfl rfl, wk5_1 8 rfl rfl, wT_sel 45 _ rfl rfl rfl, wk1_0 1 rfl rfl, wk5_1 9 rfl rfl⟩, ⟨nmh_0.1, nmh_0.2, pd_2⟩⟩
set_option maxRecDepth 100000 in
theorem kV_RX11_370 : CalV RX11 370 yX11_brokenClause cX11_brokenClause 2 (some .int) 1 := ⟨⟨wk5_1 10 rfl rfl, wk5_2 0 rfl rfl, wT_sel 46 _ rfl rfl rfl, wk1_0 1 rfl rfl, wk5_2 1 rfl rfl⟩, ⟨nmh_0.1, nmh_0.2, pd_46⟩⟩
set_option maxRecDepth 100000 in
theorem kV_RX11_374 : CalV RX11 374 yX11_keep cX11_keep 4 none 1 := ⟨⟨wk5_2 10 rfl rfl, wk5_3 0 rfl rfl, wT_sel 47 _ rfl rfl rfl, wk1_0 1 rfl rfl, wk5_3 1 rfl rfl⟩, ⟨nmh_0.1, nmh_0.2, pd_47⟩⟩
set_option maxRecDepth 100000 in
theorem kV_RX11_391 : CalV RX11 391 yX11_gatherBlendable cX11_gatherBlendable 4 (some .int) 1 := ⟨⟨wk5_5 0 rfl rfl, wk5_5 2 rfl rfl, wT_sel 51 _ rfl rfl rfl, wk1_0 1 rfl rfl, wk5_5 3 rfl rfl⟩, ⟨nmh_0.1, nmh_0.2, pd_65⟩⟩
set_option maxRecDepth 100000 in
theorem kV_RX11_395 : CalV RX11 395 yX11_flipTo cX11_flipTo 7 none 3 := ⟨⟨wk5_5 4 rfl rfl, wk5_5 6 rfl rfl, wT_sel 52 _ rfl rfl rfl, wk1_0 1 rfl rfl, wk5_5 7 rfl rfl⟩, ⟨nmh_0.1, nmh_0.2, pd_48⟩⟩
noncomputable def sxX0_flip_92 : List UInt8 := []
noncomputable def sxX0_flip_76 : List UInt8 := 29 :: 44 :: 180 :: 0 :: 27 :: 104 :: 44 :: 180 :: 0 :: 39 :: 104 :: 96 :: 181 :: 0 :: 36 :: 177 :: sxX0_flip_92
noncomputable def sxX0_flip_51 : List UInt8 := 42 :: 89 :: 180 :: 0 :: 30 :: 29 :: 44 :: 180 :: 0 :: 27 :: 104 :: 44 :: 180 :: 0 :: 33 :: 104 :: 96 :: 181 :: 0 :: 30 :: 42 :: 89 :: 180 :: 0 :: 36 :: sxX0_flip_76
noncomputable def sxX0_flip_26 : List UInt8 := 42 :: 89 :: 180 :: 0 :: 21 :: 29 :: 96 :: 181 :: 0 :: 21 :: 42 :: 89 :: 180 :: 0 :: 24 :: 29 :: 44 :: 180 :: 0 :: 27 :: 104 :: 96 :: 181 :: 0 :: 24 :: sxX0_flip_51
theorem shX0_flip_0 : cX0_flip.data.toList.drop 0 = 42 :: 27 :: 182 :: 0 :: 17 :: 153 :: 0 :: 7 :: 2 :: 167 :: 0 :: 4 :: 4 :: 62 :: 42 :: 89 :: 180 :: 0 :: 13 :: 4 :: 27 :: 120 :: 130 :: 181 :: 0 :: 13 :: sxX0_flip_26 := rfl
theorem shX0_flip_26 : cX0_flip.data.toList.drop 26 = 42 :: 89 :: 180 :: 0 :: 21 :: 29 :: 96 :: 181 :: 0 :: 21 :: 42 :: 89 :: 180 :: 0 :: 24 :: 29 :: 44 :: 180 :: 0 :: 27 :: 104 :: 96 :: 181 :: 0 :: 24 :: sxX0_flip_51 := aq_26 shX0_flip_0
theorem shX0_flip_51 : cX0_flip.data.toList.drop 51 = 42 :: 89 :: 180 :: 0 :: 30 :: 29 :: 44 :: 180 :: 0 :: 27 :: 104 :: 44 :: 180 :: 0 :: 33 :: 104 :: 96 :: 181 :: 0 :: 30 :: 42 :: 89 :: 180 :: 0 :: 36 :: sxX0_flip_76 := aq_25 shX0_flip_26
theorem shX0_flip_76 : cX0_flip.data.toList.drop 76 = 29 :: 44 :: 180 :: 0 :: 27 :: 104 :: 44 :: 180 :: 0 :: 39 :: 104 :: 96 :: 181 :: 0 :: 36 :: 177 :: sxX0_flip_92 := aq_25 shX0_flip_51
noncomputable def sxX11_mixed_65 : List UInt8 := []
noncomputable def sxX11_mixed_48 : List UInt8 := 1 :: 176 :: 44 :: 29 :: 25 :: 4 :: 182 :: 1 :: 102 :: 132 :: 3 :: 1 :: 167 :: 255 :: 206 :: 44 :: 176 :: sxX11_mixed_65
noncomputable def sxX11_mixed_24 : List UInt8 := 167 :: 0 :: 33 :: 42 :: 29 :: 182 :: 0 :: 148 :: 58 :: 4 :: 25 :: 4 :: 198 :: 0 :: 12 :: 42 :: 25 :: 4 :: 182 :: 1 :: 98 :: 154 :: 0 :: 5 :: sxX11_mixed_48
theorem shX11_mixed_0 : cX11_mixed.data.toList.drop 0 = 187 :: 0 :: 95 :: 89 :: 183 :: 1 :: 97 :: 77 :: 3 :: 62 :: 29 :: 16 :: 20 :: 162 :: 0 :: 50 :: 27 :: 29 :: 122 :: 4 :: 126 :: 154 :: 0 :: 6 :: sxX11_mixed_24 := rfl
theorem shX11_mixed_24 : cX11_mixed.data.toList.drop 24 = 167 :: 0 :: 33 :: 42 :: 29 :: 182 :: 0 :: 148 :: 58 :: 4 :: 25 :: 4 :: 198 :: 0 :: 12 :: 42 :: 25 :: 4 :: 182 :: 1 :: 98 :: 154 :: 0 :: 5 :: sxX11_mixed_48 := aq_24 shX11_mixed_0
theorem shX11_mixed_48 : cX11_mixed.data.toList.drop 48 = 1 :: 176 :: 44 :: 29 :: 25 :: 4 :: 182 :: 1 :: 102 :: 132 :: 3 :: 1 :: 167 :: 255 :: 206 :: 44 :: 176 :: sxX11_mixed_65 := aq_24 shX11_mixed_24
noncomputable def sxX11_brokenClause_53 : List UInt8 := []
noncomputable def sxX11_brokenClause_49 : List UInt8 := 182 :: 0 :: 218 :: 172 :: sxX11_brokenClause_53
noncomputable def sxX11_brokenClause_24 : List UInt8 := 182 :: 1 :: 89 :: 182 :: 0 :: 188 :: 42 :: 16 :: 110 :: 43 :: 180 :: 1 :: 91 :: 182 :: 0 :: 188 :: 42 :: 180 :: 0 :: 12 :: 3 :: 42 :: 180 :: 0 :: 40 :: sxX11_brokenClause_49
theorem shX11_brokenClause_0 : cX11_brokenClause.data.toList.drop 0 = 42 :: 16 :: 113 :: 43 :: 180 :: 1 :: 86 :: 182 :: 0 :: 188 :: 42 :: 16 :: 102 :: 43 :: 182 :: 1 :: 87 :: 182 :: 0 :: 188 :: 42 :: 16 :: 97 :: 43 :: sxX11_brokenClause_24 := rfl
theorem shX11_brokenClause_24 : cX11_brokenClause.data.toList.drop 24 = 182 :: 1 :: 89 :: 182 :: 0 :: 188 :: 42 :: 16 :: 110 :: 43 :: 180 :: 1 :: 91 :: 182 :: 0 :: 188 :: 42 :: 180 :: 0 :: 12 :: 3 :: 42 :: 180 :: 0 :: 40 :: sxX11_brokenClause_49 := aq_24 shX11_brokenClause_0
theorem shX11_brokenClause_49 : cX11_brokenClause.data.toList.drop 49 = 182 :: 0 :: 218 :: 172 :: sxX11_brokenClause_53 := aq_25 shX11_brokenClause_24
noncomputable def sxX11_keep_71 : List UInt8 := []
noncomputable def sxX11_keep_50 : List UInt8 := 180 :: 0 :: 103 :: 43 :: 180 :: 1 :: 86 :: 116 :: 182 :: 0 :: 144 :: 42 :: 180 :: 0 :: 68 :: 43 :: 182 :: 0 :: 110 :: 87 :: 177 :: sxX11_keep_71
noncomputable def sxX11_keep_26 : List UInt8 := 45 :: 4 :: 181 :: 1 :: 93 :: 132 :: 2 :: 1 :: 167 :: 255 :: 224 :: 43 :: 42 :: 180 :: 0 :: 103 :: 181 :: 1 :: 125 :: 42 :: 180 :: 0 :: 47 :: 42 :: sxX11_keep_50
theorem shX11_keep_0 : cX11_keep.data.toList.drop 0 = 3 :: 61 :: 28 :: 16 :: 20 :: 162 :: 0 :: 32 :: 42 :: 28 :: 182 :: 0 :: 148 :: 78 :: 45 :: 198 :: 0 :: 16 :: 43 :: 28 :: 182 :: 1 :: 122 :: 153 :: 0 :: 8 :: sxX11_keep_26 := rfl
theorem shX11_keep_26 : cX11_keep.data.toList.drop 26 = 45 :: 4 :: 181 :: 1 :: 93 :: 132 :: 2 :: 1 :: 167 :: 255 :: 224 :: 43 :: 42 :: 180 :: 0 :: 103 :: 181 :: 1 :: 125 :: 42 :: 180 :: 0 :: 47 :: 42 :: sxX11_keep_50 := aq_26 shX11_keep_0
theorem shX11_keep_50 : cX11_keep.data.toList.drop 50 = 180 :: 0 :: 103 :: 43 :: 180 :: 1 :: 86 :: 116 :: 182 :: 0 :: 144 :: 42 :: 180 :: 0 :: 68 :: 43 :: 182 :: 0 :: 110 :: 87 :: 177 :: sxX11_keep_71 := aq_24 shX11_keep_26
noncomputable def sxX11_batch_72 : List UInt8 := []
noncomputable def sxX11_batch_48 : List UInt8 := 2 :: 159 :: 0 :: 8 :: 16 :: 246 :: 29 :: 100 :: 172 :: 42 :: 44 :: 182 :: 1 :: 118 :: 42 :: 180 :: 0 :: 68 :: 182 :: 0 :: 84 :: 4 :: 100 :: 172 :: sxX11_batch_72
noncomputable def sxX11_batch_24 : List UInt8 := 172 :: 42 :: 27 :: 182 :: 1 :: 107 :: 77 :: 44 :: 199 :: 0 :: 5 :: 2 :: 172 :: 42 :: 182 :: 1 :: 111 :: 42 :: 44 :: 182 :: 1 :: 114 :: 62 :: 29 :: sxX11_batch_48
theorem shX11_batch_0 : cX11_batch.data.toList.drop 0 = 27 :: 4 :: 19 :: 1 :: 106 :: 184 :: 0 :: 80 :: 153 :: 0 :: 15 :: 42 :: 180 :: 0 :: 68 :: 182 :: 0 :: 84 :: 16 :: 10 :: 161 :: 0 :: 5 :: 2 :: sxX11_batch_24 := rfl
theorem shX11_batch_24 : cX11_batch.data.toList.drop 24 = 172 :: 42 :: 27 :: 182 :: 1 :: 107 :: 77 :: 44 :: 199 :: 0 :: 5 :: 2 :: 172 :: 42 :: 182 :: 1 :: 111 :: 42 :: 44 :: 182 :: 1 :: 114 :: 62 :: 29 :: sxX11_batch_48 := aq_24 shX11_batch_0
theorem shX11_batch_48 : cX11_batch.data.toList.drop 48 = 2 :: 159 :: 0 :: 8 :: 16 :: 246 :: 29 :: 100 :: 172 :: 42 :: 44 :: 182 :: 1 :: 118 :: 42 :: 180 :: 0 :: 68 :: 182 :: 0 :: 84 :: 4 :: 100 :: 172 :: sxX11_batch_72 := aq_24 shX11_batch_24
noncomputable def sxX11_gatherBlendable_45 : List UInt8 := []
noncomputable def sxX11_gatherBlendable_25 : List UInt8 := 153 :: 0 :: 12 :: 43 :: 28 :: 29 :: 184 :: 0 :: 184 :: 132 :: 2 :: 1 :: 132 :: 3 :: 1 :: 167 :: 255 :: 220 :: 28 :: 172 :: sxX11_gatherBlendable_45
theorem shX11_gatherBlendable_0 : cX11_gatherBlendable.data.toList.drop 0 = 3 :: 61 :: 3 :: 62 :: 29 :: 16 :: 20 :: 162 :: 0 :: 36 :: 28 :: 43 :: 190 :: 162 :: 0 :: 30 :: 42 :: 42 :: 29 :: 182 :: 0 :: 148 :: 182 :: 1 :: 98 :: sxX11_gatherBlendable_25 := rfl
theorem shX11_gatherBlendable_25 : cX11_gatherBlendable.data.toList.drop 25 = 153 :: 0 :: 12 :: 43 :: 28 :: 29 :: 184 :: 0 :: 184 :: 132 :: 2 :: 1 :: 132 :: 3 :: 1 :: 167 :: 255 :: 220 :: 28 :: 172 :: sxX11_gatherBlendable_45 := aq_25 shX11_gatherBlendable_0
noncomputable def sxX11_flipTo_59 : List UInt8 := []
noncomputable def sxX11_flipTo_49 : List UInt8 := 182 :: 1 :: 102 :: 132 :: 5 :: 1 :: 167 :: 255 :: 211 :: 177 :: sxX11_flipTo_59
noncomputable def sxX11_flipTo_24 : List UInt8 := 153 :: 0 :: 34 :: 42 :: 45 :: 21 :: 5 :: 46 :: 182 :: 0 :: 148 :: 58 :: 6 :: 25 :: 6 :: 198 :: 0 :: 13 :: 43 :: 45 :: 21 :: 5 :: 46 :: 25 :: 6 :: sxX11_flipTo_49
theorem shX11_flipTo_0 : cX11_flipTo.data.toList.drop 0 = 28 :: 28 :: 4 :: 100 :: 130 :: 54 :: 4 :: 3 :: 54 :: 5 :: 21 :: 5 :: 45 :: 190 :: 162 :: 0 :: 44 :: 21 :: 4 :: 21 :: 5 :: 122 :: 4 :: 126 :: sxX11_flipTo_24 := rfl
theorem shX11_flipTo_24 : cX11_flipTo.data.toList.drop 24 = 153 :: 0 :: 34 :: 42 :: 45 :: 21 :: 5 :: 46 :: 182 :: 0 :: 148 :: 58 :: 6 :: 25 :: 6 :: 198 :: 0 :: 13 :: 43 :: 45 :: 21 :: 5 :: 46 :: 25 :: 6 :: sxX11_flipTo_49 := aq_24 shX11_flipTo_0
theorem shX11_flipTo_49 : cX11_flipTo.data.toList.drop 49 = 182 :: 1 :: 102 :: 132 :: 5 :: 1 :: 167 :: 255 :: 211 :: 177 :: sxX11_flipTo_59 := aq_25 shX11_flipTo_24
noncomputable def sxX11_blend_131 : List UInt8 := []
noncomputable def sxX11_blend_125 : List UInt8 := 167 :: 255 :: 166 :: 21 :: 4 :: 172 :: sxX11_blend_131
noncomputable def sxX11_blend_100 : List UInt8 := 2 :: 160 :: 0 :: 21 :: 45 :: 180 :: 1 :: 132 :: 54 :: 4 :: 45 :: 180 :: 1 :: 86 :: 54 :: 5 :: 45 :: 180 :: 1 :: 91 :: 54 :: 6 :: 132 :: 7 :: 1 :: sxX11_blend_125
noncomputable def sxX11_blend_74 : List UInt8 := 45 :: 180 :: 1 :: 91 :: 21 :: 6 :: 162 :: 0 :: 7 :: 4 :: 167 :: 0 :: 4 :: 3 :: 54 :: 8 :: 21 :: 8 :: 153 :: 0 :: 30 :: 42 :: 45 :: 182 :: 1 :: 114 :: sxX11_blend_100
noncomputable def sxX11_blend_48 : List UInt8 := 182 :: 1 :: 139 :: 21 :: 4 :: 153 :: 0 :: 30 :: 45 :: 180 :: 1 :: 86 :: 21 :: 5 :: 163 :: 0 :: 21 :: 45 :: 180 :: 1 :: 86 :: 21 :: 5 :: 160 :: 0 :: 16 :: sxX11_blend_74
noncomputable def sxX11_blend_24 : List UInt8 := 54 :: 4 :: 3 :: 54 :: 5 :: 3 :: 54 :: 6 :: 4 :: 54 :: 7 :: 21 :: 7 :: 4 :: 28 :: 120 :: 162 :: 0 :: 88 :: 42 :: 45 :: 21 :: 7 :: 43 :: sxX11_blend_48
theorem shX11_blend_0 : cX11_blend.data.toList.drop 0 = 16 :: 12 :: 188 :: 10 :: 76 :: 42 :: 43 :: 182 :: 1 :: 135 :: 61 :: 42 :: 182 :: 1 :: 111 :: 187 :: 0 :: 95 :: 89 :: 183 :: 1 :: 97 :: 78 :: 3 :: sxX11_blend_24 := rfl
theorem shX11_blend_24 : cX11_blend.data.toList.drop 24 = 54 :: 4 :: 3 :: 54 :: 5 :: 3 :: 54 :: 6 :: 4 :: 54 :: 7 :: 21 :: 7 :: 4 :: 28 :: 120 :: 162 :: 0 :: 88 :: 42 :: 45 :: 21 :: 7 :: 43 :: sxX11_blend_48 := aq_24 shX11_blend_0
theorem shX11_blend_48 : cX11_blend.data.toList.drop 48 = 182 :: 1 :: 139 :: 21 :: 4 :: 153 :: 0 :: 30 :: 45 :: 180 :: 1 :: 86 :: 21 :: 5 :: 163 :: 0 :: 21 :: 45 :: 180 :: 1 :: 86 :: 21 :: 5 :: 160 :: 0 :: 16 :: sxX11_blend_74 := aq_24 shX11_blend_24
theorem shX11_blend_74 : cX11_blend.data.toList.drop 74 = 45 :: 180 :: 1 :: 91 :: 21 :: 6 :: 162 :: 0 :: 7 :: 4 :: 167 :: 0 :: 4 :: 3 :: 54 :: 8 :: 21 :: 8 :: 153 :: 0 :: 30 :: 42 :: 45 :: 182 :: 1 :: 114 :: sxX11_blend_100 := aq_26 shX11_blend_48
theorem shX11_blend_100 : cX11_blend.data.toList.drop 100 = 2 :: 160 :: 0 :: 21 :: 45 :: 180 :: 1 :: 132 :: 54 :: 4 :: 45 :: 180 :: 1 :: 86 :: 54 :: 5 :: 45 :: 180 :: 1 :: 91 :: 54 :: 6 :: 132 :: 7 :: 1 :: sxX11_blend_125 := aq_26 shX11_blend_74
theorem shX11_blend_125 : cX11_blend.data.toList.drop 125 = 167 :: 255 :: 166 :: 21 :: 4 :: 172 :: sxX11_blend_131 := aq_25 shX11_blend_100
theorem dX11_blend_88 : decode cX11_blend 88 = .ok (.istore 8, 2) := oc_54 88 (aq_14 shX11_blend_74) ub_8
theorem dX11_blend_90 : decode cX11_blend 90 = .ok (.iload 8, 2) := oc_21 90 (aq_16 shX11_blend_74) ub_8
theorem dX11_blend_92 : decode cX11_blend 92 = .ok (.ifCond .eq 30, 3) := oc_153 92 (aq_18 shX11_blend_74) sgw_0_30
theorem dX11_blend_122 : decode cX11_blend 122 = .ok (.iinc 7 1, 3) := oc_132 122 (aq_22 shX11_blend_100) ub_7 sgb_1
theorem dX11_blend_125 : decode cX11_blend 125 = .ok (.goto (-90), 3) := oc_167 125 shX11_blend_125 sgw_255_166
set_option maxRecDepth 100000 in
set_option maxHeartbeats 4000000 in
theorem q_l_has (l : Launch) (D : va_G) (cI cB cZ : ClassId) (bo w : Nat) (x1 x2 x3 x4 x5 x6 x7 : Int32) (v0 : Int32) : Met l yX0_has (CWS yX0_has cX0_has 2 (some .boolean)) (RM 0 0 0) (PBr [.ref bo, .int v0] D cI cB cZ [(bo, .inr (1, [.ref w, .int x1, .int x2, .int x3, .int x4, .int x5, .int x6, .int x7]))]) (vp_Si (fun r => (r = 1 ∧ ¬ (x4 >>> (v0 &&& 31)) &&& 1 = 0) ∨ (r = 0 ∧ (x4 >>> (v0 &&& 31)) &&& 1 = 0))) 0 0 (fun _ => False) := by
  refine en_r rfl pn_RX0 (Nat.le_of_ble_eq_true rfl) (fun p e s m below meth c hx hb hml hown S hr hlocks hnm hP hK hS ls hl => ?_)
  have hP : va_P D vwCl [(bo, .inr (1, [.ref w, .int x1, .int x2, .int x3, .int x4, .int x5, .int x6, .int x7]))] s.heap := hP
  have hl : lv_has ls 2 [(0, .ref bo), (1, .int v0)] := hl
  refine lv_aload_n hx hb (oc_42 0 shX0_has_0) rfl (lvA0 hl) ?_
  refine gf_RX0_13 S hK hP 0 rfl (v := .int x4) rfl (oc_180 1 (aq_1 shX0_has_0) uw_0_13) ?_
  refine lv_iload_n hx hb (oc_27 4 (aq_4 shX0_has_0)) rfl (lvA1 hl) ?_
  refine lv_ishr hx hb (oc_122 5 (aq_5 shX0_has_0)) ?_
  refine lv_iconst (v := 1) hx hb (oc_4 6 (aq_6 shX0_has_0)) kic_1 ?_
  refine lv_iand hx hb (oc_126 7 (aq_7 shX0_has_0)) ?_
  refine lv_if_eq (tgt := 15) hx hb (oc_153 8 (aq_8 shX0_has_0) sgw_0_7) rfl (fun c_1 => ?_) (fun c_1 => ?_)
  ·
    have tc_1 : (((x4 >>> (v0 &&& 31)) &&& 1).toInt : Int) = 0 := congrArg Int32.toInt c_1
    refine lv_iconst (v := 0) hx hb (oc_3 15 (aq_15 shX0_has_0)) kic_0 ?_
    exact W.zret (v := 0) hx hb hr rfl (fun t ht hW => ⟨0, rfl, (Or.inr ⟨rfl, by assumption⟩), ht⟩) (fun _ h => absurd h List.not_mem_nil) dX0_has_16
  ·
    have tc_1 : (((x4 >>> (v0 &&& 31)) &&& 1).toInt : Int) ≠ 0 := fun q => c_1 (Int32.toInt_inj.mp q)
    refine lv_iconst (v := 1) hx hb (oc_4 11 (aq_11 shX0_has_0)) kic_1 ?_
    refine lv_goto (tgt := 16) hx hb (oc_167 12 (aq_12 shX0_has_0) sgw_0_4) rfl ?_
    exact W.zret (v := 1) hx hb hr rfl (fun t ht hW => ⟨1, rfl, (Or.inl ⟨rfl, by assumption⟩), ht⟩) (fun _ h => absurd h List.not_mem_nil) dX0_has_16
set_option maxRecDepth 100000 in
set_option maxHeartbeats 4000000 in
theorem q_l_water (l : Launch) (D : va_G) (cI cB cZ : ClassId) (bo w : Nat) (x1 x2 x3 x4 x5 x6 x7 : Int32) : Met l yX0_water (CWS yX0_water cX0_water 1 (some .int)) (RM 0 0 0) (PBr [.ref bo] D cI cB cZ [(bo, .inr (1, [.ref w, .int x1, .int x2, .int x3, .int x4, .int x5, .int x6, .int x7]))]) (vp_Si (fun r => r = if x6 = 0 then 0 else x1 / x6)) 0 0 (fun _ => False) := by
  refine en_r rfl pn_RX0 (Nat.le_of_ble_eq_true rfl) (fun p e s m below meth c hx hb hml hown S hr hlocks hnm hP hK hS ls hl => ?_)
  have hP : va_P D vwCl [(bo, .inr (1, [.ref w, .int x1, .int x2, .int x3, .int x4, .int x5, .int x6, .int x7]))] s.heap := hP
  have hl : lv_has ls 1 [(0, .ref bo)] := hl
  refine lv_aload_n hx hb (oc_42 0 shX0_water_0) rfl (lvA0 hl) ?_
  refine gf_RX0_24 S hK hP 0 rfl (v := .int x6) rfl (oc_180 1 (aq_1 shX0_water_0) uw_0_24) ?_
  refine lv_if_ne (tgt := 11) hx hb (oc_154 4 (aq_4 shX0_water_0) sgw_0_7) rfl (fun c_1 => ?_) (fun c_1 => ?_)
  ·
    have tc_1 : (x6.toInt : Int) ≠ 0 := fun q => c_1 (Int32.toInt_inj.mp q)
    refine lv_aload_n hx hb (oc_42 11 (aq_11 shX0_water_0)) rfl (lvA0 hl) ?_
    refine gf_RX0_30 S hK hP 0 rfl (v := .int x1) rfl (oc_180 12 (aq_12 shX0_water_0) uw_0_30) ?_
    refine lv_aload_n hx hb (oc_42 15 (aq_15 shX0_water_0)) rfl (lvA0 hl) ?_
    refine gf_RX0_24 S hK hP 0 rfl (v := .int x6) rfl (oc_180 16 (aq_16 shX0_water_0) uw_0_24) ?_
    refine lv_idiv hx hb (oc_108 19 (aq_19 shX0_water_0)) (by assumption) ?_
    exact W.iret (v := (x1 / x6)) hx hb hr (fun t ht hW => ⟨(x1 / x6), rfl, (if_neg (by assumption)).symm, ht⟩) (fun _ h => absurd h List.not_mem_nil) dX0_water_20
  ·
    have tc_1 : (x6.toInt : Int) = 0 := congrArg Int32.toInt c_1
    refine lv_iconst (v := 0) hx hb (oc_3 7 (aq_7 shX0_water_0)) kic_0 ?_
    refine lv_goto (tgt := 20) hx hb (oc_167 8 (aq_8 shX0_water_0) sgw_0_12) rfl ?_
    exact W.iret (v := 0) hx hb hr (fun t ht hW => ⟨0, rfl, (if_pos (by assumption)).symm, ht⟩) (fun _ h => absurd h List.not_mem_nil) dX0_water_20
set_option maxRecDepth 100000 in
set_option maxHeartbeats 4000000 in
theorem q_l_acid (l : Launch) (D : va_G) (cI cB cZ : ClassId) (bo w : Nat) (x1 x2 x3 x4 x5 x6 x7 : Int32) : Met l yX0_acid (CWS yX0_acid cX0_acid 1 (some .int)) (RM 0 0 0) (PBr [.ref bo] D cI cB cZ [(bo, .inr (1, [.ref w, .int x1, .int x2, .int x3, .int x4, .int x5, .int x6, .int x7]))]) (vp_Si (fun r => r = if x6 = 0 then 0 else x2 / x6)) 0 0 (fun _ => False) := by
  refine en_r rfl pn_RX0 (Nat.le_of_ble_eq_true rfl) (fun p e s m below meth c hx hb hml hown S hr hlocks hnm hP hK hS ls hl => ?_)
  have hP : va_P D vwCl [(bo, .inr (1, [.ref w, .int x1, .int x2, .int x3, .int x4, .int x5, .int x6, .int x7]))] s.heap := hP
  have hl : lv_has ls 1 [(0, .ref bo)] := hl
  refine lv_aload_n hx hb (oc_42 0 shX0_acid_0) rfl (lvA0 hl) ?_
  refine gf_RX0_24 S hK hP 0 rfl (v := .int x6) rfl (oc_180 1 (aq_1 shX0_acid_0) uw_0_24) ?_
  refine lv_if_ne (tgt := 11) hx hb (oc_154 4 (aq_4 shX0_acid_0) sgw_0_7) rfl (fun c_1 => ?_) (fun c_1 => ?_)
  ·
    have tc_1 : (x6.toInt : Int) ≠ 0 := fun q => c_1 (Int32.toInt_inj.mp q)
    refine lv_aload_n hx hb (oc_42 11 (aq_11 shX0_acid_0)) rfl (lvA0 hl) ?_
    refine gf_RX0_36 S hK hP 0 rfl (v := .int x2) rfl (oc_180 12 (aq_12 shX0_acid_0) uw_0_36) ?_
    refine lv_aload_n hx hb (oc_42 15 (aq_15 shX0_acid_0)) rfl (lvA0 hl) ?_
    refine gf_RX0_24 S hK hP 0 rfl (v := .int x6) rfl (oc_180 16 (aq_16 shX0_acid_0) uw_0_24) ?_
    refine lv_idiv hx hb (oc_108 19 (aq_19 shX0_acid_0)) (by assumption) ?_
    exact W.iret (v := (x2 / x6)) hx hb hr (fun t ht hW => ⟨(x2 / x6), rfl, (if_neg (by assumption)).symm, ht⟩) (fun _ h => absurd h List.not_mem_nil) dX0_acid_20
  ·
    have tc_1 : (x6.toInt : Int) = 0 := congrArg Int32.toInt c_1
    refine lv_iconst (v := 0) hx hb (oc_3 7 (aq_7 shX0_acid_0)) kic_0 ?_
    refine lv_goto (tgt := 20) hx hb (oc_167 8 (aq_8 shX0_acid_0) sgw_0_12) rfl ?_
    exact W.iret (v := 0) hx hb hr (fun t ht hW => ⟨0, rfl, (if_pos (by assumption)).symm, ht⟩) (fun _ h => absurd h List.not_mem_nil) dX0_acid_20
set_option maxRecDepth 100000 in
set_option maxHeartbeats 4000000 in
theorem q_Eflip (l : Launch) (D : va_G) (cI cB cZ : ClassId) (zz qq vv : Nat) (bt : Nat → Int32) (g : Nat → Nat) (ad : Nat → Nat → Nat) (cn : Nat → Nat) (In : Nat → Int32) (Fn : Nat → Nat → Int32) (bo w : Nat) (x1 x2 x3 x4 x5 x6 x7 : Int32) (v0 : Int32) (k0 : Nat) (ws : va_W) (sz : Nat) (hB : CBX cn) (hk : k0 < cn 11) : Met l yX0_flip (CWS yX0_flip cX0_flip 4 none) (RM 1 0 0) (PBx [.ref bo, .int v0, .ref (ad 11 k0)] D cI cB cZ zz qq vv bt ((wX cI (D.1 99) zz g ad cn In Fn) ++ (([(bo, .inr (1, [.ref w, .int x1, .int x2, .int x3, .int x4, .int x5, .int x6, .int x7]))] : va_W) ++ ws)) sz) (va_Qv (fun (u : (Nat → Nat → Nat) × (Nat → Nat) × (Nat → Int32) × (Nat → Nat → Int32) × va_W) => (fun a2 c2 I2 F2 W2 => ad = a2 ∧ cn = c2 ∧ In = I2 ∧ Fn = F2 ∧ ∃ sg : Int32, ((sg = -1 ∧ ¬ (x4 >>> (v0 &&& 31)) &&& 1 = 0) ∨ (sg = 1 ∧ (x4 >>> (v0 &&& 31)) &&& 1 = 0)) ∧ W2 = (([(bo, .inr (1, [.ref w, .int (x1 + sg * (Fn 122 k0) * (Fn 123 k0)), .int (x2 + sg * (Fn 122 k0) * (Fn 124 k0)), .int x3, .int (x4 ^^^ 1 <<< (v0 &&& 31)), .int (x5 + sg), .int (x6 + sg * (Fn 122 k0)), .int x7]))] : va_W) ++ ws)) u.1 u.2.1 u.2.2.1 u.2.2.2.1 u.2.2.2.2) (fun (u : (Nat → Nat → Nat) × (Nat → Nat) × (Nat → Int32) × (Nat → Nat → Int32) × va_W) (t : State) => va_P D vwCl (wX cI (D.1 99) zz g u.1 u.2.1 u.2.2.1 u.2.2.2.1 ++ u.2.2.2.2) t.heap ∧ va_D (va_A ((wX cI (D.1 99) zz g ad cn In Fn) ++ (([(bo, .inr (1, [.ref w, .int x1, .int x2, .int x3, .int x4, .int x5, .int x6, .int x7]))] : va_W) ++ ws)) sz) (wX cI (D.1 99) zz g u.1 u.2.1 u.2.2.1 u.2.2.2.1 ++ u.2.2.2.2)) (va_A ((wX cI (D.1 99) zz g ad cn In Fn) ++ (([(bo, .inr (1, [.ref w, .int x1, .int x2, .int x3, .int x4, .int x5, .int x6, .int x7]))] : va_W) ++ ws)) sz)) 0 0 (va_A ((wX cI (D.1 99) zz g ad cn In Fn) ++ (([(bo, .inr (1, [.ref w, .int x1, .int x2, .int x3, .int x4, .int x5, .int x6, .int x7]))] : va_W) ++ ws)) sz) := by
  refine en_x (fun A => (va_Qv (fun (u : (Nat → Nat → Nat) × (Nat → Nat) × (Nat → Int32) × (Nat → Nat → Int32) × va_W) => (fun (a2 : Nat → Nat → Nat) (c2 : Nat → Nat) (I2 : Nat → Int32) (F2 : Nat → Nat → Int32) (W2 : va_W) => ad = a2 ∧ cn = c2 ∧ In = I2 ∧ Fn = F2 ∧ ∃ sg : Int32, ((sg = -1 ∧ ¬ (x4 >>> (v0 &&& 31)) &&& 1 = 0) ∨ (sg = 1 ∧ (x4 >>> (v0 &&& 31)) &&& 1 = 0)) ∧ W2 = (([(bo, .inr (1, [.ref w, .int (x1 + sg * (Fn 122 k0) * (Fn 123 k0)), .int (x2 + sg * (Fn 122 k0) * (Fn 124 k0)), .int x3, .int (x4 ^^^ 1 <<< (v0 &&& 31)), .int (x5 + sg), .int (x6 + sg * (Fn 122 k0)), .int x7]))] : va_W) ++ ws)) u.1 u.2.1 u.2.2.1 u.2.2.2.1 u.2.2.2.2) (fun (u : (Nat → Nat → Nat) × (Nat → Nat) × (Nat → Int32) × (Nat → Nat → Int32) × va_W) (t : State) => va_P D vwCl (wX cI (D.1 99) zz g u.1 u.2.1 u.2.2.1 u.2.2.2.1 ++ u.2.2.2.2) t.heap ∧ va_D A (wX cI (D.1 99) zz g u.1 u.2.1 u.2.2.1 u.2.2.2.1 ++ u.2.2.2.2)) A)) rfl rfl pn_RX0 (Nat.le_of_ble_eq_true rfl) (fun p e s m below meth c A hx hb hml hown S hr hlocks hnm hA hP hK hD hXS hS ls hl => ?_)
  have hl : lv_has ls 4 [(0, .ref bo), (1, .int v0), (2, .ref (ad 11 k0))] := hl
  refine lv_aload_n hx hb (oc_42 0 shX0_flip_0) rfl (lvA0 hl) ?_
  refine lv_iload_n hx hb (oc_27 1 (aq_1 shX0_flip_0)) rfl (lvA1 hl) ?_
  refine vp_callSi (runV_r (As := [.int v0]) (rest := []) S (q_l_has l D cI cB cZ bo w x1 x2 x3 x4 x5 x6 x7 v0) kV_RX0_17 hK hP _ (one_is (exr (m := 0) rfl)) _ (exr (m := 0) rfl) rfl rfl ⟨Nat.le_of_ble_eq_true rfl, Nat.le_of_ble_eq_true rfl⟩ ⟨Nat.le_of_ble_eq_true rfl, Nat.le_of_ble_eq_true rfl⟩ rfl hl.1 rfl (Nat.le_of_ble_eq_true rfl) (oc_182 2 (aq_2 shX0_flip_0) uw_0_17)) (fun r_1 h_2 => ?_)
  rcases h_2 with ⟨rfl, h_2⟩ | ⟨rfl, h_2⟩
  ·
    refine lv_if_eq (tgt := 12) hx hb (oc_153 5 (aq_5 shX0_flip_0) sgw_0_7) rfl (fun h => absurd h cq_eq_1_0) (fun _ => ?_)
    refine lv_iconst (v := (-1)) hx hb (oc_2 8 (aq_8 shX0_flip_0)) kic_m1 ?_
    refine lv_goto (tgt := 13) hx hb (oc_167 9 (aq_9 shX0_flip_0) sgw_0_4) rfl ?_
    refine lv_istore_n (lv' := [(3, .int (-1)), (0, .ref bo), (1, .int v0), (2, .ref (ad 11 k0))]) hx hb (oc_62 13 (aq_13 shX0_flip_0)) rfl hl (ltb rfl) rfl (fun ls hl => ?_)
    refine lv_aload_n hx hb (oc_42 14 (aq_14 shX0_flip_0)) rfl (lvA1 hl) ?_
    refine lv_dup hx hb (oc_89 15 (aq_15 shX0_flip_0)) rfl ?_
    refine gf_RX0_13 S hK hP _ (exr (m := 0) rfl) (v := .int x4) rfl (oc_180 16 (aq_16 shX0_flip_0) uw_0_13) ?_
    refine lv_iconst (v := 1) hx hb (oc_4 19 (aq_19 shX0_flip_0)) kic_1 ?_
    refine lv_iload_n hx hb (oc_27 20 (aq_20 shX0_flip_0)) rfl (lvA2 hl) ?_
    refine lv_ishl hx hb (oc_120 21 (aq_21 shX0_flip_0)) ?_
    refine lv_ixor hx hb (oc_130 22 (aq_22 shX0_flip_0)) ?_
    refine pf_RX0_13 S hK hP hD hS _ (exr (m := 0) rfl) (v := .int (x4 ^^^ (1 <<< (v0 &&& 31)))) (Nat.le_of_ble_eq_true rfl) rfl rfl (oc_181 23 (aq_23 shX0_flip_0) uw_0_13) (fun H locs hP hD hS => ?_)
    have hP : va_P D vwCl ((wX cI (D.1 99) zz g ad cn In Fn) ++ (([(bo, .inr (1, [.ref w, .int x1, .int x2, .int x3, .int (x4 ^^^ (1 <<< (v0 &&& 31))), .int x5, .int x6, .int x7]))] : va_W) ++ ws)) H := va_P_eq (exs_r rfl) hP
    have hD : va_D A ((wX cI (D.1 99) zz g ad cn In Fn) ++ (([(bo, .inr (1, [.ref w, .int x1, .int x2, .int x3, .int (x4 ^^^ (1 <<< (v0 &&& 31))), .int x5, .int x6, .int x7]))] : va_W) ++ ws)) := va_D_eq (exs_r rfl) hD
    refine lv_aload_n hx hb (oc_42 26 shX0_flip_26) rfl (lvA1 hl) ?_
    refine lv_dup hx hb (oc_89 27 (aq_1 shX0_flip_26)) rfl ?_
    refine gf_RX0_21 S hK hP _ (exr (m := 0) rfl) (v := .int x5) rfl (oc_180 28 (aq_2 shX0_flip_26) uw_0_21) ?_
    refine lv_iload_n hx hb (oc_29 31 (aq_5 shX0_flip_26)) rfl (lvA0 hl) ?_
    refine lv_iadd hx hb (oc_96 32 (aq_6 shX0_flip_26)) ?_
    refine pf_RX0_21 S hK hP hD hS _ (exr (m := 0) rfl) (v := .int (x5 + (-1))) (Nat.le_of_ble_eq_true rfl) rfl rfl (oc_181 33 (aq_7 shX0_flip_26) uw_0_21) (fun H locs hP hD hS => ?_)
    have hP : va_P D vwCl ((wX cI (D.1 99) zz g ad cn In Fn) ++ (([(bo, .inr (1, [.ref w, .int x1, .int x2, .int x3, .int (x4 ^^^ (1 <<< (v0 &&& 31))), .int (x5 + (-1)), .int x6, .int x7]))] : va_W) ++ ws)) H := va_P_eq (exs_r rfl) hP
    have hD : va_D A ((wX cI (D.1 99) zz g ad cn In Fn) ++ (([(bo, .inr (1, [.ref w, .int x1, .int x2, .int x3, .int (x4 ^^^ (1 <<< (v0 &&& 31))), .int (x5 + (-1)), .int x6, .int x7]))] : va_W) ++ ws)) := va_D_eq (exs_r rfl) hD
    refine lv_aload_n hx hb (oc_42 36 (aq_10 shX0_flip_26)) rfl (lvA1 hl) ?_
    refine lv_dup hx hb (oc_89 37 (aq_11 shX0_flip_26)) rfl ?_
    refine gf_RX0_24 S hK hP _ (exr (m := 0) rfl) (v := .int x6) rfl (oc_180 38 (aq_12 shX0_flip_26) uw_0_24) ?_
    refine lv_iload_n hx hb (oc_29 41 (aq_15 shX0_flip_26)) rfl (lvA0 hl) ?_
    refine lv_aload_n hx hb (oc_44 42 (aq_16 shX0_flip_26)) rfl (lvA3 hl) ?_
    refine gf_RX0_27 S hK hP _ (exl (xf_1 (by omega))) (v := .int ((Fn 122) k0)) rfl (oc_180 43 (aq_17 shX0_flip_26) uw_0_27) ?_
    refine lv_imul hx hb (oc_104 46 (aq_20 shX0_flip_26)) ?_
    refine lv_iadd hx hb (oc_96 47 (aq_21 shX0_flip_26)) ?_
    refine pf_RX0_24 S hK hP hD hS _ (exr (m := 0) rfl) (v := .int (x6 + ((-1) * ((Fn 122) k0)))) (Nat.le_of_ble_eq_true rfl) rfl rfl (oc_181 48 (aq_22 shX0_flip_26) uw_0_24) (fun H locs hP hD hS => ?_)
    have hP : va_P D vwCl ((wX cI (D.1 99) zz g ad cn In Fn) ++ (([(bo, .inr (1, [.ref w, .int x1, .int x2, .int x3, .int (x4 ^^^ (1 <<< (v0 &&& 31))), .int (x5 + (-1)), .int (x6 + ((-1) * ((Fn 122) k0))), .int x7]))] : va_W) ++ ws)) H := va_P_eq (exs_r rfl) hP
    have hD : va_D A ((wX cI (D.1 99) zz g ad cn In Fn) ++ (([(bo, .inr (1, [.ref w, .int x1, .int x2, .int x3, .int (x4 ^^^ (1 <<< (v0 &&& 31))), .int (x5 + (-1)), .int (x6 + ((-1) * ((Fn 122) k0))), .int x7]))] : va_W) ++ ws)) := va_D_eq (exs_r rfl) hD
    refine lv_aload_n hx hb (oc_42 51 shX0_flip_51) rfl (lvA1 hl) ?_
    refine lv_dup hx hb (oc_89 52 (aq_1 shX0_flip_51)) rfl ?_
    refine gf_RX0_30 S hK hP _ (exr (m := 0) rfl) (v := .int x1) rfl (oc_180 53 (aq_2 shX0_flip_51) uw_0_30) ?_
    refine lv_iload_n hx hb (oc_29 56 (aq_5 shX0_flip_51)) rfl (lvA0 hl) ?_
    refine lv_aload_n hx hb (oc_44 57 (aq_6 shX0_flip_51)) rfl (lvA3 hl) ?_
    refine gf_RX0_27 S hK hP _ (exl (xf_1 (by omega))) (v := .int ((Fn 122) k0)) rfl (oc_180 58 (aq_7 shX0_flip_51) uw_0_27) ?_
    refine lv_imul hx hb (oc_104 61 (aq_10 shX0_flip_51)) ?_
    refine lv_aload_n hx hb (oc_44 62 (aq_11 shX0_flip_51)) rfl (lvA3 hl) ?_
    refine gf_RX0_33 S hK hP _ (exl (xf_1 (by omega))) (v := .int ((Fn 123) k0)) rfl (oc_180 63 (aq_12 shX0_flip_51) uw_0_33) ?_
    refine lv_imul hx hb (oc_104 66 (aq_15 shX0_flip_51)) ?_
    refine lv_iadd hx hb (oc_96 67 (aq_16 shX0_flip_51)) ?_
    refine pf_RX0_30 S hK hP hD hS _ (exr (m := 0) rfl) (v := .int (x1 + (((-1) * ((Fn 122) k0)) * ((Fn 123) k0)))) (Nat.le_of_ble_eq_true rfl) rfl rfl (oc_181 68 (aq_17 shX0_flip_51) uw_0_30) (fun H locs hP hD hS => ?_)
    have hP : va_P D vwCl ((wX cI (D.1 99) zz g ad cn In Fn) ++ (([(bo, .inr (1, [.ref w, .int (x1 + (((-1) * ((Fn 122) k0)) * ((Fn 123) k0))), .int x2, .int x3, .int (x4 ^^^ (1 <<< (v0 &&& 31))), .int (x5 + (-1)), .int (x6 + ((-1) * ((Fn 122) k0))), .int x7]))] : va_W) ++ ws)) H := va_P_eq (exs_r rfl) hP
    have hD : va_D A ((wX cI (D.1 99) zz g ad cn In Fn) ++ (([(bo, .inr (1, [.ref w, .int (x1 + (((-1) * ((Fn 122) k0)) * ((Fn 123) k0))), .int x2, .int x3, .int (x4 ^^^ (1 <<< (v0 &&& 31))), .int (x5 + (-1)), .int (x6 + ((-1) * ((Fn 122) k0))), .int x7]))] : va_W) ++ ws)) := va_D_eq (exs_r rfl) hD
    refine lv_aload_n hx hb (oc_42 71 (aq_20 shX0_flip_51)) rfl (lvA1 hl) ?_
    refine lv_dup hx hb (oc_89 72 (aq_21 shX0_flip_51)) rfl ?_
    refine gf_RX0_36 S hK hP _ (exr (m := 0) rfl) (v := .int x2) rfl (oc_180 73 (aq_22 shX0_flip_51) uw_0_36) ?_
    refine lv_iload_n hx hb (oc_29 76 shX0_flip_76) rfl (lvA0 hl) ?_
    refine lv_aload_n hx hb (oc_44 77 (aq_1 shX0_flip_76)) rfl (lvA3 hl) ?_
    refine gf_RX0_27 S hK hP _ (exl (xf_1 (by omega))) (v := .int ((Fn 122) k0)) rfl (oc_180 78 (aq_2 shX0_flip_76) uw_0_27) ?_
    refine lv_imul hx hb (oc_104 81 (aq_5 shX0_flip_76)) ?_
    refine lv_aload_n hx hb (oc_44 82 (aq_6 shX0_flip_76)) rfl (lvA3 hl) ?_
    refine gf_RX0_39 S hK hP _ (exl (xf_1 (by omega))) (v := .int ((Fn 124) k0)) rfl (oc_180 83 (aq_7 shX0_flip_76) uw_0_39) ?_
    refine lv_imul hx hb (oc_104 86 (aq_10 shX0_flip_76)) ?_
    refine lv_iadd hx hb (oc_96 87 (aq_11 shX0_flip_76)) ?_
    refine pf_RX0_36 S hK hP hD hS _ (exr (m := 0) rfl) (v := .int (x2 + (((-1) * ((Fn 122) k0)) * ((Fn 124) k0)))) (Nat.le_of_ble_eq_true rfl) rfl rfl (oc_181 88 (aq_12 shX0_flip_76) uw_0_36) (fun H locs hP hD hS => ?_)
    have hP : va_P D vwCl ((wX cI (D.1 99) zz g ad cn In Fn) ++ (([(bo, .inr (1, [.ref w, .int (x1 + (((-1) * ((Fn 122) k0)) * ((Fn 123) k0))), .int (x2 + (((-1) * ((Fn 122) k0)) * ((Fn 124) k0))), .int x3, .int (x4 ^^^ (1 <<< (v0 &&& 31))), .int (x5 + (-1)), .int (x6 + ((-1) * ((Fn 122) k0))), .int x7]))] : va_W) ++ ws)) H := va_P_eq (exs_r rfl) hP
    have hD : va_D A ((wX cI (D.1 99) zz g ad cn In Fn) ++ (([(bo, .inr (1, [.ref w, .int (x1 + (((-1) * ((Fn 122) k0)) * ((Fn 123) k0))), .int (x2 + (((-1) * ((Fn 122) k0)) * ((Fn 124) k0))), .int x3, .int (x4 ^^^ (1 <<< (v0 &&& 31))), .int (x5 + (-1)), .int (x6 + ((-1) * ((Fn 122) k0))), .int x7]))] : va_W) ++ ws)) := va_D_eq (exs_r rfl) hD
    exact W.vret hx hb hr (fun t ht hW => ⟨⟨(ad, cn, In, Fn, (([(bo, .inr (1, [.ref w, .int (x1 + (((-1) * ((Fn 122) k0)) * ((Fn 123) k0))), .int (x2 + (((-1) * ((Fn 122) k0)) * ((Fn 124) k0))), .int x3, .int (x4 ^^^ (1 <<< (v0 &&& 31))), .int (x5 + (-1)), .int (x6 + ((-1) * ((Fn 122) k0))), .int x7]))] : va_W) ++ ws)), rfl, ⟨rfl, rfl, rfl, rfl, (-1), Or.inl ⟨rfl, h_2⟩, rfl⟩, by rw [ht]; exact hP, hD⟩, hS.F ht⟩) hS.2.2 (oc_177 91 (aq_15 shX0_flip_76))
  ·
    refine lv_if_eq (tgt := 12) hx hb (oc_153 5 (aq_5 shX0_flip_0) sgw_0_7) rfl (fun _ => ?_) (fun h => absurd h cq_eq_0_0)
    refine lv_iconst (v := 1) hx hb (oc_4 12 (aq_12 shX0_flip_0)) kic_1 ?_
    refine lv_istore_n (lv' := [(3, .int 1), (0, .ref bo), (1, .int v0), (2, .ref (ad 11 k0))]) hx hb (oc_62 13 (aq_13 shX0_flip_0)) rfl hl (ltb rfl) rfl (fun ls hl => ?_)
    refine lv_aload_n hx hb (oc_42 14 (aq_14 shX0_flip_0)) rfl (lvA1 hl) ?_
    refine lv_dup hx hb (oc_89 15 (aq_15 shX0_flip_0)) rfl ?_
    refine gf_RX0_13 S hK hP _ (exr (m := 0) rfl) (v := .int x4) rfl (oc_180 16 (aq_16 shX0_flip_0) uw_0_13) ?_
    refine lv_iconst (v := 1) hx hb (oc_4 19 (aq_19 shX0_flip_0)) kic_1 ?_
    refine lv_iload_n hx hb (oc_27 20 (aq_20 shX0_flip_0)) rfl (lvA2 hl) ?_
    refine lv_ishl hx hb (oc_120 21 (aq_21 shX0_flip_0)) ?_
    refine lv_ixor hx hb (oc_130 22 (aq_22 shX0_flip_0)) ?_
    refine pf_RX0_13 S hK hP hD hS _ (exr (m := 0) rfl) (v := .int (x4 ^^^ (1 <<< (v0 &&& 31)))) (Nat.le_of_ble_eq_true rfl) rfl rfl (oc_181 23 (aq_23 shX0_flip_0) uw_0_13) (fun H locs hP hD hS => ?_)
    have hP : va_P D vwCl ((wX cI (D.1 99) zz g ad cn In Fn) ++ (([(bo, .inr (1, [.ref w, .int x1, .int x2, .int x3, .int (x4 ^^^ (1 <<< (v0 &&& 31))), .int x5, .int x6, .int x7]))] : va_W) ++ ws)) H := va_P_eq (exs_r rfl) hP
    have hD : va_D A ((wX cI (D.1 99) zz g ad cn In Fn) ++ (([(bo, .inr (1, [.ref w, .int x1, .int x2, .int x3, .int (x4 ^^^ (1 <<< (v0 &&& 31))), .int x5, .int x6, .int x7]))] : va_W) ++ ws)) := va_D_eq (exs_r rfl) hD
    refine lv_aload_n hx hb (oc_42 26 shX0_flip_26) rfl (lvA1 hl) ?_
    refine lv_dup hx hb (oc_89 27 (aq_1 shX0_flip_26)) rfl ?_
    refine gf_RX0_21 S hK hP _ (exr (m := 0) rfl) (v := .int x5) rfl (oc_180 28 (aq_2 shX0_flip_26) uw_0_21) ?_
    refine lv_iload_n hx hb (oc_29 31 (aq_5 shX0_flip_26)) rfl (lvA0 hl) ?_
    refine lv_iadd hx hb (oc_96 32 (aq_6 shX0_flip_26)) ?_
    refine pf_RX0_21 S hK hP hD hS _ (exr (m := 0) rfl) (v := .int (x5 + 1)) (Nat.le_of_ble_eq_true rfl) rfl rfl (oc_181 33 (aq_7 shX0_flip_26) uw_0_21) (fun H locs hP hD hS => ?_)
    have hP : va_P D vwCl ((wX cI (D.1 99) zz g ad cn In Fn) ++ (([(bo, .inr (1, [.ref w, .int x1, .int x2, .int x3, .int (x4 ^^^ (1 <<< (v0 &&& 31))), .int (x5 + 1), .int x6, .int x7]))] : va_W) ++ ws)) H := va_P_eq (exs_r rfl) hP
    have hD : va_D A ((wX cI (D.1 99) zz g ad cn In Fn) ++ (([(bo, .inr (1, [.ref w, .int x1, .int x2, .int x3, .int (x4 ^^^ (1 <<< (v0 &&& 31))), .int (x5 + 1), .int x6, .int x7]))] : va_W) ++ ws)) := va_D_eq (exs_r rfl) hD
    refine lv_aload_n hx hb (oc_42 36 (aq_10 shX0_flip_26)) rfl (lvA1 hl) ?_
    refine lv_dup hx hb (oc_89 37 (aq_11 shX0_flip_26)) rfl ?_
    refine gf_RX0_24 S hK hP _ (exr (m := 0) rfl) (v := .int x6) rfl (oc_180 38 (aq_12 shX0_flip_26) uw_0_24) ?_
    refine lv_iload_n hx hb (oc_29 41 (aq_15 shX0_flip_26)) rfl (lvA0 hl) ?_
    refine lv_aload_n hx hb (oc_44 42 (aq_16 shX0_flip_26)) rfl (lvA3 hl) ?_
    refine gf_RX0_27 S hK hP _ (exl (xf_1 (by omega))) (v := .int ((Fn 122) k0)) rfl (oc_180 43 (aq_17 shX0_flip_26) uw_0_27) ?_
    refine lv_imul hx hb (oc_104 46 (aq_20 shX0_flip_26)) ?_
    refine lv_iadd hx hb (oc_96 47 (aq_21 shX0_flip_26)) ?_
    refine pf_RX0_24 S hK hP hD hS _ (exr (m := 0) rfl) (v := .int (x6 + (1 * ((Fn 122) k0)))) (Nat.le_of_ble_eq_true rfl) rfl rfl (oc_181 48 (aq_22 shX0_flip_26) uw_0_24) (fun H locs hP hD hS => ?_)
    have hP : va_P D vwCl ((wX cI (D.1 99) zz g ad cn In Fn) ++ (([(bo, .inr (1, [.ref w, .int x1, .int x2, .int x3, .int (x4 ^^^ (1 <<< (v0 &&& 31))), .int (x5 + 1), .int (x6 + (1 * ((Fn 122) k0))), .int x7]))] : va_W) ++ ws)) H := va_P_eq (exs_r rfl) hP
    have hD : va_D A ((wX cI (D.1 99) zz g ad cn In Fn) ++ (([(bo, .inr (1, [.ref w, .int x1, .int x2, .int x3, .int (x4 ^^^ (1 <<< (v0 &&& 31))), .int (x5 + 1), .int (x6 + (1 * ((Fn 122) k0))), .int x7]))] : va_W) ++ ws)) := va_D_eq (exs_r rfl) hD
    refine lv_aload_n hx hb (oc_42 51 shX0_flip_51) rfl (lvA1 hl) ?_
    refine lv_dup hx hb (oc_89 52 (aq_1 shX0_flip_51)) rfl ?_
    refine gf_RX0_30 S hK hP _ (exr (m := 0) rfl) (v := .int x1) rfl (oc_180 53 (aq_2 shX0_flip_51) uw_0_30) ?_
    refine lv_iload_n hx hb (oc_29 56 (aq_5 shX0_flip_51)) rfl (lvA0 hl) ?_
    refine lv_aload_n hx hb (oc_44 57 (aq_6 shX0_flip_51)) rfl (lvA3 hl) ?_
    refine gf_RX0_27 S hK hP _ (exl (xf_1 (by omega))) (v := .int ((Fn 122) k0)) rfl (oc_180 58 (aq_7 shX0_flip_51) uw_0_27) ?_
    refine lv_imul hx hb (oc_104 61 (aq_10 shX0_flip_51)) ?_
    refine lv_aload_n hx hb (oc_44 62 (aq_11 shX0_flip_51)) rfl (lvA3 hl) ?_
    refine gf_RX0_33 S hK hP _ (exl (xf_1 (by omega))) (v := .int ((Fn 123) k0)) rfl (oc_180 63 (aq_12 shX0_flip_51) uw_0_33) ?_
    refine lv_imul hx hb (oc_104 66 (aq_15 shX0_flip_51)) ?_
    refine lv_iadd hx hb (oc_96 67 (aq_16 shX0_flip_51)) ?_
    refine pf_RX0_30 S hK hP hD hS _ (exr (m := 0) rfl) (v := .int (x1 + ((1 * ((Fn 122) k0)) * ((Fn 123) k0)))) (Nat.le_of_ble_eq_true rfl) rfl rfl (oc_181 68 (aq_17 shX0_flip_51) uw_0_30) (fun H locs hP hD hS => ?_)
    have hP : va_P D vwCl ((wX cI (D.1 99) zz g ad cn In Fn) ++ (([(bo, .inr (1, [.ref w, .int (x1 + ((1 * ((Fn 122) k0)) * ((Fn 123) k0))), .int x2, .int x3, .int (x4 ^^^ (1 <<< (v0 &&& 31))), .int (x5 + 1), .int (x6 + (1 * ((Fn 122) k0))), .int x7]))] : va_W) ++ ws)) H := va_P_eq (exs_r rfl) hP
    have hD : va_D A ((wX cI (D.1 99) zz g ad cn In Fn) ++ (([(bo, .inr (1, [.ref w, .int (x1 + ((1 * ((Fn 122) k0)) * ((Fn 123) k0))), .int x2, .int x3, .int (x4 ^^^ (1 <<< (v0 &&& 31))), .int (x5 + 1), .int (x6 + (1 * ((Fn 122) k0))), .int x7]))] : va_W) ++ ws)) := va_D_eq (exs_r rfl) hD
    refine lv_aload_n hx hb (oc_42 71 (aq_20 shX0_flip_51)) rfl (lvA1 hl) ?_
    refine lv_dup hx hb (oc_89 72 (aq_21 shX0_flip_51)) rfl ?_
    refine gf_RX0_36 S hK hP _ (exr (m := 0) rfl) (v := .int x2) rfl (oc_180 73 (aq_22 shX0_flip_51) uw_0_36) ?_
    refine lv_iload_n hx hb (oc_29 76 shX0_flip_76) rfl (lvA0 hl) ?_
    refine lv_aload_n hx hb (oc_44 77 (aq_1 shX0_flip_76)) rfl (lvA3 hl) ?_
    refine gf_RX0_27 S hK hP _ (exl (xf_1 (by omega))) (v := .int ((Fn 122) k0)) rfl (oc_180 78 (aq_2 shX0_flip_76) uw_0_27) ?_
    refine lv_imul hx hb (oc_104 81 (aq_5 shX0_flip_76)) ?_
    refine lv_aload_n hx hb (oc_44 82 (aq_6 shX0_flip_76)) rfl (lvA3 hl) ?_
    refine gf_RX0_39 S hK hP _ (exl (xf_1 (by omega))) (v := .int ((Fn 124) k0)) rfl (oc_180 83 (aq_7 shX0_flip_76) uw_0_39) ?_
    refine lv_imul hx hb (oc_104 86 (aq_10 shX0_flip_76)) ?_
    refine lv_iadd hx hb (oc_96 87 (aq_11 shX0_flip_76)) ?_
    refine pf_RX0_36 S hK hP hD hS _ (exr (m := 0) rfl) (v := .int (x2 + ((1 * ((Fn 122) k0)) * ((Fn 124) k0)))) (Nat.le_of_ble_eq_true rfl) rfl rfl (oc_181 88 (aq_12 shX0_flip_76) uw_0_36) (fun H locs hP hD hS => ?_)
    have hP : va_P D vwCl ((wX cI (D.1 99) zz g ad cn In Fn) ++ (([(bo, .inr (1, [.ref w, .int (x1 + ((1 * ((Fn 122) k0)) * ((Fn 123) k0))), .int (x2 + ((1 * ((Fn 122) k0)) * ((Fn 124) k0))), .int x3, .int (x4 ^^^ (1 <<< (v0 &&& 31))), .int (x5 + 1), .int (x6 + (1 * ((Fn 122) k0))), .int x7]))] : va_W) ++ ws)) H := va_P_eq (exs_r rfl) hP
    have hD : va_D A ((wX cI (D.1 99) zz g ad cn In Fn) ++ (([(bo, .inr (1, [.ref w, .int (x1 + ((1 * ((Fn 122) k0)) * ((Fn 123) k0))), .int (x2 + ((1 * ((Fn 122) k0)) * ((Fn 124) k0))), .int x3, .int (x4 ^^^ (1 <<< (v0 &&& 31))), .int (x5 + 1), .int (x6 + (1 * ((Fn 122) k0))), .int x7]))] : va_W) ++ ws)) := va_D_eq (exs_r rfl) hD
    exact W.vret hx hb hr (fun t ht hW => ⟨⟨(ad, cn, In, Fn, (([(bo, .inr (1, [.ref w, .int (x1 + ((1 * ((Fn 122) k0)) * ((Fn 123) k0))), .int (x2 + ((1 * ((Fn 122) k0)) * ((Fn 124) k0))), .int x3, .int (x4 ^^^ (1 <<< (v0 &&& 31))), .int (x5 + 1), .int (x6 + (1 * ((Fn 122) k0))), .int x7]))] : va_W) ++ ws)), rfl, ⟨rfl, rfl, rfl, rfl, 1, Or.inr ⟨rfl, h_2⟩, rfl⟩, by rw [ht]; exact hP, hD⟩, hS.F ht⟩) hS.2.2 (oc_177 91 (aq_15 shX0_flip_76))
set_option maxRecDepth 100000 in
set_option maxHeartbeats 4000000 in
theorem q_Emixed (l : Launch) (D : va_G) (cI cB cZ : ClassId) (zz qq vv : Nat) (bt : Nat → Int32) (g : Nat → Nat) (ad : Nat → Nat → Nat) (cn : Nat → Nat) (In : Nat → Int32) (Fn : Nat → Nat → Int32) (v0 : Int32) (sz : Nat) (hB : CBX cn) : Met l yX11_mixed (CWS yX11_mixed cX11_mixed 5 (some (.object "OilHome$Batch"))) (RM 4 2 20) (PBx [.ref (g 0), .int v0] D cI cB cZ zz qq vv bt (wX cI (D.1 99) zz g ad cn In Fn) sz) (va_Qq (fun (r : Option Nat) (u : (Nat → Nat → Nat) × (Nat → Nat) × (Nat → Int32) × (Nat → Nat → Int32) × va_W) => (fun r a2 c2 I2 F2 W2 => ad = a2 ∧ cn = c2 ∧ In = I2 ∧ Fn = F2 ∧ ((r = none ∧ W2 = []) ∨ ∃ (bo w : Nat) (x1 x2 x4 x5 x6 : Int32), r = some bo ∧ W2 = ([(bo, .inr (1, [.ref w, .int x1, .int x2, .int 0, .int x4, .int x5, .int x6, .int 0])), (w, .inl (cI, 12, .inl (fun _ => 0)))] : va_W))) r u.1 u.2.1 u.2.2.1 u.2.2.2.1 u.2.2.2.2) (fun (u : (Nat → Nat → Nat) × (Nat → Nat) × (Nat → Int32) × (Nat → Nat → Int32) × va_W) (t : State) => va_P D vwCl (wX cI (D.1 99) zz g u.1 u.2.1 u.2.2.1 u.2.2.2.1 ++ u.2.2.2.2) t.heap ∧ va_D (va_A (wX cI (D.1 99) zz g ad cn In Fn) sz) (wX cI (D.1 99) zz g u.1 u.2.1 u.2.2.1 u.2.2.2.1 ++ u.2.2.2.2)) (va_A (wX cI (D.1 99) zz g ad cn In Fn) sz)) 2 20 (va_A (wX cI (D.1 99) zz g ad cn In Fn) sz) := by
  refine en_x (fun A => (va_Qq (fun (r : Option Nat) (u : (Nat → Nat → Nat) × (Nat → Nat) × (Nat → Int32) × (Nat → Nat → Int32) × va_W) => (fun (r : Option Nat) (a2 : Nat → Nat → Nat) (c2 : Nat → Nat) (I2 : Nat → Int32) (F2 : Nat → Nat → Int32) (W2 : va_W) => ad = a2 ∧ cn = c2 ∧ In = I2 ∧ Fn = F2 ∧ ((r = none ∧ W2 = []) ∨ ∃ (bo w : Nat) (x1 x2 x4 x5 x6 : Int32), r = some bo ∧ W2 = ([(bo, .inr (1, [.ref w, .int x1, .int x2, .int 0, .int x4, .int x5, .int x6, .int 0])), (w, .inl (cI, 12, .inl (fun _ => 0)))] : va_W))) r u.1 u.2.1 u.2.2.1 u.2.2.2.1 u.2.2.2.2) (fun (u : (Nat → Nat → Nat) × (Nat → Nat) × (Nat → Int32) × (Nat → Nat → Int32) × va_W) (t : State) => va_P D vwCl (wX cI (D.1 99) zz g u.1 u.2.1 u.2.2.1 u.2.2.2.1 ++ u.2.2.2.2) t.heap ∧ va_D A (wX cI (D.1 99) zz g u.1 u.2.1 u.2.2.1 u.2.2.2.1 ++ u.2.2.2.2)) A)) rfl rfl pn_RX11 (Nat.le_of_ble_eq_true rfl) (fun p e s m below meth c A hx hb hml hown S hr hlocks hnm hA hP hK hD hXS hS ls hl => ?_)
  have hl : lv_has ls 5 [(0, .ref (g 0)), (1, .int v0)] := hl
  refine va_new (ci := 1) (fs := [.null, .int 0, .int 0, .int 0, .int 0, .int 0, .int 0, .int 0]) (C := RX0) (T := TX0) (N := 8) hx hb S.2.2.2.2 hin_RX0 tyX0 tyX0_ok hown (S.2.2.2.2 _ (wk4_17 7 rfl rfl)) (S.2.2.2.2 _ (wk4_17 8 rfl rfl)) (S.2.2.2.2 _ (wk1_1 11 rfl rfl)) hK.1 hP hD hS hA rfl (by decide +kernel) (Nat.le_of_ble_eq_true rfl) (Nat.le_of_ble_eq_true rfl) (oc_187 0 shX11_mixed_0 uw_0_95) (fun q0 H hP hD hS => ?_)
  have hP : va_P D vwCl ((wX cI (D.1 99) zz g ad cn In Fn) ++ ([(q0, .inr (1, [.null, .int 0, .int 0, .int 0, .int 0, .int 0, .int 0, .int 0]))] : va_W)) H := hP
  have hD : va_D A ((wX cI (D.1 99) zz g ad cn In Fn) ++ ([(q0, .inr (1, [.null, .int 0, .int 0, .int 0, .int 0, .int 0, .int 0, .int 0]))] : va_W)) := hD
  refine lv_dup hx hb (oc_89 3 (aq_3 shX11_mixed_0)) rfl ?_
  have hFc := va_free (wc := [(q0, .inr (1, [.null, .int 0, .int 0, .int 0, .int 0, .int 0, .int 0, .int 0]))]) hD hS hA [_] (one_im (exr (m := 0) rfl))
  refine va_callv (runIN_w (As := []) (rest := [.ref q0]) S (q_l_Batch l D cI cB cZ q0 H.size) hK.2.2.2 ⟨⟨wk4_17 10 rfl rfl, wk1_1 11 rfl rfl, wk4_17 11 rfl rfl⟩, rfl, by decide, by decide, by decide +kernel⟩ hK hP hD [_] (one_is (exr (m := 0) rfl)) (one_im (exr (m := 0) rfl)) rfl ⟨Nat.le_of_ble_eq_true rfl, Nat.le_of_ble_eq_true rfl⟩ ⟨Nat.le_of_ble_eq_true rfl, Nat.le_of_ble_eq_true rfl⟩ rfl hl.1 rfl (Nat.le_of_ble_eq_true rfl) (oc_183 4 (aq_4 shX11_mixed_0) uw_1_97)) hS (fun q _ h => hFc q h) hFc (fun u_1 t H1 locs ht hvm h_2 hB1 hz1 hk1 hS => ?_)
  obtain ⟨hP1, hD1⟩ := hB1
  rw [ht] at hP1
  obtain ⟨hP, hD⟩ := exjoin hP hD hk1 hFc hP1 hD1
  generalize H1 = H at hP hS ⊢
  have hP : va_P D vwCl ((wX cI (D.1 99) zz g ad cn In Fn) ++ ([(q0, .inr (1, [.ref u_1, .int 0, .int 0, .int 0, .int 0, .int 0, .int 0, .int 0])), (u_1, .inl (cI, 12, .inl (fun _ => 0)))] : va_W)) H := hP
  have hD : va_D A ((wX cI (D.1 99) zz g ad cn In Fn) ++ ([(q0, .inr (1, [.ref u_1, .int 0, .int 0, .int 0, .int 0, .int 0, .int 0, .int 0])), (u_1, .inl (cI, 12, .inl (fun _ => 0)))] : va_W)) := hD
  refine lv_astore_n (lv' := [(2, .ref q0), (0, .ref (g 0)), (1, .int v0)]) hx hb (oc_77 7 (aq_7 shX11_mixed_0)) rfl hl (ltb rfl) rfl (fun ls hl => ?_)
  refine lv_iconst (v := 0) hx hb (oc_3 8 (aq_8 shX11_mixed_0)) kic_0 ?_
  refine lv_istore_n (lv' := [(3, .int 0), (2, .ref q0), (0, .ref (g 0)), (1, .int v0)]) hx hb (oc_62 9 (aq_9 shX11_mixed_0)) rfl hl (ltb rfl) rfl (fun ls hl => ?_)
  have lp_10 : ∀ (n : Nat) (i10 : Nat) (b10_01 : Int32) (b10_02 : Int32) (b10_04 : Int32) (b10_05 : Int32) (b10_06 : Int32) (H : Heap) (locs : List Loc) , 20 - i10 < n → (i10 ≤ 20 ∧ Fr [] [] [] cn In Fn cn In Fn) → va_P D vwCl ((wX cI (D.1 99) zz g ad cn In Fn) ++ ([(q0, .inr (1, [.ref u_1, .int b10_01, .int b10_02, .int 0, .int b10_04, .int b10_05, .int b10_06, .int 0])), (u_1, .inl (cI, 12, .inl (fun _ => 0)))] : va_W)) H → va_D A ((wX cI (D.1 99) zz g ad cn In Fn) ++ ([(q0, .inr (1, [.ref u_1, .int b10_01, .int b10_02, .int 0, .int b10_04, .int b10_05, .int b10_06, .int 0])), (u_1, .inl (cI, 12, .inl (fun _ => 0)))] : va_W)) → va_S A s.heap H locs → ∀ ls : Array Slot, lv_has ls 5 [(3, .int (nI i10)), (2, .ref q0), (0, .ref (g 0)), (1, .int v0)] → W p l e (RM 4 2 20) s m ([.ref (g 0), .int v0]).toArray below meth c H locs 2 20 (MQ below (va_Qq (fun (r : Option Nat) (u : (Nat → Nat → Nat) × (Nat → Nat) × (Nat → Int32) × (Nat → Nat → Int32) × va_W) => (fun r a2 c2 I2 F2 W2 => ad = a2 ∧ cn = c2 ∧ In = I2 ∧ Fn = F2 ∧ ((r = none ∧ W2 = []) ∨ ∃ (bo w : Nat) (x1 x2 x4 x5 x6 : Int32), r = some bo ∧ W2 = ([(bo, .inr (1, [.ref w, .int x1, .int x2, .int 0, .int x4, .int x5, .int x6, .int 0])), (w, .inl (cI, 12, .inl (fun _ => 0)))] : va_W))) r u.1 u.2.1 u.2.2.1 u.2.2.2.1 u.2.2.2.2) (fun (u : (Nat → Nat → Nat) × (Nat → Nat) × (Nat → Int32) × (Nat → Nat → Int32) × va_W) (t : State) => va_P D vwCl (wX cI (D.1 99) zz g u.1 u.2.1 u.2.2.1 u.2.2.2.1 ++ u.2.2.2.2) t.heap ∧ va_D A (wX cI (D.1 99) zz g u.1 u.2.1 u.2.2.1 u.2.2.2.1 ++ u.2.2.2.2)) A) ([.ref (g 0), .int v0]).toArray s 2 20 A) (F0 m 10 ls []) := by
    intro n10
    induction n10 with
    | zero => intros; omega
    | succ n10 ih10 =>
      intro i10 b10_01 b10_02 b10_04 b10_05 b10_06  H locs hmu10 hinv10 hP hD hS ls hl
      obtain ⟨hr10, hfr10⟩ := hinv10
      have ti10 : (nI i10).toInt = (i10 : Int) := nI_toInt (by omega)
      refine lv_iload_n hx hb (oc_29 10 (aq_10 shX11_mixed_0)) rfl (lvA0 hl) ?_
      refine lv_bipush (v := 20) hx hb (oc_16 11 (aq_11 shX11_mixed_0) sgb_20) kbc_20 ?_
      refine lv_icmp_ge (tgt := 63) hx hb (oc_162 13 (aq_13 shX11_mixed_0) sgw_0_50) rfl (fun c_3 => ?_) (fun c_3 => ?_)
      ·
        have tc_3 : (20 : Int) ≤ (nI i10).toInt := Int32.le_iff_toInt_le.mp c_3
        refine lv_aload_n hx hb (oc_44 63 (aq_15 shX11_mixed_48)) rfl (lvA1 hl) ?_
        exact W.aret (v := .ref q0) hx hb hr (Or.inl ⟨_, rfl⟩) (Or.inr ⟨_, rfl⟩) (fun t ht hW => ⟨⟨some q0, (ad, cn, In, Fn, ([(q0, .inr (1, [.ref u_1, .int b10_01, .int b10_02, .int 0, .int b10_04, .int b10_05, .int b10_06, .int 0])), (u_1, .inl (cI, 12, .inl (fun _ => 0)))] : va_W)), rfl, ⟨rfl, rfl, rfl, rfl, Or.inr ⟨q0, u_1, b10_01, b10_02, b10_04, b10_05, b10_06, rfl, rfl⟩⟩, by rw [ht]; exact hP, hD⟩, hS.F ht⟩) hS.2.2 (oc_176 64 (aq_16 shX11_mixed_48))
      ·
        have tc_3 : ((nI i10).toInt : Int) < 20 := Int32.lt_iff_toInt_lt.mp (Int32.not_le.mp c_3)
        refine lv_iload_n hx hb (oc_27 16 (aq_16 shX11_mixed_0)) rfl (lvA3 hl) ?_
        refine lv_iload_n hx hb (oc_29 17 (aq_17 shX11_mixed_0)) rfl (lvA0 hl) ?_
        refine lv_ishr hx hb (oc_122 18 (aq_18 shX11_mixed_0)) ?_
        refine lv_iconst (v := 1) hx hb (oc_4 19 (aq_19 shX11_mixed_0)) kic_1 ?_
        refine lv_iand hx hb (oc_126 20 (aq_20 shX11_mixed_0)) ?_
        refine lv_if_ne (tgt := 27) hx hb (oc_154 21 (aq_21 shX11_mixed_0) sgw_0_6) rfl (fun c_4 => ?_) (fun c_4 => ?_)
        ·
          have tc_4 : (((v0 >>> ((nI i10) &&& 31)) &&& 1).toInt : Int) ≠ 0 := fun q => c_4 (Int32.toInt_inj.mp q)
          refine lv_aload_n hx hb (oc_42 27 (aq_3 shX11_mixed_24)) rfl (lvA2 hl) ?_
          refine lv_iload_n hx hb (oc_29 28 (aq_4 shX11_mixed_24)) rfl (lvA0 hl) ?_
          refine va_csq (runV_rxa (As := [.int (nI i10)]) (rest := []) S (q_XloadAt l D cI cB cZ zz qq vv bt g ad cn In Fn (nI i10) hB) kV_RX11_148 hK hXS hS (exP hP) 0 xo_0 rfl rfl ⟨Nat.le_of_ble_eq_true rfl, Nat.le_of_ble_eq_true rfl⟩ ⟨Nat.le_of_ble_eq_true rfl, Nat.le_of_ble_eq_true rfl⟩ rfl hl.1 rfl (Nat.le_of_ble_eq_true rfl) (oc_182 29 (aq_5 shX11_mixed_24) uw_0_148)) (fun r_5 h_6 => ?_)
          rcases h_6 with ⟨mr_5, er_5, hr_5, rfl⟩ | ⟨hr_5, rfl⟩
          ·
            refine lv_astore (lv' := [(4, .ref (ad 11 mr_5)), (3, .int (nI i10)), (2, .ref q0), (0, .ref (g 0)), (1, .int v0)]) hx hb (oc_58 32 (aq_8 shX11_mixed_24) ub_4) hl (ltb rfl) rfl (fun ls hl => ?_)
            refine lv_aload hx hb (oc_25 34 (aq_10 shX11_mixed_24) ub_4) (lvA0 hl) ?_
            refine lv_ifnull hx hb (oc_198 36 (aq_12 shX11_mixed_24) sgw_0_12) ?_
            refine lv_aload_n hx hb (oc_42 39 (aq_15 shX11_mixed_24)) rfl (lvA3 hl) ?_
            refine lv_aload hx hb (oc_25 40 (aq_16 shX11_mixed_24) ub_4) (lvA0 hl) ?_
            refine vp_callSi (runV_rxa (As := [.ref (ad 11 mr_5)]) (rest := []) S (q_XcanLoad l D cI cB cZ zz qq vv bt g ad cn In Fn mr_5 hB (by omega)) kV_RX11_354 hK hXS hS (exP hP) 0 xo_0 rfl rfl ⟨Nat.le_of_ble_eq_true rfl, Nat.le_of_ble_eq_true rfl⟩ ⟨Nat.le_of_ble_eq_true rfl, Nat.le_of_ble_eq_true rfl⟩ rfl hl.1 rfl (Nat.le_of_ble_eq_true rfl) (oc_182 42 (aq_18 shX11_mixed_24) uw_1_98)) (fun r_7 h_8 => ?_)
            rcases h_8 with rfl | rfl
            ·
              refine lv_if_ne (tgt := 50) hx hb (oc_154 45 (aq_21 shX11_mixed_24) sgw_0_5) rfl (fun h => absurd h cq_eq_0_0) (fun _ => ?_)
              refine lv_null hx hb (oc_1 48 shX11_mixed_48) ?_
              have hP := exP hP
              have hD := exD hD
              have hP : va_P D vwCl ((wX cI (D.1 99) zz g ad cn In Fn) ++ ([] : va_W)) H := va_P_eq (List.append_nil _).symm hP
              have hD : va_D A ((wX cI (D.1 99) zz g ad cn In Fn) ++ ([] : va_W)) := va_D_eq (List.append_nil _).symm hD
              exact W.aret (v := .null) hx hb hr (Or.inl ⟨_, rfl⟩) (Or.inl rfl) (fun t ht hW => ⟨⟨none, (ad, cn, In, Fn, ([] : va_W)), rfl, ⟨rfl, rfl, rfl, rfl, Or.inl ⟨rfl, rfl⟩⟩, by rw [ht]; exact hP, hD⟩, hS.F ht⟩) hS.2.2 (oc_176 49 (aq_1 shX11_mixed_48))
            ·
              refine lv_if_ne (tgt := 50) hx hb (oc_154 45 (aq_21 shX11_mixed_24) sgw_0_5) rfl (fun _ => ?_) (fun h => absurd h cq_eq_1_0)
              refine lv_aload_n hx hb (oc_44 50 (aq_2 shX11_mixed_48)) rfl (lvA2 hl) ?_
              refine lv_iload_n hx hb (oc_29 51 (aq_3 shX11_mixed_48)) rfl (lvA1 hl) ?_
              refine lv_aload hx hb (oc_25 52 (aq_4 shX11_mixed_48) ub_4) (lvA0 hl) ?_
              have hFc := free_all hD hS hA
              refine va_callv (runV_xa (As := [.int (nI i10), .ref (ad 11 mr_5)]) (rest := []) S (q_Eflip l D cI cB cZ zz qq vv bt g ad cn In Fn q0 u_1 b10_01 b10_02 0 b10_04 b10_05 b10_06 0 (nI i10) mr_5 (([(u_1, .inl (cI, 12, .inl (fun _ => 0)))] : va_W)) H.size hB (by omega)) kV_RX11_358 hK hXS hS hFc hP hD _ (exr (m := 0) rfl) rfl rfl ⟨Nat.le_of_ble_eq_true rfl, Nat.le_of_ble_eq_true rfl⟩ ⟨Nat.le_of_ble_eq_true rfl, Nat.le_of_ble_eq_true rfl⟩ rfl hl.1 rfl (Nat.le_of_ble_eq_true rfl) (oc_182 54 (aq_6 shX11_mixed_48) uw_1_102)) hS (fun q _ h => hFc q h) hFc (fun u8 t H1 locs ht hvm h8 hB1 hz1 hk1 hS => ?_)
              obtain ⟨hP1, hD1⟩ := hB1
              rw [ht] at hP1
              obtain ⟨a8, c8, I8, F8, W8⟩ := u8
              obtain ⟨rfl, rfl, rfl, rfl, sg8, hsg8, rfl⟩ := h8
              have hP : va_P D vwCl ((wX cI (D.1 99) zz g ad cn In Fn) ++ ([(q0, .inr (1, [.ref u_1, .int (b10_01 + sg8 * ((Fn 122) mr_5) * ((Fn 123) mr_5)), .int (b10_02 + sg8 * ((Fn 122) mr_5) * ((Fn 124) mr_5)), .int 0, .int (b10_04 ^^^ 1 <<< ((nI i10) &&& 31)), .int (b10_05 + sg8), .int (b10_06 + sg8 * ((Fn 122) mr_5)), .int 0])), (u_1, .inl (cI, 12, .inl (fun _ => 0)))] : va_W)) H1 := hP1
              have hD : va_D A ((wX cI (D.1 99) zz g ad cn In Fn) ++ ([(q0, .inr (1, [.ref u_1, .int (b10_01 + sg8 * ((Fn 122) mr_5) * ((Fn 123) mr_5)), .int (b10_02 + sg8 * ((Fn 122) mr_5) * ((Fn 124) mr_5)), .int 0, .int (b10_04 ^^^ 1 <<< ((nI i10) &&& 31)), .int (b10_05 + sg8), .int (b10_06 + sg8 * ((Fn 122) mr_5)), .int 0])), (u_1, .inl (cI, 12, .inl (fun _ => 0)))] : va_W)) := hD1.weaken (fun _ _ _ h => hFc _ h)
              generalize H1 = H at hP hS ⊢
              refine lv_iinc (v := (nI (i10 + 1))) (lv' := [(3, .int (nI (i10 + 1))), (4, .ref (ad 11 mr_5)), (2, .ref q0), (0, .ref (g 0)), (1, .int v0)]) hx hb (oc_132 57 (aq_9 shX11_mixed_48) ub_3 sgb_1) hl (k := 1) rfl (nI_1 _) (ltb rfl) rfl (fun ls hl => ?_)
              refine lv_goto (tgt := 10) hx hb (oc_167 60 (aq_12 shX11_mixed_48) sgw_255_206) rfl ?_
              exact ih10 (i10 + 1) (b10_01 + sg8 * ((Fn 122) mr_5) * ((Fn 123) mr_5)) (b10_02 + sg8 * ((Fn 122) mr_5) * ((Fn 124) mr_5)) (b10_04 ^^^ 1 <<< ((nI i10) &&& 31)) (b10_05 + sg8) (b10_06 + sg8 * ((Fn 122) mr_5))  _ _ (by omega) ⟨(by omega), (Fr.mo hfr10 (sbl rfl) (sbl rfl) (sbl rfl))⟩ hP hD hS ls (lv_sub hl [0, 2, 3, 4] rfl)
          ·
            refine lv_astoreN (lv' := [(4, .null), (3, .int (nI i10)), (2, .ref q0), (0, .ref (g 0)), (1, .int v0)]) hx hb (oc_58 32 (aq_8 shX11_mixed_24) ub_4) hl (ltb rfl) rfl (fun ls hl => ?_)
            refine lv_aloadN hx hb (oc_25 34 (aq_10 shX11_mixed_24) ub_4) (lvA0 hl) ?_
            refine lv_ifnullN (tgt := 48) hx hb (oc_198 36 (aq_12 shX11_mixed_24) sgw_0_12) rfl ?_
            refine lv_null hx hb (oc_1 48 shX11_mixed_48) ?_
            have hP := exP hP
            have hD := exD hD
            have hP : va_P D vwCl ((wX cI (D.1 99) zz g ad cn In Fn) ++ ([] : va_W)) H := va_P_eq (List.append_nil _).symm hP
            have hD : va_D A ((wX cI (D.1 99) zz g ad cn In Fn) ++ ([] : va_W)) := va_D_eq (List.append_nil _).symm hD
            exact W.aret (v := .null) hx hb hr (Or.inl ⟨_, rfl⟩) (Or.inl rfl) (fun t ht hW => ⟨⟨none, (ad, cn, In, Fn, ([] : va_W)), rfl, ⟨rfl, rfl, rfl, rfl, Or.inl ⟨rfl, rfl⟩⟩, by rw [ht]; exact hP, hD⟩, hS.F ht⟩) hS.2.2 (oc_176 49 (aq_1 shX11_mixed_48))
        ·
          have tc_4 : (((v0 >>> ((nI i10) &&& 31)) &&& 1).toInt : Int) = 0 := congrArg Int32.toInt c_4
          refine lv_goto (tgt := 57) hx hb (oc_167 24 shX11_mixed_24 sgw_0_33) rfl ?_
          refine lv_iinc (v := (nI (i10 + 1))) (lv' := [(3, .int (nI (i10 + 1))), (2, .ref q0), (0, .ref (g 0)), (1, .int v0)]) hx hb (oc_132 57 (aq_9 shX11_mixed_48) ub_3 sgb_1) hl (k := 0) rfl (nI_1 _) (ltb rfl) rfl (fun ls hl => ?_)
          refine lv_goto (tgt := 10) hx hb (oc_167 60 (aq_12 shX11_mixed_48) sgw_255_206) rfl ?_
          exact ih10 (i10 + 1) b10_01 b10_02 b10_04 b10_05 b10_06  _ _ (by omega) ⟨(by omega), (Fr.mo hfr10 (sbl rfl) (sbl rfl) (sbl rfl))⟩ hP hD hS ls (lv_sub hl [0, 1, 2, 3] rfl)
  exact lp_10 _ 0 0 0 0 0 0  _ _ (Nat.lt_succ_self _) ⟨(by omega), (Fr.mo Fr.rf (sbl rfl) (sbl rfl) (sbl rfl))⟩ hP hD hS ls (lv_sub hl [0, 1, 2, 3] rfl)
set_option maxRecDepth 100000 in
set_option maxHeartbeats 4000000 in
theorem q_EbrokenClause (l : Launch) (D : va_G) (cI cB cZ : ClassId) (zz qq vv : Nat) (bt : Nat → Int32) (g : Nat → Nat) (ad : Nat → Nat → Nat) (cn : Nat → Nat) (In : Nat → Int32) (Fn : Nat → Nat → Int32) (bo w : Nat) (x1 x2 x3 x4 x5 x6 x7 : Int32) (ws : va_W) (sz : Nat) (hB : CBX cn) (hT : (∀ k : Nat, k < cn 10 → ad 3 k < cn 6) ∧ ad 4 0 < cn 6 ∧ ad 4 1 < cn 6) (hC : ∀ k : Nat, k < cn 6 → ∃ n : Nat, n ≤ 12 ∧ Fn 198 k = nI n) : Met l yX11_brokenClause (CWS yX11_brokenClause cX11_brokenClause 2 (some .int)) (RM 5 0 0) (PBx [.ref (g 0), .ref bo] D cI cB cZ zz qq vv bt ((wX cI (D.1 99) zz g ad cn In Fn) ++ (([(bo, .inr (1, [.ref w, .int x1, .int x2, .int x3, .int x4, .int x5, .int x6, .int x7]))] : va_W) ++ ws)) sz) (va_Qi (fun (r : Int32) (u : (Nat → Nat → Nat) × (Nat → Nat) × (Nat → Int32) × (Nat → Nat → Int32)) => (fun r a2 c2 I2 F2 => ad = a2 ∧ cn = c2 ∧ In = I2 ∧ ∀ k, k ∉ [7, 196, 197, 305] → F2 k = Fn k) r u.1 u.2.1 u.2.2.1 u.2.2.2) (fun (u : (Nat → Nat → Nat) × (Nat → Nat) × (Nat → Int32) × (Nat → Nat → Int32)) (t : State) => va_P D vwCl ((wX cI (D.1 99) zz g u.1 u.2.1 u.2.2.1 u.2.2.2) ++ (([(bo, .inr (1, [.ref w, .int x1, .int x2, .int x3, .int x4, .int x5, .int x6, .int x7]))] : va_W) ++ ws)) t.heap ∧ va_D (va_A ((wX cI (D.1 99) zz g ad cn In Fn) ++ (([(bo, .inr (1, [.ref w, .int x1, .int x2, .int x3, .int x4, .int x5, .int x6, .int x7]))] : va_W) ++ ws)) sz) ((wX cI (D.1 99) zz g u.1 u.2.1 u.2.2.1 u.2.2.2) ++ (([(bo, .inr (1, [.ref w, .int x1, .int x2, .int x3, .int x4, .int x5, .int x6, .int x7]))] : va_W) ++ ws))) (va_A ((wX cI (D.1 99) zz g ad cn In Fn) ++ (([(bo, .inr (1, [.ref w, .int x1, .int x2, .int x3, .int x4, .int x5, .int x6, .int x7]))] : va_W) ++ ws)) sz)) 0 0 (va_A ((wX cI (D.1 99) zz g ad cn In Fn) ++ (([(bo, .inr (1, [.ref w, .int x1, .int x2, .int x3, .int x4, .int x5, .int x6, .int x7]))] : va_W) ++ ws)) sz) := by
  refine en_x (fun A => (va_Qi (fun (r : Int32) (u : (Nat → Nat → Nat) × (Nat → Nat) × (Nat → Int32) × (Nat → Nat → Int32)) => (fun (r : Int32) (a2 : Nat → Nat → Nat) (c2 : Nat → Nat) (I2 : Nat → Int32) (F2 : Nat → Nat → Int32) => ad = a2 ∧ cn = c2 ∧ In = I2 ∧ ∀ k, k ∉ [7, 196, 197, 305] → F2 k = Fn k) r u.1 u.2.1 u.2.2.1 u.2.2.2) (fun (u : (Nat → Nat → Nat) × (Nat → Nat) × (Nat → Int32) × (Nat → Nat → Int32)) (t : State) => va_P D vwCl ((wX cI (D.1 99) zz g u.1 u.2.1 u.2.2.1 u.2.2.2) ++ (([(bo, .inr (1, [.ref w, .int x1, .int x2, .int x3, .int x4, .int x5, .int x6, .int x7]))] : va_W) ++ ws)) t.heap ∧ va_D A ((wX cI (D.1 99) zz g u.1 u.2.1 u.2.2.1 u.2.2.2) ++ (([(bo, .inr (1, [.ref w, .int x1, .int x2, .int x3, .int x4, .int x5, .int x6, .int x7]))] : va_W) ++ ws))) A)) rfl rfl pn_RX11 (Nat.le_of_ble_eq_true rfl) (fun p e s m below meth c A hx hb hml hown S hr hlocks hnm hA hP hK hD hXS hS ls hl => ?_)
  have hl : lv_has ls 2 [(0, .ref (g 0)), (1, .ref bo)] := hl
  refine lv_aload_n hx hb (oc_42 0 shX11_brokenClause_0) rfl (lvA0 hl) ?_
  refine lv_bipush (v := 113) hx hb (oc_16 1 (aq_1 shX11_brokenClause_0) sgb_113) kbc_113 ?_
  refine lv_aload_n hx hb (oc_43 3 (aq_3 shX11_brokenClause_0)) rfl (lvA1 hl) ?_
  refine gf_RX11_342 S hK hP _ (exr (m := 0) rfl) (v := .int x6) rfl (oc_180 4 (aq_4 shX11_brokenClause_0) uw_1_86) ?_
  have hFc := free_all (exD hD) hS hA
  refine va_callv (runV_xa (As := [.int 113, .int x6]) (rest := []) S (q_Xletter l D cI cB cZ zz qq vv bt g ad cn In Fn 113 x6 s.heap.size hB) kV_RX11_188 hK hXS hS hFc (exP hP) (exD hD) 0 xo_0 rfl rfl ⟨Nat.le_of_ble_eq_true rfl, Nat.le_of_ble_eq_true rfl⟩ ⟨Nat.le_of_ble_eq_true rfl, Nat.le_of_ble_eq_true rfl⟩ rfl hl.1 rfl (Nat.le_of_ble_eq_true rfl) (oc_182 7 (aq_7 shX11_brokenClause_0) uw_0_188)) hS (fun q _ h => hFc q h) hFc (fun u t H1 locs ht hvm wh_2 hB1 hz1 hk1 hS => ?_)
  obtain ⟨cn2, In2, Fn2⟩ := u
  obtain ⟨hP1, hD1⟩ := hB1
  rw [ht] at hP1
  obtain ⟨hP, hD⟩ := exjoinL hP hD hk1 hFc hP1 hD1
  have hP : va_P D vwCl ((wX cI (D.1 99) zz g ad cn2 In2 Fn2) ++ (([(bo, .inr (1, [.ref w, .int x1, .int x2, .int x3, .int x4, .int x5, .int x6, .int x7]))] : va_W) ++ ws)) H1 := hP
  have hD : va_D A ((wX cI (D.1 99) zz g ad cn2 In2 Fn2) ++ (([(bo, .inr (1, [.ref w, .int x1, .int x2, .int x3, .int x4, .int x5, .int x6, .int x7]))] : va_W) ++ ws)) := hD
  generalize H1 = H at hP hS ⊢
  have vh_2 : (fun c2 I2 F2 => Fr [] [] [7] cn In Fn c2 I2 F2 ∧ CBX c2 ∧ (True)) cn2 In2 Fn2 := wh_2
  obtain ⟨hfc2, hIn2, h_2⟩ := vh_2
  obtain rfl : cn = cn2 := (funext (fun k => hfc2.1 k List.not_mem_nil)).symm
  obtain rfl : In = In2 := (funext (fun k => hfc2.2.1 k List.not_mem_nil)).symm
  have hf2 : Fr [] [] [7, 196, 197, 305] cn In Fn cn In Fn2 := Fr.mo (Fr.tr (Fr.rf (cn := cn) (In := In) (Fn := Fn)) hfc2) (sbl rfl) (sbl rfl) (sbl rfl)
  refine lv_aload_n hx hb (oc_42 10 (aq_10 shX11_brokenClause_0)) rfl (lvA0 hl) ?_
  refine lv_bipush (v := 102) hx hb (oc_16 11 (aq_11 shX11_brokenClause_0) sgb_102) kbc_102 ?_
  refine lv_aload_n hx hb (oc_43 13 (aq_13 shX11_brokenClause_0)) rfl (lvA1 hl) ?_
  refine vp_callSi (runV_r (As := []) (rest := [.int 102, .ref (g 0)]) S (q_l_water l D cI cB cZ bo w x1 x2 x3 x4 x5 x6 x7) kV_RX11_343 hK hP _ (one_is (exr (m := 0) rfl)) _ (exr (m := 0) rfl) rfl rfl ⟨Nat.le_of_ble_eq_true rfl, Nat.le_of_ble_eq_true rfl⟩ ⟨Nat.le_of_ble_eq_true rfl, Nat.le_of_ble_eq_true rfl⟩ rfl hl.1 rfl (Nat.le_of_ble_eq_true rfl) (oc_182 14 (aq_14 shX11_brokenClause_0) uw_1_87)) (fun r_3 h_4 => ?_)
  subst h_4
  have hFc := free_all (exD hD) hS hA
  refine va_callv (runV_xa (As := [.int 102, .int (if x6 = 0 then 0 else x1 / x6)]) (rest := []) S (q_Xletter l D cI cB cZ zz qq vv bt g ad cn In Fn2 102 (if x6 = 0 then 0 else x1 / x6) H.size hIn2) kV_RX11_188 hK hXS hS hFc (exP hP) (exD hD) 0 xo_0 rfl rfl ⟨Nat.le_of_ble_eq_true rfl, Nat.le_of_ble_eq_true rfl⟩ ⟨Nat.le_of_ble_eq_true rfl, Nat.le_of_ble_eq_true rfl⟩ rfl hl.1 rfl (Nat.le_of_ble_eq_true rfl) (oc_182 17 (aq_17 shX11_brokenClause_0) uw_0_188)) hS (fun q _ h => hFc q h) hFc (fun u t H1 locs ht hvm wh_6 hB1 hz1 hk1 hS => ?_)
  obtain ⟨cn6, In6, Fn6⟩ := u
  obtain ⟨hP1, hD1⟩ := hB1
  rw [ht] at hP1
  obtain ⟨hP, hD⟩ := exjoinL hP hD hk1 hFc hP1 hD1
  have hP : va_P D vwCl ((wX cI (D.1 99) zz g ad cn6 In6 Fn6) ++ (([(bo, .inr (1, [.ref w, .int x1, .int x2, .int x3, .int x4, .int x5, .int x6, .int x7]))] : va_W) ++ ws)) H1 := hP
  have hD : va_D A ((wX cI (D.1 99) zz g ad cn6 In6 Fn6) ++ (([(bo, .inr (1, [.ref w, .int x1, .int x2, .int x3, .int x4, .int x5, .int x6, .int x7]))] : va_W) ++ ws)) := hD
  generalize H1 = H at hP hS ⊢
  have vh_6 : (fun c2 I2 F2 => Fr [] [] [7] cn In Fn2 c2 I2 F2 ∧ CBX c2 ∧ (True)) cn6 In6 Fn6 := wh_6
  obtain ⟨hfc6, hIn6, h_6⟩ := vh_6
  obtain rfl : cn = cn6 := (funext (fun k => hfc6.1 k List.not_mem_nil)).symm
  obtain rfl : In = In6 := (funext (fun k => hfc6.2.1 k List.not_mem_nil)).symm
  have hf6 : Fr [] [] [7, 196, 197, 305] cn In Fn cn In Fn6 := Fr.mo (Fr.tr hf2 hfc6) (sbl rfl) (sbl rfl) (sbl rfl)
  refine lv_aload_n hx hb (oc_42 20 (aq_20 shX11_brokenClause_0)) rfl (lvA0 hl) ?_
  refine lv_bipush (v := 97) hx hb (oc_16 21 (aq_21 shX11_brokenClause_0) sgb_97) kbc_97 ?_
  refine lv_aload_n hx hb (oc_43 23 (aq_23 shX11_brokenClause_0)) rfl (lvA1 hl) ?_
  refine vp_callSi (runV_r (As := []) (rest := [.int 97, .ref (g 0)]) S (q_l_acid l D cI cB cZ bo w x1 x2 x3 x4 x5 x6 x7) kV_RX11_345 hK hP _ (one_is (exr (m := 0) rfl)) _ (exr (m := 0) rfl) rfl rfl ⟨Nat.le_of_ble_eq_true rfl, Nat.le_of_ble_eq_true rfl⟩ ⟨Nat.le_of_ble_eq_true rfl, Nat.le_of_ble_eq_true rfl⟩ rfl hl.1 rfl (Nat.le_of_ble_eq_true rfl) (oc_182 24 shX11_brokenClause_24 uw_1_89)) (fun r_7 h_8 => ?_)
  subst h_8
  have hFc := free_all (exD hD) hS hA
  refine va_callv (runV_xa (As := [.int 97, .int (if x6 = 0 then 0 else x2 / x6)]) (rest := []) S (q_Xletter l D cI cB cZ zz qq vv bt g ad cn In Fn6 97 (if x6 = 0 then 0 else x2 / x6) H.size hIn6) kV_RX11_188 hK hXS hS hFc (exP hP) (exD hD) 0 xo_0 rfl rfl ⟨Nat.le_of_ble_eq_true rfl, Nat.le_of_ble_eq_true rfl⟩ ⟨Nat.le_of_ble_eq_true rfl, Nat.le_of_ble_eq_true rfl⟩ rfl hl.1 rfl (Nat.le_of_ble_eq_true rfl) (oc_182 27 (aq_3 shX11_brokenClause_24) uw_0_188)) hS (fun q _ h => hFc q h) hFc (fun u t H1 locs ht hvm wh_10 hB1 hz1 hk1 hS => ?_)
  obtain ⟨cn10, In10, Fn10⟩ := u
  obtain ⟨hP1, hD1⟩ := hB1
  rw [ht] at hP1
  obtain ⟨hP, hD⟩ := exjoinL hP hD hk1 hFc hP1 hD1
  have hP : va_P D vwCl ((wX cI (D.1 99) zz g ad cn10 In10 Fn10) ++ (([(bo, .inr (1, [.ref w, .int x1, .int x2, .int x3, .int x4, .int x5, .int x6, .int x7]))] : va_W) ++ ws)) H1 := hP
  have hD : va_D A ((wX cI (D.1 99) zz g ad cn10 In10 Fn10) ++ (([(bo, .inr (1, [.ref w, .int x1, .int x2, .int x3, .int x4, .int x5, .int x6, .int x7]))] : va_W) ++ ws)) := hD
  generalize H1 = H at hP hS ⊢
  have vh_10 : (fun c2 I2 F2 => Fr [] [] [7] cn In Fn6 c2 I2 F2 ∧ CBX c2 ∧ (True)) cn10 In10 Fn10 := wh_10
  obtain ⟨hfc10, hIn10, h_10⟩ := vh_10
  obtain rfl : cn = cn10 := (funext (fun k => hfc10.1 k List.not_mem_nil)).symm
  obtain rfl : In = In10 := (funext (fun k => hfc10.2.1 k List.not_mem_nil)).symm
  have hf10 : Fr [] [] [7, 196, 197, 305] cn In Fn cn In Fn10 := Fr.mo (Fr.tr hf6 hfc10) (sbl rfl) (sbl rfl) (sbl rfl)
  refine lv_aload_n hx hb (oc_42 30 (aq_6 shX11_brokenClause_24)) rfl (lvA0 hl) ?_
  refine lv_bipush (v := 110) hx hb (oc_16 31 (aq_7 shX11_brokenClause_24) sgb_110) kbc_110 ?_
  refine lv_aload_n hx hb (oc_43 33 (aq_9 shX11_brokenClause_24)) rfl (lvA1 hl) ?_
  refine gf_RX11_347 S hK hP _ (exr (m := 0) rfl) (v := .int x5) rfl (oc_180 34 (aq_10 shX11_brokenClause_24) uw_1_91) ?_
  have hFc := free_all (exD hD) hS hA
  refine va_callv (runV_xa (As := [.int 110, .int x5]) (rest := []) S (q_Xletter l D cI cB cZ zz qq vv bt g ad cn In Fn10 110 x5 H.size hIn10) kV_RX11_188 hK hXS hS hFc (exP hP) (exD hD) 0 xo_0 rfl rfl ⟨Nat.le_of_ble_eq_true rfl, Nat.le_of_ble_eq_true rfl⟩ ⟨Nat.le_of_ble_eq_true rfl, Nat.le_of_ble_eq_true rfl⟩ rfl hl.1 rfl (Nat.le_of_ble_eq_true rfl) (oc_182 37 (aq_13 shX11_brokenClause_24) uw_0_188)) hS (fun q _ h => hFc q h) hFc (fun u t H1 locs ht hvm wh_12 hB1 hz1 hk1 hS => ?_)
  obtain ⟨cn12, In12, Fn12⟩ := u
  obtain ⟨hP1, hD1⟩ := hB1
  rw [ht] at hP1
  obtain ⟨hP, hD⟩ := exjoinL hP hD hk1 hFc hP1 hD1
  have hP : va_P D vwCl ((wX cI (D.1 99) zz g ad cn12 In12 Fn12) ++ (([(bo, .inr (1, [.ref w, .int x1, .int x2, .int x3, .int x4, .int x5, .int x6, .int x7]))] : va_W) ++ ws)) H1 := hP
  have hD : va_D A ((wX cI (D.1 99) zz g ad cn12 In12 Fn12) ++ (([(bo, .inr (1, [.ref w, .int x1, .int x2, .int x3, .int x4, .int x5, .int x6, .int x7]))] : va_W) ++ ws)) := hD
  generalize H1 = H at hP hS ⊢
  have vh_12 : (fun c2 I2 F2 => Fr [] [] [7] cn In Fn10 c2 I2 F2 ∧ CBX c2 ∧ (True)) cn12 In12 Fn12 := wh_12
  obtain ⟨hfc12, hIn12, h_12⟩ := vh_12
  obtain rfl : cn = cn12 := (funext (fun k => hfc12.1 k List.not_mem_nil)).symm
  obtain rfl : In = In12 := (funext (fun k => hfc12.2.1 k List.not_mem_nil)).symm
  have hf12 : Fr [] [] [7, 196, 197, 305] cn In Fn cn In Fn12 := Fr.mo (Fr.tr hf10 hfc12) (sbl rfl) (sbl rfl) (sbl rfl)
  refine lv_aload_n hx hb (oc_42 40 (aq_16 shX11_brokenClause_24)) rfl (lvA0 hl) ?_
  refine gf_RX11_12 S hK hP _ (exl xo_0) (v := .ref (ad 5 (ad 4 0))) rfl (oc_180 41 (aq_17 shX11_brokenClause_24) uw_0_12) ?_
  refine lv_iconst (v := 0) hx hb (oc_3 44 (aq_20 shX11_brokenClause_24)) kic_0 ?_
  refine lv_aload_n hx hb (oc_42 45 (aq_21 shX11_brokenClause_24)) rfl (lvA0 hl) ?_
  obtain ⟨n9, hn9, en9⟩ := hC (ad 4 0) hT.2.1
  refine gf_RX11_40 S hK hP _ (exl xo_0) (v := .ref (g 7)) rfl (oc_180 46 (aq_22 shX11_brokenClause_24) uw_0_40) ?_
  have hFc := free_all (exD hD) hS hA
  refine va_calli (runV_xa (As := [.int 0, .ref (g 7)]) (rest := []) S (q_XfirstThat l D cI cB cZ zz qq vv bt g ad cn In Fn12 (ad 4 0) n9 0 H.size hIn12 hT.2.1 ((congrFun (hf12.2.2 198 (nml rfl)) (ad 4 0)).trans en9) hn9) kV_RX11_218 hK hXS hS hFc (exP hP) (exD hD) _ (xf_7 hT.2.1) rfl rfl ⟨Nat.le_of_ble_eq_true rfl, Nat.le_of_ble_eq_true rfl⟩ ⟨Nat.le_of_ble_eq_true rfl, Nat.le_of_ble_eq_true rfl⟩ rfl hl.1 rfl (Nat.le_of_ble_eq_true rfl) (oc_182 49 shX11_brokenClause_49 uw_0_218)) hS (fun q _ h => hFc q h) hFc (fun r_13 u t H1 locs ht hvm wh_14 hB1 hz1 hk1 hS => ?_)
  obtain ⟨cn14, In14, Fn14⟩ := u
  obtain ⟨hP1, hD1⟩ := hB1
  rw [ht] at hP1
  obtain ⟨hP, hD⟩ := exjoinL hP hD hk1 hFc hP1 hD1
  have hP : va_P D vwCl ((wX cI (D.1 99) zz g ad cn14 In14 Fn14) ++ (([(bo, .inr (1, [.ref w, .int x1, .int x2, .int x3, .int x4, .int x5, .int x6, .int x7]))] : va_W) ++ ws)) H1 := hP
  have hD : va_D A ((wX cI (D.1 99) zz g ad cn14 In14 Fn14) ++ (([(bo, .inr (1, [.ref w, .int x1, .int x2, .int x3, .int x4, .int x5, .int x6, .int x7]))] : va_W) ++ ws)) := hD
  generalize H1 = H at hP hS ⊢
  have vh_14 : (fun r c2 I2 F2 => Fr [] [] [196, 197, 305] cn In Fn12 c2 I2 F2 ∧ CBX c2 ∧ (True)) r_13 cn14 In14 Fn14 := wh_14
  obtain ⟨hfc14, hIn14, h_14⟩ := vh_14
  obtain rfl : cn = cn14 := (funext (fun k => hfc14.1 k List.not_mem_nil)).symm
  obtain rfl : In = In14 := (funext (fun k => hfc14.2.1 k List.not_mem_nil)).symm
  have hf14 : Fr [] [] [7, 196, 197, 305] cn In Fn cn In Fn14 := Fr.mo (Fr.tr hf12 hfc14) (sbl rfl) (sbl rfl) (sbl rfl)
  exact W.iret (v := r_13) hx hb hr (fun t ht hW => ⟨⟨r_13, (ad, cn, In, Fn14), rfl, ⟨rfl, rfl, rfl, (show Fr [] [] [7, 196, 197, 305] cn In Fn cn In Fn14 from (Fr.mo hf14 (sbl rfl) (sbl rfl) (sbl rfl))).2.2⟩, by rw [ht]; exact hP, hD⟩, hS.F ht⟩) hS.2.2 (oc_172 52 (aq_3 shX11_brokenClause_49))
set_option maxRecDepth 100000 in
set_option maxHeartbeats 4000000 in
theorem q_Ekeep (l : Launch) (D : va_G) (cI cB cZ : ClassId) (zz qq vv : Nat) (bt : Nat → Int32) (g : Nat → Nat) (ad : Nat → Nat → Nat) (cn : Nat → Nat) (In : Nat → Int32) (Fn : Nat → Nat → Int32) (bo w : Nat) (x1 x2 x3 x4 x5 x6 x7 : Int32) (f : Nat → Int32) (sz : Nat) (hB : CBX cn) (h12 : cn 12 < 10) (hf0 : ∀ i : Nat, 12 ≤ i → f i = 0) : Met l yX11_keep (CWS yX11_keep cX11_keep 4 none) (RM 8 1 100) (PBx [.ref (g 0), .ref bo] D cI cB cZ zz qq vv bt ((wX cI (D.1 99) zz g ad cn In Fn) ++ ([(bo, .inr (1, [.ref w, .int x1, .int x2, .int x3, .int x4, .int x5, .int x6, .int x7])), (w, .inl (cI, 12, .inl f))] : va_W)) sz) (va_Qv (fun (u : (Nat → Nat → Nat) × (Nat → Nat) × (Nat → Int32) × (Nat → Nat → Int32)) => (fun a2 c2 I2 F2 => ∃ (Fb : Nat → Nat → Int32), (∀ k, k ∉ [129] → Fb k = Fn k) ∧ ∃ (z c : Nat) (y : Int32), (cn 12 < c ∧ c ≤ 100) ∧ (adO (adO (adO ad 12 (cn 12) bo) 1 (cn 12) w) 2 2 z) = a2 ∧ (va_up (va_up cn 12 ((cn 12) + 1)) 22 c) = c2 ∧ (va_up In 12 y) = I2 ∧ (va_up (va_up (va_up (va_up (va_up (va_up (va_up (va_up (va_up Fb 29 (putM (Fb 29) 400 (nI (cn 0)) (atM (Fb 29) 400 (nI (cn 0)) + -x6))) 141 (upd ((va_up Fb 29 (putM (Fb 29) 400 (nI (cn 0)) (atM (Fb 29) 400 (nI (cn 0)) + -x6))) 141) (cn 12) x1)) 142 (upd ((va_up Fb 29 (putM (Fb 29) 400 (nI (cn 0)) (atM (Fb 29) 400 (nI (cn 0)) + -x6))) 142) (cn 12) x2)) 143 (upd ((va_up Fb 29 (putM (Fb 29) 400 (nI (cn 0)) (atM (Fb 29) 400 (nI (cn 0)) + -x6))) 143) (cn 12) x3)) 144 (upd ((va_up Fb 29 (putM (Fb 29) 400 (nI (cn 0)) (atM (Fb 29) 400 (nI (cn 0)) + -x6))) 144) (cn 12) x4)) 145 (upd ((va_up Fb 29 (putM (Fb 29) 400 (nI (cn 0)) (atM (Fb 29) 400 (nI (cn 0)) + -x6))) 145) (cn 12) x5)) 146 (upd ((va_up Fb 29 (putM (Fb 29) 400 (nI (cn 0)) (atM (Fb 29) 400 (nI (cn 0)) + -x6))) 146) (cn 12) x6)) 147 (upd ((va_up Fb 29 (putM (Fb 29) 400 (nI (cn 0)) (atM (Fb 29) 400 (nI (cn 0)) + -x6))) 147) (cn 12) (nI (cn 0)))) 150 (flat ((va_up Fb 29 (putM (Fb 29) 400 (nI (cn 0)) (atM (Fb 29) 400 (nI (cn 0)) + -x6))) 150) 12 (cn 12) f)) = F2) u.1 u.2.1 u.2.2.1 u.2.2.2) (fun (u : (Nat → Nat → Nat) × (Nat → Nat) × (Nat → Int32) × (Nat → Nat → Int32)) (t : State) => va_P D vwCl (wX cI (D.1 99) zz g u.1 u.2.1 u.2.2.1 u.2.2.2) t.heap ∧ va_D (va_A ((wX cI (D.1 99) zz g ad cn In Fn) ++ ([(bo, .inr (1, [.ref w, .int x1, .int x2, .int x3, .int x4, .int x5, .int x6, .int x7])), (w, .inl (cI, 12, .inl f))] : va_W)) sz) (wX cI (D.1 99) zz g u.1 u.2.1 u.2.2.1 u.2.2.2)) (va_A ((wX cI (D.1 99) zz g ad cn In Fn) ++ ([(bo, .inr (1, [.ref w, .int x1, .int x2, .int x3, .int x4, .int x5, .int x6, .int x7])), (w, .inl (cI, 12, .inl f))] : va_W)) sz)) 1 100 (va_A ((wX cI (D.1 99) zz g ad cn In Fn) ++ ([(bo, .inr (1, [.ref w, .int x1, .int x2, .int x3, .int x4, .int x5, .int x6, .int x7])), (w, .inl (cI, 12, .inl f))] : va_W)) sz) := by
  refine en_x (fun A => (va_Qv (fun (u : (Nat → Nat → Nat) × (Nat → Nat) × (Nat → Int32) × (Nat → Nat → Int32)) => (fun (a2 : Nat → Nat → Nat) (c2 : Nat → Nat) (I2 : Nat → Int32) (F2 : Nat → Nat → Int32) => ∃ (Fb : Nat → Nat → Int32), (∀ k, k ∉ [129] → Fb k = Fn k) ∧ ∃ (z c : Nat) (y : Int32), (cn 12 < c ∧ c ≤ 100) ∧ (adO (adO (adO ad 12 (cn 12) bo) 1 (cn 12) w) 2 2 z) = a2 ∧ (va_up (va_up cn 12 ((cn 12) + 1)) 22 c) = c2 ∧ (va_up In 12 y) = I2 ∧ (va_up (va_up (va_up (va_up (va_up (va_up (va_up (va_up (va_up Fb 29 (putM (Fb 29) 400 (nI (cn 0)) (atM (Fb 29) 400 (nI (cn 0)) + -x6))) 141 (upd ((va_up Fb 29 (putM (Fb 29) 400 (nI (cn 0)) (atM (Fb 29) 400 (nI (cn 0)) + -x6))) 141) (cn 12) x1)) 142 (upd ((va_up Fb 29 (putM (Fb 29) 400 (nI (cn 0)) (atM (Fb 29) 400 (nI (cn 0)) + -x6))) 142) (cn 12) x2)) 143 (upd ((va_up Fb 29 (putM (Fb 29) 400 (nI (cn 0)) (atM (Fb 29) 400 (nI (cn 0)) + -x6))) 143) (cn 12) x3)) 144 (upd ((va_up Fb 29 (putM (Fb 29) 400 (nI (cn 0)) (atM (Fb 29) 400 (nI (cn 0)) + -x6))) 144) (cn 12) x4)) 145 (upd ((va_up Fb 29 (putM (Fb 29) 400 (nI (cn 0)) (atM (Fb 29) 400 (nI (cn 0)) + -x6))) 145) (cn 12) x5)) 146 (upd ((va_up Fb 29 (putM (Fb 29) 400 (nI (cn 0)) (atM (Fb 29) 400 (nI (cn 0)) + -x6))) 146) (cn 12) x6)) 147 (upd ((va_up Fb 29 (putM (Fb 29) 400 (nI (cn 0)) (atM (Fb 29) 400 (nI (cn 0)) + -x6))) 147) (cn 12) (nI (cn 0)))) 150 (flat ((va_up Fb 29 (putM (Fb 29) 400 (nI (cn 0)) (atM (Fb 29) 400 (nI (cn 0)) + -x6))) 150) 12 (cn 12) f)) = F2) u.1 u.2.1 u.2.2.1 u.2.2.2) (fun (u : (Nat → Nat → Nat) × (Nat → Nat) × (Nat → Int32) × (Nat → Nat → Int32)) (t : State) => va_P D vwCl (wX cI (D.1 99) zz g u.1 u.2.1 u.2.2.1 u.2.2.2) t.heap ∧ va_D A (wX cI (D.1 99) zz g u.1 u.2.1 u.2.2.1 u.2.2.2)) A)) rfl rfl pn_RX11 (Nat.le_of_ble_eq_true rfl) (fun p e s m below meth c A hx hb hml hown S hr hlocks hnm hA hP hK hD hXS hS ls hl => ?_)
  have hl : lv_has ls 4 [(0, .ref (g 0)), (1, .ref bo)] := hl
  refine lv_iconst (v := 0) hx hb (oc_3 0 shX11_keep_0) kic_0 ?_
  refine lv_istore_n (lv' := [(2, .int 0), (0, .ref (g 0)), (1, .ref bo)]) hx hb (oc_61 1 (aq_1 shX11_keep_0)) rfl hl (ltb rfl) rfl (fun ls hl => ?_)
  have lp_2 : ∀ (n : Nat) (i2 : Nat) (Fw : Nat → Nat → Int32) (H : Heap) (locs : List Loc) , 20 - i2 < n → (i2 ≤ 20 ∧ Fr [] [] [129] cn In Fn cn In Fw ∧ CBX cn) → va_P D vwCl ((wX cI (D.1 99) zz g ad cn In Fw) ++ ([(bo, .inr (1, [.ref w, .int x1, .int x2, .int x3, .int x4, .int x5, .int x6, .int x7])), (w, .inl (cI, 12, .inl f))] : va_W)) H → va_D A ((wX cI (D.1 99) zz g ad cn In Fw) ++ ([(bo, .inr (1, [.ref w, .int x1, .int x2, .int x3, .int x4, .int x5, .int x6, .int x7])), (w, .inl (cI, 12, .inl f))] : va_W)) → va_S A s.heap H locs → ∀ ls : Array Slot, lv_has ls 4 [(2, .int (nI i2)), (0, .ref (g 0)), (1, .ref bo)] → W p l e (RM 8 1 100) s m ([.ref (g 0), .ref bo]).toArray below meth c H locs 0 0 (MQ below (va_Qv (fun (u : (Nat → Nat → Nat) × (Nat → Nat) × (Nat → Int32) × (Nat → Nat → Int32)) => (fun a2 c2 I2 F2 => ∃ (Fb : Nat → Nat → Int32), (∀ k, k ∉ [129] → Fb k = Fn k) ∧ ∃ (z c : Nat) (y : Int32), (cn 12 < c ∧ c ≤ 100) ∧ (adO (adO (adO ad 12 (cn 12) bo) 1 (cn 12) w) 2 2 z) = a2 ∧ (va_up (va_up cn 12 ((cn 12) + 1)) 22 c) = c2 ∧ (va_up In 12 y) = I2 ∧ (va_up (va_up (va_up (va_up (va_up (va_up (va_up (va_up (va_up Fb 29 (putM (Fb 29) 400 (nI (cn 0)) (atM (Fb 29) 400 (nI (cn 0)) + -x6))) 141 (upd ((va_up Fb 29 (putM (Fb 29) 400 (nI (cn 0)) (atM (Fb 29) 400 (nI (cn 0)) + -x6))) 141) (cn 12) x1)) 142 (upd ((va_up Fb 29 (putM (Fb 29) 400 (nI (cn 0)) (atM (Fb 29) 400 (nI (cn 0)) + -x6))) 142) (cn 12) x2)) 143 (upd ((va_up Fb 29 (putM (Fb 29) 400 (nI (cn 0)) (atM (Fb 29) 400 (nI (cn 0)) + -x6))) 143) (cn 12) x3)) 144 (upd ((va_up Fb 29 (putM (Fb 29) 400 (nI (cn 0)) (atM (Fb 29) 400 (nI (cn 0)) + -x6))) 144) (cn 12) x4)) 145 (upd ((va_up Fb 29 (putM (Fb 29) 400 (nI (cn 0)) (atM (Fb 29) 400 (nI (cn 0)) + -x6))) 145) (cn 12) x5)) 146 (upd ((va_up Fb 29 (putM (Fb 29) 400 (nI (cn 0)) (atM (Fb 29) 400 (nI (cn 0)) + -x6))) 146) (cn 12) x6)) 147 (upd ((va_up Fb 29 (putM (Fb 29) 400 (nI (cn 0)) (atM (Fb 29) 400 (nI (cn 0)) + -x6))) 147) (cn 12) (nI (cn 0)))) 150 (flat ((va_up Fb 29 (putM (Fb 29) 400 (nI (cn 0)) (atM (Fb 29) 400 (nI (cn 0)) + -x6))) 150) 12 (cn 12) f)) = F2) u.1 u.2.1 u.2.2.1 u.2.2.2) (fun (u : (Nat → Nat → Nat) × (Nat → Nat) × (Nat → Int32) × (Nat → Nat → Int32)) (t : State) => va_P D vwCl (wX cI (D.1 99) zz g u.1 u.2.1 u.2.2.1 u.2.2.2) t.heap ∧ va_D A (wX cI (D.1 99) zz g u.1 u.2.1 u.2.2.1 u.2.2.2)) A) ([.ref (g 0), .ref bo]).toArray s 1 100 A) (F0 m 2 ls []) := by
    intro n2
    induction n2 with
    | zero => intros; omega
    | succ n2 ih2 =>
      intro i2 Fw H locs hmu2 hinv2 hP hD hS ls hl
      obtain ⟨hr2, hfr2, hI2⟩ := hinv2
      have ti2 : (nI i2).toInt = (i2 : Int) := nI_toInt (by omega)
      refine lv_iload_n hx hb (oc_28 2 (aq_2 shX11_keep_0)) rfl (lvA0 hl) ?_
      refine lv_bipush (v := 20) hx hb (oc_16 3 (aq_3 shX11_keep_0) sgb_20) kbc_20 ?_
      refine lv_icmp_ge (tgt := 37) hx hb (oc_162 5 (aq_5 shX11_keep_0) sgw_0_32) rfl (fun c_1 => ?_) (fun c_1 => ?_)
      ·
        have tc_1 : (20 : Int) ≤ (nI i2).toInt := Int32.le_iff_toInt_le.mp c_1
        refine lv_aload_n hx hb (oc_43 37 (aq_11 shX11_keep_26)) rfl (lvA2 hl) ?_
        refine lv_aload_n hx hb (oc_42 38 (aq_12 shX11_keep_26)) rfl (lvA1 hl) ?_
        refine gf_RX11_103 S hK hP _ (exl xo_0) (v := .int (nI (cn 0))) rfl (oc_180 39 (aq_13 shX11_keep_26) uw_0_103) ?_
        refine pf_RX11_381 S hK hP hD hS _ (exr (m := 0) rfl) (v := .int (nI (cn 0))) (Nat.le_of_ble_eq_true rfl) rfl rfl (oc_181 42 (aq_16 shX11_keep_26) uw_1_125) (fun H locs hP hD hS => ?_)
        have hP : va_P D vwCl ((wX cI (D.1 99) zz g ad cn In Fw) ++ ([(bo, .inr (1, [.ref w, .int x1, .int x2, .int x3, .int x4, .int x5, .int x6, .int (nI (cn 0))])), (w, .inl (cI, 12, .inl f))] : va_W)) H := va_P_eq (exs_r rfl) hP
        have hD : va_D A ((wX cI (D.1 99) zz g ad cn In Fw) ++ ([(bo, .inr (1, [.ref w, .int x1, .int x2, .int x3, .int x4, .int x5, .int x6, .int (nI (cn 0))])), (w, .inl (cI, 12, .inl f))] : va_W)) := va_D_eq (exs_r rfl) hD
        refine lv_aload_n hx hb (oc_42 45 (aq_19 shX11_keep_26)) rfl (lvA1 hl) ?_
        refine gf_RX11_47 S hK hP _ (exl xo_0) (v := .ref (g 8)) rfl (oc_180 46 (aq_20 shX11_keep_26) uw_0_47) ?_
        refine lv_aload_n hx hb (oc_42 49 (aq_23 shX11_keep_26)) rfl (lvA1 hl) ?_
        refine gf_RX11_103 S hK hP _ (exl xo_0) (v := .int (nI (cn 0))) rfl (oc_180 50 shX11_keep_50 uw_0_103) ?_
        refine lv_aload_n hx hb (oc_43 53 (aq_3 shX11_keep_50)) rfl (lvA2 hl) ?_
        refine gf_RX11_342 S hK hP _ (exr (m := 0) rfl) (v := .int x6) rfl (oc_180 54 (aq_4 shX11_keep_50) uw_1_86) ?_
        refine lv_ineg hx hb (oc_116 57 (aq_7 shX11_keep_50)) ?_
        have hFc := free_all (exD hD) hS hA
        refine va_callv (runV_xa (As := [.int (nI (cn 0)), .int (-x6)]) (rest := []) S (q_Xchange l D cI cB cZ zz qq vv bt g ad cn In Fw (nI (cn 0)) (-x6) H.size hI2) kV_RX11_144 hK hXS hS hFc (exP hP) (exD hD) 6 xo_6 rfl rfl ⟨Nat.le_of_ble_eq_true rfl, Nat.le_of_ble_eq_true rfl⟩ ⟨Nat.le_of_ble_eq_true rfl, Nat.le_of_ble_eq_true rfl⟩ rfl hl.1 rfl (Nat.le_of_ble_eq_true rfl) (oc_182 58 (aq_8 shX11_keep_50) uw_0_144)) hS (fun q _ h => hFc q h) hFc (fun u t H1 locs ht hvm wh_3 hB1 hz1 hk1 hS => ?_)
        obtain ⟨cn3, In3, Fn3⟩ := u
        obtain ⟨hP1, hD1⟩ := hB1
        rw [ht] at hP1
        have vh_3 : (fun c2 I2 F2 => (∀ k : Nat, k ∉ [] → I2 k = In k) ∧ (((True) ∧ cn = c2 ∧ (va_up Fw 29 (putM ((Fw 29)) 400 (nI (cn 0)) (atM ((Fw 29)) 400 (nI (cn 0)) + (-x6)))) = F2))) cn3 In3 Fn3 := wh_3
        obtain ⟨hI3_, vh_3⟩ := vh_3
        obtain ⟨h_3, rfl, rfl⟩ := vh_3
        obtain rfl : In = In3 := (funext (fun k => hI3_ k List.not_mem_nil)).symm
        obtain ⟨hP, hD⟩ := exjoinL hP hD hk1 hFc hP1 hD1
        have hP : va_P D vwCl ((wX cI (D.1 99) zz g ad cn In (va_up Fw 29 (putM ((Fw 29)) 400 (nI (cn 0)) (atM ((Fw 29)) 400 (nI (cn 0)) + (-x6))))) ++ ([(bo, .inr (1, [.ref w, .int x1, .int x2, .int x3, .int x4, .int x5, .int x6, .int (nI (cn 0))])), (w, .inl (cI, 12, .inl f))] : va_W)) H1 := hP
        have hD : va_D A ((wX cI (D.1 99) zz g ad cn In (va_up Fw 29 (putM ((Fw 29)) 400 (nI (cn 0)) (atM ((Fw 29)) 400 (nI (cn 0)) + (-x6))))) ++ ([(bo, .inr (1, [.ref w, .int x1, .int x2, .int x3, .int x4, .int x5, .int x6, .int (nI (cn 0))])), (w, .inl (cI, 12, .inl f))] : va_W)) := hD
        generalize H1 = H at hP hS ⊢
        refine lv_aload_n hx hb (oc_42 61 (aq_11 shX11_keep_50)) rfl (lvA1 hl) ?_
        refine gf_RX11_68 S hK hP _ (exl xo_0) (v := .ref (g 12)) rfl (oc_180 62 (aq_12 shX11_keep_50) uw_0_68) ?_
        refine lv_aload_n hx hb (oc_43 65 (aq_15 shX11_keep_50)) rfl (lvA2 hl) ?_
        rcases Nat.eq_zero_or_pos (cn 12) with hz0 | hz0
        ·
          have hi9 : (wX cI (D.1 99) zz g ad cn In (va_up Fw 29 (putM ((Fw 29)) 400 (nI (cn 0)) (atM ((Fw 29)) 400 (nI (cn 0)) + (-x6)))))[26]? = _ := xlz_2 hz0
          have hp2P := pick2P hP (exl hi9) (exr (m := 0) rfl)
          have hp2D := pick2D hD (exl hi9) (exr (m := 0) rfl) (ne_ex hi9)
          have hFc := free_all hp2D hS hA
          refine va_calli (runV_xa (As := [.ref bo]) (rest := []) S (q_l_addZB l D cI cB cZ zz qq vv bt (g 12) bo (In 12) x1 x2 x3 x4 x5 x6 (nI (cn 0)) w H.size) kV_RX11_110 hK hXS hS hFc hp2P hp2D 0 rfl rfl rfl ⟨Nat.le_of_ble_eq_true rfl, Nat.le_of_ble_eq_true rfl⟩ ⟨Nat.le_of_ble_eq_true rfl, Nat.le_of_ble_eq_true rfl⟩ rfl hl.1 rfl (Nat.le_of_ble_eq_true rfl) (oc_182 66 (aq_16 shX11_keep_50) uw_0_110)) hS (fun q _ h => hFc q h) hFc (fun r3 u3 t H1 locs ht hvm h3 hB1 hz1 hk1 hS => ?_)
          obtain ⟨hP1, hD1⟩ := hB1
          rw [ht] at hP1
          obtain rfl : r3 = 1 := h3
          obtain ⟨hP, hD⟩ := add0_join hP hD hi9 rfl hk1 hFc hP1 hD1 rfl (xuB (z := u3) (c := 10) (y := (In 12) + 1) (q := bo) (qs := w) (f := f) (x1 := x1) (x2 := x2) (x3 := x3) (x4 := x4) (x5 := x5) (x6 := x6) (x7 := (nI (cn 0))) hz0 hf0)
          have hP : va_P D vwCl (wX cI (D.1 99) zz g (adO (adO (adO ad 12 (cn 12) bo) 1 (cn 12) w) 2 2 u3) (va_up (va_up cn 12 ((cn 12) + 1)) 22 10) (va_up In 12 ((In 12) + 1)) (va_up (va_up (va_up (va_up (va_up (va_up (va_up (va_up (va_up Fw 29 (putM ((Fw 29)) 400 (nI (cn 0)) (atM ((Fw 29)) 400 (nI (cn 0)) + (-x6)))) 141 (upd ((va_up Fw 29 (putM ((Fw 29)) 400 (nI (cn 0)) (atM ((Fw 29)) 400 (nI (cn 0)) + (-x6)))) 141) (cn 12) x1)) 142 (upd ((va_up Fw 29 (putM ((Fw 29)) 400 (nI (cn 0)) (atM ((Fw 29)) 400 (nI (cn 0)) + (-x6)))) 142) (cn 12) x2)) 143 (upd ((va_up Fw 29 (putM ((Fw 29)) 400 (nI (cn 0)) (atM ((Fw 29)) 400 (nI (cn 0)) + (-x6)))) 143) (cn 12) x3)) 144 (upd ((va_up Fw 29 (putM ((Fw 29)) 400 (nI (cn 0)) (atM ((Fw 29)) 400 (nI (cn 0)) + (-x6)))) 144) (cn 12) x4)) 145 (upd ((va_up Fw 29 (putM ((Fw 29)) 400 (nI (cn 0)) (atM ((Fw 29)) 400 (nI (cn 0)) + (-x6)))) 145) (cn 12) x5)) 146 (upd ((va_up Fw 29 (putM ((Fw 29)) 400 (nI (cn 0)) (atM ((Fw 29)) 400 (nI (cn 0)) + (-x6)))) 146) (cn 12) x6)) 147 (upd ((va_up Fw 29 (putM ((Fw 29)) 400 (nI (cn 0)) (atM ((Fw 29)) 400 (nI (cn 0)) + (-x6)))) 147) (cn 12) (nI (cn 0)))) 150 (flat ((va_up Fw 29 (putM ((Fw 29)) 400 (nI (cn 0)) (atM ((Fw 29)) 400 (nI (cn 0)) + (-x6)))) 150) 12 (cn 12) f))) H1 := hP
          have hD : va_D A (wX cI (D.1 99) zz g (adO (adO (adO ad 12 (cn 12) bo) 1 (cn 12) w) 2 2 u3) (va_up (va_up cn 12 ((cn 12) + 1)) 22 10) (va_up In 12 ((In 12) + 1)) (va_up (va_up (va_up (va_up (va_up (va_up (va_up (va_up (va_up Fw 29 (putM ((Fw 29)) 400 (nI (cn 0)) (atM ((Fw 29)) 400 (nI (cn 0)) + (-x6)))) 141 (upd ((va_up Fw 29 (putM ((Fw 29)) 400 (nI (cn 0)) (atM ((Fw 29)) 400 (nI (cn 0)) + (-x6)))) 141) (cn 12) x1)) 142 (upd ((va_up Fw 29 (putM ((Fw 29)) 400 (nI (cn 0)) (atM ((Fw 29)) 400 (nI (cn 0)) + (-x6)))) 142) (cn 12) x2)) 143 (upd ((va_up Fw 29 (putM ((Fw 29)) 400 (nI (cn 0)) (atM ((Fw 29)) 400 (nI (cn 0)) + (-x6)))) 143) (cn 12) x3)) 144 (upd ((va_up Fw 29 (putM ((Fw 29)) 400 (nI (cn 0)) (atM ((Fw 29)) 400 (nI (cn 0)) + (-x6)))) 144) (cn 12) x4)) 145 (upd ((va_up Fw 29 (putM ((Fw 29)) 400 (nI (cn 0)) (atM ((Fw 29)) 400 (nI (cn 0)) + (-x6)))) 145) (cn 12) x5)) 146 (upd ((va_up Fw 29 (putM ((Fw 29)) 400 (nI (cn 0)) (atM ((Fw 29)) 400 (nI (cn 0)) + (-x6)))) 146) (cn 12) x6)) 147 (upd ((va_up Fw 29 (putM ((Fw 29)) 400 (nI (cn 0)) (atM ((Fw 29)) 400 (nI (cn 0)) + (-x6)))) 147) (cn 12) (nI (cn 0)))) 150 (flat ((va_up Fw 29 (putM ((Fw 29)) 400 (nI (cn 0)) (atM ((Fw 29)) 400 (nI (cn 0)) + (-x6)))) 150) 12 (cn 12) f))) := hD
          generalize H1 = H at hP hS ⊢
          refine W.widen (k := 1) (n := 100) (Nat.le_of_ble_eq_true rfl) (Nat.le_of_ble_eq_true rfl) ?_
          refine lv_pop hx hb (oc_87 69 (aq_19 shX11_keep_50)) rfl ?_
          have hFr9 := (hfr2.2.2)
          exact W.vret hx hb hr (fun t ht hW => ⟨⟨((adO (adO (adO ad 12 (cn 12) bo) 1 (cn 12) w) 2 2 u3), (va_up (va_up cn 12 ((cn 12) + 1)) 22 10), (va_up In 12 ((In 12) + 1)), (va_up (va_up (va_up (va_up (va_up (va_up (va_up (va_up (va_up Fw 29 (putM ((Fw 29)) 400 (nI (cn 0)) (atM ((Fw 29)) 400 (nI (cn 0)) + (-x6)))) 141 (upd ((va_up Fw 29 (putM ((Fw 29)) 400 (nI (cn 0)) (atM ((Fw 29)) 400 (nI (cn 0)) + (-x6)))) 141) (cn 12) x1)) 142 (upd ((va_up Fw 29 (putM ((Fw 29)) 400 (nI (cn 0)) (atM ((Fw 29)) 400 (nI (cn 0)) + (-x6)))) 142) (cn 12) x2)) 143 (upd ((va_up Fw 29 (putM ((Fw 29)) 400 (nI (cn 0)) (atM ((Fw 29)) 400 (nI (cn 0)) + (-x6)))) 143) (cn 12) x3)) 144 (upd ((va_up Fw 29 (putM ((Fw 29)) 400 (nI (cn 0)) (atM ((Fw 29)) 400 (nI (cn 0)) + (-x6)))) 144) (cn 12) x4)) 145 (upd ((va_up Fw 29 (putM ((Fw 29)) 400 (nI (cn 0)) (atM ((Fw 29)) 400 (nI (cn 0)) + (-x6)))) 145) (cn 12) x5)) 146 (upd ((va_up Fw 29 (putM ((Fw 29)) 400 (nI (cn 0)) (atM ((Fw 29)) 400 (nI (cn 0)) + (-x6)))) 146) (cn 12) x6)) 147 (upd ((va_up Fw 29 (putM ((Fw 29)) 400 (nI (cn 0)) (atM ((Fw 29)) 400 (nI (cn 0)) + (-x6)))) 147) (cn 12) (nI (cn 0)))) 150 (flat ((va_up Fw 29 (putM ((Fw 29)) 400 (nI (cn 0)) (atM ((Fw 29)) 400 (nI (cn 0)) + (-x6)))) 150) 12 (cn 12) f))), rfl, ⟨Fw, hFr9, u3, 10, ((In 12) + 1), ⟨by omega, by omega⟩, rfl, rfl, rfl, rfl⟩, by rw [ht]; exact hP, hD⟩, hS.F ht⟩) hS.2.2 (oc_177 70 (aq_20 shX11_keep_50))
        ·
          have hi9 : (wX cI (D.1 99) zz g ad cn In (va_up Fw 29 (putM ((Fw 29)) 400 (nI (cn 0)) (atM ((Fw 29)) 400 (nI (cn 0)) + (-x6)))))[26]? = _ := xl_2 hz0
          have hj9 : (wX cI (D.1 99) zz g ad cn In (va_up Fw 29 (putM ((Fw 29)) 400 (nI (cn 0)) (atM ((Fw 29)) 400 (nI (cn 0)) + (-x6)))))[_]? = _ := xf_15 (k := 0) (show 0 < min 1 (cn 12) by omega)
          obtain ⟨ws9, hp1, hp2⟩ := pickG (W := ((wX cI (D.1 99) zz g ad cn In (va_up Fw 29 (putM ((Fw 29)) 400 (nI (cn 0)) (atM ((Fw 29)) 400 (nI (cn 0)) + (-x6))))) ++ ([(bo, .inr (1, [.ref w, .int x1, .int x2, .int x3, .int x4, .int x5, .int x6, .int (nI (cn 0))])), (w, .inl (cI, 12, .inl f))] : va_W))) (exl hi9) (exl hj9) (exr (m := 0) rfl) (xij (by decide)) (ne_ex hi9) (ne_ex hj9)
          have hP9 := va_P_perm hp1 hP
          have hD9 := va_D_perm hp1 hD
          have hFc := free_all hD9 hS hA
          refine va_calli (runV_xa (As := [.ref bo]) (rest := []) S (q_l_addGB l D cI cB cZ zz qq vv bt (cn 22) (g 12) (ad 2 2) (cn 12) bo (In 12) (ad 12) x1 x2 x3 x4 x5 x6 (nI (cn 0)) w ws9 H.size (by omega) (by omega) hz0 (by omega) (fun i hi => ⟨_, g_mem (hp1.mem_iff.mp (List.mem_of_getElem? (exl (xf_2 (k := i) hi)))) (by decide)⟩)) kV_RX11_110 hK hXS hS hFc hP9 hD9 0 rfl rfl rfl ⟨Nat.le_of_ble_eq_true rfl, Nat.le_of_ble_eq_true rfl⟩ ⟨Nat.le_of_ble_eq_true rfl, Nat.le_of_ble_eq_true rfl⟩ rfl hl.1 rfl (Nat.le_of_ble_eq_true rfl) (oc_182 66 (aq_16 shX11_keep_50) uw_0_110)) hS (fun q _ h => hFc q h) hFc (fun r3 u3 t H1 locs ht hvm h3 hB1 hz1 hk1 hS => ?_)
          obtain ⟨hP1, hD1⟩ := hB1
          rw [ht] at hP1
          obtain ⟨hr3, h3⟩ := h3
          obtain rfl : r3 = 1 := hr3
          obtain ⟨ua3, uc3⟩ := u3
          have hu3 : cn 12 < uc3 ∧ uc3 ≤ 100 := h3
          obtain ⟨hP, hD⟩ := addG_join hp2 hi9 hj9 hP1 hD1 hFc (xaddB (z := ua3) (c := uc3) (y := (In 12) + 1) (q := bo) (qs := w) (f := f) (x1 := x1) (x2 := x2) (x3 := x3) (x4 := x4) (x5 := x5) (x6 := x6) (x7 := (nI (cn 0))) hz0 hf0)
          have hP : va_P D vwCl (wX cI (D.1 99) zz g (adO (adO (adO ad 12 (cn 12) bo) 1 (cn 12) w) 2 2 ua3) (va_up (va_up cn 12 ((cn 12) + 1)) 22 uc3) (va_up In 12 ((In 12) + 1)) (va_up (va_up (va_up (va_up (va_up (va_up (va_up (va_up (va_up Fw 29 (putM ((Fw 29)) 400 (nI (cn 0)) (atM ((Fw 29)) 400 (nI (cn 0)) + (-x6)))) 141 (upd ((va_up Fw 29 (putM ((Fw 29)) 400 (nI (cn 0)) (atM ((Fw 29)) 400 (nI (cn 0)) + (-x6)))) 141) (cn 12) x1)) 142 (upd ((va_up Fw 29 (putM ((Fw 29)) 400 (nI (cn 0)) (atM ((Fw 29)) 400 (nI (cn 0)) + (-x6)))) 142) (cn 12) x2)) 143 (upd ((va_up Fw 29 (putM ((Fw 29)) 400 (nI (cn 0)) (atM ((Fw 29)) 400 (nI (cn 0)) + (-x6)))) 143) (cn 12) x3)) 144 (upd ((va_up Fw 29 (putM ((Fw 29)) 400 (nI (cn 0)) (atM ((Fw 29)) 400 (nI (cn 0)) + (-x6)))) 144) (cn 12) x4)) 145 (upd ((va_up Fw 29 (putM ((Fw 29)) 400 (nI (cn 0)) (atM ((Fw 29)) 400 (nI (cn 0)) + (-x6)))) 145) (cn 12) x5)) 146 (upd ((va_up Fw 29 (putM ((Fw 29)) 400 (nI (cn 0)) (atM ((Fw 29)) 400 (nI (cn 0)) + (-x6)))) 146) (cn 12) x6)) 147 (upd ((va_up Fw 29 (putM ((Fw 29)) 400 (nI (cn 0)) (atM ((Fw 29)) 400 (nI (cn 0)) + (-x6)))) 147) (cn 12) (nI (cn 0)))) 150 (flat ((va_up Fw 29 (putM ((Fw 29)) 400 (nI (cn 0)) (atM ((Fw 29)) 400 (nI (cn 0)) + (-x6)))) 150) 12 (cn 12) f))) H1 := hP
          have hD : va_D A (wX cI (D.1 99) zz g (adO (adO (adO ad 12 (cn 12) bo) 1 (cn 12) w) 2 2 ua3) (va_up (va_up cn 12 ((cn 12) + 1)) 22 uc3) (va_up In 12 ((In 12) + 1)) (va_up (va_up (va_up (va_up (va_up (va_up (va_up (va_up (va_up Fw 29 (putM ((Fw 29)) 400 (nI (cn 0)) (atM ((Fw 29)) 400 (nI (cn 0)) + (-x6)))) 141 (upd ((va_up Fw 29 (putM ((Fw 29)) 400 (nI (cn 0)) (atM ((Fw 29)) 400 (nI (cn 0)) + (-x6)))) 141) (cn 12) x1)) 142 (upd ((va_up Fw 29 (putM ((Fw 29)) 400 (nI (cn 0)) (atM ((Fw 29)) 400 (nI (cn 0)) + (-x6)))) 142) (cn 12) x2)) 143 (upd ((va_up Fw 29 (putM ((Fw 29)) 400 (nI (cn 0)) (atM ((Fw 29)) 400 (nI (cn 0)) + (-x6)))) 143) (cn 12) x3)) 144 (upd ((va_up Fw 29 (putM ((Fw 29)) 400 (nI (cn 0)) (atM ((Fw 29)) 400 (nI (cn 0)) + (-x6)))) 144) (cn 12) x4)) 145 (upd ((va_up Fw 29 (putM ((Fw 29)) 400 (nI (cn 0)) (atM ((Fw 29)) 400 (nI (cn 0)) + (-x6)))) 145) (cn 12) x5)) 146 (upd ((va_up Fw 29 (putM ((Fw 29)) 400 (nI (cn 0)) (atM ((Fw 29)) 400 (nI (cn 0)) + (-x6)))) 146) (cn 12) x6)) 147 (upd ((va_up Fw 29 (putM ((Fw 29)) 400 (nI (cn 0)) (atM ((Fw 29)) 400 (nI (cn 0)) + (-x6)))) 147) (cn 12) (nI (cn 0)))) 150 (flat ((va_up Fw 29 (putM ((Fw 29)) 400 (nI (cn 0)) (atM ((Fw 29)) 400 (nI (cn 0)) + (-x6)))) 150) 12 (cn 12) f))) := hD
          generalize H1 = H at hP hS ⊢
          refine lv_pop hx hb (oc_87 69 (aq_19 shX11_keep_50)) rfl ?_
          have hFr9 := (hfr2.2.2)
          exact W.vret hx hb hr (fun t ht hW => ⟨⟨((adO (adO (adO ad 12 (cn 12) bo) 1 (cn 12) w) 2 2 ua3), (va_up (va_up cn 12 ((cn 12) + 1)) 22 uc3), (va_up In 12 ((In 12) + 1)), (va_up (va_up (va_up (va_up (va_up (va_up (va_up (va_up (va_up Fw 29 (putM ((Fw 29)) 400 (nI (cn 0)) (atM ((Fw 29)) 400 (nI (cn 0)) + (-x6)))) 141 (upd ((va_up Fw 29 (putM ((Fw 29)) 400 (nI (cn 0)) (atM ((Fw 29)) 400 (nI (cn 0)) + (-x6)))) 141) (cn 12) x1)) 142 (upd ((va_up Fw 29 (putM ((Fw 29)) 400 (nI (cn 0)) (atM ((Fw 29)) 400 (nI (cn 0)) + (-x6)))) 142) (cn 12) x2)) 143 (upd ((va_up Fw 29 (putM ((Fw 29)) 400 (nI (cn 0)) (atM ((Fw 29)) 400 (nI (cn 0)) + (-x6)))) 143) (cn 12) x3)) 144 (upd ((va_up Fw 29 (putM ((Fw 29)) 400 (nI (cn 0)) (atM ((Fw 29)) 400 (nI (cn 0)) + (-x6)))) 144) (cn 12) x4)) 145 (upd ((va_up Fw 29 (putM ((Fw 29)) 400 (nI (cn 0)) (atM ((Fw 29)) 400 (nI (cn 0)) + (-x6)))) 145) (cn 12) x5)) 146 (upd ((va_up Fw 29 (putM ((Fw 29)) 400 (nI (cn 0)) (atM ((Fw 29)) 400 (nI (cn 0)) + (-x6)))) 146) (cn 12) x6)) 147 (upd ((va_up Fw 29 (putM ((Fw 29)) 400 (nI (cn 0)) (atM ((Fw 29)) 400 (nI (cn 0)) + (-x6)))) 147) (cn 12) (nI (cn 0)))) 150 (flat ((va_up Fw 29 (putM ((Fw 29)) 400 (nI (cn 0)) (atM ((Fw 29)) 400 (nI (cn 0)) + (-x6)))) 150) 12 (cn 12) f))), rfl, ⟨Fw, hFr9, ua3, uc3, ((In 12) + 1), ⟨by omega, by omega⟩, rfl, rfl, rfl, rfl⟩, by rw [ht]; exact hP, hD⟩, hS.F ht⟩) hS.2.2 (oc_177 70 (aq_20 shX11_keep_50))
      ·
        have tc_1 : ((nI i2).toInt : Int) < 20 := Int32.lt_iff_toInt_lt.mp (Int32.not_le.mp c_1)
        refine lv_aload_n hx hb (oc_42 8 (aq_8 shX11_keep_0)) rfl (lvA1 hl) ?_
        refine lv_iload_n hx hb (oc_28 9 (aq_9 shX11_keep_0)) rfl (lvA0 hl) ?_
        refine va_csq (runV_rxa (As := [.int (nI i2)]) (rest := []) S (q_XloadAt l D cI cB cZ zz qq vv bt g ad cn In Fw (nI i2) hI2) kV_RX11_148 hK hXS hS (exP hP) 0 xo_0 rfl rfl ⟨Nat.le_of_ble_eq_true rfl, Nat.le_of_ble_eq_true rfl⟩ ⟨Nat.le_of_ble_eq_true rfl, Nat.le_of_ble_eq_true rfl⟩ rfl hl.1 rfl (Nat.le_of_ble_eq_true rfl) (oc_182 10 (aq_10 shX11_keep_0) uw_0_148)) (fun r_5 h_6 => ?_)
        rcases h_6 with ⟨mr_5, er_5, hr_5, rfl⟩ | ⟨hr_5, rfl⟩
        ·
          refine lv_astore_n (lv' := [(3, .ref (ad 11 mr_5)), (2, .int (nI i2)), (0, .ref (g 0)), (1, .ref bo)]) hx hb (oc_78 13 (aq_13 shX11_keep_0)) rfl hl (ltb rfl) rfl (fun ls hl => ?_)
          refine lv_aload_n hx hb (oc_45 14 (aq_14 shX11_keep_0)) rfl (lvA0 hl) ?_
          refine lv_ifnull hx hb (oc_198 15 (aq_15 shX11_keep_0) sgw_0_16) ?_
          refine lv_aload_n hx hb (oc_43 18 (aq_18 shX11_keep_0)) rfl (lvA3 hl) ?_
          refine lv_iload_n hx hb (oc_28 19 (aq_19 shX11_keep_0)) rfl (lvA1 hl) ?_
          refine vp_callSi (runV_r (As := [.int (nI i2)]) (rest := []) S (q_l_has l D cI cB cZ bo w x1 x2 x3 x4 x5 x6 x7 (nI i2)) kV_RX11_378 hK hP _ (one_is (exr (m := 0) rfl)) _ (exr (m := 0) rfl) rfl rfl ⟨Nat.le_of_ble_eq_true rfl, Nat.le_of_ble_eq_true rfl⟩ ⟨Nat.le_of_ble_eq_true rfl, Nat.le_of_ble_eq_true rfl⟩ rfl hl.1 rfl (Nat.le_of_ble_eq_true rfl) (oc_182 20 (aq_20 shX11_keep_0) uw_1_122)) (fun r_7 h_8 => ?_)
          rcases h_8 with ⟨rfl, h_8⟩ | ⟨rfl, h_8⟩
          ·
            refine lv_if_eq (tgt := 31) hx hb (oc_153 23 (aq_23 shX11_keep_0) sgw_0_8) rfl (fun h => absurd h cq_eq_1_0) (fun _ => ?_)
            refine lv_aload_n hx hb (oc_45 26 shX11_keep_26) rfl (lvA0 hl) ?_
            refine lv_iconst (v := 1) hx hb (oc_4 27 (aq_1 shX11_keep_26)) kic_1 ?_
            refine pf_RX11_349 S hK hP hD hS _ (exl (xf_1 (by omega))) (v := .int 1) (Nat.le_of_ble_eq_true rfl) rfl rfl (oc_181 28 (aq_2 shX11_keep_26) uw_1_93) (fun H locs hP hD hS => ?_)
            have hP : va_P D vwCl ((wX cI (D.1 99) zz g ad cn In (va_up Fw 129 (upd (Fw 129) mr_5 1))) ++ ([(bo, .inr (1, [.ref w, .int x1, .int x2, .int x3, .int x4, .int x5, .int x6, .int x7])), (w, .inl (cI, 12, .inl f))] : va_W)) H := va_P_eq (exs_l (xf_1 (by omega)) (xs_129 (by omega))) hP
            have hD : va_D A ((wX cI (D.1 99) zz g ad cn In (va_up Fw 129 (upd (Fw 129) mr_5 1))) ++ ([(bo, .inr (1, [.ref w, .int x1, .int x2, .int x3, .int x4, .int x5, .int x6, .int x7])), (w, .inl (cI, 12, .inl f))] : va_W)) := va_D_eq (exs_l (xf_1 (by omega)) (xs_129 (by omega))) hD
            refine lv_iinc (v := (nI (i2 + 1))) (lv' := [(2, .int (nI (i2 + 1))), (3, .ref (ad 11 mr_5)), (0, .ref (g 0)), (1, .ref bo)]) hx hb (oc_132 31 (aq_5 shX11_keep_26) ub_2 sgb_1) hl (k := 1) rfl (nI_1 _) (ltb rfl) rfl (fun ls hl => ?_)
            refine lv_goto (tgt := 2) hx hb (oc_167 34 (aq_8 shX11_keep_26) sgw_255_224) rfl ?_
            exact ih2 (i2 + 1) (va_up Fw 129 (upd (Fw 129) mr_5 1)) _ _ (by omega) ⟨(by omega), (Fr.mo (Fr.f 129 hfr2) (sbl rfl) (sbl rfl) (sbl rfl)), hI2⟩ hP hD hS ls (lv_sub hl [0, 2, 3] rfl)
          ·
            refine lv_if_eq (tgt := 31) hx hb (oc_153 23 (aq_23 shX11_keep_0) sgw_0_8) rfl (fun _ => ?_) (fun h => absurd h cq_eq_0_0)
            refine lv_iinc (v := (nI (i2 + 1))) (lv' := [(2, .int (nI (i2 + 1))), (3, .ref (ad 11 mr_5)), (0, .ref (g 0)), (1, .ref bo)]) hx hb (oc_132 31 (aq_5 shX11_keep_26) ub_2 sgb_1) hl (k := 1) rfl (nI_1 _) (ltb rfl) rfl (fun ls hl => ?_)
            refine lv_goto (tgt := 2) hx hb (oc_167 34 (aq_8 shX11_keep_26) sgw_255_224) rfl ?_
            exact ih2 (i2 + 1) Fw _ _ (by omega) ⟨(by omega), (Fr.mo hfr2 (sbl rfl) (sbl rfl) (sbl rfl)), hI2⟩ hP hD hS ls (lv_sub hl [0, 2, 3] rfl)
        ·
          refine lv_astore_nN (lv' := [(3, .null), (2, .int (nI i2)), (0, .ref (g 0)), (1, .ref bo)]) hx hb (oc_78 13 (aq_13 shX11_keep_0)) rfl hl (ltb rfl) rfl (fun ls hl => ?_)
          refine lv_aload_nN hx hb (oc_45 14 (aq_14 shX11_keep_0)) rfl (lvA0 hl) ?_
          refine lv_ifnullN (tgt := 31) hx hb (oc_198 15 (aq_15 shX11_keep_0) sgw_0_16) rfl ?_
          refine lv_iinc (v := (nI (i2 + 1))) (lv' := [(2, .int (nI (i2 + 1))), (3, .null), (0, .ref (g 0)), (1, .ref bo)]) hx hb (oc_132 31 (aq_5 shX11_keep_26) ub_2 sgb_1) hl (k := 1) rfl (nI_1 _) (ltb rfl) rfl (fun ls hl => ?_)
          refine lv_goto (tgt := 2) hx hb (oc_167 34 (aq_8 shX11_keep_26) sgw_255_224) rfl ?_
          exact ih2 (i2 + 1) Fw _ _ (by omega) ⟨(by omega), (Fr.mo hfr2 (sbl rfl) (sbl rfl) (sbl rfl)), hI2⟩ hP hD hS ls (lv_sub hl [0, 2, 3] rfl)
  exact lp_2 _ 0 Fn _ _ (Nat.lt_succ_self _) ⟨(by omega), (Fr.mo Fr.rf (sbl rfl) (sbl rfl) (sbl rfl)), hB⟩ hP hD hS ls (lv_sub hl [0, 1, 2] rfl)
set_option maxRecDepth 100000 in
set_option maxHeartbeats 4000000 in
theorem q_Xbatch (l : Launch) (D : va_G) (cI cB cZ : ClassId) (zz qq vv : Nat) (bt : Nat → Int32) (g : Nat → Nat) (ad : Nat → Nat → Nat) (cn : Nat → Nat) (In : Nat → Int32) (Fn : Nat → Nat → Int32) (v0 : Int32) (sz : Nat) (hB : CBX cn) (hT : (∀ k : Nat, k < cn 10 → ad 3 k < cn 6) ∧ ad 4 0 < cn 6 ∧ ad 4 1 < cn 6) (hC : ∀ k : Nat, k < cn 6 → ∃ n : Nat, n ≤ 12 ∧ Fn 198 k = nI n) : Met l yX11_batch (CWS yX11_batch cX11_batch 4 (some .int)) (RM 9 3 120) (PBx [.ref (g 0), .int v0] D cI cB cZ zz qq vv bt (wX cI (D.1 99) zz g ad cn In Fn) sz) (va_Qi (fun (r : Int32) (u : (Nat → Nat → Nat) × (Nat → Nat) × (Nat → Int32) × (Nat → Nat → Int32)) => (fun r a2 c2 I2 F2 => ∃ (Fb : Nat → Nat → Int32), (∀ k, k ∉ [7, 129, 196, 197, 305] → Fb k = Fn k) ∧ ((ad = a2 ∧ cn = c2 ∧ In = I2 ∧ Fb = F2) ∨ (r = nI (cn 12) ∧ cn 12 < 10 ∧ ∃ (q qs z c : Nat) (y x1 x2 x4 x5 x6 : Int32), (cn 12 < c ∧ c ≤ 100) ∧ (adO (adO (adO ad 12 (cn 12) q) 1 (cn 12) qs) 2 2 z) = a2 ∧ (va_up (va_up cn 12 ((cn 12) + 1)) 22 c) = c2 ∧ (va_up In 12 y) = I2 ∧ (va_up (va_up (va_up (va_up (va_up (va_up (va_up (va_up (va_up Fb 29 (putM (Fb 29) 400 (nI (cn 0)) (atM (Fb 29) 400 (nI (cn 0)) + -x6))) 141 (upd ((va_up Fb 29 (putM (Fb 29) 400 (nI (cn 0)) (atM (Fb 29) 400 (nI (cn 0)) + -x6))) 141) (cn 12) x1)) 142 (upd ((va_up Fb 29 (putM (Fb 29) 400 (nI (cn 0)) (atM (Fb 29) 400 (nI (cn 0)) + -x6))) 142) (cn 12) x2)) 143 (upd ((va_up Fb 29 (putM (Fb 29) 400 (nI (cn 0)) (atM (Fb 29) 400 (nI (cn 0)) + -x6))) 143) (cn 12) 0)) 144 (upd ((va_up Fb 29 (putM (Fb 29) 400 (nI (cn 0)) (atM (Fb 29) 400 (nI (cn 0)) + -x6))) 144) (cn 12) x4)) 145 (upd ((va_up Fb 29 (putM (Fb 29) 400 (nI (cn 0)) (atM (Fb 29) 400 (nI (cn 0)) + -x6))) 145) (cn 12) x5)) 146 (upd ((va_up Fb 29 (putM (Fb 29) 400 (nI (cn 0)) (atM (Fb 29) 400 (nI (cn 0)) + -x6))) 146) (cn 12) x6)) 147 (upd ((va_up Fb 29 (putM (Fb 29) 400 (nI (cn 0)) (atM (Fb 29) 400 (nI (cn 0)) + -x6))) 147) (cn 12) (nI (cn 0)))) 150 (flat ((va_up Fb 29 (putM (Fb 29) 400 (nI (cn 0)) (atM (Fb 29) 400 (nI (cn 0)) + -x6))) 150) 12 (cn 12) (fun _ => 0))) = F2))) r u.1 u.2.1 u.2.2.1 u.2.2.2) (fun (u : (Nat → Nat → Nat) × (Nat → Nat) × (Nat → Int32) × (Nat → Nat → Int32)) (t : State) => va_P D vwCl (wX cI (D.1 99) zz g u.1 u.2.1 u.2.2.1 u.2.2.2) t.heap ∧ va_D (va_A (wX cI (D.1 99) zz g ad cn In Fn) sz) (wX cI (D.1 99) zz g u.1 u.2.1 u.2.2.1 u.2.2.2)) (va_A (wX cI (D.1 99) zz g ad cn In Fn) sz)) 3 120 (va_A (wX cI (D.1 99) zz g ad cn In Fn) sz) := by
  refine en_x (fun A => (va_Qi (fun (r : Int32) (u : (Nat → Nat → Nat) × (Nat → Nat) × (Nat → Int32) × (Nat → Nat → Int32)) => (fun (r : Int32) (a2 : Nat → Nat → Nat) (c2 : Nat → Nat) (I2 : Nat → Int32) (F2 : Nat → Nat → Int32) => ∃ (Fb : Nat → Nat → Int32), (∀ k, k ∉ [7, 129, 196, 197, 305] → Fb k = Fn k) ∧ ((ad = a2 ∧ cn = c2 ∧ In = I2 ∧ Fb = F2) ∨ (r = nI (cn 12) ∧ cn 12 < 10 ∧ ∃ (q qs z c : Nat) (y x1 x2 x4 x5 x6 : Int32), (cn 12 < c ∧ c ≤ 100) ∧ (adO (adO (adO ad 12 (cn 12) q) 1 (cn 12) qs) 2 2 z) = a2 ∧ (va_up (va_up cn 12 ((cn 12) + 1)) 22 c) = c2 ∧ (va_up In 12 y) = I2 ∧ (va_up (va_up (va_up (va_up (va_up (va_up (va_up (va_up (va_up Fb 29 (putM (Fb 29) 400 (nI (cn 0)) (atM (Fb 29) 400 (nI (cn 0)) + -x6))) 141 (upd ((va_up Fb 29 (putM (Fb 29) 400 (nI (cn 0)) (atM (Fb 29) 400 (nI (cn 0)) + -x6))) 141) (cn 12) x1)) 142 (upd ((va_up Fb 29 (putM (Fb 29) 400 (nI (cn 0)) (atM (Fb 29) 400 (nI (cn 0)) + -x6))) 142) (cn 12) x2)) 143 (upd ((va_up Fb 29 (putM (Fb 29) 400 (nI (cn 0)) (atM (Fb 29) 400 (nI (cn 0)) + -x6))) 143) (cn 12) 0)) 144 (upd ((va_up Fb 29 (putM (Fb 29) 400 (nI (cn 0)) (atM (Fb 29) 400 (nI (cn 0)) + -x6))) 144) (cn 12) x4)) 145 (upd ((va_up Fb 29 (putM (Fb 29) 400 (nI (cn 0)) (atM (Fb 29) 400 (nI (cn 0)) + -x6))) 145) (cn 12) x5)) 146 (upd ((va_up Fb 29 (putM (Fb 29) 400 (nI (cn 0)) (atM (Fb 29) 400 (nI (cn 0)) + -x6))) 146) (cn 12) x6)) 147 (upd ((va_up Fb 29 (putM (Fb 29) 400 (nI (cn 0)) (atM (Fb 29) 400 (nI (cn 0)) + -x6))) 147) (cn 12) (nI (cn 0)))) 150 (flat ((va_up Fb 29 (putM (Fb 29) 400 (nI (cn 0)) (atM (Fb 29) 400 (nI (cn 0)) + -x6))) 150) 12 (cn 12) (fun _ => 0))) = F2))) r u.1 u.2.1 u.2.2.1 u.2.2.2) (fun (u : (Nat → Nat → Nat) × (Nat → Nat) × (Nat → Int32) × (Nat → Nat → Int32)) (t : State) => va_P D vwCl (wX cI (D.1 99) zz g u.1 u.2.1 u.2.2.1 u.2.2.2) t.heap ∧ va_D A (wX cI (D.1 99) zz g u.1 u.2.1 u.2.2.1 u.2.2.2)) A)) rfl rfl pn_RX11 (Nat.le_of_ble_eq_true rfl) (fun p e s m below meth c A hx hb hml hown S hr hlocks hnm hA hP hK hD hXS hS ls hl => ?_)
  have hl : lv_has ls 4 [(0, .ref (g 0)), (1, .int v0)] := hl
  refine lv_iload_n hx hb (oc_27 0 shX11_batch_0) rfl (lvA1 hl) ?_
  refine lv_iconst (v := 1) hx hb (oc_4 1 (aq_1 shX11_batch_0)) kic_1 ?_
  refine lv_ldcw (v := 1048575) hx hb hown (S.2.2.2.2 _ (wk4_17 2 rfl rfl)) (oc_19 2 (aq_2 shX11_batch_0) uw_1_106) ?_
  refine vp_callSi (runS_r (As := [.int v0, .int 1, .int 1048575]) (rest := []) S (q_l_within l D cI cB cZ v0 1 1048575) kS_RX11_80 hK hP [] rfl ⟨Nat.le_of_ble_eq_true rfl, Nat.le_of_ble_eq_true rfl⟩ ⟨Nat.le_of_ble_eq_true rfl, Nat.le_of_ble_eq_true rfl⟩ rfl hl.1 rfl (Nat.le_of_ble_eq_true rfl) (oc_184 5 (aq_5 shX11_batch_0) uw_0_80)) (fun r_1 h_2 => ?_)
  rcases h_2 with ⟨rfl, h_2⟩ | ⟨rfl, h_2⟩
  ·
    have h_2 : 1 ≤ v0.toInt ∧ v0.toInt ≤ 1048575 := h_2
    refine lv_if_eq (tgt := 23) hx hb (oc_153 8 (aq_8 shX11_batch_0) sgw_0_15) rfl (fun h => absurd h cq_eq_1_0) (fun _ => ?_)
    refine lv_aload_n hx hb (oc_42 11 (aq_11 shX11_batch_0)) rfl (lvA0 hl) ?_
    refine gf_RX11_68 S hK hP 0 xo_0 (v := .ref (g 12)) rfl (oc_180 12 (aq_12 shX11_batch_0) uw_0_68) ?_
    refine vp_callSi (runV_r (As := []) (rest := []) S (q_l_size l D cI cB cZ (g 12) (if (cn 12) = 0 then zz else ad 2 2) (In 12) (nI (cn 12))) kV_RX11_84 hK hP [26] (one_is xo_26) 26 xo_26 rfl rfl ⟨Nat.le_of_ble_eq_true rfl, Nat.le_of_ble_eq_true rfl⟩ ⟨Nat.le_of_ble_eq_true rfl, Nat.le_of_ble_eq_true rfl⟩ rfl hl.1 rfl (Nat.le_of_ble_eq_true rfl) (oc_182 15 (aq_15 shX11_batch_0) uw_0_84)) (fun r_3 h_4 => ?_)
    subst h_4
    refine lv_bipush (v := 10) hx hb (oc_16 18 (aq_18 shX11_batch_0) sgb_10) kbc_10 ?_
    have : (nI (cn 12)).toInt = (((cn 12) : Nat) : Int) := nI_toInt (by omega)
    refine lv_icmp_lt (tgt := 25) hx hb (oc_161 20 (aq_20 shX11_batch_0) sgw_0_5) rfl (fun c_5 => ?_) (fun c_5 => ?_)
    ·
      have tc_5 : ((nI (cn 12)).toInt : Int) < 10 := Int32.lt_iff_toInt_lt.mp c_5
      refine lv_aload_n hx hb (oc_42 25 (aq_1 shX11_batch_24)) rfl (lvA0 hl) ?_
      refine lv_iload_n hx hb (oc_27 26 (aq_2 shX11_batch_24)) rfl (lvA1 hl) ?_
      have hFc := free_all hD hS hA
      refine va_callq (runV_xa (As := [.int v0]) (rest := []) S (q_Emixed l D cI cB cZ zz qq vv bt g ad cn In Fn v0 s.heap.size hB) kV_RX11_363 hK hXS hS hFc hP hD 0 xo_0 rfl rfl ⟨Nat.le_of_ble_eq_true rfl, Nat.le_of_ble_eq_true rfl⟩ ⟨Nat.le_of_ble_eq_true rfl, Nat.le_of_ble_eq_true rfl⟩ rfl hl.1 rfl (Nat.le_of_ble_eq_true rfl) (oc_182 27 (aq_3 shX11_batch_24) uw_1_107)) hS (fun q _ h => hFc q h) hFc (fun r5 u5 t H1 locs ht hvm h5 hB1 hz1 hk1 hS => ?_)
      obtain ⟨hP1, hD1⟩ := hB1
      rw [ht] at hP1
      obtain ⟨a5, c5, I5, F5, W5⟩ := u5
      obtain ⟨rfl, rfl, rfl, rfl, h5⟩ := h5
      rcases h5 with ⟨rfl, rfl⟩ | ⟨bo5, w5, xa5, xb5, xd5, xe5, xf5, rfl, rfl⟩
      ·
        rw [List.append_nil] at hP1 hD1
        have hP : va_P D vwCl (wX cI (D.1 99) zz g ad cn In Fn) H1 := hP1
        have hD : va_D A (wX cI (D.1 99) zz g ad cn In Fn) := hD1.weaken (fun _ _ _ h => hFc _ h)
        generalize H1 = H at hP hS ⊢
        refine lv_astore_nN (lv' := [(2, .null), (0, .ref (g 0)), (1, .int v0)]) hx hb (oc_77 30 (aq_6 shX11_batch_24)) rfl hl (ltb rfl) rfl (fun ls hl => ?_)
        refine lv_aload_nN hx hb (oc_44 31 (aq_7 shX11_batch_24)) rfl (lvA0 hl) ?_
        refine lv_ifnonnullN hx hb (oc_199 32 (aq_8 shX11_batch_24) sgw_0_5) ?_
        refine lv_iconst (v := (-1)) hx hb (oc_2 35 (aq_11 shX11_batch_24)) kic_m1 ?_
        refine W.widen (k := 3) (n := 120) (Nat.le_of_ble_eq_true rfl) (Nat.le_of_ble_eq_true rfl) ?_
        exact W.iret (v := (-1)) hx hb hr (fun t ht hW => ⟨⟨(-1), (ad, cn, In, Fn), rfl, ⟨Fn, (Fr.mo (show Fr [] [] [] cn In Fn cn In Fn from Fr.rf) (sbl rfl) (sbl rfl) (sbl rfl) : Fr [] [] [7, 129, 196, 197, 305] cn In Fn cn In Fn).2.2, Or.inl ⟨rfl, rfl, rfl, rfl⟩⟩, by rw [ht]; exact hP, hD⟩, hS.F ht⟩) hS.2.2 (oc_172 36 (aq_12 shX11_batch_24))
      ·
        have hP : va_P D vwCl ((wX cI (D.1 99) zz g ad cn In Fn) ++ ([(bo5, .inr (1, [.ref w5, .int xa5, .int xb5, .int 0, .int xd5, .int xe5, .int xf5, .int 0])), (w5, .inl (cI, 12, .inl (fun _ => 0)))] : va_W)) H1 := hP1
        have hD : va_D A ((wX cI (D.1 99) zz g ad cn In Fn) ++ ([(bo5, .inr (1, [.ref w5, .int xa5, .int xb5, .int 0, .int xd5, .int xe5, .int xf5, .int 0])), (w5, .inl (cI, 12, .inl (fun _ => 0)))] : va_W)) := hD1.weaken (fun _ _ _ h => hFc _ h)
        generalize H1 = H at hP hS ⊢
        refine lv_astore_n (lv' := [(2, .ref bo5), (0, .ref (g 0)), (1, .int v0)]) hx hb (oc_77 30 (aq_6 shX11_batch_24)) rfl hl (ltb rfl) rfl (fun ls hl => ?_)
        refine lv_aload_n hx hb (oc_44 31 (aq_7 shX11_batch_24)) rfl (lvA0 hl) ?_
        refine lv_ifnonnull (tgt := 37) hx hb (oc_199 32 (aq_8 shX11_batch_24) sgw_0_5) rfl ?_
        refine lv_aload_n hx hb (oc_42 37 (aq_13 shX11_batch_24)) rfl (lvA1 hl) ?_
        have hFc := free_all (exD hD) hS hA
        refine va_callv (runV_xa (As := []) (rest := []) S (q_XlettersOfLaw l D cI cB cZ zz qq vv bt g ad cn In Fn  H.size hB) kV_RX11_367 hK hXS hS hFc (exP hP) (exD hD) 0 xo_0 rfl rfl ⟨Nat.le_of_ble_eq_true rfl, Nat.le_of_ble_eq_true rfl⟩ ⟨Nat.le_of_ble_eq_true rfl, Nat.le_of_ble_eq_true rfl⟩ rfl hl.1 rfl (Nat.le_of_ble_eq_true rfl) (oc_182 38 (aq_14 shX11_batch_24) uw_1_111)) hS (fun q _ h => hFc q h) hFc (fun u t H1 locs ht hvm wh_8 hB1 hz1 hk1 hS => ?_)
        obtain ⟨cn8, In8, Fn8⟩ := u
        obtain ⟨hP1, hD1⟩ := hB1
        rw [ht] at hP1
        obtain ⟨hP, hD⟩ := exjoinL hP hD hk1 hFc hP1 hD1
        have hP : va_P D vwCl ((wX cI (D.1 99) zz g ad cn8 In8 Fn8) ++ ([(bo5, .inr (1, [.ref w5, .int xa5, .int xb5, .int 0, .int xd5, .int xe5, .int xf5, .int 0])), (w5, .inl (cI, 12, .inl (fun _ => 0)))] : va_W)) H1 := hP
        have hD : va_D A ((wX cI (D.1 99) zz g ad cn8 In8 Fn8) ++ ([(bo5, .inr (1, [.ref w5, .int xa5, .int xb5, .int 0, .int xd5, .int xe5, .int xf5, .int 0])), (w5, .inl (cI, 12, .inl (fun _ => 0)))] : va_W)) := hD
        generalize H1 = H at hP hS ⊢
        have vh_8 : (fun c2 I2 F2 => Fr [] [] [7] cn In Fn c2 I2 F2 ∧ CBX c2 ∧ (True)) cn8 In8 Fn8 := wh_8
        obtain ⟨hfc8, hIn8, h_8⟩ := vh_8
        obtain rfl : cn = cn8 := (funext (fun k => hfc8.1 k List.not_mem_nil)).symm
        obtain rfl : In = In8 := (funext (fun k => hfc8.2.1 k List.not_mem_nil)).symm
        have hf8 : Fr [] [] [7, 129, 196, 197, 305] cn In Fn cn In Fn8 := Fr.mo (Fr.tr (Fr.rf (cn := cn) (In := In) (Fn := Fn)) hfc8) (sbl rfl) (sbl rfl) (sbl rfl)
        refine lv_aload_n hx hb (oc_42 41 (aq_17 shX11_batch_24)) rfl (lvA1 hl) ?_
        refine lv_aload_n hx hb (oc_44 42 (aq_18 shX11_batch_24)) rfl (lvA0 hl) ?_
        have hFc := free_all hD hS hA
        refine va_calli (runV_xa (As := [.ref bo5]) (rest := []) S (q_EbrokenClause l D cI cB cZ zz qq vv bt g ad cn In Fn8 bo5 w5 xa5 xb5 0 xd5 xe5 xf5 0 (([(w5, .inl (cI, 12, .inl (fun _ => 0)))] : va_W)) H.size hIn8 hT (fun k hk => by rw [hf8.2.2 198 (nml rfl)]; exact hC k hk)) kV_RX11_370 hK hXS hS hFc hP hD _ (exl xo_0) rfl rfl ⟨Nat.le_of_ble_eq_true rfl, Nat.le_of_ble_eq_true rfl⟩ ⟨Nat.le_of_ble_eq_true rfl, Nat.le_of_ble_eq_true rfl⟩ rfl hl.1 rfl (Nat.le_of_ble_eq_true rfl) (oc_182 43 (aq_19 shX11_batch_24) uw_1_114)) hS (fun q _ h => hFc q h) hFc (fun r8 u8 t H1 locs ht hvm h8 hB1 hz1 hk1 hS => ?_)
        obtain ⟨hP1, hD1⟩ := hB1
        rw [ht] at hP1
        obtain ⟨a8, c8, I8, F8⟩ := u8
        obtain ⟨rfl, rfl, rfl, h8⟩ := h8
        have hf8 : Fr [] [] [7, 129, 196, 197, 305] cn In Fn cn In F8 := Fr.mo (Fr.tr hf8 (show Fr [] [] [7, 196, 197, 305] cn In Fn8 cn In F8 from ⟨fun _ _ => rfl, fun _ _ => rfl, h8⟩)) (sbl rfl) (sbl rfl) (sbl rfl)
        have hP : va_P D vwCl ((wX cI (D.1 99) zz g ad cn In F8) ++ ([(bo5, .inr (1, [.ref w5, .int xa5, .int xb5, .int 0, .int xd5, .int xe5, .int xf5, .int 0])), (w5, .inl (cI, 12, .inl (fun _ => 0)))] : va_W)) H1 := hP1
        have hD : va_D A ((wX cI (D.1 99) zz g ad cn In F8) ++ ([(bo5, .inr (1, [.ref w5, .int xa5, .int xb5, .int 0, .int xd5, .int xe5, .int xf5, .int 0])), (w5, .inl (cI, 12, .inl (fun _ => 0)))] : va_W)) := hD1.weaken (fun _ _ _ h => hFc _ h)
        generalize H1 = H at hP hS ⊢
        refine lv_istore_n (lv' := [(3, .int r8), (2, .ref bo5), (0, .ref (g 0)), (1, .int v0)]) hx hb (oc_62 46 (aq_22 shX11_batch_24)) rfl hl (ltb rfl) rfl (fun ls hl => ?_)
        refine lv_iload_n hx hb (oc_29 47 (aq_23 shX11_batch_24)) rfl (lvA0 hl) ?_
        refine lv_iconst (v := (-1)) hx hb (oc_2 48 shX11_batch_48) kic_m1 ?_
        refine lv_icmp_eq (tgt := 57) hx hb (oc_159 49 (aq_1 shX11_batch_48) sgw_0_8) rfl (fun c_10 => ?_) (fun c_10 => ?_)
        ·
          have tc_10 : (r8.toInt : Int) = (-1) := congrArg Int32.toInt c_10
          refine lv_aload_n hx hb (oc_42 57 (aq_9 shX11_batch_48)) rfl (lvA2 hl) ?_
          refine lv_aload_n hx hb (oc_44 58 (aq_10 shX11_batch_48)) rfl (lvA1 hl) ?_
          have hFc := free_all hD hS hA
          refine va_callv (runV_xa (As := [.ref bo5]) (rest := []) S (q_Ekeep l D cI cB cZ zz qq vv bt g ad cn In F8 bo5 w5 xa5 xb5 0 xd5 xe5 xf5 0 (fun _ => 0) H.size hIn8 (by omega) (fun _ _ => rfl)) kV_RX11_374 hK hXS hS hFc hP hD _ (exl xo_0) rfl rfl ⟨Nat.le_of_ble_eq_true rfl, Nat.le_of_ble_eq_true rfl⟩ ⟨Nat.le_of_ble_eq_true rfl, Nat.le_of_ble_eq_true rfl⟩ rfl hl.1 rfl (Nat.le_of_ble_eq_true rfl) (oc_182 59 (aq_11 shX11_batch_48) uw_1_118)) hS (fun q _ h => hFc q h) hFc (fun u10 t H1 locs ht hvm h10 hB1 hz1 hk1 hS => ?_)
          obtain ⟨hP1, hD1⟩ := hB1
          rw [ht] at hP1
          obtain ⟨a10, c10, I10, F10⟩ := u10
          obtain ⟨G10, hG10, z10, k10, y10, hk10, rfl, rfl, rfl, rfl⟩ := h10
          have hf10 : Fr [] [] [7, 129, 196, 197, 305] cn In Fn cn In G10 := Fr.mo (Fr.tr hf8 (show Fr [] [] [129] cn In F8 cn In G10 from ⟨fun _ _ => rfl, fun _ _ => rfl, hG10⟩)) (sbl rfl) (sbl rfl) (sbl rfl)
          have hP : va_P D vwCl (wX cI (D.1 99) zz g (adO (adO (adO ad 12 (cn 12) bo5) 1 (cn 12) w5) 2 2 z10) (va_up (va_up cn 12 ((cn 12) + 1)) 22 k10) (va_up In 12 y10) (va_up (va_up (va_up (va_up (va_up (va_up (va_up (va_up (va_up G10 29 (putM (G10 29) 400 (nI (cn 0)) (atM (G10 29) 400 (nI (cn 0)) + -xf5))) 141 (upd ((va_up G10 29 (putM (G10 29) 400 (nI (cn 0)) (atM (G10 29) 400 (nI (cn 0)) + -xf5))) 141) (cn 12) xa5)) 142 (upd ((va_up G10 29 (putM (G10 29) 400 (nI (cn 0)) (atM (G10 29) 400 (nI (cn 0)) + -xf5))) 142) (cn 12) xb5)) 143 (upd ((va_up G10 29 (putM (G10 29) 400 (nI (cn 0)) (atM (G10 29) 400 (nI (cn 0)) + -xf5))) 143) (cn 12) 0)) 144 (upd ((va_up G10 29 (putM (G10 29) 400 (nI (cn 0)) (atM (G10 29) 400 (nI (cn 0)) + -xf5))) 144) (cn 12) xd5)) 145 (upd ((va_up G10 29 (putM (G10 29) 400 (nI (cn 0)) (atM (G10 29) 400 (nI (cn 0)) + -xf5))) 145) (cn 12) xe5)) 146 (upd ((va_up G10 29 (putM (G10 29) 400 (nI (cn 0)) (atM (G10 29) 400 (nI (cn 0)) + -xf5))) 146) (cn 12) xf5)) 147 (upd ((va_up G10 29 (putM (G10 29) 400 (nI (cn 0)) (atM (G10 29) 400 (nI (cn 0)) + -xf5))) 147) (cn 12) (nI (cn 0)))) 150 (flat ((va_up G10 29 (putM (G10 29) 400 (nI (cn 0)) (atM (G10 29) 400 (nI (cn 0)) + -xf5))) 150) 12 (cn 12) (fun _ => 0)))) H1 := hP1
          have hD : va_D A (wX cI (D.1 99) zz g (adO (adO (adO ad 12 (cn 12) bo5) 1 (cn 12) w5) 2 2 z10) (va_up (va_up cn 12 ((cn 12) + 1)) 22 k10) (va_up In 12 y10) (va_up (va_up (va_up (va_up (va_up (va_up (va_up (va_up (va_up G10 29 (putM (G10 29) 400 (nI (cn 0)) (atM (G10 29) 400 (nI (cn 0)) + -xf5))) 141 (upd ((va_up G10 29 (putM (G10 29) 400 (nI (cn 0)) (atM (G10 29) 400 (nI (cn 0)) + -xf5))) 141) (cn 12) xa5)) 142 (upd ((va_up G10 29 (putM (G10 29) 400 (nI (cn 0)) (atM (G10 29) 400 (nI (cn 0)) + -xf5))) 142) (cn 12) xb5)) 143 (upd ((va_up G10 29 (putM (G10 29) 400 (nI (cn 0)) (atM (G10 29) 400 (nI (cn 0)) + -xf5))) 143) (cn 12) 0)) 144 (upd ((va_up G10 29 (putM (G10 29) 400 (nI (cn 0)) (atM (G10 29) 400 (nI (cn 0)) + -xf5))) 144) (cn 12) xd5)) 145 (upd ((va_up G10 29 (putM (G10 29) 400 (nI (cn 0)) (atM (G10 29) 400 (nI (cn 0)) + -xf5))) 145) (cn 12) xe5)) 146 (upd ((va_up G10 29 (putM (G10 29) 400 (nI (cn 0)) (atM (G10 29) 400 (nI (cn 0)) + -xf5))) 146) (cn 12) xf5)) 147 (upd ((va_up G10 29 (putM (G10 29) 400 (nI (cn 0)) (atM (G10 29) 400 (nI (cn 0)) + -xf5))) 147) (cn 12) (nI (cn 0)))) 150 (flat ((va_up G10 29 (putM (G10 29) 400 (nI (cn 0)) (atM (G10 29) 400 (nI (cn 0)) + -xf5))) 150) 12 (cn 12) (fun _ => 0)))) := hD1.weaken (fun _ _ _ h => hFc _ h)
          generalize H1 = H at hP hS ⊢
          refine lv_aload_n hx hb (oc_42 62 (aq_14 shX11_batch_48)) rfl (lvA2 hl) ?_
          refine gf_RX11_68 S hK hP 0 xo_0 (v := .ref (g 12)) rfl (oc_180 63 (aq_15 shX11_batch_48) uw_0_68) ?_
          refine vp_callSi (runV_r (As := []) (rest := []) S (q_l_size l D cI cB cZ (g 12) (if ((cn 12) + 1) = 0 then zz else (adO (adO (adO ad 12 (cn 12) bo5) 1 (cn 12) w5) 2 2 z10) 2 2) y10 (nI ((cn 12) + 1))) kV_RX11_84 hK hP [26] (one_is xo_26) 26 xo_26 rfl rfl ⟨Nat.le_of_ble_eq_true rfl, Nat.le_of_ble_eq_true rfl⟩ ⟨Nat.le_of_ble_eq_true rfl, Nat.le_of_ble_eq_true rfl⟩ rfl hl.1 rfl (Nat.le_of_ble_eq_true rfl) (oc_182 66 (aq_18 shX11_batch_48) uw_0_84)) (fun r_12 h_13 => ?_)
          subst h_13
          refine lv_iconst (v := 1) hx hb (oc_4 69 (aq_21 shX11_batch_48)) kic_1 ?_
          refine lv_isub hx hb (oc_100 70 (aq_22 shX11_batch_48)) ?_
          refine lv_topi (fun y_14 ey_14 => ?_)
          obtain rfl : y_14 = (nI (cn 12)) := ey_14.trans (nI_sub (b := 1) (by omega))
          exact W.iret (v := (nI (cn 12))) hx hb hr (fun t ht hW => ⟨⟨(nI (cn 12)), ((adO (adO (adO ad 12 (cn 12) bo5) 1 (cn 12) w5) 2 2 z10), (va_up (va_up cn 12 ((cn 12) + 1)) 22 k10), (va_up In 12 y10), (va_up (va_up (va_up (va_up (va_up (va_up (va_up (va_up (va_up G10 29 (putM (G10 29) 400 (nI (cn 0)) (atM (G10 29) 400 (nI (cn 0)) + -xf5))) 141 (upd ((va_up G10 29 (putM (G10 29) 400 (nI (cn 0)) (atM (G10 29) 400 (nI (cn 0)) + -xf5))) 141) (cn 12) xa5)) 142 (upd ((va_up G10 29 (putM (G10 29) 400 (nI (cn 0)) (atM (G10 29) 400 (nI (cn 0)) + -xf5))) 142) (cn 12) xb5)) 143 (upd ((va_up G10 29 (putM (G10 29) 400 (nI (cn 0)) (atM (G10 29) 400 (nI (cn 0)) + -xf5))) 143) (cn 12) 0)) 144 (upd ((va_up G10 29 (putM (G10 29) 400 (nI (cn 0)) (atM (G10 29) 400 (nI (cn 0)) + -xf5))) 144) (cn 12) xd5)) 145 (upd ((va_up G10 29 (putM (G10 29) 400 (nI (cn 0)) (atM (G10 29) 400 (nI (cn 0)) + -xf5))) 145) (cn 12) xe5)) 146 (upd ((va_up G10 29 (putM (G10 29) 400 (nI (cn 0)) (atM (G10 29) 400 (nI (cn 0)) + -xf5))) 146) (cn 12) xf5)) 147 (upd ((va_up G10 29 (putM (G10 29) 400 (nI (cn 0)) (atM (G10 29) 400 (nI (cn 0)) + -xf5))) 147) (cn 12) (nI (cn 0)))) 150 (flat ((va_up G10 29 (putM (G10 29) 400 (nI (cn 0)) (atM (G10 29) 400 (nI (cn 0)) + -xf5))) 150) 12 (cn 12) (fun _ => 0)))), rfl, ⟨G10, ((hf10).2.2), Or.inr ⟨rfl, by omega, bo5, w5, z10, k10, y10, xa5, xb5, xd5, xe5, xf5, hk10, rfl, rfl, rfl, rfl⟩⟩, by rw [ht]; exact hP, hD⟩, hS.F ht⟩) hS.2.2 (oc_172 71 (aq_23 shX11_batch_48))
        ·
          have tc_10 : (r8.toInt : Int) ≠ (-1) := fun q => c_10 (Int32.toInt_inj.mp q)
          refine lv_bipush (v := (-10)) hx hb (oc_16 52 (aq_4 shX11_batch_48) sgb_246) kbc_m10 ?_
          refine lv_iload_n hx hb (oc_29 54 (aq_6 shX11_batch_48)) rfl (lvA0 hl) ?_
          refine lv_isub hx hb (oc_100 55 (aq_7 shX11_batch_48)) ?_
          have hP := exP hP
          have hD := exD hD
          refine W.widen (k := 3) (n := 120) (Nat.le_of_ble_eq_true rfl) (Nat.le_of_ble_eq_true rfl) ?_
          exact W.iret (v := ((-10) - r8)) hx hb hr (fun t ht hW => ⟨⟨((-10) - r8), (ad, cn, In, F8), rfl, ⟨F8, (Fr.mo (show Fr [] [] [7, 129, 196, 197, 305] cn In Fn cn In F8 from hf8) (sbl rfl) (sbl rfl) (sbl rfl) : Fr [] [] [7, 129, 196, 197, 305] cn In Fn cn In F8).2.2, Or.inl ⟨rfl, rfl, rfl, rfl⟩⟩, by rw [ht]; exact hP, hD⟩, hS.F ht⟩) hS.2.2 (oc_172 56 (aq_8 shX11_batch_48))
    ·
      have tc_5 : (10 : Int) ≤ (nI (cn 12)).toInt := Int32.le_iff_toInt_le.mp (Int32.not_lt.mp c_5)
      refine lv_iconst (v := (-1)) hx hb (oc_2 23 (aq_23 shX11_batch_0)) kic_m1 ?_
      refine W.widen (k := 3) (n := 120) (Nat.le_of_ble_eq_true rfl) (Nat.le_of_ble_eq_true rfl) ?_
      exact W.iret (v := (-1)) hx hb hr (fun t ht hW => ⟨⟨(-1), (ad, cn, In, Fn), rfl, ⟨Fn, (Fr.mo (show Fr [] [] [] cn In Fn cn In Fn from Fr.rf) (sbl rfl) (sbl rfl) (sbl rfl) : Fr [] [] [7, 129, 196, 197, 305] cn In Fn cn In Fn).2.2, Or.inl ⟨rfl, rfl, rfl, rfl⟩⟩, by rw [ht]; exact hP, hD⟩, hS.F ht⟩) hS.2.2 (oc_172 24 shX11_batch_24)
  ·
    have h_2 : ¬ (1 ≤ v0.toInt ∧ v0.toInt ≤ 1048575) := h_2
    refine lv_if_eq (tgt := 23) hx hb (oc_153 8 (aq_8 shX11_batch_0) sgw_0_15) rfl (fun _ => ?_) (fun h => absurd h cq_eq_0_0)
    refine lv_iconst (v := (-1)) hx hb (oc_2 23 (aq_23 shX11_batch_0)) kic_m1 ?_
    refine W.widen (k := 3) (n := 120) (Nat.le_of_ble_eq_true rfl) (Nat.le_of_ble_eq_true rfl) ?_
    exact W.iret (v := (-1)) hx hb hr (fun t ht hW => ⟨⟨(-1), (ad, cn, In, Fn), rfl, ⟨Fn, (Fr.mo (show Fr [] [] [] cn In Fn cn In Fn from Fr.rf) (sbl rfl) (sbl rfl) (sbl rfl) : Fr [] [] [7, 129, 196, 197, 305] cn In Fn cn In Fn).2.2, Or.inl ⟨rfl, rfl, rfl, rfl⟩⟩, by rw [ht]; exact hP, hD⟩, hS.F ht⟩) hS.2.2 (oc_172 24 shX11_batch_24)
set_option maxRecDepth 100000 in
set_option maxHeartbeats 4000000 in
theorem q_EgatherB (l : Launch) (D : va_G) (cI cB cZ : ClassId) (zz qq vv : Nat) (bt : Nat → Int32) (g : Nat → Nat) (ad : Nat → Nat → Nat) (cn : Nat → Nat) (In : Nat → Int32) (Fn : Nat → Nat → Int32) (ro : Nat) (f : Nat → Int32) (sz : Nat) (hB : CBX cn) : Met l yX11_gatherBlendable (CWS yX11_gatherBlendable cX11_gatherBlendable 4 (some .int)) (RM 4 0 0) (PBx [.ref (g 0), .ref ro] D cI cB cZ zz qq vv bt ((wX cI (D.1 99) zz g ad cn In Fn) ++ ([(ro, .inl (cI, 12, .inl f))] : va_W)) sz) (va_Qi (fun (r : Int32) (u : (Nat → Nat → Nat) × (Nat → Nat) × (Nat → Int32) × (Nat → Nat → Int32) × va_W) => (fun r a2 c2 I2 F2 W2 => ad = a2 ∧ cn = c2 ∧ In = I2 ∧ Fn = F2 ∧ ∃ (n : Nat) (f2 : Nat → Int32), r = nI n ∧ n ≤ 12 ∧ W2 = ([(ro, .inl (cI, 12, .inl f2))] : va_W)) r u.1 u.2.1 u.2.2.1 u.2.2.2.1 u.2.2.2.2) (fun (u : (Nat → Nat → Nat) × (Nat → Nat) × (Nat → Int32) × (Nat → Nat → Int32) × va_W) (t : State) => va_P D vwCl (wX cI (D.1 99) zz g u.1 u.2.1 u.2.2.1 u.2.2.2.1 ++ u.2.2.2.2) t.heap ∧ va_D (va_A ((wX cI (D.1 99) zz g ad cn In Fn) ++ ([(ro, .inl (cI, 12, .inl f))] : va_W)) sz) (wX cI (D.1 99) zz g u.1 u.2.1 u.2.2.1 u.2.2.2.1 ++ u.2.2.2.2)) (va_A ((wX cI (D.1 99) zz g ad cn In Fn) ++ ([(ro, .inl (cI, 12, .inl f))] : va_W)) sz)) 0 0 (va_A ((wX cI (D.1 99) zz g ad cn In Fn) ++ ([(ro, .inl (cI, 12, .inl f))] : va_W)) sz) := by
  refine en_x (fun A => (va_Qi (fun (r : Int32) (u : (Nat → Nat → Nat) × (Nat → Nat) × (Nat → Int32) × (Nat → Nat → Int32) × va_W) => (fun (r : Int32) (a2 : Nat → Nat → Nat) (c2 : Nat → Nat) (I2 : Nat → Int32) (F2 : Nat → Nat → Int32) (W2 : va_W) => ad = a2 ∧ cn = c2 ∧ In = I2 ∧ Fn = F2 ∧ ∃ (n : Nat) (f2 : Nat → Int32), r = nI n ∧ n ≤ 12 ∧ W2 = ([(ro, .inl (cI, 12, .inl f2))] : va_W)) r u.1 u.2.1 u.2.2.1 u.2.2.2.1 u.2.2.2.2) (fun (u : (Nat → Nat → Nat) × (Nat → Nat) × (Nat → Int32) × (Nat → Nat → Int32) × va_W) (t : State) => va_P D vwCl (wX cI (D.1 99) zz g u.1 u.2.1 u.2.2.1 u.2.2.2.1 ++ u.2.2.2.2) t.heap ∧ va_D A (wX cI (D.1 99) zz g u.1 u.2.1 u.2.2.1 u.2.2.2.1 ++ u.2.2.2.2)) A)) rfl rfl pn_RX11 (Nat.le_of_ble_eq_true rfl) (fun p e s m below meth c A hx hb hml hown S hr hlocks hnm hA hP hK hD hXS hS ls hl => ?_)
  have hl : lv_has ls 4 [(0, .ref (g 0)), (1, .ref ro)] := hl
  refine lv_iconst (v := 0) hx hb (oc_3 0 shX11_gatherBlendable_0) kic_0 ?_
  refine lv_istore_n (lv' := [(2, .int 0), (0, .ref (g 0)), (1, .ref ro)]) hx hb (oc_61 1 (aq_1 shX11_gatherBlendable_0)) rfl hl (ltb rfl) rfl (fun ls hl => ?_)
  refine lv_iconst (v := 0) hx hb (oc_3 2 (aq_2 shX11_gatherBlendable_0)) kic_0 ?_
  refine lv_istore_n (lv' := [(3, .int 0), (2, .int 0), (0, .ref (g 0)), (1, .ref ro)]) hx hb (oc_62 3 (aq_3 shX11_gatherBlendable_0)) rfl hl (ltb rfl) rfl (fun ls hl => ?_)
  have lp_4 : ∀ (n : Nat) (i4 : Nat) (n2 : Nat) (b4_0f : Nat → Int32) (H : Heap) (locs : List Loc) , 20 - i4 < n → (i4 ≤ 20 ∧ Fr [] [] [] cn In Fn cn In Fn ∧ (n2 ≤ 12)) → va_P D vwCl ((wX cI (D.1 99) zz g ad cn In Fn) ++ ([(ro, .inl (cI, 12, .inl b4_0f))] : va_W)) H → va_D A ((wX cI (D.1 99) zz g ad cn In Fn) ++ ([(ro, .inl (cI, 12, .inl b4_0f))] : va_W)) → va_S A s.heap H locs → ∀ ls : Array Slot, lv_has ls 4 [(3, .int (nI i4)), (2, .int (nI n2)), (0, .ref (g 0)), (1, .ref ro)] → W p l e (RM 4 0 0) s m ([.ref (g 0), .ref ro]).toArray below meth c H locs 0 0 (MQ below (va_Qi (fun (r : Int32) (u : (Nat → Nat → Nat) × (Nat → Nat) × (Nat → Int32) × (Nat → Nat → Int32) × va_W) => (fun r a2 c2 I2 F2 W2 => ad = a2 ∧ cn = c2 ∧ In = I2 ∧ Fn = F2 ∧ ∃ (n : Nat) (f2 : Nat → Int32), r = nI n ∧ n ≤ 12 ∧ W2 = ([(ro, .inl (cI, 12, .inl f2))] : va_W)) r u.1 u.2.1 u.2.2.1 u.2.2.2.1 u.2.2.2.2) (fun (u : (Nat → Nat → Nat) × (Nat → Nat) × (Nat → Int32) × (Nat → Nat → Int32) × va_W) (t : State) => va_P D vwCl (wX cI (D.1 99) zz g u.1 u.2.1 u.2.2.1 u.2.2.2.1 ++ u.2.2.2.2) t.heap ∧ va_D A (wX cI (D.1 99) zz g u.1 u.2.1 u.2.2.1 u.2.2.2.1 ++ u.2.2.2.2)) A) ([.ref (g 0), .ref ro]).toArray s 0 0 A) (F0 m 4 ls []) := by
    intro n4
    induction n4 with
    | zero => intros; omega
    | succ n4 ih4 =>
      intro i4 n2 b4_0f  H locs hmu4 hinv4 hP hD hS ls hl
      obtain ⟨hr4, hfr4, hx4_0⟩ := hinv4
      have ti4 : (nI i4).toInt = (i4 : Int) := nI_toInt (by omega)
      have tn2 : (nI n2).toInt = (n2 : Int) := nI_toInt (by omega)
      refine lv_iload_n hx hb (oc_29 4 (aq_4 shX11_gatherBlendable_0)) rfl (lvA0 hl) ?_
      refine lv_bipush (v := 20) hx hb (oc_16 5 (aq_5 shX11_gatherBlendable_0) sgb_20) kbc_20 ?_
      refine lv_icmp_ge (tgt := 43) hx hb (oc_162 7 (aq_7 shX11_gatherBlendable_0) sgw_0_36) rfl (fun c_1 => ?_) (fun c_1 => ?_)
      ·
        have tc_1 : (20 : Int) ≤ (nI i4).toInt := Int32.le_iff_toInt_le.mp c_1
        refine lv_iload_n hx hb (oc_28 43 (aq_18 shX11_gatherBlendable_25)) rfl (lvA1 hl) ?_
        exact W.iret (v := (nI n2)) hx hb hr (fun t ht hW => ⟨⟨(nI n2), (ad, cn, In, Fn, ([(ro, .inl (cI, 12, .inl b4_0f))] : va_W)), rfl, ⟨rfl, rfl, rfl, rfl, n2, b4_0f, rfl, by omega, rfl⟩, by rw [ht]; exact hP, hD⟩, hS.F ht⟩) hS.2.2 (oc_172 44 (aq_19 shX11_gatherBlendable_25))
      ·
        have tc_1 : ((nI i4).toInt : Int) < 20 := Int32.lt_iff_toInt_lt.mp (Int32.not_le.mp c_1)
        refine lv_iload_n hx hb (oc_28 10 (aq_10 shX11_gatherBlendable_0)) rfl (lvA1 hl) ?_
        refine lv_aload_n hx hb (oc_43 11 (aq_11 shX11_gatherBlendable_0)) rfl (lvA3 hl) ?_
        refine va_alen hx hb hK.1 hP _ 0 (exr (m := 0) rfl) rfl (v := 12) rfl (oc_190 12 (aq_12 shX11_gatherBlendable_0)) ?_
        have : (nI n2).toInt = ((n2 : Nat) : Int) := nI_toInt (by omega)
        refine lv_icmp_ge (tgt := 43) hx hb (oc_162 13 (aq_13 shX11_gatherBlendable_0) sgw_0_30) rfl (fun c_2 => ?_) (fun c_2 => ?_)
        ·
          have tc_2 : (12 : Int) ≤ (nI n2).toInt := Int32.le_iff_toInt_le.mp c_2
          refine lv_iload_n hx hb (oc_28 43 (aq_18 shX11_gatherBlendable_25)) rfl (lvA1 hl) ?_
          exact W.iret (v := (nI n2)) hx hb hr (fun t ht hW => ⟨⟨(nI n2), (ad, cn, In, Fn, ([(ro, .inl (cI, 12, .inl b4_0f))] : va_W)), rfl, ⟨rfl, rfl, rfl, rfl, n2, b4_0f, rfl, by omega, rfl⟩, by rw [ht]; exact hP, hD⟩, hS.F ht⟩) hS.2.2 (oc_172 44 (aq_19 shX11_gatherBlendable_25))
        ·
          have tc_2 : ((nI n2).toInt : Int) < 12 := Int32.lt_iff_toInt_lt.mp (Int32.not_le.mp c_2)
          refine lv_aload_n hx hb (oc_42 16 (aq_16 shX11_gatherBlendable_0)) rfl (lvA2 hl) ?_
          refine lv_aload_n hx hb (oc_42 17 (aq_17 shX11_gatherBlendable_0)) rfl (lvA2 hl) ?_
          refine lv_iload_n hx hb (oc_29 18 (aq_18 shX11_gatherBlendable_0)) rfl (lvA0 hl) ?_
          refine va_csq (runV_rxa (As := [.int (nI i4)]) (rest := [.ref (g 0)]) S (q_XloadAt l D cI cB cZ zz qq vv bt g ad cn In Fn (nI i4) hB) kV_RX11_148 hK hXS hS (exP hP) 0 xo_0 rfl rfl ⟨Nat.le_of_ble_eq_true rfl, Nat.le_of_ble_eq_true rfl⟩ ⟨Nat.le_of_ble_eq_true rfl, Nat.le_of_ble_eq_true rfl⟩ rfl hl.1 rfl (Nat.le_of_ble_eq_true rfl) (oc_182 19 (aq_19 shX11_gatherBlendable_0) uw_0_148)) (fun r_3 h_4 => ?_)
          rcases h_4 with ⟨mr_3, er_3, hr_3, rfl⟩ | ⟨hr_3, rfl⟩
          ·
            refine vp_callSi (runV_rxa (As := [.ref (ad 11 mr_3)]) (rest := []) S (q_XcanLoad l D cI cB cZ zz qq vv bt g ad cn In Fn mr_3 hB (by omega)) kV_RX11_354 hK hXS hS (exP hP) 0 xo_0 rfl rfl ⟨Nat.le_of_ble_eq_true rfl, Nat.le_of_ble_eq_true rfl⟩ ⟨Nat.le_of_ble_eq_true rfl, Nat.le_of_ble_eq_true rfl⟩ rfl hl.1 rfl (Nat.le_of_ble_eq_true rfl) (oc_182 22 (aq_22 shX11_gatherBlendable_0) uw_1_98)) (fun r_5 h_6 => ?_)
            rcases h_6 with rfl | rfl
            ·
              refine lv_if_eq (tgt := 37) hx hb (oc_153 25 shX11_gatherBlendable_25 sgw_0_12) rfl (fun _ => ?_) (fun h => absurd h cq_eq_0_0)
              refine lv_iinc (v := (nI (i4 + 1))) (lv' := [(3, .int (nI (i4 + 1))), (2, .int (nI n2)), (0, .ref (g 0)), (1, .ref ro)]) hx hb (oc_132 37 (aq_12 shX11_gatherBlendable_25) ub_3 sgb_1) hl (k := 0) rfl (nI_1 _) (ltb rfl) rfl (fun ls hl => ?_)
              refine lv_goto (tgt := 4) hx hb (oc_167 40 (aq_15 shX11_gatherBlendable_25) sgw_255_220) rfl ?_
              exact ih4 (i4 + 1) n2 b4_0f  _ _ (by omega) ⟨(by omega), (Fr.mo hfr4 (sbl rfl) (sbl rfl) (sbl rfl)), (by omega)⟩ hP hD hS ls (lv_sub hl [0, 1, 2, 3] rfl)
            ·
              refine lv_if_eq (tgt := 37) hx hb (oc_153 25 shX11_gatherBlendable_25 sgw_0_12) rfl (fun h => absurd h cq_eq_1_0) (fun _ => ?_)
              refine lv_aload_n hx hb (oc_43 28 (aq_3 shX11_gatherBlendable_25)) rfl (lvA3 hl) ?_
              refine lv_iload_n hx hb (oc_28 29 (aq_4 shX11_gatherBlendable_25)) rfl (lvA1 hl) ?_
              refine lv_iload_n hx hb (oc_29 30 (aq_5 shX11_gatherBlendable_25)) rfl (lvA0 hl) ?_
              have hFc := va_free (wc := [(ro, .inl (cI, 12, .inl b4_0f))]) hD hS hA [_] (one_im (exr (m := 0) rfl))
              refine va_callv (runS_w (As := [.ref ro, .int (nI n2), .int (nI i4)]) (rest := []) S (q_l_put l D cI cB cZ ro 12 b4_0f (nI n2) (nI i4) H.size (by omega)) kS_RX11_184 hK hP hD [_] (one_is (exr (m := 0) rfl)) (one_im (exr (m := 0) rfl)) rfl ⟨Nat.le_of_ble_eq_true rfl, Nat.le_of_ble_eq_true rfl⟩ ⟨Nat.le_of_ble_eq_true rfl, Nat.le_of_ble_eq_true rfl⟩ rfl hl.1 rfl (Nat.le_of_ble_eq_true rfl) (oc_184 31 (aq_6 shX11_gatherBlendable_25) uw_0_184)) hS (fun q _ h => hFc q h) hFc (fun u_7 t H1 locs ht hvm h_8 hB1 hz1 hk1 hS => ?_)
              obtain ⟨hP1, hD1⟩ := hB1
              rw [ht] at hP1
              obtain ⟨hP, hD⟩ := wset1 hP hD (exr (m := 0) rfl) hk1 hP1
              generalize H1 = H at hP hS ⊢
              have hP : va_P D vwCl ((wX cI (D.1 99) zz g ad cn In Fn) ++ ([(ro, .inl (cI, 12, .inl u_7))] : va_W)) H := va_P_eq (exs_r rfl) hP
              have hD : va_D A ((wX cI (D.1 99) zz g ad cn In Fn) ++ ([(ro, .inl (cI, 12, .inl u_7))] : va_W)) := va_D_eq (exs_r rfl) hD
              refine lv_iinc (v := (nI (n2 + 1))) (lv' := [(2, .int (nI (n2 + 1))), (3, .int (nI i4)), (0, .ref (g 0)), (1, .ref ro)]) hx hb (oc_132 34 (aq_9 shX11_gatherBlendable_25) ub_2 sgb_1) hl (k := 1) rfl (nI_1 _) (ltb rfl) rfl (fun ls hl => ?_)
              refine lv_iinc (v := (nI (i4 + 1))) (lv' := [(3, .int (nI (i4 + 1))), (2, .int (nI (n2 + 1))), (0, .ref (g 0)), (1, .ref ro)]) hx hb (oc_132 37 (aq_12 shX11_gatherBlendable_25) ub_3 sgb_1) hl (k := 1) rfl (nI_1 _) (ltb rfl) rfl (fun ls hl => ?_)
              refine lv_goto (tgt := 4) hx hb (oc_167 40 (aq_15 shX11_gatherBlendable_25) sgw_255_220) rfl ?_
              exact ih4 (i4 + 1) (n2 + 1) u_7  _ _ (by omega) ⟨(by omega), (Fr.mo hfr4 (sbl rfl) (sbl rfl) (sbl rfl)), (by omega)⟩ hP hD hS ls (lv_sub hl [0, 1, 2, 3] rfl)
          ·
            refine vp_callSi (runV_rxa (As := [.null]) (rest := []) S (q_XcanNull l D cI cB cZ zz qq vv bt g ad cn In Fn  hB) kV_RX11_354 hK hXS hS (exP hP) 0 xo_0 rfl rfl ⟨Nat.le_of_ble_eq_true rfl, Nat.le_of_ble_eq_true rfl⟩ ⟨Nat.le_of_ble_eq_true rfl, Nat.le_of_ble_eq_true rfl⟩ rfl hl.1 rfl (Nat.le_of_ble_eq_true rfl) (oc_182 22 (aq_22 shX11_gatherBlendable_0) uw_1_98)) (fun r_9 h_10 => ?_)
            subst h_10
            refine lv_if_eq (tgt := 37) hx hb (oc_153 25 shX11_gatherBlendable_25 sgw_0_12) rfl (fun _ => ?_) (fun h => absurd h cq_eq_0_0)
            refine lv_iinc (v := (nI (i4 + 1))) (lv' := [(3, .int (nI (i4 + 1))), (2, .int (nI n2)), (0, .ref (g 0)), (1, .ref ro)]) hx hb (oc_132 37 (aq_12 shX11_gatherBlendable_25) ub_3 sgb_1) hl (k := 0) rfl (nI_1 _) (ltb rfl) rfl (fun ls hl => ?_)
            refine lv_goto (tgt := 4) hx hb (oc_167 40 (aq_15 shX11_gatherBlendable_25) sgw_255_220) rfl ?_
            exact ih4 (i4 + 1) n2 b4_0f  _ _ (by omega) ⟨(by omega), (Fr.mo hfr4 (sbl rfl) (sbl rfl) (sbl rfl)), (by omega)⟩ hP hD hS ls (lv_sub hl [0, 1, 2, 3] rfl)
  exact lp_4 _ 0 0 f  _ _ (Nat.lt_succ_self _) ⟨(by omega), (Fr.mo Fr.rf (sbl rfl) (sbl rfl) (sbl rfl)), (by omega)⟩ hP hD hS ls (lv_sub hl [0, 1, 2, 3] rfl)
set_option maxRecDepth 100000 in
set_option maxHeartbeats 4000000 in
theorem q_EflipTo (l : Launch) (D : va_G) (cI cB cZ : ClassId) (zz qq vv : Nat) (bt : Nat → Int32) (g : Nat → Nat) (ad : Nat → Nat → Nat) (cn : Nat → Nat) (In : Nat → Int32) (Fn : Nat → Nat → Int32) (bo w : Nat) (x1 x2 x3 x4 x5 x6 x7 : Int32) (ro : Nat) (f : Nat → Int32) (v0 : Int32) (ws : va_W) (sz : Nat) (hB : CBX cn) : Met l yX11_flipTo (CWS yX11_flipTo cX11_flipTo 7 none) (RM 5 0 0) (PBx [.ref (g 0), .ref bo, .int v0, .ref ro] D cI cB cZ zz qq vv bt ((wX cI (D.1 99) zz g ad cn In Fn) ++ (([(bo, .inr (1, [.ref w, .int x1, .int x2, .int x3, .int x4, .int x5, .int x6, .int x7])), (ro, .inl (cI, 12, .inl f))] : va_W) ++ ws)) sz) (va_Qv (fun (u : (Nat → Nat → Nat) × (Nat → Nat) × (Nat → Int32) × (Nat → Nat → Int32) × va_W) => (fun a2 c2 I2 F2 W2 => ad = a2 ∧ cn = c2 ∧ In = I2 ∧ Fn = F2 ∧ ∃ (z1 z2 z4 z5 z6 : Int32), W2 = (([(bo, .inr (1, [.ref w, .int z1, .int z2, .int x3, .int z4, .int z5, .int z6, .int x7])), (ro, .inl (cI, 12, .inl f))] : va_W) ++ ws)) u.1 u.2.1 u.2.2.1 u.2.2.2.1 u.2.2.2.2) (fun (u : (Nat → Nat → Nat) × (Nat → Nat) × (Nat → Int32) × (Nat → Nat → Int32) × va_W) (t : State) => va_P D vwCl (wX cI (D.1 99) zz g u.1 u.2.1 u.2.2.1 u.2.2.2.1 ++ u.2.2.2.2) t.heap ∧ va_D (va_A ((wX cI (D.1 99) zz g ad cn In Fn) ++ (([(bo, .inr (1, [.ref w, .int x1, .int x2, .int x3, .int x4, .int x5, .int x6, .int x7])), (ro, .inl (cI, 12, .inl f))] : va_W) ++ ws)) sz) (wX cI (D.1 99) zz g u.1 u.2.1 u.2.2.1 u.2.2.2.1 ++ u.2.2.2.2)) (va_A ((wX cI (D.1 99) zz g ad cn In Fn) ++ (([(bo, .inr (1, [.ref w, .int x1, .int x2, .int x3, .int x4, .int x5, .int x6, .int x7])), (ro, .inl (cI, 12, .inl f))] : va_W) ++ ws)) sz)) 0 0 (va_A ((wX cI (D.1 99) zz g ad cn In Fn) ++ (([(bo, .inr (1, [.ref w, .int x1, .int x2, .int x3, .int x4, .int x5, .int x6, .int x7])), (ro, .inl (cI, 12, .inl f))] : va_W) ++ ws)) sz) := by
  refine en_x (fun A => (va_Qv (fun (u : (Nat → Nat → Nat) × (Nat → Nat) × (Nat → Int32) × (Nat → Nat → Int32) × va_W) => (fun (a2 : Nat → Nat → Nat) (c2 : Nat → Nat) (I2 : Nat → Int32) (F2 : Nat → Nat → Int32) (W2 : va_W) => ad = a2 ∧ cn = c2 ∧ In = I2 ∧ Fn = F2 ∧ ∃ (z1 z2 z4 z5 z6 : Int32), W2 = (([(bo, .inr (1, [.ref w, .int z1, .int z2, .int x3, .int z4, .int z5, .int z6, .int x7])), (ro, .inl (cI, 12, .inl f))] : va_W) ++ ws)) u.1 u.2.1 u.2.2.1 u.2.2.2.1 u.2.2.2.2) (fun (u : (Nat → Nat → Nat) × (Nat → Nat) × (Nat → Int32) × (Nat → Nat → Int32) × va_W) (t : State) => va_P D vwCl (wX cI (D.1 99) zz g u.1 u.2.1 u.2.2.1 u.2.2.2.1 ++ u.2.2.2.2) t.heap ∧ va_D A (wX cI (D.1 99) zz g u.1 u.2.1 u.2.2.1 u.2.2.2.1 ++ u.2.2.2.2)) A)) rfl rfl pn_RX11 (Nat.le_of_ble_eq_true rfl) (fun p e s m below meth c A hx hb hml hown S hr hlocks hnm hA hP hK hD hXS hS ls hl => ?_)
  have hl : lv_has ls 7 [(0, .ref (g 0)), (1, .ref bo), (2, .int v0), (3, .ref ro)] := hl
  refine lv_iload_n hx hb (oc_28 0 shX11_flipTo_0) rfl (lvA2 hl) ?_
  refine lv_iload_n hx hb (oc_28 1 (aq_1 shX11_flipTo_0)) rfl (lvA2 hl) ?_
  refine lv_iconst (v := 1) hx hb (oc_4 2 (aq_2 shX11_flipTo_0)) kic_1 ?_
  refine lv_isub hx hb (oc_100 3 (aq_3 shX11_flipTo_0)) ?_
  refine lv_ixor hx hb (oc_130 4 (aq_4 shX11_flipTo_0)) ?_
  refine lv_istore (lv' := [(4, .int (v0 ^^^ (v0 - 1))), (0, .ref (g 0)), (1, .ref bo), (2, .int v0), (3, .ref ro)]) hx hb (oc_54 5 (aq_5 shX11_flipTo_0) ub_4) hl (ltb rfl) rfl (fun ls hl => ?_)
  refine lv_iconst (v := 0) hx hb (oc_3 7 (aq_7 shX11_flipTo_0)) kic_0 ?_
  refine lv_istore (lv' := [(5, .int 0), (4, .int (v0 ^^^ (v0 - 1))), (0, .ref (g 0)), (1, .ref bo), (2, .int v0), (3, .ref ro)]) hx hb (oc_54 8 (aq_8 shX11_flipTo_0) ub_5) hl (ltb rfl) rfl (fun ls hl => ?_)
  have lp_10 : ∀ (n : Nat) (i10 : Nat) (b10_01 : Int32) (b10_02 : Int32) (b10_04 : Int32) (b10_05 : Int32) (b10_06 : Int32) (H : Heap) (locs : List Loc) , 12 - i10 < n → (i10 ≤ 12 ∧ Fr [] [] [] cn In Fn cn In Fn) → va_P D vwCl ((wX cI (D.1 99) zz g ad cn In Fn) ++ (([(bo, .inr (1, [.ref w, .int b10_01, .int b10_02, .int x3, .int b10_04, .int b10_05, .int b10_06, .int x7])), (ro, .inl (cI, 12, .inl f))] : va_W) ++ ws)) H → va_D A ((wX cI (D.1 99) zz g ad cn In Fn) ++ (([(bo, .inr (1, [.ref w, .int b10_01, .int b10_02, .int x3, .int b10_04, .int b10_05, .int b10_06, .int x7])), (ro, .inl (cI, 12, .inl f))] : va_W) ++ ws)) → va_S A s.heap H locs → ∀ ls : Array Slot, lv_has ls 7 [(5, .int (nI i10)), (4, .int (v0 ^^^ (v0 - 1))), (0, .ref (g 0)), (1, .ref bo), (2, .int v0), (3, .ref ro)] → W p l e (RM 5 0 0) s m ([.ref (g 0), .ref bo, .int v0, .ref ro]).toArray below meth c H locs 0 0 (MQ below (va_Qv (fun (u : (Nat → Nat → Nat) × (Nat → Nat) × (Nat → Int32) × (Nat → Nat → Int32) × va_W) => (fun a2 c2 I2 F2 W2 => ad = a2 ∧ cn = c2 ∧ In = I2 ∧ Fn = F2 ∧ ∃ (z1 z2 z4 z5 z6 : Int32), W2 = (([(bo, .inr (1, [.ref w, .int z1, .int z2, .int x3, .int z4, .int z5, .int z6, .int x7])), (ro, .inl (cI, 12, .inl f))] : va_W) ++ ws)) u.1 u.2.1 u.2.2.1 u.2.2.2.1 u.2.2.2.2) (fun (u : (Nat → Nat → Nat) × (Nat → Nat) × (Nat → Int32) × (Nat → Nat → Int32) × va_W) (t : State) => va_P D vwCl (wX cI (D.1 99) zz g u.1 u.2.1 u.2.2.1 u.2.2.2.1 ++ u.2.2.2.2) t.heap ∧ va_D A (wX cI (D.1 99) zz g u.1 u.2.1 u.2.2.1 u.2.2.2.1 ++ u.2.2.2.2)) A) ([.ref (g 0), .ref bo, .int v0, .ref ro]).toArray s 0 0 A) (F0 m 10 ls []) := by
    intro n10
    induction n10 with
    | zero => intros; omega
    | succ n10 ih10 =>
      intro i10 b10_01 b10_02 b10_04 b10_05 b10_06  H locs hmu10 hinv10 hP hD hS ls hl
      obtain ⟨hr10, hfr10⟩ := hinv10
      have ti10 : (nI i10).toInt = (i10 : Int) := nI_toInt (by omega)
      refine lv_iload hx hb (oc_21 10 (aq_10 shX11_flipTo_0) ub_5) (lvA0 hl) ?_
      refine lv_aload_n hx hb (oc_45 12 (aq_12 shX11_flipTo_0)) rfl (lvA5 hl) ?_
      refine va_alen hx hb hK.1 hP _ 0 (exr (m := 1) rfl) rfl (v := 12) rfl (oc_190 13 (aq_13 shX11_flipTo_0)) ?_
      refine lv_icmp_ge (tgt := 58) hx hb (oc_162 14 (aq_14 shX11_flipTo_0) sgw_0_44) rfl (fun c_1 => ?_) (fun c_1 => ?_)
      ·
        have tc_1 : (12 : Int) ≤ (nI i10).toInt := Int32.le_iff_toInt_le.mp c_1
        exact W.vret hx hb hr (fun t ht hW => ⟨⟨(ad, cn, In, Fn, (([(bo, .inr (1, [.ref w, .int b10_01, .int b10_02, .int x3, .int b10_04, .int b10_05, .int b10_06, .int x7])), (ro, .inl (cI, 12, .inl f))] : va_W) ++ ws)), rfl, ⟨rfl, rfl, rfl, rfl, b10_01, b10_02, b10_04, b10_05, b10_06, rfl⟩, by rw [ht]; exact hP, hD⟩, hS.F ht⟩) hS.2.2 (oc_177 58 (aq_9 shX11_flipTo_49))
      ·
        have tc_1 : ((nI i10).toInt : Int) < 12 := Int32.lt_iff_toInt_lt.mp (Int32.not_le.mp c_1)
        refine lv_iload hx hb (oc_21 17 (aq_17 shX11_flipTo_0) ub_4) (lvA1 hl) ?_
        refine lv_iload hx hb (oc_21 19 (aq_19 shX11_flipTo_0) ub_5) (lvA0 hl) ?_
        refine lv_ishr hx hb (oc_122 21 (aq_21 shX11_flipTo_0)) ?_
        refine lv_iconst (v := 1) hx hb (oc_4 22 (aq_22 shX11_flipTo_0)) kic_1 ?_
        refine lv_iand hx hb (oc_126 23 (aq_23 shX11_flipTo_0)) ?_
        refine lv_if_eq (tgt := 58) hx hb (oc_153 24 shX11_flipTo_24 sgw_0_34) rfl (fun c_2 => ?_) (fun c_2 => ?_)
        ·
          have tc_2 : ((((v0 ^^^ (v0 - 1)) >>> ((nI i10) &&& 31)) &&& 1).toInt : Int) = 0 := congrArg Int32.toInt c_2
          exact W.vret hx hb hr (fun t ht hW => ⟨⟨(ad, cn, In, Fn, (([(bo, .inr (1, [.ref w, .int b10_01, .int b10_02, .int x3, .int b10_04, .int b10_05, .int b10_06, .int x7])), (ro, .inl (cI, 12, .inl f))] : va_W) ++ ws)), rfl, ⟨rfl, rfl, rfl, rfl, b10_01, b10_02, b10_04, b10_05, b10_06, rfl⟩, by rw [ht]; exact hP, hD⟩, hS.F ht⟩) hS.2.2 (oc_177 58 (aq_9 shX11_flipTo_49))
        ·
          have tc_2 : ((((v0 ^^^ (v0 - 1)) >>> ((nI i10) &&& 31)) &&& 1).toInt : Int) ≠ 0 := fun q => c_2 (Int32.toInt_inj.mp q)
          refine lv_aload_n hx hb (oc_42 27 (aq_3 shX11_flipTo_24)) rfl (lvA2 hl) ?_
          refine lv_aload_n hx hb (oc_45 28 (aq_4 shX11_flipTo_24)) rfl (lvA5 hl) ?_
          refine lv_iload hx hb (oc_21 29 (aq_5 shX11_flipTo_24) ub_5) (lvA0 hl) ?_
          refine va_iald hx hb hK.1 hP _ 0 (exr (m := 1) rfl) rfl (vp_in_nI (by omega) (ltb rfl)) (oc_46 31 (aq_7 shX11_flipTo_24)) ?_
          refine lv_topi (fun y_3 ey_3 => ?_)
          obtain rfl : y_3 = (f i10) := ey_3.trans (congrArg f (nI_clamp (by omega)))
          refine va_csq (runV_rxa (As := [.int (f i10)]) (rest := []) S (q_XloadAt l D cI cB cZ zz qq vv bt g ad cn In Fn (f i10) hB) kV_RX11_148 hK hXS hS (exP hP) 0 xo_0 rfl rfl ⟨Nat.le_of_ble_eq_true rfl, Nat.le_of_ble_eq_true rfl⟩ ⟨Nat.le_of_ble_eq_true rfl, Nat.le_of_ble_eq_true rfl⟩ rfl hl.1 rfl (Nat.le_of_ble_eq_true rfl) (oc_182 32 (aq_8 shX11_flipTo_24) uw_0_148)) (fun r_4 h_5 => ?_)
          rcases h_5 with ⟨mr_4, er_4, hr_4, rfl⟩ | ⟨hr_4, rfl⟩
          ·
            refine lv_astore (lv' := [(6, .ref (ad 11 mr_4)), (5, .int (nI i10)), (4, .int (v0 ^^^ (v0 - 1))), (0, .ref (g 0)), (1, .ref bo), (2, .int v0), (3, .ref ro)]) hx hb (oc_58 35 (aq_11 shX11_flipTo_24) ub_6) hl (ltb rfl) rfl (fun ls hl => ?_)
            refine lv_aload hx hb (oc_25 37 (aq_13 shX11_flipTo_24) ub_6) (lvA0 hl) ?_
            refine lv_ifnull hx hb (oc_198 39 (aq_15 shX11_flipTo_24) sgw_0_13) ?_
            refine lv_aload_n hx hb (oc_43 42 (aq_18 shX11_flipTo_24)) rfl (lvA4 hl) ?_
            refine lv_aload_n hx hb (oc_45 43 (aq_19 shX11_flipTo_24)) rfl (lvA6 hl) ?_
            refine lv_iload hx hb (oc_21 44 (aq_20 shX11_flipTo_24) ub_5) (lvA1 hl) ?_
            refine va_iald hx hb hK.1 hP _ 0 (exr (m := 1) rfl) rfl (vp_in_nI (by omega) (ltb rfl)) (oc_46 46 (aq_22 shX11_flipTo_24)) ?_
            refine lv_topi (fun y_6 ey_6 => ?_)
            obtain rfl : y_6 = (f i10) := ey_6.trans (congrArg f (nI_clamp (by omega)))
            refine lv_aload hx hb (oc_25 47 (aq_23 shX11_flipTo_24) ub_6) (lvA0 hl) ?_
            have hFc := free_all hD hS hA
            refine va_callv (runV_xa (As := [.int (f i10), .ref (ad 11 mr_4)]) (rest := []) S (q_Eflip l D cI cB cZ zz qq vv bt g ad cn In Fn bo w b10_01 b10_02 x3 b10_04 b10_05 b10_06 x7 (f i10) mr_4 (([(ro, .inl (cI, 12, .inl f))] : va_W) ++ ws) H.size hB (by omega)) kV_RX11_358 hK hXS hS hFc hP hD _ (exr (m := 0) rfl) rfl rfl ⟨Nat.le_of_ble_eq_true rfl, Nat.le_of_ble_eq_true rfl⟩ ⟨Nat.le_of_ble_eq_true rfl, Nat.le_of_ble_eq_true rfl⟩ rfl hl.1 rfl (Nat.le_of_ble_eq_true rfl) (oc_182 49 shX11_flipTo_49 uw_1_102)) hS (fun q _ h => hFc q h) hFc (fun u6 t H1 locs ht hvm h6 hB1 hz1 hk1 hS => ?_)
            obtain ⟨hP1, hD1⟩ := hB1
            rw [ht] at hP1
            obtain ⟨a6, c6, I6, F6, W6⟩ := u6
            obtain ⟨rfl, rfl, rfl, rfl, sg6, hsg6, rfl⟩ := h6
            have hP : va_P D vwCl ((wX cI (D.1 99) zz g ad cn In Fn) ++ (([(bo, .inr (1, [.ref w, .int (b10_01 + sg6 * ((Fn 122) mr_4) * ((Fn 123) mr_4)), .int (b10_02 + sg6 * ((Fn 122) mr_4) * ((Fn 124) mr_4)), .int x3, .int (b10_04 ^^^ 1 <<< ((f i10) &&& 31)), .int (b10_05 + sg6), .int (b10_06 + sg6 * ((Fn 122) mr_4)), .int x7])), (ro, .inl (cI, 12, .inl f))] : va_W) ++ ws)) H1 := hP1
            have hD : va_D A ((wX cI (D.1 99) zz g ad cn In Fn) ++ (([(bo, .inr (1, [.ref w, .int (b10_01 + sg6 * ((Fn 122) mr_4) * ((Fn 123) mr_4)), .int (b10_02 + sg6 * ((Fn 122) mr_4) * ((Fn 124) mr_4)), .int x3, .int (b10_04 ^^^ 1 <<< ((f i10) &&& 31)), .int (b10_05 + sg6), .int (b10_06 + sg6 * ((Fn 122) mr_4)), .int x7])), (ro, .inl (cI, 12, .inl f))] : va_W) ++ ws)) := hD1.weaken (fun _ _ _ h => hFc _ h)
            generalize H1 = H at hP hS ⊢
            refine lv_iinc (v := (nI (i10 + 1))) (lv' := [(5, .int (nI (i10 + 1))), (6, .ref (ad 11 mr_4)), (4, .int (v0 ^^^ (v0 - 1))), (0, .ref (g 0)), (1, .ref bo), (2, .int v0), (3, .ref ro)]) hx hb (oc_132 52 (aq_3 shX11_flipTo_49) ub_5 sgb_1) hl (k := 1) rfl (nI_1 _) (ltb rfl) rfl (fun ls hl => ?_)
            refine lv_goto (tgt := 10) hx hb (oc_167 55 (aq_6 shX11_flipTo_49) sgw_255_211) rfl ?_
            exact ih10 (i10 + 1) (b10_01 + sg6 * ((Fn 122) mr_4) * ((Fn 123) mr_4)) (b10_02 + sg6 * ((Fn 122) mr_4) * ((Fn 124) mr_4)) (b10_04 ^^^ 1 <<< ((f i10) &&& 31)) (b10_05 + sg6) (b10_06 + sg6 * ((Fn 122) mr_4))  _ _ (by omega) ⟨(by omega), (Fr.mo hfr10 (sbl rfl) (sbl rfl) (sbl rfl))⟩ hP hD hS ls (lv_sub hl [0, 2, 3, 4, 5, 6] rfl)
          ·
            refine lv_astoreN (lv' := [(6, .null), (5, .int (nI i10)), (4, .int (v0 ^^^ (v0 - 1))), (0, .ref (g 0)), (1, .ref bo), (2, .int v0), (3, .ref ro)]) hx hb (oc_58 35 (aq_11 shX11_flipTo_24) ub_6) hl (ltb rfl) rfl (fun ls hl => ?_)
            refine lv_aloadN hx hb (oc_25 37 (aq_13 shX11_flipTo_24) ub_6) (lvA0 hl) ?_
            refine lv_ifnullN (tgt := 52) hx hb (oc_198 39 (aq_15 shX11_flipTo_24) sgw_0_13) rfl ?_
            refine lv_iinc (v := (nI (i10 + 1))) (lv' := [(5, .int (nI (i10 + 1))), (6, .null), (4, .int (v0 ^^^ (v0 - 1))), (0, .ref (g 0)), (1, .ref bo), (2, .int v0), (3, .ref ro)]) hx hb (oc_132 52 (aq_3 shX11_flipTo_49) ub_5 sgb_1) hl (k := 1) rfl (nI_1 _) (ltb rfl) rfl (fun ls hl => ?_)
            refine lv_goto (tgt := 10) hx hb (oc_167 55 (aq_6 shX11_flipTo_49) sgw_255_211) rfl ?_
            exact ih10 (i10 + 1) b10_01 b10_02 b10_04 b10_05 b10_06  _ _ (by omega) ⟨(by omega), (Fr.mo hfr10 (sbl rfl) (sbl rfl) (sbl rfl))⟩ hP hD hS ls (lv_sub hl [0, 2, 3, 4, 5, 6] rfl)
  exact lp_10 _ 0 x1 x2 x4 x5 x6  _ _ (Nat.lt_succ_self _) ⟨(by omega), (Fr.mo Fr.rf (sbl rfl) (sbl rfl) (sbl rfl))⟩ hP hD hS ls (lv_sub hl [0, 1, 2, 3, 4, 5] rfl)
set_option maxRecDepth 100000 in
set_option maxHeartbeats 4000000 in
theorem q_Xblend (l : Launch) (D : va_G) (cI cB cZ : ClassId) (zz qq vv : Nat) (bt : Nat → Int32) (g : Nat → Nat) (ad : Nat → Nat → Nat) (cn : Nat → Nat) (In : Nat → Int32) (Fn : Nat → Nat → Int32)  (sz : Nat) (hB : CBX cn) (hT : (∀ k : Nat, k < cn 10 → ad 3 k < cn 6) ∧ ad 4 0 < cn 6 ∧ ad 4 1 < cn 6) (hC : ∀ k : Nat, k < cn 6 → ∃ n : Nat, n ≤ 12 ∧ Fn 198 k = nI n) : Met l yX11_blend (CWS yX11_blend cX11_blend 9 (some .int)) (RM 7 3 32) (PBx [.ref (g 0)] D cI cB cZ zz qq vv bt (wX cI (D.1 99) zz g ad cn In Fn) sz) (va_Qi (fun (r : Int32) (u : (Nat → Nat → Nat) × (Nat → Nat) × (Nat → Int32) × (Nat → Nat → Int32)) => (fun r a2 c2 I2 F2 => ad = a2 ∧ cn = c2 ∧ In = I2 ∧ ∀ k, k ∉ [7, 196, 197, 305] → F2 k = Fn k) r u.1 u.2.1 u.2.2.1 u.2.2.2) (fun (u : (Nat → Nat → Nat) × (Nat → Nat) × (Nat → Int32) × (Nat → Nat → Int32)) (t : State) => va_P D vwCl (wX cI (D.1 99) zz g u.1 u.2.1 u.2.2.1 u.2.2.2) t.heap ∧ va_D (va_A (wX cI (D.1 99) zz g ad cn In Fn) sz) (wX cI (D.1 99) zz g u.1 u.2.1 u.2.2.1 u.2.2.2)) (va_A (wX cI (D.1 99) zz g ad cn In Fn) sz)) 3 32 (va_A (wX cI (D.1 99) zz g ad cn In Fn) sz) := by
  refine en_x (fun A => (va_Qi (fun (r : Int32) (u : (Nat → Nat → Nat) × (Nat → Nat) × (Nat → Int32) × (Nat → Nat → Int32)) => (fun (r : Int32) (a2 : Nat → Nat → Nat) (c2 : Nat → Nat) (I2 : Nat → Int32) (F2 : Nat → Nat → Int32) => ad = a2 ∧ cn = c2 ∧ In = I2 ∧ ∀ k, k ∉ [7, 196, 197, 305] → F2 k = Fn k) r u.1 u.2.1 u.2.2.1 u.2.2.2) (fun (u : (Nat → Nat → Nat) × (Nat → Nat) × (Nat → Int32) × (Nat → Nat → Int32)) (t : State) => va_P D vwCl (wX cI (D.1 99) zz g u.1 u.2.1 u.2.2.1 u.2.2.2) t.heap ∧ va_D A (wX cI (D.1 99) zz g u.1 u.2.1 u.2.2.1 u.2.2.2)) A)) rfl rfl pn_RX11 (Nat.le_of_ble_eq_true rfl) (fun p e s m below meth c A hx hb hml hown S hr hlocks hnm hA hP hK hD hXS hS ls hl => ?_)
  have hl : lv_has ls 9 [(0, .ref (g 0))] := hl
  refine lv_bipush (v := 12) hx hb (oc_16 0 shX11_blend_0 sgb_12) kbc_12 ?_
  refine newa_int S hK hP hD hS hA (N' := 12) (by decide) (by decide) (Nat.le_of_ble_eq_true rfl) (Nat.le_of_ble_eq_true rfl) (Nat.le_of_ble_eq_true rfl) (oc_188_10 2 (aq_2 shX11_blend_0)) (fun q2 H hP hD hS => ?_)
  have hP : va_P D vwCl ((wX cI (D.1 99) zz g ad cn In Fn) ++ ([(q2, .inl (cI, 12, .inl (fun _ => 0)))] : va_W)) H := hP
  have hD : va_D A ((wX cI (D.1 99) zz g ad cn In Fn) ++ ([(q2, .inl (cI, 12, .inl (fun _ => 0)))] : va_W)) := hD
  refine lv_astore_n (lv' := [(1, .ref q2), (0, .ref (g 0))]) hx hb (oc_76 4 (aq_4 shX11_blend_0)) rfl hl (ltb rfl) rfl (fun ls hl => ?_)
  refine lv_aload_n hx hb (oc_42 5 (aq_5 shX11_blend_0)) rfl (lvA1 hl) ?_
  refine lv_aload_n hx hb (oc_43 6 (aq_6 shX11_blend_0)) rfl (lvA0 hl) ?_
  have hFc := free_all hD hS hA
  refine va_calli (runV_xa (As := [.ref q2]) (rest := []) S (q_EgatherB l D cI cB cZ zz qq vv bt g ad cn In Fn q2 (fun _ => 0) H.size hB) kV_RX11_391 hK hXS hS hFc hP hD _ (exl xo_0) rfl rfl ⟨Nat.le_of_ble_eq_true rfl, Nat.le_of_ble_eq_true rfl⟩ ⟨Nat.le_of_ble_eq_true rfl, Nat.le_of_ble_eq_true rfl⟩ rfl hl.1 rfl (Nat.le_of_ble_eq_true rfl) (oc_182 7 (aq_7 shX11_blend_0) uw_1_135)) hS (fun q _ h => hFc q h) hFc (fun r0 u0 t H1 locs ht hvm h0 hB1 hz1 hk1 hS => ?_)
  obtain ⟨hP1, hD1⟩ := hB1
  rw [ht] at hP1
  obtain ⟨a0, c0, I0, F0, W0⟩ := u0
  obtain ⟨rfl, rfl, rfl, rfl, n0, f0, hr0, hn0, rfl⟩ := h0
  subst hr0
  have hP : va_P D vwCl ((wX cI (D.1 99) zz g ad cn In Fn) ++ ([(q2, .inl (cI, 12, .inl f0))] : va_W)) H1 := hP1
  have hD : va_D A ((wX cI (D.1 99) zz g ad cn In Fn) ++ ([(q2, .inl (cI, 12, .inl f0))] : va_W)) := hD1.weaken (fun _ _ _ h => hFc _ h)
  generalize H1 = H at hP hS ⊢
  refine lv_istore_n (lv' := [(2, .int (nI n0)), (1, .ref q2), (0, .ref (g 0))]) hx hb (oc_61 10 (aq_10 shX11_blend_0)) rfl hl (ltb rfl) rfl (fun ls hl => ?_)
  refine lv_aload_n hx hb (oc_42 11 (aq_11 shX11_blend_0)) rfl (lvA2 hl) ?_
  have hFc := free_all (exD hD) hS hA
  refine va_callv (runV_xa (As := []) (rest := []) S (q_XlettersOfLaw l D cI cB cZ zz qq vv bt g ad cn In Fn  H.size hB) kV_RX11_367 hK hXS hS hFc (exP hP) (exD hD) 0 xo_0 rfl rfl ⟨Nat.le_of_ble_eq_true rfl, Nat.le_of_ble_eq_true rfl⟩ ⟨Nat.le_of_ble_eq_true rfl, Nat.le_of_ble_eq_true rfl⟩ rfl hl.1 rfl (Nat.le_of_ble_eq_true rfl) (oc_182 12 (aq_12 shX11_blend_0) uw_1_111)) hS (fun q _ h => hFc q h) hFc (fun u t H1 locs ht hvm wh_3 hB1 hz1 hk1 hS => ?_)
  obtain ⟨cn3, In3, Fn3⟩ := u
  obtain ⟨hP1, hD1⟩ := hB1
  rw [ht] at hP1
  obtain ⟨hP, hD⟩ := exjoinL hP hD hk1 hFc hP1 hD1
  have hP : va_P D vwCl ((wX cI (D.1 99) zz g ad cn3 In3 Fn3) ++ ([(q2, .inl (cI, 12, .inl f0))] : va_W)) H1 := hP
  have hD : va_D A ((wX cI (D.1 99) zz g ad cn3 In3 Fn3) ++ ([(q2, .inl (cI, 12, .inl f0))] : va_W)) := hD
  generalize H1 = H at hP hS ⊢
  have vh_3 : (fun c2 I2 F2 => Fr [] [] [7] cn In Fn c2 I2 F2 ∧ CBX c2 ∧ (True)) cn3 In3 Fn3 := wh_3
  obtain ⟨hfc3, hIn3, h_3⟩ := vh_3
  obtain rfl : cn = cn3 := (funext (fun k => hfc3.1 k List.not_mem_nil)).symm
  obtain rfl : In = In3 := (funext (fun k => hfc3.2.1 k List.not_mem_nil)).symm
  have hf3 : Fr [] [] [7, 196, 197, 305] cn In Fn cn In Fn3 := Fr.mo (Fr.tr (Fr.rf (cn := cn) (In := In) (Fn := Fn)) hfc3) (sbl rfl) (sbl rfl) (sbl rfl)
  refine va_new (ci := 1) (fs := [.null, .int 0, .int 0, .int 0, .int 0, .int 0, .int 0, .int 0]) (C := RX0) (T := TX0) (N := 8) hx hb S.2.2.2.2 hin_RX0 tyX0 tyX0_ok hown (S.2.2.2.2 _ (wk4_17 7 rfl rfl)) (S.2.2.2.2 _ (wk4_17 8 rfl rfl)) (S.2.2.2.2 _ (wk1_1 11 rfl rfl)) hK.1 hP hD hS hA rfl (by decide +kernel) (Nat.le_of_ble_eq_true rfl) (Nat.le_of_ble_eq_true rfl) (oc_187 15 (aq_15 shX11_blend_0) uw_0_95) (fun q15 H hP hD hS => ?_)
  rw [List.append_assoc] at hP hD
  have hP : va_P D vwCl ((wX cI (D.1 99) zz g ad cn In Fn3) ++ ([(q2, .inl (cI, 12, .inl f0)), (q15, .inr (1, [.null, .int 0, .int 0, .int 0, .int 0, .int 0, .int 0, .int 0]))] : va_W)) H := hP
  have hD : va_D A ((wX cI (D.1 99) zz g ad cn In Fn3) ++ ([(q2, .inl (cI, 12, .inl f0)), (q15, .inr (1, [.null, .int 0, .int 0, .int 0, .int 0, .int 0, .int 0, .int 0]))] : va_W)) := hD
  refine lv_dup hx hb (oc_89 18 (aq_18 shX11_blend_0)) rfl ?_
  have hP : va_P D vwCl (((wX cI (D.1 99) zz g ad cn In Fn3) ++ ([(q2, .inl (cI, 12, .inl f0))] : va_W)) ++ ([(q15, .inr (1, [.null, .int 0, .int 0, .int 0, .int 0, .int 0, .int 0, .int 0]))] : va_W)) H := va_P_eq (List.append_assoc _ _ _).symm hP
  have hD : va_D A (((wX cI (D.1 99) zz g ad cn In Fn3) ++ ([(q2, .inl (cI, 12, .inl f0))] : va_W)) ++ ([(q15, .inr (1, [.null, .int 0, .int 0, .int 0, .int 0, .int 0, .int 0, .int 0]))] : va_W)) := va_D_eq (List.append_assoc _ _ _).symm hD
  have hFc := va_free (wc := [(q15, .inr (1, [.null, .int 0, .int 0, .int 0, .int 0, .int 0, .int 0, .int 0]))]) hD hS hA [_] (one_im (exr (m := 0) rfl))
  refine va_callv (runIN_w (As := []) (rest := [.ref q15]) S (q_l_Batch l D cI cB cZ q15 H.size) hK.2.2.2 ⟨⟨wk4_17 10 rfl rfl, wk1_1 11 rfl rfl, wk4_17 11 rfl rfl⟩, rfl, by decide, by decide, by decide +kernel⟩ hK hP hD [_] (one_is (exr (m := 0) rfl)) (one_im (exr (m := 0) rfl)) rfl ⟨Nat.le_of_ble_eq_true rfl, Nat.le_of_ble_eq_true rfl⟩ ⟨Nat.le_of_ble_eq_true rfl, Nat.le_of_ble_eq_true rfl⟩ rfl hl.1 rfl (Nat.le_of_ble_eq_true rfl) (oc_183 19 (aq_19 shX11_blend_0) uw_1_97)) hS (fun q _ h => hFc q h) hFc (fun u_4 t H1 locs ht hvm h_5 hB1 hz1 hk1 hS => ?_)
  obtain ⟨hP1, hD1⟩ := hB1
  rw [ht] at hP1
  obtain ⟨hP, hD⟩ := exjoin hP hD hk1 hFc hP1 hD1
  generalize H1 = H at hP hS ⊢
  rw [List.append_assoc] at hP hD
  have hP : va_P D vwCl ((wX cI (D.1 99) zz g ad cn In Fn3) ++ ([(q2, .inl (cI, 12, .inl f0)), (q15, .inr (1, [.ref u_4, .int 0, .int 0, .int 0, .int 0, .int 0, .int 0, .int 0])), (u_4, .inl (cI, 12, .inl (fun _ => 0)))] : va_W)) H := hP
  have hD : va_D A ((wX cI (D.1 99) zz g ad cn In Fn3) ++ ([(q2, .inl (cI, 12, .inl f0)), (q15, .inr (1, [.ref u_4, .int 0, .int 0, .int 0, .int 0, .int 0, .int 0, .int 0])), (u_4, .inl (cI, 12, .inl (fun _ => 0)))] : va_W)) := hD
  have hP : va_P D vwCl ((wX cI (D.1 99) zz g ad cn In Fn3) ++ ([(q15, .inr (1, [.ref u_4, .int 0, .int 0, .int 0, .int 0, .int 0, .int 0, .int 0])), (q2, .inl (cI, 12, .inl f0)), (u_4, .inl (cI, 12, .inl (fun _ => 0)))] : va_W)) H := va_P_perm (List.Perm.append_left _ (List.Perm.swap _ _ _)) hP
  have hD : va_D A ((wX cI (D.1 99) zz g ad cn In Fn3) ++ ([(q15, .inr (1, [.ref u_4, .int 0, .int 0, .int 0, .int 0, .int 0, .int 0, .int 0])), (q2, .inl (cI, 12, .inl f0)), (u_4, .inl (cI, 12, .inl (fun _ => 0)))] : va_W)) := va_D_perm (List.Perm.append_left _ (List.Perm.swap _ _ _)) hD
  refine lv_astore_n (lv' := [(3, .ref q15), (2, .int (nI n0)), (1, .ref q2), (0, .ref (g 0))]) hx hb (oc_78 22 (aq_22 shX11_blend_0)) rfl hl (ltb rfl) rfl (fun ls hl => ?_)
  refine lv_iconst (v := 0) hx hb (oc_3 23 (aq_23 shX11_blend_0)) kic_0 ?_
  refine lv_istore (lv' := [(4, .int 0), (3, .ref q15), (2, .int (nI n0)), (1, .ref q2), (0, .ref (g 0))]) hx hb (oc_54 24 shX11_blend_24 ub_4) hl (ltb rfl) rfl (fun ls hl => ?_)
  refine lv_iconst (v := 0) hx hb (oc_3 26 (aq_2 shX11_blend_24)) kic_0 ?_
  refine lv_istore (lv' := [(5, .int 0), (4, .int 0), (3, .ref q15), (2, .int (nI n0)), (1, .ref q2), (0, .ref (g 0))]) hx hb (oc_54 27 (aq_3 shX11_blend_24) ub_5) hl (ltb rfl) rfl (fun ls hl => ?_)
  refine lv_iconst (v := 0) hx hb (oc_3 29 (aq_5 shX11_blend_24)) kic_0 ?_
  refine lv_istore (lv' := [(6, .int 0), (5, .int 0), (4, .int 0), (3, .ref q15), (2, .int (nI n0)), (1, .ref q2), (0, .ref (g 0))]) hx hb (oc_54 30 (aq_6 shX11_blend_24) ub_6) hl (ltb rfl) rfl (fun ls hl => ?_)
  have h2p := p2b (n := n0) (by omega)
  refine lv_iconst (v := 1) hx hb (oc_4 32 (aq_8 shX11_blend_24)) kic_1 ?_
  refine lv_istore (lv' := [(7, .int 1), (6, .int 0), (5, .int 0), (4, .int 0), (3, .ref q15), (2, .int (nI n0)), (1, .ref q2), (0, .ref (g 0))]) hx hb (oc_54 33 (aq_9 shX11_blend_24) ub_7) hl (ltb rfl) rfl (fun ls hl => ?_)
  have lp_35 : ∀ (n : Nat) (i35 : Nat) (x35_4 : Int32) (x35_5 : Int32) (x35_6 : Int32) (b35_01 : Int32) (b35_02 : Int32) (b35_04 : Int32) (b35_05 : Int32) (b35_06 : Int32) (F35 : Nat → Nat → Int32) (H : Heap) (locs : List Loc) , 2 ^ n0 - i35 < n → (i35 ≤ 2 ^ n0 ∧ Fr [] [] [7, 196, 197, 305] cn In Fn cn In F35) → va_P D vwCl ((wX cI (D.1 99) zz g ad cn In F35) ++ ([(q15, .inr (1, [.ref u_4, .int b35_01, .int b35_02, .int 0, .int b35_04, .int b35_05, .int b35_06, .int 0])), (q2, .inl (cI, 12, .inl f0)), (u_4, .inl (cI, 12, .inl (fun _ => 0)))] : va_W)) H → va_D A ((wX cI (D.1 99) zz g ad cn In F35) ++ ([(q15, .inr (1, [.ref u_4, .int b35_01, .int b35_02, .int 0, .int b35_04, .int b35_05, .int b35_06, .int 0])), (q2, .inl (cI, 12, .inl f0)), (u_4, .inl (cI, 12, .inl (fun _ => 0)))] : va_W)) → va_S A s.heap H locs → ∀ ls : Array Slot, lv_has ls 9 [(7, .int (nI i35)), (6, .int x35_6), (5, .int x35_5), (4, .int x35_4), (3, .ref q15), (2, .int (nI n0)), (1, .ref q2), (0, .ref (g 0))] → W p l e (RM 7 3 32) s m ([.ref (g 0)]).toArray below meth c H locs 3 32 (MQ below (va_Qi (fun (r : Int32) (u : (Nat → Nat → Nat) × (Nat → Nat) × (Nat → Int32) × (Nat → Nat → Int32)) => (fun r a2 c2 I2 F2 => ad = a2 ∧ cn = c2 ∧ In = I2 ∧ ∀ k, k ∉ [7, 196, 197, 305] → F2 k = Fn k) r u.1 u.2.1 u.2.2.1 u.2.2.2) (fun (u : (Nat → Nat → Nat) × (Nat → Nat) × (Nat → Int32) × (Nat → Nat → Int32)) (t : State) => va_P D vwCl (wX cI (D.1 99) zz g u.1 u.2.1 u.2.2.1 u.2.2.2) t.heap ∧ va_D A (wX cI (D.1 99) zz g u.1 u.2.1 u.2.2.1 u.2.2.2)) A) ([.ref (g 0)]).toArray s 3 32 A) (F0 m 35 ls []) := by
    intro n35
    induction n35 with
    | zero => intros; omega
    | succ n35 ih35 =>
      intro i35 x35_4 x35_5 x35_6 b35_01 b35_02 b35_04 b35_05 b35_06 F35 H locs hmu35 hinv35 hP hD hS ls hl
      obtain ⟨hr35, hfr35⟩ := hinv35
      have ti35 : (nI i35).toInt = (i35 : Int) := nI_toInt (by omega)
      refine lv_iload hx hb (oc_21 35 (aq_11 shX11_blend_24) ub_7) (lvA0 hl) ?_
      refine lv_iconst (v := 1) hx hb (oc_4 37 (aq_13 shX11_blend_24)) kic_1 ?_
      refine lv_iload_n hx hb (oc_28 38 (aq_14 shX11_blend_24)) rfl (lvA5 hl) ?_
      refine lv_ishl hx hb (oc_120 39 (aq_15 shX11_blend_24)) ?_
      refine lv_topi (fun y_6 ey_6 => ?_)
      obtain rfl : y_6 = (nI (2 ^ n0)) := ey_6.trans (sh1 (by omega))
      have : (nI (2 ^ n0)).toInt = (((2 ^ n0) : Nat) : Int) := nI_toInt (by omega)
      refine lv_icmp_ge (tgt := 128) hx hb (oc_162 40 (aq_16 shX11_blend_24) sgw_0_88) rfl (fun c_7 => ?_) (fun c_7 => ?_)
      ·
        have tc_7 : ((nI (2 ^ n0)).toInt : Int) ≤ (nI i35).toInt := Int32.le_iff_toInt_le.mp c_7
        refine lv_iload hx hb (oc_21 128 (aq_3 shX11_blend_125) ub_4) (lvA3 hl) ?_
        have hP := exP hP
        have hD := exD hD
        exact W.iret (v := x35_4) hx hb hr (fun t ht hW => ⟨⟨x35_4, (ad, cn, In, F35), rfl, ⟨rfl, rfl, rfl, (show Fr [] [] [7, 196, 197, 305] cn In Fn cn In F35 from (Fr.mo hfr35 (sbl rfl) (sbl rfl) (sbl rfl))).2.2⟩, by rw [ht]; exact hP, hD⟩, hS.F ht⟩) hS.2.2 (oc_172 130 (aq_5 shX11_blend_125))
      ·
        have tc_7 : ((nI i35).toInt : Int) < (nI (2 ^ n0)).toInt := Int32.lt_iff_toInt_lt.mp (Int32.not_le.mp c_7)
        refine lv_aload_n hx hb (oc_42 43 (aq_19 shX11_blend_24)) rfl (lvA7 hl) ?_
        refine lv_aload_n hx hb (oc_45 44 (aq_20 shX11_blend_24)) rfl (lvA4 hl) ?_
        refine lv_iload hx hb (oc_21 45 (aq_21 shX11_blend_24) ub_7) (lvA0 hl) ?_
        refine lv_aload_n hx hb (oc_43 47 (aq_23 shX11_blend_24)) rfl (lvA6 hl) ?_
        have hFc := free_all hD hS hA
        refine va_callv (runV_xa (As := [.ref q15, .int (nI i35), .ref q2]) (rest := []) S (q_EflipTo l D cI cB cZ zz qq vv bt g ad cn In F35 q15 u_4 b35_01 b35_02 0 b35_04 b35_05 b35_06 0 q2 f0 (nI i35) (([(u_4, .inl (cI, 12, .inl (fun _ => 0)))] : va_W)) H.size hIn3) kV_RX11_395 hK hXS hS hFc hP hD _ (exl xo_0) rfl rfl ⟨Nat.le_of_ble_eq_true rfl, Nat.le_of_ble_eq_true rfl⟩ ⟨Nat.le_of_ble_eq_true rfl, Nat.le_of_ble_eq_true rfl⟩ rfl hl.1 rfl (Nat.le_of_ble_eq_true rfl) (oc_182 48 shX11_blend_48 uw_1_139)) hS (fun q _ h => hFc q h) hFc (fun u7 t H1 locs ht hvm h7 hB1 hz1 hk1 hS => ?_)
        obtain ⟨hP1, hD1⟩ := hB1
        rw [ht] at hP1
        obtain ⟨a7, c7, I7, F7, W7⟩ := u7
        obtain ⟨rfl, rfl, rfl, rfl, za7, zb7, zd7, ze7, zf7, rfl⟩ := h7
        have hP : va_P D vwCl ((wX cI (D.1 99) zz g ad cn In F35) ++ ([(q15, .inr (1, [.ref u_4, .int za7, .int zb7, .int 0, .int zd7, .int ze7, .int zf7, .int 0])), (q2, .inl (cI, 12, .inl f0)), (u_4, .inl (cI, 12, .inl (fun _ => 0)))] : va_W)) H1 := hP1
        have hD : va_D A ((wX cI (D.1 99) zz g ad cn In F35) ++ ([(q15, .inr (1, [.ref u_4, .int za7, .int zb7, .int 0, .int zd7, .int ze7, .int zf7, .int 0])), (q2, .inl (cI, 12, .inl f0)), (u_4, .inl (cI, 12, .inl (fun _ => 0)))] : va_W)) := hD1.weaken (fun _ _ _ h => hFc _ h)
        generalize H1 = H at hP hS ⊢
        refine lv_iload hx hb (oc_21 51 (aq_3 shX11_blend_48) ub_4) (lvA3 hl) ?_
        refine lv_if_eq (tgt := 83) hx hb (oc_153 53 (aq_5 shX11_blend_48) sgw_0_30) rfl (fun c_9 => ?_) (fun c_9 => ?_)
        ·
          have tc_9 : (x35_4.toInt : Int) = 0 := congrArg Int32.toInt c_9
          refine lv_iconst (v := 1) hx hb (oc_4 83 (aq_9 shX11_blend_74)) kic_1 ?_
          refine lv_goto (tgt := 88) hx hb (oc_167 84 (aq_10 shX11_blend_74) sgw_0_4) rfl ?_
          refine lv_istore (lv' := [(8, .int 1), (7, .int (nI i35)), (6, .int x35_6), (5, .int x35_5), (4, .int x35_4), (3, .ref q15), (2, .int (nI n0)), (1, .ref q2), (0, .ref (g 0))]) hx hb dX11_blend_88 hl (ltb rfl) rfl (fun ls hl => ?_)
          refine lv_iload hx hb dX11_blend_90 (lvA0 hl) ?_
          refine lv_if_eq (tgt := 122) hx hb dX11_blend_92 rfl (fun h => absurd h cq_eq_1_0) (fun _ => ?_)
          refine lv_aload_n hx hb (oc_42 95 (aq_21 shX11_blend_74)) rfl (lvA8 hl) ?_
          refine lv_aload_n hx hb (oc_45 96 (aq_22 shX11_blend_74)) rfl (lvA5 hl) ?_
          have hFc := free_all hD hS hA
          refine va_calli (runV_xa (As := [.ref q15]) (rest := []) S (q_EbrokenClause l D cI cB cZ zz qq vv bt g ad cn In F35 q15 u_4 za7 zb7 0 zd7 ze7 zf7 0 (([(q2, .inl (cI, 12, .inl f0)), (u_4, .inl (cI, 12, .inl (fun _ => 0)))] : va_W)) H.size hIn3 hT (fun k hk => by rw [hfr35.2.2 198 (nml rfl)]; exact hC k hk)) kV_RX11_370 hK hXS hS hFc hP hD _ (exl xo_0) rfl rfl ⟨Nat.le_of_ble_eq_true rfl, Nat.le_of_ble_eq_true rfl⟩ ⟨Nat.le_of_ble_eq_true rfl, Nat.le_of_ble_eq_true rfl⟩ rfl hl.1 rfl (Nat.le_of_ble_eq_true rfl) (oc_182 97 (aq_23 shX11_blend_74) uw_1_114)) hS (fun q _ h => hFc q h) hFc (fun r9 u9 t H1 locs ht hvm h9 hB1 hz1 hk1 hS => ?_)
          obtain ⟨hP1, hD1⟩ := hB1
          rw [ht] at hP1
          obtain ⟨a9, c9, I9, F9⟩ := u9
          obtain ⟨rfl, rfl, rfl, h9⟩ := h9
          have hf9 : Fr [] [] [7, 196, 197, 305] cn In Fn cn In F9 := Fr.mo (Fr.tr hfr35 (show Fr [] [] [7, 196, 197, 305] cn In F35 cn In F9 from ⟨fun _ _ => rfl, fun _ _ => rfl, h9⟩)) (sbl rfl) (sbl rfl) (sbl rfl)
          have hP : va_P D vwCl ((wX cI (D.1 99) zz g ad cn In F9) ++ ([(q15, .inr (1, [.ref u_4, .int za7, .int zb7, .int 0, .int zd7, .int ze7, .int zf7, .int 0])), (q2, .inl (cI, 12, .inl f0)), (u_4, .inl (cI, 12, .inl (fun _ => 0)))] : va_W)) H1 := hP1
          have hD : va_D A ((wX cI (D.1 99) zz g ad cn In F9) ++ ([(q15, .inr (1, [.ref u_4, .int za7, .int zb7, .int 0, .int zd7, .int ze7, .int zf7, .int 0])), (q2, .inl (cI, 12, .inl f0)), (u_4, .inl (cI, 12, .inl (fun _ => 0)))] : va_W)) := hD1.weaken (fun _ _ _ h => hFc _ h)
          generalize H1 = H at hP hS ⊢
          refine lv_iconst (v := (-1)) hx hb (oc_2 100 shX11_blend_100) kic_m1 ?_
          refine lv_icmp_ne (tgt := 122) hx hb (oc_160 101 (aq_1 shX11_blend_100) sgw_0_21) rfl (fun c_11 => ?_) (fun c_11 => ?_)
          ·
            have tc_11 : (r9.toInt : Int) ≠ (-1) := fun q => c_11 (Int32.toInt_inj.mp q)
            refine lv_iinc (v := (nI (i35 + 1))) (lv' := [(7, .int (nI (i35 + 1))), (8, .int 1), (6, .int x35_6), (5, .int x35_5), (4, .int x35_4), (3, .ref q15), (2, .int (nI n0)), (1, .ref q2), (0, .ref (g 0))]) hx hb dX11_blend_122 hl (k := 1) rfl (nI_1 _) (ltb rfl) rfl (fun ls hl => ?_)
            refine lv_goto (tgt := 35) hx hb dX11_blend_125 rfl ?_
            exact ih35 (i35 + 1) x35_4 x35_5 x35_6 za7 zb7 zd7 ze7 zf7 F9 _ _ (by omega) ⟨(by omega), (Fr.mo hf9 (sbl rfl) (sbl rfl) (sbl rfl))⟩ hP hD hS ls (lv_sub hl [0, 2, 3, 4, 5, 6, 7, 8] rfl)
          ·
            have tc_11 : (r9.toInt : Int) = (-1) := congrArg Int32.toInt c_11
            refine lv_aload_n hx hb (oc_45 104 (aq_4 shX11_blend_100)) rfl (lvA5 hl) ?_
            refine gf_RX11_388 S hK hP _ (exr (m := 0) rfl) (v := .int zd7) rfl (oc_180 105 (aq_5 shX11_blend_100) uw_1_132) ?_
            refine lv_istore (lv' := [(4, .int zd7), (8, .int 1), (7, .int (nI i35)), (6, .int x35_6), (5, .int x35_5), (3, .ref q15), (2, .int (nI n0)), (1, .ref q2), (0, .ref (g 0))]) hx hb (oc_54 108 (aq_8 shX11_blend_100) ub_4) hl (ltb rfl) rfl (fun ls hl => ?_)
            refine lv_aload_n hx hb (oc_45 110 (aq_10 shX11_blend_100)) rfl (lvA5 hl) ?_
            refine gf_RX11_342 S hK hP _ (exr (m := 0) rfl) (v := .int zf7) rfl (oc_180 111 (aq_11 shX11_blend_100) uw_1_86) ?_
            refine lv_istore (lv' := [(5, .int zf7), (4, .int zd7), (8, .int 1), (7, .int (nI i35)), (6, .int x35_6), (3, .ref q15), (2, .int (nI n0)), (1, .ref q2), (0, .ref (g 0))]) hx hb (oc_54 114 (aq_14 shX11_blend_100) ub_5) hl (ltb rfl) rfl (fun ls hl => ?_)
            refine lv_aload_n hx hb (oc_45 116 (aq_16 shX11_blend_100)) rfl (lvA5 hl) ?_
            refine gf_RX11_347 S hK hP _ (exr (m := 0) rfl) (v := .int ze7) rfl (oc_180 117 (aq_17 shX11_blend_100) uw_1_91) ?_
            refine lv_istore (lv' := [(6, .int ze7), (5, .int zf7), (4, .int zd7), (8, .int 1), (7, .int (nI i35)), (3, .ref q15), (2, .int (nI n0)), (1, .ref q2), (0, .ref (g 0))]) hx hb (oc_54 120 (aq_20 shX11_blend_100) ub_6) hl (ltb rfl) rfl (fun ls hl => ?_)
            refine lv_iinc (v := (nI (i35 + 1))) (lv' := [(7, .int (nI (i35 + 1))), (6, .int ze7), (5, .int zf7), (4, .int zd7), (8, .int 1), (3, .ref q15), (2, .int (nI n0)), (1, .ref q2), (0, .ref (g 0))]) hx hb dX11_blend_122 hl (k := 4) rfl (nI_1 _) (ltb rfl) rfl (fun ls hl => ?_)
            refine lv_goto (tgt := 35) hx hb dX11_blend_125 rfl ?_
            exact ih35 (i35 + 1) zd7 zf7 ze7 za7 zb7 zd7 ze7 zf7 F9 _ _ (by omega) ⟨(by omega), (Fr.mo hf9 (sbl rfl) (sbl rfl) (sbl rfl))⟩ hP hD hS ls (lv_sub hl [0, 1, 2, 3, 5, 6, 7, 8] rfl)
        ·
          have tc_9 : (x35_4.toInt : Int) ≠ 0 := fun q => c_9 (Int32.toInt_inj.mp q)
          refine lv_aload_n hx hb (oc_45 56 (aq_8 shX11_blend_48)) rfl (lvA4 hl) ?_
          refine gf_RX11_342 S hK hP _ (exr (m := 0) rfl) (v := .int zf7) rfl (oc_180 57 (aq_9 shX11_blend_48) uw_1_86) ?_
          refine lv_iload hx hb (oc_21 60 (aq_12 shX11_blend_48) ub_5) (lvA2 hl) ?_
          refine lv_icmp_gt (tgt := 83) hx hb (oc_163 62 (aq_14 shX11_blend_48) sgw_0_21) rfl (fun c_12 => ?_) (fun c_12 => ?_)
          ·
            have tc_12 : (x35_5.toInt : Int) < zf7.toInt := Int32.lt_iff_toInt_lt.mp c_12
            refine lv_iconst (v := 1) hx hb (oc_4 83 (aq_9 shX11_blend_74)) kic_1 ?_
            refine lv_goto (tgt := 88) hx hb (oc_167 84 (aq_10 shX11_blend_74) sgw_0_4) rfl ?_
            refine lv_istore (lv' := [(8, .int 1), (7, .int (nI i35)), (6, .int x35_6), (5, .int x35_5), (4, .int x35_4), (3, .ref q15), (2, .int (nI n0)), (1, .ref q2), (0, .ref (g 0))]) hx hb dX11_blend_88 hl (ltb rfl) rfl (fun ls hl => ?_)
            refine lv_iload hx hb dX11_blend_90 (lvA0 hl) ?_
            refine lv_if_eq (tgt := 122) hx hb dX11_blend_92 rfl (fun h => absurd h cq_eq_1_0) (fun _ => ?_)
            refine lv_aload_n hx hb (oc_42 95 (aq_21 shX11_blend_74)) rfl (lvA8 hl) ?_
            refine lv_aload_n hx hb (oc_45 96 (aq_22 shX11_blend_74)) rfl (lvA5 hl) ?_
            have hFc := free_all hD hS hA
            refine va_calli (runV_xa (As := [.ref q15]) (rest := []) S (q_EbrokenClause l D cI cB cZ zz qq vv bt g ad cn In F35 q15 u_4 za7 zb7 0 zd7 ze7 zf7 0 (([(q2, .inl (cI, 12, .inl f0)), (u_4, .inl (cI, 12, .inl (fun _ => 0)))] : va_W)) H.size hIn3 hT (fun k hk => by rw [hfr35.2.2 198 (nml rfl)]; exact hC k hk)) kV_RX11_370 hK hXS hS hFc hP hD _ (exl xo_0) rfl rfl ⟨Nat.le_of_ble_eq_true rfl, Nat.le_of_ble_eq_true rfl⟩ ⟨Nat.le_of_ble_eq_true rfl, Nat.le_of_ble_eq_true rfl⟩ rfl hl.1 rfl (Nat.le_of_ble_eq_true rfl) (oc_182 97 (aq_23 shX11_blend_74) uw_1_114)) hS (fun q _ h => hFc q h) hFc (fun r12 u12 t H1 locs ht hvm h12 hB1 hz1 hk1 hS => ?_)
            obtain ⟨hP1, hD1⟩ := hB1
            rw [ht] at hP1
            obtain ⟨a12, c12, I12, F12⟩ := u12
            obtain ⟨rfl, rfl, rfl, h12⟩ := h12
            have hf12 : Fr [] [] [7, 196, 197, 305] cn In Fn cn In F12 := Fr.mo (Fr.tr hfr35 (show Fr [] [] [7, 196, 197, 305] cn In F35 cn In F12 from ⟨fun _ _ => rfl, fun _ _ => rfl, h12⟩)) (sbl rfl) (sbl rfl) (sbl rfl)
            have hP : va_P D vwCl ((wX cI (D.1 99) zz g ad cn In F12) ++ ([(q15, .inr (1, [.ref u_4, .int za7, .int zb7, .int 0, .int zd7, .int ze7, .int zf7, .int 0])), (q2, .inl (cI, 12, .inl f0)), (u_4, .inl (cI, 12, .inl (fun _ => 0)))] : va_W)) H1 := hP1
            have hD : va_D A ((wX cI (D.1 99) zz g ad cn In F12) ++ ([(q15, .inr (1, [.ref u_4, .int za7, .int zb7, .int 0, .int zd7, .int ze7, .int zf7, .int 0])), (q2, .inl (cI, 12, .inl f0)), (u_4, .inl (cI, 12, .inl (fun _ => 0)))] : va_W)) := hD1.weaken (fun _ _ _ h => hFc _ h)
            generalize H1 = H at hP hS ⊢
            refine lv_iconst (v := (-1)) hx hb (oc_2 100 shX11_blend_100) kic_m1 ?_
            refine lv_icmp_ne (tgt := 122) hx hb (oc_160 101 (aq_1 shX11_blend_100) sgw_0_21) rfl (fun c_14 => ?_) (fun c_14 => ?_)
            ·
              have tc_14 : (r12.toInt : Int) ≠ (-1) := fun q => c_14 (Int32.toInt_inj.mp q)
              refine lv_iinc (v := (nI (i35 + 1))) (lv' := [(7, .int (nI (i35 + 1))), (8, .int 1), (6, .int x35_6), (5, .int x35_5), (4, .int x35_4), (3, .ref q15), (2, .int (nI n0)), (1, .ref q2), (0, .ref (g 0))]) hx hb dX11_blend_122 hl (k := 1) rfl (nI_1 _) (ltb rfl) rfl (fun ls hl => ?_)
              refine lv_goto (tgt := 35) hx hb dX11_blend_125 rfl ?_
              exact ih35 (i35 + 1) x35_4 x35_5 x35_6 za7 zb7 zd7 ze7 zf7 F12 _ _ (by omega) ⟨(by omega), (Fr.mo hf12 (sbl rfl) (sbl rfl) (sbl rfl))⟩ hP hD hS ls (lv_sub hl [0, 2, 3, 4, 5, 6, 7, 8] rfl)
            ·
              have tc_14 : (r12.toInt : Int) = (-1) := congrArg Int32.toInt c_14
              refine lv_aload_n hx hb (oc_45 104 (aq_4 shX11_blend_100)) rfl (lvA5 hl) ?_
              refine gf_RX11_388 S hK hP _ (exr (m := 0) rfl) (v := .int zd7) rfl (oc_180 105 (aq_5 shX11_blend_100) uw_1_132) ?_
              refine lv_istore (lv' := [(4, .int zd7), (8, .int 1), (7, .int (nI i35)), (6, .int x35_6), (5, .int x35_5), (3, .ref q15), (2, .int (nI n0)), (1, .ref q2), (0, .ref (g 0))]) hx hb (oc_54 108 (aq_8 shX11_blend_100) ub_4) hl (ltb rfl) rfl (fun ls hl => ?_)
              refine lv_aload_n hx hb (oc_45 110 (aq_10 shX11_blend_100)) rfl (lvA5 hl) ?_
              refine gf_RX11_342 S hK hP _ (exr (m := 0) rfl) (v := .int zf7) rfl (oc_180 111 (aq_11 shX11_blend_100) uw_1_86) ?_
              refine lv_istore (lv' := [(5, .int zf7), (4, .int zd7), (8, .int 1), (7, .int (nI i35)), (6, .int x35_6), (3, .ref q15), (2, .int (nI n0)), (1, .ref q2), (0, .ref (g 0))]) hx hb (oc_54 114 (aq_14 shX11_blend_100) ub_5) hl (ltb rfl) rfl (fun ls hl => ?_)
              refine lv_aload_n hx hb (oc_45 116 (aq_16 shX11_blend_100)) rfl (lvA5 hl) ?_
              refine gf_RX11_347 S hK hP _ (exr (m := 0) rfl) (v := .int ze7) rfl (oc_180 117 (aq_17 shX11_blend_100) uw_1_91) ?_
              refine lv_istore (lv' := [(6, .int ze7), (5, .int zf7), (4, .int zd7), (8, .int 1), (7, .int (nI i35)), (3, .ref q15), (2, .int (nI n0)), (1, .ref q2), (0, .ref (g 0))]) hx hb (oc_54 120 (aq_20 shX11_blend_100) ub_6) hl (ltb rfl) rfl (fun ls hl => ?_)
              refine lv_iinc (v := (nI (i35 + 1))) (lv' := [(7, .int (nI (i35 + 1))), (6, .int ze7), (5, .int zf7), (4, .int zd7), (8, .int 1), (3, .ref q15), (2, .int (nI n0)), (1, .ref q2), (0, .ref (g 0))]) hx hb dX11_blend_122 hl (k := 4) rfl (nI_1 _) (ltb rfl) rfl (fun ls hl => ?_)
              refine lv_goto (tgt := 35) hx hb dX11_blend_125 rfl ?_
              exact ih35 (i35 + 1) zd7 zf7 ze7 za7 zb7 zd7 ze7 zf7 F12 _ _ (by omega) ⟨(by omega), (Fr.mo hf12 (sbl rfl) (sbl rfl) (sbl rfl))⟩ hP hD hS ls (lv_sub hl [0, 1, 2, 3, 5, 6, 7, 8] rfl)
          ·
            have tc_12 : (zf7.toInt : Int) ≤ x35_5.toInt := Int32.le_iff_toInt_le.mp (Int32.not_lt.mp c_12)
            refine lv_aload_n hx hb (oc_45 65 (aq_17 shX11_blend_48)) rfl (lvA4 hl) ?_
            refine gf_RX11_342 S hK hP _ (exr (m := 0) rfl) (v := .int zf7) rfl (oc_180 66 (aq_18 shX11_blend_48) uw_1_86) ?_
            refine lv_iload hx hb (oc_21 69 (aq_21 shX11_blend_48) ub_5) (lvA2 hl) ?_
            refine lv_icmp_ne (tgt := 87) hx hb (oc_160 71 (aq_23 shX11_blend_48) sgw_0_16) rfl (fun c_15 => ?_) (fun c_15 => ?_)
            ·
              have tc_15 : (zf7.toInt : Int) ≠ x35_5.toInt := fun q => c_15 (Int32.toInt_inj.mp q)
              refine lv_iconst (v := 0) hx hb (oc_3 87 (aq_13 shX11_blend_74)) kic_0 ?_
              refine lv_istore (lv' := [(8, .int 0), (7, .int (nI i35)), (6, .int x35_6), (5, .int x35_5), (4, .int x35_4), (3, .ref q15), (2, .int (nI n0)), (1, .ref q2), (0, .ref (g 0))]) hx hb dX11_blend_88 hl (ltb rfl) rfl (fun ls hl => ?_)
              refine lv_iload hx hb dX11_blend_90 (lvA0 hl) ?_
              refine lv_if_eq (tgt := 122) hx hb dX11_blend_92 rfl (fun _ => ?_) (fun h => absurd h cq_eq_0_0)
              refine lv_iinc (v := (nI (i35 + 1))) (lv' := [(7, .int (nI (i35 + 1))), (8, .int 0), (6, .int x35_6), (5, .int x35_5), (4, .int x35_4), (3, .ref q15), (2, .int (nI n0)), (1, .ref q2), (0, .ref (g 0))]) hx hb dX11_blend_122 hl (k := 1) rfl (nI_1 _) (ltb rfl) rfl (fun ls hl => ?_)
              refine lv_goto (tgt := 35) hx hb dX11_blend_125 rfl ?_
              exact ih35 (i35 + 1) x35_4 x35_5 x35_6 za7 zb7 zd7 ze7 zf7 F35 _ _ (by omega) ⟨(by omega), (Fr.mo hfr35 (sbl rfl) (sbl rfl) (sbl rfl))⟩ hP hD hS ls (lv_sub hl [0, 2, 3, 4, 5, 6, 7, 8] rfl)
            ·
              have tc_15 : (zf7.toInt : Int) = x35_5.toInt := congrArg Int32.toInt c_15
              refine lv_aload_n hx hb (oc_45 74 shX11_blend_74) rfl (lvA4 hl) ?_
              refine gf_RX11_347 S hK hP _ (exr (m := 0) rfl) (v := .int ze7) rfl (oc_180 75 (aq_1 shX11_blend_74) uw_1_91) ?_
              refine lv_iload hx hb (oc_21 78 (aq_4 shX11_blend_74) ub_6) (lvA1 hl) ?_
              refine lv_icmp_ge (tgt := 87) hx hb (oc_162 80 (aq_6 shX11_blend_74) sgw_0_7) rfl (fun c_16 => ?_) (fun c_16 => ?_)
              ·
                have tc_16 : (x35_6.toInt : Int) ≤ ze7.toInt := Int32.le_iff_toInt_le.mp c_16
                refine lv_iconst (v := 0) hx hb (oc_3 87 (aq_13 shX11_blend_74)) kic_0 ?_
                refine lv_istore (lv' := [(8, .int 0), (7, .int (nI i35)), (6, .int x35_6), (5, .int x35_5), (4, .int x35_4), (3, .ref q15), (2, .int (nI n0)), (1, .ref q2), (0, .ref (g 0))]) hx hb dX11_blend_88 hl (ltb rfl) rfl (fun ls hl => ?_)
                refine lv_iload hx hb dX11_blend_90 (lvA0 hl) ?_
                refine lv_if_eq (tgt := 122) hx hb dX11_blend_92 rfl (fun _ => ?_) (fun h => absurd h cq_eq_0_0)
                refine lv_iinc (v := (nI (i35 + 1))) (lv' := [(7, .int (nI (i35 + 1))), (8, .int 0), (6, .int x35_6), (5, .int x35_5), (4, .int x35_4), (3, .ref q15), (2, .int (nI n0)), (1, .ref q2), (0, .ref (g 0))]) hx hb dX11_blend_122 hl (k := 1) rfl (nI_1 _) (ltb rfl) rfl (fun ls hl => ?_)
                refine lv_goto (tgt := 35) hx hb dX11_blend_125 rfl ?_
                exact ih35 (i35 + 1) x35_4 x35_5 x35_6 za7 zb7 zd7 ze7 zf7 F35 _ _ (by omega) ⟨(by omega), (Fr.mo hfr35 (sbl rfl) (sbl rfl) (sbl rfl))⟩ hP hD hS ls (lv_sub hl [0, 2, 3, 4, 5, 6, 7, 8] rfl)
              ·
                have tc_16 : (ze7.toInt : Int) < x35_6.toInt := Int32.lt_iff_toInt_lt.mp (Int32.not_le.mp c_16)
                refine lv_iconst (v := 1) hx hb (oc_4 83 (aq_9 shX11_blend_74)) kic_1 ?_
                refine lv_goto (tgt := 88) hx hb (oc_167 84 (aq_10 shX11_blend_74) sgw_0_4) rfl ?_
                refine lv_istore (lv' := [(8, .int 1), (7, .int (nI i35)), (6, .int x35_6), (5, .int x35_5), (4, .int x35_4), (3, .ref q15), (2, .int (nI n0)), (1, .ref q2), (0, .ref (g 0))]) hx hb dX11_blend_88 hl (ltb rfl) rfl (fun ls hl => ?_)
                refine lv_iload hx hb dX11_blend_90 (lvA0 hl) ?_
                refine lv_if_eq (tgt := 122) hx hb dX11_blend_92 rfl (fun h => absurd h cq_eq_1_0) (fun _ => ?_)
                refine lv_aload_n hx hb (oc_42 95 (aq_21 shX11_blend_74)) rfl (lvA8 hl) ?_
                refine lv_aload_n hx hb (oc_45 96 (aq_22 shX11_blend_74)) rfl (lvA5 hl) ?_
                have hFc := free_all hD hS hA
                refine va_calli (runV_xa (As := [.ref q15]) (rest := []) S (q_EbrokenClause l D cI cB cZ zz qq vv bt g ad cn In F35 q15 u_4 za7 zb7 0 zd7 ze7 zf7 0 (([(q2, .inl (cI, 12, .inl f0)), (u_4, .inl (cI, 12, .inl (fun _ => 0)))] : va_W)) H.size hIn3 hT (fun k hk => by rw [hfr35.2.2 198 (nml rfl)]; exact hC k hk)) kV_RX11_370 hK hXS hS hFc hP hD _ (exl xo_0) rfl rfl ⟨Nat.le_of_ble_eq_true rfl, Nat.le_of_ble_eq_true rfl⟩ ⟨Nat.le_of_ble_eq_true rfl, Nat.le_of_ble_eq_true rfl⟩ rfl hl.1 rfl (Nat.le_of_ble_eq_true rfl) (oc_182 97 (aq_23 shX11_blend_74) uw_1_114)) hS (fun q _ h => hFc q h) hFc (fun r16 u16 t H1 locs ht hvm h16 hB1 hz1 hk1 hS => ?_)
                obtain ⟨hP1, hD1⟩ := hB1
                rw [ht] at hP1
                obtain ⟨a16, c16, I16, F16⟩ := u16
                obtain ⟨rfl, rfl, rfl, h16⟩ := h16
                have hf16 : Fr [] [] [7, 196, 197, 305] cn In Fn cn In F16 := Fr.mo (Fr.tr hfr35 (show Fr [] [] [7, 196, 197, 305] cn In F35 cn In F16 from ⟨fun _ _ => rfl, fun _ _ => rfl, h16⟩)) (sbl rfl) (sbl rfl) (sbl rfl)
                have hP : va_P D vwCl ((wX cI (D.1 99) zz g ad cn In F16) ++ ([(q15, .inr (1, [.ref u_4, .int za7, .int zb7, .int 0, .int zd7, .int ze7, .int zf7, .int 0])), (q2, .inl (cI, 12, .inl f0)), (u_4, .inl (cI, 12, .inl (fun _ => 0)))] : va_W)) H1 := hP1
                have hD : va_D A ((wX cI (D.1 99) zz g ad cn In F16) ++ ([(q15, .inr (1, [.ref u_4, .int za7, .int zb7, .int 0, .int zd7, .int ze7, .int zf7, .int 0])), (q2, .inl (cI, 12, .inl f0)), (u_4, .inl (cI, 12, .inl (fun _ => 0)))] : va_W)) := hD1.weaken (fun _ _ _ h => hFc _ h)
                generalize H1 = H at hP hS ⊢
                refine lv_iconst (v := (-1)) hx hb (oc_2 100 shX11_blend_100) kic_m1 ?_
                refine lv_icmp_ne (tgt := 122) hx hb (oc_160 101 (aq_1 shX11_blend_100) sgw_0_21) rfl (fun c_18 => ?_) (fun c_18 => ?_)
                ·
                  have tc_18 : (r16.toInt : Int) ≠ (-1) := fun q => c_18 (Int32.toInt_inj.mp q)
                  refine lv_iinc (v := (nI (i35 + 1))) (lv' := [(7, .int (nI (i35 + 1))), (8, .int 1), (6, .int x35_6), (5, .int x35_5), (4, .int x35_4), (3, .ref q15), (2, .int (nI n0)), (1, .ref q2), (0, .ref (g 0))]) hx hb dX11_blend_122 hl (k := 1) rfl (nI_1 _) (ltb rfl) rfl (fun ls hl => ?_)
                  refine lv_goto (tgt := 35) hx hb dX11_blend_125 rfl ?_
                  exact ih35 (i35 + 1) x35_4 x35_5 x35_6 za7 zb7 zd7 ze7 zf7 F16 _ _ (by omega) ⟨(by omega), (Fr.mo hf16 (sbl rfl) (sbl rfl) (sbl rfl))⟩ hP hD hS ls (lv_sub hl [0, 2, 3, 4, 5, 6, 7, 8] rfl)
                ·
                  have tc_18 : (r16.toInt : Int) = (-1) := congrArg Int32.toInt c_18
                  refine lv_aload_n hx hb (oc_45 104 (aq_4 shX11_blend_100)) rfl (lvA5 hl) ?_
                  refine gf_RX11_388 S hK hP _ (exr (m := 0) rfl) (v := .int zd7) rfl (oc_180 105 (aq_5 shX11_blend_100) uw_1_132) ?_
                  refine lv_istore (lv' := [(4, .int zd7), (8, .int 1), (7, .int (nI i35)), (6, .int x35_6), (5, .int x35_5), (3, .ref q15), (2, .int (nI n0)), (1, .ref q2), (0, .ref (g 0))]) hx hb (oc_54 108 (aq_8 shX11_blend_100) ub_4) hl (ltb rfl) rfl (fun ls hl => ?_)
                  refine lv_aload_n hx hb (oc_45 110 (aq_10 shX11_blend_100)) rfl (lvA5 hl) ?_
                  refine gf_RX11_342 S hK hP _ (exr (m := 0) rfl) (v := .int zf7) rfl (oc_180 111 (aq_11 shX11_blend_100) uw_1_86) ?_
                  refine lv_istore (lv' := [(5, .int zf7), (4, .int zd7), (8, .int 1), (7, .int (nI i35)), (6, .int x35_6), (3, .ref q15), (2, .int (nI n0)), (1, .ref q2), (0, .ref (g 0))]) hx hb (oc_54 114 (aq_14 shX11_blend_100) ub_5) hl (ltb rfl) rfl (fun ls hl => ?_)
                  refine lv_aload_n hx hb (oc_45 116 (aq_16 shX11_blend_100)) rfl (lvA5 hl) ?_
                  refine gf_RX11_347 S hK hP _ (exr (m := 0) rfl) (v := .int ze7) rfl (oc_180 117 (aq_17 shX11_blend_100) uw_1_91) ?_
                  refine lv_istore (lv' := [(6, .int ze7), (5, .int zf7), (4, .int zd7), (8, .int 1), (7, .int (nI i35)), (3, .ref q15), (2, .int (nI n0)), (1, .ref q2), (0, .ref (g 0))]) hx hb (oc_54 120 (aq_20 shX11_blend_100) ub_6) hl (ltb rfl) rfl (fun ls hl => ?_)
                  refine lv_iinc (v := (nI (i35 + 1))) (lv' := [(7, .int (nI (i35 + 1))), (6, .int ze7), (5, .int zf7), (4, .int zd7), (8, .int 1), (3, .ref q15), (2, .int (nI n0)), (1, .ref q2), (0, .ref (g 0))]) hx hb dX11_blend_122 hl (k := 4) rfl (nI_1 _) (ltb rfl) rfl (fun ls hl => ?_)
                  refine lv_goto (tgt := 35) hx hb dX11_blend_125 rfl ?_
                  exact ih35 (i35 + 1) zd7 zf7 ze7 za7 zb7 zd7 ze7 zf7 F16 _ _ (by omega) ⟨(by omega), (Fr.mo hf16 (sbl rfl) (sbl rfl) (sbl rfl))⟩ hP hD hS ls (lv_sub hl [0, 1, 2, 3, 5, 6, 7, 8] rfl)
  exact lp_35 _ 1 0 0 0 0 0 0 0 0 Fn3 _ _ (Nat.lt_succ_self _) ⟨(by omega), (Fr.mo hf3 (sbl rfl) (sbl rfl) (sbl rfl))⟩ hP hD hS ls (lv_sub hl [0, 1, 2, 3, 4, 5, 6, 7] rfl)
