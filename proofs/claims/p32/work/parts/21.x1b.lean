set_option maxRecDepth 100000 in
theorem gf_RX11_47 {p : Program} {l : Launch} {e : Env} {R : Room} {s : State} {m : MethodId} {args : Array Value} {below : List Frame} {meth : Method} {c : Code} {H : Heap} {locs : List Loc} {cells slots : Nat} {Q : State → Prop} {cc : ByteArray} {nL pc : Nat} {D : va_G} {cI cB cZ : ClassId} {ws : va_W} {rest : List Value} {ls : Array Slot} {a : Nat} {fs : List Value} {v : Value} (S : SF p m c cc nL s args RX11) (hK : KK D cI cB cZ s) (hP : va_P D vwCl ws H) (q0 : Nat) (he : ws[q0]? = some (a, .inr (12, fs))) (hv : fs[8]? = some v) (hdg : decode cc pc = .ok (.getfield 47, 3)) (kk : W p l e R s m args below meth c H locs cells slots Q (F0 m (pc + 3) ls (v :: rest))) : W p l e R s m args below meth c H locs cells slots Q (F0 m pc ls (.ref a :: rest)) :=
  va_get (C := RX11) (T := TX11) (N := 16) S.1 S.2.1 S.2.2.2.2 hin_RX11 S.2.2.2.1 hK.1 hP q0 he rfl 8 (by decide) (S.2.2.2.2 _ (wk2_0 4 rfl rfl)) (fun _ h9 => h9) hv hdg kk
set_option maxRecDepth 100000 in
theorem hin_RX7 : ∀ w ∈ u_ws RX7 TX7 10, w ∈ wT := hin_all (C := RX7) (T := TX7) (n := 10) (hin_s (hin_s (hin_s (hin_s (hin_s (hin_s (hin_s (hin_s (hin_s (hin_s (fun k hk => absurd hk (Nat.not_lt_zero k)) (wk1_13 1 rfl rfl)) (wk1_13 3 rfl rfl)) (wk1_13 5 rfl rfl)) (wk1_13 7 rfl rfl)) (wk1_13 9 rfl rfl)) (wk1_13 11 rfl rfl)) (wk1_14 1 rfl rfl)) (wk1_14 3 rfl rfl)) (wk1_14 5 rfl rfl)) (wk1_14 7 rfl rfl))
set_option maxRecDepth 100000 in
theorem gf_RX11_174 {p : Program} {l : Launch} {e : Env} {R : Room} {s : State} {m : MethodId} {args : Array Value} {below : List Frame} {meth : Method} {c : Code} {H : Heap} {locs : List Loc} {cells slots : Nat} {Q : State → Prop} {cc : ByteArray} {nL pc : Nat} {D : va_G} {cI cB cZ : ClassId} {ws : va_W} {rest : List Value} {ls : Array Slot} {a : Nat} {fs : List Value} {v : Value} (S : SF p m c cc nL s args RX11) (hK : KK D cI cB cZ s) (hP : va_P D vwCl ws H) (q0 : Nat) (he : ws[q0]? = some (a, .inr (8, fs))) (hv : fs[0]? = some v) (hdg : decode cc pc = .ok (.getfield 174, 3)) (kk : W p l e R s m args below meth c H locs cells slots Q (F0 m (pc + 3) ls (v :: rest))) : W p l e R s m args below meth c H locs cells slots Q (F0 m pc ls (.ref a :: rest)) :=
  va_get (C := RX7) (T := TX7) (N := 10) S.1 S.2.1 S.2.2.2.2 hin_RX7 S.2.2.2.1 hK.1 hP q0 he rfl 0 (by decide) (S.2.2.2.2 _ (wk1_11 6 rfl rfl)) (fun _ h9 => h9) hv hdg kk
set_option maxRecDepth 100000 in
theorem kS_RX11_177 : CalS RX11 177 yX7_tell cX7_tell 5 (some .boolean) 5 := ⟨⟨wk3_18 7 rfl rfl, wk3_18 8 rfl rfl, wk1_0 7 rfl rfl, wk3_18 9 rfl rfl⟩, ⟨nmh_8.1, nmh_8.2, pd_70⟩⟩
set_option maxRecDepth 100000 in
theorem gf_RX11_467 {p : Program} {l : Launch} {e : Env} {R : Room} {s : State} {m : MethodId} {args : Array Value} {below : List Frame} {meth : Method} {c : Code} {H : Heap} {locs : List Loc} {cells slots : Nat} {Q : State → Prop} {cc : ByteArray} {nL pc : Nat} {D : va_G} {cI cB cZ : ClassId} {ws : va_W} {rest : List Value} {ls : Array Slot} {a : Nat} {fs : List Value} {v : Value} (S : SF p m c cc nL s args RX11) (hK : KK D cI cB cZ s) (hP : va_P D vwCl ws H) (q0 : Nat) (he : ws[q0]? = some (a, .inr (8, fs))) (hv : fs[1]? = some v) (hdg : decode cc pc = .ok (.getfield 467, 3)) (kk : W p l e R s m args below meth c H locs cells slots Q (F0 m (pc + 3) ls (v :: rest))) : W p l e R s m args below meth c H locs cells slots Q (F0 m pc ls (.ref a :: rest)) :=
  va_get (C := RX7) (T := TX7) (N := 10) S.1 S.2.1 S.2.2.2.2 hin_RX7 S.2.2.2.1 hK.1 hP q0 he rfl 1 (by decide) (S.2.2.2.2 _ (wk1_11 8 rfl rfl)) (fun _ h9 => h9) hv hdg kk
set_option maxRecDepth 100000 in
theorem gf_RX11_486 {p : Program} {l : Launch} {e : Env} {R : Room} {s : State} {m : MethodId} {args : Array Value} {below : List Frame} {meth : Method} {c : Code} {H : Heap} {locs : List Loc} {cells slots : Nat} {Q : State → Prop} {cc : ByteArray} {nL pc : Nat} {D : va_G} {cI cB cZ : ClassId} {ws : va_W} {rest : List Value} {ls : Array Slot} {a : Nat} {fs : List Value} {v : Value} (S : SF p m c cc nL s args RX11) (hK : KK D cI cB cZ s) (hP : va_P D vwCl ws H) (q0 : Nat) (he : ws[q0]? = some (a, .inr (8, fs))) (hv : fs[2]? = some v) (hdg : decode cc pc = .ok (.getfield 486, 3)) (kk : W p l e R s m args below meth c H locs cells slots Q (F0 m (pc + 3) ls (v :: rest))) : W p l e R s m args below meth c H locs cells slots Q (F0 m pc ls (.ref a :: rest)) :=
  va_get (C := RX7) (T := TX7) (N := 10) S.1 S.2.1 S.2.2.2.2 hin_RX7 S.2.2.2.1 hK.1 hP q0 he rfl 2 (by decide) (S.2.2.2.2 _ (wk1_11 10 rfl rfl)) (fun _ h9 => h9) hv hdg kk
set_option maxRecDepth 100000 in
theorem gf_RX11_492 {p : Program} {l : Launch} {e : Env} {R : Room} {s : State} {m : MethodId} {args : Array Value} {below : List Frame} {meth : Method} {c : Code} {H : Heap} {locs : List Loc} {cells slots : Nat} {Q : State → Prop} {cc : ByteArray} {nL pc : Nat} {D : va_G} {cI cB cZ : ClassId} {ws : va_W} {rest : List Value} {ls : Array Slot} {a : Nat} {fs : List Value} {v : Value} (S : SF p m c cc nL s args RX11) (hK : KK D cI cB cZ s) (hP : va_P D vwCl ws H) (q0 : Nat) (he : ws[q0]? = some (a, .inr (8, fs))) (hv : fs[3]? = some v) (hdg : decode cc pc = .ok (.getfield 492, 3)) (kk : W p l e R s m args below meth c H locs cells slots Q (F0 m (pc + 3) ls (v :: rest))) : W p l e R s m args below meth c H locs cells slots Q (F0 m pc ls (.ref a :: rest)) :=
  va_get (C := RX7) (T := TX7) (N := 10) S.1 S.2.1 S.2.2.2.2 hin_RX7 S.2.2.2.1 hK.1 hP q0 he rfl 3 (by decide) (S.2.2.2.2 _ (wk1_12 0 rfl rfl)) (fun _ h9 => h9) hv hdg kk
set_option maxRecDepth 100000 in
theorem gf_RX11_426 {p : Program} {l : Launch} {e : Env} {R : Room} {s : State} {m : MethodId} {args : Array Value} {below : List Frame} {meth : Method} {c : Code} {H : Heap} {locs : List Loc} {cells slots : Nat} {Q : State → Prop} {cc : ByteArray} {nL pc : Nat} {D : va_G} {cI cB cZ : ClassId} {ws : va_W} {rest : List Value} {ls : Array Slot} {a : Nat} {fs : List Value} {v : Value} (S : SF p m c cc nL s args RX11) (hK : KK D cI cB cZ s) (hP : va_P D vwCl ws H) (q0 : Nat) (he : ws[q0]? = some (a, .inr (8, fs))) (hv : fs[4]? = some v) (hdg : decode cc pc = .ok (.getfield 426, 3)) (kk : W p l e R s m args below meth c H locs cells slots Q (F0 m (pc + 3) ls (v :: rest))) : W p l e R s m args below meth c H locs cells slots Q (F0 m pc ls (.ref a :: rest)) :=
  va_get (C := RX7) (T := TX7) (N := 10) S.1 S.2.1 S.2.2.2.2 hin_RX7 S.2.2.2.1 hK.1 hP q0 he rfl 4 (by decide) (S.2.2.2.2 _ (wk1_12 2 rfl rfl)) (fun _ h9 => h9) hv hdg kk
set_option maxRecDepth 100000 in
theorem gf_RX11_435 {p : Program} {l : Launch} {e : Env} {R : Room} {s : State} {m : MethodId} {args : Array Value} {below : List Frame} {meth : Method} {c : Code} {H : Heap} {locs : List Loc} {cells slots : Nat} {Q : State → Prop} {cc : ByteArray} {nL pc : Nat} {D : va_G} {cI cB cZ : ClassId} {ws : va_W} {rest : List Value} {ls : Array Slot} {a : Nat} {fs : List Value} {v : Value} (S : SF p m c cc nL s args RX11) (hK : KK D cI cB cZ s) (hP : va_P D vwCl ws H) (q0 : Nat) (he : ws[q0]? = some (a, .inr (8, fs))) (hv : fs[5]? = some v) (hdg : decode cc pc = .ok (.getfield 435, 3)) (kk : W p l e R s m args below meth c H locs cells slots Q (F0 m (pc + 3) ls (v :: rest))) : W p l e R s m args below meth c H locs cells slots Q (F0 m pc ls (.ref a :: rest)) :=
  va_get (C := RX7) (T := TX7) (N := 10) S.1 S.2.1 S.2.2.2.2 hin_RX7 S.2.2.2.1 hK.1 hP q0 he rfl 5 (by decide) (S.2.2.2.2 _ (wk1_12 4 rfl rfl)) (fun _ h9 => h9) hv hdg kk
set_option maxRecDepth 100000 in
theorem gf_RX11_429 {p : Program} {l : Launch} {e : Env} {R : Room} {s : State} {m : MethodId} {args : Array Value} {below : List Frame} {meth : Method} {c : Code} {H : Heap} {locs : List Loc} {cells slots : Nat} {Q : State → Prop} {cc : ByteArray} {nL pc : Nat} {D : va_G} {cI cB cZ : ClassId} {ws : va_W} {rest : List Value} {ls : Array Slot} {a : Nat} {fs : List Value} {v : Value} (S : SF p m c cc nL s args RX11) (hK : KK D cI cB cZ s) (hP : va_P D vwCl ws H) (q0 : Nat) (he : ws[q0]? = some (a, .inr (8, fs))) (hv : fs[6]? = some v) (hdg : decode cc pc = .ok (.getfield 429, 3)) (kk : W p l e R s m args below meth c H locs cells slots Q (F0 m (pc + 3) ls (v :: rest))) : W p l e R s m args below meth c H locs cells slots Q (F0 m pc ls (.ref a :: rest)) :=
  va_get (C := RX7) (T := TX7) (N := 10) S.1 S.2.1 S.2.2.2.2 hin_RX7 S.2.2.2.1 hK.1 hP q0 he rfl 6 (by decide) (S.2.2.2.2 _ (wk1_12 6 rfl rfl)) (fun _ h9 => h9) hv hdg kk
set_option maxRecDepth 100000 in
theorem gf_RX11_311 {p : Program} {l : Launch} {e : Env} {R : Room} {s : State} {m : MethodId} {args : Array Value} {below : List Frame} {meth : Method} {c : Code} {H : Heap} {locs : List Loc} {cells slots : Nat} {Q : State → Prop} {cc : ByteArray} {nL pc : Nat} {D : va_G} {cI cB cZ : ClassId} {ws : va_W} {rest : List Value} {ls : Array Slot} {a : Nat} {fs : List Value} {v : Value} (S : SF p m c cc nL s args RX11) (hK : KK D cI cB cZ s) (hP : va_P D vwCl ws H) (q0 : Nat) (he : ws[q0]? = some (a, .inr (12, fs))) (hv : fs[1]? = some v) (hdg : decode cc pc = .ok (.getfield 311, 3)) (kk : W p l e R s m args below meth c H locs cells slots Q (F0 m (pc + 3) ls (v :: rest))) : W p l e R s m args below meth c H locs cells slots Q (F0 m pc ls (.ref a :: rest)) :=
  va_get (C := RX11) (T := TX11) (N := 16) S.1 S.2.1 S.2.2.2.2 hin_RX11 S.2.2.2.1 hK.1 hP q0 he rfl 1 (by decide) (S.2.2.2.2 _ (wk1_19 9 rfl rfl)) (fun _ h9 => h9) hv hdg kk
set_option maxRecDepth 100000 in
theorem gf_RX11_314 {p : Program} {l : Launch} {e : Env} {R : Room} {s : State} {m : MethodId} {args : Array Value} {below : List Frame} {meth : Method} {c : Code} {H : Heap} {locs : List Loc} {cells slots : Nat} {Q : State → Prop} {cc : ByteArray} {nL pc : Nat} {D : va_G} {cI cB cZ : ClassId} {ws : va_W} {rest : List Value} {ls : Array Slot} {a : Nat} {fs : List Value} {v : Value} (S : SF p m c cc nL s args RX11) (hK : KK D cI cB cZ s) (hP : va_P D vwCl ws H) (q0 : Nat) (he : ws[q0]? = some (a, .inr (8, fs))) (hv : fs[7]? = some v) (hdg : decode cc pc = .ok (.getfield 314, 3)) (kk : W p l e R s m args below meth c H locs cells slots Q (F0 m (pc + 3) ls (v :: rest))) : W p l e R s m args below meth c H locs cells slots Q (F0 m pc ls (.ref a :: rest)) :=
  va_get (C := RX7) (T := TX7) (N := 10) S.1 S.2.1 S.2.2.2.2 hin_RX7 S.2.2.2.1 hK.1 hP q0 he rfl 7 (by decide) (S.2.2.2.2 _ (wk1_12 8 rfl rfl)) (fun _ h9 => h9) hv hdg kk
set_option maxRecDepth 100000 in
theorem kS_RX11_184 : CalS RX11 184 yX7_put cX7_put 3 none 3 := ⟨⟨wk4_0 7 rfl rfl, wk3_1 11 rfl rfl, wk1_0 7 rfl rfl, wk3_2 0 rfl rfl⟩, ⟨nmh_8.1, nmh_8.2, pd_69⟩⟩
set_option maxRecDepth 100000 in
theorem pf_RX11_311 {p : Program} {l : Launch} {e : Env} {R : Room} {s : State} {m : MethodId} {args : Array Value} {below : List Frame} {meth : Method} {c : Code} {H : Heap} {locs : List Loc} {cells slots : Nat} {Q : State → Prop} {cc : ByteArray} {nL pc : Nat} {D : va_G} {cI cB cZ : ClassId} {ws : va_W} {rest : List Value} {ls : Array Slot} {a : Nat} {fs : List Value} {v : Value} {A : Nat → Prop} {H0 : Heap} (S : SF p m c cc nL s args RX11) (hK : KK D cI cB cZ s) (hP : va_P D vwCl ws H) (hD : va_D A ws) (hS : va_S A H0 H locs) (q0 : Nat) (he : ws[q0]? = some (a, .inr (12, fs))) (hl : 1 < fs.length) (hn : narrow (tyX11 1) v = v) (hfit : fits (tyX11 1) v = true) (hdg : decode cc pc = .ok (.putfield 311, 3)) (kk : ∀ (H1 : Heap) (locs1 : List Loc), va_P D vwCl (ws.set q0 (a, .inr (12, fs.set 1 v))) H1 → va_D A (ws.set q0 (a, .inr (12, fs.set 1 v))) → va_S A H0 H1 locs1 → W p l e R s m args below meth c H1 locs1 cells slots Q (F0 m (pc + 3) ls rest)) : W p l e R s m args below meth c H locs cells slots Q (F0 m pc ls (v :: .ref a :: rest)) :=
  va_put (C := RX11) (T := TX11) (N := 16) S.1 S.2.1 S.2.2.2.2 hin_RX11 tyX11 tyX11_ok nmX11 S.2.2.2.1 hK.1 hP hD hS q0 he rfl 1 (by decide) (S.2.2.2.2 _ (wk1_19 9 rfl rfl)) (fun _ h9 => h9) rfl (tyX11_ok 1 (by decide)) hn hfit hl hdg kk
set_option maxRecDepth 100000 in
theorem gf_RX11_502 {p : Program} {l : Launch} {e : Env} {R : Room} {s : State} {m : MethodId} {args : Array Value} {below : List Frame} {meth : Method} {c : Code} {H : Heap} {locs : List Loc} {cells slots : Nat} {Q : State → Prop} {cc : ByteArray} {nL pc : Nat} {D : va_G} {cI cB cZ : ClassId} {ws : va_W} {rest : List Value} {ls : Array Slot} {a : Nat} {fs : List Value} {v : Value} (S : SF p m c cc nL s args RX11) (hK : KK D cI cB cZ s) (hP : va_P D vwCl ws H) (q0 : Nat) (he : ws[q0]? = some (a, .inr (12, fs))) (hv : fs[2]? = some v) (hdg : decode cc pc = .ok (.getfield 502, 3)) (kk : W p l e R s m args below meth c H locs cells slots Q (F0 m (pc + 3) ls (v :: rest))) : W p l e R s m args below meth c H locs cells slots Q (F0 m pc ls (.ref a :: rest)) :=
  va_get (C := RX11) (T := TX11) (N := 16) S.1 S.2.1 S.2.2.2.2 hin_RX11 S.2.2.2.1 hK.1 hP q0 he rfl 2 (by decide) (S.2.2.2.2 _ (wk1_19 10 rfl rfl)) (fun _ h9 => h9) hv hdg kk
set_option maxRecDepth 100000 in
theorem pf_RX11_502 {p : Program} {l : Launch} {e : Env} {R : Room} {s : State} {m : MethodId} {args : Array Value} {below : List Frame} {meth : Method} {c : Code} {H : Heap} {locs : List Loc} {cells slots : Nat} {Q : State → Prop} {cc : ByteArray} {nL pc : Nat} {D : va_G} {cI cB cZ : ClassId} {ws : va_W} {rest : List Value} {ls : Array Slot} {a : Nat} {fs : List Value} {v : Value} {A : Nat → Prop} {H0 : Heap} (S : SF p m c cc nL s args RX11) (hK : KK D cI cB cZ s) (hP : va_P D vwCl ws H) (hD : va_D A ws) (hS : va_S A H0 H locs) (q0 : Nat) (he : ws[q0]? = some (a, .inr (12, fs))) (hl : 2 < fs.length) (hn : narrow (tyX11 2) v = v) (hfit : fits (tyX11 2) v = true) (hdg : decode cc pc = .ok (.putfield 502, 3)) (kk : ∀ (H1 : Heap) (locs1 : List Loc), va_P D vwCl (ws.set q0 (a, .inr (12, fs.set 2 v))) H1 → va_D A (ws.set q0 (a, .inr (12, fs.set 2 v))) → va_S A H0 H1 locs1 → W p l e R s m args below meth c H1 locs1 cells slots Q (F0 m (pc + 3) ls rest)) : W p l e R s m args below meth c H locs cells slots Q (F0 m pc ls (v :: .ref a :: rest)) :=
  va_put (C := RX11) (T := TX11) (N := 16) S.1 S.2.1 S.2.2.2.2 hin_RX11 tyX11 tyX11_ok nmX11 S.2.2.2.1 hK.1 hP hD hS q0 he rfl 2 (by decide) (S.2.2.2.2 _ (wk1_19 10 rfl rfl)) (fun _ h9 => h9) rfl (tyX11_ok 2 (by decide)) hn hfit hl hdg kk
set_option maxRecDepth 100000 in
theorem gf_RX11_321 {p : Program} {l : Launch} {e : Env} {R : Room} {s : State} {m : MethodId} {args : Array Value} {below : List Frame} {meth : Method} {c : Code} {H : Heap} {locs : List Loc} {cells slots : Nat} {Q : State → Prop} {cc : ByteArray} {nL pc : Nat} {D : va_G} {cI cB cZ : ClassId} {ws : va_W} {rest : List Value} {ls : Array Slot} {a : Nat} {fs : List Value} {v : Value} (S : SF p m c cc nL s args RX11) (hK : KK D cI cB cZ s) (hP : va_P D vwCl ws H) (q0 : Nat) (he : ws[q0]? = some (a, .inr (8, fs))) (hv : fs[8]? = some v) (hdg : decode cc pc = .ok (.getfield 321, 3)) (kk : W p l e R s m args below meth c H locs cells slots Q (F0 m (pc + 3) ls (v :: rest))) : W p l e R s m args below meth c H locs cells slots Q (F0 m pc ls (.ref a :: rest)) :=
  va_get (C := RX7) (T := TX7) (N := 10) S.1 S.2.1 S.2.2.2.2 hin_RX7 S.2.2.2.1 hK.1 hP q0 he rfl 8 (by decide) (S.2.2.2.2 _ (wk1_12 10 rfl rfl)) (fun _ h9 => h9) hv hdg kk
set_option maxRecDepth 100000 in
theorem kS_RX11_192 : CalS RX11 192 yX7_at cX7_at 2 (some .int) 2 := ⟨⟨wk4_0 8 rfl rfl, wk3_1 8 rfl rfl, wk1_0 7 rfl rfl, wk3_1 9 rfl rfl⟩, ⟨nmh_8.1, nmh_8.2, pd_67⟩⟩
set_option maxRecDepth 100000 in
theorem kV_RX11_317 : CalV RX11 317 yX11_isOff cX11_isOff 3 (some .boolean) 2 := ⟨⟨wk4_14 5 rfl rfl, wk4_14 7 rfl rfl, wT_sel 38 _ rfl rfl rfl, wk1_0 1 rfl rfl, wk4_14 8 rfl rfl⟩, ⟨nmh_0.1, nmh_0.2, pd_21⟩⟩
set_option maxRecDepth 100000 in
theorem kV_RX11_470 : CalV RX11 470 yX11_savedFrom cX11_savedFrom 5 (some .int) 2 := ⟨⟨wk5_16 9 rfl rfl, wk5_16 11 rfl rfl, wT_sel 58 _ rfl rfl rfl, wk1_0 1 rfl rfl, wk5_17 0 rfl rfl⟩, ⟨nmh_0.1, nmh_0.2, pd_17⟩⟩
set_option maxRecDepth 100000 in
theorem gf_RX7_45 {p : Program} {l : Launch} {e : Env} {R : Room} {s : State} {m : MethodId} {args : Array Value} {below : List Frame} {meth : Method} {c : Code} {H : Heap} {locs : List Loc} {cells slots : Nat} {Q : State → Prop} {cc : ByteArray} {nL pc : Nat} {D : va_G} {cI cB cZ : ClassId} {ws : va_W} {rest : List Value} {ls : Array Slot} {a : Nat} {fs : List Value} {v : Value} (S : SF p m c cc nL s args RX7) (hK : KK D cI cB cZ s) (hP : va_P D vwCl ws H) (q0 : Nat) (he : ws[q0]? = some (a, .inr (8, fs))) (hv : fs[9]? = some v) (hdg : decode cc pc = .ok (.getfield 45, 3)) (kk : W p l e R s m args below meth c H locs cells slots Q (F0 m (pc + 3) ls (v :: rest))) : W p l e R s m args below meth c H locs cells slots Q (F0 m pc ls (.ref a :: rest)) :=
  va_get (C := RX7) (T := TX7) (N := 10) S.1 S.2.1 S.2.2.2.2 hin_RX7 S.2.2.2.1 hK.1 hP q0 he rfl 9 (by decide) (S.2.2.2.2 _ (wk1_12 11 rfl rfl)) (fun _ h9 => h9) hv hdg kk
set_option maxRecDepth 100000 in
theorem kS_RX7_48 : CalS RX7 48 yX7_at cX7_at 2 (some .int) 2 := ⟨⟨wk3_1 7 rfl rfl, wk3_1 8 rfl rfl, wk1_0 7 rfl rfl, wk3_1 9 rfl rfl⟩, ⟨nmh_8.1, nmh_8.2, pd_67⟩⟩
set_option maxRecDepth 100000 in
theorem kS_RX7_52 : CalS RX7 52 yX7_put cX7_put 3 none 3 := ⟨⟨wk3_1 10 rfl rfl, wk3_1 11 rfl rfl, wk1_0 7 rfl rfl, wk3_2 0 rfl rfl⟩, ⟨nmh_8.1, nmh_8.2, pd_69⟩⟩
set_option maxRecDepth 100000 in
theorem gf_RX11_517 {p : Program} {l : Launch} {e : Env} {R : Room} {s : State} {m : MethodId} {args : Array Value} {below : List Frame} {meth : Method} {c : Code} {H : Heap} {locs : List Loc} {cells slots : Nat} {Q : State → Prop} {cc : ByteArray} {nL pc : Nat} {D : va_G} {cI cB cZ : ClassId} {ws : va_W} {rest : List Value} {ls : Array Slot} {a : Nat} {fs : List Value} {v : Value} (S : SF p m c cc nL s args RX11) (hK : KK D cI cB cZ s) (hP : va_P D vwCl ws H) (q0 : Nat) (he : ws[q0]? = some (a, .inr (12, fs))) (hv : fs[3]? = some v) (hdg : decode cc pc = .ok (.getfield 517, 3)) (kk : W p l e R s m args below meth c H locs cells slots Q (F0 m (pc + 3) ls (v :: rest))) : W p l e R s m args below meth c H locs cells slots Q (F0 m pc ls (.ref a :: rest)) :=
  va_get (C := RX11) (T := TX11) (N := 16) S.1 S.2.1 S.2.2.2.2 hin_RX11 S.2.2.2.1 hK.1 hP q0 he rfl 3 (by decide) (S.2.2.2.2 _ (wk1_19 11 rfl rfl)) (fun _ h9 => h9) hv hdg kk
set_option maxRecDepth 100000 in
theorem kV_RX11_144 : CalV RX11 144 yX7_change cX7_change 3 none 2 := ⟨⟨wk3_1 3 rfl rfl, wk3_1 4 rfl rfl, wk3_1 5 rfl rfl, wk1_0 7 rfl rfl, wk3_1 6 rfl rfl⟩, ⟨nmh_8.1, nmh_8.2, pd_20⟩⟩
set_option maxRecDepth 100000 in
theorem pf_RX11_517 {p : Program} {l : Launch} {e : Env} {R : Room} {s : State} {m : MethodId} {args : Array Value} {below : List Frame} {meth : Method} {c : Code} {H : Heap} {locs : List Loc} {cells slots : Nat} {Q : State → Prop} {cc : ByteArray} {nL pc : Nat} {D : va_G} {cI cB cZ : ClassId} {ws : va_W} {rest : List Value} {ls : Array Slot} {a : Nat} {fs : List Value} {v : Value} {A : Nat → Prop} {H0 : Heap} (S : SF p m c cc nL s args RX11) (hK : KK D cI cB cZ s) (hP : va_P D vwCl ws H) (hD : va_D A ws) (hS : va_S A H0 H locs) (q0 : Nat) (he : ws[q0]? = some (a, .inr (12, fs))) (hl : 3 < fs.length) (hn : narrow (tyX11 3) v = v) (hfit : fits (tyX11 3) v = true) (hdg : decode cc pc = .ok (.putfield 517, 3)) (kk : ∀ (H1 : Heap) (locs1 : List Loc), va_P D vwCl (ws.set q0 (a, .inr (12, fs.set 3 v))) H1 → va_D A (ws.set q0 (a, .inr (12, fs.set 3 v))) → va_S A H0 H1 locs1 → W p l e R s m args below meth c H1 locs1 cells slots Q (F0 m (pc + 3) ls rest)) : W p l e R s m args below meth c H locs cells slots Q (F0 m pc ls (v :: .ref a :: rest)) :=
  va_put (C := RX11) (T := TX11) (N := 16) S.1 S.2.1 S.2.2.2.2 hin_RX11 tyX11 tyX11_ok nmX11 S.2.2.2.1 hK.1 hP hD hS q0 he rfl 3 (by decide) (S.2.2.2.2 _ (wk1_19 11 rfl rfl)) (fun _ h9 => h9) rfl (tyX11_ok 3 (by decide)) hn hfit hl hdg kk
set_option maxRecDepth 100000 in
theorem gf_RX11_520 {p : Program} {l : Launch} {e : Env} {R : Room} {s : State} {m : MethodId} {args : Array Value} {below : List Frame} {meth : Method} {c : Code} {H : Heap} {locs : List Loc} {cells slots : Nat} {Q : State → Prop} {cc : ByteArray} {nL pc : Nat} {D : va_G} {cI cB cZ : ClassId} {ws : va_W} {rest : List Value} {ls : Array Slot} {a : Nat} {fs : List Value} {v : Value} (S : SF p m c cc nL s args RX11) (hK : KK D cI cB cZ s) (hP : va_P D vwCl ws H) (q0 : Nat) (he : ws[q0]? = some (a, .inr (8, fs))) (hv : fs[9]? = some v) (hdg : decode cc pc = .ok (.getfield 520, 3)) (kk : W p l e R s m args below meth c H locs cells slots Q (F0 m (pc + 3) ls (v :: rest))) : W p l e R s m args below meth c H locs cells slots Q (F0 m pc ls (.ref a :: rest)) :=
  va_get (C := RX7) (T := TX7) (N := 10) S.1 S.2.1 S.2.2.2.2 hin_RX7 S.2.2.2.1 hK.1 hP q0 he rfl 9 (by decide) (S.2.2.2.2 _ (wk1_13 0 rfl rfl)) (fun _ h9 => h9) hv hdg kk
set_option maxRecDepth 100000 in
theorem hin_RX8 : ∀ w ∈ u_ws RX8 TX8 2, w ∈ wT := hin_all (C := RX8) (T := TX8) (n := 2) (hin_s (hin_s (fun k hk => absurd hk (Nat.not_lt_zero k)) (wk1_7 0 rfl rfl)) (wk1_7 2 rfl rfl))
set_option maxRecDepth 100000 in
theorem gf_RX8_13 {p : Program} {l : Launch} {e : Env} {R : Room} {s : State} {m : MethodId} {args : Array Value} {below : List Frame} {meth : Method} {c : Code} {H : Heap} {locs : List Loc} {cells slots : Nat} {Q : State → Prop} {cc : ByteArray} {nL pc : Nat} {D : va_G} {cI cB cZ : ClassId} {ws : va_W} {rest : List Value} {ls : Array Slot} {a : Nat} {fs : List Value} {v : Value} (S : SF p m c cc nL s args RX8) (hK : KK D cI cB cZ s) (hP : va_P D vwCl ws H) (q0 : Nat) (he : ws[q0]? = some (a, .inr (9, fs))) (hv : fs[1]? = some v) (hdg : decode cc pc = .ok (.getfield 13, 3)) (kk : W p l e R s m args below meth c H locs cells slots Q (F0 m (pc + 3) ls (v :: rest))) : W p l e R s m args below meth c H locs cells slots Q (F0 m pc ls (.ref a :: rest)) :=
  va_get (C := RX8) (T := TX8) (N := 2) S.1 S.2.1 S.2.2.2.2 hin_RX8 S.2.2.2.1 hK.1 hP q0 he rfl 1 (by decide) (S.2.2.2.2 _ (wk1_6 11 rfl rfl)) (fun _ h9 => h9) hv hdg kk
theorem cq_lt_24_0 : ¬((24 : Int32) < 0) := by decide
set_option maxRecDepth 100000 in
theorem gf_RX8_9 {p : Program} {l : Launch} {e : Env} {R : Room} {s : State} {m : MethodId} {args : Array Value} {below : List Frame} {meth : Method} {c : Code} {H : Heap} {locs : List Loc} {cells slots : Nat} {Q : State → Prop} {cc : ByteArray} {nL pc : Nat} {D : va_G} {cI cB cZ : ClassId} {ws : va_W} {rest : List Value} {ls : Array Slot} {a : Nat} {fs : List Value} {v : Value} (S : SF p m c cc nL s args RX8) (hK : KK D cI cB cZ s) (hP : va_P D vwCl ws H) (q0 : Nat) (he : ws[q0]? = some (a, .inr (9, fs))) (hv : fs[0]? = some v) (hdg : decode cc pc = .ok (.getfield 9, 3)) (kk : W p l e R s m args below meth c H locs cells slots Q (F0 m (pc + 3) ls (v :: rest))) : W p l e R s m args below meth c H locs cells slots Q (F0 m pc ls (.ref a :: rest)) :=
  va_get (C := RX8) (T := TX8) (N := 2) S.1 S.2.1 S.2.2.2.2 hin_RX8 S.2.2.2.1 hK.1 hP q0 he rfl 0 (by decide) (S.2.2.2.2 _ (wk1_6 9 rfl rfl)) (fun _ h9 => h9) hv hdg kk
set_option maxRecDepth 100000 in
theorem kS_RX8_17 : CalS RX8 17 yX7_put cX7_put 3 none 3 := ⟨⟨wk3_3 9 rfl rfl, wk3_1 11 rfl rfl, wk1_0 7 rfl rfl, wk3_2 0 rfl rfl⟩, ⟨nmh_8.1, nmh_8.2, pd_69⟩⟩
set_option maxRecDepth 100000 in
theorem pf_RX8_13 {p : Program} {l : Launch} {e : Env} {R : Room} {s : State} {m : MethodId} {args : Array Value} {below : List Frame} {meth : Method} {c : Code} {H : Heap} {locs : List Loc} {cells slots : Nat} {Q : State → Prop} {cc : ByteArray} {nL pc : Nat} {D : va_G} {cI cB cZ : ClassId} {ws : va_W} {rest : List Value} {ls : Array Slot} {a : Nat} {fs : List Value} {v : Value} {A : Nat → Prop} {H0 : Heap} (S : SF p m c cc nL s args RX8) (hK : KK D cI cB cZ s) (hP : va_P D vwCl ws H) (hD : va_D A ws) (hS : va_S A H0 H locs) (q0 : Nat) (he : ws[q0]? = some (a, .inr (9, fs))) (hl : 1 < fs.length) (hn : narrow (tyX8 1) v = v) (hfit : fits (tyX8 1) v = true) (hdg : decode cc pc = .ok (.putfield 13, 3)) (kk : ∀ (H1 : Heap) (locs1 : List Loc), va_P D vwCl (ws.set q0 (a, .inr (9, fs.set 1 v))) H1 → va_D A (ws.set q0 (a, .inr (9, fs.set 1 v))) → va_S A H0 H1 locs1 → W p l e R s m args below meth c H1 locs1 cells slots Q (F0 m (pc + 3) ls rest)) : W p l e R s m args below meth c H locs cells slots Q (F0 m pc ls (v :: .ref a :: rest)) :=
  va_put (C := RX8) (T := TX8) (N := 2) S.1 S.2.1 S.2.2.2.2 hin_RX8 tyX8 tyX8_ok nmX8 S.2.2.2.1 hK.1 hP hD hS q0 he rfl 1 (by decide) (S.2.2.2.2 _ (wk1_6 11 rfl rfl)) (fun _ h9 => h9) rfl (tyX8_ok 1 (by decide)) hn hfit hl hdg kk
theorem cq_lt_16_0 : ¬((16 : Int32) < 0) := by decide
theorem cq_lt_8_0 : ¬((8 : Int32) < 0) := by decide
theorem cq_lt_m8_0 : ¬¬((-8 : Int32) < (0)) := by decide
set_option maxRecDepth 100000 in
theorem kS_RX8_29 : CalS RX8 29 yX7_at cX7_at 2 (some .int) 2 := ⟨⟨wk4_12 11 rfl rfl, wk3_1 8 rfl rfl, wk1_0 7 rfl rfl, wk3_1 9 rfl rfl⟩, ⟨nmh_8.1, nmh_8.2, pd_67⟩⟩
theorem cq_le_4_0 : ¬((4 : Int32) ≤ 0) := by decide
set_option maxRecDepth 100000 in
theorem kV_RX8_33 : CalV RX8 33 yX8_at cX8_at 2 (some .int) 1 := ⟨⟨wk6_7 10 rfl rfl, wk4_12 8 rfl rfl, wk4_12 9 rfl rfl, wk1_0 4 rfl rfl, wk4_12 10 rfl rfl⟩, ⟨nmh_9.1, nmh_9.2, pd_8⟩⟩
theorem cq_le_4_1 : ¬((4 : Int32) ≤ 1) := by decide
theorem cq_le_4_2 : ¬((4 : Int32) ≤ 2) := by decide
theorem cq_le_4_3 : ¬((4 : Int32) ≤ 3) := by decide
theorem cq_le_4_4 : ¬¬((4 : Int32) ≤ 4) := by decide
set_option maxRecDepth 100000 in
theorem gf_RX11_21 {p : Program} {l : Launch} {e : Env} {R : Room} {s : State} {m : MethodId} {args : Array Value} {below : List Frame} {meth : Method} {c : Code} {H : Heap} {locs : List Loc} {cells slots : Nat} {Q : State → Prop} {cc : ByteArray} {nL pc : Nat} {D : va_G} {cI cB cZ : ClassId} {ws : va_W} {rest : List Value} {ls : Array Slot} {a : Nat} {fs : List Value} {v : Value} (S : SF p m c cc nL s args RX11) (hK : KK D cI cB cZ s) (hP : va_P D vwCl ws H) (q0 : Nat) (he : ws[q0]? = some (a, .inr (12, fs))) (hv : fs[5]? = some v) (hdg : decode cc pc = .ok (.getfield 21, 3)) (kk : W p l e R s m args below meth c H locs cells slots Q (F0 m (pc + 3) ls (v :: rest))) : W p l e R s m args below meth c H locs cells slots Q (F0 m pc ls (.ref a :: rest)) :=
  va_get (C := RX11) (T := TX11) (N := 16) S.1 S.2.1 S.2.2.2.2 hin_RX11 S.2.2.2.1 hK.1 hP q0 he rfl 5 (by decide) (S.2.2.2.2 _ (wk2_0 1 rfl rfl)) (fun _ h9 => h9) hv hdg kk
set_option maxRecDepth 100000 in
theorem kV_RX11_152 : CalV RX11 152 yX8_length cX8_length 1 (some .int) 0 := ⟨⟨wk3_3 1 rfl rfl, wk3_3 2 rfl rfl, wk3_3 3 rfl rfl, wk1_0 4 rfl rfl, wk3_3 4 rfl rfl⟩, ⟨nmh_9.1, nmh_9.2, pd_1⟩⟩
set_option maxRecDepth 100000 in
theorem kV_RX11_153 : CalV RX11 153 yX8_add cX8_add 3 none 1 := ⟨⟨wk3_3 5 rfl rfl, wk3_3 6 rfl rfl, wk3_3 7 rfl rfl, wk1_0 4 rfl rfl, wk3_3 8 rfl rfl⟩, ⟨nmh_9.1, nmh_9.2, pd_14⟩⟩
set_option maxRecDepth 100000 in
theorem kV_RX11_489 : CalV RX11 489 yX11_sets cX11_sets 3 (some .boolean) 2 := ⟨⟨wk6_0 7 rfl rfl, wk6_0 9 rfl rfl, wT_sel 60 _ rfl rfl rfl, wk1_0 1 rfl rfl, wk6_0 10 rfl rfl⟩, ⟨nmh_0.1, nmh_0.2, pd_21⟩⟩
noncomputable def sxX11_price_17 : List UInt8 := []
noncomputable def sxX11_price_16 : List UInt8 := 172 :: sxX11_price_17
noncomputable def sxX11_price_13 : List UInt8 := 184 :: 0 :: 177 :: sxX11_price_16
noncomputable def sxX11_price_10 : List UInt8 := 17 :: 3 :: 232 :: sxX11_price_13
noncomputable def sxX11_price_9 : List UInt8 := 3 :: sxX11_price_10
noncomputable def sxX11_price_8 : List UInt8 := 28 :: sxX11_price_9
noncomputable def sxX11_price_7 : List UInt8 := 27 :: sxX11_price_8
noncomputable def sxX11_price_4 : List UInt8 := 180 :: 0 :: 174 :: sxX11_price_7
noncomputable def sxX11_price_1 : List UInt8 := 180 :: 0 :: 47 :: sxX11_price_4
noncomputable def sxX11_price_0 : List UInt8 := 42 :: sxX11_price_1
theorem shX11_price_0 : cX11_price.data.toList.drop 0 = sxX11_price_0 := rfl
theorem shX11_price_1 : cX11_price.data.toList.drop 1 = sxX11_price_1 := dSn 1 shX11_price_0
theorem shX11_price_4 : cX11_price.data.toList.drop 4 = sxX11_price_4 := dSn 3 shX11_price_1
theorem shX11_price_7 : cX11_price.data.toList.drop 7 = sxX11_price_7 := dSn 3 shX11_price_4
theorem shX11_price_8 : cX11_price.data.toList.drop 8 = sxX11_price_8 := dSn 1 shX11_price_7
theorem shX11_price_9 : cX11_price.data.toList.drop 9 = sxX11_price_9 := dSn 1 shX11_price_8
theorem shX11_price_10 : cX11_price.data.toList.drop 10 = sxX11_price_10 := dSn 1 shX11_price_9
theorem shX11_price_13 : cX11_price.data.toList.drop 13 = sxX11_price_13 := dSn 3 shX11_price_10
theorem shX11_price_16 : cX11_price.data.toList.drop 16 = sxX11_price_16 := dSn 3 shX11_price_13
theorem dX11_price_0 : decode cX11_price 0 = .ok (.aload_n 0, 1) := oc_42 shX11_price_0
theorem dX11_price_1 : decode cX11_price 1 = .ok (.getfield 47, 3) := oc_180 shX11_price_1
theorem dX11_price_4 : decode cX11_price 4 = .ok (.getfield 174, 3) := oc_180 shX11_price_4
theorem dX11_price_7 : decode cX11_price 7 = .ok (.iload_n 1, 1) := oc_27 shX11_price_7
theorem dX11_price_8 : decode cX11_price 8 = .ok (.iload_n 2, 1) := oc_28 shX11_price_8
theorem dX11_price_9 : decode cX11_price 9 = .ok (.iconst 0, 1) := oc_3 shX11_price_9
theorem dX11_price_10 : decode cX11_price 10 = .ok (.sipush 1000, 3) := oc_17 shX11_price_10 sgw_3_232
theorem dX11_price_13 : decode cX11_price 13 = .ok (.invokestatic 177, 3) := oc_184 shX11_price_13
theorem dX11_price_16 : decode cX11_price 16 = .ok (.ireturn, 1) := oc_172 shX11_price_16
noncomputable def sxX11_thefts_17 : List UInt8 := []
noncomputable def sxX11_thefts_16 : List UInt8 := 172 :: sxX11_thefts_17
noncomputable def sxX11_thefts_13 : List UInt8 := 184 :: 0 :: 177 :: sxX11_thefts_16
noncomputable def sxX11_thefts_10 : List UInt8 := 17 :: 3 :: 232 :: sxX11_thefts_13
noncomputable def sxX11_thefts_9 : List UInt8 := 3 :: sxX11_thefts_10
noncomputable def sxX11_thefts_8 : List UInt8 := 28 :: sxX11_thefts_9
noncomputable def sxX11_thefts_7 : List UInt8 := 27 :: sxX11_thefts_8
noncomputable def sxX11_thefts_4 : List UInt8 := 180 :: 1 :: 211 :: sxX11_thefts_7
noncomputable def sxX11_thefts_1 : List UInt8 := 180 :: 0 :: 47 :: sxX11_thefts_4
noncomputable def sxX11_thefts_0 : List UInt8 := 42 :: sxX11_thefts_1
theorem shX11_thefts_0 : cX11_thefts.data.toList.drop 0 = sxX11_thefts_0 := rfl
theorem shX11_thefts_1 : cX11_thefts.data.toList.drop 1 = sxX11_thefts_1 := dSn 1 shX11_thefts_0
theorem shX11_thefts_4 : cX11_thefts.data.toList.drop 4 = sxX11_thefts_4 := dSn 3 shX11_thefts_1
theorem shX11_thefts_7 : cX11_thefts.data.toList.drop 7 = sxX11_thefts_7 := dSn 3 shX11_thefts_4
theorem shX11_thefts_8 : cX11_thefts.data.toList.drop 8 = sxX11_thefts_8 := dSn 1 shX11_thefts_7
theorem shX11_thefts_9 : cX11_thefts.data.toList.drop 9 = sxX11_thefts_9 := dSn 1 shX11_thefts_8
theorem shX11_thefts_10 : cX11_thefts.data.toList.drop 10 = sxX11_thefts_10 := dSn 1 shX11_thefts_9
theorem shX11_thefts_13 : cX11_thefts.data.toList.drop 13 = sxX11_thefts_13 := dSn 3 shX11_thefts_10
theorem shX11_thefts_16 : cX11_thefts.data.toList.drop 16 = sxX11_thefts_16 := dSn 3 shX11_thefts_13
theorem dX11_thefts_0 : decode cX11_thefts 0 = .ok (.aload_n 0, 1) := oc_42 shX11_thefts_0
theorem dX11_thefts_1 : decode cX11_thefts 1 = .ok (.getfield 47, 3) := oc_180 shX11_thefts_1
theorem dX11_thefts_4 : decode cX11_thefts 4 = .ok (.getfield 467, 3) := oc_180 shX11_thefts_4
theorem dX11_thefts_7 : decode cX11_thefts 7 = .ok (.iload_n 1, 1) := oc_27 shX11_thefts_7
theorem dX11_thefts_8 : decode cX11_thefts 8 = .ok (.iload_n 2, 1) := oc_28 shX11_thefts_8
theorem dX11_thefts_9 : decode cX11_thefts 9 = .ok (.iconst 0, 1) := oc_3 shX11_thefts_9
theorem dX11_thefts_10 : decode cX11_thefts 10 = .ok (.sipush 1000, 3) := oc_17 shX11_thefts_10 sgw_3_232
theorem dX11_thefts_13 : decode cX11_thefts 13 = .ok (.invokestatic 177, 3) := oc_184 shX11_thefts_13
theorem dX11_thefts_16 : decode cX11_thefts 16 = .ok (.ireturn, 1) := oc_172 shX11_thefts_16
noncomputable def sxX11_degrees_17 : List UInt8 := []
noncomputable def sxX11_degrees_16 : List UInt8 := 172 :: sxX11_degrees_17
noncomputable def sxX11_degrees_13 : List UInt8 := 184 :: 0 :: 177 :: sxX11_degrees_16
noncomputable def sxX11_degrees_11 : List UInt8 := 16 :: 40 :: sxX11_degrees_13
noncomputable def sxX11_degrees_9 : List UInt8 := 16 :: 216 :: sxX11_degrees_11
noncomputable def sxX11_degrees_8 : List UInt8 := 28 :: sxX11_degrees_9
noncomputable def sxX11_degrees_7 : List UInt8 := 27 :: sxX11_degrees_8
noncomputable def sxX11_degrees_4 : List UInt8 := 180 :: 1 :: 230 :: sxX11_degrees_7
noncomputable def sxX11_degrees_1 : List UInt8 := 180 :: 0 :: 47 :: sxX11_degrees_4
noncomputable def sxX11_degrees_0 : List UInt8 := 42 :: sxX11_degrees_1
theorem shX11_degrees_0 : cX11_degrees.data.toList.drop 0 = sxX11_degrees_0 := rfl
theorem shX11_degrees_1 : cX11_degrees.data.toList.drop 1 = sxX11_degrees_1 := dSn 1 shX11_degrees_0
theorem shX11_degrees_4 : cX11_degrees.data.toList.drop 4 = sxX11_degrees_4 := dSn 3 shX11_degrees_1
theorem shX11_degrees_7 : cX11_degrees.data.toList.drop 7 = sxX11_degrees_7 := dSn 3 shX11_degrees_4
theorem shX11_degrees_8 : cX11_degrees.data.toList.drop 8 = sxX11_degrees_8 := dSn 1 shX11_degrees_7
theorem shX11_degrees_9 : cX11_degrees.data.toList.drop 9 = sxX11_degrees_9 := dSn 1 shX11_degrees_8
theorem shX11_degrees_11 : cX11_degrees.data.toList.drop 11 = sxX11_degrees_11 := dSn 2 shX11_degrees_9
theorem shX11_degrees_13 : cX11_degrees.data.toList.drop 13 = sxX11_degrees_13 := dSn 2 shX11_degrees_11
theorem shX11_degrees_16 : cX11_degrees.data.toList.drop 16 = sxX11_degrees_16 := dSn 3 shX11_degrees_13
theorem dX11_degrees_0 : decode cX11_degrees 0 = .ok (.aload_n 0, 1) := oc_42 shX11_degrees_0
theorem dX11_degrees_1 : decode cX11_degrees 1 = .ok (.getfield 47, 3) := oc_180 shX11_degrees_1
theorem dX11_degrees_4 : decode cX11_degrees 4 = .ok (.getfield 486, 3) := oc_180 shX11_degrees_4
theorem dX11_degrees_7 : decode cX11_degrees 7 = .ok (.iload_n 1, 1) := oc_27 shX11_degrees_7
theorem dX11_degrees_8 : decode cX11_degrees 8 = .ok (.iload_n 2, 1) := oc_28 shX11_degrees_8
theorem dX11_degrees_9 : decode cX11_degrees 9 = .ok (.bipush (-40), 2) := oc_16 shX11_degrees_9 sgb_216
theorem dX11_degrees_11 : decode cX11_degrees 11 = .ok (.bipush 40, 2) := oc_16 shX11_degrees_11 sgb_40
theorem dX11_degrees_13 : decode cX11_degrees 13 = .ok (.invokestatic 177, 3) := oc_184 shX11_degrees_13
theorem dX11_degrees_16 : decode cX11_degrees 16 = .ok (.ireturn, 1) := oc_172 shX11_degrees_16
noncomputable def sxX11_feast_17 : List UInt8 := []
noncomputable def sxX11_feast_16 : List UInt8 := 172 :: sxX11_feast_17
noncomputable def sxX11_feast_13 : List UInt8 := 184 :: 0 :: 177 :: sxX11_feast_16
noncomputable def sxX11_feast_10 : List UInt8 := 17 :: 1 :: 44 :: sxX11_feast_13
noncomputable def sxX11_feast_9 : List UInt8 := 3 :: sxX11_feast_10
noncomputable def sxX11_feast_8 : List UInt8 := 28 :: sxX11_feast_9
noncomputable def sxX11_feast_7 : List UInt8 := 27 :: sxX11_feast_8
noncomputable def sxX11_feast_4 : List UInt8 := 180 :: 1 :: 236 :: sxX11_feast_7
noncomputable def sxX11_feast_1 : List UInt8 := 180 :: 0 :: 47 :: sxX11_feast_4
noncomputable def sxX11_feast_0 : List UInt8 := 42 :: sxX11_feast_1
theorem shX11_feast_0 : cX11_feast.data.toList.drop 0 = sxX11_feast_0 := rfl
theorem shX11_feast_1 : cX11_feast.data.toList.drop 1 = sxX11_feast_1 := dSn 1 shX11_feast_0
theorem shX11_feast_4 : cX11_feast.data.toList.drop 4 = sxX11_feast_4 := dSn 3 shX11_feast_1
theorem shX11_feast_7 : cX11_feast.data.toList.drop 7 = sxX11_feast_7 := dSn 3 shX11_feast_4
theorem shX11_feast_8 : cX11_feast.data.toList.drop 8 = sxX11_feast_8 := dSn 1 shX11_feast_7
theorem shX11_feast_9 : cX11_feast.data.toList.drop 9 = sxX11_feast_9 := dSn 1 shX11_feast_8
theorem shX11_feast_10 : cX11_feast.data.toList.drop 10 = sxX11_feast_10 := dSn 1 shX11_feast_9
theorem shX11_feast_13 : cX11_feast.data.toList.drop 13 = sxX11_feast_13 := dSn 3 shX11_feast_10
theorem shX11_feast_16 : cX11_feast.data.toList.drop 16 = sxX11_feast_16 := dSn 3 shX11_feast_13
theorem dX11_feast_0 : decode cX11_feast 0 = .ok (.aload_n 0, 1) := oc_42 shX11_feast_0
theorem dX11_feast_1 : decode cX11_feast 1 = .ok (.getfield 47, 3) := oc_180 shX11_feast_1
theorem dX11_feast_4 : decode cX11_feast 4 = .ok (.getfield 492, 3) := oc_180 shX11_feast_4
theorem dX11_feast_7 : decode cX11_feast 7 = .ok (.iload_n 1, 1) := oc_27 shX11_feast_7
theorem dX11_feast_8 : decode cX11_feast 8 = .ok (.iload_n 2, 1) := oc_28 shX11_feast_8
theorem dX11_feast_9 : decode cX11_feast 9 = .ok (.iconst 0, 1) := oc_3 shX11_feast_9
theorem dX11_feast_10 : decode cX11_feast 10 = .ok (.sipush 300, 3) := oc_17 shX11_feast_10 sgw_1_44
theorem dX11_feast_13 : decode cX11_feast 13 = .ok (.invokestatic 177, 3) := oc_184 shX11_feast_13
theorem dX11_feast_16 : decode cX11_feast 16 = .ok (.ireturn, 1) := oc_172 shX11_feast_16
noncomputable def sxX11_use_15 : List UInt8 := []
noncomputable def sxX11_use_14 : List UInt8 := 172 :: sxX11_use_15
noncomputable def sxX11_use_11 : List UInt8 := 184 :: 0 :: 177 :: sxX11_use_14
noncomputable def sxX11_use_10 : List UInt8 := 6 :: sxX11_use_11
noncomputable def sxX11_use_9 : List UInt8 := 3 :: sxX11_use_10
noncomputable def sxX11_use_8 : List UInt8 := 28 :: sxX11_use_9
noncomputable def sxX11_use_7 : List UInt8 := 27 :: sxX11_use_8
noncomputable def sxX11_use_4 : List UInt8 := 180 :: 1 :: 170 :: sxX11_use_7
noncomputable def sxX11_use_1 : List UInt8 := 180 :: 0 :: 47 :: sxX11_use_4
noncomputable def sxX11_use_0 : List UInt8 := 42 :: sxX11_use_1
theorem shX11_use_0 : cX11_use.data.toList.drop 0 = sxX11_use_0 := rfl
theorem shX11_use_1 : cX11_use.data.toList.drop 1 = sxX11_use_1 := dSn 1 shX11_use_0
theorem shX11_use_4 : cX11_use.data.toList.drop 4 = sxX11_use_4 := dSn 3 shX11_use_1
theorem shX11_use_7 : cX11_use.data.toList.drop 7 = sxX11_use_7 := dSn 3 shX11_use_4
theorem shX11_use_8 : cX11_use.data.toList.drop 8 = sxX11_use_8 := dSn 1 shX11_use_7
theorem shX11_use_9 : cX11_use.data.toList.drop 9 = sxX11_use_9 := dSn 1 shX11_use_8
theorem shX11_use_10 : cX11_use.data.toList.drop 10 = sxX11_use_10 := dSn 1 shX11_use_9
theorem shX11_use_11 : cX11_use.data.toList.drop 11 = sxX11_use_11 := dSn 1 shX11_use_10
theorem shX11_use_14 : cX11_use.data.toList.drop 14 = sxX11_use_14 := dSn 3 shX11_use_11
theorem dX11_use_0 : decode cX11_use 0 = .ok (.aload_n 0, 1) := oc_42 shX11_use_0
theorem dX11_use_1 : decode cX11_use 1 = .ok (.getfield 47, 3) := oc_180 shX11_use_1
theorem dX11_use_4 : decode cX11_use 4 = .ok (.getfield 426, 3) := oc_180 shX11_use_4
theorem dX11_use_7 : decode cX11_use 7 = .ok (.iload_n 1, 1) := oc_27 shX11_use_7
theorem dX11_use_8 : decode cX11_use 8 = .ok (.iload_n 2, 1) := oc_28 shX11_use_8
theorem dX11_use_9 : decode cX11_use 9 = .ok (.iconst 0, 1) := oc_3 shX11_use_9
theorem dX11_use_10 : decode cX11_use 10 = .ok (.iconst 3, 1) := oc_6 shX11_use_10
theorem dX11_use_11 : decode cX11_use 11 = .ok (.invokestatic 177, 3) := oc_184 shX11_use_11
theorem dX11_use_14 : decode cX11_use 14 = .ok (.ireturn, 1) := oc_172 shX11_use_14
noncomputable def sxX11_most_16 : List UInt8 := []
noncomputable def sxX11_most_15 : List UInt8 := 172 :: sxX11_most_16
noncomputable def sxX11_most_12 : List UInt8 := 184 :: 0 :: 177 :: sxX11_most_15
noncomputable def sxX11_most_10 : List UInt8 := 18 :: 222 :: sxX11_most_12
noncomputable def sxX11_most_9 : List UInt8 := 3 :: sxX11_most_10
noncomputable def sxX11_most_8 : List UInt8 := 28 :: sxX11_most_9
noncomputable def sxX11_most_7 : List UInt8 := 27 :: sxX11_most_8
noncomputable def sxX11_most_4 : List UInt8 := 180 :: 1 :: 179 :: sxX11_most_7
noncomputable def sxX11_most_1 : List UInt8 := 180 :: 0 :: 47 :: sxX11_most_4
noncomputable def sxX11_most_0 : List UInt8 := 42 :: sxX11_most_1
theorem shX11_most_0 : cX11_most.data.toList.drop 0 = sxX11_most_0 := rfl
theorem shX11_most_1 : cX11_most.data.toList.drop 1 = sxX11_most_1 := dSn 1 shX11_most_0
theorem shX11_most_4 : cX11_most.data.toList.drop 4 = sxX11_most_4 := dSn 3 shX11_most_1
theorem shX11_most_7 : cX11_most.data.toList.drop 7 = sxX11_most_7 := dSn 3 shX11_most_4
theorem shX11_most_8 : cX11_most.data.toList.drop 8 = sxX11_most_8 := dSn 1 shX11_most_7
theorem shX11_most_9 : cX11_most.data.toList.drop 9 = sxX11_most_9 := dSn 1 shX11_most_8
theorem shX11_most_10 : cX11_most.data.toList.drop 10 = sxX11_most_10 := dSn 1 shX11_most_9
theorem shX11_most_12 : cX11_most.data.toList.drop 12 = sxX11_most_12 := dSn 2 shX11_most_10
theorem shX11_most_15 : cX11_most.data.toList.drop 15 = sxX11_most_15 := dSn 3 shX11_most_12
theorem dX11_most_0 : decode cX11_most 0 = .ok (.aload_n 0, 1) := oc_42 shX11_most_0
theorem dX11_most_1 : decode cX11_most 1 = .ok (.getfield 47, 3) := oc_180 shX11_most_1
theorem dX11_most_4 : decode cX11_most 4 = .ok (.getfield 435, 3) := oc_180 shX11_most_4
theorem dX11_most_7 : decode cX11_most 7 = .ok (.iload_n 1, 1) := oc_27 shX11_most_7
theorem dX11_most_8 : decode cX11_most 8 = .ok (.iload_n 2, 1) := oc_28 shX11_most_8
theorem dX11_most_9 : decode cX11_most 9 = .ok (.iconst 0, 1) := oc_3 shX11_most_9
theorem dX11_most_10 : decode cX11_most 10 = .ok (.ldc 222, 2) := oc_18 shX11_most_10
theorem dX11_most_12 : decode cX11_most 12 = .ok (.invokestatic 177, 3) := oc_184 shX11_most_12
theorem dX11_most_15 : decode cX11_most 15 = .ok (.ireturn, 1) := oc_172 shX11_most_15
noncomputable def sxX11_rate_61 : List UInt8 := []
noncomputable def sxX11_rate_60 : List UInt8 := 172 :: sxX11_rate_61
noncomputable def sxX11_rate_59 : List UInt8 := 3 :: sxX11_rate_60
noncomputable def sxX11_rate_56 : List UInt8 := 167 :: 0 :: 4 :: sxX11_rate_59
noncomputable def sxX11_rate_55 : List UInt8 := 4 :: sxX11_rate_56
noncomputable def sxX11_rate_52 : List UInt8 := 153 :: 0 :: 7 :: sxX11_rate_55
noncomputable def sxX11_rate_49 : List UInt8 := 184 :: 0 :: 177 :: sxX11_rate_52
noncomputable def sxX11_rate_46 : List UInt8 := 17 :: 3 :: 232 :: sxX11_rate_49
noncomputable def sxX11_rate_45 : List UInt8 := 3 :: sxX11_rate_46
noncomputable def sxX11_rate_44 : List UInt8 := 29 :: sxX11_rate_45
noncomputable def sxX11_rate_43 : List UInt8 := 96 :: sxX11_rate_44
noncomputable def sxX11_rate_42 : List UInt8 := 28 :: sxX11_rate_43
noncomputable def sxX11_rate_41 : List UInt8 := 104 :: sxX11_rate_42
noncomputable def sxX11_rate_39 : List UInt8 := 16 :: 58 :: sxX11_rate_41
noncomputable def sxX11_rate_38 : List UInt8 := 27 :: sxX11_rate_39
noncomputable def sxX11_rate_35 : List UInt8 := 180 :: 1 :: 173 :: sxX11_rate_38
noncomputable def sxX11_rate_32 : List UInt8 := 180 :: 0 :: 47 :: sxX11_rate_35
noncomputable def sxX11_rate_31 : List UInt8 := 42 :: sxX11_rate_32
noncomputable def sxX11_rate_28 : List UInt8 := 153 :: 0 :: 31 :: sxX11_rate_31
noncomputable def sxX11_rate_26 : List UInt8 := 21 :: 4 :: sxX11_rate_28
noncomputable def sxX11_rate_24 : List UInt8 := 54 :: 4 :: sxX11_rate_26
noncomputable def sxX11_rate_23 : List UInt8 := 3 :: sxX11_rate_24
noncomputable def sxX11_rate_20 : List UInt8 := 167 :: 0 :: 4 :: sxX11_rate_23
noncomputable def sxX11_rate_19 : List UInt8 := 4 :: sxX11_rate_20
noncomputable def sxX11_rate_16 : List UInt8 := 153 :: 0 :: 7 :: sxX11_rate_19
noncomputable def sxX11_rate_13 : List UInt8 := 184 :: 0 :: 80 :: sxX11_rate_16
noncomputable def sxX11_rate_11 : List UInt8 := 16 :: 57 :: sxX11_rate_13
noncomputable def sxX11_rate_10 : List UInt8 := 3 :: sxX11_rate_11
noncomputable def sxX11_rate_9 : List UInt8 := 28 :: sxX11_rate_10
noncomputable def sxX11_rate_6 : List UInt8 := 153 :: 0 :: 17 :: sxX11_rate_9
noncomputable def sxX11_rate_3 : List UInt8 := 184 :: 0 :: 80 :: sxX11_rate_6
noncomputable def sxX11_rate_2 : List UInt8 := 6 :: sxX11_rate_3
noncomputable def sxX11_rate_1 : List UInt8 := 3 :: sxX11_rate_2
noncomputable def sxX11_rate_0 : List UInt8 := 27 :: sxX11_rate_1
theorem shX11_rate_0 : cX11_rate.data.toList.drop 0 = sxX11_rate_0 := rfl
theorem shX11_rate_1 : cX11_rate.data.toList.drop 1 = sxX11_rate_1 := dSn 1 shX11_rate_0
theorem shX11_rate_2 : cX11_rate.data.toList.drop 2 = sxX11_rate_2 := dSn 1 shX11_rate_1
theorem shX11_rate_3 : cX11_rate.data.toList.drop 3 = sxX11_rate_3 := dSn 1 shX11_rate_2
theorem shX11_rate_6 : cX11_rate.data.toList.drop 6 = sxX11_rate_6 := dSn 3 shX11_rate_3
theorem shX11_rate_9 : cX11_rate.data.toList.drop 9 = sxX11_rate_9 := dSn 3 shX11_rate_6
theorem shX11_rate_10 : cX11_rate.data.toList.drop 10 = sxX11_rate_10 := dSn 1 shX11_rate_9
theorem shX11_rate_11 : cX11_rate.data.toList.drop 11 = sxX11_rate_11 := dSn 1 shX11_rate_10
theorem shX11_rate_13 : cX11_rate.data.toList.drop 13 = sxX11_rate_13 := dSn 2 shX11_rate_11
theorem shX11_rate_16 : cX11_rate.data.toList.drop 16 = sxX11_rate_16 := dSn 3 shX11_rate_13
theorem shX11_rate_19 : cX11_rate.data.toList.drop 19 = sxX11_rate_19 := dSn 3 shX11_rate_16
theorem shX11_rate_20 : cX11_rate.data.toList.drop 20 = sxX11_rate_20 := dSn 1 shX11_rate_19
theorem shX11_rate_23 : cX11_rate.data.toList.drop 23 = sxX11_rate_23 := dSn 3 shX11_rate_20
theorem shX11_rate_24 : cX11_rate.data.toList.drop 24 = sxX11_rate_24 := dSn 1 shX11_rate_23
theorem shX11_rate_26 : cX11_rate.data.toList.drop 26 = sxX11_rate_26 := dSn 2 shX11_rate_24
theorem shX11_rate_28 : cX11_rate.data.toList.drop 28 = sxX11_rate_28 := dSn 2 shX11_rate_26
theorem shX11_rate_31 : cX11_rate.data.toList.drop 31 = sxX11_rate_31 := dSn 3 shX11_rate_28
theorem shX11_rate_32 : cX11_rate.data.toList.drop 32 = sxX11_rate_32 := dSn 1 shX11_rate_31
theorem shX11_rate_35 : cX11_rate.data.toList.drop 35 = sxX11_rate_35 := dSn 3 shX11_rate_32
theorem shX11_rate_38 : cX11_rate.data.toList.drop 38 = sxX11_rate_38 := dSn 3 shX11_rate_35
theorem shX11_rate_39 : cX11_rate.data.toList.drop 39 = sxX11_rate_39 := dSn 1 shX11_rate_38
theorem shX11_rate_41 : cX11_rate.data.toList.drop 41 = sxX11_rate_41 := dSn 2 shX11_rate_39
theorem shX11_rate_42 : cX11_rate.data.toList.drop 42 = sxX11_rate_42 := dSn 1 shX11_rate_41
theorem shX11_rate_43 : cX11_rate.data.toList.drop 43 = sxX11_rate_43 := dSn 1 shX11_rate_42
theorem shX11_rate_44 : cX11_rate.data.toList.drop 44 = sxX11_rate_44 := dSn 1 shX11_rate_43
theorem shX11_rate_45 : cX11_rate.data.toList.drop 45 = sxX11_rate_45 := dSn 1 shX11_rate_44
theorem shX11_rate_46 : cX11_rate.data.toList.drop 46 = sxX11_rate_46 := dSn 1 shX11_rate_45
theorem shX11_rate_49 : cX11_rate.data.toList.drop 49 = sxX11_rate_49 := dSn 3 shX11_rate_46
theorem shX11_rate_52 : cX11_rate.data.toList.drop 52 = sxX11_rate_52 := dSn 3 shX11_rate_49
theorem shX11_rate_55 : cX11_rate.data.toList.drop 55 = sxX11_rate_55 := dSn 3 shX11_rate_52
theorem shX11_rate_56 : cX11_rate.data.toList.drop 56 = sxX11_rate_56 := dSn 1 shX11_rate_55
theorem shX11_rate_59 : cX11_rate.data.toList.drop 59 = sxX11_rate_59 := dSn 3 shX11_rate_56
theorem shX11_rate_60 : cX11_rate.data.toList.drop 60 = sxX11_rate_60 := dSn 1 shX11_rate_59
theorem dX11_rate_0 : decode cX11_rate 0 = .ok (.iload_n 1, 1) := oc_27 shX11_rate_0
theorem dX11_rate_1 : decode cX11_rate 1 = .ok (.iconst 0, 1) := oc_3 shX11_rate_1
theorem dX11_rate_2 : decode cX11_rate 2 = .ok (.iconst 3, 1) := oc_6 shX11_rate_2
theorem dX11_rate_3 : decode cX11_rate 3 = .ok (.invokestatic 80, 3) := oc_184 shX11_rate_3
theorem dX11_rate_6 : decode cX11_rate 6 = .ok (.ifCond .eq 17, 3) := oc_153 shX11_rate_6 sgw_0_17
theorem dX11_rate_9 : decode cX11_rate 9 = .ok (.iload_n 2, 1) := oc_28 shX11_rate_9
theorem dX11_rate_10 : decode cX11_rate 10 = .ok (.iconst 0, 1) := oc_3 shX11_rate_10
theorem dX11_rate_11 : decode cX11_rate 11 = .ok (.bipush 57, 2) := oc_16 shX11_rate_11 sgb_57
theorem dX11_rate_13 : decode cX11_rate 13 = .ok (.invokestatic 80, 3) := oc_184 shX11_rate_13
theorem dX11_rate_16 : decode cX11_rate 16 = .ok (.ifCond .eq 7, 3) := oc_153 shX11_rate_16 sgw_0_7
theorem dX11_rate_19 : decode cX11_rate 19 = .ok (.iconst 1, 1) := oc_4 shX11_rate_19
theorem dX11_rate_20 : decode cX11_rate 20 = .ok (.goto 4, 3) := oc_167 shX11_rate_20 sgw_0_4
theorem dX11_rate_24 : decode cX11_rate 24 = .ok (.istore 4, 2) := oc_54 shX11_rate_24
theorem dX11_rate_26 : decode cX11_rate 26 = .ok (.iload 4, 2) := oc_21 shX11_rate_26
theorem dX11_rate_28 : decode cX11_rate 28 = .ok (.ifCond .eq 31, 3) := oc_153 shX11_rate_28 sgw_0_31
theorem dX11_rate_31 : decode cX11_rate 31 = .ok (.aload_n 0, 1) := oc_42 shX11_rate_31
theorem dX11_rate_32 : decode cX11_rate 32 = .ok (.getfield 47, 3) := oc_180 shX11_rate_32
theorem dX11_rate_35 : decode cX11_rate 35 = .ok (.getfield 429, 3) := oc_180 shX11_rate_35
theorem dX11_rate_38 : decode cX11_rate 38 = .ok (.iload_n 1, 1) := oc_27 shX11_rate_38
theorem dX11_rate_39 : decode cX11_rate 39 = .ok (.bipush 58, 2) := oc_16 shX11_rate_39 sgb_58
theorem dX11_rate_41 : decode cX11_rate 41 = .ok (.imul, 1) := oc_104 shX11_rate_41
theorem dX11_rate_42 : decode cX11_rate 42 = .ok (.iload_n 2, 1) := oc_28 shX11_rate_42
theorem dX11_rate_43 : decode cX11_rate 43 = .ok (.iadd, 1) := oc_96 shX11_rate_43
theorem dX11_rate_44 : decode cX11_rate 44 = .ok (.iload_n 3, 1) := oc_29 shX11_rate_44
theorem dX11_rate_45 : decode cX11_rate 45 = .ok (.iconst 0, 1) := oc_3 shX11_rate_45
theorem dX11_rate_46 : decode cX11_rate 46 = .ok (.sipush 1000, 3) := oc_17 shX11_rate_46 sgw_3_232
theorem dX11_rate_49 : decode cX11_rate 49 = .ok (.invokestatic 177, 3) := oc_184 shX11_rate_49
theorem dX11_rate_52 : decode cX11_rate 52 = .ok (.ifCond .eq 7, 3) := oc_153 shX11_rate_52 sgw_0_7
theorem dX11_rate_55 : decode cX11_rate 55 = .ok (.iconst 1, 1) := oc_4 shX11_rate_55
theorem dX11_rate_56 : decode cX11_rate 56 = .ok (.goto 4, 3) := oc_167 shX11_rate_56 sgw_0_4
theorem dX11_rate_60 : decode cX11_rate 60 = .ok (.ireturn, 1) := oc_172 shX11_rate_60
theorem dX11_rate_59 : decode cX11_rate 59 = .ok (.iconst 0, 1) := oc_3 shX11_rate_59
theorem dX11_rate_23 : decode cX11_rate 23 = .ok (.iconst 0, 1) := oc_3 shX11_rate_23
noncomputable def sxX11_lorry_54 : List UInt8 := []
noncomputable def sxX11_lorry_53 : List UInt8 := 172 :: sxX11_lorry_54
noncomputable def sxX11_lorry_52 : List UInt8 := 100 :: sxX11_lorry_53
noncomputable def sxX11_lorry_51 : List UInt8 := 4 :: sxX11_lorry_52
noncomputable def sxX11_lorry_48 : List UInt8 := 180 :: 1 :: 55 :: sxX11_lorry_51
noncomputable def sxX11_lorry_47 : List UInt8 := 42 :: sxX11_lorry_48
noncomputable def sxX11_lorry_44 : List UInt8 := 181 :: 1 :: 55 :: sxX11_lorry_47
noncomputable def sxX11_lorry_43 : List UInt8 := 96 :: sxX11_lorry_44
noncomputable def sxX11_lorry_42 : List UInt8 := 4 :: sxX11_lorry_43
noncomputable def sxX11_lorry_39 : List UInt8 := 180 :: 1 :: 55 :: sxX11_lorry_42
noncomputable def sxX11_lorry_38 : List UInt8 := 89 :: sxX11_lorry_39
noncomputable def sxX11_lorry_37 : List UInt8 := 42 :: sxX11_lorry_38
noncomputable def sxX11_lorry_34 : List UInt8 := 184 :: 0 :: 184 :: sxX11_lorry_37
noncomputable def sxX11_lorry_33 : List UInt8 := 27 :: sxX11_lorry_34
noncomputable def sxX11_lorry_30 : List UInt8 := 180 :: 1 :: 55 :: sxX11_lorry_33
noncomputable def sxX11_lorry_29 : List UInt8 := 42 :: sxX11_lorry_30
noncomputable def sxX11_lorry_26 : List UInt8 := 180 :: 1 :: 58 :: sxX11_lorry_29
noncomputable def sxX11_lorry_23 : List UInt8 := 180 :: 0 :: 47 :: sxX11_lorry_26
noncomputable def sxX11_lorry_22 : List UInt8 := 42 :: sxX11_lorry_23
noncomputable def sxX11_lorry_21 : List UInt8 := 172 :: sxX11_lorry_22
noncomputable def sxX11_lorry_20 : List UInt8 := 2 :: sxX11_lorry_21
noncomputable def sxX11_lorry_17 : List UInt8 := 161 :: 0 :: 5 :: sxX11_lorry_20
noncomputable def sxX11_lorry_16 : List UInt8 := 6 :: sxX11_lorry_17
noncomputable def sxX11_lorry_13 : List UInt8 := 180 :: 1 :: 55 :: sxX11_lorry_16
noncomputable def sxX11_lorry_12 : List UInt8 := 42 :: sxX11_lorry_13
noncomputable def sxX11_lorry_9 : List UInt8 := 153 :: 0 :: 11 :: sxX11_lorry_12
noncomputable def sxX11_lorry_6 : List UInt8 := 184 :: 0 :: 80 :: sxX11_lorry_9
noncomputable def sxX11_lorry_3 : List UInt8 := 17 :: 7 :: 208 :: sxX11_lorry_6
noncomputable def sxX11_lorry_1 : List UInt8 := 16 :: 20 :: sxX11_lorry_3
noncomputable def sxX11_lorry_0 : List UInt8 := 27 :: sxX11_lorry_1
theorem shX11_lorry_0 : cX11_lorry.data.toList.drop 0 = sxX11_lorry_0 := rfl
theorem shX11_lorry_1 : cX11_lorry.data.toList.drop 1 = sxX11_lorry_1 := dSn 1 shX11_lorry_0
theorem shX11_lorry_3 : cX11_lorry.data.toList.drop 3 = sxX11_lorry_3 := dSn 2 shX11_lorry_1
theorem shX11_lorry_6 : cX11_lorry.data.toList.drop 6 = sxX11_lorry_6 := dSn 3 shX11_lorry_3
theorem shX11_lorry_9 : cX11_lorry.data.toList.drop 9 = sxX11_lorry_9 := dSn 3 shX11_lorry_6
theorem shX11_lorry_12 : cX11_lorry.data.toList.drop 12 = sxX11_lorry_12 := dSn 3 shX11_lorry_9
theorem shX11_lorry_13 : cX11_lorry.data.toList.drop 13 = sxX11_lorry_13 := dSn 1 shX11_lorry_12
theorem shX11_lorry_16 : cX11_lorry.data.toList.drop 16 = sxX11_lorry_16 := dSn 3 shX11_lorry_13
theorem shX11_lorry_17 : cX11_lorry.data.toList.drop 17 = sxX11_lorry_17 := dSn 1 shX11_lorry_16
theorem shX11_lorry_20 : cX11_lorry.data.toList.drop 20 = sxX11_lorry_20 := dSn 3 shX11_lorry_17
theorem shX11_lorry_21 : cX11_lorry.data.toList.drop 21 = sxX11_lorry_21 := dSn 1 shX11_lorry_20
theorem shX11_lorry_22 : cX11_lorry.data.toList.drop 22 = sxX11_lorry_22 := dSn 1 shX11_lorry_21
theorem shX11_lorry_23 : cX11_lorry.data.toList.drop 23 = sxX11_lorry_23 := dSn 1 shX11_lorry_22
theorem shX11_lorry_26 : cX11_lorry.data.toList.drop 26 = sxX11_lorry_26 := dSn 3 shX11_lorry_23
theorem shX11_lorry_29 : cX11_lorry.data.toList.drop 29 = sxX11_lorry_29 := dSn 3 shX11_lorry_26
theorem shX11_lorry_30 : cX11_lorry.data.toList.drop 30 = sxX11_lorry_30 := dSn 1 shX11_lorry_29
theorem shX11_lorry_33 : cX11_lorry.data.toList.drop 33 = sxX11_lorry_33 := dSn 3 shX11_lorry_30
theorem shX11_lorry_34 : cX11_lorry.data.toList.drop 34 = sxX11_lorry_34 := dSn 1 shX11_lorry_33
theorem shX11_lorry_37 : cX11_lorry.data.toList.drop 37 = sxX11_lorry_37 := dSn 3 shX11_lorry_34
theorem shX11_lorry_38 : cX11_lorry.data.toList.drop 38 = sxX11_lorry_38 := dSn 1 shX11_lorry_37
theorem shX11_lorry_39 : cX11_lorry.data.toList.drop 39 = sxX11_lorry_39 := dSn 1 shX11_lorry_38
theorem shX11_lorry_42 : cX11_lorry.data.toList.drop 42 = sxX11_lorry_42 := dSn 3 shX11_lorry_39
theorem shX11_lorry_43 : cX11_lorry.data.toList.drop 43 = sxX11_lorry_43 := dSn 1 shX11_lorry_42
theorem shX11_lorry_44 : cX11_lorry.data.toList.drop 44 = sxX11_lorry_44 := dSn 1 shX11_lorry_43
theorem shX11_lorry_47 : cX11_lorry.data.toList.drop 47 = sxX11_lorry_47 := dSn 3 shX11_lorry_44
theorem shX11_lorry_48 : cX11_lorry.data.toList.drop 48 = sxX11_lorry_48 := dSn 1 shX11_lorry_47
theorem shX11_lorry_51 : cX11_lorry.data.toList.drop 51 = sxX11_lorry_51 := dSn 3 shX11_lorry_48
theorem shX11_lorry_52 : cX11_lorry.data.toList.drop 52 = sxX11_lorry_52 := dSn 1 shX11_lorry_51
theorem shX11_lorry_53 : cX11_lorry.data.toList.drop 53 = sxX11_lorry_53 := dSn 1 shX11_lorry_52
theorem dX11_lorry_0 : decode cX11_lorry 0 = .ok (.iload_n 1, 1) := oc_27 shX11_lorry_0
theorem dX11_lorry_1 : decode cX11_lorry 1 = .ok (.bipush 20, 2) := oc_16 shX11_lorry_1 sgb_20
theorem dX11_lorry_3 : decode cX11_lorry 3 = .ok (.sipush 2000, 3) := oc_17 shX11_lorry_3 sgw_7_208
theorem dX11_lorry_6 : decode cX11_lorry 6 = .ok (.invokestatic 80, 3) := oc_184 shX11_lorry_6
theorem dX11_lorry_9 : decode cX11_lorry 9 = .ok (.ifCond .eq 11, 3) := oc_153 shX11_lorry_9 sgw_0_11
theorem dX11_lorry_12 : decode cX11_lorry 12 = .ok (.aload_n 0, 1) := oc_42 shX11_lorry_12
theorem dX11_lorry_13 : decode cX11_lorry 13 = .ok (.getfield 311, 3) := oc_180 shX11_lorry_13
theorem dX11_lorry_16 : decode cX11_lorry 16 = .ok (.iconst 3, 1) := oc_6 shX11_lorry_16
theorem dX11_lorry_17 : decode cX11_lorry 17 = .ok (.if_icmp .lt 5, 3) := oc_161 shX11_lorry_17 sgw_0_5
theorem dX11_lorry_22 : decode cX11_lorry 22 = .ok (.aload_n 0, 1) := oc_42 shX11_lorry_22
theorem dX11_lorry_23 : decode cX11_lorry 23 = .ok (.getfield 47, 3) := oc_180 shX11_lorry_23
theorem dX11_lorry_26 : decode cX11_lorry 26 = .ok (.getfield 314, 3) := oc_180 shX11_lorry_26
theorem dX11_lorry_29 : decode cX11_lorry 29 = .ok (.aload_n 0, 1) := oc_42 shX11_lorry_29
theorem dX11_lorry_30 : decode cX11_lorry 30 = .ok (.getfield 311, 3) := oc_180 shX11_lorry_30
theorem dX11_lorry_33 : decode cX11_lorry 33 = .ok (.iload_n 1, 1) := oc_27 shX11_lorry_33
theorem dX11_lorry_34 : decode cX11_lorry 34 = .ok (.invokestatic 184, 3) := oc_184 shX11_lorry_34
theorem dX11_lorry_37 : decode cX11_lorry 37 = .ok (.aload_n 0, 1) := oc_42 shX11_lorry_37
theorem dX11_lorry_38 : decode cX11_lorry 38 = .ok (.dup, 1) := oc_89 shX11_lorry_38
theorem dX11_lorry_39 : decode cX11_lorry 39 = .ok (.getfield 311, 3) := oc_180 shX11_lorry_39
theorem dX11_lorry_42 : decode cX11_lorry 42 = .ok (.iconst 1, 1) := oc_4 shX11_lorry_42
theorem dX11_lorry_43 : decode cX11_lorry 43 = .ok (.iadd, 1) := oc_96 shX11_lorry_43
theorem dX11_lorry_44 : decode cX11_lorry 44 = .ok (.putfield 311, 3) := oc_181 shX11_lorry_44
theorem dX11_lorry_47 : decode cX11_lorry 47 = .ok (.aload_n 0, 1) := oc_42 shX11_lorry_47
theorem dX11_lorry_48 : decode cX11_lorry 48 = .ok (.getfield 311, 3) := oc_180 shX11_lorry_48
theorem dX11_lorry_51 : decode cX11_lorry 51 = .ok (.iconst 1, 1) := oc_4 shX11_lorry_51
theorem dX11_lorry_52 : decode cX11_lorry 52 = .ok (.isub, 1) := oc_100 shX11_lorry_52
theorem dX11_lorry_53 : decode cX11_lorry 53 = .ok (.ireturn, 1) := oc_172 shX11_lorry_53
theorem dX11_lorry_20 : decode cX11_lorry 20 = .ok (.iconst (-1), 1) := oc_2 shX11_lorry_20
theorem dX11_lorry_21 : decode cX11_lorry 21 = .ok (.ireturn, 1) := oc_172 shX11_lorry_21
noncomputable def sxX11_drum_28 : List UInt8 := []
noncomputable def sxX11_drum_27 : List UInt8 := 172 :: sxX11_drum_28
noncomputable def sxX11_drum_26 : List UInt8 := 100 :: sxX11_drum_27
noncomputable def sxX11_drum_25 : List UInt8 := 4 :: sxX11_drum_26
noncomputable def sxX11_drum_22 : List UInt8 := 180 :: 1 :: 246 :: sxX11_drum_25
noncomputable def sxX11_drum_21 : List UInt8 := 42 :: sxX11_drum_22
noncomputable def sxX11_drum_18 : List UInt8 := 181 :: 1 :: 246 :: sxX11_drum_21
noncomputable def sxX11_drum_17 : List UInt8 := 96 :: sxX11_drum_18
noncomputable def sxX11_drum_16 : List UInt8 := 4 :: sxX11_drum_17
noncomputable def sxX11_drum_13 : List UInt8 := 180 :: 1 :: 246 :: sxX11_drum_16
noncomputable def sxX11_drum_12 : List UInt8 := 89 :: sxX11_drum_13
noncomputable def sxX11_drum_11 : List UInt8 := 42 :: sxX11_drum_12
noncomputable def sxX11_drum_10 : List UInt8 := 172 :: sxX11_drum_11
noncomputable def sxX11_drum_9 : List UInt8 := 2 :: sxX11_drum_10
noncomputable def sxX11_drum_6 : List UInt8 := 161 :: 0 :: 5 :: sxX11_drum_9
noncomputable def sxX11_drum_4 : List UInt8 := 16 :: 20 :: sxX11_drum_6
noncomputable def sxX11_drum_1 : List UInt8 := 180 :: 1 :: 246 :: sxX11_drum_4
noncomputable def sxX11_drum_0 : List UInt8 := 42 :: sxX11_drum_1
theorem shX11_drum_0 : cX11_drum.data.toList.drop 0 = sxX11_drum_0 := rfl
theorem shX11_drum_1 : cX11_drum.data.toList.drop 1 = sxX11_drum_1 := dSn 1 shX11_drum_0
theorem shX11_drum_4 : cX11_drum.data.toList.drop 4 = sxX11_drum_4 := dSn 3 shX11_drum_1
theorem shX11_drum_6 : cX11_drum.data.toList.drop 6 = sxX11_drum_6 := dSn 2 shX11_drum_4
theorem shX11_drum_9 : cX11_drum.data.toList.drop 9 = sxX11_drum_9 := dSn 3 shX11_drum_6
theorem shX11_drum_10 : cX11_drum.data.toList.drop 10 = sxX11_drum_10 := dSn 1 shX11_drum_9
theorem shX11_drum_11 : cX11_drum.data.toList.drop 11 = sxX11_drum_11 := dSn 1 shX11_drum_10
theorem shX11_drum_12 : cX11_drum.data.toList.drop 12 = sxX11_drum_12 := dSn 1 shX11_drum_11
theorem shX11_drum_13 : cX11_drum.data.toList.drop 13 = sxX11_drum_13 := dSn 1 shX11_drum_12
theorem shX11_drum_16 : cX11_drum.data.toList.drop 16 = sxX11_drum_16 := dSn 3 shX11_drum_13
theorem shX11_drum_17 : cX11_drum.data.toList.drop 17 = sxX11_drum_17 := dSn 1 shX11_drum_16
theorem shX11_drum_18 : cX11_drum.data.toList.drop 18 = sxX11_drum_18 := dSn 1 shX11_drum_17
theorem shX11_drum_21 : cX11_drum.data.toList.drop 21 = sxX11_drum_21 := dSn 3 shX11_drum_18
theorem shX11_drum_22 : cX11_drum.data.toList.drop 22 = sxX11_drum_22 := dSn 1 shX11_drum_21
theorem shX11_drum_25 : cX11_drum.data.toList.drop 25 = sxX11_drum_25 := dSn 3 shX11_drum_22
theorem shX11_drum_26 : cX11_drum.data.toList.drop 26 = sxX11_drum_26 := dSn 1 shX11_drum_25
theorem shX11_drum_27 : cX11_drum.data.toList.drop 27 = sxX11_drum_27 := dSn 1 shX11_drum_26
theorem dX11_drum_0 : decode cX11_drum 0 = .ok (.aload_n 0, 1) := oc_42 shX11_drum_0
theorem dX11_drum_1 : decode cX11_drum 1 = .ok (.getfield 502, 3) := oc_180 shX11_drum_1
theorem dX11_drum_4 : decode cX11_drum 4 = .ok (.bipush 20, 2) := oc_16 shX11_drum_4 sgb_20
theorem dX11_drum_6 : decode cX11_drum 6 = .ok (.if_icmp .lt 5, 3) := oc_161 shX11_drum_6 sgw_0_5
theorem dX11_drum_11 : decode cX11_drum 11 = .ok (.aload_n 0, 1) := oc_42 shX11_drum_11
theorem dX11_drum_12 : decode cX11_drum 12 = .ok (.dup, 1) := oc_89 shX11_drum_12
theorem dX11_drum_13 : decode cX11_drum 13 = .ok (.getfield 502, 3) := oc_180 shX11_drum_13
theorem dX11_drum_16 : decode cX11_drum 16 = .ok (.iconst 1, 1) := oc_4 shX11_drum_16
theorem dX11_drum_17 : decode cX11_drum 17 = .ok (.iadd, 1) := oc_96 shX11_drum_17
theorem dX11_drum_18 : decode cX11_drum 18 = .ok (.putfield 502, 3) := oc_181 shX11_drum_18
theorem dX11_drum_21 : decode cX11_drum 21 = .ok (.aload_n 0, 1) := oc_42 shX11_drum_21
theorem dX11_drum_22 : decode cX11_drum 22 = .ok (.getfield 502, 3) := oc_180 shX11_drum_22
theorem dX11_drum_25 : decode cX11_drum 25 = .ok (.iconst 1, 1) := oc_4 shX11_drum_25
theorem dX11_drum_26 : decode cX11_drum 26 = .ok (.isub, 1) := oc_100 shX11_drum_26
theorem dX11_drum_27 : decode cX11_drum 27 = .ok (.ireturn, 1) := oc_172 shX11_drum_27
theorem dX11_drum_9 : decode cX11_drum 9 = .ok (.iconst (-1), 1) := oc_2 shX11_drum_9
theorem dX11_drum_10 : decode cX11_drum 10 = .ok (.ireturn, 1) := oc_172 shX11_drum_10
noncomputable def sxX11_isOff_26 : List UInt8 := []
noncomputable def sxX11_isOff_25 : List UInt8 := 172 :: sxX11_isOff_26
noncomputable def sxX11_isOff_24 : List UInt8 := 3 :: sxX11_isOff_25
noncomputable def sxX11_isOff_21 : List UInt8 := 167 :: 0 :: 4 :: sxX11_isOff_24
noncomputable def sxX11_isOff_20 : List UInt8 := 4 :: sxX11_isOff_21
noncomputable def sxX11_isOff_17 : List UInt8 := 153 :: 0 :: 7 :: sxX11_isOff_20
noncomputable def sxX11_isOff_14 : List UInt8 := 184 :: 0 :: 192 :: sxX11_isOff_17
noncomputable def sxX11_isOff_13 : List UInt8 := 96 :: sxX11_isOff_14
noncomputable def sxX11_isOff_12 : List UInt8 := 28 :: sxX11_isOff_13
noncomputable def sxX11_isOff_11 : List UInt8 := 104 :: sxX11_isOff_12
noncomputable def sxX11_isOff_8 : List UInt8 := 17 :: 1 :: 144 :: sxX11_isOff_11
noncomputable def sxX11_isOff_7 : List UInt8 := 27 :: sxX11_isOff_8
noncomputable def sxX11_isOff_4 : List UInt8 := 180 :: 1 :: 65 :: sxX11_isOff_7
noncomputable def sxX11_isOff_1 : List UInt8 := 180 :: 0 :: 47 :: sxX11_isOff_4
noncomputable def sxX11_isOff_0 : List UInt8 := 42 :: sxX11_isOff_1
theorem shX11_isOff_0 : cX11_isOff.data.toList.drop 0 = sxX11_isOff_0 := rfl
theorem shX11_isOff_1 : cX11_isOff.data.toList.drop 1 = sxX11_isOff_1 := dSn 1 shX11_isOff_0
theorem shX11_isOff_4 : cX11_isOff.data.toList.drop 4 = sxX11_isOff_4 := dSn 3 shX11_isOff_1
theorem shX11_isOff_7 : cX11_isOff.data.toList.drop 7 = sxX11_isOff_7 := dSn 3 shX11_isOff_4
theorem shX11_isOff_8 : cX11_isOff.data.toList.drop 8 = sxX11_isOff_8 := dSn 1 shX11_isOff_7
theorem shX11_isOff_11 : cX11_isOff.data.toList.drop 11 = sxX11_isOff_11 := dSn 3 shX11_isOff_8
theorem shX11_isOff_12 : cX11_isOff.data.toList.drop 12 = sxX11_isOff_12 := dSn 1 shX11_isOff_11
theorem shX11_isOff_13 : cX11_isOff.data.toList.drop 13 = sxX11_isOff_13 := dSn 1 shX11_isOff_12
theorem shX11_isOff_14 : cX11_isOff.data.toList.drop 14 = sxX11_isOff_14 := dSn 1 shX11_isOff_13
theorem shX11_isOff_17 : cX11_isOff.data.toList.drop 17 = sxX11_isOff_17 := dSn 3 shX11_isOff_14
theorem shX11_isOff_20 : cX11_isOff.data.toList.drop 20 = sxX11_isOff_20 := dSn 3 shX11_isOff_17
theorem shX11_isOff_21 : cX11_isOff.data.toList.drop 21 = sxX11_isOff_21 := dSn 1 shX11_isOff_20
theorem shX11_isOff_24 : cX11_isOff.data.toList.drop 24 = sxX11_isOff_24 := dSn 3 shX11_isOff_21
theorem shX11_isOff_25 : cX11_isOff.data.toList.drop 25 = sxX11_isOff_25 := dSn 1 shX11_isOff_24
theorem dX11_isOff_0 : decode cX11_isOff 0 = .ok (.aload_n 0, 1) := oc_42 shX11_isOff_0
theorem dX11_isOff_1 : decode cX11_isOff 1 = .ok (.getfield 47, 3) := oc_180 shX11_isOff_1
theorem dX11_isOff_4 : decode cX11_isOff 4 = .ok (.getfield 321, 3) := oc_180 shX11_isOff_4
theorem dX11_isOff_7 : decode cX11_isOff 7 = .ok (.iload_n 1, 1) := oc_27 shX11_isOff_7
theorem dX11_isOff_8 : decode cX11_isOff 8 = .ok (.sipush 400, 3) := oc_17 shX11_isOff_8 sgw_1_144
theorem dX11_isOff_11 : decode cX11_isOff 11 = .ok (.imul, 1) := oc_104 shX11_isOff_11
theorem dX11_isOff_12 : decode cX11_isOff 12 = .ok (.iload_n 2, 1) := oc_28 shX11_isOff_12
theorem dX11_isOff_13 : decode cX11_isOff 13 = .ok (.iadd, 1) := oc_96 shX11_isOff_13
theorem dX11_isOff_14 : decode cX11_isOff 14 = .ok (.invokestatic 192, 3) := oc_184 shX11_isOff_14
theorem dX11_isOff_17 : decode cX11_isOff 17 = .ok (.ifCond .eq 7, 3) := oc_153 shX11_isOff_17 sgw_0_7
theorem dX11_isOff_24 : decode cX11_isOff 24 = .ok (.iconst 0, 1) := oc_3 shX11_isOff_24
theorem dX11_isOff_25 : decode cX11_isOff 25 = .ok (.ireturn, 1) := oc_172 shX11_isOff_25
theorem dX11_isOff_20 : decode cX11_isOff 20 = .ok (.iconst 1, 1) := oc_4 shX11_isOff_20
theorem dX11_isOff_21 : decode cX11_isOff 21 = .ok (.goto 4, 3) := oc_167 shX11_isOff_21 sgw_0_4
noncomputable def sxX11_off_61 : List UInt8 := []
noncomputable def sxX11_off_60 : List UInt8 := 172 :: sxX11_off_61
noncomputable def sxX11_off_59 : List UInt8 := 4 :: sxX11_off_60
noncomputable def sxX11_off_56 : List UInt8 := 184 :: 0 :: 184 :: sxX11_off_59
noncomputable def sxX11_off_55 : List UInt8 := 3 :: sxX11_off_56
noncomputable def sxX11_off_52 : List UInt8 := 167 :: 0 :: 4 :: sxX11_off_55
noncomputable def sxX11_off_51 : List UInt8 := 4 :: sxX11_off_52
noncomputable def sxX11_off_48 : List UInt8 := 153 :: 0 :: 7 :: sxX11_off_51
noncomputable def sxX11_off_47 : List UInt8 := 29 :: sxX11_off_48
noncomputable def sxX11_off_46 : List UInt8 := 96 :: sxX11_off_47
noncomputable def sxX11_off_45 : List UInt8 := 28 :: sxX11_off_46
noncomputable def sxX11_off_44 : List UInt8 := 104 :: sxX11_off_45
noncomputable def sxX11_off_41 : List UInt8 := 17 :: 1 :: 144 :: sxX11_off_44
noncomputable def sxX11_off_40 : List UInt8 := 27 :: sxX11_off_41
noncomputable def sxX11_off_37 : List UInt8 := 180 :: 1 :: 65 :: sxX11_off_40
noncomputable def sxX11_off_34 : List UInt8 := 180 :: 0 :: 47 :: sxX11_off_37
noncomputable def sxX11_off_33 : List UInt8 := 42 :: sxX11_off_34
noncomputable def sxX11_off_32 : List UInt8 := 172 :: sxX11_off_33
noncomputable def sxX11_off_31 : List UInt8 := 3 :: sxX11_off_32
noncomputable def sxX11_off_28 : List UInt8 := 160 :: 0 :: 5 :: sxX11_off_31
noncomputable def sxX11_off_27 : List UInt8 := 29 :: sxX11_off_28
noncomputable def sxX11_off_24 : List UInt8 := 182 :: 1 :: 61 :: sxX11_off_27
noncomputable def sxX11_off_23 : List UInt8 := 28 :: sxX11_off_24
noncomputable def sxX11_off_22 : List UInt8 := 27 :: sxX11_off_23
noncomputable def sxX11_off_21 : List UInt8 := 42 :: sxX11_off_22
noncomputable def sxX11_off_18 : List UInt8 := 153 :: 0 :: 13 :: sxX11_off_21
noncomputable def sxX11_off_15 : List UInt8 := 184 :: 0 :: 99 :: sxX11_off_18
noncomputable def sxX11_off_14 : List UInt8 := 28 :: sxX11_off_15
noncomputable def sxX11_off_11 : List UInt8 := 153 :: 0 :: 20 :: sxX11_off_14
noncomputable def sxX11_off_8 : List UInt8 := 184 :: 0 :: 80 :: sxX11_off_11
noncomputable def sxX11_off_7 : List UInt8 := 100 :: sxX11_off_8
noncomputable def sxX11_off_6 : List UInt8 := 4 :: sxX11_off_7
noncomputable def sxX11_off_3 : List UInt8 := 180 :: 1 :: 55 :: sxX11_off_6
noncomputable def sxX11_off_2 : List UInt8 := 42 :: sxX11_off_3
noncomputable def sxX11_off_1 : List UInt8 := 3 :: sxX11_off_2
noncomputable def sxX11_off_0 : List UInt8 := 27 :: sxX11_off_1
theorem shX11_off_0 : cX11_off.data.toList.drop 0 = sxX11_off_0 := rfl
theorem shX11_off_1 : cX11_off.data.toList.drop 1 = sxX11_off_1 := dSn 1 shX11_off_0
theorem shX11_off_2 : cX11_off.data.toList.drop 2 = sxX11_off_2 := dSn 1 shX11_off_1
theorem shX11_off_3 : cX11_off.data.toList.drop 3 = sxX11_off_3 := dSn 1 shX11_off_2
theorem shX11_off_6 : cX11_off.data.toList.drop 6 = sxX11_off_6 := dSn 3 shX11_off_3
theorem shX11_off_7 : cX11_off.data.toList.drop 7 = sxX11_off_7 := dSn 1 shX11_off_6
theorem shX11_off_8 : cX11_off.data.toList.drop 8 = sxX11_off_8 := dSn 1 shX11_off_7
theorem shX11_off_11 : cX11_off.data.toList.drop 11 = sxX11_off_11 := dSn 3 shX11_off_8
theorem shX11_off_14 : cX11_off.data.toList.drop 14 = sxX11_off_14 := dSn 3 shX11_off_11
theorem shX11_off_15 : cX11_off.data.toList.drop 15 = sxX11_off_15 := dSn 1 shX11_off_14
theorem shX11_off_18 : cX11_off.data.toList.drop 18 = sxX11_off_18 := dSn 3 shX11_off_15
theorem shX11_off_21 : cX11_off.data.toList.drop 21 = sxX11_off_21 := dSn 3 shX11_off_18
theorem shX11_off_22 : cX11_off.data.toList.drop 22 = sxX11_off_22 := dSn 1 shX11_off_21
theorem shX11_off_23 : cX11_off.data.toList.drop 23 = sxX11_off_23 := dSn 1 shX11_off_22
theorem shX11_off_24 : cX11_off.data.toList.drop 24 = sxX11_off_24 := dSn 1 shX11_off_23
theorem shX11_off_27 : cX11_off.data.toList.drop 27 = sxX11_off_27 := dSn 3 shX11_off_24
theorem shX11_off_28 : cX11_off.data.toList.drop 28 = sxX11_off_28 := dSn 1 shX11_off_27
theorem shX11_off_31 : cX11_off.data.toList.drop 31 = sxX11_off_31 := dSn 3 shX11_off_28
theorem shX11_off_32 : cX11_off.data.toList.drop 32 = sxX11_off_32 := dSn 1 shX11_off_31
theorem shX11_off_33 : cX11_off.data.toList.drop 33 = sxX11_off_33 := dSn 1 shX11_off_32
theorem shX11_off_34 : cX11_off.data.toList.drop 34 = sxX11_off_34 := dSn 1 shX11_off_33
theorem shX11_off_37 : cX11_off.data.toList.drop 37 = sxX11_off_37 := dSn 3 shX11_off_34
theorem shX11_off_40 : cX11_off.data.toList.drop 40 = sxX11_off_40 := dSn 3 shX11_off_37
theorem shX11_off_41 : cX11_off.data.toList.drop 41 = sxX11_off_41 := dSn 1 shX11_off_40
theorem shX11_off_44 : cX11_off.data.toList.drop 44 = sxX11_off_44 := dSn 3 shX11_off_41
theorem shX11_off_45 : cX11_off.data.toList.drop 45 = sxX11_off_45 := dSn 1 shX11_off_44
theorem shX11_off_46 : cX11_off.data.toList.drop 46 = sxX11_off_46 := dSn 1 shX11_off_45
theorem shX11_off_47 : cX11_off.data.toList.drop 47 = sxX11_off_47 := dSn 1 shX11_off_46
theorem shX11_off_48 : cX11_off.data.toList.drop 48 = sxX11_off_48 := dSn 1 shX11_off_47
theorem shX11_off_51 : cX11_off.data.toList.drop 51 = sxX11_off_51 := dSn 3 shX11_off_48
theorem shX11_off_52 : cX11_off.data.toList.drop 52 = sxX11_off_52 := dSn 1 shX11_off_51
theorem shX11_off_55 : cX11_off.data.toList.drop 55 = sxX11_off_55 := dSn 3 shX11_off_52
theorem shX11_off_56 : cX11_off.data.toList.drop 56 = sxX11_off_56 := dSn 1 shX11_off_55
theorem shX11_off_59 : cX11_off.data.toList.drop 59 = sxX11_off_59 := dSn 3 shX11_off_56
theorem shX11_off_60 : cX11_off.data.toList.drop 60 = sxX11_off_60 := dSn 1 shX11_off_59
theorem dX11_off_0 : decode cX11_off 0 = .ok (.iload_n 1, 1) := oc_27 shX11_off_0
theorem dX11_off_1 : decode cX11_off 1 = .ok (.iconst 0, 1) := oc_3 shX11_off_1
theorem dX11_off_2 : decode cX11_off 2 = .ok (.aload_n 0, 1) := oc_42 shX11_off_2
theorem dX11_off_3 : decode cX11_off 3 = .ok (.getfield 311, 3) := oc_180 shX11_off_3
theorem dX11_off_6 : decode cX11_off 6 = .ok (.iconst 1, 1) := oc_4 shX11_off_6
theorem dX11_off_7 : decode cX11_off 7 = .ok (.isub, 1) := oc_100 shX11_off_7
theorem dX11_off_8 : decode cX11_off 8 = .ok (.invokestatic 80, 3) := oc_184 shX11_off_8
theorem dX11_off_11 : decode cX11_off 11 = .ok (.ifCond .eq 20, 3) := oc_153 shX11_off_11 sgw_0_20
theorem dX11_off_14 : decode cX11_off 14 = .ok (.iload_n 2, 1) := oc_28 shX11_off_14
theorem dX11_off_15 : decode cX11_off 15 = .ok (.invokestatic 99, 3) := oc_184 shX11_off_15
theorem dX11_off_18 : decode cX11_off 18 = .ok (.ifCond .eq 13, 3) := oc_153 shX11_off_18 sgw_0_13
theorem dX11_off_21 : decode cX11_off 21 = .ok (.aload_n 0, 1) := oc_42 shX11_off_21
theorem dX11_off_22 : decode cX11_off 22 = .ok (.iload_n 1, 1) := oc_27 shX11_off_22
theorem dX11_off_23 : decode cX11_off 23 = .ok (.iload_n 2, 1) := oc_28 shX11_off_23
theorem dX11_off_24 : decode cX11_off 24 = .ok (.invokevirtual 317, 3) := oc_182 shX11_off_24
theorem dX11_off_27 : decode cX11_off 27 = .ok (.iload_n 3, 1) := oc_29 shX11_off_27
theorem dX11_off_28 : decode cX11_off 28 = .ok (.if_icmp .ne 5, 3) := oc_160 shX11_off_28 sgw_0_5
theorem dX11_off_33 : decode cX11_off 33 = .ok (.aload_n 0, 1) := oc_42 shX11_off_33
theorem dX11_off_34 : decode cX11_off 34 = .ok (.getfield 47, 3) := oc_180 shX11_off_34
theorem dX11_off_37 : decode cX11_off 37 = .ok (.getfield 321, 3) := oc_180 shX11_off_37
theorem dX11_off_40 : decode cX11_off 40 = .ok (.iload_n 1, 1) := oc_27 shX11_off_40
theorem dX11_off_41 : decode cX11_off 41 = .ok (.sipush 400, 3) := oc_17 shX11_off_41 sgw_1_144
theorem dX11_off_44 : decode cX11_off 44 = .ok (.imul, 1) := oc_104 shX11_off_44
theorem dX11_off_45 : decode cX11_off 45 = .ok (.iload_n 2, 1) := oc_28 shX11_off_45
theorem dX11_off_46 : decode cX11_off 46 = .ok (.iadd, 1) := oc_96 shX11_off_46
theorem dX11_off_47 : decode cX11_off 47 = .ok (.iload_n 3, 1) := oc_29 shX11_off_47
theorem dX11_off_48 : decode cX11_off 48 = .ok (.ifCond .eq 7, 3) := oc_153 shX11_off_48 sgw_0_7
theorem dX11_off_55 : decode cX11_off 55 = .ok (.iconst 0, 1) := oc_3 shX11_off_55
theorem dX11_off_56 : decode cX11_off 56 = .ok (.invokestatic 184, 3) := oc_184 shX11_off_56
theorem dX11_off_59 : decode cX11_off 59 = .ok (.iconst 1, 1) := oc_4 shX11_off_59
theorem dX11_off_60 : decode cX11_off 60 = .ok (.ireturn, 1) := oc_172 shX11_off_60
theorem dX11_off_51 : decode cX11_off 51 = .ok (.iconst 1, 1) := oc_4 shX11_off_51
theorem dX11_off_52 : decode cX11_off 52 = .ok (.goto 4, 3) := oc_167 shX11_off_52 sgw_0_4
theorem dX11_off_31 : decode cX11_off 31 = .ok (.iconst 0, 1) := oc_3 shX11_off_31
theorem dX11_off_32 : decode cX11_off 32 = .ok (.ireturn, 1) := oc_172 shX11_off_32
noncomputable def sxX11_savedFrom_39 : List UInt8 := []
noncomputable def sxX11_savedFrom_38 : List UInt8 := 172 :: sxX11_savedFrom_39
noncomputable def sxX11_savedFrom_37 : List UInt8 := 29 :: sxX11_savedFrom_38
noncomputable def sxX11_savedFrom_34 : List UInt8 := 167 :: 255 :: 227 :: sxX11_savedFrom_37
noncomputable def sxX11_savedFrom_31 : List UInt8 := 132 :: 4 :: 1 :: sxX11_savedFrom_34
noncomputable def sxX11_savedFrom_30 : List UInt8 := 62 :: sxX11_savedFrom_31
noncomputable def sxX11_savedFrom_29 : List UInt8 := 96 :: sxX11_savedFrom_30
noncomputable def sxX11_savedFrom_26 : List UInt8 := 184 :: 0 :: 192 :: sxX11_savedFrom_29
noncomputable def sxX11_savedFrom_25 : List UInt8 := 112 :: sxX11_savedFrom_26
noncomputable def sxX11_savedFrom_23 : List UInt8 := 16 :: 24 :: sxX11_savedFrom_25
noncomputable def sxX11_savedFrom_22 : List UInt8 := 96 :: sxX11_savedFrom_23
noncomputable def sxX11_savedFrom_20 : List UInt8 := 21 :: 4 :: sxX11_savedFrom_22
noncomputable def sxX11_savedFrom_19 : List UInt8 := 27 :: sxX11_savedFrom_20
noncomputable def sxX11_savedFrom_16 : List UInt8 := 180 :: 1 :: 211 :: sxX11_savedFrom_19
noncomputable def sxX11_savedFrom_13 : List UInt8 := 180 :: 0 :: 47 :: sxX11_savedFrom_16
noncomputable def sxX11_savedFrom_12 : List UInt8 := 42 :: sxX11_savedFrom_13
noncomputable def sxX11_savedFrom_11 : List UInt8 := 29 :: sxX11_savedFrom_12
noncomputable def sxX11_savedFrom_8 : List UInt8 := 162 :: 0 :: 29 :: sxX11_savedFrom_11
noncomputable def sxX11_savedFrom_7 : List UInt8 := 28 :: sxX11_savedFrom_8
noncomputable def sxX11_savedFrom_5 : List UInt8 := 21 :: 4 :: sxX11_savedFrom_7
noncomputable def sxX11_savedFrom_3 : List UInt8 := 54 :: 4 :: sxX11_savedFrom_5
noncomputable def sxX11_savedFrom_2 : List UInt8 := 3 :: sxX11_savedFrom_3
noncomputable def sxX11_savedFrom_1 : List UInt8 := 62 :: sxX11_savedFrom_2
noncomputable def sxX11_savedFrom_0 : List UInt8 := 3 :: sxX11_savedFrom_1
theorem shX11_savedFrom_0 : cX11_savedFrom.data.toList.drop 0 = sxX11_savedFrom_0 := rfl
theorem shX11_savedFrom_1 : cX11_savedFrom.data.toList.drop 1 = sxX11_savedFrom_1 := dSn 1 shX11_savedFrom_0
theorem shX11_savedFrom_2 : cX11_savedFrom.data.toList.drop 2 = sxX11_savedFrom_2 := dSn 1 shX11_savedFrom_1
theorem shX11_savedFrom_3 : cX11_savedFrom.data.toList.drop 3 = sxX11_savedFrom_3 := dSn 1 shX11_savedFrom_2
theorem shX11_savedFrom_5 : cX11_savedFrom.data.toList.drop 5 = sxX11_savedFrom_5 := dSn 2 shX11_savedFrom_3
theorem shX11_savedFrom_7 : cX11_savedFrom.data.toList.drop 7 = sxX11_savedFrom_7 := dSn 2 shX11_savedFrom_5
theorem shX11_savedFrom_8 : cX11_savedFrom.data.toList.drop 8 = sxX11_savedFrom_8 := dSn 1 shX11_savedFrom_7
theorem shX11_savedFrom_11 : cX11_savedFrom.data.toList.drop 11 = sxX11_savedFrom_11 := dSn 3 shX11_savedFrom_8
theorem shX11_savedFrom_12 : cX11_savedFrom.data.toList.drop 12 = sxX11_savedFrom_12 := dSn 1 shX11_savedFrom_11
theorem shX11_savedFrom_13 : cX11_savedFrom.data.toList.drop 13 = sxX11_savedFrom_13 := dSn 1 shX11_savedFrom_12
theorem shX11_savedFrom_16 : cX11_savedFrom.data.toList.drop 16 = sxX11_savedFrom_16 := dSn 3 shX11_savedFrom_13
theorem shX11_savedFrom_19 : cX11_savedFrom.data.toList.drop 19 = sxX11_savedFrom_19 := dSn 3 shX11_savedFrom_16
theorem shX11_savedFrom_20 : cX11_savedFrom.data.toList.drop 20 = sxX11_savedFrom_20 := dSn 1 shX11_savedFrom_19
theorem shX11_savedFrom_22 : cX11_savedFrom.data.toList.drop 22 = sxX11_savedFrom_22 := dSn 2 shX11_savedFrom_20
theorem shX11_savedFrom_23 : cX11_savedFrom.data.toList.drop 23 = sxX11_savedFrom_23 := dSn 1 shX11_savedFrom_22
theorem shX11_savedFrom_25 : cX11_savedFrom.data.toList.drop 25 = sxX11_savedFrom_25 := dSn 2 shX11_savedFrom_23
theorem shX11_savedFrom_26 : cX11_savedFrom.data.toList.drop 26 = sxX11_savedFrom_26 := dSn 1 shX11_savedFrom_25
theorem shX11_savedFrom_29 : cX11_savedFrom.data.toList.drop 29 = sxX11_savedFrom_29 := dSn 3 shX11_savedFrom_26
theorem shX11_savedFrom_30 : cX11_savedFrom.data.toList.drop 30 = sxX11_savedFrom_30 := dSn 1 shX11_savedFrom_29
theorem shX11_savedFrom_31 : cX11_savedFrom.data.toList.drop 31 = sxX11_savedFrom_31 := dSn 1 shX11_savedFrom_30
theorem shX11_savedFrom_34 : cX11_savedFrom.data.toList.drop 34 = sxX11_savedFrom_34 := dSn 3 shX11_savedFrom_31
theorem shX11_savedFrom_37 : cX11_savedFrom.data.toList.drop 37 = sxX11_savedFrom_37 := dSn 3 shX11_savedFrom_34
theorem shX11_savedFrom_38 : cX11_savedFrom.data.toList.drop 38 = sxX11_savedFrom_38 := dSn 1 shX11_savedFrom_37
theorem dX11_savedFrom_0 : decode cX11_savedFrom 0 = .ok (.iconst 0, 1) := oc_3 shX11_savedFrom_0
theorem dX11_savedFrom_1 : decode cX11_savedFrom 1 = .ok (.istore_n 3, 1) := oc_62 shX11_savedFrom_1
theorem dX11_savedFrom_2 : decode cX11_savedFrom 2 = .ok (.iconst 0, 1) := oc_3 shX11_savedFrom_2
theorem dX11_savedFrom_3 : decode cX11_savedFrom 3 = .ok (.istore 4, 2) := oc_54 shX11_savedFrom_3
theorem dX11_savedFrom_5 : decode cX11_savedFrom 5 = .ok (.iload 4, 2) := oc_21 shX11_savedFrom_5
theorem dX11_savedFrom_7 : decode cX11_savedFrom 7 = .ok (.iload_n 2, 1) := oc_28 shX11_savedFrom_7
theorem dX11_savedFrom_8 : decode cX11_savedFrom 8 = .ok (.if_icmp .ge 29, 3) := oc_162 shX11_savedFrom_8 sgw_0_29
theorem dX11_savedFrom_37 : decode cX11_savedFrom 37 = .ok (.iload_n 3, 1) := oc_29 shX11_savedFrom_37
theorem dX11_savedFrom_38 : decode cX11_savedFrom 38 = .ok (.ireturn, 1) := oc_172 shX11_savedFrom_38
theorem dX11_savedFrom_11 : decode cX11_savedFrom 11 = .ok (.iload_n 3, 1) := oc_29 shX11_savedFrom_11
theorem dX11_savedFrom_12 : decode cX11_savedFrom 12 = .ok (.aload_n 0, 1) := oc_42 shX11_savedFrom_12
theorem dX11_savedFrom_13 : decode cX11_savedFrom 13 = .ok (.getfield 47, 3) := oc_180 shX11_savedFrom_13
theorem dX11_savedFrom_16 : decode cX11_savedFrom 16 = .ok (.getfield 467, 3) := oc_180 shX11_savedFrom_16
theorem dX11_savedFrom_19 : decode cX11_savedFrom 19 = .ok (.iload_n 1, 1) := oc_27 shX11_savedFrom_19
theorem dX11_savedFrom_20 : decode cX11_savedFrom 20 = .ok (.iload 4, 2) := oc_21 shX11_savedFrom_20
theorem dX11_savedFrom_22 : decode cX11_savedFrom 22 = .ok (.iadd, 1) := oc_96 shX11_savedFrom_22
theorem dX11_savedFrom_23 : decode cX11_savedFrom 23 = .ok (.bipush 24, 2) := oc_16 shX11_savedFrom_23 sgb_24
theorem dX11_savedFrom_25 : decode cX11_savedFrom 25 = .ok (.irem, 1) := oc_112 shX11_savedFrom_25
theorem dX11_savedFrom_26 : decode cX11_savedFrom 26 = .ok (.invokestatic 192, 3) := oc_184 shX11_savedFrom_26
theorem dX11_savedFrom_29 : decode cX11_savedFrom 29 = .ok (.iadd, 1) := oc_96 shX11_savedFrom_29
theorem dX11_savedFrom_30 : decode cX11_savedFrom 30 = .ok (.istore_n 3, 1) := oc_62 shX11_savedFrom_30
theorem dX11_savedFrom_31 : decode cX11_savedFrom 31 = .ok (.iinc 4 1, 3) := oc_132 shX11_savedFrom_31 sgb_1
theorem dX11_savedFrom_34 : decode cX11_savedFrom 34 = .ok (.goto (-29), 3) := oc_167 shX11_savedFrom_34 sgw_255_227
noncomputable def sxX11_lock_81 : List UInt8 := []
noncomputable def sxX11_lock_80 : List UInt8 := 172 :: sxX11_lock_81
noncomputable def sxX11_lock_78 : List UInt8 := 21 :: 4 :: sxX11_lock_80
noncomputable def sxX11_lock_75 : List UInt8 := 167 :: 0 :: 5 :: sxX11_lock_78
noncomputable def sxX11_lock_74 : List UInt8 := 29 :: sxX11_lock_75
noncomputable def sxX11_lock_71 : List UInt8 := 154 :: 0 :: 7 :: sxX11_lock_74
noncomputable def sxX11_lock_70 : List UInt8 := 28 :: sxX11_lock_71
noncomputable def sxX11_lock_67 : List UInt8 := 167 :: 255 :: 223 :: sxX11_lock_70
noncomputable def sxX11_lock_64 : List UInt8 := 132 :: 5 :: 1 :: sxX11_lock_67
noncomputable def sxX11_lock_62 : List UInt8 := 54 :: 4 :: sxX11_lock_64
noncomputable def sxX11_lock_60 : List UInt8 := 21 :: 6 :: sxX11_lock_62
noncomputable def sxX11_lock_59 : List UInt8 := 62 :: sxX11_lock_60
noncomputable def sxX11_lock_57 : List UInt8 := 21 :: 5 :: sxX11_lock_59
noncomputable def sxX11_lock_54 : List UInt8 := 164 :: 0 :: 10 :: sxX11_lock_57
noncomputable def sxX11_lock_52 : List UInt8 := 21 :: 4 :: sxX11_lock_54
noncomputable def sxX11_lock_50 : List UInt8 := 21 :: 6 :: sxX11_lock_52
noncomputable def sxX11_lock_48 : List UInt8 := 54 :: 6 :: sxX11_lock_50
noncomputable def sxX11_lock_45 : List UInt8 := 182 :: 1 :: 214 :: sxX11_lock_48
noncomputable def sxX11_lock_44 : List UInt8 := 27 :: sxX11_lock_45
noncomputable def sxX11_lock_42 : List UInt8 := 21 :: 5 :: sxX11_lock_44
noncomputable def sxX11_lock_41 : List UInt8 := 42 :: sxX11_lock_42
noncomputable def sxX11_lock_38 : List UInt8 := 162 :: 0 :: 32 :: sxX11_lock_41
noncomputable def sxX11_lock_36 : List UInt8 := 16 :: 24 :: sxX11_lock_38
noncomputable def sxX11_lock_34 : List UInt8 := 21 :: 5 :: sxX11_lock_36
noncomputable def sxX11_lock_32 : List UInt8 := 54 :: 5 :: sxX11_lock_34
noncomputable def sxX11_lock_31 : List UInt8 := 4 :: sxX11_lock_32
noncomputable def sxX11_lock_29 : List UInt8 := 54 :: 4 :: sxX11_lock_31
noncomputable def sxX11_lock_26 : List UInt8 := 182 :: 1 :: 214 :: sxX11_lock_29
noncomputable def sxX11_lock_25 : List UInt8 := 27 :: sxX11_lock_26
noncomputable def sxX11_lock_24 : List UInt8 := 3 :: sxX11_lock_25
noncomputable def sxX11_lock_23 : List UInt8 := 42 :: sxX11_lock_24
noncomputable def sxX11_lock_22 : List UInt8 := 62 :: sxX11_lock_23
noncomputable def sxX11_lock_21 : List UInt8 := 3 :: sxX11_lock_22
noncomputable def sxX11_lock_20 : List UInt8 := 172 :: sxX11_lock_21
noncomputable def sxX11_lock_19 : List UInt8 := 2 :: sxX11_lock_20
noncomputable def sxX11_lock_16 : List UInt8 := 154 :: 0 :: 5 :: sxX11_lock_19
noncomputable def sxX11_lock_13 : List UInt8 := 184 :: 0 :: 80 :: sxX11_lock_16
noncomputable def sxX11_lock_12 : List UInt8 := 4 :: sxX11_lock_13
noncomputable def sxX11_lock_11 : List UInt8 := 3 :: sxX11_lock_12
noncomputable def sxX11_lock_10 : List UInt8 := 28 :: sxX11_lock_11
noncomputable def sxX11_lock_7 : List UInt8 := 153 :: 0 :: 12 :: sxX11_lock_10
noncomputable def sxX11_lock_4 : List UInt8 := 184 :: 0 :: 80 :: sxX11_lock_7
noncomputable def sxX11_lock_2 : List UInt8 := 16 :: 12 :: sxX11_lock_4
noncomputable def sxX11_lock_1 : List UInt8 := 4 :: sxX11_lock_2
noncomputable def sxX11_lock_0 : List UInt8 := 27 :: sxX11_lock_1
theorem shX11_lock_0 : cX11_lock.data.toList.drop 0 = sxX11_lock_0 := rfl
theorem shX11_lock_1 : cX11_lock.data.toList.drop 1 = sxX11_lock_1 := dSn 1 shX11_lock_0
theorem shX11_lock_2 : cX11_lock.data.toList.drop 2 = sxX11_lock_2 := dSn 1 shX11_lock_1
theorem shX11_lock_4 : cX11_lock.data.toList.drop 4 = sxX11_lock_4 := dSn 2 shX11_lock_2
theorem shX11_lock_7 : cX11_lock.data.toList.drop 7 = sxX11_lock_7 := dSn 3 shX11_lock_4
theorem shX11_lock_10 : cX11_lock.data.toList.drop 10 = sxX11_lock_10 := dSn 3 shX11_lock_7
theorem shX11_lock_11 : cX11_lock.data.toList.drop 11 = sxX11_lock_11 := dSn 1 shX11_lock_10
theorem shX11_lock_12 : cX11_lock.data.toList.drop 12 = sxX11_lock_12 := dSn 1 shX11_lock_11
theorem shX11_lock_13 : cX11_lock.data.toList.drop 13 = sxX11_lock_13 := dSn 1 shX11_lock_12
theorem shX11_lock_16 : cX11_lock.data.toList.drop 16 = sxX11_lock_16 := dSn 3 shX11_lock_13
theorem shX11_lock_19 : cX11_lock.data.toList.drop 19 = sxX11_lock_19 := dSn 3 shX11_lock_16
theorem shX11_lock_20 : cX11_lock.data.toList.drop 20 = sxX11_lock_20 := dSn 1 shX11_lock_19
theorem shX11_lock_21 : cX11_lock.data.toList.drop 21 = sxX11_lock_21 := dSn 1 shX11_lock_20
theorem shX11_lock_22 : cX11_lock.data.toList.drop 22 = sxX11_lock_22 := dSn 1 shX11_lock_21
theorem shX11_lock_23 : cX11_lock.data.toList.drop 23 = sxX11_lock_23 := dSn 1 shX11_lock_22
theorem shX11_lock_24 : cX11_lock.data.toList.drop 24 = sxX11_lock_24 := dSn 1 shX11_lock_23
theorem shX11_lock_25 : cX11_lock.data.toList.drop 25 = sxX11_lock_25 := dSn 1 shX11_lock_24
theorem shX11_lock_26 : cX11_lock.data.toList.drop 26 = sxX11_lock_26 := dSn 1 shX11_lock_25
theorem shX11_lock_29 : cX11_lock.data.toList.drop 29 = sxX11_lock_29 := dSn 3 shX11_lock_26
theorem shX11_lock_31 : cX11_lock.data.toList.drop 31 = sxX11_lock_31 := dSn 2 shX11_lock_29
theorem shX11_lock_32 : cX11_lock.data.toList.drop 32 = sxX11_lock_32 := dSn 1 shX11_lock_31
theorem shX11_lock_34 : cX11_lock.data.toList.drop 34 = sxX11_lock_34 := dSn 2 shX11_lock_32
theorem shX11_lock_36 : cX11_lock.data.toList.drop 36 = sxX11_lock_36 := dSn 2 shX11_lock_34
theorem shX11_lock_38 : cX11_lock.data.toList.drop 38 = sxX11_lock_38 := dSn 2 shX11_lock_36
theorem shX11_lock_41 : cX11_lock.data.toList.drop 41 = sxX11_lock_41 := dSn 3 shX11_lock_38
theorem shX11_lock_42 : cX11_lock.data.toList.drop 42 = sxX11_lock_42 := dSn 1 shX11_lock_41
theorem shX11_lock_44 : cX11_lock.data.toList.drop 44 = sxX11_lock_44 := dSn 2 shX11_lock_42
theorem shX11_lock_45 : cX11_lock.data.toList.drop 45 = sxX11_lock_45 := dSn 1 shX11_lock_44
theorem shX11_lock_48 : cX11_lock.data.toList.drop 48 = sxX11_lock_48 := dSn 3 shX11_lock_45
theorem shX11_lock_50 : cX11_lock.data.toList.drop 50 = sxX11_lock_50 := dSn 2 shX11_lock_48
theorem shX11_lock_52 : cX11_lock.data.toList.drop 52 = sxX11_lock_52 := dSn 2 shX11_lock_50
theorem shX11_lock_54 : cX11_lock.data.toList.drop 54 = sxX11_lock_54 := dSn 2 shX11_lock_52
theorem shX11_lock_57 : cX11_lock.data.toList.drop 57 = sxX11_lock_57 := dSn 3 shX11_lock_54
theorem shX11_lock_59 : cX11_lock.data.toList.drop 59 = sxX11_lock_59 := dSn 2 shX11_lock_57
theorem shX11_lock_60 : cX11_lock.data.toList.drop 60 = sxX11_lock_60 := dSn 1 shX11_lock_59
theorem shX11_lock_62 : cX11_lock.data.toList.drop 62 = sxX11_lock_62 := dSn 2 shX11_lock_60
theorem shX11_lock_64 : cX11_lock.data.toList.drop 64 = sxX11_lock_64 := dSn 2 shX11_lock_62
theorem shX11_lock_67 : cX11_lock.data.toList.drop 67 = sxX11_lock_67 := dSn 3 shX11_lock_64
theorem shX11_lock_70 : cX11_lock.data.toList.drop 70 = sxX11_lock_70 := dSn 3 shX11_lock_67
theorem shX11_lock_71 : cX11_lock.data.toList.drop 71 = sxX11_lock_71 := dSn 1 shX11_lock_70
theorem shX11_lock_74 : cX11_lock.data.toList.drop 74 = sxX11_lock_74 := dSn 3 shX11_lock_71
theorem shX11_lock_75 : cX11_lock.data.toList.drop 75 = sxX11_lock_75 := dSn 1 shX11_lock_74
theorem shX11_lock_78 : cX11_lock.data.toList.drop 78 = sxX11_lock_78 := dSn 3 shX11_lock_75
theorem shX11_lock_80 : cX11_lock.data.toList.drop 80 = sxX11_lock_80 := dSn 2 shX11_lock_78
theorem dX11_lock_0 : decode cX11_lock 0 = .ok (.iload_n 1, 1) := oc_27 shX11_lock_0
theorem dX11_lock_1 : decode cX11_lock 1 = .ok (.iconst 1, 1) := oc_4 shX11_lock_1
theorem dX11_lock_2 : decode cX11_lock 2 = .ok (.bipush 12, 2) := oc_16 shX11_lock_2 sgb_12
theorem dX11_lock_4 : decode cX11_lock 4 = .ok (.invokestatic 80, 3) := oc_184 shX11_lock_4
theorem dX11_lock_7 : decode cX11_lock 7 = .ok (.ifCond .eq 12, 3) := oc_153 shX11_lock_7 sgw_0_12
theorem dX11_lock_10 : decode cX11_lock 10 = .ok (.iload_n 2, 1) := oc_28 shX11_lock_10
theorem dX11_lock_11 : decode cX11_lock 11 = .ok (.iconst 0, 1) := oc_3 shX11_lock_11
theorem dX11_lock_12 : decode cX11_lock 12 = .ok (.iconst 1, 1) := oc_4 shX11_lock_12
theorem dX11_lock_13 : decode cX11_lock 13 = .ok (.invokestatic 80, 3) := oc_184 shX11_lock_13
theorem dX11_lock_16 : decode cX11_lock 16 = .ok (.ifCond .ne 5, 3) := oc_154 shX11_lock_16 sgw_0_5
theorem dX11_lock_21 : decode cX11_lock 21 = .ok (.iconst 0, 1) := oc_3 shX11_lock_21
theorem dX11_lock_22 : decode cX11_lock 22 = .ok (.istore_n 3, 1) := oc_62 shX11_lock_22
theorem dX11_lock_23 : decode cX11_lock 23 = .ok (.aload_n 0, 1) := oc_42 shX11_lock_23
theorem dX11_lock_24 : decode cX11_lock 24 = .ok (.iconst 0, 1) := oc_3 shX11_lock_24
theorem dX11_lock_25 : decode cX11_lock 25 = .ok (.iload_n 1, 1) := oc_27 shX11_lock_25
theorem dX11_lock_26 : decode cX11_lock 26 = .ok (.invokevirtual 470, 3) := oc_182 shX11_lock_26
theorem dX11_lock_29 : decode cX11_lock 29 = .ok (.istore 4, 2) := oc_54 shX11_lock_29
theorem dX11_lock_31 : decode cX11_lock 31 = .ok (.iconst 1, 1) := oc_4 shX11_lock_31
theorem dX11_lock_32 : decode cX11_lock 32 = .ok (.istore 5, 2) := oc_54 shX11_lock_32
theorem dX11_lock_34 : decode cX11_lock 34 = .ok (.iload 5, 2) := oc_21 shX11_lock_34
theorem dX11_lock_36 : decode cX11_lock 36 = .ok (.bipush 24, 2) := oc_16 shX11_lock_36 sgb_24
theorem dX11_lock_38 : decode cX11_lock 38 = .ok (.if_icmp .ge 32, 3) := oc_162 shX11_lock_38 sgw_0_32
theorem dX11_lock_70 : decode cX11_lock 70 = .ok (.iload_n 2, 1) := oc_28 shX11_lock_70
theorem dX11_lock_71 : decode cX11_lock 71 = .ok (.ifCond .ne 7, 3) := oc_154 shX11_lock_71 sgw_0_7
theorem dX11_lock_78 : decode cX11_lock 78 = .ok (.iload 4, 2) := oc_21 shX11_lock_78
theorem dX11_lock_80 : decode cX11_lock 80 = .ok (.ireturn, 1) := oc_172 shX11_lock_80
theorem dX11_lock_74 : decode cX11_lock 74 = .ok (.iload_n 3, 1) := oc_29 shX11_lock_74
theorem dX11_lock_75 : decode cX11_lock 75 = .ok (.goto 5, 3) := oc_167 shX11_lock_75 sgw_0_5
theorem dX11_lock_41 : decode cX11_lock 41 = .ok (.aload_n 0, 1) := oc_42 shX11_lock_41
theorem dX11_lock_42 : decode cX11_lock 42 = .ok (.iload 5, 2) := oc_21 shX11_lock_42
theorem dX11_lock_44 : decode cX11_lock 44 = .ok (.iload_n 1, 1) := oc_27 shX11_lock_44
theorem dX11_lock_45 : decode cX11_lock 45 = .ok (.invokevirtual 470, 3) := oc_182 shX11_lock_45
theorem dX11_lock_48 : decode cX11_lock 48 = .ok (.istore 6, 2) := oc_54 shX11_lock_48
theorem dX11_lock_50 : decode cX11_lock 50 = .ok (.iload 6, 2) := oc_21 shX11_lock_50
theorem dX11_lock_52 : decode cX11_lock 52 = .ok (.iload 4, 2) := oc_21 shX11_lock_52
theorem dX11_lock_54 : decode cX11_lock 54 = .ok (.if_icmp .le 10, 3) := oc_164 shX11_lock_54 sgw_0_10
theorem dX11_lock_64 : decode cX11_lock 64 = .ok (.iinc 5 1, 3) := oc_132 shX11_lock_64 sgb_1
theorem dX11_lock_67 : decode cX11_lock 67 = .ok (.goto (-33), 3) := oc_167 shX11_lock_67 sgw_255_223
theorem dX11_lock_57 : decode cX11_lock 57 = .ok (.iload 5, 2) := oc_21 shX11_lock_57
theorem dX11_lock_59 : decode cX11_lock 59 = .ok (.istore_n 3, 1) := oc_62 shX11_lock_59
theorem dX11_lock_60 : decode cX11_lock 60 = .ok (.iload 6, 2) := oc_21 shX11_lock_60
theorem dX11_lock_62 : decode cX11_lock 62 = .ok (.istore 4, 2) := oc_54 shX11_lock_62
theorem dX11_lock_19 : decode cX11_lock 19 = .ok (.iconst (-1), 1) := oc_2 shX11_lock_19
theorem dX11_lock_20 : decode cX11_lock 20 = .ok (.ireturn, 1) := oc_172 shX11_lock_20
noncomputable def sxX7_change_19 : List UInt8 := []
noncomputable def sxX7_change_18 : List UInt8 := 177 :: sxX7_change_19
noncomputable def sxX7_change_15 : List UInt8 := 184 :: 0 :: 52 :: sxX7_change_18
noncomputable def sxX7_change_14 : List UInt8 := 96 :: sxX7_change_15
noncomputable def sxX7_change_13 : List UInt8 := 28 :: sxX7_change_14
noncomputable def sxX7_change_10 : List UInt8 := 184 :: 0 :: 48 :: sxX7_change_13
noncomputable def sxX7_change_9 : List UInt8 := 27 :: sxX7_change_10
noncomputable def sxX7_change_6 : List UInt8 := 180 :: 0 :: 45 :: sxX7_change_9
noncomputable def sxX7_change_5 : List UInt8 := 42 :: sxX7_change_6
noncomputable def sxX7_change_4 : List UInt8 := 27 :: sxX7_change_5
noncomputable def sxX7_change_1 : List UInt8 := 180 :: 0 :: 45 :: sxX7_change_4
noncomputable def sxX7_change_0 : List UInt8 := 42 :: sxX7_change_1
theorem shX7_change_0 : cX7_change.data.toList.drop 0 = sxX7_change_0 := rfl
theorem shX7_change_1 : cX7_change.data.toList.drop 1 = sxX7_change_1 := dSn 1 shX7_change_0
theorem shX7_change_4 : cX7_change.data.toList.drop 4 = sxX7_change_4 := dSn 3 shX7_change_1
theorem shX7_change_5 : cX7_change.data.toList.drop 5 = sxX7_change_5 := dSn 1 shX7_change_4
theorem shX7_change_6 : cX7_change.data.toList.drop 6 = sxX7_change_6 := dSn 1 shX7_change_5
theorem shX7_change_9 : cX7_change.data.toList.drop 9 = sxX7_change_9 := dSn 3 shX7_change_6
theorem shX7_change_10 : cX7_change.data.toList.drop 10 = sxX7_change_10 := dSn 1 shX7_change_9
theorem shX7_change_13 : cX7_change.data.toList.drop 13 = sxX7_change_13 := dSn 3 shX7_change_10
theorem shX7_change_14 : cX7_change.data.toList.drop 14 = sxX7_change_14 := dSn 1 shX7_change_13
theorem shX7_change_15 : cX7_change.data.toList.drop 15 = sxX7_change_15 := dSn 1 shX7_change_14
theorem shX7_change_18 : cX7_change.data.toList.drop 18 = sxX7_change_18 := dSn 3 shX7_change_15
theorem dX7_change_0 : decode cX7_change 0 = .ok (.aload_n 0, 1) := oc_42 shX7_change_0
theorem dX7_change_1 : decode cX7_change 1 = .ok (.getfield 45, 3) := oc_180 shX7_change_1
theorem dX7_change_4 : decode cX7_change 4 = .ok (.iload_n 1, 1) := oc_27 shX7_change_4
theorem dX7_change_5 : decode cX7_change 5 = .ok (.aload_n 0, 1) := oc_42 shX7_change_5
theorem dX7_change_6 : decode cX7_change 6 = .ok (.getfield 45, 3) := oc_180 shX7_change_6
theorem dX7_change_9 : decode cX7_change 9 = .ok (.iload_n 1, 1) := oc_27 shX7_change_9
theorem dX7_change_10 : decode cX7_change 10 = .ok (.invokestatic 48, 3) := oc_184 shX7_change_10
theorem dX7_change_13 : decode cX7_change 13 = .ok (.iload_n 2, 1) := oc_28 shX7_change_13
theorem dX7_change_14 : decode cX7_change 14 = .ok (.iadd, 1) := oc_96 shX7_change_14
theorem dX7_change_15 : decode cX7_change 15 = .ok (.invokestatic 52, 3) := oc_184 shX7_change_15
theorem dX7_change_18 : decode cX7_change 18 = .ok (.return_, 1) := oc_177 shX7_change_18
noncomputable def sxX11_spill_59 : List UInt8 := []
noncomputable def sxX11_spill_58 : List UInt8 := 172 :: sxX11_spill_59
noncomputable def sxX11_spill_55 : List UInt8 := 180 :: 2 :: 5 :: sxX11_spill_58
noncomputable def sxX11_spill_54 : List UInt8 := 42 :: sxX11_spill_55
noncomputable def sxX11_spill_51 : List UInt8 := 181 :: 2 :: 5 :: sxX11_spill_54
noncomputable def sxX11_spill_50 : List UInt8 := 96 :: sxX11_spill_51
noncomputable def sxX11_spill_49 : List UInt8 := 4 :: sxX11_spill_50
noncomputable def sxX11_spill_46 : List UInt8 := 180 :: 2 :: 5 :: sxX11_spill_49
noncomputable def sxX11_spill_45 : List UInt8 := 89 :: sxX11_spill_46
noncomputable def sxX11_spill_44 : List UInt8 := 42 :: sxX11_spill_45
noncomputable def sxX11_spill_41 : List UInt8 := 182 :: 0 :: 144 :: sxX11_spill_44
noncomputable def sxX11_spill_40 : List UInt8 := 116 :: sxX11_spill_41
noncomputable def sxX11_spill_39 : List UInt8 := 28 :: sxX11_spill_40
noncomputable def sxX11_spill_38 : List UInt8 := 27 :: sxX11_spill_39
noncomputable def sxX11_spill_35 : List UInt8 := 180 :: 0 :: 47 :: sxX11_spill_38
noncomputable def sxX11_spill_34 : List UInt8 := 42 :: sxX11_spill_35
noncomputable def sxX11_spill_33 : List UInt8 := 172 :: sxX11_spill_34
noncomputable def sxX11_spill_32 : List UInt8 := 2 :: sxX11_spill_33
noncomputable def sxX11_spill_29 : List UInt8 := 161 :: 0 :: 5 :: sxX11_spill_32
noncomputable def sxX11_spill_27 : List UInt8 := 16 :: 40 :: sxX11_spill_29
noncomputable def sxX11_spill_24 : List UInt8 := 180 :: 2 :: 5 :: sxX11_spill_27
noncomputable def sxX11_spill_23 : List UInt8 := 42 :: sxX11_spill_24
noncomputable def sxX11_spill_20 : List UInt8 := 153 :: 0 :: 12 :: sxX11_spill_23
noncomputable def sxX11_spill_17 : List UInt8 := 184 :: 0 :: 80 :: sxX11_spill_20
noncomputable def sxX11_spill_14 : List UInt8 := 17 :: 1 :: 144 :: sxX11_spill_17
noncomputable def sxX11_spill_13 : List UInt8 := 4 :: sxX11_spill_14
noncomputable def sxX11_spill_12 : List UInt8 := 28 :: sxX11_spill_13
noncomputable def sxX11_spill_9 : List UInt8 := 153 :: 0 :: 23 :: sxX11_spill_12
noncomputable def sxX11_spill_6 : List UInt8 := 184 :: 0 :: 80 :: sxX11_spill_9
noncomputable def sxX11_spill_3 : List UInt8 := 180 :: 0 :: 103 :: sxX11_spill_6
noncomputable def sxX11_spill_2 : List UInt8 := 42 :: sxX11_spill_3
noncomputable def sxX11_spill_1 : List UInt8 := 3 :: sxX11_spill_2
noncomputable def sxX11_spill_0 : List UInt8 := 27 :: sxX11_spill_1
theorem shX11_spill_0 : cX11_spill.data.toList.drop 0 = sxX11_spill_0 := rfl
theorem shX11_spill_1 : cX11_spill.data.toList.drop 1 = sxX11_spill_1 := dSn 1 shX11_spill_0
theorem shX11_spill_2 : cX11_spill.data.toList.drop 2 = sxX11_spill_2 := dSn 1 shX11_spill_1
theorem shX11_spill_3 : cX11_spill.data.toList.drop 3 = sxX11_spill_3 := dSn 1 shX11_spill_2
theorem shX11_spill_6 : cX11_spill.data.toList.drop 6 = sxX11_spill_6 := dSn 3 shX11_spill_3
theorem shX11_spill_9 : cX11_spill.data.toList.drop 9 = sxX11_spill_9 := dSn 3 shX11_spill_6
theorem shX11_spill_12 : cX11_spill.data.toList.drop 12 = sxX11_spill_12 := dSn 3 shX11_spill_9
theorem shX11_spill_13 : cX11_spill.data.toList.drop 13 = sxX11_spill_13 := dSn 1 shX11_spill_12
theorem shX11_spill_14 : cX11_spill.data.toList.drop 14 = sxX11_spill_14 := dSn 1 shX11_spill_13
theorem shX11_spill_17 : cX11_spill.data.toList.drop 17 = sxX11_spill_17 := dSn 3 shX11_spill_14
theorem shX11_spill_20 : cX11_spill.data.toList.drop 20 = sxX11_spill_20 := dSn 3 shX11_spill_17
theorem shX11_spill_23 : cX11_spill.data.toList.drop 23 = sxX11_spill_23 := dSn 3 shX11_spill_20
theorem shX11_spill_24 : cX11_spill.data.toList.drop 24 = sxX11_spill_24 := dSn 1 shX11_spill_23
theorem shX11_spill_27 : cX11_spill.data.toList.drop 27 = sxX11_spill_27 := dSn 3 shX11_spill_24
theorem shX11_spill_29 : cX11_spill.data.toList.drop 29 = sxX11_spill_29 := dSn 2 shX11_spill_27
theorem shX11_spill_32 : cX11_spill.data.toList.drop 32 = sxX11_spill_32 := dSn 3 shX11_spill_29
theorem shX11_spill_33 : cX11_spill.data.toList.drop 33 = sxX11_spill_33 := dSn 1 shX11_spill_32
theorem shX11_spill_34 : cX11_spill.data.toList.drop 34 = sxX11_spill_34 := dSn 1 shX11_spill_33
theorem shX11_spill_35 : cX11_spill.data.toList.drop 35 = sxX11_spill_35 := dSn 1 shX11_spill_34
theorem shX11_spill_38 : cX11_spill.data.toList.drop 38 = sxX11_spill_38 := dSn 3 shX11_spill_35
theorem shX11_spill_39 : cX11_spill.data.toList.drop 39 = sxX11_spill_39 := dSn 1 shX11_spill_38
theorem shX11_spill_40 : cX11_spill.data.toList.drop 40 = sxX11_spill_40 := dSn 1 shX11_spill_39
theorem shX11_spill_41 : cX11_spill.data.toList.drop 41 = sxX11_spill_41 := dSn 1 shX11_spill_40
theorem shX11_spill_44 : cX11_spill.data.toList.drop 44 = sxX11_spill_44 := dSn 3 shX11_spill_41
theorem shX11_spill_45 : cX11_spill.data.toList.drop 45 = sxX11_spill_45 := dSn 1 shX11_spill_44
theorem shX11_spill_46 : cX11_spill.data.toList.drop 46 = sxX11_spill_46 := dSn 1 shX11_spill_45
theorem shX11_spill_49 : cX11_spill.data.toList.drop 49 = sxX11_spill_49 := dSn 3 shX11_spill_46
theorem shX11_spill_50 : cX11_spill.data.toList.drop 50 = sxX11_spill_50 := dSn 1 shX11_spill_49
theorem shX11_spill_51 : cX11_spill.data.toList.drop 51 = sxX11_spill_51 := dSn 1 shX11_spill_50
theorem shX11_spill_54 : cX11_spill.data.toList.drop 54 = sxX11_spill_54 := dSn 3 shX11_spill_51
theorem shX11_spill_55 : cX11_spill.data.toList.drop 55 = sxX11_spill_55 := dSn 1 shX11_spill_54
theorem shX11_spill_58 : cX11_spill.data.toList.drop 58 = sxX11_spill_58 := dSn 3 shX11_spill_55
theorem dX11_spill_0 : decode cX11_spill 0 = .ok (.iload_n 1, 1) := oc_27 shX11_spill_0
theorem dX11_spill_1 : decode cX11_spill 1 = .ok (.iconst 0, 1) := oc_3 shX11_spill_1
theorem dX11_spill_2 : decode cX11_spill 2 = .ok (.aload_n 0, 1) := oc_42 shX11_spill_2
theorem dX11_spill_3 : decode cX11_spill 3 = .ok (.getfield 103, 3) := oc_180 shX11_spill_3
theorem dX11_spill_6 : decode cX11_spill 6 = .ok (.invokestatic 80, 3) := oc_184 shX11_spill_6
theorem dX11_spill_9 : decode cX11_spill 9 = .ok (.ifCond .eq 23, 3) := oc_153 shX11_spill_9 sgw_0_23
theorem dX11_spill_12 : decode cX11_spill 12 = .ok (.iload_n 2, 1) := oc_28 shX11_spill_12
theorem dX11_spill_13 : decode cX11_spill 13 = .ok (.iconst 1, 1) := oc_4 shX11_spill_13
theorem dX11_spill_14 : decode cX11_spill 14 = .ok (.sipush 400, 3) := oc_17 shX11_spill_14 sgw_1_144
theorem dX11_spill_17 : decode cX11_spill 17 = .ok (.invokestatic 80, 3) := oc_184 shX11_spill_17
theorem dX11_spill_20 : decode cX11_spill 20 = .ok (.ifCond .eq 12, 3) := oc_153 shX11_spill_20 sgw_0_12
theorem dX11_spill_23 : decode cX11_spill 23 = .ok (.aload_n 0, 1) := oc_42 shX11_spill_23
theorem dX11_spill_24 : decode cX11_spill 24 = .ok (.getfield 517, 3) := oc_180 shX11_spill_24
theorem dX11_spill_27 : decode cX11_spill 27 = .ok (.bipush 40, 2) := oc_16 shX11_spill_27 sgb_40
theorem dX11_spill_29 : decode cX11_spill 29 = .ok (.if_icmp .lt 5, 3) := oc_161 shX11_spill_29 sgw_0_5
theorem dX11_spill_34 : decode cX11_spill 34 = .ok (.aload_n 0, 1) := oc_42 shX11_spill_34
theorem dX11_spill_35 : decode cX11_spill 35 = .ok (.getfield 47, 3) := oc_180 shX11_spill_35
theorem dX11_spill_38 : decode cX11_spill 38 = .ok (.iload_n 1, 1) := oc_27 shX11_spill_38
theorem dX11_spill_39 : decode cX11_spill 39 = .ok (.iload_n 2, 1) := oc_28 shX11_spill_39
theorem dX11_spill_40 : decode cX11_spill 40 = .ok (.ineg, 1) := oc_116 shX11_spill_40
theorem dX11_spill_41 : decode cX11_spill 41 = .ok (.invokevirtual 144, 3) := oc_182 shX11_spill_41
theorem dX11_spill_44 : decode cX11_spill 44 = .ok (.aload_n 0, 1) := oc_42 shX11_spill_44
theorem dX11_spill_45 : decode cX11_spill 45 = .ok (.dup, 1) := oc_89 shX11_spill_45
theorem dX11_spill_46 : decode cX11_spill 46 = .ok (.getfield 517, 3) := oc_180 shX11_spill_46
theorem dX11_spill_49 : decode cX11_spill 49 = .ok (.iconst 1, 1) := oc_4 shX11_spill_49
theorem dX11_spill_50 : decode cX11_spill 50 = .ok (.iadd, 1) := oc_96 shX11_spill_50
theorem dX11_spill_51 : decode cX11_spill 51 = .ok (.putfield 517, 3) := oc_181 shX11_spill_51
theorem dX11_spill_54 : decode cX11_spill 54 = .ok (.aload_n 0, 1) := oc_42 shX11_spill_54
theorem dX11_spill_55 : decode cX11_spill 55 = .ok (.getfield 517, 3) := oc_180 shX11_spill_55
theorem dX11_spill_58 : decode cX11_spill 58 = .ok (.ireturn, 1) := oc_172 shX11_spill_58
theorem dX11_spill_32 : decode cX11_spill 32 = .ok (.iconst (-1), 1) := oc_2 shX11_spill_32
theorem dX11_spill_33 : decode cX11_spill 33 = .ok (.ireturn, 1) := oc_172 shX11_spill_33
noncomputable def sxX11_stock_42 : List UInt8 := []
noncomputable def sxX11_stock_41 : List UInt8 := 172 :: sxX11_stock_42
noncomputable def sxX11_stock_40 : List UInt8 := 28 :: sxX11_stock_41
noncomputable def sxX11_stock_37 : List UInt8 := 167 :: 255 :: 234 :: sxX11_stock_40
noncomputable def sxX11_stock_34 : List UInt8 := 132 :: 3 :: 1 :: sxX11_stock_37
noncomputable def sxX11_stock_33 : List UInt8 := 61 :: sxX11_stock_34
noncomputable def sxX11_stock_32 : List UInt8 := 96 :: sxX11_stock_33
noncomputable def sxX11_stock_29 : List UInt8 := 184 :: 0 :: 192 :: sxX11_stock_32
noncomputable def sxX11_stock_28 : List UInt8 := 29 :: sxX11_stock_29
noncomputable def sxX11_stock_25 : List UInt8 := 180 :: 2 :: 8 :: sxX11_stock_28
noncomputable def sxX11_stock_22 : List UInt8 := 180 :: 0 :: 47 :: sxX11_stock_25
noncomputable def sxX11_stock_21 : List UInt8 := 42 :: sxX11_stock_22
noncomputable def sxX11_stock_20 : List UInt8 := 28 :: sxX11_stock_21
noncomputable def sxX11_stock_17 : List UInt8 := 163 :: 0 :: 23 :: sxX11_stock_20
noncomputable def sxX11_stock_16 : List UInt8 := 27 :: sxX11_stock_17
noncomputable def sxX11_stock_15 : List UInt8 := 29 :: sxX11_stock_16
noncomputable def sxX11_stock_14 : List UInt8 := 62 :: sxX11_stock_15
noncomputable def sxX11_stock_13 : List UInt8 := 3 :: sxX11_stock_14
noncomputable def sxX11_stock_12 : List UInt8 := 61 :: sxX11_stock_13
noncomputable def sxX11_stock_11 : List UInt8 := 3 :: sxX11_stock_12
noncomputable def sxX11_stock_10 : List UInt8 := 172 :: sxX11_stock_11
noncomputable def sxX11_stock_7 : List UInt8 := 19 :: 1 :: 207 :: sxX11_stock_10
noncomputable def sxX11_stock_4 : List UInt8 := 154 :: 0 :: 7 :: sxX11_stock_7
noncomputable def sxX11_stock_1 : List UInt8 := 184 :: 0 :: 99 :: sxX11_stock_4
noncomputable def sxX11_stock_0 : List UInt8 := 27 :: sxX11_stock_1
theorem shX11_stock_0 : cX11_stock.data.toList.drop 0 = sxX11_stock_0 := rfl
theorem shX11_stock_1 : cX11_stock.data.toList.drop 1 = sxX11_stock_1 := dSn 1 shX11_stock_0
theorem shX11_stock_4 : cX11_stock.data.toList.drop 4 = sxX11_stock_4 := dSn 3 shX11_stock_1
theorem shX11_stock_7 : cX11_stock.data.toList.drop 7 = sxX11_stock_7 := dSn 3 shX11_stock_4
theorem shX11_stock_10 : cX11_stock.data.toList.drop 10 = sxX11_stock_10 := dSn 3 shX11_stock_7
theorem shX11_stock_11 : cX11_stock.data.toList.drop 11 = sxX11_stock_11 := dSn 1 shX11_stock_10
theorem shX11_stock_12 : cX11_stock.data.toList.drop 12 = sxX11_stock_12 := dSn 1 shX11_stock_11
theorem shX11_stock_13 : cX11_stock.data.toList.drop 13 = sxX11_stock_13 := dSn 1 shX11_stock_12
theorem shX11_stock_14 : cX11_stock.data.toList.drop 14 = sxX11_stock_14 := dSn 1 shX11_stock_13
theorem shX11_stock_15 : cX11_stock.data.toList.drop 15 = sxX11_stock_15 := dSn 1 shX11_stock_14
theorem shX11_stock_16 : cX11_stock.data.toList.drop 16 = sxX11_stock_16 := dSn 1 shX11_stock_15
theorem shX11_stock_17 : cX11_stock.data.toList.drop 17 = sxX11_stock_17 := dSn 1 shX11_stock_16
theorem shX11_stock_20 : cX11_stock.data.toList.drop 20 = sxX11_stock_20 := dSn 3 shX11_stock_17
theorem shX11_stock_21 : cX11_stock.data.toList.drop 21 = sxX11_stock_21 := dSn 1 shX11_stock_20
theorem shX11_stock_22 : cX11_stock.data.toList.drop 22 = sxX11_stock_22 := dSn 1 shX11_stock_21
theorem shX11_stock_25 : cX11_stock.data.toList.drop 25 = sxX11_stock_25 := dSn 3 shX11_stock_22
theorem shX11_stock_28 : cX11_stock.data.toList.drop 28 = sxX11_stock_28 := dSn 3 shX11_stock_25
theorem shX11_stock_29 : cX11_stock.data.toList.drop 29 = sxX11_stock_29 := dSn 1 shX11_stock_28
theorem shX11_stock_32 : cX11_stock.data.toList.drop 32 = sxX11_stock_32 := dSn 3 shX11_stock_29
theorem shX11_stock_33 : cX11_stock.data.toList.drop 33 = sxX11_stock_33 := dSn 1 shX11_stock_32
theorem shX11_stock_34 : cX11_stock.data.toList.drop 34 = sxX11_stock_34 := dSn 1 shX11_stock_33
theorem shX11_stock_37 : cX11_stock.data.toList.drop 37 = sxX11_stock_37 := dSn 3 shX11_stock_34
theorem shX11_stock_40 : cX11_stock.data.toList.drop 40 = sxX11_stock_40 := dSn 3 shX11_stock_37
theorem shX11_stock_41 : cX11_stock.data.toList.drop 41 = sxX11_stock_41 := dSn 1 shX11_stock_40
theorem dX11_stock_0 : decode cX11_stock 0 = .ok (.iload_n 1, 1) := oc_27 shX11_stock_0
theorem dX11_stock_1 : decode cX11_stock 1 = .ok (.invokestatic 99, 3) := oc_184 shX11_stock_1
theorem dX11_stock_4 : decode cX11_stock 4 = .ok (.ifCond .ne 7, 3) := oc_154 shX11_stock_4 sgw_0_7
theorem dX11_stock_11 : decode cX11_stock 11 = .ok (.iconst 0, 1) := oc_3 shX11_stock_11
theorem dX11_stock_12 : decode cX11_stock 12 = .ok (.istore_n 2, 1) := oc_61 shX11_stock_12
theorem dX11_stock_13 : decode cX11_stock 13 = .ok (.iconst 0, 1) := oc_3 shX11_stock_13
theorem dX11_stock_14 : decode cX11_stock 14 = .ok (.istore_n 3, 1) := oc_62 shX11_stock_14
theorem dX11_stock_15 : decode cX11_stock 15 = .ok (.iload_n 3, 1) := oc_29 shX11_stock_15
theorem dX11_stock_16 : decode cX11_stock 16 = .ok (.iload_n 1, 1) := oc_27 shX11_stock_16
theorem dX11_stock_17 : decode cX11_stock 17 = .ok (.if_icmp .gt 23, 3) := oc_163 shX11_stock_17 sgw_0_23
theorem dX11_stock_40 : decode cX11_stock 40 = .ok (.iload_n 2, 1) := oc_28 shX11_stock_40
theorem dX11_stock_41 : decode cX11_stock 41 = .ok (.ireturn, 1) := oc_172 shX11_stock_41
theorem dX11_stock_20 : decode cX11_stock 20 = .ok (.iload_n 2, 1) := oc_28 shX11_stock_20
theorem dX11_stock_21 : decode cX11_stock 21 = .ok (.aload_n 0, 1) := oc_42 shX11_stock_21
theorem dX11_stock_22 : decode cX11_stock 22 = .ok (.getfield 47, 3) := oc_180 shX11_stock_22
theorem dX11_stock_25 : decode cX11_stock 25 = .ok (.getfield 520, 3) := oc_180 shX11_stock_25
theorem dX11_stock_28 : decode cX11_stock 28 = .ok (.iload_n 3, 1) := oc_29 shX11_stock_28
theorem dX11_stock_29 : decode cX11_stock 29 = .ok (.invokestatic 192, 3) := oc_184 shX11_stock_29
theorem dX11_stock_32 : decode cX11_stock 32 = .ok (.iadd, 1) := oc_96 shX11_stock_32
theorem dX11_stock_33 : decode cX11_stock 33 = .ok (.istore_n 2, 1) := oc_61 shX11_stock_33
theorem dX11_stock_34 : decode cX11_stock 34 = .ok (.iinc 3 1, 3) := oc_132 shX11_stock_34 sgb_1
theorem dX11_stock_37 : decode cX11_stock 37 = .ok (.goto (-22), 3) := oc_167 shX11_stock_37 sgw_255_234
theorem dX11_stock_7 : decode cX11_stock 7 = .ok (.ldc_w 463, 3) := oc_19 shX11_stock_7
theorem dX11_stock_10 : decode cX11_stock 10 = .ok (.ireturn, 1) := oc_172 shX11_stock_10
noncomputable def sxX11_below_57 : List UInt8 := []
noncomputable def sxX11_below_56 : List UInt8 := 172 :: sxX11_below_57
noncomputable def sxX11_below_54 : List UInt8 := 16 :: 254 :: sxX11_below_56
noncomputable def sxX11_below_51 : List UInt8 := 167 :: 255 :: 224 :: sxX11_below_54
noncomputable def sxX11_below_48 : List UInt8 := 132 :: 3 :: 1 :: sxX11_below_51
noncomputable def sxX11_below_47 : List UInt8 := 172 :: sxX11_below_48
noncomputable def sxX11_below_46 : List UInt8 := 29 :: sxX11_below_47
noncomputable def sxX11_below_43 : List UInt8 := 162 :: 0 :: 5 :: sxX11_below_46
noncomputable def sxX11_below_42 : List UInt8 := 27 :: sxX11_below_43
noncomputable def sxX11_below_41 : List UInt8 := 28 :: sxX11_below_42
noncomputable def sxX11_below_40 : List UInt8 := 61 :: sxX11_below_41
noncomputable def sxX11_below_39 : List UInt8 := 96 :: sxX11_below_40
noncomputable def sxX11_below_36 : List UInt8 := 184 :: 0 :: 192 :: sxX11_below_39
noncomputable def sxX11_below_35 : List UInt8 := 29 :: sxX11_below_36
noncomputable def sxX11_below_32 : List UInt8 := 180 :: 2 :: 8 :: sxX11_below_35
noncomputable def sxX11_below_29 : List UInt8 := 180 :: 0 :: 47 :: sxX11_below_32
noncomputable def sxX11_below_28 : List UInt8 := 42 :: sxX11_below_29
noncomputable def sxX11_below_27 : List UInt8 := 28 :: sxX11_below_28
noncomputable def sxX11_below_24 : List UInt8 := 163 :: 0 :: 30 :: sxX11_below_27
noncomputable def sxX11_below_21 : List UInt8 := 180 :: 0 :: 103 :: sxX11_below_24
noncomputable def sxX11_below_20 : List UInt8 := 42 :: sxX11_below_21
noncomputable def sxX11_below_19 : List UInt8 := 29 :: sxX11_below_20
noncomputable def sxX11_below_18 : List UInt8 := 62 :: sxX11_below_19
noncomputable def sxX11_below_17 : List UInt8 := 3 :: sxX11_below_18
noncomputable def sxX11_below_16 : List UInt8 := 61 :: sxX11_below_17
noncomputable def sxX11_below_15 : List UInt8 := 3 :: sxX11_below_16
noncomputable def sxX11_below_14 : List UInt8 := 172 :: sxX11_below_15
noncomputable def sxX11_below_13 : List UInt8 := 2 :: sxX11_below_14
noncomputable def sxX11_below_10 : List UInt8 := 154 :: 0 :: 5 :: sxX11_below_13
noncomputable def sxX11_below_7 : List UInt8 := 184 :: 0 :: 80 :: sxX11_below_10
noncomputable def sxX11_below_4 : List UInt8 := 17 :: 39 :: 16 :: sxX11_below_7
noncomputable def sxX11_below_1 : List UInt8 := 17 :: 216 :: 240 :: sxX11_below_4
noncomputable def sxX11_below_0 : List UInt8 := 27 :: sxX11_below_1
theorem shX11_below_0 : cX11_below.data.toList.drop 0 = sxX11_below_0 := rfl
theorem shX11_below_1 : cX11_below.data.toList.drop 1 = sxX11_below_1 := dSn 1 shX11_below_0
theorem shX11_below_4 : cX11_below.data.toList.drop 4 = sxX11_below_4 := dSn 3 shX11_below_1
theorem shX11_below_7 : cX11_below.data.toList.drop 7 = sxX11_below_7 := dSn 3 shX11_below_4
theorem shX11_below_10 : cX11_below.data.toList.drop 10 = sxX11_below_10 := dSn 3 shX11_below_7
theorem shX11_below_13 : cX11_below.data.toList.drop 13 = sxX11_below_13 := dSn 3 shX11_below_10
theorem shX11_below_14 : cX11_below.data.toList.drop 14 = sxX11_below_14 := dSn 1 shX11_below_13
theorem shX11_below_15 : cX11_below.data.toList.drop 15 = sxX11_below_15 := dSn 1 shX11_below_14
theorem shX11_below_16 : cX11_below.data.toList.drop 16 = sxX11_below_16 := dSn 1 shX11_below_15
theorem shX11_below_17 : cX11_below.data.toList.drop 17 = sxX11_below_17 := dSn 1 shX11_below_16
theorem shX11_below_18 : cX11_below.data.toList.drop 18 = sxX11_below_18 := dSn 1 shX11_below_17
theorem shX11_below_19 : cX11_below.data.toList.drop 19 = sxX11_below_19 := dSn 1 shX11_below_18
theorem shX11_below_20 : cX11_below.data.toList.drop 20 = sxX11_below_20 := dSn 1 shX11_below_19
theorem shX11_below_21 : cX11_below.data.toList.drop 21 = sxX11_below_21 := dSn 1 shX11_below_20
theorem shX11_below_24 : cX11_below.data.toList.drop 24 = sxX11_below_24 := dSn 3 shX11_below_21
theorem shX11_below_27 : cX11_below.data.toList.drop 27 = sxX11_below_27 := dSn 3 shX11_below_24
theorem shX11_below_28 : cX11_below.data.toList.drop 28 = sxX11_below_28 := dSn 1 shX11_below_27
theorem shX11_below_29 : cX11_below.data.toList.drop 29 = sxX11_below_29 := dSn 1 shX11_below_28
theorem shX11_below_32 : cX11_below.data.toList.drop 32 = sxX11_below_32 := dSn 3 shX11_below_29
theorem shX11_below_35 : cX11_below.data.toList.drop 35 = sxX11_below_35 := dSn 3 shX11_below_32
theorem shX11_below_36 : cX11_below.data.toList.drop 36 = sxX11_below_36 := dSn 1 shX11_below_35
theorem shX11_below_39 : cX11_below.data.toList.drop 39 = sxX11_below_39 := dSn 3 shX11_below_36
theorem shX11_below_40 : cX11_below.data.toList.drop 40 = sxX11_below_40 := dSn 1 shX11_below_39
theorem shX11_below_41 : cX11_below.data.toList.drop 41 = sxX11_below_41 := dSn 1 shX11_below_40
theorem shX11_below_42 : cX11_below.data.toList.drop 42 = sxX11_below_42 := dSn 1 shX11_below_41
theorem shX11_below_43 : cX11_below.data.toList.drop 43 = sxX11_below_43 := dSn 1 shX11_below_42
theorem shX11_below_46 : cX11_below.data.toList.drop 46 = sxX11_below_46 := dSn 3 shX11_below_43
theorem shX11_below_47 : cX11_below.data.toList.drop 47 = sxX11_below_47 := dSn 1 shX11_below_46
theorem shX11_below_48 : cX11_below.data.toList.drop 48 = sxX11_below_48 := dSn 1 shX11_below_47
theorem shX11_below_51 : cX11_below.data.toList.drop 51 = sxX11_below_51 := dSn 3 shX11_below_48
theorem shX11_below_54 : cX11_below.data.toList.drop 54 = sxX11_below_54 := dSn 3 shX11_below_51
theorem shX11_below_56 : cX11_below.data.toList.drop 56 = sxX11_below_56 := dSn 2 shX11_below_54
theorem dX11_below_0 : decode cX11_below 0 = .ok (.iload_n 1, 1) := oc_27 shX11_below_0
theorem dX11_below_1 : decode cX11_below 1 = .ok (.sipush (-10000), 3) := oc_17 shX11_below_1 sgw_216_240
theorem dX11_below_4 : decode cX11_below 4 = .ok (.sipush 10000, 3) := oc_17 shX11_below_4 sgw_39_16
theorem dX11_below_7 : decode cX11_below 7 = .ok (.invokestatic 80, 3) := oc_184 shX11_below_7
theorem dX11_below_10 : decode cX11_below 10 = .ok (.ifCond .ne 5, 3) := oc_154 shX11_below_10 sgw_0_5
theorem dX11_below_15 : decode cX11_below 15 = .ok (.iconst 0, 1) := oc_3 shX11_below_15
theorem dX11_below_16 : decode cX11_below 16 = .ok (.istore_n 2, 1) := oc_61 shX11_below_16
theorem dX11_below_17 : decode cX11_below 17 = .ok (.iconst 0, 1) := oc_3 shX11_below_17
theorem dX11_below_18 : decode cX11_below 18 = .ok (.istore_n 3, 1) := oc_62 shX11_below_18
theorem dX11_below_19 : decode cX11_below 19 = .ok (.iload_n 3, 1) := oc_29 shX11_below_19
theorem dX11_below_20 : decode cX11_below 20 = .ok (.aload_n 0, 1) := oc_42 shX11_below_20
theorem dX11_below_21 : decode cX11_below 21 = .ok (.getfield 103, 3) := oc_180 shX11_below_21
theorem dX11_below_24 : decode cX11_below 24 = .ok (.if_icmp .gt 30, 3) := oc_163 shX11_below_24 sgw_0_30
theorem dX11_below_54 : decode cX11_below 54 = .ok (.bipush (-2), 2) := oc_16 shX11_below_54 sgb_254
theorem dX11_below_56 : decode cX11_below 56 = .ok (.ireturn, 1) := oc_172 shX11_below_56
theorem dX11_below_27 : decode cX11_below 27 = .ok (.iload_n 2, 1) := oc_28 shX11_below_27
theorem dX11_below_28 : decode cX11_below 28 = .ok (.aload_n 0, 1) := oc_42 shX11_below_28
theorem dX11_below_29 : decode cX11_below 29 = .ok (.getfield 47, 3) := oc_180 shX11_below_29
theorem dX11_below_32 : decode cX11_below 32 = .ok (.getfield 520, 3) := oc_180 shX11_below_32
theorem dX11_below_35 : decode cX11_below 35 = .ok (.iload_n 3, 1) := oc_29 shX11_below_35
theorem dX11_below_36 : decode cX11_below 36 = .ok (.invokestatic 192, 3) := oc_184 shX11_below_36
theorem dX11_below_39 : decode cX11_below 39 = .ok (.iadd, 1) := oc_96 shX11_below_39
theorem dX11_below_40 : decode cX11_below 40 = .ok (.istore_n 2, 1) := oc_61 shX11_below_40
theorem dX11_below_41 : decode cX11_below 41 = .ok (.iload_n 2, 1) := oc_28 shX11_below_41
theorem dX11_below_42 : decode cX11_below 42 = .ok (.iload_n 1, 1) := oc_27 shX11_below_42
theorem dX11_below_43 : decode cX11_below 43 = .ok (.if_icmp .ge 5, 3) := oc_162 shX11_below_43 sgw_0_5
theorem dX11_below_48 : decode cX11_below 48 = .ok (.iinc 3 1, 3) := oc_132 shX11_below_48 sgb_1
theorem dX11_below_51 : decode cX11_below 51 = .ok (.goto (-32), 3) := oc_167 shX11_below_51 sgw_255_224
theorem dX11_below_46 : decode cX11_below 46 = .ok (.iload_n 3, 1) := oc_29 shX11_below_46
theorem dX11_below_47 : decode cX11_below 47 = .ok (.ireturn, 1) := oc_172 shX11_below_47
theorem dX11_below_13 : decode cX11_below 13 = .ok (.iconst (-1), 1) := oc_2 shX11_below_13
theorem dX11_below_14 : decode cX11_below 14 = .ok (.ireturn, 1) := oc_172 shX11_below_14
noncomputable def sxX8_length_5 : List UInt8 := []
noncomputable def sxX8_length_4 : List UInt8 := 172 :: sxX8_length_5
noncomputable def sxX8_length_1 : List UInt8 := 180 :: 0 :: 13 :: sxX8_length_4
noncomputable def sxX8_length_0 : List UInt8 := 42 :: sxX8_length_1
theorem shX8_length_0 : cX8_length.data.toList.drop 0 = sxX8_length_0 := rfl
theorem shX8_length_1 : cX8_length.data.toList.drop 1 = sxX8_length_1 := dSn 1 shX8_length_0
theorem shX8_length_4 : cX8_length.data.toList.drop 4 = sxX8_length_4 := dSn 3 shX8_length_1
theorem dX8_length_0 : decode cX8_length 0 = .ok (.aload_n 0, 1) := oc_42 shX8_length_0
theorem dX8_length_1 : decode cX8_length 1 = .ok (.getfield 13, 3) := oc_180 shX8_length_1
theorem dX8_length_4 : decode cX8_length 4 = .ok (.ireturn, 1) := oc_172 shX8_length_4
noncomputable def sxX8_add_48 : List UInt8 := []
noncomputable def sxX8_add_47 : List UInt8 := 177 :: sxX8_add_48
noncomputable def sxX8_add_44 : List UInt8 := 167 :: 255 :: 215 :: sxX8_add_47
noncomputable def sxX8_add_41 : List UInt8 := 132 :: 2 :: 248 :: sxX8_add_44
noncomputable def sxX8_add_38 : List UInt8 := 181 :: 0 :: 13 :: sxX8_add_41
noncomputable def sxX8_add_35 : List UInt8 := 184 :: 0 :: 23 :: sxX8_add_38
noncomputable def sxX8_add_32 : List UInt8 := 17 :: 0 :: 200 :: sxX8_add_35
noncomputable def sxX8_add_31 : List UInt8 := 96 :: sxX8_add_32
noncomputable def sxX8_add_30 : List UInt8 := 4 :: sxX8_add_31
noncomputable def sxX8_add_27 : List UInt8 := 180 :: 0 :: 13 :: sxX8_add_30
noncomputable def sxX8_add_26 : List UInt8 := 42 :: sxX8_add_27
noncomputable def sxX8_add_25 : List UInt8 := 42 :: sxX8_add_26
noncomputable def sxX8_add_22 : List UInt8 := 184 :: 0 :: 17 :: sxX8_add_25
noncomputable def sxX8_add_21 : List UInt8 := 126 :: sxX8_add_22
noncomputable def sxX8_add_18 : List UInt8 := 17 :: 0 :: 255 :: sxX8_add_21
noncomputable def sxX8_add_17 : List UInt8 := 122 :: sxX8_add_18
noncomputable def sxX8_add_16 : List UInt8 := 28 :: sxX8_add_17
noncomputable def sxX8_add_15 : List UInt8 := 27 :: sxX8_add_16
noncomputable def sxX8_add_12 : List UInt8 := 180 :: 0 :: 13 :: sxX8_add_15
noncomputable def sxX8_add_11 : List UInt8 := 42 :: sxX8_add_12
noncomputable def sxX8_add_8 : List UInt8 := 180 :: 0 :: 9 :: sxX8_add_11
noncomputable def sxX8_add_7 : List UInt8 := 42 :: sxX8_add_8
noncomputable def sxX8_add_4 : List UInt8 := 155 :: 0 :: 43 :: sxX8_add_7
noncomputable def sxX8_add_3 : List UInt8 := 28 :: sxX8_add_4
noncomputable def sxX8_add_2 : List UInt8 := 61 :: sxX8_add_3
noncomputable def sxX8_add_0 : List UInt8 := 16 :: 24 :: sxX8_add_2
theorem shX8_add_0 : cX8_add.data.toList.drop 0 = sxX8_add_0 := rfl
theorem shX8_add_2 : cX8_add.data.toList.drop 2 = sxX8_add_2 := dSn 2 shX8_add_0
theorem shX8_add_3 : cX8_add.data.toList.drop 3 = sxX8_add_3 := dSn 1 shX8_add_2
theorem shX8_add_4 : cX8_add.data.toList.drop 4 = sxX8_add_4 := dSn 1 shX8_add_3
theorem shX8_add_7 : cX8_add.data.toList.drop 7 = sxX8_add_7 := dSn 3 shX8_add_4
theorem shX8_add_8 : cX8_add.data.toList.drop 8 = sxX8_add_8 := dSn 1 shX8_add_7
theorem shX8_add_11 : cX8_add.data.toList.drop 11 = sxX8_add_11 := dSn 3 shX8_add_8
theorem shX8_add_12 : cX8_add.data.toList.drop 12 = sxX8_add_12 := dSn 1 shX8_add_11
theorem shX8_add_15 : cX8_add.data.toList.drop 15 = sxX8_add_15 := dSn 3 shX8_add_12
theorem shX8_add_16 : cX8_add.data.toList.drop 16 = sxX8_add_16 := dSn 1 shX8_add_15
theorem shX8_add_17 : cX8_add.data.toList.drop 17 = sxX8_add_17 := dSn 1 shX8_add_16
theorem shX8_add_18 : cX8_add.data.toList.drop 18 = sxX8_add_18 := dSn 1 shX8_add_17
theorem shX8_add_21 : cX8_add.data.toList.drop 21 = sxX8_add_21 := dSn 3 shX8_add_18
theorem shX8_add_22 : cX8_add.data.toList.drop 22 = sxX8_add_22 := dSn 1 shX8_add_21
theorem shX8_add_25 : cX8_add.data.toList.drop 25 = sxX8_add_25 := dSn 3 shX8_add_22
theorem shX8_add_26 : cX8_add.data.toList.drop 26 = sxX8_add_26 := dSn 1 shX8_add_25
theorem shX8_add_27 : cX8_add.data.toList.drop 27 = sxX8_add_27 := dSn 1 shX8_add_26
theorem shX8_add_30 : cX8_add.data.toList.drop 30 = sxX8_add_30 := dSn 3 shX8_add_27
theorem shX8_add_31 : cX8_add.data.toList.drop 31 = sxX8_add_31 := dSn 1 shX8_add_30
theorem shX8_add_32 : cX8_add.data.toList.drop 32 = sxX8_add_32 := dSn 1 shX8_add_31
theorem shX8_add_35 : cX8_add.data.toList.drop 35 = sxX8_add_35 := dSn 3 shX8_add_32
theorem shX8_add_38 : cX8_add.data.toList.drop 38 = sxX8_add_38 := dSn 3 shX8_add_35
theorem shX8_add_41 : cX8_add.data.toList.drop 41 = sxX8_add_41 := dSn 3 shX8_add_38
theorem shX8_add_44 : cX8_add.data.toList.drop 44 = sxX8_add_44 := dSn 3 shX8_add_41
theorem shX8_add_47 : cX8_add.data.toList.drop 47 = sxX8_add_47 := dSn 3 shX8_add_44
theorem dX8_add_0 : decode cX8_add 0 = .ok (.bipush 24, 2) := oc_16 shX8_add_0 sgb_24
theorem dX8_add_2 : decode cX8_add 2 = .ok (.istore_n 2, 1) := oc_61 shX8_add_2
theorem dX8_add_3 : decode cX8_add 3 = .ok (.iload_n 2, 1) := oc_28 shX8_add_3
theorem dX8_add_4 : decode cX8_add 4 = .ok (.ifCond .lt 43, 3) := oc_155 shX8_add_4 sgw_0_43
theorem dX8_add_7 : decode cX8_add 7 = .ok (.aload_n 0, 1) := oc_42 shX8_add_7
theorem dX8_add_8 : decode cX8_add 8 = .ok (.getfield 9, 3) := oc_180 shX8_add_8
theorem dX8_add_11 : decode cX8_add 11 = .ok (.aload_n 0, 1) := oc_42 shX8_add_11
theorem dX8_add_12 : decode cX8_add 12 = .ok (.getfield 13, 3) := oc_180 shX8_add_12
theorem dX8_add_15 : decode cX8_add 15 = .ok (.iload_n 1, 1) := oc_27 shX8_add_15
theorem dX8_add_16 : decode cX8_add 16 = .ok (.iload_n 2, 1) := oc_28 shX8_add_16
theorem dX8_add_17 : decode cX8_add 17 = .ok (.ishr, 1) := oc_122 shX8_add_17
theorem dX8_add_18 : decode cX8_add 18 = .ok (.sipush 255, 3) := oc_17 shX8_add_18 sgw_0_255
theorem dX8_add_21 : decode cX8_add 21 = .ok (.iand, 1) := oc_126 shX8_add_21
theorem dX8_add_22 : decode cX8_add 22 = .ok (.invokestatic 17, 3) := oc_184 shX8_add_22
theorem dX8_add_25 : decode cX8_add 25 = .ok (.aload_n 0, 1) := oc_42 shX8_add_25
theorem dX8_add_26 : decode cX8_add 26 = .ok (.aload_n 0, 1) := oc_42 shX8_add_26
theorem dX8_add_27 : decode cX8_add 27 = .ok (.getfield 13, 3) := oc_180 shX8_add_27
theorem dX8_add_30 : decode cX8_add 30 = .ok (.iconst 1, 1) := oc_4 shX8_add_30
theorem dX8_add_31 : decode cX8_add 31 = .ok (.iadd, 1) := oc_96 shX8_add_31
theorem dX8_add_32 : decode cX8_add 32 = .ok (.sipush 200, 3) := oc_17 shX8_add_32 sgw_0_200
theorem dX8_add_35 : decode cX8_add 35 = .ok (.invokestatic 23, 3) := oc_184 shX8_add_35
theorem dX8_add_38 : decode cX8_add 38 = .ok (.putfield 13, 3) := oc_181 shX8_add_38
theorem dX8_add_41 : decode cX8_add 41 = .ok (.iinc 2 (-8), 3) := oc_132 shX8_add_41 sgb_248
theorem dX8_add_44 : decode cX8_add 44 = .ok (.goto (-41), 3) := oc_167 shX8_add_44 sgw_255_215
theorem dX8_add_47 : decode cX8_add 47 = .ok (.return_, 1) := oc_177 shX8_add_47
noncomputable def sxX8_clear_6 : List UInt8 := []
noncomputable def sxX8_clear_5 : List UInt8 := 177 :: sxX8_clear_6
noncomputable def sxX8_clear_2 : List UInt8 := 181 :: 0 :: 13 :: sxX8_clear_5
noncomputable def sxX8_clear_1 : List UInt8 := 3 :: sxX8_clear_2
noncomputable def sxX8_clear_0 : List UInt8 := 42 :: sxX8_clear_1
theorem shX8_clear_0 : cX8_clear.data.toList.drop 0 = sxX8_clear_0 := rfl
theorem shX8_clear_1 : cX8_clear.data.toList.drop 1 = sxX8_clear_1 := dSn 1 shX8_clear_0
theorem shX8_clear_2 : cX8_clear.data.toList.drop 2 = sxX8_clear_2 := dSn 1 shX8_clear_1
theorem shX8_clear_5 : cX8_clear.data.toList.drop 5 = sxX8_clear_5 := dSn 3 shX8_clear_2
theorem dX8_clear_0 : decode cX8_clear 0 = .ok (.aload_n 0, 1) := oc_42 shX8_clear_0
theorem dX8_clear_1 : decode cX8_clear 1 = .ok (.iconst 0, 1) := oc_3 shX8_clear_1
theorem dX8_clear_2 : decode cX8_clear 2 = .ok (.putfield 13, 3) := oc_181 shX8_clear_2
theorem dX8_clear_5 : decode cX8_clear 5 = .ok (.return_, 1) := oc_177 shX8_clear_5
noncomputable def sxX8_at_9 : List UInt8 := []
noncomputable def sxX8_at_8 : List UInt8 := 172 :: sxX8_at_9
noncomputable def sxX8_at_5 : List UInt8 := 184 :: 0 :: 29 :: sxX8_at_8
noncomputable def sxX8_at_4 : List UInt8 := 27 :: sxX8_at_5
noncomputable def sxX8_at_1 : List UInt8 := 180 :: 0 :: 9 :: sxX8_at_4
noncomputable def sxX8_at_0 : List UInt8 := 42 :: sxX8_at_1
theorem shX8_at_0 : cX8_at.data.toList.drop 0 = sxX8_at_0 := rfl
theorem shX8_at_1 : cX8_at.data.toList.drop 1 = sxX8_at_1 := dSn 1 shX8_at_0
theorem shX8_at_4 : cX8_at.data.toList.drop 4 = sxX8_at_4 := dSn 3 shX8_at_1
theorem shX8_at_5 : cX8_at.data.toList.drop 5 = sxX8_at_5 := dSn 1 shX8_at_4
theorem shX8_at_8 : cX8_at.data.toList.drop 8 = sxX8_at_8 := dSn 3 shX8_at_5
theorem dX8_at_0 : decode cX8_at 0 = .ok (.aload_n 0, 1) := oc_42 shX8_at_0
theorem dX8_at_1 : decode cX8_at 1 = .ok (.getfield 9, 3) := oc_180 shX8_at_1
theorem dX8_at_4 : decode cX8_at 4 = .ok (.iload_n 1, 1) := oc_27 shX8_at_4
theorem dX8_at_5 : decode cX8_at 5 = .ok (.invokestatic 29, 3) := oc_184 shX8_at_5
theorem dX8_at_8 : decode cX8_at 8 = .ok (.ireturn, 1) := oc_172 shX8_at_8
noncomputable def sxX8_number_32 : List UInt8 := []
noncomputable def sxX8_number_31 : List UInt8 := 172 :: sxX8_number_32
noncomputable def sxX8_number_30 : List UInt8 := 28 :: sxX8_number_31
noncomputable def sxX8_number_27 : List UInt8 := 167 :: 255 :: 233 :: sxX8_number_30
noncomputable def sxX8_number_24 : List UInt8 := 132 :: 3 :: 1 :: sxX8_number_27
noncomputable def sxX8_number_23 : List UInt8 := 61 :: sxX8_number_24
noncomputable def sxX8_number_22 : List UInt8 := 128 :: sxX8_number_23
noncomputable def sxX8_number_19 : List UInt8 := 182 :: 0 :: 33 :: sxX8_number_22
noncomputable def sxX8_number_18 : List UInt8 := 96 :: sxX8_number_19
noncomputable def sxX8_number_17 : List UInt8 := 29 :: sxX8_number_18
noncomputable def sxX8_number_16 : List UInt8 := 104 :: sxX8_number_17
noncomputable def sxX8_number_15 : List UInt8 := 27 :: sxX8_number_16
noncomputable def sxX8_number_14 : List UInt8 := 7 :: sxX8_number_15
noncomputable def sxX8_number_13 : List UInt8 := 42 :: sxX8_number_14
noncomputable def sxX8_number_12 : List UInt8 := 120 :: sxX8_number_13
noncomputable def sxX8_number_10 : List UInt8 := 16 :: 8 :: sxX8_number_12
noncomputable def sxX8_number_9 : List UInt8 := 28 :: sxX8_number_10
noncomputable def sxX8_number_6 : List UInt8 := 162 :: 0 :: 24 :: sxX8_number_9
noncomputable def sxX8_number_5 : List UInt8 := 7 :: sxX8_number_6
noncomputable def sxX8_number_4 : List UInt8 := 29 :: sxX8_number_5
noncomputable def sxX8_number_3 : List UInt8 := 62 :: sxX8_number_4
noncomputable def sxX8_number_2 : List UInt8 := 3 :: sxX8_number_3
noncomputable def sxX8_number_1 : List UInt8 := 61 :: sxX8_number_2
noncomputable def sxX8_number_0 : List UInt8 := 3 :: sxX8_number_1
theorem shX8_number_0 : cX8_number.data.toList.drop 0 = sxX8_number_0 := rfl
theorem shX8_number_1 : cX8_number.data.toList.drop 1 = sxX8_number_1 := dSn 1 shX8_number_0
theorem shX8_number_2 : cX8_number.data.toList.drop 2 = sxX8_number_2 := dSn 1 shX8_number_1
theorem shX8_number_3 : cX8_number.data.toList.drop 3 = sxX8_number_3 := dSn 1 shX8_number_2
theorem shX8_number_4 : cX8_number.data.toList.drop 4 = sxX8_number_4 := dSn 1 shX8_number_3
theorem shX8_number_5 : cX8_number.data.toList.drop 5 = sxX8_number_5 := dSn 1 shX8_number_4
theorem shX8_number_6 : cX8_number.data.toList.drop 6 = sxX8_number_6 := dSn 1 shX8_number_5
theorem shX8_number_9 : cX8_number.data.toList.drop 9 = sxX8_number_9 := dSn 3 shX8_number_6
theorem shX8_number_10 : cX8_number.data.toList.drop 10 = sxX8_number_10 := dSn 1 shX8_number_9
theorem shX8_number_12 : cX8_number.data.toList.drop 12 = sxX8_number_12 := dSn 2 shX8_number_10
theorem shX8_number_13 : cX8_number.data.toList.drop 13 = sxX8_number_13 := dSn 1 shX8_number_12
theorem shX8_number_14 : cX8_number.data.toList.drop 14 = sxX8_number_14 := dSn 1 shX8_number_13
theorem shX8_number_15 : cX8_number.data.toList.drop 15 = sxX8_number_15 := dSn 1 shX8_number_14
theorem shX8_number_16 : cX8_number.data.toList.drop 16 = sxX8_number_16 := dSn 1 shX8_number_15
theorem shX8_number_17 : cX8_number.data.toList.drop 17 = sxX8_number_17 := dSn 1 shX8_number_16
theorem shX8_number_18 : cX8_number.data.toList.drop 18 = sxX8_number_18 := dSn 1 shX8_number_17
theorem shX8_number_19 : cX8_number.data.toList.drop 19 = sxX8_number_19 := dSn 1 shX8_number_18
theorem shX8_number_22 : cX8_number.data.toList.drop 22 = sxX8_number_22 := dSn 3 shX8_number_19
theorem shX8_number_23 : cX8_number.data.toList.drop 23 = sxX8_number_23 := dSn 1 shX8_number_22
theorem shX8_number_24 : cX8_number.data.toList.drop 24 = sxX8_number_24 := dSn 1 shX8_number_23
theorem shX8_number_27 : cX8_number.data.toList.drop 27 = sxX8_number_27 := dSn 3 shX8_number_24
theorem shX8_number_30 : cX8_number.data.toList.drop 30 = sxX8_number_30 := dSn 3 shX8_number_27
theorem shX8_number_31 : cX8_number.data.toList.drop 31 = sxX8_number_31 := dSn 1 shX8_number_30
theorem dX8_number_0 : decode cX8_number 0 = .ok (.iconst 0, 1) := oc_3 shX8_number_0
theorem dX8_number_1 : decode cX8_number 1 = .ok (.istore_n 2, 1) := oc_61 shX8_number_1
theorem dX8_number_2 : decode cX8_number 2 = .ok (.iconst 0, 1) := oc_3 shX8_number_2
theorem dX8_number_3 : decode cX8_number 3 = .ok (.istore_n 3, 1) := oc_62 shX8_number_3
theorem dX8_number_4 : decode cX8_number 4 = .ok (.iload_n 3, 1) := oc_29 shX8_number_4
theorem dX8_number_5 : decode cX8_number 5 = .ok (.iconst 4, 1) := oc_7 shX8_number_5
theorem dX8_number_6 : decode cX8_number 6 = .ok (.if_icmp .ge 24, 3) := oc_162 shX8_number_6 sgw_0_24
theorem dX8_number_9 : decode cX8_number 9 = .ok (.iload_n 2, 1) := oc_28 shX8_number_9
theorem dX8_number_10 : decode cX8_number 10 = .ok (.bipush 8, 2) := oc_16 shX8_number_10 sgb_8
theorem dX8_number_12 : decode cX8_number 12 = .ok (.ishl, 1) := oc_120 shX8_number_12
theorem dX8_number_13 : decode cX8_number 13 = .ok (.aload_n 0, 1) := oc_42 shX8_number_13
theorem dX8_number_14 : decode cX8_number 14 = .ok (.iconst 4, 1) := oc_7 shX8_number_14
theorem dX8_number_15 : decode cX8_number 15 = .ok (.iload_n 1, 1) := oc_27 shX8_number_15
theorem dX8_number_16 : decode cX8_number 16 = .ok (.imul, 1) := oc_104 shX8_number_16
theorem dX8_number_17 : decode cX8_number 17 = .ok (.iload_n 3, 1) := oc_29 shX8_number_17
theorem dX8_number_18 : decode cX8_number 18 = .ok (.iadd, 1) := oc_96 shX8_number_18
theorem dX8_number_19 : decode cX8_number 19 = .ok (.invokevirtual 33, 3) := oc_182 shX8_number_19
theorem dX8_number_22 : decode cX8_number 22 = .ok (.ior, 1) := oc_128 shX8_number_22
theorem dX8_number_23 : decode cX8_number 23 = .ok (.istore_n 2, 1) := oc_61 shX8_number_23
theorem dX8_number_24 : decode cX8_number 24 = .ok (.iinc 3 1, 3) := oc_132 shX8_number_24 sgb_1
theorem dX8_number_27 : decode cX8_number 27 = .ok (.goto (-23), 3) := oc_167 shX8_number_27 sgw_255_233
theorem dX8_number_30 : decode cX8_number 30 = .ok (.iload_n 2, 1) := oc_28 shX8_number_30
theorem dX8_number_31 : decode cX8_number 31 = .ok (.ireturn, 1) := oc_172 shX8_number_31
noncomputable def sxX11_feed_68 : List UInt8 := []
noncomputable def sxX11_feed_67 : List UInt8 := 172 :: sxX11_feed_68
noncomputable def sxX11_feed_64 : List UInt8 := 182 :: 0 :: 152 :: sxX11_feed_67
noncomputable def sxX11_feed_61 : List UInt8 := 180 :: 0 :: 21 :: sxX11_feed_64
noncomputable def sxX11_feed_60 : List UInt8 := 42 :: sxX11_feed_61
noncomputable def sxX11_feed_57 : List UInt8 := 182 :: 0 :: 153 :: sxX11_feed_60
noncomputable def sxX11_feed_55 : List UInt8 := 21 :: 5 :: sxX11_feed_57
noncomputable def sxX11_feed_52 : List UInt8 := 180 :: 0 :: 21 :: sxX11_feed_55
noncomputable def sxX11_feed_51 : List UInt8 := 42 :: sxX11_feed_52
noncomputable def sxX11_feed_48 : List UInt8 := 182 :: 0 :: 153 :: sxX11_feed_51
noncomputable def sxX11_feed_46 : List UInt8 := 21 :: 4 :: sxX11_feed_48
noncomputable def sxX11_feed_43 : List UInt8 := 180 :: 0 :: 21 :: sxX11_feed_46
noncomputable def sxX11_feed_42 : List UInt8 := 42 :: sxX11_feed_43
noncomputable def sxX11_feed_39 : List UInt8 := 182 :: 0 :: 153 :: sxX11_feed_42
noncomputable def sxX11_feed_38 : List UInt8 := 29 :: sxX11_feed_39
noncomputable def sxX11_feed_35 : List UInt8 := 180 :: 0 :: 21 :: sxX11_feed_38
noncomputable def sxX11_feed_34 : List UInt8 := 42 :: sxX11_feed_35
noncomputable def sxX11_feed_31 : List UInt8 := 182 :: 0 :: 153 :: sxX11_feed_34
noncomputable def sxX11_feed_30 : List UInt8 := 28 :: sxX11_feed_31
noncomputable def sxX11_feed_27 : List UInt8 := 180 :: 0 :: 21 :: sxX11_feed_30
noncomputable def sxX11_feed_26 : List UInt8 := 42 :: sxX11_feed_27
noncomputable def sxX11_feed_23 : List UInt8 := 182 :: 0 :: 153 :: sxX11_feed_26
noncomputable def sxX11_feed_22 : List UInt8 := 27 :: sxX11_feed_23
noncomputable def sxX11_feed_19 : List UInt8 := 180 :: 0 :: 21 :: sxX11_feed_22
noncomputable def sxX11_feed_18 : List UInt8 := 42 :: sxX11_feed_19
noncomputable def sxX11_feed_17 : List UInt8 := 172 :: sxX11_feed_18
noncomputable def sxX11_feed_16 : List UInt8 := 2 :: sxX11_feed_17
noncomputable def sxX11_feed_13 : List UInt8 := 164 :: 0 :: 5 :: sxX11_feed_16
noncomputable def sxX11_feed_10 : List UInt8 := 17 :: 0 :: 200 :: sxX11_feed_13
noncomputable def sxX11_feed_9 : List UInt8 := 96 :: sxX11_feed_10
noncomputable def sxX11_feed_7 : List UInt8 := 16 :: 20 :: sxX11_feed_9
noncomputable def sxX11_feed_4 : List UInt8 := 182 :: 0 :: 152 :: sxX11_feed_7
noncomputable def sxX11_feed_1 : List UInt8 := 180 :: 0 :: 21 :: sxX11_feed_4
noncomputable def sxX11_feed_0 : List UInt8 := 42 :: sxX11_feed_1
theorem shX11_feed_0 : cX11_feed.data.toList.drop 0 = sxX11_feed_0 := rfl
theorem shX11_feed_1 : cX11_feed.data.toList.drop 1 = sxX11_feed_1 := dSn 1 shX11_feed_0
theorem shX11_feed_4 : cX11_feed.data.toList.drop 4 = sxX11_feed_4 := dSn 3 shX11_feed_1
theorem shX11_feed_7 : cX11_feed.data.toList.drop 7 = sxX11_feed_7 := dSn 3 shX11_feed_4
theorem shX11_feed_9 : cX11_feed.data.toList.drop 9 = sxX11_feed_9 := dSn 2 shX11_feed_7
theorem shX11_feed_10 : cX11_feed.data.toList.drop 10 = sxX11_feed_10 := dSn 1 shX11_feed_9
theorem shX11_feed_13 : cX11_feed.data.toList.drop 13 = sxX11_feed_13 := dSn 3 shX11_feed_10
theorem shX11_feed_16 : cX11_feed.data.toList.drop 16 = sxX11_feed_16 := dSn 3 shX11_feed_13
theorem shX11_feed_17 : cX11_feed.data.toList.drop 17 = sxX11_feed_17 := dSn 1 shX11_feed_16
theorem shX11_feed_18 : cX11_feed.data.toList.drop 18 = sxX11_feed_18 := dSn 1 shX11_feed_17
theorem shX11_feed_19 : cX11_feed.data.toList.drop 19 = sxX11_feed_19 := dSn 1 shX11_feed_18
theorem shX11_feed_22 : cX11_feed.data.toList.drop 22 = sxX11_feed_22 := dSn 3 shX11_feed_19
theorem shX11_feed_23 : cX11_feed.data.toList.drop 23 = sxX11_feed_23 := dSn 1 shX11_feed_22
theorem shX11_feed_26 : cX11_feed.data.toList.drop 26 = sxX11_feed_26 := dSn 3 shX11_feed_23
theorem shX11_feed_27 : cX11_feed.data.toList.drop 27 = sxX11_feed_27 := dSn 1 shX11_feed_26
theorem shX11_feed_30 : cX11_feed.data.toList.drop 30 = sxX11_feed_30 := dSn 3 shX11_feed_27
theorem shX11_feed_31 : cX11_feed.data.toList.drop 31 = sxX11_feed_31 := dSn 1 shX11_feed_30
theorem shX11_feed_34 : cX11_feed.data.toList.drop 34 = sxX11_feed_34 := dSn 3 shX11_feed_31
theorem shX11_feed_35 : cX11_feed.data.toList.drop 35 = sxX11_feed_35 := dSn 1 shX11_feed_34
theorem shX11_feed_38 : cX11_feed.data.toList.drop 38 = sxX11_feed_38 := dSn 3 shX11_feed_35
theorem shX11_feed_39 : cX11_feed.data.toList.drop 39 = sxX11_feed_39 := dSn 1 shX11_feed_38
theorem shX11_feed_42 : cX11_feed.data.toList.drop 42 = sxX11_feed_42 := dSn 3 shX11_feed_39
theorem shX11_feed_43 : cX11_feed.data.toList.drop 43 = sxX11_feed_43 := dSn 1 shX11_feed_42
theorem shX11_feed_46 : cX11_feed.data.toList.drop 46 = sxX11_feed_46 := dSn 3 shX11_feed_43
theorem shX11_feed_48 : cX11_feed.data.toList.drop 48 = sxX11_feed_48 := dSn 2 shX11_feed_46
theorem shX11_feed_51 : cX11_feed.data.toList.drop 51 = sxX11_feed_51 := dSn 3 shX11_feed_48
theorem shX11_feed_52 : cX11_feed.data.toList.drop 52 = sxX11_feed_52 := dSn 1 shX11_feed_51
theorem shX11_feed_55 : cX11_feed.data.toList.drop 55 = sxX11_feed_55 := dSn 3 shX11_feed_52
theorem shX11_feed_57 : cX11_feed.data.toList.drop 57 = sxX11_feed_57 := dSn 2 shX11_feed_55
theorem shX11_feed_60 : cX11_feed.data.toList.drop 60 = sxX11_feed_60 := dSn 3 shX11_feed_57
theorem shX11_feed_61 : cX11_feed.data.toList.drop 61 = sxX11_feed_61 := dSn 1 shX11_feed_60
theorem shX11_feed_64 : cX11_feed.data.toList.drop 64 = sxX11_feed_64 := dSn 3 shX11_feed_61
theorem shX11_feed_67 : cX11_feed.data.toList.drop 67 = sxX11_feed_67 := dSn 3 shX11_feed_64
theorem dX11_feed_0 : decode cX11_feed 0 = .ok (.aload_n 0, 1) := oc_42 shX11_feed_0
theorem dX11_feed_1 : decode cX11_feed 1 = .ok (.getfield 21, 3) := oc_180 shX11_feed_1
theorem dX11_feed_4 : decode cX11_feed 4 = .ok (.invokevirtual 152, 3) := oc_182 shX11_feed_4
theorem dX11_feed_7 : decode cX11_feed 7 = .ok (.bipush 20, 2) := oc_16 shX11_feed_7 sgb_20
theorem dX11_feed_9 : decode cX11_feed 9 = .ok (.iadd, 1) := oc_96 shX11_feed_9
theorem dX11_feed_10 : decode cX11_feed 10 = .ok (.sipush 200, 3) := oc_17 shX11_feed_10 sgw_0_200
theorem dX11_feed_13 : decode cX11_feed 13 = .ok (.if_icmp .le 5, 3) := oc_164 shX11_feed_13 sgw_0_5
theorem dX11_feed_18 : decode cX11_feed 18 = .ok (.aload_n 0, 1) := oc_42 shX11_feed_18
theorem dX11_feed_19 : decode cX11_feed 19 = .ok (.getfield 21, 3) := oc_180 shX11_feed_19
theorem dX11_feed_22 : decode cX11_feed 22 = .ok (.iload_n 1, 1) := oc_27 shX11_feed_22
theorem dX11_feed_23 : decode cX11_feed 23 = .ok (.invokevirtual 153, 3) := oc_182 shX11_feed_23
theorem dX11_feed_26 : decode cX11_feed 26 = .ok (.aload_n 0, 1) := oc_42 shX11_feed_26
theorem dX11_feed_27 : decode cX11_feed 27 = .ok (.getfield 21, 3) := oc_180 shX11_feed_27
theorem dX11_feed_30 : decode cX11_feed 30 = .ok (.iload_n 2, 1) := oc_28 shX11_feed_30
theorem dX11_feed_31 : decode cX11_feed 31 = .ok (.invokevirtual 153, 3) := oc_182 shX11_feed_31
theorem dX11_feed_34 : decode cX11_feed 34 = .ok (.aload_n 0, 1) := oc_42 shX11_feed_34
theorem dX11_feed_35 : decode cX11_feed 35 = .ok (.getfield 21, 3) := oc_180 shX11_feed_35
theorem dX11_feed_38 : decode cX11_feed 38 = .ok (.iload_n 3, 1) := oc_29 shX11_feed_38
theorem dX11_feed_39 : decode cX11_feed 39 = .ok (.invokevirtual 153, 3) := oc_182 shX11_feed_39
theorem dX11_feed_42 : decode cX11_feed 42 = .ok (.aload_n 0, 1) := oc_42 shX11_feed_42
theorem dX11_feed_43 : decode cX11_feed 43 = .ok (.getfield 21, 3) := oc_180 shX11_feed_43
theorem dX11_feed_46 : decode cX11_feed 46 = .ok (.iload 4, 2) := oc_21 shX11_feed_46
theorem dX11_feed_48 : decode cX11_feed 48 = .ok (.invokevirtual 153, 3) := oc_182 shX11_feed_48
theorem dX11_feed_51 : decode cX11_feed 51 = .ok (.aload_n 0, 1) := oc_42 shX11_feed_51
theorem dX11_feed_52 : decode cX11_feed 52 = .ok (.getfield 21, 3) := oc_180 shX11_feed_52
theorem dX11_feed_55 : decode cX11_feed 55 = .ok (.iload 5, 2) := oc_21 shX11_feed_55
theorem dX11_feed_57 : decode cX11_feed 57 = .ok (.invokevirtual 153, 3) := oc_182 shX11_feed_57
theorem dX11_feed_60 : decode cX11_feed 60 = .ok (.aload_n 0, 1) := oc_42 shX11_feed_60
theorem dX11_feed_61 : decode cX11_feed 61 = .ok (.getfield 21, 3) := oc_180 shX11_feed_61
theorem dX11_feed_64 : decode cX11_feed 64 = .ok (.invokevirtual 152, 3) := oc_182 shX11_feed_64
theorem dX11_feed_67 : decode cX11_feed 67 = .ok (.ireturn, 1) := oc_172 shX11_feed_67
theorem dX11_feed_16 : decode cX11_feed 16 = .ok (.iconst (-1), 1) := oc_2 shX11_feed_16
theorem dX11_feed_17 : decode cX11_feed 17 = .ok (.ireturn, 1) := oc_172 shX11_feed_17
noncomputable def sxX11_sets_21 : List UInt8 := []
noncomputable def sxX11_sets_20 : List UInt8 := 172 :: sxX11_sets_21
noncomputable def sxX11_sets_19 : List UInt8 := 3 :: sxX11_sets_20
noncomputable def sxX11_sets_16 : List UInt8 := 167 :: 0 :: 4 :: sxX11_sets_19
noncomputable def sxX11_sets_15 : List UInt8 := 4 :: sxX11_sets_16
noncomputable def sxX11_sets_12 : List UInt8 := 162 :: 0 :: 7 :: sxX11_sets_15
noncomputable def sxX11_sets_11 : List UInt8 := 28 :: sxX11_sets_12
noncomputable def sxX11_sets_8 : List UInt8 := 184 :: 0 :: 192 :: sxX11_sets_11
noncomputable def sxX11_sets_7 : List UInt8 := 27 :: sxX11_sets_8
noncomputable def sxX11_sets_4 : List UInt8 := 180 :: 1 :: 230 :: sxX11_sets_7
noncomputable def sxX11_sets_1 : List UInt8 := 180 :: 0 :: 47 :: sxX11_sets_4
noncomputable def sxX11_sets_0 : List UInt8 := 42 :: sxX11_sets_1
theorem shX11_sets_0 : cX11_sets.data.toList.drop 0 = sxX11_sets_0 := rfl
theorem shX11_sets_1 : cX11_sets.data.toList.drop 1 = sxX11_sets_1 := dSn 1 shX11_sets_0
theorem shX11_sets_4 : cX11_sets.data.toList.drop 4 = sxX11_sets_4 := dSn 3 shX11_sets_1
theorem shX11_sets_7 : cX11_sets.data.toList.drop 7 = sxX11_sets_7 := dSn 3 shX11_sets_4
theorem shX11_sets_8 : cX11_sets.data.toList.drop 8 = sxX11_sets_8 := dSn 1 shX11_sets_7
theorem shX11_sets_11 : cX11_sets.data.toList.drop 11 = sxX11_sets_11 := dSn 3 shX11_sets_8
theorem shX11_sets_12 : cX11_sets.data.toList.drop 12 = sxX11_sets_12 := dSn 1 shX11_sets_11
theorem shX11_sets_15 : cX11_sets.data.toList.drop 15 = sxX11_sets_15 := dSn 3 shX11_sets_12
theorem shX11_sets_16 : cX11_sets.data.toList.drop 16 = sxX11_sets_16 := dSn 1 shX11_sets_15
theorem shX11_sets_19 : cX11_sets.data.toList.drop 19 = sxX11_sets_19 := dSn 3 shX11_sets_16
theorem shX11_sets_20 : cX11_sets.data.toList.drop 20 = sxX11_sets_20 := dSn 1 shX11_sets_19
theorem dX11_sets_0 : decode cX11_sets 0 = .ok (.aload_n 0, 1) := oc_42 shX11_sets_0
theorem dX11_sets_1 : decode cX11_sets 1 = .ok (.getfield 47, 3) := oc_180 shX11_sets_1
theorem dX11_sets_4 : decode cX11_sets 4 = .ok (.getfield 486, 3) := oc_180 shX11_sets_4
theorem dX11_sets_7 : decode cX11_sets 7 = .ok (.iload_n 1, 1) := oc_27 shX11_sets_7
theorem dX11_sets_8 : decode cX11_sets 8 = .ok (.invokestatic 192, 3) := oc_184 shX11_sets_8
theorem dX11_sets_11 : decode cX11_sets 11 = .ok (.iload_n 2, 1) := oc_28 shX11_sets_11
theorem dX11_sets_12 : decode cX11_sets 12 = .ok (.if_icmp .ge 7, 3) := oc_162 shX11_sets_12 sgw_0_7
theorem dX11_sets_19 : decode cX11_sets 19 = .ok (.iconst 0, 1) := oc_3 shX11_sets_19
theorem dX11_sets_20 : decode cX11_sets 20 = .ok (.ireturn, 1) := oc_172 shX11_sets_20
theorem dX11_sets_15 : decode cX11_sets 15 = .ok (.iconst 1, 1) := oc_4 shX11_sets_15
theorem dX11_sets_16 : decode cX11_sets 16 = .ok (.goto 4, 3) := oc_167 shX11_sets_16 sgw_0_4
noncomputable def sxX11_first_49 : List UInt8 := []
noncomputable def sxX11_first_48 : List UInt8 := 172 :: sxX11_first_49
noncomputable def sxX11_first_46 : List UInt8 := 16 :: 254 :: sxX11_first_48
noncomputable def sxX11_first_43 : List UInt8 := 167 :: 255 :: 235 :: sxX11_first_46
noncomputable def sxX11_first_40 : List UInt8 := 132 :: 3 :: 1 :: sxX11_first_43
noncomputable def sxX11_first_39 : List UInt8 := 172 :: sxX11_first_40
noncomputable def sxX11_first_38 : List UInt8 := 29 :: sxX11_first_39
noncomputable def sxX11_first_35 : List UInt8 := 154 :: 0 :: 5 :: sxX11_first_38
noncomputable def sxX11_first_32 : List UInt8 := 182 :: 1 :: 233 :: sxX11_first_35
noncomputable def sxX11_first_31 : List UInt8 := 28 :: sxX11_first_32
noncomputable def sxX11_first_30 : List UInt8 := 29 :: sxX11_first_31
noncomputable def sxX11_first_29 : List UInt8 := 42 :: sxX11_first_30
noncomputable def sxX11_first_26 : List UInt8 := 162 :: 0 :: 20 :: sxX11_first_29
noncomputable def sxX11_first_23 : List UInt8 := 17 :: 1 :: 144 :: sxX11_first_26
noncomputable def sxX11_first_22 : List UInt8 := 29 :: sxX11_first_23
noncomputable def sxX11_first_21 : List UInt8 := 62 :: sxX11_first_22
noncomputable def sxX11_first_20 : List UInt8 := 27 :: sxX11_first_21
noncomputable def sxX11_first_19 : List UInt8 := 172 :: sxX11_first_20
noncomputable def sxX11_first_18 : List UInt8 := 2 :: sxX11_first_19
noncomputable def sxX11_first_15 : List UInt8 := 154 :: 0 :: 5 :: sxX11_first_18
noncomputable def sxX11_first_12 : List UInt8 := 184 :: 0 :: 80 :: sxX11_first_15
noncomputable def sxX11_first_10 : List UInt8 := 16 :: 41 :: sxX11_first_12
noncomputable def sxX11_first_8 : List UInt8 := 16 :: 216 :: sxX11_first_10
noncomputable def sxX11_first_7 : List UInt8 := 28 :: sxX11_first_8
noncomputable def sxX11_first_4 : List UInt8 := 153 :: 0 :: 14 :: sxX11_first_7
noncomputable def sxX11_first_1 : List UInt8 := 184 :: 0 :: 99 :: sxX11_first_4
noncomputable def sxX11_first_0 : List UInt8 := 27 :: sxX11_first_1
theorem shX11_first_0 : cX11_first.data.toList.drop 0 = sxX11_first_0 := rfl
theorem shX11_first_1 : cX11_first.data.toList.drop 1 = sxX11_first_1 := dSn 1 shX11_first_0
theorem shX11_first_4 : cX11_first.data.toList.drop 4 = sxX11_first_4 := dSn 3 shX11_first_1
theorem shX11_first_7 : cX11_first.data.toList.drop 7 = sxX11_first_7 := dSn 3 shX11_first_4
theorem shX11_first_8 : cX11_first.data.toList.drop 8 = sxX11_first_8 := dSn 1 shX11_first_7
theorem shX11_first_10 : cX11_first.data.toList.drop 10 = sxX11_first_10 := dSn 2 shX11_first_8
theorem shX11_first_12 : cX11_first.data.toList.drop 12 = sxX11_first_12 := dSn 2 shX11_first_10
theorem shX11_first_15 : cX11_first.data.toList.drop 15 = sxX11_first_15 := dSn 3 shX11_first_12
theorem shX11_first_18 : cX11_first.data.toList.drop 18 = sxX11_first_18 := dSn 3 shX11_first_15
theorem shX11_first_19 : cX11_first.data.toList.drop 19 = sxX11_first_19 := dSn 1 shX11_first_18
theorem shX11_first_20 : cX11_first.data.toList.drop 20 = sxX11_first_20 := dSn 1 shX11_first_19
theorem shX11_first_21 : cX11_first.data.toList.drop 21 = sxX11_first_21 := dSn 1 shX11_first_20
theorem shX11_first_22 : cX11_first.data.toList.drop 22 = sxX11_first_22 := dSn 1 shX11_first_21
theorem shX11_first_23 : cX11_first.data.toList.drop 23 = sxX11_first_23 := dSn 1 shX11_first_22
theorem shX11_first_26 : cX11_first.data.toList.drop 26 = sxX11_first_26 := dSn 3 shX11_first_23
theorem shX11_first_29 : cX11_first.data.toList.drop 29 = sxX11_first_29 := dSn 3 shX11_first_26
theorem shX11_first_30 : cX11_first.data.toList.drop 30 = sxX11_first_30 := dSn 1 shX11_first_29
theorem shX11_first_31 : cX11_first.data.toList.drop 31 = sxX11_first_31 := dSn 1 shX11_first_30
theorem shX11_first_32 : cX11_first.data.toList.drop 32 = sxX11_first_32 := dSn 1 shX11_first_31
theorem shX11_first_35 : cX11_first.data.toList.drop 35 = sxX11_first_35 := dSn 3 shX11_first_32
theorem shX11_first_38 : cX11_first.data.toList.drop 38 = sxX11_first_38 := dSn 3 shX11_first_35
theorem shX11_first_39 : cX11_first.data.toList.drop 39 = sxX11_first_39 := dSn 1 shX11_first_38
theorem shX11_first_40 : cX11_first.data.toList.drop 40 = sxX11_first_40 := dSn 1 shX11_first_39
theorem shX11_first_43 : cX11_first.data.toList.drop 43 = sxX11_first_43 := dSn 3 shX11_first_40
theorem shX11_first_46 : cX11_first.data.toList.drop 46 = sxX11_first_46 := dSn 3 shX11_first_43
theorem shX11_first_48 : cX11_first.data.toList.drop 48 = sxX11_first_48 := dSn 2 shX11_first_46
theorem dX11_first_0 : decode cX11_first 0 = .ok (.iload_n 1, 1) := oc_27 shX11_first_0
theorem dX11_first_1 : decode cX11_first 1 = .ok (.invokestatic 99, 3) := oc_184 shX11_first_1
theorem dX11_first_4 : decode cX11_first 4 = .ok (.ifCond .eq 14, 3) := oc_153 shX11_first_4 sgw_0_14
theorem dX11_first_7 : decode cX11_first 7 = .ok (.iload_n 2, 1) := oc_28 shX11_first_7
theorem dX11_first_8 : decode cX11_first 8 = .ok (.bipush (-40), 2) := oc_16 shX11_first_8 sgb_216
theorem dX11_first_10 : decode cX11_first 10 = .ok (.bipush 41, 2) := oc_16 shX11_first_10 sgb_41
theorem dX11_first_12 : decode cX11_first 12 = .ok (.invokestatic 80, 3) := oc_184 shX11_first_12
theorem dX11_first_15 : decode cX11_first 15 = .ok (.ifCond .ne 5, 3) := oc_154 shX11_first_15 sgw_0_5
theorem dX11_first_20 : decode cX11_first 20 = .ok (.iload_n 1, 1) := oc_27 shX11_first_20
theorem dX11_first_21 : decode cX11_first 21 = .ok (.istore_n 3, 1) := oc_62 shX11_first_21
theorem dX11_first_22 : decode cX11_first 22 = .ok (.iload_n 3, 1) := oc_29 shX11_first_22
theorem dX11_first_23 : decode cX11_first 23 = .ok (.sipush 400, 3) := oc_17 shX11_first_23 sgw_1_144
theorem dX11_first_26 : decode cX11_first 26 = .ok (.if_icmp .ge 20, 3) := oc_162 shX11_first_26 sgw_0_20
theorem dX11_first_46 : decode cX11_first 46 = .ok (.bipush (-2), 2) := oc_16 shX11_first_46 sgb_254
theorem dX11_first_48 : decode cX11_first 48 = .ok (.ireturn, 1) := oc_172 shX11_first_48
theorem dX11_first_29 : decode cX11_first 29 = .ok (.aload_n 0, 1) := oc_42 shX11_first_29
theorem dX11_first_30 : decode cX11_first 30 = .ok (.iload_n 3, 1) := oc_29 shX11_first_30
theorem dX11_first_31 : decode cX11_first 31 = .ok (.iload_n 2, 1) := oc_28 shX11_first_31
theorem dX11_first_32 : decode cX11_first 32 = .ok (.invokevirtual 489, 3) := oc_182 shX11_first_32
theorem dX11_first_35 : decode cX11_first 35 = .ok (.ifCond .ne 5, 3) := oc_154 shX11_first_35 sgw_0_5
theorem dX11_first_40 : decode cX11_first 40 = .ok (.iinc 3 1, 3) := oc_132 shX11_first_40 sgb_1
theorem dX11_first_43 : decode cX11_first 43 = .ok (.goto (-21), 3) := oc_167 shX11_first_43 sgw_255_235
theorem dX11_first_38 : decode cX11_first 38 = .ok (.iload_n 3, 1) := oc_29 shX11_first_38
theorem dX11_first_39 : decode cX11_first 39 = .ok (.ireturn, 1) := oc_172 shX11_first_39
theorem dX11_first_18 : decode cX11_first 18 = .ok (.iconst (-1), 1) := oc_2 shX11_first_18
theorem dX11_first_19 : decode cX11_first 19 = .ok (.ireturn, 1) := oc_172 shX11_first_19
noncomputable def sxX11_isText_28 : List UInt8 := []
noncomputable def sxX11_isText_27 : List UInt8 := 172 :: sxX11_isText_28
noncomputable def sxX11_isText_26 : List UInt8 := 3 :: sxX11_isText_27
noncomputable def sxX11_isText_23 : List UInt8 := 167 :: 0 :: 4 :: sxX11_isText_26
noncomputable def sxX11_isText_22 : List UInt8 := 4 :: sxX11_isText_23
noncomputable def sxX11_isText_19 : List UInt8 := 163 :: 0 :: 7 :: sxX11_isText_22
noncomputable def sxX11_isText_16 : List UInt8 := 182 :: 0 :: 152 :: sxX11_isText_19
noncomputable def sxX11_isText_13 : List UInt8 := 180 :: 0 :: 21 :: sxX11_isText_16
noncomputable def sxX11_isText_12 : List UInt8 := 42 :: sxX11_isText_13
noncomputable def sxX11_isText_11 : List UInt8 := 27 :: sxX11_isText_12
noncomputable def sxX11_isText_8 : List UInt8 := 153 :: 0 :: 18 :: sxX11_isText_11
noncomputable def sxX11_isText_5 : List UInt8 := 184 :: 0 :: 80 :: sxX11_isText_8
noncomputable def sxX11_isText_2 : List UInt8 := 17 :: 0 :: 160 :: sxX11_isText_5
noncomputable def sxX11_isText_1 : List UInt8 := 4 :: sxX11_isText_2
noncomputable def sxX11_isText_0 : List UInt8 := 27 :: sxX11_isText_1
theorem shX11_isText_0 : cX11_isText.data.toList.drop 0 = sxX11_isText_0 := rfl
theorem shX11_isText_1 : cX11_isText.data.toList.drop 1 = sxX11_isText_1 := dSn 1 shX11_isText_0
theorem shX11_isText_2 : cX11_isText.data.toList.drop 2 = sxX11_isText_2 := dSn 1 shX11_isText_1
theorem shX11_isText_5 : cX11_isText.data.toList.drop 5 = sxX11_isText_5 := dSn 3 shX11_isText_2
theorem shX11_isText_8 : cX11_isText.data.toList.drop 8 = sxX11_isText_8 := dSn 3 shX11_isText_5
theorem shX11_isText_11 : cX11_isText.data.toList.drop 11 = sxX11_isText_11 := dSn 3 shX11_isText_8
theorem shX11_isText_12 : cX11_isText.data.toList.drop 12 = sxX11_isText_12 := dSn 1 shX11_isText_11
theorem shX11_isText_13 : cX11_isText.data.toList.drop 13 = sxX11_isText_13 := dSn 1 shX11_isText_12
theorem shX11_isText_16 : cX11_isText.data.toList.drop 16 = sxX11_isText_16 := dSn 3 shX11_isText_13
theorem shX11_isText_19 : cX11_isText.data.toList.drop 19 = sxX11_isText_19 := dSn 3 shX11_isText_16
theorem shX11_isText_22 : cX11_isText.data.toList.drop 22 = sxX11_isText_22 := dSn 3 shX11_isText_19
theorem shX11_isText_23 : cX11_isText.data.toList.drop 23 = sxX11_isText_23 := dSn 1 shX11_isText_22
theorem shX11_isText_26 : cX11_isText.data.toList.drop 26 = sxX11_isText_26 := dSn 3 shX11_isText_23
theorem shX11_isText_27 : cX11_isText.data.toList.drop 27 = sxX11_isText_27 := dSn 1 shX11_isText_26
theorem dX11_isText_0 : decode cX11_isText 0 = .ok (.iload_n 1, 1) := oc_27 shX11_isText_0
theorem dX11_isText_1 : decode cX11_isText 1 = .ok (.iconst 1, 1) := oc_4 shX11_isText_1
theorem dX11_isText_2 : decode cX11_isText 2 = .ok (.sipush 160, 3) := oc_17 shX11_isText_2 sgw_0_160
theorem dX11_isText_5 : decode cX11_isText 5 = .ok (.invokestatic 80, 3) := oc_184 shX11_isText_5
theorem dX11_isText_8 : decode cX11_isText 8 = .ok (.ifCond .eq 18, 3) := oc_153 shX11_isText_8 sgw_0_18
theorem dX11_isText_11 : decode cX11_isText 11 = .ok (.iload_n 1, 1) := oc_27 shX11_isText_11
theorem dX11_isText_12 : decode cX11_isText 12 = .ok (.aload_n 0, 1) := oc_42 shX11_isText_12
theorem dX11_isText_13 : decode cX11_isText 13 = .ok (.getfield 21, 3) := oc_180 shX11_isText_13
theorem dX11_isText_16 : decode cX11_isText 16 = .ok (.invokevirtual 152, 3) := oc_182 shX11_isText_16
theorem dX11_isText_19 : decode cX11_isText 19 = .ok (.if_icmp .gt 7, 3) := oc_163 shX11_isText_19 sgw_0_7
theorem dX11_isText_26 : decode cX11_isText 26 = .ok (.iconst 0, 1) := oc_3 shX11_isText_26
theorem dX11_isText_27 : decode cX11_isText 27 = .ok (.ireturn, 1) := oc_172 shX11_isText_27
theorem dX11_isText_22 : decode cX11_isText 22 = .ok (.iconst 1, 1) := oc_4 shX11_isText_22
theorem dX11_isText_23 : decode cX11_isText 23 = .ok (.goto 4, 3) := oc_167 shX11_isText_23 sgw_0_4
set_option maxRecDepth 100000 in
set_option maxHeartbeats 4000000 in
theorem q_Xprice (l : Launch) (D : va_G) (cI cB cZ : ClassId) (zz qq vv : Nat) (bt : Nat → Int32) (g : Nat → Nat) (ad : Nat → Nat → Nat) (cn : Nat → Nat) (In : Nat → Int32) (Fn : Nat → Nat → Int32) (v0 v1 : Int32) (sz : Nat) (hB : CBX cn) : Met l yX11_price (CWS yX11_price cX11_price 3 (some .boolean)) (RM 1 0 0) (PBx [.ref (g 0), .int v0, .int v1] D cI cB cZ zz qq vv bt (wX cI (D.1 99) zz g ad cn In Fn) sz) (va_Qi (fun (r : Int32) (u : (Nat → Nat) × (Nat → Int32) × (Nat → Nat → Int32)) => (fun r c2 I2 F2 => Fr [] [] [20] cn In Fn c2 I2 F2 ∧ CBX c2 ∧ (True)) r u.1 u.2.1 u.2.2) (fun (u : (Nat → Nat) × (Nat → Int32) × (Nat → Nat → Int32)) (t : State) => va_P D vwCl (wX cI (D.1 99) zz g ad u.1 u.2.1 u.2.2) t.heap ∧ va_D (va_A (wX cI (D.1 99) zz g ad cn In Fn) sz) (wX cI (D.1 99) zz g ad u.1 u.2.1 u.2.2)) (va_A (wX cI (D.1 99) zz g ad cn In Fn) sz)) 0 0 (va_A (wX cI (D.1 99) zz g ad cn In Fn) sz) := by
  refine en_x (fun A => (va_Qi (fun (r : Int32) (u : (Nat → Nat) × (Nat → Int32) × (Nat → Nat → Int32)) => (fun (r : Int32) (c2 : Nat → Nat) (I2 : Nat → Int32) (F2 : Nat → Nat → Int32) => Fr [] [] [20] cn In Fn c2 I2 F2 ∧ CBX c2 ∧ (True)) r u.1 u.2.1 u.2.2) (fun (u : (Nat → Nat) × (Nat → Int32) × (Nat → Nat → Int32)) (t : State) => va_P D vwCl (wX cI (D.1 99) zz g ad u.1 u.2.1 u.2.2) t.heap ∧ va_D A (wX cI (D.1 99) zz g ad u.1 u.2.1 u.2.2)) A)) rfl rfl pn_RX11 (Nat.le_of_ble_eq_true rfl) (fun p e s m below meth c A hx hb hml hown S hr hlocks hnm hA hP hK hD hXS hS ls hl => ?_)
  have hl : lv_has ls 3 [(0, .ref (g 0)), (1, .int v0), (2, .int v1)] := hl
  have hb_cn : Hid (CBX cn) := hB
  replace hB : CBXh cn := hB
  refine lv_aload_n hx hb dX11_price_0 rfl (lvA0 hl) ?_
  refine gf_RX11_47 S hK hP 0 xo_0 (v := .ref (g 8)) rfl dX11_price_1 ?_
  refine gf_RX11_174 S hK hP 6 xo_6 (v := .ref (g 20)) rfl dX11_price_4 ?_
  refine lv_iload_n hx hb dX11_price_7 rfl (lvA1 hl) ?_
  refine lv_iload_n hx hb dX11_price_8 rfl (lvA2 hl) ?_
  refine lv_iconst (v := 0) hx hb dX11_price_9 kic_0 ?_
  refine lv_sipush (v := 1000) hx hb dX11_price_10 (by decide) ?_
  have hFc := va_free (wc := [((g 20), .inl (cI, 58, .inl (Fn 20)))]) hD hS hA [7] (one_im xo_7)
  refine va_calli (runS_w (As := [.ref (g 20), .int v0, .int v1, .int 0, .int 1000]) (rest := []) S (q_l_tell l D cI cB cZ (g 20) 58 (Fn 20) v0 v1 0 1000 s.heap.size (by (first | omega | (have zz0 := Hid.u hb_cn; omega)))) kS_RX11_177 hK hP hD [7] (one_is xo_7) (one_im xo_7) rfl ⟨Nat.le_of_ble_eq_true rfl, Nat.le_of_ble_eq_true rfl⟩ ⟨Nat.le_of_ble_eq_true rfl, Nat.le_of_ble_eq_true rfl⟩ rfl hl.1 rfl (Nat.le_of_ble_eq_true rfl) dX11_price_13) hS (fun q _ h => hFc q h) hFc (fun r_1 u_3 t H1 locs ht hvm h_2 hB1 hz1 hk1 hS => ?_)
  obtain ⟨hP1, hD1⟩ := hB1
  rw [ht] at hP1
  obtain ⟨hP, hD⟩ := wset1 hP hD xo_7 hk1 hP1
  rcases h_2 with ⟨rfl, h_2, rfl⟩ | ⟨rfl, h_2, rfl⟩
  ·
    have h_2 : 0 ≤ v0.toInt ∧ v0.toInt < (58 : Int) ∧ 0 ≤ v1.toInt ∧ v1.toInt ≤ 1000 := h_2
    generalize H1 = H at hP hS ⊢
    have hP : va_P D vwCl (wX cI (D.1 99) zz g ad cn In (va_up Fn 20 (upd (Fn 20) v0.toNatClampNeg v1))) H := va_P_eq xsa_7 hP
    have hD : va_D A (wX cI (D.1 99) zz g ad cn In (va_up Fn 20 (upd (Fn 20) v0.toNatClampNeg v1))) := va_D_eq xsa_7 hD
    exact W.zret (v := 1) hx hb hr rfl (fun t ht hW => ⟨⟨1, (cn, In, (va_up Fn 20 (upd (Fn 20) v0.toNatClampNeg v1))), rfl, ⟨(Fr.mo (Fr.f 20 Fr.rf) (sbl rfl) (sbl rfl) (sbl rfl)), hB, trivial⟩, by rw [ht]; exact hP, hD⟩, hS.F ht⟩) hS.2.2 dX11_price_16
  ·
    have h_2 : ¬ (0 ≤ v0.toInt ∧ v0.toInt < (58 : Int) ∧ 0 ≤ v1.toInt ∧ v1.toInt ≤ 1000) := h_2
    generalize H1 = H at hP hS ⊢
    have hP : va_P D vwCl (wX cI (D.1 99) zz g ad cn In Fn) H := va_P_eq xsr_7 hP
    have hD : va_D A (wX cI (D.1 99) zz g ad cn In Fn) := va_D_eq xsr_7 hD
    exact W.zret (v := 0) hx hb hr rfl (fun t ht hW => ⟨⟨0, (cn, In, Fn), rfl, ⟨(Fr.mo Fr.rf (sbl rfl) (sbl rfl) (sbl rfl)), hB, trivial⟩, by rw [ht]; exact hP, hD⟩, hS.F ht⟩) hS.2.2 dX11_price_16
set_option maxRecDepth 100000 in
set_option maxHeartbeats 4000000 in
theorem q_Xthefts (l : Launch) (D : va_G) (cI cB cZ : ClassId) (zz qq vv : Nat) (bt : Nat → Int32) (g : Nat → Nat) (ad : Nat → Nat → Nat) (cn : Nat → Nat) (In : Nat → Int32) (Fn : Nat → Nat → Int32) (v0 v1 : Int32) (sz : Nat) (hB : CBX cn) : Met l yX11_thefts (CWS yX11_thefts cX11_thefts 3 (some .boolean)) (RM 1 0 0) (PBx [.ref (g 0), .int v0, .int v1] D cI cB cZ zz qq vv bt (wX cI (D.1 99) zz g ad cn In Fn) sz) (va_Qi (fun (r : Int32) (u : (Nat → Nat) × (Nat → Int32) × (Nat → Nat → Int32)) => (fun r c2 I2 F2 => Fr [] [] [21] cn In Fn c2 I2 F2 ∧ CBX c2 ∧ (True)) r u.1 u.2.1 u.2.2) (fun (u : (Nat → Nat) × (Nat → Int32) × (Nat → Nat → Int32)) (t : State) => va_P D vwCl (wX cI (D.1 99) zz g ad u.1 u.2.1 u.2.2) t.heap ∧ va_D (va_A (wX cI (D.1 99) zz g ad cn In Fn) sz) (wX cI (D.1 99) zz g ad u.1 u.2.1 u.2.2)) (va_A (wX cI (D.1 99) zz g ad cn In Fn) sz)) 0 0 (va_A (wX cI (D.1 99) zz g ad cn In Fn) sz) := by
  refine en_x (fun A => (va_Qi (fun (r : Int32) (u : (Nat → Nat) × (Nat → Int32) × (Nat → Nat → Int32)) => (fun (r : Int32) (c2 : Nat → Nat) (I2 : Nat → Int32) (F2 : Nat → Nat → Int32) => Fr [] [] [21] cn In Fn c2 I2 F2 ∧ CBX c2 ∧ (True)) r u.1 u.2.1 u.2.2) (fun (u : (Nat → Nat) × (Nat → Int32) × (Nat → Nat → Int32)) (t : State) => va_P D vwCl (wX cI (D.1 99) zz g ad u.1 u.2.1 u.2.2) t.heap ∧ va_D A (wX cI (D.1 99) zz g ad u.1 u.2.1 u.2.2)) A)) rfl rfl pn_RX11 (Nat.le_of_ble_eq_true rfl) (fun p e s m below meth c A hx hb hml hown S hr hlocks hnm hA hP hK hD hXS hS ls hl => ?_)
  have hl : lv_has ls 3 [(0, .ref (g 0)), (1, .int v0), (2, .int v1)] := hl
  have hb_cn : Hid (CBX cn) := hB
  replace hB : CBXh cn := hB
  refine lv_aload_n hx hb dX11_thefts_0 rfl (lvA0 hl) ?_
  refine gf_RX11_47 S hK hP 0 xo_0 (v := .ref (g 8)) rfl dX11_thefts_1 ?_
  refine gf_RX11_467 S hK hP 6 xo_6 (v := .ref (g 21)) rfl dX11_thefts_4 ?_
  refine lv_iload_n hx hb dX11_thefts_7 rfl (lvA1 hl) ?_
  refine lv_iload_n hx hb dX11_thefts_8 rfl (lvA2 hl) ?_
  refine lv_iconst (v := 0) hx hb dX11_thefts_9 kic_0 ?_
  refine lv_sipush (v := 1000) hx hb dX11_thefts_10 (by decide) ?_
  have hFc := va_free (wc := [((g 21), .inl (cI, 24, .inl (Fn 21)))]) hD hS hA [8] (one_im xo_8)
  refine va_calli (runS_w (As := [.ref (g 21), .int v0, .int v1, .int 0, .int 1000]) (rest := []) S (q_l_tell l D cI cB cZ (g 21) 24 (Fn 21) v0 v1 0 1000 s.heap.size (by (first | omega | (have zz0 := Hid.u hb_cn; omega)))) kS_RX11_177 hK hP hD [8] (one_is xo_8) (one_im xo_8) rfl ⟨Nat.le_of_ble_eq_true rfl, Nat.le_of_ble_eq_true rfl⟩ ⟨Nat.le_of_ble_eq_true rfl, Nat.le_of_ble_eq_true rfl⟩ rfl hl.1 rfl (Nat.le_of_ble_eq_true rfl) dX11_thefts_13) hS (fun q _ h => hFc q h) hFc (fun r_1 u_3 t H1 locs ht hvm h_2 hB1 hz1 hk1 hS => ?_)
  obtain ⟨hP1, hD1⟩ := hB1
  rw [ht] at hP1
  obtain ⟨hP, hD⟩ := wset1 hP hD xo_8 hk1 hP1
  rcases h_2 with ⟨rfl, h_2, rfl⟩ | ⟨rfl, h_2, rfl⟩
  ·
    have h_2 : 0 ≤ v0.toInt ∧ v0.toInt < (24 : Int) ∧ 0 ≤ v1.toInt ∧ v1.toInt ≤ 1000 := h_2
    generalize H1 = H at hP hS ⊢
    have hP : va_P D vwCl (wX cI (D.1 99) zz g ad cn In (va_up Fn 21 (upd (Fn 21) v0.toNatClampNeg v1))) H := va_P_eq xsa_8 hP
    have hD : va_D A (wX cI (D.1 99) zz g ad cn In (va_up Fn 21 (upd (Fn 21) v0.toNatClampNeg v1))) := va_D_eq xsa_8 hD
    exact W.zret (v := 1) hx hb hr rfl (fun t ht hW => ⟨⟨1, (cn, In, (va_up Fn 21 (upd (Fn 21) v0.toNatClampNeg v1))), rfl, ⟨(Fr.mo (Fr.f 21 Fr.rf) (sbl rfl) (sbl rfl) (sbl rfl)), hB, trivial⟩, by rw [ht]; exact hP, hD⟩, hS.F ht⟩) hS.2.2 dX11_thefts_16
  ·
    have h_2 : ¬ (0 ≤ v0.toInt ∧ v0.toInt < (24 : Int) ∧ 0 ≤ v1.toInt ∧ v1.toInt ≤ 1000) := h_2
    generalize H1 = H at hP hS ⊢
    have hP : va_P D vwCl (wX cI (D.1 99) zz g ad cn In Fn) H := va_P_eq xsr_8 hP
    have hD : va_D A (wX cI (D.1 99) zz g ad cn In Fn) := va_D_eq xsr_8 hD
    exact W.zret (v := 0) hx hb hr rfl (fun t ht hW => ⟨⟨0, (cn, In, Fn), rfl, ⟨(Fr.mo Fr.rf (sbl rfl) (sbl rfl) (sbl rfl)), hB, trivial⟩, by rw [ht]; exact hP, hD⟩, hS.F ht⟩) hS.2.2 dX11_thefts_16
set_option maxRecDepth 100000 in
set_option maxHeartbeats 4000000 in
theorem q_Xfeast (l : Launch) (D : va_G) (cI cB cZ : ClassId) (zz qq vv : Nat) (bt : Nat → Int32) (g : Nat → Nat) (ad : Nat → Nat → Nat) (cn : Nat → Nat) (In : Nat → Int32) (Fn : Nat → Nat → Int32) (v0 v1 : Int32) (sz : Nat) (hB : CBX cn) : Met l yX11_feast (CWS yX11_feast cX11_feast 3 (some .boolean)) (RM 1 0 0) (PBx [.ref (g 0), .int v0, .int v1] D cI cB cZ zz qq vv bt (wX cI (D.1 99) zz g ad cn In Fn) sz) (va_Qi (fun (r : Int32) (u : (Nat → Nat) × (Nat → Int32) × (Nat → Nat → Int32)) => (fun r c2 I2 F2 => Fr [] [] [23] cn In Fn c2 I2 F2 ∧ CBX c2 ∧ (True)) r u.1 u.2.1 u.2.2) (fun (u : (Nat → Nat) × (Nat → Int32) × (Nat → Nat → Int32)) (t : State) => va_P D vwCl (wX cI (D.1 99) zz g ad u.1 u.2.1 u.2.2) t.heap ∧ va_D (va_A (wX cI (D.1 99) zz g ad cn In Fn) sz) (wX cI (D.1 99) zz g ad u.1 u.2.1 u.2.2)) (va_A (wX cI (D.1 99) zz g ad cn In Fn) sz)) 0 0 (va_A (wX cI (D.1 99) zz g ad cn In Fn) sz) := by
  refine en_x (fun A => (va_Qi (fun (r : Int32) (u : (Nat → Nat) × (Nat → Int32) × (Nat → Nat → Int32)) => (fun (r : Int32) (c2 : Nat → Nat) (I2 : Nat → Int32) (F2 : Nat → Nat → Int32) => Fr [] [] [23] cn In Fn c2 I2 F2 ∧ CBX c2 ∧ (True)) r u.1 u.2.1 u.2.2) (fun (u : (Nat → Nat) × (Nat → Int32) × (Nat → Nat → Int32)) (t : State) => va_P D vwCl (wX cI (D.1 99) zz g ad u.1 u.2.1 u.2.2) t.heap ∧ va_D A (wX cI (D.1 99) zz g ad u.1 u.2.1 u.2.2)) A)) rfl rfl pn_RX11 (Nat.le_of_ble_eq_true rfl) (fun p e s m below meth c A hx hb hml hown S hr hlocks hnm hA hP hK hD hXS hS ls hl => ?_)
  have hl : lv_has ls 3 [(0, .ref (g 0)), (1, .int v0), (2, .int v1)] := hl
  have hb_cn : Hid (CBX cn) := hB
  replace hB : CBXh cn := hB
  refine lv_aload_n hx hb dX11_feast_0 rfl (lvA0 hl) ?_
  refine gf_RX11_47 S hK hP 0 xo_0 (v := .ref (g 8)) rfl dX11_feast_1 ?_
  refine gf_RX11_492 S hK hP 6 xo_6 (v := .ref (g 23)) rfl dX11_feast_4 ?_
  refine lv_iload_n hx hb dX11_feast_7 rfl (lvA1 hl) ?_
  refine lv_iload_n hx hb dX11_feast_8 rfl (lvA2 hl) ?_
  refine lv_iconst (v := 0) hx hb dX11_feast_9 kic_0 ?_
  refine lv_sipush (v := 300) hx hb dX11_feast_10 (by decide) ?_
  have hFc := va_free (wc := [((g 23), .inl (cI, 400, .inl (Fn 23)))]) hD hS hA [10] (one_im xo_10)
  refine va_calli (runS_w (As := [.ref (g 23), .int v0, .int v1, .int 0, .int 300]) (rest := []) S (q_l_tell l D cI cB cZ (g 23) 400 (Fn 23) v0 v1 0 300 s.heap.size (by (first | omega | (have zz0 := Hid.u hb_cn; omega)))) kS_RX11_177 hK hP hD [10] (one_is xo_10) (one_im xo_10) rfl ⟨Nat.le_of_ble_eq_true rfl, Nat.le_of_ble_eq_true rfl⟩ ⟨Nat.le_of_ble_eq_true rfl, Nat.le_of_ble_eq_true rfl⟩ rfl hl.1 rfl (Nat.le_of_ble_eq_true rfl) dX11_feast_13) hS (fun q _ h => hFc q h) hFc (fun r_1 u_3 t H1 locs ht hvm h_2 hB1 hz1 hk1 hS => ?_)
  obtain ⟨hP1, hD1⟩ := hB1
  rw [ht] at hP1
  obtain ⟨hP, hD⟩ := wset1 hP hD xo_10 hk1 hP1
  rcases h_2 with ⟨rfl, h_2, rfl⟩ | ⟨rfl, h_2, rfl⟩
  ·
    have h_2 : 0 ≤ v0.toInt ∧ v0.toInt < (400 : Int) ∧ 0 ≤ v1.toInt ∧ v1.toInt ≤ 300 := h_2
    generalize H1 = H at hP hS ⊢
    have hP : va_P D vwCl (wX cI (D.1 99) zz g ad cn In (va_up Fn 23 (upd (Fn 23) v0.toNatClampNeg v1))) H := va_P_eq xsa_10 hP
    have hD : va_D A (wX cI (D.1 99) zz g ad cn In (va_up Fn 23 (upd (Fn 23) v0.toNatClampNeg v1))) := va_D_eq xsa_10 hD
    exact W.zret (v := 1) hx hb hr rfl (fun t ht hW => ⟨⟨1, (cn, In, (va_up Fn 23 (upd (Fn 23) v0.toNatClampNeg v1))), rfl, ⟨(Fr.mo (Fr.f 23 Fr.rf) (sbl rfl) (sbl rfl) (sbl rfl)), hB, trivial⟩, by rw [ht]; exact hP, hD⟩, hS.F ht⟩) hS.2.2 dX11_feast_16
  ·
    have h_2 : ¬ (0 ≤ v0.toInt ∧ v0.toInt < (400 : Int) ∧ 0 ≤ v1.toInt ∧ v1.toInt ≤ 300) := h_2
    generalize H1 = H at hP hS ⊢
    have hP : va_P D vwCl (wX cI (D.1 99) zz g ad cn In Fn) H := va_P_eq xsr_10 hP
    have hD : va_D A (wX cI (D.1 99) zz g ad cn In Fn) := va_D_eq xsr_10 hD
    exact W.zret (v := 0) hx hb hr rfl (fun t ht hW => ⟨⟨0, (cn, In, Fn), rfl, ⟨(Fr.mo Fr.rf (sbl rfl) (sbl rfl) (sbl rfl)), hB, trivial⟩, by rw [ht]; exact hP, hD⟩, hS.F ht⟩) hS.2.2 dX11_feast_16
set_option maxRecDepth 100000 in
set_option maxHeartbeats 4000000 in
theorem q_Xuse (l : Launch) (D : va_G) (cI cB cZ : ClassId) (zz qq vv : Nat) (bt : Nat → Int32) (g : Nat → Nat) (ad : Nat → Nat → Nat) (cn : Nat → Nat) (In : Nat → Int32) (Fn : Nat → Nat → Int32) (v0 v1 : Int32) (sz : Nat) (hB : CBX cn) : Met l yX11_use (CWS yX11_use cX11_use 3 (some .boolean)) (RM 1 0 0) (PBx [.ref (g 0), .int v0, .int v1] D cI cB cZ zz qq vv bt (wX cI (D.1 99) zz g ad cn In Fn) sz) (va_Qi (fun (r : Int32) (u : (Nat → Nat) × (Nat → Int32) × (Nat → Nat → Int32)) => (fun r c2 I2 F2 => Fr [] [] [24] cn In Fn c2 I2 F2 ∧ CBX c2 ∧ (True)) r u.1 u.2.1 u.2.2) (fun (u : (Nat → Nat) × (Nat → Int32) × (Nat → Nat → Int32)) (t : State) => va_P D vwCl (wX cI (D.1 99) zz g ad u.1 u.2.1 u.2.2) t.heap ∧ va_D (va_A (wX cI (D.1 99) zz g ad cn In Fn) sz) (wX cI (D.1 99) zz g ad u.1 u.2.1 u.2.2)) (va_A (wX cI (D.1 99) zz g ad cn In Fn) sz)) 0 0 (va_A (wX cI (D.1 99) zz g ad cn In Fn) sz) := by
  refine en_x (fun A => (va_Qi (fun (r : Int32) (u : (Nat → Nat) × (Nat → Int32) × (Nat → Nat → Int32)) => (fun (r : Int32) (c2 : Nat → Nat) (I2 : Nat → Int32) (F2 : Nat → Nat → Int32) => Fr [] [] [24] cn In Fn c2 I2 F2 ∧ CBX c2 ∧ (True)) r u.1 u.2.1 u.2.2) (fun (u : (Nat → Nat) × (Nat → Int32) × (Nat → Nat → Int32)) (t : State) => va_P D vwCl (wX cI (D.1 99) zz g ad u.1 u.2.1 u.2.2) t.heap ∧ va_D A (wX cI (D.1 99) zz g ad u.1 u.2.1 u.2.2)) A)) rfl rfl pn_RX11 (Nat.le_of_ble_eq_true rfl) (fun p e s m below meth c A hx hb hml hown S hr hlocks hnm hA hP hK hD hXS hS ls hl => ?_)
  have hl : lv_has ls 3 [(0, .ref (g 0)), (1, .int v0), (2, .int v1)] := hl
  have hb_cn : Hid (CBX cn) := hB
  replace hB : CBXh cn := hB
  refine lv_aload_n hx hb dX11_use_0 rfl (lvA0 hl) ?_
  refine gf_RX11_47 S hK hP 0 xo_0 (v := .ref (g 8)) rfl dX11_use_1 ?_
  refine gf_RX11_426 S hK hP 6 xo_6 (v := .ref (g 24)) rfl dX11_use_4 ?_
  refine lv_iload_n hx hb dX11_use_7 rfl (lvA1 hl) ?_
  refine lv_iload_n hx hb dX11_use_8 rfl (lvA2 hl) ?_
  refine lv_iconst (v := 0) hx hb dX11_use_9 kic_0 ?_
  refine lv_iconst (v := 3) hx hb dX11_use_10 kic_3 ?_
  have hFc := va_free (wc := [((g 24), .inl (cI, 10, .inl (Fn 24)))]) hD hS hA [11] (one_im xo_11)
  refine va_calli (runS_w (As := [.ref (g 24), .int v0, .int v1, .int 0, .int 3]) (rest := []) S (q_l_tell l D cI cB cZ (g 24) 10 (Fn 24) v0 v1 0 3 s.heap.size (by (first | omega | (have zz0 := Hid.u hb_cn; omega)))) kS_RX11_177 hK hP hD [11] (one_is xo_11) (one_im xo_11) rfl ⟨Nat.le_of_ble_eq_true rfl, Nat.le_of_ble_eq_true rfl⟩ ⟨Nat.le_of_ble_eq_true rfl, Nat.le_of_ble_eq_true rfl⟩ rfl hl.1 rfl (Nat.le_of_ble_eq_true rfl) dX11_use_11) hS (fun q _ h => hFc q h) hFc (fun r_1 u_3 t H1 locs ht hvm h_2 hB1 hz1 hk1 hS => ?_)
  obtain ⟨hP1, hD1⟩ := hB1
  rw [ht] at hP1
  obtain ⟨hP, hD⟩ := wset1 hP hD xo_11 hk1 hP1
  rcases h_2 with ⟨rfl, h_2, rfl⟩ | ⟨rfl, h_2, rfl⟩
  ·
    have h_2 : 0 ≤ v0.toInt ∧ v0.toInt < (10 : Int) ∧ 0 ≤ v1.toInt ∧ v1.toInt ≤ 3 := h_2
    generalize H1 = H at hP hS ⊢
    have hP : va_P D vwCl (wX cI (D.1 99) zz g ad cn In (va_up Fn 24 (upd (Fn 24) v0.toNatClampNeg v1))) H := va_P_eq xsa_11 hP
    have hD : va_D A (wX cI (D.1 99) zz g ad cn In (va_up Fn 24 (upd (Fn 24) v0.toNatClampNeg v1))) := va_D_eq xsa_11 hD
    exact W.zret (v := 1) hx hb hr rfl (fun t ht hW => ⟨⟨1, (cn, In, (va_up Fn 24 (upd (Fn 24) v0.toNatClampNeg v1))), rfl, ⟨(Fr.mo (Fr.f 24 Fr.rf) (sbl rfl) (sbl rfl) (sbl rfl)), hB, trivial⟩, by rw [ht]; exact hP, hD⟩, hS.F ht⟩) hS.2.2 dX11_use_14
  ·
    have h_2 : ¬ (0 ≤ v0.toInt ∧ v0.toInt < (10 : Int) ∧ 0 ≤ v1.toInt ∧ v1.toInt ≤ 3) := h_2
    generalize H1 = H at hP hS ⊢
    have hP : va_P D vwCl (wX cI (D.1 99) zz g ad cn In Fn) H := va_P_eq xsr_11 hP
    have hD : va_D A (wX cI (D.1 99) zz g ad cn In Fn) := va_D_eq xsr_11 hD
    exact W.zret (v := 0) hx hb hr rfl (fun t ht hW => ⟨⟨0, (cn, In, Fn), rfl, ⟨(Fr.mo Fr.rf (sbl rfl) (sbl rfl) (sbl rfl)), hB, trivial⟩, by rw [ht]; exact hP, hD⟩, hS.F ht⟩) hS.2.2 dX11_use_14
set_option maxRecDepth 100000 in
set_option maxHeartbeats 4000000 in
theorem q_Xmost (l : Launch) (D : va_G) (cI cB cZ : ClassId) (zz qq vv : Nat) (bt : Nat → Int32) (g : Nat → Nat) (ad : Nat → Nat → Nat) (cn : Nat → Nat) (In : Nat → Int32) (Fn : Nat → Nat → Int32) (v0 v1 : Int32) (sz : Nat) (hB : CBX cn) : Met l yX11_most (CWS yX11_most cX11_most 3 (some .boolean)) (RM 1 0 0) (PBx [.ref (g 0), .int v0, .int v1] D cI cB cZ zz qq vv bt (wX cI (D.1 99) zz g ad cn In Fn) sz) (va_Qi (fun (r : Int32) (u : (Nat → Nat) × (Nat → Int32) × (Nat → Nat → Int32)) => (fun r c2 I2 F2 => Fr [] [] [25] cn In Fn c2 I2 F2 ∧ CBX c2 ∧ (True)) r u.1 u.2.1 u.2.2) (fun (u : (Nat → Nat) × (Nat → Int32) × (Nat → Nat → Int32)) (t : State) => va_P D vwCl (wX cI (D.1 99) zz g ad u.1 u.2.1 u.2.2) t.heap ∧ va_D (va_A (wX cI (D.1 99) zz g ad cn In Fn) sz) (wX cI (D.1 99) zz g ad u.1 u.2.1 u.2.2)) (va_A (wX cI (D.1 99) zz g ad cn In Fn) sz)) 0 0 (va_A (wX cI (D.1 99) zz g ad cn In Fn) sz) := by
  refine en_x (fun A => (va_Qi (fun (r : Int32) (u : (Nat → Nat) × (Nat → Int32) × (Nat → Nat → Int32)) => (fun (r : Int32) (c2 : Nat → Nat) (I2 : Nat → Int32) (F2 : Nat → Nat → Int32) => Fr [] [] [25] cn In Fn c2 I2 F2 ∧ CBX c2 ∧ (True)) r u.1 u.2.1 u.2.2) (fun (u : (Nat → Nat) × (Nat → Int32) × (Nat → Nat → Int32)) (t : State) => va_P D vwCl (wX cI (D.1 99) zz g ad u.1 u.2.1 u.2.2) t.heap ∧ va_D A (wX cI (D.1 99) zz g ad u.1 u.2.1 u.2.2)) A)) rfl rfl pn_RX11 (Nat.le_of_ble_eq_true rfl) (fun p e s m below meth c A hx hb hml hown S hr hlocks hnm hA hP hK hD hXS hS ls hl => ?_)
  have hl : lv_has ls 3 [(0, .ref (g 0)), (1, .int v0), (2, .int v1)] := hl
  have hb_cn : Hid (CBX cn) := hB
  replace hB : CBXh cn := hB
  refine lv_aload_n hx hb dX11_most_0 rfl (lvA0 hl) ?_
  refine gf_RX11_47 S hK hP 0 xo_0 (v := .ref (g 8)) rfl dX11_most_1 ?_
  refine gf_RX11_435 S hK hP 6 xo_6 (v := .ref (g 25)) rfl dX11_most_4 ?_
  refine lv_iload_n hx hb dX11_most_7 rfl (lvA1 hl) ?_
  refine lv_iload_n hx hb dX11_most_8 rfl (lvA2 hl) ?_
  refine lv_iconst (v := 0) hx hb dX11_most_9 kic_0 ?_
  refine lv_ldc (v := 100000) hx hb hown (S.2.2.2.2 _ (wk4_3 2 rfl rfl)) dX11_most_10 ?_
  have hFc := va_free (wc := [((g 25), .inl (cI, 10, .inl (Fn 25)))]) hD hS hA [12] (one_im xo_12)
  refine va_calli (runS_w (As := [.ref (g 25), .int v0, .int v1, .int 0, .int 100000]) (rest := []) S (q_l_tell l D cI cB cZ (g 25) 10 (Fn 25) v0 v1 0 100000 s.heap.size (by (first | omega | (have zz0 := Hid.u hb_cn; omega)))) kS_RX11_177 hK hP hD [12] (one_is xo_12) (one_im xo_12) rfl ⟨Nat.le_of_ble_eq_true rfl, Nat.le_of_ble_eq_true rfl⟩ ⟨Nat.le_of_ble_eq_true rfl, Nat.le_of_ble_eq_true rfl⟩ rfl hl.1 rfl (Nat.le_of_ble_eq_true rfl) dX11_most_12) hS (fun q _ h => hFc q h) hFc (fun r_1 u_3 t H1 locs ht hvm h_2 hB1 hz1 hk1 hS => ?_)
  obtain ⟨hP1, hD1⟩ := hB1
  rw [ht] at hP1
  obtain ⟨hP, hD⟩ := wset1 hP hD xo_12 hk1 hP1
  rcases h_2 with ⟨rfl, h_2, rfl⟩ | ⟨rfl, h_2, rfl⟩
  ·
    have h_2 : 0 ≤ v0.toInt ∧ v0.toInt < (10 : Int) ∧ 0 ≤ v1.toInt ∧ v1.toInt ≤ 100000 := h_2
    generalize H1 = H at hP hS ⊢
    have hP : va_P D vwCl (wX cI (D.1 99) zz g ad cn In (va_up Fn 25 (upd (Fn 25) v0.toNatClampNeg v1))) H := va_P_eq xsa_12 hP
    have hD : va_D A (wX cI (D.1 99) zz g ad cn In (va_up Fn 25 (upd (Fn 25) v0.toNatClampNeg v1))) := va_D_eq xsa_12 hD
    exact W.zret (v := 1) hx hb hr rfl (fun t ht hW => ⟨⟨1, (cn, In, (va_up Fn 25 (upd (Fn 25) v0.toNatClampNeg v1))), rfl, ⟨(Fr.mo (Fr.f 25 Fr.rf) (sbl rfl) (sbl rfl) (sbl rfl)), hB, trivial⟩, by rw [ht]; exact hP, hD⟩, hS.F ht⟩) hS.2.2 dX11_most_15
  ·
    have h_2 : ¬ (0 ≤ v0.toInt ∧ v0.toInt < (10 : Int) ∧ 0 ≤ v1.toInt ∧ v1.toInt ≤ 100000) := h_2
    generalize H1 = H at hP hS ⊢
    have hP : va_P D vwCl (wX cI (D.1 99) zz g ad cn In Fn) H := va_P_eq xsr_12 hP
    have hD : va_D A (wX cI (D.1 99) zz g ad cn In Fn) := va_D_eq xsr_12 hD
    exact W.zret (v := 0) hx hb hr rfl (fun t ht hW => ⟨⟨0, (cn, In, Fn), rfl, ⟨(Fr.mo Fr.rf (sbl rfl) (sbl rfl) (sbl rfl)), hB, trivial⟩, by rw [ht]; exact hP, hD⟩, hS.F ht⟩) hS.2.2 dX11_most_15
set_option maxRecDepth 100000 in
set_option maxHeartbeats 4000000 in
theorem q_Xrate (l : Launch) (D : va_G) (cI cB cZ : ClassId) (zz qq vv : Nat) (bt : Nat → Int32) (g : Nat → Nat) (ad : Nat → Nat → Nat) (cn : Nat → Nat) (In : Nat → Int32) (Fn : Nat → Nat → Int32) (v0 v1 v2 : Int32) (sz : Nat) (hB : CBX cn) : Met l yX11_rate (CWS yX11_rate cX11_rate 5 (some .boolean)) (RM 1 0 0) (PBx [.ref (g 0), .int v0, .int v1, .int v2] D cI cB cZ zz qq vv bt (wX cI (D.1 99) zz g ad cn In Fn) sz) (va_Qi (fun (r : Int32) (u : (Nat → Nat) × (Nat → Int32) × (Nat → Nat → Int32)) => (fun r c2 I2 F2 => Fr [] [] [26] cn In Fn c2 I2 F2 ∧ CBX c2 ∧ (True)) r u.1 u.2.1 u.2.2) (fun (u : (Nat → Nat) × (Nat → Int32) × (Nat → Nat → Int32)) (t : State) => va_P D vwCl (wX cI (D.1 99) zz g ad u.1 u.2.1 u.2.2) t.heap ∧ va_D (va_A (wX cI (D.1 99) zz g ad cn In Fn) sz) (wX cI (D.1 99) zz g ad u.1 u.2.1 u.2.2)) (va_A (wX cI (D.1 99) zz g ad cn In Fn) sz)) 0 0 (va_A (wX cI (D.1 99) zz g ad cn In Fn) sz) := by
  refine en_x (fun A => (va_Qi (fun (r : Int32) (u : (Nat → Nat) × (Nat → Int32) × (Nat → Nat → Int32)) => (fun (r : Int32) (c2 : Nat → Nat) (I2 : Nat → Int32) (F2 : Nat → Nat → Int32) => Fr [] [] [26] cn In Fn c2 I2 F2 ∧ CBX c2 ∧ (True)) r u.1 u.2.1 u.2.2) (fun (u : (Nat → Nat) × (Nat → Int32) × (Nat → Nat → Int32)) (t : State) => va_P D vwCl (wX cI (D.1 99) zz g ad u.1 u.2.1 u.2.2) t.heap ∧ va_D A (wX cI (D.1 99) zz g ad u.1 u.2.1 u.2.2)) A)) rfl rfl pn_RX11 (Nat.le_of_ble_eq_true rfl) (fun p e s m below meth c A hx hb hml hown S hr hlocks hnm hA hP hK hD hXS hS ls hl => ?_)
  have hl : lv_has ls 5 [(0, .ref (g 0)), (1, .int v0), (2, .int v1), (3, .int v2)] := hl
  have hb_cn : Hid (CBX cn) := hB
  replace hB : CBXh cn := hB
  refine lv_iload_n hx hb dX11_rate_0 rfl (lvA1 hl) ?_
  refine lv_iconst (v := 0) hx hb dX11_rate_1 kic_0 ?_
  refine lv_iconst (v := 3) hx hb dX11_rate_2 kic_3 ?_
  refine vp_callSi (runS_r (As := [.int v0, .int 0, .int 3]) (rest := []) S (q_l_within l D cI cB cZ v0 0 3) kS_RX11_80 hK hP [] rfl ⟨Nat.le_of_ble_eq_true rfl, Nat.le_of_ble_eq_true rfl⟩ ⟨Nat.le_of_ble_eq_true rfl, Nat.le_of_ble_eq_true rfl⟩ rfl hl.1 rfl (Nat.le_of_ble_eq_true rfl) dX11_rate_3) (fun r_1 h_2 => ?_)
  rcases h_2 with ⟨rfl, h_2⟩ | ⟨rfl, h_2⟩
  ·
    have h_2 : 0 ≤ v0.toInt ∧ v0.toInt ≤ 3 := h_2
    refine lv_if_eq (tgt := 23) hx hb dX11_rate_6 rfl (fun h => absurd h cq_eq_1_0) (fun _ => ?_)
    refine lv_iload_n hx hb dX11_rate_9 rfl (lvA2 hl) ?_
    refine lv_iconst (v := 0) hx hb dX11_rate_10 kic_0 ?_
    refine lv_bipush (v := 57) hx hb dX11_rate_11 kbc_57 ?_
    refine vp_callSi (runS_r (As := [.int v1, .int 0, .int 57]) (rest := []) S (q_l_within l D cI cB cZ v1 0 57) kS_RX11_80 hK hP [] rfl ⟨Nat.le_of_ble_eq_true rfl, Nat.le_of_ble_eq_true rfl⟩ ⟨Nat.le_of_ble_eq_true rfl, Nat.le_of_ble_eq_true rfl⟩ rfl hl.1 rfl (Nat.le_of_ble_eq_true rfl) dX11_rate_13) (fun r_3 h_4 => ?_)
    rcases h_4 with ⟨rfl, h_4⟩ | ⟨rfl, h_4⟩
    ·
      have h_4 : 0 ≤ v1.toInt ∧ v1.toInt ≤ 57 := h_4
      refine lv_if_eq (tgt := 23) hx hb dX11_rate_16 rfl (fun h => absurd h cq_eq_1_0) (fun _ => ?_)
      refine lv_iconst (v := 1) hx hb dX11_rate_19 kic_1 ?_
      refine lv_goto (tgt := 24) hx hb dX11_rate_20 rfl ?_
      refine lv_istore (lv' := [(4, .int 1), (0, .ref (g 0)), (1, .int v0), (2, .int v1), (3, .int v2)]) hx hb dX11_rate_24 hl (ltb rfl) rfl (fun ls hl => ?_)
      refine lv_iload hx hb dX11_rate_26 (lvA0 hl) ?_
      refine lv_if_eq (tgt := 59) hx hb dX11_rate_28 rfl (fun h => absurd h cq_eq_1_0) (fun _ => ?_)
      obtain ⟨d0, hd0, rfl⟩ := nI_of (x := v0) (fun q => by have := Int32.lt_iff_toInt_lt.mp q; have e : (0 : Int32).toInt = 0 := rfl; (first | omega | (have zz0 := Hid.u hb_cn; omega)))
      have td0 : (nI d0).toInt = (d0 : Int) := nI_toInt hd0
      have zd0 : (nI d0).toInt.toNat = d0 := by (first | omega | (have zz0 := Hid.u hb_cn; omega))
      obtain ⟨d1, hd1, rfl⟩ := nI_of (x := v1) (fun q => by have := Int32.lt_iff_toInt_lt.mp q; have e : (0 : Int32).toInt = 0 := rfl; (first | omega | (have zz0 := Hid.u hb_cn; omega)))
      have td1 : (nI d1).toInt = (d1 : Int) := nI_toInt hd1
      have zd1 : (nI d1).toInt.toNat = d1 := by (first | omega | (have zz0 := Hid.u hb_cn; omega))
      refine lv_aload_n hx hb dX11_rate_31 rfl (lvA1 hl) ?_
      refine gf_RX11_47 S hK hP 0 xo_0 (v := .ref (g 8)) rfl dX11_rate_32 ?_
      refine gf_RX11_429 S hK hP 6 xo_6 (v := .ref (g 26)) rfl dX11_rate_35 ?_
      refine lv_iload_n hx hb dX11_rate_38 rfl (lvA2 hl) ?_
      refine lv_bipush (v := 58) hx hb dX11_rate_39 kbc_58 ?_
      refine lv_imul hx hb dX11_rate_41 ?_
      refine lv_topi (fun y_5 ey_5 => ?_)
      obtain rfl : y_5 = (nI (d0 * 58)) := ey_5.trans (pk_mul d0 58)
      refine lv_iload_n hx hb dX11_rate_42 rfl (lvA3 hl) ?_
      refine lv_iadd hx hb dX11_rate_43 ?_
      refine lv_topi (fun y_6 ey_6 => ?_)
      obtain rfl : y_6 = (nI ((d0 * 58) + d1)) := ey_6.trans (nI_add (d0 * 58) d1)
      refine lv_iload_n hx hb dX11_rate_44 rfl (lvA4 hl) ?_
      refine lv_iconst (v := 0) hx hb dX11_rate_45 kic_0 ?_
      refine lv_sipush (v := 1000) hx hb dX11_rate_46 (by decide) ?_
      have hFc := va_free (wc := [((g 26), .inl (cI, 232, .inl (Fn 26)))]) hD hS hA [13] (one_im xo_13)
      refine va_calli (runS_w (As := [.ref (g 26), .int (nI ((d0 * 58) + d1)), .int v2, .int 0, .int 1000]) (rest := []) S (q_l_tell l D cI cB cZ (g 26) 232 (Fn 26) (nI ((d0 * 58) + d1)) v2 0 1000 s.heap.size (by (first | omega | (have zz0 := Hid.u hb_cn; omega)))) kS_RX11_177 hK hP hD [13] (one_is xo_13) (one_im xo_13) rfl ⟨Nat.le_of_ble_eq_true rfl, Nat.le_of_ble_eq_true rfl⟩ ⟨Nat.le_of_ble_eq_true rfl, Nat.le_of_ble_eq_true rfl⟩ rfl hl.1 rfl (Nat.le_of_ble_eq_true rfl) dX11_rate_49) hS (fun q _ h => hFc q h) hFc (fun r_7 u_9 t H1 locs ht hvm h_8 hB1 hz1 hk1 hS => ?_)
      obtain ⟨hP1, hD1⟩ := hB1
      rw [ht] at hP1
      obtain ⟨hP, hD⟩ := wset1 hP hD xo_13 hk1 hP1
      rcases h_8 with ⟨rfl, h_8, rfl⟩ | ⟨rfl, h_8, rfl⟩
      ·
        have h_8 : 0 ≤ (nI ((d0 * 58) + d1)).toInt ∧ (nI ((d0 * 58) + d1)).toInt < (232 : Int) ∧ 0 ≤ v2.toInt ∧ v2.toInt ≤ 1000 := h_8
        generalize H1 = H at hP hS ⊢
        have hP : va_P D vwCl (wX cI (D.1 99) zz g ad cn In (va_up Fn 26 (upd (Fn 26) (nI ((d0 * 58) + d1)).toNatClampNeg v2))) H := va_P_eq xsa_13 hP
        have hD : va_D A (wX cI (D.1 99) zz g ad cn In (va_up Fn 26 (upd (Fn 26) (nI ((d0 * 58) + d1)).toNatClampNeg v2))) := va_D_eq xsa_13 hD
        refine lv_if_eq (tgt := 59) hx hb dX11_rate_52 rfl (fun h => absurd h cq_eq_1_0) (fun _ => ?_)
        refine lv_iconst (v := 1) hx hb dX11_rate_55 kic_1 ?_
        refine lv_goto (tgt := 60) hx hb dX11_rate_56 rfl ?_
        exact W.zret (v := 1) hx hb hr rfl (fun t ht hW => ⟨⟨1, (cn, In, (va_up Fn 26 (upd (Fn 26) (nI ((d0 * 58) + d1)).toNatClampNeg v2))), rfl, ⟨(Fr.mo (Fr.f 26 Fr.rf) (sbl rfl) (sbl rfl) (sbl rfl)), hB, trivial⟩, by rw [ht]; exact hP, hD⟩, hS.F ht⟩) hS.2.2 dX11_rate_60
      ·
        have h_8 : ¬ (0 ≤ (nI ((d0 * 58) + d1)).toInt ∧ (nI ((d0 * 58) + d1)).toInt < (232 : Int) ∧ 0 ≤ v2.toInt ∧ v2.toInt ≤ 1000) := h_8
        generalize H1 = H at hP hS ⊢
        have hP : va_P D vwCl (wX cI (D.1 99) zz g ad cn In Fn) H := va_P_eq xsr_13 hP
        have hD : va_D A (wX cI (D.1 99) zz g ad cn In Fn) := va_D_eq xsr_13 hD
        refine lv_if_eq (tgt := 59) hx hb dX11_rate_52 rfl (fun _ => ?_) (fun h => absurd h cq_eq_0_0)
        refine lv_iconst (v := 0) hx hb dX11_rate_59 kic_0 ?_
        exact W.zret (v := 0) hx hb hr rfl (fun t ht hW => ⟨⟨0, (cn, In, Fn), rfl, ⟨(Fr.mo Fr.rf (sbl rfl) (sbl rfl) (sbl rfl)), hB, trivial⟩, by rw [ht]; exact hP, hD⟩, hS.F ht⟩) hS.2.2 dX11_rate_60
    ·
      have h_4 : ¬ (0 ≤ v1.toInt ∧ v1.toInt ≤ 57) := h_4
      refine lv_if_eq (tgt := 23) hx hb dX11_rate_16 rfl (fun _ => ?_) (fun h => absurd h cq_eq_0_0)
      refine lv_iconst (v := 0) hx hb dX11_rate_23 kic_0 ?_
      refine lv_istore (lv' := [(4, .int 0), (0, .ref (g 0)), (1, .int v0), (2, .int v1), (3, .int v2)]) hx hb dX11_rate_24 hl (ltb rfl) rfl (fun ls hl => ?_)
      refine lv_iload hx hb dX11_rate_26 (lvA0 hl) ?_
      refine lv_if_eq (tgt := 59) hx hb dX11_rate_28 rfl (fun _ => ?_) (fun h => absurd h cq_eq_0_0)
      refine lv_iconst (v := 0) hx hb dX11_rate_59 kic_0 ?_
      exact W.zret (v := 0) hx hb hr rfl (fun t ht hW => ⟨⟨0, (cn, In, Fn), rfl, ⟨(Fr.mo Fr.rf (sbl rfl) (sbl rfl) (sbl rfl)), hB, trivial⟩, by rw [ht]; exact hP, hD⟩, hS.F ht⟩) hS.2.2 dX11_rate_60
  ·
    have h_2 : ¬ (0 ≤ v0.toInt ∧ v0.toInt ≤ 3) := h_2
    refine lv_if_eq (tgt := 23) hx hb dX11_rate_6 rfl (fun _ => ?_) (fun h => absurd h cq_eq_0_0)
    refine lv_iconst (v := 0) hx hb dX11_rate_23 kic_0 ?_
    refine lv_istore (lv' := [(4, .int 0), (0, .ref (g 0)), (1, .int v0), (2, .int v1), (3, .int v2)]) hx hb dX11_rate_24 hl (ltb rfl) rfl (fun ls hl => ?_)
    refine lv_iload hx hb dX11_rate_26 (lvA0 hl) ?_
    refine lv_if_eq (tgt := 59) hx hb dX11_rate_28 rfl (fun _ => ?_) (fun h => absurd h cq_eq_0_0)
    refine lv_iconst (v := 0) hx hb dX11_rate_59 kic_0 ?_
    exact W.zret (v := 0) hx hb hr rfl (fun t ht hW => ⟨⟨0, (cn, In, Fn), rfl, ⟨(Fr.mo Fr.rf (sbl rfl) (sbl rfl) (sbl rfl)), hB, trivial⟩, by rw [ht]; exact hP, hD⟩, hS.F ht⟩) hS.2.2 dX11_rate_60
set_option maxRecDepth 100000 in
set_option maxHeartbeats 4000000 in
theorem q_Xlorry (l : Launch) (D : va_G) (cI cB cZ : ClassId) (zz qq vv : Nat) (bt : Nat → Int32) (g : Nat → Nat) (ad : Nat → Nat → Nat) (cn : Nat → Nat) (In : Nat → Int32) (Fn : Nat → Nat → Int32) (v0 : Int32) (sz : Nat) (hB : CBX cn) : Met l yX11_lorry (CWS yX11_lorry cX11_lorry 2 (some .int)) (RM 1 0 0) (PBx [.ref (g 0), .int v0] D cI cB cZ zz qq vv bt (wX cI (D.1 99) zz g ad cn In Fn) sz) (va_Qi (fun (r : Int32) (u : (Nat → Nat) × (Nat → Int32) × (Nat → Nat → Int32)) => (fun r c2 I2 F2 => Fr [1] [] [27] cn In Fn c2 I2 F2 ∧ CBX c2 ∧ (True)) r u.1 u.2.1 u.2.2) (fun (u : (Nat → Nat) × (Nat → Int32) × (Nat → Nat → Int32)) (t : State) => va_P D vwCl (wX cI (D.1 99) zz g ad u.1 u.2.1 u.2.2) t.heap ∧ va_D (va_A (wX cI (D.1 99) zz g ad cn In Fn) sz) (wX cI (D.1 99) zz g ad u.1 u.2.1 u.2.2)) (va_A (wX cI (D.1 99) zz g ad cn In Fn) sz)) 0 0 (va_A (wX cI (D.1 99) zz g ad cn In Fn) sz) := by
  refine en_x (fun A => (va_Qi (fun (r : Int32) (u : (Nat → Nat) × (Nat → Int32) × (Nat → Nat → Int32)) => (fun (r : Int32) (c2 : Nat → Nat) (I2 : Nat → Int32) (F2 : Nat → Nat → Int32) => Fr [1] [] [27] cn In Fn c2 I2 F2 ∧ CBX c2 ∧ (True)) r u.1 u.2.1 u.2.2) (fun (u : (Nat → Nat) × (Nat → Int32) × (Nat → Nat → Int32)) (t : State) => va_P D vwCl (wX cI (D.1 99) zz g ad u.1 u.2.1 u.2.2) t.heap ∧ va_D A (wX cI (D.1 99) zz g ad u.1 u.2.1 u.2.2)) A)) rfl rfl pn_RX11 (Nat.le_of_ble_eq_true rfl) (fun p e s m below meth c A hx hb hml hown S hr hlocks hnm hA hP hK hD hXS hS ls hl => ?_)
  have hl : lv_has ls 2 [(0, .ref (g 0)), (1, .int v0)] := hl
  have hb_cn : Hid (CBX cn) := hB
  replace hB : CBXh cn := hB
  refine lv_iload_n hx hb dX11_lorry_0 rfl (lvA1 hl) ?_
  refine lv_bipush (v := 20) hx hb dX11_lorry_1 kbc_20 ?_
  refine lv_sipush (v := 2000) hx hb dX11_lorry_3 (by decide) ?_
  refine vp_callSi (runS_r (As := [.int v0, .int 20, .int 2000]) (rest := []) S (q_l_within l D cI cB cZ v0 20 2000) kS_RX11_80 hK hP [] rfl ⟨Nat.le_of_ble_eq_true rfl, Nat.le_of_ble_eq_true rfl⟩ ⟨Nat.le_of_ble_eq_true rfl, Nat.le_of_ble_eq_true rfl⟩ rfl hl.1 rfl (Nat.le_of_ble_eq_true rfl) dX11_lorry_6) (fun r_1 h_2 => ?_)
  rcases h_2 with ⟨rfl, h_2⟩ | ⟨rfl, h_2⟩
  ·
    have h_2 : 20 ≤ v0.toInt ∧ v0.toInt ≤ 2000 := h_2
    refine lv_if_eq (tgt := 20) hx hb dX11_lorry_9 rfl (fun h => absurd h cq_eq_1_0) (fun _ => ?_)
    refine lv_aload_n hx hb dX11_lorry_12 rfl (lvA0 hl) ?_
    refine gf_RX11_311 S hK hP 0 xo_0 (v := .int (nI (cn 1))) rfl dX11_lorry_13 ?_
    refine lv_iconst (v := 3) hx hb dX11_lorry_16 kic_3 ?_
    have : (nI (cn 1)).toInt = (((cn 1) : Nat) : Int) := nI_toInt (by (first | omega | (have zz0 := Hid.u hb_cn; omega)))
    refine lv_icmp_lt (tgt := 22) hx hb dX11_lorry_17 rfl (fun c_3 => ?_) (fun c_3 => ?_)
    ·
      have tc_3 : ((nI (cn 1)).toInt : Int) < 3 := Int32.lt_iff_toInt_lt.mp c_3
      refine lv_aload_n hx hb dX11_lorry_22 rfl (lvA0 hl) ?_
      refine gf_RX11_47 S hK hP 0 xo_0 (v := .ref (g 8)) rfl dX11_lorry_23 ?_
      refine gf_RX11_314 S hK hP 6 xo_6 (v := .ref (g 27)) rfl dX11_lorry_26 ?_
      refine lv_aload_n hx hb dX11_lorry_29 rfl (lvA0 hl) ?_
      refine gf_RX11_311 S hK hP 0 xo_0 (v := .int (nI (cn 1))) rfl dX11_lorry_30 ?_
      refine lv_iload_n hx hb dX11_lorry_33 rfl (lvA1 hl) ?_
      have hFc := va_free (wc := [((g 27), .inl (cI, 3, .inl (Fn 27)))]) hD hS hA [14] (one_im xo_14)
      refine va_callv (runS_w (As := [.ref (g 27), .int (nI (cn 1)), .int v0]) (rest := []) S (q_l_put l D cI cB cZ (g 27) 3 (Fn 27) (nI (cn 1)) v0 s.heap.size (by (first | omega | (have zz0 := Hid.u hb_cn; omega)))) kS_RX11_184 hK hP hD [14] (one_is xo_14) (one_im xo_14) rfl ⟨Nat.le_of_ble_eq_true rfl, Nat.le_of_ble_eq_true rfl⟩ ⟨Nat.le_of_ble_eq_true rfl, Nat.le_of_ble_eq_true rfl⟩ rfl hl.1 rfl (Nat.le_of_ble_eq_true rfl) dX11_lorry_34) hS (fun q _ h => hFc q h) hFc (fun u_6 t H1 locs ht hvm h_5 hB1 hz1 hk1 hS => ?_)
      obtain ⟨hP1, hD1⟩ := hB1
      rw [ht] at hP1
      obtain ⟨hP, hD⟩ := wset1 hP hD xo_14 hk1 hP1
      obtain rfl : u_6 = (putM (Fn 27) 3 (nI (cn 1)) v0) := h_5
      generalize H1 = H at hP hS ⊢
      have hP : va_P D vwCl (wX cI (D.1 99) zz g ad cn In (va_up Fn 27 (putM (Fn 27) 3 (nI (cn 1)) v0))) H := va_P_eq xsa_14 hP
      have hD : va_D A (wX cI (D.1 99) zz g ad cn In (va_up Fn 27 (putM (Fn 27) 3 (nI (cn 1)) v0))) := va_D_eq xsa_14 hD
      refine lv_aload_n hx hb dX11_lorry_37 rfl (lvA0 hl) ?_
      refine lv_dup hx hb dX11_lorry_38 rfl ?_
      refine gf_RX11_311 S hK hP 0 xo_0 (v := .int (nI (cn 1))) rfl dX11_lorry_39 ?_
      refine lv_iconst (v := 1) hx hb dX11_lorry_42 kic_1 ?_
      refine lv_iadd hx hb dX11_lorry_43 ?_
      refine lv_topi (fun y_7 ey_7 => ?_)
      obtain rfl : y_7 = (nI ((cn 1) + 1)) := ey_7.trans (nI_add (cn 1) 1)
      refine pf_RX11_311 S hK hP hD hS 0 xo_0 (v := .int (nI ((cn 1) + 1))) (Nat.le_of_ble_eq_true rfl) rfl rfl dX11_lorry_44 (fun H locs hP hD hS => ?_)
      have hP : va_P D vwCl (wX cI (D.1 99) zz g ad (va_up cn 1 ((cn 1) + 1)) In (va_up Fn 27 (putM (Fn 27) 3 (nI (cn 1)) v0))) H := va_P_eq (xsf_0_1) hP
      have hD : va_D A (wX cI (D.1 99) zz g ad (va_up cn 1 ((cn 1) + 1)) In (va_up Fn 27 (putM (Fn 27) 3 (nI (cn 1)) v0))) := va_D_eq (xsf_0_1) hD
      refine lv_aload_n hx hb dX11_lorry_47 rfl (lvA0 hl) ?_
      refine gf_RX11_311 S hK hP 0 xo_0 (v := .int (nI ((cn 1) + 1))) rfl dX11_lorry_48 ?_
      refine lv_iconst (v := 1) hx hb dX11_lorry_51 kic_1 ?_
      refine lv_isub hx hb dX11_lorry_52 ?_
      exact W.iret (v := ((nI ((cn 1) + 1)) - 1)) hx hb hr (fun t ht hW => ⟨⟨((nI ((cn 1) + 1)) - 1), ((va_up cn 1 ((cn 1) + 1)), In, (va_up Fn 27 (putM (Fn 27) 3 (nI (cn 1)) v0))), rfl, ⟨(Fr.mo (Fr.f 27 (Fr.c 1 Fr.rf)) (sbl rfl) (sbl rfl) (sbl rfl)), (CBX.u1 (v := ((cn 1) + 1)) hB (show ((cn 1) + 1) ≤ 3 by (first | omega | (have zz0 := Hid.u hb_cn; omega)))), trivial⟩, by rw [ht]; exact hP, hD⟩, hS.F ht⟩) hS.2.2 dX11_lorry_53
    ·
      have tc_3 : (3 : Int) ≤ (nI (cn 1)).toInt := Int32.le_iff_toInt_le.mp (Int32.not_lt.mp c_3)
      refine lv_iconst (v := (-1)) hx hb dX11_lorry_20 kic_m1 ?_
      exact W.iret (v := (-1)) hx hb hr (fun t ht hW => ⟨⟨(-1), (cn, In, Fn), rfl, ⟨(Fr.mo Fr.rf (sbl rfl) (sbl rfl) (sbl rfl)), hB, trivial⟩, by rw [ht]; exact hP, hD⟩, hS.F ht⟩) hS.2.2 dX11_lorry_21
  ·
    have h_2 : ¬ (20 ≤ v0.toInt ∧ v0.toInt ≤ 2000) := h_2
    refine lv_if_eq (tgt := 20) hx hb dX11_lorry_9 rfl (fun _ => ?_) (fun h => absurd h cq_eq_0_0)
    refine lv_iconst (v := (-1)) hx hb dX11_lorry_20 kic_m1 ?_
    exact W.iret (v := (-1)) hx hb hr (fun t ht hW => ⟨⟨(-1), (cn, In, Fn), rfl, ⟨(Fr.mo Fr.rf (sbl rfl) (sbl rfl) (sbl rfl)), hB, trivial⟩, by rw [ht]; exact hP, hD⟩, hS.F ht⟩) hS.2.2 dX11_lorry_21
set_option maxRecDepth 100000 in
set_option maxHeartbeats 4000000 in
theorem q_Xdrum (l : Launch) (D : va_G) (cI cB cZ : ClassId) (zz qq vv : Nat) (bt : Nat → Int32) (g : Nat → Nat) (ad : Nat → Nat → Nat) (cn : Nat → Nat) (In : Nat → Int32) (Fn : Nat → Nat → Int32)  (sz : Nat) (hB : CBX cn) : Met l yX11_drum (CWS yX11_drum cX11_drum 1 (some .int)) (RM 0 0 0) (PBx [.ref (g 0)] D cI cB cZ zz qq vv bt (wX cI (D.1 99) zz g ad cn In Fn) sz) (va_Qi (fun (r : Int32) (u : (Nat → Nat) × (Nat → Int32) × (Nat → Nat → Int32)) => (fun r c2 I2 F2 => Fr [2] [] [] cn In Fn c2 I2 F2 ∧ CBX c2 ∧ (True)) r u.1 u.2.1 u.2.2) (fun (u : (Nat → Nat) × (Nat → Int32) × (Nat → Nat → Int32)) (t : State) => va_P D vwCl (wX cI (D.1 99) zz g ad u.1 u.2.1 u.2.2) t.heap ∧ va_D (va_A (wX cI (D.1 99) zz g ad cn In Fn) sz) (wX cI (D.1 99) zz g ad u.1 u.2.1 u.2.2)) (va_A (wX cI (D.1 99) zz g ad cn In Fn) sz)) 0 0 (va_A (wX cI (D.1 99) zz g ad cn In Fn) sz) := by
  refine en_x (fun A => (va_Qi (fun (r : Int32) (u : (Nat → Nat) × (Nat → Int32) × (Nat → Nat → Int32)) => (fun (r : Int32) (c2 : Nat → Nat) (I2 : Nat → Int32) (F2 : Nat → Nat → Int32) => Fr [2] [] [] cn In Fn c2 I2 F2 ∧ CBX c2 ∧ (True)) r u.1 u.2.1 u.2.2) (fun (u : (Nat → Nat) × (Nat → Int32) × (Nat → Nat → Int32)) (t : State) => va_P D vwCl (wX cI (D.1 99) zz g ad u.1 u.2.1 u.2.2) t.heap ∧ va_D A (wX cI (D.1 99) zz g ad u.1 u.2.1 u.2.2)) A)) rfl rfl pn_RX11 (Nat.le_of_ble_eq_true rfl) (fun p e s m below meth c A hx hb hml hown S hr hlocks hnm hA hP hK hD hXS hS ls hl => ?_)
  have hl : lv_has ls 1 [(0, .ref (g 0))] := hl
  have hb_cn : Hid (CBX cn) := hB
  replace hB : CBXh cn := hB
  refine lv_aload_n hx hb dX11_drum_0 rfl (lvA0 hl) ?_
  refine gf_RX11_502 S hK hP 0 xo_0 (v := .int (nI (cn 2))) rfl dX11_drum_1 ?_
  refine lv_bipush (v := 20) hx hb dX11_drum_4 kbc_20 ?_
  have : (nI (cn 2)).toInt = (((cn 2) : Nat) : Int) := nI_toInt (by (first | omega | (have zz0 := Hid.u hb_cn; omega)))
  refine lv_icmp_lt (tgt := 11) hx hb dX11_drum_6 rfl (fun c_1 => ?_) (fun c_1 => ?_)
  ·
    have tc_1 : ((nI (cn 2)).toInt : Int) < 20 := Int32.lt_iff_toInt_lt.mp c_1
    refine lv_aload_n hx hb dX11_drum_11 rfl (lvA0 hl) ?_
    refine lv_dup hx hb dX11_drum_12 rfl ?_
    refine gf_RX11_502 S hK hP 0 xo_0 (v := .int (nI (cn 2))) rfl dX11_drum_13 ?_
    refine lv_iconst (v := 1) hx hb dX11_drum_16 kic_1 ?_
    refine lv_iadd hx hb dX11_drum_17 ?_
    refine lv_topi (fun y_2 ey_2 => ?_)
    obtain rfl : y_2 = (nI ((cn 2) + 1)) := ey_2.trans (nI_add (cn 2) 1)
    refine pf_RX11_502 S hK hP hD hS 0 xo_0 (v := .int (nI ((cn 2) + 1))) (Nat.le_of_ble_eq_true rfl) rfl rfl dX11_drum_18 (fun H locs hP hD hS => ?_)
    have hP : va_P D vwCl (wX cI (D.1 99) zz g ad (va_up cn 2 ((cn 2) + 1)) In Fn) H := va_P_eq (xsf_0_2) hP
    have hD : va_D A (wX cI (D.1 99) zz g ad (va_up cn 2 ((cn 2) + 1)) In Fn) := va_D_eq (xsf_0_2) hD
    refine lv_aload_n hx hb dX11_drum_21 rfl (lvA0 hl) ?_
    refine gf_RX11_502 S hK hP 0 xo_0 (v := .int (nI ((cn 2) + 1))) rfl dX11_drum_22 ?_
    refine lv_iconst (v := 1) hx hb dX11_drum_25 kic_1 ?_
    refine lv_isub hx hb dX11_drum_26 ?_
    exact W.iret (v := ((nI ((cn 2) + 1)) - 1)) hx hb hr (fun t ht hW => ⟨⟨((nI ((cn 2) + 1)) - 1), ((va_up cn 2 ((cn 2) + 1)), In, Fn), rfl, ⟨(Fr.mo (Fr.c 2 Fr.rf) (sbl rfl) (sbl rfl) (sbl rfl)), (CBX.u2 (v := ((cn 2) + 1)) hB (show ((cn 2) + 1) ≤ 20 by (first | omega | (have zz0 := Hid.u hb_cn; omega)))), trivial⟩, by rw [ht]; exact hP, hD⟩, hS.F ht⟩) hS.2.2 dX11_drum_27
  ·
    have tc_1 : (20 : Int) ≤ (nI (cn 2)).toInt := Int32.le_iff_toInt_le.mp (Int32.not_lt.mp c_1)
    refine lv_iconst (v := (-1)) hx hb dX11_drum_9 kic_m1 ?_
    exact W.iret (v := (-1)) hx hb hr (fun t ht hW => ⟨⟨(-1), (cn, In, Fn), rfl, ⟨(Fr.mo Fr.rf (sbl rfl) (sbl rfl) (sbl rfl)), hB, trivial⟩, by rw [ht]; exact hP, hD⟩, hS.F ht⟩) hS.2.2 dX11_drum_10
set_option maxRecDepth 100000 in
set_option maxHeartbeats 4000000 in
theorem q_XisOff (l : Launch) (D : va_G) (cI cB cZ : ClassId) (zz qq vv : Nat) (bt : Nat → Int32) (g : Nat → Nat) (ad : Nat → Nat → Nat) (cn : Nat → Nat) (In : Nat → Int32) (Fn : Nat → Nat → Int32) (v0 v1 : Int32) (hB : CBX cn) : Met l yX11_isOff (CWS yX11_isOff cX11_isOff 3 (some .boolean)) (RM 1 0 0) (PBrx [.ref (g 0), .int v0, .int v1] D cI cB cZ zz qq vv bt (wX cI (D.1 99) zz g ad cn In Fn)) (vp_Si (fun _ => True)) 0 0 (fun _ => False) := by
  refine en_rx rfl pn_RX11 (Nat.le_of_ble_eq_true rfl) (fun p e s m below meth c hx hb hml hown S hr hlocks hnm hP hK hXS hS ls hl => ?_)
  have hl : lv_has ls 3 [(0, .ref (g 0)), (1, .int v0), (2, .int v1)] := hl
  have hb_cn : Hid (CBX cn) := hB
  replace hB : CBXh cn := hB
  refine lv_aload_n hx hb dX11_isOff_0 rfl (lvA0 hl) ?_
  refine gf_RX11_47 S hK hP 0 xo_0 (v := .ref (g 8)) rfl dX11_isOff_1 ?_
  refine gf_RX11_321 S hK hP 6 xo_6 (v := .ref (g 28)) rfl dX11_isOff_4 ?_
  refine lv_iload_n hx hb dX11_isOff_7 rfl (lvA1 hl) ?_
  refine lv_sipush (v := 400) hx hb dX11_isOff_8 (by decide) ?_
  refine lv_imul hx hb dX11_isOff_11 ?_
  refine lv_iload_n hx hb dX11_isOff_12 rfl (lvA2 hl) ?_
  refine lv_iadd hx hb dX11_isOff_13 ?_
  refine vp_callSi (runS_r (As := [.ref (g 28), .int ((v0 * 400) + v1)]) (rest := []) S (q_l_at l D cI cB cZ (g 28) 1200 (Fn 28) ((v0 * 400) + v1) (by (first | omega | (have zz0 := Hid.u hb_cn; omega)))) kS_RX11_192 hK hP [15] (one_is xo_15) ⟨Nat.le_of_ble_eq_true rfl, Nat.le_of_ble_eq_true rfl⟩ ⟨Nat.le_of_ble_eq_true rfl, Nat.le_of_ble_eq_true rfl⟩ rfl hl.1 rfl (Nat.le_of_ble_eq_true rfl) dX11_isOff_14) (fun r_1 h_2 => ?_)
  subst h_2
  refine lv_if_eq (tgt := 24) hx hb dX11_isOff_17 rfl (fun c_3 => ?_) (fun c_3 => ?_)
  ·
    have tc_3 : ((atM (Fn 28) 1200 ((v0 * 400) + v1)).toInt : Int) = 0 := congrArg Int32.toInt c_3
    refine lv_iconst (v := 0) hx hb dX11_isOff_24 kic_0 ?_
    exact W.zret (v := 0) hx hb hr rfl (fun t ht hW => ⟨0, rfl, trivial, ht⟩) (fun _ h => absurd h List.not_mem_nil) dX11_isOff_25
  ·
    have tc_3 : ((atM (Fn 28) 1200 ((v0 * 400) + v1)).toInt : Int) ≠ 0 := fun q => c_3 (Int32.toInt_inj.mp q)
    refine lv_iconst (v := 1) hx hb dX11_isOff_20 kic_1 ?_
    refine lv_goto (tgt := 25) hx hb dX11_isOff_21 rfl ?_
    exact W.zret (v := 1) hx hb hr rfl (fun t ht hW => ⟨1, rfl, trivial, ht⟩) (fun _ h => absurd h List.not_mem_nil) dX11_isOff_25
set_option maxRecDepth 100000 in
set_option maxHeartbeats 4000000 in
theorem q_Xoff (l : Launch) (D : va_G) (cI cB cZ : ClassId) (zz qq vv : Nat) (bt : Nat → Int32) (g : Nat → Nat) (ad : Nat → Nat → Nat) (cn : Nat → Nat) (In : Nat → Int32) (Fn : Nat → Nat → Int32) (v0 v1 v2 : Int32) (sz : Nat) (hB : CBX cn) : Met l yX11_off (CWS yX11_off cX11_off 4 (some .boolean)) (RM 2 0 0) (PBx [.ref (g 0), .int v0, .int v1, .int v2] D cI cB cZ zz qq vv bt (wX cI (D.1 99) zz g ad cn In Fn) sz) (va_Qi (fun (r : Int32) (u : (Nat → Nat) × (Nat → Int32) × (Nat → Nat → Int32)) => (fun r c2 I2 F2 => Fr [] [] [28] cn In Fn c2 I2 F2 ∧ CBX c2 ∧ (True)) r u.1 u.2.1 u.2.2) (fun (u : (Nat → Nat) × (Nat → Int32) × (Nat → Nat → Int32)) (t : State) => va_P D vwCl (wX cI (D.1 99) zz g ad u.1 u.2.1 u.2.2) t.heap ∧ va_D (va_A (wX cI (D.1 99) zz g ad cn In Fn) sz) (wX cI (D.1 99) zz g ad u.1 u.2.1 u.2.2)) (va_A (wX cI (D.1 99) zz g ad cn In Fn) sz)) 0 0 (va_A (wX cI (D.1 99) zz g ad cn In Fn) sz) := by
  refine en_x (fun A => (va_Qi (fun (r : Int32) (u : (Nat → Nat) × (Nat → Int32) × (Nat → Nat → Int32)) => (fun (r : Int32) (c2 : Nat → Nat) (I2 : Nat → Int32) (F2 : Nat → Nat → Int32) => Fr [] [] [28] cn In Fn c2 I2 F2 ∧ CBX c2 ∧ (True)) r u.1 u.2.1 u.2.2) (fun (u : (Nat → Nat) × (Nat → Int32) × (Nat → Nat → Int32)) (t : State) => va_P D vwCl (wX cI (D.1 99) zz g ad u.1 u.2.1 u.2.2) t.heap ∧ va_D A (wX cI (D.1 99) zz g ad u.1 u.2.1 u.2.2)) A)) rfl rfl pn_RX11 (Nat.le_of_ble_eq_true rfl) (fun p e s m below meth c A hx hb hml hown S hr hlocks hnm hA hP hK hD hXS hS ls hl => ?_)
  have hl : lv_has ls 4 [(0, .ref (g 0)), (1, .int v0), (2, .int v1), (3, .int v2)] := hl
  have hb_cn : Hid (CBX cn) := hB
  replace hB : CBXh cn := hB
  refine lv_iload_n hx hb dX11_off_0 rfl (lvA1 hl) ?_
  refine lv_iconst (v := 0) hx hb dX11_off_1 kic_0 ?_
  refine lv_aload_n hx hb dX11_off_2 rfl (lvA0 hl) ?_
  refine gf_RX11_311 S hK hP 0 xo_0 (v := .int (nI (cn 1))) rfl dX11_off_3 ?_
  refine lv_iconst (v := 1) hx hb dX11_off_6 kic_1 ?_
  refine lv_isub hx hb dX11_off_7 ?_
  refine vp_callSi (runS_r (As := [.int v0, .int 0, .int ((nI (cn 1)) - 1)]) (rest := []) S (q_l_within l D cI cB cZ v0 0 ((nI (cn 1)) - 1)) kS_RX11_80 hK hP [] rfl ⟨Nat.le_of_ble_eq_true rfl, Nat.le_of_ble_eq_true rfl⟩ ⟨Nat.le_of_ble_eq_true rfl, Nat.le_of_ble_eq_true rfl⟩ rfl hl.1 rfl (Nat.le_of_ble_eq_true rfl) dX11_off_8) (fun r_1 h_2 => ?_)
  rcases h_2 with ⟨rfl, h_2⟩ | ⟨rfl, h_2⟩
  ·
    have h_2 : 0 ≤ v0.toInt ∧ v0.toInt ≤ ((nI (cn 1)) - 1).toInt := h_2
    refine lv_if_eq (tgt := 31) hx hb dX11_off_11 rfl (fun h => absurd h cq_eq_1_0) (fun _ => ?_)
    refine lv_iload_n hx hb dX11_off_14 rfl (lvA2 hl) ?_
    refine vp_callSi (runS_r (As := [.int v1]) (rest := []) S (q_l_isDay l D cI cB cZ v1) kS_RX11_99 hK hP [] rfl ⟨Nat.le_of_ble_eq_true rfl, Nat.le_of_ble_eq_true rfl⟩ ⟨Nat.le_of_ble_eq_true rfl, Nat.le_of_ble_eq_true rfl⟩ rfl hl.1 rfl (Nat.le_of_ble_eq_true rfl) dX11_off_15) (fun r_3 h_4 => ?_)
    rcases h_4 with ⟨rfl, h_4⟩ | ⟨rfl, h_4⟩
    ·
      have h_4 : 0 ≤ v1.toInt ∧ v1.toInt ≤ 399 := h_4
      refine lv_if_eq (tgt := 31) hx hb dX11_off_18 rfl (fun h => absurd h cq_eq_1_0) (fun _ => ?_)
      refine lv_aload_n hx hb dX11_off_21 rfl (lvA0 hl) ?_
      refine lv_iload_n hx hb dX11_off_22 rfl (lvA1 hl) ?_
      refine lv_iload_n hx hb dX11_off_23 rfl (lvA2 hl) ?_
      refine vp_callSi (runV_rxa (As := [.int v0, .int v1]) (rest := []) S (q_XisOff l D cI cB cZ zz qq vv bt g ad cn In Fn v0 v1 hB) kV_RX11_317 hK hXS hS hP 0 xo_0 rfl rfl ⟨Nat.le_of_ble_eq_true rfl, Nat.le_of_ble_eq_true rfl⟩ ⟨Nat.le_of_ble_eq_true rfl, Nat.le_of_ble_eq_true rfl⟩ rfl hl.1 rfl (Nat.le_of_ble_eq_true rfl) dX11_off_24) (fun r_5 h_6 => ?_)
      refine lv_iload_n hx hb dX11_off_27 rfl (lvA3 hl) ?_
      refine lv_icmp_ne (tgt := 33) hx hb dX11_off_28 rfl (fun c_7 => ?_) (fun c_7 => ?_)
      ·
        have tc_7 : (r_5.toInt : Int) ≠ v2.toInt := fun q => c_7 (Int32.toInt_inj.mp q)
        refine lv_aload_n hx hb dX11_off_33 rfl (lvA0 hl) ?_
        refine gf_RX11_47 S hK hP 0 xo_0 (v := .ref (g 8)) rfl dX11_off_34 ?_
        refine gf_RX11_321 S hK hP 6 xo_6 (v := .ref (g 28)) rfl dX11_off_37 ?_
        refine lv_iload_n hx hb dX11_off_40 rfl (lvA1 hl) ?_
        refine lv_sipush (v := 400) hx hb dX11_off_41 (by decide) ?_
        refine lv_imul hx hb dX11_off_44 ?_
        refine lv_iload_n hx hb dX11_off_45 rfl (lvA2 hl) ?_
        refine lv_iadd hx hb dX11_off_46 ?_
        refine lv_iload_n hx hb dX11_off_47 rfl (lvA3 hl) ?_
        refine lv_if_eq (tgt := 55) hx hb dX11_off_48 rfl (fun c_8 => ?_) (fun c_8 => ?_)
        ·
          have tc_8 : (v2.toInt : Int) = 0 := congrArg Int32.toInt c_8
          refine lv_iconst (v := 0) hx hb dX11_off_55 kic_0 ?_
          have hFc := va_free (wc := [((g 28), .inl (cI, 1200, .inl (Fn 28)))]) hD hS hA [15] (one_im xo_15)
          refine va_callv (runS_w (As := [.ref (g 28), .int ((v0 * 400) + v1), .int 0]) (rest := []) S (q_l_put l D cI cB cZ (g 28) 1200 (Fn 28) ((v0 * 400) + v1) 0 s.heap.size (by (first | omega | (have zz0 := Hid.u hb_cn; omega)))) kS_RX11_184 hK hP hD [15] (one_is xo_15) (one_im xo_15) rfl ⟨Nat.le_of_ble_eq_true rfl, Nat.le_of_ble_eq_true rfl⟩ ⟨Nat.le_of_ble_eq_true rfl, Nat.le_of_ble_eq_true rfl⟩ rfl hl.1 rfl (Nat.le_of_ble_eq_true rfl) dX11_off_56) hS (fun q _ h => hFc q h) hFc (fun u_11 t H1 locs ht hvm h_10 hB1 hz1 hk1 hS => ?_)
          obtain ⟨hP1, hD1⟩ := hB1
          rw [ht] at hP1
          obtain ⟨hP, hD⟩ := wset1 hP hD xo_15 hk1 hP1
          obtain rfl : u_11 = (putM (Fn 28) 1200 ((v0 * 400) + v1) 0) := h_10
          generalize H1 = H at hP hS ⊢
          have hP : va_P D vwCl (wX cI (D.1 99) zz g ad cn In (va_up Fn 28 (putM (Fn 28) 1200 ((v0 * 400) + v1) 0))) H := va_P_eq xsa_15 hP
          have hD : va_D A (wX cI (D.1 99) zz g ad cn In (va_up Fn 28 (putM (Fn 28) 1200 ((v0 * 400) + v1) 0))) := va_D_eq xsa_15 hD
          refine lv_iconst (v := 1) hx hb dX11_off_59 kic_1 ?_
          exact W.zret (v := 1) hx hb hr rfl (fun t ht hW => ⟨⟨1, (cn, In, (va_up Fn 28 (putM (Fn 28) 1200 ((v0 * 400) + v1) 0))), rfl, ⟨(Fr.mo (Fr.f 28 Fr.rf) (sbl rfl) (sbl rfl) (sbl rfl)), hB, trivial⟩, by rw [ht]; exact hP, hD⟩, hS.F ht⟩) hS.2.2 dX11_off_60
        ·
          have tc_8 : (v2.toInt : Int) ≠ 0 := fun q => c_8 (Int32.toInt_inj.mp q)
          refine lv_iconst (v := 1) hx hb dX11_off_51 kic_1 ?_
          refine lv_goto (tgt := 56) hx hb dX11_off_52 rfl ?_
          have hFc := va_free (wc := [((g 28), .inl (cI, 1200, .inl (Fn 28)))]) hD hS hA [15] (one_im xo_15)
          refine va_callv (runS_w (As := [.ref (g 28), .int ((v0 * 400) + v1), .int 1]) (rest := []) S (q_l_put l D cI cB cZ (g 28) 1200 (Fn 28) ((v0 * 400) + v1) 1 s.heap.size (by (first | omega | (have zz0 := Hid.u hb_cn; omega)))) kS_RX11_184 hK hP hD [15] (one_is xo_15) (one_im xo_15) rfl ⟨Nat.le_of_ble_eq_true rfl, Nat.le_of_ble_eq_true rfl⟩ ⟨Nat.le_of_ble_eq_true rfl, Nat.le_of_ble_eq_true rfl⟩ rfl hl.1 rfl (Nat.le_of_ble_eq_true rfl) dX11_off_56) hS (fun q _ h => hFc q h) hFc (fun u_14 t H1 locs ht hvm h_13 hB1 hz1 hk1 hS => ?_)
          obtain ⟨hP1, hD1⟩ := hB1
          rw [ht] at hP1
          obtain ⟨hP, hD⟩ := wset1 hP hD xo_15 hk1 hP1
          obtain rfl : u_14 = (putM (Fn 28) 1200 ((v0 * 400) + v1) 1) := h_13
          generalize H1 = H at hP hS ⊢
          have hP : va_P D vwCl (wX cI (D.1 99) zz g ad cn In (va_up Fn 28 (putM (Fn 28) 1200 ((v0 * 400) + v1) 1))) H := va_P_eq xsa_15 hP
          have hD : va_D A (wX cI (D.1 99) zz g ad cn In (va_up Fn 28 (putM (Fn 28) 1200 ((v0 * 400) + v1) 1))) := va_D_eq xsa_15 hD
          refine lv_iconst (v := 1) hx hb dX11_off_59 kic_1 ?_
          exact W.zret (v := 1) hx hb hr rfl (fun t ht hW => ⟨⟨1, (cn, In, (va_up Fn 28 (putM (Fn 28) 1200 ((v0 * 400) + v1) 1))), rfl, ⟨(Fr.mo (Fr.f 28 Fr.rf) (sbl rfl) (sbl rfl) (sbl rfl)), hB, trivial⟩, by rw [ht]; exact hP, hD⟩, hS.F ht⟩) hS.2.2 dX11_off_60
      ·
        have tc_7 : (r_5.toInt : Int) = v2.toInt := congrArg Int32.toInt c_7
        refine lv_iconst (v := 0) hx hb dX11_off_31 kic_0 ?_
        exact W.zret (v := 0) hx hb hr rfl (fun t ht hW => ⟨⟨0, (cn, In, Fn), rfl, ⟨(Fr.mo Fr.rf (sbl rfl) (sbl rfl) (sbl rfl)), hB, trivial⟩, by rw [ht]; exact hP, hD⟩, hS.F ht⟩) hS.2.2 dX11_off_32
    ·
      have h_4 : ¬ (0 ≤ v1.toInt ∧ v1.toInt ≤ 399) := h_4
      refine lv_if_eq (tgt := 31) hx hb dX11_off_18 rfl (fun _ => ?_) (fun h => absurd h cq_eq_0_0)
      refine lv_iconst (v := 0) hx hb dX11_off_31 kic_0 ?_
      exact W.zret (v := 0) hx hb hr rfl (fun t ht hW => ⟨⟨0, (cn, In, Fn), rfl, ⟨(Fr.mo Fr.rf (sbl rfl) (sbl rfl) (sbl rfl)), hB, trivial⟩, by rw [ht]; exact hP, hD⟩, hS.F ht⟩) hS.2.2 dX11_off_32
  ·
    have h_2 : ¬ (0 ≤ v0.toInt ∧ v0.toInt ≤ ((nI (cn 1)) - 1).toInt) := h_2
    refine lv_if_eq (tgt := 31) hx hb dX11_off_11 rfl (fun _ => ?_) (fun h => absurd h cq_eq_0_0)
    refine lv_iconst (v := 0) hx hb dX11_off_31 kic_0 ?_
    exact W.zret (v := 0) hx hb hr rfl (fun t ht hW => ⟨⟨0, (cn, In, Fn), rfl, ⟨(Fr.mo Fr.rf (sbl rfl) (sbl rfl) (sbl rfl)), hB, trivial⟩, by rw [ht]; exact hP, hD⟩, hS.F ht⟩) hS.2.2 dX11_off_32
set_option maxRecDepth 100000 in
set_option maxHeartbeats 4000000 in
theorem q_Xsaved (l : Launch) (D : va_G) (cI cB cZ : ClassId) (zz qq vv : Nat) (bt : Nat → Int32) (g : Nat → Nat) (ad : Nat → Nat → Nat) (cn : Nat → Nat) (In : Nat → Int32) (Fn : Nat → Nat → Int32) (v0 : Int32) (h0 : Nat) (hB : CBX cn) (hh : h0 ≤ 12) : Met l yX11_savedFrom (CWS yX11_savedFrom cX11_savedFrom 5 (some .int)) (RM 1 0 0) (PBrx [.ref (g 0), .int v0, .int (nI h0)] D cI cB cZ zz qq vv bt (wX cI (D.1 99) zz g ad cn In Fn)) (vp_Si (fun _ => True)) 0 0 (fun _ => False) := by
  refine en_rx rfl pn_RX11 (Nat.le_of_ble_eq_true rfl) (fun p e s m below meth c hx hb hml hown S hr hlocks hnm hP hK hXS hS ls hl => ?_)
  have hl : lv_has ls 5 [(0, .ref (g 0)), (1, .int v0), (2, .int (nI h0))] := hl
  have hb_cn : Hid (CBX cn) := hB
  replace hB : CBXh cn := hB
  refine lv_iconst (v := 0) hx hb dX11_savedFrom_0 kic_0 ?_
  refine lv_istore_n (lv' := [(3, .int 0), (0, .ref (g 0)), (1, .int v0), (2, .int (nI h0))]) hx hb dX11_savedFrom_1 rfl hl (ltb rfl) rfl (fun ls hl => ?_)
  refine lv_iconst (v := 0) hx hb dX11_savedFrom_2 kic_0 ?_
  refine lv_istore (lv' := [(4, .int 0), (3, .int 0), (0, .ref (g 0)), (1, .int v0), (2, .int (nI h0))]) hx hb dX11_savedFrom_3 hl (ltb rfl) rfl (fun ls hl => ?_)
  have lp_5 : ∀ (n : Nat) (i5 : Nat) (x5_3 : Int32) , h0 - i5 < n → (i5 ≤ h0) → ∀ ls : Array Slot, lv_has ls 5 [(4, .int (nI i5)), (3, .int x5_3), (0, .ref (g 0)), (1, .int v0), (2, .int (nI h0))] → W p l e (RM 1 0 0) s m ([.ref (g 0), .int v0, .int (nI h0)]).toArray below meth c s.heap [] 0 0 (MQ below (vp_Si (fun _ => True)) ([.ref (g 0), .int v0, .int (nI h0)]).toArray s 0 0 (fun _ => False)) (F0 m 5 ls []) := by
    intro n5
    induction n5 with
    | zero => intros; (first | omega | (have zz0 := Hid.u hb_cn; omega))
    | succ n5 ih5 =>
      intro i5 x5_3 hmu5 hinv5 ls hl
      have hr5 := hinv5
      have ti5 : (nI i5).toInt = (i5 : Int) := nI_toInt (by (first | omega | (have zz0 := Hid.u hb_cn; omega)))
      refine lv_iload hx hb dX11_savedFrom_5 (lvA0 hl) ?_
      refine lv_iload_n hx hb dX11_savedFrom_7 rfl (lvA4 hl) ?_
      have : (nI h0).toInt = ((h0 : Nat) : Int) := nI_toInt (by (first | omega | (have zz0 := Hid.u hb_cn; omega)))
      refine lv_icmp_ge (tgt := 37) hx hb dX11_savedFrom_8 rfl (fun c_1 => ?_) (fun c_1 => ?_)
      ·
        have tc_1 : ((nI h0).toInt : Int) ≤ (nI i5).toInt := Int32.le_iff_toInt_le.mp c_1
        refine lv_iload_n hx hb dX11_savedFrom_37 rfl (lvA1 hl) ?_
        exact W.iret (v := x5_3) hx hb hr (fun t ht hW => ⟨x5_3, rfl, trivial, ht⟩) (fun _ h => absurd h List.not_mem_nil) dX11_savedFrom_38
      ·
        have tc_1 : ((nI i5).toInt : Int) < (nI h0).toInt := Int32.lt_iff_toInt_lt.mp (Int32.not_le.mp c_1)
        refine lv_iload_n hx hb dX11_savedFrom_11 rfl (lvA1 hl) ?_
        refine lv_aload_n hx hb dX11_savedFrom_12 rfl (lvA2 hl) ?_
        refine gf_RX11_47 S hK hP 0 xo_0 (v := .ref (g 8)) rfl dX11_savedFrom_13 ?_
        refine gf_RX11_467 S hK hP 6 xo_6 (v := .ref (g 21)) rfl dX11_savedFrom_16 ?_
        refine lv_iload_n hx hb dX11_savedFrom_19 rfl (lvA3 hl) ?_
        refine lv_iload hx hb dX11_savedFrom_20 (lvA0 hl) ?_
        refine lv_iadd hx hb dX11_savedFrom_22 ?_
        refine lv_bipush (v := 24) hx hb dX11_savedFrom_23 kbc_24 ?_
        refine lv_irem hx hb dX11_savedFrom_25 (by decide) ?_
        refine vp_callSi (runS_r (As := [.ref (g 21), .int ((v0 + (nI i5)) - (v0 + (nI i5)) / 24 * 24)]) (rest := [.int x5_3]) S (q_l_at l D cI cB cZ (g 21) 24 (Fn 21) ((v0 + (nI i5)) - (v0 + (nI i5)) / 24 * 24) (by (first | omega | (have zz0 := Hid.u hb_cn; omega)))) kS_RX11_192 hK hP [8] (one_is xo_8) ⟨Nat.le_of_ble_eq_true rfl, Nat.le_of_ble_eq_true rfl⟩ ⟨Nat.le_of_ble_eq_true rfl, Nat.le_of_ble_eq_true rfl⟩ rfl hl.1 rfl (Nat.le_of_ble_eq_true rfl) dX11_savedFrom_26) (fun r_2 h_3 => ?_)
        subst h_3
        refine lv_iadd hx hb dX11_savedFrom_29 ?_
        refine lv_istore_n (lv' := [(3, .int (x5_3 + (atM (Fn 21) 24 ((v0 + (nI i5)) - (v0 + (nI i5)) / 24 * 24)))), (4, .int (nI i5)), (0, .ref (g 0)), (1, .int v0), (2, .int (nI h0))]) hx hb dX11_savedFrom_30 rfl hl (ltb rfl) rfl (fun ls hl => ?_)
        refine lv_iinc (v := (nI (i5 + 1))) (lv' := [(4, .int (nI (i5 + 1))), (3, .int (x5_3 + (atM (Fn 21) 24 ((v0 + (nI i5)) - (v0 + (nI i5)) / 24 * 24)))), (0, .ref (g 0)), (1, .int v0), (2, .int (nI h0))]) hx hb dX11_savedFrom_31 hl (k := 1) rfl (nI_1 _) (ltb rfl) rfl (fun ls hl => ?_)
        refine lv_goto (tgt := 5) hx hb dX11_savedFrom_34 rfl ?_
        exact ih5 (i5 + 1) (x5_3 + (atM (Fn 21) 24 ((v0 + (nI i5)) - (v0 + (nI i5)) / 24 * 24))) (by (first | omega | (have zz0 := Hid.u hb_cn; omega))) (by (first | omega | (have zz0 := Hid.u hb_cn; omega))) ls (lv_sub hl [0, 1, 2, 3, 4] rfl)
  exact lp_5 _ 0 0 (Nat.lt_succ_self _) (by (first | omega | (have zz0 := Hid.u hb_cn; omega))) ls (lv_sub hl [0, 1, 2, 3, 4] rfl)
set_option maxRecDepth 100000 in
set_option maxHeartbeats 4000000 in
theorem q_Xlock (l : Launch) (D : va_G) (cI cB cZ : ClassId) (zz qq vv : Nat) (bt : Nat → Int32) (g : Nat → Nat) (ad : Nat → Nat → Nat) (cn : Nat → Nat) (In : Nat → Int32) (Fn : Nat → Nat → Int32) (v0 v1 : Int32) (hB : CBX cn) : Met l yX11_lock (CWS yX11_lock cX11_lock 7 (some .int)) (RM 2 0 0) (PBrx [.ref (g 0), .int v0, .int v1] D cI cB cZ zz qq vv bt (wX cI (D.1 99) zz g ad cn In Fn)) (vp_Si (fun _ => True)) 0 0 (fun _ => False) := by
  refine en_rx rfl pn_RX11 (Nat.le_of_ble_eq_true rfl) (fun p e s m below meth c hx hb hml hown S hr hlocks hnm hP hK hXS hS ls hl => ?_)
  have hl : lv_has ls 7 [(0, .ref (g 0)), (1, .int v0), (2, .int v1)] := hl
  have hb_cn : Hid (CBX cn) := hB
  replace hB : CBXh cn := hB
  refine lv_iload_n hx hb dX11_lock_0 rfl (lvA1 hl) ?_
  refine lv_iconst (v := 1) hx hb dX11_lock_1 kic_1 ?_
  refine lv_bipush (v := 12) hx hb dX11_lock_2 kbc_12 ?_
  refine vp_callSi (runS_r (As := [.int v0, .int 1, .int 12]) (rest := []) S (q_l_within l D cI cB cZ v0 1 12) kS_RX11_80 hK hP [] rfl ⟨Nat.le_of_ble_eq_true rfl, Nat.le_of_ble_eq_true rfl⟩ ⟨Nat.le_of_ble_eq_true rfl, Nat.le_of_ble_eq_true rfl⟩ rfl hl.1 rfl (Nat.le_of_ble_eq_true rfl) dX11_lock_4) (fun r_1 h_2 => ?_)
  rcases h_2 with ⟨rfl, h_2⟩ | ⟨rfl, h_2⟩
  ·
    have h_2 : 1 ≤ v0.toInt ∧ v0.toInt ≤ 12 := h_2
    refine lv_if_eq (tgt := 19) hx hb dX11_lock_7 rfl (fun h => absurd h cq_eq_1_0) (fun _ => ?_)
    refine lv_iload_n hx hb dX11_lock_10 rfl (lvA2 hl) ?_
    refine lv_iconst (v := 0) hx hb dX11_lock_11 kic_0 ?_
    refine lv_iconst (v := 1) hx hb dX11_lock_12 kic_1 ?_
    refine vp_callSi (runS_r (As := [.int v1, .int 0, .int 1]) (rest := []) S (q_l_within l D cI cB cZ v1 0 1) kS_RX11_80 hK hP [] rfl ⟨Nat.le_of_ble_eq_true rfl, Nat.le_of_ble_eq_true rfl⟩ ⟨Nat.le_of_ble_eq_true rfl, Nat.le_of_ble_eq_true rfl⟩ rfl hl.1 rfl (Nat.le_of_ble_eq_true rfl) dX11_lock_13) (fun r_3 h_4 => ?_)
    rcases h_4 with ⟨rfl, h_4⟩ | ⟨rfl, h_4⟩
    ·
      have h_4 : 0 ≤ v1.toInt ∧ v1.toInt ≤ 1 := h_4
      refine lv_if_ne (tgt := 21) hx hb dX11_lock_16 rfl (fun _ => ?_) (fun h => absurd h cq_eq_1_0)
      obtain ⟨d0, hd0, rfl⟩ := nI_of (x := v0) (fun q => by have := Int32.lt_iff_toInt_lt.mp q; have e : (0 : Int32).toInt = 0 := rfl; (first | omega | (have zz0 := Hid.u hb_cn; omega)))
      have td0 : (nI d0).toInt = (d0 : Int) := nI_toInt hd0
      have zd0 : (nI d0).toInt.toNat = d0 := by (first | omega | (have zz0 := Hid.u hb_cn; omega))
      refine lv_iconst (v := 0) hx hb dX11_lock_21 kic_0 ?_
      refine lv_istore_n (lv' := [(3, .int 0), (0, .ref (g 0)), (1, .int (nI d0)), (2, .int v1)]) hx hb dX11_lock_22 rfl hl (ltb rfl) rfl (fun ls hl => ?_)
      refine lv_aload_n hx hb dX11_lock_23 rfl (lvA1 hl) ?_
      refine lv_iconst (v := 0) hx hb dX11_lock_24 kic_0 ?_
      refine lv_iload_n hx hb dX11_lock_25 rfl (lvA2 hl) ?_
      refine vp_callSi (runV_rxa (As := [.int 0, .int (nI d0)]) (rest := []) S (q_Xsaved l D cI cB cZ zz qq vv bt g ad cn In Fn 0 d0 hB (by (first | omega | (have zz0 := Hid.u hb_cn; omega)))) kV_RX11_470 hK hXS hS hP 0 xo_0 rfl rfl ⟨Nat.le_of_ble_eq_true rfl, Nat.le_of_ble_eq_true rfl⟩ ⟨Nat.le_of_ble_eq_true rfl, Nat.le_of_ble_eq_true rfl⟩ rfl hl.1 rfl (Nat.le_of_ble_eq_true rfl) dX11_lock_26) (fun r_5 h_6 => ?_)
      refine lv_istore (lv' := [(4, .int r_5), (3, .int 0), (0, .ref (g 0)), (1, .int (nI d0)), (2, .int v1)]) hx hb dX11_lock_29 hl (ltb rfl) rfl (fun ls hl => ?_)
      refine lv_iconst (v := 1) hx hb dX11_lock_31 kic_1 ?_
      refine lv_istore (lv' := [(5, .int 1), (4, .int r_5), (3, .int 0), (0, .ref (g 0)), (1, .int (nI d0)), (2, .int v1)]) hx hb dX11_lock_32 hl (ltb rfl) rfl (fun ls hl => ?_)
      have lp_34 : ∀ (n : Nat) (i34 : Nat) (x34_3 : Int32) (x34_4 : Int32) , 24 - i34 < n → (i34 ≤ 24) → ∀ ls : Array Slot, lv_has ls 7 [(5, .int (nI i34)), (4, .int x34_4), (3, .int x34_3), (0, .ref (g 0)), (1, .int (nI d0)), (2, .int v1)] → W p l e (RM 2 0 0) s m ([.ref (g 0), .int (nI d0), .int v1]).toArray below meth c s.heap [] 0 0 (MQ below (vp_Si (fun _ => True)) ([.ref (g 0), .int (nI d0), .int v1]).toArray s 0 0 (fun _ => False)) (F0 m 34 ls []) := by
        intro n34
        induction n34 with
        | zero => intros; (first | omega | (have zz0 := Hid.u hb_cn; omega))
        | succ n34 ih34 =>
          intro i34 x34_3 x34_4 hmu34 hinv34 ls hl
          have hr34 := hinv34
          have ti34 : (nI i34).toInt = (i34 : Int) := nI_toInt (by (first | omega | (have zz0 := Hid.u hb_cn; omega)))
          refine lv_iload hx hb dX11_lock_34 (lvA0 hl) ?_
          refine lv_bipush (v := 24) hx hb dX11_lock_36 kbc_24 ?_
          refine lv_icmp_ge (tgt := 70) hx hb dX11_lock_38 rfl (fun c_7 => ?_) (fun c_7 => ?_)
          ·
            have tc_7 : (24 : Int) ≤ (nI i34).toInt := Int32.le_iff_toInt_le.mp c_7
            refine lv_iload_n hx hb dX11_lock_70 rfl (lvA5 hl) ?_
            refine lv_if_ne (tgt := 78) hx hb dX11_lock_71 rfl (fun c_8 => ?_) (fun c_8 => ?_)
            ·
              have tc_8 : (v1.toInt : Int) ≠ 0 := fun q => c_8 (Int32.toInt_inj.mp q)
              refine lv_iload hx hb dX11_lock_78 (lvA1 hl) ?_
              exact W.iret (v := x34_4) hx hb hr (fun t ht hW => ⟨x34_4, rfl, trivial, ht⟩) (fun _ h => absurd h List.not_mem_nil) dX11_lock_80
            ·
              have tc_8 : (v1.toInt : Int) = 0 := congrArg Int32.toInt c_8
              refine lv_iload_n hx hb dX11_lock_74 rfl (lvA2 hl) ?_
              refine lv_goto (tgt := 80) hx hb dX11_lock_75 rfl ?_
              exact W.iret (v := x34_3) hx hb hr (fun t ht hW => ⟨x34_3, rfl, trivial, ht⟩) (fun _ h => absurd h List.not_mem_nil) dX11_lock_80
          ·
            have tc_7 : ((nI i34).toInt : Int) < 24 := Int32.lt_iff_toInt_lt.mp (Int32.not_le.mp c_7)
            refine lv_aload_n hx hb dX11_lock_41 rfl (lvA3 hl) ?_
            refine lv_iload hx hb dX11_lock_42 (lvA0 hl) ?_
            refine lv_iload_n hx hb dX11_lock_44 rfl (lvA4 hl) ?_
            refine vp_callSi (runV_rxa (As := [.int (nI i34), .int (nI d0)]) (rest := []) S (q_Xsaved l D cI cB cZ zz qq vv bt g ad cn In Fn (nI i34) d0 hB (by (first | omega | (have zz0 := Hid.u hb_cn; omega)))) kV_RX11_470 hK hXS hS hP 0 xo_0 rfl rfl ⟨Nat.le_of_ble_eq_true rfl, Nat.le_of_ble_eq_true rfl⟩ ⟨Nat.le_of_ble_eq_true rfl, Nat.le_of_ble_eq_true rfl⟩ rfl hl.1 rfl (Nat.le_of_ble_eq_true rfl) dX11_lock_45) (fun r_9 h_10 => ?_)
            refine lv_istore (lv' := [(6, .int r_9), (5, .int (nI i34)), (4, .int x34_4), (3, .int x34_3), (0, .ref (g 0)), (1, .int (nI d0)), (2, .int v1)]) hx hb dX11_lock_48 hl (ltb rfl) rfl (fun ls hl => ?_)
            refine lv_iload hx hb dX11_lock_50 (lvA0 hl) ?_
            refine lv_iload hx hb dX11_lock_52 (lvA2 hl) ?_
            refine lv_icmp_le (tgt := 64) hx hb dX11_lock_54 rfl (fun c_11 => ?_) (fun c_11 => ?_)
            ·
              have tc_11 : (r_9.toInt : Int) ≤ x34_4.toInt := Int32.le_iff_toInt_le.mp c_11
              refine lv_iinc (v := (nI (i34 + 1))) (lv' := [(5, .int (nI (i34 + 1))), (6, .int r_9), (4, .int x34_4), (3, .int x34_3), (0, .ref (g 0)), (1, .int (nI d0)), (2, .int v1)]) hx hb dX11_lock_64 hl (k := 1) rfl (nI_1 _) (ltb rfl) rfl (fun ls hl => ?_)
              refine lv_goto (tgt := 34) hx hb dX11_lock_67 rfl ?_
              exact ih34 (i34 + 1) x34_3 x34_4 (by (first | omega | (have zz0 := Hid.u hb_cn; omega))) (by (first | omega | (have zz0 := Hid.u hb_cn; omega))) ls (lv_sub hl [0, 2, 3, 4, 5, 6] rfl)
            ·
              have tc_11 : (x34_4.toInt : Int) < r_9.toInt := Int32.lt_iff_toInt_lt.mp (Int32.not_le.mp c_11)
              refine lv_iload hx hb dX11_lock_57 (lvA1 hl) ?_
              refine lv_istore_n (lv' := [(3, .int (nI i34)), (6, .int r_9), (5, .int (nI i34)), (4, .int x34_4), (0, .ref (g 0)), (1, .int (nI d0)), (2, .int v1)]) hx hb dX11_lock_59 rfl hl (ltb rfl) rfl (fun ls hl => ?_)
              refine lv_iload hx hb dX11_lock_60 (lvA1 hl) ?_
              refine lv_istore (lv' := [(4, .int r_9), (3, .int (nI i34)), (6, .int r_9), (5, .int (nI i34)), (0, .ref (g 0)), (1, .int (nI d0)), (2, .int v1)]) hx hb dX11_lock_62 hl (ltb rfl) rfl (fun ls hl => ?_)
              refine lv_iinc (v := (nI (i34 + 1))) (lv' := [(5, .int (nI (i34 + 1))), (4, .int r_9), (3, .int (nI i34)), (6, .int r_9), (0, .ref (g 0)), (1, .int (nI d0)), (2, .int v1)]) hx hb dX11_lock_64 hl (k := 3) rfl (nI_1 _) (ltb rfl) rfl (fun ls hl => ?_)
              refine lv_goto (tgt := 34) hx hb dX11_lock_67 rfl ?_
              exact ih34 (i34 + 1) (nI i34) r_9 (by (first | omega | (have zz0 := Hid.u hb_cn; omega))) (by (first | omega | (have zz0 := Hid.u hb_cn; omega))) ls (lv_sub hl [0, 1, 2, 4, 5, 6] rfl)
      exact lp_34 _ 1 0 r_5 (Nat.lt_succ_self _) (by (first | omega | (have zz0 := Hid.u hb_cn; omega))) ls (lv_sub hl [0, 1, 2, 3, 4, 5] rfl)
    ·
      have h_4 : ¬ (0 ≤ v1.toInt ∧ v1.toInt ≤ 1) := h_4
      refine lv_if_ne (tgt := 21) hx hb dX11_lock_16 rfl (fun h => absurd h cq_eq_0_0) (fun _ => ?_)
      refine lv_iconst (v := (-1)) hx hb dX11_lock_19 kic_m1 ?_
      exact W.iret (v := (-1)) hx hb hr (fun t ht hW => ⟨(-1), rfl, trivial, ht⟩) (fun _ h => absurd h List.not_mem_nil) dX11_lock_20
  ·
    have h_2 : ¬ (1 ≤ v0.toInt ∧ v0.toInt ≤ 12) := h_2
    refine lv_if_eq (tgt := 19) hx hb dX11_lock_7 rfl (fun _ => ?_) (fun h => absurd h cq_eq_0_0)
    refine lv_iconst (v := (-1)) hx hb dX11_lock_19 kic_m1 ?_
    exact W.iret (v := (-1)) hx hb hr (fun t ht hW => ⟨(-1), rfl, trivial, ht⟩) (fun _ h => absurd h List.not_mem_nil) dX11_lock_20
set_option maxRecDepth 100000 in
set_option maxHeartbeats 4000000 in
theorem q_Xchange (l : Launch) (D : va_G) (cI cB cZ : ClassId) (zz qq vv : Nat) (bt : Nat → Int32) (g : Nat → Nat) (ad : Nat → Nat → Nat) (cn : Nat → Nat) (In : Nat → Int32) (Fn : Nat → Nat → Int32) (v0 v1 : Int32) (sz : Nat) (hB : CBX cn) : Met l yX7_change (CWS yX7_change cX7_change 3 none) (RM 1 0 0) (PBx [.ref (g 8), .int v0, .int v1] D cI cB cZ zz qq vv bt (wX cI (D.1 99) zz g ad cn In Fn) sz) (va_Qv (fun (u : (Nat → Nat) × (Nat → Int32) × (Nat → Nat → Int32)) => (fun c2 I2 F2 => (∀ k : Nat, k ∉ [] → I2 k = In k) ∧ (((True) ∧ cn = c2 ∧ (va_up Fn 29 (putM (Fn 29) 400 v0 (atM (Fn 29) 400 v0 + v1))) = F2))) u.1 u.2.1 u.2.2) (fun (u : (Nat → Nat) × (Nat → Int32) × (Nat → Nat → Int32)) (t : State) => va_P D vwCl (wX cI (D.1 99) zz g ad u.1 u.2.1 u.2.2) t.heap ∧ va_D (va_A (wX cI (D.1 99) zz g ad cn In Fn) sz) (wX cI (D.1 99) zz g ad u.1 u.2.1 u.2.2)) (va_A (wX cI (D.1 99) zz g ad cn In Fn) sz)) 0 0 (va_A (wX cI (D.1 99) zz g ad cn In Fn) sz) := by
  refine en_x (fun A => (va_Qv (fun (u : (Nat → Nat) × (Nat → Int32) × (Nat → Nat → Int32)) => (fun (c2 : Nat → Nat) (I2 : Nat → Int32) (F2 : Nat → Nat → Int32) => (∀ k : Nat, k ∉ [] → I2 k = In k) ∧ (((True) ∧ cn = c2 ∧ (va_up Fn 29 (putM (Fn 29) 400 v0 (atM (Fn 29) 400 v0 + v1))) = F2))) u.1 u.2.1 u.2.2) (fun (u : (Nat → Nat) × (Nat → Int32) × (Nat → Nat → Int32)) (t : State) => va_P D vwCl (wX cI (D.1 99) zz g ad u.1 u.2.1 u.2.2) t.heap ∧ va_D A (wX cI (D.1 99) zz g ad u.1 u.2.1 u.2.2)) A)) rfl rfl pn_RX7 (Nat.le_of_ble_eq_true rfl) (fun p e s m below meth c A hx hb hml hown S hr hlocks hnm hA hP hK hD hXS hS ls hl => ?_)
  have hl : lv_has ls 3 [(0, .ref (g 8)), (1, .int v0), (2, .int v1)] := hl
  have hb_cn : Hid (CBX cn) := hB
  replace hB : CBXh cn := hB
  refine lv_aload_n hx hb dX7_change_0 rfl (lvA0 hl) ?_
  refine gf_RX7_45 S hK hP 6 xo_6 (v := .ref (g 29)) rfl dX7_change_1 ?_
  refine lv_iload_n hx hb dX7_change_4 rfl (lvA1 hl) ?_
  refine lv_aload_n hx hb dX7_change_5 rfl (lvA0 hl) ?_
  refine gf_RX7_45 S hK hP 6 xo_6 (v := .ref (g 29)) rfl dX7_change_6 ?_
  refine lv_iload_n hx hb dX7_change_9 rfl (lvA1 hl) ?_
  refine vp_callSi (runS_r (As := [.ref (g 29), .int v0]) (rest := [.int v0, .ref (g 29)]) S (q_l_at l D cI cB cZ (g 29) 400 (Fn 29) v0 (by (first | omega | (have zz0 := Hid.u hb_cn; omega)))) kS_RX7_48 hK hP [16] (one_is xo_16) ⟨Nat.le_of_ble_eq_true rfl, Nat.le_of_ble_eq_true rfl⟩ ⟨Nat.le_of_ble_eq_true rfl, Nat.le_of_ble_eq_true rfl⟩ rfl hl.1 rfl (Nat.le_of_ble_eq_true rfl) dX7_change_10) (fun r_1 h_2 => ?_)
  subst h_2
  refine lv_iload_n hx hb dX7_change_13 rfl (lvA2 hl) ?_
  refine lv_iadd hx hb dX7_change_14 ?_
  have hFc := va_free (wc := [((g 29), .inl (cI, 400, .inl (Fn 29)))]) hD hS hA [16] (one_im xo_16)
  refine va_callv (runS_w (As := [.ref (g 29), .int v0, .int ((atM (Fn 29) 400 v0) + v1)]) (rest := []) S (q_l_put l D cI cB cZ (g 29) 400 (Fn 29) v0 ((atM (Fn 29) 400 v0) + v1) s.heap.size (by (first | omega | (have zz0 := Hid.u hb_cn; omega)))) kS_RX7_52 hK hP hD [16] (one_is xo_16) (one_im xo_16) rfl ⟨Nat.le_of_ble_eq_true rfl, Nat.le_of_ble_eq_true rfl⟩ ⟨Nat.le_of_ble_eq_true rfl, Nat.le_of_ble_eq_true rfl⟩ rfl hl.1 rfl (Nat.le_of_ble_eq_true rfl) dX7_change_15) hS (fun q _ h => hFc q h) hFc (fun u_5 t H1 locs ht hvm h_4 hB1 hz1 hk1 hS => ?_)
  obtain ⟨hP1, hD1⟩ := hB1
  rw [ht] at hP1
  obtain ⟨hP, hD⟩ := wset1 hP hD xo_16 hk1 hP1
  obtain rfl : u_5 = (putM (Fn 29) 400 v0 ((atM (Fn 29) 400 v0) + v1)) := h_4
  generalize H1 = H at hP hS ⊢
  have hP : va_P D vwCl (wX cI (D.1 99) zz g ad cn In (va_up Fn 29 (putM (Fn 29) 400 v0 ((atM (Fn 29) 400 v0) + v1)))) H := va_P_eq xsa_16 hP
  have hD : va_D A (wX cI (D.1 99) zz g ad cn In (va_up Fn 29 (putM (Fn 29) 400 v0 ((atM (Fn 29) 400 v0) + v1)))) := va_D_eq xsa_16 hD
  exact W.vret hx hb hr (fun t ht hW => ⟨⟨(cn, In, (va_up Fn 29 (putM (Fn 29) 400 v0 ((atM (Fn 29) 400 v0) + v1)))), rfl, ⟨(show Fr [] [] [29] cn In Fn cn In (va_up Fn 29 (putM (Fn 29) 400 v0 ((atM (Fn 29) 400 v0) + v1))) from Fr.mo (Fr.f 29 (Fr.rf (cn := cn) (In := In) (Fn := Fn))) (sbl rfl) (sbl rfl) (sbl rfl)).2.1, ⟨(by first | trivial | (first | omega | (have zz0 := Hid.u hb_cn; omega)) | (simp only [zd0]; (first | omega | (have zz0 := Hid.u hb_cn; omega)))), (by first | rfl | simp only [zd0] | simp only [zd0, zd1]), (by first | rfl | simp only [zd0] | simp only [zd0, zd1])⟩⟩, by rw [ht]; exact hP, hD⟩, hS.F ht⟩) hS.2.2 dX7_change_18
set_option maxRecDepth 100000 in
set_option maxHeartbeats 4000000 in
theorem q_Xspill (l : Launch) (D : va_G) (cI cB cZ : ClassId) (zz qq vv : Nat) (bt : Nat → Int32) (g : Nat → Nat) (ad : Nat → Nat → Nat) (cn : Nat → Nat) (In : Nat → Int32) (Fn : Nat → Nat → Int32) (v0 v1 : Int32) (sz : Nat) (hB : CBX cn) : Met l yX11_spill (CWS yX11_spill cX11_spill 3 (some .int)) (RM 2 0 0) (PBx [.ref (g 0), .int v0, .int v1] D cI cB cZ zz qq vv bt (wX cI (D.1 99) zz g ad cn In Fn) sz) (va_Qi (fun (r : Int32) (u : (Nat → Nat) × (Nat → Int32) × (Nat → Nat → Int32)) => (fun r c2 I2 F2 => Fr [5] [] [29] cn In Fn c2 I2 F2 ∧ CBX c2 ∧ (True)) r u.1 u.2.1 u.2.2) (fun (u : (Nat → Nat) × (Nat → Int32) × (Nat → Nat → Int32)) (t : State) => va_P D vwCl (wX cI (D.1 99) zz g ad u.1 u.2.1 u.2.2) t.heap ∧ va_D (va_A (wX cI (D.1 99) zz g ad cn In Fn) sz) (wX cI (D.1 99) zz g ad u.1 u.2.1 u.2.2)) (va_A (wX cI (D.1 99) zz g ad cn In Fn) sz)) 0 0 (va_A (wX cI (D.1 99) zz g ad cn In Fn) sz) := by
  refine en_x (fun A => (va_Qi (fun (r : Int32) (u : (Nat → Nat) × (Nat → Int32) × (Nat → Nat → Int32)) => (fun (r : Int32) (c2 : Nat → Nat) (I2 : Nat → Int32) (F2 : Nat → Nat → Int32) => Fr [5] [] [29] cn In Fn c2 I2 F2 ∧ CBX c2 ∧ (True)) r u.1 u.2.1 u.2.2) (fun (u : (Nat → Nat) × (Nat → Int32) × (Nat → Nat → Int32)) (t : State) => va_P D vwCl (wX cI (D.1 99) zz g ad u.1 u.2.1 u.2.2) t.heap ∧ va_D A (wX cI (D.1 99) zz g ad u.1 u.2.1 u.2.2)) A)) rfl rfl pn_RX11 (Nat.le_of_ble_eq_true rfl) (fun p e s m below meth c A hx hb hml hown S hr hlocks hnm hA hP hK hD hXS hS ls hl => ?_)
  have hl : lv_has ls 3 [(0, .ref (g 0)), (1, .int v0), (2, .int v1)] := hl
  have hb_cn : Hid (CBX cn) := hB
  replace hB : CBXh cn := hB
  refine lv_iload_n hx hb dX11_spill_0 rfl (lvA1 hl) ?_
  refine lv_iconst (v := 0) hx hb dX11_spill_1 kic_0 ?_
  refine lv_aload_n hx hb dX11_spill_2 rfl (lvA0 hl) ?_
  refine gf_RX11_103 S hK hP 0 xo_0 (v := .int (nI (cn 0))) rfl dX11_spill_3 ?_
  refine vp_callSi (runS_r (As := [.int v0, .int 0, .int (nI (cn 0))]) (rest := []) S (q_l_within l D cI cB cZ v0 0 (nI (cn 0))) kS_RX11_80 hK hP [] rfl ⟨Nat.le_of_ble_eq_true rfl, Nat.le_of_ble_eq_true rfl⟩ ⟨Nat.le_of_ble_eq_true rfl, Nat.le_of_ble_eq_true rfl⟩ rfl hl.1 rfl (Nat.le_of_ble_eq_true rfl) dX11_spill_6) (fun r_1 h_2 => ?_)
  have : (nI (cn 0)).toInt = (((cn 0) : Nat) : Int) := nI_toInt (by (first | omega | (have zz0 := Hid.u hb_cn; omega)))
  rcases h_2 with ⟨rfl, h_2⟩ | ⟨rfl, h_2⟩
  ·
    have h_2 : 0 ≤ v0.toInt ∧ v0.toInt ≤ (nI (cn 0)).toInt := h_2
    refine lv_if_eq (tgt := 32) hx hb dX11_spill_9 rfl (fun h => absurd h cq_eq_1_0) (fun _ => ?_)
    refine lv_iload_n hx hb dX11_spill_12 rfl (lvA2 hl) ?_
    refine lv_iconst (v := 1) hx hb dX11_spill_13 kic_1 ?_
    refine lv_sipush (v := 400) hx hb dX11_spill_14 (by decide) ?_
    refine vp_callSi (runS_r (As := [.int v1, .int 1, .int 400]) (rest := []) S (q_l_within l D cI cB cZ v1 1 400) kS_RX11_80 hK hP [] rfl ⟨Nat.le_of_ble_eq_true rfl, Nat.le_of_ble_eq_true rfl⟩ ⟨Nat.le_of_ble_eq_true rfl, Nat.le_of_ble_eq_true rfl⟩ rfl hl.1 rfl (Nat.le_of_ble_eq_true rfl) dX11_spill_17) (fun r_3 h_4 => ?_)
    rcases h_4 with ⟨rfl, h_4⟩ | ⟨rfl, h_4⟩
    ·
      have h_4 : 1 ≤ v1.toInt ∧ v1.toInt ≤ 400 := h_4
      refine lv_if_eq (tgt := 32) hx hb dX11_spill_20 rfl (fun h => absurd h cq_eq_1_0) (fun _ => ?_)
      refine lv_aload_n hx hb dX11_spill_23 rfl (lvA0 hl) ?_
      refine gf_RX11_517 S hK hP 0 xo_0 (v := .int (nI (cn 5))) rfl dX11_spill_24 ?_
      refine lv_bipush (v := 40) hx hb dX11_spill_27 kbc_40 ?_
      have : (nI (cn 5)).toInt = (((cn 5) : Nat) : Int) := nI_toInt (by (first | omega | (have zz0 := Hid.u hb_cn; omega)))
      refine lv_icmp_lt (tgt := 34) hx hb dX11_spill_29 rfl (fun c_5 => ?_) (fun c_5 => ?_)
      ·
        have tc_5 : ((nI (cn 5)).toInt : Int) < 40 := Int32.lt_iff_toInt_lt.mp c_5
        refine lv_aload_n hx hb dX11_spill_34 rfl (lvA0 hl) ?_
        refine gf_RX11_47 S hK hP 0 xo_0 (v := .ref (g 8)) rfl dX11_spill_35 ?_
        refine lv_iload_n hx hb dX11_spill_38 rfl (lvA1 hl) ?_
        refine lv_iload_n hx hb dX11_spill_39 rfl (lvA2 hl) ?_
        refine lv_ineg hx hb dX11_spill_40 ?_
        have hFc := free_all hD hS hA
        refine va_callv (runV_xa (As := [.int v0, .int (-v1)]) (rest := []) S (q_Xchange l D cI cB cZ zz qq vv bt g ad cn In Fn v0 (-v1) s.heap.size hB) kV_RX11_144 hK hXS hS hFc hP hD 6 xo_6 rfl rfl ⟨Nat.le_of_ble_eq_true rfl, Nat.le_of_ble_eq_true rfl⟩ ⟨Nat.le_of_ble_eq_true rfl, Nat.le_of_ble_eq_true rfl⟩ rfl hl.1 rfl (Nat.le_of_ble_eq_true rfl) dX11_spill_41) hS (fun q _ h => hFc q h) hFc (fun u t H1 locs ht hvm wh_7 hB1 hz1 hk1 hS => ?_)
        obtain ⟨cn7, In7, Fn7⟩ := u
        obtain ⟨hP1, hD1⟩ := hB1
        rw [ht] at hP1
        have vh_7 : (fun c2 I2 F2 => (∀ k : Nat, k ∉ [] → I2 k = In k) ∧ (((True) ∧ cn = c2 ∧ (va_up Fn 29 (putM ((Fn 29)) 400 v0 (atM ((Fn 29)) 400 v0 + (-v1)))) = F2))) cn7 In7 Fn7 := wh_7
        obtain ⟨hI7_, vh_7⟩ := vh_7
        obtain ⟨h_7, rfl, rfl⟩ := vh_7
        obtain rfl : In = In7 := (funext (fun k => hI7_ k List.not_mem_nil)).symm
        have hP : va_P D vwCl (wX cI (D.1 99) zz g ad cn In (va_up Fn 29 (putM ((Fn 29)) 400 v0 (atM ((Fn 29)) 400 v0 + (-v1))))) H1 := hP1
        have hD : va_D A (wX cI (D.1 99) zz g ad cn In (va_up Fn 29 (putM ((Fn 29)) 400 v0 (atM ((Fn 29)) 400 v0 + (-v1))))) := hD1.weaken (fun _ _ _ h => hFc _ h)
        generalize H1 = H at hP hS ⊢
        refine lv_aload_n hx hb dX11_spill_44 rfl (lvA0 hl) ?_
        refine lv_dup hx hb dX11_spill_45 rfl ?_
        refine gf_RX11_517 S hK hP 0 xo_0 (v := .int (nI (cn 5))) rfl dX11_spill_46 ?_
        refine lv_iconst (v := 1) hx hb dX11_spill_49 kic_1 ?_
        refine lv_iadd hx hb dX11_spill_50 ?_
        refine lv_topi (fun y_8 ey_8 => ?_)
        obtain rfl : y_8 = (nI ((cn 5) + 1)) := ey_8.trans (nI_add (cn 5) 1)
        refine pf_RX11_517 S hK hP hD hS 0 xo_0 (v := .int (nI ((cn 5) + 1))) (Nat.le_of_ble_eq_true rfl) rfl rfl dX11_spill_51 (fun H locs hP hD hS => ?_)
        have hP : va_P D vwCl (wX cI (D.1 99) zz g ad (va_up cn 5 ((cn 5) + 1)) In (va_up Fn 29 (putM ((Fn 29)) 400 v0 (atM ((Fn 29)) 400 v0 + (-v1))))) H := va_P_eq (xsf_0_3) hP
        have hD : va_D A (wX cI (D.1 99) zz g ad (va_up cn 5 ((cn 5) + 1)) In (va_up Fn 29 (putM ((Fn 29)) 400 v0 (atM ((Fn 29)) 400 v0 + (-v1))))) := va_D_eq (xsf_0_3) hD
        refine lv_aload_n hx hb dX11_spill_54 rfl (lvA0 hl) ?_
        refine gf_RX11_517 S hK hP 0 xo_0 (v := .int (nI ((cn 5) + 1))) rfl dX11_spill_55 ?_
        exact W.iret (v := (nI ((cn 5) + 1))) hx hb hr (fun t ht hW => ⟨⟨(nI ((cn 5) + 1)), ((va_up cn 5 ((cn 5) + 1)), In, (va_up Fn 29 (putM ((Fn 29)) 400 v0 (atM ((Fn 29)) 400 v0 + (-v1))))), rfl, ⟨(Fr.mo (Fr.f 29 (Fr.c 5 Fr.rf)) (sbl rfl) (sbl rfl) (sbl rfl)), (CBX.u5 (v := ((cn 5) + 1)) hB (show ((cn 5) + 1) ≤ 40 by (first | omega | (have zz0 := Hid.u hb_cn; omega)))), trivial⟩, by rw [ht]; exact hP, hD⟩, hS.F ht⟩) hS.2.2 dX11_spill_58
      ·
        have tc_5 : (40 : Int) ≤ (nI (cn 5)).toInt := Int32.le_iff_toInt_le.mp (Int32.not_lt.mp c_5)
        refine lv_iconst (v := (-1)) hx hb dX11_spill_32 kic_m1 ?_
        exact W.iret (v := (-1)) hx hb hr (fun t ht hW => ⟨⟨(-1), (cn, In, Fn), rfl, ⟨(Fr.mo Fr.rf (sbl rfl) (sbl rfl) (sbl rfl)), hB, trivial⟩, by rw [ht]; exact hP, hD⟩, hS.F ht⟩) hS.2.2 dX11_spill_33
    ·
      have h_4 : ¬ (1 ≤ v1.toInt ∧ v1.toInt ≤ 400) := h_4
      refine lv_if_eq (tgt := 32) hx hb dX11_spill_20 rfl (fun _ => ?_) (fun h => absurd h cq_eq_0_0)
      refine lv_iconst (v := (-1)) hx hb dX11_spill_32 kic_m1 ?_
      exact W.iret (v := (-1)) hx hb hr (fun t ht hW => ⟨⟨(-1), (cn, In, Fn), rfl, ⟨(Fr.mo Fr.rf (sbl rfl) (sbl rfl) (sbl rfl)), hB, trivial⟩, by rw [ht]; exact hP, hD⟩, hS.F ht⟩) hS.2.2 dX11_spill_33
  ·
    have h_2 : ¬ (0 ≤ v0.toInt ∧ v0.toInt ≤ (nI (cn 0)).toInt) := h_2
    refine lv_if_eq (tgt := 32) hx hb dX11_spill_9 rfl (fun _ => ?_) (fun h => absurd h cq_eq_0_0)
    refine lv_iconst (v := (-1)) hx hb dX11_spill_32 kic_m1 ?_
    exact W.iret (v := (-1)) hx hb hr (fun t ht hW => ⟨⟨(-1), (cn, In, Fn), rfl, ⟨(Fr.mo Fr.rf (sbl rfl) (sbl rfl) (sbl rfl)), hB, trivial⟩, by rw [ht]; exact hP, hD⟩, hS.F ht⟩) hS.2.2 dX11_spill_33
set_option maxRecDepth 100000 in
set_option maxHeartbeats 4000000 in
theorem q_Xstock (l : Launch) (D : va_G) (cI cB cZ : ClassId) (zz qq vv : Nat) (bt : Nat → Int32) (g : Nat → Nat) (ad : Nat → Nat → Nat) (cn : Nat → Nat) (In : Nat → Int32) (Fn : Nat → Nat → Int32) (v0 : Int32) (hB : CBX cn) : Met l yX11_stock (CWS yX11_stock cX11_stock 4 (some .int)) (RM 2 0 0) (PBrx [.ref (g 0), .int v0] D cI cB cZ zz qq vv bt (wX cI (D.1 99) zz g ad cn In Fn)) (vp_Si (fun _ => True)) 0 0 (fun _ => False) := by
  refine en_rx rfl pn_RX11 (Nat.le_of_ble_eq_true rfl) (fun p e s m below meth c hx hb hml hown S hr hlocks hnm hP hK hXS hS ls hl => ?_)
  have hl : lv_has ls 4 [(0, .ref (g 0)), (1, .int v0)] := hl
  have hb_cn : Hid (CBX cn) := hB
  replace hB : CBXh cn := hB
  refine lv_iload_n hx hb dX11_stock_0 rfl (lvA1 hl) ?_
  refine vp_callSi (runS_r (As := [.int v0]) (rest := []) S (q_l_isDay l D cI cB cZ v0) kS_RX11_99 hK hP [] rfl ⟨Nat.le_of_ble_eq_true rfl, Nat.le_of_ble_eq_true rfl⟩ ⟨Nat.le_of_ble_eq_true rfl, Nat.le_of_ble_eq_true rfl⟩ rfl hl.1 rfl (Nat.le_of_ble_eq_true rfl) dX11_stock_1) (fun r_1 h_2 => ?_)
  rcases h_2 with ⟨rfl, h_2⟩ | ⟨rfl, h_2⟩
  ·
    have h_2 : 0 ≤ v0.toInt ∧ v0.toInt ≤ 399 := h_2
    refine lv_if_ne (tgt := 11) hx hb dX11_stock_4 rfl (fun _ => ?_) (fun h => absurd h cq_eq_1_0)
    obtain ⟨d0, hd0, rfl⟩ := nI_of (x := v0) (fun q => by have := Int32.lt_iff_toInt_lt.mp q; have e : (0 : Int32).toInt = 0 := rfl; (first | omega | (have zz0 := Hid.u hb_cn; omega)))
    have td0 : (nI d0).toInt = (d0 : Int) := nI_toInt hd0
    have zd0 : (nI d0).toInt.toNat = d0 := by (first | omega | (have zz0 := Hid.u hb_cn; omega))
    refine lv_iconst (v := 0) hx hb dX11_stock_11 kic_0 ?_
    refine lv_istore_n (lv' := [(2, .int 0), (0, .ref (g 0)), (1, .int (nI d0))]) hx hb dX11_stock_12 rfl hl (ltb rfl) rfl (fun ls hl => ?_)
    refine lv_iconst (v := 0) hx hb dX11_stock_13 kic_0 ?_
    refine lv_istore_n (lv' := [(3, .int 0), (2, .int 0), (0, .ref (g 0)), (1, .int (nI d0))]) hx hb dX11_stock_14 rfl hl (ltb rfl) rfl (fun ls hl => ?_)
    have lp_15 : ∀ (n : Nat) (i15 : Nat) (x15_2 : Int32) , d0 + 1 - i15 < n → (i15 ≤ d0 + 1) → ∀ ls : Array Slot, lv_has ls 4 [(3, .int (nI i15)), (2, .int x15_2), (0, .ref (g 0)), (1, .int (nI d0))] → W p l e (RM 2 0 0) s m ([.ref (g 0), .int (nI d0)]).toArray below meth c s.heap [] 0 0 (MQ below (vp_Si (fun _ => True)) ([.ref (g 0), .int (nI d0)]).toArray s 0 0 (fun _ => False)) (F0 m 15 ls []) := by
      intro n15
      induction n15 with
      | zero => intros; (first | omega | (have zz0 := Hid.u hb_cn; omega))
      | succ n15 ih15 =>
        intro i15 x15_2 hmu15 hinv15 ls hl
        have hr15 := hinv15
        have ti15 : (nI i15).toInt = (i15 : Int) := nI_toInt (by (first | omega | (have zz0 := Hid.u hb_cn; omega)))
        refine lv_iload_n hx hb dX11_stock_15 rfl (lvA0 hl) ?_
        refine lv_iload_n hx hb dX11_stock_16 rfl (lvA3 hl) ?_
        refine lv_icmp_gt (tgt := 40) hx hb dX11_stock_17 rfl (fun c_3 => ?_) (fun c_3 => ?_)
        ·
          have tc_3 : ((nI d0).toInt : Int) < (nI i15).toInt := Int32.lt_iff_toInt_lt.mp c_3
          refine lv_iload_n hx hb dX11_stock_40 rfl (lvA1 hl) ?_
          exact W.iret (v := x15_2) hx hb hr (fun t ht hW => ⟨x15_2, rfl, trivial, ht⟩) (fun _ h => absurd h List.not_mem_nil) dX11_stock_41
        ·
          have tc_3 : ((nI i15).toInt : Int) ≤ (nI d0).toInt := Int32.le_iff_toInt_le.mp (Int32.not_lt.mp c_3)
          refine lv_iload_n hx hb dX11_stock_20 rfl (lvA1 hl) ?_
          refine lv_aload_n hx hb dX11_stock_21 rfl (lvA2 hl) ?_
          refine gf_RX11_47 S hK hP 0 xo_0 (v := .ref (g 8)) rfl dX11_stock_22 ?_
          refine gf_RX11_520 S hK hP 6 xo_6 (v := .ref (g 29)) rfl dX11_stock_25 ?_
          refine lv_iload_n hx hb dX11_stock_28 rfl (lvA0 hl) ?_
          refine vp_callSi (runS_r (As := [.ref (g 29), .int (nI i15)]) (rest := [.int x15_2]) S (q_l_at l D cI cB cZ (g 29) 400 (Fn 29) (nI i15) (by (first | omega | (have zz0 := Hid.u hb_cn; omega)))) kS_RX11_192 hK hP [16] (one_is xo_16) ⟨Nat.le_of_ble_eq_true rfl, Nat.le_of_ble_eq_true rfl⟩ ⟨Nat.le_of_ble_eq_true rfl, Nat.le_of_ble_eq_true rfl⟩ rfl hl.1 rfl (Nat.le_of_ble_eq_true rfl) dX11_stock_29) (fun r_4 h_5 => ?_)
          subst h_5
          refine lv_iadd hx hb dX11_stock_32 ?_
          refine lv_istore_n (lv' := [(2, .int (x15_2 + (atM (Fn 29) 400 (nI i15)))), (3, .int (nI i15)), (0, .ref (g 0)), (1, .int (nI d0))]) hx hb dX11_stock_33 rfl hl (ltb rfl) rfl (fun ls hl => ?_)
          refine lv_iinc (v := (nI (i15 + 1))) (lv' := [(3, .int (nI (i15 + 1))), (2, .int (x15_2 + (atM (Fn 29) 400 (nI i15)))), (0, .ref (g 0)), (1, .int (nI d0))]) hx hb dX11_stock_34 hl (k := 1) rfl (nI_1 _) (ltb rfl) rfl (fun ls hl => ?_)
          refine lv_goto (tgt := 15) hx hb dX11_stock_37 rfl ?_
          exact ih15 (i15 + 1) (x15_2 + (atM (Fn 29) 400 (nI i15))) (by (first | omega | (have zz0 := Hid.u hb_cn; omega))) (by (first | omega | (have zz0 := Hid.u hb_cn; omega))) ls (lv_sub hl [0, 1, 2, 3] rfl)
    exact lp_15 _ 0 0 (Nat.lt_succ_self _) (by (first | omega | (have zz0 := Hid.u hb_cn; omega))) ls (lv_sub hl [0, 1, 2, 3] rfl)
  ·
    have h_2 : ¬ (0 ≤ v0.toInt ∧ v0.toInt ≤ 399) := h_2
    refine lv_if_ne (tgt := 11) hx hb dX11_stock_4 rfl (fun h => absurd h cq_eq_0_0) (fun _ => ?_)
    refine lv_ldcw (v := (-1000000)) hx hb hown (S.2.2.2.2 _ (wk5_15 4 rfl rfl)) dX11_stock_7 ?_
    exact W.iret (v := (-1000000)) hx hb hr (fun t ht hW => ⟨(-1000000), rfl, trivial, ht⟩) (fun _ h => absurd h List.not_mem_nil) dX11_stock_10
set_option maxRecDepth 100000 in
set_option maxHeartbeats 4000000 in
theorem q_Xbelow (l : Launch) (D : va_G) (cI cB cZ : ClassId) (zz qq vv : Nat) (bt : Nat → Int32) (g : Nat → Nat) (ad : Nat → Nat → Nat) (cn : Nat → Nat) (In : Nat → Int32) (Fn : Nat → Nat → Int32) (v0 : Int32) (hB : CBX cn) : Met l yX11_below (CWS yX11_below cX11_below 4 (some .int)) (RM 2 0 0) (PBrx [.ref (g 0), .int v0] D cI cB cZ zz qq vv bt (wX cI (D.1 99) zz g ad cn In Fn)) (vp_Si (fun _ => True)) 0 0 (fun _ => False) := by
  refine en_rx rfl pn_RX11 (Nat.le_of_ble_eq_true rfl) (fun p e s m below meth c hx hb hml hown S hr hlocks hnm hP hK hXS hS ls hl => ?_)
  have hl : lv_has ls 4 [(0, .ref (g 0)), (1, .int v0)] := hl
  have hb_cn : Hid (CBX cn) := hB
  replace hB : CBXh cn := hB
  refine lv_iload_n hx hb dX11_below_0 rfl (lvA1 hl) ?_
  refine lv_sipush (v := (-10000)) hx hb dX11_below_1 (by decide) ?_
  refine lv_sipush (v := 10000) hx hb dX11_below_4 (by decide) ?_
  refine vp_callSi (runS_r (As := [.int v0, .int (-10000), .int 10000]) (rest := []) S (q_l_within l D cI cB cZ v0 (-10000) 10000) kS_RX11_80 hK hP [] rfl ⟨Nat.le_of_ble_eq_true rfl, Nat.le_of_ble_eq_true rfl⟩ ⟨Nat.le_of_ble_eq_true rfl, Nat.le_of_ble_eq_true rfl⟩ rfl hl.1 rfl (Nat.le_of_ble_eq_true rfl) dX11_below_7) (fun r_1 h_2 => ?_)
  rcases h_2 with ⟨rfl, h_2⟩ | ⟨rfl, h_2⟩
  ·
    have h_2 : (-10000) ≤ v0.toInt ∧ v0.toInt ≤ 10000 := h_2
    refine lv_if_ne (tgt := 15) hx hb dX11_below_10 rfl (fun _ => ?_) (fun h => absurd h cq_eq_1_0)
    refine lv_iconst (v := 0) hx hb dX11_below_15 kic_0 ?_
    refine lv_istore_n (lv' := [(2, .int 0), (0, .ref (g 0)), (1, .int v0)]) hx hb dX11_below_16 rfl hl (ltb rfl) rfl (fun ls hl => ?_)
    refine lv_iconst (v := 0) hx hb dX11_below_17 kic_0 ?_
    refine lv_istore_n (lv' := [(3, .int 0), (2, .int 0), (0, .ref (g 0)), (1, .int v0)]) hx hb dX11_below_18 rfl hl (ltb rfl) rfl (fun ls hl => ?_)
    have lp_19 : ∀ (n : Nat) (i19 : Nat) (x19_2 : Int32) , cn 0 + 1 - i19 < n → (i19 ≤ cn 0 + 1) → ∀ ls : Array Slot, lv_has ls 4 [(3, .int (nI i19)), (2, .int x19_2), (0, .ref (g 0)), (1, .int v0)] → W p l e (RM 2 0 0) s m ([.ref (g 0), .int v0]).toArray below meth c s.heap [] 0 0 (MQ below (vp_Si (fun _ => True)) ([.ref (g 0), .int v0]).toArray s 0 0 (fun _ => False)) (F0 m 19 ls []) := by
      intro n19
      induction n19 with
      | zero => intros; (first | omega | (have zz0 := Hid.u hb_cn; omega))
      | succ n19 ih19 =>
        intro i19 x19_2 hmu19 hinv19 ls hl
        have hr19 := hinv19
        have ti19 : (nI i19).toInt = (i19 : Int) := nI_toInt (by (first | omega | (have zz0 := Hid.u hb_cn; omega)))
        refine lv_iload_n hx hb dX11_below_19 rfl (lvA0 hl) ?_
        refine lv_aload_n hx hb dX11_below_20 rfl (lvA2 hl) ?_
        refine gf_RX11_103 S hK hP 0 xo_0 (v := .int (nI (cn 0))) rfl dX11_below_21 ?_
        have : (nI (cn 0)).toInt = (((cn 0) : Nat) : Int) := nI_toInt (by (first | omega | (have zz0 := Hid.u hb_cn; omega)))
        refine lv_icmp_gt (tgt := 54) hx hb dX11_below_24 rfl (fun c_3 => ?_) (fun c_3 => ?_)
        ·
          have tc_3 : ((nI (cn 0)).toInt : Int) < (nI i19).toInt := Int32.lt_iff_toInt_lt.mp c_3
          refine lv_bipush (v := (-2)) hx hb dX11_below_54 kbc_m2 ?_
          exact W.iret (v := (-2)) hx hb hr (fun t ht hW => ⟨(-2), rfl, trivial, ht⟩) (fun _ h => absurd h List.not_mem_nil) dX11_below_56
        ·
          have tc_3 : ((nI i19).toInt : Int) ≤ (nI (cn 0)).toInt := Int32.le_iff_toInt_le.mp (Int32.not_lt.mp c_3)
          refine lv_iload_n hx hb dX11_below_27 rfl (lvA1 hl) ?_
          refine lv_aload_n hx hb dX11_below_28 rfl (lvA2 hl) ?_
          refine gf_RX11_47 S hK hP 0 xo_0 (v := .ref (g 8)) rfl dX11_below_29 ?_
          refine gf_RX11_520 S hK hP 6 xo_6 (v := .ref (g 29)) rfl dX11_below_32 ?_
          refine lv_iload_n hx hb dX11_below_35 rfl (lvA0 hl) ?_
          refine vp_callSi (runS_r (As := [.ref (g 29), .int (nI i19)]) (rest := [.int x19_2]) S (q_l_at l D cI cB cZ (g 29) 400 (Fn 29) (nI i19) (by (first | omega | (have zz0 := Hid.u hb_cn; omega)))) kS_RX11_192 hK hP [16] (one_is xo_16) ⟨Nat.le_of_ble_eq_true rfl, Nat.le_of_ble_eq_true rfl⟩ ⟨Nat.le_of_ble_eq_true rfl, Nat.le_of_ble_eq_true rfl⟩ rfl hl.1 rfl (Nat.le_of_ble_eq_true rfl) dX11_below_36) (fun r_4 h_5 => ?_)
          subst h_5
          refine lv_iadd hx hb dX11_below_39 ?_
          refine lv_istore_n (lv' := [(2, .int (x19_2 + (atM (Fn 29) 400 (nI i19)))), (3, .int (nI i19)), (0, .ref (g 0)), (1, .int v0)]) hx hb dX11_below_40 rfl hl (ltb rfl) rfl (fun ls hl => ?_)
          refine lv_iload_n hx hb dX11_below_41 rfl (lvA0 hl) ?_
          refine lv_iload_n hx hb dX11_below_42 rfl (lvA3 hl) ?_
          refine lv_icmp_ge (tgt := 48) hx hb dX11_below_43 rfl (fun c_6 => ?_) (fun c_6 => ?_)
          ·
            have tc_6 : (v0.toInt : Int) ≤ (x19_2 + (atM (Fn 29) 400 (nI i19))).toInt := Int32.le_iff_toInt_le.mp c_6
            refine lv_iinc (v := (nI (i19 + 1))) (lv' := [(3, .int (nI (i19 + 1))), (2, .int (x19_2 + (atM (Fn 29) 400 (nI i19)))), (0, .ref (g 0)), (1, .int v0)]) hx hb dX11_below_48 hl (k := 1) rfl (nI_1 _) (ltb rfl) rfl (fun ls hl => ?_)
            refine lv_goto (tgt := 19) hx hb dX11_below_51 rfl ?_
            exact ih19 (i19 + 1) (x19_2 + (atM (Fn 29) 400 (nI i19))) (by (first | omega | (have zz0 := Hid.u hb_cn; omega))) (by (first | omega | (have zz0 := Hid.u hb_cn; omega))) ls (lv_sub hl [0, 1, 2, 3] rfl)
          ·
            have tc_6 : ((x19_2 + (atM (Fn 29) 400 (nI i19))).toInt : Int) < v0.toInt := Int32.lt_iff_toInt_lt.mp (Int32.not_le.mp c_6)
            refine lv_iload_n hx hb dX11_below_46 rfl (lvA1 hl) ?_
            exact W.iret (v := (nI i19)) hx hb hr (fun t ht hW => ⟨(nI i19), rfl, trivial, ht⟩) (fun _ h => absurd h List.not_mem_nil) dX11_below_47
    exact lp_19 _ 0 0 (Nat.lt_succ_self _) (by (first | omega | (have zz0 := Hid.u hb_cn; omega))) ls (lv_sub hl [0, 1, 2, 3] rfl)
  ·
    have h_2 : ¬ ((-10000) ≤ v0.toInt ∧ v0.toInt ≤ 10000) := h_2
    refine lv_if_ne (tgt := 15) hx hb dX11_below_10 rfl (fun h => absurd h cq_eq_0_0) (fun _ => ?_)
    refine lv_iconst (v := (-1)) hx hb dX11_below_13 kic_m1 ?_
    exact W.iret (v := (-1)) hx hb hr (fun t ht hW => ⟨(-1), rfl, trivial, ht⟩) (fun _ h => absurd h List.not_mem_nil) dX11_below_14
set_option maxRecDepth 100000 in
set_option maxHeartbeats 4000000 in
theorem q_Xlength (l : Launch) (D : va_G) (cI cB cZ : ClassId) (zz qq vv : Nat) (bt : Nat → Int32) (g : Nat → Nat) (ad : Nat → Nat → Nat) (cn : Nat → Nat) (In : Nat → Int32) (Fn : Nat → Nat → Int32)  (hB : CBX cn) : Met l yX8_length (CWS yX8_length cX8_length 1 (some .int)) (RM 0 0 0) (PBrx [.ref (g 5)] D cI cB cZ zz qq vv bt (wX cI (D.1 99) zz g ad cn In Fn)) (vp_Si (fun r => r = nI (cn 3))) 0 0 (fun _ => False) := by
  refine en_rx rfl pn_RX8 (Nat.le_of_ble_eq_true rfl) (fun p e s m below meth c hx hb hml hown S hr hlocks hnm hP hK hXS hS ls hl => ?_)
  have hl : lv_has ls 1 [(0, .ref (g 5))] := hl
  have hb_cn : Hid (CBX cn) := hB
  replace hB : CBXh cn := hB
  refine lv_aload_n hx hb dX8_length_0 rfl (lvA0 hl) ?_
  refine gf_RX8_13 S hK hP 1 xo_1 (v := .int (nI (cn 3))) rfl dX8_length_1 ?_
  exact W.iret (v := (nI (cn 3))) hx hb hr (fun t ht hW => ⟨(nI (cn 3)), rfl, rfl, ht⟩) (fun _ h => absurd h List.not_mem_nil) dX8_length_4
set_option maxRecDepth 100000 in
set_option maxHeartbeats 4000000 in
theorem q_Xtadd (l : Launch) (D : va_G) (cI cB cZ : ClassId) (zz qq vv : Nat) (bt : Nat → Int32) (g : Nat → Nat) (ad : Nat → Nat → Nat) (cn : Nat → Nat) (In : Nat → Int32) (Fn : Nat → Nat → Int32) (v0 : Int32) (sz : Nat) (hB : CBX cn) (h4 : cn 3 + 4 ≤ 200) : Met l yX8_add (CWS yX8_add cX8_add 3 none) (RM 1 0 0) (PBx [.ref (g 5), .int v0] D cI cB cZ zz qq vv bt (wX cI (D.1 99) zz g ad cn In Fn) sz) (va_Qv (fun (u : (Nat → Nat) × (Nat → Int32) × (Nat → Nat → Int32)) => (fun c2 I2 F2 => Fr [3] [] [40] cn In Fn c2 I2 F2 ∧ CBX c2 ∧ (c2 3 = cn 3 + 4)) u.1 u.2.1 u.2.2) (fun (u : (Nat → Nat) × (Nat → Int32) × (Nat → Nat → Int32)) (t : State) => va_P D vwCl (wX cI (D.1 99) zz g ad u.1 u.2.1 u.2.2) t.heap ∧ va_D (va_A (wX cI (D.1 99) zz g ad cn In Fn) sz) (wX cI (D.1 99) zz g ad u.1 u.2.1 u.2.2)) (va_A (wX cI (D.1 99) zz g ad cn In Fn) sz)) 0 0 (va_A (wX cI (D.1 99) zz g ad cn In Fn) sz) := by
  refine en_x (fun A => (va_Qv (fun (u : (Nat → Nat) × (Nat → Int32) × (Nat → Nat → Int32)) => (fun (c2 : Nat → Nat) (I2 : Nat → Int32) (F2 : Nat → Nat → Int32) => Fr [3] [] [40] cn In Fn c2 I2 F2 ∧ CBX c2 ∧ (c2 3 = cn 3 + 4)) u.1 u.2.1 u.2.2) (fun (u : (Nat → Nat) × (Nat → Int32) × (Nat → Nat → Int32)) (t : State) => va_P D vwCl (wX cI (D.1 99) zz g ad u.1 u.2.1 u.2.2) t.heap ∧ va_D A (wX cI (D.1 99) zz g ad u.1 u.2.1 u.2.2)) A)) rfl rfl pn_RX8 (Nat.le_of_ble_eq_true rfl) (fun p e s m below meth c A hx hb hml hown S hr hlocks hnm hA hP hK hD hXS hS ls hl => ?_)
  have hl : lv_has ls 3 [(0, .ref (g 5)), (1, .int v0)] := hl
  have hb_cn : Hid (CBX cn) := hB
  replace hB : CBXh cn := hB
  refine lv_bipush (v := 24) hx hb dX8_add_0 kbc_24 ?_
  refine lv_istore_n (lv' := [(2, .int 24), (0, .ref (g 5)), (1, .int v0)]) hx hb dX8_add_2 rfl hl (ltb rfl) rfl (fun ls hl => ?_)
  refine lv_iload_n hx hb dX8_add_3 rfl (lvA0 hl) ?_
  refine lv_if_lt (tgt := 47) hx hb dX8_add_4 rfl (fun h => absurd h cq_lt_24_0) (fun _ => ?_)
  refine lv_aload_n hx hb dX8_add_7 rfl (lvA1 hl) ?_
  refine gf_RX8_9 S hK hP 1 xo_1 (v := .ref (g 40)) rfl dX8_add_8 ?_
  refine lv_aload_n hx hb dX8_add_11 rfl (lvA1 hl) ?_
  refine gf_RX8_13 S hK hP 1 xo_1 (v := .int (nI (cn 3))) rfl dX8_add_12 ?_
  refine lv_iload_n hx hb dX8_add_15 rfl (lvA2 hl) ?_
  refine lv_iload_n hx hb dX8_add_16 rfl (lvA0 hl) ?_
  refine lv_ishr hx hb dX8_add_17 ?_
  refine lv_sipush (v := 255) hx hb dX8_add_18 (by decide) ?_
  refine lv_iand hx hb dX8_add_21 ?_
  have hFc := va_free (wc := [((g 40), .inl (cI, 200, .inl (Fn 40)))]) hD hS hA [2] (one_im xo_2)
  refine va_callv (runS_w (As := [.ref (g 40), .int (nI (cn 3)), .int ((v0 >>> (24 &&& 31)) &&& 255)]) (rest := []) S (q_l_put l D cI cB cZ (g 40) 200 (Fn 40) (nI (cn 3)) ((v0 >>> (24 &&& 31)) &&& 255) s.heap.size (by (first | omega | (have zz0 := Hid.u hb_cn; omega)))) kS_RX8_17 hK hP hD [2] (one_is xo_2) (one_im xo_2) rfl ⟨Nat.le_of_ble_eq_true rfl, Nat.le_of_ble_eq_true rfl⟩ ⟨Nat.le_of_ble_eq_true rfl, Nat.le_of_ble_eq_true rfl⟩ rfl hl.1 rfl (Nat.le_of_ble_eq_true rfl) dX8_add_22) hS (fun q _ h => hFc q h) hFc (fun u_3 t H1 locs ht hvm h_2 hB1 hz1 hk1 hS => ?_)
  obtain ⟨hP1, hD1⟩ := hB1
  rw [ht] at hP1
  obtain ⟨hP, hD⟩ := wset1 hP hD xo_2 hk1 hP1
  obtain rfl : u_3 = (putM (Fn 40) 200 (nI (cn 3)) ((v0 >>> (24 &&& 31)) &&& 255)) := h_2
  generalize H1 = H at hP hS ⊢
  have hP : va_P D vwCl (wX cI (D.1 99) zz g ad cn In (va_up Fn 40 (putM (Fn 40) 200 (nI (cn 3)) ((v0 >>> (24 &&& 31)) &&& 255)))) H := va_P_eq xsa_2 hP
  have hD : va_D A (wX cI (D.1 99) zz g ad cn In (va_up Fn 40 (putM (Fn 40) 200 (nI (cn 3)) ((v0 >>> (24 &&& 31)) &&& 255)))) := va_D_eq xsa_2 hD
  refine lv_aload_n hx hb dX8_add_25 rfl (lvA1 hl) ?_
  refine lv_aload_n hx hb dX8_add_26 rfl (lvA1 hl) ?_
  refine gf_RX8_13 S hK hP 1 xo_1 (v := .int (nI (cn 3))) rfl dX8_add_27 ?_
  refine lv_iconst (v := 1) hx hb dX8_add_30 kic_1 ?_
  refine lv_iadd hx hb dX8_add_31 ?_
  refine lv_topi (fun y_4 ey_4 => ?_)
  obtain rfl : y_4 = (nI ((cn 3) + 1)) := ey_4.trans (nI_add (cn 3) 1)
  refine lv_sipush (v := 200) hx hb dX8_add_32 (by decide) ?_
  refine va_mmin hx hb (by rw [hml]; exact hl.1.symm) hown (S.2.2.2.2 _ (wk3_3 10 rfl rfl)) (S.2.2.2.2 _ (wk2_13 10 rfl rfl)) (S.2.2.2.2 _ (wk1_0 3 rfl rfl)) (S.2.2.2.2 _ (wk2_13 11 rfl rfl)) (Nat.le_of_ble_eq_true rfl) (Nat.le_of_ble_eq_true rfl) (Nat.le_of_ble_eq_true rfl) (Nat.le_of_ble_eq_true rfl) dX8_add_35 ?_
  refine lv_topi (fun y_5 ey_5 => ?_)
  obtain rfl : y_5 = (nI ((cn 3) + 1)) := ey_5.trans (min200b (by (first | omega | (have zz0 := Hid.u hb_cn; omega))))
  refine pf_RX8_13 S hK hP hD hS 1 xo_1 (v := .int (nI ((cn 3) + 1))) (Nat.le_of_ble_eq_true rfl) rfl rfl dX8_add_38 (fun H locs hP hD hS => ?_)
  have hP : va_P D vwCl (wX cI (D.1 99) zz g ad (va_up cn 3 ((cn 3) + 1)) In (va_up Fn 40 (putM (Fn 40) 200 (nI (cn 3)) ((v0 >>> (24 &&& 31)) &&& 255)))) H := va_P_eq (xsf_1_1) hP
  have hD : va_D A (wX cI (D.1 99) zz g ad (va_up cn 3 ((cn 3) + 1)) In (va_up Fn 40 (putM (Fn 40) 200 (nI (cn 3)) ((v0 >>> (24 &&& 31)) &&& 255)))) := va_D_eq (xsf_1_1) hD
  refine lv_iinc (v := 16) (lv' := [(2, .int 16), (0, .ref (g 5)), (1, .int v0)]) hx hb dX8_add_41 hl (k := 0) rfl (by decide) (ltb rfl) rfl (fun ls hl => ?_)
  refine lv_goto (tgt := 3) hx hb dX8_add_44 rfl ?_
  refine lv_iload_n hx hb dX8_add_3 rfl (lvA0 hl) ?_
  refine lv_if_lt (tgt := 47) hx hb dX8_add_4 rfl (fun h => absurd h cq_lt_16_0) (fun _ => ?_)
  refine lv_aload_n hx hb dX8_add_7 rfl (lvA1 hl) ?_
  refine gf_RX8_9 S hK hP 1 xo_1 (v := .ref (g 40)) rfl dX8_add_8 ?_
  refine lv_aload_n hx hb dX8_add_11 rfl (lvA1 hl) ?_
  refine gf_RX8_13 S hK hP 1 xo_1 (v := .int (nI ((cn 3) + 1))) rfl dX8_add_12 ?_
  refine lv_iload_n hx hb dX8_add_15 rfl (lvA2 hl) ?_
  refine lv_iload_n hx hb dX8_add_16 rfl (lvA0 hl) ?_
  refine lv_ishr hx hb dX8_add_17 ?_
  refine lv_sipush (v := 255) hx hb dX8_add_18 (by decide) ?_
  refine lv_iand hx hb dX8_add_21 ?_
  have hFc := va_free (wc := [((g 40), .inl (cI, 200, .inl (putM (Fn 40) 200 (nI (cn 3)) ((v0 >>> (24 &&& 31)) &&& 255))))]) hD hS hA [2] (one_im xo_2)
  refine va_callv (runS_w (As := [.ref (g 40), .int (nI ((cn 3) + 1)), .int ((v0 >>> (16 &&& 31)) &&& 255)]) (rest := []) S (q_l_put l D cI cB cZ (g 40) 200 (putM (Fn 40) 200 (nI (cn 3)) ((v0 >>> (24 &&& 31)) &&& 255)) (nI ((cn 3) + 1)) ((v0 >>> (16 &&& 31)) &&& 255) H.size (by (first | omega | (have zz0 := Hid.u hb_cn; omega)))) kS_RX8_17 hK hP hD [2] (one_is xo_2) (one_im xo_2) rfl ⟨Nat.le_of_ble_eq_true rfl, Nat.le_of_ble_eq_true rfl⟩ ⟨Nat.le_of_ble_eq_true rfl, Nat.le_of_ble_eq_true rfl⟩ rfl hl.1 rfl (Nat.le_of_ble_eq_true rfl) dX8_add_22) hS (fun q _ h => hFc q h) hFc (fun u_8 t H1 locs ht hvm h_7 hB1 hz1 hk1 hS => ?_)
  obtain ⟨hP1, hD1⟩ := hB1
  rw [ht] at hP1
  obtain ⟨hP, hD⟩ := wset1 hP hD xo_2 hk1 hP1
  obtain rfl : u_8 = (putM (putM (Fn 40) 200 (nI (cn 3)) ((v0 >>> (24 &&& 31)) &&& 255)) 200 (nI ((cn 3) + 1)) ((v0 >>> (16 &&& 31)) &&& 255)) := h_7
  generalize H1 = H at hP hS ⊢
  have hP : va_P D vwCl (wX cI (D.1 99) zz g ad (va_up cn 3 ((cn 3) + 1)) In (va_up (va_up Fn 40 (putM (Fn 40) 200 (nI (cn 3)) ((v0 >>> (24 &&& 31)) &&& 255))) 40 (putM (putM (Fn 40) 200 (nI (cn 3)) ((v0 >>> (24 &&& 31)) &&& 255)) 200 (nI ((cn 3) + 1)) ((v0 >>> (16 &&& 31)) &&& 255)))) H := va_P_eq xsa_2 hP
  have hD : va_D A (wX cI (D.1 99) zz g ad (va_up cn 3 ((cn 3) + 1)) In (va_up (va_up Fn 40 (putM (Fn 40) 200 (nI (cn 3)) ((v0 >>> (24 &&& 31)) &&& 255))) 40 (putM (putM (Fn 40) 200 (nI (cn 3)) ((v0 >>> (24 &&& 31)) &&& 255)) 200 (nI ((cn 3) + 1)) ((v0 >>> (16 &&& 31)) &&& 255)))) := va_D_eq xsa_2 hD
  refine lv_aload_n hx hb dX8_add_25 rfl (lvA1 hl) ?_
  refine lv_aload_n hx hb dX8_add_26 rfl (lvA1 hl) ?_
  refine gf_RX8_13 S hK hP 1 xo_1 (v := .int (nI ((cn 3) + 1))) rfl dX8_add_27 ?_
  refine lv_iconst (v := 1) hx hb dX8_add_30 kic_1 ?_
  refine lv_iadd hx hb dX8_add_31 ?_
  refine lv_topi (fun y_9 ey_9 => ?_)
  obtain rfl : y_9 = (nI (((cn 3) + 1) + 1)) := ey_9.trans (nI_add ((cn 3) + 1) 1)
  refine lv_sipush (v := 200) hx hb dX8_add_32 (by decide) ?_
  refine va_mmin hx hb (by rw [hml]; exact hl.1.symm) hown (S.2.2.2.2 _ (wk3_3 10 rfl rfl)) (S.2.2.2.2 _ (wk2_13 10 rfl rfl)) (S.2.2.2.2 _ (wk1_0 3 rfl rfl)) (S.2.2.2.2 _ (wk2_13 11 rfl rfl)) (Nat.le_of_ble_eq_true rfl) (Nat.le_of_ble_eq_true rfl) (Nat.le_of_ble_eq_true rfl) (Nat.le_of_ble_eq_true rfl) dX8_add_35 ?_
  refine lv_topi (fun y_10 ey_10 => ?_)
  obtain rfl : y_10 = (nI (((cn 3) + 1) + 1)) := ey_10.trans (min200b (by (first | omega | (have zz0 := Hid.u hb_cn; omega))))
  refine pf_RX8_13 S hK hP hD hS 1 xo_1 (v := .int (nI (((cn 3) + 1) + 1))) (Nat.le_of_ble_eq_true rfl) rfl rfl dX8_add_38 (fun H locs hP hD hS => ?_)
  have hP : va_P D vwCl (wX cI (D.1 99) zz g ad (va_up (va_up cn 3 ((cn 3) + 1)) 3 (((cn 3) + 1) + 1)) In (va_up (va_up Fn 40 (putM (Fn 40) 200 (nI (cn 3)) ((v0 >>> (24 &&& 31)) &&& 255))) 40 (putM (putM (Fn 40) 200 (nI (cn 3)) ((v0 >>> (24 &&& 31)) &&& 255)) 200 (nI ((cn 3) + 1)) ((v0 >>> (16 &&& 31)) &&& 255)))) H := va_P_eq (xsf_1_1) hP
  have hD : va_D A (wX cI (D.1 99) zz g ad (va_up (va_up cn 3 ((cn 3) + 1)) 3 (((cn 3) + 1) + 1)) In (va_up (va_up Fn 40 (putM (Fn 40) 200 (nI (cn 3)) ((v0 >>> (24 &&& 31)) &&& 255))) 40 (putM (putM (Fn 40) 200 (nI (cn 3)) ((v0 >>> (24 &&& 31)) &&& 255)) 200 (nI ((cn 3) + 1)) ((v0 >>> (16 &&& 31)) &&& 255)))) := va_D_eq (xsf_1_1) hD
  refine lv_iinc (v := 8) (lv' := [(2, .int 8), (0, .ref (g 5)), (1, .int v0)]) hx hb dX8_add_41 hl (k := 0) rfl (by decide) (ltb rfl) rfl (fun ls hl => ?_)
  refine lv_goto (tgt := 3) hx hb dX8_add_44 rfl ?_
  refine lv_iload_n hx hb dX8_add_3 rfl (lvA0 hl) ?_
  refine lv_if_lt (tgt := 47) hx hb dX8_add_4 rfl (fun h => absurd h cq_lt_8_0) (fun _ => ?_)
  refine lv_aload_n hx hb dX8_add_7 rfl (lvA1 hl) ?_
  refine gf_RX8_9 S hK hP 1 xo_1 (v := .ref (g 40)) rfl dX8_add_8 ?_
  refine lv_aload_n hx hb dX8_add_11 rfl (lvA1 hl) ?_
  refine gf_RX8_13 S hK hP 1 xo_1 (v := .int (nI (((cn 3) + 1) + 1))) rfl dX8_add_12 ?_
  refine lv_iload_n hx hb dX8_add_15 rfl (lvA2 hl) ?_
  refine lv_iload_n hx hb dX8_add_16 rfl (lvA0 hl) ?_
  refine lv_ishr hx hb dX8_add_17 ?_
  refine lv_sipush (v := 255) hx hb dX8_add_18 (by decide) ?_
  refine lv_iand hx hb dX8_add_21 ?_
  have hFc := va_free (wc := [((g 40), .inl (cI, 200, .inl (putM (putM (Fn 40) 200 (nI (cn 3)) ((v0 >>> (24 &&& 31)) &&& 255)) 200 (nI ((cn 3) + 1)) ((v0 >>> (16 &&& 31)) &&& 255))))]) hD hS hA [2] (one_im xo_2)
  refine va_callv (runS_w (As := [.ref (g 40), .int (nI (((cn 3) + 1) + 1)), .int ((v0 >>> (8 &&& 31)) &&& 255)]) (rest := []) S (q_l_put l D cI cB cZ (g 40) 200 (putM (putM (Fn 40) 200 (nI (cn 3)) ((v0 >>> (24 &&& 31)) &&& 255)) 200 (nI ((cn 3) + 1)) ((v0 >>> (16 &&& 31)) &&& 255)) (nI (((cn 3) + 1) + 1)) ((v0 >>> (8 &&& 31)) &&& 255) H.size (by (first | omega | (have zz0 := Hid.u hb_cn; omega)))) kS_RX8_17 hK hP hD [2] (one_is xo_2) (one_im xo_2) rfl ⟨Nat.le_of_ble_eq_true rfl, Nat.le_of_ble_eq_true rfl⟩ ⟨Nat.le_of_ble_eq_true rfl, Nat.le_of_ble_eq_true rfl⟩ rfl hl.1 rfl (Nat.le_of_ble_eq_true rfl) dX8_add_22) hS (fun q _ h => hFc q h) hFc (fun u_13 t H1 locs ht hvm h_12 hB1 hz1 hk1 hS => ?_)
  obtain ⟨hP1, hD1⟩ := hB1
  rw [ht] at hP1
  obtain ⟨hP, hD⟩ := wset1 hP hD xo_2 hk1 hP1
  obtain rfl : u_13 = (putM (putM (putM (Fn 40) 200 (nI (cn 3)) ((v0 >>> (24 &&& 31)) &&& 255)) 200 (nI ((cn 3) + 1)) ((v0 >>> (16 &&& 31)) &&& 255)) 200 (nI (((cn 3) + 1) + 1)) ((v0 >>> (8 &&& 31)) &&& 255)) := h_12
  generalize H1 = H at hP hS ⊢
  have hP : va_P D vwCl (wX cI (D.1 99) zz g ad (va_up (va_up cn 3 ((cn 3) + 1)) 3 (((cn 3) + 1) + 1)) In (va_up (va_up (va_up Fn 40 (putM (Fn 40) 200 (nI (cn 3)) ((v0 >>> (24 &&& 31)) &&& 255))) 40 (putM (putM (Fn 40) 200 (nI (cn 3)) ((v0 >>> (24 &&& 31)) &&& 255)) 200 (nI ((cn 3) + 1)) ((v0 >>> (16 &&& 31)) &&& 255))) 40 (putM (putM (putM (Fn 40) 200 (nI (cn 3)) ((v0 >>> (24 &&& 31)) &&& 255)) 200 (nI ((cn 3) + 1)) ((v0 >>> (16 &&& 31)) &&& 255)) 200 (nI (((cn 3) + 1) + 1)) ((v0 >>> (8 &&& 31)) &&& 255)))) H := va_P_eq xsa_2 hP
  have hD : va_D A (wX cI (D.1 99) zz g ad (va_up (va_up cn 3 ((cn 3) + 1)) 3 (((cn 3) + 1) + 1)) In (va_up (va_up (va_up Fn 40 (putM (Fn 40) 200 (nI (cn 3)) ((v0 >>> (24 &&& 31)) &&& 255))) 40 (putM (putM (Fn 40) 200 (nI (cn 3)) ((v0 >>> (24 &&& 31)) &&& 255)) 200 (nI ((cn 3) + 1)) ((v0 >>> (16 &&& 31)) &&& 255))) 40 (putM (putM (putM (Fn 40) 200 (nI (cn 3)) ((v0 >>> (24 &&& 31)) &&& 255)) 200 (nI ((cn 3) + 1)) ((v0 >>> (16 &&& 31)) &&& 255)) 200 (nI (((cn 3) + 1) + 1)) ((v0 >>> (8 &&& 31)) &&& 255)))) := va_D_eq xsa_2 hD
  refine lv_aload_n hx hb dX8_add_25 rfl (lvA1 hl) ?_
  refine lv_aload_n hx hb dX8_add_26 rfl (lvA1 hl) ?_
  refine gf_RX8_13 S hK hP 1 xo_1 (v := .int (nI (((cn 3) + 1) + 1))) rfl dX8_add_27 ?_
  refine lv_iconst (v := 1) hx hb dX8_add_30 kic_1 ?_
  refine lv_iadd hx hb dX8_add_31 ?_
  refine lv_topi (fun y_14 ey_14 => ?_)
  obtain rfl : y_14 = (nI ((((cn 3) + 1) + 1) + 1)) := ey_14.trans (nI_add (((cn 3) + 1) + 1) 1)
  refine lv_sipush (v := 200) hx hb dX8_add_32 (by decide) ?_
  refine va_mmin hx hb (by rw [hml]; exact hl.1.symm) hown (S.2.2.2.2 _ (wk3_3 10 rfl rfl)) (S.2.2.2.2 _ (wk2_13 10 rfl rfl)) (S.2.2.2.2 _ (wk1_0 3 rfl rfl)) (S.2.2.2.2 _ (wk2_13 11 rfl rfl)) (Nat.le_of_ble_eq_true rfl) (Nat.le_of_ble_eq_true rfl) (Nat.le_of_ble_eq_true rfl) (Nat.le_of_ble_eq_true rfl) dX8_add_35 ?_
  refine lv_topi (fun y_15 ey_15 => ?_)
  obtain rfl : y_15 = (nI ((((cn 3) + 1) + 1) + 1)) := ey_15.trans (min200b (by (first | omega | (have zz0 := Hid.u hb_cn; omega))))
  refine pf_RX8_13 S hK hP hD hS 1 xo_1 (v := .int (nI ((((cn 3) + 1) + 1) + 1))) (Nat.le_of_ble_eq_true rfl) rfl rfl dX8_add_38 (fun H locs hP hD hS => ?_)
  have hP : va_P D vwCl (wX cI (D.1 99) zz g ad (va_up (va_up (va_up cn 3 ((cn 3) + 1)) 3 (((cn 3) + 1) + 1)) 3 ((((cn 3) + 1) + 1) + 1)) In (va_up (va_up (va_up Fn 40 (putM (Fn 40) 200 (nI (cn 3)) ((v0 >>> (24 &&& 31)) &&& 255))) 40 (putM (putM (Fn 40) 200 (nI (cn 3)) ((v0 >>> (24 &&& 31)) &&& 255)) 200 (nI ((cn 3) + 1)) ((v0 >>> (16 &&& 31)) &&& 255))) 40 (putM (putM (putM (Fn 40) 200 (nI (cn 3)) ((v0 >>> (24 &&& 31)) &&& 255)) 200 (nI ((cn 3) + 1)) ((v0 >>> (16 &&& 31)) &&& 255)) 200 (nI (((cn 3) + 1) + 1)) ((v0 >>> (8 &&& 31)) &&& 255)))) H := va_P_eq (xsf_1_1) hP
  have hD : va_D A (wX cI (D.1 99) zz g ad (va_up (va_up (va_up cn 3 ((cn 3) + 1)) 3 (((cn 3) + 1) + 1)) 3 ((((cn 3) + 1) + 1) + 1)) In (va_up (va_up (va_up Fn 40 (putM (Fn 40) 200 (nI (cn 3)) ((v0 >>> (24 &&& 31)) &&& 255))) 40 (putM (putM (Fn 40) 200 (nI (cn 3)) ((v0 >>> (24 &&& 31)) &&& 255)) 200 (nI ((cn 3) + 1)) ((v0 >>> (16 &&& 31)) &&& 255))) 40 (putM (putM (putM (Fn 40) 200 (nI (cn 3)) ((v0 >>> (24 &&& 31)) &&& 255)) 200 (nI ((cn 3) + 1)) ((v0 >>> (16 &&& 31)) &&& 255)) 200 (nI (((cn 3) + 1) + 1)) ((v0 >>> (8 &&& 31)) &&& 255)))) := va_D_eq (xsf_1_1) hD
  refine lv_iinc (v := 0) (lv' := [(2, .int 0), (0, .ref (g 5)), (1, .int v0)]) hx hb dX8_add_41 hl (k := 0) rfl (by decide) (ltb rfl) rfl (fun ls hl => ?_)
  refine lv_goto (tgt := 3) hx hb dX8_add_44 rfl ?_
  refine lv_iload_n hx hb dX8_add_3 rfl (lvA0 hl) ?_
  refine lv_if_lt (tgt := 47) hx hb dX8_add_4 rfl (fun h => absurd h cq_lt_0_0) (fun _ => ?_)
  refine lv_aload_n hx hb dX8_add_7 rfl (lvA1 hl) ?_
  refine gf_RX8_9 S hK hP 1 xo_1 (v := .ref (g 40)) rfl dX8_add_8 ?_
  refine lv_aload_n hx hb dX8_add_11 rfl (lvA1 hl) ?_
  refine gf_RX8_13 S hK hP 1 xo_1 (v := .int (nI ((((cn 3) + 1) + 1) + 1))) rfl dX8_add_12 ?_
  refine lv_iload_n hx hb dX8_add_15 rfl (lvA2 hl) ?_
  refine lv_iload_n hx hb dX8_add_16 rfl (lvA0 hl) ?_
  refine lv_ishr hx hb dX8_add_17 ?_
  refine lv_sipush (v := 255) hx hb dX8_add_18 (by decide) ?_
  refine lv_iand hx hb dX8_add_21 ?_
  have hFc := va_free (wc := [((g 40), .inl (cI, 200, .inl (putM (putM (putM (Fn 40) 200 (nI (cn 3)) ((v0 >>> (24 &&& 31)) &&& 255)) 200 (nI ((cn 3) + 1)) ((v0 >>> (16 &&& 31)) &&& 255)) 200 (nI (((cn 3) + 1) + 1)) ((v0 >>> (8 &&& 31)) &&& 255))))]) hD hS hA [2] (one_im xo_2)
  refine va_callv (runS_w (As := [.ref (g 40), .int (nI ((((cn 3) + 1) + 1) + 1)), .int ((v0 >>> (0 &&& 31)) &&& 255)]) (rest := []) S (q_l_put l D cI cB cZ (g 40) 200 (putM (putM (putM (Fn 40) 200 (nI (cn 3)) ((v0 >>> (24 &&& 31)) &&& 255)) 200 (nI ((cn 3) + 1)) ((v0 >>> (16 &&& 31)) &&& 255)) 200 (nI (((cn 3) + 1) + 1)) ((v0 >>> (8 &&& 31)) &&& 255)) (nI ((((cn 3) + 1) + 1) + 1)) ((v0 >>> (0 &&& 31)) &&& 255) H.size (by (first | omega | (have zz0 := Hid.u hb_cn; omega)))) kS_RX8_17 hK hP hD [2] (one_is xo_2) (one_im xo_2) rfl ⟨Nat.le_of_ble_eq_true rfl, Nat.le_of_ble_eq_true rfl⟩ ⟨Nat.le_of_ble_eq_true rfl, Nat.le_of_ble_eq_true rfl⟩ rfl hl.1 rfl (Nat.le_of_ble_eq_true rfl) dX8_add_22) hS (fun q _ h => hFc q h) hFc (fun u_18 t H1 locs ht hvm h_17 hB1 hz1 hk1 hS => ?_)
  obtain ⟨hP1, hD1⟩ := hB1
  rw [ht] at hP1
  obtain ⟨hP, hD⟩ := wset1 hP hD xo_2 hk1 hP1
  obtain rfl : u_18 = (putM (putM (putM (putM (Fn 40) 200 (nI (cn 3)) ((v0 >>> (24 &&& 31)) &&& 255)) 200 (nI ((cn 3) + 1)) ((v0 >>> (16 &&& 31)) &&& 255)) 200 (nI (((cn 3) + 1) + 1)) ((v0 >>> (8 &&& 31)) &&& 255)) 200 (nI ((((cn 3) + 1) + 1) + 1)) ((v0 >>> (0 &&& 31)) &&& 255)) := h_17
  generalize H1 = H at hP hS ⊢
  have hP : va_P D vwCl (wX cI (D.1 99) zz g ad (va_up (va_up (va_up cn 3 ((cn 3) + 1)) 3 (((cn 3) + 1) + 1)) 3 ((((cn 3) + 1) + 1) + 1)) In (va_up (va_up (va_up (va_up Fn 40 (putM (Fn 40) 200 (nI (cn 3)) ((v0 >>> (24 &&& 31)) &&& 255))) 40 (putM (putM (Fn 40) 200 (nI (cn 3)) ((v0 >>> (24 &&& 31)) &&& 255)) 200 (nI ((cn 3) + 1)) ((v0 >>> (16 &&& 31)) &&& 255))) 40 (putM (putM (putM (Fn 40) 200 (nI (cn 3)) ((v0 >>> (24 &&& 31)) &&& 255)) 200 (nI ((cn 3) + 1)) ((v0 >>> (16 &&& 31)) &&& 255)) 200 (nI (((cn 3) + 1) + 1)) ((v0 >>> (8 &&& 31)) &&& 255))) 40 (putM (putM (putM (putM (Fn 40) 200 (nI (cn 3)) ((v0 >>> (24 &&& 31)) &&& 255)) 200 (nI ((cn 3) + 1)) ((v0 >>> (16 &&& 31)) &&& 255)) 200 (nI (((cn 3) + 1) + 1)) ((v0 >>> (8 &&& 31)) &&& 255)) 200 (nI ((((cn 3) + 1) + 1) + 1)) ((v0 >>> (0 &&& 31)) &&& 255)))) H := va_P_eq xsa_2 hP
  have hD : va_D A (wX cI (D.1 99) zz g ad (va_up (va_up (va_up cn 3 ((cn 3) + 1)) 3 (((cn 3) + 1) + 1)) 3 ((((cn 3) + 1) + 1) + 1)) In (va_up (va_up (va_up (va_up Fn 40 (putM (Fn 40) 200 (nI (cn 3)) ((v0 >>> (24 &&& 31)) &&& 255))) 40 (putM (putM (Fn 40) 200 (nI (cn 3)) ((v0 >>> (24 &&& 31)) &&& 255)) 200 (nI ((cn 3) + 1)) ((v0 >>> (16 &&& 31)) &&& 255))) 40 (putM (putM (putM (Fn 40) 200 (nI (cn 3)) ((v0 >>> (24 &&& 31)) &&& 255)) 200 (nI ((cn 3) + 1)) ((v0 >>> (16 &&& 31)) &&& 255)) 200 (nI (((cn 3) + 1) + 1)) ((v0 >>> (8 &&& 31)) &&& 255))) 40 (putM (putM (putM (putM (Fn 40) 200 (nI (cn 3)) ((v0 >>> (24 &&& 31)) &&& 255)) 200 (nI ((cn 3) + 1)) ((v0 >>> (16 &&& 31)) &&& 255)) 200 (nI (((cn 3) + 1) + 1)) ((v0 >>> (8 &&& 31)) &&& 255)) 200 (nI ((((cn 3) + 1) + 1) + 1)) ((v0 >>> (0 &&& 31)) &&& 255)))) := va_D_eq xsa_2 hD
  refine lv_aload_n hx hb dX8_add_25 rfl (lvA1 hl) ?_
  refine lv_aload_n hx hb dX8_add_26 rfl (lvA1 hl) ?_
  refine gf_RX8_13 S hK hP 1 xo_1 (v := .int (nI ((((cn 3) + 1) + 1) + 1))) rfl dX8_add_27 ?_
  refine lv_iconst (v := 1) hx hb dX8_add_30 kic_1 ?_
  refine lv_iadd hx hb dX8_add_31 ?_
  refine lv_topi (fun y_19 ey_19 => ?_)
  obtain rfl : y_19 = (nI (((((cn 3) + 1) + 1) + 1) + 1)) := ey_19.trans (nI_add ((((cn 3) + 1) + 1) + 1) 1)
  refine lv_sipush (v := 200) hx hb dX8_add_32 (by decide) ?_
  refine va_mmin hx hb (by rw [hml]; exact hl.1.symm) hown (S.2.2.2.2 _ (wk3_3 10 rfl rfl)) (S.2.2.2.2 _ (wk2_13 10 rfl rfl)) (S.2.2.2.2 _ (wk1_0 3 rfl rfl)) (S.2.2.2.2 _ (wk2_13 11 rfl rfl)) (Nat.le_of_ble_eq_true rfl) (Nat.le_of_ble_eq_true rfl) (Nat.le_of_ble_eq_true rfl) (Nat.le_of_ble_eq_true rfl) dX8_add_35 ?_
  refine lv_topi (fun y_20 ey_20 => ?_)
  obtain rfl : y_20 = (nI (((((cn 3) + 1) + 1) + 1) + 1)) := ey_20.trans (min200b (by (first | omega | (have zz0 := Hid.u hb_cn; omega))))
  refine pf_RX8_13 S hK hP hD hS 1 xo_1 (v := .int (nI (((((cn 3) + 1) + 1) + 1) + 1))) (Nat.le_of_ble_eq_true rfl) rfl rfl dX8_add_38 (fun H locs hP hD hS => ?_)
  have hP : va_P D vwCl (wX cI (D.1 99) zz g ad (va_up (va_up (va_up (va_up cn 3 ((cn 3) + 1)) 3 (((cn 3) + 1) + 1)) 3 ((((cn 3) + 1) + 1) + 1)) 3 (((((cn 3) + 1) + 1) + 1) + 1)) In (va_up (va_up (va_up (va_up Fn 40 (putM (Fn 40) 200 (nI (cn 3)) ((v0 >>> (24 &&& 31)) &&& 255))) 40 (putM (putM (Fn 40) 200 (nI (cn 3)) ((v0 >>> (24 &&& 31)) &&& 255)) 200 (nI ((cn 3) + 1)) ((v0 >>> (16 &&& 31)) &&& 255))) 40 (putM (putM (putM (Fn 40) 200 (nI (cn 3)) ((v0 >>> (24 &&& 31)) &&& 255)) 200 (nI ((cn 3) + 1)) ((v0 >>> (16 &&& 31)) &&& 255)) 200 (nI (((cn 3) + 1) + 1)) ((v0 >>> (8 &&& 31)) &&& 255))) 40 (putM (putM (putM (putM (Fn 40) 200 (nI (cn 3)) ((v0 >>> (24 &&& 31)) &&& 255)) 200 (nI ((cn 3) + 1)) ((v0 >>> (16 &&& 31)) &&& 255)) 200 (nI (((cn 3) + 1) + 1)) ((v0 >>> (8 &&& 31)) &&& 255)) 200 (nI ((((cn 3) + 1) + 1) + 1)) ((v0 >>> (0 &&& 31)) &&& 255)))) H := va_P_eq (xsf_1_1) hP
  have hD : va_D A (wX cI (D.1 99) zz g ad (va_up (va_up (va_up (va_up cn 3 ((cn 3) + 1)) 3 (((cn 3) + 1) + 1)) 3 ((((cn 3) + 1) + 1) + 1)) 3 (((((cn 3) + 1) + 1) + 1) + 1)) In (va_up (va_up (va_up (va_up Fn 40 (putM (Fn 40) 200 (nI (cn 3)) ((v0 >>> (24 &&& 31)) &&& 255))) 40 (putM (putM (Fn 40) 200 (nI (cn 3)) ((v0 >>> (24 &&& 31)) &&& 255)) 200 (nI ((cn 3) + 1)) ((v0 >>> (16 &&& 31)) &&& 255))) 40 (putM (putM (putM (Fn 40) 200 (nI (cn 3)) ((v0 >>> (24 &&& 31)) &&& 255)) 200 (nI ((cn 3) + 1)) ((v0 >>> (16 &&& 31)) &&& 255)) 200 (nI (((cn 3) + 1) + 1)) ((v0 >>> (8 &&& 31)) &&& 255))) 40 (putM (putM (putM (putM (Fn 40) 200 (nI (cn 3)) ((v0 >>> (24 &&& 31)) &&& 255)) 200 (nI ((cn 3) + 1)) ((v0 >>> (16 &&& 31)) &&& 255)) 200 (nI (((cn 3) + 1) + 1)) ((v0 >>> (8 &&& 31)) &&& 255)) 200 (nI ((((cn 3) + 1) + 1) + 1)) ((v0 >>> (0 &&& 31)) &&& 255)))) := va_D_eq (xsf_1_1) hD
  refine lv_iinc (v := (-8)) (lv' := [(2, .int (-8)), (0, .ref (g 5)), (1, .int v0)]) hx hb dX8_add_41 hl (k := 0) rfl (by decide) (ltb rfl) rfl (fun ls hl => ?_)
  refine lv_goto (tgt := 3) hx hb dX8_add_44 rfl ?_
  refine lv_iload_n hx hb dX8_add_3 rfl (lvA0 hl) ?_
  refine lv_if_lt (tgt := 47) hx hb dX8_add_4 rfl (fun _ => ?_) (fun h => absurd h cq_lt_m8_0)
  exact W.vret hx hb hr (fun t ht hW => ⟨⟨((va_up (va_up (va_up (va_up cn 3 ((cn 3) + 1)) 3 (((cn 3) + 1) + 1)) 3 ((((cn 3) + 1) + 1) + 1)) 3 (((((cn 3) + 1) + 1) + 1) + 1)), In, (va_up (va_up (va_up (va_up Fn 40 (putM (Fn 40) 200 (nI (cn 3)) ((v0 >>> (24 &&& 31)) &&& 255))) 40 (putM (putM (Fn 40) 200 (nI (cn 3)) ((v0 >>> (24 &&& 31)) &&& 255)) 200 (nI ((cn 3) + 1)) ((v0 >>> (16 &&& 31)) &&& 255))) 40 (putM (putM (putM (Fn 40) 200 (nI (cn 3)) ((v0 >>> (24 &&& 31)) &&& 255)) 200 (nI ((cn 3) + 1)) ((v0 >>> (16 &&& 31)) &&& 255)) 200 (nI (((cn 3) + 1) + 1)) ((v0 >>> (8 &&& 31)) &&& 255))) 40 (putM (putM (putM (putM (Fn 40) 200 (nI (cn 3)) ((v0 >>> (24 &&& 31)) &&& 255)) 200 (nI ((cn 3) + 1)) ((v0 >>> (16 &&& 31)) &&& 255)) 200 (nI (((cn 3) + 1) + 1)) ((v0 >>> (8 &&& 31)) &&& 255)) 200 (nI ((((cn 3) + 1) + 1) + 1)) ((v0 >>> (0 &&& 31)) &&& 255)))), rfl, ⟨(Fr.mo (Fr.f 40 (Fr.f 40 (Fr.f 40 (Fr.f 40 (Fr.c 3 (Fr.c 3 (Fr.c 3 (Fr.c 3 Fr.rf)))))))) (sbl rfl) (sbl rfl) (sbl rfl)), (CBX.cg (c2 := (va_up (va_up (va_up (va_up cn 3 ((cn 3) + 1)) 3 (((cn 3) + 1) + 1)) 3 ((((cn 3) + 1) + 1) + 1)) 3 (((((cn 3) + 1) + 1) + 1) + 1))) (CBX.u3 (v := (((((cn 3) + 1) + 1) + 1) + 1)) hB (show (((((cn 3) + 1) + 1) + 1) + 1) ≤ 200 by (first | omega | (have zz0 := Hid.u hb_cn; omega)))) rfl rfl rfl rfl rfl rfl rfl rfl rfl rfl rfl rfl rfl rfl rfl rfl rfl rfl), (by show (va_up (va_up (va_up (va_up cn 3 ((cn 3) + 1)) 3 (((cn 3) + 1) + 1)) 3 ((((cn 3) + 1) + 1) + 1)) 3 (((((cn 3) + 1) + 1) + 1) + 1)) 3 = cn 3 + 4; rfl)⟩, by rw [ht]; exact hP, hD⟩, hS.F ht⟩) hS.2.2 dX8_add_47
set_option maxRecDepth 100000 in
set_option maxHeartbeats 4000000 in
theorem q_Xclear (l : Launch) (D : va_G) (cI cB cZ : ClassId) (zz qq vv : Nat) (bt : Nat → Int32) (g : Nat → Nat) (ad : Nat → Nat → Nat) (cn : Nat → Nat) (In : Nat → Int32) (Fn : Nat → Nat → Int32)  (sz : Nat) (hB : CBX cn) : Met l yX8_clear (CWS yX8_clear cX8_clear 1 none) (RM 0 0 0) (PBx [.ref (g 5)] D cI cB cZ zz qq vv bt (wX cI (D.1 99) zz g ad cn In Fn) sz) (va_Qv (fun (u : (Nat → Nat) × (Nat → Int32) × (Nat → Nat → Int32)) => (fun c2 I2 F2 => Fr [3] [] [] cn In Fn c2 I2 F2 ∧ CBX c2 ∧ (c2 3 = 0)) u.1 u.2.1 u.2.2) (fun (u : (Nat → Nat) × (Nat → Int32) × (Nat → Nat → Int32)) (t : State) => va_P D vwCl (wX cI (D.1 99) zz g ad u.1 u.2.1 u.2.2) t.heap ∧ va_D (va_A (wX cI (D.1 99) zz g ad cn In Fn) sz) (wX cI (D.1 99) zz g ad u.1 u.2.1 u.2.2)) (va_A (wX cI (D.1 99) zz g ad cn In Fn) sz)) 0 0 (va_A (wX cI (D.1 99) zz g ad cn In Fn) sz) := by
  refine en_x (fun A => (va_Qv (fun (u : (Nat → Nat) × (Nat → Int32) × (Nat → Nat → Int32)) => (fun (c2 : Nat → Nat) (I2 : Nat → Int32) (F2 : Nat → Nat → Int32) => Fr [3] [] [] cn In Fn c2 I2 F2 ∧ CBX c2 ∧ (c2 3 = 0)) u.1 u.2.1 u.2.2) (fun (u : (Nat → Nat) × (Nat → Int32) × (Nat → Nat → Int32)) (t : State) => va_P D vwCl (wX cI (D.1 99) zz g ad u.1 u.2.1 u.2.2) t.heap ∧ va_D A (wX cI (D.1 99) zz g ad u.1 u.2.1 u.2.2)) A)) rfl rfl pn_RX8 (Nat.le_of_ble_eq_true rfl) (fun p e s m below meth c A hx hb hml hown S hr hlocks hnm hA hP hK hD hXS hS ls hl => ?_)
  have hl : lv_has ls 1 [(0, .ref (g 5))] := hl
  have hb_cn : Hid (CBX cn) := hB
  replace hB : CBXh cn := hB
  refine lv_aload_n hx hb dX8_clear_0 rfl (lvA0 hl) ?_
  refine lv_iconst (v := 0) hx hb dX8_clear_1 kic_0 ?_
  refine pf_RX8_13 S hK hP hD hS 1 xo_1 (v := .int 0) (Nat.le_of_ble_eq_true rfl) rfl rfl dX8_clear_2 (fun H locs hP hD hS => ?_)
  have hP : va_P D vwCl (wX cI (D.1 99) zz g ad (va_up cn 3 0) In Fn) H := va_P_eq (xsf_1_1) hP
  have hD : va_D A (wX cI (D.1 99) zz g ad (va_up cn 3 0) In Fn) := va_D_eq (xsf_1_1) hD
  exact W.vret hx hb hr (fun t ht hW => ⟨⟨((va_up cn 3 0), In, Fn), rfl, ⟨(Fr.mo (Fr.c 3 Fr.rf) (sbl rfl) (sbl rfl) (sbl rfl)), (CBX.u3 (v := 0) hB (show 0 ≤ 200 by (first | omega | (have zz0 := Hid.u hb_cn; omega)))), (by show (va_up cn 3 0) 3 = 0; rfl)⟩, by rw [ht]; exact hP, hD⟩, hS.F ht⟩) hS.2.2 dX8_clear_5
set_option maxRecDepth 100000 in
set_option maxHeartbeats 4000000 in
theorem q_Xtat (l : Launch) (D : va_G) (cI cB cZ : ClassId) (zz qq vv : Nat) (bt : Nat → Int32) (g : Nat → Nat) (ad : Nat → Nat → Nat) (cn : Nat → Nat) (In : Nat → Int32) (Fn : Nat → Nat → Int32) (v0 : Int32) (hB : CBX cn) : Met l yX8_at (CWS yX8_at cX8_at 2 (some .int)) (RM 1 0 0) (PBrx [.ref (g 5), .int v0] D cI cB cZ zz qq vv bt (wX cI (D.1 99) zz g ad cn In Fn)) (vp_Si (fun _ => True)) 0 0 (fun _ => False) := by
  refine en_rx rfl pn_RX8 (Nat.le_of_ble_eq_true rfl) (fun p e s m below meth c hx hb hml hown S hr hlocks hnm hP hK hXS hS ls hl => ?_)
  have hl : lv_has ls 2 [(0, .ref (g 5)), (1, .int v0)] := hl
  have hb_cn : Hid (CBX cn) := hB
  replace hB : CBXh cn := hB
  refine lv_aload_n hx hb dX8_at_0 rfl (lvA0 hl) ?_
  refine gf_RX8_9 S hK hP 1 xo_1 (v := .ref (g 40)) rfl dX8_at_1 ?_
  refine lv_iload_n hx hb dX8_at_4 rfl (lvA1 hl) ?_
  refine vp_callSi (runS_r (As := [.ref (g 40), .int v0]) (rest := []) S (q_l_at l D cI cB cZ (g 40) 200 (Fn 40) v0 (by (first | omega | (have zz0 := Hid.u hb_cn; omega)))) kS_RX8_29 hK hP [2] (one_is xo_2) ⟨Nat.le_of_ble_eq_true rfl, Nat.le_of_ble_eq_true rfl⟩ ⟨Nat.le_of_ble_eq_true rfl, Nat.le_of_ble_eq_true rfl⟩ rfl hl.1 rfl (Nat.le_of_ble_eq_true rfl) dX8_at_5) (fun r_1 h_2 => ?_)
  subst h_2
  exact W.iret (v := (atM (Fn 40) 200 v0)) hx hb hr (fun t ht hW => ⟨(atM (Fn 40) 200 v0), rfl, trivial, ht⟩) (fun _ h => absurd h List.not_mem_nil) dX8_at_8
set_option maxRecDepth 100000 in
set_option maxHeartbeats 4000000 in
theorem q_Xnumber (l : Launch) (D : va_G) (cI cB cZ : ClassId) (zz qq vv : Nat) (bt : Nat → Int32) (g : Nat → Nat) (ad : Nat → Nat → Nat) (cn : Nat → Nat) (In : Nat → Int32) (Fn : Nat → Nat → Int32) (v0 : Int32) (hB : CBX cn) : Met l yX8_number (CWS yX8_number cX8_number 4 (some .int)) (RM 2 0 0) (PBrx [.ref (g 5), .int v0] D cI cB cZ zz qq vv bt (wX cI (D.1 99) zz g ad cn In Fn)) (vp_Si (fun _ => True)) 0 0 (fun _ => False) := by
  refine en_rx rfl pn_RX8 (Nat.le_of_ble_eq_true rfl) (fun p e s m below meth c hx hb hml hown S hr hlocks hnm hP hK hXS hS ls hl => ?_)
  have hl : lv_has ls 4 [(0, .ref (g 5)), (1, .int v0)] := hl
  have hb_cn : Hid (CBX cn) := hB
  replace hB : CBXh cn := hB
  refine lv_iconst (v := 0) hx hb dX8_number_0 kic_0 ?_
  refine lv_istore_n (lv' := [(2, .int 0), (0, .ref (g 5)), (1, .int v0)]) hx hb dX8_number_1 rfl hl (ltb rfl) rfl (fun ls hl => ?_)
  refine lv_iconst (v := 0) hx hb dX8_number_2 kic_0 ?_
  refine lv_istore_n (lv' := [(3, .int 0), (2, .int 0), (0, .ref (g 5)), (1, .int v0)]) hx hb dX8_number_3 rfl hl (ltb rfl) rfl (fun ls hl => ?_)
  refine lv_iload_n hx hb dX8_number_4 rfl (lvA0 hl) ?_
  refine lv_iconst (v := 4) hx hb dX8_number_5 kic_4 ?_
  refine lv_icmp_ge (tgt := 30) hx hb dX8_number_6 rfl (fun h => absurd h cq_le_4_0) (fun _ => ?_)
  refine lv_iload_n hx hb dX8_number_9 rfl (lvA1 hl) ?_
  refine lv_bipush (v := 8) hx hb dX8_number_10 kbc_8 ?_
  refine lv_ishl hx hb dX8_number_12 ?_
  refine lv_topi (fun y_1 ey_1 => ?_)
  obtain rfl : y_1 = 0 := ey_1.trans (by decide)
  refine lv_aload_n hx hb dX8_number_13 rfl (lvA2 hl) ?_
  refine lv_iconst (v := 4) hx hb dX8_number_14 kic_4 ?_
  refine lv_iload_n hx hb dX8_number_15 rfl (lvA3 hl) ?_
  refine lv_imul hx hb dX8_number_16 ?_
  refine lv_iload_n hx hb dX8_number_17 rfl (lvA0 hl) ?_
  refine lv_iadd hx hb dX8_number_18 ?_
  refine vp_callSi (runV_rxa (As := [.int ((4 * v0) + 0)]) (rest := [.int 0]) S (q_Xtat l D cI cB cZ zz qq vv bt g ad cn In Fn ((4 * v0) + 0) hB) kV_RX8_33 hK hXS hS hP 1 xo_1 rfl rfl ⟨Nat.le_of_ble_eq_true rfl, Nat.le_of_ble_eq_true rfl⟩ ⟨Nat.le_of_ble_eq_true rfl, Nat.le_of_ble_eq_true rfl⟩ rfl hl.1 rfl (Nat.le_of_ble_eq_true rfl) dX8_number_19) (fun r_2 h_3 => ?_)
  refine lv_ior hx hb dX8_number_22 ?_
  refine lv_istore_n (lv' := [(2, .int (0 ||| r_2)), (3, .int 0), (0, .ref (g 5)), (1, .int v0)]) hx hb dX8_number_23 rfl hl (ltb rfl) rfl (fun ls hl => ?_)
  refine lv_iinc (v := 1) (lv' := [(3, .int 1), (2, .int (0 ||| r_2)), (0, .ref (g 5)), (1, .int v0)]) hx hb dX8_number_24 hl (k := 1) rfl (by decide) (ltb rfl) rfl (fun ls hl => ?_)
  refine lv_goto (tgt := 4) hx hb dX8_number_27 rfl ?_
  refine lv_iload_n hx hb dX8_number_4 rfl (lvA0 hl) ?_
  refine lv_iconst (v := 4) hx hb dX8_number_5 kic_4 ?_
  refine lv_icmp_ge (tgt := 30) hx hb dX8_number_6 rfl (fun h => absurd h cq_le_4_1) (fun _ => ?_)
  refine lv_iload_n hx hb dX8_number_9 rfl (lvA1 hl) ?_
  refine lv_bipush (v := 8) hx hb dX8_number_10 kbc_8 ?_
  refine lv_ishl hx hb dX8_number_12 ?_
  refine lv_aload_n hx hb dX8_number_13 rfl (lvA2 hl) ?_
  refine lv_iconst (v := 4) hx hb dX8_number_14 kic_4 ?_
  refine lv_iload_n hx hb dX8_number_15 rfl (lvA3 hl) ?_
  refine lv_imul hx hb dX8_number_16 ?_
  refine lv_iload_n hx hb dX8_number_17 rfl (lvA0 hl) ?_
  refine lv_iadd hx hb dX8_number_18 ?_
  refine vp_callSi (runV_rxa (As := [.int ((4 * v0) + 1)]) (rest := [.int ((0 ||| r_2) <<< (8 &&& 31))]) S (q_Xtat l D cI cB cZ zz qq vv bt g ad cn In Fn ((4 * v0) + 1) hB) kV_RX8_33 hK hXS hS hP 1 xo_1 rfl rfl ⟨Nat.le_of_ble_eq_true rfl, Nat.le_of_ble_eq_true rfl⟩ ⟨Nat.le_of_ble_eq_true rfl, Nat.le_of_ble_eq_true rfl⟩ rfl hl.1 rfl (Nat.le_of_ble_eq_true rfl) dX8_number_19) (fun r_4 h_5 => ?_)
  refine lv_ior hx hb dX8_number_22 ?_
  refine lv_istore_n (lv' := [(2, .int (((0 ||| r_2) <<< (8 &&& 31)) ||| r_4)), (3, .int 1), (0, .ref (g 5)), (1, .int v0)]) hx hb dX8_number_23 rfl hl (ltb rfl) rfl (fun ls hl => ?_)
  refine lv_iinc (v := 2) (lv' := [(3, .int 2), (2, .int (((0 ||| r_2) <<< (8 &&& 31)) ||| r_4)), (0, .ref (g 5)), (1, .int v0)]) hx hb dX8_number_24 hl (k := 1) rfl (by decide) (ltb rfl) rfl (fun ls hl => ?_)
  refine lv_goto (tgt := 4) hx hb dX8_number_27 rfl ?_
  refine lv_iload_n hx hb dX8_number_4 rfl (lvA0 hl) ?_
  refine lv_iconst (v := 4) hx hb dX8_number_5 kic_4 ?_
  refine lv_icmp_ge (tgt := 30) hx hb dX8_number_6 rfl (fun h => absurd h cq_le_4_2) (fun _ => ?_)
  refine lv_iload_n hx hb dX8_number_9 rfl (lvA1 hl) ?_
  refine lv_bipush (v := 8) hx hb dX8_number_10 kbc_8 ?_
  refine lv_ishl hx hb dX8_number_12 ?_
  refine lv_aload_n hx hb dX8_number_13 rfl (lvA2 hl) ?_
  refine lv_iconst (v := 4) hx hb dX8_number_14 kic_4 ?_
  refine lv_iload_n hx hb dX8_number_15 rfl (lvA3 hl) ?_
  refine lv_imul hx hb dX8_number_16 ?_
  refine lv_iload_n hx hb dX8_number_17 rfl (lvA0 hl) ?_
  refine lv_iadd hx hb dX8_number_18 ?_
  refine vp_callSi (runV_rxa (As := [.int ((4 * v0) + 2)]) (rest := [.int ((((0 ||| r_2) <<< (8 &&& 31)) ||| r_4) <<< (8 &&& 31))]) S (q_Xtat l D cI cB cZ zz qq vv bt g ad cn In Fn ((4 * v0) + 2) hB) kV_RX8_33 hK hXS hS hP 1 xo_1 rfl rfl ⟨Nat.le_of_ble_eq_true rfl, Nat.le_of_ble_eq_true rfl⟩ ⟨Nat.le_of_ble_eq_true rfl, Nat.le_of_ble_eq_true rfl⟩ rfl hl.1 rfl (Nat.le_of_ble_eq_true rfl) dX8_number_19) (fun r_6 h_7 => ?_)
  refine lv_ior hx hb dX8_number_22 ?_
  refine lv_istore_n (lv' := [(2, .int (((((0 ||| r_2) <<< (8 &&& 31)) ||| r_4) <<< (8 &&& 31)) ||| r_6)), (3, .int 2), (0, .ref (g 5)), (1, .int v0)]) hx hb dX8_number_23 rfl hl (ltb rfl) rfl (fun ls hl => ?_)
  refine lv_iinc (v := 3) (lv' := [(3, .int 3), (2, .int (((((0 ||| r_2) <<< (8 &&& 31)) ||| r_4) <<< (8 &&& 31)) ||| r_6)), (0, .ref (g 5)), (1, .int v0)]) hx hb dX8_number_24 hl (k := 1) rfl (by decide) (ltb rfl) rfl (fun ls hl => ?_)
  refine lv_goto (tgt := 4) hx hb dX8_number_27 rfl ?_
  refine lv_iload_n hx hb dX8_number_4 rfl (lvA0 hl) ?_
  refine lv_iconst (v := 4) hx hb dX8_number_5 kic_4 ?_
  refine lv_icmp_ge (tgt := 30) hx hb dX8_number_6 rfl (fun h => absurd h cq_le_4_3) (fun _ => ?_)
  refine lv_iload_n hx hb dX8_number_9 rfl (lvA1 hl) ?_
  refine lv_bipush (v := 8) hx hb dX8_number_10 kbc_8 ?_
  refine lv_ishl hx hb dX8_number_12 ?_
  refine lv_aload_n hx hb dX8_number_13 rfl (lvA2 hl) ?_
  refine lv_iconst (v := 4) hx hb dX8_number_14 kic_4 ?_
  refine lv_iload_n hx hb dX8_number_15 rfl (lvA3 hl) ?_
  refine lv_imul hx hb dX8_number_16 ?_
  refine lv_iload_n hx hb dX8_number_17 rfl (lvA0 hl) ?_
  refine lv_iadd hx hb dX8_number_18 ?_
  refine vp_callSi (runV_rxa (As := [.int ((4 * v0) + 3)]) (rest := [.int ((((((0 ||| r_2) <<< (8 &&& 31)) ||| r_4) <<< (8 &&& 31)) ||| r_6) <<< (8 &&& 31))]) S (q_Xtat l D cI cB cZ zz qq vv bt g ad cn In Fn ((4 * v0) + 3) hB) kV_RX8_33 hK hXS hS hP 1 xo_1 rfl rfl ⟨Nat.le_of_ble_eq_true rfl, Nat.le_of_ble_eq_true rfl⟩ ⟨Nat.le_of_ble_eq_true rfl, Nat.le_of_ble_eq_true rfl⟩ rfl hl.1 rfl (Nat.le_of_ble_eq_true rfl) dX8_number_19) (fun r_8 h_9 => ?_)
  refine lv_ior hx hb dX8_number_22 ?_
  refine lv_istore_n (lv' := [(2, .int (((((((0 ||| r_2) <<< (8 &&& 31)) ||| r_4) <<< (8 &&& 31)) ||| r_6) <<< (8 &&& 31)) ||| r_8)), (3, .int 3), (0, .ref (g 5)), (1, .int v0)]) hx hb dX8_number_23 rfl hl (ltb rfl) rfl (fun ls hl => ?_)
  refine lv_iinc (v := 4) (lv' := [(3, .int 4), (2, .int (((((((0 ||| r_2) <<< (8 &&& 31)) ||| r_4) <<< (8 &&& 31)) ||| r_6) <<< (8 &&& 31)) ||| r_8)), (0, .ref (g 5)), (1, .int v0)]) hx hb dX8_number_24 hl (k := 1) rfl (by decide) (ltb rfl) rfl (fun ls hl => ?_)
  refine lv_goto (tgt := 4) hx hb dX8_number_27 rfl ?_
  refine lv_iload_n hx hb dX8_number_4 rfl (lvA0 hl) ?_
  refine lv_iconst (v := 4) hx hb dX8_number_5 kic_4 ?_
  refine lv_icmp_ge (tgt := 30) hx hb dX8_number_6 rfl (fun _ => ?_) (fun h => absurd h cq_le_4_4)
  refine lv_iload_n hx hb dX8_number_30 rfl (lvA1 hl) ?_
  exact W.iret (v := (((((((0 ||| r_2) <<< (8 &&& 31)) ||| r_4) <<< (8 &&& 31)) ||| r_6) <<< (8 &&& 31)) ||| r_8)) hx hb hr (fun t ht hW => ⟨(((((((0 ||| r_2) <<< (8 &&& 31)) ||| r_4) <<< (8 &&& 31)) ||| r_6) <<< (8 &&& 31)) ||| r_8), rfl, trivial, ht⟩) (fun _ h => absurd h List.not_mem_nil) dX8_number_31
set_option maxRecDepth 100000 in
set_option maxHeartbeats 4000000 in
theorem q_Xfeed (l : Launch) (D : va_G) (cI cB cZ : ClassId) (zz qq vv : Nat) (bt : Nat → Int32) (g : Nat → Nat) (ad : Nat → Nat → Nat) (cn : Nat → Nat) (In : Nat → Int32) (Fn : Nat → Nat → Int32) (v0 v1 v2 v3 v4 : Int32) (sz : Nat) (hB : CBX cn) : Met l yX11_feed (CWS yX11_feed cX11_feed 6 (some .int)) (RM 2 0 0) (PBx [.ref (g 0), .int v0, .int v1, .int v2, .int v3, .int v4] D cI cB cZ zz qq vv bt (wX cI (D.1 99) zz g ad cn In Fn) sz) (va_Qi (fun (r : Int32) (u : (Nat → Nat) × (Nat → Int32) × (Nat → Nat → Int32)) => (fun r c2 I2 F2 => Fr [3] [] [40] cn In Fn c2 I2 F2 ∧ CBX c2 ∧ (True)) r u.1 u.2.1 u.2.2) (fun (u : (Nat → Nat) × (Nat → Int32) × (Nat → Nat → Int32)) (t : State) => va_P D vwCl (wX cI (D.1 99) zz g ad u.1 u.2.1 u.2.2) t.heap ∧ va_D (va_A (wX cI (D.1 99) zz g ad cn In Fn) sz) (wX cI (D.1 99) zz g ad u.1 u.2.1 u.2.2)) (va_A (wX cI (D.1 99) zz g ad cn In Fn) sz)) 0 0 (va_A (wX cI (D.1 99) zz g ad cn In Fn) sz) := by
  refine en_x (fun A => (va_Qi (fun (r : Int32) (u : (Nat → Nat) × (Nat → Int32) × (Nat → Nat → Int32)) => (fun (r : Int32) (c2 : Nat → Nat) (I2 : Nat → Int32) (F2 : Nat → Nat → Int32) => Fr [3] [] [40] cn In Fn c2 I2 F2 ∧ CBX c2 ∧ (True)) r u.1 u.2.1 u.2.2) (fun (u : (Nat → Nat) × (Nat → Int32) × (Nat → Nat → Int32)) (t : State) => va_P D vwCl (wX cI (D.1 99) zz g ad u.1 u.2.1 u.2.2) t.heap ∧ va_D A (wX cI (D.1 99) zz g ad u.1 u.2.1 u.2.2)) A)) rfl rfl pn_RX11 (Nat.le_of_ble_eq_true rfl) (fun p e s m below meth c A hx hb hml hown S hr hlocks hnm hA hP hK hD hXS hS ls hl => ?_)
  have hl : lv_has ls 6 [(0, .ref (g 0)), (1, .int v0), (2, .int v1), (3, .int v2), (4, .int v3), (5, .int v4)] := hl
  have hb_cn : Hid (CBX cn) := hB
  replace hB : CBXh cn := hB
  refine lv_aload_n hx hb dX11_feed_0 rfl (lvA0 hl) ?_
  refine gf_RX11_21 S hK hP 0 xo_0 (v := .ref (g 5)) rfl dX11_feed_1 ?_
  refine vp_callSi (runV_rxa (As := []) (rest := []) S (q_Xlength l D cI cB cZ zz qq vv bt g ad cn In Fn  hB) kV_RX11_152 hK hXS hS hP 1 xo_1 rfl rfl ⟨Nat.le_of_ble_eq_true rfl, Nat.le_of_ble_eq_true rfl⟩ ⟨Nat.le_of_ble_eq_true rfl, Nat.le_of_ble_eq_true rfl⟩ rfl hl.1 rfl (Nat.le_of_ble_eq_true rfl) dX11_feed_4) (fun r_1 h_2 => ?_)
  subst h_2
  refine lv_bipush (v := 20) hx hb dX11_feed_7 kbc_20 ?_
  refine lv_iadd hx hb dX11_feed_9 ?_
  refine lv_topi (fun y_3 ey_3 => ?_)
  obtain rfl : y_3 = (nI (((cn 3)) + 20)) := ey_3.trans (nI_add ((cn 3)) 20)
  refine lv_sipush (v := 200) hx hb dX11_feed_10 (by decide) ?_
  have : (nI (((cn 3)) + 20)).toInt = (((((cn 3)) + 20) : Nat) : Int) := nI_toInt (by (first | omega | (have zz0 := Hid.u hb_cn; omega)))
  refine lv_icmp_le (tgt := 18) hx hb dX11_feed_13 rfl (fun c_4 => ?_) (fun c_4 => ?_)
  ·
    have tc_4 : ((nI (((cn 3)) + 20)).toInt : Int) ≤ 200 := Int32.le_iff_toInt_le.mp c_4
    refine lv_aload_n hx hb dX11_feed_18 rfl (lvA0 hl) ?_
    refine gf_RX11_21 S hK hP 0 xo_0 (v := .ref (g 5)) rfl dX11_feed_19 ?_
    refine lv_iload_n hx hb dX11_feed_22 rfl (lvA1 hl) ?_
    have hFc := free_all hD hS hA
    refine va_callv (runV_xa (As := [.int v0]) (rest := []) S (q_Xtadd l D cI cB cZ zz qq vv bt g ad cn In Fn v0 s.heap.size hB (by (first | omega | (have zz0 := Hid.u hb_cn; omega)))) kV_RX11_153 hK hXS hS hFc hP hD 1 xo_1 rfl rfl ⟨Nat.le_of_ble_eq_true rfl, Nat.le_of_ble_eq_true rfl⟩ ⟨Nat.le_of_ble_eq_true rfl, Nat.le_of_ble_eq_true rfl⟩ rfl hl.1 rfl (Nat.le_of_ble_eq_true rfl) dX11_feed_23) hS (fun q _ h => hFc q h) hFc (fun u t H1 locs ht hvm wh_6 hB1 hz1 hk1 hS => ?_)
    obtain ⟨cn6, In6, Fn6⟩ := u
    obtain ⟨hP1, hD1⟩ := hB1
    rw [ht] at hP1
    have hP : va_P D vwCl (wX cI (D.1 99) zz g ad cn6 In6 Fn6) H1 := hP1
    have hD : va_D A (wX cI (D.1 99) zz g ad cn6 In6 Fn6) := hD1.weaken (fun _ _ _ h => hFc _ h)
    generalize H1 = H at hP hS ⊢
    have vh_6 : (fun c2 I2 F2 => Fr [3] [] [40] cn In Fn c2 I2 F2 ∧ CBX c2 ∧ (c2 3 = (cn 3) + 4)) cn6 In6 Fn6 := wh_6
    obtain ⟨hfc6, hIn6, h_6⟩ := vh_6
    obtain rfl : In = In6 := (funext (fun k => hfc6.2.1 k List.not_mem_nil)).symm
    have hf6 : Fr [3] [] [40] cn In Fn cn6 In Fn6 := Fr.mo (Fr.tr (Fr.rf (cn := cn) (In := In) (Fn := Fn)) hfc6) (sbl rfl) (sbl rfl) (sbl rfl)
    have hb_cn6 : Hid (CBX cn6) := hIn6
    replace hIn6 : CBXh cn6 := hIn6
    have : cn6 6 = (cn 6) := hfc6.1 6 (nml rfl)
    have : cn6 31 = (cn 31) := hfc6.1 31 (nml rfl)
    have : cn6 32 = (cn 32) := hfc6.1 32 (nml rfl)
    have hq_cn6 : Hid (cn6 0 = (cn 0) ∧ cn6 1 = (cn 1) ∧ cn6 2 = (cn 2) ∧ cn6 4 = (cn 4) ∧ cn6 5 = (cn 5) ∧ cn6 10 = (cn 10) ∧ cn6 11 = (cn 11) ∧ cn6 12 = (cn 12) ∧ cn6 13 = (cn 13) ∧ cn6 14 = (cn 14) ∧ cn6 15 = (cn 15) ∧ cn6 20 = (cn 20) ∧ cn6 21 = (cn 21) ∧ cn6 22 = (cn 22) ∧ cn6 23 = (cn 23) ∧ cn6 24 = (cn 24) ∧ cn6 25 = (cn 25)) := Hid.i (p := cn6 0 = (cn 0) ∧ cn6 1 = (cn 1) ∧ cn6 2 = (cn 2) ∧ cn6 4 = (cn 4) ∧ cn6 5 = (cn 5) ∧ cn6 10 = (cn 10) ∧ cn6 11 = (cn 11) ∧ cn6 12 = (cn 12) ∧ cn6 13 = (cn 13) ∧ cn6 14 = (cn 14) ∧ cn6 15 = (cn 15) ∧ cn6 20 = (cn 20) ∧ cn6 21 = (cn 21) ∧ cn6 22 = (cn 22) ∧ cn6 23 = (cn 23) ∧ cn6 24 = (cn 24) ∧ cn6 25 = (cn 25)) ⟨hfc6.1 0 (nml rfl), hfc6.1 1 (nml rfl), hfc6.1 2 (nml rfl), hfc6.1 4 (nml rfl), hfc6.1 5 (nml rfl), hfc6.1 10 (nml rfl), hfc6.1 11 (nml rfl), hfc6.1 12 (nml rfl), hfc6.1 13 (nml rfl), hfc6.1 14 (nml rfl), hfc6.1 15 (nml rfl), hfc6.1 20 (nml rfl), hfc6.1 21 (nml rfl), hfc6.1 22 (nml rfl), hfc6.1 23 (nml rfl), hfc6.1 24 (nml rfl), hfc6.1 25 (nml rfl)⟩
    refine lv_aload_n hx hb dX11_feed_26 rfl (lvA0 hl) ?_
    refine gf_RX11_21 S hK hP 0 xo_0 (v := .ref (g 5)) rfl dX11_feed_27 ?_
    refine lv_iload_n hx hb dX11_feed_30 rfl (lvA2 hl) ?_
    have hFc := free_all hD hS hA
    refine va_callv (runV_xa (As := [.int v1]) (rest := []) S (q_Xtadd l D cI cB cZ zz qq vv bt g ad cn6 In Fn6 v1 H.size hIn6 (by (first | omega | (have zz0 := Hid.u hb_cn; have zz1 := Hid.u hb_cn6; have zz2 := Hid.u hq_cn6; omega)))) kV_RX11_153 hK hXS hS hFc hP hD 1 xo_1 rfl rfl ⟨Nat.le_of_ble_eq_true rfl, Nat.le_of_ble_eq_true rfl⟩ ⟨Nat.le_of_ble_eq_true rfl, Nat.le_of_ble_eq_true rfl⟩ rfl hl.1 rfl (Nat.le_of_ble_eq_true rfl) dX11_feed_31) hS (fun q _ h => hFc q h) hFc (fun u t H1 locs ht hvm wh_8 hB1 hz1 hk1 hS => ?_)
    obtain ⟨cn8, In8, Fn8⟩ := u
    obtain ⟨hP1, hD1⟩ := hB1
    rw [ht] at hP1
    have hP : va_P D vwCl (wX cI (D.1 99) zz g ad cn8 In8 Fn8) H1 := hP1
    have hD : va_D A (wX cI (D.1 99) zz g ad cn8 In8 Fn8) := hD1.weaken (fun _ _ _ h => hFc _ h)
    generalize H1 = H at hP hS ⊢
    have vh_8 : (fun c2 I2 F2 => Fr [3] [] [40] cn6 In Fn6 c2 I2 F2 ∧ CBX c2 ∧ (c2 3 = (cn6 3) + 4)) cn8 In8 Fn8 := wh_8
    obtain ⟨hfc8, hIn8, h_8⟩ := vh_8
    obtain rfl : In = In8 := (funext (fun k => hfc8.2.1 k List.not_mem_nil)).symm
    have hf8 : Fr [3] [] [40] cn In Fn cn8 In Fn8 := Fr.mo (Fr.tr hf6 hfc8) (sbl rfl) (sbl rfl) (sbl rfl)
    have hb_cn8 : Hid (CBX cn8) := hIn8
    replace hIn8 : CBXh cn8 := hIn8
    have : cn8 6 = (cn6 6) := hfc8.1 6 (nml rfl)
    have : cn8 31 = (cn6 31) := hfc8.1 31 (nml rfl)
    have : cn8 32 = (cn6 32) := hfc8.1 32 (nml rfl)
    have hq_cn8 : Hid (cn8 0 = (cn6 0) ∧ cn8 1 = (cn6 1) ∧ cn8 2 = (cn6 2) ∧ cn8 4 = (cn6 4) ∧ cn8 5 = (cn6 5) ∧ cn8 10 = (cn6 10) ∧ cn8 11 = (cn6 11) ∧ cn8 12 = (cn6 12) ∧ cn8 13 = (cn6 13) ∧ cn8 14 = (cn6 14) ∧ cn8 15 = (cn6 15) ∧ cn8 20 = (cn6 20) ∧ cn8 21 = (cn6 21) ∧ cn8 22 = (cn6 22) ∧ cn8 23 = (cn6 23) ∧ cn8 24 = (cn6 24) ∧ cn8 25 = (cn6 25)) := Hid.i (p := cn8 0 = (cn6 0) ∧ cn8 1 = (cn6 1) ∧ cn8 2 = (cn6 2) ∧ cn8 4 = (cn6 4) ∧ cn8 5 = (cn6 5) ∧ cn8 10 = (cn6 10) ∧ cn8 11 = (cn6 11) ∧ cn8 12 = (cn6 12) ∧ cn8 13 = (cn6 13) ∧ cn8 14 = (cn6 14) ∧ cn8 15 = (cn6 15) ∧ cn8 20 = (cn6 20) ∧ cn8 21 = (cn6 21) ∧ cn8 22 = (cn6 22) ∧ cn8 23 = (cn6 23) ∧ cn8 24 = (cn6 24) ∧ cn8 25 = (cn6 25)) ⟨hfc8.1 0 (nml rfl), hfc8.1 1 (nml rfl), hfc8.1 2 (nml rfl), hfc8.1 4 (nml rfl), hfc8.1 5 (nml rfl), hfc8.1 10 (nml rfl), hfc8.1 11 (nml rfl), hfc8.1 12 (nml rfl), hfc8.1 13 (nml rfl), hfc8.1 14 (nml rfl), hfc8.1 15 (nml rfl), hfc8.1 20 (nml rfl), hfc8.1 21 (nml rfl), hfc8.1 22 (nml rfl), hfc8.1 23 (nml rfl), hfc8.1 24 (nml rfl), hfc8.1 25 (nml rfl)⟩
    refine lv_aload_n hx hb dX11_feed_34 rfl (lvA0 hl) ?_
    refine gf_RX11_21 S hK hP 0 xo_0 (v := .ref (g 5)) rfl dX11_feed_35 ?_
    refine lv_iload_n hx hb dX11_feed_38 rfl (lvA3 hl) ?_
    have hFc := free_all hD hS hA
    refine va_callv (runV_xa (As := [.int v2]) (rest := []) S (q_Xtadd l D cI cB cZ zz qq vv bt g ad cn8 In Fn8 v2 H.size hIn8 (by (first | omega | (have zz0 := Hid.u hb_cn; have zz1 := Hid.u hb_cn6; have zz2 := Hid.u hb_cn8; have zz3 := Hid.u hq_cn6; have zz4 := Hid.u hq_cn8; omega)))) kV_RX11_153 hK hXS hS hFc hP hD 1 xo_1 rfl rfl ⟨Nat.le_of_ble_eq_true rfl, Nat.le_of_ble_eq_true rfl⟩ ⟨Nat.le_of_ble_eq_true rfl, Nat.le_of_ble_eq_true rfl⟩ rfl hl.1 rfl (Nat.le_of_ble_eq_true rfl) dX11_feed_39) hS (fun q _ h => hFc q h) hFc (fun u t H1 locs ht hvm wh_10 hB1 hz1 hk1 hS => ?_)
    obtain ⟨cn10, In10, Fn10⟩ := u
    obtain ⟨hP1, hD1⟩ := hB1
    rw [ht] at hP1
    have hP : va_P D vwCl (wX cI (D.1 99) zz g ad cn10 In10 Fn10) H1 := hP1
    have hD : va_D A (wX cI (D.1 99) zz g ad cn10 In10 Fn10) := hD1.weaken (fun _ _ _ h => hFc _ h)
    generalize H1 = H at hP hS ⊢
    have vh_10 : (fun c2 I2 F2 => Fr [3] [] [40] cn8 In Fn8 c2 I2 F2 ∧ CBX c2 ∧ (c2 3 = (cn8 3) + 4)) cn10 In10 Fn10 := wh_10
    obtain ⟨hfc10, hIn10, h_10⟩ := vh_10
    obtain rfl : In = In10 := (funext (fun k => hfc10.2.1 k List.not_mem_nil)).symm
    have hf10 : Fr [3] [] [40] cn In Fn cn10 In Fn10 := Fr.mo (Fr.tr hf8 hfc10) (sbl rfl) (sbl rfl) (sbl rfl)
    have hb_cn10 : Hid (CBX cn10) := hIn10
    replace hIn10 : CBXh cn10 := hIn10
    have : cn10 6 = (cn8 6) := hfc10.1 6 (nml rfl)
    have : cn10 31 = (cn8 31) := hfc10.1 31 (nml rfl)
    have : cn10 32 = (cn8 32) := hfc10.1 32 (nml rfl)
    have hq_cn10 : Hid (cn10 0 = (cn8 0) ∧ cn10 1 = (cn8 1) ∧ cn10 2 = (cn8 2) ∧ cn10 4 = (cn8 4) ∧ cn10 5 = (cn8 5) ∧ cn10 10 = (cn8 10) ∧ cn10 11 = (cn8 11) ∧ cn10 12 = (cn8 12) ∧ cn10 13 = (cn8 13) ∧ cn10 14 = (cn8 14) ∧ cn10 15 = (cn8 15) ∧ cn10 20 = (cn8 20) ∧ cn10 21 = (cn8 21) ∧ cn10 22 = (cn8 22) ∧ cn10 23 = (cn8 23) ∧ cn10 24 = (cn8 24) ∧ cn10 25 = (cn8 25)) := Hid.i (p := cn10 0 = (cn8 0) ∧ cn10 1 = (cn8 1) ∧ cn10 2 = (cn8 2) ∧ cn10 4 = (cn8 4) ∧ cn10 5 = (cn8 5) ∧ cn10 10 = (cn8 10) ∧ cn10 11 = (cn8 11) ∧ cn10 12 = (cn8 12) ∧ cn10 13 = (cn8 13) ∧ cn10 14 = (cn8 14) ∧ cn10 15 = (cn8 15) ∧ cn10 20 = (cn8 20) ∧ cn10 21 = (cn8 21) ∧ cn10 22 = (cn8 22) ∧ cn10 23 = (cn8 23) ∧ cn10 24 = (cn8 24) ∧ cn10 25 = (cn8 25)) ⟨hfc10.1 0 (nml rfl), hfc10.1 1 (nml rfl), hfc10.1 2 (nml rfl), hfc10.1 4 (nml rfl), hfc10.1 5 (nml rfl), hfc10.1 10 (nml rfl), hfc10.1 11 (nml rfl), hfc10.1 12 (nml rfl), hfc10.1 13 (nml rfl), hfc10.1 14 (nml rfl), hfc10.1 15 (nml rfl), hfc10.1 20 (nml rfl), hfc10.1 21 (nml rfl), hfc10.1 22 (nml rfl), hfc10.1 23 (nml rfl), hfc10.1 24 (nml rfl), hfc10.1 25 (nml rfl)⟩
    refine lv_aload_n hx hb dX11_feed_42 rfl (lvA0 hl) ?_
    refine gf_RX11_21 S hK hP 0 xo_0 (v := .ref (g 5)) rfl dX11_feed_43 ?_
    refine lv_iload hx hb dX11_feed_46 (lvA4 hl) ?_
    have hFc := free_all hD hS hA
    refine va_callv (runV_xa (As := [.int v3]) (rest := []) S (q_Xtadd l D cI cB cZ zz qq vv bt g ad cn10 In Fn10 v3 H.size hIn10 (by (first | omega | (have zz0 := Hid.u hb_cn; have zz1 := Hid.u hb_cn10; have zz2 := Hid.u hb_cn6; have zz3 := Hid.u hb_cn8; have zz4 := Hid.u hq_cn10; have zz5 := Hid.u hq_cn6; have zz6 := Hid.u hq_cn8; omega)))) kV_RX11_153 hK hXS hS hFc hP hD 1 xo_1 rfl rfl ⟨Nat.le_of_ble_eq_true rfl, Nat.le_of_ble_eq_true rfl⟩ ⟨Nat.le_of_ble_eq_true rfl, Nat.le_of_ble_eq_true rfl⟩ rfl hl.1 rfl (Nat.le_of_ble_eq_true rfl) dX11_feed_48) hS (fun q _ h => hFc q h) hFc (fun u t H1 locs ht hvm wh_12 hB1 hz1 hk1 hS => ?_)
    obtain ⟨cn12, In12, Fn12⟩ := u
    obtain ⟨hP1, hD1⟩ := hB1
    rw [ht] at hP1
    have hP : va_P D vwCl (wX cI (D.1 99) zz g ad cn12 In12 Fn12) H1 := hP1
    have hD : va_D A (wX cI (D.1 99) zz g ad cn12 In12 Fn12) := hD1.weaken (fun _ _ _ h => hFc _ h)
    generalize H1 = H at hP hS ⊢
    have vh_12 : (fun c2 I2 F2 => Fr [3] [] [40] cn10 In Fn10 c2 I2 F2 ∧ CBX c2 ∧ (c2 3 = (cn10 3) + 4)) cn12 In12 Fn12 := wh_12
    obtain ⟨hfc12, hIn12, h_12⟩ := vh_12
    obtain rfl : In = In12 := (funext (fun k => hfc12.2.1 k List.not_mem_nil)).symm
    have hf12 : Fr [3] [] [40] cn In Fn cn12 In Fn12 := Fr.mo (Fr.tr hf10 hfc12) (sbl rfl) (sbl rfl) (sbl rfl)
    have hb_cn12 : Hid (CBX cn12) := hIn12
    replace hIn12 : CBXh cn12 := hIn12
    have : cn12 6 = (cn10 6) := hfc12.1 6 (nml rfl)
    have : cn12 31 = (cn10 31) := hfc12.1 31 (nml rfl)
    have : cn12 32 = (cn10 32) := hfc12.1 32 (nml rfl)
    have hq_cn12 : Hid (cn12 0 = (cn10 0) ∧ cn12 1 = (cn10 1) ∧ cn12 2 = (cn10 2) ∧ cn12 4 = (cn10 4) ∧ cn12 5 = (cn10 5) ∧ cn12 10 = (cn10 10) ∧ cn12 11 = (cn10 11) ∧ cn12 12 = (cn10 12) ∧ cn12 13 = (cn10 13) ∧ cn12 14 = (cn10 14) ∧ cn12 15 = (cn10 15) ∧ cn12 20 = (cn10 20) ∧ cn12 21 = (cn10 21) ∧ cn12 22 = (cn10 22) ∧ cn12 23 = (cn10 23) ∧ cn12 24 = (cn10 24) ∧ cn12 25 = (cn10 25)) := Hid.i (p := cn12 0 = (cn10 0) ∧ cn12 1 = (cn10 1) ∧ cn12 2 = (cn10 2) ∧ cn12 4 = (cn10 4) ∧ cn12 5 = (cn10 5) ∧ cn12 10 = (cn10 10) ∧ cn12 11 = (cn10 11) ∧ cn12 12 = (cn10 12) ∧ cn12 13 = (cn10 13) ∧ cn12 14 = (cn10 14) ∧ cn12 15 = (cn10 15) ∧ cn12 20 = (cn10 20) ∧ cn12 21 = (cn10 21) ∧ cn12 22 = (cn10 22) ∧ cn12 23 = (cn10 23) ∧ cn12 24 = (cn10 24) ∧ cn12 25 = (cn10 25)) ⟨hfc12.1 0 (nml rfl), hfc12.1 1 (nml rfl), hfc12.1 2 (nml rfl), hfc12.1 4 (nml rfl), hfc12.1 5 (nml rfl), hfc12.1 10 (nml rfl), hfc12.1 11 (nml rfl), hfc12.1 12 (nml rfl), hfc12.1 13 (nml rfl), hfc12.1 14 (nml rfl), hfc12.1 15 (nml rfl), hfc12.1 20 (nml rfl), hfc12.1 21 (nml rfl), hfc12.1 22 (nml rfl), hfc12.1 23 (nml rfl), hfc12.1 24 (nml rfl), hfc12.1 25 (nml rfl)⟩
    refine lv_aload_n hx hb dX11_feed_51 rfl (lvA0 hl) ?_
    refine gf_RX11_21 S hK hP 0 xo_0 (v := .ref (g 5)) rfl dX11_feed_52 ?_
    refine lv_iload hx hb dX11_feed_55 (lvA5 hl) ?_
    have hFc := free_all hD hS hA
    refine va_callv (runV_xa (As := [.int v4]) (rest := []) S (q_Xtadd l D cI cB cZ zz qq vv bt g ad cn12 In Fn12 v4 H.size hIn12 (by (first | omega | (have zz0 := Hid.u hb_cn; have zz1 := Hid.u hb_cn10; have zz2 := Hid.u hb_cn12; have zz3 := Hid.u hb_cn6; have zz4 := Hid.u hb_cn8; have zz5 := Hid.u hq_cn10; have zz6 := Hid.u hq_cn12; have zz7 := Hid.u hq_cn6; have zz8 := Hid.u hq_cn8; omega)))) kV_RX11_153 hK hXS hS hFc hP hD 1 xo_1 rfl rfl ⟨Nat.le_of_ble_eq_true rfl, Nat.le_of_ble_eq_true rfl⟩ ⟨Nat.le_of_ble_eq_true rfl, Nat.le_of_ble_eq_true rfl⟩ rfl hl.1 rfl (Nat.le_of_ble_eq_true rfl) dX11_feed_57) hS (fun q _ h => hFc q h) hFc (fun u t H1 locs ht hvm wh_14 hB1 hz1 hk1 hS => ?_)
    obtain ⟨cn14, In14, Fn14⟩ := u
    obtain ⟨hP1, hD1⟩ := hB1
    rw [ht] at hP1
    have hP : va_P D vwCl (wX cI (D.1 99) zz g ad cn14 In14 Fn14) H1 := hP1
    have hD : va_D A (wX cI (D.1 99) zz g ad cn14 In14 Fn14) := hD1.weaken (fun _ _ _ h => hFc _ h)
    generalize H1 = H at hP hS ⊢
    have vh_14 : (fun c2 I2 F2 => Fr [3] [] [40] cn12 In Fn12 c2 I2 F2 ∧ CBX c2 ∧ (c2 3 = (cn12 3) + 4)) cn14 In14 Fn14 := wh_14
    obtain ⟨hfc14, hIn14, h_14⟩ := vh_14
    obtain rfl : In = In14 := (funext (fun k => hfc14.2.1 k List.not_mem_nil)).symm
    have hf14 : Fr [3] [] [40] cn In Fn cn14 In Fn14 := Fr.mo (Fr.tr hf12 hfc14) (sbl rfl) (sbl rfl) (sbl rfl)
    have hb_cn14 : Hid (CBX cn14) := hIn14
    replace hIn14 : CBXh cn14 := hIn14
    have : cn14 6 = (cn12 6) := hfc14.1 6 (nml rfl)
    have : cn14 31 = (cn12 31) := hfc14.1 31 (nml rfl)
    have : cn14 32 = (cn12 32) := hfc14.1 32 (nml rfl)
    have hq_cn14 : Hid (cn14 0 = (cn12 0) ∧ cn14 1 = (cn12 1) ∧ cn14 2 = (cn12 2) ∧ cn14 4 = (cn12 4) ∧ cn14 5 = (cn12 5) ∧ cn14 10 = (cn12 10) ∧ cn14 11 = (cn12 11) ∧ cn14 12 = (cn12 12) ∧ cn14 13 = (cn12 13) ∧ cn14 14 = (cn12 14) ∧ cn14 15 = (cn12 15) ∧ cn14 20 = (cn12 20) ∧ cn14 21 = (cn12 21) ∧ cn14 22 = (cn12 22) ∧ cn14 23 = (cn12 23) ∧ cn14 24 = (cn12 24) ∧ cn14 25 = (cn12 25)) := Hid.i (p := cn14 0 = (cn12 0) ∧ cn14 1 = (cn12 1) ∧ cn14 2 = (cn12 2) ∧ cn14 4 = (cn12 4) ∧ cn14 5 = (cn12 5) ∧ cn14 10 = (cn12 10) ∧ cn14 11 = (cn12 11) ∧ cn14 12 = (cn12 12) ∧ cn14 13 = (cn12 13) ∧ cn14 14 = (cn12 14) ∧ cn14 15 = (cn12 15) ∧ cn14 20 = (cn12 20) ∧ cn14 21 = (cn12 21) ∧ cn14 22 = (cn12 22) ∧ cn14 23 = (cn12 23) ∧ cn14 24 = (cn12 24) ∧ cn14 25 = (cn12 25)) ⟨hfc14.1 0 (nml rfl), hfc14.1 1 (nml rfl), hfc14.1 2 (nml rfl), hfc14.1 4 (nml rfl), hfc14.1 5 (nml rfl), hfc14.1 10 (nml rfl), hfc14.1 11 (nml rfl), hfc14.1 12 (nml rfl), hfc14.1 13 (nml rfl), hfc14.1 14 (nml rfl), hfc14.1 15 (nml rfl), hfc14.1 20 (nml rfl), hfc14.1 21 (nml rfl), hfc14.1 22 (nml rfl), hfc14.1 23 (nml rfl), hfc14.1 24 (nml rfl), hfc14.1 25 (nml rfl)⟩
    refine lv_aload_n hx hb dX11_feed_60 rfl (lvA0 hl) ?_
    refine gf_RX11_21 S hK hP 0 xo_0 (v := .ref (g 5)) rfl dX11_feed_61 ?_
    refine vp_callSi (runV_rxa (As := []) (rest := []) S (q_Xlength l D cI cB cZ zz qq vv bt g ad cn14 In Fn14  hIn14) kV_RX11_152 hK hXS hS hP 1 xo_1 rfl rfl ⟨Nat.le_of_ble_eq_true rfl, Nat.le_of_ble_eq_true rfl⟩ ⟨Nat.le_of_ble_eq_true rfl, Nat.le_of_ble_eq_true rfl⟩ rfl hl.1 rfl (Nat.le_of_ble_eq_true rfl) dX11_feed_64) (fun r_15 h_16 => ?_)
    subst h_16
    exact W.iret (v := (nI ((cn14 3)))) hx hb hr (fun t ht hW => ⟨⟨(nI ((cn14 3))), (cn14, In, Fn14), rfl, ⟨(Fr.mo hf14 (sbl rfl) (sbl rfl) (sbl rfl)), hIn14, trivial⟩, by rw [ht]; exact hP, hD⟩, hS.F ht⟩) hS.2.2 dX11_feed_67
  ·
    have tc_4 : (200 : Int) < (nI (((cn 3)) + 20)).toInt := Int32.lt_iff_toInt_lt.mp (Int32.not_le.mp c_4)
    refine lv_iconst (v := (-1)) hx hb dX11_feed_16 kic_m1 ?_
    exact W.iret (v := (-1)) hx hb hr (fun t ht hW => ⟨⟨(-1), (cn, In, Fn), rfl, ⟨(Fr.mo Fr.rf (sbl rfl) (sbl rfl) (sbl rfl)), hB, trivial⟩, by rw [ht]; exact hP, hD⟩, hS.F ht⟩) hS.2.2 dX11_feed_17
set_option maxRecDepth 100000 in
set_option maxHeartbeats 4000000 in
theorem q_Xsets (l : Launch) (D : va_G) (cI cB cZ : ClassId) (zz qq vv : Nat) (bt : Nat → Int32) (g : Nat → Nat) (ad : Nat → Nat → Nat) (cn : Nat → Nat) (In : Nat → Int32) (Fn : Nat → Nat → Int32) (v0 v1 : Int32) (hB : CBX cn) : Met l yX11_sets (CWS yX11_sets cX11_sets 3 (some .boolean)) (RM 1 0 0) (PBrx [.ref (g 0), .int v0, .int v1] D cI cB cZ zz qq vv bt (wX cI (D.1 99) zz g ad cn In Fn)) (vp_Si (fun _ => True)) 0 0 (fun _ => False) := by
  refine en_rx rfl pn_RX11 (Nat.le_of_ble_eq_true rfl) (fun p e s m below meth c hx hb hml hown S hr hlocks hnm hP hK hXS hS ls hl => ?_)
  have hl : lv_has ls 3 [(0, .ref (g 0)), (1, .int v0), (2, .int v1)] := hl
  have hb_cn : Hid (CBX cn) := hB
  replace hB : CBXh cn := hB
  refine lv_aload_n hx hb dX11_sets_0 rfl (lvA0 hl) ?_
  refine gf_RX11_47 S hK hP 0 xo_0 (v := .ref (g 8)) rfl dX11_sets_1 ?_
  refine gf_RX11_486 S hK hP 6 xo_6 (v := .ref (g 22)) rfl dX11_sets_4 ?_
  refine lv_iload_n hx hb dX11_sets_7 rfl (lvA1 hl) ?_
  refine vp_callSi (runS_r (As := [.ref (g 22), .int v0]) (rest := []) S (q_l_at l D cI cB cZ (g 22) 400 (Fn 22) v0 (by (first | omega | (have zz0 := Hid.u hb_cn; omega)))) kS_RX11_192 hK hP [9] (one_is xo_9) ⟨Nat.le_of_ble_eq_true rfl, Nat.le_of_ble_eq_true rfl⟩ ⟨Nat.le_of_ble_eq_true rfl, Nat.le_of_ble_eq_true rfl⟩ rfl hl.1 rfl (Nat.le_of_ble_eq_true rfl) dX11_sets_8) (fun r_1 h_2 => ?_)
  subst h_2
  refine lv_iload_n hx hb dX11_sets_11 rfl (lvA2 hl) ?_
  refine lv_icmp_ge (tgt := 19) hx hb dX11_sets_12 rfl (fun c_3 => ?_) (fun c_3 => ?_)
  ·
    have tc_3 : (v1.toInt : Int) ≤ (atM (Fn 22) 400 v0).toInt := Int32.le_iff_toInt_le.mp c_3
    refine lv_iconst (v := 0) hx hb dX11_sets_19 kic_0 ?_
    exact W.zret (v := 0) hx hb hr rfl (fun t ht hW => ⟨0, rfl, trivial, ht⟩) (fun _ h => absurd h List.not_mem_nil) dX11_sets_20
  ·
    have tc_3 : ((atM (Fn 22) 400 v0).toInt : Int) < v1.toInt := Int32.lt_iff_toInt_lt.mp (Int32.not_le.mp c_3)
    refine lv_iconst (v := 1) hx hb dX11_sets_15 kic_1 ?_
    refine lv_goto (tgt := 20) hx hb dX11_sets_16 rfl ?_
    exact W.zret (v := 1) hx hb hr rfl (fun t ht hW => ⟨1, rfl, trivial, ht⟩) (fun _ h => absurd h List.not_mem_nil) dX11_sets_20
set_option maxRecDepth 100000 in
set_option maxHeartbeats 4000000 in
theorem q_XisText (l : Launch) (D : va_G) (cI cB cZ : ClassId) (zz qq vv : Nat) (bt : Nat → Int32) (g : Nat → Nat) (ad : Nat → Nat → Nat) (cn : Nat → Nat) (In : Nat → Int32) (Fn : Nat → Nat → Int32) (v0 : Int32) (hB : CBX cn) : Met l yX11_isText (CWS yX11_isText cX11_isText 2 (some .boolean)) (RM 1 0 0) (PBrx [.ref (g 0), .int v0] D cI cB cZ zz qq vv bt (wX cI (D.1 99) zz g ad cn In Fn)) (vp_Si (fun r => (r = 1 ∧ (1 ≤ v0.toInt ∧ v0.toInt ≤ 160 ∧ v0.toInt ≤ (cn 3 : Int))) ∨ (r = 0 ∧ ¬ (1 ≤ v0.toInt ∧ v0.toInt ≤ 160 ∧ v0.toInt ≤ (cn 3 : Int))))) 0 0 (fun _ => False) := by
  refine en_rx rfl pn_RX11 (Nat.le_of_ble_eq_true rfl) (fun p e s m below meth c hx hb hml hown S hr hlocks hnm hP hK hXS hS ls hl => ?_)
  have hl : lv_has ls 2 [(0, .ref (g 0)), (1, .int v0)] := hl
  have hb_cn : Hid (CBX cn) := hB
  replace hB : CBXh cn := hB
  refine lv_iload_n hx hb dX11_isText_0 rfl (lvA1 hl) ?_
  refine lv_iconst (v := 1) hx hb dX11_isText_1 kic_1 ?_
  refine lv_sipush (v := 160) hx hb dX11_isText_2 (by decide) ?_
  refine vp_callSi (runS_r (As := [.int v0, .int 1, .int 160]) (rest := []) S (q_l_within l D cI cB cZ v0 1 160) kS_RX11_80 hK hP [] rfl ⟨Nat.le_of_ble_eq_true rfl, Nat.le_of_ble_eq_true rfl⟩ ⟨Nat.le_of_ble_eq_true rfl, Nat.le_of_ble_eq_true rfl⟩ rfl hl.1 rfl (Nat.le_of_ble_eq_true rfl) dX11_isText_5) (fun r_1 h_2 => ?_)
  rcases h_2 with ⟨rfl, h_2⟩ | ⟨rfl, h_2⟩
  ·
    have h_2 : 1 ≤ v0.toInt ∧ v0.toInt ≤ 160 := h_2
    refine lv_if_eq (tgt := 26) hx hb dX11_isText_8 rfl (fun h => absurd h cq_eq_1_0) (fun _ => ?_)
    refine lv_iload_n hx hb dX11_isText_11 rfl (lvA1 hl) ?_
    refine lv_aload_n hx hb dX11_isText_12 rfl (lvA0 hl) ?_
    refine gf_RX11_21 S hK hP 0 xo_0 (v := .ref (g 5)) rfl dX11_isText_13 ?_
    refine vp_callSi (runV_rxa (As := []) (rest := [.int v0]) S (q_Xlength l D cI cB cZ zz qq vv bt g ad cn In Fn  hB) kV_RX11_152 hK hXS hS hP 1 xo_1 rfl rfl ⟨Nat.le_of_ble_eq_true rfl, Nat.le_of_ble_eq_true rfl⟩ ⟨Nat.le_of_ble_eq_true rfl, Nat.le_of_ble_eq_true rfl⟩ rfl hl.1 rfl (Nat.le_of_ble_eq_true rfl) dX11_isText_16) (fun r_3 h_4 => ?_)
    subst h_4
    have : (nI ((cn 3))).toInt = ((((cn 3)) : Nat) : Int) := nI_toInt (by (first | omega | (have zz0 := Hid.u hb_cn; omega)))
    refine lv_icmp_gt (tgt := 26) hx hb dX11_isText_19 rfl (fun c_5 => ?_) (fun c_5 => ?_)
    ·
      have tc_5 : ((nI ((cn 3))).toInt : Int) < v0.toInt := Int32.lt_iff_toInt_lt.mp c_5
      refine lv_iconst (v := 0) hx hb dX11_isText_26 kic_0 ?_
      exact W.zret (v := 0) hx hb hr rfl (fun t ht hW => ⟨0, rfl, (Or.inr ⟨rfl, by (first | omega | (have zz0 := Hid.u hb_cn; omega))⟩), ht⟩) (fun _ h => absurd h List.not_mem_nil) dX11_isText_27
    ·
      have tc_5 : (v0.toInt : Int) ≤ (nI ((cn 3))).toInt := Int32.le_iff_toInt_le.mp (Int32.not_lt.mp c_5)
      refine lv_iconst (v := 1) hx hb dX11_isText_22 kic_1 ?_
      refine lv_goto (tgt := 27) hx hb dX11_isText_23 rfl ?_
      exact W.zret (v := 1) hx hb hr rfl (fun t ht hW => ⟨1, rfl, (Or.inl ⟨rfl, by (first | omega | (have zz0 := Hid.u hb_cn; omega))⟩), ht⟩) (fun _ h => absurd h List.not_mem_nil) dX11_isText_27
  ·
    have h_2 : ¬ (1 ≤ v0.toInt ∧ v0.toInt ≤ 160) := h_2
    refine lv_if_eq (tgt := 26) hx hb dX11_isText_8 rfl (fun _ => ?_) (fun h => absurd h cq_eq_0_0)
    refine lv_iconst (v := 0) hx hb dX11_isText_26 kic_0 ?_
    exact W.zret (v := 0) hx hb hr rfl (fun t ht hW => ⟨0, rfl, (Or.inr ⟨rfl, by (first | omega | (have zz0 := Hid.u hb_cn; omega))⟩), ht⟩) (fun _ h => absurd h List.not_mem_nil) dX11_isText_27
