theorem putM_z {f : Nat → Int32} {n st : Nat} {v x : Int32} (hn : n ≤ st) (hf : ∀ i : Nat, st ≤ i → f i = 0) : ∀ i : Nat, st ≤ i → putM f n v x i = 0 := fun i hi => by
  unfold putM
  split
  · rename_i q
    have e : v.toNatClampNeg = v.toInt.toNat := rfl
    unfold upd
    rw [if_neg (by omega)]
    exact hf i hi
  · exact hf i hi

set_option maxRecDepth 100000 in
theorem hin_RX4 : ∀ w ∈ u_ws RX4 TX4 5, w ∈ wT := hin_all (C := RX4) (T := TX4) (n := 5) (hin_s (hin_s (hin_s (hin_s (hin_s (fun k hk => absurd hk (Nat.not_lt_zero k)) (wk5_7 3 rfl rfl)) (wk5_7 5 rfl rfl)) (wk5_7 7 rfl rfl)) (wk5_7 9 rfl rfl)) (wk5_7 11 rfl rfl))
set_option maxRecDepth 100000 in
theorem gf_RX4_16 {p : Program} {l : Launch} {e : Env} {R : Room} {s : State} {m : MethodId} {args : Array Value} {below : List Frame} {meth : Method} {c : Code} {H : Heap} {locs : List Loc} {cells slots : Nat} {Q : State → Prop} {cc : ByteArray} {nL pc : Nat} {D : va_G} {cI cB cZ : ClassId} {ws : va_W} {rest : List Value} {ls : Array Slot} {a : Nat} {fs : List Value} {v : Value} (S : SF p m c cc nL s args RX4) (hK : KK D cI cB cZ s) (hP : va_P D vwCl ws H) (q0 : Nat) (he : ws[q0]? = some (a, .inr (5, fs))) (hv : fs[2]? = some v) (hdg : decode cc pc = .ok (.getfield 16, 3)) (kk : W p l e R s m args below meth c H locs cells slots Q (F0 m (pc + 3) ls (v :: rest))) : W p l e R s m args below meth c H locs cells slots Q (F0 m pc ls (.ref a :: rest)) :=
  va_get (C := RX4) (T := TX4) (N := 5) S.1 S.2.1 S.2.2.2.2 hin_RX4 S.2.2.2.1 hK.1 hP q0 he rfl 2 (by decide) (S.2.2.2.2 _ (wk5_6 9 rfl rfl)) (fun _ h9 => h9) hv hdg kk
set_option maxRecDepth 100000 in
theorem gf_RX4_13 {p : Program} {l : Launch} {e : Env} {R : Room} {s : State} {m : MethodId} {args : Array Value} {below : List Frame} {meth : Method} {c : Code} {H : Heap} {locs : List Loc} {cells slots : Nat} {Q : State → Prop} {cc : ByteArray} {nL pc : Nat} {D : va_G} {cI cB cZ : ClassId} {ws : va_W} {rest : List Value} {ls : Array Slot} {a : Nat} {fs : List Value} {v : Value} (S : SF p m c cc nL s args RX4) (hK : KK D cI cB cZ s) (hP : va_P D vwCl ws H) (q0 : Nat) (he : ws[q0]? = some (a, .inr (5, fs))) (hv : fs[1]? = some v) (hdg : decode cc pc = .ok (.getfield 13, 3)) (kk : W p l e R s m args below meth c H locs cells slots Q (F0 m (pc + 3) ls (v :: rest))) : W p l e R s m args below meth c H locs cells slots Q (F0 m pc ls (.ref a :: rest)) :=
  va_get (C := RX4) (T := TX4) (N := 5) S.1 S.2.1 S.2.2.2.2 hin_RX4 S.2.2.2.1 hK.1 hP q0 he rfl 1 (by decide) (S.2.2.2.2 _ (wk5_6 7 rfl rfl)) (fun _ h9 => h9) hv hdg kk
set_option maxRecDepth 100000 in
theorem hin_RX0 : ∀ w ∈ u_ws RX0 TX0 8, w ∈ wT := hin_all (C := RX0) (T := TX0) (n := 8) (hin_s (hin_s (hin_s (hin_s (hin_s (hin_s (hin_s (hin_s (fun k hk => absurd hk (Nat.not_lt_zero k)) (wk4_19 1 rfl rfl)) (wk4_19 3 rfl rfl)) (wk4_19 5 rfl rfl)) (wk4_19 7 rfl rfl)) (wk4_19 9 rfl rfl)) (wk4_19 11 rfl rfl)) (wk5_0 1 rfl rfl)) (wk5_0 3 rfl rfl))
set_option maxRecDepth 100000 in
theorem gf_RX0_13 {p : Program} {l : Launch} {e : Env} {R : Room} {s : State} {m : MethodId} {args : Array Value} {below : List Frame} {meth : Method} {c : Code} {H : Heap} {locs : List Loc} {cells slots : Nat} {Q : State → Prop} {cc : ByteArray} {nL pc : Nat} {D : va_G} {cI cB cZ : ClassId} {ws : va_W} {rest : List Value} {ls : Array Slot} {a : Nat} {fs : List Value} {v : Value} (S : SF p m c cc nL s args RX0) (hK : KK D cI cB cZ s) (hP : va_P D vwCl ws H) (q0 : Nat) (he : ws[q0]? = some (a, .inr (1, fs))) (hv : fs[4]? = some v) (hdg : decode cc pc = .ok (.getfield 13, 3)) (kk : W p l e R s m args below meth c H locs cells slots Q (F0 m (pc + 3) ls (v :: rest))) : W p l e R s m args below meth c H locs cells slots Q (F0 m pc ls (.ref a :: rest)) :=
  va_get (C := RX0) (T := TX0) (N := 8) S.1 S.2.1 S.2.2.2.2 hin_RX0 S.2.2.2.1 hK.1 hP q0 he rfl 4 (by decide) (S.2.2.2.2 _ (wk4_18 6 rfl rfl)) (fun _ h9 => h9) hv hdg kk
set_option maxRecDepth 100000 in
theorem gf_RX0_24 {p : Program} {l : Launch} {e : Env} {R : Room} {s : State} {m : MethodId} {args : Array Value} {below : List Frame} {meth : Method} {c : Code} {H : Heap} {locs : List Loc} {cells slots : Nat} {Q : State → Prop} {cc : ByteArray} {nL pc : Nat} {D : va_G} {cI cB cZ : ClassId} {ws : va_W} {rest : List Value} {ls : Array Slot} {a : Nat} {fs : List Value} {v : Value} (S : SF p m c cc nL s args RX0) (hK : KK D cI cB cZ s) (hP : va_P D vwCl ws H) (q0 : Nat) (he : ws[q0]? = some (a, .inr (1, fs))) (hv : fs[6]? = some v) (hdg : decode cc pc = .ok (.getfield 24, 3)) (kk : W p l e R s m args below meth c H locs cells slots Q (F0 m (pc + 3) ls (v :: rest))) : W p l e R s m args below meth c H locs cells slots Q (F0 m pc ls (.ref a :: rest)) :=
  va_get (C := RX0) (T := TX0) (N := 8) S.1 S.2.1 S.2.2.2.2 hin_RX0 S.2.2.2.1 hK.1 hP q0 he rfl 6 (by decide) (S.2.2.2.2 _ (wk4_18 10 rfl rfl)) (fun _ h9 => h9) hv hdg kk
set_option maxRecDepth 100000 in
theorem gf_RX0_30 {p : Program} {l : Launch} {e : Env} {R : Room} {s : State} {m : MethodId} {args : Array Value} {below : List Frame} {meth : Method} {c : Code} {H : Heap} {locs : List Loc} {cells slots : Nat} {Q : State → Prop} {cc : ByteArray} {nL pc : Nat} {D : va_G} {cI cB cZ : ClassId} {ws : va_W} {rest : List Value} {ls : Array Slot} {a : Nat} {fs : List Value} {v : Value} (S : SF p m c cc nL s args RX0) (hK : KK D cI cB cZ s) (hP : va_P D vwCl ws H) (q0 : Nat) (he : ws[q0]? = some (a, .inr (1, fs))) (hv : fs[1]? = some v) (hdg : decode cc pc = .ok (.getfield 30, 3)) (kk : W p l e R s m args below meth c H locs cells slots Q (F0 m (pc + 3) ls (v :: rest))) : W p l e R s m args below meth c H locs cells slots Q (F0 m pc ls (.ref a :: rest)) :=
  va_get (C := RX0) (T := TX0) (N := 8) S.1 S.2.1 S.2.2.2.2 hin_RX0 S.2.2.2.1 hK.1 hP q0 he rfl 1 (by decide) (S.2.2.2.2 _ (wk4_18 2 rfl rfl)) (fun _ h9 => h9) hv hdg kk
set_option maxRecDepth 100000 in
theorem gf_RX0_36 {p : Program} {l : Launch} {e : Env} {R : Room} {s : State} {m : MethodId} {args : Array Value} {below : List Frame} {meth : Method} {c : Code} {H : Heap} {locs : List Loc} {cells slots : Nat} {Q : State → Prop} {cc : ByteArray} {nL pc : Nat} {D : va_G} {cI cB cZ : ClassId} {ws : va_W} {rest : List Value} {ls : Array Slot} {a : Nat} {fs : List Value} {v : Value} (S : SF p m c cc nL s args RX0) (hK : KK D cI cB cZ s) (hP : va_P D vwCl ws H) (q0 : Nat) (he : ws[q0]? = some (a, .inr (1, fs))) (hv : fs[2]? = some v) (hdg : decode cc pc = .ok (.getfield 36, 3)) (kk : W p l e R s m args below meth c H locs cells slots Q (F0 m (pc + 3) ls (v :: rest))) : W p l e R s m args below meth c H locs cells slots Q (F0 m pc ls (.ref a :: rest)) :=
  va_get (C := RX0) (T := TX0) (N := 8) S.1 S.2.1 S.2.2.2.2 hin_RX0 S.2.2.2.1 hK.1 hP q0 he rfl 2 (by decide) (S.2.2.2.2 _ (wk4_18 3 rfl rfl)) (fun _ h9 => h9) hv hdg kk
set_option maxRecDepth 100000 in
theorem gf_RX0_9 {p : Program} {l : Launch} {e : Env} {R : Room} {s : State} {m : MethodId} {args : Array Value} {below : List Frame} {meth : Method} {c : Code} {H : Heap} {locs : List Loc} {cells slots : Nat} {Q : State → Prop} {cc : ByteArray} {nL pc : Nat} {D : va_G} {cI cB cZ : ClassId} {ws : va_W} {rest : List Value} {ls : Array Slot} {a : Nat} {fs : List Value} {v : Value} (S : SF p m c cc nL s args RX0) (hK : KK D cI cB cZ s) (hP : va_P D vwCl ws H) (q0 : Nat) (he : ws[q0]? = some (a, .inr (1, fs))) (hv : fs[0]? = some v) (hdg : decode cc pc = .ok (.getfield 9, 3)) (kk : W p l e R s m args below meth c H locs cells slots Q (F0 m (pc + 3) ls (v :: rest))) : W p l e R s m args below meth c H locs cells slots Q (F0 m pc ls (.ref a :: rest)) :=
  va_get (C := RX0) (T := TX0) (N := 8) S.1 S.2.1 S.2.2.2.2 hin_RX0 S.2.2.2.1 hK.1 hP q0 he rfl 0 (by decide) (S.2.2.2.2 _ (wk4_18 1 rfl rfl)) (fun _ h9 => h9) hv hdg kk
set_option maxRecDepth 100000 in
theorem gf_RX0_42 {p : Program} {l : Launch} {e : Env} {R : Room} {s : State} {m : MethodId} {args : Array Value} {below : List Frame} {meth : Method} {c : Code} {H : Heap} {locs : List Loc} {cells slots : Nat} {Q : State → Prop} {cc : ByteArray} {nL pc : Nat} {D : va_G} {cI cB cZ : ClassId} {ws : va_W} {rest : List Value} {ls : Array Slot} {a : Nat} {fs : List Value} {v : Value} (S : SF p m c cc nL s args RX0) (hK : KK D cI cB cZ s) (hP : va_P D vwCl ws H) (q0 : Nat) (he : ws[q0]? = some (a, .inr (1, fs))) (hv : fs[3]? = some v) (hdg : decode cc pc = .ok (.getfield 42, 3)) (kk : W p l e R s m args below meth c H locs cells slots Q (F0 m (pc + 3) ls (v :: rest))) : W p l e R s m args below meth c H locs cells slots Q (F0 m pc ls (.ref a :: rest)) :=
  va_get (C := RX0) (T := TX0) (N := 8) S.1 S.2.1 S.2.2.2.2 hin_RX0 S.2.2.2.1 hK.1 hP q0 he rfl 3 (by decide) (S.2.2.2.2 _ (wk4_18 4 rfl rfl)) (fun _ h9 => h9) hv hdg kk
set_option maxRecDepth 100000 in
theorem kS_RX0_45 : CalS RX0 45 yX7_put cX7_put 3 none 3 := ⟨⟨wk5_13 2 rfl rfl, wk3_1 11 rfl rfl, wk1_0 7 rfl rfl, wk3_2 0 rfl rfl⟩, ⟨nmh_8.1, nmh_8.2, pd_69⟩⟩
set_option maxRecDepth 100000 in
theorem pf_RX0_42 {p : Program} {l : Launch} {e : Env} {R : Room} {s : State} {m : MethodId} {args : Array Value} {below : List Frame} {meth : Method} {c : Code} {H : Heap} {locs : List Loc} {cells slots : Nat} {Q : State → Prop} {cc : ByteArray} {nL pc : Nat} {D : va_G} {cI cB cZ : ClassId} {ws : va_W} {rest : List Value} {ls : Array Slot} {a : Nat} {fs : List Value} {v : Value} {A : Nat → Prop} {H0 : Heap} (S : SF p m c cc nL s args RX0) (hK : KK D cI cB cZ s) (hP : va_P D vwCl ws H) (hD : va_D A ws) (hS : va_S A H0 H locs) (q0 : Nat) (he : ws[q0]? = some (a, .inr (1, fs))) (hl : 3 < fs.length) (hn : narrow (tyX0 3) v = v) (hfit : fits (tyX0 3) v = true) (hdg : decode cc pc = .ok (.putfield 42, 3)) (kk : ∀ (H1 : Heap) (locs1 : List Loc), va_P D vwCl (ws.set q0 (a, .inr (1, fs.set 3 v))) H1 → va_D A (ws.set q0 (a, .inr (1, fs.set 3 v))) → va_S A H0 H1 locs1 → W p l e R s m args below meth c H1 locs1 cells slots Q (F0 m (pc + 3) ls rest)) : W p l e R s m args below meth c H locs cells slots Q (F0 m pc ls (v :: .ref a :: rest)) :=
  va_put (C := RX0) (T := TX0) (N := 8) S.1 S.2.1 S.2.2.2.2 hin_RX0 tyX0 tyX0_ok nmX0 S.2.2.2.1 hK.1 hP hD hS q0 he rfl 3 (by decide) (S.2.2.2.2 _ (wk4_18 4 rfl rfl)) (fun _ h9 => h9) rfl (tyX0_ok 3 (by decide)) hn hfit hl hdg kk
set_option maxRecDepth 100000 in
theorem kS_RX0_51 : CalS RX0 51 yX7_at cX7_at 2 (some .int) 2 := ⟨⟨wk5_13 11 rfl rfl, wk3_1 8 rfl rfl, wk1_0 7 rfl rfl, wk3_1 9 rfl rfl⟩, ⟨nmh_8.1, nmh_8.2, pd_67⟩⟩
set_option maxRecDepth 100000 in
theorem kV_RX11_382 : CalV RX11 382 yX11_batchAt cX11_batchAt 2 (some (.object "OilHome$Batch")) 1 := ⟨⟨wk5_3 7 rfl rfl, wk5_3 9 rfl rfl, wT_sel 48 _ rfl rfl rfl, wk1_0 1 rfl rfl, wk5_3 10 rfl rfl⟩, ⟨nmh_0.1, nmh_0.2, pd_9⟩⟩
set_option maxRecDepth 100000 in
theorem gf_RX11_441 {p : Program} {l : Launch} {e : Env} {R : Room} {s : State} {m : MethodId} {args : Array Value} {below : List Frame} {meth : Method} {c : Code} {H : Heap} {locs : List Loc} {cells slots : Nat} {Q : State → Prop} {cc : ByteArray} {nL pc : Nat} {D : va_G} {cI cB cZ : ClassId} {ws : va_W} {rest : List Value} {ls : Array Slot} {a : Nat} {fs : List Value} {v : Value} (S : SF p m c cc nL s args RX11) (hK : KK D cI cB cZ s) (hP : va_P D vwCl ws H) (q0 : Nat) (he : ws[q0]? = some (a, .inr (1, fs))) (hv : fs[3]? = some v) (hdg : decode cc pc = .ok (.getfield 441, 3)) (kk : W p l e R s m args below meth c H locs cells slots Q (F0 m (pc + 3) ls (v :: rest))) : W p l e R s m args below meth c H locs cells slots Q (F0 m pc ls (.ref a :: rest)) :=
  va_get (C := RX0) (T := TX0) (N := 8) S.1 S.2.1 S.2.2.2.2 hin_RX0 S.2.2.2.1 hK.1 hP q0 he rfl 3 (by decide) (S.2.2.2.2 _ (wk4_18 5 rfl rfl)) (fun _ h9 => h9) hv hdg kk
set_option maxRecDepth 100000 in
theorem kV_RX11_444 : CalV RX11 444 yX0_addSample cX0_addSample 2 none 1 := ⟨⟨wk5_12 10 rfl rfl, wk5_12 11 rfl rfl, wk5_13 0 rfl rfl, wk1_1 11 rfl rfl, wk5_13 1 rfl rfl⟩, ⟨nmh_1.1, nmh_1.2, pd_14⟩⟩
set_option maxRecDepth 100000 in
theorem kV_RX11_447 : CalV RX11 447 yX0_samplesFrom cX0_samplesFrom 4 (some .int) 1 := ⟨⟨wk5_13 7 rfl rfl, wk5_13 8 rfl rfl, wk5_13 9 rfl rfl, wk1_1 11 rfl rfl, wk5_13 10 rfl rfl⟩, ⟨nmh_1.1, nmh_1.2, pd_8⟩⟩
set_option maxRecDepth 100000 in
theorem gf_RX11_402 {p : Program} {l : Launch} {e : Env} {R : Room} {s : State} {m : MethodId} {args : Array Value} {below : List Frame} {meth : Method} {c : Code} {H : Heap} {locs : List Loc} {cells slots : Nat} {Q : State → Prop} {cc : ByteArray} {nL pc : Nat} {D : va_G} {cI cB cZ : ClassId} {ws : va_W} {rest : List Value} {ls : Array Slot} {a : Nat} {fs : List Value} {v : Value} (S : SF p m c cc nL s args RX11) (hK : KK D cI cB cZ s) (hP : va_P D vwCl ws H) (q0 : Nat) (he : ws[q0]? = some (a, .inr (5, fs))) (hv : fs[0]? = some v) (hdg : decode cc pc = .ok (.getfield 402, 3)) (kk : W p l e R s m args below meth c H locs cells slots Q (F0 m (pc + 3) ls (v :: rest))) : W p l e R s m args below meth c H locs cells slots Q (F0 m pc ls (.ref a :: rest)) :=
  va_get (C := RX4) (T := TX4) (N := 5) S.1 S.2.1 S.2.2.2.2 hin_RX4 S.2.2.2.1 hK.1 hP q0 he rfl 0 (by decide) (S.2.2.2.2 _ (wk5_6 6 rfl rfl)) (fun _ h9 => h9) hv hdg kk
set_option maxRecDepth 100000 in
theorem gf_RX11_405 {p : Program} {l : Launch} {e : Env} {R : Room} {s : State} {m : MethodId} {args : Array Value} {below : List Frame} {meth : Method} {c : Code} {H : Heap} {locs : List Loc} {cells slots : Nat} {Q : State → Prop} {cc : ByteArray} {nL pc : Nat} {D : va_G} {cI cB cZ : ClassId} {ws : va_W} {rest : List Value} {ls : Array Slot} {a : Nat} {fs : List Value} {v : Value} (S : SF p m c cc nL s args RX11) (hK : KK D cI cB cZ s) (hP : va_P D vwCl ws H) (q0 : Nat) (he : ws[q0]? = some (a, .inr (5, fs))) (hv : fs[1]? = some v) (hdg : decode cc pc = .ok (.getfield 405, 3)) (kk : W p l e R s m args below meth c H locs cells slots Q (F0 m (pc + 3) ls (v :: rest))) : W p l e R s m args below meth c H locs cells slots Q (F0 m pc ls (.ref a :: rest)) :=
  va_get (C := RX4) (T := TX4) (N := 5) S.1 S.2.1 S.2.2.2.2 hin_RX4 S.2.2.2.1 hK.1 hP q0 he rfl 1 (by decide) (S.2.2.2.2 _ (wk5_6 8 rfl rfl)) (fun _ h9 => h9) hv hdg kk
set_option maxRecDepth 100000 in
theorem gf_RX11_408 {p : Program} {l : Launch} {e : Env} {R : Room} {s : State} {m : MethodId} {args : Array Value} {below : List Frame} {meth : Method} {c : Code} {H : Heap} {locs : List Loc} {cells slots : Nat} {Q : State → Prop} {cc : ByteArray} {nL pc : Nat} {D : va_G} {cI cB cZ : ClassId} {ws : va_W} {rest : List Value} {ls : Array Slot} {a : Nat} {fs : List Value} {v : Value} (S : SF p m c cc nL s args RX11) (hK : KK D cI cB cZ s) (hP : va_P D vwCl ws H) (q0 : Nat) (he : ws[q0]? = some (a, .inr (5, fs))) (hv : fs[2]? = some v) (hdg : decode cc pc = .ok (.getfield 408, 3)) (kk : W p l e R s m args below meth c H locs cells slots Q (F0 m (pc + 3) ls (v :: rest))) : W p l e R s m args below meth c H locs cells slots Q (F0 m pc ls (.ref a :: rest)) :=
  va_get (C := RX4) (T := TX4) (N := 5) S.1 S.2.1 S.2.2.2.2 hin_RX4 S.2.2.2.1 hK.1 hP q0 he rfl 2 (by decide) (S.2.2.2.2 _ (wk5_6 10 rfl rfl)) (fun _ h9 => h9) hv hdg kk
set_option maxRecDepth 100000 in
theorem kV_RX11_411 : CalV RX11 411 yX11_sharesWithEarlier cX11_sharesWithEarlier 5 (some .boolean) 2 := ⟨⟨wk5_8 6 rfl rfl, wk5_8 8 rfl rfl, wT_sel 53 _ rfl rfl rfl, wk1_0 1 rfl rfl, wk5_8 9 rfl rfl⟩, ⟨nmh_0.1, nmh_0.2, pd_43⟩⟩
set_option maxRecDepth 100000 in
theorem gf_RX11_415 {p : Program} {l : Launch} {e : Env} {R : Room} {s : State} {m : MethodId} {args : Array Value} {below : List Frame} {meth : Method} {c : Code} {H : Heap} {locs : List Loc} {cells slots : Nat} {Q : State → Prop} {cc : ByteArray} {nL pc : Nat} {D : va_G} {cI cB cZ : ClassId} {ws : va_W} {rest : List Value} {ls : Array Slot} {a : Nat} {fs : List Value} {v : Value} (S : SF p m c cc nL s args RX11) (hK : KK D cI cB cZ s) (hP : va_P D vwCl ws H) (q0 : Nat) (he : ws[q0]? = some (a, .inr (5, fs))) (hv : fs[3]? = some v) (hdg : decode cc pc = .ok (.getfield 415, 3)) (kk : W p l e R s m args below meth c H locs cells slots Q (F0 m (pc + 3) ls (v :: rest))) : W p l e R s m args below meth c H locs cells slots Q (F0 m pc ls (.ref a :: rest)) :=
  va_get (C := RX4) (T := TX4) (N := 5) S.1 S.2.1 S.2.2.2.2 hin_RX4 S.2.2.2.1 hK.1 hP q0 he rfl 3 (by decide) (S.2.2.2.2 _ (wk5_7 0 rfl rfl)) (fun _ h9 => h9) hv hdg kk
set_option maxRecDepth 100000 in
theorem kV_RX11_418 : CalV RX11 418 yX11_firstProofBehind cX11_firstProofBehind 8 (some (.object "OilHome$Proof")) 3 := ⟨⟨wk5_4 3 rfl rfl, wk5_4 5 rfl rfl, wT_sel 50 _ rfl rfl rfl, wk1_0 1 rfl rfl, wk5_4 6 rfl rfl⟩, ⟨nmh_0.1, nmh_0.2, pd_24⟩⟩
set_option maxRecDepth 100000 in
theorem kV_RX11_385 : CalV RX11 385 yX11_provenLitres cX11_provenLitres 7 (some .int) 2 := ⟨⟨wk5_3 11 rfl rfl, wk5_4 1 rfl rfl, wT_sel 49 _ rfl rfl rfl, wk1_0 1 rfl rfl, wk5_4 2 rfl rfl⟩, ⟨nmh_0.1, nmh_0.2, pd_17⟩⟩
set_option maxRecDepth 100000 in
theorem gf_RX11_342 {p : Program} {l : Launch} {e : Env} {R : Room} {s : State} {m : MethodId} {args : Array Value} {below : List Frame} {meth : Method} {c : Code} {H : Heap} {locs : List Loc} {cells slots : Nat} {Q : State → Prop} {cc : ByteArray} {nL pc : Nat} {D : va_G} {cI cB cZ : ClassId} {ws : va_W} {rest : List Value} {ls : Array Slot} {a : Nat} {fs : List Value} {v : Value} (S : SF p m c cc nL s args RX11) (hK : KK D cI cB cZ s) (hP : va_P D vwCl ws H) (q0 : Nat) (he : ws[q0]? = some (a, .inr (1, fs))) (hv : fs[6]? = some v) (hdg : decode cc pc = .ok (.getfield 342, 3)) (kk : W p l e R s m args below meth c H locs cells slots Q (F0 m (pc + 3) ls (v :: rest))) : W p l e R s m args below meth c H locs cells slots Q (F0 m pc ls (.ref a :: rest)) :=
  va_get (C := RX0) (T := TX0) (N := 8) S.1 S.2.1 S.2.2.2.2 hin_RX0 S.2.2.2.1 hK.1 hP q0 he rfl 6 (by decide) (S.2.2.2.2 _ (wk4_18 11 rfl rfl)) (fun _ h9 => h9) hv hdg kk
set_option maxRecDepth 100000 in
theorem kV_RX11_378 : CalV RX11 378 yX0_has cX0_has 2 (some .boolean) 1 := ⟨⟨wk5_3 2 rfl rfl, wk5_1 3 rfl rfl, wk5_1 4 rfl rfl, wk1_1 11 rfl rfl, wk5_1 5 rfl rfl⟩, ⟨nmh_1.1, nmh_1.2, pd_15⟩⟩
set_option maxRecDepth 100000 in
theorem gf_RX11_202 {p : Program} {l : Launch} {e : Env} {R : Room} {s : State} {m : MethodId} {args : Array Value} {below : List Frame} {meth : Method} {c : Code} {H : Heap} {locs : List Loc} {cells slots : Nat} {Q : State → Prop} {cc : ByteArray} {nL pc : Nat} {D : va_G} {cI cB cZ : ClassId} {ws : va_W} {rest : List Value} {ls : Array Slot} {a : Nat} {fs : List Value} {v : Value} (S : SF p m c cc nL s args RX11) (hK : KK D cI cB cZ s) (hP : va_P D vwCl ws H) (q0 : Nat) (he : ws[q0]? = some (a, .inr (3, fs))) (hv : fs[2]? = some v) (hdg : decode cc pc = .ok (.getfield 202, 3)) (kk : W p l e R s m args below meth c H locs cells slots Q (F0 m (pc + 3) ls (v :: rest))) : W p l e R s m args below meth c H locs cells slots Q (F0 m pc ls (.ref a :: rest)) :=
  va_get (C := RX2) (T := TX2) (N := 10) S.1 S.2.1 S.2.2.2.2 hin_RX2 S.2.2.2.1 hK.1 hP q0 he rfl 2 (by decide) (S.2.2.2.2 _ (wk2_18 0 rfl rfl)) (fun _ h9 => h9) hv hdg kk
set_option maxRecDepth 100000 in
theorem kV_RX11_422 : CalV RX11 422 yX11_proofAt cX11_proofAt 2 (some (.object "OilHome$Proof")) 1 := ⟨⟨wk5_9 10 rfl rfl, wk5_10 0 rfl rfl, wT_sel 54 _ rfl rfl rfl, wk1_0 1 rfl rfl, wk5_10 1 rfl rfl⟩, ⟨nmh_0.1, nmh_0.2, pd_12⟩⟩
set_option maxRecDepth 100000 in
theorem kV_RX11_432 : CalV RX11 432 yX4_litres cX4_litres 1 (some .int) 0 := ⟨⟨wk5_11 2 rfl rfl, wk5_11 3 rfl rfl, wk5_11 4 rfl rfl, wk1_2 0 rfl rfl, wk5_11 5 rfl rfl⟩, ⟨nmh_5.1, nmh_5.2, pd_1⟩⟩
set_option maxRecDepth 100000 in
theorem gf_RX11_434 {p : Program} {l : Launch} {e : Env} {R : Room} {s : State} {m : MethodId} {args : Array Value} {below : List Frame} {meth : Method} {c : Code} {H : Heap} {locs : List Loc} {cells slots : Nat} {Q : State → Prop} {cc : ByteArray} {nL pc : Nat} {D : va_G} {cI cB cZ : ClassId} {ws : va_W} {rest : List Value} {ls : Array Slot} {a : Nat} {fs : List Value} {v : Value} (S : SF p m c cc nL s args RX11) (hK : KK D cI cB cZ s) (hP : va_P D vwCl ws H) (q0 : Nat) (he : ws[q0]? = some (a, .inr (5, fs))) (hv : fs[4]? = some v) (hdg : decode cc pc = .ok (.getfield 434, 3)) (kk : W p l e R s m args below meth c H locs cells slots Q (F0 m (pc + 3) ls (v :: rest))) : W p l e R s m args below meth c H locs cells slots Q (F0 m pc ls (.ref a :: rest)) :=
  va_get (C := RX4) (T := TX4) (N := 5) S.1 S.2.1 S.2.2.2.2 hin_RX4 S.2.2.2.1 hK.1 hP q0 he rfl 4 (by decide) (S.2.2.2.2 _ (wk5_7 2 rfl rfl)) (fun _ h9 => h9) hv hdg kk
set_option maxRecDepth 100000 in
theorem kV_RX11_438 : CalV RX11 438 yX11_boughtIn cX11_boughtIn 6 (some .int) 2 := ⟨⟨wk5_12 2 rfl rfl, wk5_12 4 rfl rfl, wT_sel 55 _ rfl rfl rfl, wk1_0 1 rfl rfl, wk5_12 5 rfl rfl⟩, ⟨nmh_0.1, nmh_0.2, pd_17⟩⟩
set_option maxRecDepth 100000 in
theorem pf_RX11_477 {p : Program} {l : Launch} {e : Env} {R : Room} {s : State} {m : MethodId} {args : Array Value} {below : List Frame} {meth : Method} {c : Code} {H : Heap} {locs : List Loc} {cells slots : Nat} {Q : State → Prop} {cc : ByteArray} {nL pc : Nat} {D : va_G} {cI cB cZ : ClassId} {ws : va_W} {rest : List Value} {ls : Array Slot} {a : Nat} {fs : List Value} {v : Value} {A : Nat → Prop} {H0 : Heap} (S : SF p m c cc nL s args RX11) (hK : KK D cI cB cZ s) (hP : va_P D vwCl ws H) (hD : va_D A ws) (hS : va_S A H0 H locs) (q0 : Nat) (he : ws[q0]? = some (a, .inr (7, fs))) (hl : 2 < fs.length) (hn : narrow (tyX6 2) v = v) (hfit : fits (tyX6 2) v = true) (hdg : decode cc pc = .ok (.putfield 477, 3)) (kk : ∀ (H1 : Heap) (locs1 : List Loc), va_P D vwCl (ws.set q0 (a, .inr (7, fs.set 2 v))) H1 → va_D A (ws.set q0 (a, .inr (7, fs.set 2 v))) → va_S A H0 H1 locs1 → W p l e R s m args below meth c H1 locs1 cells slots Q (F0 m (pc + 3) ls rest)) : W p l e R s m args below meth c H locs cells slots Q (F0 m pc ls (v :: .ref a :: rest)) :=
  va_put (C := RX6) (T := TX6) (N := 3) S.1 S.2.1 S.2.2.2.2 hin_RX6 tyX6 tyX6_ok nmX6 S.2.2.2.1 hK.1 hP hD hS q0 he rfl 2 (by decide) (S.2.2.2.2 _ (wk5_18 3 rfl rfl)) (fun _ h9 => h9) rfl (tyX6_ok 2 (by decide)) hn hfit hl hdg kk
set_option maxRecDepth 100000 in
theorem kV_RX11_530 : CalV RX11 530 yX8_number cX8_number 4 (some .int) 1 := ⟨⟨wk6_7 6 rfl rfl, wk6_7 7 rfl rfl, wk6_7 8 rfl rfl, wk1_0 4 rfl rfl, wk6_7 9 rfl rfl⟩, ⟨nmh_9.1, nmh_9.2, pd_8⟩⟩
set_option maxRecDepth 100000 in
theorem kV_RX11_526 : CalV RX11 526 yX11_wrongPart cX11_wrongPart 4 (some .int) 3 := ⟨⟨wk6_7 2 rfl rfl, wk6_7 4 rfl rfl, wT_sel 64 _ rfl rfl rfl, wk1_0 1 rfl rfl, wk6_7 5 rfl rfl⟩, ⟨nmh_0.1, nmh_0.2, pd_53⟩⟩
set_option maxRecDepth 100000 in
theorem kV_RX11_523 : CalV RX11 523 yX11_firstWrong cX11_firstWrong 7 (some .int) 2 := ⟨⟨wk6_6 10 rfl rfl, wk6_7 0 rfl rfl, wT_sel 63 _ rfl rfl rfl, wk1_0 1 rfl rfl, wk6_7 1 rfl rfl⟩, ⟨nmh_0.1, nmh_0.2, pd_17⟩⟩
set_option maxRecDepth 100000 in
theorem kV_RX11_343 : CalV RX11 343 yX0_water cX0_water 1 (some .int) 0 := ⟨⟨wk5_2 2 rfl rfl, wk5_2 3 rfl rfl, wk5_2 4 rfl rfl, wk1_1 11 rfl rfl, wk5_2 5 rfl rfl⟩, ⟨nmh_1.1, nmh_1.2, pd_1⟩⟩
set_option maxRecDepth 100000 in
theorem kV_RX11_345 : CalV RX11 345 yX0_acid cX0_acid 1 (some .int) 0 := ⟨⟨wk5_2 6 rfl rfl, wk5_2 7 rfl rfl, wk5_2 8 rfl rfl, wk1_1 11 rfl rfl, wk5_2 9 rfl rfl⟩, ⟨nmh_1.1, nmh_1.2, pd_1⟩⟩
set_option maxRecDepth 100000 in
theorem gf_RX11_388 {p : Program} {l : Launch} {e : Env} {R : Room} {s : State} {m : MethodId} {args : Array Value} {below : List Frame} {meth : Method} {c : Code} {H : Heap} {locs : List Loc} {cells slots : Nat} {Q : State → Prop} {cc : ByteArray} {nL pc : Nat} {D : va_G} {cI cB cZ : ClassId} {ws : va_W} {rest : List Value} {ls : Array Slot} {a : Nat} {fs : List Value} {v : Value} (S : SF p m c cc nL s args RX11) (hK : KK D cI cB cZ s) (hP : va_P D vwCl ws H) (q0 : Nat) (he : ws[q0]? = some (a, .inr (1, fs))) (hv : fs[4]? = some v) (hdg : decode cc pc = .ok (.getfield 388, 3)) (kk : W p l e R s m args below meth c H locs cells slots Q (F0 m (pc + 3) ls (v :: rest))) : W p l e R s m args below meth c H locs cells slots Q (F0 m pc ls (.ref a :: rest)) :=
  va_get (C := RX0) (T := TX0) (N := 8) S.1 S.2.1 S.2.2.2.2 hin_RX0 S.2.2.2.1 hK.1 hP q0 he rfl 4 (by decide) (S.2.2.2.2 _ (wk4_18 7 rfl rfl)) (fun _ h9 => h9) hv hdg kk
set_option maxRecDepth 100000 in
theorem gf_RX11_349 {p : Program} {l : Launch} {e : Env} {R : Room} {s : State} {m : MethodId} {args : Array Value} {below : List Frame} {meth : Method} {c : Code} {H : Heap} {locs : List Loc} {cells slots : Nat} {Q : State → Prop} {cc : ByteArray} {nL pc : Nat} {D : va_G} {cI cB cZ : ClassId} {ws : va_W} {rest : List Value} {ls : Array Slot} {a : Nat} {fs : List Value} {v : Value} (S : SF p m c cc nL s args RX11) (hK : KK D cI cB cZ s) (hP : va_P D vwCl ws H) (q0 : Nat) (he : ws[q0]? = some (a, .inr (3, fs))) (hv : fs[9]? = some v) (hdg : decode cc pc = .ok (.getfield 349, 3)) (kk : W p l e R s m args below meth c H locs cells slots Q (F0 m (pc + 3) ls (v :: rest))) : W p l e R s m args below meth c H locs cells slots Q (F0 m pc ls (.ref a :: rest)) :=
  va_get (C := RX2) (T := TX2) (N := 10) S.1 S.2.1 S.2.2.2.2 hin_RX2 S.2.2.2.1 hK.1 hP q0 he rfl 9 (by decide) (S.2.2.2.2 _ (wk2_19 0 rfl rfl)) (fun _ h9 => h9) hv hdg kk
set_option maxRecDepth 100000 in
theorem gf_RX11_235 {p : Program} {l : Launch} {e : Env} {R : Room} {s : State} {m : MethodId} {args : Array Value} {below : List Frame} {meth : Method} {c : Code} {H : Heap} {locs : List Loc} {cells slots : Nat} {Q : State → Prop} {cc : ByteArray} {nL pc : Nat} {D : va_G} {cI cB cZ : ClassId} {ws : va_W} {rest : List Value} {ls : Array Slot} {a : Nat} {fs : List Value} {v : Value} (S : SF p m c cc nL s args RX11) (hK : KK D cI cB cZ s) (hP : va_P D vwCl ws H) (q0 : Nat) (he : ws[q0]? = some (a, .inr (3, fs))) (hv : fs[5]? = some v) (hdg : decode cc pc = .ok (.getfield 235, 3)) (kk : W p l e R s m args below meth c H locs cells slots Q (F0 m (pc + 3) ls (v :: rest))) : W p l e R s m args below meth c H locs cells slots Q (F0 m pc ls (.ref a :: rest)) :=
  va_get (C := RX2) (T := TX2) (N := 10) S.1 S.2.1 S.2.2.2.2 hin_RX2 S.2.2.2.1 hK.1 hP q0 he rfl 5 (by decide) (S.2.2.2.2 _ (wk2_18 8 rfl rfl)) (fun _ h9 => h9) hv hdg kk
set_option maxRecDepth 100000 in
theorem gf_RX11_168 {p : Program} {l : Launch} {e : Env} {R : Room} {s : State} {m : MethodId} {args : Array Value} {below : List Frame} {meth : Method} {c : Code} {H : Heap} {locs : List Loc} {cells slots : Nat} {Q : State → Prop} {cc : ByteArray} {nL pc : Nat} {D : va_G} {cI cB cZ : ClassId} {ws : va_W} {rest : List Value} {ls : Array Slot} {a : Nat} {fs : List Value} {v : Value} (S : SF p m c cc nL s args RX11) (hK : KK D cI cB cZ s) (hP : va_P D vwCl ws H) (q0 : Nat) (he : ws[q0]? = some (a, .inr (2, fs))) (hv : fs[10]? = some v) (hdg : decode cc pc = .ok (.getfield 168, 3)) (kk : W p l e R s m args below meth c H locs cells slots Q (F0 m (pc + 3) ls (v :: rest))) : W p l e R s m args below meth c H locs cells slots Q (F0 m pc ls (.ref a :: rest)) :=
  va_get (C := RX1) (T := TX1) (N := 11) S.1 S.2.1 S.2.2.2.2 hin_RX1 S.2.2.2.1 hK.1 hP q0 he rfl 10 (by decide) (S.2.2.2.2 _ (wk2_7 6 rfl rfl)) (fun _ h9 => h9) hv hdg kk
set_option maxRecDepth 100000 in
theorem hin_RX9 : ∀ w ∈ u_ws RX9 TX9 9, w ∈ wT := hin_all (C := RX9) (T := TX9) (n := 9) (hin_s (hin_s (hin_s (hin_s (hin_s (hin_s (hin_s (hin_s (hin_s (fun k hk => absurd hk (Nat.not_lt_zero k)) (wk1_4 7 rfl rfl)) (wk1_4 9 rfl rfl)) (wk1_4 11 rfl rfl)) (wk1_5 1 rfl rfl)) (wk1_5 3 rfl rfl)) (wk1_5 5 rfl rfl)) (wk1_5 7 rfl rfl)) (wk1_5 9 rfl rfl)) (wk1_5 11 rfl rfl))
set_option maxRecDepth 100000 in
theorem gf_RX11_171 {p : Program} {l : Launch} {e : Env} {R : Room} {s : State} {m : MethodId} {args : Array Value} {below : List Frame} {meth : Method} {c : Code} {H : Heap} {locs : List Loc} {cells slots : Nat} {Q : State → Prop} {cc : ByteArray} {nL pc : Nat} {D : va_G} {cI cB cZ : ClassId} {ws : va_W} {rest : List Value} {ls : Array Slot} {a : Nat} {fs : List Value} {v : Value} (S : SF p m c cc nL s args RX11) (hK : KK D cI cB cZ s) (hP : va_P D vwCl ws H) (q0 : Nat) (he : ws[q0]? = some (a, .inr (10, fs))) (hv : fs[8]? = some v) (hdg : decode cc pc = .ok (.getfield 171, 3)) (kk : W p l e R s m args below meth c H locs cells slots Q (F0 m (pc + 3) ls (v :: rest))) : W p l e R s m args below meth c H locs cells slots Q (F0 m pc ls (.ref a :: rest)) :=
  va_get (C := RX9) (T := TX9) (N := 9) S.1 S.2.1 S.2.2.2.2 hin_RX9 S.2.2.2.1 hK.1 hP q0 he rfl 8 (by decide) (S.2.2.2.2 _ (wk1_4 6 rfl rfl)) (fun _ h9 => h9) hv hdg kk
set_option maxRecDepth 100000 in
theorem gf_RX11_12 {p : Program} {l : Launch} {e : Env} {R : Room} {s : State} {m : MethodId} {args : Array Value} {below : List Frame} {meth : Method} {c : Code} {H : Heap} {locs : List Loc} {cells slots : Nat} {Q : State → Prop} {cc : ByteArray} {nL pc : Nat} {D : va_G} {cI cB cZ : ClassId} {ws : va_W} {rest : List Value} {ls : Array Slot} {a : Nat} {fs : List Value} {v : Value} (S : SF p m c cc nL s args RX11) (hK : KK D cI cB cZ s) (hP : va_P D vwCl ws H) (q0 : Nat) (he : ws[q0]? = some (a, .inr (12, fs))) (hv : fs[4]? = some v) (hdg : decode cc pc = .ok (.getfield 12, 3)) (kk : W p l e R s m args below meth c H locs cells slots Q (F0 m (pc + 3) ls (v :: rest))) : W p l e R s m args below meth c H locs cells slots Q (F0 m pc ls (.ref a :: rest)) :=
  va_get (C := RX11) (T := TX11) (N := 16) S.1 S.2.1 S.2.2.2.2 hin_RX11 S.2.2.2.1 hK.1 hP q0 he rfl 4 (by decide) (S.2.2.2.2 _ (wk2_0 0 rfl rfl)) (fun _ h9 => h9) hv hdg kk
set_option maxRecDepth 100000 in
theorem kV_RX11_533 : CalV RX11 533 yX11_countOfAll cX11_countOfAll 2 (some .int) 1 := ⟨⟨wk6_8 3 rfl rfl, wk6_8 5 rfl rfl, wT_sel 65 _ rfl rfl rfl, wk1_0 1 rfl rfl, wk6_8 6 rfl rfl⟩, ⟨nmh_0.1, nmh_0.2, pd_8⟩⟩
set_option maxRecDepth 100000 in
theorem kV_RX11_536 : CalV RX11 536 yX11_countOfKitchen cX11_countOfKitchen 3 (some .int) 2 := ⟨⟨wk6_8 7 rfl rfl, wk6_8 9 rfl rfl, wT_sel 66 _ rfl rfl rfl, wk1_0 1 rfl rfl, wk6_8 10 rfl rfl⟩, ⟨nmh_0.1, nmh_0.2, pd_49⟩⟩
set_option maxRecDepth 100000 in
theorem gf_RX11_381 {p : Program} {l : Launch} {e : Env} {R : Room} {s : State} {m : MethodId} {args : Array Value} {below : List Frame} {meth : Method} {c : Code} {H : Heap} {locs : List Loc} {cells slots : Nat} {Q : State → Prop} {cc : ByteArray} {nL pc : Nat} {D : va_G} {cI cB cZ : ClassId} {ws : va_W} {rest : List Value} {ls : Array Slot} {a : Nat} {fs : List Value} {v : Value} (S : SF p m c cc nL s args RX11) (hK : KK D cI cB cZ s) (hP : va_P D vwCl ws H) (q0 : Nat) (he : ws[q0]? = some (a, .inr (1, fs))) (hv : fs[7]? = some v) (hdg : decode cc pc = .ok (.getfield 381, 3)) (kk : W p l e R s m args below meth c H locs cells slots Q (F0 m (pc + 3) ls (v :: rest))) : W p l e R s m args below meth c H locs cells slots Q (F0 m pc ls (.ref a :: rest)) :=
  va_get (C := RX0) (T := TX0) (N := 8) S.1 S.2.1 S.2.2.2.2 hin_RX0 S.2.2.2.1 hK.1 hP q0 he rfl 7 (by decide) (S.2.2.2.2 _ (wk4_19 0 rfl rfl)) (fun _ h9 => h9) hv hdg kk
noncomputable def sxX4_litres_10 : List UInt8 := []
noncomputable def sxX4_litres_9 : List UInt8 := 172 :: sxX4_litres_10
noncomputable def sxX4_litres_8 : List UInt8 := 100 :: sxX4_litres_9
noncomputable def sxX4_litres_5 : List UInt8 := 180 :: 0 :: 13 :: sxX4_litres_8
noncomputable def sxX4_litres_4 : List UInt8 := 42 :: sxX4_litres_5
noncomputable def sxX4_litres_1 : List UInt8 := 180 :: 0 :: 16 :: sxX4_litres_4
noncomputable def sxX4_litres_0 : List UInt8 := 42 :: sxX4_litres_1
theorem shX4_litres_0 : cX4_litres.data.toList.drop 0 = sxX4_litres_0 := rfl
theorem shX4_litres_1 : cX4_litres.data.toList.drop 1 = sxX4_litres_1 := dSn 1 shX4_litres_0
theorem shX4_litres_4 : cX4_litres.data.toList.drop 4 = sxX4_litres_4 := dSn 3 shX4_litres_1
theorem shX4_litres_5 : cX4_litres.data.toList.drop 5 = sxX4_litres_5 := dSn 1 shX4_litres_4
theorem shX4_litres_8 : cX4_litres.data.toList.drop 8 = sxX4_litres_8 := dSn 3 shX4_litres_5
theorem shX4_litres_9 : cX4_litres.data.toList.drop 9 = sxX4_litres_9 := dSn 1 shX4_litres_8
theorem dX4_litres_0 : decode cX4_litres 0 = .ok (.aload_n 0, 1) := oc_42 shX4_litres_0
theorem dX4_litres_1 : decode cX4_litres 1 = .ok (.getfield 16, 3) := oc_180 shX4_litres_1
theorem dX4_litres_4 : decode cX4_litres 4 = .ok (.aload_n 0, 1) := oc_42 shX4_litres_4
theorem dX4_litres_5 : decode cX4_litres 5 = .ok (.getfield 13, 3) := oc_180 shX4_litres_5
theorem dX4_litres_8 : decode cX4_litres 8 = .ok (.isub, 1) := oc_100 shX4_litres_8
theorem dX4_litres_9 : decode cX4_litres 9 = .ok (.ireturn, 1) := oc_172 shX4_litres_9
noncomputable def sxX0_has_17 : List UInt8 := []
noncomputable def sxX0_has_16 : List UInt8 := 172 :: sxX0_has_17
noncomputable def sxX0_has_15 : List UInt8 := 3 :: sxX0_has_16
noncomputable def sxX0_has_12 : List UInt8 := 167 :: 0 :: 4 :: sxX0_has_15
noncomputable def sxX0_has_11 : List UInt8 := 4 :: sxX0_has_12
noncomputable def sxX0_has_8 : List UInt8 := 153 :: 0 :: 7 :: sxX0_has_11
noncomputable def sxX0_has_7 : List UInt8 := 126 :: sxX0_has_8
noncomputable def sxX0_has_6 : List UInt8 := 4 :: sxX0_has_7
noncomputable def sxX0_has_5 : List UInt8 := 122 :: sxX0_has_6
noncomputable def sxX0_has_4 : List UInt8 := 27 :: sxX0_has_5
noncomputable def sxX0_has_1 : List UInt8 := 180 :: 0 :: 13 :: sxX0_has_4
noncomputable def sxX0_has_0 : List UInt8 := 42 :: sxX0_has_1
theorem shX0_has_0 : cX0_has.data.toList.drop 0 = sxX0_has_0 := rfl
theorem shX0_has_1 : cX0_has.data.toList.drop 1 = sxX0_has_1 := dSn 1 shX0_has_0
theorem shX0_has_4 : cX0_has.data.toList.drop 4 = sxX0_has_4 := dSn 3 shX0_has_1
theorem shX0_has_5 : cX0_has.data.toList.drop 5 = sxX0_has_5 := dSn 1 shX0_has_4
theorem shX0_has_6 : cX0_has.data.toList.drop 6 = sxX0_has_6 := dSn 1 shX0_has_5
theorem shX0_has_7 : cX0_has.data.toList.drop 7 = sxX0_has_7 := dSn 1 shX0_has_6
theorem shX0_has_8 : cX0_has.data.toList.drop 8 = sxX0_has_8 := dSn 1 shX0_has_7
theorem shX0_has_11 : cX0_has.data.toList.drop 11 = sxX0_has_11 := dSn 3 shX0_has_8
theorem shX0_has_12 : cX0_has.data.toList.drop 12 = sxX0_has_12 := dSn 1 shX0_has_11
theorem shX0_has_15 : cX0_has.data.toList.drop 15 = sxX0_has_15 := dSn 3 shX0_has_12
theorem shX0_has_16 : cX0_has.data.toList.drop 16 = sxX0_has_16 := dSn 1 shX0_has_15
theorem dX0_has_0 : decode cX0_has 0 = .ok (.aload_n 0, 1) := oc_42 shX0_has_0
theorem dX0_has_1 : decode cX0_has 1 = .ok (.getfield 13, 3) := oc_180 shX0_has_1
theorem dX0_has_4 : decode cX0_has 4 = .ok (.iload_n 1, 1) := oc_27 shX0_has_4
theorem dX0_has_5 : decode cX0_has 5 = .ok (.ishr, 1) := oc_122 shX0_has_5
theorem dX0_has_6 : decode cX0_has 6 = .ok (.iconst 1, 1) := oc_4 shX0_has_6
theorem dX0_has_7 : decode cX0_has 7 = .ok (.iand, 1) := oc_126 shX0_has_7
theorem dX0_has_8 : decode cX0_has 8 = .ok (.ifCond .eq 7, 3) := oc_153 shX0_has_8 sgw_0_7
theorem dX0_has_15 : decode cX0_has 15 = .ok (.iconst 0, 1) := oc_3 shX0_has_15
theorem dX0_has_16 : decode cX0_has 16 = .ok (.ireturn, 1) := oc_172 shX0_has_16
theorem dX0_has_11 : decode cX0_has 11 = .ok (.iconst 1, 1) := oc_4 shX0_has_11
theorem dX0_has_12 : decode cX0_has 12 = .ok (.goto 4, 3) := oc_167 shX0_has_12 sgw_0_4
noncomputable def sxX0_water_21 : List UInt8 := []
noncomputable def sxX0_water_20 : List UInt8 := 172 :: sxX0_water_21
noncomputable def sxX0_water_19 : List UInt8 := 108 :: sxX0_water_20
noncomputable def sxX0_water_16 : List UInt8 := 180 :: 0 :: 24 :: sxX0_water_19
noncomputable def sxX0_water_15 : List UInt8 := 42 :: sxX0_water_16
noncomputable def sxX0_water_12 : List UInt8 := 180 :: 0 :: 30 :: sxX0_water_15
noncomputable def sxX0_water_11 : List UInt8 := 42 :: sxX0_water_12
noncomputable def sxX0_water_8 : List UInt8 := 167 :: 0 :: 12 :: sxX0_water_11
noncomputable def sxX0_water_7 : List UInt8 := 3 :: sxX0_water_8
noncomputable def sxX0_water_4 : List UInt8 := 154 :: 0 :: 7 :: sxX0_water_7
noncomputable def sxX0_water_1 : List UInt8 := 180 :: 0 :: 24 :: sxX0_water_4
noncomputable def sxX0_water_0 : List UInt8 := 42 :: sxX0_water_1
theorem shX0_water_0 : cX0_water.data.toList.drop 0 = sxX0_water_0 := rfl
theorem shX0_water_1 : cX0_water.data.toList.drop 1 = sxX0_water_1 := dSn 1 shX0_water_0
theorem shX0_water_4 : cX0_water.data.toList.drop 4 = sxX0_water_4 := dSn 3 shX0_water_1
theorem shX0_water_7 : cX0_water.data.toList.drop 7 = sxX0_water_7 := dSn 3 shX0_water_4
theorem shX0_water_8 : cX0_water.data.toList.drop 8 = sxX0_water_8 := dSn 1 shX0_water_7
theorem shX0_water_11 : cX0_water.data.toList.drop 11 = sxX0_water_11 := dSn 3 shX0_water_8
theorem shX0_water_12 : cX0_water.data.toList.drop 12 = sxX0_water_12 := dSn 1 shX0_water_11
theorem shX0_water_15 : cX0_water.data.toList.drop 15 = sxX0_water_15 := dSn 3 shX0_water_12
theorem shX0_water_16 : cX0_water.data.toList.drop 16 = sxX0_water_16 := dSn 1 shX0_water_15
theorem shX0_water_19 : cX0_water.data.toList.drop 19 = sxX0_water_19 := dSn 3 shX0_water_16
theorem shX0_water_20 : cX0_water.data.toList.drop 20 = sxX0_water_20 := dSn 1 shX0_water_19
theorem dX0_water_0 : decode cX0_water 0 = .ok (.aload_n 0, 1) := oc_42 shX0_water_0
theorem dX0_water_1 : decode cX0_water 1 = .ok (.getfield 24, 3) := oc_180 shX0_water_1
theorem dX0_water_4 : decode cX0_water 4 = .ok (.ifCond .ne 7, 3) := oc_154 shX0_water_4 sgw_0_7
theorem dX0_water_11 : decode cX0_water 11 = .ok (.aload_n 0, 1) := oc_42 shX0_water_11
theorem dX0_water_12 : decode cX0_water 12 = .ok (.getfield 30, 3) := oc_180 shX0_water_12
theorem dX0_water_15 : decode cX0_water 15 = .ok (.aload_n 0, 1) := oc_42 shX0_water_15
theorem dX0_water_16 : decode cX0_water 16 = .ok (.getfield 24, 3) := oc_180 shX0_water_16
theorem dX0_water_19 : decode cX0_water 19 = .ok (.idiv, 1) := oc_108 shX0_water_19
theorem dX0_water_20 : decode cX0_water 20 = .ok (.ireturn, 1) := oc_172 shX0_water_20
theorem dX0_water_7 : decode cX0_water 7 = .ok (.iconst 0, 1) := oc_3 shX0_water_7
theorem dX0_water_8 : decode cX0_water 8 = .ok (.goto 12, 3) := oc_167 shX0_water_8 sgw_0_12
noncomputable def sxX0_acid_21 : List UInt8 := []
noncomputable def sxX0_acid_20 : List UInt8 := 172 :: sxX0_acid_21
noncomputable def sxX0_acid_19 : List UInt8 := 108 :: sxX0_acid_20
noncomputable def sxX0_acid_16 : List UInt8 := 180 :: 0 :: 24 :: sxX0_acid_19
noncomputable def sxX0_acid_15 : List UInt8 := 42 :: sxX0_acid_16
noncomputable def sxX0_acid_12 : List UInt8 := 180 :: 0 :: 36 :: sxX0_acid_15
noncomputable def sxX0_acid_11 : List UInt8 := 42 :: sxX0_acid_12
noncomputable def sxX0_acid_8 : List UInt8 := 167 :: 0 :: 12 :: sxX0_acid_11
noncomputable def sxX0_acid_7 : List UInt8 := 3 :: sxX0_acid_8
noncomputable def sxX0_acid_4 : List UInt8 := 154 :: 0 :: 7 :: sxX0_acid_7
noncomputable def sxX0_acid_1 : List UInt8 := 180 :: 0 :: 24 :: sxX0_acid_4
noncomputable def sxX0_acid_0 : List UInt8 := 42 :: sxX0_acid_1
theorem shX0_acid_0 : cX0_acid.data.toList.drop 0 = sxX0_acid_0 := rfl
theorem shX0_acid_1 : cX0_acid.data.toList.drop 1 = sxX0_acid_1 := dSn 1 shX0_acid_0
theorem shX0_acid_4 : cX0_acid.data.toList.drop 4 = sxX0_acid_4 := dSn 3 shX0_acid_1
theorem shX0_acid_7 : cX0_acid.data.toList.drop 7 = sxX0_acid_7 := dSn 3 shX0_acid_4
theorem shX0_acid_8 : cX0_acid.data.toList.drop 8 = sxX0_acid_8 := dSn 1 shX0_acid_7
theorem shX0_acid_11 : cX0_acid.data.toList.drop 11 = sxX0_acid_11 := dSn 3 shX0_acid_8
theorem shX0_acid_12 : cX0_acid.data.toList.drop 12 = sxX0_acid_12 := dSn 1 shX0_acid_11
theorem shX0_acid_15 : cX0_acid.data.toList.drop 15 = sxX0_acid_15 := dSn 3 shX0_acid_12
theorem shX0_acid_16 : cX0_acid.data.toList.drop 16 = sxX0_acid_16 := dSn 1 shX0_acid_15
theorem shX0_acid_19 : cX0_acid.data.toList.drop 19 = sxX0_acid_19 := dSn 3 shX0_acid_16
theorem shX0_acid_20 : cX0_acid.data.toList.drop 20 = sxX0_acid_20 := dSn 1 shX0_acid_19
theorem dX0_acid_0 : decode cX0_acid 0 = .ok (.aload_n 0, 1) := oc_42 shX0_acid_0
theorem dX0_acid_1 : decode cX0_acid 1 = .ok (.getfield 24, 3) := oc_180 shX0_acid_1
theorem dX0_acid_4 : decode cX0_acid 4 = .ok (.ifCond .ne 7, 3) := oc_154 shX0_acid_4 sgw_0_7
theorem dX0_acid_11 : decode cX0_acid 11 = .ok (.aload_n 0, 1) := oc_42 shX0_acid_11
theorem dX0_acid_12 : decode cX0_acid 12 = .ok (.getfield 36, 3) := oc_180 shX0_acid_12
theorem dX0_acid_15 : decode cX0_acid 15 = .ok (.aload_n 0, 1) := oc_42 shX0_acid_15
theorem dX0_acid_16 : decode cX0_acid 16 = .ok (.getfield 24, 3) := oc_180 shX0_acid_16
theorem dX0_acid_19 : decode cX0_acid 19 = .ok (.idiv, 1) := oc_108 shX0_acid_19
theorem dX0_acid_20 : decode cX0_acid 20 = .ok (.ireturn, 1) := oc_172 shX0_acid_20
theorem dX0_acid_7 : decode cX0_acid 7 = .ok (.iconst 0, 1) := oc_3 shX0_acid_7
theorem dX0_acid_8 : decode cX0_acid 8 = .ok (.goto 12, 3) := oc_167 shX0_acid_8 sgw_0_12
noncomputable def sxX0_addSample_23 : List UInt8 := []
noncomputable def sxX0_addSample_22 : List UInt8 := 177 :: sxX0_addSample_23
noncomputable def sxX0_addSample_19 : List UInt8 := 181 :: 0 :: 42 :: sxX0_addSample_22
noncomputable def sxX0_addSample_18 : List UInt8 := 96 :: sxX0_addSample_19
noncomputable def sxX0_addSample_17 : List UInt8 := 4 :: sxX0_addSample_18
noncomputable def sxX0_addSample_14 : List UInt8 := 180 :: 0 :: 42 :: sxX0_addSample_17
noncomputable def sxX0_addSample_13 : List UInt8 := 89 :: sxX0_addSample_14
noncomputable def sxX0_addSample_12 : List UInt8 := 42 :: sxX0_addSample_13
noncomputable def sxX0_addSample_9 : List UInt8 := 184 :: 0 :: 45 :: sxX0_addSample_12
noncomputable def sxX0_addSample_8 : List UInt8 := 27 :: sxX0_addSample_9
noncomputable def sxX0_addSample_5 : List UInt8 := 180 :: 0 :: 42 :: sxX0_addSample_8
noncomputable def sxX0_addSample_4 : List UInt8 := 42 :: sxX0_addSample_5
noncomputable def sxX0_addSample_1 : List UInt8 := 180 :: 0 :: 9 :: sxX0_addSample_4
noncomputable def sxX0_addSample_0 : List UInt8 := 42 :: sxX0_addSample_1
theorem shX0_addSample_0 : cX0_addSample.data.toList.drop 0 = sxX0_addSample_0 := rfl
theorem shX0_addSample_1 : cX0_addSample.data.toList.drop 1 = sxX0_addSample_1 := dSn 1 shX0_addSample_0
theorem shX0_addSample_4 : cX0_addSample.data.toList.drop 4 = sxX0_addSample_4 := dSn 3 shX0_addSample_1
theorem shX0_addSample_5 : cX0_addSample.data.toList.drop 5 = sxX0_addSample_5 := dSn 1 shX0_addSample_4
theorem shX0_addSample_8 : cX0_addSample.data.toList.drop 8 = sxX0_addSample_8 := dSn 3 shX0_addSample_5
theorem shX0_addSample_9 : cX0_addSample.data.toList.drop 9 = sxX0_addSample_9 := dSn 1 shX0_addSample_8
theorem shX0_addSample_12 : cX0_addSample.data.toList.drop 12 = sxX0_addSample_12 := dSn 3 shX0_addSample_9
theorem shX0_addSample_13 : cX0_addSample.data.toList.drop 13 = sxX0_addSample_13 := dSn 1 shX0_addSample_12
theorem shX0_addSample_14 : cX0_addSample.data.toList.drop 14 = sxX0_addSample_14 := dSn 1 shX0_addSample_13
theorem shX0_addSample_17 : cX0_addSample.data.toList.drop 17 = sxX0_addSample_17 := dSn 3 shX0_addSample_14
theorem shX0_addSample_18 : cX0_addSample.data.toList.drop 18 = sxX0_addSample_18 := dSn 1 shX0_addSample_17
theorem shX0_addSample_19 : cX0_addSample.data.toList.drop 19 = sxX0_addSample_19 := dSn 1 shX0_addSample_18
theorem shX0_addSample_22 : cX0_addSample.data.toList.drop 22 = sxX0_addSample_22 := dSn 3 shX0_addSample_19
theorem dX0_addSample_0 : decode cX0_addSample 0 = .ok (.aload_n 0, 1) := oc_42 shX0_addSample_0
theorem dX0_addSample_1 : decode cX0_addSample 1 = .ok (.getfield 9, 3) := oc_180 shX0_addSample_1
theorem dX0_addSample_4 : decode cX0_addSample 4 = .ok (.aload_n 0, 1) := oc_42 shX0_addSample_4
theorem dX0_addSample_5 : decode cX0_addSample 5 = .ok (.getfield 42, 3) := oc_180 shX0_addSample_5
theorem dX0_addSample_8 : decode cX0_addSample 8 = .ok (.iload_n 1, 1) := oc_27 shX0_addSample_8
theorem dX0_addSample_9 : decode cX0_addSample 9 = .ok (.invokestatic 45, 3) := oc_184 shX0_addSample_9
theorem dX0_addSample_12 : decode cX0_addSample 12 = .ok (.aload_n 0, 1) := oc_42 shX0_addSample_12
theorem dX0_addSample_13 : decode cX0_addSample 13 = .ok (.dup, 1) := oc_89 shX0_addSample_13
theorem dX0_addSample_14 : decode cX0_addSample 14 = .ok (.getfield 42, 3) := oc_180 shX0_addSample_14
theorem dX0_addSample_17 : decode cX0_addSample 17 = .ok (.iconst 1, 1) := oc_4 shX0_addSample_17
theorem dX0_addSample_18 : decode cX0_addSample 18 = .ok (.iadd, 1) := oc_96 shX0_addSample_18
theorem dX0_addSample_19 : decode cX0_addSample 19 = .ok (.putfield 42, 3) := oc_181 shX0_addSample_19
theorem dX0_addSample_22 : decode cX0_addSample 22 = .ok (.return_, 1) := oc_177 shX0_addSample_22
noncomputable def sxX0_samplesFrom_40 : List UInt8 := []
noncomputable def sxX0_samplesFrom_39 : List UInt8 := 172 :: sxX0_samplesFrom_40
noncomputable def sxX0_samplesFrom_38 : List UInt8 := 28 :: sxX0_samplesFrom_39
noncomputable def sxX0_samplesFrom_35 : List UInt8 := 167 :: 255 :: 225 :: sxX0_samplesFrom_38
noncomputable def sxX0_samplesFrom_32 : List UInt8 := 132 :: 3 :: 1 :: sxX0_samplesFrom_35
noncomputable def sxX0_samplesFrom_31 : List UInt8 := 61 :: sxX0_samplesFrom_32
noncomputable def sxX0_samplesFrom_30 : List UInt8 := 96 :: sxX0_samplesFrom_31
noncomputable def sxX0_samplesFrom_29 : List UInt8 := 3 :: sxX0_samplesFrom_30
noncomputable def sxX0_samplesFrom_26 : List UInt8 := 167 :: 0 :: 4 :: sxX0_samplesFrom_29
noncomputable def sxX0_samplesFrom_25 : List UInt8 := 4 :: sxX0_samplesFrom_26
noncomputable def sxX0_samplesFrom_22 : List UInt8 := 161 :: 0 :: 7 :: sxX0_samplesFrom_25
noncomputable def sxX0_samplesFrom_21 : List UInt8 := 27 :: sxX0_samplesFrom_22
noncomputable def sxX0_samplesFrom_18 : List UInt8 := 184 :: 0 :: 51 :: sxX0_samplesFrom_21
noncomputable def sxX0_samplesFrom_17 : List UInt8 := 29 :: sxX0_samplesFrom_18
noncomputable def sxX0_samplesFrom_14 : List UInt8 := 180 :: 0 :: 9 :: sxX0_samplesFrom_17
noncomputable def sxX0_samplesFrom_13 : List UInt8 := 42 :: sxX0_samplesFrom_14
noncomputable def sxX0_samplesFrom_12 : List UInt8 := 28 :: sxX0_samplesFrom_13
noncomputable def sxX0_samplesFrom_9 : List UInt8 := 162 :: 0 :: 29 :: sxX0_samplesFrom_12
noncomputable def sxX0_samplesFrom_6 : List UInt8 := 180 :: 0 :: 42 :: sxX0_samplesFrom_9
noncomputable def sxX0_samplesFrom_5 : List UInt8 := 42 :: sxX0_samplesFrom_6
noncomputable def sxX0_samplesFrom_4 : List UInt8 := 29 :: sxX0_samplesFrom_5
noncomputable def sxX0_samplesFrom_3 : List UInt8 := 62 :: sxX0_samplesFrom_4
noncomputable def sxX0_samplesFrom_2 : List UInt8 := 3 :: sxX0_samplesFrom_3
noncomputable def sxX0_samplesFrom_1 : List UInt8 := 61 :: sxX0_samplesFrom_2
noncomputable def sxX0_samplesFrom_0 : List UInt8 := 3 :: sxX0_samplesFrom_1
theorem shX0_samplesFrom_0 : cX0_samplesFrom.data.toList.drop 0 = sxX0_samplesFrom_0 := rfl
theorem shX0_samplesFrom_1 : cX0_samplesFrom.data.toList.drop 1 = sxX0_samplesFrom_1 := dSn 1 shX0_samplesFrom_0
theorem shX0_samplesFrom_2 : cX0_samplesFrom.data.toList.drop 2 = sxX0_samplesFrom_2 := dSn 1 shX0_samplesFrom_1
theorem shX0_samplesFrom_3 : cX0_samplesFrom.data.toList.drop 3 = sxX0_samplesFrom_3 := dSn 1 shX0_samplesFrom_2
theorem shX0_samplesFrom_4 : cX0_samplesFrom.data.toList.drop 4 = sxX0_samplesFrom_4 := dSn 1 shX0_samplesFrom_3
theorem shX0_samplesFrom_5 : cX0_samplesFrom.data.toList.drop 5 = sxX0_samplesFrom_5 := dSn 1 shX0_samplesFrom_4
theorem shX0_samplesFrom_6 : cX0_samplesFrom.data.toList.drop 6 = sxX0_samplesFrom_6 := dSn 1 shX0_samplesFrom_5
theorem shX0_samplesFrom_9 : cX0_samplesFrom.data.toList.drop 9 = sxX0_samplesFrom_9 := dSn 3 shX0_samplesFrom_6
theorem shX0_samplesFrom_12 : cX0_samplesFrom.data.toList.drop 12 = sxX0_samplesFrom_12 := dSn 3 shX0_samplesFrom_9
theorem shX0_samplesFrom_13 : cX0_samplesFrom.data.toList.drop 13 = sxX0_samplesFrom_13 := dSn 1 shX0_samplesFrom_12
theorem shX0_samplesFrom_14 : cX0_samplesFrom.data.toList.drop 14 = sxX0_samplesFrom_14 := dSn 1 shX0_samplesFrom_13
theorem shX0_samplesFrom_17 : cX0_samplesFrom.data.toList.drop 17 = sxX0_samplesFrom_17 := dSn 3 shX0_samplesFrom_14
theorem shX0_samplesFrom_18 : cX0_samplesFrom.data.toList.drop 18 = sxX0_samplesFrom_18 := dSn 1 shX0_samplesFrom_17
theorem shX0_samplesFrom_21 : cX0_samplesFrom.data.toList.drop 21 = sxX0_samplesFrom_21 := dSn 3 shX0_samplesFrom_18
theorem shX0_samplesFrom_22 : cX0_samplesFrom.data.toList.drop 22 = sxX0_samplesFrom_22 := dSn 1 shX0_samplesFrom_21
theorem shX0_samplesFrom_25 : cX0_samplesFrom.data.toList.drop 25 = sxX0_samplesFrom_25 := dSn 3 shX0_samplesFrom_22
theorem shX0_samplesFrom_26 : cX0_samplesFrom.data.toList.drop 26 = sxX0_samplesFrom_26 := dSn 1 shX0_samplesFrom_25
theorem shX0_samplesFrom_29 : cX0_samplesFrom.data.toList.drop 29 = sxX0_samplesFrom_29 := dSn 3 shX0_samplesFrom_26
theorem shX0_samplesFrom_30 : cX0_samplesFrom.data.toList.drop 30 = sxX0_samplesFrom_30 := dSn 1 shX0_samplesFrom_29
theorem shX0_samplesFrom_31 : cX0_samplesFrom.data.toList.drop 31 = sxX0_samplesFrom_31 := dSn 1 shX0_samplesFrom_30
theorem shX0_samplesFrom_32 : cX0_samplesFrom.data.toList.drop 32 = sxX0_samplesFrom_32 := dSn 1 shX0_samplesFrom_31
theorem shX0_samplesFrom_35 : cX0_samplesFrom.data.toList.drop 35 = sxX0_samplesFrom_35 := dSn 3 shX0_samplesFrom_32
theorem shX0_samplesFrom_38 : cX0_samplesFrom.data.toList.drop 38 = sxX0_samplesFrom_38 := dSn 3 shX0_samplesFrom_35
theorem shX0_samplesFrom_39 : cX0_samplesFrom.data.toList.drop 39 = sxX0_samplesFrom_39 := dSn 1 shX0_samplesFrom_38
theorem dX0_samplesFrom_0 : decode cX0_samplesFrom 0 = .ok (.iconst 0, 1) := oc_3 shX0_samplesFrom_0
theorem dX0_samplesFrom_1 : decode cX0_samplesFrom 1 = .ok (.istore_n 2, 1) := oc_61 shX0_samplesFrom_1
theorem dX0_samplesFrom_2 : decode cX0_samplesFrom 2 = .ok (.iconst 0, 1) := oc_3 shX0_samplesFrom_2
theorem dX0_samplesFrom_3 : decode cX0_samplesFrom 3 = .ok (.istore_n 3, 1) := oc_62 shX0_samplesFrom_3
theorem dX0_samplesFrom_4 : decode cX0_samplesFrom 4 = .ok (.iload_n 3, 1) := oc_29 shX0_samplesFrom_4
theorem dX0_samplesFrom_5 : decode cX0_samplesFrom 5 = .ok (.aload_n 0, 1) := oc_42 shX0_samplesFrom_5
theorem dX0_samplesFrom_6 : decode cX0_samplesFrom 6 = .ok (.getfield 42, 3) := oc_180 shX0_samplesFrom_6
theorem dX0_samplesFrom_9 : decode cX0_samplesFrom 9 = .ok (.if_icmp .ge 29, 3) := oc_162 shX0_samplesFrom_9 sgw_0_29
theorem dX0_samplesFrom_38 : decode cX0_samplesFrom 38 = .ok (.iload_n 2, 1) := oc_28 shX0_samplesFrom_38
theorem dX0_samplesFrom_39 : decode cX0_samplesFrom 39 = .ok (.ireturn, 1) := oc_172 shX0_samplesFrom_39
theorem dX0_samplesFrom_12 : decode cX0_samplesFrom 12 = .ok (.iload_n 2, 1) := oc_28 shX0_samplesFrom_12
theorem dX0_samplesFrom_13 : decode cX0_samplesFrom 13 = .ok (.aload_n 0, 1) := oc_42 shX0_samplesFrom_13
theorem dX0_samplesFrom_14 : decode cX0_samplesFrom 14 = .ok (.getfield 9, 3) := oc_180 shX0_samplesFrom_14
theorem dX0_samplesFrom_17 : decode cX0_samplesFrom 17 = .ok (.iload_n 3, 1) := oc_29 shX0_samplesFrom_17
theorem dX0_samplesFrom_18 : decode cX0_samplesFrom 18 = .ok (.invokestatic 51, 3) := oc_184 shX0_samplesFrom_18
theorem dX0_samplesFrom_21 : decode cX0_samplesFrom 21 = .ok (.iload_n 1, 1) := oc_27 shX0_samplesFrom_21
theorem dX0_samplesFrom_22 : decode cX0_samplesFrom 22 = .ok (.if_icmp .lt 7, 3) := oc_161 shX0_samplesFrom_22 sgw_0_7
theorem dX0_samplesFrom_29 : decode cX0_samplesFrom 29 = .ok (.iconst 0, 1) := oc_3 shX0_samplesFrom_29
theorem dX0_samplesFrom_30 : decode cX0_samplesFrom 30 = .ok (.iadd, 1) := oc_96 shX0_samplesFrom_30
theorem dX0_samplesFrom_31 : decode cX0_samplesFrom 31 = .ok (.istore_n 2, 1) := oc_61 shX0_samplesFrom_31
theorem dX0_samplesFrom_32 : decode cX0_samplesFrom 32 = .ok (.iinc 3 1, 3) := oc_132 shX0_samplesFrom_32 sgb_1
theorem dX0_samplesFrom_35 : decode cX0_samplesFrom 35 = .ok (.goto (-31), 3) := oc_167 shX0_samplesFrom_35 sgw_255_225
theorem dX0_samplesFrom_25 : decode cX0_samplesFrom 25 = .ok (.iconst 1, 1) := oc_4 shX0_samplesFrom_25
theorem dX0_samplesFrom_26 : decode cX0_samplesFrom 26 = .ok (.goto 4, 3) := oc_167 shX0_samplesFrom_26 sgw_0_4
noncomputable def sxX11_sample_42 : List UInt8 := []
noncomputable def sxX11_sample_41 : List UInt8 := 172 :: sxX11_sample_42
noncomputable def sxX11_sample_38 : List UInt8 := 180 :: 1 :: 185 :: sxX11_sample_41
noncomputable def sxX11_sample_37 : List UInt8 := 45 :: sxX11_sample_38
noncomputable def sxX11_sample_34 : List UInt8 := 182 :: 1 :: 188 :: sxX11_sample_37
noncomputable def sxX11_sample_33 : List UInt8 := 28 :: sxX11_sample_34
noncomputable def sxX11_sample_32 : List UInt8 := 45 :: sxX11_sample_33
noncomputable def sxX11_sample_31 : List UInt8 := 172 :: sxX11_sample_32
noncomputable def sxX11_sample_30 : List UInt8 := 2 :: sxX11_sample_31
noncomputable def sxX11_sample_27 : List UInt8 := 161 :: 0 :: 5 :: sxX11_sample_30
noncomputable def sxX11_sample_25 : List UInt8 := 16 :: 12 :: sxX11_sample_27
noncomputable def sxX11_sample_22 : List UInt8 := 180 :: 1 :: 185 :: sxX11_sample_25
noncomputable def sxX11_sample_21 : List UInt8 := 45 :: sxX11_sample_22
noncomputable def sxX11_sample_18 : List UInt8 := 153 :: 0 :: 12 :: sxX11_sample_21
noncomputable def sxX11_sample_15 : List UInt8 := 184 :: 0 :: 80 :: sxX11_sample_18
noncomputable def sxX11_sample_12 : List UInt8 := 17 :: 3 :: 232 :: sxX11_sample_15
noncomputable def sxX11_sample_11 : List UInt8 := 3 :: sxX11_sample_12
noncomputable def sxX11_sample_10 : List UInt8 := 28 :: sxX11_sample_11
noncomputable def sxX11_sample_7 : List UInt8 := 198 :: 0 :: 23 :: sxX11_sample_10
noncomputable def sxX11_sample_6 : List UInt8 := 45 :: sxX11_sample_7
noncomputable def sxX11_sample_5 : List UInt8 := 78 :: sxX11_sample_6
noncomputable def sxX11_sample_2 : List UInt8 := 182 :: 1 :: 126 :: sxX11_sample_5
noncomputable def sxX11_sample_1 : List UInt8 := 27 :: sxX11_sample_2
noncomputable def sxX11_sample_0 : List UInt8 := 42 :: sxX11_sample_1
theorem shX11_sample_0 : cX11_sample.data.toList.drop 0 = sxX11_sample_0 := rfl
theorem shX11_sample_1 : cX11_sample.data.toList.drop 1 = sxX11_sample_1 := dSn 1 shX11_sample_0
theorem shX11_sample_2 : cX11_sample.data.toList.drop 2 = sxX11_sample_2 := dSn 1 shX11_sample_1
theorem shX11_sample_5 : cX11_sample.data.toList.drop 5 = sxX11_sample_5 := dSn 3 shX11_sample_2
theorem shX11_sample_6 : cX11_sample.data.toList.drop 6 = sxX11_sample_6 := dSn 1 shX11_sample_5
theorem shX11_sample_7 : cX11_sample.data.toList.drop 7 = sxX11_sample_7 := dSn 1 shX11_sample_6
theorem shX11_sample_10 : cX11_sample.data.toList.drop 10 = sxX11_sample_10 := dSn 3 shX11_sample_7
theorem shX11_sample_11 : cX11_sample.data.toList.drop 11 = sxX11_sample_11 := dSn 1 shX11_sample_10
theorem shX11_sample_12 : cX11_sample.data.toList.drop 12 = sxX11_sample_12 := dSn 1 shX11_sample_11
theorem shX11_sample_15 : cX11_sample.data.toList.drop 15 = sxX11_sample_15 := dSn 3 shX11_sample_12
theorem shX11_sample_18 : cX11_sample.data.toList.drop 18 = sxX11_sample_18 := dSn 3 shX11_sample_15
theorem shX11_sample_21 : cX11_sample.data.toList.drop 21 = sxX11_sample_21 := dSn 3 shX11_sample_18
theorem shX11_sample_22 : cX11_sample.data.toList.drop 22 = sxX11_sample_22 := dSn 1 shX11_sample_21
theorem shX11_sample_25 : cX11_sample.data.toList.drop 25 = sxX11_sample_25 := dSn 3 shX11_sample_22
theorem shX11_sample_27 : cX11_sample.data.toList.drop 27 = sxX11_sample_27 := dSn 2 shX11_sample_25
theorem shX11_sample_30 : cX11_sample.data.toList.drop 30 = sxX11_sample_30 := dSn 3 shX11_sample_27
theorem shX11_sample_31 : cX11_sample.data.toList.drop 31 = sxX11_sample_31 := dSn 1 shX11_sample_30
theorem shX11_sample_32 : cX11_sample.data.toList.drop 32 = sxX11_sample_32 := dSn 1 shX11_sample_31
theorem shX11_sample_33 : cX11_sample.data.toList.drop 33 = sxX11_sample_33 := dSn 1 shX11_sample_32
theorem shX11_sample_34 : cX11_sample.data.toList.drop 34 = sxX11_sample_34 := dSn 1 shX11_sample_33
theorem shX11_sample_37 : cX11_sample.data.toList.drop 37 = sxX11_sample_37 := dSn 3 shX11_sample_34
theorem shX11_sample_38 : cX11_sample.data.toList.drop 38 = sxX11_sample_38 := dSn 1 shX11_sample_37
theorem shX11_sample_41 : cX11_sample.data.toList.drop 41 = sxX11_sample_41 := dSn 3 shX11_sample_38
theorem dX11_sample_0 : decode cX11_sample 0 = .ok (.aload_n 0, 1) := oc_42 shX11_sample_0
theorem dX11_sample_1 : decode cX11_sample 1 = .ok (.iload_n 1, 1) := oc_27 shX11_sample_1
theorem dX11_sample_2 : decode cX11_sample 2 = .ok (.invokevirtual 382, 3) := oc_182 shX11_sample_2
theorem dX11_sample_5 : decode cX11_sample 5 = .ok (.astore_n 3, 1) := oc_78 shX11_sample_5
theorem dX11_sample_6 : decode cX11_sample 6 = .ok (.aload_n 3, 1) := oc_45 shX11_sample_6
theorem dX11_sample_7 : decode cX11_sample 7 = .ok (.ifnull 23, 3) := oc_198 shX11_sample_7 sgw_0_23
theorem dX11_sample_10 : decode cX11_sample 10 = .ok (.iload_n 2, 1) := oc_28 shX11_sample_10
theorem dX11_sample_11 : decode cX11_sample 11 = .ok (.iconst 0, 1) := oc_3 shX11_sample_11
theorem dX11_sample_12 : decode cX11_sample 12 = .ok (.sipush 1000, 3) := oc_17 shX11_sample_12 sgw_3_232
theorem dX11_sample_15 : decode cX11_sample 15 = .ok (.invokestatic 80, 3) := oc_184 shX11_sample_15
theorem dX11_sample_18 : decode cX11_sample 18 = .ok (.ifCond .eq 12, 3) := oc_153 shX11_sample_18 sgw_0_12
theorem dX11_sample_21 : decode cX11_sample 21 = .ok (.aload_n 3, 1) := oc_45 shX11_sample_21
theorem dX11_sample_22 : decode cX11_sample 22 = .ok (.getfield 441, 3) := oc_180 shX11_sample_22
theorem dX11_sample_25 : decode cX11_sample 25 = .ok (.bipush 12, 2) := oc_16 shX11_sample_25 sgb_12
theorem dX11_sample_27 : decode cX11_sample 27 = .ok (.if_icmp .lt 5, 3) := oc_161 shX11_sample_27 sgw_0_5
theorem dX11_sample_32 : decode cX11_sample 32 = .ok (.aload_n 3, 1) := oc_45 shX11_sample_32
theorem dX11_sample_33 : decode cX11_sample 33 = .ok (.iload_n 2, 1) := oc_28 shX11_sample_33
theorem dX11_sample_34 : decode cX11_sample 34 = .ok (.invokevirtual 444, 3) := oc_182 shX11_sample_34
theorem dX11_sample_37 : decode cX11_sample 37 = .ok (.aload_n 3, 1) := oc_45 shX11_sample_37
theorem dX11_sample_38 : decode cX11_sample 38 = .ok (.getfield 441, 3) := oc_180 shX11_sample_38
theorem dX11_sample_41 : decode cX11_sample 41 = .ok (.ireturn, 1) := oc_172 shX11_sample_41
theorem dX11_sample_30 : decode cX11_sample 30 = .ok (.iconst (-1), 1) := oc_2 shX11_sample_30
theorem dX11_sample_31 : decode cX11_sample 31 = .ok (.ireturn, 1) := oc_172 shX11_sample_31
noncomputable def sxX11_claim_80 : List UInt8 := []
noncomputable def sxX11_claim_79 : List UInt8 := 172 :: sxX11_claim_80
noncomputable def sxX11_claim_78 : List UInt8 := 5 :: sxX11_claim_79
noncomputable def sxX11_claim_75 : List UInt8 := 167 :: 0 :: 4 :: sxX11_claim_78
noncomputable def sxX11_claim_74 : List UInt8 := 3 :: sxX11_claim_75
noncomputable def sxX11_claim_71 : List UInt8 := 164 :: 0 :: 7 :: sxX11_claim_74
noncomputable def sxX11_claim_69 : List UInt8 := 21 :: 5 :: sxX11_claim_71
noncomputable def sxX11_claim_67 : List UInt8 := 21 :: 6 :: sxX11_claim_69
noncomputable def sxX11_claim_64 : List UInt8 := 167 :: 0 :: 15 :: sxX11_claim_67
noncomputable def sxX11_claim_63 : List UInt8 := 4 :: sxX11_claim_64
noncomputable def sxX11_claim_60 : List UInt8 := 164 :: 0 :: 7 :: sxX11_claim_63
noncomputable def sxX11_claim_58 : List UInt8 := 21 :: 6 :: sxX11_claim_60
noncomputable def sxX11_claim_56 : List UInt8 := 21 :: 5 :: sxX11_claim_58
noncomputable def sxX11_claim_54 : List UInt8 := 54 :: 6 :: sxX11_claim_56
noncomputable def sxX11_claim_53 : List UInt8 := 100 :: sxX11_claim_54
noncomputable def sxX11_claim_51 : List UInt8 := 21 :: 5 :: sxX11_claim_53
noncomputable def sxX11_claim_48 : List UInt8 := 180 :: 1 :: 185 :: sxX11_claim_51
noncomputable def sxX11_claim_46 : List UInt8 := 25 :: 4 :: sxX11_claim_48
noncomputable def sxX11_claim_44 : List UInt8 := 54 :: 5 :: sxX11_claim_46
noncomputable def sxX11_claim_41 : List UInt8 := 182 :: 1 :: 191 :: sxX11_claim_44
noncomputable def sxX11_claim_40 : List UInt8 := 100 :: sxX11_claim_41
noncomputable def sxX11_claim_39 : List UInt8 := 29 :: sxX11_claim_40
noncomputable def sxX11_claim_38 : List UInt8 := 28 :: sxX11_claim_39
noncomputable def sxX11_claim_36 : List UInt8 := 25 :: 4 :: sxX11_claim_38
noncomputable def sxX11_claim_35 : List UInt8 := 172 :: sxX11_claim_36
noncomputable def sxX11_claim_34 : List UInt8 := 2 :: sxX11_claim_35
noncomputable def sxX11_claim_31 : List UInt8 := 154 :: 0 :: 5 :: sxX11_claim_34
noncomputable def sxX11_claim_28 : List UInt8 := 184 :: 0 :: 80 :: sxX11_claim_31
noncomputable def sxX11_claim_25 : List UInt8 := 17 :: 3 :: 232 :: sxX11_claim_28
noncomputable def sxX11_claim_24 : List UInt8 := 3 :: sxX11_claim_25
noncomputable def sxX11_claim_23 : List UInt8 := 29 :: sxX11_claim_24
noncomputable def sxX11_claim_20 : List UInt8 := 153 :: 0 :: 14 :: sxX11_claim_23
noncomputable def sxX11_claim_17 : List UInt8 := 184 :: 0 :: 80 :: sxX11_claim_20
noncomputable def sxX11_claim_14 : List UInt8 := 17 :: 3 :: 232 :: sxX11_claim_17
noncomputable def sxX11_claim_13 : List UInt8 := 3 :: sxX11_claim_14
noncomputable def sxX11_claim_12 : List UInt8 := 28 :: sxX11_claim_13
noncomputable def sxX11_claim_9 : List UInt8 := 198 :: 0 :: 25 :: sxX11_claim_12
noncomputable def sxX11_claim_7 : List UInt8 := 25 :: 4 :: sxX11_claim_9
noncomputable def sxX11_claim_5 : List UInt8 := 58 :: 4 :: sxX11_claim_7
noncomputable def sxX11_claim_2 : List UInt8 := 182 :: 1 :: 126 :: sxX11_claim_5
noncomputable def sxX11_claim_1 : List UInt8 := 27 :: sxX11_claim_2
noncomputable def sxX11_claim_0 : List UInt8 := 42 :: sxX11_claim_1
theorem shX11_claim_0 : cX11_claim.data.toList.drop 0 = sxX11_claim_0 := rfl
theorem shX11_claim_1 : cX11_claim.data.toList.drop 1 = sxX11_claim_1 := dSn 1 shX11_claim_0
theorem shX11_claim_2 : cX11_claim.data.toList.drop 2 = sxX11_claim_2 := dSn 1 shX11_claim_1
theorem shX11_claim_5 : cX11_claim.data.toList.drop 5 = sxX11_claim_5 := dSn 3 shX11_claim_2
theorem shX11_claim_7 : cX11_claim.data.toList.drop 7 = sxX11_claim_7 := dSn 2 shX11_claim_5
theorem shX11_claim_9 : cX11_claim.data.toList.drop 9 = sxX11_claim_9 := dSn 2 shX11_claim_7
theorem shX11_claim_12 : cX11_claim.data.toList.drop 12 = sxX11_claim_12 := dSn 3 shX11_claim_9
theorem shX11_claim_13 : cX11_claim.data.toList.drop 13 = sxX11_claim_13 := dSn 1 shX11_claim_12
theorem shX11_claim_14 : cX11_claim.data.toList.drop 14 = sxX11_claim_14 := dSn 1 shX11_claim_13
theorem shX11_claim_17 : cX11_claim.data.toList.drop 17 = sxX11_claim_17 := dSn 3 shX11_claim_14
theorem shX11_claim_20 : cX11_claim.data.toList.drop 20 = sxX11_claim_20 := dSn 3 shX11_claim_17
theorem shX11_claim_23 : cX11_claim.data.toList.drop 23 = sxX11_claim_23 := dSn 3 shX11_claim_20
theorem shX11_claim_24 : cX11_claim.data.toList.drop 24 = sxX11_claim_24 := dSn 1 shX11_claim_23
theorem shX11_claim_25 : cX11_claim.data.toList.drop 25 = sxX11_claim_25 := dSn 1 shX11_claim_24
theorem shX11_claim_28 : cX11_claim.data.toList.drop 28 = sxX11_claim_28 := dSn 3 shX11_claim_25
theorem shX11_claim_31 : cX11_claim.data.toList.drop 31 = sxX11_claim_31 := dSn 3 shX11_claim_28
theorem shX11_claim_34 : cX11_claim.data.toList.drop 34 = sxX11_claim_34 := dSn 3 shX11_claim_31
theorem shX11_claim_35 : cX11_claim.data.toList.drop 35 = sxX11_claim_35 := dSn 1 shX11_claim_34
theorem shX11_claim_36 : cX11_claim.data.toList.drop 36 = sxX11_claim_36 := dSn 1 shX11_claim_35
theorem shX11_claim_38 : cX11_claim.data.toList.drop 38 = sxX11_claim_38 := dSn 2 shX11_claim_36
theorem shX11_claim_39 : cX11_claim.data.toList.drop 39 = sxX11_claim_39 := dSn 1 shX11_claim_38
theorem shX11_claim_40 : cX11_claim.data.toList.drop 40 = sxX11_claim_40 := dSn 1 shX11_claim_39
theorem shX11_claim_41 : cX11_claim.data.toList.drop 41 = sxX11_claim_41 := dSn 1 shX11_claim_40
theorem shX11_claim_44 : cX11_claim.data.toList.drop 44 = sxX11_claim_44 := dSn 3 shX11_claim_41
theorem shX11_claim_46 : cX11_claim.data.toList.drop 46 = sxX11_claim_46 := dSn 2 shX11_claim_44
theorem shX11_claim_48 : cX11_claim.data.toList.drop 48 = sxX11_claim_48 := dSn 2 shX11_claim_46
theorem shX11_claim_51 : cX11_claim.data.toList.drop 51 = sxX11_claim_51 := dSn 3 shX11_claim_48
theorem shX11_claim_53 : cX11_claim.data.toList.drop 53 = sxX11_claim_53 := dSn 2 shX11_claim_51
theorem shX11_claim_54 : cX11_claim.data.toList.drop 54 = sxX11_claim_54 := dSn 1 shX11_claim_53
theorem shX11_claim_56 : cX11_claim.data.toList.drop 56 = sxX11_claim_56 := dSn 2 shX11_claim_54
theorem shX11_claim_58 : cX11_claim.data.toList.drop 58 = sxX11_claim_58 := dSn 2 shX11_claim_56
theorem shX11_claim_60 : cX11_claim.data.toList.drop 60 = sxX11_claim_60 := dSn 2 shX11_claim_58
theorem shX11_claim_63 : cX11_claim.data.toList.drop 63 = sxX11_claim_63 := dSn 3 shX11_claim_60
theorem shX11_claim_64 : cX11_claim.data.toList.drop 64 = sxX11_claim_64 := dSn 1 shX11_claim_63
theorem shX11_claim_67 : cX11_claim.data.toList.drop 67 = sxX11_claim_67 := dSn 3 shX11_claim_64
theorem shX11_claim_69 : cX11_claim.data.toList.drop 69 = sxX11_claim_69 := dSn 2 shX11_claim_67
theorem shX11_claim_71 : cX11_claim.data.toList.drop 71 = sxX11_claim_71 := dSn 2 shX11_claim_69
theorem shX11_claim_74 : cX11_claim.data.toList.drop 74 = sxX11_claim_74 := dSn 3 shX11_claim_71
theorem shX11_claim_75 : cX11_claim.data.toList.drop 75 = sxX11_claim_75 := dSn 1 shX11_claim_74
theorem shX11_claim_78 : cX11_claim.data.toList.drop 78 = sxX11_claim_78 := dSn 3 shX11_claim_75
theorem shX11_claim_79 : cX11_claim.data.toList.drop 79 = sxX11_claim_79 := dSn 1 shX11_claim_78
theorem dX11_claim_0 : decode cX11_claim 0 = .ok (.aload_n 0, 1) := oc_42 shX11_claim_0
theorem dX11_claim_1 : decode cX11_claim 1 = .ok (.iload_n 1, 1) := oc_27 shX11_claim_1
theorem dX11_claim_2 : decode cX11_claim 2 = .ok (.invokevirtual 382, 3) := oc_182 shX11_claim_2
theorem dX11_claim_5 : decode cX11_claim 5 = .ok (.astore 4, 2) := oc_58 shX11_claim_5
theorem dX11_claim_7 : decode cX11_claim 7 = .ok (.aload 4, 2) := oc_25 shX11_claim_7
theorem dX11_claim_9 : decode cX11_claim 9 = .ok (.ifnull 25, 3) := oc_198 shX11_claim_9 sgw_0_25
theorem dX11_claim_12 : decode cX11_claim 12 = .ok (.iload_n 2, 1) := oc_28 shX11_claim_12
theorem dX11_claim_13 : decode cX11_claim 13 = .ok (.iconst 0, 1) := oc_3 shX11_claim_13
theorem dX11_claim_14 : decode cX11_claim 14 = .ok (.sipush 1000, 3) := oc_17 shX11_claim_14 sgw_3_232
theorem dX11_claim_17 : decode cX11_claim 17 = .ok (.invokestatic 80, 3) := oc_184 shX11_claim_17
theorem dX11_claim_20 : decode cX11_claim 20 = .ok (.ifCond .eq 14, 3) := oc_153 shX11_claim_20 sgw_0_14
theorem dX11_claim_23 : decode cX11_claim 23 = .ok (.iload_n 3, 1) := oc_29 shX11_claim_23
theorem dX11_claim_24 : decode cX11_claim 24 = .ok (.iconst 0, 1) := oc_3 shX11_claim_24
theorem dX11_claim_25 : decode cX11_claim 25 = .ok (.sipush 1000, 3) := oc_17 shX11_claim_25 sgw_3_232
theorem dX11_claim_28 : decode cX11_claim 28 = .ok (.invokestatic 80, 3) := oc_184 shX11_claim_28
theorem dX11_claim_31 : decode cX11_claim 31 = .ok (.ifCond .ne 5, 3) := oc_154 shX11_claim_31 sgw_0_5
theorem dX11_claim_36 : decode cX11_claim 36 = .ok (.aload 4, 2) := oc_25 shX11_claim_36
theorem dX11_claim_38 : decode cX11_claim 38 = .ok (.iload_n 2, 1) := oc_28 shX11_claim_38
theorem dX11_claim_39 : decode cX11_claim 39 = .ok (.iload_n 3, 1) := oc_29 shX11_claim_39
theorem dX11_claim_40 : decode cX11_claim 40 = .ok (.isub, 1) := oc_100 shX11_claim_40
theorem dX11_claim_41 : decode cX11_claim 41 = .ok (.invokevirtual 447, 3) := oc_182 shX11_claim_41
theorem dX11_claim_44 : decode cX11_claim 44 = .ok (.istore 5, 2) := oc_54 shX11_claim_44
theorem dX11_claim_46 : decode cX11_claim 46 = .ok (.aload 4, 2) := oc_25 shX11_claim_46
theorem dX11_claim_48 : decode cX11_claim 48 = .ok (.getfield 441, 3) := oc_180 shX11_claim_48
theorem dX11_claim_51 : decode cX11_claim 51 = .ok (.iload 5, 2) := oc_21 shX11_claim_51
theorem dX11_claim_53 : decode cX11_claim 53 = .ok (.isub, 1) := oc_100 shX11_claim_53
theorem dX11_claim_54 : decode cX11_claim 54 = .ok (.istore 6, 2) := oc_54 shX11_claim_54
theorem dX11_claim_56 : decode cX11_claim 56 = .ok (.iload 5, 2) := oc_21 shX11_claim_56
theorem dX11_claim_58 : decode cX11_claim 58 = .ok (.iload 6, 2) := oc_21 shX11_claim_58
theorem dX11_claim_60 : decode cX11_claim 60 = .ok (.if_icmp .le 7, 3) := oc_164 shX11_claim_60 sgw_0_7
theorem dX11_claim_67 : decode cX11_claim 67 = .ok (.iload 6, 2) := oc_21 shX11_claim_67
theorem dX11_claim_69 : decode cX11_claim 69 = .ok (.iload 5, 2) := oc_21 shX11_claim_69
theorem dX11_claim_71 : decode cX11_claim 71 = .ok (.if_icmp .le 7, 3) := oc_164 shX11_claim_71 sgw_0_7
theorem dX11_claim_78 : decode cX11_claim 78 = .ok (.iconst 2, 1) := oc_5 shX11_claim_78
theorem dX11_claim_79 : decode cX11_claim 79 = .ok (.ireturn, 1) := oc_172 shX11_claim_79
theorem dX11_claim_74 : decode cX11_claim 74 = .ok (.iconst 0, 1) := oc_3 shX11_claim_74
theorem dX11_claim_75 : decode cX11_claim 75 = .ok (.goto 4, 3) := oc_167 shX11_claim_75 sgw_0_4
theorem dX11_claim_63 : decode cX11_claim 63 = .ok (.iconst 1, 1) := oc_4 shX11_claim_63
theorem dX11_claim_64 : decode cX11_claim 64 = .ok (.goto 15, 3) := oc_167 shX11_claim_64 sgw_0_15
theorem dX11_claim_34 : decode cX11_claim 34 = .ok (.iconst (-1), 1) := oc_2 shX11_claim_34
theorem dX11_claim_35 : decode cX11_claim 35 = .ok (.ireturn, 1) := oc_172 shX11_claim_35
noncomputable def sxX11_sharesWithEarlier_77 : List UInt8 := []
noncomputable def sxX11_sharesWithEarlier_76 : List UInt8 := 172 :: sxX11_sharesWithEarlier_77
noncomputable def sxX11_sharesWithEarlier_75 : List UInt8 := 3 :: sxX11_sharesWithEarlier_76
noncomputable def sxX11_sharesWithEarlier_72 : List UInt8 := 167 :: 255 :: 186 :: sxX11_sharesWithEarlier_75
noncomputable def sxX11_sharesWithEarlier_69 : List UInt8 := 132 :: 3 :: 1 :: sxX11_sharesWithEarlier_72
noncomputable def sxX11_sharesWithEarlier_68 : List UInt8 := 172 :: sxX11_sharesWithEarlier_69
noncomputable def sxX11_sharesWithEarlier_67 : List UInt8 := 4 :: sxX11_sharesWithEarlier_68
noncomputable def sxX11_sharesWithEarlier_64 : List UInt8 := 162 :: 0 :: 5 :: sxX11_sharesWithEarlier_67
noncomputable def sxX11_sharesWithEarlier_61 : List UInt8 := 180 :: 1 :: 152 :: sxX11_sharesWithEarlier_64
noncomputable def sxX11_sharesWithEarlier_59 : List UInt8 := 25 :: 4 :: sxX11_sharesWithEarlier_61
noncomputable def sxX11_sharesWithEarlier_56 : List UInt8 := 180 :: 1 :: 149 :: sxX11_sharesWithEarlier_59
noncomputable def sxX11_sharesWithEarlier_55 : List UInt8 := 44 :: sxX11_sharesWithEarlier_56
noncomputable def sxX11_sharesWithEarlier_52 : List UInt8 := 162 :: 0 :: 17 :: sxX11_sharesWithEarlier_55
noncomputable def sxX11_sharesWithEarlier_49 : List UInt8 := 180 :: 1 :: 152 :: sxX11_sharesWithEarlier_52
noncomputable def sxX11_sharesWithEarlier_48 : List UInt8 := 44 :: sxX11_sharesWithEarlier_49
noncomputable def sxX11_sharesWithEarlier_45 : List UInt8 := 180 :: 1 :: 149 :: sxX11_sharesWithEarlier_48
noncomputable def sxX11_sharesWithEarlier_43 : List UInt8 := 25 :: 4 :: sxX11_sharesWithEarlier_45
noncomputable def sxX11_sharesWithEarlier_40 : List UInt8 := 160 :: 0 :: 29 :: sxX11_sharesWithEarlier_43
noncomputable def sxX11_sharesWithEarlier_37 : List UInt8 := 180 :: 1 :: 146 :: sxX11_sharesWithEarlier_40
noncomputable def sxX11_sharesWithEarlier_36 : List UInt8 := 44 :: sxX11_sharesWithEarlier_37
noncomputable def sxX11_sharesWithEarlier_33 : List UInt8 := 180 :: 1 :: 146 :: sxX11_sharesWithEarlier_36
noncomputable def sxX11_sharesWithEarlier_31 : List UInt8 := 25 :: 4 :: sxX11_sharesWithEarlier_33
noncomputable def sxX11_sharesWithEarlier_29 : List UInt8 := 58 :: 4 :: sxX11_sharesWithEarlier_31
noncomputable def sxX11_sharesWithEarlier_26 : List UInt8 := 192 :: 0 :: 97 :: sxX11_sharesWithEarlier_29
noncomputable def sxX11_sharesWithEarlier_23 : List UInt8 := 182 :: 0 :: 87 :: sxX11_sharesWithEarlier_26
noncomputable def sxX11_sharesWithEarlier_22 : List UInt8 := 29 :: sxX11_sharesWithEarlier_23
noncomputable def sxX11_sharesWithEarlier_19 : List UInt8 := 180 :: 0 :: 71 :: sxX11_sharesWithEarlier_22
noncomputable def sxX11_sharesWithEarlier_18 : List UInt8 := 42 :: sxX11_sharesWithEarlier_19
noncomputable def sxX11_sharesWithEarlier_15 : List UInt8 := 162 :: 0 :: 60 :: sxX11_sharesWithEarlier_18
noncomputable def sxX11_sharesWithEarlier_12 : List UInt8 := 182 :: 0 :: 84 :: sxX11_sharesWithEarlier_15
noncomputable def sxX11_sharesWithEarlier_9 : List UInt8 := 180 :: 0 :: 71 :: sxX11_sharesWithEarlier_12
noncomputable def sxX11_sharesWithEarlier_8 : List UInt8 := 42 :: sxX11_sharesWithEarlier_9
noncomputable def sxX11_sharesWithEarlier_7 : List UInt8 := 29 :: sxX11_sharesWithEarlier_8
noncomputable def sxX11_sharesWithEarlier_4 : List UInt8 := 162 :: 0 :: 71 :: sxX11_sharesWithEarlier_7
noncomputable def sxX11_sharesWithEarlier_3 : List UInt8 := 27 :: sxX11_sharesWithEarlier_4
noncomputable def sxX11_sharesWithEarlier_2 : List UInt8 := 29 :: sxX11_sharesWithEarlier_3
noncomputable def sxX11_sharesWithEarlier_1 : List UInt8 := 62 :: sxX11_sharesWithEarlier_2
noncomputable def sxX11_sharesWithEarlier_0 : List UInt8 := 3 :: sxX11_sharesWithEarlier_1
theorem shX11_sharesWithEarlier_0 : cX11_sharesWithEarlier.data.toList.drop 0 = sxX11_sharesWithEarlier_0 := rfl
theorem shX11_sharesWithEarlier_1 : cX11_sharesWithEarlier.data.toList.drop 1 = sxX11_sharesWithEarlier_1 := dSn 1 shX11_sharesWithEarlier_0
theorem shX11_sharesWithEarlier_2 : cX11_sharesWithEarlier.data.toList.drop 2 = sxX11_sharesWithEarlier_2 := dSn 1 shX11_sharesWithEarlier_1
theorem shX11_sharesWithEarlier_3 : cX11_sharesWithEarlier.data.toList.drop 3 = sxX11_sharesWithEarlier_3 := dSn 1 shX11_sharesWithEarlier_2
theorem shX11_sharesWithEarlier_4 : cX11_sharesWithEarlier.data.toList.drop 4 = sxX11_sharesWithEarlier_4 := dSn 1 shX11_sharesWithEarlier_3
theorem shX11_sharesWithEarlier_7 : cX11_sharesWithEarlier.data.toList.drop 7 = sxX11_sharesWithEarlier_7 := dSn 3 shX11_sharesWithEarlier_4
theorem shX11_sharesWithEarlier_8 : cX11_sharesWithEarlier.data.toList.drop 8 = sxX11_sharesWithEarlier_8 := dSn 1 shX11_sharesWithEarlier_7
theorem shX11_sharesWithEarlier_9 : cX11_sharesWithEarlier.data.toList.drop 9 = sxX11_sharesWithEarlier_9 := dSn 1 shX11_sharesWithEarlier_8
theorem shX11_sharesWithEarlier_12 : cX11_sharesWithEarlier.data.toList.drop 12 = sxX11_sharesWithEarlier_12 := dSn 3 shX11_sharesWithEarlier_9
theorem shX11_sharesWithEarlier_15 : cX11_sharesWithEarlier.data.toList.drop 15 = sxX11_sharesWithEarlier_15 := dSn 3 shX11_sharesWithEarlier_12
theorem shX11_sharesWithEarlier_18 : cX11_sharesWithEarlier.data.toList.drop 18 = sxX11_sharesWithEarlier_18 := dSn 3 shX11_sharesWithEarlier_15
theorem shX11_sharesWithEarlier_19 : cX11_sharesWithEarlier.data.toList.drop 19 = sxX11_sharesWithEarlier_19 := dSn 1 shX11_sharesWithEarlier_18
theorem shX11_sharesWithEarlier_22 : cX11_sharesWithEarlier.data.toList.drop 22 = sxX11_sharesWithEarlier_22 := dSn 3 shX11_sharesWithEarlier_19
theorem shX11_sharesWithEarlier_23 : cX11_sharesWithEarlier.data.toList.drop 23 = sxX11_sharesWithEarlier_23 := dSn 1 shX11_sharesWithEarlier_22
theorem shX11_sharesWithEarlier_26 : cX11_sharesWithEarlier.data.toList.drop 26 = sxX11_sharesWithEarlier_26 := dSn 3 shX11_sharesWithEarlier_23
theorem shX11_sharesWithEarlier_29 : cX11_sharesWithEarlier.data.toList.drop 29 = sxX11_sharesWithEarlier_29 := dSn 3 shX11_sharesWithEarlier_26
theorem shX11_sharesWithEarlier_31 : cX11_sharesWithEarlier.data.toList.drop 31 = sxX11_sharesWithEarlier_31 := dSn 2 shX11_sharesWithEarlier_29
theorem shX11_sharesWithEarlier_33 : cX11_sharesWithEarlier.data.toList.drop 33 = sxX11_sharesWithEarlier_33 := dSn 2 shX11_sharesWithEarlier_31
theorem shX11_sharesWithEarlier_36 : cX11_sharesWithEarlier.data.toList.drop 36 = sxX11_sharesWithEarlier_36 := dSn 3 shX11_sharesWithEarlier_33
theorem shX11_sharesWithEarlier_37 : cX11_sharesWithEarlier.data.toList.drop 37 = sxX11_sharesWithEarlier_37 := dSn 1 shX11_sharesWithEarlier_36
theorem shX11_sharesWithEarlier_40 : cX11_sharesWithEarlier.data.toList.drop 40 = sxX11_sharesWithEarlier_40 := dSn 3 shX11_sharesWithEarlier_37
theorem shX11_sharesWithEarlier_43 : cX11_sharesWithEarlier.data.toList.drop 43 = sxX11_sharesWithEarlier_43 := dSn 3 shX11_sharesWithEarlier_40
theorem shX11_sharesWithEarlier_45 : cX11_sharesWithEarlier.data.toList.drop 45 = sxX11_sharesWithEarlier_45 := dSn 2 shX11_sharesWithEarlier_43
theorem shX11_sharesWithEarlier_48 : cX11_sharesWithEarlier.data.toList.drop 48 = sxX11_sharesWithEarlier_48 := dSn 3 shX11_sharesWithEarlier_45
theorem shX11_sharesWithEarlier_49 : cX11_sharesWithEarlier.data.toList.drop 49 = sxX11_sharesWithEarlier_49 := dSn 1 shX11_sharesWithEarlier_48
theorem shX11_sharesWithEarlier_52 : cX11_sharesWithEarlier.data.toList.drop 52 = sxX11_sharesWithEarlier_52 := dSn 3 shX11_sharesWithEarlier_49
theorem shX11_sharesWithEarlier_55 : cX11_sharesWithEarlier.data.toList.drop 55 = sxX11_sharesWithEarlier_55 := dSn 3 shX11_sharesWithEarlier_52
theorem shX11_sharesWithEarlier_56 : cX11_sharesWithEarlier.data.toList.drop 56 = sxX11_sharesWithEarlier_56 := dSn 1 shX11_sharesWithEarlier_55
theorem shX11_sharesWithEarlier_59 : cX11_sharesWithEarlier.data.toList.drop 59 = sxX11_sharesWithEarlier_59 := dSn 3 shX11_sharesWithEarlier_56
theorem shX11_sharesWithEarlier_61 : cX11_sharesWithEarlier.data.toList.drop 61 = sxX11_sharesWithEarlier_61 := dSn 2 shX11_sharesWithEarlier_59
theorem shX11_sharesWithEarlier_64 : cX11_sharesWithEarlier.data.toList.drop 64 = sxX11_sharesWithEarlier_64 := dSn 3 shX11_sharesWithEarlier_61
theorem shX11_sharesWithEarlier_67 : cX11_sharesWithEarlier.data.toList.drop 67 = sxX11_sharesWithEarlier_67 := dSn 3 shX11_sharesWithEarlier_64
theorem shX11_sharesWithEarlier_68 : cX11_sharesWithEarlier.data.toList.drop 68 = sxX11_sharesWithEarlier_68 := dSn 1 shX11_sharesWithEarlier_67
theorem shX11_sharesWithEarlier_69 : cX11_sharesWithEarlier.data.toList.drop 69 = sxX11_sharesWithEarlier_69 := dSn 1 shX11_sharesWithEarlier_68
theorem shX11_sharesWithEarlier_72 : cX11_sharesWithEarlier.data.toList.drop 72 = sxX11_sharesWithEarlier_72 := dSn 3 shX11_sharesWithEarlier_69
theorem shX11_sharesWithEarlier_75 : cX11_sharesWithEarlier.data.toList.drop 75 = sxX11_sharesWithEarlier_75 := dSn 3 shX11_sharesWithEarlier_72
theorem shX11_sharesWithEarlier_76 : cX11_sharesWithEarlier.data.toList.drop 76 = sxX11_sharesWithEarlier_76 := dSn 1 shX11_sharesWithEarlier_75
theorem dX11_sharesWithEarlier_0 : decode cX11_sharesWithEarlier 0 = .ok (.iconst 0, 1) := oc_3 shX11_sharesWithEarlier_0
theorem dX11_sharesWithEarlier_1 : decode cX11_sharesWithEarlier 1 = .ok (.istore_n 3, 1) := oc_62 shX11_sharesWithEarlier_1
theorem dX11_sharesWithEarlier_2 : decode cX11_sharesWithEarlier 2 = .ok (.iload_n 3, 1) := oc_29 shX11_sharesWithEarlier_2
theorem dX11_sharesWithEarlier_3 : decode cX11_sharesWithEarlier 3 = .ok (.iload_n 1, 1) := oc_27 shX11_sharesWithEarlier_3
theorem dX11_sharesWithEarlier_4 : decode cX11_sharesWithEarlier 4 = .ok (.if_icmp .ge 71, 3) := oc_162 shX11_sharesWithEarlier_4 sgw_0_71
theorem dX11_sharesWithEarlier_75 : decode cX11_sharesWithEarlier 75 = .ok (.iconst 0, 1) := oc_3 shX11_sharesWithEarlier_75
theorem dX11_sharesWithEarlier_76 : decode cX11_sharesWithEarlier 76 = .ok (.ireturn, 1) := oc_172 shX11_sharesWithEarlier_76
theorem dX11_sharesWithEarlier_7 : decode cX11_sharesWithEarlier 7 = .ok (.iload_n 3, 1) := oc_29 shX11_sharesWithEarlier_7
theorem dX11_sharesWithEarlier_8 : decode cX11_sharesWithEarlier 8 = .ok (.aload_n 0, 1) := oc_42 shX11_sharesWithEarlier_8
theorem dX11_sharesWithEarlier_9 : decode cX11_sharesWithEarlier 9 = .ok (.getfield 71, 3) := oc_180 shX11_sharesWithEarlier_9
theorem dX11_sharesWithEarlier_12 : decode cX11_sharesWithEarlier 12 = .ok (.invokevirtual 84, 3) := oc_182 shX11_sharesWithEarlier_12
theorem dX11_sharesWithEarlier_15 : decode cX11_sharesWithEarlier 15 = .ok (.if_icmp .ge 60, 3) := oc_162 shX11_sharesWithEarlier_15 sgw_0_60
theorem dX11_sharesWithEarlier_18 : decode cX11_sharesWithEarlier 18 = .ok (.aload_n 0, 1) := oc_42 shX11_sharesWithEarlier_18
theorem dX11_sharesWithEarlier_19 : decode cX11_sharesWithEarlier 19 = .ok (.getfield 71, 3) := oc_180 shX11_sharesWithEarlier_19
theorem dX11_sharesWithEarlier_22 : decode cX11_sharesWithEarlier 22 = .ok (.iload_n 3, 1) := oc_29 shX11_sharesWithEarlier_22
theorem dX11_sharesWithEarlier_23 : decode cX11_sharesWithEarlier 23 = .ok (.invokevirtual 87, 3) := oc_182 shX11_sharesWithEarlier_23
theorem dX11_sharesWithEarlier_26 : decode cX11_sharesWithEarlier 26 = .ok (.checkcast 97, 3) := oc_192 shX11_sharesWithEarlier_26
theorem dX11_sharesWithEarlier_29 : decode cX11_sharesWithEarlier 29 = .ok (.astore 4, 2) := oc_58 shX11_sharesWithEarlier_29
theorem dX11_sharesWithEarlier_31 : decode cX11_sharesWithEarlier 31 = .ok (.aload 4, 2) := oc_25 shX11_sharesWithEarlier_31
theorem dX11_sharesWithEarlier_33 : decode cX11_sharesWithEarlier 33 = .ok (.getfield 402, 3) := oc_180 shX11_sharesWithEarlier_33
theorem dX11_sharesWithEarlier_36 : decode cX11_sharesWithEarlier 36 = .ok (.aload_n 2, 1) := oc_44 shX11_sharesWithEarlier_36
theorem dX11_sharesWithEarlier_37 : decode cX11_sharesWithEarlier 37 = .ok (.getfield 402, 3) := oc_180 shX11_sharesWithEarlier_37
theorem dX11_sharesWithEarlier_40 : decode cX11_sharesWithEarlier 40 = .ok (.if_icmp .ne 29, 3) := oc_160 shX11_sharesWithEarlier_40 sgw_0_29
theorem dX11_sharesWithEarlier_69 : decode cX11_sharesWithEarlier 69 = .ok (.iinc 3 1, 3) := oc_132 shX11_sharesWithEarlier_69 sgb_1
theorem dX11_sharesWithEarlier_72 : decode cX11_sharesWithEarlier 72 = .ok (.goto (-70), 3) := oc_167 shX11_sharesWithEarlier_72 sgw_255_186
theorem dX11_sharesWithEarlier_43 : decode cX11_sharesWithEarlier 43 = .ok (.aload 4, 2) := oc_25 shX11_sharesWithEarlier_43
theorem dX11_sharesWithEarlier_45 : decode cX11_sharesWithEarlier 45 = .ok (.getfield 405, 3) := oc_180 shX11_sharesWithEarlier_45
theorem dX11_sharesWithEarlier_48 : decode cX11_sharesWithEarlier 48 = .ok (.aload_n 2, 1) := oc_44 shX11_sharesWithEarlier_48
theorem dX11_sharesWithEarlier_49 : decode cX11_sharesWithEarlier 49 = .ok (.getfield 408, 3) := oc_180 shX11_sharesWithEarlier_49
theorem dX11_sharesWithEarlier_52 : decode cX11_sharesWithEarlier 52 = .ok (.if_icmp .ge 17, 3) := oc_162 shX11_sharesWithEarlier_52 sgw_0_17
theorem dX11_sharesWithEarlier_55 : decode cX11_sharesWithEarlier 55 = .ok (.aload_n 2, 1) := oc_44 shX11_sharesWithEarlier_55
theorem dX11_sharesWithEarlier_56 : decode cX11_sharesWithEarlier 56 = .ok (.getfield 405, 3) := oc_180 shX11_sharesWithEarlier_56
theorem dX11_sharesWithEarlier_59 : decode cX11_sharesWithEarlier 59 = .ok (.aload 4, 2) := oc_25 shX11_sharesWithEarlier_59
theorem dX11_sharesWithEarlier_61 : decode cX11_sharesWithEarlier 61 = .ok (.getfield 408, 3) := oc_180 shX11_sharesWithEarlier_61
theorem dX11_sharesWithEarlier_64 : decode cX11_sharesWithEarlier 64 = .ok (.if_icmp .ge 5, 3) := oc_162 shX11_sharesWithEarlier_64 sgw_0_5
theorem dX11_sharesWithEarlier_67 : decode cX11_sharesWithEarlier 67 = .ok (.iconst 1, 1) := oc_4 shX11_sharesWithEarlier_67
theorem dX11_sharesWithEarlier_68 : decode cX11_sharesWithEarlier 68 = .ok (.ireturn, 1) := oc_172 shX11_sharesWithEarlier_68
noncomputable def sxX11_twice_52 : List UInt8 := []
noncomputable def sxX11_twice_51 : List UInt8 := 172 :: sxX11_twice_52
noncomputable def sxX11_twice_50 : List UInt8 := 2 :: sxX11_twice_51
noncomputable def sxX11_twice_47 : List UInt8 := 167 :: 255 :: 211 :: sxX11_twice_50
noncomputable def sxX11_twice_44 : List UInt8 := 132 :: 2 :: 1 :: sxX11_twice_47
noncomputable def sxX11_twice_43 : List UInt8 := 172 :: sxX11_twice_44
noncomputable def sxX11_twice_42 : List UInt8 := 28 :: sxX11_twice_43
noncomputable def sxX11_twice_39 : List UInt8 := 153 :: 0 :: 5 :: sxX11_twice_42
noncomputable def sxX11_twice_36 : List UInt8 := 182 :: 1 :: 155 :: sxX11_twice_39
noncomputable def sxX11_twice_35 : List UInt8 := 45 :: sxX11_twice_36
noncomputable def sxX11_twice_34 : List UInt8 := 28 :: sxX11_twice_35
noncomputable def sxX11_twice_33 : List UInt8 := 42 :: sxX11_twice_34
noncomputable def sxX11_twice_30 : List UInt8 := 160 :: 0 :: 14 :: sxX11_twice_33
noncomputable def sxX11_twice_29 : List UInt8 := 27 :: sxX11_twice_30
noncomputable def sxX11_twice_26 : List UInt8 := 180 :: 1 :: 146 :: sxX11_twice_29
noncomputable def sxX11_twice_25 : List UInt8 := 45 :: sxX11_twice_26
noncomputable def sxX11_twice_24 : List UInt8 := 78 :: sxX11_twice_25
noncomputable def sxX11_twice_21 : List UInt8 := 192 :: 0 :: 97 :: sxX11_twice_24
noncomputable def sxX11_twice_18 : List UInt8 := 182 :: 0 :: 87 :: sxX11_twice_21
noncomputable def sxX11_twice_17 : List UInt8 := 28 :: sxX11_twice_18
noncomputable def sxX11_twice_14 : List UInt8 := 180 :: 0 :: 71 :: sxX11_twice_17
noncomputable def sxX11_twice_13 : List UInt8 := 42 :: sxX11_twice_14
noncomputable def sxX11_twice_10 : List UInt8 := 162 :: 0 :: 40 :: sxX11_twice_13
noncomputable def sxX11_twice_7 : List UInt8 := 182 :: 0 :: 84 :: sxX11_twice_10
noncomputable def sxX11_twice_4 : List UInt8 := 180 :: 0 :: 71 :: sxX11_twice_7
noncomputable def sxX11_twice_3 : List UInt8 := 42 :: sxX11_twice_4
noncomputable def sxX11_twice_2 : List UInt8 := 28 :: sxX11_twice_3
noncomputable def sxX11_twice_1 : List UInt8 := 61 :: sxX11_twice_2
noncomputable def sxX11_twice_0 : List UInt8 := 3 :: sxX11_twice_1
theorem shX11_twice_0 : cX11_twice.data.toList.drop 0 = sxX11_twice_0 := rfl
theorem shX11_twice_1 : cX11_twice.data.toList.drop 1 = sxX11_twice_1 := dSn 1 shX11_twice_0
theorem shX11_twice_2 : cX11_twice.data.toList.drop 2 = sxX11_twice_2 := dSn 1 shX11_twice_1
theorem shX11_twice_3 : cX11_twice.data.toList.drop 3 = sxX11_twice_3 := dSn 1 shX11_twice_2
theorem shX11_twice_4 : cX11_twice.data.toList.drop 4 = sxX11_twice_4 := dSn 1 shX11_twice_3
theorem shX11_twice_7 : cX11_twice.data.toList.drop 7 = sxX11_twice_7 := dSn 3 shX11_twice_4
theorem shX11_twice_10 : cX11_twice.data.toList.drop 10 = sxX11_twice_10 := dSn 3 shX11_twice_7
theorem shX11_twice_13 : cX11_twice.data.toList.drop 13 = sxX11_twice_13 := dSn 3 shX11_twice_10
theorem shX11_twice_14 : cX11_twice.data.toList.drop 14 = sxX11_twice_14 := dSn 1 shX11_twice_13
theorem shX11_twice_17 : cX11_twice.data.toList.drop 17 = sxX11_twice_17 := dSn 3 shX11_twice_14
theorem shX11_twice_18 : cX11_twice.data.toList.drop 18 = sxX11_twice_18 := dSn 1 shX11_twice_17
theorem shX11_twice_21 : cX11_twice.data.toList.drop 21 = sxX11_twice_21 := dSn 3 shX11_twice_18
theorem shX11_twice_24 : cX11_twice.data.toList.drop 24 = sxX11_twice_24 := dSn 3 shX11_twice_21
theorem shX11_twice_25 : cX11_twice.data.toList.drop 25 = sxX11_twice_25 := dSn 1 shX11_twice_24
theorem shX11_twice_26 : cX11_twice.data.toList.drop 26 = sxX11_twice_26 := dSn 1 shX11_twice_25
theorem shX11_twice_29 : cX11_twice.data.toList.drop 29 = sxX11_twice_29 := dSn 3 shX11_twice_26
theorem shX11_twice_30 : cX11_twice.data.toList.drop 30 = sxX11_twice_30 := dSn 1 shX11_twice_29
theorem shX11_twice_33 : cX11_twice.data.toList.drop 33 = sxX11_twice_33 := dSn 3 shX11_twice_30
theorem shX11_twice_34 : cX11_twice.data.toList.drop 34 = sxX11_twice_34 := dSn 1 shX11_twice_33
theorem shX11_twice_35 : cX11_twice.data.toList.drop 35 = sxX11_twice_35 := dSn 1 shX11_twice_34
theorem shX11_twice_36 : cX11_twice.data.toList.drop 36 = sxX11_twice_36 := dSn 1 shX11_twice_35
theorem shX11_twice_39 : cX11_twice.data.toList.drop 39 = sxX11_twice_39 := dSn 3 shX11_twice_36
theorem shX11_twice_42 : cX11_twice.data.toList.drop 42 = sxX11_twice_42 := dSn 3 shX11_twice_39
theorem shX11_twice_43 : cX11_twice.data.toList.drop 43 = sxX11_twice_43 := dSn 1 shX11_twice_42
theorem shX11_twice_44 : cX11_twice.data.toList.drop 44 = sxX11_twice_44 := dSn 1 shX11_twice_43
theorem shX11_twice_47 : cX11_twice.data.toList.drop 47 = sxX11_twice_47 := dSn 3 shX11_twice_44
theorem shX11_twice_50 : cX11_twice.data.toList.drop 50 = sxX11_twice_50 := dSn 3 shX11_twice_47
theorem shX11_twice_51 : cX11_twice.data.toList.drop 51 = sxX11_twice_51 := dSn 1 shX11_twice_50
theorem dX11_twice_0 : decode cX11_twice 0 = .ok (.iconst 0, 1) := oc_3 shX11_twice_0
theorem dX11_twice_1 : decode cX11_twice 1 = .ok (.istore_n 2, 1) := oc_61 shX11_twice_1
theorem dX11_twice_2 : decode cX11_twice 2 = .ok (.iload_n 2, 1) := oc_28 shX11_twice_2
theorem dX11_twice_3 : decode cX11_twice 3 = .ok (.aload_n 0, 1) := oc_42 shX11_twice_3
theorem dX11_twice_4 : decode cX11_twice 4 = .ok (.getfield 71, 3) := oc_180 shX11_twice_4
theorem dX11_twice_7 : decode cX11_twice 7 = .ok (.invokevirtual 84, 3) := oc_182 shX11_twice_7
theorem dX11_twice_10 : decode cX11_twice 10 = .ok (.if_icmp .ge 40, 3) := oc_162 shX11_twice_10 sgw_0_40
theorem dX11_twice_50 : decode cX11_twice 50 = .ok (.iconst (-1), 1) := oc_2 shX11_twice_50
theorem dX11_twice_51 : decode cX11_twice 51 = .ok (.ireturn, 1) := oc_172 shX11_twice_51
theorem dX11_twice_13 : decode cX11_twice 13 = .ok (.aload_n 0, 1) := oc_42 shX11_twice_13
theorem dX11_twice_14 : decode cX11_twice 14 = .ok (.getfield 71, 3) := oc_180 shX11_twice_14
theorem dX11_twice_17 : decode cX11_twice 17 = .ok (.iload_n 2, 1) := oc_28 shX11_twice_17
theorem dX11_twice_18 : decode cX11_twice 18 = .ok (.invokevirtual 87, 3) := oc_182 shX11_twice_18
theorem dX11_twice_21 : decode cX11_twice 21 = .ok (.checkcast 97, 3) := oc_192 shX11_twice_21
theorem dX11_twice_24 : decode cX11_twice 24 = .ok (.astore_n 3, 1) := oc_78 shX11_twice_24
theorem dX11_twice_25 : decode cX11_twice 25 = .ok (.aload_n 3, 1) := oc_45 shX11_twice_25
theorem dX11_twice_26 : decode cX11_twice 26 = .ok (.getfield 402, 3) := oc_180 shX11_twice_26
theorem dX11_twice_29 : decode cX11_twice 29 = .ok (.iload_n 1, 1) := oc_27 shX11_twice_29
theorem dX11_twice_30 : decode cX11_twice 30 = .ok (.if_icmp .ne 14, 3) := oc_160 shX11_twice_30 sgw_0_14
theorem dX11_twice_44 : decode cX11_twice 44 = .ok (.iinc 2 1, 3) := oc_132 shX11_twice_44 sgb_1
theorem dX11_twice_47 : decode cX11_twice 47 = .ok (.goto (-45), 3) := oc_167 shX11_twice_47 sgw_255_211
theorem dX11_twice_33 : decode cX11_twice 33 = .ok (.aload_n 0, 1) := oc_42 shX11_twice_33
theorem dX11_twice_34 : decode cX11_twice 34 = .ok (.iload_n 2, 1) := oc_28 shX11_twice_34
theorem dX11_twice_35 : decode cX11_twice 35 = .ok (.aload_n 3, 1) := oc_45 shX11_twice_35
theorem dX11_twice_36 : decode cX11_twice 36 = .ok (.invokevirtual 411, 3) := oc_182 shX11_twice_36
theorem dX11_twice_39 : decode cX11_twice 39 = .ok (.ifCond .eq 5, 3) := oc_153 shX11_twice_39 sgw_0_5
theorem dX11_twice_42 : decode cX11_twice 42 = .ok (.iload_n 2, 1) := oc_28 shX11_twice_42
theorem dX11_twice_43 : decode cX11_twice 43 = .ok (.ireturn, 1) := oc_172 shX11_twice_43
noncomputable def sxX11_firstProofBehind_107 : List UInt8 := []
noncomputable def sxX11_firstProofBehind_106 : List UInt8 := 176 :: sxX11_firstProofBehind_107
noncomputable def sxX11_firstProofBehind_104 : List UInt8 := 25 :: 4 :: sxX11_firstProofBehind_106
noncomputable def sxX11_firstProofBehind_101 : List UInt8 := 167 :: 255 :: 161 :: sxX11_firstProofBehind_104
noncomputable def sxX11_firstProofBehind_98 : List UInt8 := 132 :: 5 :: 1 :: sxX11_firstProofBehind_101
noncomputable def sxX11_firstProofBehind_96 : List UInt8 := 58 :: 4 :: sxX11_firstProofBehind_98
noncomputable def sxX11_firstProofBehind_94 : List UInt8 := 25 :: 6 :: sxX11_firstProofBehind_96
noncomputable def sxX11_firstProofBehind_91 : List UInt8 := 162 :: 0 :: 7 :: sxX11_firstProofBehind_94
noncomputable def sxX11_firstProofBehind_88 : List UInt8 := 180 :: 1 :: 149 :: sxX11_firstProofBehind_91
noncomputable def sxX11_firstProofBehind_86 : List UInt8 := 25 :: 4 :: sxX11_firstProofBehind_88
noncomputable def sxX11_firstProofBehind_83 : List UInt8 := 180 :: 1 :: 149 :: sxX11_firstProofBehind_86
noncomputable def sxX11_firstProofBehind_81 : List UInt8 := 25 :: 6 :: sxX11_firstProofBehind_83
noncomputable def sxX11_firstProofBehind_78 : List UInt8 := 198 :: 0 :: 16 :: sxX11_firstProofBehind_81
noncomputable def sxX11_firstProofBehind_76 : List UInt8 := 25 :: 4 :: sxX11_firstProofBehind_78
noncomputable def sxX11_firstProofBehind_73 : List UInt8 := 164 :: 0 :: 25 :: sxX11_firstProofBehind_76
noncomputable def sxX11_firstProofBehind_72 : List UInt8 := 27 :: sxX11_firstProofBehind_73
noncomputable def sxX11_firstProofBehind_69 : List UInt8 := 180 :: 1 :: 152 :: sxX11_firstProofBehind_72
noncomputable def sxX11_firstProofBehind_67 : List UInt8 := 25 :: 6 :: sxX11_firstProofBehind_69
noncomputable def sxX11_firstProofBehind_64 : List UInt8 := 153 :: 0 :: 34 :: sxX11_firstProofBehind_67
noncomputable def sxX11_firstProofBehind_62 : List UInt8 := 21 :: 7 :: sxX11_firstProofBehind_64
noncomputable def sxX11_firstProofBehind_60 : List UInt8 := 54 :: 7 :: sxX11_firstProofBehind_62
noncomputable def sxX11_firstProofBehind_59 : List UInt8 := 3 :: sxX11_firstProofBehind_60
noncomputable def sxX11_firstProofBehind_56 : List UInt8 := 167 :: 0 :: 4 :: sxX11_firstProofBehind_59
noncomputable def sxX11_firstProofBehind_55 : List UInt8 := 4 :: sxX11_firstProofBehind_56
noncomputable def sxX11_firstProofBehind_52 : List UInt8 := 160 :: 0 :: 7 :: sxX11_firstProofBehind_55
noncomputable def sxX11_firstProofBehind_51 : List UInt8 := 29 :: sxX11_firstProofBehind_52
noncomputable def sxX11_firstProofBehind_48 : List UInt8 := 180 :: 1 :: 159 :: sxX11_firstProofBehind_51
noncomputable def sxX11_firstProofBehind_46 : List UInt8 := 25 :: 6 :: sxX11_firstProofBehind_48
noncomputable def sxX11_firstProofBehind_43 : List UInt8 := 159 :: 0 :: 12 :: sxX11_firstProofBehind_46
noncomputable def sxX11_firstProofBehind_42 : List UInt8 := 2 :: sxX11_firstProofBehind_43
noncomputable def sxX11_firstProofBehind_41 : List UInt8 := 29 :: sxX11_firstProofBehind_42
noncomputable def sxX11_firstProofBehind_38 : List UInt8 := 160 :: 0 :: 21 :: sxX11_firstProofBehind_41
noncomputable def sxX11_firstProofBehind_37 : List UInt8 := 28 :: sxX11_firstProofBehind_38
noncomputable def sxX11_firstProofBehind_34 : List UInt8 := 180 :: 1 :: 146 :: sxX11_firstProofBehind_37
noncomputable def sxX11_firstProofBehind_32 : List UInt8 := 25 :: 6 :: sxX11_firstProofBehind_34
noncomputable def sxX11_firstProofBehind_30 : List UInt8 := 58 :: 6 :: sxX11_firstProofBehind_32
noncomputable def sxX11_firstProofBehind_27 : List UInt8 := 192 :: 0 :: 97 :: sxX11_firstProofBehind_30
noncomputable def sxX11_firstProofBehind_24 : List UInt8 := 182 :: 0 :: 87 :: sxX11_firstProofBehind_27
noncomputable def sxX11_firstProofBehind_22 : List UInt8 := 21 :: 5 :: sxX11_firstProofBehind_24
noncomputable def sxX11_firstProofBehind_19 : List UInt8 := 180 :: 0 :: 71 :: sxX11_firstProofBehind_22
noncomputable def sxX11_firstProofBehind_18 : List UInt8 := 42 :: sxX11_firstProofBehind_19
noncomputable def sxX11_firstProofBehind_15 : List UInt8 := 162 :: 0 :: 89 :: sxX11_firstProofBehind_18
noncomputable def sxX11_firstProofBehind_12 : List UInt8 := 182 :: 0 :: 84 :: sxX11_firstProofBehind_15
noncomputable def sxX11_firstProofBehind_9 : List UInt8 := 180 :: 0 :: 71 :: sxX11_firstProofBehind_12
noncomputable def sxX11_firstProofBehind_8 : List UInt8 := 42 :: sxX11_firstProofBehind_9
noncomputable def sxX11_firstProofBehind_6 : List UInt8 := 21 :: 5 :: sxX11_firstProofBehind_8
noncomputable def sxX11_firstProofBehind_4 : List UInt8 := 54 :: 5 :: sxX11_firstProofBehind_6
noncomputable def sxX11_firstProofBehind_3 : List UInt8 := 3 :: sxX11_firstProofBehind_4
noncomputable def sxX11_firstProofBehind_1 : List UInt8 := 58 :: 4 :: sxX11_firstProofBehind_3
noncomputable def sxX11_firstProofBehind_0 : List UInt8 := 1 :: sxX11_firstProofBehind_1
theorem shX11_firstProofBehind_0 : cX11_firstProofBehind.data.toList.drop 0 = sxX11_firstProofBehind_0 := rfl
theorem shX11_firstProofBehind_1 : cX11_firstProofBehind.data.toList.drop 1 = sxX11_firstProofBehind_1 := dSn 1 shX11_firstProofBehind_0
theorem shX11_firstProofBehind_3 : cX11_firstProofBehind.data.toList.drop 3 = sxX11_firstProofBehind_3 := dSn 2 shX11_firstProofBehind_1
theorem shX11_firstProofBehind_4 : cX11_firstProofBehind.data.toList.drop 4 = sxX11_firstProofBehind_4 := dSn 1 shX11_firstProofBehind_3
theorem shX11_firstProofBehind_6 : cX11_firstProofBehind.data.toList.drop 6 = sxX11_firstProofBehind_6 := dSn 2 shX11_firstProofBehind_4
theorem shX11_firstProofBehind_8 : cX11_firstProofBehind.data.toList.drop 8 = sxX11_firstProofBehind_8 := dSn 2 shX11_firstProofBehind_6
theorem shX11_firstProofBehind_9 : cX11_firstProofBehind.data.toList.drop 9 = sxX11_firstProofBehind_9 := dSn 1 shX11_firstProofBehind_8
theorem shX11_firstProofBehind_12 : cX11_firstProofBehind.data.toList.drop 12 = sxX11_firstProofBehind_12 := dSn 3 shX11_firstProofBehind_9
theorem shX11_firstProofBehind_15 : cX11_firstProofBehind.data.toList.drop 15 = sxX11_firstProofBehind_15 := dSn 3 shX11_firstProofBehind_12
theorem shX11_firstProofBehind_18 : cX11_firstProofBehind.data.toList.drop 18 = sxX11_firstProofBehind_18 := dSn 3 shX11_firstProofBehind_15
theorem shX11_firstProofBehind_19 : cX11_firstProofBehind.data.toList.drop 19 = sxX11_firstProofBehind_19 := dSn 1 shX11_firstProofBehind_18
theorem shX11_firstProofBehind_22 : cX11_firstProofBehind.data.toList.drop 22 = sxX11_firstProofBehind_22 := dSn 3 shX11_firstProofBehind_19
theorem shX11_firstProofBehind_24 : cX11_firstProofBehind.data.toList.drop 24 = sxX11_firstProofBehind_24 := dSn 2 shX11_firstProofBehind_22
theorem shX11_firstProofBehind_27 : cX11_firstProofBehind.data.toList.drop 27 = sxX11_firstProofBehind_27 := dSn 3 shX11_firstProofBehind_24
theorem shX11_firstProofBehind_30 : cX11_firstProofBehind.data.toList.drop 30 = sxX11_firstProofBehind_30 := dSn 3 shX11_firstProofBehind_27
theorem shX11_firstProofBehind_32 : cX11_firstProofBehind.data.toList.drop 32 = sxX11_firstProofBehind_32 := dSn 2 shX11_firstProofBehind_30
theorem shX11_firstProofBehind_34 : cX11_firstProofBehind.data.toList.drop 34 = sxX11_firstProofBehind_34 := dSn 2 shX11_firstProofBehind_32
theorem shX11_firstProofBehind_37 : cX11_firstProofBehind.data.toList.drop 37 = sxX11_firstProofBehind_37 := dSn 3 shX11_firstProofBehind_34
theorem shX11_firstProofBehind_38 : cX11_firstProofBehind.data.toList.drop 38 = sxX11_firstProofBehind_38 := dSn 1 shX11_firstProofBehind_37
theorem shX11_firstProofBehind_41 : cX11_firstProofBehind.data.toList.drop 41 = sxX11_firstProofBehind_41 := dSn 3 shX11_firstProofBehind_38
theorem shX11_firstProofBehind_42 : cX11_firstProofBehind.data.toList.drop 42 = sxX11_firstProofBehind_42 := dSn 1 shX11_firstProofBehind_41
theorem shX11_firstProofBehind_43 : cX11_firstProofBehind.data.toList.drop 43 = sxX11_firstProofBehind_43 := dSn 1 shX11_firstProofBehind_42
theorem shX11_firstProofBehind_46 : cX11_firstProofBehind.data.toList.drop 46 = sxX11_firstProofBehind_46 := dSn 3 shX11_firstProofBehind_43
theorem shX11_firstProofBehind_48 : cX11_firstProofBehind.data.toList.drop 48 = sxX11_firstProofBehind_48 := dSn 2 shX11_firstProofBehind_46
theorem shX11_firstProofBehind_51 : cX11_firstProofBehind.data.toList.drop 51 = sxX11_firstProofBehind_51 := dSn 3 shX11_firstProofBehind_48
theorem shX11_firstProofBehind_52 : cX11_firstProofBehind.data.toList.drop 52 = sxX11_firstProofBehind_52 := dSn 1 shX11_firstProofBehind_51
theorem shX11_firstProofBehind_55 : cX11_firstProofBehind.data.toList.drop 55 = sxX11_firstProofBehind_55 := dSn 3 shX11_firstProofBehind_52
theorem shX11_firstProofBehind_56 : cX11_firstProofBehind.data.toList.drop 56 = sxX11_firstProofBehind_56 := dSn 1 shX11_firstProofBehind_55
theorem shX11_firstProofBehind_59 : cX11_firstProofBehind.data.toList.drop 59 = sxX11_firstProofBehind_59 := dSn 3 shX11_firstProofBehind_56
theorem shX11_firstProofBehind_60 : cX11_firstProofBehind.data.toList.drop 60 = sxX11_firstProofBehind_60 := dSn 1 shX11_firstProofBehind_59
theorem shX11_firstProofBehind_62 : cX11_firstProofBehind.data.toList.drop 62 = sxX11_firstProofBehind_62 := dSn 2 shX11_firstProofBehind_60
theorem shX11_firstProofBehind_64 : cX11_firstProofBehind.data.toList.drop 64 = sxX11_firstProofBehind_64 := dSn 2 shX11_firstProofBehind_62
theorem shX11_firstProofBehind_67 : cX11_firstProofBehind.data.toList.drop 67 = sxX11_firstProofBehind_67 := dSn 3 shX11_firstProofBehind_64
theorem shX11_firstProofBehind_69 : cX11_firstProofBehind.data.toList.drop 69 = sxX11_firstProofBehind_69 := dSn 2 shX11_firstProofBehind_67
theorem shX11_firstProofBehind_72 : cX11_firstProofBehind.data.toList.drop 72 = sxX11_firstProofBehind_72 := dSn 3 shX11_firstProofBehind_69
theorem shX11_firstProofBehind_73 : cX11_firstProofBehind.data.toList.drop 73 = sxX11_firstProofBehind_73 := dSn 1 shX11_firstProofBehind_72
theorem shX11_firstProofBehind_76 : cX11_firstProofBehind.data.toList.drop 76 = sxX11_firstProofBehind_76 := dSn 3 shX11_firstProofBehind_73
theorem shX11_firstProofBehind_78 : cX11_firstProofBehind.data.toList.drop 78 = sxX11_firstProofBehind_78 := dSn 2 shX11_firstProofBehind_76
theorem shX11_firstProofBehind_81 : cX11_firstProofBehind.data.toList.drop 81 = sxX11_firstProofBehind_81 := dSn 3 shX11_firstProofBehind_78
theorem shX11_firstProofBehind_83 : cX11_firstProofBehind.data.toList.drop 83 = sxX11_firstProofBehind_83 := dSn 2 shX11_firstProofBehind_81
theorem shX11_firstProofBehind_86 : cX11_firstProofBehind.data.toList.drop 86 = sxX11_firstProofBehind_86 := dSn 3 shX11_firstProofBehind_83
theorem shX11_firstProofBehind_88 : cX11_firstProofBehind.data.toList.drop 88 = sxX11_firstProofBehind_88 := dSn 2 shX11_firstProofBehind_86
theorem shX11_firstProofBehind_91 : cX11_firstProofBehind.data.toList.drop 91 = sxX11_firstProofBehind_91 := dSn 3 shX11_firstProofBehind_88
theorem shX11_firstProofBehind_94 : cX11_firstProofBehind.data.toList.drop 94 = sxX11_firstProofBehind_94 := dSn 3 shX11_firstProofBehind_91
theorem shX11_firstProofBehind_96 : cX11_firstProofBehind.data.toList.drop 96 = sxX11_firstProofBehind_96 := dSn 2 shX11_firstProofBehind_94
theorem shX11_firstProofBehind_98 : cX11_firstProofBehind.data.toList.drop 98 = sxX11_firstProofBehind_98 := dSn 2 shX11_firstProofBehind_96
theorem shX11_firstProofBehind_101 : cX11_firstProofBehind.data.toList.drop 101 = sxX11_firstProofBehind_101 := dSn 3 shX11_firstProofBehind_98
theorem shX11_firstProofBehind_104 : cX11_firstProofBehind.data.toList.drop 104 = sxX11_firstProofBehind_104 := dSn 3 shX11_firstProofBehind_101
theorem shX11_firstProofBehind_106 : cX11_firstProofBehind.data.toList.drop 106 = sxX11_firstProofBehind_106 := dSn 2 shX11_firstProofBehind_104
theorem dX11_firstProofBehind_0 : decode cX11_firstProofBehind 0 = .ok (.aconst_null, 1) := oc_1 shX11_firstProofBehind_0
theorem dX11_firstProofBehind_1 : decode cX11_firstProofBehind 1 = .ok (.astore 4, 2) := oc_58 shX11_firstProofBehind_1
theorem dX11_firstProofBehind_3 : decode cX11_firstProofBehind 3 = .ok (.iconst 0, 1) := oc_3 shX11_firstProofBehind_3
theorem dX11_firstProofBehind_4 : decode cX11_firstProofBehind 4 = .ok (.istore 5, 2) := oc_54 shX11_firstProofBehind_4
theorem dX11_firstProofBehind_6 : decode cX11_firstProofBehind 6 = .ok (.iload 5, 2) := oc_21 shX11_firstProofBehind_6
theorem dX11_firstProofBehind_8 : decode cX11_firstProofBehind 8 = .ok (.aload_n 0, 1) := oc_42 shX11_firstProofBehind_8
theorem dX11_firstProofBehind_9 : decode cX11_firstProofBehind 9 = .ok (.getfield 71, 3) := oc_180 shX11_firstProofBehind_9
theorem dX11_firstProofBehind_12 : decode cX11_firstProofBehind 12 = .ok (.invokevirtual 84, 3) := oc_182 shX11_firstProofBehind_12
theorem dX11_firstProofBehind_15 : decode cX11_firstProofBehind 15 = .ok (.if_icmp .ge 89, 3) := oc_162 shX11_firstProofBehind_15 sgw_0_89
theorem dX11_firstProofBehind_104 : decode cX11_firstProofBehind 104 = .ok (.aload 4, 2) := oc_25 shX11_firstProofBehind_104
theorem dX11_firstProofBehind_106 : decode cX11_firstProofBehind 106 = .ok (.areturn, 1) := oc_176 shX11_firstProofBehind_106
theorem dX11_firstProofBehind_18 : decode cX11_firstProofBehind 18 = .ok (.aload_n 0, 1) := oc_42 shX11_firstProofBehind_18
theorem dX11_firstProofBehind_19 : decode cX11_firstProofBehind 19 = .ok (.getfield 71, 3) := oc_180 shX11_firstProofBehind_19
theorem dX11_firstProofBehind_22 : decode cX11_firstProofBehind 22 = .ok (.iload 5, 2) := oc_21 shX11_firstProofBehind_22
theorem dX11_firstProofBehind_24 : decode cX11_firstProofBehind 24 = .ok (.invokevirtual 87, 3) := oc_182 shX11_firstProofBehind_24
theorem dX11_firstProofBehind_27 : decode cX11_firstProofBehind 27 = .ok (.checkcast 97, 3) := oc_192 shX11_firstProofBehind_27
theorem dX11_firstProofBehind_30 : decode cX11_firstProofBehind 30 = .ok (.astore 6, 2) := oc_58 shX11_firstProofBehind_30
theorem dX11_firstProofBehind_32 : decode cX11_firstProofBehind 32 = .ok (.aload 6, 2) := oc_25 shX11_firstProofBehind_32
theorem dX11_firstProofBehind_34 : decode cX11_firstProofBehind 34 = .ok (.getfield 402, 3) := oc_180 shX11_firstProofBehind_34
theorem dX11_firstProofBehind_37 : decode cX11_firstProofBehind 37 = .ok (.iload_n 2, 1) := oc_28 shX11_firstProofBehind_37
theorem dX11_firstProofBehind_38 : decode cX11_firstProofBehind 38 = .ok (.if_icmp .ne 21, 3) := oc_160 shX11_firstProofBehind_38 sgw_0_21
theorem dX11_firstProofBehind_59 : decode cX11_firstProofBehind 59 = .ok (.iconst 0, 1) := oc_3 shX11_firstProofBehind_59
theorem dX11_firstProofBehind_60 : decode cX11_firstProofBehind 60 = .ok (.istore 7, 2) := oc_54 shX11_firstProofBehind_60
theorem dX11_firstProofBehind_62 : decode cX11_firstProofBehind 62 = .ok (.iload 7, 2) := oc_21 shX11_firstProofBehind_62
theorem dX11_firstProofBehind_64 : decode cX11_firstProofBehind 64 = .ok (.ifCond .eq 34, 3) := oc_153 shX11_firstProofBehind_64 sgw_0_34
theorem dX11_firstProofBehind_98 : decode cX11_firstProofBehind 98 = .ok (.iinc 5 1, 3) := oc_132 shX11_firstProofBehind_98 sgb_1
theorem dX11_firstProofBehind_101 : decode cX11_firstProofBehind 101 = .ok (.goto (-95), 3) := oc_167 shX11_firstProofBehind_101 sgw_255_161
theorem dX11_firstProofBehind_41 : decode cX11_firstProofBehind 41 = .ok (.iload_n 3, 1) := oc_29 shX11_firstProofBehind_41
theorem dX11_firstProofBehind_42 : decode cX11_firstProofBehind 42 = .ok (.iconst (-1), 1) := oc_2 shX11_firstProofBehind_42
theorem dX11_firstProofBehind_43 : decode cX11_firstProofBehind 43 = .ok (.if_icmp .eq 12, 3) := oc_159 shX11_firstProofBehind_43 sgw_0_12
theorem dX11_firstProofBehind_55 : decode cX11_firstProofBehind 55 = .ok (.iconst 1, 1) := oc_4 shX11_firstProofBehind_55
theorem dX11_firstProofBehind_56 : decode cX11_firstProofBehind 56 = .ok (.goto 4, 3) := oc_167 shX11_firstProofBehind_56 sgw_0_4
theorem dX11_firstProofBehind_67 : decode cX11_firstProofBehind 67 = .ok (.aload 6, 2) := oc_25 shX11_firstProofBehind_67
theorem dX11_firstProofBehind_69 : decode cX11_firstProofBehind 69 = .ok (.getfield 408, 3) := oc_180 shX11_firstProofBehind_69
theorem dX11_firstProofBehind_72 : decode cX11_firstProofBehind 72 = .ok (.iload_n 1, 1) := oc_27 shX11_firstProofBehind_72
theorem dX11_firstProofBehind_73 : decode cX11_firstProofBehind 73 = .ok (.if_icmp .le 25, 3) := oc_164 shX11_firstProofBehind_73 sgw_0_25
theorem dX11_firstProofBehind_76 : decode cX11_firstProofBehind 76 = .ok (.aload 4, 2) := oc_25 shX11_firstProofBehind_76
theorem dX11_firstProofBehind_78 : decode cX11_firstProofBehind 78 = .ok (.ifnull 16, 3) := oc_198 shX11_firstProofBehind_78 sgw_0_16
theorem dX11_firstProofBehind_94 : decode cX11_firstProofBehind 94 = .ok (.aload 6, 2) := oc_25 shX11_firstProofBehind_94
theorem dX11_firstProofBehind_96 : decode cX11_firstProofBehind 96 = .ok (.astore 4, 2) := oc_58 shX11_firstProofBehind_96
theorem dX11_firstProofBehind_46 : decode cX11_firstProofBehind 46 = .ok (.aload 6, 2) := oc_25 shX11_firstProofBehind_46
theorem dX11_firstProofBehind_48 : decode cX11_firstProofBehind 48 = .ok (.getfield 415, 3) := oc_180 shX11_firstProofBehind_48
theorem dX11_firstProofBehind_51 : decode cX11_firstProofBehind 51 = .ok (.iload_n 3, 1) := oc_29 shX11_firstProofBehind_51
theorem dX11_firstProofBehind_52 : decode cX11_firstProofBehind 52 = .ok (.if_icmp .ne 7, 3) := oc_160 shX11_firstProofBehind_52 sgw_0_7
theorem dX11_firstProofBehind_81 : decode cX11_firstProofBehind 81 = .ok (.aload 6, 2) := oc_25 shX11_firstProofBehind_81
theorem dX11_firstProofBehind_83 : decode cX11_firstProofBehind 83 = .ok (.getfield 405, 3) := oc_180 shX11_firstProofBehind_83
theorem dX11_firstProofBehind_86 : decode cX11_firstProofBehind 86 = .ok (.aload 4, 2) := oc_25 shX11_firstProofBehind_86
theorem dX11_firstProofBehind_88 : decode cX11_firstProofBehind 88 = .ok (.getfield 405, 3) := oc_180 shX11_firstProofBehind_88
theorem dX11_firstProofBehind_91 : decode cX11_firstProofBehind 91 = .ok (.if_icmp .ge 7, 3) := oc_162 shX11_firstProofBehind_91 sgw_0_7
noncomputable def sxX11_provenLitres_67 : List UInt8 := []
noncomputable def sxX11_provenLitres_66 : List UInt8 := 172 :: sxX11_provenLitres_67
noncomputable def sxX11_provenLitres_65 : List UInt8 := 29 :: sxX11_provenLitres_66
noncomputable def sxX11_provenLitres_62 : List UInt8 := 167 :: 255 :: 202 :: sxX11_provenLitres_65
noncomputable def sxX11_provenLitres_59 : List UInt8 := 132 :: 5 :: 1 :: sxX11_provenLitres_62
noncomputable def sxX11_provenLitres_57 : List UInt8 := 54 :: 4 :: sxX11_provenLitres_59
noncomputable def sxX11_provenLitres_54 : List UInt8 := 180 :: 1 :: 152 :: sxX11_provenLitres_57
noncomputable def sxX11_provenLitres_52 : List UInt8 := 25 :: 6 :: sxX11_provenLitres_54
noncomputable def sxX11_provenLitres_51 : List UInt8 := 62 :: sxX11_provenLitres_52
noncomputable def sxX11_provenLitres_50 : List UInt8 := 96 :: sxX11_provenLitres_51
noncomputable def sxX11_provenLitres_49 : List UInt8 := 100 :: sxX11_provenLitres_50
noncomputable def sxX11_provenLitres_46 : List UInt8 := 184 :: 0 :: 232 :: sxX11_provenLitres_49
noncomputable def sxX11_provenLitres_44 : List UInt8 := 21 :: 4 :: sxX11_provenLitres_46
noncomputable def sxX11_provenLitres_41 : List UInt8 := 180 :: 1 :: 149 :: sxX11_provenLitres_44
noncomputable def sxX11_provenLitres_39 : List UInt8 := 25 :: 6 :: sxX11_provenLitres_41
noncomputable def sxX11_provenLitres_36 : List UInt8 := 180 :: 1 :: 152 :: sxX11_provenLitres_39
noncomputable def sxX11_provenLitres_34 : List UInt8 := 25 :: 6 :: sxX11_provenLitres_36
noncomputable def sxX11_provenLitres_33 : List UInt8 := 29 :: sxX11_provenLitres_34
noncomputable def sxX11_provenLitres_30 : List UInt8 := 167 :: 0 :: 35 :: sxX11_provenLitres_33
noncomputable def sxX11_provenLitres_27 : List UInt8 := 199 :: 0 :: 6 :: sxX11_provenLitres_30
noncomputable def sxX11_provenLitres_25 : List UInt8 := 25 :: 6 :: sxX11_provenLitres_27
noncomputable def sxX11_provenLitres_23 : List UInt8 := 58 :: 6 :: sxX11_provenLitres_25
noncomputable def sxX11_provenLitres_20 : List UInt8 := 182 :: 1 :: 162 :: sxX11_provenLitres_23
noncomputable def sxX11_provenLitres_19 : List UInt8 := 28 :: sxX11_provenLitres_20
noncomputable def sxX11_provenLitres_18 : List UInt8 := 27 :: sxX11_provenLitres_19
noncomputable def sxX11_provenLitres_16 : List UInt8 := 21 :: 4 :: sxX11_provenLitres_18
noncomputable def sxX11_provenLitres_15 : List UInt8 := 42 :: sxX11_provenLitres_16
noncomputable def sxX11_provenLitres_12 : List UInt8 := 162 :: 0 :: 53 :: sxX11_provenLitres_15
noncomputable def sxX11_provenLitres_10 : List UInt8 := 16 :: 40 :: sxX11_provenLitres_12
noncomputable def sxX11_provenLitres_8 : List UInt8 := 21 :: 5 :: sxX11_provenLitres_10
noncomputable def sxX11_provenLitres_6 : List UInt8 := 54 :: 5 :: sxX11_provenLitres_8
noncomputable def sxX11_provenLitres_5 : List UInt8 := 3 :: sxX11_provenLitres_6
noncomputable def sxX11_provenLitres_3 : List UInt8 := 54 :: 4 :: sxX11_provenLitres_5
noncomputable def sxX11_provenLitres_2 : List UInt8 := 3 :: sxX11_provenLitres_3
noncomputable def sxX11_provenLitres_1 : List UInt8 := 62 :: sxX11_provenLitres_2
noncomputable def sxX11_provenLitres_0 : List UInt8 := 3 :: sxX11_provenLitres_1
theorem shX11_provenLitres_0 : cX11_provenLitres.data.toList.drop 0 = sxX11_provenLitres_0 := rfl
theorem shX11_provenLitres_1 : cX11_provenLitres.data.toList.drop 1 = sxX11_provenLitres_1 := dSn 1 shX11_provenLitres_0
theorem shX11_provenLitres_2 : cX11_provenLitres.data.toList.drop 2 = sxX11_provenLitres_2 := dSn 1 shX11_provenLitres_1
theorem shX11_provenLitres_3 : cX11_provenLitres.data.toList.drop 3 = sxX11_provenLitres_3 := dSn 1 shX11_provenLitres_2
theorem shX11_provenLitres_5 : cX11_provenLitres.data.toList.drop 5 = sxX11_provenLitres_5 := dSn 2 shX11_provenLitres_3
theorem shX11_provenLitres_6 : cX11_provenLitres.data.toList.drop 6 = sxX11_provenLitres_6 := dSn 1 shX11_provenLitres_5
theorem shX11_provenLitres_8 : cX11_provenLitres.data.toList.drop 8 = sxX11_provenLitres_8 := dSn 2 shX11_provenLitres_6
theorem shX11_provenLitres_10 : cX11_provenLitres.data.toList.drop 10 = sxX11_provenLitres_10 := dSn 2 shX11_provenLitres_8
theorem shX11_provenLitres_12 : cX11_provenLitres.data.toList.drop 12 = sxX11_provenLitres_12 := dSn 2 shX11_provenLitres_10
theorem shX11_provenLitres_15 : cX11_provenLitres.data.toList.drop 15 = sxX11_provenLitres_15 := dSn 3 shX11_provenLitres_12
theorem shX11_provenLitres_16 : cX11_provenLitres.data.toList.drop 16 = sxX11_provenLitres_16 := dSn 1 shX11_provenLitres_15
theorem shX11_provenLitres_18 : cX11_provenLitres.data.toList.drop 18 = sxX11_provenLitres_18 := dSn 2 shX11_provenLitres_16
theorem shX11_provenLitres_19 : cX11_provenLitres.data.toList.drop 19 = sxX11_provenLitres_19 := dSn 1 shX11_provenLitres_18
theorem shX11_provenLitres_20 : cX11_provenLitres.data.toList.drop 20 = sxX11_provenLitres_20 := dSn 1 shX11_provenLitres_19
theorem shX11_provenLitres_23 : cX11_provenLitres.data.toList.drop 23 = sxX11_provenLitres_23 := dSn 3 shX11_provenLitres_20
theorem shX11_provenLitres_25 : cX11_provenLitres.data.toList.drop 25 = sxX11_provenLitres_25 := dSn 2 shX11_provenLitres_23
theorem shX11_provenLitres_27 : cX11_provenLitres.data.toList.drop 27 = sxX11_provenLitres_27 := dSn 2 shX11_provenLitres_25
theorem shX11_provenLitres_30 : cX11_provenLitres.data.toList.drop 30 = sxX11_provenLitres_30 := dSn 3 shX11_provenLitres_27
theorem shX11_provenLitres_33 : cX11_provenLitres.data.toList.drop 33 = sxX11_provenLitres_33 := dSn 3 shX11_provenLitres_30
theorem shX11_provenLitres_34 : cX11_provenLitres.data.toList.drop 34 = sxX11_provenLitres_34 := dSn 1 shX11_provenLitres_33
theorem shX11_provenLitres_36 : cX11_provenLitres.data.toList.drop 36 = sxX11_provenLitres_36 := dSn 2 shX11_provenLitres_34
theorem shX11_provenLitres_39 : cX11_provenLitres.data.toList.drop 39 = sxX11_provenLitres_39 := dSn 3 shX11_provenLitres_36
theorem shX11_provenLitres_41 : cX11_provenLitres.data.toList.drop 41 = sxX11_provenLitres_41 := dSn 2 shX11_provenLitres_39
theorem shX11_provenLitres_44 : cX11_provenLitres.data.toList.drop 44 = sxX11_provenLitres_44 := dSn 3 shX11_provenLitres_41
theorem shX11_provenLitres_46 : cX11_provenLitres.data.toList.drop 46 = sxX11_provenLitres_46 := dSn 2 shX11_provenLitres_44
theorem shX11_provenLitres_49 : cX11_provenLitres.data.toList.drop 49 = sxX11_provenLitres_49 := dSn 3 shX11_provenLitres_46
theorem shX11_provenLitres_50 : cX11_provenLitres.data.toList.drop 50 = sxX11_provenLitres_50 := dSn 1 shX11_provenLitres_49
theorem shX11_provenLitres_51 : cX11_provenLitres.data.toList.drop 51 = sxX11_provenLitres_51 := dSn 1 shX11_provenLitres_50
theorem shX11_provenLitres_52 : cX11_provenLitres.data.toList.drop 52 = sxX11_provenLitres_52 := dSn 1 shX11_provenLitres_51
theorem shX11_provenLitres_54 : cX11_provenLitres.data.toList.drop 54 = sxX11_provenLitres_54 := dSn 2 shX11_provenLitres_52
theorem shX11_provenLitres_57 : cX11_provenLitres.data.toList.drop 57 = sxX11_provenLitres_57 := dSn 3 shX11_provenLitres_54
theorem shX11_provenLitres_59 : cX11_provenLitres.data.toList.drop 59 = sxX11_provenLitres_59 := dSn 2 shX11_provenLitres_57
theorem shX11_provenLitres_62 : cX11_provenLitres.data.toList.drop 62 = sxX11_provenLitres_62 := dSn 3 shX11_provenLitres_59
theorem shX11_provenLitres_65 : cX11_provenLitres.data.toList.drop 65 = sxX11_provenLitres_65 := dSn 3 shX11_provenLitres_62
theorem shX11_provenLitres_66 : cX11_provenLitres.data.toList.drop 66 = sxX11_provenLitres_66 := dSn 1 shX11_provenLitres_65
theorem dX11_provenLitres_0 : decode cX11_provenLitres 0 = .ok (.iconst 0, 1) := oc_3 shX11_provenLitres_0
theorem dX11_provenLitres_1 : decode cX11_provenLitres 1 = .ok (.istore_n 3, 1) := oc_62 shX11_provenLitres_1
theorem dX11_provenLitres_2 : decode cX11_provenLitres 2 = .ok (.iconst 0, 1) := oc_3 shX11_provenLitres_2
theorem dX11_provenLitres_3 : decode cX11_provenLitres 3 = .ok (.istore 4, 2) := oc_54 shX11_provenLitres_3
theorem dX11_provenLitres_5 : decode cX11_provenLitres 5 = .ok (.iconst 0, 1) := oc_3 shX11_provenLitres_5
theorem dX11_provenLitres_6 : decode cX11_provenLitres 6 = .ok (.istore 5, 2) := oc_54 shX11_provenLitres_6
theorem dX11_provenLitres_8 : decode cX11_provenLitres 8 = .ok (.iload 5, 2) := oc_21 shX11_provenLitres_8
theorem dX11_provenLitres_10 : decode cX11_provenLitres 10 = .ok (.bipush 40, 2) := oc_16 shX11_provenLitres_10 sgb_40
theorem dX11_provenLitres_12 : decode cX11_provenLitres 12 = .ok (.if_icmp .ge 53, 3) := oc_162 shX11_provenLitres_12 sgw_0_53
theorem dX11_provenLitres_65 : decode cX11_provenLitres 65 = .ok (.iload_n 3, 1) := oc_29 shX11_provenLitres_65
theorem dX11_provenLitres_66 : decode cX11_provenLitres 66 = .ok (.ireturn, 1) := oc_172 shX11_provenLitres_66
theorem dX11_provenLitres_15 : decode cX11_provenLitres 15 = .ok (.aload_n 0, 1) := oc_42 shX11_provenLitres_15
theorem dX11_provenLitres_16 : decode cX11_provenLitres 16 = .ok (.iload 4, 2) := oc_21 shX11_provenLitres_16
theorem dX11_provenLitres_18 : decode cX11_provenLitres 18 = .ok (.iload_n 1, 1) := oc_27 shX11_provenLitres_18
theorem dX11_provenLitres_19 : decode cX11_provenLitres 19 = .ok (.iload_n 2, 1) := oc_28 shX11_provenLitres_19
theorem dX11_provenLitres_20 : decode cX11_provenLitres 20 = .ok (.invokevirtual 418, 3) := oc_182 shX11_provenLitres_20
theorem dX11_provenLitres_23 : decode cX11_provenLitres 23 = .ok (.astore 6, 2) := oc_58 shX11_provenLitres_23
theorem dX11_provenLitres_25 : decode cX11_provenLitres 25 = .ok (.aload 6, 2) := oc_25 shX11_provenLitres_25
theorem dX11_provenLitres_27 : decode cX11_provenLitres 27 = .ok (.ifnonnull 6, 3) := oc_199 shX11_provenLitres_27 sgw_0_6
theorem dX11_provenLitres_33 : decode cX11_provenLitres 33 = .ok (.iload_n 3, 1) := oc_29 shX11_provenLitres_33
theorem dX11_provenLitres_34 : decode cX11_provenLitres 34 = .ok (.aload 6, 2) := oc_25 shX11_provenLitres_34
theorem dX11_provenLitres_36 : decode cX11_provenLitres 36 = .ok (.getfield 408, 3) := oc_180 shX11_provenLitres_36
theorem dX11_provenLitres_39 : decode cX11_provenLitres 39 = .ok (.aload 6, 2) := oc_25 shX11_provenLitres_39
theorem dX11_provenLitres_41 : decode cX11_provenLitres 41 = .ok (.getfield 405, 3) := oc_180 shX11_provenLitres_41
theorem dX11_provenLitres_44 : decode cX11_provenLitres 44 = .ok (.iload 4, 2) := oc_21 shX11_provenLitres_44
theorem dX11_provenLitres_46 : decode cX11_provenLitres 46 = .ok (.invokestatic 232, 3) := oc_184 shX11_provenLitres_46
theorem dX11_provenLitres_49 : decode cX11_provenLitres 49 = .ok (.isub, 1) := oc_100 shX11_provenLitres_49
theorem dX11_provenLitres_50 : decode cX11_provenLitres 50 = .ok (.iadd, 1) := oc_96 shX11_provenLitres_50
theorem dX11_provenLitres_51 : decode cX11_provenLitres 51 = .ok (.istore_n 3, 1) := oc_62 shX11_provenLitres_51
theorem dX11_provenLitres_52 : decode cX11_provenLitres 52 = .ok (.aload 6, 2) := oc_25 shX11_provenLitres_52
theorem dX11_provenLitres_54 : decode cX11_provenLitres 54 = .ok (.getfield 408, 3) := oc_180 shX11_provenLitres_54
theorem dX11_provenLitres_57 : decode cX11_provenLitres 57 = .ok (.istore 4, 2) := oc_54 shX11_provenLitres_57
theorem dX11_provenLitres_59 : decode cX11_provenLitres 59 = .ok (.iinc 5 1, 3) := oc_132 shX11_provenLitres_59 sgb_1
theorem dX11_provenLitres_62 : decode cX11_provenLitres 62 = .ok (.goto (-54), 3) := oc_167 shX11_provenLitres_62 sgw_255_202
theorem dX11_provenLitres_30 : decode cX11_provenLitres 30 = .ok (.goto 35, 3) := oc_167 shX11_provenLitres_30 sgw_0_35
noncomputable def sxX11_bought_29 : List UInt8 := []
noncomputable def sxX11_bought_28 : List UInt8 := 172 :: sxX11_bought_29
noncomputable def sxX11_bought_25 : List UInt8 := 182 :: 1 :: 129 :: sxX11_bought_28
noncomputable def sxX11_bought_24 : List UInt8 := 28 :: sxX11_bought_25
noncomputable def sxX11_bought_23 : List UInt8 := 27 :: sxX11_bought_24
noncomputable def sxX11_bought_22 : List UInt8 := 42 :: sxX11_bought_23
noncomputable def sxX11_bought_19 : List UInt8 := 167 :: 0 :: 9 :: sxX11_bought_22
noncomputable def sxX11_bought_18 : List UInt8 := 2 :: sxX11_bought_19
noncomputable def sxX11_bought_15 : List UInt8 := 154 :: 0 :: 7 :: sxX11_bought_18
noncomputable def sxX11_bought_12 : List UInt8 := 184 :: 0 :: 80 :: sxX11_bought_15
noncomputable def sxX11_bought_10 : List UInt8 := 16 :: 9 :: sxX11_bought_12
noncomputable def sxX11_bought_9 : List UInt8 := 3 :: sxX11_bought_10
noncomputable def sxX11_bought_8 : List UInt8 := 28 :: sxX11_bought_9
noncomputable def sxX11_bought_5 : List UInt8 := 198 :: 0 :: 13 :: sxX11_bought_8
noncomputable def sxX11_bought_2 : List UInt8 := 182 :: 1 :: 126 :: sxX11_bought_5
noncomputable def sxX11_bought_1 : List UInt8 := 27 :: sxX11_bought_2
noncomputable def sxX11_bought_0 : List UInt8 := 42 :: sxX11_bought_1
theorem shX11_bought_0 : cX11_bought.data.toList.drop 0 = sxX11_bought_0 := rfl
theorem shX11_bought_1 : cX11_bought.data.toList.drop 1 = sxX11_bought_1 := dSn 1 shX11_bought_0
theorem shX11_bought_2 : cX11_bought.data.toList.drop 2 = sxX11_bought_2 := dSn 1 shX11_bought_1
theorem shX11_bought_5 : cX11_bought.data.toList.drop 5 = sxX11_bought_5 := dSn 3 shX11_bought_2
theorem shX11_bought_8 : cX11_bought.data.toList.drop 8 = sxX11_bought_8 := dSn 3 shX11_bought_5
theorem shX11_bought_9 : cX11_bought.data.toList.drop 9 = sxX11_bought_9 := dSn 1 shX11_bought_8
theorem shX11_bought_10 : cX11_bought.data.toList.drop 10 = sxX11_bought_10 := dSn 1 shX11_bought_9
theorem shX11_bought_12 : cX11_bought.data.toList.drop 12 = sxX11_bought_12 := dSn 2 shX11_bought_10
theorem shX11_bought_15 : cX11_bought.data.toList.drop 15 = sxX11_bought_15 := dSn 3 shX11_bought_12
theorem shX11_bought_18 : cX11_bought.data.toList.drop 18 = sxX11_bought_18 := dSn 3 shX11_bought_15
theorem shX11_bought_19 : cX11_bought.data.toList.drop 19 = sxX11_bought_19 := dSn 1 shX11_bought_18
theorem shX11_bought_22 : cX11_bought.data.toList.drop 22 = sxX11_bought_22 := dSn 3 shX11_bought_19
theorem shX11_bought_23 : cX11_bought.data.toList.drop 23 = sxX11_bought_23 := dSn 1 shX11_bought_22
theorem shX11_bought_24 : cX11_bought.data.toList.drop 24 = sxX11_bought_24 := dSn 1 shX11_bought_23
theorem shX11_bought_25 : cX11_bought.data.toList.drop 25 = sxX11_bought_25 := dSn 1 shX11_bought_24
theorem shX11_bought_28 : cX11_bought.data.toList.drop 28 = sxX11_bought_28 := dSn 3 shX11_bought_25
theorem dX11_bought_0 : decode cX11_bought 0 = .ok (.aload_n 0, 1) := oc_42 shX11_bought_0
theorem dX11_bought_1 : decode cX11_bought 1 = .ok (.iload_n 1, 1) := oc_27 shX11_bought_1
theorem dX11_bought_2 : decode cX11_bought 2 = .ok (.invokevirtual 382, 3) := oc_182 shX11_bought_2
theorem dX11_bought_5 : decode cX11_bought 5 = .ok (.ifnull 13, 3) := oc_198 shX11_bought_5 sgw_0_13
theorem dX11_bought_8 : decode cX11_bought 8 = .ok (.iload_n 2, 1) := oc_28 shX11_bought_8
theorem dX11_bought_9 : decode cX11_bought 9 = .ok (.iconst 0, 1) := oc_3 shX11_bought_9
theorem dX11_bought_10 : decode cX11_bought 10 = .ok (.bipush 9, 2) := oc_16 shX11_bought_10 sgb_9
theorem dX11_bought_12 : decode cX11_bought 12 = .ok (.invokestatic 80, 3) := oc_184 shX11_bought_12
theorem dX11_bought_15 : decode cX11_bought 15 = .ok (.ifCond .ne 7, 3) := oc_154 shX11_bought_15 sgw_0_7
theorem dX11_bought_22 : decode cX11_bought 22 = .ok (.aload_n 0, 1) := oc_42 shX11_bought_22
theorem dX11_bought_23 : decode cX11_bought 23 = .ok (.iload_n 1, 1) := oc_27 shX11_bought_23
theorem dX11_bought_24 : decode cX11_bought 24 = .ok (.iload_n 2, 1) := oc_28 shX11_bought_24
theorem dX11_bought_25 : decode cX11_bought 25 = .ok (.invokevirtual 385, 3) := oc_182 shX11_bought_25
theorem dX11_bought_28 : decode cX11_bought 28 = .ok (.ireturn, 1) := oc_172 shX11_bought_28
theorem dX11_bought_18 : decode cX11_bought 18 = .ok (.iconst (-1), 1) := oc_2 shX11_bought_18
theorem dX11_bought_19 : decode cX11_bought 19 = .ok (.goto 9, 3) := oc_167 shX11_bought_19 sgw_0_9
noncomputable def sxX11_whence_90 : List UInt8 := []
noncomputable def sxX11_whence_89 : List UInt8 := 172 :: sxX11_whence_90
noncomputable def sxX11_whence_88 : List UInt8 := 2 :: sxX11_whence_89
noncomputable def sxX11_whence_85 : List UInt8 := 167 :: 255 :: 201 :: sxX11_whence_88
noncomputable def sxX11_whence_82 : List UInt8 := 132 :: 5 :: 1 :: sxX11_whence_85
noncomputable def sxX11_whence_81 : List UInt8 := 172 :: sxX11_whence_82
noncomputable def sxX11_whence_79 : List UInt8 := 21 :: 5 :: sxX11_whence_81
noncomputable def sxX11_whence_76 : List UInt8 := 162 :: 0 :: 6 :: sxX11_whence_79
noncomputable def sxX11_whence_74 : List UInt8 := 21 :: 4 :: sxX11_whence_76
noncomputable def sxX11_whence_73 : List UInt8 := 28 :: sxX11_whence_74
noncomputable def sxX11_whence_71 : List UInt8 := 54 :: 4 :: sxX11_whence_73
noncomputable def sxX11_whence_70 : List UInt8 := 96 :: sxX11_whence_71
noncomputable def sxX11_whence_69 : List UInt8 := 3 :: sxX11_whence_70
noncomputable def sxX11_whence_66 : List UInt8 := 167 :: 0 :: 4 :: sxX11_whence_69
noncomputable def sxX11_whence_63 : List UInt8 := 180 :: 0 :: 202 :: sxX11_whence_66
noncomputable def sxX11_whence_61 : List UInt8 := 25 :: 6 :: sxX11_whence_63
noncomputable def sxX11_whence_58 : List UInt8 := 153 :: 0 :: 11 :: sxX11_whence_61
noncomputable def sxX11_whence_55 : List UInt8 := 182 :: 1 :: 122 :: sxX11_whence_58
noncomputable def sxX11_whence_53 : List UInt8 := 21 :: 5 :: sxX11_whence_55
noncomputable def sxX11_whence_52 : List UInt8 := 45 :: sxX11_whence_53
noncomputable def sxX11_whence_49 : List UInt8 := 198 :: 0 :: 20 :: sxX11_whence_52
noncomputable def sxX11_whence_47 : List UInt8 := 25 :: 6 :: sxX11_whence_49
noncomputable def sxX11_whence_45 : List UInt8 := 21 :: 4 :: sxX11_whence_47
noncomputable def sxX11_whence_43 : List UInt8 := 58 :: 6 :: sxX11_whence_45
noncomputable def sxX11_whence_40 : List UInt8 := 182 :: 0 :: 148 :: sxX11_whence_43
noncomputable def sxX11_whence_38 : List UInt8 := 21 :: 5 :: sxX11_whence_40
noncomputable def sxX11_whence_37 : List UInt8 := 42 :: sxX11_whence_38
noncomputable def sxX11_whence_34 : List UInt8 := 162 :: 0 :: 54 :: sxX11_whence_37
noncomputable def sxX11_whence_32 : List UInt8 := 16 :: 20 :: sxX11_whence_34
noncomputable def sxX11_whence_30 : List UInt8 := 21 :: 5 :: sxX11_whence_32
noncomputable def sxX11_whence_28 : List UInt8 := 54 :: 5 :: sxX11_whence_30
noncomputable def sxX11_whence_27 : List UInt8 := 3 :: sxX11_whence_28
noncomputable def sxX11_whence_25 : List UInt8 := 54 :: 4 :: sxX11_whence_27
noncomputable def sxX11_whence_24 : List UInt8 := 3 :: sxX11_whence_25
noncomputable def sxX11_whence_23 : List UInt8 := 172 :: sxX11_whence_24
noncomputable def sxX11_whence_22 : List UInt8 := 2 :: sxX11_whence_23
noncomputable def sxX11_whence_19 : List UInt8 := 161 :: 0 :: 5 :: sxX11_whence_22
noncomputable def sxX11_whence_16 : List UInt8 := 180 :: 1 :: 86 :: sxX11_whence_19
noncomputable def sxX11_whence_15 : List UInt8 := 45 :: sxX11_whence_16
noncomputable def sxX11_whence_14 : List UInt8 := 28 :: sxX11_whence_15
noncomputable def sxX11_whence_11 : List UInt8 := 155 :: 0 :: 11 :: sxX11_whence_14
noncomputable def sxX11_whence_10 : List UInt8 := 28 :: sxX11_whence_11
noncomputable def sxX11_whence_7 : List UInt8 := 198 :: 0 :: 15 :: sxX11_whence_10
noncomputable def sxX11_whence_6 : List UInt8 := 45 :: sxX11_whence_7
noncomputable def sxX11_whence_5 : List UInt8 := 78 :: sxX11_whence_6
noncomputable def sxX11_whence_2 : List UInt8 := 182 :: 1 :: 126 :: sxX11_whence_5
noncomputable def sxX11_whence_1 : List UInt8 := 27 :: sxX11_whence_2
noncomputable def sxX11_whence_0 : List UInt8 := 42 :: sxX11_whence_1
theorem shX11_whence_0 : cX11_whence.data.toList.drop 0 = sxX11_whence_0 := rfl
theorem shX11_whence_1 : cX11_whence.data.toList.drop 1 = sxX11_whence_1 := dSn 1 shX11_whence_0
theorem shX11_whence_2 : cX11_whence.data.toList.drop 2 = sxX11_whence_2 := dSn 1 shX11_whence_1
theorem shX11_whence_5 : cX11_whence.data.toList.drop 5 = sxX11_whence_5 := dSn 3 shX11_whence_2
theorem shX11_whence_6 : cX11_whence.data.toList.drop 6 = sxX11_whence_6 := dSn 1 shX11_whence_5
theorem shX11_whence_7 : cX11_whence.data.toList.drop 7 = sxX11_whence_7 := dSn 1 shX11_whence_6
theorem shX11_whence_10 : cX11_whence.data.toList.drop 10 = sxX11_whence_10 := dSn 3 shX11_whence_7
theorem shX11_whence_11 : cX11_whence.data.toList.drop 11 = sxX11_whence_11 := dSn 1 shX11_whence_10
theorem shX11_whence_14 : cX11_whence.data.toList.drop 14 = sxX11_whence_14 := dSn 3 shX11_whence_11
theorem shX11_whence_15 : cX11_whence.data.toList.drop 15 = sxX11_whence_15 := dSn 1 shX11_whence_14
theorem shX11_whence_16 : cX11_whence.data.toList.drop 16 = sxX11_whence_16 := dSn 1 shX11_whence_15
theorem shX11_whence_19 : cX11_whence.data.toList.drop 19 = sxX11_whence_19 := dSn 3 shX11_whence_16
theorem shX11_whence_22 : cX11_whence.data.toList.drop 22 = sxX11_whence_22 := dSn 3 shX11_whence_19
theorem shX11_whence_23 : cX11_whence.data.toList.drop 23 = sxX11_whence_23 := dSn 1 shX11_whence_22
theorem shX11_whence_24 : cX11_whence.data.toList.drop 24 = sxX11_whence_24 := dSn 1 shX11_whence_23
theorem shX11_whence_25 : cX11_whence.data.toList.drop 25 = sxX11_whence_25 := dSn 1 shX11_whence_24
theorem shX11_whence_27 : cX11_whence.data.toList.drop 27 = sxX11_whence_27 := dSn 2 shX11_whence_25
theorem shX11_whence_28 : cX11_whence.data.toList.drop 28 = sxX11_whence_28 := dSn 1 shX11_whence_27
theorem shX11_whence_30 : cX11_whence.data.toList.drop 30 = sxX11_whence_30 := dSn 2 shX11_whence_28
theorem shX11_whence_32 : cX11_whence.data.toList.drop 32 = sxX11_whence_32 := dSn 2 shX11_whence_30
theorem shX11_whence_34 : cX11_whence.data.toList.drop 34 = sxX11_whence_34 := dSn 2 shX11_whence_32
theorem shX11_whence_37 : cX11_whence.data.toList.drop 37 = sxX11_whence_37 := dSn 3 shX11_whence_34
theorem shX11_whence_38 : cX11_whence.data.toList.drop 38 = sxX11_whence_38 := dSn 1 shX11_whence_37
theorem shX11_whence_40 : cX11_whence.data.toList.drop 40 = sxX11_whence_40 := dSn 2 shX11_whence_38
theorem shX11_whence_43 : cX11_whence.data.toList.drop 43 = sxX11_whence_43 := dSn 3 shX11_whence_40
theorem shX11_whence_45 : cX11_whence.data.toList.drop 45 = sxX11_whence_45 := dSn 2 shX11_whence_43
theorem shX11_whence_47 : cX11_whence.data.toList.drop 47 = sxX11_whence_47 := dSn 2 shX11_whence_45
theorem shX11_whence_49 : cX11_whence.data.toList.drop 49 = sxX11_whence_49 := dSn 2 shX11_whence_47
theorem shX11_whence_52 : cX11_whence.data.toList.drop 52 = sxX11_whence_52 := dSn 3 shX11_whence_49
theorem shX11_whence_53 : cX11_whence.data.toList.drop 53 = sxX11_whence_53 := dSn 1 shX11_whence_52
theorem shX11_whence_55 : cX11_whence.data.toList.drop 55 = sxX11_whence_55 := dSn 2 shX11_whence_53
theorem shX11_whence_58 : cX11_whence.data.toList.drop 58 = sxX11_whence_58 := dSn 3 shX11_whence_55
theorem shX11_whence_61 : cX11_whence.data.toList.drop 61 = sxX11_whence_61 := dSn 3 shX11_whence_58
theorem shX11_whence_63 : cX11_whence.data.toList.drop 63 = sxX11_whence_63 := dSn 2 shX11_whence_61
theorem shX11_whence_66 : cX11_whence.data.toList.drop 66 = sxX11_whence_66 := dSn 3 shX11_whence_63
theorem shX11_whence_69 : cX11_whence.data.toList.drop 69 = sxX11_whence_69 := dSn 3 shX11_whence_66
theorem shX11_whence_70 : cX11_whence.data.toList.drop 70 = sxX11_whence_70 := dSn 1 shX11_whence_69
theorem shX11_whence_71 : cX11_whence.data.toList.drop 71 = sxX11_whence_71 := dSn 1 shX11_whence_70
theorem shX11_whence_73 : cX11_whence.data.toList.drop 73 = sxX11_whence_73 := dSn 2 shX11_whence_71
theorem shX11_whence_74 : cX11_whence.data.toList.drop 74 = sxX11_whence_74 := dSn 1 shX11_whence_73
theorem shX11_whence_76 : cX11_whence.data.toList.drop 76 = sxX11_whence_76 := dSn 2 shX11_whence_74
theorem shX11_whence_79 : cX11_whence.data.toList.drop 79 = sxX11_whence_79 := dSn 3 shX11_whence_76
theorem shX11_whence_81 : cX11_whence.data.toList.drop 81 = sxX11_whence_81 := dSn 2 shX11_whence_79
theorem shX11_whence_82 : cX11_whence.data.toList.drop 82 = sxX11_whence_82 := dSn 1 shX11_whence_81
theorem shX11_whence_85 : cX11_whence.data.toList.drop 85 = sxX11_whence_85 := dSn 3 shX11_whence_82
theorem shX11_whence_88 : cX11_whence.data.toList.drop 88 = sxX11_whence_88 := dSn 3 shX11_whence_85
theorem shX11_whence_89 : cX11_whence.data.toList.drop 89 = sxX11_whence_89 := dSn 1 shX11_whence_88
theorem dX11_whence_0 : decode cX11_whence 0 = .ok (.aload_n 0, 1) := oc_42 shX11_whence_0
theorem dX11_whence_1 : decode cX11_whence 1 = .ok (.iload_n 1, 1) := oc_27 shX11_whence_1
theorem dX11_whence_2 : decode cX11_whence 2 = .ok (.invokevirtual 382, 3) := oc_182 shX11_whence_2
theorem dX11_whence_5 : decode cX11_whence 5 = .ok (.astore_n 3, 1) := oc_78 shX11_whence_5
theorem dX11_whence_6 : decode cX11_whence 6 = .ok (.aload_n 3, 1) := oc_45 shX11_whence_6
theorem dX11_whence_7 : decode cX11_whence 7 = .ok (.ifnull 15, 3) := oc_198 shX11_whence_7 sgw_0_15
theorem dX11_whence_10 : decode cX11_whence 10 = .ok (.iload_n 2, 1) := oc_28 shX11_whence_10
theorem dX11_whence_11 : decode cX11_whence 11 = .ok (.ifCond .lt 11, 3) := oc_155 shX11_whence_11 sgw_0_11
theorem dX11_whence_22 : decode cX11_whence 22 = .ok (.iconst (-1), 1) := oc_2 shX11_whence_22
theorem dX11_whence_23 : decode cX11_whence 23 = .ok (.ireturn, 1) := oc_172 shX11_whence_23
theorem dX11_whence_14 : decode cX11_whence 14 = .ok (.iload_n 2, 1) := oc_28 shX11_whence_14
theorem dX11_whence_15 : decode cX11_whence 15 = .ok (.aload_n 3, 1) := oc_45 shX11_whence_15
theorem dX11_whence_16 : decode cX11_whence 16 = .ok (.getfield 342, 3) := oc_180 shX11_whence_16
theorem dX11_whence_19 : decode cX11_whence 19 = .ok (.if_icmp .lt 5, 3) := oc_161 shX11_whence_19 sgw_0_5
theorem dX11_whence_24 : decode cX11_whence 24 = .ok (.iconst 0, 1) := oc_3 shX11_whence_24
theorem dX11_whence_25 : decode cX11_whence 25 = .ok (.istore 4, 2) := oc_54 shX11_whence_25
theorem dX11_whence_27 : decode cX11_whence 27 = .ok (.iconst 0, 1) := oc_3 shX11_whence_27
theorem dX11_whence_28 : decode cX11_whence 28 = .ok (.istore 5, 2) := oc_54 shX11_whence_28
theorem dX11_whence_30 : decode cX11_whence 30 = .ok (.iload 5, 2) := oc_21 shX11_whence_30
theorem dX11_whence_32 : decode cX11_whence 32 = .ok (.bipush 20, 2) := oc_16 shX11_whence_32 sgb_20
theorem dX11_whence_34 : decode cX11_whence 34 = .ok (.if_icmp .ge 54, 3) := oc_162 shX11_whence_34 sgw_0_54
theorem dX11_whence_88 : decode cX11_whence 88 = .ok (.iconst (-1), 1) := oc_2 shX11_whence_88
theorem dX11_whence_89 : decode cX11_whence 89 = .ok (.ireturn, 1) := oc_172 shX11_whence_89
theorem dX11_whence_37 : decode cX11_whence 37 = .ok (.aload_n 0, 1) := oc_42 shX11_whence_37
theorem dX11_whence_38 : decode cX11_whence 38 = .ok (.iload 5, 2) := oc_21 shX11_whence_38
theorem dX11_whence_40 : decode cX11_whence 40 = .ok (.invokevirtual 148, 3) := oc_182 shX11_whence_40
theorem dX11_whence_43 : decode cX11_whence 43 = .ok (.astore 6, 2) := oc_58 shX11_whence_43
theorem dX11_whence_45 : decode cX11_whence 45 = .ok (.iload 4, 2) := oc_21 shX11_whence_45
theorem dX11_whence_47 : decode cX11_whence 47 = .ok (.aload 6, 2) := oc_25 shX11_whence_47
theorem dX11_whence_49 : decode cX11_whence 49 = .ok (.ifnull 20, 3) := oc_198 shX11_whence_49 sgw_0_20
theorem dX11_whence_52 : decode cX11_whence 52 = .ok (.aload_n 3, 1) := oc_45 shX11_whence_52
theorem dX11_whence_53 : decode cX11_whence 53 = .ok (.iload 5, 2) := oc_21 shX11_whence_53
theorem dX11_whence_55 : decode cX11_whence 55 = .ok (.invokevirtual 378, 3) := oc_182 shX11_whence_55
theorem dX11_whence_58 : decode cX11_whence 58 = .ok (.ifCond .eq 11, 3) := oc_153 shX11_whence_58 sgw_0_11
theorem dX11_whence_69 : decode cX11_whence 69 = .ok (.iconst 0, 1) := oc_3 shX11_whence_69
theorem dX11_whence_70 : decode cX11_whence 70 = .ok (.iadd, 1) := oc_96 shX11_whence_70
theorem dX11_whence_71 : decode cX11_whence 71 = .ok (.istore 4, 2) := oc_54 shX11_whence_71
theorem dX11_whence_73 : decode cX11_whence 73 = .ok (.iload_n 2, 1) := oc_28 shX11_whence_73
theorem dX11_whence_74 : decode cX11_whence 74 = .ok (.iload 4, 2) := oc_21 shX11_whence_74
theorem dX11_whence_76 : decode cX11_whence 76 = .ok (.if_icmp .ge 6, 3) := oc_162 shX11_whence_76 sgw_0_6
theorem dX11_whence_82 : decode cX11_whence 82 = .ok (.iinc 5 1, 3) := oc_132 shX11_whence_82 sgb_1
theorem dX11_whence_85 : decode cX11_whence 85 = .ok (.goto (-55), 3) := oc_167 shX11_whence_85 sgw_255_201
theorem dX11_whence_79 : decode cX11_whence 79 = .ok (.iload 5, 2) := oc_21 shX11_whence_79
theorem dX11_whence_81 : decode cX11_whence 81 = .ok (.ireturn, 1) := oc_172 shX11_whence_81
theorem dX11_whence_61 : decode cX11_whence 61 = .ok (.aload 6, 2) := oc_25 shX11_whence_61
theorem dX11_whence_63 : decode cX11_whence 63 = .ok (.getfield 202, 3) := oc_180 shX11_whence_63
theorem dX11_whence_66 : decode cX11_whence 66 = .ok (.goto 4, 3) := oc_167 shX11_whence_66 sgw_0_4
noncomputable def sxX11_audit_153 : List UInt8 := []
noncomputable def sxX11_audit_152 : List UInt8 := 172 :: sxX11_audit_153
noncomputable def sxX11_audit_150 : List UInt8 := 21 :: 5 :: sxX11_audit_152
noncomputable def sxX11_audit_147 : List UInt8 := 167 :: 255 :: 161 :: sxX11_audit_150
noncomputable def sxX11_audit_144 : List UInt8 := 132 :: 7 :: 1 :: sxX11_audit_147
noncomputable def sxX11_audit_142 : List UInt8 := 54 :: 6 :: sxX11_audit_144
noncomputable def sxX11_audit_140 : List UInt8 := 21 :: 9 :: sxX11_audit_142
noncomputable def sxX11_audit_138 : List UInt8 := 54 :: 5 :: sxX11_audit_140
noncomputable def sxX11_audit_137 : List UInt8 := 96 :: sxX11_audit_138
noncomputable def sxX11_audit_136 : List UInt8 := 3 :: sxX11_audit_137
noncomputable def sxX11_audit_133 : List UInt8 := 167 :: 0 :: 4 :: sxX11_audit_136
noncomputable def sxX11_audit_130 : List UInt8 := 184 :: 0 :: 232 :: sxX11_audit_133
noncomputable def sxX11_audit_128 : List UInt8 := 21 :: 10 :: sxX11_audit_130
noncomputable def sxX11_audit_127 : List UInt8 := 3 :: sxX11_audit_128
noncomputable def sxX11_audit_124 : List UInt8 := 160 :: 0 :: 12 :: sxX11_audit_127
noncomputable def sxX11_audit_123 : List UInt8 := 28 :: sxX11_audit_124
noncomputable def sxX11_audit_120 : List UInt8 := 180 :: 0 :: 211 :: sxX11_audit_123
noncomputable def sxX11_audit_118 : List UInt8 := 25 :: 8 :: sxX11_audit_120
noncomputable def sxX11_audit_116 : List UInt8 := 21 :: 5 :: sxX11_audit_118
noncomputable def sxX11_audit_114 : List UInt8 := 54 :: 10 :: sxX11_audit_116
noncomputable def sxX11_audit_113 : List UInt8 := 100 :: sxX11_audit_114
noncomputable def sxX11_audit_110 : List UInt8 := 184 :: 0 :: 232 :: sxX11_audit_113
noncomputable def sxX11_audit_107 : List UInt8 := 180 :: 1 :: 149 :: sxX11_audit_110
noncomputable def sxX11_audit_106 : List UInt8 := 45 :: sxX11_audit_107
noncomputable def sxX11_audit_104 : List UInt8 := 21 :: 6 :: sxX11_audit_106
noncomputable def sxX11_audit_101 : List UInt8 := 184 :: 0 :: 227 :: sxX11_audit_104
noncomputable def sxX11_audit_98 : List UInt8 := 180 :: 1 :: 152 :: sxX11_audit_101
noncomputable def sxX11_audit_97 : List UInt8 := 45 :: sxX11_audit_98
noncomputable def sxX11_audit_95 : List UInt8 := 21 :: 9 :: sxX11_audit_97
noncomputable def sxX11_audit_93 : List UInt8 := 54 :: 9 :: sxX11_audit_95
noncomputable def sxX11_audit_92 : List UInt8 := 96 :: sxX11_audit_93
noncomputable def sxX11_audit_89 : List UInt8 := 180 :: 0 :: 202 :: sxX11_audit_92
noncomputable def sxX11_audit_87 : List UInt8 := 25 :: 8 :: sxX11_audit_89
noncomputable def sxX11_audit_85 : List UInt8 := 21 :: 6 :: sxX11_audit_87
noncomputable def sxX11_audit_82 : List UInt8 := 167 :: 0 :: 62 :: sxX11_audit_85
noncomputable def sxX11_audit_79 : List UInt8 := 154 :: 0 :: 6 :: sxX11_audit_82
noncomputable def sxX11_audit_76 : List UInt8 := 182 :: 1 :: 122 :: sxX11_audit_79
noncomputable def sxX11_audit_74 : List UInt8 := 21 :: 7 :: sxX11_audit_76
noncomputable def sxX11_audit_72 : List UInt8 := 25 :: 4 :: sxX11_audit_74
noncomputable def sxX11_audit_69 : List UInt8 := 198 :: 0 :: 75 :: sxX11_audit_72
noncomputable def sxX11_audit_67 : List UInt8 := 25 :: 8 :: sxX11_audit_69
noncomputable def sxX11_audit_65 : List UInt8 := 58 :: 8 :: sxX11_audit_67
noncomputable def sxX11_audit_62 : List UInt8 := 182 :: 0 :: 148 :: sxX11_audit_65
noncomputable def sxX11_audit_60 : List UInt8 := 21 :: 7 :: sxX11_audit_62
noncomputable def sxX11_audit_59 : List UInt8 := 42 :: sxX11_audit_60
noncomputable def sxX11_audit_56 : List UInt8 := 162 :: 0 :: 94 :: sxX11_audit_59
noncomputable def sxX11_audit_54 : List UInt8 := 16 :: 20 :: sxX11_audit_56
noncomputable def sxX11_audit_52 : List UInt8 := 21 :: 7 :: sxX11_audit_54
noncomputable def sxX11_audit_50 : List UInt8 := 54 :: 7 :: sxX11_audit_52
noncomputable def sxX11_audit_49 : List UInt8 := 3 :: sxX11_audit_50
noncomputable def sxX11_audit_47 : List UInt8 := 54 :: 6 :: sxX11_audit_49
noncomputable def sxX11_audit_46 : List UInt8 := 3 :: sxX11_audit_47
noncomputable def sxX11_audit_44 : List UInt8 := 54 :: 5 :: sxX11_audit_46
noncomputable def sxX11_audit_43 : List UInt8 := 3 :: sxX11_audit_44
noncomputable def sxX11_audit_42 : List UInt8 := 172 :: sxX11_audit_43
noncomputable def sxX11_audit_41 : List UInt8 := 2 :: sxX11_audit_42
noncomputable def sxX11_audit_38 : List UInt8 := 199 :: 0 :: 5 :: sxX11_audit_41
noncomputable def sxX11_audit_35 : List UInt8 := 182 :: 0 :: 114 :: sxX11_audit_38
noncomputable def sxX11_audit_34 : List UInt8 := 28 :: sxX11_audit_35
noncomputable def sxX11_audit_33 : List UInt8 := 42 :: sxX11_audit_34
noncomputable def sxX11_audit_30 : List UInt8 := 198 :: 0 :: 11 :: sxX11_audit_33
noncomputable def sxX11_audit_28 : List UInt8 := 25 :: 4 :: sxX11_audit_30
noncomputable def sxX11_audit_25 : List UInt8 := 198 :: 0 :: 16 :: sxX11_audit_28
noncomputable def sxX11_audit_24 : List UInt8 := 45 :: sxX11_audit_25
noncomputable def sxX11_audit_22 : List UInt8 := 58 :: 4 :: sxX11_audit_24
noncomputable def sxX11_audit_19 : List UInt8 := 182 :: 1 :: 126 :: sxX11_audit_22
noncomputable def sxX11_audit_16 : List UInt8 := 180 :: 1 :: 146 :: sxX11_audit_19
noncomputable def sxX11_audit_15 : List UInt8 := 45 :: sxX11_audit_16
noncomputable def sxX11_audit_14 : List UInt8 := 42 :: sxX11_audit_15
noncomputable def sxX11_audit_11 : List UInt8 := 167 :: 0 :: 11 :: sxX11_audit_14
noncomputable def sxX11_audit_10 : List UInt8 := 1 :: sxX11_audit_11
noncomputable def sxX11_audit_7 : List UInt8 := 199 :: 0 :: 7 :: sxX11_audit_10
noncomputable def sxX11_audit_6 : List UInt8 := 45 :: sxX11_audit_7
noncomputable def sxX11_audit_5 : List UInt8 := 78 :: sxX11_audit_6
noncomputable def sxX11_audit_2 : List UInt8 := 182 :: 1 :: 166 :: sxX11_audit_5
noncomputable def sxX11_audit_1 : List UInt8 := 27 :: sxX11_audit_2
noncomputable def sxX11_audit_0 : List UInt8 := 42 :: sxX11_audit_1
theorem shX11_audit_0 : cX11_audit.data.toList.drop 0 = sxX11_audit_0 := rfl
theorem shX11_audit_1 : cX11_audit.data.toList.drop 1 = sxX11_audit_1 := dSn 1 shX11_audit_0
theorem shX11_audit_2 : cX11_audit.data.toList.drop 2 = sxX11_audit_2 := dSn 1 shX11_audit_1
theorem shX11_audit_5 : cX11_audit.data.toList.drop 5 = sxX11_audit_5 := dSn 3 shX11_audit_2
theorem shX11_audit_6 : cX11_audit.data.toList.drop 6 = sxX11_audit_6 := dSn 1 shX11_audit_5
theorem shX11_audit_7 : cX11_audit.data.toList.drop 7 = sxX11_audit_7 := dSn 1 shX11_audit_6
theorem shX11_audit_10 : cX11_audit.data.toList.drop 10 = sxX11_audit_10 := dSn 3 shX11_audit_7
theorem shX11_audit_11 : cX11_audit.data.toList.drop 11 = sxX11_audit_11 := dSn 1 shX11_audit_10
theorem shX11_audit_14 : cX11_audit.data.toList.drop 14 = sxX11_audit_14 := dSn 3 shX11_audit_11
theorem shX11_audit_15 : cX11_audit.data.toList.drop 15 = sxX11_audit_15 := dSn 1 shX11_audit_14
theorem shX11_audit_16 : cX11_audit.data.toList.drop 16 = sxX11_audit_16 := dSn 1 shX11_audit_15
theorem shX11_audit_19 : cX11_audit.data.toList.drop 19 = sxX11_audit_19 := dSn 3 shX11_audit_16
theorem shX11_audit_22 : cX11_audit.data.toList.drop 22 = sxX11_audit_22 := dSn 3 shX11_audit_19
theorem shX11_audit_24 : cX11_audit.data.toList.drop 24 = sxX11_audit_24 := dSn 2 shX11_audit_22
theorem shX11_audit_25 : cX11_audit.data.toList.drop 25 = sxX11_audit_25 := dSn 1 shX11_audit_24
theorem shX11_audit_28 : cX11_audit.data.toList.drop 28 = sxX11_audit_28 := dSn 3 shX11_audit_25
theorem shX11_audit_30 : cX11_audit.data.toList.drop 30 = sxX11_audit_30 := dSn 2 shX11_audit_28
theorem shX11_audit_33 : cX11_audit.data.toList.drop 33 = sxX11_audit_33 := dSn 3 shX11_audit_30
theorem shX11_audit_34 : cX11_audit.data.toList.drop 34 = sxX11_audit_34 := dSn 1 shX11_audit_33
theorem shX11_audit_35 : cX11_audit.data.toList.drop 35 = sxX11_audit_35 := dSn 1 shX11_audit_34
theorem shX11_audit_38 : cX11_audit.data.toList.drop 38 = sxX11_audit_38 := dSn 3 shX11_audit_35
theorem shX11_audit_41 : cX11_audit.data.toList.drop 41 = sxX11_audit_41 := dSn 3 shX11_audit_38
theorem shX11_audit_42 : cX11_audit.data.toList.drop 42 = sxX11_audit_42 := dSn 1 shX11_audit_41
theorem shX11_audit_43 : cX11_audit.data.toList.drop 43 = sxX11_audit_43 := dSn 1 shX11_audit_42
theorem shX11_audit_44 : cX11_audit.data.toList.drop 44 = sxX11_audit_44 := dSn 1 shX11_audit_43
theorem shX11_audit_46 : cX11_audit.data.toList.drop 46 = sxX11_audit_46 := dSn 2 shX11_audit_44
theorem shX11_audit_47 : cX11_audit.data.toList.drop 47 = sxX11_audit_47 := dSn 1 shX11_audit_46
theorem shX11_audit_49 : cX11_audit.data.toList.drop 49 = sxX11_audit_49 := dSn 2 shX11_audit_47
theorem shX11_audit_50 : cX11_audit.data.toList.drop 50 = sxX11_audit_50 := dSn 1 shX11_audit_49
theorem shX11_audit_52 : cX11_audit.data.toList.drop 52 = sxX11_audit_52 := dSn 2 shX11_audit_50
theorem shX11_audit_54 : cX11_audit.data.toList.drop 54 = sxX11_audit_54 := dSn 2 shX11_audit_52
theorem shX11_audit_56 : cX11_audit.data.toList.drop 56 = sxX11_audit_56 := dSn 2 shX11_audit_54
theorem shX11_audit_59 : cX11_audit.data.toList.drop 59 = sxX11_audit_59 := dSn 3 shX11_audit_56
theorem shX11_audit_60 : cX11_audit.data.toList.drop 60 = sxX11_audit_60 := dSn 1 shX11_audit_59
theorem shX11_audit_62 : cX11_audit.data.toList.drop 62 = sxX11_audit_62 := dSn 2 shX11_audit_60
theorem shX11_audit_65 : cX11_audit.data.toList.drop 65 = sxX11_audit_65 := dSn 3 shX11_audit_62
theorem shX11_audit_67 : cX11_audit.data.toList.drop 67 = sxX11_audit_67 := dSn 2 shX11_audit_65
theorem shX11_audit_69 : cX11_audit.data.toList.drop 69 = sxX11_audit_69 := dSn 2 shX11_audit_67
theorem shX11_audit_72 : cX11_audit.data.toList.drop 72 = sxX11_audit_72 := dSn 3 shX11_audit_69
theorem shX11_audit_74 : cX11_audit.data.toList.drop 74 = sxX11_audit_74 := dSn 2 shX11_audit_72
theorem shX11_audit_76 : cX11_audit.data.toList.drop 76 = sxX11_audit_76 := dSn 2 shX11_audit_74
theorem shX11_audit_79 : cX11_audit.data.toList.drop 79 = sxX11_audit_79 := dSn 3 shX11_audit_76
theorem shX11_audit_82 : cX11_audit.data.toList.drop 82 = sxX11_audit_82 := dSn 3 shX11_audit_79
theorem shX11_audit_85 : cX11_audit.data.toList.drop 85 = sxX11_audit_85 := dSn 3 shX11_audit_82
theorem shX11_audit_87 : cX11_audit.data.toList.drop 87 = sxX11_audit_87 := dSn 2 shX11_audit_85
theorem shX11_audit_89 : cX11_audit.data.toList.drop 89 = sxX11_audit_89 := dSn 2 shX11_audit_87
theorem shX11_audit_92 : cX11_audit.data.toList.drop 92 = sxX11_audit_92 := dSn 3 shX11_audit_89
theorem shX11_audit_93 : cX11_audit.data.toList.drop 93 = sxX11_audit_93 := dSn 1 shX11_audit_92
theorem shX11_audit_95 : cX11_audit.data.toList.drop 95 = sxX11_audit_95 := dSn 2 shX11_audit_93
theorem shX11_audit_97 : cX11_audit.data.toList.drop 97 = sxX11_audit_97 := dSn 2 shX11_audit_95
theorem shX11_audit_98 : cX11_audit.data.toList.drop 98 = sxX11_audit_98 := dSn 1 shX11_audit_97
theorem shX11_audit_101 : cX11_audit.data.toList.drop 101 = sxX11_audit_101 := dSn 3 shX11_audit_98
theorem shX11_audit_104 : cX11_audit.data.toList.drop 104 = sxX11_audit_104 := dSn 3 shX11_audit_101
theorem shX11_audit_106 : cX11_audit.data.toList.drop 106 = sxX11_audit_106 := dSn 2 shX11_audit_104
theorem shX11_audit_107 : cX11_audit.data.toList.drop 107 = sxX11_audit_107 := dSn 1 shX11_audit_106
theorem shX11_audit_110 : cX11_audit.data.toList.drop 110 = sxX11_audit_110 := dSn 3 shX11_audit_107
theorem shX11_audit_113 : cX11_audit.data.toList.drop 113 = sxX11_audit_113 := dSn 3 shX11_audit_110
theorem shX11_audit_114 : cX11_audit.data.toList.drop 114 = sxX11_audit_114 := dSn 1 shX11_audit_113
theorem shX11_audit_116 : cX11_audit.data.toList.drop 116 = sxX11_audit_116 := dSn 2 shX11_audit_114
theorem shX11_audit_118 : cX11_audit.data.toList.drop 118 = sxX11_audit_118 := dSn 2 shX11_audit_116
theorem shX11_audit_120 : cX11_audit.data.toList.drop 120 = sxX11_audit_120 := dSn 2 shX11_audit_118
theorem shX11_audit_123 : cX11_audit.data.toList.drop 123 = sxX11_audit_123 := dSn 3 shX11_audit_120
theorem shX11_audit_124 : cX11_audit.data.toList.drop 124 = sxX11_audit_124 := dSn 1 shX11_audit_123
theorem shX11_audit_127 : cX11_audit.data.toList.drop 127 = sxX11_audit_127 := dSn 3 shX11_audit_124
theorem shX11_audit_128 : cX11_audit.data.toList.drop 128 = sxX11_audit_128 := dSn 1 shX11_audit_127
theorem shX11_audit_130 : cX11_audit.data.toList.drop 130 = sxX11_audit_130 := dSn 2 shX11_audit_128
theorem shX11_audit_133 : cX11_audit.data.toList.drop 133 = sxX11_audit_133 := dSn 3 shX11_audit_130
theorem shX11_audit_136 : cX11_audit.data.toList.drop 136 = sxX11_audit_136 := dSn 3 shX11_audit_133
theorem shX11_audit_137 : cX11_audit.data.toList.drop 137 = sxX11_audit_137 := dSn 1 shX11_audit_136
theorem shX11_audit_138 : cX11_audit.data.toList.drop 138 = sxX11_audit_138 := dSn 1 shX11_audit_137
theorem shX11_audit_140 : cX11_audit.data.toList.drop 140 = sxX11_audit_140 := dSn 2 shX11_audit_138
theorem shX11_audit_142 : cX11_audit.data.toList.drop 142 = sxX11_audit_142 := dSn 2 shX11_audit_140
theorem shX11_audit_144 : cX11_audit.data.toList.drop 144 = sxX11_audit_144 := dSn 2 shX11_audit_142
theorem shX11_audit_147 : cX11_audit.data.toList.drop 147 = sxX11_audit_147 := dSn 3 shX11_audit_144
theorem shX11_audit_150 : cX11_audit.data.toList.drop 150 = sxX11_audit_150 := dSn 3 shX11_audit_147
theorem shX11_audit_152 : cX11_audit.data.toList.drop 152 = sxX11_audit_152 := dSn 2 shX11_audit_150
theorem dX11_audit_0 : decode cX11_audit 0 = .ok (.aload_n 0, 1) := oc_42 shX11_audit_0
theorem dX11_audit_1 : decode cX11_audit 1 = .ok (.iload_n 1, 1) := oc_27 shX11_audit_1
theorem dX11_audit_2 : decode cX11_audit 2 = .ok (.invokevirtual 422, 3) := oc_182 shX11_audit_2
theorem dX11_audit_5 : decode cX11_audit 5 = .ok (.astore_n 3, 1) := oc_78 shX11_audit_5
theorem dX11_audit_6 : decode cX11_audit 6 = .ok (.aload_n 3, 1) := oc_45 shX11_audit_6
theorem dX11_audit_7 : decode cX11_audit 7 = .ok (.ifnonnull 7, 3) := oc_199 shX11_audit_7 sgw_0_7
theorem dX11_audit_14 : decode cX11_audit 14 = .ok (.aload_n 0, 1) := oc_42 shX11_audit_14
theorem dX11_audit_15 : decode cX11_audit 15 = .ok (.aload_n 3, 1) := oc_45 shX11_audit_15
theorem dX11_audit_16 : decode cX11_audit 16 = .ok (.getfield 402, 3) := oc_180 shX11_audit_16
theorem dX11_audit_19 : decode cX11_audit 19 = .ok (.invokevirtual 382, 3) := oc_182 shX11_audit_19
theorem dX11_audit_22 : decode cX11_audit 22 = .ok (.astore 4, 2) := oc_58 shX11_audit_22
theorem dX11_audit_24 : decode cX11_audit 24 = .ok (.aload_n 3, 1) := oc_45 shX11_audit_24
theorem dX11_audit_25 : decode cX11_audit 25 = .ok (.ifnull 16, 3) := oc_198 shX11_audit_25 sgw_0_16
theorem dX11_audit_28 : decode cX11_audit 28 = .ok (.aload 4, 2) := oc_25 shX11_audit_28
theorem dX11_audit_30 : decode cX11_audit 30 = .ok (.ifnull 11, 3) := oc_198 shX11_audit_30 sgw_0_11
theorem dX11_audit_33 : decode cX11_audit 33 = .ok (.aload_n 0, 1) := oc_42 shX11_audit_33
theorem dX11_audit_34 : decode cX11_audit 34 = .ok (.iload_n 2, 1) := oc_28 shX11_audit_34
theorem dX11_audit_35 : decode cX11_audit 35 = .ok (.invokevirtual 114, 3) := oc_182 shX11_audit_35
theorem dX11_audit_38 : decode cX11_audit 38 = .ok (.ifnonnull 5, 3) := oc_199 shX11_audit_38 sgw_0_5
theorem dX11_audit_43 : decode cX11_audit 43 = .ok (.iconst 0, 1) := oc_3 shX11_audit_43
theorem dX11_audit_44 : decode cX11_audit 44 = .ok (.istore 5, 2) := oc_54 shX11_audit_44
theorem dX11_audit_46 : decode cX11_audit 46 = .ok (.iconst 0, 1) := oc_3 shX11_audit_46
theorem dX11_audit_47 : decode cX11_audit 47 = .ok (.istore 6, 2) := oc_54 shX11_audit_47
theorem dX11_audit_49 : decode cX11_audit 49 = .ok (.iconst 0, 1) := oc_3 shX11_audit_49
theorem dX11_audit_50 : decode cX11_audit 50 = .ok (.istore 7, 2) := oc_54 shX11_audit_50
theorem dX11_audit_52 : decode cX11_audit 52 = .ok (.iload 7, 2) := oc_21 shX11_audit_52
theorem dX11_audit_54 : decode cX11_audit 54 = .ok (.bipush 20, 2) := oc_16 shX11_audit_54 sgb_20
theorem dX11_audit_56 : decode cX11_audit 56 = .ok (.if_icmp .ge 94, 3) := oc_162 shX11_audit_56 sgw_0_94
theorem dX11_audit_150 : decode cX11_audit 150 = .ok (.iload 5, 2) := oc_21 shX11_audit_150
theorem dX11_audit_152 : decode cX11_audit 152 = .ok (.ireturn, 1) := oc_172 shX11_audit_152
theorem dX11_audit_59 : decode cX11_audit 59 = .ok (.aload_n 0, 1) := oc_42 shX11_audit_59
theorem dX11_audit_60 : decode cX11_audit 60 = .ok (.iload 7, 2) := oc_21 shX11_audit_60
theorem dX11_audit_62 : decode cX11_audit 62 = .ok (.invokevirtual 148, 3) := oc_182 shX11_audit_62
theorem dX11_audit_65 : decode cX11_audit 65 = .ok (.astore 8, 2) := oc_58 shX11_audit_65
theorem dX11_audit_67 : decode cX11_audit 67 = .ok (.aload 8, 2) := oc_25 shX11_audit_67
theorem dX11_audit_69 : decode cX11_audit 69 = .ok (.ifnull 75, 3) := oc_198 shX11_audit_69 sgw_0_75
theorem dX11_audit_72 : decode cX11_audit 72 = .ok (.aload 4, 2) := oc_25 shX11_audit_72
theorem dX11_audit_74 : decode cX11_audit 74 = .ok (.iload 7, 2) := oc_21 shX11_audit_74
theorem dX11_audit_76 : decode cX11_audit 76 = .ok (.invokevirtual 378, 3) := oc_182 shX11_audit_76
theorem dX11_audit_79 : decode cX11_audit 79 = .ok (.ifCond .ne 6, 3) := oc_154 shX11_audit_79 sgw_0_6
theorem dX11_audit_82 : decode cX11_audit 82 = .ok (.goto 62, 3) := oc_167 shX11_audit_82 sgw_0_62
theorem dX11_audit_144 : decode cX11_audit 144 = .ok (.iinc 7 1, 3) := oc_132 shX11_audit_144 sgb_1
theorem dX11_audit_147 : decode cX11_audit 147 = .ok (.goto (-95), 3) := oc_167 shX11_audit_147 sgw_255_161
theorem dX11_audit_85 : decode cX11_audit 85 = .ok (.iload 6, 2) := oc_21 shX11_audit_85
theorem dX11_audit_87 : decode cX11_audit 87 = .ok (.aload 8, 2) := oc_25 shX11_audit_87
theorem dX11_audit_89 : decode cX11_audit 89 = .ok (.getfield 202, 3) := oc_180 shX11_audit_89
theorem dX11_audit_92 : decode cX11_audit 92 = .ok (.iadd, 1) := oc_96 shX11_audit_92
theorem dX11_audit_93 : decode cX11_audit 93 = .ok (.istore 9, 2) := oc_54 shX11_audit_93
theorem dX11_audit_95 : decode cX11_audit 95 = .ok (.iload 9, 2) := oc_21 shX11_audit_95
theorem dX11_audit_97 : decode cX11_audit 97 = .ok (.aload_n 3, 1) := oc_45 shX11_audit_97
theorem dX11_audit_98 : decode cX11_audit 98 = .ok (.getfield 408, 3) := oc_180 shX11_audit_98
theorem dX11_audit_101 : decode cX11_audit 101 = .ok (.invokestatic 227, 3) := oc_184 shX11_audit_101
theorem dX11_audit_104 : decode cX11_audit 104 = .ok (.iload 6, 2) := oc_21 shX11_audit_104
theorem dX11_audit_106 : decode cX11_audit 106 = .ok (.aload_n 3, 1) := oc_45 shX11_audit_106
theorem dX11_audit_107 : decode cX11_audit 107 = .ok (.getfield 405, 3) := oc_180 shX11_audit_107
theorem dX11_audit_110 : decode cX11_audit 110 = .ok (.invokestatic 232, 3) := oc_184 shX11_audit_110
theorem dX11_audit_113 : decode cX11_audit 113 = .ok (.isub, 1) := oc_100 shX11_audit_113
theorem dX11_audit_114 : decode cX11_audit 114 = .ok (.istore 10, 2) := oc_54 shX11_audit_114
theorem dX11_audit_116 : decode cX11_audit 116 = .ok (.iload 5, 2) := oc_21 shX11_audit_116
theorem dX11_audit_118 : decode cX11_audit 118 = .ok (.aload 8, 2) := oc_25 shX11_audit_118
theorem dX11_audit_120 : decode cX11_audit 120 = .ok (.getfield 211, 3) := oc_180 shX11_audit_120
theorem dX11_audit_123 : decode cX11_audit 123 = .ok (.iload_n 2, 1) := oc_28 shX11_audit_123
theorem dX11_audit_124 : decode cX11_audit 124 = .ok (.if_icmp .ne 12, 3) := oc_160 shX11_audit_124 sgw_0_12
theorem dX11_audit_136 : decode cX11_audit 136 = .ok (.iconst 0, 1) := oc_3 shX11_audit_136
theorem dX11_audit_137 : decode cX11_audit 137 = .ok (.iadd, 1) := oc_96 shX11_audit_137
theorem dX11_audit_138 : decode cX11_audit 138 = .ok (.istore 5, 2) := oc_54 shX11_audit_138
theorem dX11_audit_140 : decode cX11_audit 140 = .ok (.iload 9, 2) := oc_21 shX11_audit_140
theorem dX11_audit_142 : decode cX11_audit 142 = .ok (.istore 6, 2) := oc_54 shX11_audit_142
theorem dX11_audit_127 : decode cX11_audit 127 = .ok (.iconst 0, 1) := oc_3 shX11_audit_127
theorem dX11_audit_128 : decode cX11_audit 128 = .ok (.iload 10, 2) := oc_21 shX11_audit_128
theorem dX11_audit_130 : decode cX11_audit 130 = .ok (.invokestatic 232, 3) := oc_184 shX11_audit_130
theorem dX11_audit_133 : decode cX11_audit 133 = .ok (.goto 4, 3) := oc_167 shX11_audit_133 sgw_0_4
theorem dX11_audit_41 : decode cX11_audit 41 = .ok (.iconst (-1), 1) := oc_2 shX11_audit_41
theorem dX11_audit_42 : decode cX11_audit 42 = .ok (.ireturn, 1) := oc_172 shX11_audit_42
theorem dX11_audit_10 : decode cX11_audit 10 = .ok (.aconst_null, 1) := oc_1 shX11_audit_10
theorem dX11_audit_11 : decode cX11_audit 11 = .ok (.goto 11, 3) := oc_167 shX11_audit_11 sgw_0_11
noncomputable def sxX11_tax_58 : List UInt8 := []
noncomputable def sxX11_tax_57 : List UInt8 := 172 :: sxX11_tax_58
noncomputable def sxX11_tax_56 : List UInt8 := 108 :: sxX11_tax_57
noncomputable def sxX11_tax_54 : List UInt8 := 16 :: 100 :: sxX11_tax_56
noncomputable def sxX11_tax_53 : List UInt8 := 104 :: sxX11_tax_54
noncomputable def sxX11_tax_50 : List UInt8 := 184 :: 0 :: 192 :: sxX11_tax_53
noncomputable def sxX11_tax_49 : List UInt8 := 96 :: sxX11_tax_50
noncomputable def sxX11_tax_48 : List UInt8 := 108 :: sxX11_tax_49
noncomputable def sxX11_tax_46 : List UInt8 := 16 :: 7 :: sxX11_tax_48
noncomputable def sxX11_tax_43 : List UInt8 := 180 :: 1 :: 178 :: sxX11_tax_46
noncomputable def sxX11_tax_42 : List UInt8 := 44 :: sxX11_tax_43
noncomputable def sxX11_tax_41 : List UInt8 := 104 :: sxX11_tax_42
noncomputable def sxX11_tax_39 : List UInt8 := 16 :: 58 :: sxX11_tax_41
noncomputable def sxX11_tax_38 : List UInt8 := 29 :: sxX11_tax_39
noncomputable def sxX11_tax_35 : List UInt8 := 180 :: 1 :: 173 :: sxX11_tax_38
noncomputable def sxX11_tax_32 : List UInt8 := 180 :: 0 :: 47 :: sxX11_tax_35
noncomputable def sxX11_tax_31 : List UInt8 := 42 :: sxX11_tax_32
noncomputable def sxX11_tax_28 : List UInt8 := 182 :: 1 :: 176 :: sxX11_tax_31
noncomputable def sxX11_tax_27 : List UInt8 := 44 :: sxX11_tax_28
noncomputable def sxX11_tax_26 : List UInt8 := 62 :: sxX11_tax_27
noncomputable def sxX11_tax_23 : List UInt8 := 184 :: 0 :: 192 :: sxX11_tax_26
noncomputable def sxX11_tax_20 : List UInt8 := 180 :: 1 :: 159 :: sxX11_tax_23
noncomputable def sxX11_tax_19 : List UInt8 := 44 :: sxX11_tax_20
noncomputable def sxX11_tax_16 : List UInt8 := 180 :: 1 :: 170 :: sxX11_tax_19
noncomputable def sxX11_tax_13 : List UInt8 := 180 :: 0 :: 47 :: sxX11_tax_16
noncomputable def sxX11_tax_12 : List UInt8 := 42 :: sxX11_tax_13
noncomputable def sxX11_tax_11 : List UInt8 := 172 :: sxX11_tax_12
noncomputable def sxX11_tax_10 : List UInt8 := 2 :: sxX11_tax_11
noncomputable def sxX11_tax_7 : List UInt8 := 199 :: 0 :: 5 :: sxX11_tax_10
noncomputable def sxX11_tax_6 : List UInt8 := 44 :: sxX11_tax_7
noncomputable def sxX11_tax_5 : List UInt8 := 77 :: sxX11_tax_6
noncomputable def sxX11_tax_2 : List UInt8 := 182 :: 1 :: 166 :: sxX11_tax_5
noncomputable def sxX11_tax_1 : List UInt8 := 27 :: sxX11_tax_2
noncomputable def sxX11_tax_0 : List UInt8 := 42 :: sxX11_tax_1
theorem shX11_tax_0 : cX11_tax.data.toList.drop 0 = sxX11_tax_0 := rfl
theorem shX11_tax_1 : cX11_tax.data.toList.drop 1 = sxX11_tax_1 := dSn 1 shX11_tax_0
theorem shX11_tax_2 : cX11_tax.data.toList.drop 2 = sxX11_tax_2 := dSn 1 shX11_tax_1
theorem shX11_tax_5 : cX11_tax.data.toList.drop 5 = sxX11_tax_5 := dSn 3 shX11_tax_2
theorem shX11_tax_6 : cX11_tax.data.toList.drop 6 = sxX11_tax_6 := dSn 1 shX11_tax_5
theorem shX11_tax_7 : cX11_tax.data.toList.drop 7 = sxX11_tax_7 := dSn 1 shX11_tax_6
theorem shX11_tax_10 : cX11_tax.data.toList.drop 10 = sxX11_tax_10 := dSn 3 shX11_tax_7
theorem shX11_tax_11 : cX11_tax.data.toList.drop 11 = sxX11_tax_11 := dSn 1 shX11_tax_10
theorem shX11_tax_12 : cX11_tax.data.toList.drop 12 = sxX11_tax_12 := dSn 1 shX11_tax_11
theorem shX11_tax_13 : cX11_tax.data.toList.drop 13 = sxX11_tax_13 := dSn 1 shX11_tax_12
theorem shX11_tax_16 : cX11_tax.data.toList.drop 16 = sxX11_tax_16 := dSn 3 shX11_tax_13
theorem shX11_tax_19 : cX11_tax.data.toList.drop 19 = sxX11_tax_19 := dSn 3 shX11_tax_16
theorem shX11_tax_20 : cX11_tax.data.toList.drop 20 = sxX11_tax_20 := dSn 1 shX11_tax_19
theorem shX11_tax_23 : cX11_tax.data.toList.drop 23 = sxX11_tax_23 := dSn 3 shX11_tax_20
theorem shX11_tax_26 : cX11_tax.data.toList.drop 26 = sxX11_tax_26 := dSn 3 shX11_tax_23
theorem shX11_tax_27 : cX11_tax.data.toList.drop 27 = sxX11_tax_27 := dSn 1 shX11_tax_26
theorem shX11_tax_28 : cX11_tax.data.toList.drop 28 = sxX11_tax_28 := dSn 1 shX11_tax_27
theorem shX11_tax_31 : cX11_tax.data.toList.drop 31 = sxX11_tax_31 := dSn 3 shX11_tax_28
theorem shX11_tax_32 : cX11_tax.data.toList.drop 32 = sxX11_tax_32 := dSn 1 shX11_tax_31
theorem shX11_tax_35 : cX11_tax.data.toList.drop 35 = sxX11_tax_35 := dSn 3 shX11_tax_32
theorem shX11_tax_38 : cX11_tax.data.toList.drop 38 = sxX11_tax_38 := dSn 3 shX11_tax_35
theorem shX11_tax_39 : cX11_tax.data.toList.drop 39 = sxX11_tax_39 := dSn 1 shX11_tax_38
theorem shX11_tax_41 : cX11_tax.data.toList.drop 41 = sxX11_tax_41 := dSn 2 shX11_tax_39
theorem shX11_tax_42 : cX11_tax.data.toList.drop 42 = sxX11_tax_42 := dSn 1 shX11_tax_41
theorem shX11_tax_43 : cX11_tax.data.toList.drop 43 = sxX11_tax_43 := dSn 1 shX11_tax_42
theorem shX11_tax_46 : cX11_tax.data.toList.drop 46 = sxX11_tax_46 := dSn 3 shX11_tax_43
theorem shX11_tax_48 : cX11_tax.data.toList.drop 48 = sxX11_tax_48 := dSn 2 shX11_tax_46
theorem shX11_tax_49 : cX11_tax.data.toList.drop 49 = sxX11_tax_49 := dSn 1 shX11_tax_48
theorem shX11_tax_50 : cX11_tax.data.toList.drop 50 = sxX11_tax_50 := dSn 1 shX11_tax_49
theorem shX11_tax_53 : cX11_tax.data.toList.drop 53 = sxX11_tax_53 := dSn 3 shX11_tax_50
theorem shX11_tax_54 : cX11_tax.data.toList.drop 54 = sxX11_tax_54 := dSn 1 shX11_tax_53
theorem shX11_tax_56 : cX11_tax.data.toList.drop 56 = sxX11_tax_56 := dSn 2 shX11_tax_54
theorem shX11_tax_57 : cX11_tax.data.toList.drop 57 = sxX11_tax_57 := dSn 1 shX11_tax_56
theorem dX11_tax_0 : decode cX11_tax 0 = .ok (.aload_n 0, 1) := oc_42 shX11_tax_0
theorem dX11_tax_1 : decode cX11_tax 1 = .ok (.iload_n 1, 1) := oc_27 shX11_tax_1
theorem dX11_tax_2 : decode cX11_tax 2 = .ok (.invokevirtual 422, 3) := oc_182 shX11_tax_2
theorem dX11_tax_5 : decode cX11_tax 5 = .ok (.astore_n 2, 1) := oc_77 shX11_tax_5
theorem dX11_tax_6 : decode cX11_tax 6 = .ok (.aload_n 2, 1) := oc_44 shX11_tax_6
theorem dX11_tax_7 : decode cX11_tax 7 = .ok (.ifnonnull 5, 3) := oc_199 shX11_tax_7 sgw_0_5
theorem dX11_tax_12 : decode cX11_tax 12 = .ok (.aload_n 0, 1) := oc_42 shX11_tax_12
theorem dX11_tax_13 : decode cX11_tax 13 = .ok (.getfield 47, 3) := oc_180 shX11_tax_13
theorem dX11_tax_16 : decode cX11_tax 16 = .ok (.getfield 426, 3) := oc_180 shX11_tax_16
theorem dX11_tax_19 : decode cX11_tax 19 = .ok (.aload_n 2, 1) := oc_44 shX11_tax_19
theorem dX11_tax_20 : decode cX11_tax 20 = .ok (.getfield 415, 3) := oc_180 shX11_tax_20
theorem dX11_tax_23 : decode cX11_tax 23 = .ok (.invokestatic 192, 3) := oc_184 shX11_tax_23
theorem dX11_tax_26 : decode cX11_tax 26 = .ok (.istore_n 3, 1) := oc_62 shX11_tax_26
theorem dX11_tax_27 : decode cX11_tax 27 = .ok (.aload_n 2, 1) := oc_44 shX11_tax_27
theorem dX11_tax_28 : decode cX11_tax 28 = .ok (.invokevirtual 432, 3) := oc_182 shX11_tax_28
theorem dX11_tax_31 : decode cX11_tax 31 = .ok (.aload_n 0, 1) := oc_42 shX11_tax_31
theorem dX11_tax_32 : decode cX11_tax 32 = .ok (.getfield 47, 3) := oc_180 shX11_tax_32
theorem dX11_tax_35 : decode cX11_tax 35 = .ok (.getfield 429, 3) := oc_180 shX11_tax_35
theorem dX11_tax_38 : decode cX11_tax 38 = .ok (.iload_n 3, 1) := oc_29 shX11_tax_38
theorem dX11_tax_39 : decode cX11_tax 39 = .ok (.bipush 58, 2) := oc_16 shX11_tax_39 sgb_58
theorem dX11_tax_41 : decode cX11_tax 41 = .ok (.imul, 1) := oc_104 shX11_tax_41
theorem dX11_tax_42 : decode cX11_tax 42 = .ok (.aload_n 2, 1) := oc_44 shX11_tax_42
theorem dX11_tax_43 : decode cX11_tax 43 = .ok (.getfield 434, 3) := oc_180 shX11_tax_43
theorem dX11_tax_46 : decode cX11_tax 46 = .ok (.bipush 7, 2) := oc_16 shX11_tax_46 sgb_7
theorem dX11_tax_48 : decode cX11_tax 48 = .ok (.idiv, 1) := oc_108 shX11_tax_48
theorem dX11_tax_49 : decode cX11_tax 49 = .ok (.iadd, 1) := oc_96 shX11_tax_49
theorem dX11_tax_50 : decode cX11_tax 50 = .ok (.invokestatic 192, 3) := oc_184 shX11_tax_50
theorem dX11_tax_53 : decode cX11_tax 53 = .ok (.imul, 1) := oc_104 shX11_tax_53
theorem dX11_tax_54 : decode cX11_tax 54 = .ok (.bipush 100, 2) := oc_16 shX11_tax_54 sgb_100
theorem dX11_tax_56 : decode cX11_tax 56 = .ok (.idiv, 1) := oc_108 shX11_tax_56
theorem dX11_tax_57 : decode cX11_tax 57 = .ok (.ireturn, 1) := oc_172 shX11_tax_57
theorem dX11_tax_10 : decode cX11_tax 10 = .ok (.iconst (-1), 1) := oc_2 shX11_tax_10
theorem dX11_tax_11 : decode cX11_tax 11 = .ok (.ireturn, 1) := oc_172 shX11_tax_11
noncomputable def sxX11_boughtIn_72 : List UInt8 := []
noncomputable def sxX11_boughtIn_71 : List UInt8 := 172 :: sxX11_boughtIn_72
noncomputable def sxX11_boughtIn_70 : List UInt8 := 29 :: sxX11_boughtIn_71
noncomputable def sxX11_boughtIn_67 : List UInt8 := 167 :: 255 :: 194 :: sxX11_boughtIn_70
noncomputable def sxX11_boughtIn_64 : List UInt8 := 132 :: 4 :: 1 :: sxX11_boughtIn_67
noncomputable def sxX11_boughtIn_63 : List UInt8 := 62 :: sxX11_boughtIn_64
noncomputable def sxX11_boughtIn_62 : List UInt8 := 96 :: sxX11_boughtIn_63
noncomputable def sxX11_boughtIn_61 : List UInt8 := 3 :: sxX11_boughtIn_62
noncomputable def sxX11_boughtIn_58 : List UInt8 := 167 :: 0 :: 4 :: sxX11_boughtIn_61
noncomputable def sxX11_boughtIn_55 : List UInt8 := 182 :: 1 :: 176 :: sxX11_boughtIn_58
noncomputable def sxX11_boughtIn_53 : List UInt8 := 25 :: 5 :: sxX11_boughtIn_55
noncomputable def sxX11_boughtIn_50 : List UInt8 := 160 :: 0 :: 11 :: sxX11_boughtIn_53
noncomputable def sxX11_boughtIn_49 : List UInt8 := 27 :: sxX11_boughtIn_50
noncomputable def sxX11_boughtIn_48 : List UInt8 := 108 :: sxX11_boughtIn_49
noncomputable def sxX11_boughtIn_46 : List UInt8 := 16 :: 7 :: sxX11_boughtIn_48
noncomputable def sxX11_boughtIn_43 : List UInt8 := 180 :: 1 :: 178 :: sxX11_boughtIn_46
noncomputable def sxX11_boughtIn_41 : List UInt8 := 25 :: 5 :: sxX11_boughtIn_43
noncomputable def sxX11_boughtIn_38 : List UInt8 := 160 :: 0 :: 23 :: sxX11_boughtIn_41
noncomputable def sxX11_boughtIn_37 : List UInt8 := 28 :: sxX11_boughtIn_38
noncomputable def sxX11_boughtIn_34 : List UInt8 := 180 :: 1 :: 159 :: sxX11_boughtIn_37
noncomputable def sxX11_boughtIn_32 : List UInt8 := 25 :: 5 :: sxX11_boughtIn_34
noncomputable def sxX11_boughtIn_31 : List UInt8 := 29 :: sxX11_boughtIn_32
noncomputable def sxX11_boughtIn_29 : List UInt8 := 58 :: 5 :: sxX11_boughtIn_31
noncomputable def sxX11_boughtIn_26 : List UInt8 := 192 :: 0 :: 97 :: sxX11_boughtIn_29
noncomputable def sxX11_boughtIn_23 : List UInt8 := 182 :: 0 :: 87 :: sxX11_boughtIn_26
noncomputable def sxX11_boughtIn_21 : List UInt8 := 21 :: 4 :: sxX11_boughtIn_23
noncomputable def sxX11_boughtIn_18 : List UInt8 := 180 :: 0 :: 71 :: sxX11_boughtIn_21
noncomputable def sxX11_boughtIn_17 : List UInt8 := 42 :: sxX11_boughtIn_18
noncomputable def sxX11_boughtIn_14 : List UInt8 := 162 :: 0 :: 56 :: sxX11_boughtIn_17
noncomputable def sxX11_boughtIn_11 : List UInt8 := 182 :: 0 :: 84 :: sxX11_boughtIn_14
noncomputable def sxX11_boughtIn_8 : List UInt8 := 180 :: 0 :: 71 :: sxX11_boughtIn_11
noncomputable def sxX11_boughtIn_7 : List UInt8 := 42 :: sxX11_boughtIn_8
noncomputable def sxX11_boughtIn_5 : List UInt8 := 21 :: 4 :: sxX11_boughtIn_7
noncomputable def sxX11_boughtIn_3 : List UInt8 := 54 :: 4 :: sxX11_boughtIn_5
noncomputable def sxX11_boughtIn_2 : List UInt8 := 3 :: sxX11_boughtIn_3
noncomputable def sxX11_boughtIn_1 : List UInt8 := 62 :: sxX11_boughtIn_2
noncomputable def sxX11_boughtIn_0 : List UInt8 := 3 :: sxX11_boughtIn_1
theorem shX11_boughtIn_0 : cX11_boughtIn.data.toList.drop 0 = sxX11_boughtIn_0 := rfl
theorem shX11_boughtIn_1 : cX11_boughtIn.data.toList.drop 1 = sxX11_boughtIn_1 := dSn 1 shX11_boughtIn_0
theorem shX11_boughtIn_2 : cX11_boughtIn.data.toList.drop 2 = sxX11_boughtIn_2 := dSn 1 shX11_boughtIn_1
theorem shX11_boughtIn_3 : cX11_boughtIn.data.toList.drop 3 = sxX11_boughtIn_3 := dSn 1 shX11_boughtIn_2
theorem shX11_boughtIn_5 : cX11_boughtIn.data.toList.drop 5 = sxX11_boughtIn_5 := dSn 2 shX11_boughtIn_3
theorem shX11_boughtIn_7 : cX11_boughtIn.data.toList.drop 7 = sxX11_boughtIn_7 := dSn 2 shX11_boughtIn_5
theorem shX11_boughtIn_8 : cX11_boughtIn.data.toList.drop 8 = sxX11_boughtIn_8 := dSn 1 shX11_boughtIn_7
theorem shX11_boughtIn_11 : cX11_boughtIn.data.toList.drop 11 = sxX11_boughtIn_11 := dSn 3 shX11_boughtIn_8
theorem shX11_boughtIn_14 : cX11_boughtIn.data.toList.drop 14 = sxX11_boughtIn_14 := dSn 3 shX11_boughtIn_11
theorem shX11_boughtIn_17 : cX11_boughtIn.data.toList.drop 17 = sxX11_boughtIn_17 := dSn 3 shX11_boughtIn_14
theorem shX11_boughtIn_18 : cX11_boughtIn.data.toList.drop 18 = sxX11_boughtIn_18 := dSn 1 shX11_boughtIn_17
theorem shX11_boughtIn_21 : cX11_boughtIn.data.toList.drop 21 = sxX11_boughtIn_21 := dSn 3 shX11_boughtIn_18
theorem shX11_boughtIn_23 : cX11_boughtIn.data.toList.drop 23 = sxX11_boughtIn_23 := dSn 2 shX11_boughtIn_21
theorem shX11_boughtIn_26 : cX11_boughtIn.data.toList.drop 26 = sxX11_boughtIn_26 := dSn 3 shX11_boughtIn_23
theorem shX11_boughtIn_29 : cX11_boughtIn.data.toList.drop 29 = sxX11_boughtIn_29 := dSn 3 shX11_boughtIn_26
theorem shX11_boughtIn_31 : cX11_boughtIn.data.toList.drop 31 = sxX11_boughtIn_31 := dSn 2 shX11_boughtIn_29
theorem shX11_boughtIn_32 : cX11_boughtIn.data.toList.drop 32 = sxX11_boughtIn_32 := dSn 1 shX11_boughtIn_31
theorem shX11_boughtIn_34 : cX11_boughtIn.data.toList.drop 34 = sxX11_boughtIn_34 := dSn 2 shX11_boughtIn_32
theorem shX11_boughtIn_37 : cX11_boughtIn.data.toList.drop 37 = sxX11_boughtIn_37 := dSn 3 shX11_boughtIn_34
theorem shX11_boughtIn_38 : cX11_boughtIn.data.toList.drop 38 = sxX11_boughtIn_38 := dSn 1 shX11_boughtIn_37
theorem shX11_boughtIn_41 : cX11_boughtIn.data.toList.drop 41 = sxX11_boughtIn_41 := dSn 3 shX11_boughtIn_38
theorem shX11_boughtIn_43 : cX11_boughtIn.data.toList.drop 43 = sxX11_boughtIn_43 := dSn 2 shX11_boughtIn_41
theorem shX11_boughtIn_46 : cX11_boughtIn.data.toList.drop 46 = sxX11_boughtIn_46 := dSn 3 shX11_boughtIn_43
theorem shX11_boughtIn_48 : cX11_boughtIn.data.toList.drop 48 = sxX11_boughtIn_48 := dSn 2 shX11_boughtIn_46
theorem shX11_boughtIn_49 : cX11_boughtIn.data.toList.drop 49 = sxX11_boughtIn_49 := dSn 1 shX11_boughtIn_48
theorem shX11_boughtIn_50 : cX11_boughtIn.data.toList.drop 50 = sxX11_boughtIn_50 := dSn 1 shX11_boughtIn_49
theorem shX11_boughtIn_53 : cX11_boughtIn.data.toList.drop 53 = sxX11_boughtIn_53 := dSn 3 shX11_boughtIn_50
theorem shX11_boughtIn_55 : cX11_boughtIn.data.toList.drop 55 = sxX11_boughtIn_55 := dSn 2 shX11_boughtIn_53
theorem shX11_boughtIn_58 : cX11_boughtIn.data.toList.drop 58 = sxX11_boughtIn_58 := dSn 3 shX11_boughtIn_55
theorem shX11_boughtIn_61 : cX11_boughtIn.data.toList.drop 61 = sxX11_boughtIn_61 := dSn 3 shX11_boughtIn_58
theorem shX11_boughtIn_62 : cX11_boughtIn.data.toList.drop 62 = sxX11_boughtIn_62 := dSn 1 shX11_boughtIn_61
theorem shX11_boughtIn_63 : cX11_boughtIn.data.toList.drop 63 = sxX11_boughtIn_63 := dSn 1 shX11_boughtIn_62
theorem shX11_boughtIn_64 : cX11_boughtIn.data.toList.drop 64 = sxX11_boughtIn_64 := dSn 1 shX11_boughtIn_63
theorem shX11_boughtIn_67 : cX11_boughtIn.data.toList.drop 67 = sxX11_boughtIn_67 := dSn 3 shX11_boughtIn_64
theorem shX11_boughtIn_70 : cX11_boughtIn.data.toList.drop 70 = sxX11_boughtIn_70 := dSn 3 shX11_boughtIn_67
theorem shX11_boughtIn_71 : cX11_boughtIn.data.toList.drop 71 = sxX11_boughtIn_71 := dSn 1 shX11_boughtIn_70
theorem dX11_boughtIn_0 : decode cX11_boughtIn 0 = .ok (.iconst 0, 1) := oc_3 shX11_boughtIn_0
theorem dX11_boughtIn_1 : decode cX11_boughtIn 1 = .ok (.istore_n 3, 1) := oc_62 shX11_boughtIn_1
theorem dX11_boughtIn_2 : decode cX11_boughtIn 2 = .ok (.iconst 0, 1) := oc_3 shX11_boughtIn_2
theorem dX11_boughtIn_3 : decode cX11_boughtIn 3 = .ok (.istore 4, 2) := oc_54 shX11_boughtIn_3
theorem dX11_boughtIn_5 : decode cX11_boughtIn 5 = .ok (.iload 4, 2) := oc_21 shX11_boughtIn_5
theorem dX11_boughtIn_7 : decode cX11_boughtIn 7 = .ok (.aload_n 0, 1) := oc_42 shX11_boughtIn_7
theorem dX11_boughtIn_8 : decode cX11_boughtIn 8 = .ok (.getfield 71, 3) := oc_180 shX11_boughtIn_8
theorem dX11_boughtIn_11 : decode cX11_boughtIn 11 = .ok (.invokevirtual 84, 3) := oc_182 shX11_boughtIn_11
theorem dX11_boughtIn_14 : decode cX11_boughtIn 14 = .ok (.if_icmp .ge 56, 3) := oc_162 shX11_boughtIn_14 sgw_0_56
theorem dX11_boughtIn_70 : decode cX11_boughtIn 70 = .ok (.iload_n 3, 1) := oc_29 shX11_boughtIn_70
theorem dX11_boughtIn_71 : decode cX11_boughtIn 71 = .ok (.ireturn, 1) := oc_172 shX11_boughtIn_71
theorem dX11_boughtIn_17 : decode cX11_boughtIn 17 = .ok (.aload_n 0, 1) := oc_42 shX11_boughtIn_17
theorem dX11_boughtIn_18 : decode cX11_boughtIn 18 = .ok (.getfield 71, 3) := oc_180 shX11_boughtIn_18
theorem dX11_boughtIn_21 : decode cX11_boughtIn 21 = .ok (.iload 4, 2) := oc_21 shX11_boughtIn_21
theorem dX11_boughtIn_23 : decode cX11_boughtIn 23 = .ok (.invokevirtual 87, 3) := oc_182 shX11_boughtIn_23
theorem dX11_boughtIn_26 : decode cX11_boughtIn 26 = .ok (.checkcast 97, 3) := oc_192 shX11_boughtIn_26
theorem dX11_boughtIn_29 : decode cX11_boughtIn 29 = .ok (.astore 5, 2) := oc_58 shX11_boughtIn_29
theorem dX11_boughtIn_31 : decode cX11_boughtIn 31 = .ok (.iload_n 3, 1) := oc_29 shX11_boughtIn_31
theorem dX11_boughtIn_32 : decode cX11_boughtIn 32 = .ok (.aload 5, 2) := oc_25 shX11_boughtIn_32
theorem dX11_boughtIn_34 : decode cX11_boughtIn 34 = .ok (.getfield 415, 3) := oc_180 shX11_boughtIn_34
theorem dX11_boughtIn_37 : decode cX11_boughtIn 37 = .ok (.iload_n 2, 1) := oc_28 shX11_boughtIn_37
theorem dX11_boughtIn_38 : decode cX11_boughtIn 38 = .ok (.if_icmp .ne 23, 3) := oc_160 shX11_boughtIn_38 sgw_0_23
theorem dX11_boughtIn_61 : decode cX11_boughtIn 61 = .ok (.iconst 0, 1) := oc_3 shX11_boughtIn_61
theorem dX11_boughtIn_62 : decode cX11_boughtIn 62 = .ok (.iadd, 1) := oc_96 shX11_boughtIn_62
theorem dX11_boughtIn_63 : decode cX11_boughtIn 63 = .ok (.istore_n 3, 1) := oc_62 shX11_boughtIn_63
theorem dX11_boughtIn_64 : decode cX11_boughtIn 64 = .ok (.iinc 4 1, 3) := oc_132 shX11_boughtIn_64 sgb_1
theorem dX11_boughtIn_67 : decode cX11_boughtIn 67 = .ok (.goto (-62), 3) := oc_167 shX11_boughtIn_67 sgw_255_194
theorem dX11_boughtIn_41 : decode cX11_boughtIn 41 = .ok (.aload 5, 2) := oc_25 shX11_boughtIn_41
theorem dX11_boughtIn_43 : decode cX11_boughtIn 43 = .ok (.getfield 434, 3) := oc_180 shX11_boughtIn_43
theorem dX11_boughtIn_46 : decode cX11_boughtIn 46 = .ok (.bipush 7, 2) := oc_16 shX11_boughtIn_46 sgb_7
theorem dX11_boughtIn_48 : decode cX11_boughtIn 48 = .ok (.idiv, 1) := oc_108 shX11_boughtIn_48
theorem dX11_boughtIn_49 : decode cX11_boughtIn 49 = .ok (.iload_n 1, 1) := oc_27 shX11_boughtIn_49
theorem dX11_boughtIn_50 : decode cX11_boughtIn 50 = .ok (.if_icmp .ne 11, 3) := oc_160 shX11_boughtIn_50 sgw_0_11
theorem dX11_boughtIn_53 : decode cX11_boughtIn 53 = .ok (.aload 5, 2) := oc_25 shX11_boughtIn_53
theorem dX11_boughtIn_55 : decode cX11_boughtIn 55 = .ok (.invokevirtual 432, 3) := oc_182 shX11_boughtIn_55
theorem dX11_boughtIn_58 : decode cX11_boughtIn 58 = .ok (.goto 4, 3) := oc_167 shX11_boughtIn_58 sgw_0_4
noncomputable def sxX11_overdrawn_60 : List UInt8 := []
noncomputable def sxX11_overdrawn_59 : List UInt8 := 172 :: sxX11_overdrawn_60
noncomputable def sxX11_overdrawn_58 : List UInt8 := 28 :: sxX11_overdrawn_59
noncomputable def sxX11_overdrawn_55 : List UInt8 := 167 :: 255 :: 217 :: sxX11_overdrawn_58
noncomputable def sxX11_overdrawn_52 : List UInt8 := 132 :: 3 :: 1 :: sxX11_overdrawn_55
noncomputable def sxX11_overdrawn_51 : List UInt8 := 61 :: sxX11_overdrawn_52
noncomputable def sxX11_overdrawn_50 : List UInt8 := 128 :: sxX11_overdrawn_51
noncomputable def sxX11_overdrawn_49 : List UInt8 := 3 :: sxX11_overdrawn_50
noncomputable def sxX11_overdrawn_46 : List UInt8 := 167 :: 0 :: 4 :: sxX11_overdrawn_49
noncomputable def sxX11_overdrawn_45 : List UInt8 := 120 :: sxX11_overdrawn_46
noncomputable def sxX11_overdrawn_44 : List UInt8 := 29 :: sxX11_overdrawn_45
noncomputable def sxX11_overdrawn_43 : List UInt8 := 4 :: sxX11_overdrawn_44
noncomputable def sxX11_overdrawn_40 : List UInt8 := 164 :: 0 :: 9 :: sxX11_overdrawn_43
noncomputable def sxX11_overdrawn_37 : List UInt8 := 184 :: 0 :: 192 :: sxX11_overdrawn_40
noncomputable def sxX11_overdrawn_36 : List UInt8 := 29 :: sxX11_overdrawn_37
noncomputable def sxX11_overdrawn_33 : List UInt8 := 180 :: 1 :: 179 :: sxX11_overdrawn_36
noncomputable def sxX11_overdrawn_30 : List UInt8 := 180 :: 0 :: 47 :: sxX11_overdrawn_33
noncomputable def sxX11_overdrawn_29 : List UInt8 := 42 :: sxX11_overdrawn_30
noncomputable def sxX11_overdrawn_26 : List UInt8 := 182 :: 1 :: 182 :: sxX11_overdrawn_29
noncomputable def sxX11_overdrawn_25 : List UInt8 := 29 :: sxX11_overdrawn_26
noncomputable def sxX11_overdrawn_24 : List UInt8 := 27 :: sxX11_overdrawn_25
noncomputable def sxX11_overdrawn_23 : List UInt8 := 42 :: sxX11_overdrawn_24
noncomputable def sxX11_overdrawn_22 : List UInt8 := 28 :: sxX11_overdrawn_23
noncomputable def sxX11_overdrawn_19 : List UInt8 := 162 :: 0 :: 39 :: sxX11_overdrawn_22
noncomputable def sxX11_overdrawn_17 : List UInt8 := 16 :: 10 :: sxX11_overdrawn_19
noncomputable def sxX11_overdrawn_16 : List UInt8 := 29 :: sxX11_overdrawn_17
noncomputable def sxX11_overdrawn_15 : List UInt8 := 62 :: sxX11_overdrawn_16
noncomputable def sxX11_overdrawn_14 : List UInt8 := 3 :: sxX11_overdrawn_15
noncomputable def sxX11_overdrawn_13 : List UInt8 := 61 :: sxX11_overdrawn_14
noncomputable def sxX11_overdrawn_12 : List UInt8 := 3 :: sxX11_overdrawn_13
noncomputable def sxX11_overdrawn_11 : List UInt8 := 172 :: sxX11_overdrawn_12
noncomputable def sxX11_overdrawn_10 : List UInt8 := 2 :: sxX11_overdrawn_11
noncomputable def sxX11_overdrawn_7 : List UInt8 := 154 :: 0 :: 5 :: sxX11_overdrawn_10
noncomputable def sxX11_overdrawn_4 : List UInt8 := 184 :: 0 :: 80 :: sxX11_overdrawn_7
noncomputable def sxX11_overdrawn_2 : List UInt8 := 16 :: 57 :: sxX11_overdrawn_4
noncomputable def sxX11_overdrawn_1 : List UInt8 := 3 :: sxX11_overdrawn_2
noncomputable def sxX11_overdrawn_0 : List UInt8 := 27 :: sxX11_overdrawn_1
theorem shX11_overdrawn_0 : cX11_overdrawn.data.toList.drop 0 = sxX11_overdrawn_0 := rfl
theorem shX11_overdrawn_1 : cX11_overdrawn.data.toList.drop 1 = sxX11_overdrawn_1 := dSn 1 shX11_overdrawn_0
theorem shX11_overdrawn_2 : cX11_overdrawn.data.toList.drop 2 = sxX11_overdrawn_2 := dSn 1 shX11_overdrawn_1
theorem shX11_overdrawn_4 : cX11_overdrawn.data.toList.drop 4 = sxX11_overdrawn_4 := dSn 2 shX11_overdrawn_2
theorem shX11_overdrawn_7 : cX11_overdrawn.data.toList.drop 7 = sxX11_overdrawn_7 := dSn 3 shX11_overdrawn_4
theorem shX11_overdrawn_10 : cX11_overdrawn.data.toList.drop 10 = sxX11_overdrawn_10 := dSn 3 shX11_overdrawn_7
theorem shX11_overdrawn_11 : cX11_overdrawn.data.toList.drop 11 = sxX11_overdrawn_11 := dSn 1 shX11_overdrawn_10
theorem shX11_overdrawn_12 : cX11_overdrawn.data.toList.drop 12 = sxX11_overdrawn_12 := dSn 1 shX11_overdrawn_11
theorem shX11_overdrawn_13 : cX11_overdrawn.data.toList.drop 13 = sxX11_overdrawn_13 := dSn 1 shX11_overdrawn_12
theorem shX11_overdrawn_14 : cX11_overdrawn.data.toList.drop 14 = sxX11_overdrawn_14 := dSn 1 shX11_overdrawn_13
theorem shX11_overdrawn_15 : cX11_overdrawn.data.toList.drop 15 = sxX11_overdrawn_15 := dSn 1 shX11_overdrawn_14
theorem shX11_overdrawn_16 : cX11_overdrawn.data.toList.drop 16 = sxX11_overdrawn_16 := dSn 1 shX11_overdrawn_15
theorem shX11_overdrawn_17 : cX11_overdrawn.data.toList.drop 17 = sxX11_overdrawn_17 := dSn 1 shX11_overdrawn_16
theorem shX11_overdrawn_19 : cX11_overdrawn.data.toList.drop 19 = sxX11_overdrawn_19 := dSn 2 shX11_overdrawn_17
theorem shX11_overdrawn_22 : cX11_overdrawn.data.toList.drop 22 = sxX11_overdrawn_22 := dSn 3 shX11_overdrawn_19
theorem shX11_overdrawn_23 : cX11_overdrawn.data.toList.drop 23 = sxX11_overdrawn_23 := dSn 1 shX11_overdrawn_22
theorem shX11_overdrawn_24 : cX11_overdrawn.data.toList.drop 24 = sxX11_overdrawn_24 := dSn 1 shX11_overdrawn_23
theorem shX11_overdrawn_25 : cX11_overdrawn.data.toList.drop 25 = sxX11_overdrawn_25 := dSn 1 shX11_overdrawn_24
theorem shX11_overdrawn_26 : cX11_overdrawn.data.toList.drop 26 = sxX11_overdrawn_26 := dSn 1 shX11_overdrawn_25
theorem shX11_overdrawn_29 : cX11_overdrawn.data.toList.drop 29 = sxX11_overdrawn_29 := dSn 3 shX11_overdrawn_26
theorem shX11_overdrawn_30 : cX11_overdrawn.data.toList.drop 30 = sxX11_overdrawn_30 := dSn 1 shX11_overdrawn_29
theorem shX11_overdrawn_33 : cX11_overdrawn.data.toList.drop 33 = sxX11_overdrawn_33 := dSn 3 shX11_overdrawn_30
theorem shX11_overdrawn_36 : cX11_overdrawn.data.toList.drop 36 = sxX11_overdrawn_36 := dSn 3 shX11_overdrawn_33
theorem shX11_overdrawn_37 : cX11_overdrawn.data.toList.drop 37 = sxX11_overdrawn_37 := dSn 1 shX11_overdrawn_36
theorem shX11_overdrawn_40 : cX11_overdrawn.data.toList.drop 40 = sxX11_overdrawn_40 := dSn 3 shX11_overdrawn_37
theorem shX11_overdrawn_43 : cX11_overdrawn.data.toList.drop 43 = sxX11_overdrawn_43 := dSn 3 shX11_overdrawn_40
theorem shX11_overdrawn_44 : cX11_overdrawn.data.toList.drop 44 = sxX11_overdrawn_44 := dSn 1 shX11_overdrawn_43
theorem shX11_overdrawn_45 : cX11_overdrawn.data.toList.drop 45 = sxX11_overdrawn_45 := dSn 1 shX11_overdrawn_44
theorem shX11_overdrawn_46 : cX11_overdrawn.data.toList.drop 46 = sxX11_overdrawn_46 := dSn 1 shX11_overdrawn_45
theorem shX11_overdrawn_49 : cX11_overdrawn.data.toList.drop 49 = sxX11_overdrawn_49 := dSn 3 shX11_overdrawn_46
theorem shX11_overdrawn_50 : cX11_overdrawn.data.toList.drop 50 = sxX11_overdrawn_50 := dSn 1 shX11_overdrawn_49
theorem shX11_overdrawn_51 : cX11_overdrawn.data.toList.drop 51 = sxX11_overdrawn_51 := dSn 1 shX11_overdrawn_50
theorem shX11_overdrawn_52 : cX11_overdrawn.data.toList.drop 52 = sxX11_overdrawn_52 := dSn 1 shX11_overdrawn_51
theorem shX11_overdrawn_55 : cX11_overdrawn.data.toList.drop 55 = sxX11_overdrawn_55 := dSn 3 shX11_overdrawn_52
theorem shX11_overdrawn_58 : cX11_overdrawn.data.toList.drop 58 = sxX11_overdrawn_58 := dSn 3 shX11_overdrawn_55
theorem shX11_overdrawn_59 : cX11_overdrawn.data.toList.drop 59 = sxX11_overdrawn_59 := dSn 1 shX11_overdrawn_58
theorem dX11_overdrawn_0 : decode cX11_overdrawn 0 = .ok (.iload_n 1, 1) := oc_27 shX11_overdrawn_0
theorem dX11_overdrawn_1 : decode cX11_overdrawn 1 = .ok (.iconst 0, 1) := oc_3 shX11_overdrawn_1
theorem dX11_overdrawn_2 : decode cX11_overdrawn 2 = .ok (.bipush 57, 2) := oc_16 shX11_overdrawn_2 sgb_57
theorem dX11_overdrawn_4 : decode cX11_overdrawn 4 = .ok (.invokestatic 80, 3) := oc_184 shX11_overdrawn_4
theorem dX11_overdrawn_7 : decode cX11_overdrawn 7 = .ok (.ifCond .ne 5, 3) := oc_154 shX11_overdrawn_7 sgw_0_5
theorem dX11_overdrawn_12 : decode cX11_overdrawn 12 = .ok (.iconst 0, 1) := oc_3 shX11_overdrawn_12
theorem dX11_overdrawn_13 : decode cX11_overdrawn 13 = .ok (.istore_n 2, 1) := oc_61 shX11_overdrawn_13
theorem dX11_overdrawn_14 : decode cX11_overdrawn 14 = .ok (.iconst 0, 1) := oc_3 shX11_overdrawn_14
theorem dX11_overdrawn_15 : decode cX11_overdrawn 15 = .ok (.istore_n 3, 1) := oc_62 shX11_overdrawn_15
theorem dX11_overdrawn_16 : decode cX11_overdrawn 16 = .ok (.iload_n 3, 1) := oc_29 shX11_overdrawn_16
theorem dX11_overdrawn_17 : decode cX11_overdrawn 17 = .ok (.bipush 10, 2) := oc_16 shX11_overdrawn_17 sgb_10
theorem dX11_overdrawn_19 : decode cX11_overdrawn 19 = .ok (.if_icmp .ge 39, 3) := oc_162 shX11_overdrawn_19 sgw_0_39
theorem dX11_overdrawn_58 : decode cX11_overdrawn 58 = .ok (.iload_n 2, 1) := oc_28 shX11_overdrawn_58
theorem dX11_overdrawn_59 : decode cX11_overdrawn 59 = .ok (.ireturn, 1) := oc_172 shX11_overdrawn_59
theorem dX11_overdrawn_22 : decode cX11_overdrawn 22 = .ok (.iload_n 2, 1) := oc_28 shX11_overdrawn_22
theorem dX11_overdrawn_23 : decode cX11_overdrawn 23 = .ok (.aload_n 0, 1) := oc_42 shX11_overdrawn_23
theorem dX11_overdrawn_24 : decode cX11_overdrawn 24 = .ok (.iload_n 1, 1) := oc_27 shX11_overdrawn_24
theorem dX11_overdrawn_25 : decode cX11_overdrawn 25 = .ok (.iload_n 3, 1) := oc_29 shX11_overdrawn_25
theorem dX11_overdrawn_26 : decode cX11_overdrawn 26 = .ok (.invokevirtual 438, 3) := oc_182 shX11_overdrawn_26
theorem dX11_overdrawn_29 : decode cX11_overdrawn 29 = .ok (.aload_n 0, 1) := oc_42 shX11_overdrawn_29
theorem dX11_overdrawn_30 : decode cX11_overdrawn 30 = .ok (.getfield 47, 3) := oc_180 shX11_overdrawn_30
theorem dX11_overdrawn_33 : decode cX11_overdrawn 33 = .ok (.getfield 435, 3) := oc_180 shX11_overdrawn_33
theorem dX11_overdrawn_36 : decode cX11_overdrawn 36 = .ok (.iload_n 3, 1) := oc_29 shX11_overdrawn_36
theorem dX11_overdrawn_37 : decode cX11_overdrawn 37 = .ok (.invokestatic 192, 3) := oc_184 shX11_overdrawn_37
theorem dX11_overdrawn_40 : decode cX11_overdrawn 40 = .ok (.if_icmp .le 9, 3) := oc_164 shX11_overdrawn_40 sgw_0_9
theorem dX11_overdrawn_49 : decode cX11_overdrawn 49 = .ok (.iconst 0, 1) := oc_3 shX11_overdrawn_49
theorem dX11_overdrawn_50 : decode cX11_overdrawn 50 = .ok (.ior, 1) := oc_128 shX11_overdrawn_50
theorem dX11_overdrawn_51 : decode cX11_overdrawn 51 = .ok (.istore_n 2, 1) := oc_61 shX11_overdrawn_51
theorem dX11_overdrawn_52 : decode cX11_overdrawn 52 = .ok (.iinc 3 1, 3) := oc_132 shX11_overdrawn_52 sgb_1
theorem dX11_overdrawn_55 : decode cX11_overdrawn 55 = .ok (.goto (-39), 3) := oc_167 shX11_overdrawn_55 sgw_255_217
theorem dX11_overdrawn_43 : decode cX11_overdrawn 43 = .ok (.iconst 1, 1) := oc_4 shX11_overdrawn_43
theorem dX11_overdrawn_44 : decode cX11_overdrawn 44 = .ok (.iload_n 3, 1) := oc_29 shX11_overdrawn_44
theorem dX11_overdrawn_45 : decode cX11_overdrawn 45 = .ok (.ishl, 1) := oc_120 shX11_overdrawn_45
theorem dX11_overdrawn_46 : decode cX11_overdrawn 46 = .ok (.goto 4, 3) := oc_167 shX11_overdrawn_46 sgw_0_4
theorem dX11_overdrawn_10 : decode cX11_overdrawn 10 = .ok (.iconst (-1), 1) := oc_2 shX11_overdrawn_10
theorem dX11_overdrawn_11 : decode cX11_overdrawn 11 = .ok (.ireturn, 1) := oc_172 shX11_overdrawn_11
noncomputable def sxX11_blocked_44 : List UInt8 := []
noncomputable def sxX11_blocked_43 : List UInt8 := 172 :: sxX11_blocked_44
noncomputable def sxX11_blocked_40 : List UInt8 := 180 :: 1 :: 221 :: sxX11_blocked_43
noncomputable def sxX11_blocked_39 : List UInt8 := 44 :: sxX11_blocked_40
noncomputable def sxX11_blocked_36 : List UInt8 := 181 :: 1 :: 221 :: sxX11_blocked_39
noncomputable def sxX11_blocked_35 : List UInt8 := 96 :: sxX11_blocked_36
noncomputable def sxX11_blocked_34 : List UInt8 := 4 :: sxX11_blocked_35
noncomputable def sxX11_blocked_31 : List UInt8 := 180 :: 1 :: 221 :: sxX11_blocked_34
noncomputable def sxX11_blocked_30 : List UInt8 := 89 :: sxX11_blocked_31
noncomputable def sxX11_blocked_29 : List UInt8 := 44 :: sxX11_blocked_30
noncomputable def sxX11_blocked_28 : List UInt8 := 77 :: sxX11_blocked_29
noncomputable def sxX11_blocked_25 : List UInt8 := 192 :: 1 :: 217 :: sxX11_blocked_28
noncomputable def sxX11_blocked_22 : List UInt8 := 182 :: 0 :: 87 :: sxX11_blocked_25
noncomputable def sxX11_blocked_21 : List UInt8 := 27 :: sxX11_blocked_22
noncomputable def sxX11_blocked_18 : List UInt8 := 180 :: 0 :: 74 :: sxX11_blocked_21
noncomputable def sxX11_blocked_17 : List UInt8 := 42 :: sxX11_blocked_18
noncomputable def sxX11_blocked_16 : List UInt8 := 172 :: sxX11_blocked_17
noncomputable def sxX11_blocked_15 : List UInt8 := 2 :: sxX11_blocked_16
noncomputable def sxX11_blocked_12 : List UInt8 := 161 :: 0 :: 5 :: sxX11_blocked_15
noncomputable def sxX11_blocked_9 : List UInt8 := 182 :: 0 :: 84 :: sxX11_blocked_12
noncomputable def sxX11_blocked_6 : List UInt8 := 180 :: 0 :: 74 :: sxX11_blocked_9
noncomputable def sxX11_blocked_5 : List UInt8 := 42 :: sxX11_blocked_6
noncomputable def sxX11_blocked_4 : List UInt8 := 27 :: sxX11_blocked_5
noncomputable def sxX11_blocked_1 : List UInt8 := 155 :: 0 :: 14 :: sxX11_blocked_4
noncomputable def sxX11_blocked_0 : List UInt8 := 27 :: sxX11_blocked_1
theorem shX11_blocked_0 : cX11_blocked.data.toList.drop 0 = sxX11_blocked_0 := rfl
theorem shX11_blocked_1 : cX11_blocked.data.toList.drop 1 = sxX11_blocked_1 := dSn 1 shX11_blocked_0
theorem shX11_blocked_4 : cX11_blocked.data.toList.drop 4 = sxX11_blocked_4 := dSn 3 shX11_blocked_1
theorem shX11_blocked_5 : cX11_blocked.data.toList.drop 5 = sxX11_blocked_5 := dSn 1 shX11_blocked_4
theorem shX11_blocked_6 : cX11_blocked.data.toList.drop 6 = sxX11_blocked_6 := dSn 1 shX11_blocked_5
theorem shX11_blocked_9 : cX11_blocked.data.toList.drop 9 = sxX11_blocked_9 := dSn 3 shX11_blocked_6
theorem shX11_blocked_12 : cX11_blocked.data.toList.drop 12 = sxX11_blocked_12 := dSn 3 shX11_blocked_9
theorem shX11_blocked_15 : cX11_blocked.data.toList.drop 15 = sxX11_blocked_15 := dSn 3 shX11_blocked_12
theorem shX11_blocked_16 : cX11_blocked.data.toList.drop 16 = sxX11_blocked_16 := dSn 1 shX11_blocked_15
theorem shX11_blocked_17 : cX11_blocked.data.toList.drop 17 = sxX11_blocked_17 := dSn 1 shX11_blocked_16
theorem shX11_blocked_18 : cX11_blocked.data.toList.drop 18 = sxX11_blocked_18 := dSn 1 shX11_blocked_17
theorem shX11_blocked_21 : cX11_blocked.data.toList.drop 21 = sxX11_blocked_21 := dSn 3 shX11_blocked_18
theorem shX11_blocked_22 : cX11_blocked.data.toList.drop 22 = sxX11_blocked_22 := dSn 1 shX11_blocked_21
theorem shX11_blocked_25 : cX11_blocked.data.toList.drop 25 = sxX11_blocked_25 := dSn 3 shX11_blocked_22
theorem shX11_blocked_28 : cX11_blocked.data.toList.drop 28 = sxX11_blocked_28 := dSn 3 shX11_blocked_25
theorem shX11_blocked_29 : cX11_blocked.data.toList.drop 29 = sxX11_blocked_29 := dSn 1 shX11_blocked_28
theorem shX11_blocked_30 : cX11_blocked.data.toList.drop 30 = sxX11_blocked_30 := dSn 1 shX11_blocked_29
theorem shX11_blocked_31 : cX11_blocked.data.toList.drop 31 = sxX11_blocked_31 := dSn 1 shX11_blocked_30
theorem shX11_blocked_34 : cX11_blocked.data.toList.drop 34 = sxX11_blocked_34 := dSn 3 shX11_blocked_31
theorem shX11_blocked_35 : cX11_blocked.data.toList.drop 35 = sxX11_blocked_35 := dSn 1 shX11_blocked_34
theorem shX11_blocked_36 : cX11_blocked.data.toList.drop 36 = sxX11_blocked_36 := dSn 1 shX11_blocked_35
theorem shX11_blocked_39 : cX11_blocked.data.toList.drop 39 = sxX11_blocked_39 := dSn 3 shX11_blocked_36
theorem shX11_blocked_40 : cX11_blocked.data.toList.drop 40 = sxX11_blocked_40 := dSn 1 shX11_blocked_39
theorem shX11_blocked_43 : cX11_blocked.data.toList.drop 43 = sxX11_blocked_43 := dSn 3 shX11_blocked_40
theorem dX11_blocked_0 : decode cX11_blocked 0 = .ok (.iload_n 1, 1) := oc_27 shX11_blocked_0
theorem dX11_blocked_1 : decode cX11_blocked 1 = .ok (.ifCond .lt 14, 3) := oc_155 shX11_blocked_1 sgw_0_14
theorem dX11_blocked_15 : decode cX11_blocked 15 = .ok (.iconst (-1), 1) := oc_2 shX11_blocked_15
theorem dX11_blocked_16 : decode cX11_blocked 16 = .ok (.ireturn, 1) := oc_172 shX11_blocked_16
theorem dX11_blocked_4 : decode cX11_blocked 4 = .ok (.iload_n 1, 1) := oc_27 shX11_blocked_4
theorem dX11_blocked_5 : decode cX11_blocked 5 = .ok (.aload_n 0, 1) := oc_42 shX11_blocked_5
theorem dX11_blocked_6 : decode cX11_blocked 6 = .ok (.getfield 74, 3) := oc_180 shX11_blocked_6
theorem dX11_blocked_9 : decode cX11_blocked 9 = .ok (.invokevirtual 84, 3) := oc_182 shX11_blocked_9
theorem dX11_blocked_12 : decode cX11_blocked 12 = .ok (.if_icmp .lt 5, 3) := oc_161 shX11_blocked_12 sgw_0_5
theorem dX11_blocked_17 : decode cX11_blocked 17 = .ok (.aload_n 0, 1) := oc_42 shX11_blocked_17
theorem dX11_blocked_18 : decode cX11_blocked 18 = .ok (.getfield 74, 3) := oc_180 shX11_blocked_18
theorem dX11_blocked_21 : decode cX11_blocked 21 = .ok (.iload_n 1, 1) := oc_27 shX11_blocked_21
theorem dX11_blocked_22 : decode cX11_blocked 22 = .ok (.invokevirtual 87, 3) := oc_182 shX11_blocked_22
theorem dX11_blocked_25 : decode cX11_blocked 25 = .ok (.checkcast 473, 3) := oc_192 shX11_blocked_25
theorem dX11_blocked_28 : decode cX11_blocked 28 = .ok (.astore_n 2, 1) := oc_77 shX11_blocked_28
theorem dX11_blocked_29 : decode cX11_blocked 29 = .ok (.aload_n 2, 1) := oc_44 shX11_blocked_29
theorem dX11_blocked_30 : decode cX11_blocked 30 = .ok (.dup, 1) := oc_89 shX11_blocked_30
theorem dX11_blocked_31 : decode cX11_blocked 31 = .ok (.getfield 477, 3) := oc_180 shX11_blocked_31
theorem dX11_blocked_34 : decode cX11_blocked 34 = .ok (.iconst 1, 1) := oc_4 shX11_blocked_34
theorem dX11_blocked_35 : decode cX11_blocked 35 = .ok (.iadd, 1) := oc_96 shX11_blocked_35
theorem dX11_blocked_36 : decode cX11_blocked 36 = .ok (.putfield 477, 3) := oc_181 shX11_blocked_36
theorem dX11_blocked_39 : decode cX11_blocked 39 = .ok (.aload_n 2, 1) := oc_44 shX11_blocked_39
theorem dX11_blocked_40 : decode cX11_blocked 40 = .ok (.getfield 477, 3) := oc_180 shX11_blocked_40
theorem dX11_blocked_43 : decode cX11_blocked 43 = .ok (.ireturn, 1) := oc_172 shX11_blocked_43
noncomputable def sxX11_wrongPart_75 : List UInt8 := []
noncomputable def sxX11_wrongPart_74 : List UInt8 := 172 :: sxX11_wrongPart_75
noncomputable def sxX11_wrongPart_73 : List UInt8 := 2 :: sxX11_wrongPart_74
noncomputable def sxX11_wrongPart_70 : List UInt8 := 167 :: 0 :: 4 :: sxX11_wrongPart_73
noncomputable def sxX11_wrongPart_69 : List UInt8 := 6 :: sxX11_wrongPart_70
noncomputable def sxX11_wrongPart_66 : List UInt8 := 159 :: 0 :: 7 :: sxX11_wrongPart_69
noncomputable def sxX11_wrongPart_63 : List UInt8 := 180 :: 0 :: 141 :: sxX11_wrongPart_66
noncomputable def sxX11_wrongPart_62 : List UInt8 := 43 :: sxX11_wrongPart_63
noncomputable def sxX11_wrongPart_59 : List UInt8 := 182 :: 2 :: 18 :: sxX11_wrongPart_62
noncomputable def sxX11_wrongPart_58 : List UInt8 := 96 :: sxX11_wrongPart_59
noncomputable def sxX11_wrongPart_57 : List UInt8 := 6 :: sxX11_wrongPart_58
noncomputable def sxX11_wrongPart_56 : List UInt8 := 29 :: sxX11_wrongPart_57
noncomputable def sxX11_wrongPart_53 : List UInt8 := 180 :: 0 :: 21 :: sxX11_wrongPart_56
noncomputable def sxX11_wrongPart_52 : List UInt8 := 42 :: sxX11_wrongPart_53
noncomputable def sxX11_wrongPart_51 : List UInt8 := 172 :: sxX11_wrongPart_52
noncomputable def sxX11_wrongPart_50 : List UInt8 := 5 :: sxX11_wrongPart_51
noncomputable def sxX11_wrongPart_47 : List UInt8 := 159 :: 0 :: 5 :: sxX11_wrongPart_50
noncomputable def sxX11_wrongPart_44 : List UInt8 := 180 :: 0 :: 202 :: sxX11_wrongPart_47
noncomputable def sxX11_wrongPart_43 : List UInt8 := 43 :: sxX11_wrongPart_44
noncomputable def sxX11_wrongPart_40 : List UInt8 := 182 :: 2 :: 18 :: sxX11_wrongPart_43
noncomputable def sxX11_wrongPart_39 : List UInt8 := 96 :: sxX11_wrongPart_40
noncomputable def sxX11_wrongPart_38 : List UInt8 := 5 :: sxX11_wrongPart_39
noncomputable def sxX11_wrongPart_37 : List UInt8 := 29 :: sxX11_wrongPart_38
noncomputable def sxX11_wrongPart_34 : List UInt8 := 180 :: 0 :: 21 :: sxX11_wrongPart_37
noncomputable def sxX11_wrongPart_33 : List UInt8 := 42 :: sxX11_wrongPart_34
noncomputable def sxX11_wrongPart_32 : List UInt8 := 172 :: sxX11_wrongPart_33
noncomputable def sxX11_wrongPart_31 : List UInt8 := 4 :: sxX11_wrongPart_32
noncomputable def sxX11_wrongPart_28 : List UInt8 := 159 :: 0 :: 5 :: sxX11_wrongPart_31
noncomputable def sxX11_wrongPart_25 : List UInt8 := 180 :: 0 :: 196 :: sxX11_wrongPart_28
noncomputable def sxX11_wrongPart_24 : List UInt8 := 43 :: sxX11_wrongPart_25
noncomputable def sxX11_wrongPart_21 : List UInt8 := 182 :: 2 :: 18 :: sxX11_wrongPart_24
noncomputable def sxX11_wrongPart_20 : List UInt8 := 96 :: sxX11_wrongPart_21
noncomputable def sxX11_wrongPart_19 : List UInt8 := 4 :: sxX11_wrongPart_20
noncomputable def sxX11_wrongPart_18 : List UInt8 := 29 :: sxX11_wrongPart_19
noncomputable def sxX11_wrongPart_15 : List UInt8 := 180 :: 0 :: 21 :: sxX11_wrongPart_18
noncomputable def sxX11_wrongPart_14 : List UInt8 := 42 :: sxX11_wrongPart_15
noncomputable def sxX11_wrongPart_13 : List UInt8 := 172 :: sxX11_wrongPart_14
noncomputable def sxX11_wrongPart_12 : List UInt8 := 3 :: sxX11_wrongPart_13
noncomputable def sxX11_wrongPart_9 : List UInt8 := 159 :: 0 :: 5 :: sxX11_wrongPart_12
noncomputable def sxX11_wrongPart_8 : List UInt8 := 28 :: sxX11_wrongPart_9
noncomputable def sxX11_wrongPart_5 : List UInt8 := 182 :: 2 :: 18 :: sxX11_wrongPart_8
noncomputable def sxX11_wrongPart_4 : List UInt8 := 29 :: sxX11_wrongPart_5
noncomputable def sxX11_wrongPart_1 : List UInt8 := 180 :: 0 :: 21 :: sxX11_wrongPart_4
noncomputable def sxX11_wrongPart_0 : List UInt8 := 42 :: sxX11_wrongPart_1
theorem shX11_wrongPart_0 : cX11_wrongPart.data.toList.drop 0 = sxX11_wrongPart_0 := rfl
theorem shX11_wrongPart_1 : cX11_wrongPart.data.toList.drop 1 = sxX11_wrongPart_1 := dSn 1 shX11_wrongPart_0
theorem shX11_wrongPart_4 : cX11_wrongPart.data.toList.drop 4 = sxX11_wrongPart_4 := dSn 3 shX11_wrongPart_1
theorem shX11_wrongPart_5 : cX11_wrongPart.data.toList.drop 5 = sxX11_wrongPart_5 := dSn 1 shX11_wrongPart_4
theorem shX11_wrongPart_8 : cX11_wrongPart.data.toList.drop 8 = sxX11_wrongPart_8 := dSn 3 shX11_wrongPart_5
theorem shX11_wrongPart_9 : cX11_wrongPart.data.toList.drop 9 = sxX11_wrongPart_9 := dSn 1 shX11_wrongPart_8
theorem shX11_wrongPart_12 : cX11_wrongPart.data.toList.drop 12 = sxX11_wrongPart_12 := dSn 3 shX11_wrongPart_9
theorem shX11_wrongPart_13 : cX11_wrongPart.data.toList.drop 13 = sxX11_wrongPart_13 := dSn 1 shX11_wrongPart_12
theorem shX11_wrongPart_14 : cX11_wrongPart.data.toList.drop 14 = sxX11_wrongPart_14 := dSn 1 shX11_wrongPart_13
theorem shX11_wrongPart_15 : cX11_wrongPart.data.toList.drop 15 = sxX11_wrongPart_15 := dSn 1 shX11_wrongPart_14
theorem shX11_wrongPart_18 : cX11_wrongPart.data.toList.drop 18 = sxX11_wrongPart_18 := dSn 3 shX11_wrongPart_15
theorem shX11_wrongPart_19 : cX11_wrongPart.data.toList.drop 19 = sxX11_wrongPart_19 := dSn 1 shX11_wrongPart_18
theorem shX11_wrongPart_20 : cX11_wrongPart.data.toList.drop 20 = sxX11_wrongPart_20 := dSn 1 shX11_wrongPart_19
theorem shX11_wrongPart_21 : cX11_wrongPart.data.toList.drop 21 = sxX11_wrongPart_21 := dSn 1 shX11_wrongPart_20
theorem shX11_wrongPart_24 : cX11_wrongPart.data.toList.drop 24 = sxX11_wrongPart_24 := dSn 3 shX11_wrongPart_21
theorem shX11_wrongPart_25 : cX11_wrongPart.data.toList.drop 25 = sxX11_wrongPart_25 := dSn 1 shX11_wrongPart_24
theorem shX11_wrongPart_28 : cX11_wrongPart.data.toList.drop 28 = sxX11_wrongPart_28 := dSn 3 shX11_wrongPart_25
theorem shX11_wrongPart_31 : cX11_wrongPart.data.toList.drop 31 = sxX11_wrongPart_31 := dSn 3 shX11_wrongPart_28
theorem shX11_wrongPart_32 : cX11_wrongPart.data.toList.drop 32 = sxX11_wrongPart_32 := dSn 1 shX11_wrongPart_31
theorem shX11_wrongPart_33 : cX11_wrongPart.data.toList.drop 33 = sxX11_wrongPart_33 := dSn 1 shX11_wrongPart_32
theorem shX11_wrongPart_34 : cX11_wrongPart.data.toList.drop 34 = sxX11_wrongPart_34 := dSn 1 shX11_wrongPart_33
theorem shX11_wrongPart_37 : cX11_wrongPart.data.toList.drop 37 = sxX11_wrongPart_37 := dSn 3 shX11_wrongPart_34
theorem shX11_wrongPart_38 : cX11_wrongPart.data.toList.drop 38 = sxX11_wrongPart_38 := dSn 1 shX11_wrongPart_37
theorem shX11_wrongPart_39 : cX11_wrongPart.data.toList.drop 39 = sxX11_wrongPart_39 := dSn 1 shX11_wrongPart_38
theorem shX11_wrongPart_40 : cX11_wrongPart.data.toList.drop 40 = sxX11_wrongPart_40 := dSn 1 shX11_wrongPart_39
theorem shX11_wrongPart_43 : cX11_wrongPart.data.toList.drop 43 = sxX11_wrongPart_43 := dSn 3 shX11_wrongPart_40
theorem shX11_wrongPart_44 : cX11_wrongPart.data.toList.drop 44 = sxX11_wrongPart_44 := dSn 1 shX11_wrongPart_43
theorem shX11_wrongPart_47 : cX11_wrongPart.data.toList.drop 47 = sxX11_wrongPart_47 := dSn 3 shX11_wrongPart_44
theorem shX11_wrongPart_50 : cX11_wrongPart.data.toList.drop 50 = sxX11_wrongPart_50 := dSn 3 shX11_wrongPart_47
theorem shX11_wrongPart_51 : cX11_wrongPart.data.toList.drop 51 = sxX11_wrongPart_51 := dSn 1 shX11_wrongPart_50
theorem shX11_wrongPart_52 : cX11_wrongPart.data.toList.drop 52 = sxX11_wrongPart_52 := dSn 1 shX11_wrongPart_51
theorem shX11_wrongPart_53 : cX11_wrongPart.data.toList.drop 53 = sxX11_wrongPart_53 := dSn 1 shX11_wrongPart_52
theorem shX11_wrongPart_56 : cX11_wrongPart.data.toList.drop 56 = sxX11_wrongPart_56 := dSn 3 shX11_wrongPart_53
theorem shX11_wrongPart_57 : cX11_wrongPart.data.toList.drop 57 = sxX11_wrongPart_57 := dSn 1 shX11_wrongPart_56
theorem shX11_wrongPart_58 : cX11_wrongPart.data.toList.drop 58 = sxX11_wrongPart_58 := dSn 1 shX11_wrongPart_57
theorem shX11_wrongPart_59 : cX11_wrongPart.data.toList.drop 59 = sxX11_wrongPart_59 := dSn 1 shX11_wrongPart_58
theorem shX11_wrongPart_62 : cX11_wrongPart.data.toList.drop 62 = sxX11_wrongPart_62 := dSn 3 shX11_wrongPart_59
theorem shX11_wrongPart_63 : cX11_wrongPart.data.toList.drop 63 = sxX11_wrongPart_63 := dSn 1 shX11_wrongPart_62
theorem shX11_wrongPart_66 : cX11_wrongPart.data.toList.drop 66 = sxX11_wrongPart_66 := dSn 3 shX11_wrongPart_63
theorem shX11_wrongPart_69 : cX11_wrongPart.data.toList.drop 69 = sxX11_wrongPart_69 := dSn 3 shX11_wrongPart_66
theorem shX11_wrongPart_70 : cX11_wrongPart.data.toList.drop 70 = sxX11_wrongPart_70 := dSn 1 shX11_wrongPart_69
theorem shX11_wrongPart_73 : cX11_wrongPart.data.toList.drop 73 = sxX11_wrongPart_73 := dSn 3 shX11_wrongPart_70
theorem shX11_wrongPart_74 : cX11_wrongPart.data.toList.drop 74 = sxX11_wrongPart_74 := dSn 1 shX11_wrongPart_73
theorem dX11_wrongPart_0 : decode cX11_wrongPart 0 = .ok (.aload_n 0, 1) := oc_42 shX11_wrongPart_0
theorem dX11_wrongPart_1 : decode cX11_wrongPart 1 = .ok (.getfield 21, 3) := oc_180 shX11_wrongPart_1
theorem dX11_wrongPart_4 : decode cX11_wrongPart 4 = .ok (.iload_n 3, 1) := oc_29 shX11_wrongPart_4
theorem dX11_wrongPart_5 : decode cX11_wrongPart 5 = .ok (.invokevirtual 530, 3) := oc_182 shX11_wrongPart_5
theorem dX11_wrongPart_8 : decode cX11_wrongPart 8 = .ok (.iload_n 2, 1) := oc_28 shX11_wrongPart_8
theorem dX11_wrongPart_9 : decode cX11_wrongPart 9 = .ok (.if_icmp .eq 5, 3) := oc_159 shX11_wrongPart_9 sgw_0_5
theorem dX11_wrongPart_14 : decode cX11_wrongPart 14 = .ok (.aload_n 0, 1) := oc_42 shX11_wrongPart_14
theorem dX11_wrongPart_15 : decode cX11_wrongPart 15 = .ok (.getfield 21, 3) := oc_180 shX11_wrongPart_15
theorem dX11_wrongPart_18 : decode cX11_wrongPart 18 = .ok (.iload_n 3, 1) := oc_29 shX11_wrongPart_18
theorem dX11_wrongPart_19 : decode cX11_wrongPart 19 = .ok (.iconst 1, 1) := oc_4 shX11_wrongPart_19
theorem dX11_wrongPart_20 : decode cX11_wrongPart 20 = .ok (.iadd, 1) := oc_96 shX11_wrongPart_20
theorem dX11_wrongPart_21 : decode cX11_wrongPart 21 = .ok (.invokevirtual 530, 3) := oc_182 shX11_wrongPart_21
theorem dX11_wrongPart_24 : decode cX11_wrongPart 24 = .ok (.aload_n 1, 1) := oc_43 shX11_wrongPart_24
theorem dX11_wrongPart_25 : decode cX11_wrongPart 25 = .ok (.getfield 196, 3) := oc_180 shX11_wrongPart_25
theorem dX11_wrongPart_28 : decode cX11_wrongPart 28 = .ok (.if_icmp .eq 5, 3) := oc_159 shX11_wrongPart_28 sgw_0_5
theorem dX11_wrongPart_33 : decode cX11_wrongPart 33 = .ok (.aload_n 0, 1) := oc_42 shX11_wrongPart_33
theorem dX11_wrongPart_34 : decode cX11_wrongPart 34 = .ok (.getfield 21, 3) := oc_180 shX11_wrongPart_34
theorem dX11_wrongPart_37 : decode cX11_wrongPart 37 = .ok (.iload_n 3, 1) := oc_29 shX11_wrongPart_37
theorem dX11_wrongPart_38 : decode cX11_wrongPart 38 = .ok (.iconst 2, 1) := oc_5 shX11_wrongPart_38
theorem dX11_wrongPart_39 : decode cX11_wrongPart 39 = .ok (.iadd, 1) := oc_96 shX11_wrongPart_39
theorem dX11_wrongPart_40 : decode cX11_wrongPart 40 = .ok (.invokevirtual 530, 3) := oc_182 shX11_wrongPart_40
theorem dX11_wrongPart_43 : decode cX11_wrongPart 43 = .ok (.aload_n 1, 1) := oc_43 shX11_wrongPart_43
theorem dX11_wrongPart_44 : decode cX11_wrongPart 44 = .ok (.getfield 202, 3) := oc_180 shX11_wrongPart_44
theorem dX11_wrongPart_47 : decode cX11_wrongPart 47 = .ok (.if_icmp .eq 5, 3) := oc_159 shX11_wrongPart_47 sgw_0_5
theorem dX11_wrongPart_52 : decode cX11_wrongPart 52 = .ok (.aload_n 0, 1) := oc_42 shX11_wrongPart_52
theorem dX11_wrongPart_53 : decode cX11_wrongPart 53 = .ok (.getfield 21, 3) := oc_180 shX11_wrongPart_53
theorem dX11_wrongPart_56 : decode cX11_wrongPart 56 = .ok (.iload_n 3, 1) := oc_29 shX11_wrongPart_56
theorem dX11_wrongPart_57 : decode cX11_wrongPart 57 = .ok (.iconst 3, 1) := oc_6 shX11_wrongPart_57
theorem dX11_wrongPart_58 : decode cX11_wrongPart 58 = .ok (.iadd, 1) := oc_96 shX11_wrongPart_58
theorem dX11_wrongPart_59 : decode cX11_wrongPart 59 = .ok (.invokevirtual 530, 3) := oc_182 shX11_wrongPart_59
theorem dX11_wrongPart_62 : decode cX11_wrongPart 62 = .ok (.aload_n 1, 1) := oc_43 shX11_wrongPart_62
theorem dX11_wrongPart_63 : decode cX11_wrongPart 63 = .ok (.getfield 141, 3) := oc_180 shX11_wrongPart_63
theorem dX11_wrongPart_66 : decode cX11_wrongPart 66 = .ok (.if_icmp .eq 7, 3) := oc_159 shX11_wrongPart_66 sgw_0_7
theorem dX11_wrongPart_73 : decode cX11_wrongPart 73 = .ok (.iconst (-1), 1) := oc_2 shX11_wrongPart_73
theorem dX11_wrongPart_74 : decode cX11_wrongPart 74 = .ok (.ireturn, 1) := oc_172 shX11_wrongPart_74
theorem dX11_wrongPart_69 : decode cX11_wrongPart 69 = .ok (.iconst 3, 1) := oc_6 shX11_wrongPart_69
theorem dX11_wrongPart_70 : decode cX11_wrongPart 70 = .ok (.goto 4, 3) := oc_167 shX11_wrongPart_70 sgw_0_4
theorem dX11_wrongPart_50 : decode cX11_wrongPart 50 = .ok (.iconst 2, 1) := oc_5 shX11_wrongPart_50
theorem dX11_wrongPart_51 : decode cX11_wrongPart 51 = .ok (.ireturn, 1) := oc_172 shX11_wrongPart_51
theorem dX11_wrongPart_31 : decode cX11_wrongPart 31 = .ok (.iconst 1, 1) := oc_4 shX11_wrongPart_31
theorem dX11_wrongPart_32 : decode cX11_wrongPart 32 = .ok (.ireturn, 1) := oc_172 shX11_wrongPart_32
theorem dX11_wrongPart_12 : decode cX11_wrongPart 12 = .ok (.iconst 0, 1) := oc_3 shX11_wrongPart_12
theorem dX11_wrongPart_13 : decode cX11_wrongPart 13 = .ok (.ireturn, 1) := oc_172 shX11_wrongPart_13
noncomputable def sxX11_firstWrong_92 : List UInt8 := []
noncomputable def sxX11_firstWrong_91 : List UInt8 := 172 :: sxX11_firstWrong_92
noncomputable def sxX11_firstWrong_90 : List UInt8 := 2 :: sxX11_firstWrong_91
noncomputable def sxX11_firstWrong_87 : List UInt8 := 167 :: 0 :: 4 :: sxX11_firstWrong_90
noncomputable def sxX11_firstWrong_86 : List UInt8 := 29 :: sxX11_firstWrong_87
noncomputable def sxX11_firstWrong_83 : List UInt8 := 162 :: 0 :: 7 :: sxX11_firstWrong_86
noncomputable def sxX11_firstWrong_82 : List UInt8 := 28 :: sxX11_firstWrong_83
noncomputable def sxX11_firstWrong_81 : List UInt8 := 29 :: sxX11_firstWrong_82
noncomputable def sxX11_firstWrong_78 : List UInt8 := 167 :: 255 :: 183 :: sxX11_firstWrong_81
noncomputable def sxX11_firstWrong_75 : List UInt8 := 132 :: 4 :: 1 :: sxX11_firstWrong_78
noncomputable def sxX11_firstWrong_72 : List UInt8 := 132 :: 3 :: 4 :: sxX11_firstWrong_75
noncomputable def sxX11_firstWrong_71 : List UInt8 := 172 :: sxX11_firstWrong_72
noncomputable def sxX11_firstWrong_70 : List UInt8 := 96 :: sxX11_firstWrong_71
noncomputable def sxX11_firstWrong_68 : List UInt8 := 21 :: 6 :: sxX11_firstWrong_70
noncomputable def sxX11_firstWrong_67 : List UInt8 := 29 :: sxX11_firstWrong_68
noncomputable def sxX11_firstWrong_64 : List UInt8 := 159 :: 0 :: 8 :: sxX11_firstWrong_67
noncomputable def sxX11_firstWrong_63 : List UInt8 := 2 :: sxX11_firstWrong_64
noncomputable def sxX11_firstWrong_61 : List UInt8 := 21 :: 6 :: sxX11_firstWrong_63
noncomputable def sxX11_firstWrong_59 : List UInt8 := 54 :: 6 :: sxX11_firstWrong_61
noncomputable def sxX11_firstWrong_56 : List UInt8 := 182 :: 2 :: 14 :: sxX11_firstWrong_59
noncomputable def sxX11_firstWrong_55 : List UInt8 := 29 :: sxX11_firstWrong_56
noncomputable def sxX11_firstWrong_53 : List UInt8 := 21 :: 4 :: sxX11_firstWrong_55
noncomputable def sxX11_firstWrong_51 : List UInt8 := 25 :: 5 :: sxX11_firstWrong_53
noncomputable def sxX11_firstWrong_50 : List UInt8 := 42 :: sxX11_firstWrong_51
noncomputable def sxX11_firstWrong_49 : List UInt8 := 172 :: sxX11_firstWrong_50
noncomputable def sxX11_firstWrong_48 : List UInt8 := 28 :: sxX11_firstWrong_49
noncomputable def sxX11_firstWrong_45 : List UInt8 := 161 :: 0 :: 5 :: sxX11_firstWrong_48
noncomputable def sxX11_firstWrong_44 : List UInt8 := 28 :: sxX11_firstWrong_45
noncomputable def sxX11_firstWrong_43 : List UInt8 := 29 :: sxX11_firstWrong_44
noncomputable def sxX11_firstWrong_40 : List UInt8 := 167 :: 0 :: 35 :: sxX11_firstWrong_43
noncomputable def sxX11_firstWrong_37 : List UInt8 := 159 :: 0 :: 6 :: sxX11_firstWrong_40
noncomputable def sxX11_firstWrong_36 : List UInt8 := 27 :: sxX11_firstWrong_37
noncomputable def sxX11_firstWrong_33 : List UInt8 := 180 :: 0 :: 211 :: sxX11_firstWrong_36
noncomputable def sxX11_firstWrong_31 : List UInt8 := 25 :: 5 :: sxX11_firstWrong_33
noncomputable def sxX11_firstWrong_29 : List UInt8 := 58 :: 5 :: sxX11_firstWrong_31
noncomputable def sxX11_firstWrong_26 : List UInt8 := 192 :: 0 :: 93 :: sxX11_firstWrong_29
noncomputable def sxX11_firstWrong_23 : List UInt8 := 182 :: 0 :: 87 :: sxX11_firstWrong_26
noncomputable def sxX11_firstWrong_21 : List UInt8 := 21 :: 4 :: sxX11_firstWrong_23
noncomputable def sxX11_firstWrong_18 : List UInt8 := 180 :: 0 :: 65 :: sxX11_firstWrong_21
noncomputable def sxX11_firstWrong_17 : List UInt8 := 42 :: sxX11_firstWrong_18
noncomputable def sxX11_firstWrong_14 : List UInt8 := 162 :: 0 :: 67 :: sxX11_firstWrong_17
noncomputable def sxX11_firstWrong_11 : List UInt8 := 182 :: 0 :: 84 :: sxX11_firstWrong_14
noncomputable def sxX11_firstWrong_8 : List UInt8 := 180 :: 0 :: 65 :: sxX11_firstWrong_11
noncomputable def sxX11_firstWrong_7 : List UInt8 := 42 :: sxX11_firstWrong_8
noncomputable def sxX11_firstWrong_5 : List UInt8 := 21 :: 4 :: sxX11_firstWrong_7
noncomputable def sxX11_firstWrong_3 : List UInt8 := 54 :: 4 :: sxX11_firstWrong_5
noncomputable def sxX11_firstWrong_2 : List UInt8 := 3 :: sxX11_firstWrong_3
noncomputable def sxX11_firstWrong_1 : List UInt8 := 62 :: sxX11_firstWrong_2
noncomputable def sxX11_firstWrong_0 : List UInt8 := 3 :: sxX11_firstWrong_1
theorem shX11_firstWrong_0 : cX11_firstWrong.data.toList.drop 0 = sxX11_firstWrong_0 := rfl
theorem shX11_firstWrong_1 : cX11_firstWrong.data.toList.drop 1 = sxX11_firstWrong_1 := dSn 1 shX11_firstWrong_0
theorem shX11_firstWrong_2 : cX11_firstWrong.data.toList.drop 2 = sxX11_firstWrong_2 := dSn 1 shX11_firstWrong_1
theorem shX11_firstWrong_3 : cX11_firstWrong.data.toList.drop 3 = sxX11_firstWrong_3 := dSn 1 shX11_firstWrong_2
theorem shX11_firstWrong_5 : cX11_firstWrong.data.toList.drop 5 = sxX11_firstWrong_5 := dSn 2 shX11_firstWrong_3
theorem shX11_firstWrong_7 : cX11_firstWrong.data.toList.drop 7 = sxX11_firstWrong_7 := dSn 2 shX11_firstWrong_5
theorem shX11_firstWrong_8 : cX11_firstWrong.data.toList.drop 8 = sxX11_firstWrong_8 := dSn 1 shX11_firstWrong_7
theorem shX11_firstWrong_11 : cX11_firstWrong.data.toList.drop 11 = sxX11_firstWrong_11 := dSn 3 shX11_firstWrong_8
theorem shX11_firstWrong_14 : cX11_firstWrong.data.toList.drop 14 = sxX11_firstWrong_14 := dSn 3 shX11_firstWrong_11
theorem shX11_firstWrong_17 : cX11_firstWrong.data.toList.drop 17 = sxX11_firstWrong_17 := dSn 3 shX11_firstWrong_14
theorem shX11_firstWrong_18 : cX11_firstWrong.data.toList.drop 18 = sxX11_firstWrong_18 := dSn 1 shX11_firstWrong_17
theorem shX11_firstWrong_21 : cX11_firstWrong.data.toList.drop 21 = sxX11_firstWrong_21 := dSn 3 shX11_firstWrong_18
theorem shX11_firstWrong_23 : cX11_firstWrong.data.toList.drop 23 = sxX11_firstWrong_23 := dSn 2 shX11_firstWrong_21
theorem shX11_firstWrong_26 : cX11_firstWrong.data.toList.drop 26 = sxX11_firstWrong_26 := dSn 3 shX11_firstWrong_23
theorem shX11_firstWrong_29 : cX11_firstWrong.data.toList.drop 29 = sxX11_firstWrong_29 := dSn 3 shX11_firstWrong_26
theorem shX11_firstWrong_31 : cX11_firstWrong.data.toList.drop 31 = sxX11_firstWrong_31 := dSn 2 shX11_firstWrong_29
theorem shX11_firstWrong_33 : cX11_firstWrong.data.toList.drop 33 = sxX11_firstWrong_33 := dSn 2 shX11_firstWrong_31
theorem shX11_firstWrong_36 : cX11_firstWrong.data.toList.drop 36 = sxX11_firstWrong_36 := dSn 3 shX11_firstWrong_33
theorem shX11_firstWrong_37 : cX11_firstWrong.data.toList.drop 37 = sxX11_firstWrong_37 := dSn 1 shX11_firstWrong_36
theorem shX11_firstWrong_40 : cX11_firstWrong.data.toList.drop 40 = sxX11_firstWrong_40 := dSn 3 shX11_firstWrong_37
theorem shX11_firstWrong_43 : cX11_firstWrong.data.toList.drop 43 = sxX11_firstWrong_43 := dSn 3 shX11_firstWrong_40
theorem shX11_firstWrong_44 : cX11_firstWrong.data.toList.drop 44 = sxX11_firstWrong_44 := dSn 1 shX11_firstWrong_43
theorem shX11_firstWrong_45 : cX11_firstWrong.data.toList.drop 45 = sxX11_firstWrong_45 := dSn 1 shX11_firstWrong_44
theorem shX11_firstWrong_48 : cX11_firstWrong.data.toList.drop 48 = sxX11_firstWrong_48 := dSn 3 shX11_firstWrong_45
theorem shX11_firstWrong_49 : cX11_firstWrong.data.toList.drop 49 = sxX11_firstWrong_49 := dSn 1 shX11_firstWrong_48
theorem shX11_firstWrong_50 : cX11_firstWrong.data.toList.drop 50 = sxX11_firstWrong_50 := dSn 1 shX11_firstWrong_49
theorem shX11_firstWrong_51 : cX11_firstWrong.data.toList.drop 51 = sxX11_firstWrong_51 := dSn 1 shX11_firstWrong_50
theorem shX11_firstWrong_53 : cX11_firstWrong.data.toList.drop 53 = sxX11_firstWrong_53 := dSn 2 shX11_firstWrong_51
theorem shX11_firstWrong_55 : cX11_firstWrong.data.toList.drop 55 = sxX11_firstWrong_55 := dSn 2 shX11_firstWrong_53
theorem shX11_firstWrong_56 : cX11_firstWrong.data.toList.drop 56 = sxX11_firstWrong_56 := dSn 1 shX11_firstWrong_55
theorem shX11_firstWrong_59 : cX11_firstWrong.data.toList.drop 59 = sxX11_firstWrong_59 := dSn 3 shX11_firstWrong_56
theorem shX11_firstWrong_61 : cX11_firstWrong.data.toList.drop 61 = sxX11_firstWrong_61 := dSn 2 shX11_firstWrong_59
theorem shX11_firstWrong_63 : cX11_firstWrong.data.toList.drop 63 = sxX11_firstWrong_63 := dSn 2 shX11_firstWrong_61
theorem shX11_firstWrong_64 : cX11_firstWrong.data.toList.drop 64 = sxX11_firstWrong_64 := dSn 1 shX11_firstWrong_63
theorem shX11_firstWrong_67 : cX11_firstWrong.data.toList.drop 67 = sxX11_firstWrong_67 := dSn 3 shX11_firstWrong_64
theorem shX11_firstWrong_68 : cX11_firstWrong.data.toList.drop 68 = sxX11_firstWrong_68 := dSn 1 shX11_firstWrong_67
theorem shX11_firstWrong_70 : cX11_firstWrong.data.toList.drop 70 = sxX11_firstWrong_70 := dSn 2 shX11_firstWrong_68
theorem shX11_firstWrong_71 : cX11_firstWrong.data.toList.drop 71 = sxX11_firstWrong_71 := dSn 1 shX11_firstWrong_70
theorem shX11_firstWrong_72 : cX11_firstWrong.data.toList.drop 72 = sxX11_firstWrong_72 := dSn 1 shX11_firstWrong_71
theorem shX11_firstWrong_75 : cX11_firstWrong.data.toList.drop 75 = sxX11_firstWrong_75 := dSn 3 shX11_firstWrong_72
theorem shX11_firstWrong_78 : cX11_firstWrong.data.toList.drop 78 = sxX11_firstWrong_78 := dSn 3 shX11_firstWrong_75
theorem shX11_firstWrong_81 : cX11_firstWrong.data.toList.drop 81 = sxX11_firstWrong_81 := dSn 3 shX11_firstWrong_78
theorem shX11_firstWrong_82 : cX11_firstWrong.data.toList.drop 82 = sxX11_firstWrong_82 := dSn 1 shX11_firstWrong_81
theorem shX11_firstWrong_83 : cX11_firstWrong.data.toList.drop 83 = sxX11_firstWrong_83 := dSn 1 shX11_firstWrong_82
theorem shX11_firstWrong_86 : cX11_firstWrong.data.toList.drop 86 = sxX11_firstWrong_86 := dSn 3 shX11_firstWrong_83
theorem shX11_firstWrong_87 : cX11_firstWrong.data.toList.drop 87 = sxX11_firstWrong_87 := dSn 1 shX11_firstWrong_86
theorem shX11_firstWrong_90 : cX11_firstWrong.data.toList.drop 90 = sxX11_firstWrong_90 := dSn 3 shX11_firstWrong_87
theorem shX11_firstWrong_91 : cX11_firstWrong.data.toList.drop 91 = sxX11_firstWrong_91 := dSn 1 shX11_firstWrong_90
theorem dX11_firstWrong_0 : decode cX11_firstWrong 0 = .ok (.iconst 0, 1) := oc_3 shX11_firstWrong_0
theorem dX11_firstWrong_1 : decode cX11_firstWrong 1 = .ok (.istore_n 3, 1) := oc_62 shX11_firstWrong_1
theorem dX11_firstWrong_2 : decode cX11_firstWrong 2 = .ok (.iconst 0, 1) := oc_3 shX11_firstWrong_2
theorem dX11_firstWrong_3 : decode cX11_firstWrong 3 = .ok (.istore 4, 2) := oc_54 shX11_firstWrong_3
theorem dX11_firstWrong_5 : decode cX11_firstWrong 5 = .ok (.iload 4, 2) := oc_21 shX11_firstWrong_5
theorem dX11_firstWrong_7 : decode cX11_firstWrong 7 = .ok (.aload_n 0, 1) := oc_42 shX11_firstWrong_7
theorem dX11_firstWrong_8 : decode cX11_firstWrong 8 = .ok (.getfield 65, 3) := oc_180 shX11_firstWrong_8
theorem dX11_firstWrong_11 : decode cX11_firstWrong 11 = .ok (.invokevirtual 84, 3) := oc_182 shX11_firstWrong_11
theorem dX11_firstWrong_14 : decode cX11_firstWrong 14 = .ok (.if_icmp .ge 67, 3) := oc_162 shX11_firstWrong_14 sgw_0_67
theorem dX11_firstWrong_81 : decode cX11_firstWrong 81 = .ok (.iload_n 3, 1) := oc_29 shX11_firstWrong_81
theorem dX11_firstWrong_82 : decode cX11_firstWrong 82 = .ok (.iload_n 2, 1) := oc_28 shX11_firstWrong_82
theorem dX11_firstWrong_83 : decode cX11_firstWrong 83 = .ok (.if_icmp .ge 7, 3) := oc_162 shX11_firstWrong_83 sgw_0_7
theorem dX11_firstWrong_90 : decode cX11_firstWrong 90 = .ok (.iconst (-1), 1) := oc_2 shX11_firstWrong_90
theorem dX11_firstWrong_91 : decode cX11_firstWrong 91 = .ok (.ireturn, 1) := oc_172 shX11_firstWrong_91
theorem dX11_firstWrong_86 : decode cX11_firstWrong 86 = .ok (.iload_n 3, 1) := oc_29 shX11_firstWrong_86
theorem dX11_firstWrong_87 : decode cX11_firstWrong 87 = .ok (.goto 4, 3) := oc_167 shX11_firstWrong_87 sgw_0_4
theorem dX11_firstWrong_17 : decode cX11_firstWrong 17 = .ok (.aload_n 0, 1) := oc_42 shX11_firstWrong_17
theorem dX11_firstWrong_18 : decode cX11_firstWrong 18 = .ok (.getfield 65, 3) := oc_180 shX11_firstWrong_18
theorem dX11_firstWrong_21 : decode cX11_firstWrong 21 = .ok (.iload 4, 2) := oc_21 shX11_firstWrong_21
theorem dX11_firstWrong_23 : decode cX11_firstWrong 23 = .ok (.invokevirtual 87, 3) := oc_182 shX11_firstWrong_23
theorem dX11_firstWrong_26 : decode cX11_firstWrong 26 = .ok (.checkcast 93, 3) := oc_192 shX11_firstWrong_26
theorem dX11_firstWrong_29 : decode cX11_firstWrong 29 = .ok (.astore 5, 2) := oc_58 shX11_firstWrong_29
theorem dX11_firstWrong_31 : decode cX11_firstWrong 31 = .ok (.aload 5, 2) := oc_25 shX11_firstWrong_31
theorem dX11_firstWrong_33 : decode cX11_firstWrong 33 = .ok (.getfield 211, 3) := oc_180 shX11_firstWrong_33
theorem dX11_firstWrong_36 : decode cX11_firstWrong 36 = .ok (.iload_n 1, 1) := oc_27 shX11_firstWrong_36
theorem dX11_firstWrong_37 : decode cX11_firstWrong 37 = .ok (.if_icmp .eq 6, 3) := oc_159 shX11_firstWrong_37 sgw_0_6
theorem dX11_firstWrong_43 : decode cX11_firstWrong 43 = .ok (.iload_n 3, 1) := oc_29 shX11_firstWrong_43
theorem dX11_firstWrong_44 : decode cX11_firstWrong 44 = .ok (.iload_n 2, 1) := oc_28 shX11_firstWrong_44
theorem dX11_firstWrong_45 : decode cX11_firstWrong 45 = .ok (.if_icmp .lt 5, 3) := oc_161 shX11_firstWrong_45 sgw_0_5
theorem dX11_firstWrong_50 : decode cX11_firstWrong 50 = .ok (.aload_n 0, 1) := oc_42 shX11_firstWrong_50
theorem dX11_firstWrong_51 : decode cX11_firstWrong 51 = .ok (.aload 5, 2) := oc_25 shX11_firstWrong_51
theorem dX11_firstWrong_53 : decode cX11_firstWrong 53 = .ok (.iload 4, 2) := oc_21 shX11_firstWrong_53
theorem dX11_firstWrong_55 : decode cX11_firstWrong 55 = .ok (.iload_n 3, 1) := oc_29 shX11_firstWrong_55
theorem dX11_firstWrong_56 : decode cX11_firstWrong 56 = .ok (.invokevirtual 526, 3) := oc_182 shX11_firstWrong_56
theorem dX11_firstWrong_59 : decode cX11_firstWrong 59 = .ok (.istore 6, 2) := oc_54 shX11_firstWrong_59
theorem dX11_firstWrong_61 : decode cX11_firstWrong 61 = .ok (.iload 6, 2) := oc_21 shX11_firstWrong_61
theorem dX11_firstWrong_63 : decode cX11_firstWrong 63 = .ok (.iconst (-1), 1) := oc_2 shX11_firstWrong_63
theorem dX11_firstWrong_64 : decode cX11_firstWrong 64 = .ok (.if_icmp .eq 8, 3) := oc_159 shX11_firstWrong_64 sgw_0_8
theorem dX11_firstWrong_72 : decode cX11_firstWrong 72 = .ok (.iinc 3 4, 3) := oc_132 shX11_firstWrong_72 sgb_4
theorem dX11_firstWrong_75 : decode cX11_firstWrong 75 = .ok (.iinc 4 1, 3) := oc_132 shX11_firstWrong_75 sgb_1
theorem dX11_firstWrong_78 : decode cX11_firstWrong 78 = .ok (.goto (-73), 3) := oc_167 shX11_firstWrong_78 sgw_255_183
theorem dX11_firstWrong_67 : decode cX11_firstWrong 67 = .ok (.iload_n 3, 1) := oc_29 shX11_firstWrong_67
theorem dX11_firstWrong_68 : decode cX11_firstWrong 68 = .ok (.iload 6, 2) := oc_21 shX11_firstWrong_68
theorem dX11_firstWrong_70 : decode cX11_firstWrong 70 = .ok (.iadd, 1) := oc_96 shX11_firstWrong_70
theorem dX11_firstWrong_71 : decode cX11_firstWrong 71 = .ok (.ireturn, 1) := oc_172 shX11_firstWrong_71
theorem dX11_firstWrong_48 : decode cX11_firstWrong 48 = .ok (.iload_n 2, 1) := oc_28 shX11_firstWrong_48
theorem dX11_firstWrong_49 : decode cX11_firstWrong 49 = .ok (.ireturn, 1) := oc_172 shX11_firstWrong_49
theorem dX11_firstWrong_40 : decode cX11_firstWrong 40 = .ok (.goto 35, 3) := oc_167 shX11_firstWrong_40 sgw_0_35
noncomputable def sxX11_check_47 : List UInt8 := []
noncomputable def sxX11_check_46 : List UInt8 := 172 :: sxX11_check_47
noncomputable def sxX11_check_45 : List UInt8 := 29 :: sxX11_check_46
noncomputable def sxX11_check_42 : List UInt8 := 182 :: 0 :: 162 :: sxX11_check_45
noncomputable def sxX11_check_39 : List UInt8 := 180 :: 0 :: 21 :: sxX11_check_42
noncomputable def sxX11_check_38 : List UInt8 := 42 :: sxX11_check_39
noncomputable def sxX11_check_37 : List UInt8 := 62 :: sxX11_check_38
noncomputable def sxX11_check_34 : List UInt8 := 182 :: 2 :: 11 :: sxX11_check_37
noncomputable def sxX11_check_33 : List UInt8 := 104 :: sxX11_check_34
noncomputable def sxX11_check_32 : List UInt8 := 28 :: sxX11_check_33
noncomputable def sxX11_check_31 : List UInt8 := 7 :: sxX11_check_32
noncomputable def sxX11_check_30 : List UInt8 := 27 :: sxX11_check_31
noncomputable def sxX11_check_29 : List UInt8 := 42 :: sxX11_check_30
noncomputable def sxX11_check_28 : List UInt8 := 172 :: sxX11_check_29
noncomputable def sxX11_check_26 : List UInt8 := 16 :: 254 :: sxX11_check_28
noncomputable def sxX11_check_23 : List UInt8 := 164 :: 0 :: 6 :: sxX11_check_26
noncomputable def sxX11_check_22 : List UInt8 := 108 :: sxX11_check_23
noncomputable def sxX11_check_20 : List UInt8 := 16 :: 16 :: sxX11_check_22
noncomputable def sxX11_check_17 : List UInt8 := 182 :: 0 :: 152 :: sxX11_check_20
noncomputable def sxX11_check_14 : List UInt8 := 180 :: 0 :: 21 :: sxX11_check_17
noncomputable def sxX11_check_13 : List UInt8 := 42 :: sxX11_check_14
noncomputable def sxX11_check_12 : List UInt8 := 28 :: sxX11_check_13
noncomputable def sxX11_check_9 : List UInt8 := 155 :: 0 :: 17 :: sxX11_check_12
noncomputable def sxX11_check_8 : List UInt8 := 28 :: sxX11_check_9
noncomputable def sxX11_check_5 : List UInt8 := 198 :: 0 :: 21 :: sxX11_check_8
noncomputable def sxX11_check_2 : List UInt8 := 182 :: 0 :: 114 :: sxX11_check_5
noncomputable def sxX11_check_1 : List UInt8 := 27 :: sxX11_check_2
noncomputable def sxX11_check_0 : List UInt8 := 42 :: sxX11_check_1
theorem shX11_check_0 : cX11_check.data.toList.drop 0 = sxX11_check_0 := rfl
theorem shX11_check_1 : cX11_check.data.toList.drop 1 = sxX11_check_1 := dSn 1 shX11_check_0
theorem shX11_check_2 : cX11_check.data.toList.drop 2 = sxX11_check_2 := dSn 1 shX11_check_1
theorem shX11_check_5 : cX11_check.data.toList.drop 5 = sxX11_check_5 := dSn 3 shX11_check_2
theorem shX11_check_8 : cX11_check.data.toList.drop 8 = sxX11_check_8 := dSn 3 shX11_check_5
theorem shX11_check_9 : cX11_check.data.toList.drop 9 = sxX11_check_9 := dSn 1 shX11_check_8
theorem shX11_check_12 : cX11_check.data.toList.drop 12 = sxX11_check_12 := dSn 3 shX11_check_9
theorem shX11_check_13 : cX11_check.data.toList.drop 13 = sxX11_check_13 := dSn 1 shX11_check_12
theorem shX11_check_14 : cX11_check.data.toList.drop 14 = sxX11_check_14 := dSn 1 shX11_check_13
theorem shX11_check_17 : cX11_check.data.toList.drop 17 = sxX11_check_17 := dSn 3 shX11_check_14
theorem shX11_check_20 : cX11_check.data.toList.drop 20 = sxX11_check_20 := dSn 3 shX11_check_17
theorem shX11_check_22 : cX11_check.data.toList.drop 22 = sxX11_check_22 := dSn 2 shX11_check_20
theorem shX11_check_23 : cX11_check.data.toList.drop 23 = sxX11_check_23 := dSn 1 shX11_check_22
theorem shX11_check_26 : cX11_check.data.toList.drop 26 = sxX11_check_26 := dSn 3 shX11_check_23
theorem shX11_check_28 : cX11_check.data.toList.drop 28 = sxX11_check_28 := dSn 2 shX11_check_26
theorem shX11_check_29 : cX11_check.data.toList.drop 29 = sxX11_check_29 := dSn 1 shX11_check_28
theorem shX11_check_30 : cX11_check.data.toList.drop 30 = sxX11_check_30 := dSn 1 shX11_check_29
theorem shX11_check_31 : cX11_check.data.toList.drop 31 = sxX11_check_31 := dSn 1 shX11_check_30
theorem shX11_check_32 : cX11_check.data.toList.drop 32 = sxX11_check_32 := dSn 1 shX11_check_31
theorem shX11_check_33 : cX11_check.data.toList.drop 33 = sxX11_check_33 := dSn 1 shX11_check_32
theorem shX11_check_34 : cX11_check.data.toList.drop 34 = sxX11_check_34 := dSn 1 shX11_check_33
theorem shX11_check_37 : cX11_check.data.toList.drop 37 = sxX11_check_37 := dSn 3 shX11_check_34
theorem shX11_check_38 : cX11_check.data.toList.drop 38 = sxX11_check_38 := dSn 1 shX11_check_37
theorem shX11_check_39 : cX11_check.data.toList.drop 39 = sxX11_check_39 := dSn 1 shX11_check_38
theorem shX11_check_42 : cX11_check.data.toList.drop 42 = sxX11_check_42 := dSn 3 shX11_check_39
theorem shX11_check_45 : cX11_check.data.toList.drop 45 = sxX11_check_45 := dSn 3 shX11_check_42
theorem shX11_check_46 : cX11_check.data.toList.drop 46 = sxX11_check_46 := dSn 1 shX11_check_45
theorem dX11_check_0 : decode cX11_check 0 = .ok (.aload_n 0, 1) := oc_42 shX11_check_0
theorem dX11_check_1 : decode cX11_check 1 = .ok (.iload_n 1, 1) := oc_27 shX11_check_1
theorem dX11_check_2 : decode cX11_check 2 = .ok (.invokevirtual 114, 3) := oc_182 shX11_check_2
theorem dX11_check_5 : decode cX11_check 5 = .ok (.ifnull 21, 3) := oc_198 shX11_check_5 sgw_0_21
theorem dX11_check_8 : decode cX11_check 8 = .ok (.iload_n 2, 1) := oc_28 shX11_check_8
theorem dX11_check_9 : decode cX11_check 9 = .ok (.ifCond .lt 17, 3) := oc_155 shX11_check_9 sgw_0_17
theorem dX11_check_26 : decode cX11_check 26 = .ok (.bipush (-2), 2) := oc_16 shX11_check_26 sgb_254
theorem dX11_check_28 : decode cX11_check 28 = .ok (.ireturn, 1) := oc_172 shX11_check_28
theorem dX11_check_12 : decode cX11_check 12 = .ok (.iload_n 2, 1) := oc_28 shX11_check_12
theorem dX11_check_13 : decode cX11_check 13 = .ok (.aload_n 0, 1) := oc_42 shX11_check_13
theorem dX11_check_14 : decode cX11_check 14 = .ok (.getfield 21, 3) := oc_180 shX11_check_14
theorem dX11_check_17 : decode cX11_check 17 = .ok (.invokevirtual 152, 3) := oc_182 shX11_check_17
theorem dX11_check_20 : decode cX11_check 20 = .ok (.bipush 16, 2) := oc_16 shX11_check_20 sgb_16
theorem dX11_check_22 : decode cX11_check 22 = .ok (.idiv, 1) := oc_108 shX11_check_22
theorem dX11_check_23 : decode cX11_check 23 = .ok (.if_icmp .le 6, 3) := oc_164 shX11_check_23 sgw_0_6
theorem dX11_check_29 : decode cX11_check 29 = .ok (.aload_n 0, 1) := oc_42 shX11_check_29
theorem dX11_check_30 : decode cX11_check 30 = .ok (.iload_n 1, 1) := oc_27 shX11_check_30
theorem dX11_check_31 : decode cX11_check 31 = .ok (.iconst 4, 1) := oc_7 shX11_check_31
theorem dX11_check_32 : decode cX11_check 32 = .ok (.iload_n 2, 1) := oc_28 shX11_check_32
theorem dX11_check_33 : decode cX11_check 33 = .ok (.imul, 1) := oc_104 shX11_check_33
theorem dX11_check_34 : decode cX11_check 34 = .ok (.invokevirtual 523, 3) := oc_182 shX11_check_34
theorem dX11_check_37 : decode cX11_check 37 = .ok (.istore_n 3, 1) := oc_62 shX11_check_37
theorem dX11_check_38 : decode cX11_check 38 = .ok (.aload_n 0, 1) := oc_42 shX11_check_38
theorem dX11_check_39 : decode cX11_check 39 = .ok (.getfield 21, 3) := oc_180 shX11_check_39
theorem dX11_check_42 : decode cX11_check 42 = .ok (.invokevirtual 162, 3) := oc_182 shX11_check_42
theorem dX11_check_45 : decode cX11_check 45 = .ok (.iload_n 3, 1) := oc_29 shX11_check_45
theorem dX11_check_46 : decode cX11_check 46 = .ok (.ireturn, 1) := oc_172 shX11_check_46
noncomputable def sxX11_batchIs_82 : List UInt8 := []
noncomputable def sxX11_batchIs_81 : List UInt8 := 172 :: sxX11_batchIs_82
noncomputable def sxX11_batchIs_80 : List UInt8 := 2 :: sxX11_batchIs_81
noncomputable def sxX11_batchIs_79 : List UInt8 := 172 :: sxX11_batchIs_80
noncomputable def sxX11_batchIs_76 : List UInt8 := 180 :: 1 :: 132 :: sxX11_batchIs_79
noncomputable def sxX11_batchIs_75 : List UInt8 := 45 :: sxX11_batchIs_76
noncomputable def sxX11_batchIs_74 : List UInt8 := 172 :: sxX11_batchIs_75
noncomputable def sxX11_batchIs_73 : List UInt8 := 100 :: sxX11_batchIs_74
noncomputable def sxX11_batchIs_70 : List UInt8 := 182 :: 1 :: 129 :: sxX11_batchIs_73
noncomputable def sxX11_batchIs_69 : List UInt8 := 2 :: sxX11_batchIs_70
noncomputable def sxX11_batchIs_68 : List UInt8 := 27 :: sxX11_batchIs_69
noncomputable def sxX11_batchIs_67 : List UInt8 := 42 :: sxX11_batchIs_68
noncomputable def sxX11_batchIs_64 : List UInt8 := 180 :: 1 :: 86 :: sxX11_batchIs_67
noncomputable def sxX11_batchIs_63 : List UInt8 := 45 :: sxX11_batchIs_64
noncomputable def sxX11_batchIs_62 : List UInt8 := 172 :: sxX11_batchIs_63
noncomputable def sxX11_batchIs_59 : List UInt8 := 182 :: 1 :: 89 :: sxX11_batchIs_62
noncomputable def sxX11_batchIs_58 : List UInt8 := 45 :: sxX11_batchIs_59
noncomputable def sxX11_batchIs_57 : List UInt8 := 172 :: sxX11_batchIs_58
noncomputable def sxX11_batchIs_54 : List UInt8 := 182 :: 1 :: 87 :: sxX11_batchIs_57
noncomputable def sxX11_batchIs_53 : List UInt8 := 45 :: sxX11_batchIs_54
noncomputable def sxX11_batchIs_52 : List UInt8 := 172 :: sxX11_batchIs_53
noncomputable def sxX11_batchIs_49 : List UInt8 := 180 :: 1 :: 86 :: sxX11_batchIs_52
noncomputable def sxX11_batchIs_48 : List UInt8 := 45 :: sxX11_batchIs_49
noncomputable def sxX11_batchIs_13 : List UInt8 := 170 :: 0 :: 0 :: 0 :: 0 :: 0 :: 67 :: 0 :: 0 :: 0 :: 0 :: 0 :: 0 :: 0 :: 4 :: 0 :: 0 :: 0 :: 35 :: 0 :: 0 :: 0 :: 40 :: 0 :: 0 :: 0 :: 45 :: 0 :: 0 :: 0 :: 50 :: 0 :: 0 :: 0 :: 62 :: sxX11_batchIs_48
noncomputable def sxX11_batchIs_12 : List UInt8 := 28 :: sxX11_batchIs_13
noncomputable def sxX11_batchIs_11 : List UInt8 := 172 :: sxX11_batchIs_12
noncomputable def sxX11_batchIs_10 : List UInt8 := 2 :: sxX11_batchIs_11
noncomputable def sxX11_batchIs_7 : List UInt8 := 199 :: 0 :: 5 :: sxX11_batchIs_10
noncomputable def sxX11_batchIs_6 : List UInt8 := 45 :: sxX11_batchIs_7
noncomputable def sxX11_batchIs_5 : List UInt8 := 78 :: sxX11_batchIs_6
noncomputable def sxX11_batchIs_2 : List UInt8 := 182 :: 1 :: 126 :: sxX11_batchIs_5
noncomputable def sxX11_batchIs_1 : List UInt8 := 27 :: sxX11_batchIs_2
noncomputable def sxX11_batchIs_0 : List UInt8 := 42 :: sxX11_batchIs_1
theorem shX11_batchIs_0 : cX11_batchIs.data.toList.drop 0 = sxX11_batchIs_0 := rfl
theorem shX11_batchIs_1 : cX11_batchIs.data.toList.drop 1 = sxX11_batchIs_1 := dSn 1 shX11_batchIs_0
theorem shX11_batchIs_2 : cX11_batchIs.data.toList.drop 2 = sxX11_batchIs_2 := dSn 1 shX11_batchIs_1
theorem shX11_batchIs_5 : cX11_batchIs.data.toList.drop 5 = sxX11_batchIs_5 := dSn 3 shX11_batchIs_2
theorem shX11_batchIs_6 : cX11_batchIs.data.toList.drop 6 = sxX11_batchIs_6 := dSn 1 shX11_batchIs_5
theorem shX11_batchIs_7 : cX11_batchIs.data.toList.drop 7 = sxX11_batchIs_7 := dSn 1 shX11_batchIs_6
theorem shX11_batchIs_10 : cX11_batchIs.data.toList.drop 10 = sxX11_batchIs_10 := dSn 3 shX11_batchIs_7
theorem shX11_batchIs_11 : cX11_batchIs.data.toList.drop 11 = sxX11_batchIs_11 := dSn 1 shX11_batchIs_10
theorem shX11_batchIs_12 : cX11_batchIs.data.toList.drop 12 = sxX11_batchIs_12 := dSn 1 shX11_batchIs_11
theorem shX11_batchIs_13 : cX11_batchIs.data.toList.drop 13 = sxX11_batchIs_13 := dSn 1 shX11_batchIs_12
theorem shX11_batchIs_48 : cX11_batchIs.data.toList.drop 48 = sxX11_batchIs_48 := dSn 35 shX11_batchIs_13
theorem shX11_batchIs_49 : cX11_batchIs.data.toList.drop 49 = sxX11_batchIs_49 := dSn 1 shX11_batchIs_48
theorem shX11_batchIs_52 : cX11_batchIs.data.toList.drop 52 = sxX11_batchIs_52 := dSn 3 shX11_batchIs_49
theorem shX11_batchIs_53 : cX11_batchIs.data.toList.drop 53 = sxX11_batchIs_53 := dSn 1 shX11_batchIs_52
theorem shX11_batchIs_54 : cX11_batchIs.data.toList.drop 54 = sxX11_batchIs_54 := dSn 1 shX11_batchIs_53
theorem shX11_batchIs_57 : cX11_batchIs.data.toList.drop 57 = sxX11_batchIs_57 := dSn 3 shX11_batchIs_54
theorem shX11_batchIs_58 : cX11_batchIs.data.toList.drop 58 = sxX11_batchIs_58 := dSn 1 shX11_batchIs_57
theorem shX11_batchIs_59 : cX11_batchIs.data.toList.drop 59 = sxX11_batchIs_59 := dSn 1 shX11_batchIs_58
theorem shX11_batchIs_62 : cX11_batchIs.data.toList.drop 62 = sxX11_batchIs_62 := dSn 3 shX11_batchIs_59
theorem shX11_batchIs_63 : cX11_batchIs.data.toList.drop 63 = sxX11_batchIs_63 := dSn 1 shX11_batchIs_62
theorem shX11_batchIs_64 : cX11_batchIs.data.toList.drop 64 = sxX11_batchIs_64 := dSn 1 shX11_batchIs_63
theorem shX11_batchIs_67 : cX11_batchIs.data.toList.drop 67 = sxX11_batchIs_67 := dSn 3 shX11_batchIs_64
theorem shX11_batchIs_68 : cX11_batchIs.data.toList.drop 68 = sxX11_batchIs_68 := dSn 1 shX11_batchIs_67
theorem shX11_batchIs_69 : cX11_batchIs.data.toList.drop 69 = sxX11_batchIs_69 := dSn 1 shX11_batchIs_68
theorem shX11_batchIs_70 : cX11_batchIs.data.toList.drop 70 = sxX11_batchIs_70 := dSn 1 shX11_batchIs_69
theorem shX11_batchIs_73 : cX11_batchIs.data.toList.drop 73 = sxX11_batchIs_73 := dSn 3 shX11_batchIs_70
theorem shX11_batchIs_74 : cX11_batchIs.data.toList.drop 74 = sxX11_batchIs_74 := dSn 1 shX11_batchIs_73
theorem shX11_batchIs_75 : cX11_batchIs.data.toList.drop 75 = sxX11_batchIs_75 := dSn 1 shX11_batchIs_74
theorem shX11_batchIs_76 : cX11_batchIs.data.toList.drop 76 = sxX11_batchIs_76 := dSn 1 shX11_batchIs_75
theorem shX11_batchIs_79 : cX11_batchIs.data.toList.drop 79 = sxX11_batchIs_79 := dSn 3 shX11_batchIs_76
theorem shX11_batchIs_80 : cX11_batchIs.data.toList.drop 80 = sxX11_batchIs_80 := dSn 1 shX11_batchIs_79
theorem shX11_batchIs_81 : cX11_batchIs.data.toList.drop 81 = sxX11_batchIs_81 := dSn 1 shX11_batchIs_80
theorem dX11_batchIs_0 : decode cX11_batchIs 0 = .ok (.aload_n 0, 1) := oc_42 shX11_batchIs_0
theorem dX11_batchIs_1 : decode cX11_batchIs 1 = .ok (.iload_n 1, 1) := oc_27 shX11_batchIs_1
theorem dX11_batchIs_2 : decode cX11_batchIs 2 = .ok (.invokevirtual 382, 3) := oc_182 shX11_batchIs_2
theorem dX11_batchIs_5 : decode cX11_batchIs 5 = .ok (.astore_n 3, 1) := oc_78 shX11_batchIs_5
theorem dX11_batchIs_6 : decode cX11_batchIs 6 = .ok (.aload_n 3, 1) := oc_45 shX11_batchIs_6
theorem dX11_batchIs_7 : decode cX11_batchIs 7 = .ok (.ifnonnull 5, 3) := oc_199 shX11_batchIs_7 sgw_0_5
theorem dX11_batchIs_12 : decode cX11_batchIs 12 = .ok (.iload_n 2, 1) := oc_28 shX11_batchIs_12
theorem dX11_batchIs_13 : decode cX11_batchIs 13 = .ok (.tableswitch 67 0 4 #[35, 40, 45, 50, 62], 35) := by decide +kernel
theorem dX11_batchIs_80 : decode cX11_batchIs 80 = .ok (.iconst (-1), 1) := oc_2 shX11_batchIs_80
theorem dX11_batchIs_81 : decode cX11_batchIs 81 = .ok (.ireturn, 1) := oc_172 shX11_batchIs_81
theorem dX11_batchIs_48 : decode cX11_batchIs 48 = .ok (.aload_n 3, 1) := oc_45 shX11_batchIs_48
theorem dX11_batchIs_49 : decode cX11_batchIs 49 = .ok (.getfield 342, 3) := oc_180 shX11_batchIs_49
theorem dX11_batchIs_52 : decode cX11_batchIs 52 = .ok (.ireturn, 1) := oc_172 shX11_batchIs_52
theorem dX11_batchIs_53 : decode cX11_batchIs 53 = .ok (.aload_n 3, 1) := oc_45 shX11_batchIs_53
theorem dX11_batchIs_54 : decode cX11_batchIs 54 = .ok (.invokevirtual 343, 3) := oc_182 shX11_batchIs_54
theorem dX11_batchIs_57 : decode cX11_batchIs 57 = .ok (.ireturn, 1) := oc_172 shX11_batchIs_57
theorem dX11_batchIs_58 : decode cX11_batchIs 58 = .ok (.aload_n 3, 1) := oc_45 shX11_batchIs_58
theorem dX11_batchIs_59 : decode cX11_batchIs 59 = .ok (.invokevirtual 345, 3) := oc_182 shX11_batchIs_59
theorem dX11_batchIs_62 : decode cX11_batchIs 62 = .ok (.ireturn, 1) := oc_172 shX11_batchIs_62
theorem dX11_batchIs_63 : decode cX11_batchIs 63 = .ok (.aload_n 3, 1) := oc_45 shX11_batchIs_63
theorem dX11_batchIs_64 : decode cX11_batchIs 64 = .ok (.getfield 342, 3) := oc_180 shX11_batchIs_64
theorem dX11_batchIs_67 : decode cX11_batchIs 67 = .ok (.aload_n 0, 1) := oc_42 shX11_batchIs_67
theorem dX11_batchIs_68 : decode cX11_batchIs 68 = .ok (.iload_n 1, 1) := oc_27 shX11_batchIs_68
theorem dX11_batchIs_69 : decode cX11_batchIs 69 = .ok (.iconst (-1), 1) := oc_2 shX11_batchIs_69
theorem dX11_batchIs_70 : decode cX11_batchIs 70 = .ok (.invokevirtual 385, 3) := oc_182 shX11_batchIs_70
theorem dX11_batchIs_73 : decode cX11_batchIs 73 = .ok (.isub, 1) := oc_100 shX11_batchIs_73
theorem dX11_batchIs_74 : decode cX11_batchIs 74 = .ok (.ireturn, 1) := oc_172 shX11_batchIs_74
theorem dX11_batchIs_75 : decode cX11_batchIs 75 = .ok (.aload_n 3, 1) := oc_45 shX11_batchIs_75
theorem dX11_batchIs_76 : decode cX11_batchIs 76 = .ok (.getfield 388, 3) := oc_180 shX11_batchIs_76
theorem dX11_batchIs_79 : decode cX11_batchIs 79 = .ok (.ireturn, 1) := oc_172 shX11_batchIs_79
theorem dX11_batchIs_10 : decode cX11_batchIs 10 = .ok (.iconst (-1), 1) := oc_2 shX11_batchIs_10
theorem dX11_batchIs_11 : decode cX11_batchIs 11 = .ok (.ireturn, 1) := oc_172 shX11_batchIs_11
noncomputable def sxX11_canBeBatched_28 : List UInt8 := []
noncomputable def sxX11_canBeBatched_27 : List UInt8 := 172 :: sxX11_canBeBatched_28
noncomputable def sxX11_canBeBatched_26 : List UInt8 := 3 :: sxX11_canBeBatched_27
noncomputable def sxX11_canBeBatched_23 : List UInt8 := 167 :: 0 :: 4 :: sxX11_canBeBatched_26
noncomputable def sxX11_canBeBatched_22 : List UInt8 := 4 :: sxX11_canBeBatched_23
noncomputable def sxX11_canBeBatched_19 : List UInt8 := 163 :: 0 :: 7 :: sxX11_canBeBatched_22
noncomputable def sxX11_canBeBatched_16 : List UInt8 := 180 :: 0 :: 103 :: sxX11_canBeBatched_19
noncomputable def sxX11_canBeBatched_15 : List UInt8 := 42 :: sxX11_canBeBatched_16
noncomputable def sxX11_canBeBatched_12 : List UInt8 := 180 :: 0 :: 235 :: sxX11_canBeBatched_15
noncomputable def sxX11_canBeBatched_11 : List UInt8 := 43 :: sxX11_canBeBatched_12
noncomputable def sxX11_canBeBatched_8 : List UInt8 := 154 :: 0 :: 18 :: sxX11_canBeBatched_11
noncomputable def sxX11_canBeBatched_5 : List UInt8 := 180 :: 1 :: 93 :: sxX11_canBeBatched_8
noncomputable def sxX11_canBeBatched_4 : List UInt8 := 43 :: sxX11_canBeBatched_5
noncomputable def sxX11_canBeBatched_1 : List UInt8 := 198 :: 0 :: 25 :: sxX11_canBeBatched_4
noncomputable def sxX11_canBeBatched_0 : List UInt8 := 43 :: sxX11_canBeBatched_1
theorem shX11_canBeBatched_0 : cX11_canBeBatched.data.toList.drop 0 = sxX11_canBeBatched_0 := rfl
theorem shX11_canBeBatched_1 : cX11_canBeBatched.data.toList.drop 1 = sxX11_canBeBatched_1 := dSn 1 shX11_canBeBatched_0
theorem shX11_canBeBatched_4 : cX11_canBeBatched.data.toList.drop 4 = sxX11_canBeBatched_4 := dSn 3 shX11_canBeBatched_1
theorem shX11_canBeBatched_5 : cX11_canBeBatched.data.toList.drop 5 = sxX11_canBeBatched_5 := dSn 1 shX11_canBeBatched_4
theorem shX11_canBeBatched_8 : cX11_canBeBatched.data.toList.drop 8 = sxX11_canBeBatched_8 := dSn 3 shX11_canBeBatched_5
theorem shX11_canBeBatched_11 : cX11_canBeBatched.data.toList.drop 11 = sxX11_canBeBatched_11 := dSn 3 shX11_canBeBatched_8
theorem shX11_canBeBatched_12 : cX11_canBeBatched.data.toList.drop 12 = sxX11_canBeBatched_12 := dSn 1 shX11_canBeBatched_11
theorem shX11_canBeBatched_15 : cX11_canBeBatched.data.toList.drop 15 = sxX11_canBeBatched_15 := dSn 3 shX11_canBeBatched_12
theorem shX11_canBeBatched_16 : cX11_canBeBatched.data.toList.drop 16 = sxX11_canBeBatched_16 := dSn 1 shX11_canBeBatched_15
theorem shX11_canBeBatched_19 : cX11_canBeBatched.data.toList.drop 19 = sxX11_canBeBatched_19 := dSn 3 shX11_canBeBatched_16
theorem shX11_canBeBatched_22 : cX11_canBeBatched.data.toList.drop 22 = sxX11_canBeBatched_22 := dSn 3 shX11_canBeBatched_19
theorem shX11_canBeBatched_23 : cX11_canBeBatched.data.toList.drop 23 = sxX11_canBeBatched_23 := dSn 1 shX11_canBeBatched_22
theorem shX11_canBeBatched_26 : cX11_canBeBatched.data.toList.drop 26 = sxX11_canBeBatched_26 := dSn 3 shX11_canBeBatched_23
theorem shX11_canBeBatched_27 : cX11_canBeBatched.data.toList.drop 27 = sxX11_canBeBatched_27 := dSn 1 shX11_canBeBatched_26
theorem dX11_canBeBatched_0 : decode cX11_canBeBatched 0 = .ok (.aload_n 1, 1) := oc_43 shX11_canBeBatched_0
theorem dX11_canBeBatched_1 : decode cX11_canBeBatched 1 = .ok (.ifnull 25, 3) := oc_198 shX11_canBeBatched_1 sgw_0_25
theorem dX11_canBeBatched_26 : decode cX11_canBeBatched 26 = .ok (.iconst 0, 1) := oc_3 shX11_canBeBatched_26
theorem dX11_canBeBatched_27 : decode cX11_canBeBatched 27 = .ok (.ireturn, 1) := oc_172 shX11_canBeBatched_27
theorem dX11_canBeBatched_4 : decode cX11_canBeBatched 4 = .ok (.aload_n 1, 1) := oc_43 shX11_canBeBatched_4
theorem dX11_canBeBatched_5 : decode cX11_canBeBatched 5 = .ok (.getfield 349, 3) := oc_180 shX11_canBeBatched_5
theorem dX11_canBeBatched_8 : decode cX11_canBeBatched 8 = .ok (.ifCond .ne 18, 3) := oc_154 shX11_canBeBatched_8 sgw_0_18
theorem dX11_canBeBatched_11 : decode cX11_canBeBatched 11 = .ok (.aload_n 1, 1) := oc_43 shX11_canBeBatched_11
theorem dX11_canBeBatched_12 : decode cX11_canBeBatched 12 = .ok (.getfield 235, 3) := oc_180 shX11_canBeBatched_12
theorem dX11_canBeBatched_15 : decode cX11_canBeBatched 15 = .ok (.aload_n 0, 1) := oc_42 shX11_canBeBatched_15
theorem dX11_canBeBatched_16 : decode cX11_canBeBatched 16 = .ok (.getfield 103, 3) := oc_180 shX11_canBeBatched_16
theorem dX11_canBeBatched_19 : decode cX11_canBeBatched 19 = .ok (.if_icmp .gt 7, 3) := oc_163 shX11_canBeBatched_19 sgw_0_7
theorem dX11_canBeBatched_22 : decode cX11_canBeBatched 22 = .ok (.iconst 1, 1) := oc_4 shX11_canBeBatched_22
theorem dX11_canBeBatched_23 : decode cX11_canBeBatched 23 = .ok (.goto 4, 3) := oc_167 shX11_canBeBatched_23 sgw_0_4
noncomputable def sxX11_countOfKitchen_38 : List UInt8 := []
noncomputable def sxX11_countOfKitchen_37 : List UInt8 := 172 :: sxX11_countOfKitchen_38
noncomputable def sxX11_countOfKitchen_34 : List UInt8 := 180 :: 1 :: 4 :: sxX11_countOfKitchen_37
noncomputable def sxX11_countOfKitchen_33 : List UInt8 := 43 :: sxX11_countOfKitchen_34
noncomputable def sxX11_countOfKitchen_30 : List UInt8 := 167 :: 0 :: 7 :: sxX11_countOfKitchen_33
noncomputable def sxX11_countOfKitchen_27 : List UInt8 := 180 :: 0 :: 118 :: sxX11_countOfKitchen_30
noncomputable def sxX11_countOfKitchen_26 : List UInt8 := 43 :: sxX11_countOfKitchen_27
noncomputable def sxX11_countOfKitchen_23 : List UInt8 := 160 :: 0 :: 10 :: sxX11_countOfKitchen_26
noncomputable def sxX11_countOfKitchen_22 : List UInt8 := 5 :: sxX11_countOfKitchen_23
noncomputable def sxX11_countOfKitchen_21 : List UInt8 := 28 :: sxX11_countOfKitchen_22
noncomputable def sxX11_countOfKitchen_18 : List UInt8 := 167 :: 0 :: 19 :: sxX11_countOfKitchen_21
noncomputable def sxX11_countOfKitchen_15 : List UInt8 := 180 :: 0 :: 171 :: sxX11_countOfKitchen_18
noncomputable def sxX11_countOfKitchen_12 : List UInt8 := 180 :: 0 :: 168 :: sxX11_countOfKitchen_15
noncomputable def sxX11_countOfKitchen_11 : List UInt8 := 43 :: sxX11_countOfKitchen_12
noncomputable def sxX11_countOfKitchen_8 : List UInt8 := 160 :: 0 :: 13 :: sxX11_countOfKitchen_11
noncomputable def sxX11_countOfKitchen_7 : List UInt8 := 4 :: sxX11_countOfKitchen_8
noncomputable def sxX11_countOfKitchen_6 : List UInt8 := 28 :: sxX11_countOfKitchen_7
noncomputable def sxX11_countOfKitchen_5 : List UInt8 := 172 :: sxX11_countOfKitchen_6
noncomputable def sxX11_countOfKitchen_4 : List UInt8 := 2 :: sxX11_countOfKitchen_5
noncomputable def sxX11_countOfKitchen_1 : List UInt8 := 199 :: 0 :: 5 :: sxX11_countOfKitchen_4
noncomputable def sxX11_countOfKitchen_0 : List UInt8 := 43 :: sxX11_countOfKitchen_1
theorem shX11_countOfKitchen_0 : cX11_countOfKitchen.data.toList.drop 0 = sxX11_countOfKitchen_0 := rfl
theorem shX11_countOfKitchen_1 : cX11_countOfKitchen.data.toList.drop 1 = sxX11_countOfKitchen_1 := dSn 1 shX11_countOfKitchen_0
theorem shX11_countOfKitchen_4 : cX11_countOfKitchen.data.toList.drop 4 = sxX11_countOfKitchen_4 := dSn 3 shX11_countOfKitchen_1
theorem shX11_countOfKitchen_5 : cX11_countOfKitchen.data.toList.drop 5 = sxX11_countOfKitchen_5 := dSn 1 shX11_countOfKitchen_4
theorem shX11_countOfKitchen_6 : cX11_countOfKitchen.data.toList.drop 6 = sxX11_countOfKitchen_6 := dSn 1 shX11_countOfKitchen_5
theorem shX11_countOfKitchen_7 : cX11_countOfKitchen.data.toList.drop 7 = sxX11_countOfKitchen_7 := dSn 1 shX11_countOfKitchen_6
theorem shX11_countOfKitchen_8 : cX11_countOfKitchen.data.toList.drop 8 = sxX11_countOfKitchen_8 := dSn 1 shX11_countOfKitchen_7
theorem shX11_countOfKitchen_11 : cX11_countOfKitchen.data.toList.drop 11 = sxX11_countOfKitchen_11 := dSn 3 shX11_countOfKitchen_8
theorem shX11_countOfKitchen_12 : cX11_countOfKitchen.data.toList.drop 12 = sxX11_countOfKitchen_12 := dSn 1 shX11_countOfKitchen_11
theorem shX11_countOfKitchen_15 : cX11_countOfKitchen.data.toList.drop 15 = sxX11_countOfKitchen_15 := dSn 3 shX11_countOfKitchen_12
theorem shX11_countOfKitchen_18 : cX11_countOfKitchen.data.toList.drop 18 = sxX11_countOfKitchen_18 := dSn 3 shX11_countOfKitchen_15
theorem shX11_countOfKitchen_21 : cX11_countOfKitchen.data.toList.drop 21 = sxX11_countOfKitchen_21 := dSn 3 shX11_countOfKitchen_18
theorem shX11_countOfKitchen_22 : cX11_countOfKitchen.data.toList.drop 22 = sxX11_countOfKitchen_22 := dSn 1 shX11_countOfKitchen_21
theorem shX11_countOfKitchen_23 : cX11_countOfKitchen.data.toList.drop 23 = sxX11_countOfKitchen_23 := dSn 1 shX11_countOfKitchen_22
theorem shX11_countOfKitchen_26 : cX11_countOfKitchen.data.toList.drop 26 = sxX11_countOfKitchen_26 := dSn 3 shX11_countOfKitchen_23
theorem shX11_countOfKitchen_27 : cX11_countOfKitchen.data.toList.drop 27 = sxX11_countOfKitchen_27 := dSn 1 shX11_countOfKitchen_26
theorem shX11_countOfKitchen_30 : cX11_countOfKitchen.data.toList.drop 30 = sxX11_countOfKitchen_30 := dSn 3 shX11_countOfKitchen_27
theorem shX11_countOfKitchen_33 : cX11_countOfKitchen.data.toList.drop 33 = sxX11_countOfKitchen_33 := dSn 3 shX11_countOfKitchen_30
theorem shX11_countOfKitchen_34 : cX11_countOfKitchen.data.toList.drop 34 = sxX11_countOfKitchen_34 := dSn 1 shX11_countOfKitchen_33
theorem shX11_countOfKitchen_37 : cX11_countOfKitchen.data.toList.drop 37 = sxX11_countOfKitchen_37 := dSn 3 shX11_countOfKitchen_34
theorem dX11_countOfKitchen_0 : decode cX11_countOfKitchen 0 = .ok (.aload_n 1, 1) := oc_43 shX11_countOfKitchen_0
theorem dX11_countOfKitchen_1 : decode cX11_countOfKitchen 1 = .ok (.ifnonnull 5, 3) := oc_199 shX11_countOfKitchen_1 sgw_0_5
theorem dX11_countOfKitchen_4 : decode cX11_countOfKitchen 4 = .ok (.iconst (-1), 1) := oc_2 shX11_countOfKitchen_4
theorem dX11_countOfKitchen_5 : decode cX11_countOfKitchen 5 = .ok (.ireturn, 1) := oc_172 shX11_countOfKitchen_5
theorem dX11_countOfKitchen_6 : decode cX11_countOfKitchen 6 = .ok (.iload_n 2, 1) := oc_28 shX11_countOfKitchen_6
theorem dX11_countOfKitchen_7 : decode cX11_countOfKitchen 7 = .ok (.iconst 1, 1) := oc_4 shX11_countOfKitchen_7
theorem dX11_countOfKitchen_8 : decode cX11_countOfKitchen 8 = .ok (.if_icmp .ne 13, 3) := oc_160 shX11_countOfKitchen_8 sgw_0_13
theorem dX11_countOfKitchen_21 : decode cX11_countOfKitchen 21 = .ok (.iload_n 2, 1) := oc_28 shX11_countOfKitchen_21
theorem dX11_countOfKitchen_22 : decode cX11_countOfKitchen 22 = .ok (.iconst 2, 1) := oc_5 shX11_countOfKitchen_22
theorem dX11_countOfKitchen_23 : decode cX11_countOfKitchen 23 = .ok (.if_icmp .ne 10, 3) := oc_160 shX11_countOfKitchen_23 sgw_0_10
theorem dX11_countOfKitchen_33 : decode cX11_countOfKitchen 33 = .ok (.aload_n 1, 1) := oc_43 shX11_countOfKitchen_33
theorem dX11_countOfKitchen_34 : decode cX11_countOfKitchen 34 = .ok (.getfield 260, 3) := oc_180 shX11_countOfKitchen_34
theorem dX11_countOfKitchen_37 : decode cX11_countOfKitchen 37 = .ok (.ireturn, 1) := oc_172 shX11_countOfKitchen_37
theorem dX11_countOfKitchen_26 : decode cX11_countOfKitchen 26 = .ok (.aload_n 1, 1) := oc_43 shX11_countOfKitchen_26
theorem dX11_countOfKitchen_27 : decode cX11_countOfKitchen 27 = .ok (.getfield 118, 3) := oc_180 shX11_countOfKitchen_27
theorem dX11_countOfKitchen_30 : decode cX11_countOfKitchen 30 = .ok (.goto 7, 3) := oc_167 shX11_countOfKitchen_30 sgw_0_7
theorem dX11_countOfKitchen_11 : decode cX11_countOfKitchen 11 = .ok (.aload_n 1, 1) := oc_43 shX11_countOfKitchen_11
theorem dX11_countOfKitchen_12 : decode cX11_countOfKitchen 12 = .ok (.getfield 168, 3) := oc_180 shX11_countOfKitchen_12
theorem dX11_countOfKitchen_15 : decode cX11_countOfKitchen 15 = .ok (.getfield 171, 3) := oc_180 shX11_countOfKitchen_15
theorem dX11_countOfKitchen_18 : decode cX11_countOfKitchen 18 = .ok (.goto 19, 3) := oc_167 shX11_countOfKitchen_18 sgw_0_19
noncomputable def sxX11_countOfAll_123 : List UInt8 := []
noncomputable def sxX11_countOfAll_122 : List UInt8 := 172 :: sxX11_countOfAll_123
noncomputable def sxX11_countOfAll_119 : List UInt8 := 180 :: 1 :: 246 :: sxX11_countOfAll_122
noncomputable def sxX11_countOfAll_118 : List UInt8 := 42 :: sxX11_countOfAll_119
noncomputable def sxX11_countOfAll_117 : List UInt8 := 172 :: sxX11_countOfAll_118
noncomputable def sxX11_countOfAll_114 : List UInt8 := 180 :: 1 :: 55 :: sxX11_countOfAll_117
noncomputable def sxX11_countOfAll_113 : List UInt8 := 42 :: sxX11_countOfAll_114
noncomputable def sxX11_countOfAll_112 : List UInt8 := 172 :: sxX11_countOfAll_113
noncomputable def sxX11_countOfAll_109 : List UInt8 := 182 :: 0 :: 84 :: sxX11_countOfAll_112
noncomputable def sxX11_countOfAll_106 : List UInt8 := 180 :: 0 :: 74 :: sxX11_countOfAll_109
noncomputable def sxX11_countOfAll_105 : List UInt8 := 42 :: sxX11_countOfAll_106
noncomputable def sxX11_countOfAll_104 : List UInt8 := 172 :: sxX11_countOfAll_105
noncomputable def sxX11_countOfAll_101 : List UInt8 := 182 :: 0 :: 84 :: sxX11_countOfAll_104
noncomputable def sxX11_countOfAll_98 : List UInt8 := 180 :: 0 :: 71 :: sxX11_countOfAll_101
noncomputable def sxX11_countOfAll_97 : List UInt8 := 42 :: sxX11_countOfAll_98
noncomputable def sxX11_countOfAll_96 : List UInt8 := 172 :: sxX11_countOfAll_97
noncomputable def sxX11_countOfAll_93 : List UInt8 := 182 :: 0 :: 84 :: sxX11_countOfAll_96
noncomputable def sxX11_countOfAll_90 : List UInt8 := 180 :: 0 :: 68 :: sxX11_countOfAll_93
noncomputable def sxX11_countOfAll_89 : List UInt8 := 42 :: sxX11_countOfAll_90
noncomputable def sxX11_countOfAll_88 : List UInt8 := 172 :: sxX11_countOfAll_89
noncomputable def sxX11_countOfAll_85 : List UInt8 := 180 :: 0 :: 171 :: sxX11_countOfAll_88
noncomputable def sxX11_countOfAll_82 : List UInt8 := 180 :: 0 :: 12 :: sxX11_countOfAll_85
noncomputable def sxX11_countOfAll_81 : List UInt8 := 42 :: sxX11_countOfAll_82
noncomputable def sxX11_countOfAll_80 : List UInt8 := 172 :: sxX11_countOfAll_81
noncomputable def sxX11_countOfAll_77 : List UInt8 := 182 :: 0 :: 152 :: sxX11_countOfAll_80
noncomputable def sxX11_countOfAll_74 : List UInt8 := 180 :: 0 :: 21 :: sxX11_countOfAll_77
noncomputable def sxX11_countOfAll_73 : List UInt8 := 42 :: sxX11_countOfAll_74
noncomputable def sxX11_countOfAll_72 : List UInt8 := 172 :: sxX11_countOfAll_73
noncomputable def sxX11_countOfAll_69 : List UInt8 := 182 :: 0 :: 84 :: sxX11_countOfAll_72
noncomputable def sxX11_countOfAll_66 : List UInt8 := 180 :: 0 :: 65 :: sxX11_countOfAll_69
noncomputable def sxX11_countOfAll_65 : List UInt8 := 42 :: sxX11_countOfAll_66
noncomputable def sxX11_countOfAll_64 : List UInt8 := 172 :: sxX11_countOfAll_65
noncomputable def sxX11_countOfAll_61 : List UInt8 := 182 :: 0 :: 84 :: sxX11_countOfAll_64
noncomputable def sxX11_countOfAll_58 : List UInt8 := 180 :: 0 :: 61 :: sxX11_countOfAll_61
noncomputable def sxX11_countOfAll_57 : List UInt8 := 42 :: sxX11_countOfAll_58
noncomputable def sxX11_countOfAll_56 : List UInt8 := 172 :: sxX11_countOfAll_57
noncomputable def sxX11_countOfAll_53 : List UInt8 := 180 :: 0 :: 103 :: sxX11_countOfAll_56
noncomputable def sxX11_countOfAll_52 : List UInt8 := 42 :: sxX11_countOfAll_53
noncomputable def sxX11_countOfAll_1 : List UInt8 := 170 :: 0 :: 0 :: 0 :: 0 :: 0 :: 117 :: 0 :: 0 :: 0 :: 0 :: 0 :: 0 :: 0 :: 8 :: 0 :: 0 :: 0 :: 51 :: 0 :: 0 :: 0 :: 56 :: 0 :: 0 :: 0 :: 64 :: 0 :: 0 :: 0 :: 72 :: 0 :: 0 :: 0 :: 80 :: 0 :: 0 :: 0 :: 88 :: 0 :: 0 :: 0 :: 96 :: 0 :: 0 :: 0 :: 104 :: 0 :: 0 :: 0 :: 112 :: sxX11_countOfAll_52
noncomputable def sxX11_countOfAll_0 : List UInt8 := 27 :: sxX11_countOfAll_1
theorem shX11_countOfAll_0 : cX11_countOfAll.data.toList.drop 0 = sxX11_countOfAll_0 := rfl
theorem shX11_countOfAll_1 : cX11_countOfAll.data.toList.drop 1 = sxX11_countOfAll_1 := dSn 1 shX11_countOfAll_0
theorem shX11_countOfAll_52 : cX11_countOfAll.data.toList.drop 52 = sxX11_countOfAll_52 := dSn 51 shX11_countOfAll_1
theorem shX11_countOfAll_53 : cX11_countOfAll.data.toList.drop 53 = sxX11_countOfAll_53 := dSn 1 shX11_countOfAll_52
theorem shX11_countOfAll_56 : cX11_countOfAll.data.toList.drop 56 = sxX11_countOfAll_56 := dSn 3 shX11_countOfAll_53
theorem shX11_countOfAll_57 : cX11_countOfAll.data.toList.drop 57 = sxX11_countOfAll_57 := dSn 1 shX11_countOfAll_56
theorem shX11_countOfAll_58 : cX11_countOfAll.data.toList.drop 58 = sxX11_countOfAll_58 := dSn 1 shX11_countOfAll_57
theorem shX11_countOfAll_61 : cX11_countOfAll.data.toList.drop 61 = sxX11_countOfAll_61 := dSn 3 shX11_countOfAll_58
theorem shX11_countOfAll_64 : cX11_countOfAll.data.toList.drop 64 = sxX11_countOfAll_64 := dSn 3 shX11_countOfAll_61
theorem shX11_countOfAll_65 : cX11_countOfAll.data.toList.drop 65 = sxX11_countOfAll_65 := dSn 1 shX11_countOfAll_64
theorem shX11_countOfAll_66 : cX11_countOfAll.data.toList.drop 66 = sxX11_countOfAll_66 := dSn 1 shX11_countOfAll_65
theorem shX11_countOfAll_69 : cX11_countOfAll.data.toList.drop 69 = sxX11_countOfAll_69 := dSn 3 shX11_countOfAll_66
theorem shX11_countOfAll_72 : cX11_countOfAll.data.toList.drop 72 = sxX11_countOfAll_72 := dSn 3 shX11_countOfAll_69
theorem shX11_countOfAll_73 : cX11_countOfAll.data.toList.drop 73 = sxX11_countOfAll_73 := dSn 1 shX11_countOfAll_72
theorem shX11_countOfAll_74 : cX11_countOfAll.data.toList.drop 74 = sxX11_countOfAll_74 := dSn 1 shX11_countOfAll_73
theorem shX11_countOfAll_77 : cX11_countOfAll.data.toList.drop 77 = sxX11_countOfAll_77 := dSn 3 shX11_countOfAll_74
theorem shX11_countOfAll_80 : cX11_countOfAll.data.toList.drop 80 = sxX11_countOfAll_80 := dSn 3 shX11_countOfAll_77
theorem shX11_countOfAll_81 : cX11_countOfAll.data.toList.drop 81 = sxX11_countOfAll_81 := dSn 1 shX11_countOfAll_80
theorem shX11_countOfAll_82 : cX11_countOfAll.data.toList.drop 82 = sxX11_countOfAll_82 := dSn 1 shX11_countOfAll_81
theorem shX11_countOfAll_85 : cX11_countOfAll.data.toList.drop 85 = sxX11_countOfAll_85 := dSn 3 shX11_countOfAll_82
theorem shX11_countOfAll_88 : cX11_countOfAll.data.toList.drop 88 = sxX11_countOfAll_88 := dSn 3 shX11_countOfAll_85
theorem shX11_countOfAll_89 : cX11_countOfAll.data.toList.drop 89 = sxX11_countOfAll_89 := dSn 1 shX11_countOfAll_88
theorem shX11_countOfAll_90 : cX11_countOfAll.data.toList.drop 90 = sxX11_countOfAll_90 := dSn 1 shX11_countOfAll_89
theorem shX11_countOfAll_93 : cX11_countOfAll.data.toList.drop 93 = sxX11_countOfAll_93 := dSn 3 shX11_countOfAll_90
theorem shX11_countOfAll_96 : cX11_countOfAll.data.toList.drop 96 = sxX11_countOfAll_96 := dSn 3 shX11_countOfAll_93
theorem shX11_countOfAll_97 : cX11_countOfAll.data.toList.drop 97 = sxX11_countOfAll_97 := dSn 1 shX11_countOfAll_96
theorem shX11_countOfAll_98 : cX11_countOfAll.data.toList.drop 98 = sxX11_countOfAll_98 := dSn 1 shX11_countOfAll_97
theorem shX11_countOfAll_101 : cX11_countOfAll.data.toList.drop 101 = sxX11_countOfAll_101 := dSn 3 shX11_countOfAll_98
theorem shX11_countOfAll_104 : cX11_countOfAll.data.toList.drop 104 = sxX11_countOfAll_104 := dSn 3 shX11_countOfAll_101
theorem shX11_countOfAll_105 : cX11_countOfAll.data.toList.drop 105 = sxX11_countOfAll_105 := dSn 1 shX11_countOfAll_104
theorem shX11_countOfAll_106 : cX11_countOfAll.data.toList.drop 106 = sxX11_countOfAll_106 := dSn 1 shX11_countOfAll_105
theorem shX11_countOfAll_109 : cX11_countOfAll.data.toList.drop 109 = sxX11_countOfAll_109 := dSn 3 shX11_countOfAll_106
theorem shX11_countOfAll_112 : cX11_countOfAll.data.toList.drop 112 = sxX11_countOfAll_112 := dSn 3 shX11_countOfAll_109
theorem shX11_countOfAll_113 : cX11_countOfAll.data.toList.drop 113 = sxX11_countOfAll_113 := dSn 1 shX11_countOfAll_112
theorem shX11_countOfAll_114 : cX11_countOfAll.data.toList.drop 114 = sxX11_countOfAll_114 := dSn 1 shX11_countOfAll_113
theorem shX11_countOfAll_117 : cX11_countOfAll.data.toList.drop 117 = sxX11_countOfAll_117 := dSn 3 shX11_countOfAll_114
theorem shX11_countOfAll_118 : cX11_countOfAll.data.toList.drop 118 = sxX11_countOfAll_118 := dSn 1 shX11_countOfAll_117
theorem shX11_countOfAll_119 : cX11_countOfAll.data.toList.drop 119 = sxX11_countOfAll_119 := dSn 1 shX11_countOfAll_118
theorem shX11_countOfAll_122 : cX11_countOfAll.data.toList.drop 122 = sxX11_countOfAll_122 := dSn 3 shX11_countOfAll_119
theorem dX11_countOfAll_0 : decode cX11_countOfAll 0 = .ok (.iload_n 1, 1) := oc_27 shX11_countOfAll_0
theorem dX11_countOfAll_1 : decode cX11_countOfAll 1 = .ok (.tableswitch 117 0 8 #[51, 56, 64, 72, 80, 88, 96, 104, 112], 51) := by decide +kernel
theorem dX11_countOfAll_118 : decode cX11_countOfAll 118 = .ok (.aload_n 0, 1) := oc_42 shX11_countOfAll_118
theorem dX11_countOfAll_119 : decode cX11_countOfAll 119 = .ok (.getfield 502, 3) := oc_180 shX11_countOfAll_119
theorem dX11_countOfAll_122 : decode cX11_countOfAll 122 = .ok (.ireturn, 1) := oc_172 shX11_countOfAll_122
theorem dX11_countOfAll_52 : decode cX11_countOfAll 52 = .ok (.aload_n 0, 1) := oc_42 shX11_countOfAll_52
theorem dX11_countOfAll_53 : decode cX11_countOfAll 53 = .ok (.getfield 103, 3) := oc_180 shX11_countOfAll_53
theorem dX11_countOfAll_56 : decode cX11_countOfAll 56 = .ok (.ireturn, 1) := oc_172 shX11_countOfAll_56
theorem dX11_countOfAll_57 : decode cX11_countOfAll 57 = .ok (.aload_n 0, 1) := oc_42 shX11_countOfAll_57
theorem dX11_countOfAll_58 : decode cX11_countOfAll 58 = .ok (.getfield 61, 3) := oc_180 shX11_countOfAll_58
theorem dX11_countOfAll_61 : decode cX11_countOfAll 61 = .ok (.invokevirtual 84, 3) := oc_182 shX11_countOfAll_61
theorem dX11_countOfAll_64 : decode cX11_countOfAll 64 = .ok (.ireturn, 1) := oc_172 shX11_countOfAll_64
theorem dX11_countOfAll_65 : decode cX11_countOfAll 65 = .ok (.aload_n 0, 1) := oc_42 shX11_countOfAll_65
theorem dX11_countOfAll_66 : decode cX11_countOfAll 66 = .ok (.getfield 65, 3) := oc_180 shX11_countOfAll_66
theorem dX11_countOfAll_69 : decode cX11_countOfAll 69 = .ok (.invokevirtual 84, 3) := oc_182 shX11_countOfAll_69
theorem dX11_countOfAll_72 : decode cX11_countOfAll 72 = .ok (.ireturn, 1) := oc_172 shX11_countOfAll_72
theorem dX11_countOfAll_73 : decode cX11_countOfAll 73 = .ok (.aload_n 0, 1) := oc_42 shX11_countOfAll_73
theorem dX11_countOfAll_74 : decode cX11_countOfAll 74 = .ok (.getfield 21, 3) := oc_180 shX11_countOfAll_74
theorem dX11_countOfAll_77 : decode cX11_countOfAll 77 = .ok (.invokevirtual 152, 3) := oc_182 shX11_countOfAll_77
theorem dX11_countOfAll_80 : decode cX11_countOfAll 80 = .ok (.ireturn, 1) := oc_172 shX11_countOfAll_80
theorem dX11_countOfAll_81 : decode cX11_countOfAll 81 = .ok (.aload_n 0, 1) := oc_42 shX11_countOfAll_81
theorem dX11_countOfAll_82 : decode cX11_countOfAll 82 = .ok (.getfield 12, 3) := oc_180 shX11_countOfAll_82
theorem dX11_countOfAll_85 : decode cX11_countOfAll 85 = .ok (.getfield 171, 3) := oc_180 shX11_countOfAll_85
theorem dX11_countOfAll_88 : decode cX11_countOfAll 88 = .ok (.ireturn, 1) := oc_172 shX11_countOfAll_88
theorem dX11_countOfAll_89 : decode cX11_countOfAll 89 = .ok (.aload_n 0, 1) := oc_42 shX11_countOfAll_89
theorem dX11_countOfAll_90 : decode cX11_countOfAll 90 = .ok (.getfield 68, 3) := oc_180 shX11_countOfAll_90
theorem dX11_countOfAll_93 : decode cX11_countOfAll 93 = .ok (.invokevirtual 84, 3) := oc_182 shX11_countOfAll_93
theorem dX11_countOfAll_96 : decode cX11_countOfAll 96 = .ok (.ireturn, 1) := oc_172 shX11_countOfAll_96
theorem dX11_countOfAll_97 : decode cX11_countOfAll 97 = .ok (.aload_n 0, 1) := oc_42 shX11_countOfAll_97
theorem dX11_countOfAll_98 : decode cX11_countOfAll 98 = .ok (.getfield 71, 3) := oc_180 shX11_countOfAll_98
theorem dX11_countOfAll_101 : decode cX11_countOfAll 101 = .ok (.invokevirtual 84, 3) := oc_182 shX11_countOfAll_101
theorem dX11_countOfAll_104 : decode cX11_countOfAll 104 = .ok (.ireturn, 1) := oc_172 shX11_countOfAll_104
theorem dX11_countOfAll_105 : decode cX11_countOfAll 105 = .ok (.aload_n 0, 1) := oc_42 shX11_countOfAll_105
theorem dX11_countOfAll_106 : decode cX11_countOfAll 106 = .ok (.getfield 74, 3) := oc_180 shX11_countOfAll_106
theorem dX11_countOfAll_109 : decode cX11_countOfAll 109 = .ok (.invokevirtual 84, 3) := oc_182 shX11_countOfAll_109
theorem dX11_countOfAll_112 : decode cX11_countOfAll 112 = .ok (.ireturn, 1) := oc_172 shX11_countOfAll_112
theorem dX11_countOfAll_113 : decode cX11_countOfAll 113 = .ok (.aload_n 0, 1) := oc_42 shX11_countOfAll_113
theorem dX11_countOfAll_114 : decode cX11_countOfAll 114 = .ok (.getfield 311, 3) := oc_180 shX11_countOfAll_114
theorem dX11_countOfAll_117 : decode cX11_countOfAll 117 = .ok (.ireturn, 1) := oc_172 shX11_countOfAll_117
noncomputable def sxX11_count_109 : List UInt8 := []
noncomputable def sxX11_count_108 : List UInt8 := 172 :: sxX11_count_109
noncomputable def sxX11_count_105 : List UInt8 := 180 :: 1 :: 178 :: sxX11_count_108
noncomputable def sxX11_count_104 : List UInt8 := 44 :: sxX11_count_105
noncomputable def sxX11_count_101 : List UInt8 := 167 :: 0 :: 7 :: sxX11_count_104
noncomputable def sxX11_count_100 : List UInt8 := 2 :: sxX11_count_101
noncomputable def sxX11_count_97 : List UInt8 := 199 :: 0 :: 7 :: sxX11_count_100
noncomputable def sxX11_count_96 : List UInt8 := 44 :: sxX11_count_97
noncomputable def sxX11_count_95 : List UInt8 := 77 :: sxX11_count_96
noncomputable def sxX11_count_92 : List UInt8 := 182 :: 1 :: 166 :: sxX11_count_95
noncomputable def sxX11_count_91 : List UInt8 := 100 :: sxX11_count_92
noncomputable def sxX11_count_89 : List UInt8 := 16 :: 50 :: sxX11_count_91
noncomputable def sxX11_count_88 : List UInt8 := 27 :: sxX11_count_89
noncomputable def sxX11_count_87 : List UInt8 := 42 :: sxX11_count_88
noncomputable def sxX11_count_84 : List UInt8 := 167 :: 0 :: 11 :: sxX11_count_87
noncomputable def sxX11_count_83 : List UInt8 := 1 :: sxX11_count_84
noncomputable def sxX11_count_80 : List UInt8 := 162 :: 0 :: 7 :: sxX11_count_83
noncomputable def sxX11_count_78 : List UInt8 := 16 :: 50 :: sxX11_count_80
noncomputable def sxX11_count_77 : List UInt8 := 27 :: sxX11_count_78
noncomputable def sxX11_count_76 : List UInt8 := 172 :: sxX11_count_77
noncomputable def sxX11_count_73 : List UInt8 := 180 :: 1 :: 125 :: sxX11_count_76
noncomputable def sxX11_count_72 : List UInt8 := 44 :: sxX11_count_73
noncomputable def sxX11_count_69 : List UInt8 := 167 :: 0 :: 7 :: sxX11_count_72
noncomputable def sxX11_count_68 : List UInt8 := 2 :: sxX11_count_69
noncomputable def sxX11_count_65 : List UInt8 := 199 :: 0 :: 7 :: sxX11_count_68
noncomputable def sxX11_count_64 : List UInt8 := 44 :: sxX11_count_65
noncomputable def sxX11_count_63 : List UInt8 := 77 :: sxX11_count_64
noncomputable def sxX11_count_60 : List UInt8 := 182 :: 1 :: 126 :: sxX11_count_63
noncomputable def sxX11_count_59 : List UInt8 := 100 :: sxX11_count_60
noncomputable def sxX11_count_57 : List UInt8 := 16 :: 40 :: sxX11_count_59
noncomputable def sxX11_count_56 : List UInt8 := 27 :: sxX11_count_57
noncomputable def sxX11_count_55 : List UInt8 := 42 :: sxX11_count_56
noncomputable def sxX11_count_52 : List UInt8 := 153 :: 0 :: 25 :: sxX11_count_55
noncomputable def sxX11_count_49 : List UInt8 := 184 :: 0 :: 80 :: sxX11_count_52
noncomputable def sxX11_count_47 : List UInt8 := 16 :: 49 :: sxX11_count_49
noncomputable def sxX11_count_45 : List UInt8 := 16 :: 40 :: sxX11_count_47
noncomputable def sxX11_count_44 : List UInt8 := 27 :: sxX11_count_45
noncomputable def sxX11_count_43 : List UInt8 := 172 :: sxX11_count_44
noncomputable def sxX11_count_40 : List UInt8 := 182 :: 2 :: 24 :: sxX11_count_43
noncomputable def sxX11_count_39 : List UInt8 := 108 :: sxX11_count_40
noncomputable def sxX11_count_37 : List UInt8 := 16 :: 10 :: sxX11_count_39
noncomputable def sxX11_count_36 : List UInt8 := 27 :: sxX11_count_37
noncomputable def sxX11_count_33 : List UInt8 := 182 :: 0 :: 114 :: sxX11_count_36
noncomputable def sxX11_count_32 : List UInt8 := 112 :: sxX11_count_33
noncomputable def sxX11_count_30 : List UInt8 := 16 :: 10 :: sxX11_count_32
noncomputable def sxX11_count_29 : List UInt8 := 27 :: sxX11_count_30
noncomputable def sxX11_count_28 : List UInt8 := 42 :: sxX11_count_29
noncomputable def sxX11_count_27 : List UInt8 := 42 :: sxX11_count_28
noncomputable def sxX11_count_24 : List UInt8 := 153 :: 0 :: 20 :: sxX11_count_27
noncomputable def sxX11_count_21 : List UInt8 := 184 :: 0 :: 80 :: sxX11_count_24
noncomputable def sxX11_count_19 : List UInt8 := 16 :: 39 :: sxX11_count_21
noncomputable def sxX11_count_17 : List UInt8 := 16 :: 10 :: sxX11_count_19
noncomputable def sxX11_count_16 : List UInt8 := 27 :: sxX11_count_17
noncomputable def sxX11_count_15 : List UInt8 := 172 :: sxX11_count_16
noncomputable def sxX11_count_12 : List UInt8 := 182 :: 2 :: 21 :: sxX11_count_15
noncomputable def sxX11_count_11 : List UInt8 := 27 :: sxX11_count_12
noncomputable def sxX11_count_10 : List UInt8 := 42 :: sxX11_count_11
noncomputable def sxX11_count_7 : List UInt8 := 153 :: 0 :: 9 :: sxX11_count_10
noncomputable def sxX11_count_4 : List UInt8 := 184 :: 0 :: 80 :: sxX11_count_7
noncomputable def sxX11_count_2 : List UInt8 := 16 :: 9 :: sxX11_count_4
noncomputable def sxX11_count_1 : List UInt8 := 3 :: sxX11_count_2
noncomputable def sxX11_count_0 : List UInt8 := 27 :: sxX11_count_1
theorem shX11_count_0 : cX11_count.data.toList.drop 0 = sxX11_count_0 := rfl
theorem shX11_count_1 : cX11_count.data.toList.drop 1 = sxX11_count_1 := dSn 1 shX11_count_0
theorem shX11_count_2 : cX11_count.data.toList.drop 2 = sxX11_count_2 := dSn 1 shX11_count_1
theorem shX11_count_4 : cX11_count.data.toList.drop 4 = sxX11_count_4 := dSn 2 shX11_count_2
theorem shX11_count_7 : cX11_count.data.toList.drop 7 = sxX11_count_7 := dSn 3 shX11_count_4
theorem shX11_count_10 : cX11_count.data.toList.drop 10 = sxX11_count_10 := dSn 3 shX11_count_7
theorem shX11_count_11 : cX11_count.data.toList.drop 11 = sxX11_count_11 := dSn 1 shX11_count_10
theorem shX11_count_12 : cX11_count.data.toList.drop 12 = sxX11_count_12 := dSn 1 shX11_count_11
theorem shX11_count_15 : cX11_count.data.toList.drop 15 = sxX11_count_15 := dSn 3 shX11_count_12
theorem shX11_count_16 : cX11_count.data.toList.drop 16 = sxX11_count_16 := dSn 1 shX11_count_15
theorem shX11_count_17 : cX11_count.data.toList.drop 17 = sxX11_count_17 := dSn 1 shX11_count_16
theorem shX11_count_19 : cX11_count.data.toList.drop 19 = sxX11_count_19 := dSn 2 shX11_count_17
theorem shX11_count_21 : cX11_count.data.toList.drop 21 = sxX11_count_21 := dSn 2 shX11_count_19
theorem shX11_count_24 : cX11_count.data.toList.drop 24 = sxX11_count_24 := dSn 3 shX11_count_21
theorem shX11_count_27 : cX11_count.data.toList.drop 27 = sxX11_count_27 := dSn 3 shX11_count_24
theorem shX11_count_28 : cX11_count.data.toList.drop 28 = sxX11_count_28 := dSn 1 shX11_count_27
theorem shX11_count_29 : cX11_count.data.toList.drop 29 = sxX11_count_29 := dSn 1 shX11_count_28
theorem shX11_count_30 : cX11_count.data.toList.drop 30 = sxX11_count_30 := dSn 1 shX11_count_29
theorem shX11_count_32 : cX11_count.data.toList.drop 32 = sxX11_count_32 := dSn 2 shX11_count_30
theorem shX11_count_33 : cX11_count.data.toList.drop 33 = sxX11_count_33 := dSn 1 shX11_count_32
theorem shX11_count_36 : cX11_count.data.toList.drop 36 = sxX11_count_36 := dSn 3 shX11_count_33
theorem shX11_count_37 : cX11_count.data.toList.drop 37 = sxX11_count_37 := dSn 1 shX11_count_36
theorem shX11_count_39 : cX11_count.data.toList.drop 39 = sxX11_count_39 := dSn 2 shX11_count_37
theorem shX11_count_40 : cX11_count.data.toList.drop 40 = sxX11_count_40 := dSn 1 shX11_count_39
theorem shX11_count_43 : cX11_count.data.toList.drop 43 = sxX11_count_43 := dSn 3 shX11_count_40
theorem shX11_count_44 : cX11_count.data.toList.drop 44 = sxX11_count_44 := dSn 1 shX11_count_43
theorem shX11_count_45 : cX11_count.data.toList.drop 45 = sxX11_count_45 := dSn 1 shX11_count_44
theorem shX11_count_47 : cX11_count.data.toList.drop 47 = sxX11_count_47 := dSn 2 shX11_count_45
theorem shX11_count_49 : cX11_count.data.toList.drop 49 = sxX11_count_49 := dSn 2 shX11_count_47
theorem shX11_count_52 : cX11_count.data.toList.drop 52 = sxX11_count_52 := dSn 3 shX11_count_49
theorem shX11_count_55 : cX11_count.data.toList.drop 55 = sxX11_count_55 := dSn 3 shX11_count_52
theorem shX11_count_56 : cX11_count.data.toList.drop 56 = sxX11_count_56 := dSn 1 shX11_count_55
theorem shX11_count_57 : cX11_count.data.toList.drop 57 = sxX11_count_57 := dSn 1 shX11_count_56
theorem shX11_count_59 : cX11_count.data.toList.drop 59 = sxX11_count_59 := dSn 2 shX11_count_57
theorem shX11_count_60 : cX11_count.data.toList.drop 60 = sxX11_count_60 := dSn 1 shX11_count_59
theorem shX11_count_63 : cX11_count.data.toList.drop 63 = sxX11_count_63 := dSn 3 shX11_count_60
theorem shX11_count_64 : cX11_count.data.toList.drop 64 = sxX11_count_64 := dSn 1 shX11_count_63
theorem shX11_count_65 : cX11_count.data.toList.drop 65 = sxX11_count_65 := dSn 1 shX11_count_64
theorem shX11_count_68 : cX11_count.data.toList.drop 68 = sxX11_count_68 := dSn 3 shX11_count_65
theorem shX11_count_69 : cX11_count.data.toList.drop 69 = sxX11_count_69 := dSn 1 shX11_count_68
theorem shX11_count_72 : cX11_count.data.toList.drop 72 = sxX11_count_72 := dSn 3 shX11_count_69
theorem shX11_count_73 : cX11_count.data.toList.drop 73 = sxX11_count_73 := dSn 1 shX11_count_72
theorem shX11_count_76 : cX11_count.data.toList.drop 76 = sxX11_count_76 := dSn 3 shX11_count_73
theorem shX11_count_77 : cX11_count.data.toList.drop 77 = sxX11_count_77 := dSn 1 shX11_count_76
theorem shX11_count_78 : cX11_count.data.toList.drop 78 = sxX11_count_78 := dSn 1 shX11_count_77
theorem shX11_count_80 : cX11_count.data.toList.drop 80 = sxX11_count_80 := dSn 2 shX11_count_78
theorem shX11_count_83 : cX11_count.data.toList.drop 83 = sxX11_count_83 := dSn 3 shX11_count_80
theorem shX11_count_84 : cX11_count.data.toList.drop 84 = sxX11_count_84 := dSn 1 shX11_count_83
theorem shX11_count_87 : cX11_count.data.toList.drop 87 = sxX11_count_87 := dSn 3 shX11_count_84
theorem shX11_count_88 : cX11_count.data.toList.drop 88 = sxX11_count_88 := dSn 1 shX11_count_87
theorem shX11_count_89 : cX11_count.data.toList.drop 89 = sxX11_count_89 := dSn 1 shX11_count_88
theorem shX11_count_91 : cX11_count.data.toList.drop 91 = sxX11_count_91 := dSn 2 shX11_count_89
theorem shX11_count_92 : cX11_count.data.toList.drop 92 = sxX11_count_92 := dSn 1 shX11_count_91
theorem shX11_count_95 : cX11_count.data.toList.drop 95 = sxX11_count_95 := dSn 3 shX11_count_92
theorem shX11_count_96 : cX11_count.data.toList.drop 96 = sxX11_count_96 := dSn 1 shX11_count_95
theorem shX11_count_97 : cX11_count.data.toList.drop 97 = sxX11_count_97 := dSn 1 shX11_count_96
theorem shX11_count_100 : cX11_count.data.toList.drop 100 = sxX11_count_100 := dSn 3 shX11_count_97
theorem shX11_count_101 : cX11_count.data.toList.drop 101 = sxX11_count_101 := dSn 1 shX11_count_100
theorem shX11_count_104 : cX11_count.data.toList.drop 104 = sxX11_count_104 := dSn 3 shX11_count_101
theorem shX11_count_105 : cX11_count.data.toList.drop 105 = sxX11_count_105 := dSn 1 shX11_count_104
theorem shX11_count_108 : cX11_count.data.toList.drop 108 = sxX11_count_108 := dSn 3 shX11_count_105
theorem dX11_count_0 : decode cX11_count 0 = .ok (.iload_n 1, 1) := oc_27 shX11_count_0
theorem dX11_count_1 : decode cX11_count 1 = .ok (.iconst 0, 1) := oc_3 shX11_count_1
theorem dX11_count_2 : decode cX11_count 2 = .ok (.bipush 9, 2) := oc_16 shX11_count_2 sgb_9
theorem dX11_count_4 : decode cX11_count 4 = .ok (.invokestatic 80, 3) := oc_184 shX11_count_4
theorem dX11_count_7 : decode cX11_count 7 = .ok (.ifCond .eq 9, 3) := oc_153 shX11_count_7 sgw_0_9
theorem dX11_count_10 : decode cX11_count 10 = .ok (.aload_n 0, 1) := oc_42 shX11_count_10
theorem dX11_count_11 : decode cX11_count 11 = .ok (.iload_n 1, 1) := oc_27 shX11_count_11
theorem dX11_count_12 : decode cX11_count 12 = .ok (.invokevirtual 533, 3) := oc_182 shX11_count_12
theorem dX11_count_15 : decode cX11_count 15 = .ok (.ireturn, 1) := oc_172 shX11_count_15
theorem dX11_count_16 : decode cX11_count 16 = .ok (.iload_n 1, 1) := oc_27 shX11_count_16
theorem dX11_count_17 : decode cX11_count 17 = .ok (.bipush 10, 2) := oc_16 shX11_count_17 sgb_10
theorem dX11_count_19 : decode cX11_count 19 = .ok (.bipush 39, 2) := oc_16 shX11_count_19 sgb_39
theorem dX11_count_21 : decode cX11_count 21 = .ok (.invokestatic 80, 3) := oc_184 shX11_count_21
theorem dX11_count_24 : decode cX11_count 24 = .ok (.ifCond .eq 20, 3) := oc_153 shX11_count_24 sgw_0_20
theorem dX11_count_27 : decode cX11_count 27 = .ok (.aload_n 0, 1) := oc_42 shX11_count_27
theorem dX11_count_28 : decode cX11_count 28 = .ok (.aload_n 0, 1) := oc_42 shX11_count_28
theorem dX11_count_29 : decode cX11_count 29 = .ok (.iload_n 1, 1) := oc_27 shX11_count_29
theorem dX11_count_30 : decode cX11_count 30 = .ok (.bipush 10, 2) := oc_16 shX11_count_30 sgb_10
theorem dX11_count_32 : decode cX11_count 32 = .ok (.irem, 1) := oc_112 shX11_count_32
theorem dX11_count_33 : decode cX11_count 33 = .ok (.invokevirtual 114, 3) := oc_182 shX11_count_33
theorem dX11_count_36 : decode cX11_count 36 = .ok (.iload_n 1, 1) := oc_27 shX11_count_36
theorem dX11_count_37 : decode cX11_count 37 = .ok (.bipush 10, 2) := oc_16 shX11_count_37 sgb_10
theorem dX11_count_39 : decode cX11_count 39 = .ok (.idiv, 1) := oc_108 shX11_count_39
theorem dX11_count_40 : decode cX11_count 40 = .ok (.invokevirtual 536, 3) := oc_182 shX11_count_40
theorem dX11_count_43 : decode cX11_count 43 = .ok (.ireturn, 1) := oc_172 shX11_count_43
theorem dX11_count_44 : decode cX11_count 44 = .ok (.iload_n 1, 1) := oc_27 shX11_count_44
theorem dX11_count_45 : decode cX11_count 45 = .ok (.bipush 40, 2) := oc_16 shX11_count_45 sgb_40
theorem dX11_count_47 : decode cX11_count 47 = .ok (.bipush 49, 2) := oc_16 shX11_count_47 sgb_49
theorem dX11_count_49 : decode cX11_count 49 = .ok (.invokestatic 80, 3) := oc_184 shX11_count_49
theorem dX11_count_52 : decode cX11_count 52 = .ok (.ifCond .eq 25, 3) := oc_153 shX11_count_52 sgw_0_25
theorem dX11_count_55 : decode cX11_count 55 = .ok (.aload_n 0, 1) := oc_42 shX11_count_55
theorem dX11_count_56 : decode cX11_count 56 = .ok (.iload_n 1, 1) := oc_27 shX11_count_56
theorem dX11_count_57 : decode cX11_count 57 = .ok (.bipush 40, 2) := oc_16 shX11_count_57 sgb_40
theorem dX11_count_59 : decode cX11_count 59 = .ok (.isub, 1) := oc_100 shX11_count_59
theorem dX11_count_60 : decode cX11_count 60 = .ok (.invokevirtual 382, 3) := oc_182 shX11_count_60
theorem dX11_count_63 : decode cX11_count 63 = .ok (.astore_n 2, 1) := oc_77 shX11_count_63
theorem dX11_count_64 : decode cX11_count 64 = .ok (.aload_n 2, 1) := oc_44 shX11_count_64
theorem dX11_count_65 : decode cX11_count 65 = .ok (.ifnonnull 7, 3) := oc_199 shX11_count_65 sgw_0_7
theorem dX11_count_72 : decode cX11_count 72 = .ok (.aload_n 2, 1) := oc_44 shX11_count_72
theorem dX11_count_73 : decode cX11_count 73 = .ok (.getfield 381, 3) := oc_180 shX11_count_73
theorem dX11_count_76 : decode cX11_count 76 = .ok (.ireturn, 1) := oc_172 shX11_count_76
theorem dX11_count_68 : decode cX11_count 68 = .ok (.iconst (-1), 1) := oc_2 shX11_count_68
theorem dX11_count_69 : decode cX11_count 69 = .ok (.goto 7, 3) := oc_167 shX11_count_69 sgw_0_7
theorem dX11_count_77 : decode cX11_count 77 = .ok (.iload_n 1, 1) := oc_27 shX11_count_77
theorem dX11_count_78 : decode cX11_count 78 = .ok (.bipush 50, 2) := oc_16 shX11_count_78 sgb_50
theorem dX11_count_80 : decode cX11_count 80 = .ok (.if_icmp .ge 7, 3) := oc_162 shX11_count_80 sgw_0_7
theorem dX11_count_87 : decode cX11_count 87 = .ok (.aload_n 0, 1) := oc_42 shX11_count_87
theorem dX11_count_88 : decode cX11_count 88 = .ok (.iload_n 1, 1) := oc_27 shX11_count_88
theorem dX11_count_89 : decode cX11_count 89 = .ok (.bipush 50, 2) := oc_16 shX11_count_89 sgb_50
theorem dX11_count_91 : decode cX11_count 91 = .ok (.isub, 1) := oc_100 shX11_count_91
theorem dX11_count_92 : decode cX11_count 92 = .ok (.invokevirtual 422, 3) := oc_182 shX11_count_92
theorem dX11_count_95 : decode cX11_count 95 = .ok (.astore_n 2, 1) := oc_77 shX11_count_95
theorem dX11_count_96 : decode cX11_count 96 = .ok (.aload_n 2, 1) := oc_44 shX11_count_96
theorem dX11_count_97 : decode cX11_count 97 = .ok (.ifnonnull 7, 3) := oc_199 shX11_count_97 sgw_0_7
theorem dX11_count_104 : decode cX11_count 104 = .ok (.aload_n 2, 1) := oc_44 shX11_count_104
theorem dX11_count_105 : decode cX11_count 105 = .ok (.getfield 434, 3) := oc_180 shX11_count_105
theorem dX11_count_108 : decode cX11_count 108 = .ok (.ireturn, 1) := oc_172 shX11_count_108
theorem dX11_count_100 : decode cX11_count 100 = .ok (.iconst (-1), 1) := oc_2 shX11_count_100
theorem dX11_count_101 : decode cX11_count 101 = .ok (.goto 7, 3) := oc_167 shX11_count_101 sgw_0_7
theorem dX11_count_83 : decode cX11_count 83 = .ok (.aconst_null, 1) := oc_1 shX11_count_83
theorem dX11_count_84 : decode cX11_count 84 = .ok (.goto 11, 3) := oc_167 shX11_count_84 sgw_0_11
set_option maxRecDepth 100000 in
set_option maxHeartbeats 4000000 in
theorem q_Xplitres (l : Launch) (D : va_G) (cI cB cZ : ClassId) (zz qq vv : Nat) (bt : Nat → Int32) (g : Nat → Nat) (ad : Nat → Nat → Nat) (cn : Nat → Nat) (In : Nat → Int32) (Fn : Nat → Nat → Int32) (k0 : Nat) (hB : CBX cn) (hk : k0 < cn 13) : Met l yX4_litres (CWS yX4_litres cX4_litres 1 (some .int)) (RM 0 0 0) (PBrx [.ref (ad 13 k0)] D cI cB cZ zz qq vv bt (wX cI (D.1 99) zz g ad cn In Fn)) (vp_Si (fun _ => True)) 0 0 (fun _ => False) := by
  refine en_rx rfl pn_RX4 (Nat.le_of_ble_eq_true rfl) (fun p e s m below meth c hx hb hml hown S hr hlocks hnm hP hK hXS hS ls hl => ?_)
  have hl : lv_has ls 1 [(0, .ref (ad 13 k0))] := hl
  have hb_cn : Hid (CBX cn) := hB
  replace hB : CBXh cn := hB
  refine lv_aload_n hx hb dX4_litres_0 rfl (lvA0 hl) ?_
  refine gf_RX4_16 S hK hP _ (xf_3 hk) (v := .int ((Fn 162) k0)) rfl dX4_litres_1 ?_
  refine lv_aload_n hx hb dX4_litres_4 rfl (lvA0 hl) ?_
  refine gf_RX4_13 S hK hP _ (xf_3 hk) (v := .int ((Fn 161) k0)) rfl dX4_litres_5 ?_
  refine lv_isub hx hb dX4_litres_8 ?_
  exact W.iret (v := (((Fn 162) k0) - ((Fn 161) k0))) hx hb hr (fun t ht hW => ⟨(((Fn 162) k0) - ((Fn 161) k0)), rfl, trivial, ht⟩) (fun _ h => absurd h List.not_mem_nil) dX4_litres_9
set_option maxRecDepth 100000 in
set_option maxHeartbeats 4000000 in
theorem q_Xhas (l : Launch) (D : va_G) (cI cB cZ : ClassId) (zz qq vv : Nat) (bt : Nat → Int32) (g : Nat → Nat) (ad : Nat → Nat → Nat) (cn : Nat → Nat) (In : Nat → Int32) (Fn : Nat → Nat → Int32) (k0 : Nat) (v0 : Int32) (hB : CBX cn) (hk : k0 < cn 12) : Met l yX0_has (CWS yX0_has cX0_has 2 (some .boolean)) (RM 0 0 0) (PBrx [.ref (ad 12 k0), .int v0] D cI cB cZ zz qq vv bt (wX cI (D.1 99) zz g ad cn In Fn)) (vp_Si (fun r => r = 0 ∨ r = 1)) 0 0 (fun _ => False) := by
  refine en_rx rfl pn_RX0 (Nat.le_of_ble_eq_true rfl) (fun p e s m below meth c hx hb hml hown S hr hlocks hnm hP hK hXS hS ls hl => ?_)
  have hl : lv_has ls 2 [(0, .ref (ad 12 k0)), (1, .int v0)] := hl
  have hb_cn : Hid (CBX cn) := hB
  replace hB : CBXh cn := hB
  refine lv_aload_n hx hb dX0_has_0 rfl (lvA0 hl) ?_
  refine gf_RX0_13 S hK hP _ (xf_2 hk) (v := .int ((Fn 144) k0)) rfl dX0_has_1 ?_
  refine lv_iload_n hx hb dX0_has_4 rfl (lvA1 hl) ?_
  refine lv_ishr hx hb dX0_has_5 ?_
  refine lv_iconst (v := 1) hx hb dX0_has_6 kic_1 ?_
  refine lv_iand hx hb dX0_has_7 ?_
  refine lv_if_eq (tgt := 15) hx hb dX0_has_8 rfl (fun c_1 => ?_) (fun c_1 => ?_)
  ·
    have tc_1 : (((((Fn 144) k0) >>> (v0 &&& 31)) &&& 1).toInt : Int) = 0 := congrArg Int32.toInt c_1
    refine lv_iconst (v := 0) hx hb dX0_has_15 kic_0 ?_
    exact W.zret (v := 0) hx hb hr rfl (fun t ht hW => ⟨0, rfl, (Or.inl rfl), ht⟩) (fun _ h => absurd h List.not_mem_nil) dX0_has_16
  ·
    have tc_1 : (((((Fn 144) k0) >>> (v0 &&& 31)) &&& 1).toInt : Int) ≠ 0 := fun q => c_1 (Int32.toInt_inj.mp q)
    refine lv_iconst (v := 1) hx hb dX0_has_11 kic_1 ?_
    refine lv_goto (tgt := 16) hx hb dX0_has_12 rfl ?_
    exact W.zret (v := 1) hx hb hr rfl (fun t ht hW => ⟨1, rfl, (Or.inr rfl), ht⟩) (fun _ h => absurd h List.not_mem_nil) dX0_has_16
set_option maxRecDepth 100000 in
set_option maxHeartbeats 4000000 in
theorem q_Xwater (l : Launch) (D : va_G) (cI cB cZ : ClassId) (zz qq vv : Nat) (bt : Nat → Int32) (g : Nat → Nat) (ad : Nat → Nat → Nat) (cn : Nat → Nat) (In : Nat → Int32) (Fn : Nat → Nat → Int32) (k0 : Nat) (hB : CBX cn) (hk : k0 < cn 12) : Met l yX0_water (CWS yX0_water cX0_water 1 (some .int)) (RM 0 0 0) (PBrx [.ref (ad 12 k0)] D cI cB cZ zz qq vv bt (wX cI (D.1 99) zz g ad cn In Fn)) (vp_Si (fun _ => True)) 0 0 (fun _ => False) := by
  refine en_rx rfl pn_RX0 (Nat.le_of_ble_eq_true rfl) (fun p e s m below meth c hx hb hml hown S hr hlocks hnm hP hK hXS hS ls hl => ?_)
  have hl : lv_has ls 1 [(0, .ref (ad 12 k0))] := hl
  have hb_cn : Hid (CBX cn) := hB
  replace hB : CBXh cn := hB
  refine lv_aload_n hx hb dX0_water_0 rfl (lvA0 hl) ?_
  refine gf_RX0_24 S hK hP _ (xf_2 hk) (v := .int ((Fn 146) k0)) rfl dX0_water_1 ?_
  refine lv_if_ne (tgt := 11) hx hb dX0_water_4 rfl (fun c_1 => ?_) (fun c_1 => ?_)
  ·
    have tc_1 : (((Fn 146) k0).toInt : Int) ≠ 0 := fun q => c_1 (Int32.toInt_inj.mp q)
    refine lv_aload_n hx hb dX0_water_11 rfl (lvA0 hl) ?_
    refine gf_RX0_30 S hK hP _ (xf_2 hk) (v := .int ((Fn 141) k0)) rfl dX0_water_12 ?_
    refine lv_aload_n hx hb dX0_water_15 rfl (lvA0 hl) ?_
    refine gf_RX0_24 S hK hP _ (xf_2 hk) (v := .int ((Fn 146) k0)) rfl dX0_water_16 ?_
    refine lv_idiv hx hb dX0_water_19 (by assumption) ?_
    exact W.iret (v := (((Fn 141) k0) / ((Fn 146) k0))) hx hb hr (fun t ht hW => ⟨(((Fn 141) k0) / ((Fn 146) k0)), rfl, trivial, ht⟩) (fun _ h => absurd h List.not_mem_nil) dX0_water_20
  ·
    have tc_1 : (((Fn 146) k0).toInt : Int) = 0 := congrArg Int32.toInt c_1
    refine lv_iconst (v := 0) hx hb dX0_water_7 kic_0 ?_
    refine lv_goto (tgt := 20) hx hb dX0_water_8 rfl ?_
    exact W.iret (v := 0) hx hb hr (fun t ht hW => ⟨0, rfl, trivial, ht⟩) (fun _ h => absurd h List.not_mem_nil) dX0_water_20
set_option maxRecDepth 100000 in
set_option maxHeartbeats 4000000 in
theorem q_Xacid (l : Launch) (D : va_G) (cI cB cZ : ClassId) (zz qq vv : Nat) (bt : Nat → Int32) (g : Nat → Nat) (ad : Nat → Nat → Nat) (cn : Nat → Nat) (In : Nat → Int32) (Fn : Nat → Nat → Int32) (k0 : Nat) (hB : CBX cn) (hk : k0 < cn 12) : Met l yX0_acid (CWS yX0_acid cX0_acid 1 (some .int)) (RM 0 0 0) (PBrx [.ref (ad 12 k0)] D cI cB cZ zz qq vv bt (wX cI (D.1 99) zz g ad cn In Fn)) (vp_Si (fun _ => True)) 0 0 (fun _ => False) := by
  refine en_rx rfl pn_RX0 (Nat.le_of_ble_eq_true rfl) (fun p e s m below meth c hx hb hml hown S hr hlocks hnm hP hK hXS hS ls hl => ?_)
  have hl : lv_has ls 1 [(0, .ref (ad 12 k0))] := hl
  have hb_cn : Hid (CBX cn) := hB
  replace hB : CBXh cn := hB
  refine lv_aload_n hx hb dX0_acid_0 rfl (lvA0 hl) ?_
  refine gf_RX0_24 S hK hP _ (xf_2 hk) (v := .int ((Fn 146) k0)) rfl dX0_acid_1 ?_
  refine lv_if_ne (tgt := 11) hx hb dX0_acid_4 rfl (fun c_1 => ?_) (fun c_1 => ?_)
  ·
    have tc_1 : (((Fn 146) k0).toInt : Int) ≠ 0 := fun q => c_1 (Int32.toInt_inj.mp q)
    refine lv_aload_n hx hb dX0_acid_11 rfl (lvA0 hl) ?_
    refine gf_RX0_36 S hK hP _ (xf_2 hk) (v := .int ((Fn 142) k0)) rfl dX0_acid_12 ?_
    refine lv_aload_n hx hb dX0_acid_15 rfl (lvA0 hl) ?_
    refine gf_RX0_24 S hK hP _ (xf_2 hk) (v := .int ((Fn 146) k0)) rfl dX0_acid_16 ?_
    refine lv_idiv hx hb dX0_acid_19 (by assumption) ?_
    exact W.iret (v := (((Fn 142) k0) / ((Fn 146) k0))) hx hb hr (fun t ht hW => ⟨(((Fn 142) k0) / ((Fn 146) k0)), rfl, trivial, ht⟩) (fun _ h => absurd h List.not_mem_nil) dX0_acid_20
  ·
    have tc_1 : (((Fn 146) k0).toInt : Int) = 0 := congrArg Int32.toInt c_1
    refine lv_iconst (v := 0) hx hb dX0_acid_7 kic_0 ?_
    refine lv_goto (tgt := 20) hx hb dX0_acid_8 rfl ?_
    exact W.iret (v := 0) hx hb hr (fun t ht hW => ⟨0, rfl, trivial, ht⟩) (fun _ h => absurd h List.not_mem_nil) dX0_acid_20
set_option maxRecDepth 100000 in
set_option maxHeartbeats 4000000 in
theorem q_XaddSample (l : Launch) (D : va_G) (cI cB cZ : ClassId) (zz qq vv : Nat) (bt : Nat → Int32) (g : Nat → Nat) (ad : Nat → Nat → Nat) (cn : Nat → Nat) (In : Nat → Int32) (Fn : Nat → Nat → Int32) (k0 : Nat) (v0 : Int32) (sz : Nat) (hB : CBX cn) (hk : k0 < cn 12) : Met l yX0_addSample (CWS yX0_addSample cX0_addSample 2 none) (RM 1 0 0) (PBx [.ref (ad 12 k0), .int v0] D cI cB cZ zz qq vv bt (wX cI (D.1 99) zz g ad cn In Fn) sz) (va_Qv (fun (u : (Nat → Nat) × (Nat → Int32) × (Nat → Nat → Int32)) => (fun c2 I2 F2 => Fr [] [] [143, 150] cn In Fn c2 I2 F2 ∧ CBX c2 ∧ (F2 143 = upd (Fn 143) k0 (Fn 143 k0 + 1))) u.1 u.2.1 u.2.2) (fun (u : (Nat → Nat) × (Nat → Int32) × (Nat → Nat → Int32)) (t : State) => va_P D vwCl (wX cI (D.1 99) zz g ad u.1 u.2.1 u.2.2) t.heap ∧ va_D (va_A (wX cI (D.1 99) zz g ad cn In Fn) sz) (wX cI (D.1 99) zz g ad u.1 u.2.1 u.2.2)) (va_A (wX cI (D.1 99) zz g ad cn In Fn) sz)) 0 0 (va_A (wX cI (D.1 99) zz g ad cn In Fn) sz) := by
  refine en_x (fun A => (va_Qv (fun (u : (Nat → Nat) × (Nat → Int32) × (Nat → Nat → Int32)) => (fun (c2 : Nat → Nat) (I2 : Nat → Int32) (F2 : Nat → Nat → Int32) => Fr [] [] [143, 150] cn In Fn c2 I2 F2 ∧ CBX c2 ∧ (F2 143 = upd (Fn 143) k0 (Fn 143 k0 + 1))) u.1 u.2.1 u.2.2) (fun (u : (Nat → Nat) × (Nat → Int32) × (Nat → Nat → Int32)) (t : State) => va_P D vwCl (wX cI (D.1 99) zz g ad u.1 u.2.1 u.2.2) t.heap ∧ va_D A (wX cI (D.1 99) zz g ad u.1 u.2.1 u.2.2)) A)) rfl rfl pn_RX0 (Nat.le_of_ble_eq_true rfl) (fun p e s m below meth c A hx hb hml hown S hr hlocks hnm hA hP hK hD hXS hS ls hl => ?_)
  have hl : lv_has ls 2 [(0, .ref (ad 12 k0)), (1, .int v0)] := hl
  have hb_cn : Hid (CBX cn) := hB
  replace hB : CBXh cn := hB
  refine lv_aload_n hx hb dX0_addSample_0 rfl (lvA0 hl) ?_
  refine gf_RX0_9 S hK hP _ (xf_2 hk) (v := .ref (ad 1 k0)) rfl dX0_addSample_1 ?_
  refine lv_aload_n hx hb dX0_addSample_4 rfl (lvA0 hl) ?_
  refine gf_RX0_42 S hK hP _ (xf_2 hk) (v := .int ((Fn 143) k0)) rfl dX0_addSample_5 ?_
  refine lv_iload_n hx hb dX0_addSample_8 rfl (lvA1 hl) ?_
  have hFc := va_free (wc := [((ad 1 k0), .inl (cI, 12, .inl (gA (Fn 150) 12 k0)))]) hD hS hA _ (one_im (xf_6 hk))
  refine va_callv (runS_w (As := [.ref (ad 1 k0), .int ((Fn 143) k0), .int v0]) (rest := []) S (q_l_put l D cI cB cZ (ad 1 k0) 12 (gA (Fn 150) 12 k0) ((Fn 143) k0) v0 s.heap.size (by (first | omega | (have zz0 := Hid.u hb_cn; omega)))) kS_RX0_45 hK hP hD _ (one_is (xf_6 hk)) (one_im (xf_6 hk)) rfl ⟨Nat.le_of_ble_eq_true rfl, Nat.le_of_ble_eq_true rfl⟩ ⟨Nat.le_of_ble_eq_true rfl, Nat.le_of_ble_eq_true rfl⟩ rfl hl.1 rfl (Nat.le_of_ble_eq_true rfl) dX0_addSample_9) hS (fun q _ h => hFc q h) hFc (fun u_3 t H1 locs ht hvm h_2 hB1 hz1 hk1 hS => ?_)
  obtain ⟨hP1, hD1⟩ := hB1
  rw [ht] at hP1
  obtain ⟨hP, hD⟩ := wset1 hP hD (xf_6 hk) hk1 hP1
  obtain rfl : u_3 = (putM (gA (Fn 150) 12 k0) 12 ((Fn 143) k0) v0) := h_2
  generalize H1 = H at hP hS ⊢
  have hP : va_P D vwCl (wX cI (D.1 99) zz g ad cn In (va_up Fn 150 (flat (Fn 150) 12 k0 (putM (gA (Fn 150) 12 k0) 12 ((Fn 143) k0) v0)))) H := va_P_eq (xsg_6 (by (first | omega | (have zz0 := Hid.u hb_cn; omega))) (putM_z (by (first | omega | (have zz0 := Hid.u hb_cn; omega))) gA_z)) hP
  have hD : va_D A (wX cI (D.1 99) zz g ad cn In (va_up Fn 150 (flat (Fn 150) 12 k0 (putM (gA (Fn 150) 12 k0) 12 ((Fn 143) k0) v0)))) := va_D_eq (xsg_6 (by (first | omega | (have zz0 := Hid.u hb_cn; omega))) (putM_z (by (first | omega | (have zz0 := Hid.u hb_cn; omega))) gA_z)) hD
  refine lv_aload_n hx hb dX0_addSample_12 rfl (lvA0 hl) ?_
  refine lv_dup hx hb dX0_addSample_13 rfl ?_
  refine gf_RX0_42 S hK hP _ (xf_2 hk) (v := .int ((Fn 143) k0)) rfl dX0_addSample_14 ?_
  refine lv_iconst (v := 1) hx hb dX0_addSample_17 kic_1 ?_
  refine lv_iadd hx hb dX0_addSample_18 ?_
  refine pf_RX0_42 S hK hP hD hS _ (xf_2 hk) (v := .int (((Fn 143) k0) + 1)) (Nat.le_of_ble_eq_true rfl) rfl rfl dX0_addSample_19 (fun H locs hP hD hS => ?_)
  have hP : va_P D vwCl (wX cI (D.1 99) zz g ad cn In (va_up (va_up Fn 150 (flat (Fn 150) 12 k0 (putM (gA (Fn 150) 12 k0) 12 ((Fn 143) k0) v0))) 143 (upd (Fn 143) k0 (((Fn 143) k0) + 1)))) H := va_P_eq (xs_143 (by (first | omega | (have zz0 := Hid.u hb_cn; omega)))) hP
  have hD : va_D A (wX cI (D.1 99) zz g ad cn In (va_up (va_up Fn 150 (flat (Fn 150) 12 k0 (putM (gA (Fn 150) 12 k0) 12 ((Fn 143) k0) v0))) 143 (upd (Fn 143) k0 (((Fn 143) k0) + 1)))) := va_D_eq (xs_143 (by (first | omega | (have zz0 := Hid.u hb_cn; omega)))) hD
  exact W.vret hx hb hr (fun t ht hW => ⟨⟨(cn, In, (va_up (va_up Fn 150 (flat (Fn 150) 12 k0 (putM (gA (Fn 150) 12 k0) 12 ((Fn 143) k0) v0))) 143 (upd (Fn 143) k0 (((Fn 143) k0) + 1)))), rfl, ⟨(Fr.mo (Fr.f 143 (Fr.f 150 Fr.rf)) (sbl rfl) (sbl rfl) (sbl rfl)), hB, (by show (va_up (va_up Fn 150 (flat (Fn 150) 12 k0 (putM (gA (Fn 150) 12 k0) 12 ((Fn 143) k0) v0))) 143 (upd (Fn 143) k0 (((Fn 143) k0) + 1))) 143 = upd (Fn 143) k0 (Fn 143 k0 + 1); rfl)⟩, by rw [ht]; exact hP, hD⟩, hS.F ht⟩) hS.2.2 dX0_addSample_22
set_option maxRecDepth 100000 in
set_option maxHeartbeats 4000000 in
theorem q_XsamplesFrom (l : Launch) (D : va_G) (cI cB cZ : ClassId) (zz qq vv : Nat) (bt : Nat → Int32) (g : Nat → Nat) (ad : Nat → Nat → Nat) (cn : Nat → Nat) (In : Nat → Int32) (Fn : Nat → Nat → Int32) (k0 n0 : Nat) (v0 : Int32) (hB : CBX cn) (hk : k0 < cn 12) (es : Fn 143 k0 = nI n0) (hn : n0 ≤ 12) : Met l yX0_samplesFrom (CWS yX0_samplesFrom cX0_samplesFrom 4 (some .int)) (RM 1 0 0) (PBrx [.ref (ad 12 k0), .int v0] D cI cB cZ zz qq vv bt (wX cI (D.1 99) zz g ad cn In Fn)) (vp_Si (fun _ => True)) 0 0 (fun _ => False) := by
  refine en_rx rfl pn_RX0 (Nat.le_of_ble_eq_true rfl) (fun p e s m below meth c hx hb hml hown S hr hlocks hnm hP hK hXS hS ls hl => ?_)
  have hl : lv_has ls 4 [(0, .ref (ad 12 k0)), (1, .int v0)] := hl
  have hb_cn : Hid (CBX cn) := hB
  replace hB : CBXh cn := hB
  refine lv_iconst (v := 0) hx hb dX0_samplesFrom_0 kic_0 ?_
  refine lv_istore_n (lv' := [(2, .int 0), (0, .ref (ad 12 k0)), (1, .int v0)]) hx hb dX0_samplesFrom_1 rfl hl (ltb rfl) rfl (fun ls hl => ?_)
  refine lv_iconst (v := 0) hx hb dX0_samplesFrom_2 kic_0 ?_
  refine lv_istore_n (lv' := [(3, .int 0), (2, .int 0), (0, .ref (ad 12 k0)), (1, .int v0)]) hx hb dX0_samplesFrom_3 rfl hl (ltb rfl) rfl (fun ls hl => ?_)
  have lp_4 : ∀ (n : Nat) (i4 : Nat) (x4_2 : Int32) , n0 - i4 < n → (i4 ≤ n0) → ∀ ls : Array Slot, lv_has ls 4 [(3, .int (nI i4)), (2, .int x4_2), (0, .ref (ad 12 k0)), (1, .int v0)] → W p l e (RM 1 0 0) s m ([.ref (ad 12 k0), .int v0]).toArray below meth c s.heap [] 0 0 (MQ below (vp_Si (fun _ => True)) ([.ref (ad 12 k0), .int v0]).toArray s 0 0 (fun _ => False)) (F0 m 4 ls []) := by
    intro n4
    induction n4 with
    | zero => intros; (first | omega | (have zz0 := Hid.u hb_cn; omega))
    | succ n4 ih4 =>
      intro i4 x4_2 hmu4 hinv4 ls hl
      have hr4 := hinv4
      have ti4 : (nI i4).toInt = (i4 : Int) := nI_toInt (by (first | omega | (have zz0 := Hid.u hb_cn; omega)))
      refine lv_iload_n hx hb dX0_samplesFrom_4 rfl (lvA0 hl) ?_
      refine lv_aload_n hx hb dX0_samplesFrom_5 rfl (lvA2 hl) ?_
      refine gf_RX0_42 S hK hP _ (xf_2 hk) (v := .int ((Fn 143) k0)) rfl dX0_samplesFrom_6 ?_
      refine lv_topi (fun y_1 ey_1 => ?_)
      obtain rfl : y_1 = (nI n0) := ey_1.trans es
      have : (nI n0).toInt = ((n0 : Nat) : Int) := nI_toInt (by (first | omega | (have zz0 := Hid.u hb_cn; omega)))
      refine lv_icmp_ge (tgt := 38) hx hb dX0_samplesFrom_9 rfl (fun c_2 => ?_) (fun c_2 => ?_)
      ·
        have tc_2 : ((nI n0).toInt : Int) ≤ (nI i4).toInt := Int32.le_iff_toInt_le.mp c_2
        refine lv_iload_n hx hb dX0_samplesFrom_38 rfl (lvA1 hl) ?_
        exact W.iret (v := x4_2) hx hb hr (fun t ht hW => ⟨x4_2, rfl, trivial, ht⟩) (fun _ h => absurd h List.not_mem_nil) dX0_samplesFrom_39
      ·
        have tc_2 : ((nI i4).toInt : Int) < (nI n0).toInt := Int32.lt_iff_toInt_lt.mp (Int32.not_le.mp c_2)
        refine lv_iload_n hx hb dX0_samplesFrom_12 rfl (lvA1 hl) ?_
        refine lv_aload_n hx hb dX0_samplesFrom_13 rfl (lvA2 hl) ?_
        refine gf_RX0_9 S hK hP _ (xf_2 hk) (v := .ref (ad 1 k0)) rfl dX0_samplesFrom_14 ?_
        refine lv_iload_n hx hb dX0_samplesFrom_17 rfl (lvA0 hl) ?_
        refine vp_callSi (runS_r (As := [.ref (ad 1 k0), .int (nI i4)]) (rest := [.int x4_2]) S (q_l_at l D cI cB cZ (ad 1 k0) 12 (gA (Fn 150) 12 k0) (nI i4) (by (first | omega | (have zz0 := Hid.u hb_cn; omega)))) kS_RX0_51 hK hP _ (one_is (xf_6 hk)) ⟨Nat.le_of_ble_eq_true rfl, Nat.le_of_ble_eq_true rfl⟩ ⟨Nat.le_of_ble_eq_true rfl, Nat.le_of_ble_eq_true rfl⟩ rfl hl.1 rfl (Nat.le_of_ble_eq_true rfl) dX0_samplesFrom_18) (fun r_3 h_4 => ?_)
        subst h_4
        refine lv_iload_n hx hb dX0_samplesFrom_21 rfl (lvA3 hl) ?_
        refine lv_icmp_lt (tgt := 29) hx hb dX0_samplesFrom_22 rfl (fun c_5 => ?_) (fun c_5 => ?_)
        ·
          have tc_5 : ((atM (gA (Fn 150) 12 k0) 12 (nI i4)).toInt : Int) < v0.toInt := Int32.lt_iff_toInt_lt.mp c_5
          refine lv_iconst (v := 0) hx hb dX0_samplesFrom_29 kic_0 ?_
          refine lv_iadd hx hb dX0_samplesFrom_30 ?_
          refine lv_istore_n (lv' := [(2, .int (x4_2 + 0)), (3, .int (nI i4)), (0, .ref (ad 12 k0)), (1, .int v0)]) hx hb dX0_samplesFrom_31 rfl hl (ltb rfl) rfl (fun ls hl => ?_)
          refine lv_iinc (v := (nI (i4 + 1))) (lv' := [(3, .int (nI (i4 + 1))), (2, .int (x4_2 + 0)), (0, .ref (ad 12 k0)), (1, .int v0)]) hx hb dX0_samplesFrom_32 hl (k := 1) rfl (nI_1 _) (ltb rfl) rfl (fun ls hl => ?_)
          refine lv_goto (tgt := 4) hx hb dX0_samplesFrom_35 rfl ?_
          exact ih4 (i4 + 1) (x4_2 + 0) (by (first | omega | (have zz0 := Hid.u hb_cn; omega))) (by (first | omega | (have zz0 := Hid.u hb_cn; omega))) ls (lv_sub hl [0, 1, 2, 3] rfl)
        ·
          have tc_5 : (v0.toInt : Int) ≤ (atM (gA (Fn 150) 12 k0) 12 (nI i4)).toInt := Int32.le_iff_toInt_le.mp (Int32.not_lt.mp c_5)
          refine lv_iconst (v := 1) hx hb dX0_samplesFrom_25 kic_1 ?_
          refine lv_goto (tgt := 30) hx hb dX0_samplesFrom_26 rfl ?_
          refine lv_iadd hx hb dX0_samplesFrom_30 ?_
          refine lv_istore_n (lv' := [(2, .int (x4_2 + 1)), (3, .int (nI i4)), (0, .ref (ad 12 k0)), (1, .int v0)]) hx hb dX0_samplesFrom_31 rfl hl (ltb rfl) rfl (fun ls hl => ?_)
          refine lv_iinc (v := (nI (i4 + 1))) (lv' := [(3, .int (nI (i4 + 1))), (2, .int (x4_2 + 1)), (0, .ref (ad 12 k0)), (1, .int v0)]) hx hb dX0_samplesFrom_32 hl (k := 1) rfl (nI_1 _) (ltb rfl) rfl (fun ls hl => ?_)
          refine lv_goto (tgt := 4) hx hb dX0_samplesFrom_35 rfl ?_
          exact ih4 (i4 + 1) (x4_2 + 1) (by (first | omega | (have zz0 := Hid.u hb_cn; omega))) (by (first | omega | (have zz0 := Hid.u hb_cn; omega))) ls (lv_sub hl [0, 1, 2, 3] rfl)
  exact lp_4 _ 0 0 (Nat.lt_succ_self _) (by (first | omega | (have zz0 := Hid.u hb_cn; omega))) ls (lv_sub hl [0, 1, 2, 3] rfl)
set_option maxRecDepth 100000 in
set_option maxHeartbeats 4000000 in
theorem q_Xclaim (l : Launch) (D : va_G) (cI cB cZ : ClassId) (zz qq vv : Nat) (bt : Nat → Int32) (g : Nat → Nat) (ad : Nat → Nat → Nat) (cn : Nat → Nat) (In : Nat → Int32) (Fn : Nat → Nat → Int32) (v0 v1 v2 : Int32) (hB : CBX cn) (hM : ∀ k : Nat, k < cn 12 → ∃ n : Nat, n ≤ 12 ∧ Fn 143 k = nI n) : Met l yX11_claim (CWS yX11_claim cX11_claim 7 (some .int)) (RM 4 0 0) (PBrx [.ref (g 0), .int v0, .int v1, .int v2] D cI cB cZ zz qq vv bt (wX cI (D.1 99) zz g ad cn In Fn)) (vp_Si (fun _ => True)) 0 0 (fun _ => False) := by
  refine en_rx rfl pn_RX11 (Nat.le_of_ble_eq_true rfl) (fun p e s m below meth c hx hb hml hown S hr hlocks hnm hP hK hXS hS ls hl => ?_)
  have hl : lv_has ls 7 [(0, .ref (g 0)), (1, .int v0), (2, .int v1), (3, .int v2)] := hl
  have hb_cn : Hid (CBX cn) := hB
  replace hB : CBXh cn := hB
  refine lv_aload_n hx hb dX11_claim_0 rfl (lvA0 hl) ?_
  refine lv_iload_n hx hb dX11_claim_1 rfl (lvA1 hl) ?_
  refine va_csq (runV_rxa (As := [.int v0]) (rest := []) S (q_XbatchAt l D cI cB cZ zz qq vv bt g ad cn In Fn v0 hB) kV_RX11_382 hK hXS hS hP 0 xo_0 rfl rfl ⟨Nat.le_of_ble_eq_true rfl, Nat.le_of_ble_eq_true rfl⟩ ⟨Nat.le_of_ble_eq_true rfl, Nat.le_of_ble_eq_true rfl⟩ rfl hl.1 rfl (Nat.le_of_ble_eq_true rfl) dX11_claim_2) (fun r_1 h_2 => ?_)
  rcases h_2 with ⟨mr_1, er_1, hr_1, rfl⟩ | ⟨hr_1, rfl⟩
  ·
    refine lv_astore (lv' := [(4, .ref (ad 12 mr_1)), (0, .ref (g 0)), (1, .int v0), (2, .int v1), (3, .int v2)]) hx hb dX11_claim_5 hl (ltb rfl) rfl (fun ls hl => ?_)
    refine lv_aload hx hb dX11_claim_7 (lvA0 hl) ?_
    refine lv_ifnull hx hb dX11_claim_9 ?_
    refine lv_iload_n hx hb dX11_claim_12 rfl (lvA3 hl) ?_
    refine lv_iconst (v := 0) hx hb dX11_claim_13 kic_0 ?_
    refine lv_sipush (v := 1000) hx hb dX11_claim_14 (by decide) ?_
    refine vp_callSi (runS_r (As := [.int v1, .int 0, .int 1000]) (rest := []) S (q_l_within l D cI cB cZ v1 0 1000) kS_RX11_80 hK hP [] rfl ⟨Nat.le_of_ble_eq_true rfl, Nat.le_of_ble_eq_true rfl⟩ ⟨Nat.le_of_ble_eq_true rfl, Nat.le_of_ble_eq_true rfl⟩ rfl hl.1 rfl (Nat.le_of_ble_eq_true rfl) dX11_claim_17) (fun r_3 h_4 => ?_)
    rcases h_4 with ⟨rfl, h_4⟩ | ⟨rfl, h_4⟩
    ·
      have h_4 : 0 ≤ v1.toInt ∧ v1.toInt ≤ 1000 := h_4
      refine lv_if_eq (tgt := 34) hx hb dX11_claim_20 rfl (fun h => absurd h cq_eq_1_0) (fun _ => ?_)
      refine lv_iload_n hx hb dX11_claim_23 rfl (lvA4 hl) ?_
      refine lv_iconst (v := 0) hx hb dX11_claim_24 kic_0 ?_
      refine lv_sipush (v := 1000) hx hb dX11_claim_25 (by decide) ?_
      refine vp_callSi (runS_r (As := [.int v2, .int 0, .int 1000]) (rest := []) S (q_l_within l D cI cB cZ v2 0 1000) kS_RX11_80 hK hP [] rfl ⟨Nat.le_of_ble_eq_true rfl, Nat.le_of_ble_eq_true rfl⟩ ⟨Nat.le_of_ble_eq_true rfl, Nat.le_of_ble_eq_true rfl⟩ rfl hl.1 rfl (Nat.le_of_ble_eq_true rfl) dX11_claim_28) (fun r_5 h_6 => ?_)
      rcases h_6 with ⟨rfl, h_6⟩ | ⟨rfl, h_6⟩
      ·
        have h_6 : 0 ≤ v2.toInt ∧ v2.toInt ≤ 1000 := h_6
        refine lv_if_ne (tgt := 36) hx hb dX11_claim_31 rfl (fun _ => ?_) (fun h => absurd h cq_eq_1_0)
        obtain ⟨n9, hn9, en9⟩ := hM mr_1 (by (first | omega | (have zz0 := Hid.u hb_cn; omega)))
        refine lv_aload hx hb dX11_claim_36 (lvA0 hl) ?_
        refine lv_iload_n hx hb dX11_claim_38 rfl (lvA3 hl) ?_
        refine lv_iload_n hx hb dX11_claim_39 rfl (lvA4 hl) ?_
        refine lv_isub hx hb dX11_claim_40 ?_
        have kf_1 : mr_1 < cn 12 := by (first | omega | (have zz0 := Hid.u hb_cn; omega))
        refine vp_callSi (runV_rxa (As := [.int (v1 - v2)]) (rest := []) S (q_XsamplesFrom l D cI cB cZ zz qq vv bt g ad cn In Fn mr_1 n9 (v1 - v2) hB (by (first | omega | (have zz0 := Hid.u hb_cn; omega))) en9 hn9) kV_RX11_447 hK hXS hS hP _ (xf_2 kf_1) rfl rfl ⟨Nat.le_of_ble_eq_true rfl, Nat.le_of_ble_eq_true rfl⟩ ⟨Nat.le_of_ble_eq_true rfl, Nat.le_of_ble_eq_true rfl⟩ rfl hl.1 rfl (Nat.le_of_ble_eq_true rfl) dX11_claim_41) (fun r_7 h_8 => ?_)
        refine lv_istore (lv' := [(5, .int r_7), (4, .ref (ad 12 mr_1)), (0, .ref (g 0)), (1, .int v0), (2, .int v1), (3, .int v2)]) hx hb dX11_claim_44 hl (ltb rfl) rfl (fun ls hl => ?_)
        refine lv_aload hx hb dX11_claim_46 (lvA1 hl) ?_
        refine gf_RX11_441 S hK hP _ (xf_2 kf_1) (v := .int ((Fn 143) mr_1)) rfl dX11_claim_48 ?_
        refine lv_iload hx hb dX11_claim_51 (lvA0 hl) ?_
        refine lv_isub hx hb dX11_claim_53 ?_
        refine lv_istore (lv' := [(6, .int (((Fn 143) mr_1) - r_7)), (5, .int r_7), (4, .ref (ad 12 mr_1)), (0, .ref (g 0)), (1, .int v0), (2, .int v1), (3, .int v2)]) hx hb dX11_claim_54 hl (ltb rfl) rfl (fun ls hl => ?_)
        refine lv_iload hx hb dX11_claim_56 (lvA1 hl) ?_
        refine lv_iload hx hb dX11_claim_58 (lvA0 hl) ?_
        refine lv_icmp_le (tgt := 67) hx hb dX11_claim_60 rfl (fun c_9 => ?_) (fun c_9 => ?_)
        ·
          have tc_9 : (r_7.toInt : Int) ≤ (((Fn 143) mr_1) - r_7).toInt := Int32.le_iff_toInt_le.mp c_9
          refine lv_iload hx hb dX11_claim_67 (lvA0 hl) ?_
          refine lv_iload hx hb dX11_claim_69 (lvA1 hl) ?_
          refine lv_icmp_le (tgt := 78) hx hb dX11_claim_71 rfl (fun c_10 => ?_) (fun c_10 => ?_)
          ·
            have tc_10 : ((((Fn 143) mr_1) - r_7).toInt : Int) ≤ r_7.toInt := Int32.le_iff_toInt_le.mp c_10
            refine lv_iconst (v := 2) hx hb dX11_claim_78 kic_2 ?_
            exact W.iret (v := 2) hx hb hr (fun t ht hW => ⟨2, rfl, trivial, ht⟩) (fun _ h => absurd h List.not_mem_nil) dX11_claim_79
          ·
            have tc_10 : (r_7.toInt : Int) < (((Fn 143) mr_1) - r_7).toInt := Int32.lt_iff_toInt_lt.mp (Int32.not_le.mp c_10)
            refine lv_iconst (v := 0) hx hb dX11_claim_74 kic_0 ?_
            refine lv_goto (tgt := 79) hx hb dX11_claim_75 rfl ?_
            exact W.iret (v := 0) hx hb hr (fun t ht hW => ⟨0, rfl, trivial, ht⟩) (fun _ h => absurd h List.not_mem_nil) dX11_claim_79
        ·
          have tc_9 : ((((Fn 143) mr_1) - r_7).toInt : Int) < r_7.toInt := Int32.lt_iff_toInt_lt.mp (Int32.not_le.mp c_9)
          refine lv_iconst (v := 1) hx hb dX11_claim_63 kic_1 ?_
          refine lv_goto (tgt := 79) hx hb dX11_claim_64 rfl ?_
          exact W.iret (v := 1) hx hb hr (fun t ht hW => ⟨1, rfl, trivial, ht⟩) (fun _ h => absurd h List.not_mem_nil) dX11_claim_79
      ·
        have h_6 : ¬ (0 ≤ v2.toInt ∧ v2.toInt ≤ 1000) := h_6
        refine lv_if_ne (tgt := 36) hx hb dX11_claim_31 rfl (fun h => absurd h cq_eq_0_0) (fun _ => ?_)
        refine lv_iconst (v := (-1)) hx hb dX11_claim_34 kic_m1 ?_
        exact W.iret (v := (-1)) hx hb hr (fun t ht hW => ⟨(-1), rfl, trivial, ht⟩) (fun _ h => absurd h List.not_mem_nil) dX11_claim_35
    ·
      have h_4 : ¬ (0 ≤ v1.toInt ∧ v1.toInt ≤ 1000) := h_4
      refine lv_if_eq (tgt := 34) hx hb dX11_claim_20 rfl (fun _ => ?_) (fun h => absurd h cq_eq_0_0)
      refine lv_iconst (v := (-1)) hx hb dX11_claim_34 kic_m1 ?_
      exact W.iret (v := (-1)) hx hb hr (fun t ht hW => ⟨(-1), rfl, trivial, ht⟩) (fun _ h => absurd h List.not_mem_nil) dX11_claim_35
  ·
    refine lv_astoreN (lv' := [(4, .null), (0, .ref (g 0)), (1, .int v0), (2, .int v1), (3, .int v2)]) hx hb dX11_claim_5 hl (ltb rfl) rfl (fun ls hl => ?_)
    refine lv_aloadN hx hb dX11_claim_7 (lvA0 hl) ?_
    refine lv_ifnullN (tgt := 34) hx hb dX11_claim_9 rfl ?_
    refine lv_iconst (v := (-1)) hx hb dX11_claim_34 kic_m1 ?_
    exact W.iret (v := (-1)) hx hb hr (fun t ht hW => ⟨(-1), rfl, trivial, ht⟩) (fun _ h => absurd h List.not_mem_nil) dX11_claim_35
set_option maxRecDepth 100000 in
set_option maxHeartbeats 4000000 in
theorem q_XsharesWithEarlier (l : Launch) (D : va_G) (cI cB cZ : ClassId) (zz qq vv : Nat) (bt : Nat → Int32) (g : Nat → Nat) (ad : Nat → Nat → Nat) (cn : Nat → Nat) (In : Nat → Int32) (Fn : Nat → Nat → Int32) (p0 k0 : Nat) (hB : CBX cn) (hk : k0 < cn 13) (hp : p0 ≤ 40) : Met l yX11_sharesWithEarlier (CWS yX11_sharesWithEarlier cX11_sharesWithEarlier 5 (some .boolean)) (RM 3 0 0) (PBrx [.ref (g 0), .int (nI p0), .ref (ad 13 k0)] D cI cB cZ zz qq vv bt (wX cI (D.1 99) zz g ad cn In Fn)) (vp_Si (fun r => r = 0 ∨ r = 1)) 0 0 (fun _ => False) := by
  refine en_rx rfl pn_RX11 (Nat.le_of_ble_eq_true rfl) (fun p e s m below meth c hx hb hml hown S hr hlocks hnm hP hK hXS hS ls hl => ?_)
  have hl : lv_has ls 5 [(0, .ref (g 0)), (1, .int (nI p0)), (2, .ref (ad 13 k0))] := hl
  have hb_cn : Hid (CBX cn) := hB
  replace hB : CBXh cn := hB
  refine lv_iconst (v := 0) hx hb dX11_sharesWithEarlier_0 kic_0 ?_
  refine lv_istore_n (lv' := [(3, .int 0), (0, .ref (g 0)), (1, .int (nI p0)), (2, .ref (ad 13 k0))]) hx hb dX11_sharesWithEarlier_1 rfl hl (ltb rfl) rfl (fun ls hl => ?_)
  have lp_2 : ∀ (n : Nat) (i2 : Nat) , 40 - i2 < n → (i2 ≤ 40) → ∀ ls : Array Slot, lv_has ls 5 [(3, .int (nI i2)), (0, .ref (g 0)), (1, .int (nI p0)), (2, .ref (ad 13 k0))] → W p l e (RM 3 0 0) s m ([.ref (g 0), .int (nI p0), .ref (ad 13 k0)]).toArray below meth c s.heap [] 0 0 (MQ below (vp_Si (fun r => r = 0 ∨ r = 1)) ([.ref (g 0), .int (nI p0), .ref (ad 13 k0)]).toArray s 0 0 (fun _ => False)) (F0 m 2 ls []) := by
    intro n2
    induction n2 with
    | zero => intros; (first | omega | (have zz0 := Hid.u hb_cn; omega))
    | succ n2 ih2 =>
      intro i2 hmu2 hinv2 ls hl
      have hr2 := hinv2
      have ti2 : (nI i2).toInt = (i2 : Int) := nI_toInt (by (first | omega | (have zz0 := Hid.u hb_cn; omega)))
      refine lv_iload_n hx hb dX11_sharesWithEarlier_2 rfl (lvA0 hl) ?_
      refine lv_iload_n hx hb dX11_sharesWithEarlier_3 rfl (lvA2 hl) ?_
      have : (nI p0).toInt = ((p0 : Nat) : Int) := nI_toInt (by (first | omega | (have zz0 := Hid.u hb_cn; omega)))
      refine lv_icmp_ge (tgt := 75) hx hb dX11_sharesWithEarlier_4 rfl (fun c_1 => ?_) (fun c_1 => ?_)
      ·
        have tc_1 : ((nI p0).toInt : Int) ≤ (nI i2).toInt := Int32.le_iff_toInt_le.mp c_1
        refine lv_iconst (v := 0) hx hb dX11_sharesWithEarlier_75 kic_0 ?_
        exact W.zret (v := 0) hx hb hr rfl (fun t ht hW => ⟨0, rfl, (Or.inl rfl), ht⟩) (fun _ h => absurd h List.not_mem_nil) dX11_sharesWithEarlier_76
      ·
        have tc_1 : ((nI i2).toInt : Int) < (nI p0).toInt := Int32.lt_iff_toInt_lt.mp (Int32.not_le.mp c_1)
        refine lv_iload_n hx hb dX11_sharesWithEarlier_7 rfl (lvA0 hl) ?_
        refine lv_aload_n hx hb dX11_sharesWithEarlier_8 rfl (lvA1 hl) ?_
        refine gf_RX11_71 S hK hP 0 xo_0 (v := .ref (g 13)) rfl dX11_sharesWithEarlier_9 ?_
        refine vp_callSi (runV_r (As := []) (rest := [.int (nI i2)]) S (q_l_size l D cI cB cZ (g 13) (if (cn 13) = 0 then zz else ad 2 3) (In 13) (nI (cn 13))) kV_RX11_84 hK hP [27] (one_is xo_27) 27 xo_27 rfl rfl ⟨Nat.le_of_ble_eq_true rfl, Nat.le_of_ble_eq_true rfl⟩ ⟨Nat.le_of_ble_eq_true rfl, Nat.le_of_ble_eq_true rfl⟩ rfl hl.1 rfl (Nat.le_of_ble_eq_true rfl) dX11_sharesWithEarlier_12) (fun r_2 h_3 => ?_)
        subst h_3
        have : (nI (cn 13)).toInt = (((cn 13) : Nat) : Int) := nI_toInt (by (first | omega | (have zz0 := Hid.u hb_cn; omega)))
        refine lv_icmp_ge (tgt := 75) hx hb dX11_sharesWithEarlier_15 rfl (fun c_4 => ?_) (fun c_4 => ?_)
        ·
          have tc_4 : ((nI (cn 13)).toInt : Int) ≤ (nI i2).toInt := Int32.le_iff_toInt_le.mp c_4
          refine lv_iconst (v := 0) hx hb dX11_sharesWithEarlier_75 kic_0 ?_
          exact W.zret (v := 0) hx hb hr rfl (fun t ht hW => ⟨0, rfl, (Or.inl rfl), ht⟩) (fun _ h => absurd h List.not_mem_nil) dX11_sharesWithEarlier_76
        ·
          have tc_4 : ((nI i2).toInt : Int) < (nI (cn 13)).toInt := Int32.lt_iff_toInt_lt.mp (Int32.not_le.mp c_4)
          refine lv_aload_n hx hb dX11_sharesWithEarlier_18 rfl (lvA1 hl) ?_
          refine gf_RX11_71 S hK hP 0 xo_0 (v := .ref (g 13)) rfl dX11_sharesWithEarlier_19 ?_
          refine lv_iload_n hx hb dX11_sharesWithEarlier_22 rfl (lvA0 hl) ?_
          refine va_csq (runV_rx (As := [.int (nI i2)]) (rest := []) S (q_l_get l D cI cB cZ zz qq vv bt (g 13) (ad 2 3) (cn 23) (cn 13) i2 (ad 13 i2) (In 13) (fun i => if i < (cn 13) then some (ad 13 i) else none) (by (first | omega | (have zz0 := Hid.u hb_cn; omega))) (if_pos (by (first | omega | (have zz0 := Hid.u hb_cn; omega)))) (by (first | omega | (have zz0 := Hid.u hb_cn; omega))) (by (first | omega | (have zz0 := Hid.u hb_cn; omega)))) kV_RX11_87 hK hXS hS hP _ (two_is (xl_3 (by (first | omega | (have zz0 := Hid.u hb_cn; omega)))) (xf_16 (k := 0) (by (first | omega | (have zz0 := Hid.u hb_cn; omega))))) (va_recv hK.1 hP (ci := 0) rfl xo_27) ⟨Nat.le_of_ble_eq_true rfl, Nat.le_of_ble_eq_true rfl⟩ ⟨Nat.le_of_ble_eq_true rfl, Nat.le_of_ble_eq_true rfl⟩ rfl hl.1 rfl (Nat.le_of_ble_eq_true rfl) dX11_sharesWithEarlier_23) (fun r_5 h_6 => ?_)
          subst h_6
          have kf_1 : i2 < cn 13 := by (first | omega | (have zz0 := Hid.u hb_cn; omega))
          refine va_castS hx hb hown (S.2.2.2.2 _ (wk5_4 7 rfl rfl)) (xclass hK.1 (ci := 5) rfl) (va_recv hK.1 hP (ci := 5) rfl (xf_3 kf_1)) dX11_sharesWithEarlier_26 ?_
          refine lv_astore (lv' := [(4, .ref (ad 13 i2)), (3, .int (nI i2)), (0, .ref (g 0)), (1, .int (nI p0)), (2, .ref (ad 13 k0))]) hx hb dX11_sharesWithEarlier_29 hl (ltb rfl) rfl (fun ls hl => ?_)
          refine lv_aload hx hb dX11_sharesWithEarlier_31 (lvA0 hl) ?_
          refine gf_RX11_402 S hK hP _ (xf_3 kf_1) (v := .int ((Fn 160) i2)) rfl dX11_sharesWithEarlier_33 ?_
          refine lv_aload_n hx hb dX11_sharesWithEarlier_36 rfl (lvA4 hl) ?_
          refine gf_RX11_402 S hK hP _ (xf_3 hk) (v := .int ((Fn 160) k0)) rfl dX11_sharesWithEarlier_37 ?_
          refine lv_icmp_ne (tgt := 69) hx hb dX11_sharesWithEarlier_40 rfl (fun c_7 => ?_) (fun c_7 => ?_)
          ·
            have tc_7 : (((Fn 160) i2).toInt : Int) ≠ ((Fn 160) k0).toInt := fun q => c_7 (Int32.toInt_inj.mp q)
            refine lv_iinc (v := (nI (i2 + 1))) (lv' := [(3, .int (nI (i2 + 1))), (4, .ref (ad 13 i2)), (0, .ref (g 0)), (1, .int (nI p0)), (2, .ref (ad 13 k0))]) hx hb dX11_sharesWithEarlier_69 hl (k := 1) rfl (nI_1 _) (ltb rfl) rfl (fun ls hl => ?_)
            refine lv_goto (tgt := 2) hx hb dX11_sharesWithEarlier_72 rfl ?_
            exact ih2 (i2 + 1) (by (first | omega | (have zz0 := Hid.u hb_cn; omega))) (by (first | omega | (have zz0 := Hid.u hb_cn; omega))) ls (lv_sub hl [0, 2, 3, 4] rfl)
          ·
            have tc_7 : (((Fn 160) i2).toInt : Int) = ((Fn 160) k0).toInt := congrArg Int32.toInt c_7
            refine lv_aload hx hb dX11_sharesWithEarlier_43 (lvA0 hl) ?_
            refine gf_RX11_405 S hK hP _ (xf_3 kf_1) (v := .int ((Fn 161) i2)) rfl dX11_sharesWithEarlier_45 ?_
            refine lv_aload_n hx hb dX11_sharesWithEarlier_48 rfl (lvA4 hl) ?_
            refine gf_RX11_408 S hK hP _ (xf_3 hk) (v := .int ((Fn 162) k0)) rfl dX11_sharesWithEarlier_49 ?_
            refine lv_icmp_ge (tgt := 69) hx hb dX11_sharesWithEarlier_52 rfl (fun c_8 => ?_) (fun c_8 => ?_)
            ·
              have tc_8 : (((Fn 162) k0).toInt : Int) ≤ ((Fn 161) i2).toInt := Int32.le_iff_toInt_le.mp c_8
              refine lv_iinc (v := (nI (i2 + 1))) (lv' := [(3, .int (nI (i2 + 1))), (4, .ref (ad 13 i2)), (0, .ref (g 0)), (1, .int (nI p0)), (2, .ref (ad 13 k0))]) hx hb dX11_sharesWithEarlier_69 hl (k := 1) rfl (nI_1 _) (ltb rfl) rfl (fun ls hl => ?_)
              refine lv_goto (tgt := 2) hx hb dX11_sharesWithEarlier_72 rfl ?_
              exact ih2 (i2 + 1) (by (first | omega | (have zz0 := Hid.u hb_cn; omega))) (by (first | omega | (have zz0 := Hid.u hb_cn; omega))) ls (lv_sub hl [0, 2, 3, 4] rfl)
            ·
              have tc_8 : (((Fn 161) i2).toInt : Int) < ((Fn 162) k0).toInt := Int32.lt_iff_toInt_lt.mp (Int32.not_le.mp c_8)
              refine lv_aload_n hx hb dX11_sharesWithEarlier_55 rfl (lvA4 hl) ?_
              refine gf_RX11_405 S hK hP _ (xf_3 hk) (v := .int ((Fn 161) k0)) rfl dX11_sharesWithEarlier_56 ?_
              refine lv_aload hx hb dX11_sharesWithEarlier_59 (lvA0 hl) ?_
              refine gf_RX11_408 S hK hP _ (xf_3 kf_1) (v := .int ((Fn 162) i2)) rfl dX11_sharesWithEarlier_61 ?_
              refine lv_icmp_ge (tgt := 69) hx hb dX11_sharesWithEarlier_64 rfl (fun c_9 => ?_) (fun c_9 => ?_)
              ·
                have tc_9 : (((Fn 162) i2).toInt : Int) ≤ ((Fn 161) k0).toInt := Int32.le_iff_toInt_le.mp c_9
                refine lv_iinc (v := (nI (i2 + 1))) (lv' := [(3, .int (nI (i2 + 1))), (4, .ref (ad 13 i2)), (0, .ref (g 0)), (1, .int (nI p0)), (2, .ref (ad 13 k0))]) hx hb dX11_sharesWithEarlier_69 hl (k := 1) rfl (nI_1 _) (ltb rfl) rfl (fun ls hl => ?_)
                refine lv_goto (tgt := 2) hx hb dX11_sharesWithEarlier_72 rfl ?_
                exact ih2 (i2 + 1) (by (first | omega | (have zz0 := Hid.u hb_cn; omega))) (by (first | omega | (have zz0 := Hid.u hb_cn; omega))) ls (lv_sub hl [0, 2, 3, 4] rfl)
              ·
                have tc_9 : (((Fn 161) k0).toInt : Int) < ((Fn 162) i2).toInt := Int32.lt_iff_toInt_lt.mp (Int32.not_le.mp c_9)
                refine lv_iconst (v := 1) hx hb dX11_sharesWithEarlier_67 kic_1 ?_
                exact W.zret (v := 1) hx hb hr rfl (fun t ht hW => ⟨1, rfl, (Or.inr rfl), ht⟩) (fun _ h => absurd h List.not_mem_nil) dX11_sharesWithEarlier_68
  exact lp_2 _ 0 (Nat.lt_succ_self _) (by (first | omega | (have zz0 := Hid.u hb_cn; omega))) ls (lv_sub hl [0, 1, 2, 3] rfl)
set_option maxRecDepth 100000 in
set_option maxHeartbeats 4000000 in
theorem q_Xtwice (l : Launch) (D : va_G) (cI cB cZ : ClassId) (zz qq vv : Nat) (bt : Nat → Int32) (g : Nat → Nat) (ad : Nat → Nat → Nat) (cn : Nat → Nat) (In : Nat → Int32) (Fn : Nat → Nat → Int32) (v0 : Int32) (hB : CBX cn) : Met l yX11_twice (CWS yX11_twice cX11_twice 4 (some .int)) (RM 4 0 0) (PBrx [.ref (g 0), .int v0] D cI cB cZ zz qq vv bt (wX cI (D.1 99) zz g ad cn In Fn)) (vp_Si (fun _ => True)) 0 0 (fun _ => False) := by
  refine en_rx rfl pn_RX11 (Nat.le_of_ble_eq_true rfl) (fun p e s m below meth c hx hb hml hown S hr hlocks hnm hP hK hXS hS ls hl => ?_)
  have hl : lv_has ls 4 [(0, .ref (g 0)), (1, .int v0)] := hl
  have hb_cn : Hid (CBX cn) := hB
  replace hB : CBXh cn := hB
  refine lv_iconst (v := 0) hx hb dX11_twice_0 kic_0 ?_
  refine lv_istore_n (lv' := [(2, .int 0), (0, .ref (g 0)), (1, .int v0)]) hx hb dX11_twice_1 rfl hl (ltb rfl) rfl (fun ls hl => ?_)
  have lp_2 : ∀ (n : Nat) (i2 : Nat) , cn 13 - i2 < n → (i2 ≤ cn 13) → ∀ ls : Array Slot, lv_has ls 4 [(2, .int (nI i2)), (0, .ref (g 0)), (1, .int v0)] → W p l e (RM 4 0 0) s m ([.ref (g 0), .int v0]).toArray below meth c s.heap [] 0 0 (MQ below (vp_Si (fun _ => True)) ([.ref (g 0), .int v0]).toArray s 0 0 (fun _ => False)) (F0 m 2 ls []) := by
    intro n2
    induction n2 with
    | zero => intros; (first | omega | (have zz0 := Hid.u hb_cn; omega))
    | succ n2 ih2 =>
      intro i2 hmu2 hinv2 ls hl
      have hr2 := hinv2
      have ti2 : (nI i2).toInt = (i2 : Int) := nI_toInt (by (first | omega | (have zz0 := Hid.u hb_cn; omega)))
      refine lv_iload_n hx hb dX11_twice_2 rfl (lvA0 hl) ?_
      refine lv_aload_n hx hb dX11_twice_3 rfl (lvA1 hl) ?_
      refine gf_RX11_71 S hK hP 0 xo_0 (v := .ref (g 13)) rfl dX11_twice_4 ?_
      refine vp_callSi (runV_r (As := []) (rest := [.int (nI i2)]) S (q_l_size l D cI cB cZ (g 13) (if (cn 13) = 0 then zz else ad 2 3) (In 13) (nI (cn 13))) kV_RX11_84 hK hP [27] (one_is xo_27) 27 xo_27 rfl rfl ⟨Nat.le_of_ble_eq_true rfl, Nat.le_of_ble_eq_true rfl⟩ ⟨Nat.le_of_ble_eq_true rfl, Nat.le_of_ble_eq_true rfl⟩ rfl hl.1 rfl (Nat.le_of_ble_eq_true rfl) dX11_twice_7) (fun r_1 h_2 => ?_)
      subst h_2
      have : (nI (cn 13)).toInt = (((cn 13) : Nat) : Int) := nI_toInt (by (first | omega | (have zz0 := Hid.u hb_cn; omega)))
      refine lv_icmp_ge (tgt := 50) hx hb dX11_twice_10 rfl (fun c_3 => ?_) (fun c_3 => ?_)
      ·
        have tc_3 : ((nI (cn 13)).toInt : Int) ≤ (nI i2).toInt := Int32.le_iff_toInt_le.mp c_3
        refine lv_iconst (v := (-1)) hx hb dX11_twice_50 kic_m1 ?_
        exact W.iret (v := (-1)) hx hb hr (fun t ht hW => ⟨(-1), rfl, trivial, ht⟩) (fun _ h => absurd h List.not_mem_nil) dX11_twice_51
      ·
        have tc_3 : ((nI i2).toInt : Int) < (nI (cn 13)).toInt := Int32.lt_iff_toInt_lt.mp (Int32.not_le.mp c_3)
        refine lv_aload_n hx hb dX11_twice_13 rfl (lvA1 hl) ?_
        refine gf_RX11_71 S hK hP 0 xo_0 (v := .ref (g 13)) rfl dX11_twice_14 ?_
        refine lv_iload_n hx hb dX11_twice_17 rfl (lvA0 hl) ?_
        refine va_csq (runV_rx (As := [.int (nI i2)]) (rest := []) S (q_l_get l D cI cB cZ zz qq vv bt (g 13) (ad 2 3) (cn 23) (cn 13) i2 (ad 13 i2) (In 13) (fun i => if i < (cn 13) then some (ad 13 i) else none) (by (first | omega | (have zz0 := Hid.u hb_cn; omega))) (if_pos (by (first | omega | (have zz0 := Hid.u hb_cn; omega)))) (by (first | omega | (have zz0 := Hid.u hb_cn; omega))) (by (first | omega | (have zz0 := Hid.u hb_cn; omega)))) kV_RX11_87 hK hXS hS hP _ (two_is (xl_3 (by (first | omega | (have zz0 := Hid.u hb_cn; omega)))) (xf_16 (k := 0) (by (first | omega | (have zz0 := Hid.u hb_cn; omega))))) (va_recv hK.1 hP (ci := 0) rfl xo_27) ⟨Nat.le_of_ble_eq_true rfl, Nat.le_of_ble_eq_true rfl⟩ ⟨Nat.le_of_ble_eq_true rfl, Nat.le_of_ble_eq_true rfl⟩ rfl hl.1 rfl (Nat.le_of_ble_eq_true rfl) dX11_twice_18) (fun r_4 h_5 => ?_)
        subst h_5
        have kf_1 : i2 < cn 13 := by (first | omega | (have zz0 := Hid.u hb_cn; omega))
        refine va_castS hx hb hown (S.2.2.2.2 _ (wk5_4 7 rfl rfl)) (xclass hK.1 (ci := 5) rfl) (va_recv hK.1 hP (ci := 5) rfl (xf_3 kf_1)) dX11_twice_21 ?_
        refine lv_astore_n (lv' := [(3, .ref (ad 13 i2)), (2, .int (nI i2)), (0, .ref (g 0)), (1, .int v0)]) hx hb dX11_twice_24 rfl hl (ltb rfl) rfl (fun ls hl => ?_)
        refine lv_aload_n hx hb dX11_twice_25 rfl (lvA0 hl) ?_
        refine gf_RX11_402 S hK hP _ (xf_3 kf_1) (v := .int ((Fn 160) i2)) rfl dX11_twice_26 ?_
        refine lv_iload_n hx hb dX11_twice_29 rfl (lvA3 hl) ?_
        refine lv_icmp_ne (tgt := 44) hx hb dX11_twice_30 rfl (fun c_6 => ?_) (fun c_6 => ?_)
        ·
          have tc_6 : (((Fn 160) i2).toInt : Int) ≠ v0.toInt := fun q => c_6 (Int32.toInt_inj.mp q)
          refine lv_iinc (v := (nI (i2 + 1))) (lv' := [(2, .int (nI (i2 + 1))), (3, .ref (ad 13 i2)), (0, .ref (g 0)), (1, .int v0)]) hx hb dX11_twice_44 hl (k := 1) rfl (nI_1 _) (ltb rfl) rfl (fun ls hl => ?_)
          refine lv_goto (tgt := 2) hx hb dX11_twice_47 rfl ?_
          exact ih2 (i2 + 1) (by (first | omega | (have zz0 := Hid.u hb_cn; omega))) (by (first | omega | (have zz0 := Hid.u hb_cn; omega))) ls (lv_sub hl [0, 2, 3] rfl)
        ·
          have tc_6 : (((Fn 160) i2).toInt : Int) = v0.toInt := congrArg Int32.toInt c_6
          refine lv_aload_n hx hb dX11_twice_33 rfl (lvA2 hl) ?_
          refine lv_iload_n hx hb dX11_twice_34 rfl (lvA1 hl) ?_
          refine lv_aload_n hx hb dX11_twice_35 rfl (lvA0 hl) ?_
          refine vp_callSi (runV_rxa (As := [.int (nI i2), .ref (ad 13 i2)]) (rest := []) S (q_XsharesWithEarlier l D cI cB cZ zz qq vv bt g ad cn In Fn i2 i2 hB (by (first | omega | (have zz0 := Hid.u hb_cn; omega))) (by (first | omega | (have zz0 := Hid.u hb_cn; omega)))) kV_RX11_411 hK hXS hS hP 0 xo_0 rfl rfl ⟨Nat.le_of_ble_eq_true rfl, Nat.le_of_ble_eq_true rfl⟩ ⟨Nat.le_of_ble_eq_true rfl, Nat.le_of_ble_eq_true rfl⟩ rfl hl.1 rfl (Nat.le_of_ble_eq_true rfl) dX11_twice_36) (fun r_7 h_8 => ?_)
          rcases h_8 with rfl | rfl
          ·
            refine lv_if_eq (tgt := 44) hx hb dX11_twice_39 rfl (fun _ => ?_) (fun h => absurd h cq_eq_0_0)
            refine lv_iinc (v := (nI (i2 + 1))) (lv' := [(2, .int (nI (i2 + 1))), (3, .ref (ad 13 i2)), (0, .ref (g 0)), (1, .int v0)]) hx hb dX11_twice_44 hl (k := 1) rfl (nI_1 _) (ltb rfl) rfl (fun ls hl => ?_)
            refine lv_goto (tgt := 2) hx hb dX11_twice_47 rfl ?_
            exact ih2 (i2 + 1) (by (first | omega | (have zz0 := Hid.u hb_cn; omega))) (by (first | omega | (have zz0 := Hid.u hb_cn; omega))) ls (lv_sub hl [0, 2, 3] rfl)
          ·
            refine lv_if_eq (tgt := 44) hx hb dX11_twice_39 rfl (fun h => absurd h cq_eq_1_0) (fun _ => ?_)
            refine lv_iload_n hx hb dX11_twice_42 rfl (lvA1 hl) ?_
            exact W.iret (v := (nI i2)) hx hb hr (fun t ht hW => ⟨(nI i2), rfl, trivial, ht⟩) (fun _ h => absurd h List.not_mem_nil) dX11_twice_43
  exact lp_2 _ 0 (Nat.lt_succ_self _) (by (first | omega | (have zz0 := Hid.u hb_cn; omega))) ls (lv_sub hl [0, 1, 2] rfl)
set_option maxRecDepth 100000 in
set_option maxHeartbeats 4000000 in
theorem q_XfirstProofBehind (l : Launch) (D : va_G) (cI cB cZ : ClassId) (zz qq vv : Nat) (bt : Nat → Int32) (g : Nat → Nat) (ad : Nat → Nat → Nat) (cn : Nat → Nat) (In : Nat → Int32) (Fn : Nat → Nat → Int32) (v0 v1 v2 : Int32) (hB : CBX cn) : Met l yX11_firstProofBehind (CWS yX11_firstProofBehind cX11_firstProofBehind 8 (some (.object "OilHome$Proof"))) (RM 3 0 0) (PBrx [.ref (g 0), .int v0, .int v1, .int v2] D cI cB cZ zz qq vv bt (wX cI (D.1 99) zz g ad cn In Fn)) (va_Sq (fun r => (∃ m : Nat, (0 : Int) = 0 ∧ m < cn 13 ∧ r = some (ad 13 m)) ∨ (True ∧ r = none))) 0 0 (fun _ => False) := by
  refine en_rx rfl pn_RX11 (Nat.le_of_ble_eq_true rfl) (fun p e s m below meth c hx hb hml hown S hr hlocks hnm hP hK hXS hS ls hl => ?_)
  have hl : lv_has ls 8 [(0, .ref (g 0)), (1, .int v0), (2, .int v1), (3, .int v2)] := hl
  have hb_cn : Hid (CBX cn) := hB
  replace hB : CBXh cn := hB
  refine lv_null hx hb dX11_firstProofBehind_0 ?_
  refine lv_astoreN (lv' := [(4, .null), (0, .ref (g 0)), (1, .int v0), (2, .int v1), (3, .int v2)]) hx hb dX11_firstProofBehind_1 hl (ltb rfl) rfl (fun ls hl => ?_)
  refine lv_iconst (v := 0) hx hb dX11_firstProofBehind_3 kic_0 ?_
  refine lv_istore (lv' := [(5, .int 0), (4, .null), (0, .ref (g 0)), (1, .int v0), (2, .int v1), (3, .int v2)]) hx hb dX11_firstProofBehind_4 hl (ltb rfl) rfl (fun ls hl => ?_)
  have lp_6 : ∀ (n : Nat) (i6 : Nat) (x6_4 : Option Nat) , cn 13 - i6 < n → (i6 ≤ cn 13 ∧ (x6_4 = none ∨ ∃ m : Nat, m < cn 13 ∧ x6_4 = some (ad 13 m))) → ∀ ls : Array Slot, lv_has ls 8 [(5, .int (nI i6)), (4, (va_rf x6_4)), (0, .ref (g 0)), (1, .int v0), (2, .int v1), (3, .int v2)] → W p l e (RM 3 0 0) s m ([.ref (g 0), .int v0, .int v1, .int v2]).toArray below meth c s.heap [] 0 0 (MQ below (va_Sq (fun r => (∃ m : Nat, (0 : Int) = 0 ∧ m < cn 13 ∧ r = some (ad 13 m)) ∨ (True ∧ r = none))) ([.ref (g 0), .int v0, .int v1, .int v2]).toArray s 0 0 (fun _ => False)) (F0 m 6 ls []) := by
    intro n6
    induction n6 with
    | zero => intros; (first | omega | (have zz0 := Hid.u hb_cn; omega))
    | succ n6 ih6 =>
      intro i6 x6_4 hmu6 hinv6 ls hl
      obtain ⟨hr6, hx6_0⟩ := hinv6
      have ti6 : (nI i6).toInt = (i6 : Int) := nI_toInt (by (first | omega | (have zz0 := Hid.u hb_cn; omega)))
      rcases hx6_0 with rfl | ⟨m9, h9, rfl⟩
      ·
        have hl : lv_has ls 8 [(5, .int (nI i6)), (4, .null), (0, .ref (g 0)), (1, .int v0), (2, .int v1), (3, .int v2)] := hl
        refine lv_iload hx hb dX11_firstProofBehind_6 (lvA0 hl) ?_
        refine lv_aload_n hx hb dX11_firstProofBehind_8 rfl (lvA2 hl) ?_
        refine gf_RX11_71 S hK hP 0 xo_0 (v := .ref (g 13)) rfl dX11_firstProofBehind_9 ?_
        refine vp_callSi (runV_r (As := []) (rest := [.int (nI i6)]) S (q_l_size l D cI cB cZ (g 13) (if (cn 13) = 0 then zz else ad 2 3) (In 13) (nI (cn 13))) kV_RX11_84 hK hP [27] (one_is xo_27) 27 xo_27 rfl rfl ⟨Nat.le_of_ble_eq_true rfl, Nat.le_of_ble_eq_true rfl⟩ ⟨Nat.le_of_ble_eq_true rfl, Nat.le_of_ble_eq_true rfl⟩ rfl hl.1 rfl (Nat.le_of_ble_eq_true rfl) dX11_firstProofBehind_12) (fun r_1 h_2 => ?_)
        subst h_2
        have : (nI (cn 13)).toInt = (((cn 13) : Nat) : Int) := nI_toInt (by (first | omega | (have zz0 := Hid.u hb_cn; omega)))
        refine lv_icmp_ge (tgt := 104) hx hb dX11_firstProofBehind_15 rfl (fun c_3 => ?_) (fun c_3 => ?_)
        ·
          have tc_3 : ((nI (cn 13)).toInt : Int) ≤ (nI i6).toInt := Int32.le_iff_toInt_le.mp c_3
          refine lv_aloadN hx hb dX11_firstProofBehind_104 (lvA1 hl) ?_
          exact W.aret (v := .null) hx hb hr (Or.inl ⟨_, rfl⟩) (Or.inl rfl) (fun t ht hW => ⟨none, rfl, (Or.inr ⟨trivial, rfl⟩), ht⟩) (fun _ h => absurd h List.not_mem_nil) dX11_firstProofBehind_106
        ·
          have tc_3 : ((nI i6).toInt : Int) < (nI (cn 13)).toInt := Int32.lt_iff_toInt_lt.mp (Int32.not_le.mp c_3)
          refine lv_aload_n hx hb dX11_firstProofBehind_18 rfl (lvA2 hl) ?_
          refine gf_RX11_71 S hK hP 0 xo_0 (v := .ref (g 13)) rfl dX11_firstProofBehind_19 ?_
          refine lv_iload hx hb dX11_firstProofBehind_22 (lvA0 hl) ?_
          refine va_csq (runV_rx (As := [.int (nI i6)]) (rest := []) S (q_l_get l D cI cB cZ zz qq vv bt (g 13) (ad 2 3) (cn 23) (cn 13) i6 (ad 13 i6) (In 13) (fun i => if i < (cn 13) then some (ad 13 i) else none) (by (first | omega | (have zz0 := Hid.u hb_cn; omega))) (if_pos (by (first | omega | (have zz0 := Hid.u hb_cn; omega)))) (by (first | omega | (have zz0 := Hid.u hb_cn; omega))) (by (first | omega | (have zz0 := Hid.u hb_cn; omega)))) kV_RX11_87 hK hXS hS hP _ (two_is (xl_3 (by (first | omega | (have zz0 := Hid.u hb_cn; omega)))) (xf_16 (k := 0) (by (first | omega | (have zz0 := Hid.u hb_cn; omega))))) (va_recv hK.1 hP (ci := 0) rfl xo_27) ⟨Nat.le_of_ble_eq_true rfl, Nat.le_of_ble_eq_true rfl⟩ ⟨Nat.le_of_ble_eq_true rfl, Nat.le_of_ble_eq_true rfl⟩ rfl hl.1 rfl (Nat.le_of_ble_eq_true rfl) dX11_firstProofBehind_24) (fun r_4 h_5 => ?_)
          subst h_5
          have kf_1 : i6 < cn 13 := by (first | omega | (have zz0 := Hid.u hb_cn; omega))
          refine va_castS hx hb hown (S.2.2.2.2 _ (wk5_4 7 rfl rfl)) (xclass hK.1 (ci := 5) rfl) (va_recv hK.1 hP (ci := 5) rfl (xf_3 kf_1)) dX11_firstProofBehind_27 ?_
          refine lv_astore (lv' := [(6, .ref (ad 13 i6)), (5, .int (nI i6)), (4, .null), (0, .ref (g 0)), (1, .int v0), (2, .int v1), (3, .int v2)]) hx hb dX11_firstProofBehind_30 hl (ltb rfl) rfl (fun ls hl => ?_)
          refine lv_aload hx hb dX11_firstProofBehind_32 (lvA0 hl) ?_
          refine gf_RX11_402 S hK hP _ (xf_3 kf_1) (v := .int ((Fn 160) i6)) rfl dX11_firstProofBehind_34 ?_
          refine lv_iload_n hx hb dX11_firstProofBehind_37 rfl (lvA5 hl) ?_
          refine lv_icmp_ne (tgt := 59) hx hb dX11_firstProofBehind_38 rfl (fun c_6 => ?_) (fun c_6 => ?_)
          ·
            have tc_6 : (((Fn 160) i6).toInt : Int) ≠ v1.toInt := fun q => c_6 (Int32.toInt_inj.mp q)
            refine lv_iconst (v := 0) hx hb dX11_firstProofBehind_59 kic_0 ?_
            refine lv_istore (lv' := [(7, .int 0), (6, .ref (ad 13 i6)), (5, .int (nI i6)), (4, .null), (0, .ref (g 0)), (1, .int v0), (2, .int v1), (3, .int v2)]) hx hb dX11_firstProofBehind_60 hl (ltb rfl) rfl (fun ls hl => ?_)
            refine lv_iload hx hb dX11_firstProofBehind_62 (lvA0 hl) ?_
            refine lv_if_eq (tgt := 98) hx hb dX11_firstProofBehind_64 rfl (fun _ => ?_) (fun h => absurd h cq_eq_0_0)
            refine lv_iinc (v := (nI (i6 + 1))) (lv' := [(5, .int (nI (i6 + 1))), (7, .int 0), (6, .ref (ad 13 i6)), (4, .null), (0, .ref (g 0)), (1, .int v0), (2, .int v1), (3, .int v2)]) hx hb dX11_firstProofBehind_98 hl (k := 2) rfl (nI_1 _) (ltb rfl) rfl (fun ls hl => ?_)
            refine lv_goto (tgt := 6) hx hb dX11_firstProofBehind_101 rfl ?_
            exact ih6 (i6 + 1) none (by (first | omega | (have zz0 := Hid.u hb_cn; omega))) ⟨(by (first | omega | (have zz0 := Hid.u hb_cn; omega))), (Or.inl rfl)⟩ ls (lv_sub hl [0, 3, 4, 5, 6, 7] rfl)
          ·
            have tc_6 : (((Fn 160) i6).toInt : Int) = v1.toInt := congrArg Int32.toInt c_6
            refine lv_iload_n hx hb dX11_firstProofBehind_41 rfl (lvA6 hl) ?_
            refine lv_iconst (v := (-1)) hx hb dX11_firstProofBehind_42 kic_m1 ?_
            refine lv_icmp_eq (tgt := 55) hx hb dX11_firstProofBehind_43 rfl (fun c_7 => ?_) (fun c_7 => ?_)
            ·
              have tc_7 : (v2.toInt : Int) = (-1) := congrArg Int32.toInt c_7
              refine lv_iconst (v := 1) hx hb dX11_firstProofBehind_55 kic_1 ?_
              refine lv_goto (tgt := 60) hx hb dX11_firstProofBehind_56 rfl ?_
              refine lv_istore (lv' := [(7, .int 1), (6, .ref (ad 13 i6)), (5, .int (nI i6)), (4, .null), (0, .ref (g 0)), (1, .int v0), (2, .int v1), (3, .int v2)]) hx hb dX11_firstProofBehind_60 hl (ltb rfl) rfl (fun ls hl => ?_)
              refine lv_iload hx hb dX11_firstProofBehind_62 (lvA0 hl) ?_
              refine lv_if_eq (tgt := 98) hx hb dX11_firstProofBehind_64 rfl (fun h => absurd h cq_eq_1_0) (fun _ => ?_)
              refine lv_aload hx hb dX11_firstProofBehind_67 (lvA1 hl) ?_
              refine gf_RX11_408 S hK hP _ (xf_3 kf_1) (v := .int ((Fn 162) i6)) rfl dX11_firstProofBehind_69 ?_
              refine lv_iload_n hx hb dX11_firstProofBehind_72 rfl (lvA5 hl) ?_
              refine lv_icmp_le (tgt := 98) hx hb dX11_firstProofBehind_73 rfl (fun c_8 => ?_) (fun c_8 => ?_)
              ·
                have tc_8 : (((Fn 162) i6).toInt : Int) ≤ v0.toInt := Int32.le_iff_toInt_le.mp c_8
                refine lv_iinc (v := (nI (i6 + 1))) (lv' := [(5, .int (nI (i6 + 1))), (7, .int 1), (6, .ref (ad 13 i6)), (4, .null), (0, .ref (g 0)), (1, .int v0), (2, .int v1), (3, .int v2)]) hx hb dX11_firstProofBehind_98 hl (k := 2) rfl (nI_1 _) (ltb rfl) rfl (fun ls hl => ?_)
                refine lv_goto (tgt := 6) hx hb dX11_firstProofBehind_101 rfl ?_
                exact ih6 (i6 + 1) none (by (first | omega | (have zz0 := Hid.u hb_cn; omega))) ⟨(by (first | omega | (have zz0 := Hid.u hb_cn; omega))), (Or.inl rfl)⟩ ls (lv_sub hl [0, 3, 4, 5, 6, 7] rfl)
              ·
                have tc_8 : (v0.toInt : Int) < ((Fn 162) i6).toInt := Int32.lt_iff_toInt_lt.mp (Int32.not_le.mp c_8)
                refine lv_aloadN hx hb dX11_firstProofBehind_76 (lvA3 hl) ?_
                refine lv_ifnullN (tgt := 94) hx hb dX11_firstProofBehind_78 rfl ?_
                refine lv_aload hx hb dX11_firstProofBehind_94 (lvA1 hl) ?_
                refine lv_astore (lv' := [(4, .ref (ad 13 i6)), (7, .int 1), (6, .ref (ad 13 i6)), (5, .int (nI i6)), (0, .ref (g 0)), (1, .int v0), (2, .int v1), (3, .int v2)]) hx hb dX11_firstProofBehind_96 hl (ltb rfl) rfl (fun ls hl => ?_)
                refine lv_iinc (v := (nI (i6 + 1))) (lv' := [(5, .int (nI (i6 + 1))), (4, .ref (ad 13 i6)), (7, .int 1), (6, .ref (ad 13 i6)), (0, .ref (g 0)), (1, .int v0), (2, .int v1), (3, .int v2)]) hx hb dX11_firstProofBehind_98 hl (k := 3) rfl (nI_1 _) (ltb rfl) rfl (fun ls hl => ?_)
                refine lv_goto (tgt := 6) hx hb dX11_firstProofBehind_101 rfl ?_
                exact ih6 (i6 + 1) (some (ad 13 i6)) (by (first | omega | (have zz0 := Hid.u hb_cn; omega))) ⟨(by (first | omega | (have zz0 := Hid.u hb_cn; omega))), (Or.inr ⟨i6, by (first | omega | (have zz0 := Hid.u hb_cn; omega)), rfl⟩)⟩ ls (lv_sub hl [0, 1, 4, 5, 6, 7] rfl)
            ·
              have tc_7 : (v2.toInt : Int) ≠ (-1) := fun q => c_7 (Int32.toInt_inj.mp q)
              refine lv_aload hx hb dX11_firstProofBehind_46 (lvA0 hl) ?_
              refine gf_RX11_415 S hK hP _ (xf_3 kf_1) (v := .int ((Fn 163) i6)) rfl dX11_firstProofBehind_48 ?_
              refine lv_iload_n hx hb dX11_firstProofBehind_51 rfl (lvA6 hl) ?_
              refine lv_icmp_ne (tgt := 59) hx hb dX11_firstProofBehind_52 rfl (fun c_9 => ?_) (fun c_9 => ?_)
              ·
                have tc_9 : (((Fn 163) i6).toInt : Int) ≠ v2.toInt := fun q => c_9 (Int32.toInt_inj.mp q)
                refine lv_iconst (v := 0) hx hb dX11_firstProofBehind_59 kic_0 ?_
                refine lv_istore (lv' := [(7, .int 0), (6, .ref (ad 13 i6)), (5, .int (nI i6)), (4, .null), (0, .ref (g 0)), (1, .int v0), (2, .int v1), (3, .int v2)]) hx hb dX11_firstProofBehind_60 hl (ltb rfl) rfl (fun ls hl => ?_)
                refine lv_iload hx hb dX11_firstProofBehind_62 (lvA0 hl) ?_
                refine lv_if_eq (tgt := 98) hx hb dX11_firstProofBehind_64 rfl (fun _ => ?_) (fun h => absurd h cq_eq_0_0)
                refine lv_iinc (v := (nI (i6 + 1))) (lv' := [(5, .int (nI (i6 + 1))), (7, .int 0), (6, .ref (ad 13 i6)), (4, .null), (0, .ref (g 0)), (1, .int v0), (2, .int v1), (3, .int v2)]) hx hb dX11_firstProofBehind_98 hl (k := 2) rfl (nI_1 _) (ltb rfl) rfl (fun ls hl => ?_)
                refine lv_goto (tgt := 6) hx hb dX11_firstProofBehind_101 rfl ?_
                exact ih6 (i6 + 1) none (by (first | omega | (have zz0 := Hid.u hb_cn; omega))) ⟨(by (first | omega | (have zz0 := Hid.u hb_cn; omega))), (Or.inl rfl)⟩ ls (lv_sub hl [0, 3, 4, 5, 6, 7] rfl)
              ·
                have tc_9 : (((Fn 163) i6).toInt : Int) = v2.toInt := congrArg Int32.toInt c_9
                refine lv_iconst (v := 1) hx hb dX11_firstProofBehind_55 kic_1 ?_
                refine lv_goto (tgt := 60) hx hb dX11_firstProofBehind_56 rfl ?_
                refine lv_istore (lv' := [(7, .int 1), (6, .ref (ad 13 i6)), (5, .int (nI i6)), (4, .null), (0, .ref (g 0)), (1, .int v0), (2, .int v1), (3, .int v2)]) hx hb dX11_firstProofBehind_60 hl (ltb rfl) rfl (fun ls hl => ?_)
                refine lv_iload hx hb dX11_firstProofBehind_62 (lvA0 hl) ?_
                refine lv_if_eq (tgt := 98) hx hb dX11_firstProofBehind_64 rfl (fun h => absurd h cq_eq_1_0) (fun _ => ?_)
                refine lv_aload hx hb dX11_firstProofBehind_67 (lvA1 hl) ?_
                refine gf_RX11_408 S hK hP _ (xf_3 kf_1) (v := .int ((Fn 162) i6)) rfl dX11_firstProofBehind_69 ?_
                refine lv_iload_n hx hb dX11_firstProofBehind_72 rfl (lvA5 hl) ?_
                refine lv_icmp_le (tgt := 98) hx hb dX11_firstProofBehind_73 rfl (fun c_10 => ?_) (fun c_10 => ?_)
                ·
                  have tc_10 : (((Fn 162) i6).toInt : Int) ≤ v0.toInt := Int32.le_iff_toInt_le.mp c_10
                  refine lv_iinc (v := (nI (i6 + 1))) (lv' := [(5, .int (nI (i6 + 1))), (7, .int 1), (6, .ref (ad 13 i6)), (4, .null), (0, .ref (g 0)), (1, .int v0), (2, .int v1), (3, .int v2)]) hx hb dX11_firstProofBehind_98 hl (k := 2) rfl (nI_1 _) (ltb rfl) rfl (fun ls hl => ?_)
                  refine lv_goto (tgt := 6) hx hb dX11_firstProofBehind_101 rfl ?_
                  exact ih6 (i6 + 1) none (by (first | omega | (have zz0 := Hid.u hb_cn; omega))) ⟨(by (first | omega | (have zz0 := Hid.u hb_cn; omega))), (Or.inl rfl)⟩ ls (lv_sub hl [0, 3, 4, 5, 6, 7] rfl)
                ·
                  have tc_10 : (v0.toInt : Int) < ((Fn 162) i6).toInt := Int32.lt_iff_toInt_lt.mp (Int32.not_le.mp c_10)
                  refine lv_aloadN hx hb dX11_firstProofBehind_76 (lvA3 hl) ?_
                  refine lv_ifnullN (tgt := 94) hx hb dX11_firstProofBehind_78 rfl ?_
                  refine lv_aload hx hb dX11_firstProofBehind_94 (lvA1 hl) ?_
                  refine lv_astore (lv' := [(4, .ref (ad 13 i6)), (7, .int 1), (6, .ref (ad 13 i6)), (5, .int (nI i6)), (0, .ref (g 0)), (1, .int v0), (2, .int v1), (3, .int v2)]) hx hb dX11_firstProofBehind_96 hl (ltb rfl) rfl (fun ls hl => ?_)
                  refine lv_iinc (v := (nI (i6 + 1))) (lv' := [(5, .int (nI (i6 + 1))), (4, .ref (ad 13 i6)), (7, .int 1), (6, .ref (ad 13 i6)), (0, .ref (g 0)), (1, .int v0), (2, .int v1), (3, .int v2)]) hx hb dX11_firstProofBehind_98 hl (k := 3) rfl (nI_1 _) (ltb rfl) rfl (fun ls hl => ?_)
                  refine lv_goto (tgt := 6) hx hb dX11_firstProofBehind_101 rfl ?_
                  exact ih6 (i6 + 1) (some (ad 13 i6)) (by (first | omega | (have zz0 := Hid.u hb_cn; omega))) ⟨(by (first | omega | (have zz0 := Hid.u hb_cn; omega))), (Or.inr ⟨i6, by (first | omega | (have zz0 := Hid.u hb_cn; omega)), rfl⟩)⟩ ls (lv_sub hl [0, 1, 4, 5, 6, 7] rfl)
      ·
        have hl : lv_has ls 8 [(5, .int (nI i6)), (4, .ref (ad 13 m9)), (0, .ref (g 0)), (1, .int v0), (2, .int v1), (3, .int v2)] := hl
        refine lv_iload hx hb dX11_firstProofBehind_6 (lvA0 hl) ?_
        refine lv_aload_n hx hb dX11_firstProofBehind_8 rfl (lvA2 hl) ?_
        refine gf_RX11_71 S hK hP 0 xo_0 (v := .ref (g 13)) rfl dX11_firstProofBehind_9 ?_
        refine vp_callSi (runV_r (As := []) (rest := [.int (nI i6)]) S (q_l_size l D cI cB cZ (g 13) (if (cn 13) = 0 then zz else ad 2 3) (In 13) (nI (cn 13))) kV_RX11_84 hK hP [27] (one_is xo_27) 27 xo_27 rfl rfl ⟨Nat.le_of_ble_eq_true rfl, Nat.le_of_ble_eq_true rfl⟩ ⟨Nat.le_of_ble_eq_true rfl, Nat.le_of_ble_eq_true rfl⟩ rfl hl.1 rfl (Nat.le_of_ble_eq_true rfl) dX11_firstProofBehind_12) (fun r_11 h_12 => ?_)
        subst h_12
        have : (nI (cn 13)).toInt = (((cn 13) : Nat) : Int) := nI_toInt (by (first | omega | (have zz0 := Hid.u hb_cn; omega)))
        refine lv_icmp_ge (tgt := 104) hx hb dX11_firstProofBehind_15 rfl (fun c_13 => ?_) (fun c_13 => ?_)
        ·
          have tc_13 : ((nI (cn 13)).toInt : Int) ≤ (nI i6).toInt := Int32.le_iff_toInt_le.mp c_13
          refine lv_aload hx hb dX11_firstProofBehind_104 (lvA1 hl) ?_
          exact W.aret (v := .ref (ad 13 m9)) hx hb hr (Or.inl ⟨_, rfl⟩) (Or.inr ⟨_, rfl⟩) (fun t ht hW => ⟨some (ad 13 m9), rfl, (Or.inl ⟨m9, rfl, h9, rfl⟩), ht⟩) (fun _ h => absurd h List.not_mem_nil) dX11_firstProofBehind_106
        ·
          have tc_13 : ((nI i6).toInt : Int) < (nI (cn 13)).toInt := Int32.lt_iff_toInt_lt.mp (Int32.not_le.mp c_13)
          refine lv_aload_n hx hb dX11_firstProofBehind_18 rfl (lvA2 hl) ?_
          refine gf_RX11_71 S hK hP 0 xo_0 (v := .ref (g 13)) rfl dX11_firstProofBehind_19 ?_
          refine lv_iload hx hb dX11_firstProofBehind_22 (lvA0 hl) ?_
          refine va_csq (runV_rx (As := [.int (nI i6)]) (rest := []) S (q_l_get l D cI cB cZ zz qq vv bt (g 13) (ad 2 3) (cn 23) (cn 13) i6 (ad 13 i6) (In 13) (fun i => if i < (cn 13) then some (ad 13 i) else none) (by (first | omega | (have zz0 := Hid.u hb_cn; omega))) (if_pos (by (first | omega | (have zz0 := Hid.u hb_cn; omega)))) (by (first | omega | (have zz0 := Hid.u hb_cn; omega))) (by (first | omega | (have zz0 := Hid.u hb_cn; omega)))) kV_RX11_87 hK hXS hS hP _ (two_is (xl_3 (by (first | omega | (have zz0 := Hid.u hb_cn; omega)))) (xf_16 (k := 0) (by (first | omega | (have zz0 := Hid.u hb_cn; omega))))) (va_recv hK.1 hP (ci := 0) rfl xo_27) ⟨Nat.le_of_ble_eq_true rfl, Nat.le_of_ble_eq_true rfl⟩ ⟨Nat.le_of_ble_eq_true rfl, Nat.le_of_ble_eq_true rfl⟩ rfl hl.1 rfl (Nat.le_of_ble_eq_true rfl) dX11_firstProofBehind_24) (fun r_14 h_15 => ?_)
          subst h_15
          have kf_2 : i6 < cn 13 := by (first | omega | (have zz0 := Hid.u hb_cn; omega))
          refine va_castS hx hb hown (S.2.2.2.2 _ (wk5_4 7 rfl rfl)) (xclass hK.1 (ci := 5) rfl) (va_recv hK.1 hP (ci := 5) rfl (xf_3 kf_2)) dX11_firstProofBehind_27 ?_
          refine lv_astore (lv' := [(6, .ref (ad 13 i6)), (5, .int (nI i6)), (4, .ref (ad 13 m9)), (0, .ref (g 0)), (1, .int v0), (2, .int v1), (3, .int v2)]) hx hb dX11_firstProofBehind_30 hl (ltb rfl) rfl (fun ls hl => ?_)
          refine lv_aload hx hb dX11_firstProofBehind_32 (lvA0 hl) ?_
          refine gf_RX11_402 S hK hP _ (xf_3 kf_2) (v := .int ((Fn 160) i6)) rfl dX11_firstProofBehind_34 ?_
          refine lv_iload_n hx hb dX11_firstProofBehind_37 rfl (lvA5 hl) ?_
          refine lv_icmp_ne (tgt := 59) hx hb dX11_firstProofBehind_38 rfl (fun c_16 => ?_) (fun c_16 => ?_)
          ·
            have tc_16 : (((Fn 160) i6).toInt : Int) ≠ v1.toInt := fun q => c_16 (Int32.toInt_inj.mp q)
            refine lv_iconst (v := 0) hx hb dX11_firstProofBehind_59 kic_0 ?_
            refine lv_istore (lv' := [(7, .int 0), (6, .ref (ad 13 i6)), (5, .int (nI i6)), (4, .ref (ad 13 m9)), (0, .ref (g 0)), (1, .int v0), (2, .int v1), (3, .int v2)]) hx hb dX11_firstProofBehind_60 hl (ltb rfl) rfl (fun ls hl => ?_)
            refine lv_iload hx hb dX11_firstProofBehind_62 (lvA0 hl) ?_
            refine lv_if_eq (tgt := 98) hx hb dX11_firstProofBehind_64 rfl (fun _ => ?_) (fun h => absurd h cq_eq_0_0)
            refine lv_iinc (v := (nI (i6 + 1))) (lv' := [(5, .int (nI (i6 + 1))), (7, .int 0), (6, .ref (ad 13 i6)), (4, .ref (ad 13 m9)), (0, .ref (g 0)), (1, .int v0), (2, .int v1), (3, .int v2)]) hx hb dX11_firstProofBehind_98 hl (k := 2) rfl (nI_1 _) (ltb rfl) rfl (fun ls hl => ?_)
            refine lv_goto (tgt := 6) hx hb dX11_firstProofBehind_101 rfl ?_
            exact ih6 (i6 + 1) (some (ad 13 m9)) (by (first | omega | (have zz0 := Hid.u hb_cn; omega))) ⟨(by (first | omega | (have zz0 := Hid.u hb_cn; omega))), (Or.inr ⟨m9, h9, rfl⟩)⟩ ls (lv_sub hl [0, 3, 4, 5, 6, 7] rfl)
          ·
            have tc_16 : (((Fn 160) i6).toInt : Int) = v1.toInt := congrArg Int32.toInt c_16
            refine lv_iload_n hx hb dX11_firstProofBehind_41 rfl (lvA6 hl) ?_
            refine lv_iconst (v := (-1)) hx hb dX11_firstProofBehind_42 kic_m1 ?_
            refine lv_icmp_eq (tgt := 55) hx hb dX11_firstProofBehind_43 rfl (fun c_17 => ?_) (fun c_17 => ?_)
            ·
              have tc_17 : (v2.toInt : Int) = (-1) := congrArg Int32.toInt c_17
              refine lv_iconst (v := 1) hx hb dX11_firstProofBehind_55 kic_1 ?_
              refine lv_goto (tgt := 60) hx hb dX11_firstProofBehind_56 rfl ?_
              refine lv_istore (lv' := [(7, .int 1), (6, .ref (ad 13 i6)), (5, .int (nI i6)), (4, .ref (ad 13 m9)), (0, .ref (g 0)), (1, .int v0), (2, .int v1), (3, .int v2)]) hx hb dX11_firstProofBehind_60 hl (ltb rfl) rfl (fun ls hl => ?_)
              refine lv_iload hx hb dX11_firstProofBehind_62 (lvA0 hl) ?_
              refine lv_if_eq (tgt := 98) hx hb dX11_firstProofBehind_64 rfl (fun h => absurd h cq_eq_1_0) (fun _ => ?_)
              refine lv_aload hx hb dX11_firstProofBehind_67 (lvA1 hl) ?_
              refine gf_RX11_408 S hK hP _ (xf_3 kf_2) (v := .int ((Fn 162) i6)) rfl dX11_firstProofBehind_69 ?_
              refine lv_iload_n hx hb dX11_firstProofBehind_72 rfl (lvA5 hl) ?_
              refine lv_icmp_le (tgt := 98) hx hb dX11_firstProofBehind_73 rfl (fun c_18 => ?_) (fun c_18 => ?_)
              ·
                have tc_18 : (((Fn 162) i6).toInt : Int) ≤ v0.toInt := Int32.le_iff_toInt_le.mp c_18
                refine lv_iinc (v := (nI (i6 + 1))) (lv' := [(5, .int (nI (i6 + 1))), (7, .int 1), (6, .ref (ad 13 i6)), (4, .ref (ad 13 m9)), (0, .ref (g 0)), (1, .int v0), (2, .int v1), (3, .int v2)]) hx hb dX11_firstProofBehind_98 hl (k := 2) rfl (nI_1 _) (ltb rfl) rfl (fun ls hl => ?_)
                refine lv_goto (tgt := 6) hx hb dX11_firstProofBehind_101 rfl ?_
                exact ih6 (i6 + 1) (some (ad 13 m9)) (by (first | omega | (have zz0 := Hid.u hb_cn; omega))) ⟨(by (first | omega | (have zz0 := Hid.u hb_cn; omega))), (Or.inr ⟨m9, h9, rfl⟩)⟩ ls (lv_sub hl [0, 3, 4, 5, 6, 7] rfl)
              ·
                have tc_18 : (v0.toInt : Int) < ((Fn 162) i6).toInt := Int32.lt_iff_toInt_lt.mp (Int32.not_le.mp c_18)
                refine lv_aload hx hb dX11_firstProofBehind_76 (lvA3 hl) ?_
                refine lv_ifnull hx hb dX11_firstProofBehind_78 ?_
                refine lv_aload hx hb dX11_firstProofBehind_81 (lvA1 hl) ?_
                refine gf_RX11_405 S hK hP _ (xf_3 kf_2) (v := .int ((Fn 161) i6)) rfl dX11_firstProofBehind_83 ?_
                refine lv_aload hx hb dX11_firstProofBehind_86 (lvA3 hl) ?_
                have kf_3 : m9 < cn 13 := by (first | omega | (have zz0 := Hid.u hb_cn; omega))
                refine gf_RX11_405 S hK hP _ (xf_3 kf_3) (v := .int ((Fn 161) m9)) rfl dX11_firstProofBehind_88 ?_
                refine lv_icmp_ge (tgt := 98) hx hb dX11_firstProofBehind_91 rfl (fun c_19 => ?_) (fun c_19 => ?_)
                ·
                  have tc_19 : (((Fn 161) m9).toInt : Int) ≤ ((Fn 161) i6).toInt := Int32.le_iff_toInt_le.mp c_19
                  refine lv_iinc (v := (nI (i6 + 1))) (lv' := [(5, .int (nI (i6 + 1))), (7, .int 1), (6, .ref (ad 13 i6)), (4, .ref (ad 13 m9)), (0, .ref (g 0)), (1, .int v0), (2, .int v1), (3, .int v2)]) hx hb dX11_firstProofBehind_98 hl (k := 2) rfl (nI_1 _) (ltb rfl) rfl (fun ls hl => ?_)
                  refine lv_goto (tgt := 6) hx hb dX11_firstProofBehind_101 rfl ?_
                  exact ih6 (i6 + 1) (some (ad 13 m9)) (by (first | omega | (have zz0 := Hid.u hb_cn; omega))) ⟨(by (first | omega | (have zz0 := Hid.u hb_cn; omega))), (Or.inr ⟨m9, h9, rfl⟩)⟩ ls (lv_sub hl [0, 3, 4, 5, 6, 7] rfl)
                ·
                  have tc_19 : (((Fn 161) i6).toInt : Int) < ((Fn 161) m9).toInt := Int32.lt_iff_toInt_lt.mp (Int32.not_le.mp c_19)
                  refine lv_aload hx hb dX11_firstProofBehind_94 (lvA1 hl) ?_
                  refine lv_astore (lv' := [(4, .ref (ad 13 i6)), (7, .int 1), (6, .ref (ad 13 i6)), (5, .int (nI i6)), (0, .ref (g 0)), (1, .int v0), (2, .int v1), (3, .int v2)]) hx hb dX11_firstProofBehind_96 hl (ltb rfl) rfl (fun ls hl => ?_)
                  refine lv_iinc (v := (nI (i6 + 1))) (lv' := [(5, .int (nI (i6 + 1))), (4, .ref (ad 13 i6)), (7, .int 1), (6, .ref (ad 13 i6)), (0, .ref (g 0)), (1, .int v0), (2, .int v1), (3, .int v2)]) hx hb dX11_firstProofBehind_98 hl (k := 3) rfl (nI_1 _) (ltb rfl) rfl (fun ls hl => ?_)
                  refine lv_goto (tgt := 6) hx hb dX11_firstProofBehind_101 rfl ?_
                  exact ih6 (i6 + 1) (some (ad 13 i6)) (by (first | omega | (have zz0 := Hid.u hb_cn; omega))) ⟨(by (first | omega | (have zz0 := Hid.u hb_cn; omega))), (Or.inr ⟨i6, by (first | omega | (have zz0 := Hid.u hb_cn; omega)), rfl⟩)⟩ ls (lv_sub hl [0, 1, 4, 5, 6, 7] rfl)
            ·
              have tc_17 : (v2.toInt : Int) ≠ (-1) := fun q => c_17 (Int32.toInt_inj.mp q)
              refine lv_aload hx hb dX11_firstProofBehind_46 (lvA0 hl) ?_
              refine gf_RX11_415 S hK hP _ (xf_3 kf_2) (v := .int ((Fn 163) i6)) rfl dX11_firstProofBehind_48 ?_
              refine lv_iload_n hx hb dX11_firstProofBehind_51 rfl (lvA6 hl) ?_
              refine lv_icmp_ne (tgt := 59) hx hb dX11_firstProofBehind_52 rfl (fun c_20 => ?_) (fun c_20 => ?_)
              ·
                have tc_20 : (((Fn 163) i6).toInt : Int) ≠ v2.toInt := fun q => c_20 (Int32.toInt_inj.mp q)
                refine lv_iconst (v := 0) hx hb dX11_firstProofBehind_59 kic_0 ?_
                refine lv_istore (lv' := [(7, .int 0), (6, .ref (ad 13 i6)), (5, .int (nI i6)), (4, .ref (ad 13 m9)), (0, .ref (g 0)), (1, .int v0), (2, .int v1), (3, .int v2)]) hx hb dX11_firstProofBehind_60 hl (ltb rfl) rfl (fun ls hl => ?_)
                refine lv_iload hx hb dX11_firstProofBehind_62 (lvA0 hl) ?_
                refine lv_if_eq (tgt := 98) hx hb dX11_firstProofBehind_64 rfl (fun _ => ?_) (fun h => absurd h cq_eq_0_0)
                refine lv_iinc (v := (nI (i6 + 1))) (lv' := [(5, .int (nI (i6 + 1))), (7, .int 0), (6, .ref (ad 13 i6)), (4, .ref (ad 13 m9)), (0, .ref (g 0)), (1, .int v0), (2, .int v1), (3, .int v2)]) hx hb dX11_firstProofBehind_98 hl (k := 2) rfl (nI_1 _) (ltb rfl) rfl (fun ls hl => ?_)
                refine lv_goto (tgt := 6) hx hb dX11_firstProofBehind_101 rfl ?_
                exact ih6 (i6 + 1) (some (ad 13 m9)) (by (first | omega | (have zz0 := Hid.u hb_cn; omega))) ⟨(by (first | omega | (have zz0 := Hid.u hb_cn; omega))), (Or.inr ⟨m9, h9, rfl⟩)⟩ ls (lv_sub hl [0, 3, 4, 5, 6, 7] rfl)
              ·
                have tc_20 : (((Fn 163) i6).toInt : Int) = v2.toInt := congrArg Int32.toInt c_20
                refine lv_iconst (v := 1) hx hb dX11_firstProofBehind_55 kic_1 ?_
                refine lv_goto (tgt := 60) hx hb dX11_firstProofBehind_56 rfl ?_
                refine lv_istore (lv' := [(7, .int 1), (6, .ref (ad 13 i6)), (5, .int (nI i6)), (4, .ref (ad 13 m9)), (0, .ref (g 0)), (1, .int v0), (2, .int v1), (3, .int v2)]) hx hb dX11_firstProofBehind_60 hl (ltb rfl) rfl (fun ls hl => ?_)
                refine lv_iload hx hb dX11_firstProofBehind_62 (lvA0 hl) ?_
                refine lv_if_eq (tgt := 98) hx hb dX11_firstProofBehind_64 rfl (fun h => absurd h cq_eq_1_0) (fun _ => ?_)
                refine lv_aload hx hb dX11_firstProofBehind_67 (lvA1 hl) ?_
                refine gf_RX11_408 S hK hP _ (xf_3 kf_2) (v := .int ((Fn 162) i6)) rfl dX11_firstProofBehind_69 ?_
                refine lv_iload_n hx hb dX11_firstProofBehind_72 rfl (lvA5 hl) ?_
                refine lv_icmp_le (tgt := 98) hx hb dX11_firstProofBehind_73 rfl (fun c_21 => ?_) (fun c_21 => ?_)
                ·
                  have tc_21 : (((Fn 162) i6).toInt : Int) ≤ v0.toInt := Int32.le_iff_toInt_le.mp c_21
                  refine lv_iinc (v := (nI (i6 + 1))) (lv' := [(5, .int (nI (i6 + 1))), (7, .int 1), (6, .ref (ad 13 i6)), (4, .ref (ad 13 m9)), (0, .ref (g 0)), (1, .int v0), (2, .int v1), (3, .int v2)]) hx hb dX11_firstProofBehind_98 hl (k := 2) rfl (nI_1 _) (ltb rfl) rfl (fun ls hl => ?_)
                  refine lv_goto (tgt := 6) hx hb dX11_firstProofBehind_101 rfl ?_
                  exact ih6 (i6 + 1) (some (ad 13 m9)) (by (first | omega | (have zz0 := Hid.u hb_cn; omega))) ⟨(by (first | omega | (have zz0 := Hid.u hb_cn; omega))), (Or.inr ⟨m9, h9, rfl⟩)⟩ ls (lv_sub hl [0, 3, 4, 5, 6, 7] rfl)
                ·
                  have tc_21 : (v0.toInt : Int) < ((Fn 162) i6).toInt := Int32.lt_iff_toInt_lt.mp (Int32.not_le.mp c_21)
                  refine lv_aload hx hb dX11_firstProofBehind_76 (lvA3 hl) ?_
                  refine lv_ifnull hx hb dX11_firstProofBehind_78 ?_
                  refine lv_aload hx hb dX11_firstProofBehind_81 (lvA1 hl) ?_
                  refine gf_RX11_405 S hK hP _ (xf_3 kf_2) (v := .int ((Fn 161) i6)) rfl dX11_firstProofBehind_83 ?_
                  refine lv_aload hx hb dX11_firstProofBehind_86 (lvA3 hl) ?_
                  have kf_4 : m9 < cn 13 := by (first | omega | (have zz0 := Hid.u hb_cn; omega))
                  refine gf_RX11_405 S hK hP _ (xf_3 kf_4) (v := .int ((Fn 161) m9)) rfl dX11_firstProofBehind_88 ?_
                  refine lv_icmp_ge (tgt := 98) hx hb dX11_firstProofBehind_91 rfl (fun c_22 => ?_) (fun c_22 => ?_)
                  ·
                    have tc_22 : (((Fn 161) m9).toInt : Int) ≤ ((Fn 161) i6).toInt := Int32.le_iff_toInt_le.mp c_22
                    refine lv_iinc (v := (nI (i6 + 1))) (lv' := [(5, .int (nI (i6 + 1))), (7, .int 1), (6, .ref (ad 13 i6)), (4, .ref (ad 13 m9)), (0, .ref (g 0)), (1, .int v0), (2, .int v1), (3, .int v2)]) hx hb dX11_firstProofBehind_98 hl (k := 2) rfl (nI_1 _) (ltb rfl) rfl (fun ls hl => ?_)
                    refine lv_goto (tgt := 6) hx hb dX11_firstProofBehind_101 rfl ?_
                    exact ih6 (i6 + 1) (some (ad 13 m9)) (by (first | omega | (have zz0 := Hid.u hb_cn; omega))) ⟨(by (first | omega | (have zz0 := Hid.u hb_cn; omega))), (Or.inr ⟨m9, h9, rfl⟩)⟩ ls (lv_sub hl [0, 3, 4, 5, 6, 7] rfl)
                  ·
                    have tc_22 : (((Fn 161) i6).toInt : Int) < ((Fn 161) m9).toInt := Int32.lt_iff_toInt_lt.mp (Int32.not_le.mp c_22)
                    refine lv_aload hx hb dX11_firstProofBehind_94 (lvA1 hl) ?_
                    refine lv_astore (lv' := [(4, .ref (ad 13 i6)), (7, .int 1), (6, .ref (ad 13 i6)), (5, .int (nI i6)), (0, .ref (g 0)), (1, .int v0), (2, .int v1), (3, .int v2)]) hx hb dX11_firstProofBehind_96 hl (ltb rfl) rfl (fun ls hl => ?_)
                    refine lv_iinc (v := (nI (i6 + 1))) (lv' := [(5, .int (nI (i6 + 1))), (4, .ref (ad 13 i6)), (7, .int 1), (6, .ref (ad 13 i6)), (0, .ref (g 0)), (1, .int v0), (2, .int v1), (3, .int v2)]) hx hb dX11_firstProofBehind_98 hl (k := 3) rfl (nI_1 _) (ltb rfl) rfl (fun ls hl => ?_)
                    refine lv_goto (tgt := 6) hx hb dX11_firstProofBehind_101 rfl ?_
                    exact ih6 (i6 + 1) (some (ad 13 i6)) (by (first | omega | (have zz0 := Hid.u hb_cn; omega))) ⟨(by (first | omega | (have zz0 := Hid.u hb_cn; omega))), (Or.inr ⟨i6, by (first | omega | (have zz0 := Hid.u hb_cn; omega)), rfl⟩)⟩ ls (lv_sub hl [0, 1, 4, 5, 6, 7] rfl)
  exact lp_6 _ 0 none (Nat.lt_succ_self _) ⟨(by (first | omega | (have zz0 := Hid.u hb_cn; omega))), (Or.inl rfl)⟩ ls (lv_sub hl [0, 1, 2, 3, 4, 5] rfl)
set_option maxRecDepth 100000 in
set_option maxHeartbeats 4000000 in
theorem q_XprovenLitres (l : Launch) (D : va_G) (cI cB cZ : ClassId) (zz qq vv : Nat) (bt : Nat → Int32) (g : Nat → Nat) (ad : Nat → Nat → Nat) (cn : Nat → Nat) (In : Nat → Int32) (Fn : Nat → Nat → Int32) (v0 v1 : Int32) (hB : CBX cn) : Met l yX11_provenLitres (CWS yX11_provenLitres cX11_provenLitres 7 (some .int)) (RM 4 0 0) (PBrx [.ref (g 0), .int v0, .int v1] D cI cB cZ zz qq vv bt (wX cI (D.1 99) zz g ad cn In Fn)) (vp_Si (fun _ => True)) 0 0 (fun _ => False) := by
  refine en_rx rfl pn_RX11 (Nat.le_of_ble_eq_true rfl) (fun p e s m below meth c hx hb hml hown S hr hlocks hnm hP hK hXS hS ls hl => ?_)
  have hl : lv_has ls 7 [(0, .ref (g 0)), (1, .int v0), (2, .int v1)] := hl
  have hb_cn : Hid (CBX cn) := hB
  replace hB : CBXh cn := hB
  refine lv_iconst (v := 0) hx hb dX11_provenLitres_0 kic_0 ?_
  refine lv_istore_n (lv' := [(3, .int 0), (0, .ref (g 0)), (1, .int v0), (2, .int v1)]) hx hb dX11_provenLitres_1 rfl hl (ltb rfl) rfl (fun ls hl => ?_)
  refine lv_iconst (v := 0) hx hb dX11_provenLitres_2 kic_0 ?_
  refine lv_istore (lv' := [(4, .int 0), (3, .int 0), (0, .ref (g 0)), (1, .int v0), (2, .int v1)]) hx hb dX11_provenLitres_3 hl (ltb rfl) rfl (fun ls hl => ?_)
  refine lv_iconst (v := 0) hx hb dX11_provenLitres_5 kic_0 ?_
  refine lv_istore (lv' := [(5, .int 0), (4, .int 0), (3, .int 0), (0, .ref (g 0)), (1, .int v0), (2, .int v1)]) hx hb dX11_provenLitres_6 hl (ltb rfl) rfl (fun ls hl => ?_)
  have lp_8 : ∀ (n : Nat) (i8 : Nat) (x8_3 : Int32) (x8_4 : Int32) , 40 - i8 < n → (i8 ≤ 40) → ∀ ls : Array Slot, lv_has ls 7 [(5, .int (nI i8)), (4, .int x8_4), (3, .int x8_3), (0, .ref (g 0)), (1, .int v0), (2, .int v1)] → W p l e (RM 4 0 0) s m ([.ref (g 0), .int v0, .int v1]).toArray below meth c s.heap [] 0 0 (MQ below (vp_Si (fun _ => True)) ([.ref (g 0), .int v0, .int v1]).toArray s 0 0 (fun _ => False)) (F0 m 8 ls []) := by
    intro n8
    induction n8 with
    | zero => intros; (first | omega | (have zz0 := Hid.u hb_cn; omega))
    | succ n8 ih8 =>
      intro i8 x8_3 x8_4 hmu8 hinv8 ls hl
      have hr8 := hinv8
      have ti8 : (nI i8).toInt = (i8 : Int) := nI_toInt (by (first | omega | (have zz0 := Hid.u hb_cn; omega)))
      refine lv_iload hx hb dX11_provenLitres_8 (lvA0 hl) ?_
      refine lv_bipush (v := 40) hx hb dX11_provenLitres_10 kbc_40 ?_
      refine lv_icmp_ge (tgt := 65) hx hb dX11_provenLitres_12 rfl (fun c_1 => ?_) (fun c_1 => ?_)
      ·
        have tc_1 : (40 : Int) ≤ (nI i8).toInt := Int32.le_iff_toInt_le.mp c_1
        refine lv_iload_n hx hb dX11_provenLitres_65 rfl (lvA2 hl) ?_
        exact W.iret (v := x8_3) hx hb hr (fun t ht hW => ⟨x8_3, rfl, trivial, ht⟩) (fun _ h => absurd h List.not_mem_nil) dX11_provenLitres_66
      ·
        have tc_1 : ((nI i8).toInt : Int) < 40 := Int32.lt_iff_toInt_lt.mp (Int32.not_le.mp c_1)
        refine lv_aload_n hx hb dX11_provenLitres_15 rfl (lvA3 hl) ?_
        refine lv_iload hx hb dX11_provenLitres_16 (lvA1 hl) ?_
        refine lv_iload_n hx hb dX11_provenLitres_18 rfl (lvA4 hl) ?_
        refine lv_iload_n hx hb dX11_provenLitres_19 rfl (lvA5 hl) ?_
        refine va_csq (runV_rxa (As := [.int x8_4, .int v0, .int v1]) (rest := []) S (q_XfirstProofBehind l D cI cB cZ zz qq vv bt g ad cn In Fn x8_4 v0 v1 hB) kV_RX11_418 hK hXS hS hP 0 xo_0 rfl rfl ⟨Nat.le_of_ble_eq_true rfl, Nat.le_of_ble_eq_true rfl⟩ ⟨Nat.le_of_ble_eq_true rfl, Nat.le_of_ble_eq_true rfl⟩ rfl hl.1 rfl (Nat.le_of_ble_eq_true rfl) dX11_provenLitres_20) (fun r_2 h_3 => ?_)
        rcases h_3 with ⟨mr_2, er_2, hr_2, rfl⟩ | ⟨hr_2, rfl⟩
        ·
          refine lv_astore (lv' := [(6, .ref (ad 13 mr_2)), (5, .int (nI i8)), (4, .int x8_4), (3, .int x8_3), (0, .ref (g 0)), (1, .int v0), (2, .int v1)]) hx hb dX11_provenLitres_23 hl (ltb rfl) rfl (fun ls hl => ?_)
          refine lv_aload hx hb dX11_provenLitres_25 (lvA0 hl) ?_
          refine lv_ifnonnull (tgt := 33) hx hb dX11_provenLitres_27 rfl ?_
          refine lv_iload_n hx hb dX11_provenLitres_33 rfl (lvA3 hl) ?_
          refine lv_aload hx hb dX11_provenLitres_34 (lvA0 hl) ?_
          have kf_1 : mr_2 < cn 13 := by (first | omega | (have zz0 := Hid.u hb_cn; omega))
          refine gf_RX11_408 S hK hP _ (xf_3 kf_1) (v := .int ((Fn 162) mr_2)) rfl dX11_provenLitres_36 ?_
          refine lv_aload hx hb dX11_provenLitres_39 (lvA0 hl) ?_
          refine gf_RX11_405 S hK hP _ (xf_3 kf_1) (v := .int ((Fn 161) mr_2)) rfl dX11_provenLitres_41 ?_
          refine lv_iload hx hb dX11_provenLitres_44 (lvA2 hl) ?_
          refine va_mmax hx hb (by rw [hml]; exact hl.1.symm) hown (S.2.2.2.2 _ (wk4_3 8 rfl rfl)) (S.2.2.2.2 _ (wk1_3 6 rfl rfl)) (S.2.2.2.2 _ (wk1_0 3 rfl rfl)) (S.2.2.2.2 _ (wk1_3 7 rfl rfl)) (Nat.le_of_ble_eq_true rfl) (Nat.le_of_ble_eq_true rfl) (Nat.le_of_ble_eq_true rfl) (Nat.le_of_ble_eq_true rfl) dX11_provenLitres_46 ?_
          refine lv_isub hx hb dX11_provenLitres_49 ?_
          refine lv_iadd hx hb dX11_provenLitres_50 ?_
          refine lv_istore_n (lv' := [(3, .int (x8_3 + (((Fn 162) mr_2) - (if ((Fn 161) mr_2) < x8_4 then x8_4 else ((Fn 161) mr_2))))), (6, .ref (ad 13 mr_2)), (5, .int (nI i8)), (4, .int x8_4), (0, .ref (g 0)), (1, .int v0), (2, .int v1)]) hx hb dX11_provenLitres_51 rfl hl (ltb rfl) rfl (fun ls hl => ?_)
          refine lv_aload hx hb dX11_provenLitres_52 (lvA1 hl) ?_
          refine gf_RX11_408 S hK hP _ (xf_3 kf_1) (v := .int ((Fn 162) mr_2)) rfl dX11_provenLitres_54 ?_
          refine lv_istore (lv' := [(4, .int ((Fn 162) mr_2)), (3, .int (x8_3 + (((Fn 162) mr_2) - (if ((Fn 161) mr_2) < x8_4 then x8_4 else ((Fn 161) mr_2))))), (6, .ref (ad 13 mr_2)), (5, .int (nI i8)), (0, .ref (g 0)), (1, .int v0), (2, .int v1)]) hx hb dX11_provenLitres_57 hl (ltb rfl) rfl (fun ls hl => ?_)
          refine lv_iinc (v := (nI (i8 + 1))) (lv' := [(5, .int (nI (i8 + 1))), (4, .int ((Fn 162) mr_2)), (3, .int (x8_3 + (((Fn 162) mr_2) - (if ((Fn 161) mr_2) < x8_4 then x8_4 else ((Fn 161) mr_2))))), (6, .ref (ad 13 mr_2)), (0, .ref (g 0)), (1, .int v0), (2, .int v1)]) hx hb dX11_provenLitres_59 hl (k := 3) rfl (nI_1 _) (ltb rfl) rfl (fun ls hl => ?_)
          refine lv_goto (tgt := 8) hx hb dX11_provenLitres_62 rfl ?_
          exact ih8 (i8 + 1) (x8_3 + (((Fn 162) mr_2) - (if ((Fn 161) mr_2) < x8_4 then x8_4 else ((Fn 161) mr_2)))) ((Fn 162) mr_2) (by (first | omega | (have zz0 := Hid.u hb_cn; omega))) (by (first | omega | (have zz0 := Hid.u hb_cn; omega))) ls (lv_sub hl [0, 1, 2, 4, 5, 6] rfl)
        ·
          refine lv_astoreN (lv' := [(6, .null), (5, .int (nI i8)), (4, .int x8_4), (3, .int x8_3), (0, .ref (g 0)), (1, .int v0), (2, .int v1)]) hx hb dX11_provenLitres_23 hl (ltb rfl) rfl (fun ls hl => ?_)
          refine lv_aloadN hx hb dX11_provenLitres_25 (lvA0 hl) ?_
          refine lv_ifnonnullN hx hb dX11_provenLitres_27 ?_
          refine lv_goto (tgt := 65) hx hb dX11_provenLitres_30 rfl ?_
          refine lv_iload_n hx hb dX11_provenLitres_65 rfl (lvA3 hl) ?_
          exact W.iret (v := x8_3) hx hb hr (fun t ht hW => ⟨x8_3, rfl, trivial, ht⟩) (fun _ h => absurd h List.not_mem_nil) dX11_provenLitres_66
  exact lp_8 _ 0 0 0 (Nat.lt_succ_self _) (by (first | omega | (have zz0 := Hid.u hb_cn; omega))) ls (lv_sub hl [0, 1, 2, 3, 4, 5] rfl)
set_option maxRecDepth 100000 in
set_option maxHeartbeats 4000000 in
theorem q_Xbought (l : Launch) (D : va_G) (cI cB cZ : ClassId) (zz qq vv : Nat) (bt : Nat → Int32) (g : Nat → Nat) (ad : Nat → Nat → Nat) (cn : Nat → Nat) (In : Nat → Int32) (Fn : Nat → Nat → Int32) (v0 v1 : Int32) (hB : CBX cn) : Met l yX11_bought (CWS yX11_bought cX11_bought 3 (some .int)) (RM 5 0 0) (PBrx [.ref (g 0), .int v0, .int v1] D cI cB cZ zz qq vv bt (wX cI (D.1 99) zz g ad cn In Fn)) (vp_Si (fun _ => True)) 0 0 (fun _ => False) := by
  refine en_rx rfl pn_RX11 (Nat.le_of_ble_eq_true rfl) (fun p e s m below meth c hx hb hml hown S hr hlocks hnm hP hK hXS hS ls hl => ?_)
  have hl : lv_has ls 3 [(0, .ref (g 0)), (1, .int v0), (2, .int v1)] := hl
  have hb_cn : Hid (CBX cn) := hB
  replace hB : CBXh cn := hB
  refine lv_aload_n hx hb dX11_bought_0 rfl (lvA0 hl) ?_
  refine lv_iload_n hx hb dX11_bought_1 rfl (lvA1 hl) ?_
  refine va_csq (runV_rxa (As := [.int v0]) (rest := []) S (q_XbatchAt l D cI cB cZ zz qq vv bt g ad cn In Fn v0 hB) kV_RX11_382 hK hXS hS hP 0 xo_0 rfl rfl ⟨Nat.le_of_ble_eq_true rfl, Nat.le_of_ble_eq_true rfl⟩ ⟨Nat.le_of_ble_eq_true rfl, Nat.le_of_ble_eq_true rfl⟩ rfl hl.1 rfl (Nat.le_of_ble_eq_true rfl) dX11_bought_2) (fun r_1 h_2 => ?_)
  rcases h_2 with ⟨mr_1, er_1, hr_1, rfl⟩ | ⟨hr_1, rfl⟩
  ·
    refine lv_ifnull hx hb dX11_bought_5 ?_
    refine lv_iload_n hx hb dX11_bought_8 rfl (lvA2 hl) ?_
    refine lv_iconst (v := 0) hx hb dX11_bought_9 kic_0 ?_
    refine lv_bipush (v := 9) hx hb dX11_bought_10 kbc_9 ?_
    refine vp_callSi (runS_r (As := [.int v1, .int 0, .int 9]) (rest := []) S (q_l_within l D cI cB cZ v1 0 9) kS_RX11_80 hK hP [] rfl ⟨Nat.le_of_ble_eq_true rfl, Nat.le_of_ble_eq_true rfl⟩ ⟨Nat.le_of_ble_eq_true rfl, Nat.le_of_ble_eq_true rfl⟩ rfl hl.1 rfl (Nat.le_of_ble_eq_true rfl) dX11_bought_12) (fun r_3 h_4 => ?_)
    rcases h_4 with ⟨rfl, h_4⟩ | ⟨rfl, h_4⟩
    ·
      have h_4 : 0 ≤ v1.toInt ∧ v1.toInt ≤ 9 := h_4
      refine lv_if_ne (tgt := 22) hx hb dX11_bought_15 rfl (fun _ => ?_) (fun h => absurd h cq_eq_1_0)
      refine lv_aload_n hx hb dX11_bought_22 rfl (lvA0 hl) ?_
      refine lv_iload_n hx hb dX11_bought_23 rfl (lvA1 hl) ?_
      refine lv_iload_n hx hb dX11_bought_24 rfl (lvA2 hl) ?_
      refine vp_callSi (runV_rxa (As := [.int v0, .int v1]) (rest := []) S (q_XprovenLitres l D cI cB cZ zz qq vv bt g ad cn In Fn v0 v1 hB) kV_RX11_385 hK hXS hS hP 0 xo_0 rfl rfl ⟨Nat.le_of_ble_eq_true rfl, Nat.le_of_ble_eq_true rfl⟩ ⟨Nat.le_of_ble_eq_true rfl, Nat.le_of_ble_eq_true rfl⟩ rfl hl.1 rfl (Nat.le_of_ble_eq_true rfl) dX11_bought_25) (fun r_5 h_6 => ?_)
      exact W.iret (v := r_5) hx hb hr (fun t ht hW => ⟨r_5, rfl, trivial, ht⟩) (fun _ h => absurd h List.not_mem_nil) dX11_bought_28
    ·
      have h_4 : ¬ (0 ≤ v1.toInt ∧ v1.toInt ≤ 9) := h_4
      refine lv_if_ne (tgt := 22) hx hb dX11_bought_15 rfl (fun h => absurd h cq_eq_0_0) (fun _ => ?_)
      refine lv_iconst (v := (-1)) hx hb dX11_bought_18 kic_m1 ?_
      refine lv_goto (tgt := 28) hx hb dX11_bought_19 rfl ?_
      exact W.iret (v := (-1)) hx hb hr (fun t ht hW => ⟨(-1), rfl, trivial, ht⟩) (fun _ h => absurd h List.not_mem_nil) dX11_bought_28
  ·
    refine lv_ifnullN (tgt := 18) hx hb dX11_bought_5 rfl ?_
    refine lv_iconst (v := (-1)) hx hb dX11_bought_18 kic_m1 ?_
    refine lv_goto (tgt := 28) hx hb dX11_bought_19 rfl ?_
    exact W.iret (v := (-1)) hx hb hr (fun t ht hW => ⟨(-1), rfl, trivial, ht⟩) (fun _ h => absurd h List.not_mem_nil) dX11_bought_28
set_option maxRecDepth 100000 in
set_option maxHeartbeats 4000000 in
theorem q_Xwhence (l : Launch) (D : va_G) (cI cB cZ : ClassId) (zz qq vv : Nat) (bt : Nat → Int32) (g : Nat → Nat) (ad : Nat → Nat → Nat) (cn : Nat → Nat) (In : Nat → Int32) (Fn : Nat → Nat → Int32) (v0 v1 : Int32) (hB : CBX cn) : Met l yX11_whence (CWS yX11_whence cX11_whence 7 (some .int)) (RM 4 0 0) (PBrx [.ref (g 0), .int v0, .int v1] D cI cB cZ zz qq vv bt (wX cI (D.1 99) zz g ad cn In Fn)) (vp_Si (fun _ => True)) 0 0 (fun _ => False) := by
  refine en_rx rfl pn_RX11 (Nat.le_of_ble_eq_true rfl) (fun p e s m below meth c hx hb hml hown S hr hlocks hnm hP hK hXS hS ls hl => ?_)
  have hl : lv_has ls 7 [(0, .ref (g 0)), (1, .int v0), (2, .int v1)] := hl
  have hb_cn : Hid (CBX cn) := hB
  replace hB : CBXh cn := hB
  refine lv_aload_n hx hb dX11_whence_0 rfl (lvA0 hl) ?_
  refine lv_iload_n hx hb dX11_whence_1 rfl (lvA1 hl) ?_
  refine va_csq (runV_rxa (As := [.int v0]) (rest := []) S (q_XbatchAt l D cI cB cZ zz qq vv bt g ad cn In Fn v0 hB) kV_RX11_382 hK hXS hS hP 0 xo_0 rfl rfl ⟨Nat.le_of_ble_eq_true rfl, Nat.le_of_ble_eq_true rfl⟩ ⟨Nat.le_of_ble_eq_true rfl, Nat.le_of_ble_eq_true rfl⟩ rfl hl.1 rfl (Nat.le_of_ble_eq_true rfl) dX11_whence_2) (fun r_1 h_2 => ?_)
  rcases h_2 with ⟨mr_1, er_1, hr_1, rfl⟩ | ⟨hr_1, rfl⟩
  ·
    refine lv_astore_n (lv' := [(3, .ref (ad 12 mr_1)), (0, .ref (g 0)), (1, .int v0), (2, .int v1)]) hx hb dX11_whence_5 rfl hl (ltb rfl) rfl (fun ls hl => ?_)
    refine lv_aload_n hx hb dX11_whence_6 rfl (lvA0 hl) ?_
    refine lv_ifnull hx hb dX11_whence_7 ?_
    refine lv_iload_n hx hb dX11_whence_10 rfl (lvA3 hl) ?_
    refine lv_if_lt (tgt := 22) hx hb dX11_whence_11 rfl (fun c_3 => ?_) (fun c_3 => ?_)
    ·
      have tc_3 : (v1.toInt : Int) < 0 := Int32.lt_iff_toInt_lt.mp c_3
      refine lv_iconst (v := (-1)) hx hb dX11_whence_22 kic_m1 ?_
      exact W.iret (v := (-1)) hx hb hr (fun t ht hW => ⟨(-1), rfl, trivial, ht⟩) (fun _ h => absurd h List.not_mem_nil) dX11_whence_23
    ·
      have tc_3 : (0 : Int) ≤ v1.toInt := Int32.le_iff_toInt_le.mp (Int32.not_lt.mp c_3)
      refine lv_iload_n hx hb dX11_whence_14 rfl (lvA3 hl) ?_
      refine lv_aload_n hx hb dX11_whence_15 rfl (lvA0 hl) ?_
      have kf_1 : mr_1 < cn 12 := by (first | omega | (have zz0 := Hid.u hb_cn; omega))
      refine gf_RX11_342 S hK hP _ (xf_2 kf_1) (v := .int ((Fn 146) mr_1)) rfl dX11_whence_16 ?_
      refine lv_icmp_lt (tgt := 24) hx hb dX11_whence_19 rfl (fun c_4 => ?_) (fun c_4 => ?_)
      ·
        have tc_4 : (v1.toInt : Int) < ((Fn 146) mr_1).toInt := Int32.lt_iff_toInt_lt.mp c_4
        refine lv_iconst (v := 0) hx hb dX11_whence_24 kic_0 ?_
        refine lv_istore (lv' := [(4, .int 0), (3, .ref (ad 12 mr_1)), (0, .ref (g 0)), (1, .int v0), (2, .int v1)]) hx hb dX11_whence_25 hl (ltb rfl) rfl (fun ls hl => ?_)
        refine lv_iconst (v := 0) hx hb dX11_whence_27 kic_0 ?_
        refine lv_istore (lv' := [(5, .int 0), (4, .int 0), (3, .ref (ad 12 mr_1)), (0, .ref (g 0)), (1, .int v0), (2, .int v1)]) hx hb dX11_whence_28 hl (ltb rfl) rfl (fun ls hl => ?_)
        have lp_30 : ∀ (n : Nat) (i30 : Nat) (x30_4 : Int32) , 20 - i30 < n → (i30 ≤ 20) → ∀ ls : Array Slot, lv_has ls 7 [(5, .int (nI i30)), (4, .int x30_4), (3, .ref (ad 12 mr_1)), (0, .ref (g 0)), (1, .int v0), (2, .int v1)] → W p l e (RM 4 0 0) s m ([.ref (g 0), .int v0, .int v1]).toArray below meth c s.heap [] 0 0 (MQ below (vp_Si (fun _ => True)) ([.ref (g 0), .int v0, .int v1]).toArray s 0 0 (fun _ => False)) (F0 m 30 ls []) := by
          intro n30
          induction n30 with
          | zero => intros; (first | omega | (have zz0 := Hid.u hb_cn; omega))
          | succ n30 ih30 =>
            intro i30 x30_4 hmu30 hinv30 ls hl
            have hr30 := hinv30
            have ti30 : (nI i30).toInt = (i30 : Int) := nI_toInt (by (first | omega | (have zz0 := Hid.u hb_cn; omega)))
            refine lv_iload hx hb dX11_whence_30 (lvA0 hl) ?_
            refine lv_bipush (v := 20) hx hb dX11_whence_32 kbc_20 ?_
            refine lv_icmp_ge (tgt := 88) hx hb dX11_whence_34 rfl (fun c_5 => ?_) (fun c_5 => ?_)
            ·
              have tc_5 : (20 : Int) ≤ (nI i30).toInt := Int32.le_iff_toInt_le.mp c_5
              refine lv_iconst (v := (-1)) hx hb dX11_whence_88 kic_m1 ?_
              exact W.iret (v := (-1)) hx hb hr (fun t ht hW => ⟨(-1), rfl, trivial, ht⟩) (fun _ h => absurd h List.not_mem_nil) dX11_whence_89
            ·
              have tc_5 : ((nI i30).toInt : Int) < 20 := Int32.lt_iff_toInt_lt.mp (Int32.not_le.mp c_5)
              refine lv_aload_n hx hb dX11_whence_37 rfl (lvA3 hl) ?_
              refine lv_iload hx hb dX11_whence_38 (lvA0 hl) ?_
              refine va_csq (runV_rxa (As := [.int (nI i30)]) (rest := []) S (q_XloadAt l D cI cB cZ zz qq vv bt g ad cn In Fn (nI i30) hB) kV_RX11_148 hK hXS hS hP 0 xo_0 rfl rfl ⟨Nat.le_of_ble_eq_true rfl, Nat.le_of_ble_eq_true rfl⟩ ⟨Nat.le_of_ble_eq_true rfl, Nat.le_of_ble_eq_true rfl⟩ rfl hl.1 rfl (Nat.le_of_ble_eq_true rfl) dX11_whence_40) (fun r_6 h_7 => ?_)
              rcases h_7 with ⟨mr_6, er_6, hr_6, rfl⟩ | ⟨hr_6, rfl⟩
              ·
                refine lv_astore (lv' := [(6, .ref (ad 11 mr_6)), (5, .int (nI i30)), (4, .int x30_4), (3, .ref (ad 12 mr_1)), (0, .ref (g 0)), (1, .int v0), (2, .int v1)]) hx hb dX11_whence_43 hl (ltb rfl) rfl (fun ls hl => ?_)
                refine lv_iload hx hb dX11_whence_45 (lvA2 hl) ?_
                refine lv_aload hx hb dX11_whence_47 (lvA0 hl) ?_
                refine lv_ifnull hx hb dX11_whence_49 ?_
                refine lv_aload_n hx hb dX11_whence_52 rfl (lvA3 hl) ?_
                refine lv_iload hx hb dX11_whence_53 (lvA1 hl) ?_
                refine vp_callSi (runV_rxa (As := [.int (nI i30)]) (rest := [.int x30_4]) S (q_Xhas l D cI cB cZ zz qq vv bt g ad cn In Fn mr_1 (nI i30) hB (by (first | omega | (have zz0 := Hid.u hb_cn; omega)))) kV_RX11_378 hK hXS hS hP _ (xf_2 kf_1) rfl rfl ⟨Nat.le_of_ble_eq_true rfl, Nat.le_of_ble_eq_true rfl⟩ ⟨Nat.le_of_ble_eq_true rfl, Nat.le_of_ble_eq_true rfl⟩ rfl hl.1 rfl (Nat.le_of_ble_eq_true rfl) dX11_whence_55) (fun r_8 h_9 => ?_)
                rcases h_9 with rfl | rfl
                ·
                  refine lv_if_eq (tgt := 69) hx hb dX11_whence_58 rfl (fun _ => ?_) (fun h => absurd h cq_eq_0_0)
                  refine lv_iconst (v := 0) hx hb dX11_whence_69 kic_0 ?_
                  refine lv_iadd hx hb dX11_whence_70 ?_
                  refine lv_istore (lv' := [(4, .int (x30_4 + 0)), (6, .ref (ad 11 mr_6)), (5, .int (nI i30)), (3, .ref (ad 12 mr_1)), (0, .ref (g 0)), (1, .int v0), (2, .int v1)]) hx hb dX11_whence_71 hl (ltb rfl) rfl (fun ls hl => ?_)
                  refine lv_iload_n hx hb dX11_whence_73 rfl (lvA6 hl) ?_
                  refine lv_iload hx hb dX11_whence_74 (lvA0 hl) ?_
                  refine lv_icmp_ge (tgt := 82) hx hb dX11_whence_76 rfl (fun c_10 => ?_) (fun c_10 => ?_)
                  ·
                    have tc_10 : ((x30_4 + 0).toInt : Int) ≤ v1.toInt := Int32.le_iff_toInt_le.mp c_10
                    refine lv_iinc (v := (nI (i30 + 1))) (lv' := [(5, .int (nI (i30 + 1))), (4, .int (x30_4 + 0)), (6, .ref (ad 11 mr_6)), (3, .ref (ad 12 mr_1)), (0, .ref (g 0)), (1, .int v0), (2, .int v1)]) hx hb dX11_whence_82 hl (k := 2) rfl (nI_1 _) (ltb rfl) rfl (fun ls hl => ?_)
                    refine lv_goto (tgt := 30) hx hb dX11_whence_85 rfl ?_
                    exact ih30 (i30 + 1) (x30_4 + 0) (by (first | omega | (have zz0 := Hid.u hb_cn; omega))) (by (first | omega | (have zz0 := Hid.u hb_cn; omega))) ls (lv_sub hl [0, 1, 3, 4, 5, 6] rfl)
                  ·
                    have tc_10 : (v1.toInt : Int) < (x30_4 + 0).toInt := Int32.lt_iff_toInt_lt.mp (Int32.not_le.mp c_10)
                    refine lv_iload hx hb dX11_whence_79 (lvA2 hl) ?_
                    exact W.iret (v := (nI i30)) hx hb hr (fun t ht hW => ⟨(nI i30), rfl, trivial, ht⟩) (fun _ h => absurd h List.not_mem_nil) dX11_whence_81
                ·
                  refine lv_if_eq (tgt := 69) hx hb dX11_whence_58 rfl (fun h => absurd h cq_eq_1_0) (fun _ => ?_)
                  refine lv_aload hx hb dX11_whence_61 (lvA0 hl) ?_
                  have kf_2 : mr_6 < cn 11 := by (first | omega | (have zz0 := Hid.u hb_cn; omega))
                  refine gf_RX11_202 S hK hP _ (xf_1 kf_2) (v := .int ((Fn 122) mr_6)) rfl dX11_whence_63 ?_
                  refine lv_goto (tgt := 70) hx hb dX11_whence_66 rfl ?_
                  refine lv_iadd hx hb dX11_whence_70 ?_
                  refine lv_istore (lv' := [(4, .int (x30_4 + ((Fn 122) mr_6))), (6, .ref (ad 11 mr_6)), (5, .int (nI i30)), (3, .ref (ad 12 mr_1)), (0, .ref (g 0)), (1, .int v0), (2, .int v1)]) hx hb dX11_whence_71 hl (ltb rfl) rfl (fun ls hl => ?_)
                  refine lv_iload_n hx hb dX11_whence_73 rfl (lvA6 hl) ?_
                  refine lv_iload hx hb dX11_whence_74 (lvA0 hl) ?_
                  refine lv_icmp_ge (tgt := 82) hx hb dX11_whence_76 rfl (fun c_11 => ?_) (fun c_11 => ?_)
                  ·
                    have tc_11 : ((x30_4 + ((Fn 122) mr_6)).toInt : Int) ≤ v1.toInt := Int32.le_iff_toInt_le.mp c_11
                    refine lv_iinc (v := (nI (i30 + 1))) (lv' := [(5, .int (nI (i30 + 1))), (4, .int (x30_4 + ((Fn 122) mr_6))), (6, .ref (ad 11 mr_6)), (3, .ref (ad 12 mr_1)), (0, .ref (g 0)), (1, .int v0), (2, .int v1)]) hx hb dX11_whence_82 hl (k := 2) rfl (nI_1 _) (ltb rfl) rfl (fun ls hl => ?_)
                    refine lv_goto (tgt := 30) hx hb dX11_whence_85 rfl ?_
                    exact ih30 (i30 + 1) (x30_4 + ((Fn 122) mr_6)) (by (first | omega | (have zz0 := Hid.u hb_cn; omega))) (by (first | omega | (have zz0 := Hid.u hb_cn; omega))) ls (lv_sub hl [0, 1, 3, 4, 5, 6] rfl)
                  ·
                    have tc_11 : (v1.toInt : Int) < (x30_4 + ((Fn 122) mr_6)).toInt := Int32.lt_iff_toInt_lt.mp (Int32.not_le.mp c_11)
                    refine lv_iload hx hb dX11_whence_79 (lvA2 hl) ?_
                    exact W.iret (v := (nI i30)) hx hb hr (fun t ht hW => ⟨(nI i30), rfl, trivial, ht⟩) (fun _ h => absurd h List.not_mem_nil) dX11_whence_81
              ·
                refine lv_astoreN (lv' := [(6, .null), (5, .int (nI i30)), (4, .int x30_4), (3, .ref (ad 12 mr_1)), (0, .ref (g 0)), (1, .int v0), (2, .int v1)]) hx hb dX11_whence_43 hl (ltb rfl) rfl (fun ls hl => ?_)
                refine lv_iload hx hb dX11_whence_45 (lvA2 hl) ?_
                refine lv_aloadN hx hb dX11_whence_47 (lvA0 hl) ?_
                refine lv_ifnullN (tgt := 69) hx hb dX11_whence_49 rfl ?_
                refine lv_iconst (v := 0) hx hb dX11_whence_69 kic_0 ?_
                refine lv_iadd hx hb dX11_whence_70 ?_
                refine lv_istore (lv' := [(4, .int (x30_4 + 0)), (6, .null), (5, .int (nI i30)), (3, .ref (ad 12 mr_1)), (0, .ref (g 0)), (1, .int v0), (2, .int v1)]) hx hb dX11_whence_71 hl (ltb rfl) rfl (fun ls hl => ?_)
                refine lv_iload_n hx hb dX11_whence_73 rfl (lvA6 hl) ?_
                refine lv_iload hx hb dX11_whence_74 (lvA0 hl) ?_
                refine lv_icmp_ge (tgt := 82) hx hb dX11_whence_76 rfl (fun c_12 => ?_) (fun c_12 => ?_)
                ·
                  have tc_12 : ((x30_4 + 0).toInt : Int) ≤ v1.toInt := Int32.le_iff_toInt_le.mp c_12
                  refine lv_iinc (v := (nI (i30 + 1))) (lv' := [(5, .int (nI (i30 + 1))), (4, .int (x30_4 + 0)), (6, .null), (3, .ref (ad 12 mr_1)), (0, .ref (g 0)), (1, .int v0), (2, .int v1)]) hx hb dX11_whence_82 hl (k := 2) rfl (nI_1 _) (ltb rfl) rfl (fun ls hl => ?_)
                  refine lv_goto (tgt := 30) hx hb dX11_whence_85 rfl ?_
                  exact ih30 (i30 + 1) (x30_4 + 0) (by (first | omega | (have zz0 := Hid.u hb_cn; omega))) (by (first | omega | (have zz0 := Hid.u hb_cn; omega))) ls (lv_sub hl [0, 1, 3, 4, 5, 6] rfl)
                ·
                  have tc_12 : (v1.toInt : Int) < (x30_4 + 0).toInt := Int32.lt_iff_toInt_lt.mp (Int32.not_le.mp c_12)
                  refine lv_iload hx hb dX11_whence_79 (lvA2 hl) ?_
                  exact W.iret (v := (nI i30)) hx hb hr (fun t ht hW => ⟨(nI i30), rfl, trivial, ht⟩) (fun _ h => absurd h List.not_mem_nil) dX11_whence_81
        exact lp_30 _ 0 0 (Nat.lt_succ_self _) (by (first | omega | (have zz0 := Hid.u hb_cn; omega))) ls (lv_sub hl [0, 1, 2, 3, 4, 5] rfl)
      ·
        have tc_4 : (((Fn 146) mr_1).toInt : Int) ≤ v1.toInt := Int32.le_iff_toInt_le.mp (Int32.not_lt.mp c_4)
        refine lv_iconst (v := (-1)) hx hb dX11_whence_22 kic_m1 ?_
        exact W.iret (v := (-1)) hx hb hr (fun t ht hW => ⟨(-1), rfl, trivial, ht⟩) (fun _ h => absurd h List.not_mem_nil) dX11_whence_23
  ·
    refine lv_astore_nN (lv' := [(3, .null), (0, .ref (g 0)), (1, .int v0), (2, .int v1)]) hx hb dX11_whence_5 rfl hl (ltb rfl) rfl (fun ls hl => ?_)
    refine lv_aload_nN hx hb dX11_whence_6 rfl (lvA0 hl) ?_
    refine lv_ifnullN (tgt := 22) hx hb dX11_whence_7 rfl ?_
    refine lv_iconst (v := (-1)) hx hb dX11_whence_22 kic_m1 ?_
    exact W.iret (v := (-1)) hx hb hr (fun t ht hW => ⟨(-1), rfl, trivial, ht⟩) (fun _ h => absurd h List.not_mem_nil) dX11_whence_23
set_option maxRecDepth 100000 in
set_option maxHeartbeats 4000000 in
theorem q_Xaudit (l : Launch) (D : va_G) (cI cB cZ : ClassId) (zz qq vv : Nat) (bt : Nat → Int32) (g : Nat → Nat) (ad : Nat → Nat → Nat) (cn : Nat → Nat) (In : Nat → Int32) (Fn : Nat → Nat → Int32) (v0 v1 : Int32) (hB : CBX cn) : Met l yX11_audit (CWS yX11_audit cX11_audit 11 (some .int)) (RM 4 0 0) (PBrx [.ref (g 0), .int v0, .int v1] D cI cB cZ zz qq vv bt (wX cI (D.1 99) zz g ad cn In Fn)) (vp_Si (fun _ => True)) 0 0 (fun _ => False) := by
  refine en_rx rfl pn_RX11 (Nat.le_of_ble_eq_true rfl) (fun p e s m below meth c hx hb hml hown S hr hlocks hnm hP hK hXS hS ls hl => ?_)
  have hl : lv_has ls 11 [(0, .ref (g 0)), (1, .int v0), (2, .int v1)] := hl
  have hb_cn : Hid (CBX cn) := hB
  replace hB : CBXh cn := hB
  refine lv_aload_n hx hb dX11_audit_0 rfl (lvA0 hl) ?_
  refine lv_iload_n hx hb dX11_audit_1 rfl (lvA1 hl) ?_
  refine va_csq (runV_rxa (As := [.int v0]) (rest := []) S (q_XproofAt l D cI cB cZ zz qq vv bt g ad cn In Fn v0 hB) kV_RX11_422 hK hXS hS hP 0 xo_0 rfl rfl ⟨Nat.le_of_ble_eq_true rfl, Nat.le_of_ble_eq_true rfl⟩ ⟨Nat.le_of_ble_eq_true rfl, Nat.le_of_ble_eq_true rfl⟩ rfl hl.1 rfl (Nat.le_of_ble_eq_true rfl) dX11_audit_2) (fun r_1 h_2 => ?_)
  rcases h_2 with ⟨mr_1, er_1, hr_1, rfl⟩ | ⟨hr_1, rfl⟩
  ·
    refine lv_astore_n (lv' := [(3, .ref (ad 13 mr_1)), (0, .ref (g 0)), (1, .int v0), (2, .int v1)]) hx hb dX11_audit_5 rfl hl (ltb rfl) rfl (fun ls hl => ?_)
    refine lv_aload_n hx hb dX11_audit_6 rfl (lvA0 hl) ?_
    refine lv_ifnonnull (tgt := 14) hx hb dX11_audit_7 rfl ?_
    refine lv_aload_n hx hb dX11_audit_14 rfl (lvA1 hl) ?_
    refine lv_aload_n hx hb dX11_audit_15 rfl (lvA0 hl) ?_
    have kf_1 : mr_1 < cn 13 := by (first | omega | (have zz0 := Hid.u hb_cn; omega))
    refine gf_RX11_402 S hK hP _ (xf_3 kf_1) (v := .int ((Fn 160) mr_1)) rfl dX11_audit_16 ?_
    refine va_csq (runV_rxa (As := [.int ((Fn 160) mr_1)]) (rest := []) S (q_XbatchAt l D cI cB cZ zz qq vv bt g ad cn In Fn ((Fn 160) mr_1) hB) kV_RX11_382 hK hXS hS hP 0 xo_0 rfl rfl ⟨Nat.le_of_ble_eq_true rfl, Nat.le_of_ble_eq_true rfl⟩ ⟨Nat.le_of_ble_eq_true rfl, Nat.le_of_ble_eq_true rfl⟩ rfl hl.1 rfl (Nat.le_of_ble_eq_true rfl) dX11_audit_19) (fun r_3 h_4 => ?_)
    rcases h_4 with ⟨mr_3, er_3, hr_3, rfl⟩ | ⟨hr_3, rfl⟩
    ·
      refine lv_astore (lv' := [(4, .ref (ad 12 mr_3)), (3, .ref (ad 13 mr_1)), (0, .ref (g 0)), (1, .int v0), (2, .int v1)]) hx hb dX11_audit_22 hl (ltb rfl) rfl (fun ls hl => ?_)
      refine lv_aload_n hx hb dX11_audit_24 rfl (lvA1 hl) ?_
      refine lv_ifnull hx hb dX11_audit_25 ?_
      refine lv_aload hx hb dX11_audit_28 (lvA0 hl) ?_
      refine lv_ifnull hx hb dX11_audit_30 ?_
      refine lv_aload_n hx hb dX11_audit_33 rfl (lvA2 hl) ?_
      refine lv_iload_n hx hb dX11_audit_34 rfl (lvA4 hl) ?_
      refine va_csq (runV_rxa (As := [.int v1]) (rest := []) S (q_XkitchenAt l D cI cB cZ zz qq vv bt g ad cn In Fn v1 hB) kV_RX11_114 hK hXS hS hP 0 xo_0 rfl rfl ⟨Nat.le_of_ble_eq_true rfl, Nat.le_of_ble_eq_true rfl⟩ ⟨Nat.le_of_ble_eq_true rfl, Nat.le_of_ble_eq_true rfl⟩ rfl hl.1 rfl (Nat.le_of_ble_eq_true rfl) dX11_audit_35) (fun r_5 h_6 => ?_)
      rcases h_6 with ⟨mr_5, er_5, hr_5, rfl⟩ | ⟨hr_5, rfl⟩
      ·
        refine lv_ifnonnull (tgt := 43) hx hb dX11_audit_38 rfl ?_
        refine lv_iconst (v := 0) hx hb dX11_audit_43 kic_0 ?_
        refine lv_istore (lv' := [(5, .int 0), (4, .ref (ad 12 mr_3)), (3, .ref (ad 13 mr_1)), (0, .ref (g 0)), (1, .int v0), (2, .int v1)]) hx hb dX11_audit_44 hl (ltb rfl) rfl (fun ls hl => ?_)
        refine lv_iconst (v := 0) hx hb dX11_audit_46 kic_0 ?_
        refine lv_istore (lv' := [(6, .int 0), (5, .int 0), (4, .ref (ad 12 mr_3)), (3, .ref (ad 13 mr_1)), (0, .ref (g 0)), (1, .int v0), (2, .int v1)]) hx hb dX11_audit_47 hl (ltb rfl) rfl (fun ls hl => ?_)
        refine lv_iconst (v := 0) hx hb dX11_audit_49 kic_0 ?_
        refine lv_istore (lv' := [(7, .int 0), (6, .int 0), (5, .int 0), (4, .ref (ad 12 mr_3)), (3, .ref (ad 13 mr_1)), (0, .ref (g 0)), (1, .int v0), (2, .int v1)]) hx hb dX11_audit_50 hl (ltb rfl) rfl (fun ls hl => ?_)
        have lp_52 : ∀ (n : Nat) (i52 : Nat) (x52_5 : Int32) (x52_6 : Int32) , 20 - i52 < n → (i52 ≤ 20) → ∀ ls : Array Slot, lv_has ls 11 [(7, .int (nI i52)), (6, .int x52_6), (5, .int x52_5), (4, .ref (ad 12 mr_3)), (3, .ref (ad 13 mr_1)), (0, .ref (g 0)), (1, .int v0), (2, .int v1)] → W p l e (RM 4 0 0) s m ([.ref (g 0), .int v0, .int v1]).toArray below meth c s.heap [] 0 0 (MQ below (vp_Si (fun _ => True)) ([.ref (g 0), .int v0, .int v1]).toArray s 0 0 (fun _ => False)) (F0 m 52 ls []) := by
          intro n52
          induction n52 with
          | zero => intros; (first | omega | (have zz0 := Hid.u hb_cn; omega))
          | succ n52 ih52 =>
            intro i52 x52_5 x52_6 hmu52 hinv52 ls hl
            have hr52 := hinv52
            have ti52 : (nI i52).toInt = (i52 : Int) := nI_toInt (by (first | omega | (have zz0 := Hid.u hb_cn; omega)))
            refine lv_iload hx hb dX11_audit_52 (lvA0 hl) ?_
            refine lv_bipush (v := 20) hx hb dX11_audit_54 kbc_20 ?_
            refine lv_icmp_ge (tgt := 150) hx hb dX11_audit_56 rfl (fun c_7 => ?_) (fun c_7 => ?_)
            ·
              have tc_7 : (20 : Int) ≤ (nI i52).toInt := Int32.le_iff_toInt_le.mp c_7
              refine lv_iload hx hb dX11_audit_150 (lvA2 hl) ?_
              exact W.iret (v := x52_5) hx hb hr (fun t ht hW => ⟨x52_5, rfl, trivial, ht⟩) (fun _ h => absurd h List.not_mem_nil) dX11_audit_152
            ·
              have tc_7 : ((nI i52).toInt : Int) < 20 := Int32.lt_iff_toInt_lt.mp (Int32.not_le.mp c_7)
              refine lv_aload_n hx hb dX11_audit_59 rfl (lvA5 hl) ?_
              refine lv_iload hx hb dX11_audit_60 (lvA0 hl) ?_
              refine va_csq (runV_rxa (As := [.int (nI i52)]) (rest := []) S (q_XloadAt l D cI cB cZ zz qq vv bt g ad cn In Fn (nI i52) hB) kV_RX11_148 hK hXS hS hP 0 xo_0 rfl rfl ⟨Nat.le_of_ble_eq_true rfl, Nat.le_of_ble_eq_true rfl⟩ ⟨Nat.le_of_ble_eq_true rfl, Nat.le_of_ble_eq_true rfl⟩ rfl hl.1 rfl (Nat.le_of_ble_eq_true rfl) dX11_audit_62) (fun r_8 h_9 => ?_)
              rcases h_9 with ⟨mr_8, er_8, hr_8, rfl⟩ | ⟨hr_8, rfl⟩
              ·
                refine lv_astore (lv' := [(8, .ref (ad 11 mr_8)), (7, .int (nI i52)), (6, .int x52_6), (5, .int x52_5), (4, .ref (ad 12 mr_3)), (3, .ref (ad 13 mr_1)), (0, .ref (g 0)), (1, .int v0), (2, .int v1)]) hx hb dX11_audit_65 hl (ltb rfl) rfl (fun ls hl => ?_)
                refine lv_aload hx hb dX11_audit_67 (lvA0 hl) ?_
                refine lv_ifnull hx hb dX11_audit_69 ?_
                refine lv_aload hx hb dX11_audit_72 (lvA4 hl) ?_
                refine lv_iload hx hb dX11_audit_74 (lvA1 hl) ?_
                have kf_2 : mr_3 < cn 12 := by (first | omega | (have zz0 := Hid.u hb_cn; omega))
                refine vp_callSi (runV_rxa (As := [.int (nI i52)]) (rest := []) S (q_Xhas l D cI cB cZ zz qq vv bt g ad cn In Fn mr_3 (nI i52) hB (by (first | omega | (have zz0 := Hid.u hb_cn; omega)))) kV_RX11_378 hK hXS hS hP _ (xf_2 kf_2) rfl rfl ⟨Nat.le_of_ble_eq_true rfl, Nat.le_of_ble_eq_true rfl⟩ ⟨Nat.le_of_ble_eq_true rfl, Nat.le_of_ble_eq_true rfl⟩ rfl hl.1 rfl (Nat.le_of_ble_eq_true rfl) dX11_audit_76) (fun r_10 h_11 => ?_)
                rcases h_11 with rfl | rfl
                ·
                  refine lv_if_ne (tgt := 85) hx hb dX11_audit_79 rfl (fun h => absurd h cq_eq_0_0) (fun _ => ?_)
                  refine lv_goto (tgt := 144) hx hb dX11_audit_82 rfl ?_
                  refine lv_iinc (v := (nI (i52 + 1))) (lv' := [(7, .int (nI (i52 + 1))), (8, .ref (ad 11 mr_8)), (6, .int x52_6), (5, .int x52_5), (4, .ref (ad 12 mr_3)), (3, .ref (ad 13 mr_1)), (0, .ref (g 0)), (1, .int v0), (2, .int v1)]) hx hb dX11_audit_144 hl (k := 1) rfl (nI_1 _) (ltb rfl) rfl (fun ls hl => ?_)
                  refine lv_goto (tgt := 52) hx hb dX11_audit_147 rfl ?_
                  exact ih52 (i52 + 1) x52_5 x52_6 (by (first | omega | (have zz0 := Hid.u hb_cn; omega))) (by (first | omega | (have zz0 := Hid.u hb_cn; omega))) ls (lv_sub hl [0, 2, 3, 4, 5, 6, 7, 8] rfl)
                ·
                  refine lv_if_ne (tgt := 85) hx hb dX11_audit_79 rfl (fun _ => ?_) (fun h => absurd h cq_eq_1_0)
                  refine lv_iload hx hb dX11_audit_85 (lvA2 hl) ?_
                  refine lv_aload hx hb dX11_audit_87 (lvA0 hl) ?_
                  have kf_3 : mr_8 < cn 11 := by (first | omega | (have zz0 := Hid.u hb_cn; omega))
                  refine gf_RX11_202 S hK hP _ (xf_1 kf_3) (v := .int ((Fn 122) mr_8)) rfl dX11_audit_89 ?_
                  refine lv_iadd hx hb dX11_audit_92 ?_
                  refine lv_istore (lv' := [(9, .int (x52_6 + ((Fn 122) mr_8))), (8, .ref (ad 11 mr_8)), (7, .int (nI i52)), (6, .int x52_6), (5, .int x52_5), (4, .ref (ad 12 mr_3)), (3, .ref (ad 13 mr_1)), (0, .ref (g 0)), (1, .int v0), (2, .int v1)]) hx hb dX11_audit_93 hl (ltb rfl) rfl (fun ls hl => ?_)
                  refine lv_iload hx hb dX11_audit_95 (lvA0 hl) ?_
                  refine lv_aload_n hx hb dX11_audit_97 rfl (lvA6 hl) ?_
                  refine gf_RX11_408 S hK hP _ (xf_3 kf_1) (v := .int ((Fn 162) mr_1)) rfl dX11_audit_98 ?_
                  refine va_mmin hx hb (by rw [hml]; exact hl.1.symm) hown (S.2.2.2.2 _ (wk4_3 7 rfl rfl)) (S.2.2.2.2 _ (wk2_13 10 rfl rfl)) (S.2.2.2.2 _ (wk1_0 3 rfl rfl)) (S.2.2.2.2 _ (wk2_13 11 rfl rfl)) (Nat.le_of_ble_eq_true rfl) (Nat.le_of_ble_eq_true rfl) (Nat.le_of_ble_eq_true rfl) (Nat.le_of_ble_eq_true rfl) dX11_audit_101 ?_
                  refine lv_iload hx hb dX11_audit_104 (lvA3 hl) ?_
                  refine lv_aload_n hx hb dX11_audit_106 rfl (lvA6 hl) ?_
                  refine gf_RX11_405 S hK hP _ (xf_3 kf_1) (v := .int ((Fn 161) mr_1)) rfl dX11_audit_107 ?_
                  refine va_mmax hx hb (by rw [hml]; exact hl.1.symm) hown (S.2.2.2.2 _ (wk4_3 8 rfl rfl)) (S.2.2.2.2 _ (wk1_3 6 rfl rfl)) (S.2.2.2.2 _ (wk1_0 3 rfl rfl)) (S.2.2.2.2 _ (wk1_3 7 rfl rfl)) (Nat.le_of_ble_eq_true rfl) (Nat.le_of_ble_eq_true rfl) (Nat.le_of_ble_eq_true rfl) (Nat.le_of_ble_eq_true rfl) dX11_audit_110 ?_
                  refine lv_isub hx hb dX11_audit_113 ?_
                  refine lv_istore (lv' := [(10, .int ((if ((Fn 162) mr_1) < (x52_6 + ((Fn 122) mr_8)) then ((Fn 162) mr_1) else (x52_6 + ((Fn 122) mr_8))) - (if x52_6 < ((Fn 161) mr_1) then ((Fn 161) mr_1) else x52_6))), (9, .int (x52_6 + ((Fn 122) mr_8))), (8, .ref (ad 11 mr_8)), (7, .int (nI i52)), (6, .int x52_6), (5, .int x52_5), (4, .ref (ad 12 mr_3)), (3, .ref (ad 13 mr_1)), (0, .ref (g 0)), (1, .int v0), (2, .int v1)]) hx hb dX11_audit_114 hl (ltb rfl) rfl (fun ls hl => ?_)
                  refine lv_iload hx hb dX11_audit_116 (lvA5 hl) ?_
                  refine lv_aload hx hb dX11_audit_118 (lvA2 hl) ?_
                  refine gf_RX11_211 S hK hP _ (xf_1 kf_3) (v := .int ((Fn 120) mr_8)) rfl dX11_audit_120 ?_
                  refine lv_iload_n hx hb dX11_audit_123 rfl (lvA10 hl) ?_
                  refine lv_icmp_ne (tgt := 136) hx hb dX11_audit_124 rfl (fun c_12 => ?_) (fun c_12 => ?_)
                  ·
                    have tc_12 : (((Fn 120) mr_8).toInt : Int) ≠ v1.toInt := fun q => c_12 (Int32.toInt_inj.mp q)
                    refine lv_iconst (v := 0) hx hb dX11_audit_136 kic_0 ?_
                    refine lv_iadd hx hb dX11_audit_137 ?_
                    refine lv_istore (lv' := [(5, .int (x52_5 + 0)), (10, .int ((if ((Fn 162) mr_1) < (x52_6 + ((Fn 122) mr_8)) then ((Fn 162) mr_1) else (x52_6 + ((Fn 122) mr_8))) - (if x52_6 < ((Fn 161) mr_1) then ((Fn 161) mr_1) else x52_6))), (9, .int (x52_6 + ((Fn 122) mr_8))), (8, .ref (ad 11 mr_8)), (7, .int (nI i52)), (6, .int x52_6), (4, .ref (ad 12 mr_3)), (3, .ref (ad 13 mr_1)), (0, .ref (g 0)), (1, .int v0), (2, .int v1)]) hx hb dX11_audit_138 hl (ltb rfl) rfl (fun ls hl => ?_)
                    refine lv_iload hx hb dX11_audit_140 (lvA2 hl) ?_
                    refine lv_istore (lv' := [(6, .int (x52_6 + ((Fn 122) mr_8))), (5, .int (x52_5 + 0)), (10, .int ((if ((Fn 162) mr_1) < (x52_6 + ((Fn 122) mr_8)) then ((Fn 162) mr_1) else (x52_6 + ((Fn 122) mr_8))) - (if x52_6 < ((Fn 161) mr_1) then ((Fn 161) mr_1) else x52_6))), (9, .int (x52_6 + ((Fn 122) mr_8))), (8, .ref (ad 11 mr_8)), (7, .int (nI i52)), (4, .ref (ad 12 mr_3)), (3, .ref (ad 13 mr_1)), (0, .ref (g 0)), (1, .int v0), (2, .int v1)]) hx hb dX11_audit_142 hl (ltb rfl) rfl (fun ls hl => ?_)
                    refine lv_iinc (v := (nI (i52 + 1))) (lv' := [(7, .int (nI (i52 + 1))), (6, .int (x52_6 + ((Fn 122) mr_8))), (5, .int (x52_5 + 0)), (10, .int ((if ((Fn 162) mr_1) < (x52_6 + ((Fn 122) mr_8)) then ((Fn 162) mr_1) else (x52_6 + ((Fn 122) mr_8))) - (if x52_6 < ((Fn 161) mr_1) then ((Fn 161) mr_1) else x52_6))), (9, .int (x52_6 + ((Fn 122) mr_8))), (8, .ref (ad 11 mr_8)), (4, .ref (ad 12 mr_3)), (3, .ref (ad 13 mr_1)), (0, .ref (g 0)), (1, .int v0), (2, .int v1)]) hx hb dX11_audit_144 hl (k := 5) rfl (nI_1 _) (ltb rfl) rfl (fun ls hl => ?_)
                    refine lv_goto (tgt := 52) hx hb dX11_audit_147 rfl ?_
                    exact ih52 (i52 + 1) (x52_5 + 0) (x52_6 + ((Fn 122) mr_8)) (by (first | omega | (have zz0 := Hid.u hb_cn; omega))) (by (first | omega | (have zz0 := Hid.u hb_cn; omega))) ls (lv_sub hl [0, 1, 2, 6, 7, 8, 9, 10] rfl)
                  ·
                    have tc_12 : (((Fn 120) mr_8).toInt : Int) = v1.toInt := congrArg Int32.toInt c_12
                    refine lv_iconst (v := 0) hx hb dX11_audit_127 kic_0 ?_
                    refine lv_iload hx hb dX11_audit_128 (lvA0 hl) ?_
                    refine va_mmax hx hb (by rw [hml]; exact hl.1.symm) hown (S.2.2.2.2 _ (wk4_3 8 rfl rfl)) (S.2.2.2.2 _ (wk1_3 6 rfl rfl)) (S.2.2.2.2 _ (wk1_0 3 rfl rfl)) (S.2.2.2.2 _ (wk1_3 7 rfl rfl)) (Nat.le_of_ble_eq_true rfl) (Nat.le_of_ble_eq_true rfl) (Nat.le_of_ble_eq_true rfl) (Nat.le_of_ble_eq_true rfl) dX11_audit_130 ?_
                    refine lv_goto (tgt := 137) hx hb dX11_audit_133 rfl ?_
                    refine lv_iadd hx hb dX11_audit_137 ?_
                    refine lv_istore (lv' := [(5, .int (x52_5 + (if 0 < ((if ((Fn 162) mr_1) < (x52_6 + ((Fn 122) mr_8)) then ((Fn 162) mr_1) else (x52_6 + ((Fn 122) mr_8))) - (if x52_6 < ((Fn 161) mr_1) then ((Fn 161) mr_1) else x52_6)) then ((if ((Fn 162) mr_1) < (x52_6 + ((Fn 122) mr_8)) then ((Fn 162) mr_1) else (x52_6 + ((Fn 122) mr_8))) - (if x52_6 < ((Fn 161) mr_1) then ((Fn 161) mr_1) else x52_6)) else 0))), (10, .int ((if ((Fn 162) mr_1) < (x52_6 + ((Fn 122) mr_8)) then ((Fn 162) mr_1) else (x52_6 + ((Fn 122) mr_8))) - (if x52_6 < ((Fn 161) mr_1) then ((Fn 161) mr_1) else x52_6))), (9, .int (x52_6 + ((Fn 122) mr_8))), (8, .ref (ad 11 mr_8)), (7, .int (nI i52)), (6, .int x52_6), (4, .ref (ad 12 mr_3)), (3, .ref (ad 13 mr_1)), (0, .ref (g 0)), (1, .int v0), (2, .int v1)]) hx hb dX11_audit_138 hl (ltb rfl) rfl (fun ls hl => ?_)
                    refine lv_iload hx hb dX11_audit_140 (lvA2 hl) ?_
                    refine lv_istore (lv' := [(6, .int (x52_6 + ((Fn 122) mr_8))), (5, .int (x52_5 + (if 0 < ((if ((Fn 162) mr_1) < (x52_6 + ((Fn 122) mr_8)) then ((Fn 162) mr_1) else (x52_6 + ((Fn 122) mr_8))) - (if x52_6 < ((Fn 161) mr_1) then ((Fn 161) mr_1) else x52_6)) then ((if ((Fn 162) mr_1) < (x52_6 + ((Fn 122) mr_8)) then ((Fn 162) mr_1) else (x52_6 + ((Fn 122) mr_8))) - (if x52_6 < ((Fn 161) mr_1) then ((Fn 161) mr_1) else x52_6)) else 0))), (10, .int ((if ((Fn 162) mr_1) < (x52_6 + ((Fn 122) mr_8)) then ((Fn 162) mr_1) else (x52_6 + ((Fn 122) mr_8))) - (if x52_6 < ((Fn 161) mr_1) then ((Fn 161) mr_1) else x52_6))), (9, .int (x52_6 + ((Fn 122) mr_8))), (8, .ref (ad 11 mr_8)), (7, .int (nI i52)), (4, .ref (ad 12 mr_3)), (3, .ref (ad 13 mr_1)), (0, .ref (g 0)), (1, .int v0), (2, .int v1)]) hx hb dX11_audit_142 hl (ltb rfl) rfl (fun ls hl => ?_)
                    refine lv_iinc (v := (nI (i52 + 1))) (lv' := [(7, .int (nI (i52 + 1))), (6, .int (x52_6 + ((Fn 122) mr_8))), (5, .int (x52_5 + (if 0 < ((if ((Fn 162) mr_1) < (x52_6 + ((Fn 122) mr_8)) then ((Fn 162) mr_1) else (x52_6 + ((Fn 122) mr_8))) - (if x52_6 < ((Fn 161) mr_1) then ((Fn 161) mr_1) else x52_6)) then ((if ((Fn 162) mr_1) < (x52_6 + ((Fn 122) mr_8)) then ((Fn 162) mr_1) else (x52_6 + ((Fn 122) mr_8))) - (if x52_6 < ((Fn 161) mr_1) then ((Fn 161) mr_1) else x52_6)) else 0))), (10, .int ((if ((Fn 162) mr_1) < (x52_6 + ((Fn 122) mr_8)) then ((Fn 162) mr_1) else (x52_6 + ((Fn 122) mr_8))) - (if x52_6 < ((Fn 161) mr_1) then ((Fn 161) mr_1) else x52_6))), (9, .int (x52_6 + ((Fn 122) mr_8))), (8, .ref (ad 11 mr_8)), (4, .ref (ad 12 mr_3)), (3, .ref (ad 13 mr_1)), (0, .ref (g 0)), (1, .int v0), (2, .int v1)]) hx hb dX11_audit_144 hl (k := 5) rfl (nI_1 _) (ltb rfl) rfl (fun ls hl => ?_)
                    refine lv_goto (tgt := 52) hx hb dX11_audit_147 rfl ?_
                    exact ih52 (i52 + 1) (x52_5 + (if 0 < ((if ((Fn 162) mr_1) < (x52_6 + ((Fn 122) mr_8)) then ((Fn 162) mr_1) else (x52_6 + ((Fn 122) mr_8))) - (if x52_6 < ((Fn 161) mr_1) then ((Fn 161) mr_1) else x52_6)) then ((if ((Fn 162) mr_1) < (x52_6 + ((Fn 122) mr_8)) then ((Fn 162) mr_1) else (x52_6 + ((Fn 122) mr_8))) - (if x52_6 < ((Fn 161) mr_1) then ((Fn 161) mr_1) else x52_6)) else 0)) (x52_6 + ((Fn 122) mr_8)) (by (first | omega | (have zz0 := Hid.u hb_cn; omega))) (by (first | omega | (have zz0 := Hid.u hb_cn; omega))) ls (lv_sub hl [0, 1, 2, 6, 7, 8, 9, 10] rfl)
              ·
                refine lv_astoreN (lv' := [(8, .null), (7, .int (nI i52)), (6, .int x52_6), (5, .int x52_5), (4, .ref (ad 12 mr_3)), (3, .ref (ad 13 mr_1)), (0, .ref (g 0)), (1, .int v0), (2, .int v1)]) hx hb dX11_audit_65 hl (ltb rfl) rfl (fun ls hl => ?_)
                refine lv_aloadN hx hb dX11_audit_67 (lvA0 hl) ?_
                refine lv_ifnullN (tgt := 144) hx hb dX11_audit_69 rfl ?_
                refine lv_iinc (v := (nI (i52 + 1))) (lv' := [(7, .int (nI (i52 + 1))), (8, .null), (6, .int x52_6), (5, .int x52_5), (4, .ref (ad 12 mr_3)), (3, .ref (ad 13 mr_1)), (0, .ref (g 0)), (1, .int v0), (2, .int v1)]) hx hb dX11_audit_144 hl (k := 1) rfl (nI_1 _) (ltb rfl) rfl (fun ls hl => ?_)
                refine lv_goto (tgt := 52) hx hb dX11_audit_147 rfl ?_
                exact ih52 (i52 + 1) x52_5 x52_6 (by (first | omega | (have zz0 := Hid.u hb_cn; omega))) (by (first | omega | (have zz0 := Hid.u hb_cn; omega))) ls (lv_sub hl [0, 2, 3, 4, 5, 6, 7, 8] rfl)
        exact lp_52 _ 0 0 0 (Nat.lt_succ_self _) (by (first | omega | (have zz0 := Hid.u hb_cn; omega))) ls (lv_sub hl [0, 1, 2, 3, 4, 5, 6, 7] rfl)
      ·
        refine lv_ifnonnullN hx hb dX11_audit_38 ?_
        refine lv_iconst (v := (-1)) hx hb dX11_audit_41 kic_m1 ?_
        exact W.iret (v := (-1)) hx hb hr (fun t ht hW => ⟨(-1), rfl, trivial, ht⟩) (fun _ h => absurd h List.not_mem_nil) dX11_audit_42
    ·
      refine lv_astoreN (lv' := [(4, .null), (3, .ref (ad 13 mr_1)), (0, .ref (g 0)), (1, .int v0), (2, .int v1)]) hx hb dX11_audit_22 hl (ltb rfl) rfl (fun ls hl => ?_)
      refine lv_aload_n hx hb dX11_audit_24 rfl (lvA1 hl) ?_
      refine lv_ifnull hx hb dX11_audit_25 ?_
      refine lv_aloadN hx hb dX11_audit_28 (lvA0 hl) ?_
      refine lv_ifnullN (tgt := 41) hx hb dX11_audit_30 rfl ?_
      refine lv_iconst (v := (-1)) hx hb dX11_audit_41 kic_m1 ?_
      exact W.iret (v := (-1)) hx hb hr (fun t ht hW => ⟨(-1), rfl, trivial, ht⟩) (fun _ h => absurd h List.not_mem_nil) dX11_audit_42
  ·
    refine lv_astore_nN (lv' := [(3, .null), (0, .ref (g 0)), (1, .int v0), (2, .int v1)]) hx hb dX11_audit_5 rfl hl (ltb rfl) rfl (fun ls hl => ?_)
    refine lv_aload_nN hx hb dX11_audit_6 rfl (lvA0 hl) ?_
    refine lv_ifnonnullN hx hb dX11_audit_7 ?_
    refine lv_null hx hb dX11_audit_10 ?_
    refine lv_goto (tgt := 22) hx hb dX11_audit_11 rfl ?_
    refine lv_astoreN (lv' := [(4, .null), (3, .null), (0, .ref (g 0)), (1, .int v0), (2, .int v1)]) hx hb dX11_audit_22 hl (ltb rfl) rfl (fun ls hl => ?_)
    refine lv_aload_nN hx hb dX11_audit_24 rfl (lvA1 hl) ?_
    refine lv_ifnullN (tgt := 41) hx hb dX11_audit_25 rfl ?_
    refine lv_iconst (v := (-1)) hx hb dX11_audit_41 kic_m1 ?_
    exact W.iret (v := (-1)) hx hb hr (fun t ht hW => ⟨(-1), rfl, trivial, ht⟩) (fun _ h => absurd h List.not_mem_nil) dX11_audit_42
set_option maxRecDepth 100000 in
set_option maxHeartbeats 4000000 in
theorem q_Xtax (l : Launch) (D : va_G) (cI cB cZ : ClassId) (zz qq vv : Nat) (bt : Nat → Int32) (g : Nat → Nat) (ad : Nat → Nat → Nat) (cn : Nat → Nat) (In : Nat → Int32) (Fn : Nat → Nat → Int32) (v0 : Int32) (hB : CBX cn) : Met l yX11_tax (CWS yX11_tax cX11_tax 4 (some .int)) (RM 4 0 0) (PBrx [.ref (g 0), .int v0] D cI cB cZ zz qq vv bt (wX cI (D.1 99) zz g ad cn In Fn)) (vp_Si (fun _ => True)) 0 0 (fun _ => False) := by
  refine en_rx rfl pn_RX11 (Nat.le_of_ble_eq_true rfl) (fun p e s m below meth c hx hb hml hown S hr hlocks hnm hP hK hXS hS ls hl => ?_)
  have hl : lv_has ls 4 [(0, .ref (g 0)), (1, .int v0)] := hl
  have hb_cn : Hid (CBX cn) := hB
  replace hB : CBXh cn := hB
  refine lv_aload_n hx hb dX11_tax_0 rfl (lvA0 hl) ?_
  refine lv_iload_n hx hb dX11_tax_1 rfl (lvA1 hl) ?_
  refine va_csq (runV_rxa (As := [.int v0]) (rest := []) S (q_XproofAt l D cI cB cZ zz qq vv bt g ad cn In Fn v0 hB) kV_RX11_422 hK hXS hS hP 0 xo_0 rfl rfl ⟨Nat.le_of_ble_eq_true rfl, Nat.le_of_ble_eq_true rfl⟩ ⟨Nat.le_of_ble_eq_true rfl, Nat.le_of_ble_eq_true rfl⟩ rfl hl.1 rfl (Nat.le_of_ble_eq_true rfl) dX11_tax_2) (fun r_1 h_2 => ?_)
  rcases h_2 with ⟨mr_1, er_1, hr_1, rfl⟩ | ⟨hr_1, rfl⟩
  ·
    refine lv_astore_n (lv' := [(2, .ref (ad 13 mr_1)), (0, .ref (g 0)), (1, .int v0)]) hx hb dX11_tax_5 rfl hl (ltb rfl) rfl (fun ls hl => ?_)
    refine lv_aload_n hx hb dX11_tax_6 rfl (lvA0 hl) ?_
    refine lv_ifnonnull (tgt := 12) hx hb dX11_tax_7 rfl ?_
    refine lv_aload_n hx hb dX11_tax_12 rfl (lvA1 hl) ?_
    refine gf_RX11_47 S hK hP 0 xo_0 (v := .ref (g 8)) rfl dX11_tax_13 ?_
    refine gf_RX11_426 S hK hP 6 xo_6 (v := .ref (g 24)) rfl dX11_tax_16 ?_
    refine lv_aload_n hx hb dX11_tax_19 rfl (lvA0 hl) ?_
    have kf_1 : mr_1 < cn 13 := by (first | omega | (have zz0 := Hid.u hb_cn; omega))
    refine gf_RX11_415 S hK hP _ (xf_3 kf_1) (v := .int ((Fn 163) mr_1)) rfl dX11_tax_20 ?_
    refine vp_callSi (runS_r (As := [.ref (g 24), .int ((Fn 163) mr_1)]) (rest := []) S (q_l_at l D cI cB cZ (g 24) 10 (Fn 24) ((Fn 163) mr_1) (by (first | omega | (have zz0 := Hid.u hb_cn; omega)))) kS_RX11_192 hK hP [11] (one_is xo_11) ⟨Nat.le_of_ble_eq_true rfl, Nat.le_of_ble_eq_true rfl⟩ ⟨Nat.le_of_ble_eq_true rfl, Nat.le_of_ble_eq_true rfl⟩ rfl hl.1 rfl (Nat.le_of_ble_eq_true rfl) dX11_tax_23) (fun r_3 h_4 => ?_)
    subst h_4
    refine lv_istore_n (lv' := [(3, .int (atM (Fn 24) 10 ((Fn 163) mr_1))), (2, .ref (ad 13 mr_1)), (0, .ref (g 0)), (1, .int v0)]) hx hb dX11_tax_26 rfl hl (ltb rfl) rfl (fun ls hl => ?_)
    refine lv_aload_n hx hb dX11_tax_27 rfl (lvA1 hl) ?_
    refine vp_callSi (runV_rxa (As := []) (rest := []) S (q_Xplitres l D cI cB cZ zz qq vv bt g ad cn In Fn mr_1 hB (by (first | omega | (have zz0 := Hid.u hb_cn; omega)))) kV_RX11_432 hK hXS hS hP _ (xf_3 kf_1) rfl rfl ⟨Nat.le_of_ble_eq_true rfl, Nat.le_of_ble_eq_true rfl⟩ ⟨Nat.le_of_ble_eq_true rfl, Nat.le_of_ble_eq_true rfl⟩ rfl hl.1 rfl (Nat.le_of_ble_eq_true rfl) dX11_tax_28) (fun r_5 h_6 => ?_)
    refine lv_aload_n hx hb dX11_tax_31 rfl (lvA2 hl) ?_
    refine gf_RX11_47 S hK hP 0 xo_0 (v := .ref (g 8)) rfl dX11_tax_32 ?_
    refine gf_RX11_429 S hK hP 6 xo_6 (v := .ref (g 26)) rfl dX11_tax_35 ?_
    refine lv_iload_n hx hb dX11_tax_38 rfl (lvA0 hl) ?_
    refine lv_bipush (v := 58) hx hb dX11_tax_39 kbc_58 ?_
    refine lv_imul hx hb dX11_tax_41 ?_
    refine lv_aload_n hx hb dX11_tax_42 rfl (lvA1 hl) ?_
    refine gf_RX11_434 S hK hP _ (xf_3 kf_1) (v := .int ((Fn 164) mr_1)) rfl dX11_tax_43 ?_
    refine lv_bipush (v := 7) hx hb dX11_tax_46 kbc_7 ?_
    refine lv_idiv hx hb dX11_tax_48 (by decide) ?_
    refine lv_iadd hx hb dX11_tax_49 ?_
    refine vp_callSi (runS_r (As := [.ref (g 26), .int (((atM (Fn 24) 10 ((Fn 163) mr_1)) * 58) + (((Fn 164) mr_1) / 7))]) (rest := [.int r_5]) S (q_l_at l D cI cB cZ (g 26) 232 (Fn 26) (((atM (Fn 24) 10 ((Fn 163) mr_1)) * 58) + (((Fn 164) mr_1) / 7)) (by (first | omega | (have zz0 := Hid.u hb_cn; omega)))) kS_RX11_192 hK hP [13] (one_is xo_13) ⟨Nat.le_of_ble_eq_true rfl, Nat.le_of_ble_eq_true rfl⟩ ⟨Nat.le_of_ble_eq_true rfl, Nat.le_of_ble_eq_true rfl⟩ rfl hl.1 rfl (Nat.le_of_ble_eq_true rfl) dX11_tax_50) (fun r_7 h_8 => ?_)
    subst h_8
    refine lv_imul hx hb dX11_tax_53 ?_
    refine lv_bipush (v := 100) hx hb dX11_tax_54 kbc_100 ?_
    refine lv_idiv hx hb dX11_tax_56 (by decide) ?_
    exact W.iret (v := ((r_5 * (atM (Fn 26) 232 (((atM (Fn 24) 10 ((Fn 163) mr_1)) * 58) + (((Fn 164) mr_1) / 7)))) / 100)) hx hb hr (fun t ht hW => ⟨((r_5 * (atM (Fn 26) 232 (((atM (Fn 24) 10 ((Fn 163) mr_1)) * 58) + (((Fn 164) mr_1) / 7)))) / 100), rfl, trivial, ht⟩) (fun _ h => absurd h List.not_mem_nil) dX11_tax_57
  ·
    refine lv_astore_nN (lv' := [(2, .null), (0, .ref (g 0)), (1, .int v0)]) hx hb dX11_tax_5 rfl hl (ltb rfl) rfl (fun ls hl => ?_)
    refine lv_aload_nN hx hb dX11_tax_6 rfl (lvA0 hl) ?_
    refine lv_ifnonnullN hx hb dX11_tax_7 ?_
    refine lv_iconst (v := (-1)) hx hb dX11_tax_10 kic_m1 ?_
    exact W.iret (v := (-1)) hx hb hr (fun t ht hW => ⟨(-1), rfl, trivial, ht⟩) (fun _ h => absurd h List.not_mem_nil) dX11_tax_11
set_option maxRecDepth 100000 in
set_option maxHeartbeats 4000000 in
theorem q_XboughtIn (l : Launch) (D : va_G) (cI cB cZ : ClassId) (zz qq vv : Nat) (bt : Nat → Int32) (g : Nat → Nat) (ad : Nat → Nat → Nat) (cn : Nat → Nat) (In : Nat → Int32) (Fn : Nat → Nat → Int32) (v0 v1 : Int32) (hB : CBX cn) : Met l yX11_boughtIn (CWS yX11_boughtIn cX11_boughtIn 6 (some .int)) (RM 3 0 0) (PBrx [.ref (g 0), .int v0, .int v1] D cI cB cZ zz qq vv bt (wX cI (D.1 99) zz g ad cn In Fn)) (vp_Si (fun _ => True)) 0 0 (fun _ => False) := by
  refine en_rx rfl pn_RX11 (Nat.le_of_ble_eq_true rfl) (fun p e s m below meth c hx hb hml hown S hr hlocks hnm hP hK hXS hS ls hl => ?_)
  have hl : lv_has ls 6 [(0, .ref (g 0)), (1, .int v0), (2, .int v1)] := hl
  have hb_cn : Hid (CBX cn) := hB
  replace hB : CBXh cn := hB
  refine lv_iconst (v := 0) hx hb dX11_boughtIn_0 kic_0 ?_
  refine lv_istore_n (lv' := [(3, .int 0), (0, .ref (g 0)), (1, .int v0), (2, .int v1)]) hx hb dX11_boughtIn_1 rfl hl (ltb rfl) rfl (fun ls hl => ?_)
  refine lv_iconst (v := 0) hx hb dX11_boughtIn_2 kic_0 ?_
  refine lv_istore (lv' := [(4, .int 0), (3, .int 0), (0, .ref (g 0)), (1, .int v0), (2, .int v1)]) hx hb dX11_boughtIn_3 hl (ltb rfl) rfl (fun ls hl => ?_)
  have lp_5 : ∀ (n : Nat) (i5 : Nat) (x5_3 : Int32) , cn 13 - i5 < n → (i5 ≤ cn 13) → ∀ ls : Array Slot, lv_has ls 6 [(4, .int (nI i5)), (3, .int x5_3), (0, .ref (g 0)), (1, .int v0), (2, .int v1)] → W p l e (RM 3 0 0) s m ([.ref (g 0), .int v0, .int v1]).toArray below meth c s.heap [] 0 0 (MQ below (vp_Si (fun _ => True)) ([.ref (g 0), .int v0, .int v1]).toArray s 0 0 (fun _ => False)) (F0 m 5 ls []) := by
    intro n5
    induction n5 with
    | zero => intros; (first | omega | (have zz0 := Hid.u hb_cn; omega))
    | succ n5 ih5 =>
      intro i5 x5_3 hmu5 hinv5 ls hl
      have hr5 := hinv5
      have ti5 : (nI i5).toInt = (i5 : Int) := nI_toInt (by (first | omega | (have zz0 := Hid.u hb_cn; omega)))
      refine lv_iload hx hb dX11_boughtIn_5 (lvA0 hl) ?_
      refine lv_aload_n hx hb dX11_boughtIn_7 rfl (lvA2 hl) ?_
      refine gf_RX11_71 S hK hP 0 xo_0 (v := .ref (g 13)) rfl dX11_boughtIn_8 ?_
      refine vp_callSi (runV_r (As := []) (rest := [.int (nI i5)]) S (q_l_size l D cI cB cZ (g 13) (if (cn 13) = 0 then zz else ad 2 3) (In 13) (nI (cn 13))) kV_RX11_84 hK hP [27] (one_is xo_27) 27 xo_27 rfl rfl ⟨Nat.le_of_ble_eq_true rfl, Nat.le_of_ble_eq_true rfl⟩ ⟨Nat.le_of_ble_eq_true rfl, Nat.le_of_ble_eq_true rfl⟩ rfl hl.1 rfl (Nat.le_of_ble_eq_true rfl) dX11_boughtIn_11) (fun r_1 h_2 => ?_)
      subst h_2
      have : (nI (cn 13)).toInt = (((cn 13) : Nat) : Int) := nI_toInt (by (first | omega | (have zz0 := Hid.u hb_cn; omega)))
      refine lv_icmp_ge (tgt := 70) hx hb dX11_boughtIn_14 rfl (fun c_3 => ?_) (fun c_3 => ?_)
      ·
        have tc_3 : ((nI (cn 13)).toInt : Int) ≤ (nI i5).toInt := Int32.le_iff_toInt_le.mp c_3
        refine lv_iload_n hx hb dX11_boughtIn_70 rfl (lvA1 hl) ?_
        exact W.iret (v := x5_3) hx hb hr (fun t ht hW => ⟨x5_3, rfl, trivial, ht⟩) (fun _ h => absurd h List.not_mem_nil) dX11_boughtIn_71
      ·
        have tc_3 : ((nI i5).toInt : Int) < (nI (cn 13)).toInt := Int32.lt_iff_toInt_lt.mp (Int32.not_le.mp c_3)
        refine lv_aload_n hx hb dX11_boughtIn_17 rfl (lvA2 hl) ?_
        refine gf_RX11_71 S hK hP 0 xo_0 (v := .ref (g 13)) rfl dX11_boughtIn_18 ?_
        refine lv_iload hx hb dX11_boughtIn_21 (lvA0 hl) ?_
        refine va_csq (runV_rx (As := [.int (nI i5)]) (rest := []) S (q_l_get l D cI cB cZ zz qq vv bt (g 13) (ad 2 3) (cn 23) (cn 13) i5 (ad 13 i5) (In 13) (fun i => if i < (cn 13) then some (ad 13 i) else none) (by (first | omega | (have zz0 := Hid.u hb_cn; omega))) (if_pos (by (first | omega | (have zz0 := Hid.u hb_cn; omega)))) (by (first | omega | (have zz0 := Hid.u hb_cn; omega))) (by (first | omega | (have zz0 := Hid.u hb_cn; omega)))) kV_RX11_87 hK hXS hS hP _ (two_is (xl_3 (by (first | omega | (have zz0 := Hid.u hb_cn; omega)))) (xf_16 (k := 0) (by (first | omega | (have zz0 := Hid.u hb_cn; omega))))) (va_recv hK.1 hP (ci := 0) rfl xo_27) ⟨Nat.le_of_ble_eq_true rfl, Nat.le_of_ble_eq_true rfl⟩ ⟨Nat.le_of_ble_eq_true rfl, Nat.le_of_ble_eq_true rfl⟩ rfl hl.1 rfl (Nat.le_of_ble_eq_true rfl) dX11_boughtIn_23) (fun r_4 h_5 => ?_)
        subst h_5
        have kf_1 : i5 < cn 13 := by (first | omega | (have zz0 := Hid.u hb_cn; omega))
        refine va_castS hx hb hown (S.2.2.2.2 _ (wk5_4 7 rfl rfl)) (xclass hK.1 (ci := 5) rfl) (va_recv hK.1 hP (ci := 5) rfl (xf_3 kf_1)) dX11_boughtIn_26 ?_
        refine lv_astore (lv' := [(5, .ref (ad 13 i5)), (4, .int (nI i5)), (3, .int x5_3), (0, .ref (g 0)), (1, .int v0), (2, .int v1)]) hx hb dX11_boughtIn_29 hl (ltb rfl) rfl (fun ls hl => ?_)
        refine lv_iload_n hx hb dX11_boughtIn_31 rfl (lvA2 hl) ?_
        refine lv_aload hx hb dX11_boughtIn_32 (lvA0 hl) ?_
        refine gf_RX11_415 S hK hP _ (xf_3 kf_1) (v := .int ((Fn 163) i5)) rfl dX11_boughtIn_34 ?_
        refine lv_iload_n hx hb dX11_boughtIn_37 rfl (lvA5 hl) ?_
        refine lv_icmp_ne (tgt := 61) hx hb dX11_boughtIn_38 rfl (fun c_6 => ?_) (fun c_6 => ?_)
        ·
          have tc_6 : (((Fn 163) i5).toInt : Int) ≠ v1.toInt := fun q => c_6 (Int32.toInt_inj.mp q)
          refine lv_iconst (v := 0) hx hb dX11_boughtIn_61 kic_0 ?_
          refine lv_iadd hx hb dX11_boughtIn_62 ?_
          refine lv_istore_n (lv' := [(3, .int (x5_3 + 0)), (5, .ref (ad 13 i5)), (4, .int (nI i5)), (0, .ref (g 0)), (1, .int v0), (2, .int v1)]) hx hb dX11_boughtIn_63 rfl hl (ltb rfl) rfl (fun ls hl => ?_)
          refine lv_iinc (v := (nI (i5 + 1))) (lv' := [(4, .int (nI (i5 + 1))), (3, .int (x5_3 + 0)), (5, .ref (ad 13 i5)), (0, .ref (g 0)), (1, .int v0), (2, .int v1)]) hx hb dX11_boughtIn_64 hl (k := 2) rfl (nI_1 _) (ltb rfl) rfl (fun ls hl => ?_)
          refine lv_goto (tgt := 5) hx hb dX11_boughtIn_67 rfl ?_
          exact ih5 (i5 + 1) (x5_3 + 0) (by (first | omega | (have zz0 := Hid.u hb_cn; omega))) (by (first | omega | (have zz0 := Hid.u hb_cn; omega))) ls (lv_sub hl [0, 1, 3, 4, 5] rfl)
        ·
          have tc_6 : (((Fn 163) i5).toInt : Int) = v1.toInt := congrArg Int32.toInt c_6
          refine lv_aload hx hb dX11_boughtIn_41 (lvA0 hl) ?_
          refine gf_RX11_434 S hK hP _ (xf_3 kf_1) (v := .int ((Fn 164) i5)) rfl dX11_boughtIn_43 ?_
          refine lv_bipush (v := 7) hx hb dX11_boughtIn_46 kbc_7 ?_
          refine lv_idiv hx hb dX11_boughtIn_48 (by decide) ?_
          refine lv_iload_n hx hb dX11_boughtIn_49 rfl (lvA4 hl) ?_
          refine lv_icmp_ne (tgt := 61) hx hb dX11_boughtIn_50 rfl (fun c_7 => ?_) (fun c_7 => ?_)
          ·
            have tc_7 : ((((Fn 164) i5) / 7).toInt : Int) ≠ v0.toInt := fun q => c_7 (Int32.toInt_inj.mp q)
            refine lv_iconst (v := 0) hx hb dX11_boughtIn_61 kic_0 ?_
            refine lv_iadd hx hb dX11_boughtIn_62 ?_
            refine lv_istore_n (lv' := [(3, .int (x5_3 + 0)), (5, .ref (ad 13 i5)), (4, .int (nI i5)), (0, .ref (g 0)), (1, .int v0), (2, .int v1)]) hx hb dX11_boughtIn_63 rfl hl (ltb rfl) rfl (fun ls hl => ?_)
            refine lv_iinc (v := (nI (i5 + 1))) (lv' := [(4, .int (nI (i5 + 1))), (3, .int (x5_3 + 0)), (5, .ref (ad 13 i5)), (0, .ref (g 0)), (1, .int v0), (2, .int v1)]) hx hb dX11_boughtIn_64 hl (k := 2) rfl (nI_1 _) (ltb rfl) rfl (fun ls hl => ?_)
            refine lv_goto (tgt := 5) hx hb dX11_boughtIn_67 rfl ?_
            exact ih5 (i5 + 1) (x5_3 + 0) (by (first | omega | (have zz0 := Hid.u hb_cn; omega))) (by (first | omega | (have zz0 := Hid.u hb_cn; omega))) ls (lv_sub hl [0, 1, 3, 4, 5] rfl)
          ·
            have tc_7 : ((((Fn 164) i5) / 7).toInt : Int) = v0.toInt := congrArg Int32.toInt c_7
            refine lv_aload hx hb dX11_boughtIn_53 (lvA0 hl) ?_
            refine vp_callSi (runV_rxa (As := []) (rest := [.int x5_3]) S (q_Xplitres l D cI cB cZ zz qq vv bt g ad cn In Fn i5 hB (by (first | omega | (have zz0 := Hid.u hb_cn; omega)))) kV_RX11_432 hK hXS hS hP _ (xf_3 kf_1) rfl rfl ⟨Nat.le_of_ble_eq_true rfl, Nat.le_of_ble_eq_true rfl⟩ ⟨Nat.le_of_ble_eq_true rfl, Nat.le_of_ble_eq_true rfl⟩ rfl hl.1 rfl (Nat.le_of_ble_eq_true rfl) dX11_boughtIn_55) (fun r_8 h_9 => ?_)
            refine lv_goto (tgt := 62) hx hb dX11_boughtIn_58 rfl ?_
            refine lv_iadd hx hb dX11_boughtIn_62 ?_
            refine lv_istore_n (lv' := [(3, .int (x5_3 + r_8)), (5, .ref (ad 13 i5)), (4, .int (nI i5)), (0, .ref (g 0)), (1, .int v0), (2, .int v1)]) hx hb dX11_boughtIn_63 rfl hl (ltb rfl) rfl (fun ls hl => ?_)
            refine lv_iinc (v := (nI (i5 + 1))) (lv' := [(4, .int (nI (i5 + 1))), (3, .int (x5_3 + r_8)), (5, .ref (ad 13 i5)), (0, .ref (g 0)), (1, .int v0), (2, .int v1)]) hx hb dX11_boughtIn_64 hl (k := 2) rfl (nI_1 _) (ltb rfl) rfl (fun ls hl => ?_)
            refine lv_goto (tgt := 5) hx hb dX11_boughtIn_67 rfl ?_
            exact ih5 (i5 + 1) (x5_3 + r_8) (by (first | omega | (have zz0 := Hid.u hb_cn; omega))) (by (first | omega | (have zz0 := Hid.u hb_cn; omega))) ls (lv_sub hl [0, 1, 3, 4, 5] rfl)
  exact lp_5 _ 0 0 (Nat.lt_succ_self _) (by (first | omega | (have zz0 := Hid.u hb_cn; omega))) ls (lv_sub hl [0, 1, 2, 3, 4] rfl)
set_option maxRecDepth 100000 in
set_option maxHeartbeats 4000000 in
theorem q_Xoverdrawn (l : Launch) (D : va_G) (cI cB cZ : ClassId) (zz qq vv : Nat) (bt : Nat → Int32) (g : Nat → Nat) (ad : Nat → Nat → Nat) (cn : Nat → Nat) (In : Nat → Int32) (Fn : Nat → Nat → Int32) (v0 : Int32) (hB : CBX cn) : Met l yX11_overdrawn (CWS yX11_overdrawn cX11_overdrawn 4 (some .int)) (RM 4 0 0) (PBrx [.ref (g 0), .int v0] D cI cB cZ zz qq vv bt (wX cI (D.1 99) zz g ad cn In Fn)) (vp_Si (fun _ => True)) 0 0 (fun _ => False) := by
  refine en_rx rfl pn_RX11 (Nat.le_of_ble_eq_true rfl) (fun p e s m below meth c hx hb hml hown S hr hlocks hnm hP hK hXS hS ls hl => ?_)
  have hl : lv_has ls 4 [(0, .ref (g 0)), (1, .int v0)] := hl
  have hb_cn : Hid (CBX cn) := hB
  replace hB : CBXh cn := hB
  refine lv_iload_n hx hb dX11_overdrawn_0 rfl (lvA1 hl) ?_
  refine lv_iconst (v := 0) hx hb dX11_overdrawn_1 kic_0 ?_
  refine lv_bipush (v := 57) hx hb dX11_overdrawn_2 kbc_57 ?_
  refine vp_callSi (runS_r (As := [.int v0, .int 0, .int 57]) (rest := []) S (q_l_within l D cI cB cZ v0 0 57) kS_RX11_80 hK hP [] rfl ⟨Nat.le_of_ble_eq_true rfl, Nat.le_of_ble_eq_true rfl⟩ ⟨Nat.le_of_ble_eq_true rfl, Nat.le_of_ble_eq_true rfl⟩ rfl hl.1 rfl (Nat.le_of_ble_eq_true rfl) dX11_overdrawn_4) (fun r_1 h_2 => ?_)
  rcases h_2 with ⟨rfl, h_2⟩ | ⟨rfl, h_2⟩
  ·
    have h_2 : 0 ≤ v0.toInt ∧ v0.toInt ≤ 57 := h_2
    refine lv_if_ne (tgt := 12) hx hb dX11_overdrawn_7 rfl (fun _ => ?_) (fun h => absurd h cq_eq_1_0)
    refine lv_iconst (v := 0) hx hb dX11_overdrawn_12 kic_0 ?_
    refine lv_istore_n (lv' := [(2, .int 0), (0, .ref (g 0)), (1, .int v0)]) hx hb dX11_overdrawn_13 rfl hl (ltb rfl) rfl (fun ls hl => ?_)
    refine lv_iconst (v := 0) hx hb dX11_overdrawn_14 kic_0 ?_
    refine lv_istore_n (lv' := [(3, .int 0), (2, .int 0), (0, .ref (g 0)), (1, .int v0)]) hx hb dX11_overdrawn_15 rfl hl (ltb rfl) rfl (fun ls hl => ?_)
    have lp_16 : ∀ (n : Nat) (i16 : Nat) (x16_2 : Int32) , 10 - i16 < n → (i16 ≤ 10) → ∀ ls : Array Slot, lv_has ls 4 [(3, .int (nI i16)), (2, .int x16_2), (0, .ref (g 0)), (1, .int v0)] → W p l e (RM 4 0 0) s m ([.ref (g 0), .int v0]).toArray below meth c s.heap [] 0 0 (MQ below (vp_Si (fun _ => True)) ([.ref (g 0), .int v0]).toArray s 0 0 (fun _ => False)) (F0 m 16 ls []) := by
      intro n16
      induction n16 with
      | zero => intros; (first | omega | (have zz0 := Hid.u hb_cn; omega))
      | succ n16 ih16 =>
        intro i16 x16_2 hmu16 hinv16 ls hl
        have hr16 := hinv16
        have ti16 : (nI i16).toInt = (i16 : Int) := nI_toInt (by (first | omega | (have zz0 := Hid.u hb_cn; omega)))
        refine lv_iload_n hx hb dX11_overdrawn_16 rfl (lvA0 hl) ?_
        refine lv_bipush (v := 10) hx hb dX11_overdrawn_17 kbc_10 ?_
        refine lv_icmp_ge (tgt := 58) hx hb dX11_overdrawn_19 rfl (fun c_3 => ?_) (fun c_3 => ?_)
        ·
          have tc_3 : (10 : Int) ≤ (nI i16).toInt := Int32.le_iff_toInt_le.mp c_3
          refine lv_iload_n hx hb dX11_overdrawn_58 rfl (lvA1 hl) ?_
          exact W.iret (v := x16_2) hx hb hr (fun t ht hW => ⟨x16_2, rfl, trivial, ht⟩) (fun _ h => absurd h List.not_mem_nil) dX11_overdrawn_59
        ·
          have tc_3 : ((nI i16).toInt : Int) < 10 := Int32.lt_iff_toInt_lt.mp (Int32.not_le.mp c_3)
          refine lv_iload_n hx hb dX11_overdrawn_22 rfl (lvA1 hl) ?_
          refine lv_aload_n hx hb dX11_overdrawn_23 rfl (lvA2 hl) ?_
          refine lv_iload_n hx hb dX11_overdrawn_24 rfl (lvA3 hl) ?_
          refine lv_iload_n hx hb dX11_overdrawn_25 rfl (lvA0 hl) ?_
          refine vp_callSi (runV_rxa (As := [.int v0, .int (nI i16)]) (rest := [.int x16_2]) S (q_XboughtIn l D cI cB cZ zz qq vv bt g ad cn In Fn v0 (nI i16) hB) kV_RX11_438 hK hXS hS hP 0 xo_0 rfl rfl ⟨Nat.le_of_ble_eq_true rfl, Nat.le_of_ble_eq_true rfl⟩ ⟨Nat.le_of_ble_eq_true rfl, Nat.le_of_ble_eq_true rfl⟩ rfl hl.1 rfl (Nat.le_of_ble_eq_true rfl) dX11_overdrawn_26) (fun r_4 h_5 => ?_)
          refine lv_aload_n hx hb dX11_overdrawn_29 rfl (lvA2 hl) ?_
          refine gf_RX11_47 S hK hP 0 xo_0 (v := .ref (g 8)) rfl dX11_overdrawn_30 ?_
          refine gf_RX11_435 S hK hP 6 xo_6 (v := .ref (g 25)) rfl dX11_overdrawn_33 ?_
          refine lv_iload_n hx hb dX11_overdrawn_36 rfl (lvA0 hl) ?_
          refine vp_callSi (runS_r (As := [.ref (g 25), .int (nI i16)]) (rest := [.int r_4, .int x16_2]) S (q_l_at l D cI cB cZ (g 25) 10 (Fn 25) (nI i16) (by (first | omega | (have zz0 := Hid.u hb_cn; omega)))) kS_RX11_192 hK hP [12] (one_is xo_12) ⟨Nat.le_of_ble_eq_true rfl, Nat.le_of_ble_eq_true rfl⟩ ⟨Nat.le_of_ble_eq_true rfl, Nat.le_of_ble_eq_true rfl⟩ rfl hl.1 rfl (Nat.le_of_ble_eq_true rfl) dX11_overdrawn_37) (fun r_6 h_7 => ?_)
          subst h_7
          refine lv_icmp_le (tgt := 49) hx hb dX11_overdrawn_40 rfl (fun c_8 => ?_) (fun c_8 => ?_)
          ·
            have tc_8 : (r_4.toInt : Int) ≤ (atM (Fn 25) 10 (nI i16)).toInt := Int32.le_iff_toInt_le.mp c_8
            refine lv_iconst (v := 0) hx hb dX11_overdrawn_49 kic_0 ?_
            refine lv_ior hx hb dX11_overdrawn_50 ?_
            refine lv_istore_n (lv' := [(2, .int (x16_2 ||| 0)), (3, .int (nI i16)), (0, .ref (g 0)), (1, .int v0)]) hx hb dX11_overdrawn_51 rfl hl (ltb rfl) rfl (fun ls hl => ?_)
            refine lv_iinc (v := (nI (i16 + 1))) (lv' := [(3, .int (nI (i16 + 1))), (2, .int (x16_2 ||| 0)), (0, .ref (g 0)), (1, .int v0)]) hx hb dX11_overdrawn_52 hl (k := 1) rfl (nI_1 _) (ltb rfl) rfl (fun ls hl => ?_)
            refine lv_goto (tgt := 16) hx hb dX11_overdrawn_55 rfl ?_
            exact ih16 (i16 + 1) (x16_2 ||| 0) (by (first | omega | (have zz0 := Hid.u hb_cn; omega))) (by (first | omega | (have zz0 := Hid.u hb_cn; omega))) ls (lv_sub hl [0, 1, 2, 3] rfl)
          ·
            have tc_8 : ((atM (Fn 25) 10 (nI i16)).toInt : Int) < r_4.toInt := Int32.lt_iff_toInt_lt.mp (Int32.not_le.mp c_8)
            refine lv_iconst (v := 1) hx hb dX11_overdrawn_43 kic_1 ?_
            refine lv_iload_n hx hb dX11_overdrawn_44 rfl (lvA0 hl) ?_
            refine lv_ishl hx hb dX11_overdrawn_45 ?_
            refine lv_goto (tgt := 50) hx hb dX11_overdrawn_46 rfl ?_
            refine lv_ior hx hb dX11_overdrawn_50 ?_
            refine lv_istore_n (lv' := [(2, .int (x16_2 ||| (1 <<< ((nI i16) &&& 31)))), (3, .int (nI i16)), (0, .ref (g 0)), (1, .int v0)]) hx hb dX11_overdrawn_51 rfl hl (ltb rfl) rfl (fun ls hl => ?_)
            refine lv_iinc (v := (nI (i16 + 1))) (lv' := [(3, .int (nI (i16 + 1))), (2, .int (x16_2 ||| (1 <<< ((nI i16) &&& 31)))), (0, .ref (g 0)), (1, .int v0)]) hx hb dX11_overdrawn_52 hl (k := 1) rfl (nI_1 _) (ltb rfl) rfl (fun ls hl => ?_)
            refine lv_goto (tgt := 16) hx hb dX11_overdrawn_55 rfl ?_
            exact ih16 (i16 + 1) (x16_2 ||| (1 <<< ((nI i16) &&& 31))) (by (first | omega | (have zz0 := Hid.u hb_cn; omega))) (by (first | omega | (have zz0 := Hid.u hb_cn; omega))) ls (lv_sub hl [0, 1, 2, 3] rfl)
    exact lp_16 _ 0 0 (Nat.lt_succ_self _) (by (first | omega | (have zz0 := Hid.u hb_cn; omega))) ls (lv_sub hl [0, 1, 2, 3] rfl)
  ·
    have h_2 : ¬ (0 ≤ v0.toInt ∧ v0.toInt ≤ 57) := h_2
    refine lv_if_ne (tgt := 12) hx hb dX11_overdrawn_7 rfl (fun h => absurd h cq_eq_0_0) (fun _ => ?_)
    refine lv_iconst (v := (-1)) hx hb dX11_overdrawn_10 kic_m1 ?_
    exact W.iret (v := (-1)) hx hb hr (fun t ht hW => ⟨(-1), rfl, trivial, ht⟩) (fun _ h => absurd h List.not_mem_nil) dX11_overdrawn_11
set_option maxRecDepth 100000 in
set_option maxHeartbeats 4000000 in
theorem q_Xblocked (l : Launch) (D : va_G) (cI cB cZ : ClassId) (zz qq vv : Nat) (bt : Nat → Int32) (g : Nat → Nat) (ad : Nat → Nat → Nat) (cn : Nat → Nat) (In : Nat → Int32) (Fn : Nat → Nat → Int32) (v0 : Int32) (sz : Nat) (hB : CBX cn) : Met l yX11_blocked (CWS yX11_blocked cX11_blocked 3 (some .int)) (RM 3 0 0) (PBx [.ref (g 0), .int v0] D cI cB cZ zz qq vv bt (wX cI (D.1 99) zz g ad cn In Fn) sz) (va_Qi (fun (r : Int32) (u : (Nat → Nat) × (Nat → Int32) × (Nat → Nat → Int32)) => (fun r c2 I2 F2 => Fr [] [] [172] cn In Fn c2 I2 F2 ∧ CBX c2 ∧ (True)) r u.1 u.2.1 u.2.2) (fun (u : (Nat → Nat) × (Nat → Int32) × (Nat → Nat → Int32)) (t : State) => va_P D vwCl (wX cI (D.1 99) zz g ad u.1 u.2.1 u.2.2) t.heap ∧ va_D (va_A (wX cI (D.1 99) zz g ad cn In Fn) sz) (wX cI (D.1 99) zz g ad u.1 u.2.1 u.2.2)) (va_A (wX cI (D.1 99) zz g ad cn In Fn) sz)) 0 0 (va_A (wX cI (D.1 99) zz g ad cn In Fn) sz) := by
  refine en_x (fun A => (va_Qi (fun (r : Int32) (u : (Nat → Nat) × (Nat → Int32) × (Nat → Nat → Int32)) => (fun (r : Int32) (c2 : Nat → Nat) (I2 : Nat → Int32) (F2 : Nat → Nat → Int32) => Fr [] [] [172] cn In Fn c2 I2 F2 ∧ CBX c2 ∧ (True)) r u.1 u.2.1 u.2.2) (fun (u : (Nat → Nat) × (Nat → Int32) × (Nat → Nat → Int32)) (t : State) => va_P D vwCl (wX cI (D.1 99) zz g ad u.1 u.2.1 u.2.2) t.heap ∧ va_D A (wX cI (D.1 99) zz g ad u.1 u.2.1 u.2.2)) A)) rfl rfl pn_RX11 (Nat.le_of_ble_eq_true rfl) (fun p e s m below meth c A hx hb hml hown S hr hlocks hnm hA hP hK hD hXS hS ls hl => ?_)
  have hl : lv_has ls 3 [(0, .ref (g 0)), (1, .int v0)] := hl
  have hb_cn : Hid (CBX cn) := hB
  replace hB : CBXh cn := hB
  refine lv_iload_n hx hb dX11_blocked_0 rfl (lvA1 hl) ?_
  refine lv_if_lt (tgt := 15) hx hb dX11_blocked_1 rfl (fun c_1 => ?_) (fun c_1 => ?_)
  ·
    have tc_1 : (v0.toInt : Int) < 0 := Int32.lt_iff_toInt_lt.mp c_1
    refine lv_iconst (v := (-1)) hx hb dX11_blocked_15 kic_m1 ?_
    exact W.iret (v := (-1)) hx hb hr (fun t ht hW => ⟨⟨(-1), (cn, In, Fn), rfl, ⟨(Fr.mo Fr.rf (sbl rfl) (sbl rfl) (sbl rfl)), hB, trivial⟩, by rw [ht]; exact hP, hD⟩, hS.F ht⟩) hS.2.2 dX11_blocked_16
  ·
    have tc_1 : (0 : Int) ≤ v0.toInt := Int32.le_iff_toInt_le.mp (Int32.not_lt.mp c_1)
    refine lv_iload_n hx hb dX11_blocked_4 rfl (lvA1 hl) ?_
    refine lv_aload_n hx hb dX11_blocked_5 rfl (lvA0 hl) ?_
    refine gf_RX11_74 S hK hP 0 xo_0 (v := .ref (g 14)) rfl dX11_blocked_6 ?_
    refine vp_callSi (runV_r (As := []) (rest := [.int v0]) S (q_l_size l D cI cB cZ (g 14) (if (cn 14) = 0 then zz else ad 2 4) (In 14) (nI (cn 14))) kV_RX11_84 hK hP [28] (one_is xo_28) 28 xo_28 rfl rfl ⟨Nat.le_of_ble_eq_true rfl, Nat.le_of_ble_eq_true rfl⟩ ⟨Nat.le_of_ble_eq_true rfl, Nat.le_of_ble_eq_true rfl⟩ rfl hl.1 rfl (Nat.le_of_ble_eq_true rfl) dX11_blocked_9) (fun r_2 h_3 => ?_)
    subst h_3
    have : (nI (cn 14)).toInt = (((cn 14) : Nat) : Int) := nI_toInt (by (first | omega | (have zz0 := Hid.u hb_cn; omega)))
    refine lv_icmp_lt (tgt := 17) hx hb dX11_blocked_12 rfl (fun c_4 => ?_) (fun c_4 => ?_)
    ·
      have tc_4 : (v0.toInt : Int) < (nI (cn 14)).toInt := Int32.lt_iff_toInt_lt.mp c_4
      obtain ⟨d0, hd0, rfl⟩ := nI_of (x := v0) (fun q => by have := Int32.lt_iff_toInt_lt.mp q; have e : (0 : Int32).toInt = 0 := rfl; (first | omega | (have zz0 := Hid.u hb_cn; omega)))
      have td0 : (nI d0).toInt = (d0 : Int) := nI_toInt hd0
      have zd0 : (nI d0).toInt.toNat = d0 := by (first | omega | (have zz0 := Hid.u hb_cn; omega))
      refine lv_aload_n hx hb dX11_blocked_17 rfl (lvA0 hl) ?_
      refine gf_RX11_74 S hK hP 0 xo_0 (v := .ref (g 14)) rfl dX11_blocked_18 ?_
      refine lv_iload_n hx hb dX11_blocked_21 rfl (lvA1 hl) ?_
      refine va_csq (runV_rx (As := [.int (nI d0)]) (rest := []) S (q_l_get l D cI cB cZ zz qq vv bt (g 14) (ad 2 4) (cn 24) (cn 14) d0 (ad 14 d0) (In 14) (fun i => if i < (cn 14) then some (ad 14 i) else none) (by (first | omega | (have zz0 := Hid.u hb_cn; omega))) (if_pos (by (first | omega | (have zz0 := Hid.u hb_cn; omega)))) (by (first | omega | (have zz0 := Hid.u hb_cn; omega))) (by (first | omega | (have zz0 := Hid.u hb_cn; omega)))) kV_RX11_87 hK hXS hS hP _ (two_is (xl_4 (by (first | omega | (have zz0 := Hid.u hb_cn; omega)))) (xf_17 (k := 0) (by (first | omega | (have zz0 := Hid.u hb_cn; omega))))) (va_recv hK.1 hP (ci := 0) rfl xo_28) ⟨Nat.le_of_ble_eq_true rfl, Nat.le_of_ble_eq_true rfl⟩ ⟨Nat.le_of_ble_eq_true rfl, Nat.le_of_ble_eq_true rfl⟩ rfl hl.1 rfl (Nat.le_of_ble_eq_true rfl) dX11_blocked_22) (fun r_5 h_6 => ?_)
      subst h_6
      have kf_1 : d0 < cn 14 := by (first | omega | (have zz0 := Hid.u hb_cn; omega))
      refine va_castS hx hb hown (S.2.2.2.2 _ (wk5_17 5 rfl rfl)) (xclass hK.1 (ci := 7) rfl) (va_recv hK.1 hP (ci := 7) rfl (xf_4 kf_1)) dX11_blocked_25 ?_
      refine lv_astore_n (lv' := [(2, .ref (ad 14 d0)), (0, .ref (g 0)), (1, .int (nI d0))]) hx hb dX11_blocked_28 rfl hl (ltb rfl) rfl (fun ls hl => ?_)
      refine lv_aload_n hx hb dX11_blocked_29 rfl (lvA0 hl) ?_
      refine lv_dup hx hb dX11_blocked_30 rfl ?_
      refine gf_RX11_477 S hK hP _ (xf_4 kf_1) (v := .int ((Fn 172) d0)) rfl dX11_blocked_31 ?_
      refine lv_iconst (v := 1) hx hb dX11_blocked_34 kic_1 ?_
      refine lv_iadd hx hb dX11_blocked_35 ?_
      refine pf_RX11_477 S hK hP hD hS _ (xf_4 kf_1) (v := .int (((Fn 172) d0) + 1)) (Nat.le_of_ble_eq_true rfl) rfl rfl dX11_blocked_36 (fun H locs hP hD hS => ?_)
      have hP : va_P D vwCl (wX cI (D.1 99) zz g ad cn In (va_up Fn 172 (upd (Fn 172) d0 (((Fn 172) d0) + 1)))) H := va_P_eq (xs_172 (by (first | omega | (have zz0 := Hid.u hb_cn; omega)))) hP
      have hD : va_D A (wX cI (D.1 99) zz g ad cn In (va_up Fn 172 (upd (Fn 172) d0 (((Fn 172) d0) + 1)))) := va_D_eq (xs_172 (by (first | omega | (have zz0 := Hid.u hb_cn; omega)))) hD
      refine lv_aload_n hx hb dX11_blocked_39 rfl (lvA0 hl) ?_
      refine gf_RX11_477 S hK hP _ (xf_4 kf_1) (v := .int ((upd (Fn 172) d0 (((Fn 172) d0) + 1)) d0)) rfl dX11_blocked_40 ?_
      exact W.iret (v := ((upd (Fn 172) d0 (((Fn 172) d0) + 1)) d0)) hx hb hr (fun t ht hW => ⟨⟨((upd (Fn 172) d0 (((Fn 172) d0) + 1)) d0), (cn, In, (va_up Fn 172 (upd (Fn 172) d0 (((Fn 172) d0) + 1)))), rfl, ⟨(Fr.mo (Fr.f 172 Fr.rf) (sbl rfl) (sbl rfl) (sbl rfl)), hB, trivial⟩, by rw [ht]; exact hP, hD⟩, hS.F ht⟩) hS.2.2 dX11_blocked_43
    ·
      have tc_4 : ((nI (cn 14)).toInt : Int) ≤ v0.toInt := Int32.le_iff_toInt_le.mp (Int32.not_lt.mp c_4)
      refine lv_iconst (v := (-1)) hx hb dX11_blocked_15 kic_m1 ?_
      exact W.iret (v := (-1)) hx hb hr (fun t ht hW => ⟨⟨(-1), (cn, In, Fn), rfl, ⟨(Fr.mo Fr.rf (sbl rfl) (sbl rfl) (sbl rfl)), hB, trivial⟩, by rw [ht]; exact hP, hD⟩, hS.F ht⟩) hS.2.2 dX11_blocked_16
set_option maxRecDepth 100000 in
set_option maxHeartbeats 4000000 in
theorem q_XwrongPart (l : Launch) (D : va_G) (cI cB cZ : ClassId) (zz qq vv : Nat) (bt : Nat → Int32) (g : Nat → Nat) (ad : Nat → Nat → Nat) (cn : Nat → Nat) (In : Nat → Int32) (Fn : Nat → Nat → Int32) (k0 : Nat) (v1 v2 : Int32) (hB : CBX cn) (hk : k0 < cn 11) : Met l yX11_wrongPart (CWS yX11_wrongPart cX11_wrongPart 4 (some .int)) (RM 3 0 0) (PBrx [.ref (g 0), .ref (ad 11 k0), .int v1, .int v2] D cI cB cZ zz qq vv bt (wX cI (D.1 99) zz g ad cn In Fn)) (vp_Si (fun _ => True)) 0 0 (fun _ => False) := by
  refine en_rx rfl pn_RX11 (Nat.le_of_ble_eq_true rfl) (fun p e s m below meth c hx hb hml hown S hr hlocks hnm hP hK hXS hS ls hl => ?_)
  have hl : lv_has ls 4 [(0, .ref (g 0)), (1, .ref (ad 11 k0)), (2, .int v1), (3, .int v2)] := hl
  have hb_cn : Hid (CBX cn) := hB
  replace hB : CBXh cn := hB
  refine lv_aload_n hx hb dX11_wrongPart_0 rfl (lvA0 hl) ?_
  refine gf_RX11_21 S hK hP 0 xo_0 (v := .ref (g 5)) rfl dX11_wrongPart_1 ?_
  refine lv_iload_n hx hb dX11_wrongPart_4 rfl (lvA3 hl) ?_
  refine vp_callSi (runV_rxa (As := [.int v2]) (rest := []) S (q_Xnumber l D cI cB cZ zz qq vv bt g ad cn In Fn v2 hB) kV_RX11_530 hK hXS hS hP 1 xo_1 rfl rfl ⟨Nat.le_of_ble_eq_true rfl, Nat.le_of_ble_eq_true rfl⟩ ⟨Nat.le_of_ble_eq_true rfl, Nat.le_of_ble_eq_true rfl⟩ rfl hl.1 rfl (Nat.le_of_ble_eq_true rfl) dX11_wrongPart_5) (fun r_1 h_2 => ?_)
  refine lv_iload_n hx hb dX11_wrongPart_8 rfl (lvA2 hl) ?_
  refine lv_icmp_eq (tgt := 14) hx hb dX11_wrongPart_9 rfl (fun c_3 => ?_) (fun c_3 => ?_)
  ·
    have tc_3 : (r_1.toInt : Int) = v1.toInt := congrArg Int32.toInt c_3
    refine lv_aload_n hx hb dX11_wrongPart_14 rfl (lvA0 hl) ?_
    refine gf_RX11_21 S hK hP 0 xo_0 (v := .ref (g 5)) rfl dX11_wrongPart_15 ?_
    refine lv_iload_n hx hb dX11_wrongPart_18 rfl (lvA3 hl) ?_
    refine lv_iconst (v := 1) hx hb dX11_wrongPart_19 kic_1 ?_
    refine lv_iadd hx hb dX11_wrongPart_20 ?_
    refine vp_callSi (runV_rxa (As := [.int (v2 + 1)]) (rest := []) S (q_Xnumber l D cI cB cZ zz qq vv bt g ad cn In Fn (v2 + 1) hB) kV_RX11_530 hK hXS hS hP 1 xo_1 rfl rfl ⟨Nat.le_of_ble_eq_true rfl, Nat.le_of_ble_eq_true rfl⟩ ⟨Nat.le_of_ble_eq_true rfl, Nat.le_of_ble_eq_true rfl⟩ rfl hl.1 rfl (Nat.le_of_ble_eq_true rfl) dX11_wrongPart_21) (fun r_4 h_5 => ?_)
    refine lv_aload_n hx hb dX11_wrongPart_24 rfl (lvA1 hl) ?_
    refine gf_RX11_196 S hK hP _ (xf_1 hk) (v := .int ((Fn 121) k0)) rfl dX11_wrongPart_25 ?_
    refine lv_icmp_eq (tgt := 33) hx hb dX11_wrongPart_28 rfl (fun c_6 => ?_) (fun c_6 => ?_)
    ·
      have tc_6 : (r_4.toInt : Int) = ((Fn 121) k0).toInt := congrArg Int32.toInt c_6
      refine lv_aload_n hx hb dX11_wrongPart_33 rfl (lvA0 hl) ?_
      refine gf_RX11_21 S hK hP 0 xo_0 (v := .ref (g 5)) rfl dX11_wrongPart_34 ?_
      refine lv_iload_n hx hb dX11_wrongPart_37 rfl (lvA3 hl) ?_
      refine lv_iconst (v := 2) hx hb dX11_wrongPart_38 kic_2 ?_
      refine lv_iadd hx hb dX11_wrongPart_39 ?_
      refine vp_callSi (runV_rxa (As := [.int (v2 + 2)]) (rest := []) S (q_Xnumber l D cI cB cZ zz qq vv bt g ad cn In Fn (v2 + 2) hB) kV_RX11_530 hK hXS hS hP 1 xo_1 rfl rfl ⟨Nat.le_of_ble_eq_true rfl, Nat.le_of_ble_eq_true rfl⟩ ⟨Nat.le_of_ble_eq_true rfl, Nat.le_of_ble_eq_true rfl⟩ rfl hl.1 rfl (Nat.le_of_ble_eq_true rfl) dX11_wrongPart_40) (fun r_7 h_8 => ?_)
      refine lv_aload_n hx hb dX11_wrongPart_43 rfl (lvA1 hl) ?_
      refine gf_RX11_202 S hK hP _ (xf_1 hk) (v := .int ((Fn 122) k0)) rfl dX11_wrongPart_44 ?_
      refine lv_icmp_eq (tgt := 52) hx hb dX11_wrongPart_47 rfl (fun c_9 => ?_) (fun c_9 => ?_)
      ·
        have tc_9 : (r_7.toInt : Int) = ((Fn 122) k0).toInt := congrArg Int32.toInt c_9
        refine lv_aload_n hx hb dX11_wrongPart_52 rfl (lvA0 hl) ?_
        refine gf_RX11_21 S hK hP 0 xo_0 (v := .ref (g 5)) rfl dX11_wrongPart_53 ?_
        refine lv_iload_n hx hb dX11_wrongPart_56 rfl (lvA3 hl) ?_
        refine lv_iconst (v := 3) hx hb dX11_wrongPart_57 kic_3 ?_
        refine lv_iadd hx hb dX11_wrongPart_58 ?_
        refine vp_callSi (runV_rxa (As := [.int (v2 + 3)]) (rest := []) S (q_Xnumber l D cI cB cZ zz qq vv bt g ad cn In Fn (v2 + 3) hB) kV_RX11_530 hK hXS hS hP 1 xo_1 rfl rfl ⟨Nat.le_of_ble_eq_true rfl, Nat.le_of_ble_eq_true rfl⟩ ⟨Nat.le_of_ble_eq_true rfl, Nat.le_of_ble_eq_true rfl⟩ rfl hl.1 rfl (Nat.le_of_ble_eq_true rfl) dX11_wrongPart_59) (fun r_10 h_11 => ?_)
        refine lv_aload_n hx hb dX11_wrongPart_62 rfl (lvA1 hl) ?_
        refine gf_RX11_141 S hK hP _ (xf_1 hk) (v := .int ((Fn 128) k0)) rfl dX11_wrongPart_63 ?_
        refine lv_icmp_eq (tgt := 73) hx hb dX11_wrongPart_66 rfl (fun c_12 => ?_) (fun c_12 => ?_)
        ·
          have tc_12 : (r_10.toInt : Int) = ((Fn 128) k0).toInt := congrArg Int32.toInt c_12
          refine lv_iconst (v := (-1)) hx hb dX11_wrongPart_73 kic_m1 ?_
          exact W.iret (v := (-1)) hx hb hr (fun t ht hW => ⟨(-1), rfl, trivial, ht⟩) (fun _ h => absurd h List.not_mem_nil) dX11_wrongPart_74
        ·
          have tc_12 : (r_10.toInt : Int) ≠ ((Fn 128) k0).toInt := fun q => c_12 (Int32.toInt_inj.mp q)
          refine lv_iconst (v := 3) hx hb dX11_wrongPart_69 kic_3 ?_
          refine lv_goto (tgt := 74) hx hb dX11_wrongPart_70 rfl ?_
          exact W.iret (v := 3) hx hb hr (fun t ht hW => ⟨3, rfl, trivial, ht⟩) (fun _ h => absurd h List.not_mem_nil) dX11_wrongPart_74
      ·
        have tc_9 : (r_7.toInt : Int) ≠ ((Fn 122) k0).toInt := fun q => c_9 (Int32.toInt_inj.mp q)
        refine lv_iconst (v := 2) hx hb dX11_wrongPart_50 kic_2 ?_
        exact W.iret (v := 2) hx hb hr (fun t ht hW => ⟨2, rfl, trivial, ht⟩) (fun _ h => absurd h List.not_mem_nil) dX11_wrongPart_51
    ·
      have tc_6 : (r_4.toInt : Int) ≠ ((Fn 121) k0).toInt := fun q => c_6 (Int32.toInt_inj.mp q)
      refine lv_iconst (v := 1) hx hb dX11_wrongPart_31 kic_1 ?_
      exact W.iret (v := 1) hx hb hr (fun t ht hW => ⟨1, rfl, trivial, ht⟩) (fun _ h => absurd h List.not_mem_nil) dX11_wrongPart_32
  ·
    have tc_3 : (r_1.toInt : Int) ≠ v1.toInt := fun q => c_3 (Int32.toInt_inj.mp q)
    refine lv_iconst (v := 0) hx hb dX11_wrongPart_12 kic_0 ?_
    exact W.iret (v := 0) hx hb hr (fun t ht hW => ⟨0, rfl, trivial, ht⟩) (fun _ h => absurd h List.not_mem_nil) dX11_wrongPart_13
set_option maxRecDepth 100000 in
set_option maxHeartbeats 4000000 in
theorem q_XfirstWrong (l : Launch) (D : va_G) (cI cB cZ : ClassId) (zz qq vv : Nat) (bt : Nat → Int32) (g : Nat → Nat) (ad : Nat → Nat → Nat) (cn : Nat → Nat) (In : Nat → Int32) (Fn : Nat → Nat → Int32) (v0 v1 : Int32) (hB : CBX cn) : Met l yX11_firstWrong (CWS yX11_firstWrong cX11_firstWrong 7 (some .int)) (RM 4 0 0) (PBrx [.ref (g 0), .int v0, .int v1] D cI cB cZ zz qq vv bt (wX cI (D.1 99) zz g ad cn In Fn)) (vp_Si (fun _ => True)) 0 0 (fun _ => False) := by
  refine en_rx rfl pn_RX11 (Nat.le_of_ble_eq_true rfl) (fun p e s m below meth c hx hb hml hown S hr hlocks hnm hP hK hXS hS ls hl => ?_)
  have hl : lv_has ls 7 [(0, .ref (g 0)), (1, .int v0), (2, .int v1)] := hl
  have hb_cn : Hid (CBX cn) := hB
  replace hB : CBXh cn := hB
  refine lv_iconst (v := 0) hx hb dX11_firstWrong_0 kic_0 ?_
  refine lv_istore_n (lv' := [(3, .int 0), (0, .ref (g 0)), (1, .int v0), (2, .int v1)]) hx hb dX11_firstWrong_1 rfl hl (ltb rfl) rfl (fun ls hl => ?_)
  refine lv_iconst (v := 0) hx hb dX11_firstWrong_2 kic_0 ?_
  refine lv_istore (lv' := [(4, .int 0), (3, .int 0), (0, .ref (g 0)), (1, .int v0), (2, .int v1)]) hx hb dX11_firstWrong_3 hl (ltb rfl) rfl (fun ls hl => ?_)
  have lp_5 : ∀ (n : Nat) (i5 : Nat) (x5_3 : Int32) , cn 11 - i5 < n → (i5 ≤ cn 11) → ∀ ls : Array Slot, lv_has ls 7 [(4, .int (nI i5)), (3, .int x5_3), (0, .ref (g 0)), (1, .int v0), (2, .int v1)] → W p l e (RM 4 0 0) s m ([.ref (g 0), .int v0, .int v1]).toArray below meth c s.heap [] 0 0 (MQ below (vp_Si (fun _ => True)) ([.ref (g 0), .int v0, .int v1]).toArray s 0 0 (fun _ => False)) (F0 m 5 ls []) := by
    intro n5
    induction n5 with
    | zero => intros; (first | omega | (have zz0 := Hid.u hb_cn; omega))
    | succ n5 ih5 =>
      intro i5 x5_3 hmu5 hinv5 ls hl
      have hr5 := hinv5
      have ti5 : (nI i5).toInt = (i5 : Int) := nI_toInt (by (first | omega | (have zz0 := Hid.u hb_cn; omega)))
      refine lv_iload hx hb dX11_firstWrong_5 (lvA0 hl) ?_
      refine lv_aload_n hx hb dX11_firstWrong_7 rfl (lvA2 hl) ?_
      refine gf_RX11_65 S hK hP 0 xo_0 (v := .ref (g 11)) rfl dX11_firstWrong_8 ?_
      refine vp_callSi (runV_r (As := []) (rest := [.int (nI i5)]) S (q_l_size l D cI cB cZ (g 11) (if (cn 11) = 0 then zz else ad 2 1) (In 11) (nI (cn 11))) kV_RX11_84 hK hP [25] (one_is xo_25) 25 xo_25 rfl rfl ⟨Nat.le_of_ble_eq_true rfl, Nat.le_of_ble_eq_true rfl⟩ ⟨Nat.le_of_ble_eq_true rfl, Nat.le_of_ble_eq_true rfl⟩ rfl hl.1 rfl (Nat.le_of_ble_eq_true rfl) dX11_firstWrong_11) (fun r_1 h_2 => ?_)
      subst h_2
      have : (nI (cn 11)).toInt = (((cn 11) : Nat) : Int) := nI_toInt (by (first | omega | (have zz0 := Hid.u hb_cn; omega)))
      refine lv_icmp_ge (tgt := 81) hx hb dX11_firstWrong_14 rfl (fun c_3 => ?_) (fun c_3 => ?_)
      ·
        have tc_3 : ((nI (cn 11)).toInt : Int) ≤ (nI i5).toInt := Int32.le_iff_toInt_le.mp c_3
        refine lv_iload_n hx hb dX11_firstWrong_81 rfl (lvA1 hl) ?_
        refine lv_iload_n hx hb dX11_firstWrong_82 rfl (lvA4 hl) ?_
        refine lv_icmp_ge (tgt := 90) hx hb dX11_firstWrong_83 rfl (fun c_4 => ?_) (fun c_4 => ?_)
        ·
          have tc_4 : (v1.toInt : Int) ≤ x5_3.toInt := Int32.le_iff_toInt_le.mp c_4
          refine lv_iconst (v := (-1)) hx hb dX11_firstWrong_90 kic_m1 ?_
          exact W.iret (v := (-1)) hx hb hr (fun t ht hW => ⟨(-1), rfl, trivial, ht⟩) (fun _ h => absurd h List.not_mem_nil) dX11_firstWrong_91
        ·
          have tc_4 : (x5_3.toInt : Int) < v1.toInt := Int32.lt_iff_toInt_lt.mp (Int32.not_le.mp c_4)
          refine lv_iload_n hx hb dX11_firstWrong_86 rfl (lvA1 hl) ?_
          refine lv_goto (tgt := 91) hx hb dX11_firstWrong_87 rfl ?_
          exact W.iret (v := x5_3) hx hb hr (fun t ht hW => ⟨x5_3, rfl, trivial, ht⟩) (fun _ h => absurd h List.not_mem_nil) dX11_firstWrong_91
      ·
        have tc_3 : ((nI i5).toInt : Int) < (nI (cn 11)).toInt := Int32.lt_iff_toInt_lt.mp (Int32.not_le.mp c_3)
        refine lv_aload_n hx hb dX11_firstWrong_17 rfl (lvA2 hl) ?_
        refine gf_RX11_65 S hK hP 0 xo_0 (v := .ref (g 11)) rfl dX11_firstWrong_18 ?_
        refine lv_iload hx hb dX11_firstWrong_21 (lvA0 hl) ?_
        refine va_csq (runV_rx (As := [.int (nI i5)]) (rest := []) S (q_l_get l D cI cB cZ zz qq vv bt (g 11) (ad 2 1) (cn 21) (cn 11) i5 (ad 11 i5) (In 11) (fun i => if i < (cn 11) then some (ad 11 i) else none) (by (first | omega | (have zz0 := Hid.u hb_cn; omega))) (if_pos (by (first | omega | (have zz0 := Hid.u hb_cn; omega)))) (by (first | omega | (have zz0 := Hid.u hb_cn; omega))) (by (first | omega | (have zz0 := Hid.u hb_cn; omega)))) kV_RX11_87 hK hXS hS hP _ (two_is (xl_1 (by (first | omega | (have zz0 := Hid.u hb_cn; omega)))) (xf_14 (k := 0) (by (first | omega | (have zz0 := Hid.u hb_cn; omega))))) (va_recv hK.1 hP (ci := 0) rfl xo_25) ⟨Nat.le_of_ble_eq_true rfl, Nat.le_of_ble_eq_true rfl⟩ ⟨Nat.le_of_ble_eq_true rfl, Nat.le_of_ble_eq_true rfl⟩ rfl hl.1 rfl (Nat.le_of_ble_eq_true rfl) dX11_firstWrong_23) (fun r_5 h_6 => ?_)
        subst h_6
        have kf_1 : i5 < cn 11 := by (first | omega | (have zz0 := Hid.u hb_cn; omega))
        refine va_castS hx hb hown (S.2.2.2.2 _ (wk2_17 0 rfl rfl)) (xclass hK.1 (ci := 3) rfl) (va_recv hK.1 hP (ci := 3) rfl (xf_1 kf_1)) dX11_firstWrong_26 ?_
        refine lv_astore (lv' := [(5, .ref (ad 11 i5)), (4, .int (nI i5)), (3, .int x5_3), (0, .ref (g 0)), (1, .int v0), (2, .int v1)]) hx hb dX11_firstWrong_29 hl (ltb rfl) rfl (fun ls hl => ?_)
        refine lv_aload hx hb dX11_firstWrong_31 (lvA0 hl) ?_
        refine gf_RX11_211 S hK hP _ (xf_1 kf_1) (v := .int ((Fn 120) i5)) rfl dX11_firstWrong_33 ?_
        refine lv_iload_n hx hb dX11_firstWrong_36 rfl (lvA4 hl) ?_
        refine lv_icmp_eq (tgt := 43) hx hb dX11_firstWrong_37 rfl (fun c_7 => ?_) (fun c_7 => ?_)
        ·
          have tc_7 : (((Fn 120) i5).toInt : Int) = v0.toInt := congrArg Int32.toInt c_7
          refine lv_iload_n hx hb dX11_firstWrong_43 rfl (lvA2 hl) ?_
          refine lv_iload_n hx hb dX11_firstWrong_44 rfl (lvA5 hl) ?_
          refine lv_icmp_lt (tgt := 50) hx hb dX11_firstWrong_45 rfl (fun c_8 => ?_) (fun c_8 => ?_)
          ·
            have tc_8 : (x5_3.toInt : Int) < v1.toInt := Int32.lt_iff_toInt_lt.mp c_8
            refine lv_aload_n hx hb dX11_firstWrong_50 rfl (lvA3 hl) ?_
            refine lv_aload hx hb dX11_firstWrong_51 (lvA0 hl) ?_
            refine lv_iload hx hb dX11_firstWrong_53 (lvA1 hl) ?_
            refine lv_iload_n hx hb dX11_firstWrong_55 rfl (lvA2 hl) ?_
            refine vp_callSi (runV_rxa (As := [.ref (ad 11 i5), .int (nI i5), .int x5_3]) (rest := []) S (q_XwrongPart l D cI cB cZ zz qq vv bt g ad cn In Fn i5 (nI i5) x5_3 hB (by (first | omega | (have zz0 := Hid.u hb_cn; omega)))) kV_RX11_526 hK hXS hS hP 0 xo_0 rfl rfl ⟨Nat.le_of_ble_eq_true rfl, Nat.le_of_ble_eq_true rfl⟩ ⟨Nat.le_of_ble_eq_true rfl, Nat.le_of_ble_eq_true rfl⟩ rfl hl.1 rfl (Nat.le_of_ble_eq_true rfl) dX11_firstWrong_56) (fun r_9 h_10 => ?_)
            refine lv_istore (lv' := [(6, .int r_9), (5, .ref (ad 11 i5)), (4, .int (nI i5)), (3, .int x5_3), (0, .ref (g 0)), (1, .int v0), (2, .int v1)]) hx hb dX11_firstWrong_59 hl (ltb rfl) rfl (fun ls hl => ?_)
            refine lv_iload hx hb dX11_firstWrong_61 (lvA0 hl) ?_
            refine lv_iconst (v := (-1)) hx hb dX11_firstWrong_63 kic_m1 ?_
            refine lv_icmp_eq (tgt := 72) hx hb dX11_firstWrong_64 rfl (fun c_11 => ?_) (fun c_11 => ?_)
            ·
              have tc_11 : (r_9.toInt : Int) = (-1) := congrArg Int32.toInt c_11
              refine lv_iinc (v := (x5_3 + 4)) (lv' := [(3, .int (x5_3 + 4)), (6, .int r_9), (5, .ref (ad 11 i5)), (4, .int (nI i5)), (0, .ref (g 0)), (1, .int v0), (2, .int v1)]) hx hb dX11_firstWrong_72 hl (k := 3) rfl rfl (ltb rfl) rfl (fun ls hl => ?_)
              refine lv_iinc (v := (nI (i5 + 1))) (lv' := [(4, .int (nI (i5 + 1))), (3, .int (x5_3 + 4)), (6, .int r_9), (5, .ref (ad 11 i5)), (0, .ref (g 0)), (1, .int v0), (2, .int v1)]) hx hb dX11_firstWrong_75 hl (k := 3) rfl (nI_1 _) (ltb rfl) rfl (fun ls hl => ?_)
              refine lv_goto (tgt := 5) hx hb dX11_firstWrong_78 rfl ?_
              exact ih5 (i5 + 1) (x5_3 + 4) (by (first | omega | (have zz0 := Hid.u hb_cn; omega))) (by (first | omega | (have zz0 := Hid.u hb_cn; omega))) ls (lv_sub hl [0, 1, 4, 5, 6] rfl)
            ·
              have tc_11 : (r_9.toInt : Int) ≠ (-1) := fun q => c_11 (Int32.toInt_inj.mp q)
              refine lv_iload_n hx hb dX11_firstWrong_67 rfl (lvA3 hl) ?_
              refine lv_iload hx hb dX11_firstWrong_68 (lvA0 hl) ?_
              refine lv_iadd hx hb dX11_firstWrong_70 ?_
              exact W.iret (v := (x5_3 + r_9)) hx hb hr (fun t ht hW => ⟨(x5_3 + r_9), rfl, trivial, ht⟩) (fun _ h => absurd h List.not_mem_nil) dX11_firstWrong_71
          ·
            have tc_8 : (v1.toInt : Int) ≤ x5_3.toInt := Int32.le_iff_toInt_le.mp (Int32.not_lt.mp c_8)
            refine lv_iload_n hx hb dX11_firstWrong_48 rfl (lvA5 hl) ?_
            exact W.iret (v := v1) hx hb hr (fun t ht hW => ⟨v1, rfl, trivial, ht⟩) (fun _ h => absurd h List.not_mem_nil) dX11_firstWrong_49
        ·
          have tc_7 : (((Fn 120) i5).toInt : Int) ≠ v0.toInt := fun q => c_7 (Int32.toInt_inj.mp q)
          refine lv_goto (tgt := 75) hx hb dX11_firstWrong_40 rfl ?_
          refine lv_iinc (v := (nI (i5 + 1))) (lv' := [(4, .int (nI (i5 + 1))), (5, .ref (ad 11 i5)), (3, .int x5_3), (0, .ref (g 0)), (1, .int v0), (2, .int v1)]) hx hb dX11_firstWrong_75 hl (k := 1) rfl (nI_1 _) (ltb rfl) rfl (fun ls hl => ?_)
          refine lv_goto (tgt := 5) hx hb dX11_firstWrong_78 rfl ?_
          exact ih5 (i5 + 1) x5_3 (by (first | omega | (have zz0 := Hid.u hb_cn; omega))) (by (first | omega | (have zz0 := Hid.u hb_cn; omega))) ls (lv_sub hl [0, 2, 3, 4, 5] rfl)
  exact lp_5 _ 0 0 (Nat.lt_succ_self _) (by (first | omega | (have zz0 := Hid.u hb_cn; omega))) ls (lv_sub hl [0, 1, 2, 3, 4] rfl)
set_option maxRecDepth 100000 in
set_option maxHeartbeats 4000000 in
theorem q_Xcheck (l : Launch) (D : va_G) (cI cB cZ : ClassId) (zz qq vv : Nat) (bt : Nat → Int32) (g : Nat → Nat) (ad : Nat → Nat → Nat) (cn : Nat → Nat) (In : Nat → Int32) (Fn : Nat → Nat → Int32) (v0 v1 : Int32) (sz : Nat) (hB : CBX cn) : Met l yX11_check (CWS yX11_check cX11_check 4 (some .int)) (RM 5 0 0) (PBx [.ref (g 0), .int v0, .int v1] D cI cB cZ zz qq vv bt (wX cI (D.1 99) zz g ad cn In Fn) sz) (va_Qi (fun (r : Int32) (u : (Nat → Nat) × (Nat → Int32) × (Nat → Nat → Int32)) => (fun r c2 I2 F2 => Fr [3] [] [] cn In Fn c2 I2 F2 ∧ CBX c2 ∧ (True)) r u.1 u.2.1 u.2.2) (fun (u : (Nat → Nat) × (Nat → Int32) × (Nat → Nat → Int32)) (t : State) => va_P D vwCl (wX cI (D.1 99) zz g ad u.1 u.2.1 u.2.2) t.heap ∧ va_D (va_A (wX cI (D.1 99) zz g ad cn In Fn) sz) (wX cI (D.1 99) zz g ad u.1 u.2.1 u.2.2)) (va_A (wX cI (D.1 99) zz g ad cn In Fn) sz)) 0 0 (va_A (wX cI (D.1 99) zz g ad cn In Fn) sz) := by
  refine en_x (fun A => (va_Qi (fun (r : Int32) (u : (Nat → Nat) × (Nat → Int32) × (Nat → Nat → Int32)) => (fun (r : Int32) (c2 : Nat → Nat) (I2 : Nat → Int32) (F2 : Nat → Nat → Int32) => Fr [3] [] [] cn In Fn c2 I2 F2 ∧ CBX c2 ∧ (True)) r u.1 u.2.1 u.2.2) (fun (u : (Nat → Nat) × (Nat → Int32) × (Nat → Nat → Int32)) (t : State) => va_P D vwCl (wX cI (D.1 99) zz g ad u.1 u.2.1 u.2.2) t.heap ∧ va_D A (wX cI (D.1 99) zz g ad u.1 u.2.1 u.2.2)) A)) rfl rfl pn_RX11 (Nat.le_of_ble_eq_true rfl) (fun p e s m below meth c A hx hb hml hown S hr hlocks hnm hA hP hK hD hXS hS ls hl => ?_)
  have hl : lv_has ls 4 [(0, .ref (g 0)), (1, .int v0), (2, .int v1)] := hl
  have hb_cn : Hid (CBX cn) := hB
  replace hB : CBXh cn := hB
  refine lv_aload_n hx hb dX11_check_0 rfl (lvA0 hl) ?_
  refine lv_iload_n hx hb dX11_check_1 rfl (lvA1 hl) ?_
  refine va_csq (runV_rxa (As := [.int v0]) (rest := []) S (q_XkitchenAt l D cI cB cZ zz qq vv bt g ad cn In Fn v0 hB) kV_RX11_114 hK hXS hS hP 0 xo_0 rfl rfl ⟨Nat.le_of_ble_eq_true rfl, Nat.le_of_ble_eq_true rfl⟩ ⟨Nat.le_of_ble_eq_true rfl, Nat.le_of_ble_eq_true rfl⟩ rfl hl.1 rfl (Nat.le_of_ble_eq_true rfl) dX11_check_2) (fun r_1 h_2 => ?_)
  rcases h_2 with ⟨mr_1, er_1, hr_1, rfl⟩ | ⟨hr_1, rfl⟩
  ·
    refine lv_ifnull hx hb dX11_check_5 ?_
    refine lv_iload_n hx hb dX11_check_8 rfl (lvA2 hl) ?_
    refine lv_if_lt (tgt := 26) hx hb dX11_check_9 rfl (fun c_3 => ?_) (fun c_3 => ?_)
    ·
      have tc_3 : (v1.toInt : Int) < 0 := Int32.lt_iff_toInt_lt.mp c_3
      refine lv_bipush (v := (-2)) hx hb dX11_check_26 kbc_m2 ?_
      exact W.iret (v := (-2)) hx hb hr (fun t ht hW => ⟨⟨(-2), (cn, In, Fn), rfl, ⟨(Fr.mo Fr.rf (sbl rfl) (sbl rfl) (sbl rfl)), hB, trivial⟩, by rw [ht]; exact hP, hD⟩, hS.F ht⟩) hS.2.2 dX11_check_28
    ·
      have tc_3 : (0 : Int) ≤ v1.toInt := Int32.le_iff_toInt_le.mp (Int32.not_lt.mp c_3)
      refine lv_iload_n hx hb dX11_check_12 rfl (lvA2 hl) ?_
      refine lv_aload_n hx hb dX11_check_13 rfl (lvA0 hl) ?_
      refine gf_RX11_21 S hK hP 0 xo_0 (v := .ref (g 5)) rfl dX11_check_14 ?_
      refine vp_callSi (runV_rxa (As := []) (rest := [.int v1]) S (q_Xlength l D cI cB cZ zz qq vv bt g ad cn In Fn  hB) kV_RX11_152 hK hXS hS hP 1 xo_1 rfl rfl ⟨Nat.le_of_ble_eq_true rfl, Nat.le_of_ble_eq_true rfl⟩ ⟨Nat.le_of_ble_eq_true rfl, Nat.le_of_ble_eq_true rfl⟩ rfl hl.1 rfl (Nat.le_of_ble_eq_true rfl) dX11_check_17) (fun r_4 h_5 => ?_)
      subst h_5
      refine lv_bipush (v := 16) hx hb dX11_check_20 kbc_16 ?_
      refine lv_idiv hx hb dX11_check_22 (by decide) ?_
      refine lv_topi (fun y_6 ey_6 => ?_)
      obtain rfl : y_6 = (nI (((cn 3)) / 16)) := ey_6.trans (nI_div (by (first | omega | (have zz0 := Hid.u hb_cn; omega))) (by decide))
      have : (nI (((cn 3)) / 16)).toInt = (((((cn 3)) / 16) : Nat) : Int) := nI_toInt (by (first | omega | (have zz0 := Hid.u hb_cn; omega)))
      refine lv_icmp_le (tgt := 29) hx hb dX11_check_23 rfl (fun c_7 => ?_) (fun c_7 => ?_)
      ·
        have tc_7 : (v1.toInt : Int) ≤ (nI (((cn 3)) / 16)).toInt := Int32.le_iff_toInt_le.mp c_7
        refine lv_aload_n hx hb dX11_check_29 rfl (lvA0 hl) ?_
        refine lv_iload_n hx hb dX11_check_30 rfl (lvA1 hl) ?_
        refine lv_iconst (v := 4) hx hb dX11_check_31 kic_4 ?_
        refine lv_iload_n hx hb dX11_check_32 rfl (lvA2 hl) ?_
        refine lv_imul hx hb dX11_check_33 ?_
        refine vp_callSi (runV_rxa (As := [.int v0, .int (4 * v1)]) (rest := []) S (q_XfirstWrong l D cI cB cZ zz qq vv bt g ad cn In Fn v0 (4 * v1) hB) kV_RX11_523 hK hXS hS hP 0 xo_0 rfl rfl ⟨Nat.le_of_ble_eq_true rfl, Nat.le_of_ble_eq_true rfl⟩ ⟨Nat.le_of_ble_eq_true rfl, Nat.le_of_ble_eq_true rfl⟩ rfl hl.1 rfl (Nat.le_of_ble_eq_true rfl) dX11_check_34) (fun r_8 h_9 => ?_)
        refine lv_istore_n (lv' := [(3, .int r_8), (0, .ref (g 0)), (1, .int v0), (2, .int v1)]) hx hb dX11_check_37 rfl hl (ltb rfl) rfl (fun ls hl => ?_)
        refine lv_aload_n hx hb dX11_check_38 rfl (lvA1 hl) ?_
        refine gf_RX11_21 S hK hP 0 xo_0 (v := .ref (g 5)) rfl dX11_check_39 ?_
        have hFc := free_all hD hS hA
        refine va_callv (runV_xa (As := []) (rest := []) S (q_Xclear l D cI cB cZ zz qq vv bt g ad cn In Fn  s.heap.size hB) kV_RX11_162 hK hXS hS hFc hP hD 1 xo_1 rfl rfl ⟨Nat.le_of_ble_eq_true rfl, Nat.le_of_ble_eq_true rfl⟩ ⟨Nat.le_of_ble_eq_true rfl, Nat.le_of_ble_eq_true rfl⟩ rfl hl.1 rfl (Nat.le_of_ble_eq_true rfl) dX11_check_42) hS (fun q _ h => hFc q h) hFc (fun u t H1 locs ht hvm wh_11 hB1 hz1 hk1 hS => ?_)
        obtain ⟨cn11, In11, Fn11⟩ := u
        obtain ⟨hP1, hD1⟩ := hB1
        rw [ht] at hP1
        have hP : va_P D vwCl (wX cI (D.1 99) zz g ad cn11 In11 Fn11) H1 := hP1
        have hD : va_D A (wX cI (D.1 99) zz g ad cn11 In11 Fn11) := hD1.weaken (fun _ _ _ h => hFc _ h)
        generalize H1 = H at hP hS ⊢
        have vh_11 : (fun c2 I2 F2 => Fr [3] [] [] cn In Fn c2 I2 F2 ∧ CBX c2 ∧ (c2 3 = 0)) cn11 In11 Fn11 := wh_11
        obtain ⟨hfc11, hIn11, h_11⟩ := vh_11
        obtain rfl : In = In11 := (funext (fun k => hfc11.2.1 k List.not_mem_nil)).symm
        obtain rfl : Fn = Fn11 := (funext (fun k => hfc11.2.2 k List.not_mem_nil)).symm
        have hf11 : Fr [3] [] [] cn In Fn cn11 In Fn := Fr.mo (Fr.tr (Fr.rf (cn := cn) (In := In) (Fn := Fn)) hfc11) (sbl rfl) (sbl rfl) (sbl rfl)
        have hb_cn11 : Hid (CBX cn11) := hIn11
        replace hIn11 : CBXh cn11 := hIn11
        have : cn11 6 = (cn 6) := hfc11.1 6 (nml rfl)
        have : cn11 31 = (cn 31) := hfc11.1 31 (nml rfl)
        have : cn11 32 = (cn 32) := hfc11.1 32 (nml rfl)
        have hq_cn11 : Hid (cn11 0 = (cn 0) ∧ cn11 1 = (cn 1) ∧ cn11 2 = (cn 2) ∧ cn11 4 = (cn 4) ∧ cn11 5 = (cn 5) ∧ cn11 10 = (cn 10) ∧ cn11 11 = (cn 11) ∧ cn11 12 = (cn 12) ∧ cn11 13 = (cn 13) ∧ cn11 14 = (cn 14) ∧ cn11 15 = (cn 15) ∧ cn11 20 = (cn 20) ∧ cn11 21 = (cn 21) ∧ cn11 22 = (cn 22) ∧ cn11 23 = (cn 23) ∧ cn11 24 = (cn 24) ∧ cn11 25 = (cn 25)) := Hid.i (p := cn11 0 = (cn 0) ∧ cn11 1 = (cn 1) ∧ cn11 2 = (cn 2) ∧ cn11 4 = (cn 4) ∧ cn11 5 = (cn 5) ∧ cn11 10 = (cn 10) ∧ cn11 11 = (cn 11) ∧ cn11 12 = (cn 12) ∧ cn11 13 = (cn 13) ∧ cn11 14 = (cn 14) ∧ cn11 15 = (cn 15) ∧ cn11 20 = (cn 20) ∧ cn11 21 = (cn 21) ∧ cn11 22 = (cn 22) ∧ cn11 23 = (cn 23) ∧ cn11 24 = (cn 24) ∧ cn11 25 = (cn 25)) ⟨hfc11.1 0 (nml rfl), hfc11.1 1 (nml rfl), hfc11.1 2 (nml rfl), hfc11.1 4 (nml rfl), hfc11.1 5 (nml rfl), hfc11.1 10 (nml rfl), hfc11.1 11 (nml rfl), hfc11.1 12 (nml rfl), hfc11.1 13 (nml rfl), hfc11.1 14 (nml rfl), hfc11.1 15 (nml rfl), hfc11.1 20 (nml rfl), hfc11.1 21 (nml rfl), hfc11.1 22 (nml rfl), hfc11.1 23 (nml rfl), hfc11.1 24 (nml rfl), hfc11.1 25 (nml rfl)⟩
        refine lv_iload_n hx hb dX11_check_45 rfl (lvA0 hl) ?_
        exact W.iret (v := r_8) hx hb hr (fun t ht hW => ⟨⟨r_8, (cn11, In, Fn), rfl, ⟨(Fr.mo hf11 (sbl rfl) (sbl rfl) (sbl rfl)), hIn11, trivial⟩, by rw [ht]; exact hP, hD⟩, hS.F ht⟩) hS.2.2 dX11_check_46
      ·
        have tc_7 : ((nI (((cn 3)) / 16)).toInt : Int) < v1.toInt := Int32.lt_iff_toInt_lt.mp (Int32.not_le.mp c_7)
        refine lv_bipush (v := (-2)) hx hb dX11_check_26 kbc_m2 ?_
        exact W.iret (v := (-2)) hx hb hr (fun t ht hW => ⟨⟨(-2), (cn, In, Fn), rfl, ⟨(Fr.mo Fr.rf (sbl rfl) (sbl rfl) (sbl rfl)), hB, trivial⟩, by rw [ht]; exact hP, hD⟩, hS.F ht⟩) hS.2.2 dX11_check_28
  ·
    refine lv_ifnullN (tgt := 26) hx hb dX11_check_5 rfl ?_
    refine lv_bipush (v := (-2)) hx hb dX11_check_26 kbc_m2 ?_
    exact W.iret (v := (-2)) hx hb hr (fun t ht hW => ⟨⟨(-2), (cn, In, Fn), rfl, ⟨(Fr.mo Fr.rf (sbl rfl) (sbl rfl) (sbl rfl)), hB, trivial⟩, by rw [ht]; exact hP, hD⟩, hS.F ht⟩) hS.2.2 dX11_check_28
set_option maxRecDepth 100000 in
set_option maxHeartbeats 4000000 in
theorem q_XbatchIs (l : Launch) (D : va_G) (cI cB cZ : ClassId) (zz qq vv : Nat) (bt : Nat → Int32) (g : Nat → Nat) (ad : Nat → Nat → Nat) (cn : Nat → Nat) (In : Nat → Int32) (Fn : Nat → Nat → Int32) (v0 v1 : Int32) (hB : CBX cn) : Met l yX11_batchIs (CWS yX11_batchIs cX11_batchIs 4 (some .int)) (RM 5 0 0) (PBrx [.ref (g 0), .int v0, .int v1] D cI cB cZ zz qq vv bt (wX cI (D.1 99) zz g ad cn In Fn)) (vp_Si (fun _ => True)) 0 0 (fun _ => False) := by
  refine en_rx rfl pn_RX11 (Nat.le_of_ble_eq_true rfl) (fun p e s m below meth c hx hb hml hown S hr hlocks hnm hP hK hXS hS ls hl => ?_)
  have hl : lv_has ls 4 [(0, .ref (g 0)), (1, .int v0), (2, .int v1)] := hl
  have hb_cn : Hid (CBX cn) := hB
  replace hB : CBXh cn := hB
  refine lv_aload_n hx hb dX11_batchIs_0 rfl (lvA0 hl) ?_
  refine lv_iload_n hx hb dX11_batchIs_1 rfl (lvA1 hl) ?_
  refine va_csq (runV_rxa (As := [.int v0]) (rest := []) S (q_XbatchAt l D cI cB cZ zz qq vv bt g ad cn In Fn v0 hB) kV_RX11_382 hK hXS hS hP 0 xo_0 rfl rfl ⟨Nat.le_of_ble_eq_true rfl, Nat.le_of_ble_eq_true rfl⟩ ⟨Nat.le_of_ble_eq_true rfl, Nat.le_of_ble_eq_true rfl⟩ rfl hl.1 rfl (Nat.le_of_ble_eq_true rfl) dX11_batchIs_2) (fun r_1 h_2 => ?_)
  rcases h_2 with ⟨mr_1, er_1, hr_1, rfl⟩ | ⟨hr_1, rfl⟩
  ·
    refine lv_astore_n (lv' := [(3, .ref (ad 12 mr_1)), (0, .ref (g 0)), (1, .int v0), (2, .int v1)]) hx hb dX11_batchIs_5 rfl hl (ltb rfl) rfl (fun ls hl => ?_)
    refine lv_aload_n hx hb dX11_batchIs_6 rfl (lvA0 hl) ?_
    refine lv_ifnonnull (tgt := 12) hx hb dX11_batchIs_7 rfl ?_
    refine lv_iload_n hx hb dX11_batchIs_12 rfl (lvA3 hl) ?_
    rcases (by (first | omega | (have zz0 := Hid.u hb_cn; omega)) : v1.toInt < 0 ∨ 4 < v1.toInt ∨ v1.toInt = 0 ∨ v1.toInt = 1 ∨ v1.toInt = 2 ∨ v1.toInt = 3 ∨ v1.toInt = 4) with c_3 | c_3 | c_3 | c_3 | c_3 | c_3 | c_3
    ·
      refine lv_tableOut (tgt := 80) hx hb dX11_batchIs_13 (Or.inl c_3) (by decide) ?_
      refine lv_iconst (v := (-1)) hx hb dX11_batchIs_80 kic_m1 ?_
      exact W.iret (v := (-1)) hx hb hr (fun t ht hW => ⟨(-1), rfl, trivial, ht⟩) (fun _ h => absurd h List.not_mem_nil) dX11_batchIs_81
    ·
      refine lv_tableOut (tgt := 80) hx hb dX11_batchIs_13 (Or.inr c_3) (by decide) ?_
      refine lv_iconst (v := (-1)) hx hb dX11_batchIs_80 kic_m1 ?_
      exact W.iret (v := (-1)) hx hb hr (fun t ht hW => ⟨(-1), rfl, trivial, ht⟩) (fun _ h => absurd h List.not_mem_nil) dX11_batchIs_81
    ·
      refine lv_tableIn (tgt := 48) (off := 35) hx hb dX11_batchIs_13 (by (first | omega | (have zz0 := Hid.u hb_cn; omega))) (by (first | omega | (have zz0 := Hid.u hb_cn; omega))) (by rw [c_3]; rfl) (by decide) ?_
      refine lv_aload_n hx hb dX11_batchIs_48 rfl (lvA0 hl) ?_
      have kf_1 : mr_1 < cn 12 := by (first | omega | (have zz0 := Hid.u hb_cn; omega))
      refine gf_RX11_342 S hK hP _ (xf_2 kf_1) (v := .int ((Fn 146) mr_1)) rfl dX11_batchIs_49 ?_
      exact W.iret (v := ((Fn 146) mr_1)) hx hb hr (fun t ht hW => ⟨((Fn 146) mr_1), rfl, trivial, ht⟩) (fun _ h => absurd h List.not_mem_nil) dX11_batchIs_52
    ·
      refine lv_tableIn (tgt := 53) (off := 40) hx hb dX11_batchIs_13 (by (first | omega | (have zz0 := Hid.u hb_cn; omega))) (by (first | omega | (have zz0 := Hid.u hb_cn; omega))) (by rw [c_3]; rfl) (by decide) ?_
      refine lv_aload_n hx hb dX11_batchIs_53 rfl (lvA0 hl) ?_
      have kf_2 : mr_1 < cn 12 := by (first | omega | (have zz0 := Hid.u hb_cn; omega))
      refine vp_callSi (runV_rxa (As := []) (rest := []) S (q_Xwater l D cI cB cZ zz qq vv bt g ad cn In Fn mr_1 hB (by (first | omega | (have zz0 := Hid.u hb_cn; omega)))) kV_RX11_343 hK hXS hS hP _ (xf_2 kf_2) rfl rfl ⟨Nat.le_of_ble_eq_true rfl, Nat.le_of_ble_eq_true rfl⟩ ⟨Nat.le_of_ble_eq_true rfl, Nat.le_of_ble_eq_true rfl⟩ rfl hl.1 rfl (Nat.le_of_ble_eq_true rfl) dX11_batchIs_54) (fun r_4 h_5 => ?_)
      exact W.iret (v := r_4) hx hb hr (fun t ht hW => ⟨r_4, rfl, trivial, ht⟩) (fun _ h => absurd h List.not_mem_nil) dX11_batchIs_57
    ·
      refine lv_tableIn (tgt := 58) (off := 45) hx hb dX11_batchIs_13 (by (first | omega | (have zz0 := Hid.u hb_cn; omega))) (by (first | omega | (have zz0 := Hid.u hb_cn; omega))) (by rw [c_3]; rfl) (by decide) ?_
      refine lv_aload_n hx hb dX11_batchIs_58 rfl (lvA0 hl) ?_
      have kf_3 : mr_1 < cn 12 := by (first | omega | (have zz0 := Hid.u hb_cn; omega))
      refine vp_callSi (runV_rxa (As := []) (rest := []) S (q_Xacid l D cI cB cZ zz qq vv bt g ad cn In Fn mr_1 hB (by (first | omega | (have zz0 := Hid.u hb_cn; omega)))) kV_RX11_345 hK hXS hS hP _ (xf_2 kf_3) rfl rfl ⟨Nat.le_of_ble_eq_true rfl, Nat.le_of_ble_eq_true rfl⟩ ⟨Nat.le_of_ble_eq_true rfl, Nat.le_of_ble_eq_true rfl⟩ rfl hl.1 rfl (Nat.le_of_ble_eq_true rfl) dX11_batchIs_59) (fun r_6 h_7 => ?_)
      exact W.iret (v := r_6) hx hb hr (fun t ht hW => ⟨r_6, rfl, trivial, ht⟩) (fun _ h => absurd h List.not_mem_nil) dX11_batchIs_62
    ·
      refine lv_tableIn (tgt := 63) (off := 50) hx hb dX11_batchIs_13 (by (first | omega | (have zz0 := Hid.u hb_cn; omega))) (by (first | omega | (have zz0 := Hid.u hb_cn; omega))) (by rw [c_3]; rfl) (by decide) ?_
      refine lv_aload_n hx hb dX11_batchIs_63 rfl (lvA0 hl) ?_
      have kf_4 : mr_1 < cn 12 := by (first | omega | (have zz0 := Hid.u hb_cn; omega))
      refine gf_RX11_342 S hK hP _ (xf_2 kf_4) (v := .int ((Fn 146) mr_1)) rfl dX11_batchIs_64 ?_
      refine lv_aload_n hx hb dX11_batchIs_67 rfl (lvA1 hl) ?_
      refine lv_iload_n hx hb dX11_batchIs_68 rfl (lvA2 hl) ?_
      refine lv_iconst (v := (-1)) hx hb dX11_batchIs_69 kic_m1 ?_
      refine vp_callSi (runV_rxa (As := [.int v0, .int (-1)]) (rest := [.int ((Fn 146) mr_1)]) S (q_XprovenLitres l D cI cB cZ zz qq vv bt g ad cn In Fn v0 (-1) hB) kV_RX11_385 hK hXS hS hP 0 xo_0 rfl rfl ⟨Nat.le_of_ble_eq_true rfl, Nat.le_of_ble_eq_true rfl⟩ ⟨Nat.le_of_ble_eq_true rfl, Nat.le_of_ble_eq_true rfl⟩ rfl hl.1 rfl (Nat.le_of_ble_eq_true rfl) dX11_batchIs_70) (fun r_8 h_9 => ?_)
      refine lv_isub hx hb dX11_batchIs_73 ?_
      exact W.iret (v := (((Fn 146) mr_1) - r_8)) hx hb hr (fun t ht hW => ⟨(((Fn 146) mr_1) - r_8), rfl, trivial, ht⟩) (fun _ h => absurd h List.not_mem_nil) dX11_batchIs_74
    ·
      refine lv_tableIn (tgt := 75) (off := 62) hx hb dX11_batchIs_13 (by (first | omega | (have zz0 := Hid.u hb_cn; omega))) (by (first | omega | (have zz0 := Hid.u hb_cn; omega))) (by rw [c_3]; rfl) (by decide) ?_
      refine lv_aload_n hx hb dX11_batchIs_75 rfl (lvA0 hl) ?_
      have kf_5 : mr_1 < cn 12 := by (first | omega | (have zz0 := Hid.u hb_cn; omega))
      refine gf_RX11_388 S hK hP _ (xf_2 kf_5) (v := .int ((Fn 144) mr_1)) rfl dX11_batchIs_76 ?_
      exact W.iret (v := ((Fn 144) mr_1)) hx hb hr (fun t ht hW => ⟨((Fn 144) mr_1), rfl, trivial, ht⟩) (fun _ h => absurd h List.not_mem_nil) dX11_batchIs_79
  ·
    refine lv_astore_nN (lv' := [(3, .null), (0, .ref (g 0)), (1, .int v0), (2, .int v1)]) hx hb dX11_batchIs_5 rfl hl (ltb rfl) rfl (fun ls hl => ?_)
    refine lv_aload_nN hx hb dX11_batchIs_6 rfl (lvA0 hl) ?_
    refine lv_ifnonnullN hx hb dX11_batchIs_7 ?_
    refine lv_iconst (v := (-1)) hx hb dX11_batchIs_10 kic_m1 ?_
    exact W.iret (v := (-1)) hx hb hr (fun t ht hW => ⟨(-1), rfl, trivial, ht⟩) (fun _ h => absurd h List.not_mem_nil) dX11_batchIs_11
set_option maxRecDepth 100000 in
set_option maxHeartbeats 4000000 in
theorem q_XcanNull (l : Launch) (D : va_G) (cI cB cZ : ClassId) (zz qq vv : Nat) (bt : Nat → Int32) (g : Nat → Nat) (ad : Nat → Nat → Nat) (cn : Nat → Nat) (In : Nat → Int32) (Fn : Nat → Nat → Int32)  (hB : CBX cn) : Met l yX11_canBeBatched (CWS yX11_canBeBatched cX11_canBeBatched 2 (some .boolean)) (RM 0 0 0) (PBrx [.ref (g 0), .null] D cI cB cZ zz qq vv bt (wX cI (D.1 99) zz g ad cn In Fn)) (vp_Si (fun r => r = 0)) 0 0 (fun _ => False) := by
  refine en_rx rfl pn_RX11 (Nat.le_of_ble_eq_true rfl) (fun p e s m below meth c hx hb hml hown S hr hlocks hnm hP hK hXS hS ls hl => ?_)
  have hl : lv_has ls 2 [(0, .ref (g 0)), (1, .null)] := hl
  have hb_cn : Hid (CBX cn) := hB
  replace hB : CBXh cn := hB
  refine lv_aload_nN hx hb dX11_canBeBatched_0 rfl (lvA1 hl) ?_
  refine lv_ifnullN (tgt := 26) hx hb dX11_canBeBatched_1 rfl ?_
  refine lv_iconst (v := 0) hx hb dX11_canBeBatched_26 kic_0 ?_
  exact W.zret (v := 0) hx hb hr rfl (fun t ht hW => ⟨0, rfl, rfl, ht⟩) (fun _ h => absurd h List.not_mem_nil) dX11_canBeBatched_27
set_option maxRecDepth 100000 in
set_option maxHeartbeats 4000000 in
theorem q_XcanLoad (l : Launch) (D : va_G) (cI cB cZ : ClassId) (zz qq vv : Nat) (bt : Nat → Int32) (g : Nat → Nat) (ad : Nat → Nat → Nat) (cn : Nat → Nat) (In : Nat → Int32) (Fn : Nat → Nat → Int32) (k0 : Nat) (hB : CBX cn) (hk : k0 < cn 11) : Met l yX11_canBeBatched (CWS yX11_canBeBatched cX11_canBeBatched 2 (some .boolean)) (RM 0 0 0) (PBrx [.ref (g 0), .ref (ad 11 k0)] D cI cB cZ zz qq vv bt (wX cI (D.1 99) zz g ad cn In Fn)) (vp_Si (fun r => r = 0 ∨ r = 1)) 0 0 (fun _ => False) := by
  refine en_rx rfl pn_RX11 (Nat.le_of_ble_eq_true rfl) (fun p e s m below meth c hx hb hml hown S hr hlocks hnm hP hK hXS hS ls hl => ?_)
  have hl : lv_has ls 2 [(0, .ref (g 0)), (1, .ref (ad 11 k0))] := hl
  have hb_cn : Hid (CBX cn) := hB
  replace hB : CBXh cn := hB
  refine lv_aload_n hx hb dX11_canBeBatched_0 rfl (lvA1 hl) ?_
  refine lv_ifnull hx hb dX11_canBeBatched_1 ?_
  refine lv_aload_n hx hb dX11_canBeBatched_4 rfl (lvA1 hl) ?_
  refine gf_RX11_349 S hK hP _ (xf_1 hk) (v := .int ((Fn 129) k0)) rfl dX11_canBeBatched_5 ?_
  refine lv_if_ne (tgt := 26) hx hb dX11_canBeBatched_8 rfl (fun c_1 => ?_) (fun c_1 => ?_)
  ·
    have tc_1 : (((Fn 129) k0).toInt : Int) ≠ 0 := fun q => c_1 (Int32.toInt_inj.mp q)
    refine lv_iconst (v := 0) hx hb dX11_canBeBatched_26 kic_0 ?_
    exact W.zret (v := 0) hx hb hr rfl (fun t ht hW => ⟨0, rfl, (Or.inl rfl), ht⟩) (fun _ h => absurd h List.not_mem_nil) dX11_canBeBatched_27
  ·
    have tc_1 : (((Fn 129) k0).toInt : Int) = 0 := congrArg Int32.toInt c_1
    refine lv_aload_n hx hb dX11_canBeBatched_11 rfl (lvA1 hl) ?_
    refine gf_RX11_235 S hK hP _ (xf_1 hk) (v := .int ((Fn 125) k0)) rfl dX11_canBeBatched_12 ?_
    refine lv_aload_n hx hb dX11_canBeBatched_15 rfl (lvA0 hl) ?_
    refine gf_RX11_103 S hK hP 0 xo_0 (v := .int (nI (cn 0))) rfl dX11_canBeBatched_16 ?_
    have : (nI (cn 0)).toInt = (((cn 0) : Nat) : Int) := nI_toInt (by (first | omega | (have zz0 := Hid.u hb_cn; omega)))
    refine lv_icmp_gt (tgt := 26) hx hb dX11_canBeBatched_19 rfl (fun c_2 => ?_) (fun c_2 => ?_)
    ·
      have tc_2 : ((nI (cn 0)).toInt : Int) < ((Fn 125) k0).toInt := Int32.lt_iff_toInt_lt.mp c_2
      refine lv_iconst (v := 0) hx hb dX11_canBeBatched_26 kic_0 ?_
      exact W.zret (v := 0) hx hb hr rfl (fun t ht hW => ⟨0, rfl, (Or.inl rfl), ht⟩) (fun _ h => absurd h List.not_mem_nil) dX11_canBeBatched_27
    ·
      have tc_2 : (((Fn 125) k0).toInt : Int) ≤ (nI (cn 0)).toInt := Int32.le_iff_toInt_le.mp (Int32.not_lt.mp c_2)
      refine lv_iconst (v := 1) hx hb dX11_canBeBatched_22 kic_1 ?_
      refine lv_goto (tgt := 27) hx hb dX11_canBeBatched_23 rfl ?_
      exact W.zret (v := 1) hx hb hr rfl (fun t ht hW => ⟨1, rfl, (Or.inr rfl), ht⟩) (fun _ h => absurd h List.not_mem_nil) dX11_canBeBatched_27
set_option maxRecDepth 100000 in
set_option maxHeartbeats 4000000 in
theorem q_XcofNull (l : Launch) (D : va_G) (cI cB cZ : ClassId) (zz qq vv : Nat) (bt : Nat → Int32) (g : Nat → Nat) (ad : Nat → Nat → Nat) (cn : Nat → Nat) (In : Nat → Int32) (Fn : Nat → Nat → Int32) (v0 : Int32) (hB : CBX cn) : Met l yX11_countOfKitchen (CWS yX11_countOfKitchen cX11_countOfKitchen 3 (some .int)) (RM 0 0 0) (PBrx [.ref (g 0), .null, .int v0] D cI cB cZ zz qq vv bt (wX cI (D.1 99) zz g ad cn In Fn)) (vp_Si (fun _ => True)) 0 0 (fun _ => False) := by
  refine en_rx rfl pn_RX11 (Nat.le_of_ble_eq_true rfl) (fun p e s m below meth c hx hb hml hown S hr hlocks hnm hP hK hXS hS ls hl => ?_)
  have hl : lv_has ls 3 [(0, .ref (g 0)), (1, .null), (2, .int v0)] := hl
  have hb_cn : Hid (CBX cn) := hB
  replace hB : CBXh cn := hB
  refine lv_aload_nN hx hb dX11_countOfKitchen_0 rfl (lvA1 hl) ?_
  refine lv_ifnonnullN hx hb dX11_countOfKitchen_1 ?_
  refine lv_iconst (v := (-1)) hx hb dX11_countOfKitchen_4 kic_m1 ?_
  exact W.iret (v := (-1)) hx hb hr (fun t ht hW => ⟨(-1), rfl, trivial, ht⟩) (fun _ h => absurd h List.not_mem_nil) dX11_countOfKitchen_5
set_option maxRecDepth 100000 in
set_option maxHeartbeats 4000000 in
theorem q_XcofKitchen (l : Launch) (D : va_G) (cI cB cZ : ClassId) (zz qq vv : Nat) (bt : Nat → Int32) (g : Nat → Nat) (ad : Nat → Nat → Nat) (cn : Nat → Nat) (In : Nat → Int32) (Fn : Nat → Nat → Int32) (k0 : Nat) (v0 : Int32) (hB : CBX cn) (hk : k0 < cn 10) (hT : (∀ k : Nat, k < cn 10 → ad 3 k < cn 6) ∧ ad 4 0 < cn 6 ∧ ad 4 1 < cn 6) : Met l yX11_countOfKitchen (CWS yX11_countOfKitchen cX11_countOfKitchen 3 (some .int)) (RM 0 0 0) (PBrx [.ref (g 0), .ref (ad 10 k0), .int v0] D cI cB cZ zz qq vv bt (wX cI (D.1 99) zz g ad cn In Fn)) (vp_Si (fun _ => True)) 0 0 (fun _ => False) := by
  refine en_rx rfl pn_RX11 (Nat.le_of_ble_eq_true rfl) (fun p e s m below meth c hx hb hml hown S hr hlocks hnm hP hK hXS hS ls hl => ?_)
  have hl : lv_has ls 3 [(0, .ref (g 0)), (1, .ref (ad 10 k0)), (2, .int v0)] := hl
  have hb_cn : Hid (CBX cn) := hB
  replace hB : CBXh cn := hB
  refine lv_aload_n hx hb dX11_countOfKitchen_0 rfl (lvA1 hl) ?_
  refine lv_ifnonnull (tgt := 6) hx hb dX11_countOfKitchen_1 rfl ?_
  refine lv_iload_n hx hb dX11_countOfKitchen_6 rfl (lvA2 hl) ?_
  refine lv_iconst (v := 1) hx hb dX11_countOfKitchen_7 kic_1 ?_
  refine lv_icmp_ne (tgt := 21) hx hb dX11_countOfKitchen_8 rfl (fun c_1 => ?_) (fun c_1 => ?_)
  ·
    have tc_1 : (v0.toInt : Int) ≠ 1 := fun q => c_1 (Int32.toInt_inj.mp q)
    refine lv_iload_n hx hb dX11_countOfKitchen_21 rfl (lvA2 hl) ?_
    refine lv_iconst (v := 2) hx hb dX11_countOfKitchen_22 kic_2 ?_
    refine lv_icmp_ne (tgt := 33) hx hb dX11_countOfKitchen_23 rfl (fun c_2 => ?_) (fun c_2 => ?_)
    ·
      have tc_2 : (v0.toInt : Int) ≠ 2 := fun q => c_2 (Int32.toInt_inj.mp q)
      refine lv_aload_n hx hb dX11_countOfKitchen_33 rfl (lvA1 hl) ?_
      refine gf_RX11_260 S hK hP _ (xf_0 hk) (v := .int ((Fn 109) k0)) rfl dX11_countOfKitchen_34 ?_
      exact W.iret (v := ((Fn 109) k0)) hx hb hr (fun t ht hW => ⟨((Fn 109) k0), rfl, trivial, ht⟩) (fun _ h => absurd h List.not_mem_nil) dX11_countOfKitchen_37
    ·
      have tc_2 : (v0.toInt : Int) = 2 := congrArg Int32.toInt c_2
      refine lv_aload_n hx hb dX11_countOfKitchen_26 rfl (lvA1 hl) ?_
      refine gf_RX11_118 S hK hP _ (xf_0 hk) (v := .int ((Fn 104) k0)) rfl dX11_countOfKitchen_27 ?_
      refine lv_goto (tgt := 37) hx hb dX11_countOfKitchen_30 rfl ?_
      exact W.iret (v := ((Fn 104) k0)) hx hb hr (fun t ht hW => ⟨((Fn 104) k0), rfl, trivial, ht⟩) (fun _ h => absurd h List.not_mem_nil) dX11_countOfKitchen_37
  ·
    have tc_1 : (v0.toInt : Int) = 1 := congrArg Int32.toInt c_1
    refine lv_aload_n hx hb dX11_countOfKitchen_11 rfl (lvA1 hl) ?_
    refine gf_RX11_168 S hK hP _ (xf_0 hk) (v := .ref (ad 5 (ad 3 k0))) rfl dX11_countOfKitchen_12 ?_
    refine gf_RX11_171 S hK hP _ (xf_7 (hT.1 k0 (by (first | omega | (have zz0 := Hid.u hb_cn; omega))))) (v := .int ((Fn 198) (ad 3 k0))) rfl dX11_countOfKitchen_15 ?_
    refine lv_goto (tgt := 37) hx hb dX11_countOfKitchen_18 rfl ?_
    exact W.iret (v := ((Fn 198) (ad 3 k0))) hx hb hr (fun t ht hW => ⟨((Fn 198) (ad 3 k0)), rfl, trivial, ht⟩) (fun _ h => absurd h List.not_mem_nil) dX11_countOfKitchen_37
set_option maxRecDepth 100000 in
set_option maxHeartbeats 4000000 in
theorem q_XcountOfAll (l : Launch) (D : va_G) (cI cB cZ : ClassId) (zz qq vv : Nat) (bt : Nat → Int32) (g : Nat → Nat) (ad : Nat → Nat → Nat) (cn : Nat → Nat) (In : Nat → Int32) (Fn : Nat → Nat → Int32) (v0 : Int32) (hB : CBX cn) (hT : (∀ k : Nat, k < cn 10 → ad 3 k < cn 6) ∧ ad 4 0 < cn 6 ∧ ad 4 1 < cn 6) (hv : 0 ≤ v0.toInt ∧ v0.toInt ≤ 9) : Met l yX11_countOfAll (CWS yX11_countOfAll cX11_countOfAll 2 (some .int)) (RM 2 0 0) (PBrx [.ref (g 0), .int v0] D cI cB cZ zz qq vv bt (wX cI (D.1 99) zz g ad cn In Fn)) (vp_Si (fun _ => True)) 0 0 (fun _ => False) := by
  refine en_rx rfl pn_RX11 (Nat.le_of_ble_eq_true rfl) (fun p e s m below meth c hx hb hml hown S hr hlocks hnm hP hK hXS hS ls hl => ?_)
  have hl : lv_has ls 2 [(0, .ref (g 0)), (1, .int v0)] := hl
  have hb_cn : Hid (CBX cn) := hB
  replace hB : CBXh cn := hB
  refine lv_iload_n hx hb dX11_countOfAll_0 rfl (lvA1 hl) ?_
  rcases (by (first | omega | (have zz0 := Hid.u hb_cn; omega)) : v0.toInt < 0 ∨ 8 < v0.toInt ∨ v0.toInt = 0 ∨ v0.toInt = 1 ∨ v0.toInt = 2 ∨ v0.toInt = 3 ∨ v0.toInt = 4 ∨ v0.toInt = 5 ∨ v0.toInt = 6 ∨ v0.toInt = 7 ∨ v0.toInt = 8) with c_1 | c_1 | c_1 | c_1 | c_1 | c_1 | c_1 | c_1 | c_1 | c_1 | c_1
  ·
    exfalso; (first | omega | (have zz0 := Hid.u hb_cn; omega))
  ·
    refine lv_tableOut (tgt := 118) hx hb dX11_countOfAll_1 (Or.inr c_1) (by decide) ?_
    refine lv_aload_n hx hb dX11_countOfAll_118 rfl (lvA0 hl) ?_
    refine gf_RX11_502 S hK hP 0 xo_0 (v := .int (nI (cn 2))) rfl dX11_countOfAll_119 ?_
    exact W.iret (v := (nI (cn 2))) hx hb hr (fun t ht hW => ⟨(nI (cn 2)), rfl, trivial, ht⟩) (fun _ h => absurd h List.not_mem_nil) dX11_countOfAll_122
  ·
    refine lv_tableIn (tgt := 52) (off := 51) hx hb dX11_countOfAll_1 (by (first | omega | (have zz0 := Hid.u hb_cn; omega))) (by (first | omega | (have zz0 := Hid.u hb_cn; omega))) (by rw [c_1]; rfl) (by decide) ?_
    refine lv_aload_n hx hb dX11_countOfAll_52 rfl (lvA0 hl) ?_
    refine gf_RX11_103 S hK hP 0 xo_0 (v := .int (nI (cn 0))) rfl dX11_countOfAll_53 ?_
    exact W.iret (v := (nI (cn 0))) hx hb hr (fun t ht hW => ⟨(nI (cn 0)), rfl, trivial, ht⟩) (fun _ h => absurd h List.not_mem_nil) dX11_countOfAll_56
  ·
    refine lv_tableIn (tgt := 57) (off := 56) hx hb dX11_countOfAll_1 (by (first | omega | (have zz0 := Hid.u hb_cn; omega))) (by (first | omega | (have zz0 := Hid.u hb_cn; omega))) (by rw [c_1]; rfl) (by decide) ?_
    refine lv_aload_n hx hb dX11_countOfAll_57 rfl (lvA0 hl) ?_
    refine gf_RX11_61 S hK hP 0 xo_0 (v := .ref (g 10)) rfl dX11_countOfAll_58 ?_
    refine vp_callSi (runV_r (As := []) (rest := []) S (q_l_size l D cI cB cZ (g 10) (if (cn 10) = 0 then zz else ad 2 0) (In 10) (nI (cn 10))) kV_RX11_84 hK hP [24] (one_is xo_24) 24 xo_24 rfl rfl ⟨Nat.le_of_ble_eq_true rfl, Nat.le_of_ble_eq_true rfl⟩ ⟨Nat.le_of_ble_eq_true rfl, Nat.le_of_ble_eq_true rfl⟩ rfl hl.1 rfl (Nat.le_of_ble_eq_true rfl) dX11_countOfAll_61) (fun r_2 h_3 => ?_)
    subst h_3
    exact W.iret (v := (nI (cn 10))) hx hb hr (fun t ht hW => ⟨(nI (cn 10)), rfl, trivial, ht⟩) (fun _ h => absurd h List.not_mem_nil) dX11_countOfAll_64
  ·
    refine lv_tableIn (tgt := 65) (off := 64) hx hb dX11_countOfAll_1 (by (first | omega | (have zz0 := Hid.u hb_cn; omega))) (by (first | omega | (have zz0 := Hid.u hb_cn; omega))) (by rw [c_1]; rfl) (by decide) ?_
    refine lv_aload_n hx hb dX11_countOfAll_65 rfl (lvA0 hl) ?_
    refine gf_RX11_65 S hK hP 0 xo_0 (v := .ref (g 11)) rfl dX11_countOfAll_66 ?_
    refine vp_callSi (runV_r (As := []) (rest := []) S (q_l_size l D cI cB cZ (g 11) (if (cn 11) = 0 then zz else ad 2 1) (In 11) (nI (cn 11))) kV_RX11_84 hK hP [25] (one_is xo_25) 25 xo_25 rfl rfl ⟨Nat.le_of_ble_eq_true rfl, Nat.le_of_ble_eq_true rfl⟩ ⟨Nat.le_of_ble_eq_true rfl, Nat.le_of_ble_eq_true rfl⟩ rfl hl.1 rfl (Nat.le_of_ble_eq_true rfl) dX11_countOfAll_69) (fun r_4 h_5 => ?_)
    subst h_5
    exact W.iret (v := (nI (cn 11))) hx hb hr (fun t ht hW => ⟨(nI (cn 11)), rfl, trivial, ht⟩) (fun _ h => absurd h List.not_mem_nil) dX11_countOfAll_72
  ·
    refine lv_tableIn (tgt := 73) (off := 72) hx hb dX11_countOfAll_1 (by (first | omega | (have zz0 := Hid.u hb_cn; omega))) (by (first | omega | (have zz0 := Hid.u hb_cn; omega))) (by rw [c_1]; rfl) (by decide) ?_
    refine lv_aload_n hx hb dX11_countOfAll_73 rfl (lvA0 hl) ?_
    refine gf_RX11_21 S hK hP 0 xo_0 (v := .ref (g 5)) rfl dX11_countOfAll_74 ?_
    refine vp_callSi (runV_rxa (As := []) (rest := []) S (q_Xlength l D cI cB cZ zz qq vv bt g ad cn In Fn  hB) kV_RX11_152 hK hXS hS hP 1 xo_1 rfl rfl ⟨Nat.le_of_ble_eq_true rfl, Nat.le_of_ble_eq_true rfl⟩ ⟨Nat.le_of_ble_eq_true rfl, Nat.le_of_ble_eq_true rfl⟩ rfl hl.1 rfl (Nat.le_of_ble_eq_true rfl) dX11_countOfAll_77) (fun r_6 h_7 => ?_)
    subst h_7
    exact W.iret (v := (nI ((cn 3)))) hx hb hr (fun t ht hW => ⟨(nI ((cn 3))), rfl, trivial, ht⟩) (fun _ h => absurd h List.not_mem_nil) dX11_countOfAll_80
  ·
    refine lv_tableIn (tgt := 81) (off := 80) hx hb dX11_countOfAll_1 (by (first | omega | (have zz0 := Hid.u hb_cn; omega))) (by (first | omega | (have zz0 := Hid.u hb_cn; omega))) (by rw [c_1]; rfl) (by decide) ?_
    refine lv_aload_n hx hb dX11_countOfAll_81 rfl (lvA0 hl) ?_
    refine gf_RX11_12 S hK hP 0 xo_0 (v := .ref (ad 5 (ad 4 0))) rfl dX11_countOfAll_82 ?_
    refine gf_RX11_171 S hK hP _ (xf_7 hT.2.1) (v := .int ((Fn 198) (ad 4 0))) rfl dX11_countOfAll_85 ?_
    exact W.iret (v := ((Fn 198) (ad 4 0))) hx hb hr (fun t ht hW => ⟨((Fn 198) (ad 4 0)), rfl, trivial, ht⟩) (fun _ h => absurd h List.not_mem_nil) dX11_countOfAll_88
  ·
    refine lv_tableIn (tgt := 89) (off := 88) hx hb dX11_countOfAll_1 (by (first | omega | (have zz0 := Hid.u hb_cn; omega))) (by (first | omega | (have zz0 := Hid.u hb_cn; omega))) (by rw [c_1]; rfl) (by decide) ?_
    refine lv_aload_n hx hb dX11_countOfAll_89 rfl (lvA0 hl) ?_
    refine gf_RX11_68 S hK hP 0 xo_0 (v := .ref (g 12)) rfl dX11_countOfAll_90 ?_
    refine vp_callSi (runV_r (As := []) (rest := []) S (q_l_size l D cI cB cZ (g 12) (if (cn 12) = 0 then zz else ad 2 2) (In 12) (nI (cn 12))) kV_RX11_84 hK hP [26] (one_is xo_26) 26 xo_26 rfl rfl ⟨Nat.le_of_ble_eq_true rfl, Nat.le_of_ble_eq_true rfl⟩ ⟨Nat.le_of_ble_eq_true rfl, Nat.le_of_ble_eq_true rfl⟩ rfl hl.1 rfl (Nat.le_of_ble_eq_true rfl) dX11_countOfAll_93) (fun r_8 h_9 => ?_)
    subst h_9
    exact W.iret (v := (nI (cn 12))) hx hb hr (fun t ht hW => ⟨(nI (cn 12)), rfl, trivial, ht⟩) (fun _ h => absurd h List.not_mem_nil) dX11_countOfAll_96
  ·
    refine lv_tableIn (tgt := 97) (off := 96) hx hb dX11_countOfAll_1 (by (first | omega | (have zz0 := Hid.u hb_cn; omega))) (by (first | omega | (have zz0 := Hid.u hb_cn; omega))) (by rw [c_1]; rfl) (by decide) ?_
    refine lv_aload_n hx hb dX11_countOfAll_97 rfl (lvA0 hl) ?_
    refine gf_RX11_71 S hK hP 0 xo_0 (v := .ref (g 13)) rfl dX11_countOfAll_98 ?_
    refine vp_callSi (runV_r (As := []) (rest := []) S (q_l_size l D cI cB cZ (g 13) (if (cn 13) = 0 then zz else ad 2 3) (In 13) (nI (cn 13))) kV_RX11_84 hK hP [27] (one_is xo_27) 27 xo_27 rfl rfl ⟨Nat.le_of_ble_eq_true rfl, Nat.le_of_ble_eq_true rfl⟩ ⟨Nat.le_of_ble_eq_true rfl, Nat.le_of_ble_eq_true rfl⟩ rfl hl.1 rfl (Nat.le_of_ble_eq_true rfl) dX11_countOfAll_101) (fun r_10 h_11 => ?_)
    subst h_11
    exact W.iret (v := (nI (cn 13))) hx hb hr (fun t ht hW => ⟨(nI (cn 13)), rfl, trivial, ht⟩) (fun _ h => absurd h List.not_mem_nil) dX11_countOfAll_104
  ·
    refine lv_tableIn (tgt := 105) (off := 104) hx hb dX11_countOfAll_1 (by (first | omega | (have zz0 := Hid.u hb_cn; omega))) (by (first | omega | (have zz0 := Hid.u hb_cn; omega))) (by rw [c_1]; rfl) (by decide) ?_
    refine lv_aload_n hx hb dX11_countOfAll_105 rfl (lvA0 hl) ?_
    refine gf_RX11_74 S hK hP 0 xo_0 (v := .ref (g 14)) rfl dX11_countOfAll_106 ?_
    refine vp_callSi (runV_r (As := []) (rest := []) S (q_l_size l D cI cB cZ (g 14) (if (cn 14) = 0 then zz else ad 2 4) (In 14) (nI (cn 14))) kV_RX11_84 hK hP [28] (one_is xo_28) 28 xo_28 rfl rfl ⟨Nat.le_of_ble_eq_true rfl, Nat.le_of_ble_eq_true rfl⟩ ⟨Nat.le_of_ble_eq_true rfl, Nat.le_of_ble_eq_true rfl⟩ rfl hl.1 rfl (Nat.le_of_ble_eq_true rfl) dX11_countOfAll_109) (fun r_12 h_13 => ?_)
    subst h_13
    exact W.iret (v := (nI (cn 14))) hx hb hr (fun t ht hW => ⟨(nI (cn 14)), rfl, trivial, ht⟩) (fun _ h => absurd h List.not_mem_nil) dX11_countOfAll_112
  ·
    refine lv_tableIn (tgt := 113) (off := 112) hx hb dX11_countOfAll_1 (by (first | omega | (have zz0 := Hid.u hb_cn; omega))) (by (first | omega | (have zz0 := Hid.u hb_cn; omega))) (by rw [c_1]; rfl) (by decide) ?_
    refine lv_aload_n hx hb dX11_countOfAll_113 rfl (lvA0 hl) ?_
    refine gf_RX11_311 S hK hP 0 xo_0 (v := .int (nI (cn 1))) rfl dX11_countOfAll_114 ?_
    exact W.iret (v := (nI (cn 1))) hx hb hr (fun t ht hW => ⟨(nI (cn 1)), rfl, trivial, ht⟩) (fun _ h => absurd h List.not_mem_nil) dX11_countOfAll_117
set_option maxRecDepth 100000 in
set_option maxHeartbeats 4000000 in
theorem q_Xcount (l : Launch) (D : va_G) (cI cB cZ : ClassId) (zz qq vv : Nat) (bt : Nat → Int32) (g : Nat → Nat) (ad : Nat → Nat → Nat) (cn : Nat → Nat) (In : Nat → Int32) (Fn : Nat → Nat → Int32) (v0 : Int32) (hB : CBX cn) (hT : (∀ k : Nat, k < cn 10 → ad 3 k < cn 6) ∧ ad 4 0 < cn 6 ∧ ad 4 1 < cn 6) : Met l yX11_count (CWS yX11_count cX11_count 3 (some .int)) (RM 4 0 0) (PBrx [.ref (g 0), .int v0] D cI cB cZ zz qq vv bt (wX cI (D.1 99) zz g ad cn In Fn)) (vp_Si (fun _ => True)) 0 0 (fun _ => False) := by
  refine en_rx rfl pn_RX11 (Nat.le_of_ble_eq_true rfl) (fun p e s m below meth c hx hb hml hown S hr hlocks hnm hP hK hXS hS ls hl => ?_)
  have hl : lv_has ls 3 [(0, .ref (g 0)), (1, .int v0)] := hl
  have hb_cn : Hid (CBX cn) := hB
  replace hB : CBXh cn := hB
  refine lv_iload_n hx hb dX11_count_0 rfl (lvA1 hl) ?_
  refine lv_iconst (v := 0) hx hb dX11_count_1 kic_0 ?_
  refine lv_bipush (v := 9) hx hb dX11_count_2 kbc_9 ?_
  refine vp_callSi (runS_r (As := [.int v0, .int 0, .int 9]) (rest := []) S (q_l_within l D cI cB cZ v0 0 9) kS_RX11_80 hK hP [] rfl ⟨Nat.le_of_ble_eq_true rfl, Nat.le_of_ble_eq_true rfl⟩ ⟨Nat.le_of_ble_eq_true rfl, Nat.le_of_ble_eq_true rfl⟩ rfl hl.1 rfl (Nat.le_of_ble_eq_true rfl) dX11_count_4) (fun r_1 h_2 => ?_)
  rcases h_2 with ⟨rfl, h_2⟩ | ⟨rfl, h_2⟩
  ·
    have h_2 : 0 ≤ v0.toInt ∧ v0.toInt ≤ 9 := h_2
    refine lv_if_eq (tgt := 16) hx hb dX11_count_7 rfl (fun h => absurd h cq_eq_1_0) (fun _ => ?_)
    refine lv_aload_n hx hb dX11_count_10 rfl (lvA0 hl) ?_
    refine lv_iload_n hx hb dX11_count_11 rfl (lvA1 hl) ?_
    refine vp_callSi (runV_rxa (As := [.int v0]) (rest := []) S (q_XcountOfAll l D cI cB cZ zz qq vv bt g ad cn In Fn v0 hB hT (by (first | omega | (have zz0 := Hid.u hb_cn; omega)))) kV_RX11_533 hK hXS hS hP 0 xo_0 rfl rfl ⟨Nat.le_of_ble_eq_true rfl, Nat.le_of_ble_eq_true rfl⟩ ⟨Nat.le_of_ble_eq_true rfl, Nat.le_of_ble_eq_true rfl⟩ rfl hl.1 rfl (Nat.le_of_ble_eq_true rfl) dX11_count_12) (fun r_3 h_4 => ?_)
    exact W.iret (v := r_3) hx hb hr (fun t ht hW => ⟨r_3, rfl, trivial, ht⟩) (fun _ h => absurd h List.not_mem_nil) dX11_count_15
  ·
    have h_2 : ¬ (0 ≤ v0.toInt ∧ v0.toInt ≤ 9) := h_2
    refine lv_if_eq (tgt := 16) hx hb dX11_count_7 rfl (fun _ => ?_) (fun h => absurd h cq_eq_0_0)
    refine lv_iload_n hx hb dX11_count_16 rfl (lvA1 hl) ?_
    refine lv_bipush (v := 10) hx hb dX11_count_17 kbc_10 ?_
    refine lv_bipush (v := 39) hx hb dX11_count_19 kbc_39 ?_
    refine vp_callSi (runS_r (As := [.int v0, .int 10, .int 39]) (rest := []) S (q_l_within l D cI cB cZ v0 10 39) kS_RX11_80 hK hP [] rfl ⟨Nat.le_of_ble_eq_true rfl, Nat.le_of_ble_eq_true rfl⟩ ⟨Nat.le_of_ble_eq_true rfl, Nat.le_of_ble_eq_true rfl⟩ rfl hl.1 rfl (Nat.le_of_ble_eq_true rfl) dX11_count_21) (fun r_5 h_6 => ?_)
    rcases h_6 with ⟨rfl, h_6⟩ | ⟨rfl, h_6⟩
    ·
      have h_6 : 10 ≤ v0.toInt ∧ v0.toInt ≤ 39 := h_6
      refine lv_if_eq (tgt := 44) hx hb dX11_count_24 rfl (fun h => absurd h cq_eq_1_0) (fun _ => ?_)
      refine lv_aload_n hx hb dX11_count_27 rfl (lvA0 hl) ?_
      refine lv_aload_n hx hb dX11_count_28 rfl (lvA0 hl) ?_
      refine lv_iload_n hx hb dX11_count_29 rfl (lvA1 hl) ?_
      refine lv_bipush (v := 10) hx hb dX11_count_30 kbc_10 ?_
      refine lv_irem hx hb dX11_count_32 (by decide) ?_
      refine va_csq (runV_rxa (As := [.int (v0 - v0 / 10 * 10)]) (rest := [.ref (g 0)]) S (q_XkitchenAt l D cI cB cZ zz qq vv bt g ad cn In Fn (v0 - v0 / 10 * 10) hB) kV_RX11_114 hK hXS hS hP 0 xo_0 rfl rfl ⟨Nat.le_of_ble_eq_true rfl, Nat.le_of_ble_eq_true rfl⟩ ⟨Nat.le_of_ble_eq_true rfl, Nat.le_of_ble_eq_true rfl⟩ rfl hl.1 rfl (Nat.le_of_ble_eq_true rfl) dX11_count_33) (fun r_7 h_8 => ?_)
      rcases h_8 with ⟨mr_7, er_7, hr_7, rfl⟩ | ⟨hr_7, rfl⟩
      ·
        refine lv_iload_n hx hb dX11_count_36 rfl (lvA1 hl) ?_
        refine lv_bipush (v := 10) hx hb dX11_count_37 kbc_10 ?_
        refine lv_idiv hx hb dX11_count_39 (by decide) ?_
        refine vp_callSi (runV_rxa (As := [.ref (ad 10 mr_7), .int (v0 / 10)]) (rest := []) S (q_XcofKitchen l D cI cB cZ zz qq vv bt g ad cn In Fn mr_7 (v0 / 10) hB (by (first | omega | (have zz0 := Hid.u hb_cn; omega))) hT) kV_RX11_536 hK hXS hS hP 0 xo_0 rfl rfl ⟨Nat.le_of_ble_eq_true rfl, Nat.le_of_ble_eq_true rfl⟩ ⟨Nat.le_of_ble_eq_true rfl, Nat.le_of_ble_eq_true rfl⟩ rfl hl.1 rfl (Nat.le_of_ble_eq_true rfl) dX11_count_40) (fun r_9 h_10 => ?_)
        exact W.iret (v := r_9) hx hb hr (fun t ht hW => ⟨r_9, rfl, trivial, ht⟩) (fun _ h => absurd h List.not_mem_nil) dX11_count_43
      ·
        refine lv_iload_n hx hb dX11_count_36 rfl (lvA1 hl) ?_
        refine lv_bipush (v := 10) hx hb dX11_count_37 kbc_10 ?_
        refine lv_idiv hx hb dX11_count_39 (by decide) ?_
        refine vp_callSi (runV_rxa (As := [.null, .int (v0 / 10)]) (rest := []) S (q_XcofNull l D cI cB cZ zz qq vv bt g ad cn In Fn (v0 / 10) hB) kV_RX11_536 hK hXS hS hP 0 xo_0 rfl rfl ⟨Nat.le_of_ble_eq_true rfl, Nat.le_of_ble_eq_true rfl⟩ ⟨Nat.le_of_ble_eq_true rfl, Nat.le_of_ble_eq_true rfl⟩ rfl hl.1 rfl (Nat.le_of_ble_eq_true rfl) dX11_count_40) (fun r_11 h_12 => ?_)
        exact W.iret (v := r_11) hx hb hr (fun t ht hW => ⟨r_11, rfl, trivial, ht⟩) (fun _ h => absurd h List.not_mem_nil) dX11_count_43
    ·
      have h_6 : ¬ (10 ≤ v0.toInt ∧ v0.toInt ≤ 39) := h_6
      refine lv_if_eq (tgt := 44) hx hb dX11_count_24 rfl (fun _ => ?_) (fun h => absurd h cq_eq_0_0)
      refine lv_iload_n hx hb dX11_count_44 rfl (lvA1 hl) ?_
      refine lv_bipush (v := 40) hx hb dX11_count_45 kbc_40 ?_
      refine lv_bipush (v := 49) hx hb dX11_count_47 kbc_49 ?_
      refine vp_callSi (runS_r (As := [.int v0, .int 40, .int 49]) (rest := []) S (q_l_within l D cI cB cZ v0 40 49) kS_RX11_80 hK hP [] rfl ⟨Nat.le_of_ble_eq_true rfl, Nat.le_of_ble_eq_true rfl⟩ ⟨Nat.le_of_ble_eq_true rfl, Nat.le_of_ble_eq_true rfl⟩ rfl hl.1 rfl (Nat.le_of_ble_eq_true rfl) dX11_count_49) (fun r_13 h_14 => ?_)
      rcases h_14 with ⟨rfl, h_14⟩ | ⟨rfl, h_14⟩
      ·
        have h_14 : 40 ≤ v0.toInt ∧ v0.toInt ≤ 49 := h_14
        refine lv_if_eq (tgt := 77) hx hb dX11_count_52 rfl (fun h => absurd h cq_eq_1_0) (fun _ => ?_)
        refine lv_aload_n hx hb dX11_count_55 rfl (lvA0 hl) ?_
        refine lv_iload_n hx hb dX11_count_56 rfl (lvA1 hl) ?_
        refine lv_bipush (v := 40) hx hb dX11_count_57 kbc_40 ?_
        refine lv_isub hx hb dX11_count_59 ?_
        refine va_csq (runV_rxa (As := [.int (v0 - 40)]) (rest := []) S (q_XbatchAt l D cI cB cZ zz qq vv bt g ad cn In Fn (v0 - 40) hB) kV_RX11_382 hK hXS hS hP 0 xo_0 rfl rfl ⟨Nat.le_of_ble_eq_true rfl, Nat.le_of_ble_eq_true rfl⟩ ⟨Nat.le_of_ble_eq_true rfl, Nat.le_of_ble_eq_true rfl⟩ rfl hl.1 rfl (Nat.le_of_ble_eq_true rfl) dX11_count_60) (fun r_15 h_16 => ?_)
        rcases h_16 with ⟨mr_15, er_15, hr_15, rfl⟩ | ⟨hr_15, rfl⟩
        ·
          refine lv_astore_n (lv' := [(2, .ref (ad 12 mr_15)), (0, .ref (g 0)), (1, .int v0)]) hx hb dX11_count_63 rfl hl (ltb rfl) rfl (fun ls hl => ?_)
          refine lv_aload_n hx hb dX11_count_64 rfl (lvA0 hl) ?_
          refine lv_ifnonnull (tgt := 72) hx hb dX11_count_65 rfl ?_
          refine lv_aload_n hx hb dX11_count_72 rfl (lvA0 hl) ?_
          have kf_1 : mr_15 < cn 12 := by (first | omega | (have zz0 := Hid.u hb_cn; omega))
          refine gf_RX11_381 S hK hP _ (xf_2 kf_1) (v := .int ((Fn 147) mr_15)) rfl dX11_count_73 ?_
          exact W.iret (v := ((Fn 147) mr_15)) hx hb hr (fun t ht hW => ⟨((Fn 147) mr_15), rfl, trivial, ht⟩) (fun _ h => absurd h List.not_mem_nil) dX11_count_76
        ·
          refine lv_astore_nN (lv' := [(2, .null), (0, .ref (g 0)), (1, .int v0)]) hx hb dX11_count_63 rfl hl (ltb rfl) rfl (fun ls hl => ?_)
          refine lv_aload_nN hx hb dX11_count_64 rfl (lvA0 hl) ?_
          refine lv_ifnonnullN hx hb dX11_count_65 ?_
          refine lv_iconst (v := (-1)) hx hb dX11_count_68 kic_m1 ?_
          refine lv_goto (tgt := 76) hx hb dX11_count_69 rfl ?_
          exact W.iret (v := (-1)) hx hb hr (fun t ht hW => ⟨(-1), rfl, trivial, ht⟩) (fun _ h => absurd h List.not_mem_nil) dX11_count_76
      ·
        have h_14 : ¬ (40 ≤ v0.toInt ∧ v0.toInt ≤ 49) := h_14
        refine lv_if_eq (tgt := 77) hx hb dX11_count_52 rfl (fun _ => ?_) (fun h => absurd h cq_eq_0_0)
        refine lv_iload_n hx hb dX11_count_77 rfl (lvA1 hl) ?_
        refine lv_bipush (v := 50) hx hb dX11_count_78 kbc_50 ?_
        refine lv_icmp_ge (tgt := 87) hx hb dX11_count_80 rfl (fun c_17 => ?_) (fun c_17 => ?_)
        ·
          have tc_17 : (50 : Int) ≤ v0.toInt := Int32.le_iff_toInt_le.mp c_17
          refine lv_aload_n hx hb dX11_count_87 rfl (lvA0 hl) ?_
          refine lv_iload_n hx hb dX11_count_88 rfl (lvA1 hl) ?_
          refine lv_bipush (v := 50) hx hb dX11_count_89 kbc_50 ?_
          refine lv_isub hx hb dX11_count_91 ?_
          refine va_csq (runV_rxa (As := [.int (v0 - 50)]) (rest := []) S (q_XproofAt l D cI cB cZ zz qq vv bt g ad cn In Fn (v0 - 50) hB) kV_RX11_422 hK hXS hS hP 0 xo_0 rfl rfl ⟨Nat.le_of_ble_eq_true rfl, Nat.le_of_ble_eq_true rfl⟩ ⟨Nat.le_of_ble_eq_true rfl, Nat.le_of_ble_eq_true rfl⟩ rfl hl.1 rfl (Nat.le_of_ble_eq_true rfl) dX11_count_92) (fun r_18 h_19 => ?_)
          rcases h_19 with ⟨mr_18, er_18, hr_18, rfl⟩ | ⟨hr_18, rfl⟩
          ·
            refine lv_astore_n (lv' := [(2, .ref (ad 13 mr_18)), (0, .ref (g 0)), (1, .int v0)]) hx hb dX11_count_95 rfl hl (ltb rfl) rfl (fun ls hl => ?_)
            refine lv_aload_n hx hb dX11_count_96 rfl (lvA0 hl) ?_
            refine lv_ifnonnull (tgt := 104) hx hb dX11_count_97 rfl ?_
            refine lv_aload_n hx hb dX11_count_104 rfl (lvA0 hl) ?_
            have kf_2 : mr_18 < cn 13 := by (first | omega | (have zz0 := Hid.u hb_cn; omega))
            refine gf_RX11_434 S hK hP _ (xf_3 kf_2) (v := .int ((Fn 164) mr_18)) rfl dX11_count_105 ?_
            exact W.iret (v := ((Fn 164) mr_18)) hx hb hr (fun t ht hW => ⟨((Fn 164) mr_18), rfl, trivial, ht⟩) (fun _ h => absurd h List.not_mem_nil) dX11_count_108
          ·
            refine lv_astore_nN (lv' := [(2, .null), (0, .ref (g 0)), (1, .int v0)]) hx hb dX11_count_95 rfl hl (ltb rfl) rfl (fun ls hl => ?_)
            refine lv_aload_nN hx hb dX11_count_96 rfl (lvA0 hl) ?_
            refine lv_ifnonnullN hx hb dX11_count_97 ?_
            refine lv_iconst (v := (-1)) hx hb dX11_count_100 kic_m1 ?_
            refine lv_goto (tgt := 108) hx hb dX11_count_101 rfl ?_
            exact W.iret (v := (-1)) hx hb hr (fun t ht hW => ⟨(-1), rfl, trivial, ht⟩) (fun _ h => absurd h List.not_mem_nil) dX11_count_108
        ·
          have tc_17 : (v0.toInt : Int) < 50 := Int32.lt_iff_toInt_lt.mp (Int32.not_le.mp c_17)
          refine lv_null hx hb dX11_count_83 ?_
          refine lv_goto (tgt := 95) hx hb dX11_count_84 rfl ?_
          refine lv_astore_nN (lv' := [(2, .null), (0, .ref (g 0)), (1, .int v0)]) hx hb dX11_count_95 rfl hl (ltb rfl) rfl (fun ls hl => ?_)
          refine lv_aload_nN hx hb dX11_count_96 rfl (lvA0 hl) ?_
          refine lv_ifnonnullN hx hb dX11_count_97 ?_
          refine lv_iconst (v := (-1)) hx hb dX11_count_100 kic_m1 ?_
          refine lv_goto (tgt := 108) hx hb dX11_count_101 rfl ?_
          exact W.iret (v := (-1)) hx hb hr (fun t ht hW => ⟨(-1), rfl, trivial, ht⟩) (fun _ h => absurd h List.not_mem_nil) dX11_count_108
