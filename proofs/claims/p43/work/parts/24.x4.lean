theorem putM_z {f : Nat → Int32} {n st : Nat} {v x : Int32} (hn : n ≤ st) (hf : ∀ i : Nat, st ≤ i → f i = 0) : ∀ i : Nat, st ≤ i → putM f n v x i = 0 := fun i hi => by
  unfold putM
  split
  · rename_i q
    have e : v.toNatClampNeg = v.toInt.toNat := rfl
    unfold upd
    rw [if_neg (by omega)]
    exact hf i hi
  · exact hf i hi

set_option maxRecDepth 100000 in
theorem hin_RX4 : ∀ w ∈ u_ws RX4 TX4 5, w ∈ wT := hin_all (C := RX4) (T := TX4) (n := 5) (hin_s (hin_s (hin_s (hin_s (hin_s (fun k hk => absurd hk (Nat.not_lt_zero k)) (wk5_7 3 rfl rfl)) (wk5_7 5 rfl rfl)) (wk5_7 7 rfl rfl)) (wk5_7 9 rfl rfl)) (wk5_7 11 rfl rfl))
set_option maxRecDepth 100000 in
theorem gf_RX4_16 {p : Program} {l : Launch} {e : Env} {R : Room} {s : State} {m : MethodId} {args : Array Value} {below : List Frame} {meth : Method} {c : Code} {H : Heap} {locs : List Loc} {cells slots : Nat} {Q : State → Prop} {cc : ByteArray} {nL pc : Nat} {D : va_G} {cI cB cZ : ClassId} {ws : va_W} {rest : List Value} {ls : Array Slot} {a : Nat} {fs : List Value} {v : Value} (S : SF p m c cc nL s args RX4) (hK : KK D cI cB cZ s) (hP : va_P D vwCl ws H) (q0 : Nat) (he : ws[q0]? = some (a, .inr (5, fs))) (hv : fs[2]? = some v) (hdg : decode cc pc = .ok (.getfield 16, 3)) (kk : W p l e R s m args below meth c H locs cells slots Q (F0 m (pc + 3) ls (v :: rest))) : W p l e R s m args below meth c H locs cells slots Q (F0 m pc ls (.ref a :: rest)) :=
  va_get (C := RX4) (T := TX4) (N := 5) S.1 S.2.1 S.2.2.2.2 hin_RX4 S.2.2.2.1 hK.1 hP q0 he rfl 2 (by decide) (S.2.2.2.2 _ (wk5_6 9 rfl rfl)) (fun _ h9 => h9) hv hdg kk
set_option maxRecDepth 100000 in
theorem gf_RX4_13 {p : Program} {l : Launch} {e : Env} {R : Room} {s : State} {m : MethodId} {args : Array Value} {below : List Frame} {meth : Method} {c : Code} {H : Heap} {locs : List Loc} {cells slots : Nat} {Q : State → Prop} {cc : ByteArray} {nL pc : Nat} {D : va_G} {cI cB cZ : ClassId} {ws : va_W} {rest : List Value} {ls : Array Slot} {a : Nat} {fs : List Value} {v : Value} (S : SF p m c cc nL s args RX4) (hK : KK D cI cB cZ s) (hP : va_P D vwCl ws H) (q0 : Nat) (he : ws[q0]? = some (a, .inr (5, fs))) (hv : fs[1]? = some v) (hdg : decode cc pc = .ok (.getfield 13, 3)) (kk : W p l e R s m args below meth c H locs cells slots Q (F0 m (pc + 3) ls (v :: rest))) : W p l e R s m args below meth c H locs cells slots Q (F0 m pc ls (.ref a :: rest)) :=
  va_get (C := RX4) (T := TX4) (N := 5) S.1 S.2.1 S.2.2.2.2 hin_RX4 S.2.2.2.1 hK.1 hP q0 he rfl 1 (by decide) (S.2.2.2.2 _ (wk5_6 7 rfl rfl)) (fun _ h9 => h9) hv hdg kk
set_option maxRecDepth 100000 in
theorem hin_RX0 : ∀ w ∈ u_ws RX0 TX0 8, w ∈ wT := hin_all (C := RX0) (T := TX0) (n := 8) (hin_s (hin_s (hin_s (hin_s (hin_s (hin_s (hin_s (hin_s (fun k hk => absurd hk (Nat.not_lt_zero k)) (wk4_19 1 rfl rfl)) (wk4_19 3 rfl rfl)) (wk4_19 5 rfl rfl)) (wk4_19 7 rfl rfl)) (wk4_19 9 rfl rfl)) (wk4_19 11 rfl rfl)) (wk5_0 1 rfl rfl)) (wk5_0 3 rfl rfl))
set_option maxRecDepth 100000 in
theorem gf_RX0_13 {p : Program} {l : Launch} {e : Env} {R : Room} {s : State} {m : MethodId} {args : Array Value} {below : List Frame} {meth : Method} {c : Code} {H : Heap} {locs : List Loc} {cells slots : Nat} {Q : State → Prop} {cc : ByteArray} {nL pc : Nat} {D : va_G} {cI cB cZ : ClassId} {ws : va_W} {rest : List Value} {ls : Array Slot} {a : Nat} {fs : List Value} {v : Value} (S : SF p m c cc nL s args RX0) (hK : KK D cI cB cZ s) (hP : va_P D vwCl ws H) (q0 : Nat) (he : ws[q0]? = some (a, .inr (1, fs))) (hv : fs[4]? = some v) (hdg : decode cc pc = .ok (.getfield 13, 3)) (kk : W p l e R s m args below meth c H locs cells slots Q (F0 m (pc + 3) ls (v :: rest))) : W p l e R s m args below meth c H locs cells slots Q (F0 m pc ls (.ref a :: rest)) :=
  va_get (C := RX0) (T := TX0) (N := 8) S.1 S.2.1 S.2.2.2.2 hin_RX0 S.2.2.2.1 hK.1 hP q0 he rfl 4 (by decide) (S.2.2.2.2 _ (wk4_18 6 rfl rfl)) (fun _ h9 => h9) hv hdg kk
set_option maxRecDepth 100000 in
theorem gf_RX0_24 {p : Program} {l : Launch} {e : Env} {R : Room} {s : State} {m : MethodId} {args : Array Value} {below : List Frame} {meth : Method} {c : Code} {H : Heap} {locs : List Loc} {cells slots : Nat} {Q : State → Prop} {cc : ByteArray} {nL pc : Nat} {D : va_G} {cI cB cZ : ClassId} {ws : va_W} {rest : List Value} {ls : Array Slot} {a : Nat} {fs : List Value} {v : Value} (S : SF p m c cc nL s args RX0) (hK : KK D cI cB cZ s) (hP : va_P D vwCl ws H) (q0 : Nat) (he : ws[q0]? = some (a, .inr (1, fs))) (hv : fs[6]? = some v) (hdg : decode cc pc = .ok (.getfield 24, 3)) (kk : W p l e R s m args below meth c H locs cells slots Q (F0 m (pc + 3) ls (v :: rest))) : W p l e R s m args below meth c H locs cells slots Q (F0 m pc ls (.ref a :: rest)) :=
  va_get (C := RX0) (T := TX0) (N := 8) S.1 S.2.1 S.2.2.2.2 hin_RX0 S.2.2.2.1 hK.1 hP q0 he rfl 6 (by decide) (S.2.2.2.2 _ (wk4_18 10 rfl rfl)) (fun _ h9 => h9) hv hdg kk
set_option maxRecDepth 100000 in
theorem gf_RX0_30 {p : Program} {l : Launch} {e : Env} {R : Room} {s : State} {m : MethodId} {args : Array Value} {below : List Frame} {meth : Method} {c : Code} {H : Heap} {locs : List Loc} {cells slots : Nat} {Q : State → Prop} {cc : ByteArray} {nL pc : Nat} {D : va_G} {cI cB cZ : ClassId} {ws : va_W} {rest : List Value} {ls : Array Slot} {a : Nat} {fs : List Value} {v : Value} (S : SF p m c cc nL s args RX0) (hK : KK D cI cB cZ s) (hP : va_P D vwCl ws H) (q0 : Nat) (he : ws[q0]? = some (a, .inr (1, fs))) (hv : fs[1]? = some v) (hdg : decode cc pc = .ok (.getfield 30, 3)) (kk : W p l e R s m args below meth c H locs cells slots Q (F0 m (pc + 3) ls (v :: rest))) : W p l e R s m args below meth c H locs cells slots Q (F0 m pc ls (.ref a :: rest)) :=
  va_get (C := RX0) (T := TX0) (N := 8) S.1 S.2.1 S.2.2.2.2 hin_RX0 S.2.2.2.1 hK.1 hP q0 he rfl 1 (by decide) (S.2.2.2.2 _ (wk4_18 2 rfl rfl)) (fun _ h9 => h9) hv hdg kk
set_option maxRecDepth 100000 in
theorem gf_RX0_36 {p : Program} {l : Launch} {e : Env} {R : Room} {s : State} {m : MethodId} {args : Array Value} {below : List Frame} {meth : Method} {c : Code} {H : Heap} {locs : List Loc} {cells slots : Nat} {Q : State → Prop} {cc : ByteArray} {nL pc : Nat} {D : va_G} {cI cB cZ : ClassId} {ws : va_W} {rest : List Value} {ls : Array Slot} {a : Nat} {fs : List Value} {v : Value} (S : SF p m c cc nL s args RX0) (hK : KK D cI cB cZ s) (hP : va_P D vwCl ws H) (q0 : Nat) (he : ws[q0]? = some (a, .inr (1, fs))) (hv : fs[2]? = some v) (hdg : decode cc pc = .ok (.getfield 36, 3)) (kk : W p l e R s m args below meth c H locs cells slots Q (F0 m (pc + 3) ls (v :: rest))) : W p l e R s m args below meth c H locs cells slots Q (F0 m pc ls (.ref a :: rest)) :=
  va_get (C := RX0) (T := TX0) (N := 8) S.1 S.2.1 S.2.2.2.2 hin_RX0 S.2.2.2.1 hK.1 hP q0 he rfl 2 (by decide) (S.2.2.2.2 _ (wk4_18 3 rfl rfl)) (fun _ h9 => h9) hv hdg kk
set_option maxRecDepth 100000 in
theorem gf_RX0_9 {p : Program} {l : Launch} {e : Env} {R : Room} {s : State} {m : MethodId} {args : Array Value} {below : List Frame} {meth : Method} {c : Code} {H : Heap} {locs : List Loc} {cells slots : Nat} {Q : State → Prop} {cc : ByteArray} {nL pc : Nat} {D : va_G} {cI cB cZ : ClassId} {ws : va_W} {rest : List Value} {ls : Array Slot} {a : Nat} {fs : List Value} {v : Value} (S : SF p m c cc nL s args RX0) (hK : KK D cI cB cZ s) (hP : va_P D vwCl ws H) (q0 : Nat) (he : ws[q0]? = some (a, .inr (1, fs))) (hv : fs[0]? = some v) (hdg : decode cc pc = .ok (.getfield 9, 3)) (kk : W p l e R s m args below meth c H locs cells slots Q (F0 m (pc + 3) ls (v :: rest))) : W p l e R s m args below meth c H locs cells slots Q (F0 m pc ls (.ref a :: rest)) :=
  va_get (C := RX0) (T := TX0) (N := 8) S.1 S.2.1 S.2.2.2.2 hin_RX0 S.2.2.2.1 hK.1 hP q0 he rfl 0 (by decide) (S.2.2.2.2 _ (wk4_18 1 rfl rfl)) (fun _ h9 => h9) hv hdg kk
set_option maxRecDepth 100000 in
theorem gf_RX0_42 {p : Program} {l : Launch} {e : Env} {R : Room} {s : State} {m : MethodId} {args : Array Value} {below : List Frame} {meth : Method} {c : Code} {H : Heap} {locs : List Loc} {cells slots : Nat} {Q : State → Prop} {cc : ByteArray} {nL pc : Nat} {D : va_G} {cI cB cZ : ClassId} {ws : va_W} {rest : List Value} {ls : Array Slot} {a : Nat} {fs : List Value} {v : Value} (S : SF p m c cc nL s args RX0) (hK : KK D cI cB cZ s) (hP : va_P D vwCl ws H) (q0 : Nat) (he : ws[q0]? = some (a, .inr (1, fs))) (hv : fs[3]? = some v) (hdg : decode cc pc = .ok (.getfield 42, 3)) (kk : W p l e R s m args below meth c H locs cells slots Q (F0 m (pc + 3) ls (v :: rest))) : W p l e R s m args below meth c H locs cells slots Q (F0 m pc ls (.ref a :: rest)) :=
  va_get (C := RX0) (T := TX0) (N := 8) S.1 S.2.1 S.2.2.2.2 hin_RX0 S.2.2.2.1 hK.1 hP q0 he rfl 3 (by decide) (S.2.2.2.2 _ (wk4_18 4 rfl rfl)) (fun _ h9 => h9) hv hdg kk
set_option maxRecDepth 100000 in
theorem kS_RX0_45 : CalS RX0 45 yX7_put cX7_put 3 none 3 := ⟨⟨wk5_13 2 rfl rfl, wk3_1 11 rfl rfl, wk1_0 7 rfl rfl, wk3_2 0 rfl rfl⟩, ⟨nmh_8.1, nmh_8.2, pd_69⟩⟩
set_option maxRecDepth 100000 in
theorem pf_RX0_42 {p : Program} {l : Launch} {e : Env} {R : Room} {s : State} {m : MethodId} {args : Array Value} {below : List Frame} {meth : Method} {c : Code} {H : Heap} {locs : List Loc} {cells slots : Nat} {Q : State → Prop} {cc : ByteArray} {nL pc : Nat} {D : va_G} {cI cB cZ : ClassId} {ws : va_W} {rest : List Value} {ls : Array Slot} {a : Nat} {fs : List Value} {v : Value} {A : Nat → Prop} {H0 : Heap} (S : SF p m c cc nL s args RX0) (hK : KK D cI cB cZ s) (hP : va_P D vwCl ws H) (hD : va_D A ws) (hS : va_S A H0 H locs) (q0 : Nat) (he : ws[q0]? = some (a, .inr (1, fs))) (hl : 3 < fs.length) (hn : narrow (tyX0 3) v = v) (hfit : fits (tyX0 3) v = true) (hdg : decode cc pc = .ok (.putfield 42, 3)) (kk : ∀ (H1 : Heap) (locs1 : List Loc), va_P D vwCl (ws.set q0 (a, .inr (1, fs.set 3 v))) H1 → va_D A (ws.set q0 (a, .inr (1, fs.set 3 v))) → va_S A H0 H1 locs1 → W p l e R s m args below meth c H1 locs1 cells slots Q (F0 m (pc + 3) ls rest)) : W p l e R s m args below meth c H locs cells slots Q (F0 m pc ls (v :: .ref a :: rest)) :=
  va_put (C := RX0) (T := TX0) (N := 8) S.1 S.2.1 S.2.2.2.2 hin_RX0 tyX0 tyX0_ok nmX0 S.2.2.2.1 hK.1 hP hD hS q0 he rfl 3 (by decide) (S.2.2.2.2 _ (wk4_18 4 rfl rfl)) (fun _ h9 => h9) rfl (tyX0_ok 3 (by decide)) hn hfit hl hdg kk
set_option maxRecDepth 100000 in
theorem kS_RX0_51 : CalS RX0 51 yX7_at cX7_at 2 (some .int) 2 := ⟨⟨wk5_13 11 rfl rfl, wk3_1 8 rfl rfl, wk1_0 7 rfl rfl, wk3_1 9 rfl rfl⟩, ⟨nmh_8.1, nmh_8.2, pd_67⟩⟩
set_option maxRecDepth 100000 in
theorem kV_RX11_382 : CalV RX11 382 yX11_batchAt cX11_batchAt 2 (some (.object "OilHome$Batch")) 1 := ⟨⟨wk5_3 7 rfl rfl, wk5_3 9 rfl rfl, wT_sel 48 _ rfl rfl rfl, wk1_0 1 rfl rfl, wk5_3 10 rfl rfl⟩, ⟨nmh_0.1, nmh_0.2, pd_9⟩⟩
set_option maxRecDepth 100000 in
theorem gf_RX11_441 {p : Program} {l : Launch} {e : Env} {R : Room} {s : State} {m : MethodId} {args : Array Value} {below : List Frame} {meth : Method} {c : Code} {H : Heap} {locs : List Loc} {cells slots : Nat} {Q : State → Prop} {cc : ByteArray} {nL pc : Nat} {D : va_G} {cI cB cZ : ClassId} {ws : va_W} {rest : List Value} {ls : Array Slot} {a : Nat} {fs : List Value} {v : Value} (S : SF p m c cc nL s args RX11) (hK : KK D cI cB cZ s) (hP : va_P D vwCl ws H) (q0 : Nat) (he : ws[q0]? = some (a, .inr (1, fs))) (hv : fs[3]? = some v) (hdg : decode cc pc = .ok (.getfield 441, 3)) (kk : W p l e R s m args below meth c H locs cells slots Q (F0 m (pc + 3) ls (v :: rest))) : W p l e R s m args below meth c H locs cells slots Q (F0 m pc ls (.ref a :: rest)) :=
  va_get (C := RX0) (T := TX0) (N := 8) S.1 S.2.1 S.2.2.2.2 hin_RX0 S.2.2.2.1 hK.1 hP q0 he rfl 3 (by decide) (S.2.2.2.2 _ (wk4_18 5 rfl rfl)) (fun _ h9 => h9) hv hdg kk
set_option maxRecDepth 100000 in
theorem kV_RX11_444 : CalV RX11 444 yX0_addSample cX0_addSample 2 none 1 := ⟨⟨wk5_12 10 rfl rfl, wk5_12 11 rfl rfl, wk5_13 0 rfl rfl, wk1_1 11 rfl rfl, wk5_13 1 rfl rfl⟩, ⟨nmh_1.1, nmh_1.2, pd_14⟩⟩
set_option maxRecDepth 100000 in
theorem kV_RX11_447 : CalV RX11 447 yX0_samplesFrom cX0_samplesFrom 4 (some .int) 1 := ⟨⟨wk5_13 7 rfl rfl, wk5_13 8 rfl rfl, wk5_13 9 rfl rfl, wk1_1 11 rfl rfl, wk5_13 10 rfl rfl⟩, ⟨nmh_1.1, nmh_1.2, pd_8⟩⟩
set_option maxRecDepth 100000 in
theorem gf_RX11_402 {p : Program} {l : Launch} {e : Env} {R : Room} {s : State} {m : MethodId} {args : Array Value} {below : List Frame} {meth : Method} {c : Code} {H : Heap} {locs : List Loc} {cells slots : Nat} {Q : State → Prop} {cc : ByteArray} {nL pc : Nat} {D : va_G} {cI cB cZ : ClassId} {ws : va_W} {rest : List Value} {ls : Array Slot} {a : Nat} {fs : List Value} {v : Value} (S : SF p m c cc nL s args RX11) (hK : KK D cI cB cZ s) (hP : va_P D vwCl ws H) (q0 : Nat) (he : ws[q0]? = some (a, .inr (5, fs))) (hv : fs[0]? = some v) (hdg : decode cc pc = .ok (.getfield 402, 3)) (kk : W p l e R s m args below meth c H locs cells slots Q (F0 m (pc + 3) ls (v :: rest))) : W p l e R s m args below meth c H locs cells slots Q (F0 m pc ls (.ref a :: rest)) :=
  va_get (C := RX4) (T := TX4) (N := 5) S.1 S.2.1 S.2.2.2.2 hin_RX4 S.2.2.2.1 hK.1 hP q0 he rfl 0 (by decide) (S.2.2.2.2 _ (wk5_6 6 rfl rfl)) (fun _ h9 => h9) hv hdg kk
set_option maxRecDepth 100000 in
theorem gf_RX11_405 {p : Program} {l : Launch} {e : Env} {R : Room} {s : State} {m : MethodId} {args : Array Value} {below : List Frame} {meth : Method} {c : Code} {H : Heap} {locs : List Loc} {cells slots : Nat} {Q : State → Prop} {cc : ByteArray} {nL pc : Nat} {D : va_G} {cI cB cZ : ClassId} {ws : va_W} {rest : List Value} {ls : Array Slot} {a : Nat} {fs : List Value} {v : Value} (S : SF p m c cc nL s args RX11) (hK : KK D cI cB cZ s) (hP : va_P D vwCl ws H) (q0 : Nat) (he : ws[q0]? = some (a, .inr (5, fs))) (hv : fs[1]? = some v) (hdg : decode cc pc = .ok (.getfield 405, 3)) (kk : W p l e R s m args below meth c H locs cells slots Q (F0 m (pc + 3) ls (v :: rest))) : W p l e R s m args below meth c H locs cells slots Q (F0 m pc ls (.ref a :: rest)) :=
  va_get (C := RX4) (T := TX4) (N := 5) S.1 S.2.1 S.2.2.2.2 hin_RX4 S.2.2.2.1 hK.1 hP q0 he rfl 1 (by decide) (S.2.2.2.2 _ (wk5_6 8 rfl rfl)) (fun _ h9 => h9) hv hdg kk
set_option maxRecDepth 100000 in
theorem gf_RX11_408 {p : Program} {l : Launch} {e : Env} {R : Room} {s : State} {m : MethodId} {args : Array Value} {below : List Frame} {meth : Method} {c : Code} {H : Heap} {locs : List Loc} {cells slots : Nat} {Q : State → Prop} {cc : ByteArray} {nL pc : Nat} {D : va_G} {cI cB cZ : ClassId} {ws : va_W} {rest : List Value} {ls : Array Slot} {a : Nat} {fs : List Value} {v : Value} (S : SF p m c cc nL s args RX11) (hK : KK D cI cB cZ s) (hP : va_P D vwCl ws H) (q0 : Nat) (he : ws[q0]? = some (a, .inr (5, fs))) (hv : fs[2]? = some v) (hdg : decode cc pc = .ok (.getfield 408, 3)) (kk : W p l e R s m args below meth c H locs cells slots Q (F0 m (pc + 3) ls (v :: rest))) : W p l e R s m args below meth c H locs cells slots Q (F0 m pc ls (.ref a :: rest)) :=
  va_get (C := RX4) (T := TX4) (N := 5) S.1 S.2.1 S.2.2.2.2 hin_RX4 S.2.2.2.1 hK.1 hP q0 he rfl 2 (by decide) (S.2.2.2.2 _ (wk5_6 10 rfl rfl)) (fun _ h9 => h9) hv hdg kk
set_option maxRecDepth 100000 in
theorem kV_RX11_411 : CalV RX11 411 yX11_sharesWithEarlier cX11_sharesWithEarlier 5 (some .boolean) 2 := ⟨⟨wk5_8 6 rfl rfl, wk5_8 8 rfl rfl, wT_sel 53 _ rfl rfl rfl, wk1_0 1 rfl rfl, wk5_8 9 rfl rfl⟩, ⟨nmh_0.1, nmh_0.2, pd_43⟩⟩
set_option maxRecDepth 100000 in
theorem gf_RX11_415 {p : Program} {l : Launch} {e : Env} {R : Room} {s : State} {m : MethodId} {args : Array Value} {below : List Frame} {meth : Method} {c : Code} {H : Heap} {locs : List Loc} {cells slots : Nat} {Q : State → Prop} {cc : ByteArray} {nL pc : Nat} {D : va_G} {cI cB cZ : ClassId} {ws : va_W} {rest : List Value} {ls : Array Slot} {a : Nat} {fs : List Value} {v : Value} (S : SF p m c cc nL s args RX11) (hK : KK D cI cB cZ s) (hP : va_P D vwCl ws H) (q0 : Nat) (he : ws[q0]? = some (a, .inr (5, fs))) (hv : fs[3]? = some v) (hdg : decode cc pc = .ok (.getfield 415, 3)) (kk : W p l e R s m args below meth c H locs cells slots Q (F0 m (pc + 3) ls (v :: rest))) : W p l e R s m args below meth c H locs cells slots Q (F0 m pc ls (.ref a :: rest)) :=
  va_get (C := RX4) (T := TX4) (N := 5) S.1 S.2.1 S.2.2.2.2 hin_RX4 S.2.2.2.1 hK.1 hP q0 he rfl 3 (by decide) (S.2.2.2.2 _ (wk5_7 0 rfl rfl)) (fun _ h9 => h9) hv hdg kk
set_option maxRecDepth 100000 in
theorem kV_RX11_418 : CalV RX11 418 yX11_firstProofBehind cX11_firstProofBehind 8 (some (.object "OilHome$Proof")) 3 := ⟨⟨wk5_4 3 rfl rfl, wk5_4 5 rfl rfl, wT_sel 50 _ rfl rfl rfl, wk1_0 1 rfl rfl, wk5_4 6 rfl rfl⟩, ⟨nmh_0.1, nmh_0.2, pd_24⟩⟩
set_option maxRecDepth 100000 in
theorem kV_RX11_385 : CalV RX11 385 yX11_provenLitres cX11_provenLitres 7 (some .int) 2 := ⟨⟨wk5_3 11 rfl rfl, wk5_4 1 rfl rfl, wT_sel 49 _ rfl rfl rfl, wk1_0 1 rfl rfl, wk5_4 2 rfl rfl⟩, ⟨nmh_0.1, nmh_0.2, pd_17⟩⟩
set_option maxRecDepth 100000 in
theorem gf_RX11_342 {p : Program} {l : Launch} {e : Env} {R : Room} {s : State} {m : MethodId} {args : Array Value} {below : List Frame} {meth : Method} {c : Code} {H : Heap} {locs : List Loc} {cells slots : Nat} {Q : State → Prop} {cc : ByteArray} {nL pc : Nat} {D : va_G} {cI cB cZ : ClassId} {ws : va_W} {rest : List Value} {ls : Array Slot} {a : Nat} {fs : List Value} {v : Value} (S : SF p m c cc nL s args RX11) (hK : KK D cI cB cZ s) (hP : va_P D vwCl ws H) (q0 : Nat) (he : ws[q0]? = some (a, .inr (1, fs))) (hv : fs[6]? = some v) (hdg : decode cc pc = .ok (.getfield 342, 3)) (kk : W p l e R s m args below meth c H locs cells slots Q (F0 m (pc + 3) ls (v :: rest))) : W p l e R s m args below meth c H locs cells slots Q (F0 m pc ls (.ref a :: rest)) :=
  va_get (C := RX0) (T := TX0) (N := 8) S.1 S.2.1 S.2.2.2.2 hin_RX0 S.2.2.2.1 hK.1 hP q0 he rfl 6 (by decide) (S.2.2.2.2 _ (wk4_18 11 rfl rfl)) (fun _ h9 => h9) hv hdg kk
set_option maxRecDepth 100000 in
theorem kV_RX11_378 : CalV RX11 378 yX0_has cX0_has 2 (some .boolean) 1 := ⟨⟨wk5_3 2 rfl rfl, wk5_1 3 rfl rfl, wk5_1 4 rfl rfl, wk1_1 11 rfl rfl, wk5_1 5 rfl rfl⟩, ⟨nmh_1.1, nmh_1.2, pd_15⟩⟩
set_option maxRecDepth 100000 in
theorem gf_RX11_202 {p : Program} {l : Launch} {e : Env} {R : Room} {s : State} {m : MethodId} {args : Array Value} {below : List Frame} {meth : Method} {c : Code} {H : Heap} {locs : List Loc} {cells slots : Nat} {Q : State → Prop} {cc : ByteArray} {nL pc : Nat} {D : va_G} {cI cB cZ : ClassId} {ws : va_W} {rest : List Value} {ls : Array Slot} {a : Nat} {fs : List Value} {v : Value} (S : SF p m c cc nL s args RX11) (hK : KK D cI cB cZ s) (hP : va_P D vwCl ws H) (q0 : Nat) (he : ws[q0]? = some (a, .inr (3, fs))) (hv : fs[2]? = some v) (hdg : decode cc pc = .ok (.getfield 202, 3)) (kk : W p l e R s m args below meth c H locs cells slots Q (F0 m (pc + 3) ls (v :: rest))) : W p l e R s m args below meth c H locs cells slots Q (F0 m pc ls (.ref a :: rest)) :=
  va_get (C := RX2) (T := TX2) (N := 10) S.1 S.2.1 S.2.2.2.2 hin_RX2 S.2.2.2.1 hK.1 hP q0 he rfl 2 (by decide) (S.2.2.2.2 _ (wk2_18 0 rfl rfl)) (fun _ h9 => h9) hv hdg kk
set_option maxRecDepth 100000 in
theorem kV_RX11_422 : CalV RX11 422 yX11_proofAt cX11_proofAt 2 (some (.object "OilHome$Proof")) 1 := ⟨⟨wk5_9 10 rfl rfl, wk5_10 0 rfl rfl, wT_sel 54 _ rfl rfl rfl, wk1_0 1 rfl rfl, wk5_10 1 rfl rfl⟩, ⟨nmh_0.1, nmh_0.2, pd_12⟩⟩
set_option maxRecDepth 100000 in
theorem kV_RX11_432 : CalV RX11 432 yX4_litres cX4_litres 1 (some .int) 0 := ⟨⟨wk5_11 2 rfl rfl, wk5_11 3 rfl rfl, wk5_11 4 rfl rfl, wk1_2 0 rfl rfl, wk5_11 5 rfl rfl⟩, ⟨nmh_5.1, nmh_5.2, pd_1⟩⟩
set_option maxRecDepth 100000 in
theorem gf_RX11_434 {p : Program} {l : Launch} {e : Env} {R : Room} {s : State} {m : MethodId} {args : Array Value} {below : List Frame} {meth : Method} {c : Code} {H : Heap} {locs : List Loc} {cells slots : Nat} {Q : State → Prop} {cc : ByteArray} {nL pc : Nat} {D : va_G} {cI cB cZ : ClassId} {ws : va_W} {rest : List Value} {ls : Array Slot} {a : Nat} {fs : List Value} {v : Value} (S : SF p m c cc nL s args RX11) (hK : KK D cI cB cZ s) (hP : va_P D vwCl ws H) (q0 : Nat) (he : ws[q0]? = some (a, .inr (5, fs))) (hv : fs[4]? = some v) (hdg : decode cc pc = .ok (.getfield 434, 3)) (kk : W p l e R s m args below meth c H locs cells slots Q (F0 m (pc + 3) ls (v :: rest))) : W p l e R s m args below meth c H locs cells slots Q (F0 m pc ls (.ref a :: rest)) :=
  va_get (C := RX4) (T := TX4) (N := 5) S.1 S.2.1 S.2.2.2.2 hin_RX4 S.2.2.2.1 hK.1 hP q0 he rfl 4 (by decide) (S.2.2.2.2 _ (wk5_7 2 rfl rfl)) (fun _ h9 => h9) hv hdg kk
set_option maxRecDepth 100000 in
theorem kV_RX11_438 : CalV RX11 438 yX11_boughtIn cX11_boughtIn 6 (some .int) 2 := ⟨⟨wk5_12 2 rfl rfl, wk5_12 4 rfl rfl, wT_sel 55 _ rfl rfl rfl, wk1_0 1 rfl rfl, wk5_12 5 rfl rfl⟩, ⟨nmh_0.1, nmh_0.2, pd_17⟩⟩
set_option maxRecDepth 100000 in
theorem pf_RX11_477 {p : Program} {l : Launch} {e : Env} {R : Room} {s : State} {m : MethodId} {args : Array Value} {below : List Frame} {meth : Method} {c : Code} {H : Heap} {locs : List Loc} {cells slots : Nat} {Q : State → Prop} {cc : ByteArray} {nL pc : Nat} {D : va_G} {cI cB cZ : ClassId} {ws : va_W} {rest : List Value} {ls : Array Slot} {a : Nat} {fs : List Value} {v : Value} {A : Nat → Prop} {H0 : Heap} (S : SF p m c cc nL s args RX11) (hK : KK D cI cB cZ s) (hP : va_P D vwCl ws H) (hD : va_D A ws) (hS : va_S A H0 H locs) (q0 : Nat) (he : ws[q0]? = some (a, .inr (7, fs))) (hl : 2 < fs.length) (hn : narrow (tyX6 2) v = v) (hfit : fits (tyX6 2) v = true) (hdg : decode cc pc = .ok (.putfield 477, 3)) (kk : ∀ (H1 : Heap) (locs1 : List Loc), va_P D vwCl (ws.set q0 (a, .inr (7, fs.set 2 v))) H1 → va_D A (ws.set q0 (a, .inr (7, fs.set 2 v))) → va_S A H0 H1 locs1 → W p l e R s m args below meth c H1 locs1 cells slots Q (F0 m (pc + 3) ls rest)) : W p l e R s m args below meth c H locs cells slots Q (F0 m pc ls (v :: .ref a :: rest)) :=
  va_put (C := RX6) (T := TX6) (N := 3) S.1 S.2.1 S.2.2.2.2 hin_RX6 tyX6 tyX6_ok nmX6 S.2.2.2.1 hK.1 hP hD hS q0 he rfl 2 (by decide) (S.2.2.2.2 _ (wk5_18 3 rfl rfl)) (fun _ h9 => h9) rfl (tyX6_ok 2 (by decide)) hn hfit hl hdg kk
set_option maxRecDepth 100000 in
theorem kV_RX11_530 : CalV RX11 530 yX8_number cX8_number 4 (some .int) 1 := ⟨⟨wk6_7 6 rfl rfl, wk6_7 7 rfl rfl, wk6_7 8 rfl rfl, wk1_0 4 rfl rfl, wk6_7 9 rfl rfl⟩, ⟨nmh_9.1, nmh_9.2, pd_8⟩⟩
set_option maxRecDepth 100000 in
theorem kV_RX11_526 : CalV RX11 526 yX11_wrongPart cX11_wrongPart 4 (some .int) 3 := ⟨⟨wk6_7 2 rfl rfl, wk6_7 4 rfl rfl, wT_sel 64 _ rfl rfl rfl, wk1_0 1 rfl rfl, wk6_7 5 rfl rfl⟩, ⟨nmh_0.1, nmh_0.2, pd_53⟩⟩
set_option maxRecDepth 100000 in
theorem kV_RX11_523 : CalV RX11 523 yX11_firstWrong cX11_firstWrong 7 (some .int) 2 := ⟨⟨wk6_6 10 rfl rfl, wk6_7 0 rfl rfl, wT_sel 63 _ rfl rfl rfl, wk1_0 1 rfl rfl, wk6_7 1 rfl rfl⟩, ⟨nmh_0.1, nmh_0.2, pd_17⟩⟩
set_option maxRecDepth 100000 in
theorem kV_RX11_343 : CalV RX11 343 yX0_water cX0_water 1 (some .int) 0 := ⟨⟨wk5_2 2 rfl rfl, wk5_2 3 rfl rfl, wk5_2 4 rfl rfl, wk1_1 11 rfl rfl, wk5_2 5 rfl rfl⟩, ⟨nmh_1.1, nmh_1.2, pd_1⟩⟩
set_option maxRecDepth 100000 in
theorem kV_RX11_345 : CalV RX11 345 yX0_acid cX0_acid 1 (some .int) 0 := ⟨⟨wk5_2 6 rfl rfl, wk5_2 7 rfl rfl, wk5_2 8 rfl rfl, wk1_1 11 rfl rfl, wk5_2 9 rfl rfl⟩, ⟨nmh_1.1, nmh_1.2, pd_1⟩⟩
set_option maxRecDepth 100000 in
theorem gf_RX11_388 {p : Program} {l : Launch} {e : Env} {R : Room} {s : State} {m : MethodId} {args : Array Value} {below : List Frame} {meth : Method} {c : Code} {H : Heap} {locs : List Loc} {cells slots : Nat} {Q : State → Prop} {cc : ByteArray} {nL pc : Nat} {D : va_G} {cI cB cZ : ClassId} {ws : va_W} {rest : List Value} {ls : Array Slot} {a : Nat} {fs : List Value} {v : Value} (S : SF p m c cc nL s args RX11) (hK : KK D cI cB cZ s) (hP : va_P D vwCl ws H) (q0 : Nat) (he : ws[q0]? = some (a, .inr (1, fs))) (hv : fs[4]? = some v) (hdg : decode cc pc = .ok (.getfield 388, 3)) (kk : W p l e R s m args below meth c H locs cells slots Q (F0 m (pc + 3) ls (v :: rest))) : W p l e R s m args below meth c H locs cells slots Q (F0 m pc ls (.ref a :: rest)) :=
  va_get (C := RX0) (T := TX0) (N := 8) S.1 S.2.1 S.2.2.2.2 hin_RX0 S.2.2.2.1 hK.1 hP q0 he rfl 4 (by decide) (S.2.2.2.2 _ (wk4_18 7 rfl rfl)) (fun _ h9 => h9) hv hdg kk
set_option maxRecDepth 100000 in
theorem gf_RX11_349 {p : Program} {l : Launch} {e : Env} {R : Room} {s : State} {m : MethodId} {args : Array Value} {below : List Frame} {meth : Method} {c : Code} {H : Heap} {locs : List Loc} {cells slots : Nat} {Q : State → Prop} {cc : ByteArray} {nL pc : Nat} {D : va_G} {cI cB cZ : ClassId} {ws : va_W} {rest : List Value} {ls : Array Slot} {a : Nat} {fs : List Value} {v : Value} (S : SF p m c cc nL s args RX11) (hK : KK D cI cB cZ s) (hP : va_P D vwCl ws H) (q0 : Nat) (he : ws[q0]? = some (a, .inr (3, fs))) (hv : fs[9]? = some v) (hdg : decode cc pc = .ok (.getfield 349, 3)) (kk : W p l e R s m args below meth c H locs cells slots Q (F0 m (pc + 3) ls (v :: rest))) : W p l e R s m args below meth c H locs cells slots Q (F0 m pc ls (.ref a :: rest)) :=
  va_get (C := RX2) (T := TX2) (N := 10) S.1 S.2.1 S.2.2.2.2 hin_RX2 S.2.2.2.1 hK.1 hP q0 he rfl 9 (by decide) (S.2.2.2.2 _ (wk2_19 0 rfl rfl)) (fun _ h9 => h9) hv hdg kk
set_option maxRecDepth 100000 in
theorem gf_RX11_235 {p : Program} {l : Launch} {e : Env} {R : Room} {s : State} {m : MethodId} {args : Array Value} {below : List Frame} {meth : Method} {c : Code} {H : Heap} {locs : List Loc} {cells slots : Nat} {Q : State → Prop} {cc : ByteArray} {nL pc : Nat} {D : va_G} {cI cB cZ : ClassId} {ws : va_W} {rest : List Value} {ls : Array Slot} {a : Nat} {fs : List Value} {v : Value} (S : SF p m c cc nL s args RX11) (hK : KK D cI cB cZ s) (hP : va_P D vwCl ws H) (q0 : Nat) (he : ws[q0]? = some (a, .inr (3, fs))) (hv : fs[5]? = some v) (hdg : decode cc pc = .ok (.getfield 235, 3)) (kk : W p l e R s m args below meth c H locs cells slots Q (F0 m (pc + 3) ls (v :: rest))) : W p l e R s m args below meth c H locs cells slots Q (F0 m pc ls (.ref a :: rest)) :=
  va_get (C := RX2) (T := TX2) (N := 10) S.1 S.2.1 S.2.2.2.2 hin_RX2 S.2.2.2.1 hK.1 hP q0 he rfl 5 (by decide) (S.2.2.2.2 _ (wk2_18 8 rfl rfl)) (fun _ h9 => h9) hv hdg kk
set_option maxRecDepth 100000 in
theorem gf_RX11_168 {p : Program} {l : Launch} {e : Env} {R : Room} {s : State} {m : MethodId} {args : Array Value} {below : List Frame} {meth : Method} {c : Code} {H : Heap} {locs : List Loc} {cells slots : Nat} {Q : State → Prop} {cc : ByteArray} {nL pc : Nat} {D : va_G} {cI cB cZ : ClassId} {ws : va_W} {rest : List Value} {ls : Array Slot} {a : Nat} {fs : List Value} {v : Value} (S : SF p m c cc nL s args RX11) (hK : KK D cI cB cZ s) (hP : va_P D vwCl ws H) (q0 : Nat) (he : ws[q0]? = some (a, .inr (2, fs))) (hv : fs[10]? = some v) (hdg : decode cc pc = .ok (.getfield 168, 3)) (kk : W p l e R s m args below meth c H locs cells slots Q (F0 m (pc + 3) ls (v :: rest))) : W p l e R s m args below meth c H locs cells slots Q (F0 m pc ls (.ref a :: rest)) :=
  va_get (C := RX1) (T := TX1) (N := 11) S.1 S.2.1 S.2.2.2.2 hin_RX1 S.2.2.2.1 hK.1 hP q0 he rfl 10 (by decide) (S.2.2.2.2 _ (wk2_7 6 rfl rfl)) (fun _ h9 => h9) hv hdg kk
set_option maxRecDepth 100000 in
theorem hin_RX9 : ∀ w ∈ u_ws RX9 TX9 9, w ∈ wT := hin_all (C := RX9) (T := TX9) (n := 9) (hin_s (hin_s (hin_s (hin_s (hin_s (hin_s (hin_s (hin_s (hin_s (fun k hk => absurd hk (Nat.not_lt_zero k)) (wk1_4 7 rfl rfl)) (wk1_4 9 rfl rfl)) (wk1_4 11 rfl rfl)) (wk1_5 1 rfl rfl)) (wk1_5 3 rfl rfl)) (wk1_5 5 rfl rfl)) (wk1_5 7 rfl rfl)) (wk1_5 9 rfl rfl)) (wk1_5 11 rfl rfl))
set_option maxRecDepth 100000 in
theorem gf_RX11_171 {p : Program} {l : Launch} {e : Env} {R : Room} {s : State} {m : MethodId} {args : Array Value} {below : List Frame} {meth : Method} {c : Code} {H : Heap} {locs : List Loc} {cells slots : Nat} {Q : State → Prop} {cc : ByteArray} {nL pc : Nat} {D : va_G} {cI cB cZ : ClassId} {ws : va_W} {rest : List Value} {ls : Array Slot} {a : Nat} {fs : List Value} {v : Value} (S : SF p m c cc nL s args RX11) (hK : KK D cI cB cZ s) (hP : va_P D vwCl ws H) (q0 : Nat) (he : ws[q0]? = some (a, .inr (10, fs))) (hv : fs[8]? = some v) (hdg : decode cc pc = .ok (.getfield 171, 3)) (kk : W p l e R s m args below meth c H locs cells slots Q (F0 m (pc + 3) ls (v :: rest))) : W p l e R s m args below meth c H locs cells slots Q (F0 m pc ls (.ref a :: rest)) :=
  va_get (C := RX9) (T := TX9) (N := 9) S.1 S.2.1 S.2.2.2.2 hin_RX9 S.2.2.2.1 hK.1 hP q0 he rfl 8 (by decide) (S.2.2.2.2 _ (wk1_4 6 rfl rfl)) (fun _ h9 => h9) hv hdg kk
set_option maxRecDepth 100000 in
theorem gf_RX11_12 {p : Program} {l : Launch} {e : Env} {R : Room} {s : State} {m : MethodId} {args : Array Value} {below : List Frame} {meth : Method} {c : Code} {H : Heap} {locs : List Loc} {cells slots : Nat} {Q : State → Prop} {cc : ByteArray} {nL pc : Nat} {D : va_G} {cI cB cZ : ClassId} {ws : va_W} {rest : List Value} {ls : Array Slot} {a : Nat} {fs : List Value} {v : Value} (S : SF p m c cc nL s args RX11) (hK : KK D cI cB cZ s) (hP : va_P D vwCl ws H) (q0 : Nat) (he : ws[q0]? = some (a, .inr (12, fs))) (hv : fs[4]? = some v) (hdg : decode cc pc = .ok (.getfield 12, 3)) (kk : W p l e R s m args below meth c H locs cells slots Q (F0 m (pc + 3) ls (v :: rest))) : W p l e R s m args below meth c H locs cells slots Q (F0 m pc ls (.ref a :: rest)) :=
  va_get (C := RX11) (T := TX11) (N := 16) S.1 S.2.1 S.2.2.2.2 hin_RX11 S.2.2.2.1 hK.1 hP q0 he rfl 4 (by decide) (S.2.2.2.2 _ (wk2_0 0 rfl rfl)) (fun _ h9 => h9) hv hdg kk
set_option maxRecDepth 100000 in
theorem kV_RX11_533 : CalV RX11 533 yX11_countOfAll cX11_countOfAll 2 (some .int) 1 := ⟨⟨wk6_8 3 rfl rfl, wk6_8 5 rfl rfl, wT_sel 65 _ rfl rfl rfl, wk1_0 1 rfl rfl, wk6_8 6 rfl rfl⟩, ⟨nmh_0.1, nmh_0.2, pd_8⟩⟩
set_option maxRecDepth 100000 in
theorem kV_RX11_536 : CalV RX11 536 yX11_countOfKitchen cX11_countOfKitchen 3 (some .int) 2 := ⟨⟨wk6_8 7 rfl rfl, wk6_8 9 rfl rfl, wT_sel 66 _ rfl rfl rfl, wk1_0 1 rfl rfl, wk6_8 10 rfl rfl⟩, ⟨nmh_0.1, nmh_0.2, pd_49⟩⟩
set_option maxRecDepth 100000 in
theorem gf_RX11_381 {p : Program} {l : Launch} {e : Env} {R : Room} {s : State} {m : MethodId} {args : Array Value} {below : List Frame} {meth : Method} {c : Code} {H : Heap} {locs : List Loc} {cells slots : Nat} {Q : State → Prop} {cc : ByteArray} {nL pc : Nat} {D : va_G} {cI cB cZ : ClassId} {ws : va_W} {rest : List Value} {ls : Array Slot} {a : Nat} {fs : List Value} {v : Value} (S : SF p m c cc nL s args RX11) (hK : KK D cI cB cZ s) (hP : va_P D vwCl ws H) (q0 : Nat) (he : ws[q0]? = some (a, .inr (1, fs))) (hv : fs[7]? = some v) (hdg : decode cc pc = .ok (.getfield 381, 3)) (kk : W p l e R s m args below meth c H locs cells slots Q (F0 m (pc + 3) ls (v :: rest))) : W p l e R s m args below meth c H locs cells slots Q (F0 m pc ls (.ref a :: rest)) :=
  va_get (C := RX0) (T := TX0) (N := 8) S.1 S.2.1 S.2.2.2.2 hin_RX0 S.2.2.2.1 hK.1 hP q0 he rfl 7 (by decide) (S.2.2.2.2 _ (wk4_19 0 rfl rfl)) (fun _ h9 => h9) hv hdg kk
noncomputable def sxX4_litres_10 : List UInt8 := []
theorem shX4_litres_0 : cX4_litres.data.toList.drop 0 = 42 :: 180 :: 0 :: 16 :: 42 :: 180 :: 0 :: 13 :: 100 :: 172 :: sxX4_litres_10 := rfl
noncomputable def sxX0_has_17 : List UInt8 := []
theorem shX0_has_0 : cX0_has.data.toList.drop 0 = 42 :: 180 :: 0 :: 13 :: 27 :: 122 :: 4 :: 126 :: 153 :: 0 :: 7 :: 4 :: 167 :: 0 :: 4 :: 3 :: 172 :: sxX0_has_17 := rfl
theorem dX0_has_16 : decode cX0_has 16 = .ok (.ireturn, 1) := oc_172 16 (aq_16 shX0_has_0)
noncomputable def sxX0_water_21 : List UInt8 := []
theorem shX0_water_0 : cX0_water.data.toList.drop 0 = 42 :: 180 :: 0 :: 24 :: 154 :: 0 :: 7 :: 3 :: 167 :: 0 :: 12 :: 42 :: 180 :: 0 :: 30 :: 42 :: 180 :: 0 :: 24 :: 108 :: 172 :: sxX0_water_21 := rfl
theorem dX0_water_20 : decode cX0_water 20 = .ok (.ireturn, 1) := oc_172 20 (aq_20 shX0_water_0)
noncomputable def sxX0_acid_21 : List UInt8 := []
theorem shX0_acid_0 : cX0_acid.data.toList.drop 0 = 42 :: 180 :: 0 :: 24 :: 154 :: 0 :: 7 :: 3 :: 167 :: 0 :: 12 :: 42 :: 180 :: 0 :: 36 :: 42 :: 180 :: 0 :: 24 :: 108 :: 172 :: sxX0_acid_21 := rfl
theorem dX0_acid_20 : decode cX0_acid 20 = .ok (.ireturn, 1) := oc_172 20 (aq_20 shX0_acid_0)
noncomputable def sxX0_addSample_23 : List UInt8 := []
theorem shX0_addSample_0 : cX0_addSample.data.toList.drop 0 = 42 :: 180 :: 0 :: 9 :: 42 :: 180 :: 0 :: 42 :: 27 :: 184 :: 0 :: 45 :: 42 :: 89 :: 180 :: 0 :: 42 :: 4 :: 96 :: 181 :: 0 :: 42 :: 177 :: sxX0_addSample_23 := rfl
noncomputable def sxX0_samplesFrom_40 : List UInt8 := []
noncomputable def sxX0_samplesFrom_25 : List UInt8 := 4 :: 167 :: 0 :: 4 :: 3 :: 96 :: 61 :: 132 :: 3 :: 1 :: 167 :: 255 :: 225 :: 28 :: 172 :: sxX0_samplesFrom_40
theorem shX0_samplesFrom_0 : cX0_samplesFrom.data.toList.drop 0 = 3 :: 61 :: 3 :: 62 :: 29 :: 42 :: 180 :: 0 :: 42 :: 162 :: 0 :: 29 :: 28 :: 42 :: 180 :: 0 :: 9 :: 29 :: 184 :: 0 :: 51 :: 27 :: 161 :: 0 :: 7 :: sxX0_samplesFrom_25 := rfl
theorem shX0_samplesFrom_25 : cX0_samplesFrom.data.toList.drop 25 = 4 :: 167 :: 0 :: 4 :: 3 :: 96 :: 61 :: 132 :: 3 :: 1 :: 167 :: 255 :: 225 :: 28 :: 172 :: sxX0_samplesFrom_40 := aq_25 shX0_samplesFrom_0
noncomputable def sxX11_sample_42 : List UInt8 := []
noncomputable def sxX11_sample_25 : List UInt8 := 16 :: 12 :: 161 :: 0 :: 5 :: 2 :: 172 :: 45 :: 28 :: 182 :: 1 :: 188 :: 45 :: 180 :: 1 :: 185 :: 172 :: sxX11_sample_42
theorem shX11_sample_0 : cX11_sample.data.toList.drop 0 = 42 :: 27 :: 182 :: 1 :: 126 :: 78 :: 45 :: 198 :: 0 :: 23 :: 28 :: 3 :: 17 :: 3 :: 232 :: 184 :: 0 :: 80 :: 153 :: 0 :: 12 :: 45 :: 180 :: 1 :: 185 :: sxX11_sample_25 := rfl
theorem shX11_sample_25 : cX11_sample.data.toList.drop 25 = 16 :: 12 :: 161 :: 0 :: 5 :: 2 :: 172 :: 45 :: 28 :: 182 :: 1 :: 188 :: 45 :: 180 :: 1 :: 185 :: 172 :: sxX11_sample_42 := aq_25 shX11_sample_0
theorem dX11_sample_5 : decode cX11_sample 5 = .ok (.astore_n 3, 1) := oc_78 5 (aq_5 shX11_sample_0)
theorem dX11_sample_6 : decode cX11_sample 6 = .ok (.aload_n 3, 1) := oc_45 6 (aq_6 shX11_sample_0)
theorem dX11_sample_7 : decode cX11_sample 7 = .ok (.ifnull 23, 3) := oc_198 7 (aq_7 shX11_sample_0) sgw_0_23
theorem dX11_sample_18 : decode cX11_sample 18 = .ok (.ifCond .eq 12, 3) := oc_153 18 (aq_18 shX11_sample_0) sgw_0_12
theorem dX11_sample_30 : decode cX11_sample 30 = .ok (.iconst (-1), 1) := oc_2 30 (aq_5 shX11_sample_25)
theorem dX11_sample_31 : decode cX11_sample 31 = .ok (.ireturn, 1) := oc_172 31 (aq_6 shX11_sample_25)
noncomputable def sxX11_claim_80 : List UInt8 := []
noncomputable def sxX11_claim_74 : List UInt8 := 3 :: 167 :: 0 :: 4 :: 5 :: 172 :: sxX11_claim_80
noncomputable def sxX11_claim_48 : List UInt8 := 180 :: 1 :: 185 :: 21 :: 5 :: 100 :: 54 :: 6 :: 21 :: 5 :: 21 :: 6 :: 164 :: 0 :: 7 :: 4 :: 167 :: 0 :: 15 :: 21 :: 6 :: 21 :: 5 :: 164 :: 0 :: 7 :: sxX11_claim_74
noncomputable def sxX11_claim_24 : List UInt8 := 3 :: 17 :: 3 :: 232 :: 184 :: 0 :: 80 :: 154 :: 0 :: 5 :: 2 :: 172 :: 25 :: 4 :: 28 :: 29 :: 100 :: 182 :: 1 :: 191 :: 54 :: 5 :: 25 :: 4 :: sxX11_claim_48
theorem shX11_claim_0 : cX11_claim.data.toList.drop 0 = 42 :: 27 :: 182 :: 1 :: 126 :: 58 :: 4 :: 25 :: 4 :: 198 :: 0 :: 25 :: 28 :: 3 :: 17 :: 3 :: 232 :: 184 :: 0 :: 80 :: 153 :: 0 :: 14 :: 29 :: sxX11_claim_24 := rfl
theorem shX11_claim_24 : cX11_claim.data.toList.drop 24 = 3 :: 17 :: 3 :: 232 :: 184 :: 0 :: 80 :: 154 :: 0 :: 5 :: 2 :: 172 :: 25 :: 4 :: 28 :: 29 :: 100 :: 182 :: 1 :: 191 :: 54 :: 5 :: 25 :: 4 :: sxX11_claim_48 := aq_24 shX11_claim_0
theorem shX11_claim_48 : cX11_claim.data.toList.drop 48 = 180 :: 1 :: 185 :: 21 :: 5 :: 100 :: 54 :: 6 :: 21 :: 5 :: 21 :: 6 :: 164 :: 0 :: 7 :: 4 :: 167 :: 0 :: 15 :: 21 :: 6 :: 21 :: 5 :: 164 :: 0 :: 7 :: sxX11_claim_74 := aq_24 shX11_claim_24
theorem shX11_claim_74 : cX11_claim.data.toList.drop 74 = 3 :: 167 :: 0 :: 4 :: 5 :: 172 :: sxX11_claim_80 := aq_26 shX11_claim_48
noncomputable def sxX11_sharesWithEarlier_77 : List UInt8 := []
noncomputable def sxX11_sharesWithEarlier_76 : List UInt8 := 172 :: sxX11_sharesWithEarlier_77
noncomputable def sxX11_sharesWithEarlier_52 : List UInt8 := 162 :: 0 :: 17 :: 44 :: 180 :: 1 :: 149 :: 25 :: 4 :: 180 :: 1 :: 152 :: 162 :: 0 :: 5 :: 4 :: 172 :: 132 :: 3 :: 1 :: 167 :: 255 :: 186 :: 3 :: sxX11_sharesWithEarlier_76
noncomputable def sxX11_sharesWithEarlier_26 : List UInt8 := 192 :: 0 :: 97 :: 58 :: 4 :: 25 :: 4 :: 180 :: 1 :: 146 :: 44 :: 180 :: 1 :: 146 :: 160 :: 0 :: 29 :: 25 :: 4 :: 180 :: 1 :: 149 :: 44 :: 180 :: 1 :: 152 :: sxX11_sharesWithEarlier_52
theorem shX11_sharesWithEarlier_0 : cX11_sharesWithEarlier.data.toList.drop 0 = 3 :: 62 :: 29 :: 27 :: 162 :: 0 :: 71 :: 29 :: 42 :: 180 :: 0 :: 71 :: 182 :: 0 :: 84 :: 162 :: 0 :: 60 :: 42 :: 180 :: 0 :: 71 :: 29 :: 182 :: 0 :: 87 :: sxX11_sharesWithEarlier_26 := rfl
theorem shX11_sharesWithEarlier_26 : cX11_sharesWithEarlier.data.toList.drop 26 = 192 :: 0 :: 97 :: 58 :: 4 :: 25 :: 4 :: 180 :: 1 :: 146 :: 44 :: 180 :: 1 :: 146 :: 160 :: 0 :: 29 :: 25 :: 4 :: 180 :: 1 :: 149 :: 44 :: 180 :: 1 :: 152 :: sxX11_sharesWithEarlier_52 := aq_26 shX11_sharesWithEarlier_0
theorem shX11_sharesWithEarlier_52 : cX11_sharesWithEarlier.data.toList.drop 52 = 162 :: 0 :: 17 :: 44 :: 180 :: 1 :: 149 :: 25 :: 4 :: 180 :: 1 :: 152 :: 162 :: 0 :: 5 :: 4 :: 172 :: 132 :: 3 :: 1 :: 167 :: 255 :: 186 :: 3 :: sxX11_sharesWithEarlier_76 := aq_26 shX11_sharesWithEarlier_26
theorem shX11_sharesWithEarlier_76 : cX11_sharesWithEarlier.data.toList.drop 76 = 172 :: sxX11_sharesWithEarlier_77 := aq_24 shX11_sharesWithEarlier_52
noncomputable def sxX11_twice_52 : List UInt8 := []
noncomputable def sxX11_twice_50 : List UInt8 := 2 :: 172 :: sxX11_twice_52
noncomputable def sxX11_twice_24 : List UInt8 := 78 :: 45 :: 180 :: 1 :: 146 :: 27 :: 160 :: 0 :: 14 :: 42 :: 28 :: 45 :: 182 :: 1 :: 155 :: 153 :: 0 :: 5 :: 28 :: 172 :: 132 :: 2 :: 1 :: 167 :: 255 :: 211 :: sxX11_twice_50
theorem shX11_twice_0 : cX11_twice.data.toList.drop 0 = 3 :: 61 :: 28 :: 42 :: 180 :: 0 :: 71 :: 182 :: 0 :: 84 :: 162 :: 0 :: 40 :: 42 :: 180 :: 0 :: 71 :: 28 :: 182 :: 0 :: 87 :: 192 :: 0 :: 97 :: sxX11_twice_24 := rfl
theorem shX11_twice_24 : cX11_twice.data.toList.drop 24 = 78 :: 45 :: 180 :: 1 :: 146 :: 27 :: 160 :: 0 :: 14 :: 42 :: 28 :: 45 :: 182 :: 1 :: 155 :: 153 :: 0 :: 5 :: 28 :: 172 :: 132 :: 2 :: 1 :: 167 :: 255 :: 211 :: sxX11_twice_50 := aq_24 shX11_twice_0
theorem shX11_twice_50 : cX11_twice.data.toList.drop 50 = 2 :: 172 :: sxX11_twice_52 := aq_26 shX11_twice_24
noncomputable def sxX11_firstProofBehind_107 : List UInt8 := []
noncomputable def sxX11_firstProofBehind_96 : List UInt8 := 58 :: 4 :: 132 :: 5 :: 1 :: 167 :: 255 :: 161 :: 25 :: 4 :: 176 :: sxX11_firstProofBehind_107
noncomputable def sxX11_firstProofBehind_72 : List UInt8 := 27 :: 164 :: 0 :: 25 :: 25 :: 4 :: 198 :: 0 :: 16 :: 25 :: 6 :: 180 :: 1 :: 149 :: 25 :: 4 :: 180 :: 1 :: 149 :: 162 :: 0 :: 7 :: 25 :: 6 :: sxX11_firstProofBehind_96
noncomputable def sxX11_firstProofBehind_48 : List UInt8 := 180 :: 1 :: 159 :: 29 :: 160 :: 0 :: 7 :: 4 :: 167 :: 0 :: 4 :: 3 :: 54 :: 7 :: 21 :: 7 :: 153 :: 0 :: 34 :: 25 :: 6 :: 180 :: 1 :: 152 :: sxX11_firstProofBehind_72
noncomputable def sxX11_firstProofBehind_24 : List UInt8 := 182 :: 0 :: 87 :: 192 :: 0 :: 97 :: 58 :: 6 :: 25 :: 6 :: 180 :: 1 :: 146 :: 28 :: 160 :: 0 :: 21 :: 29 :: 2 :: 159 :: 0 :: 12 :: 25 :: 6 :: sxX11_firstProofBehind_48
theorem shX11_firstProofBehind_0 : cX11_firstProofBehind.data.toList.drop 0 = 1 :: 58 :: 4 :: 3 :: 54 :: 5 :: 21 :: 5 :: 42 :: 180 :: 0 :: 71 :: 182 :: 0 :: 84 :: 162 :: 0 :: 89 :: 42 :: 180 :: 0 :: 71 :: 21 :: 5 :: sxX11_firstProofBehind_24 := rfl
theorem shX11_firstProofBehind_24 : cX11_firstProofBehind.data.toList.drop 24 = 182 :: 0 :: 87 :: 192 :: 0 :: 97 :: 58 :: 6 :: 25 :: 6 :: 180 :: 1 :: 146 :: 28 :: 160 :: 0 :: 21 :: 29 :: 2 :: 159 :: 0 :: 12 :: 25 :: 6 :: sxX11_firstProofBehind_48 := aq_24 shX11_firstProofBehind_0
theorem shX11_firstProofBehind_48 : cX11_firstProofBehind.data.toList.drop 48 = 180 :: 1 :: 159 :: 29 :: 160 :: 0 :: 7 :: 4 :: 167 :: 0 :: 4 :: 3 :: 54 :: 7 :: 21 :: 7 :: 153 :: 0 :: 34 :: 25 :: 6 :: 180 :: 1 :: 152 :: sxX11_firstProofBehind_72 := aq_24 shX11_firstProofBehind_24
theorem shX11_firstProofBehind_72 : cX11_firstProofBehind.data.toList.drop 72 = 27 :: 164 :: 0 :: 25 :: 25 :: 4 :: 198 :: 0 :: 16 :: 25 :: 6 :: 180 :: 1 :: 149 :: 25 :: 4 :: 180 :: 1 :: 149 :: 162 :: 0 :: 7 :: 25 :: 6 :: sxX11_firstProofBehind_96 := aq_24 shX11_firstProofBehind_48
theorem shX11_firstProofBehind_96 : cX11_firstProofBehind.data.toList.drop 96 = 58 :: 4 :: 132 :: 5 :: 1 :: 167 :: 255 :: 161 :: 25 :: 4 :: 176 :: sxX11_firstProofBehind_107 := aq_24 shX11_firstProofBehind_72
theorem dX11_firstProofBehind_59 : decode cX11_firstProofBehind 59 = .ok (.iconst 0, 1) := oc_3 59 (aq_11 shX11_firstProofBehind_48)
theorem dX11_firstProofBehind_60 : decode cX11_firstProofBehind 60 = .ok (.istore 7, 2) := oc_54 60 (aq_12 shX11_firstProofBehind_48) ub_7
theorem dX11_firstProofBehind_62 : decode cX11_firstProofBehind 62 = .ok (.iload 7, 2) := oc_21 62 (aq_14 shX11_firstProofBehind_48) ub_7
theorem dX11_firstProofBehind_64 : decode cX11_firstProofBehind 64 = .ok (.ifCond .eq 34, 3) := oc_153 64 (aq_16 shX11_firstProofBehind_48) sgw_0_34
theorem dX11_firstProofBehind_98 : decode cX11_firstProofBehind 98 = .ok (.iinc 5 1, 3) := oc_132 98 (aq_2 shX11_firstProofBehind_96) ub_5 sgb_1
theorem dX11_firstProofBehind_101 : decode cX11_firstProofBehind 101 = .ok (.goto (-95), 3) := oc_167 101 (aq_5 shX11_firstProofBehind_96) sgw_255_161
theorem dX11_firstProofBehind_55 : decode cX11_firstProofBehind 55 = .ok (.iconst 1, 1) := oc_4 55 (aq_7 shX11_firstProofBehind_48)
theorem dX11_firstProofBehind_56 : decode cX11_firstProofBehind 56 = .ok (.goto 4, 3) := oc_167 56 (aq_8 shX11_firstProofBehind_48) sgw_0_4
theorem dX11_firstProofBehind_67 : decode cX11_firstProofBehind 67 = .ok (.aload 6, 2) := oc_25 67 (aq_19 shX11_firstProofBehind_48) ub_6
theorem dX11_firstProofBehind_69 : decode cX11_firstProofBehind 69 = .ok (.getfield 408, 3) := oc_180 69 (aq_21 shX11_firstProofBehind_48) uw_1_152
theorem dX11_firstProofBehind_72 : decode cX11_firstProofBehind 72 = .ok (.iload_n 1, 1) := oc_27 72 shX11_firstProofBehind_72
theorem dX11_firstProofBehind_73 : decode cX11_firstProofBehind 73 = .ok (.if_icmp .le 25, 3) := oc_164 73 (aq_1 shX11_firstProofBehind_72) sgw_0_25
theorem dX11_firstProofBehind_76 : decode cX11_firstProofBehind 76 = .ok (.aload 4, 2) := oc_25 76 (aq_4 shX11_firstProofBehind_72) ub_4
theorem dX11_firstProofBehind_78 : decode cX11_firstProofBehind 78 = .ok (.ifnull 16, 3) := oc_198 78 (aq_6 shX11_firstProofBehind_72) sgw_0_16
theorem dX11_firstProofBehind_94 : decode cX11_firstProofBehind 94 = .ok (.aload 6, 2) := oc_25 94 (aq_22 shX11_firstProofBehind_72) ub_6
theorem dX11_firstProofBehind_96 : decode cX11_firstProofBehind 96 = .ok (.astore 4, 2) := oc_58 96 shX11_firstProofBehind_96 ub_4
noncomputable def sxX11_provenLitres_67 : List UInt8 := []
noncomputable def sxX11_provenLitres_49 : List UInt8 := 100 :: 96 :: 62 :: 25 :: 6 :: 180 :: 1 :: 152 :: 54 :: 4 :: 132 :: 5 :: 1 :: 167 :: 255 :: 202 :: 29 :: 172 :: sxX11_provenLitres_67
noncomputable def sxX11_provenLitres_25 : List UInt8 := 25 :: 6 :: 199 :: 0 :: 6 :: 167 :: 0 :: 35 :: 29 :: 25 :: 6 :: 180 :: 1 :: 152 :: 25 :: 6 :: 180 :: 1 :: 149 :: 21 :: 4 :: 184 :: 0 :: 232 :: sxX11_provenLitres_49
theorem shX11_provenLitres_0 : cX11_provenLitres.data.toList.drop 0 = 3 :: 62 :: 3 :: 54 :: 4 :: 3 :: 54 :: 5 :: 21 :: 5 :: 16 :: 40 :: 162 :: 0 :: 53 :: 42 :: 21 :: 4 :: 27 :: 28 :: 182 :: 1 :: 162 :: 58 :: 6 :: sxX11_provenLitres_25 := rfl
theorem shX11_provenLitres_25 : cX11_provenLitres.data.toList.drop 25 = 25 :: 6 :: 199 :: 0 :: 6 :: 167 :: 0 :: 35 :: 29 :: 25 :: 6 :: 180 :: 1 :: 152 :: 25 :: 6 :: 180 :: 1 :: 149 :: 21 :: 4 :: 184 :: 0 :: 232 :: sxX11_provenLitres_49 := aq_25 shX11_provenLitres_0
theorem shX11_provenLitres_49 : cX11_provenLitres.data.toList.drop 49 = 100 :: 96 :: 62 :: 25 :: 6 :: 180 :: 1 :: 152 :: 54 :: 4 :: 132 :: 5 :: 1 :: 167 :: 255 :: 202 :: 29 :: 172 :: sxX11_provenLitres_67 := aq_24 shX11_provenLitres_25
noncomputable def sxX11_bought_29 : List UInt8 := []
noncomputable def sxX11_bought_24 : List UInt8 := 28 :: 182 :: 1 :: 129 :: 172 :: sxX11_bought_29
theorem shX11_bought_0 : cX11_bought.data.toList.drop 0 = 42 :: 27 :: 182 :: 1 :: 126 :: 198 :: 0 :: 13 :: 28 :: 3 :: 16 :: 9 :: 184 :: 0 :: 80 :: 154 :: 0 :: 7 :: 2 :: 167 :: 0 :: 9 :: 42 :: 27 :: sxX11_bought_24 := rfl
theorem shX11_bought_24 : cX11_bought.data.toList.drop 24 = 28 :: 182 :: 1 :: 129 :: 172 :: sxX11_bought_29 := aq_24 shX11_bought_0
noncomputable def sxX11_whence_90 : List UInt8 := []
noncomputable def sxX11_whence_73 : List UInt8 := 28 :: 21 :: 4 :: 162 :: 0 :: 6 :: 21 :: 5 :: 172 :: 132 :: 5 :: 1 :: 167 :: 255 :: 201 :: 2 :: 172 :: sxX11_whence_90
noncomputable def sxX11_whence_49 : List UInt8 := 198 :: 0 :: 20 :: 45 :: 21 :: 5 :: 182 :: 1 :: 122 :: 153 :: 0 :: 11 :: 25 :: 6 :: 180 :: 0 :: 202 :: 167 :: 0 :: 4 :: 3 :: 96 :: 54 :: 4 :: sxX11_whence_73
noncomputable def sxX11_whence_24 : List UInt8 := 3 :: 54 :: 4 :: 3 :: 54 :: 5 :: 21 :: 5 :: 16 :: 20 :: 162 :: 0 :: 54 :: 42 :: 21 :: 5 :: 182 :: 0 :: 148 :: 58 :: 6 :: 21 :: 4 :: 25 :: 6 :: sxX11_whence_49
theorem shX11_whence_0 : cX11_whence.data.toList.drop 0 = 42 :: 27 :: 182 :: 1 :: 126 :: 78 :: 45 :: 198 :: 0 :: 15 :: 28 :: 155 :: 0 :: 11 :: 28 :: 45 :: 180 :: 1 :: 86 :: 161 :: 0 :: 5 :: 2 :: 172 :: sxX11_whence_24 := rfl
theorem shX11_whence_24 : cX11_whence.data.toList.drop 24 = 3 :: 54 :: 4 :: 3 :: 54 :: 5 :: 21 :: 5 :: 16 :: 20 :: 162 :: 0 :: 54 :: 42 :: 21 :: 5 :: 182 :: 0 :: 148 :: 58 :: 6 :: 21 :: 4 :: 25 :: 6 :: sxX11_whence_49 := aq_24 shX11_whence_0
theorem shX11_whence_49 : cX11_whence.data.toList.drop 49 = 198 :: 0 :: 20 :: 45 :: 21 :: 5 :: 182 :: 1 :: 122 :: 153 :: 0 :: 11 :: 25 :: 6 :: 180 :: 0 :: 202 :: 167 :: 0 :: 4 :: 3 :: 96 :: 54 :: 4 :: sxX11_whence_73 := aq_25 shX11_whence_24
theorem shX11_whence_73 : cX11_whence.data.toList.drop 73 = 28 :: 21 :: 4 :: 162 :: 0 :: 6 :: 21 :: 5 :: 172 :: 132 :: 5 :: 1 :: 167 :: 255 :: 201 :: 2 :: 172 :: sxX11_whence_90 := aq_24 shX11_whence_49
noncomputable def sxX11_audit_153 : List UInt8 := []
noncomputable def sxX11_audit_147 : List UInt8 := 167 :: 255 :: 161 :: 21 :: 5 :: 172 :: sxX11_audit_153
noncomputable def sxX11_audit_123 : List UInt8 := 28 :: 160 :: 0 :: 12 :: 3 :: 21 :: 10 :: 184 :: 0 :: 232 :: 167 :: 0 :: 4 :: 3 :: 96 :: 54 :: 5 :: 21 :: 9 :: 54 :: 6 :: 132 :: 7 :: 1 :: sxX11_audit_147
noncomputable def sxX11_audit_98 : List UInt8 := 180 :: 1 :: 152 :: 184 :: 0 :: 227 :: 21 :: 6 :: 45 :: 180 :: 1 :: 149 :: 184 :: 0 :: 232 :: 100 :: 54 :: 10 :: 21 :: 5 :: 25 :: 8 :: 180 :: 0 :: 211 :: sxX11_audit_123
noncomputable def sxX11_audit_74 : List UInt8 := 21 :: 7 :: 182 :: 1 :: 122 :: 154 :: 0 :: 6 :: 167 :: 0 :: 62 :: 21 :: 6 :: 25 :: 8 :: 180 :: 0 :: 202 :: 96 :: 54 :: 9 :: 21 :: 9 :: 45 :: sxX11_audit_98
noncomputable def sxX11_audit_49 : List UInt8 := 3 :: 54 :: 7 :: 21 :: 7 :: 16 :: 20 :: 162 :: 0 :: 94 :: 42 :: 21 :: 7 :: 182 :: 0 :: 148 :: 58 :: 8 :: 25 :: 8 :: 198 :: 0 :: 75 :: 25 :: 4 :: sxX11_audit_74
noncomputable def sxX11_audit_24 : List UInt8 := 45 :: 198 :: 0 :: 16 :: 25 :: 4 :: 198 :: 0 :: 11 :: 42 :: 28 :: 182 :: 0 :: 114 :: 199 :: 0 :: 5 :: 2 :: 172 :: 3 :: 54 :: 5 :: 3 :: 54 :: 6 :: sxX11_audit_49
theorem shX11_audit_0 : cX11_audit.data.toList.drop 0 = 42 :: 27 :: 182 :: 1 :: 166 :: 78 :: 45 :: 199 :: 0 :: 7 :: 1 :: 167 :: 0 :: 11 :: 42 :: 45 :: 180 :: 1 :: 146 :: 182 :: 1 :: 126 :: 58 :: 4 :: sxX11_audit_24 := rfl
theorem shX11_audit_24 : cX11_audit.data.toList.drop 24 = 45 :: 198 :: 0 :: 16 :: 25 :: 4 :: 198 :: 0 :: 11 :: 42 :: 28 :: 182 :: 0 :: 114 :: 199 :: 0 :: 5 :: 2 :: 172 :: 3 :: 54 :: 5 :: 3 :: 54 :: 6 :: sxX11_audit_49 := aq_24 shX11_audit_0
theorem shX11_audit_49 : cX11_audit.data.toList.drop 49 = 3 :: 54 :: 7 :: 21 :: 7 :: 16 :: 20 :: 162 :: 0 :: 94 :: 42 :: 21 :: 7 :: 182 :: 0 :: 148 :: 58 :: 8 :: 25 :: 8 :: 198 :: 0 :: 75 :: 25 :: 4 :: sxX11_audit_74 := aq_25 shX11_audit_24
theorem shX11_audit_74 : cX11_audit.data.toList.drop 74 = 21 :: 7 :: 182 :: 1 :: 122 :: 154 :: 0 :: 6 :: 167 :: 0 :: 62 :: 21 :: 6 :: 25 :: 8 :: 180 :: 0 :: 202 :: 96 :: 54 :: 9 :: 21 :: 9 :: 45 :: sxX11_audit_98 := aq_25 shX11_audit_49
theorem shX11_audit_98 : cX11_audit.data.toList.drop 98 = 180 :: 1 :: 152 :: 184 :: 0 :: 227 :: 21 :: 6 :: 45 :: 180 :: 1 :: 149 :: 184 :: 0 :: 232 :: 100 :: 54 :: 10 :: 21 :: 5 :: 25 :: 8 :: 180 :: 0 :: 211 :: sxX11_audit_123 := aq_24 shX11_audit_74
theorem shX11_audit_123 : cX11_audit.data.toList.drop 123 = 28 :: 160 :: 0 :: 12 :: 3 :: 21 :: 10 :: 184 :: 0 :: 232 :: 167 :: 0 :: 4 :: 3 :: 96 :: 54 :: 5 :: 21 :: 9 :: 54 :: 6 :: 132 :: 7 :: 1 :: sxX11_audit_147 := aq_25 shX11_audit_98
theorem shX11_audit_147 : cX11_audit.data.toList.drop 147 = 167 :: 255 :: 161 :: 21 :: 5 :: 172 :: sxX11_audit_153 := aq_24 shX11_audit_123
theorem dX11_audit_144 : decode cX11_audit 144 = .ok (.iinc 7 1, 3) := oc_132 144 (aq_21 shX11_audit_123) ub_7 sgb_1
theorem dX11_audit_147 : decode cX11_audit 147 = .ok (.goto (-95), 3) := oc_167 147 shX11_audit_147 sgw_255_161
noncomputable def sxX11_tax_58 : List UInt8 := []
noncomputable def sxX11_tax_50 : List UInt8 := 184 :: 0 :: 192 :: 104 :: 16 :: 100 :: 108 :: 172 :: sxX11_tax_58
noncomputable def sxX11_tax_26 : List UInt8 := 62 :: 44 :: 182 :: 1 :: 176 :: 42 :: 180 :: 0 :: 47 :: 180 :: 1 :: 173 :: 29 :: 16 :: 58 :: 104 :: 44 :: 180 :: 1 :: 178 :: 16 :: 7 :: 108 :: 96 :: sxX11_tax_50
theorem shX11_tax_0 : cX11_tax.data.toList.drop 0 = 42 :: 27 :: 182 :: 1 :: 166 :: 77 :: 44 :: 199 :: 0 :: 5 :: 2 :: 172 :: 42 :: 180 :: 0 :: 47 :: 180 :: 1 :: 170 :: 44 :: 180 :: 1 :: 159 :: 184 :: 0 :: 192 :: sxX11_tax_26 := rfl
theorem shX11_tax_26 : cX11_tax.data.toList.drop 26 = 62 :: 44 :: 182 :: 1 :: 176 :: 42 :: 180 :: 0 :: 47 :: 180 :: 1 :: 173 :: 29 :: 16 :: 58 :: 104 :: 44 :: 180 :: 1 :: 178 :: 16 :: 7 :: 108 :: 96 :: sxX11_tax_50 := aq_26 shX11_tax_0
theorem shX11_tax_50 : cX11_tax.data.toList.drop 50 = 184 :: 0 :: 192 :: 104 :: 16 :: 100 :: 108 :: 172 :: sxX11_tax_58 := aq_24 shX11_tax_26
noncomputable def sxX11_boughtIn_72 : List UInt8 := []
noncomputable def sxX11_boughtIn_50 : List UInt8 := 160 :: 0 :: 11 :: 25 :: 5 :: 182 :: 1 :: 176 :: 167 :: 0 :: 4 :: 3 :: 96 :: 62 :: 132 :: 4 :: 1 :: 167 :: 255 :: 194 :: 29 :: 172 :: sxX11_boughtIn_72
noncomputable def sxX11_boughtIn_26 : List UInt8 := 192 :: 0 :: 97 :: 58 :: 5 :: 29 :: 25 :: 5 :: 180 :: 1 :: 159 :: 28 :: 160 :: 0 :: 23 :: 25 :: 5 :: 180 :: 1 :: 178 :: 16 :: 7 :: 108 :: 27 :: sxX11_boughtIn_50
theorem shX11_boughtIn_0 : cX11_boughtIn.data.toList.drop 0 = 3 :: 62 :: 3 :: 54 :: 4 :: 21 :: 4 :: 42 :: 180 :: 0 :: 71 :: 182 :: 0 :: 84 :: 162 :: 0 :: 56 :: 42 :: 180 :: 0 :: 71 :: 21 :: 4 :: 182 :: 0 :: 87 :: sxX11_boughtIn_26 := rfl
theorem shX11_boughtIn_26 : cX11_boughtIn.data.toList.drop 26 = 192 :: 0 :: 97 :: 58 :: 5 :: 29 :: 25 :: 5 :: 180 :: 1 :: 159 :: 28 :: 160 :: 0 :: 23 :: 25 :: 5 :: 180 :: 1 :: 178 :: 16 :: 7 :: 108 :: 27 :: sxX11_boughtIn_50 := aq_26 shX11_boughtIn_0
theorem shX11_boughtIn_50 : cX11_boughtIn.data.toList.drop 50 = 160 :: 0 :: 11 :: 25 :: 5 :: 182 :: 1 :: 176 :: 167 :: 0 :: 4 :: 3 :: 96 :: 62 :: 132 :: 4 :: 1 :: 167 :: 255 :: 194 :: 29 :: 172 :: sxX11_boughtIn_72 := aq_24 shX11_boughtIn_26
noncomputable def sxX11_overdrawn_60 : List UInt8 := []
noncomputable def sxX11_overdrawn_49 : List UInt8 := 3 :: 128 :: 61 :: 132 :: 3 :: 1 :: 167 :: 255 :: 217 :: 28 :: 172 :: sxX11_overdrawn_60
noncomputable def sxX11_overdrawn_24 : List UInt8 := 27 :: 29 :: 182 :: 1 :: 182 :: 42 :: 180 :: 0 :: 47 :: 180 :: 1 :: 179 :: 29 :: 184 :: 0 :: 192 :: 164 :: 0 :: 9 :: 4 :: 29 :: 120 :: 167 :: 0 :: 4 :: sxX11_overdrawn_49
theorem shX11_overdrawn_0 : cX11_overdrawn.data.toList.drop 0 = 27 :: 3 :: 16 :: 57 :: 184 :: 0 :: 80 :: 154 :: 0 :: 5 :: 2 :: 172 :: 3 :: 61 :: 3 :: 62 :: 29 :: 16 :: 10 :: 162 :: 0 :: 39 :: 28 :: 42 :: sxX11_overdrawn_24 := rfl
theorem shX11_overdrawn_24 : cX11_overdrawn.data.toList.drop 24 = 27 :: 29 :: 182 :: 1 :: 182 :: 42 :: 180 :: 0 :: 47 :: 180 :: 1 :: 179 :: 29 :: 184 :: 0 :: 192 :: 164 :: 0 :: 9 :: 4 :: 29 :: 120 :: 167 :: 0 :: 4 :: sxX11_overdrawn_49 := aq_24 shX11_overdrawn_0
theorem shX11_overdrawn_49 : cX11_overdrawn.data.toList.drop 49 = 3 :: 128 :: 61 :: 132 :: 3 :: 1 :: 167 :: 255 :: 217 :: 28 :: 172 :: sxX11_overdrawn_60 := aq_25 shX11_overdrawn_24
noncomputable def sxX11_blocked_44 : List UInt8 := []
noncomputable def sxX11_blocked_25 : List UInt8 := 192 :: 1 :: 217 :: 77 :: 44 :: 89 :: 180 :: 1 :: 221 :: 4 :: 96 :: 181 :: 1 :: 221 :: 44 :: 180 :: 1 :: 221 :: 172 :: sxX11_blocked_44
theorem shX11_blocked_0 : cX11_blocked.data.toList.drop 0 = 27 :: 155 :: 0 :: 14 :: 27 :: 42 :: 180 :: 0 :: 74 :: 182 :: 0 :: 84 :: 161 :: 0 :: 5 :: 2 :: 172 :: 42 :: 180 :: 0 :: 74 :: 27 :: 182 :: 0 :: 87 :: sxX11_blocked_25 := rfl
theorem shX11_blocked_25 : cX11_blocked.data.toList.drop 25 = 192 :: 1 :: 217 :: 77 :: 44 :: 89 :: 180 :: 1 :: 221 :: 4 :: 96 :: 181 :: 1 :: 221 :: 44 :: 180 :: 1 :: 221 :: 172 :: sxX11_blocked_44 := aq_25 shX11_blocked_0
noncomputable def sxX11_wrongPart_75 : List UInt8 := []
noncomputable def sxX11_wrongPart_74 : List UInt8 := 172 :: sxX11_wrongPart_75
noncomputable def sxX11_wrongPart_50 : List UInt8 := 5 :: 172 :: 42 :: 180 :: 0 :: 21 :: 29 :: 6 :: 96 :: 182 :: 2 :: 18 :: 43 :: 180 :: 0 :: 141 :: 159 :: 0 :: 7 :: 6 :: 167 :: 0 :: 4 :: 2 :: sxX11_wrongPart_74
noncomputable def sxX11_wrongPart_24 : List UInt8 := 43 :: 180 :: 0 :: 196 :: 159 :: 0 :: 5 :: 4 :: 172 :: 42 :: 180 :: 0 :: 21 :: 29 :: 5 :: 96 :: 182 :: 2 :: 18 :: 43 :: 180 :: 0 :: 202 :: 159 :: 0 :: 5 :: sxX11_wrongPart_50
theorem shX11_wrongPart_0 : cX11_wrongPart.data.toList.drop 0 = 42 :: 180 :: 0 :: 21 :: 29 :: 182 :: 2 :: 18 :: 28 :: 159 :: 0 :: 5 :: 3 :: 172 :: 42 :: 180 :: 0 :: 21 :: 29 :: 4 :: 96 :: 182 :: 2 :: 18 :: sxX11_wrongPart_24 := rfl
theorem shX11_wrongPart_24 : cX11_wrongPart.data.toList.drop 24 = 43 :: 180 :: 0 :: 196 :: 159 :: 0 :: 5 :: 4 :: 172 :: 42 :: 180 :: 0 :: 21 :: 29 :: 5 :: 96 :: 182 :: 2 :: 18 :: 43 :: 180 :: 0 :: 202 :: 159 :: 0 :: 5 :: sxX11_wrongPart_50 := aq_24 shX11_wrongPart_0
theorem shX11_wrongPart_50 : cX11_wrongPart.data.toList.drop 50 = 5 :: 172 :: 42 :: 180 :: 0 :: 21 :: 29 :: 6 :: 96 :: 182 :: 2 :: 18 :: 43 :: 180 :: 0 :: 141 :: 159 :: 0 :: 7 :: 6 :: 167 :: 0 :: 4 :: 2 :: sxX11_wrongPart_74 := aq_26 shX11_wrongPart_24
theorem shX11_wrongPart_74 : cX11_wrongPart.data.toList.drop 74 = 172 :: sxX11_wrongPart_75 := aq_24 shX11_wrongPart_50
noncomputable def sxX11_firstWrong_92 : List UInt8 := []
noncomputable def sxX11_firstWrong_75 : List UInt8 := 132 :: 4 :: 1 :: 167 :: 255 :: 183 :: 29 :: 28 :: 162 :: 0 :: 7 :: 29 :: 167 :: 0 :: 4 :: 2 :: 172 :: sxX11_firstWrong_92
noncomputable def sxX11_firstWrong_50 : List UInt8 := 42 :: 25 :: 5 :: 21 :: 4 :: 29 :: 182 :: 2 :: 14 :: 54 :: 6 :: 21 :: 6 :: 2 :: 159 :: 0 :: 8 :: 29 :: 21 :: 6 :: 96 :: 172 :: 132 :: 3 :: 4 :: sxX11_firstWrong_75
noncomputable def sxX11_firstWrong_26 : List UInt8 := 192 :: 0 :: 93 :: 58 :: 5 :: 25 :: 5 :: 180 :: 0 :: 211 :: 27 :: 159 :: 0 :: 6 :: 167 :: 0 :: 35 :: 29 :: 28 :: 161 :: 0 :: 5 :: 28 :: 172 :: sxX11_firstWrong_50
theorem shX11_firstWrong_0 : cX11_firstWrong.data.toList.drop 0 = 3 :: 62 :: 3 :: 54 :: 4 :: 21 :: 4 :: 42 :: 180 :: 0 :: 65 :: 182 :: 0 :: 84 :: 162 :: 0 :: 67 :: 42 :: 180 :: 0 :: 65 :: 21 :: 4 :: 182 :: 0 :: 87 :: sxX11_firstWrong_26 := rfl
theorem shX11_firstWrong_26 : cX11_firstWrong.data.toList.drop 26 = 192 :: 0 :: 93 :: 58 :: 5 :: 25 :: 5 :: 180 :: 0 :: 211 :: 27 :: 159 :: 0 :: 6 :: 167 :: 0 :: 35 :: 29 :: 28 :: 161 :: 0 :: 5 :: 28 :: 172 :: sxX11_firstWrong_50 := aq_26 shX11_firstWrong_0
theorem shX11_firstWrong_50 : cX11_firstWrong.data.toList.drop 50 = 42 :: 25 :: 5 :: 21 :: 4 :: 29 :: 182 :: 2 :: 14 :: 54 :: 6 :: 21 :: 6 :: 2 :: 159 :: 0 :: 8 :: 29 :: 21 :: 6 :: 96 :: 172 :: 132 :: 3 :: 4 :: sxX11_firstWrong_75 := aq_24 shX11_firstWrong_26
theorem shX11_firstWrong_75 : cX11_firstWrong.data.toList.drop 75 = 132 :: 4 :: 1 :: 167 :: 255 :: 183 :: 29 :: 28 :: 162 :: 0 :: 7 :: 29 :: 167 :: 0 :: 4 :: 2 :: 172 :: sxX11_firstWrong_92 := aq_25 shX11_firstWrong_50
noncomputable def sxX11_check_47 : List UInt8 := []
noncomputable def sxX11_check_26 : List UInt8 := 16 :: 254 :: 172 :: 42 :: 27 :: 7 :: 28 :: 104 :: 182 :: 2 :: 11 :: 62 :: 42 :: 180 :: 0 :: 21 :: 182 :: 0 :: 162 :: 29 :: 172 :: sxX11_check_47
theorem shX11_check_0 : cX11_check.data.toList.drop 0 = 42 :: 27 :: 182 :: 0 :: 114 :: 198 :: 0 :: 21 :: 28 :: 155 :: 0 :: 17 :: 28 :: 42 :: 180 :: 0 :: 21 :: 182 :: 0 :: 152 :: 16 :: 16 :: 108 :: 164 :: 0 :: 6 :: sxX11_check_26 := rfl
theorem shX11_check_26 : cX11_check.data.toList.drop 26 = 16 :: 254 :: 172 :: 42 :: 27 :: 7 :: 28 :: 104 :: 182 :: 2 :: 11 :: 62 :: 42 :: 180 :: 0 :: 21 :: 182 :: 0 :: 162 :: 29 :: 172 :: sxX11_check_47 := aq_26 shX11_check_0
noncomputable def sxX11_batchIs_82 : List UInt8 := []
noncomputable def sxX11_batchIs_73 : List UInt8 := 100 :: 172 :: 45 :: 180 :: 1 :: 132 :: 172 :: 2 :: 172 :: sxX11_batchIs_82
noncomputable def sxX11_batchIs_48 : List UInt8 := 45 :: 180 :: 1 :: 86 :: 172 :: 45 :: 182 :: 1 :: 87 :: 172 :: 45 :: 182 :: 1 :: 89 :: 172 :: 45 :: 180 :: 1 :: 86 :: 42 :: 27 :: 2 :: 182 :: 1 :: 129 :: sxX11_batchIs_73
theorem shX11_batchIs_0 : cX11_batchIs.data.toList.drop 0 = 42 :: 27 :: 182 :: 1 :: 126 :: 78 :: 45 :: 199 :: 0 :: 5 :: 2 :: 172 :: 28 :: 170 :: 0 :: 0 :: 0 :: 0 :: 0 :: 67 :: 0 :: 0 :: 0 :: 0 :: 0 :: 0 :: 0 :: 4 :: 0 :: 0 :: 0 :: 35 :: 0 :: 0 :: 0 :: 40 :: 0 :: 0 :: 0 :: 45 :: 0 :: 0 :: 0 :: 50 :: 0 :: 0 :: 0 :: 62 :: sxX11_batchIs_48 := rfl
theorem shX11_batchIs_48 : cX11_batchIs.data.toList.drop 48 = 45 :: 180 :: 1 :: 86 :: 172 :: 45 :: 182 :: 1 :: 87 :: 172 :: 45 :: 182 :: 1 :: 89 :: 172 :: 45 :: 180 :: 1 :: 86 :: 42 :: 27 :: 2 :: 182 :: 1 :: 129 :: sxX11_batchIs_73 := dSn 48 shX11_batchIs_0
theorem shX11_batchIs_73 : cX11_batchIs.data.toList.drop 73 = 100 :: 172 :: 45 :: 180 :: 1 :: 132 :: 172 :: 2 :: 172 :: sxX11_batchIs_82 := aq_25 shX11_batchIs_48
theorem dX11_batchIs_13 : decode cX11_batchIs 13 = .ok (.tableswitch 67 0 4 #[35, 40, 45, 50, 62], 35) := by decide +kernel
noncomputable def sxX11_canBeBatched_28 : List UInt8 := []
noncomputable def sxX11_canBeBatched_26 : List UInt8 := 3 :: 172 :: sxX11_canBeBatched_28
theorem shX11_canBeBatched_0 : cX11_canBeBatched.data.toList.drop 0 = 43 :: 198 :: 0 :: 25 :: 43 :: 180 :: 1 :: 93 :: 154 :: 0 :: 18 :: 43 :: 180 :: 0 :: 235 :: 42 :: 180 :: 0 :: 103 :: 163 :: 0 :: 7 :: 4 :: 167 :: 0 :: 4 :: sxX11_canBeBatched_26 := rfl
theorem shX11_canBeBatched_26 : cX11_canBeBatched.data.toList.drop 26 = 3 :: 172 :: sxX11_canBeBatched_28 := aq_26 shX11_canBeBatched_0
theorem dX11_canBeBatched_27 : decode cX11_canBeBatched 27 = .ok (.ireturn, 1) := oc_172 27 (aq_1 shX11_canBeBatched_26)
noncomputable def sxX11_countOfKitchen_38 : List UInt8 := []
noncomputable def sxX11_countOfKitchen_26 : List UInt8 := 43 :: 180 :: 0 :: 118 :: 167 :: 0 :: 7 :: 43 :: 180 :: 1 :: 4 :: 172 :: sxX11_countOfKitchen_38
theorem shX11_countOfKitchen_0 : cX11_countOfKitchen.data.toList.drop 0 = 43 :: 199 :: 0 :: 5 :: 2 :: 172 :: 28 :: 4 :: 160 :: 0 :: 13 :: 43 :: 180 :: 0 :: 168 :: 180 :: 0 :: 171 :: 167 :: 0 :: 19 :: 28 :: 5 :: 160 :: 0 :: 10 :: sxX11_countOfKitchen_26 := rfl
theorem shX11_countOfKitchen_26 : cX11_countOfKitchen.data.toList.drop 26 = 43 :: 180 :: 0 :: 118 :: 167 :: 0 :: 7 :: 43 :: 180 :: 1 :: 4 :: 172 :: sxX11_countOfKitchen_38 := aq_26 shX11_countOfKitchen_0
noncomputable def sxX11_countOfAll_123 : List UInt8 := []
noncomputable def sxX11_countOfAll_101 : List UInt8 := 182 :: 0 :: 84 :: 172 :: 42 :: 180 :: 0 :: 74 :: 182 :: 0 :: 84 :: 172 :: 42 :: 180 :: 1 :: 55 :: 172 :: 42 :: 180 :: 1 :: 246 :: 172 :: sxX11_countOfAll_123
noncomputable def sxX11_countOfAll_77 : List UInt8 := 182 :: 0 :: 152 :: 172 :: 42 :: 180 :: 0 :: 12 :: 180 :: 0 :: 171 :: 172 :: 42 :: 180 :: 0 :: 68 :: 182 :: 0 :: 84 :: 172 :: 42 :: 180 :: 0 :: 71 :: sxX11_countOfAll_101
noncomputable def sxX11_countOfAll_52 : List UInt8 := 42 :: 180 :: 0 :: 103 :: 172 :: 42 :: 180 :: 0 :: 61 :: 182 :: 0 :: 84 :: 172 :: 42 :: 180 :: 0 :: 65 :: 182 :: 0 :: 84 :: 172 :: 42 :: 180 :: 0 :: 21 :: sxX11_countOfAll_77
theorem shX11_countOfAll_0 : cX11_countOfAll.data.toList.drop 0 = 27 :: 170 :: 0 :: 0 :: 0 :: 0 :: 0 :: 117 :: 0 :: 0 :: 0 :: 0 :: 0 :: 0 :: 0 :: 8 :: 0 :: 0 :: 0 :: 51 :: 0 :: 0 :: 0 :: 56 :: 0 :: 0 :: 0 :: 64 :: 0 :: 0 :: 0 :: 72 :: 0 :: 0 :: 0 :: 80 :: 0 :: 0 :: 0 :: 88 :: 0 :: 0 :: 0 :: 96 :: 0 :: 0 :: 0 :: 104 :: 0 :: 0 :: 0 :: 112 :: sxX11_countOfAll_52 := rfl
theorem shX11_countOfAll_52 : cX11_countOfAll.data.toList.drop 52 = 42 :: 180 :: 0 :: 103 :: 172 :: 42 :: 180 :: 0 :: 61 :: 182 :: 0 :: 84 :: 172 :: 42 :: 180 :: 0 :: 65 :: 182 :: 0 :: 84 :: 172 :: 42 :: 180 :: 0 :: 21 :: sxX11_countOfAll_77 := dSn 52 shX11_countOfAll_0
theorem shX11_countOfAll_77 : cX11_countOfAll.data.toList.drop 77 = 182 :: 0 :: 152 :: 172 :: 42 :: 180 :: 0 :: 12 :: 180 :: 0 :: 171 :: 172 :: 42 :: 180 :: 0 :: 68 :: 182 :: 0 :: 84 :: 172 :: 42 :: 180 :: 0 :: 71 :: sxX11_countOfAll_101 := aq_25 shX11_countOfAll_52
theorem shX11_countOfAll_101 : cX11_countOfAll.data.toList.drop 101 = 182 :: 0 :: 84 :: 172 :: 42 :: 180 :: 0 :: 74 :: 182 :: 0 :: 84 :: 172 :: 42 :: 180 :: 1 :: 55 :: 172 :: 42 :: 180 :: 1 :: 246 :: 172 :: sxX11_countOfAll_123 := aq_24 shX11_countOfAll_77
theorem dX11_countOfAll_1 : decode cX11_countOfAll 1 = .ok (.tableswitch 117 0 8 #[51, 56, 64, 72, 80, 88, 96, 104, 112], 51) := by decide +kernel
noncomputable def sxX11_count_109 : List UInt8 := []
noncomputable def sxX11_count_97 : List UInt8 := 199 :: 0 :: 7 :: 2 :: 167 :: 0 :: 7 :: 44 :: 180 :: 1 :: 178 :: 172 :: sxX11_count_109
noncomputable def sxX11_count_73 : List UInt8 := 180 :: 1 :: 125 :: 172 :: 27 :: 16 :: 50 :: 162 :: 0 :: 7 :: 1 :: 167 :: 0 :: 11 :: 42 :: 27 :: 16 :: 50 :: 100 :: 182 :: 1 :: 166 :: 77 :: 44 :: sxX11_count_97
noncomputable def sxX11_count_49 : List UInt8 := 184 :: 0 :: 80 :: 153 :: 0 :: 25 :: 42 :: 27 :: 16 :: 40 :: 100 :: 182 :: 1 :: 126 :: 77 :: 44 :: 199 :: 0 :: 7 :: 2 :: 167 :: 0 :: 7 :: 44 :: sxX11_count_73
noncomputable def sxX11_count_24 : List UInt8 := 153 :: 0 :: 20 :: 42 :: 42 :: 27 :: 16 :: 10 :: 112 :: 182 :: 0 :: 114 :: 27 :: 16 :: 10 :: 108 :: 182 :: 2 :: 24 :: 172 :: 27 :: 16 :: 40 :: 16 :: 49 :: sxX11_count_49
theorem shX11_count_0 : cX11_count.data.toList.drop 0 = 27 :: 3 :: 16 :: 9 :: 184 :: 0 :: 80 :: 153 :: 0 :: 9 :: 42 :: 27 :: 182 :: 2 :: 21 :: 172 :: 27 :: 16 :: 10 :: 16 :: 39 :: 184 :: 0 :: 80 :: sxX11_count_24 := rfl
theorem shX11_count_24 : cX11_count.data.toList.drop 24 = 153 :: 0 :: 20 :: 42 :: 42 :: 27 :: 16 :: 10 :: 112 :: 182 :: 0 :: 114 :: 27 :: 16 :: 10 :: 108 :: 182 :: 2 :: 24 :: 172 :: 27 :: 16 :: 40 :: 16 :: 49 :: sxX11_count_49 := aq_24 shX11_count_0
theorem shX11_count_49 : cX11_count.data.toList.drop 49 = 184 :: 0 :: 80 :: 153 :: 0 :: 25 :: 42 :: 27 :: 16 :: 40 :: 100 :: 182 :: 1 :: 126 :: 77 :: 44 :: 199 :: 0 :: 7 :: 2 :: 167 :: 0 :: 7 :: 44 :: sxX11_count_73 := aq_25 shX11_count_24
theorem shX11_count_73 : cX11_count.data.toList.drop 73 = 180 :: 1 :: 125 :: 172 :: 27 :: 16 :: 50 :: 162 :: 0 :: 7 :: 1 :: 167 :: 0 :: 11 :: 42 :: 27 :: 16 :: 50 :: 100 :: 182 :: 1 :: 166 :: 77 :: 44 :: sxX11_count_97 := aq_24 shX11_count_49
theorem shX11_count_97 : cX11_count.data.toList.drop 97 = 199 :: 0 :: 7 :: 2 :: 167 :: 0 :: 7 :: 44 :: 180 :: 1 :: 178 :: 172 :: sxX11_count_109 := aq_24 shX11_count_73
set_option maxRecDepth 100000 in
set_option maxHeartbeats 4000000 in
theorem q_Xplitres (l : Launch) (D : va_G) (cI cB cZ : ClassId) (zz qq vv : Nat) (bt : Nat → Int32) (g : Nat → Nat) (ad : Nat → Nat → Nat) (cn : Nat → Nat) (In : Nat → Int32) (Fn : Nat → Nat → Int32) (k0 : Nat) (hB : CBX cn) (hk : k0 < cn 13) : Met l yX4_litres (CWS yX4_litres cX4_litres 1 (some .int)) (RM 0 0 0) (PBrx [.ref (ad 13 k0)] D cI cB cZ zz qq vv bt (wX cI (D.1 99) zz g ad cn In Fn)) (vp_Si (fun _ => True)) 0 0 (fun _ => False) := by
  refine en_rx rfl pn_RX4 (Nat.le_of_ble_eq_true rfl) (fun p e s m below meth c hx hb hml hown S hr hlocks hnm hP hK hXS hS ls hl => ?_)
  have hl : lv_has ls 1 [(0, .ref (ad 13 k0))] := hl
  have hb_cn : Hid (CBX cn) := hB
  replace hB : CBXh cn := hB
  refine lv_aload_n hx hb (oc_42 0 shX4_litres_0) rfl (lvA0 hl) ?_
  refine gf_RX4_16 S hK hP _ (xf_3 hk) (v := .int ((Fn 162) k0)) rfl (oc_180 1 (aq_1 shX4_litres_0) uw_0_16) ?_
  refine lv_aload_n hx hb (oc_42 4 (aq_4 shX4_litres_0)) rfl (lvA0 hl) ?_
  refine gf_RX4_13 S hK hP _ (xf_3 hk) (v := .int ((Fn 161) k0)) rfl (oc_180 5 (aq_5 shX4_litres_0) uw_0_13) ?_
  refine lv_isub hx hb (oc_100 8 (aq_8 shX4_litres_0)) ?_
  exact W.iret (v := (((Fn 162) k0) - ((Fn 161) k0))) hx hb hr (fun t ht hW => ⟨(((Fn 162) k0) - ((Fn 161) k0)), rfl, trivial, ht⟩) (fun _ h => absurd h List.not_mem_nil) (oc_172 9 (aq_9 shX4_litres_0))
set_option maxRecDepth 100000 in
set_option maxHeartbeats 4000000 in
theorem q_Xhas (l : Launch) (D : va_G) (cI cB cZ : ClassId) (zz qq vv : Nat) (bt : Nat → Int32) (g : Nat → Nat) (ad : Nat → Nat → Nat) (cn : Nat → Nat) (In : Nat → Int32) (Fn : Nat → Nat → Int32) (k0 : Nat) (v0 : Int32) (hB : CBX cn) (hk : k0 < cn 12) : Met l yX0_has (CWS yX0_has cX0_has 2 (some .boolean)) (RM 0 0 0) (PBrx [.ref (ad 12 k0), .int v0] D cI cB cZ zz qq vv bt (wX cI (D.1 99) zz g ad cn In Fn)) (vp_Si (fun r => r = 0 ∨ r = 1)) 0 0 (fun _ => False) := by
  refine en_rx rfl pn_RX0 (Nat.le_of_ble_eq_true rfl) (fun p e s m below meth c hx hb hml hown S hr hlocks hnm hP hK hXS hS ls hl => ?_)
  have hl : lv_has ls 2 [(0, .ref (ad 12 k0)), (1, .int v0)] := hl
  have hb_cn : Hid (CBX cn) := hB
  replace hB : CBXh cn := hB
  refine lv_aload_n hx hb (oc_42 0 shX0_has_0) rfl (lvA0 hl) ?_
  refine gf_RX0_13 S hK hP _ (xf_2 hk) (v := .int ((Fn 144) k0)) rfl (oc_180 1 (aq_1 shX0_has_0) uw_0_13) ?_
  refine lv_iload_n hx hb (oc_27 4 (aq_4 shX0_has_0)) rfl (lvA1 hl) ?_
  refine lv_ishr hx hb (oc_122 5 (aq_5 shX0_has_0)) ?_
  refine lv_iconst (v := 1) hx hb (oc_4 6 (aq_6 shX0_has_0)) kic_1 ?_
  refine lv_iand hx hb (oc_126 7 (aq_7 shX0_has_0)) ?_
  refine lv_if_eq (tgt := 15) hx hb (oc_153 8 (aq_8 shX0_has_0) sgw_0_7) rfl (fun c_1 => ?_) (fun c_1 => ?_)
  ·
    have tc_1 : (((((Fn 144) k0) >>> (v0 &&& 31)) &&& 1).toInt : Int) = 0 := congrArg Int32.toInt c_1
    refine lv_iconst (v := 0) hx hb (oc_3 15 (aq_15 shX0_has_0)) kic_0 ?_
    exact W.zret (v := 0) hx hb hr rfl (fun t ht hW => ⟨0, rfl, (Or.inl rfl), ht⟩) (fun _ h => absurd h List.not_mem_nil) dX0_has_16
  ·
    have tc_1 : (((((Fn 144) k0) >>> (v0 &&& 31)) &&& 1).toInt : Int) ≠ 0 := fun q => c_1 (Int32.toInt_inj.mp q)
    refine lv_iconst (v := 1) hx hb (oc_4 11 (aq_11 shX0_has_0)) kic_1 ?_
    refine lv_goto (tgt := 16) hx hb (oc_167 12 (aq_12 shX0_has_0) sgw_0_4) rfl ?_
    exact W.zret (v := 1) hx hb hr rfl (fun t ht hW => ⟨1, rfl, (Or.inr rfl), ht⟩) (fun _ h => absurd h List.not_mem_nil) dX0_has_16
set_option maxRecDepth 100000 in
set_option maxHeartbeats 4000000 in
theorem q_Xwater (l : Launch) (D : va_G) (cI cB cZ : ClassId) (zz qq vv : Nat) (bt : Nat → Int32) (g : Nat → Nat) (ad : Nat → Nat → Nat) (cn : Nat → Nat) (In : Nat → Int32) (Fn : Nat → Nat → Int32) (k0 : Nat) (hB : CBX cn) (hk : k0 < cn 12) : Met l yX0_water (CWS yX0_water cX0_water 1 (some .int)) (RM 0 0 0) (PBrx [.ref (ad 12 k0)] D cI cB cZ zz qq vv bt (wX cI (D.1 99) zz g ad cn In Fn)) (vp_Si (fun _ => True)) 0 0 (fun _ => False) := by
  refine en_rx rfl pn_RX0 (Nat.le_of_ble_eq_true rfl) (fun p e s m below meth c hx hb hml hown S hr hlocks hnm hP hK hXS hS ls hl => ?_)
  have hl : lv_has ls 1 [(0, .ref (ad 12 k0))] := hl
  have hb_cn : Hid (CBX cn) := hB
  replace hB : CBXh cn := hB
  refine lv_aload_n hx hb (oc_42 0 shX0_water_0) rfl (lvA0 hl) ?_
  refine gf_RX0_24 S hK hP _ (xf_2 hk) (v := .int ((Fn 146) k0)) rfl (oc_180 1 (aq_1 shX0_water_0) uw_0_24) ?_
  refine lv_if_ne (tgt := 11) hx hb (oc_154 4 (aq_4 shX0_water_0) sgw_0_7) rfl (fun c_1 => ?_) (fun c_1 => ?_)
  ·
    have tc_1 : (((Fn 146) k0).toInt : Int) ≠ 0 := fun q => c_1 (Int32.toInt_inj.mp q)
    refine lv_aload_n hx hb (oc_42 11 (aq_11 shX0_water_0)) rfl (lvA0 hl) ?_
    refine gf_RX0_30 S hK hP _ (xf_2 hk) (v := .int ((Fn 141) k0)) rfl (oc_180 12 (aq_12 shX0_water_0) uw_0_30) ?_
    refine lv_aload_n hx hb (oc_42 15 (aq_15 shX0_water_0)) rfl (lvA0 hl) ?_
    refine gf_RX0_24 S hK hP _ (xf_2 hk) (v := .int ((Fn 146) k0)) rfl (oc_180 16 (aq_16 shX0_water_0) uw_0_24) ?_
    refine lv_idiv hx hb (oc_108 19 (aq_19 shX0_water_0)) (by assumption) ?_
    exact W.iret (v := (((Fn 141) k0) / ((Fn 146) k0))) hx hb hr (fun t ht hW => ⟨(((Fn 141) k0) / ((Fn 146) k0)), rfl, trivial, ht⟩) (fun _ h => absurd h List.not_mem_nil) dX0_water_20
  ·
    have tc_1 : (((Fn 146) k0).toInt : Int) = 0 := congrArg Int32.toInt c_1
    refine lv_iconst (v := 0) hx hb (oc_3 7 (aq_7 shX0_water_0)) kic_0 ?_
    refine lv_goto (tgt := 20) hx hb (oc_167 8 (aq_8 shX0_water_0) sgw_0_12) rfl ?_
    exact W.iret (v := 0) hx hb hr (fun t ht hW => ⟨0, rfl, trivial, ht⟩) (fun _ h => absurd h List.not_mem_nil) dX0_water_20
set_option maxRecDepth 100000 in
set_option maxHeartbeats 4000000 in
theorem q_Xacid (l : Launch) (D : va_G) (cI cB cZ : ClassId) (zz qq vv : Nat) (bt : Nat → Int32) (g : Nat → Nat) (ad : Nat → Nat → Nat) (cn : Nat → Nat) (In : Nat → Int32) (Fn : Nat → Nat → Int32) (k0 : Nat) (hB : CBX cn) (hk : k0 < cn 12) : Met l yX0_acid (CWS yX0_acid cX0_acid 1 (some .int)) (RM 0 0 0) (PBrx [.ref (ad 12 k0)] D cI cB cZ zz qq vv bt (wX cI (D.1 99) zz g ad cn In Fn)) (vp_Si (fun _ => True)) 0 0 (fun _ => False) := by
  refine en_rx rfl pn_RX0 (Nat.le_of_ble_eq_true rfl) (fun p e s m below meth c hx hb hml hown S hr hlocks hnm hP hK hXS hS ls hl => ?_)
  have hl : lv_has ls 1 [(0, .ref (ad 12 k0))] := hl
  have hb_cn : Hid (CBX cn) := hB
  replace hB : CBXh cn := hB
  refine lv_aload_n hx hb (oc_42 0 shX0_acid_0) rfl (lvA0 hl) ?_
  refine gf_RX0_24 S hK hP _ (xf_2 hk) (v := .int ((Fn 146) k0)) rfl (oc_180 1 (aq_1 shX0_acid_0) uw_0_24) ?_
  refine lv_if_ne (tgt := 11) hx hb (oc_154 4 (aq_4 shX0_acid_0) sgw_0_7) rfl (fun c_1 => ?_) (fun c_1 => ?_)
  ·
    have tc_1 : (((Fn 146) k0).toInt : Int) ≠ 0 := fun q => c_1 (Int32.toInt_inj.mp q)
    refine lv_aload_n hx hb (oc_42 11 (aq_11 shX0_acid_0)) rfl (lvA0 hl) ?_
    refine gf_RX0_36 S hK hP _ (xf_2 hk) (v := .int ((Fn 142) k0)) rfl (oc_180 12 (aq_12 shX0_acid_0) uw_0_36) ?_
    refine lv_aload_n hx hb (oc_42 15 (aq_15 shX0_acid_0)) rfl (lvA0 hl) ?_
    refine gf_RX0_24 S hK hP _ (xf_2 hk) (v := .int ((Fn 146) k0)) rfl (oc_180 16 (aq_16 shX0_acid_0) uw_0_24) ?_
    refine lv_idiv hx hb (oc_108 19 (aq_19 shX0_acid_0)) (by assumption) ?_
    exact W.iret (v := (((Fn 142) k0) / ((Fn 146) k0))) hx hb hr (fun t ht hW => ⟨(((Fn 142) k0) / ((Fn 146) k0)), rfl, trivial, ht⟩) (fun _ h => absurd h List.not_mem_nil) dX0_acid_20
  ·
    have tc_1 : (((Fn 146) k0).toInt : Int) = 0 := congrArg Int32.toInt c_1
    refine lv_iconst (v := 0) hx hb (oc_3 7 (aq_7 shX0_acid_0)) kic_0 ?_
    refine lv_goto (tgt := 20) hx hb (oc_167 8 (aq_8 shX0_acid_0) sgw_0_12) rfl ?_
    exact W.iret (v := 0) hx hb hr (fun t ht hW => ⟨0, rfl, trivial, ht⟩) (fun _ h => absurd h List.not_mem_nil) dX0_acid_20
set_option maxRecDepth 100000 in
set_option maxHeartbeats 4000000 in
theorem q_XaddSample (l : Launch) (D : va_G) (cI cB cZ : ClassId) (zz qq vv : Nat) (bt : Nat → Int32) (g : Nat → Nat) (ad : Nat → Nat → Nat) (cn : Nat → Nat) (In : Nat → Int32) (Fn : Nat → Nat → Int32) (k0 : Nat) (v0 : Int32) (sz : Nat) (hB : CBX cn) (hk : k0 < cn 12) : Met l yX0_addSample (CWS yX0_addSample cX0_addSample 2 none) (RM 1 0 0) (PBx [.ref (ad 12 k0), .int v0] D cI cB cZ zz qq vv bt (wX cI (D.1 99) zz g ad cn In Fn) sz) (va_Qv (fun (u : (Nat → Nat) × (Nat → Int32) × (Nat → Nat → Int32)) => (fun c2 I2 F2 => Fr [] [] [143, 150] cn In Fn c2 I2 F2 ∧ CBX c2 ∧ (F2 143 = upd (Fn 143) k0 (Fn 143 k0 + 1))) u.1 u.2.1 u.2.2) (fun (u : (Nat → Nat) × (Nat → Int32) × (Nat → Nat → Int32)) (t : State) => va_P D vwCl (wX cI (D.1 99) zz g ad u.1 u.2.1 u.2.2) t.heap ∧ va_D (va_A (wX cI (D.1 99) zz g ad cn In Fn) sz) (wX cI (D.1 99) zz g ad u.1 u.2.1 u.2.2)) (va_A (wX cI (D.1 99) zz g ad cn In Fn) sz)) 0 0 (va_A (wX cI (D.1 99) zz g ad cn In Fn) sz) := by
  refine en_x (fun A => (va_Qv (fun (u : (Nat → Nat) × (Nat → Int32) × (Nat → Nat → Int32)) => (fun (c2 : Nat → Nat) (I2 : Nat → Int32) (F2 : Nat → Nat → Int32) => Fr [] [] [143, 150] cn In Fn c2 I2 F2 ∧ CBX c2 ∧ (F2 143 = upd (Fn 143) k0 (Fn 143 k0 + 1))) u.1 u.2.1 u.2.2) (fun (u : (Nat → Nat) × (Nat → Int32) × (Nat → Nat → Int32)) (t : State) => va_P D vwCl (wX cI (D.1 99) zz g ad u.1 u.2.1 u.2.2) t.heap ∧ va_D A (wX cI (D.1 99) zz g ad u.1 u.2.1 u.2.2)) A)) rfl rfl pn_RX0 (Nat.le_of_ble_eq_true rfl) (fun p e s m below meth c A hx hb hml hown S hr hlocks hnm hA hP hK hD hXS hS ls hl => ?_)
  have hl : lv_has ls 2 [(0, .ref (ad 12 k0)), (1, .int v0)] := hl
  have hb_cn : Hid (CBX cn) := hB
  replace hB : CBXh cn := hB
  refine lv_aload_n hx hb (oc_42 0 shX0_addSample_0) rfl (lvA0 hl) ?_
  refine gf_RX0_9 S hK hP _ (xf_2 hk) (v := .ref (ad 1 k0)) rfl (oc_180 1 (aq_1 shX0_addSample_0) uw_0_9) ?_
  refine lv_aload_n hx hb (oc_42 4 (aq_4 shX0_addSample_0)) rfl (lvA0 hl) ?_
  refine gf_RX0_42 S hK hP _ (xf_2 hk) (v := .int ((Fn 143) k0)) rfl (oc_180 5 (aq_5 shX0_addSample_0) uw_0_42) ?_
  refine lv_iload_n hx hb (oc_27 8 (aq_8 shX0_addSample_0)) rfl (lvA1 hl) ?_
  have hFc := va_free (wc := [((ad 1 k0), .inl (cI, 12, .inl (gA (Fn 150) 12 k0)))]) hD hS hA _ (one_im (xf_6 hk))
  refine va_callv (runS_w (As := [.ref (ad 1 k0), .int ((Fn 143) k0), .int v0]) (rest := []) S (q_l_put l D cI cB cZ (ad 1 k0) 12 (gA (Fn 150) 12 k0) ((Fn 143) k0) v0 s.heap.size (by (first | omega | (have zz0 := Hid.u hb_cn; omega)))) kS_RX0_45 hK hP hD _ (one_is (xf_6 hk)) (one_im (xf_6 hk)) rfl ⟨Nat.le_of_ble_eq_true rfl, Nat.le_of_ble_eq_true rfl⟩ ⟨Nat.le_of_ble_eq_true rfl, Nat.le_of_ble_eq_true rfl⟩ rfl hl.1 rfl (Nat.le_of_ble_eq_true rfl) (oc_184 9 (aq_9 shX0_addSample_0) uw_0_45)) hS (fun q _ h => hFc q h) hFc (fun u_3 t H1 locs ht hvm h_2 hB1 hz1 hk1 hS => ?_)
  obtain ⟨hP1, hD1⟩ := hB1
  rw [ht] at hP1
  obtain ⟨hP, hD⟩ := wset1 hP hD (xf_6 hk) hk1 hP1
  obtain rfl : u_3 = (putM (gA (Fn 150) 12 k0) 12 ((Fn 143) k0) v0) := h_2
  generalize H1 = H at hP hS ⊢
  have hP : va_P D vwCl (wX cI (D.1 99) zz g ad cn In (va_up Fn 150 (flat (Fn 150) 12 k0 (putM (gA (Fn 150) 12 k0) 12 ((Fn 143) k0) v0)))) H := va_P_eq (xsg_6 (by (first | omega | (have zz0 := Hid.u hb_cn; omega))) (putM_z (by (first | omega | (have zz0 := Hid.u hb_cn; omega))) gA_z)) hP
  have hD : va_D A (wX cI (D.1 99) zz g ad cn In (va_up Fn 150 (flat (Fn 150) 12 k0 (putM (gA (Fn 150) 12 k0) 12 ((Fn 143) k0) v0)))) := va_D_eq (xsg_6 (by (first | omega | (have zz0 := Hid.u hb_cn; omega))) (putM_z (by (first | omega | (have zz0 := Hid.u hb_cn; omega))) gA_z)) hD
  refine lv_aload_n hx hb (oc_42 12 (aq_12 shX0_addSample_0)) rfl (lvA0 hl) ?_
  refine lv_dup hx hb (oc_89 13 (aq_13 shX0_addSample_0)) rfl ?_
  refine gf_RX0_42 S hK hP _ (xf_2 hk) (v := .int ((Fn 143) k0)) rfl (oc_180 14 (aq_14 shX0_addSample_0) uw_0_42) ?_
  refine lv_iconst (v := 1) hx hb (oc_4 17 (aq_17 shX0_addSample_0)) kic_1 ?_
  refine lv_iadd hx hb (oc_96 18 (aq_18 shX0_addSample_0)) ?_
  refine pf_RX0_42 S hK hP hD hS _ (xf_2 hk) (v := .int (((Fn 143) k0) + 1)) (Nat.le_of_ble_eq_true rfl) rfl rfl (oc_181 19 (aq_19 shX0_addSample_0) uw_0_42) (fun H locs hP hD hS => ?_)
  have hP : va_P D vwCl (wX cI (D.1 99) zz g ad cn In (va_up (va_up Fn 150 (flat (Fn 150) 12 k0 (putM (gA (Fn 150) 12 k0) 12 ((Fn 143) k0) v0))) 143 (upd (Fn 143) k0 (((Fn 143) k0) + 1)))) H := va_P_eq (xs_143 (by (first | omega | (have zz0 := Hid.u hb_cn; omega)))) hP
  have hD : va_D A (wX cI (D.1 99) zz g ad cn In (va_up (va_up Fn 150 (flat (Fn 150) 12 k0 (putM (gA (Fn 150) 12 k0) 12 ((Fn 143) k0) v0))) 143 (upd (Fn 143) k0 (((Fn 143) k0) + 1)))) := va_D_eq (xs_143 (by (first | omega | (have zz0 := Hid.u hb_cn; omega)))) hD
  exact W.vret hx hb hr (fun t ht hW => ⟨⟨(cn, In, (va_up (va_up Fn 150 (flat (Fn 150) 12 k0 (putM (gA (Fn 150) 12 k0) 12 ((Fn 143) k0) v0))) 143 (upd (Fn 143) k0 (((Fn 143) k0) + 1)))), rfl, ⟨(Fr.mo (Fr.f 143 (Fr.f 150 Fr.rf)) (sbl rfl) (sbl rfl) (sbl rfl)), hB, (by show (va_up (va_up Fn 150 (flat (Fn 150) 12 k0 (putM (gA (Fn 150) 12 k0) 12 ((Fn 143) k0) v0))) 143 (upd (Fn 143) k0 (((Fn 143) k0) + 1))) 143 = upd (Fn 143) k0 (Fn 143 k0 + 1); rfl)⟩, by rw [ht]; exact hP, hD⟩, hS.F ht⟩) hS.2.2 (oc_177 22 (aq_22 shX0_addSample_0))
set_option maxRecDepth 100000 in
set_option maxHeartbeats 4000000 in
theorem q_XsamplesFrom (l : Launch) (D : va_G) (cI cB cZ : ClassId) (zz qq vv : Nat) (bt : Nat → Int32) (g : Nat → Nat) (ad : Nat → Nat → Nat) (cn : Nat → Nat) (In : Nat → Int32) (Fn : Nat → Nat → Int32) (k0 n0 : Nat) (v0 : Int32) (hB : CBX cn) (hk : k0 < cn 12) (es : Fn 143 k0 = nI n0) (hn : n0 ≤ 12) : Met l yX0_samplesFrom (CWS yX0_samplesFrom cX0_samplesFrom 4 (some .int)) (RM 1 0 0) (PBrx [.ref (ad 12 k0), .int v0] D cI cB cZ zz qq vv bt (wX cI (D.1 99) zz g ad cn In Fn)) (vp_Si (fun _ => True)) 0 0 (fun _ => False) := by
  refine en_rx rfl pn_RX0 (Nat.le_of_ble_eq_true rfl) (fun p e s m below meth c hx hb hml hown S hr hlocks hnm hP hK hXS hS ls hl => ?_)
  have hl : lv_has ls 4 [(0, .ref (ad 12 k0)), (1, .int v0)] := hl
  have hb_cn : Hid (CBX cn) := hB
  replace hB : CBXh cn := hB
  refine lv_iconst (v := 0) hx hb (oc_3 0 shX0_samplesFrom_0) kic_0 ?_
  refine lv_istore_n (lv' := [(2, .int 0), (0, .ref (ad 12 k0)), (1, .int v0)]) hx hb (oc_61 1 (aq_1 shX0_samplesFrom_0)) rfl hl (ltb rfl) rfl (fun ls hl => ?_)
  refine lv_iconst (v := 0) hx hb (oc_3 2 (aq_2 shX0_samplesFrom_0)) kic_0 ?_
  refine lv_istore_n (lv' := [(3, .int 0), (2, .int 0), (0, .ref (ad 12 k0)), (1, .int v0)]) hx hb (oc_62 3 (aq_3 shX0_samplesFrom_0)) rfl hl (ltb rfl) rfl (fun ls hl => ?_)
  have lp_4 : ∀ (n : Nat) (i4 : Nat) (x4_2 : Int32) , n0 - i4 < n → (i4 ≤ n0) → ∀ ls : Array Slot, lv_has ls 4 [(3, .int (nI i4)), (2, .int x4_2), (0, .ref (ad 12 k0)), (1, .int v0)] → W p l e (RM 1 0 0) s m ([.ref (ad 12 k0), .int v0]).toArray below meth c s.heap [] 0 0 (MQ below (vp_Si (fun _ => True)) ([.ref (ad 12 k0), .int v0]).toArray s 0 0 (fun _ => False)) (F0 m 4 ls []) := by
    intro n4
    induction n4 with
    | zero => intros; (first | omega | (have zz0 := Hid.u hb_cn; omega))
    | succ n4 ih4 =>
      intro i4 x4_2 hmu4 hinv4 ls hl
      have hr4 := hinv4
      have ti4 : (nI i4).toInt = (i4 : Int) := nI_toInt (by (first | omega | (have zz0 := Hid.u hb_cn; omega)))
      refine lv_iload_n hx hb (oc_29 4 (aq_4 shX0_samplesFrom_0)) rfl (lvA0 hl) ?_
      refine lv_aload_n hx hb (oc_42 5 (aq_5 shX0_samplesFrom_0)) rfl (lvA2 hl) ?_
      refine gf_RX0_42 S hK hP _ (xf_2 hk) (v := .int ((Fn 143) k0)) rfl (oc_180 6 (aq_6 shX0_samplesFrom_0) uw_0_42) ?_
      refine lv_topi (fun y_1 ey_1 => ?_)
      obtain rfl : y_1 = (nI n0) := ey_1.trans es
      have : (nI n0).toInt = ((n0 : Nat) : Int) := nI_toInt (by (first | omega | (have zz0 := Hid.u hb_cn; omega)))
      refine lv_icmp_ge (tgt := 38) hx hb (oc_162 9 (aq_9 shX0_samplesFrom_0) sgw_0_29) rfl (fun c_2 => ?_) (fun c_2 => ?_)
      ·
        have tc_2 : ((nI n0).toInt : Int) ≤ (nI i4).toInt := Int32.le_iff_toInt_le.mp c_2
        refine lv_iload_n hx hb (oc_28 38 (aq_13 shX0_samplesFrom_25)) rfl (lvA1 hl) ?_
        exact W.iret (v := x4_2) hx hb hr (fun t ht hW => ⟨x4_2, rfl, trivial, ht⟩) (fun _ h => absurd h List.not_mem_nil) (oc_172 39 (aq_14 shX0_samplesFrom_25))
      ·
        have tc_2 : ((nI i4).toInt : Int) < (nI n0).toInt := Int32.lt_iff_toInt_lt.mp (Int32.not_le.mp c_2)
        refine lv_iload_n hx hb (oc_28 12 (aq_12 shX0_samplesFrom_0)) rfl (lvA1 hl) ?_
        refine lv_aload_n hx hb (oc_42 13 (aq_13 shX0_samplesFrom_0)) rfl (lvA2 hl) ?_
        refine gf_RX0_9 S hK hP _ (xf_2 hk) (v := .ref (ad 1 k0)) rfl (oc_180 14 (aq_14 shX0_samplesFrom_0) uw_0_9) ?_
        refine lv_iload_n hx hb (oc_29 17 (aq_17 shX0_samplesFrom_0)) rfl (lvA0 hl) ?_
        refine vp_callSi (runS_r (As := [.ref (ad 1 k0), .int (nI i4)]) (rest := [.int x4_2]) S (q_l_at l D cI cB cZ (ad 1 k0) 12 (gA (Fn 150) 12 k0) (nI i4) (by (first | omega | (have zz0 := Hid.u hb_cn; omega)))) kS_RX0_51 hK hP _ (one_is (xf_6 hk)) ⟨Nat.le_of_ble_eq_true rfl, Nat.le_of_ble_eq_true rfl⟩ ⟨Nat.le_of_ble_eq_true rfl, Nat.le_of_ble_eq_true rfl⟩ rfl hl.1 rfl (Nat.le_of_ble_eq_true rfl) (oc_184 18 (aq_18 shX0_samplesFrom_0) uw_0_51)) (fun r_3 h_4 => ?_)
        subst h_4
        refine lv_iload_n hx hb (oc_27 21 (aq_21 shX0_samplesFrom_0)) rfl (lvA3 hl) ?_
        refine lv_icmp_lt (tgt := 29) hx hb (oc_161 22 (aq_22 shX0_samplesFrom_0) sgw_0_7) rfl (fun c_5 => ?_) (fun c_5 => ?_)
        ·
          have tc_5 : ((atM (gA (Fn 150) 12 k0) 12 (nI i4)).toInt : Int) < v0.toInt := Int32.lt_iff_toInt_lt.mp c_5
          refine lv_iconst (v := 0) hx hb (oc_3 29 (aq_4 shX0_samplesFrom_25)) kic_0 ?_
          refine lv_iadd hx hb (oc_96 30 (aq_5 shX0_samplesFrom_25)) ?_
          refine lv_istore_n (lv' := [(2, .int (x4_2 + 0)), (3, .int (nI i4)), (0, .ref (ad 12 k0)), (1, .int v0)]) hx hb (oc_61 31 (aq_6 shX0_samplesFrom_25)) rfl hl (ltb rfl) rfl (fun ls hl => ?_)
          refine lv_iinc (v := (nI (i4 + 1))) (lv' := [(3, .int (nI (i4 + 1))), (2, .int (x4_2 + 0)), (0, .ref (ad 12 k0)), (1, .int v0)]) hx hb (oc_132 32 (aq_7 shX0_samplesFrom_25) ub_3 sgb_1) hl (k := 1) rfl (nI_1 _) (ltb rfl) rfl (fun ls hl => ?_)
          refine lv_goto (tgt := 4) hx hb (oc_167 35 (aq_10 shX0_samplesFrom_25) sgw_255_225) rfl ?_
          exact ih4 (i4 + 1) (x4_2 + 0) (by (first | omega | (have zz0 := Hid.u hb_cn; omega))) (by (first | omega | (have zz0 := Hid.u hb_cn; omega))) ls (lv_sub hl [0, 1, 2, 3] rfl)
        ·
          have tc_5 : (v0.toInt : Int) ≤ (atM (gA (Fn 150) 12 k0) 12 (nI i4)).toInt := Int32.le_iff_toInt_le.mp (Int32.not_lt.mp c_5)
          refine lv_iconst (v := 1) hx hb (oc_4 25 shX0_samplesFrom_25) kic_1 ?_
          refine lv_goto (tgt := 30) hx hb (oc_167 26 (aq_1 shX0_samplesFrom_25) sgw_0_4) rfl ?_
          refine lv_iadd hx hb (oc_96 30 (aq_5 shX0_samplesFrom_25)) ?_
          refine lv_istore_n (lv' := [(2, .int (x4_2 + 1)), (3, .int (nI i4)), (0, .ref (ad 12 k0)), (1, .int v0)]) hx hb (oc_61 31 (aq_6 shX0_samplesFrom_25)) rfl hl (ltb rfl) rfl (fun ls hl => ?_)
          refine lv_iinc (v := (nI (i4 + 1))) (lv' := [(3, .int (nI (i4 + 1))), (2, .int (x4_2 + 1)), (0, .ref (ad 12 k0)), (1, .int v0)]) hx hb (oc_132 32 (aq_7 shX0_samplesFrom_25) ub_3 sgb_1) hl (k := 1) rfl (nI_1 _) (ltb rfl) rfl (fun ls hl => ?_)
          refine lv_goto (tgt := 4) hx hb (oc_167 35 (aq_10 shX0_samplesFrom_25) sgw_255_225) rfl ?_
          exact ih4 (i4 + 1) (x4_2 + 1) (by (first | omega | (have zz0 := Hid.u hb_cn; omega))) (by (first | omega | (have zz0 := Hid.u hb_cn; omega))) ls (lv_sub hl [0, 1, 2, 3] rfl)
  exact lp_4 _ 0 0 (Nat.lt_succ_self _) (by (first | omega | (have zz0 := Hid.u hb_cn; omega))) ls (lv_sub hl [0, 1, 2, 3] rfl)
set_option maxRecDepth 100000 in
set_option maxHeartbeats 4000000 in
theorem q_Xclaim (l : Launch) (D : va_G) (cI cB cZ : ClassId) (zz qq vv : Nat) (bt : Nat → Int32) (g : Nat → Nat) (ad : Nat → Nat → Nat) (cn : Nat → Nat) (In : Nat → Int32) (Fn : Nat → Nat → Int32) (v0 v1 v2 : Int32) (hB : CBX cn) (hM : ∀ k : Nat, k < cn 12 → ∃ n : Nat, n ≤ 12 ∧ Fn 143 k = nI n) : Met l yX11_claim (CWS yX11_claim cX11_claim 7 (some .int)) (RM 4 0 0) (PBrx [.ref (g 0), .int v0, .int v1, .int v2] D cI cB cZ zz qq vv bt (wX cI (D.1 99) zz g ad cn In Fn)) (vp_Si (fun _ => True)) 0 0 (fun _ => False) := by
  refine en_rx rfl pn_RX11 (Nat.le_of_ble_eq_true rfl) (fun p e s m below meth c hx hb hml hown S hr hlocks hnm hP hK hXS hS ls hl => ?_)
  have hl : lv_has ls 7 [(0, .ref (g 0)), (1, .int v0), (2, .int v1), (3, .int v2)] := hl
  have hb_cn : Hid (CBX cn) := hB
  replace hB : CBXh cn := hB
  refine lv_aload_n hx hb (oc_42 0 shX11_claim_0) rfl (lvA0 hl) ?_
  refine lv_iload_n hx hb (oc_27 1 (aq_1 shX11_claim_0)) rfl (lvA1 hl) ?_
  refine va_csq (runV_rxa (As := [.int v0]) (rest := []) S (q_XbatchAt l D cI cB cZ zz qq vv bt g ad cn In Fn v0 hB) kV_RX11_382 hK hXS hS hP 0 xo_0 rfl rfl ⟨Nat.le_of_ble_eq_true rfl, Nat.le_of_ble_eq_true rfl⟩ ⟨Nat.le_of_ble_eq_true rfl, Nat.le_of_ble_eq_true rfl⟩ rfl hl.1 rfl (Nat.le_of_ble_eq_true rfl) (oc_182 2 (aq_2 shX11_claim_0) uw_1_126)) (fun r_1 h_2 => ?_)
  rcases h_2 with ⟨mr_1, er_1, hr_1, rfl⟩ | ⟨hr_1, rfl⟩
  ·
    refine lv_astore (lv' := [(4, .ref (ad 12 mr_1)), (0, .ref (g 0)), (1, .int v0), (2, .int v1), (3, .int v2)]) hx hb (oc_58 5 (aq_5 shX11_claim_0) ub_4) hl (ltb rfl) rfl (fun ls hl => ?_)
    refine lv_aload hx hb (oc_25 7 (aq_7 shX11_claim_0) ub_4) (lvA0 hl) ?_
    refine lv_ifnull hx hb (oc_198 9 (aq_9 shX11_claim_0) sgw_0_25) ?_
    refine lv_iload_n hx hb (oc_28 12 (aq_12 shX11_claim_0)) rfl (lvA3 hl) ?_
    refine lv_iconst (v := 0) hx hb (oc_3 13 (aq_13 shX11_claim_0)) kic_0 ?_
    refine lv_sipush (v := 1000) hx hb (oc_17 14 (aq_14 shX11_claim_0) sgw_3_232) (by decide) ?_
    refine vp_callSi (runS_r (As := [.int v1, .int 0, .int 1000]) (rest := []) S (q_l_within l D cI cB cZ v1 0 1000) kS_RX11_80 hK hP [] rfl ⟨Nat.le_of_ble_eq_true rfl, Nat.le_of_ble_eq_true rfl⟩ ⟨Nat.le_of_ble_eq_true rfl, Nat.le_of_ble_eq_true rfl⟩ rfl hl.1 rfl (Nat.le_of_ble_eq_true rfl) (oc_184 17 (aq_17 shX11_claim_0) uw_0_80)) (fun r_3 h_4 => ?_)
    rcases h_4 with ⟨rfl, h_4⟩ | ⟨rfl, h_4⟩
    ·
      have h_4 : 0 ≤ v1.toInt ∧ v1.toInt ≤ 1000 := h_4
      refine lv_if_eq (tgt := 34) hx hb (oc_153 20 (aq_20 shX11_claim_0) sgw_0_14) rfl (fun h => absurd h cq_eq_1_0) (fun _ => ?_)
      refine lv_iload_n hx hb (oc_29 23 (aq_23 shX11_claim_0)) rfl (lvA4 hl) ?_
      refine lv_iconst (v := 0) hx hb (oc_3 24 shX11_claim_24) kic_0 ?_
      refine lv_sipush (v := 1000) hx hb (oc_17 25 (aq_1 shX11_claim_24) sgw_3_232) (by decide) ?_
      refine vp_callSi (runS_r (As := [.int v2, .int 0, .int 1000]) (rest := []) S (q_l_within l D cI cB cZ v2 0 1000) kS_RX11_80 hK hP [] rfl ⟨Nat.le_of_ble_eq_true rfl, Nat.le_of_ble_eq_true rfl⟩ ⟨Nat.le_of_ble_eq_true rfl, Nat.le_of_ble_eq_true rfl⟩ rfl hl.1 rfl (Nat.le_of_ble_eq_true rfl) (oc_184 28 (aq_4 shX11_claim_24) uw_0_80)) (fun r_5 h_6 => ?_)
      rcases h_6 with ⟨rfl, h_6⟩ | ⟨rfl, h_6⟩
      ·
        have h_6 : 0 ≤ v2.toInt ∧ v2.toInt ≤ 1000 := h_6
        refine lv_if_ne (tgt := 36) hx hb (oc_154 31 (aq_7 shX11_claim_24) sgw_0_5) rfl (fun _ => ?_) (fun h => absurd h cq_eq_1_0)
        obtain ⟨n9, hn9, en9⟩ := hM mr_1 (by (first | omega | (have zz0 := Hid.u hb_cn; omega)))
        refine lv_aload hx hb (oc_25 36 (aq_12 shX11_claim_24) ub_4) (lvA0 hl) ?_
        refine lv_iload_n hx hb (oc_28 38 (aq_14 shX11_claim_24)) rfl (lvA3 hl) ?_
        refine lv_iload_n hx hb (oc_29 39 (aq_15 shX11_claim_24)) rfl (lvA4 hl) ?_
        refine lv_isub hx hb (oc_100 40 (aq_16 shX11_claim_24)) ?_
        have kf_1 : mr_1 < cn 12 := by (first | omega | (have zz0 := Hid.u hb_cn; omega))
        refine vp_callSi (runV_rxa (As := [.int (v1 - v2)]) (rest := []) S (q_XsamplesFrom l D cI cB cZ zz qq vv bt g ad cn In Fn mr_1 n9 (v1 - v2) hB (by (first | omega | (have zz0 := Hid.u hb_cn; omega))) en9 hn9) kV_RX11_447 hK hXS hS hP _ (xf_2 kf_1) rfl rfl ⟨Nat.le_of_ble_eq_true rfl, Nat.le_of_ble_eq_true rfl⟩ ⟨Nat.le_of_ble_eq_true rfl, Nat.le_of_ble_eq_true rfl⟩ rfl hl.1 rfl (Nat.le_of_ble_eq_true rfl) (oc_182 41 (aq_17 shX11_claim_24) uw_1_191)) (fun r_7 h_8 => ?_)
        refine lv_istore (lv' := [(5, .int r_7), (4, .ref (ad 12 mr_1)), (0, .ref (g 0)), (1, .int v0), (2, .int v1), (3, .int v2)]) hx hb (oc_54 44 (aq_20 shX11_claim_24) ub_5) hl (ltb rfl) rfl (fun ls hl => ?_)
        refine lv_aload hx hb (oc_25 46 (aq_22 shX11_claim_24) ub_4) (lvA1 hl) ?_
        refine gf_RX11_441 S hK hP _ (xf_2 kf_1) (v := .int ((Fn 143) mr_1)) rfl (oc_180 48 shX11_claim_48 uw_1_185) ?_
        refine lv_iload hx hb (oc_21 51 (aq_3 shX11_claim_48) ub_5) (lvA0 hl) ?_
        refine lv_isub hx hb (oc_100 53 (aq_5 shX11_claim_48)) ?_
        refine lv_istore (lv' := [(6, .int (((Fn 143) mr_1) - r_7)), (5, .int r_7), (4, .ref (ad 12 mr_1)), (0, .ref (g 0)), (1, .int v0), (2, .int v1), (3, .int v2)]) hx hb (oc_54 54 (aq_6 shX11_claim_48) ub_6) hl (ltb rfl) rfl (fun ls hl => ?_)
        refine lv_iload hx hb (oc_21 56 (aq_8 shX11_claim_48) ub_5) (lvA1 hl) ?_
        refine lv_iload hx hb (oc_21 58 (aq_10 shX11_claim_48) ub_6) (lvA0 hl) ?_
        refine lv_icmp_le (tgt := 67) hx hb (oc_164 60 (aq_12 shX11_claim_48) sgw_0_7) rfl (fun c_9 => ?_) (fun c_9 => ?_)
        ·
          have tc_9 : (r_7.toInt : Int) ≤ (((Fn 143) mr_1) - r_7).toInt := Int32.le_iff_toInt_le.mp c_9
          refine lv_iload hx hb (oc_21 67 (aq_19 shX11_claim_48) ub_6) (lvA0 hl) ?_
          refine lv_iload hx hb (oc_21 69 (aq_21 shX11_claim_48) ub_5) (lvA1 hl) ?_
          refine lv_icmp_le (tgt := 78) hx hb (oc_164 71 (aq_23 shX11_claim_48) sgw_0_7) rfl (fun c_10 => ?_) (fun c_10 => ?_)
          ·
            have tc_10 : ((((Fn 143) mr_1) - r_7).toInt : Int) ≤ r_7.toInt := Int32.le_iff_toInt_le.mp c_10
            refine lv_iconst (v := 2) hx hb (oc_5 78 (aq_4 shX11_claim_74)) kic_2 ?_
            exact W.iret (v := 2) hx hb hr (fun t ht hW => ⟨2, rfl, trivial, ht⟩) (fun _ h => absurd h List.not_mem_nil) (oc_172 79 (aq_5 shX11_claim_74))
          ·
            have tc_10 : (r_7.toInt : Int) < (((Fn 143) mr_1) - r_7).toInt := Int32.lt_iff_toInt_lt.mp (Int32.not_le.mp c_10)
            refine lv_iconst (v := 0) hx hb (oc_3 74 shX11_claim_74) kic_0 ?_
            refine lv_goto (tgt := 79) hx hb (oc_167 75 (aq_1 shX11_claim_74) sgw_0_4) rfl ?_
            exact W.iret (v := 0) hx hb hr (fun t ht hW => ⟨0, rfl, trivial, ht⟩) (fun _ h => absurd h List.not_mem_nil) (oc_172 79 (aq_5 shX11_claim_74))
        ·
          have tc_9 : ((((Fn 143) mr_1) - r_7).toInt : Int) < r_7.toInt := Int32.lt_iff_toInt_lt.mp (Int32.not_le.mp c_9)
          refine lv_iconst (v := 1) hx hb (oc_4 63 (aq_15 shX11_claim_48)) kic_1 ?_
          refine lv_goto (tgt := 79) hx hb (oc_167 64 (aq_16 shX11_claim_48) sgw_0_15) rfl ?_
          exact W.iret (v := 1) hx hb hr (fun t ht hW => ⟨1, rfl, trivial, ht⟩) (fun _ h => absurd h List.not_mem_nil) (oc_172 79 (aq_5 shX11_claim_74))
      ·
        have h_6 : ¬ (0 ≤ v2.toInt ∧ v2.toInt ≤ 1000) := h_6
        refine lv_if_ne (tgt := 36) hx hb (oc_154 31 (aq_7 shX11_claim_24) sgw_0_5) rfl (fun h => absurd h cq_eq_0_0) (fun _ => ?_)
        refine lv_iconst (v := (-1)) hx hb (oc_2 34 (aq_10 shX11_claim_24)) kic_m1 ?_
        exact W.iret (v := (-1)) hx hb hr (fun t ht hW => ⟨(-1), rfl, trivial, ht⟩) (fun _ h => absurd h List.not_mem_nil) (oc_172 35 (aq_11 shX11_claim_24))
    ·
      have h_4 : ¬ (0 ≤ v1.toInt ∧ v1.toInt ≤ 1000) := h_4
      refine lv_if_eq (tgt := 34) hx hb (oc_153 20 (aq_20 shX11_claim_0) sgw_0_14) rfl (fun _ => ?_) (fun h => absurd h cq_eq_0_0)
      refine lv_iconst (v := (-1)) hx hb (oc_2 34 (aq_10 shX11_claim_24)) kic_m1 ?_
      exact W.iret (v := (-1)) hx hb hr (fun t ht hW => ⟨(-1), rfl, trivial, ht⟩) (fun _ h => absurd h List.not_mem_nil) (oc_172 35 (aq_11 shX11_claim_24))
  ·
    refine lv_astoreN (lv' := [(4, .null), (0, .ref (g 0)), (1, .int v0), (2, .int v1), (3, .int v2)]) hx hb (oc_58 5 (aq_5 shX11_claim_0) ub_4) hl (ltb rfl) rfl (fun ls hl => ?_)
    refine lv_aloadN hx hb (oc_25 7 (aq_7 shX11_claim_0) ub_4) (lvA0 hl) ?_
    refine lv_ifnullN (tgt := 34) hx hb (oc_198 9 (aq_9 shX11_claim_0) sgw_0_25) rfl ?_
    refine lv_iconst (v := (-1)) hx hb (oc_2 34 (aq_10 shX11_claim_24)) kic_m1 ?_
    exact W.iret (v := (-1)) hx hb hr (fun t ht hW => ⟨(-1), rfl, trivial, ht⟩) (fun _ h => absurd h List.not_mem_nil) (oc_172 35 (aq_11 shX11_claim_24))
set_option maxRecDepth 100000 in
set_option maxHeartbeats 4000000 in
theorem q_XsharesWithEarlier (l : Launch) (D : va_G) (cI cB cZ : ClassId) (zz qq vv : Nat) (bt : Nat → Int32) (g : Nat → Nat) (ad : Nat → Nat → Nat) (cn : Nat → Nat) (In : Nat → Int32) (Fn : Nat → Nat → Int32) (p0 k0 : Nat) (hB : CBX cn) (hk : k0 < cn 13) (hp : p0 ≤ 40) : Met l yX11_sharesWithEarlier (CWS yX11_sharesWithEarlier cX11_sharesWithEarlier 5 (some .boolean)) (RM 3 0 0) (PBrx [.ref (g 0), .int (nI p0), .ref (ad 13 k0)] D cI cB cZ zz qq vv bt (wX cI (D.1 99) zz g ad cn In Fn)) (vp_Si (fun r => r = 0 ∨ r = 1)) 0 0 (fun _ => False) := by
  refine en_rx rfl pn_RX11 (Nat.le_of_ble_eq_true rfl) (fun p e s m below meth c hx hb hml hown S hr hlocks hnm hP hK hXS hS ls hl => ?_)
  have hl : lv_has ls 5 [(0, .ref (g 0)), (1, .int (nI p0)), (2, .ref (ad 13 k0))] := hl
  have hb_cn : Hid (CBX cn) := hB
  replace hB : CBXh cn := hB
  refine lv_iconst (v := 0) hx hb (oc_3 0 shX11_sharesWithEarlier_0) kic_0 ?_
  refine lv_istore_n (lv' := [(3, .int 0), (0, .ref (g 0)), (1, .int (nI p0)), (2, .ref (ad 13 k0))]) hx hb (oc_62 1 (aq_1 shX11_sharesWithEarlier_0)) rfl hl (ltb rfl) rfl (fun ls hl => ?_)
  have lp_2 : ∀ (n : Nat) (i2 : Nat) , 40 - i2 < n → (i2 ≤ 40) → ∀ ls : Array Slot, lv_has ls 5 [(3, .int (nI i2)), (0, .ref (g 0)), (1, .int (nI p0)), (2, .ref (ad 13 k0))] → W p l e (RM 3 0 0) s m ([.ref (g 0), .int (nI p0), .ref (ad 13 k0)]).toArray below meth c s.heap [] 0 0 (MQ below (vp_Si (fun r => r = 0 ∨ r = 1)) ([.ref (g 0), .int (nI p0), .ref (ad 13 k0)]).toArray s 0 0 (fun _ => False)) (F0 m 2 ls []) := by
    intro n2
    induction n2 with
    | zero => intros; (first | omega | (have zz0 := Hid.u hb_cn; omega))
    | succ n2 ih2 =>
      intro i2 hmu2 hinv2 ls hl
      have hr2 := hinv2
      have ti2 : (nI i2).toInt = (i2 : Int) := nI_toInt (by (first | omega | (have zz0 := Hid.u hb_cn; omega)))
      refine lv_iload_n hx hb (oc_29 2 (aq_2 shX11_sharesWithEarlier_0)) rfl (lvA0 hl) ?_
      refine lv_iload_n hx hb (oc_27 3 (aq_3 shX11_sharesWithEarlier_0)) rfl (lvA2 hl) ?_
      have : (nI p0).toInt = ((p0 : Nat) : Int) := nI_toInt (by (first | omega | (have zz0 := Hid.u hb_cn; omega)))
      refine lv_icmp_ge (tgt := 75) hx hb (oc_162 4 (aq_4 shX11_sharesWithEarlier_0) sgw_0_71) rfl (fun c_1 => ?_) (fun c_1 => ?_)
      ·
        have tc_1 : ((nI p0).toInt : Int) ≤ (nI i2).toInt := Int32.le_iff_toInt_le.mp c_1
        refine lv_iconst (v := 0) hx hb (oc_3 75 (aq_23 shX11_sharesWithEarlier_52)) kic_0 ?_
        exact W.zret (v := 0) hx hb hr rfl (fun t ht hW => ⟨0, rfl, (Or.inl rfl), ht⟩) (fun _ h => absurd h List.not_mem_nil) (oc_172 76 shX11_sharesWithEarlier_76)
      ·
        have tc_1 : ((nI i2).toInt : Int) < (nI p0).toInt := Int32.lt_iff_toInt_lt.mp (Int32.not_le.mp c_1)
        refine lv_iload_n hx hb (oc_29 7 (aq_7 shX11_sharesWithEarlier_0)) rfl (lvA0 hl) ?_
        refine lv_aload_n hx hb (oc_42 8 (aq_8 shX11_sharesWithEarlier_0)) rfl (lvA1 hl) ?_
        refine gf_RX11_71 S hK hP 0 xo_0 (v := .ref (g 13)) rfl (oc_180 9 (aq_9 shX11_sharesWithEarlier_0) uw_0_71) ?_
        refine vp_callSi (runV_r (As := []) (rest := [.int (nI i2)]) S (q_l_size l D cI cB cZ (g 13) (if (cn 13) = 0 then zz else ad 2 3) (In 13) (nI (cn 13))) kV_RX11_84 hK hP [27] (one_is xo_27) 27 xo_27 rfl rfl ⟨Nat.le_of_ble_eq_true rfl, Nat.le_of_ble_eq_true rfl⟩ ⟨Nat.le_of_ble_eq_true rfl, Nat.le_of_ble_eq_true rfl⟩ rfl hl.1 rfl (Nat.le_of_ble_eq_true rfl) (oc_182 12 (aq_12 shX11_sharesWithEarlier_0) uw_0_84)) (fun r_2 h_3 => ?_)
        subst h_3
        have : (nI (cn 13)).toInt = (((cn 13) : Nat) : Int) := nI_toInt (by (first | omega | (have zz0 := Hid.u hb_cn; omega)))
        refine lv_icmp_ge (tgt := 75) hx hb (oc_162 15 (aq_15 shX11_sharesWithEarlier_0) sgw_0_60) rfl (fun c_4 => ?_) (fun c_4 => ?_)
        ·
          have tc_4 : ((nI (cn 13)).toInt : Int) ≤ (nI i2).toInt := Int32.le_iff_toInt_le.mp c_4
          refine lv_iconst (v := 0) hx hb (oc_3 75 (aq_23 shX11_sharesWithEarlier_52)) kic_0 ?_
          exact W.zret (v := 0) hx hb hr rfl (fun t ht hW => ⟨0, rfl, (Or.inl rfl), ht⟩) (fun _ h => absurd h List.not_mem_nil) (oc_172 76 shX11_sharesWithEarlier_76)
        ·
          have tc_4 : ((nI i2).toInt : Int) < (nI (cn 13)).toInt := Int32.lt_iff_toInt_lt.mp (Int32.not_le.mp c_4)
          refine lv_aload_n hx hb (oc_42 18 (aq_18 shX11_sharesWithEarlier_0)) rfl (lvA1 hl) ?_
          refine gf_RX11_71 S hK hP 0 xo_0 (v := .ref (g 13)) rfl (oc_180 19 (aq_19 shX11_sharesWithEarlier_0) uw_0_71) ?_
          refine lv_iload_n hx hb (oc_29 22 (aq_22 shX11_sharesWithEarlier_0)) rfl (lvA0 hl) ?_
          refine va_csq (runV_rx (As := [.int (nI i2)]) (rest := []) S (q_l_get l D cI cB cZ zz qq vv bt (g 13) (ad 2 3) (cn 23) (cn 13) i2 (ad 13 i2) (In 13) (fun i => if i < (cn 13) then some (ad 13 i) else none) (by (first | omega | (have zz0 := Hid.u hb_cn; omega))) (if_pos (by (first | omega | (have zz0 := Hid.u hb_cn; omega)))) (by (first | omega | (have zz0 := Hid.u hb_cn; omega))) (by (first | omega | (have zz0 := Hid.u hb_cn; omega)))) kV_RX11_87 hK hXS hS hP _ (two_is (xl_3 (by (first | omega | (have zz0 := Hid.u hb_cn; omega)))) (xf_16 (k := 0) (by (first | omega | (have zz0 := Hid.u hb_cn; omega))))) (va_recv hK.1 hP (ci := 0) rfl xo_27) ⟨Nat.le_of_ble_eq_true rfl, Nat.le_of_ble_eq_true rfl⟩ ⟨Nat.le_of_ble_eq_true rfl, Nat.le_of_ble_eq_true rfl⟩ rfl hl.1 rfl (Nat.le_of_ble_eq_true rfl) (oc_182 23 (aq_23 shX11_sharesWithEarlier_0) uw_0_87)) (fun r_5 h_6 => ?_)
          subst h_6
          have kf_1 : i2 < cn 13 := by (first | omega | (have zz0 := Hid.u hb_cn; omega))
          refine va_castS hx hb hown (S.2.2.2.2 _ (wk5_4 7 rfl rfl)) (xclass hK.1 (ci := 5) rfl) (va_recv hK.1 hP (ci := 5) rfl (xf_3 kf_1)) (oc_192 26 shX11_sharesWithEarlier_26 uw_0_97) ?_
          refine lv_astore (lv' := [(4, .ref (ad 13 i2)), (3, .int (nI i2)), (0, .ref (g 0)), (1, .int (nI p0)), (2, .ref (ad 13 k0))]) hx hb (oc_58 29 (aq_3 shX11_sharesWithEarlier_26) ub_4) hl (ltb rfl) rfl (fun ls hl => ?_)
          refine lv_aload hx hb (oc_25 31 (aq_5 shX11_sharesWithEarlier_26) ub_4) (lvA0 hl) ?_
          refine gf_RX11_402 S hK hP _ (xf_3 kf_1) (v := .int ((Fn 160) i2)) rfl (oc_180 33 (aq_7 shX11_sharesWithEarlier_26) uw_1_146) ?_
          refine lv_aload_n hx hb (oc_44 36 (aq_10 shX11_sharesWithEarlier_26)) rfl (lvA4 hl) ?_
          refine gf_RX11_402 S hK hP _ (xf_3 hk) (v := .int ((Fn 160) k0)) rfl (oc_180 37 (aq_11 shX11_sharesWithEarlier_26) uw_1_146) ?_
          refine lv_icmp_ne (tgt := 69) hx hb (oc_160 40 (aq_14 shX11_sharesWithEarlier_26) sgw_0_29) rfl (fun c_7 => ?_) (fun c_7 => ?_)
          ·
            have tc_7 : (((Fn 160) i2).toInt : Int) ≠ ((Fn 160) k0).toInt := fun q => c_7 (Int32.toInt_inj.mp q)
            refine lv_iinc (v := (nI (i2 + 1))) (lv' := [(3, .int (nI (i2 + 1))), (4, .ref (ad 13 i2)), (0, .ref (g 0)), (1, .int (nI p0)), (2, .ref (ad 13 k0))]) hx hb (oc_132 69 (aq_17 shX11_sharesWithEarlier_52) ub_3 sgb_1) hl (k := 1) rfl (nI_1 _) (ltb rfl) rfl (fun ls hl => ?_)
            refine lv_goto (tgt := 2) hx hb (oc_167 72 (aq_20 shX11_sharesWithEarlier_52) sgw_255_186) rfl ?_
            exact ih2 (i2 + 1) (by (first | omega | (have zz0 := Hid.u hb_cn; omega))) (by (first | omega | (have zz0 := Hid.u hb_cn; omega))) ls (lv_sub hl [0, 2, 3, 4] rfl)
          ·
            have tc_7 : (((Fn 160) i2).toInt : Int) = ((Fn 160) k0).toInt := congrArg Int32.toInt c_7
            refine lv_aload hx hb (oc_25 43 (aq_17 shX11_sharesWithEarlier_26) ub_4) (lvA0 hl) ?_
            refine gf_RX11_405 S hK hP _ (xf_3 kf_1) (v := .int ((Fn 161) i2)) rfl (oc_180 45 (aq_19 shX11_sharesWithEarlier_26) uw_1_149) ?_
            refine lv_aload_n hx hb (oc_44 48 (aq_22 shX11_sharesWithEarlier_26)) rfl (lvA4 hl) ?_
            refine gf_RX11_408 S hK hP _ (xf_3 hk) (v := .int ((Fn 162) k0)) rfl (oc_180 49 (aq_23 shX11_sharesWithEarlier_26) uw_1_152) ?_
            refine lv_icmp_ge (tgt := 69) hx hb (oc_162 52 shX11_sharesWithEarlier_52 sgw_0_17) rfl (fun c_8 => ?_) (fun c_8 => ?_)
            ·
              have tc_8 : (((Fn 162) k0).toInt : Int) ≤ ((Fn 161) i2).toInt := Int32.le_iff_toInt_le.mp c_8
              refine lv_iinc (v := (nI (i2 + 1))) (lv' := [(3, .int (nI (i2 + 1))), (4, .ref (ad 13 i2)), (0, .ref (g 0)), (1, .int (nI p0)), (2, .ref (ad 13 k0))]) hx hb (oc_132 69 (aq_17 shX11_sharesWithEarlier_52) ub_3 sgb_1) hl (k := 1) rfl (nI_1 _) (ltb rfl) rfl (fun ls hl => ?_)
              refine lv_goto (tgt := 2) hx hb (oc_167 72 (aq_20 shX11_sharesWithEarlier_52) sgw_255_186) rfl ?_
              exact ih2 (i2 + 1) (by (first | omega | (have zz0 := Hid.u hb_cn; omega))) (by (first | omega | (have zz0 := Hid.u hb_cn; omega))) ls (lv_sub hl [0, 2, 3, 4] rfl)
            ·
              have tc_8 : (((Fn 161) i2).toInt : Int) < ((Fn 162) k0).toInt := Int32.lt_iff_toInt_lt.mp (Int32.not_le.mp c_8)
              refine lv_aload_n hx hb (oc_44 55 (aq_3 shX11_sharesWithEarlier_52)) rfl (lvA4 hl) ?_
              refine gf_RX11_405 S hK hP _ (xf_3 hk) (v := .int ((Fn 161) k0)) rfl (oc_180 56 (aq_4 shX11_sharesWithEarlier_52) uw_1_149) ?_
              refine lv_aload hx hb (oc_25 59 (aq_7 shX11_sharesWithEarlier_52) ub_4) (lvA0 hl) ?_
              refine gf_RX11_408 S hK hP _ (xf_3 kf_1) (v := .int ((Fn 162) i2)) rfl (oc_180 61 (aq_9 shX11_sharesWithEarlier_52) uw_1_152) ?_
              refine lv_icmp_ge (tgt := 69) hx hb (oc_162 64 (aq_12 shX11_sharesWithEarlier_52) sgw_0_5) rfl (fun c_9 => ?_) (fun c_9 => ?_)
              ·
                have tc_9 : (((Fn 162) i2).toInt : Int) ≤ ((Fn 161) k0).toInt := Int32.le_iff_toInt_le.mp c_9
                refine lv_iinc (v := (nI (i2 + 1))) (lv' := [(3, .int (nI (i2 + 1))), (4, .ref (ad 13 i2)), (0, .ref (g 0)), (1, .int (nI p0)), (2, .ref (ad 13 k0))]) hx hb (oc_132 69 (aq_17 shX11_sharesWithEarlier_52) ub_3 sgb_1) hl (k := 1) rfl (nI_1 _) (ltb rfl) rfl (fun ls hl => ?_)
                refine lv_goto (tgt := 2) hx hb (oc_167 72 (aq_20 shX11_sharesWithEarlier_52) sgw_255_186) rfl ?_
                exact ih2 (i2 + 1) (by (first | omega | (have zz0 := Hid.u hb_cn; omega))) (by (first | omega | (have zz0 := Hid.u hb_cn; omega))) ls (lv_sub hl [0, 2, 3, 4] rfl)
              ·
                have tc_9 : (((Fn 161) k0).toInt : Int) < ((Fn 162) i2).toInt := Int32.lt_iff_toInt_lt.mp (Int32.not_le.mp c_9)
                refine lv_iconst (v := 1) hx hb (oc_4 67 (aq_15 shX11_sharesWithEarlier_52)) kic_1 ?_
                exact W.zret (v := 1) hx hb hr rfl (fun t ht hW => ⟨1, rfl, (Or.inr rfl), ht⟩) (fun _ h => absurd h List.not_mem_nil) (oc_172 68 (aq_16 shX11_sharesWithEarlier_52))
  exact lp_2 _ 0 (Nat.lt_succ_self _) (by (first | omega | (have zz0 := Hid.u hb_cn; omega))) ls (lv_sub hl [0, 1, 2, 3] rfl)
set_option maxRecDepth 100000 in
set_option maxHeartbeats 4000000 in
theorem q_Xtwice (l : Launch) (D : va_G) (cI cB cZ : ClassId) (zz qq vv : Nat) (bt : Nat → Int32) (g : Nat → Nat) (ad : Nat → Nat → Nat) (cn : Nat → Nat) (In : Nat → Int32) (Fn : Nat → Nat → Int32) (v0 : Int32) (hB : CBX cn) : Met l yX11_twice (CWS yX11_twice cX11_twice 4 (some .int)) (RM 4 0 0) (PBrx [.ref (g 0), .int v0] D cI cB cZ zz qq vv bt (wX cI (D.1 99) zz g ad cn In Fn)) (vp_Si (fun _ => True)) 0 0 (fun _ => False) := by
  refine en_rx rfl pn_RX11 (Nat.le_of_ble_eq_true rfl) (fun p e s m below meth c hx hb hml hown S hr hlocks hnm hP hK hXS hS ls hl => ?_)
  have hl : lv_has ls 4 [(0, .ref (g 0)), (1, .int v0)] := hl
  have hb_cn : Hid (CBX cn) := hB
  replace hB : CBXh cn := hB
  refine lv_iconst (v := 0) hx hb (oc_3 0 shX11_twice_0) kic_0 ?_
  refine lv_istore_n (lv' := [(2, .int 0), (0, .ref (g 0)), (1, .int v0)]) hx hb (oc_61 1 (aq_1 shX11_twice_0)) rfl hl (ltb rfl) rfl (fun ls hl => ?_)
  have lp_2 : ∀ (n : Nat) (i2 : Nat) , cn 13 - i2 < n → (i2 ≤ cn 13) → ∀ ls : Array Slot, lv_has ls 4 [(2, .int (nI i2)), (0, .ref (g 0)), (1, .int v0)] → W p l e (RM 4 0 0) s m ([.ref (g 0), .int v0]).toArray below meth c s.heap [] 0 0 (MQ below (vp_Si (fun _ => True)) ([.ref (g 0), .int v0]).toArray s 0 0 (fun _ => False)) (F0 m 2 ls []) := by
    intro n2
    induction n2 with
    | zero => intros; (first | omega | (have zz0 := Hid.u hb_cn; omega))
    | succ n2 ih2 =>
      intro i2 hmu2 hinv2 ls hl
      have hr2 := hinv2
      have ti2 : (nI i2).toInt = (i2 : Int) := nI_toInt (by (first | omega | (have zz0 := Hid.u hb_cn; omega)))
      refine lv_iload_n hx hb (oc_28 2 (aq_2 shX11_twice_0)) rfl (lvA0 hl) ?_
      refine lv_aload_n hx hb (oc_42 3 (aq_3 shX11_twice_0)) rfl (lvA1 hl) ?_
      refine gf_RX11_71 S hK hP 0 xo_0 (v := .ref (g 13)) rfl (oc_180 4 (aq_4 shX11_twice_0) uw_0_71) ?_
      refine vp_callSi (runV_r (As := []) (rest := [.int (nI i2)]) S (q_l_size l D cI cB cZ (g 13) (if (cn 13) = 0 then zz else ad 2 3) (In 13) (nI (cn 13))) kV_RX11_84 hK hP [27] (one_is xo_27) 27 xo_27 rfl rfl ⟨Nat.le_of_ble_eq_true rfl, Nat.le_of_ble_eq_true rfl⟩ ⟨Nat.le_of_ble_eq_true rfl, Nat.le_of_ble_eq_true rfl⟩ rfl hl.1 rfl (Nat.le_of_ble_eq_true rfl) (oc_182 7 (aq_7 shX11_twice_0) uw_0_84)) (fun r_1 h_2 => ?_)
      subst h_2
      have : (nI (cn 13)).toInt = (((cn 13) : Nat) : Int) := nI_toInt (by (first | omega | (have zz0 := Hid.u hb_cn; omega)))
      refine lv_icmp_ge (tgt := 50) hx hb (oc_162 10 (aq_10 shX11_twice_0) sgw_0_40) rfl (fun c_3 => ?_) (fun c_3 => ?_)
      ·
        have tc_3 : ((nI (cn 13)).toInt : Int) ≤ (nI i2).toInt := Int32.le_iff_toInt_le.mp c_3
        refine lv_iconst (v := (-1)) hx hb (oc_2 50 shX11_twice_50) kic_m1 ?_
        exact W.iret (v := (-1)) hx hb hr (fun t ht hW => ⟨(-1), rfl, trivial, ht⟩) (fun _ h => absurd h List.not_mem_nil) (oc_172 51 (aq_1 shX11_twice_50))
      ·
        have tc_3 : ((nI i2).toInt : Int) < (nI (cn 13)).toInt := Int32.lt_iff_toInt_lt.mp (Int32.not_le.mp c_3)
        refine lv_aload_n hx hb (oc_42 13 (aq_13 shX11_twice_0)) rfl (lvA1 hl) ?_
        refine gf_RX11_71 S hK hP 0 xo_0 (v := .ref (g 13)) rfl (oc_180 14 (aq_14 shX11_twice_0) uw_0_71) ?_
        refine lv_iload_n hx hb (oc_28 17 (aq_17 shX11_twice_0)) rfl (lvA0 hl) ?_
        refine va_csq (runV_rx (As := [.int (nI i2)]) (rest := []) S (q_l_get l D cI cB cZ zz qq vv bt (g 13) (ad 2 3) (cn 23) (cn 13) i2 (ad 13 i2) (In 13) (fun i => if i < (cn 13) then some (ad 13 i) else none) (by (first | omega | (have zz0 := Hid.u hb_cn; omega))) (if_pos (by (first | omega | (have zz0 := Hid.u hb_cn; omega)))) (by (first | omega | (have zz0 := Hid.u hb_cn; omega))) (by (first | omega | (have zz0 := Hid.u hb_cn; omega)))) kV_RX11_87 hK hXS hS hP _ (two_is (xl_3 (by (first | omega | (have zz0 := Hid.u hb_cn; omega)))) (xf_16 (k := 0) (by (first | omega | (have zz0 := Hid.u hb_cn; omega))))) (va_recv hK.1 hP (ci := 0) rfl xo_27) ⟨Nat.le_of_ble_eq_true rfl, Nat.le_of_ble_eq_true rfl⟩ ⟨Nat.le_of_ble_eq_true rfl, Nat.le_of_ble_eq_true rfl⟩ rfl hl.1 rfl (Nat.le_of_ble_eq_true rfl) (oc_182 18 (aq_18 shX11_twice_0) uw_0_87)) (fun r_4 h_5 => ?_)
        subst h_5
        have kf_1 : i2 < cn 13 := by (first | omega | (have zz0 := Hid.u hb_cn; omega))
        refine va_castS hx hb hown (S.2.2.2.2 _ (wk5_4 7 rfl rfl)) (xclass hK.1 (ci := 5) rfl) (va_recv hK.1 hP (ci := 5) rfl (xf_3 kf_1)) (oc_192 21 (aq_21 shX11_twice_0) uw_0_97) ?_
        refine lv_astore_n (lv' := [(3, .ref (ad 13 i2)), (2, .int (nI i2)), (0, .ref (g 0)), (1, .int v0)]) hx hb (oc_78 24 shX11_twice_24) rfl hl (ltb rfl) rfl (fun ls hl => ?_)
        refine lv_aload_n hx hb (oc_45 25 (aq_1 shX11_twice_24)) rfl (lvA0 hl) ?_
        refine gf_RX11_402 S hK hP _ (xf_3 kf_1) (v := .int ((Fn 160) i2)) rfl (oc_180 26 (aq_2 shX11_twice_24) uw_1_146) ?_
        refine lv_iload_n hx hb (oc_27 29 (aq_5 shX11_twice_24)) rfl (lvA3 hl) ?_
        refine lv_icmp_ne (tgt := 44) hx hb (oc_160 30 (aq_6 shX11_twice_24) sgw_0_14) rfl (fun c_6 => ?_) (fun c_6 => ?_)
        ·
          have tc_6 : (((Fn 160) i2).toInt : Int) ≠ v0.toInt := fun q => c_6 (Int32.toInt_inj.mp q)
          refine lv_iinc (v := (nI (i2 + 1))) (lv' := [(2, .int (nI (i2 + 1))), (3, .ref (ad 13 i2)), (0, .ref (g 0)), (1, .int v0)]) hx hb (oc_132 44 (aq_20 shX11_twice_24) ub_2 sgb_1) hl (k := 1) rfl (nI_1 _) (ltb rfl) rfl (fun ls hl => ?_)
          refine lv_goto (tgt := 2) hx hb (oc_167 47 (aq_23 shX11_twice_24) sgw_255_211) rfl ?_
          exact ih2 (i2 + 1) (by (first | omega | (have zz0 := Hid.u hb_cn; omega))) (by (first | omega | (have zz0 := Hid.u hb_cn; omega))) ls (lv_sub hl [0, 2, 3] rfl)
        ·
          have tc_6 : (((Fn 160) i2).toInt : Int) = v0.toInt := congrArg Int32.toInt c_6
          refine lv_aload_n hx hb (oc_42 33 (aq_9 shX11_twice_24)) rfl (lvA2 hl) ?_
          refine lv_iload_n hx hb (oc_28 34 (aq_10 shX11_twice_24)) rfl (lvA1 hl) ?_
          refine lv_aload_n hx hb (oc_45 35 (aq_11 shX11_twice_24)) rfl (lvA0 hl) ?_
          refine vp_callSi (runV_rxa (As := [.int (nI i2), .ref (ad 13 i2)]) (rest := []) S (q_XsharesWithEarlier l D cI cB cZ zz qq vv bt g ad cn In Fn i2 i2 hB (by (first | omega | (have zz0 := Hid.u hb_cn; omega))) (by (first | omega | (have zz0 := Hid.u hb_cn; omega)))) kV_RX11_411 hK hXS hS hP 0 xo_0 rfl rfl ⟨Nat.le_of_ble_eq_true rfl, Nat.le_of_ble_eq_true rfl⟩ ⟨Nat.le_of_ble_eq_true rfl, Nat.le_of_ble_eq_true rfl⟩ rfl hl.1 rfl (Nat.le_of_ble_eq_true rfl) (oc_182 36 (aq_12 shX11_twice_24) uw_1_155)) (fun r_7 h_8 => ?_)
          rcases h_8 with rfl | rfl
          ·
            refine lv_if_eq (tgt := 44) hx hb (oc_153 39 (aq_15 shX11_twice_24) sgw_0_5) rfl (fun _ => ?_) (fun h => absurd h cq_eq_0_0)
            refine lv_iinc (v := (nI (i2 + 1))) (lv' := [(2, .int (nI (i2 + 1))), (3, .ref (ad 13 i2)), (0, .ref (g 0)), (1, .int v0)]) hx hb (oc_132 44 (aq_20 shX11_twice_24) ub_2 sgb_1) hl (k := 1) rfl (nI_1 _) (ltb rfl) rfl (fun ls hl => ?_)
            refine lv_goto (tgt := 2) hx hb (oc_167 47 (aq_23 shX11_twice_24) sgw_255_211) rfl ?_
            exact ih2 (i2 + 1) (by (first | omega | (have zz0 := Hid.u hb_cn; omega))) (by (first | omega | (have zz0 := Hid.u hb_cn; omega))) ls (lv_sub hl [0, 2, 3] rfl)
          ·
            refine lv_if_eq (tgt := 44) hx hb (oc_153 39 (aq_15 shX11_twice_24) sgw_0_5) rfl (fun h => absurd h cq_eq_1_0) (fun _ => ?_)
            refine lv_iload_n hx hb (oc_28 42 (aq_18 shX11_twice_24)) rfl (lvA1 hl) ?_
            exact W.iret (v := (nI i2)) hx hb hr (fun t ht hW => ⟨(nI i2), rfl, trivial, ht⟩) (fun _ h => absurd h List.not_mem_nil) (oc_172 43 (aq_19 shX11_twice_24))
  exact lp_2 _ 0 (Nat.lt_succ_self _) (by (first | omega | (have zz0 := Hid.u hb_cn; omega))) ls (lv_sub hl [0, 1, 2] rfl)
set_option maxRecDepth 100000 in
set_option maxHeartbeats 4000000 in
theorem q_XfirstProofBehind (l : Launch) (D : va_G) (cI cB cZ : ClassId) (zz qq vv : Nat) (bt : Nat → Int32) (g : Nat → Nat) (ad : Nat → Nat → Nat) (cn : Nat → Nat) (In : Nat → Int32) (Fn : Nat → Nat → Int32) (v0 v1 v2 : Int32) (hB : CBX cn) : Met l yX11_firstProofBehind (CWS yX11_firstProofBehind cX11_firstProofBehind 8 (some (.object "OilHome$Proof"))) (RM 3 0 0) (PBrx [.ref (g 0), .int v0, .int v1, .int v2] D cI cB cZ zz qq vv bt (wX cI (D.1 99) zz g ad cn In Fn)) (va_Sq (fun r => (∃ m : Nat, (0 : Int) = 0 ∧ m < cn 13 ∧ r = some (ad 13 m)) ∨ (True ∧ r = none))) 0 0 (fun _ => False) := by
  refine en_rx rfl pn_RX11 (Nat.le_of_ble_eq_true rfl) (fun p e s m below meth c hx hb hml hown S hr hlocks hnm hP hK hXS hS ls hl => ?_)
  have hl : lv_has ls 8 [(0, .ref (g 0)), (1, .int v0), (2, .int v1), (3, .int v2)] := hl
  have hb_cn : Hid (CBX cn) := hB
  replace hB : CBXh cn := hB
  refine lv_null hx hb (oc_1 0 shX11_firstProofBehind_0) ?_
  refine lv_astoreN (lv' := [(4, .null), (0, .ref (g 0)), (1, .int v0), (2, .int v1), (3, .int v2)]) hx hb (oc_58 1 (aq_1 shX11_firstProofBehind_0) ub_4) hl (ltb rfl) rfl (fun ls hl => ?_)
  refine lv_iconst (v := 0) hx hb (oc_3 3 (aq_3 shX11_firstProofBehind_0)) kic_0 ?_
  refine lv_istore (lv' := [(5, .int 0), (4, .null), (0, .ref (g 0)), (1, .int v0), (2, .int v1), (3, .int v2)]) hx hb (oc_54 4 (aq_4 shX11_firstProofBehind_0) ub_5) hl (ltb rfl) rfl (fun ls hl => ?_)
  have lp_6 : ∀ (n : Nat) (i6 : Nat) (x6_4 : Option Nat) , cn 13 - i6 < n → (i6 ≤ cn 13 ∧ (x6_4 = none ∨ ∃ m : Nat, m < cn 13 ∧ x6_4 = some (ad 13 m))) → ∀ ls : Array Slot, lv_has ls 8 [(5, .int (nI i6)), (4, (va_rf x6_4)), (0, .ref (g 0)), (1, .int v0), (2, .int v1), (3, .int v2)] → W p l e (RM 3 0 0) s m ([.ref (g 0), .int v0, .int v1, .int v2]).toArray below meth c s.heap [] 0 0 (MQ below (va_Sq (fun r => (∃ m : Nat, (0 : Int) = 0 ∧ m < cn 13 ∧ r = some (ad 13 m)) ∨ (True ∧ r = none))) ([.ref (g 0), .int v0, .int v1, .int v2]).toArray s 0 0 (fun _ => False)) (F0 m 6 ls []) := by
    intro n6
    induction n6 with
    | zero => intros; (first | omega | (have zz0 := Hid.u hb_cn; omega))
    | succ n6 ih6 =>
      intro i6 x6_4 hmu6 hinv6 ls hl
      obtain ⟨hr6, hx6_0⟩ := hinv6
      have ti6 : (nI i6).toInt = (i6 : Int) := nI_toInt (by (first | omega | (have zz0 := Hid.u hb_cn; omega)))
      rcases hx6_0 with rfl | ⟨m9, h9, rfl⟩
      ·
        have hl : lv_has ls 8 [(5, .int (nI i6)), (4, .null), (0, .ref (g 0)), (1, .int v0), (2, .int v1), (3, .int v2)] := hl
        refine lv_iload hx hb (oc_21 6 (aq_6 shX11_firstProofBehind_0) ub_5) (lvA0 hl) ?_
        refine lv_aload_n hx hb (oc_42 8 (aq_8 shX11_firstProofBehind_0)) rfl (lvA2 hl) ?_
        refine gf_RX11_71 S hK hP 0 xo_0 (v := .ref (g 13)) rfl (oc_180 9 (aq_9 shX11_firstProofBehind_0) uw_0_71) ?_
        refine vp_callSi (runV_r (As := []) (rest := [.int (nI i6)]) S (q_l_size l D cI cB cZ (g 13) (if (cn 13) = 0 then zz else ad 2 3) (In 13) (nI (cn 13))) kV_RX11_84 hK hP [27] (one_is xo_27) 27 xo_27 rfl rfl ⟨Nat.le_of_ble_eq_true rfl, Nat.le_of_ble_eq_true rfl⟩ ⟨Nat.le_of_ble_eq_true rfl, Nat.le_of_ble_eq_true rfl⟩ rfl hl.1 rfl (Nat.le_of_ble_eq_true rfl) (oc_182 12 (aq_12 shX11_firstProofBehind_0) uw_0_84)) (fun r_1 h_2 => ?_)
        subst h_2
        have : (nI (cn 13)).toInt = (((cn 13) : Nat) : Int) := nI_toInt (by (first | omega | (have zz0 := Hid.u hb_cn; omega)))
        refine lv_icmp_ge (tgt := 104) hx hb (oc_162 15 (aq_15 shX11_firstProofBehind_0) sgw_0_89) rfl (fun c_3 => ?_) (fun c_3 => ?_)
        ·
          have tc_3 : ((nI (cn 13)).toInt : Int) ≤ (nI i6).toInt := Int32.le_iff_toInt_le.mp c_3
          refine lv_aloadN hx hb (oc_25 104 (aq_8 shX11_firstProofBehind_96) ub_4) (lvA1 hl) ?_
          exact W.aret (v := .null) hx hb hr (Or.inl ⟨_, rfl⟩) (Or.inl rfl) (fun t ht hW => ⟨none, rfl, (Or.inr ⟨trivial, rfl⟩), ht⟩) (fun _ h => absurd h List.not_mem_nil) (oc_176 106 (aq_10 shX11_firstProofBehind_96))
        ·
          have tc_3 : ((nI i6).toInt : Int) < (nI (cn 13)).toInt := Int32.lt_iff_toInt_lt.mp (Int32.not_le.mp c_3)
          refine lv_aload_n hx hb (oc_42 18 (aq_18 shX11_firstProofBehind_0)) rfl (lvA2 hl) ?_
          refine gf_RX11_71 S hK hP 0 xo_0 (v := .ref (g 13)) rfl (oc_180 19 (aq_19 shX11_firstProofBehind_0) uw_0_71) ?_
          refine lv_iload hx hb (oc_21 22 (aq_22 shX11_firstProofBehind_0) ub_5) (lvA0 hl) ?_
          refine va_csq (runV_rx (As := [.int (nI i6)]) (rest := []) S (q_l_get l D cI cB cZ zz qq vv bt (g 13) (ad 2 3) (cn 23) (cn 13) i6 (ad 13 i6) (In 13) (fun i => if i < (cn 13) then some (ad 13 i) else none) (by (first | omega | (have zz0 := Hid.u hb_cn; omega))) (if_pos (by (first | omega | (have zz0 := Hid.u hb_cn; omega)))) (by (first | omega | (have zz0 := Hid.u hb_cn; omega))) (by (first | omega | (have zz0 := Hid.u hb_cn; omega)))) kV_RX11_87 hK hXS hS hP _ (two_is (xl_3 (by (first | omega | (have zz0 := Hid.u hb_cn; omega)))) (xf_16 (k := 0) (by (first | omega | (have zz0 := Hid.u hb_cn; omega))))) (va_recv hK.1 hP (ci := 0) rfl xo_27) ⟨Nat.le_of_ble_eq_true rfl, Nat.le_of_ble_eq_true rfl⟩ ⟨Nat.le_of_ble_eq_true rfl, Nat.le_of_ble_eq_true rfl⟩ rfl hl.1 rfl (Nat.le_of_ble_eq_true rfl) (oc_182 24 shX11_firstProofBehind_24 uw_0_87)) (fun r_4 h_5 => ?_)
          subst h_5
          have kf_1 : i6 < cn 13 := by (first | omega | (have zz0 := Hid.u hb_cn; omega))
          refine va_castS hx hb hown (S.2.2.2.2 _ (wk5_4 7 rfl rfl)) (xclass hK.1 (ci := 5) rfl) (va_recv hK.1 hP (ci := 5) rfl (xf_3 kf_1)) (oc_192 27 (aq_3 shX11_firstProofBehind_24) uw_0_97) ?_
          refine lv_astore (lv' := [(6, .ref (ad 13 i6)), (5, .int (nI i6)), (4, .null), (0, .ref (g 0)), (1, .int v0), (2, .int v1), (3, .int v2)]) hx hb (oc_58 30 (aq_6 shX11_firstProofBehind_24) ub_6) hl (ltb rfl) rfl (fun ls hl => ?_)
          refine lv_aload hx hb (oc_25 32 (aq_8 shX11_firstProofBehind_24) ub_6) (lvA0 hl) ?_
          refine gf_RX11_402 S hK hP _ (xf_3 kf_1) (v := .int ((Fn 160) i6)) rfl (oc_180 34 (aq_10 shX11_firstProofBehind_24) uw_1_146) ?_
          refine lv_iload_n hx hb (oc_28 37 (aq_13 shX11_firstProofBehind_24)) rfl (lvA5 hl) ?_
          refine lv_icmp_ne (tgt := 59) hx hb (oc_160 38 (aq_14 shX11_firstProofBehind_24) sgw_0_21) rfl (fun c_6 => ?_) (fun c_6 => ?_)
          ·
            have tc_6 : (((Fn 160) i6).toInt : Int) ≠ v1.toInt := fun q => c_6 (Int32.toInt_inj.mp q)
            refine lv_iconst (v := 0) hx hb dX11_firstProofBehind_59 kic_0 ?_
            refine lv_istore (lv' := [(7, .int 0), (6, .ref (ad 13 i6)), (5, .int (nI i6)), (4, .null), (0, .ref (g 0)), (1, .int v0), (2, .int v1), (3, .int v2)]) hx hb dX11_firstProofBehind_60 hl (ltb rfl) rfl (fun ls hl => ?_)
            refine lv_iload hx hb dX11_firstProofBehind_62 (lvA0 hl) ?_
            refine lv_if_eq (tgt := 98) hx hb dX11_firstProofBehind_64 rfl (fun _ => ?_) (fun h => absurd h cq_eq_0_0)
            refine lv_iinc (v := (nI (i6 + 1))) (lv' := [(5, .int (nI (i6 + 1))), (7, .int 0), (6, .ref (ad 13 i6)), (4, .null), (0, .ref (g 0)), (1, .int v0), (2, .int v1), (3, .int v2)]) hx hb dX11_firstProofBehind_98 hl (k := 2) rfl (nI_1 _) (ltb rfl) rfl (fun ls hl => ?_)
            refine lv_goto (tgt := 6) hx hb dX11_firstProofBehind_101 rfl ?_
            exact ih6 (i6 + 1) none (by (first | omega | (have zz0 := Hid.u hb_cn; omega))) ⟨(by (first | omega | (have zz0 := Hid.u hb_cn; omega))), (Or.inl rfl)⟩ ls (lv_sub hl [0, 3, 4, 5, 6, 7] rfl)
          ·
            have tc_6 : (((Fn 160) i6).toInt : Int) = v1.toInt := congrArg Int32.toInt c_6
            refine lv_iload_n hx hb (oc_29 41 (aq_17 shX11_firstProofBehind_24)) rfl (lvA6 hl) ?_
            refine lv_iconst (v := (-1)) hx hb (oc_2 42 (aq_18 shX11_firstProofBehind_24)) kic_m1 ?_
            refine lv_icmp_eq (tgt := 55) hx hb (oc_159 43 (aq_19 shX11_firstProofBehind_24) sgw_0_12) rfl (fun c_7 => ?_) (fun c_7 => ?_)
            ·
              have tc_7 : (v2.toInt : Int) = (-1) := congrArg Int32.toInt c_7
              refine lv_iconst (v := 1) hx hb dX11_firstProofBehind_55 kic_1 ?_
              refine lv_goto (tgt := 60) hx hb dX11_firstProofBehind_56 rfl ?_
              refine lv_istore (lv' := [(7, .int 1), (6, .ref (ad 13 i6)), (5, .int (nI i6)), (4, .null), (0, .ref (g 0)), (1, .int v0), (2, .int v1), (3, .int v2)]) hx hb dX11_firstProofBehind_60 hl (ltb rfl) rfl (fun ls hl => ?_)
              refine lv_iload hx hb dX11_firstProofBehind_62 (lvA0 hl) ?_
              refine lv_if_eq (tgt := 98) hx hb dX11_firstProofBehind_64 rfl (fun h => absurd h cq_eq_1_0) (fun _ => ?_)
              refine lv_aload hx hb dX11_firstProofBehind_67 (lvA1 hl) ?_
              refine gf_RX11_408 S hK hP _ (xf_3 kf_1) (v := .int ((Fn 162) i6)) rfl dX11_firstProofBehind_69 ?_
              refine lv_iload_n hx hb dX11_firstProofBehind_72 rfl (lvA5 hl) ?_
              refine lv_icmp_le (tgt := 98) hx hb dX11_firstProofBehind_73 rfl (fun c_8 => ?_) (fun c_8 => ?_)
              ·
                have tc_8 : (((Fn 162) i6).toInt : Int) ≤ v0.toInt := Int32.le_iff_toInt_le.mp c_8
                refine lv_iinc (v := (nI (i6 + 1))) (lv' := [(5, .int (nI (i6 + 1))), (7, .int 1), (6, .ref (ad 13 i6)), (4, .null), (0, .ref (g 0)), (1, .int v0), (2, .int v1), (3, .int v2)]) hx hb dX11_firstProofBehind_98 hl (k := 2) rfl (nI_1 _) (ltb rfl) rfl (fun ls hl => ?_)
                refine lv_goto (tgt := 6) hx hb dX11_firstProofBehind_101 rfl ?_
                exact ih6 (i6 + 1) none (by (first | omega | (have zz0 := Hid.u hb_cn; omega))) ⟨(by (first | omega | (have zz0 := Hid.u hb_cn; omega))), (Or.inl rfl)⟩ ls (lv_sub hl [0, 3, 4, 5, 6, 7] rfl)
              ·
                have tc_8 : (v0.toInt : Int) < ((Fn 162) i6).toInt := Int32.lt_iff_toInt_lt.mp (Int32.not_le.mp c_8)
                refine lv_aloadN hx hb dX11_firstProofBehind_76 (lvA3 hl) ?_
                refine lv_ifnullN (tgt := 94) hx hb dX11_firstProofBehind_78 rfl ?_
                refine lv_aload hx hb dX11_firstProofBehind_94 (lvA1 hl) ?_
                refine lv_astore (lv' := [(4, .ref (ad 13 i6)), (7, .int 1), (6, .ref (ad 13 i6)), (5, .int (nI i6)), (0, .ref (g 0)), (1, .int v0), (2, .int v1), (3, .int v2)]) hx hb dX11_firstProofBehind_96 hl (ltb rfl) rfl (fun ls hl => ?_)
                refine lv_iinc (v := (nI (i6 + 1))) (lv' := [(5, .int (nI (i6 + 1))), (4, .ref (ad 13 i6)), (7, .int 1), (6, .ref (ad 13 i6)), (0, .ref (g 0)), (1, .int v0), (2, .int v1), (3, .int v2)]) hx hb dX11_firstProofBehind_98 hl (k := 3) rfl (nI_1 _) (ltb rfl) rfl (fun ls hl => ?_)
                refine lv_goto (tgt := 6) hx hb dX11_firstProofBehind_101 rfl ?_
                exact ih6 (i6 + 1) (some (ad 13 i6)) (by (first | omega | (have zz0 := Hid.u hb_cn; omega))) ⟨(by (first | omega | (have zz0 := Hid.u hb_cn; omega))), (Or.inr ⟨i6, by (first | omega | (have zz0 := Hid.u hb_cn; omega)), rfl⟩)⟩ ls (lv_sub hl [0, 1, 4, 5, 6, 7] rfl)
            ·
              have tc_7 : (v2.toInt : Int) ≠ (-1) := fun q => c_7 (Int32.toInt_inj.mp q)
              refine lv_aload hx hb (oc_25 46 (aq_22 shX11_firstProofBehind_24) ub_6) (lvA0 hl) ?_
              refine gf_RX11_415 S hK hP _ (xf_3 kf_1) (v := .int ((Fn 163) i6)) rfl (oc_180 48 shX11_firstProofBehind_48 uw_1_159) ?_
              refine lv_iload_n hx hb (oc_29 51 (aq_3 shX11_firstProofBehind_48)) rfl (lvA6 hl) ?_
              refine lv_icmp_ne (tgt := 59) hx hb (oc_160 52 (aq_4 shX11_firstProofBehind_48) sgw_0_7) rfl (fun c_9 => ?_) (fun c_9 => ?_)
              ·
                have tc_9 : (((Fn 163) i6).toInt : Int) ≠ v2.toInt := fun q => c_9 (Int32.toInt_inj.mp q)
                refine lv_iconst (v := 0) hx hb dX11_firstProofBehind_59 kic_0 ?_
                refine lv_istore (lv' := [(7, .int 0), (6, .ref (ad 13 i6)), (5, .int (nI i6)), (4, .null), (0, .ref (g 0)), (1, .int v0), (2, .int v1), (3, .int v2)]) hx hb dX11_firstProofBehind_60 hl (ltb rfl) rfl (fun ls hl => ?_)
                refine lv_iload hx hb dX11_firstProofBehind_62 (lvA0 hl) ?_
                refine lv_if_eq (tgt := 98) hx hb dX11_firstProofBehind_64 rfl (fun _ => ?_) (fun h => absurd h cq_eq_0_0)
                refine lv_iinc (v := (nI (i6 + 1))) (lv' := [(5, .int (nI (i6 + 1))), (7, .int 0), (6, .ref (ad 13 i6)), (4, .null), (0, .ref (g 0)), (1, .int v0), (2, .int v1), (3, .int v2)]) hx hb dX11_firstProofBehind_98 hl (k := 2) rfl (nI_1 _) (ltb rfl) rfl (fun ls hl => ?_)
                refine lv_goto (tgt := 6) hx hb dX11_firstProofBehind_101 rfl ?_
                exact ih6 (i6 + 1) none (by (first | omega | (have zz0 := Hid.u hb_cn; omega))) ⟨(by (first | omega | (have zz0 := Hid.u hb_cn; omega))), (Or.inl rfl)⟩ ls (lv_sub hl [0, 3, 4, 5, 6, 7] rfl)
              ·
                have tc_9 : (((Fn 163) i6).toInt : Int) = v2.toInt := congrArg Int32.toInt c_9
                refine lv_iconst (v := 1) hx hb dX11_firstProofBehind_55 kic_1 ?_
                refine lv_goto (tgt := 60) hx hb dX11_firstProofBehind_56 rfl ?_
                refine lv_istore (lv' := [(7, .int 1), (6, .ref (ad 13 i6)), (5, .int (nI i6)), (4, .null), (0, .ref (g 0)), (1, .int v0), (2, .int v1), (3, .int v2)]) hx hb dX11_firstProofBehind_60 hl (ltb rfl) rfl (fun ls hl => ?_)
                refine lv_iload hx hb dX11_firstProofBehind_62 (lvA0 hl) ?_
                refine lv_if_eq (tgt := 98) hx hb dX11_firstProofBehind_64 rfl (fun h => absurd h cq_eq_1_0) (fun _ => ?_)
                refine lv_aload hx hb dX11_firstProofBehind_67 (lvA1 hl) ?_
                refine gf_RX11_408 S hK hP _ (xf_3 kf_1) (v := .int ((Fn 162) i6)) rfl dX11_firstProofBehind_69 ?_
                refine lv_iload_n hx hb dX11_firstProofBehind_72 rfl (lvA5 hl) ?_
                refine lv_icmp_le (tgt := 98) hx hb dX11_firstProofBehind_73 rfl (fun c_10 => ?_) (fun c_10 => ?_)
                ·
                  have tc_10 : (((Fn 162) i6).toInt : Int) ≤ v0.toInt := Int32.le_iff_toInt_le.mp c_10
                  refine lv_iinc (v := (nI (i6 + 1))) (lv' := [(5, .int (nI (i6 + 1))), (7, .int 1), (6, .ref (ad 13 i6)), (4, .null), (0, .ref (g 0)), (1, .int v0), (2, .int v1), (3, .int v2)]) hx hb dX11_firstProofBehind_98 hl (k := 2) rfl (nI_1 _) (ltb rfl) rfl (fun ls hl => ?_)
                  refine lv_goto (tgt := 6) hx hb dX11_firstProofBehind_101 rfl ?_
                  exact ih6 (i6 + 1) none (by (first | omega | (have zz0 := Hid.u hb_cn; omega))) ⟨(by (first | omega | (have zz0 := Hid.u hb_cn; omega))), (Or.inl rfl)⟩ ls (lv_sub hl [0, 3, 4, 5, 6, 7] rfl)
                ·
                  have tc_10 : (v0.toInt : Int) < ((Fn 162) i6).toInt := Int32.lt_iff_toInt_lt.mp (Int32.not_le.mp c_10)
                  refine lv_aloadN hx hb dX11_firstProofBehind_76 (lvA3 hl) ?_
                  refine lv_ifnullN (tgt := 94) hx hb dX11_firstProofBehind_78 rfl ?_
                  refine lv_aload hx hb dX11_firstProofBehind_94 (lvA1 hl) ?_
                  refine lv_astore (lv' := [(4, .ref (ad 13 i6)), (7, .int 1), (6, .ref (ad 13 i6)), (5, .int (nI i6)), (0, .ref (g 0)), (1, .int v0), (2, .int v1), (3, .int v2)]) hx hb dX11_firstProofBehind_96 hl (ltb rfl) rfl (fun ls hl => ?_)
                  refine lv_iinc (v := (nI (i6 + 1))) (lv' := [(5, .int (nI (i6 + 1))), (4, .ref (ad 13 i6)), (7, .int 1), (6, .ref (ad 13 i6)), (0, .ref (g 0)), (1, .int v0), (2, .int v1), (3, .int v2)]) hx hb dX11_firstProofBehind_98 hl (k := 3) rfl (nI_1 _) (ltb rfl) rfl (fun ls hl => ?_)
                  refine lv_goto (tgt := 6) hx hb dX11_firstProofBehind_101 rfl ?_
                  exact ih6 (i6 + 1) (some (ad 13 i6)) (by (first | omega | (have zz0 := Hid.u hb_cn; omega))) ⟨(by (first | omega | (have zz0 := Hid.u hb_cn; omega))), (Or.inr ⟨i6, by (first | omega | (have zz0 := Hid.u hb_cn; omega)), rfl⟩)⟩ ls (lv_sub hl [0, 1, 4, 5, 6, 7] rfl)
      ·
        have hl : lv_has ls 8 [(5, .int (nI i6)), (4, .ref (ad 13 m9)), (0, .ref (g 0)), (1, .int v0), (2, .int v1), (3, .int v2)] := hl
        refine lv_iload hx hb (oc_21 6 (aq_6 shX11_firstProofBehind_0) ub_5) (lvA0 hl) ?_
        refine lv_aload_n hx hb (oc_42 8 (aq_8 shX11_firstProofBehind_0)) rfl (lvA2 hl) ?_
        refine gf_RX11_71 S hK hP 0 xo_0 (v := .ref (g 13)) rfl (oc_180 9 (aq_9 shX11_firstProofBehind_0) uw_0_71) ?_
        refine vp_callSi (runV_r (As := []) (rest := [.int (nI i6)]) S (q_l_size l D cI cB cZ (g 13) (if (cn 13) = 0 then zz else ad 2 3) (In 13) (nI (cn 13))) kV_RX11_84 hK hP [27] (one_is xo_27) 27 xo_27 rfl rfl ⟨Nat.le_of_ble_eq_true rfl, Nat.le_of_ble_eq_true rfl⟩ ⟨Nat.le_of_ble_eq_true rfl, Nat.le_of_ble_eq_true rfl⟩ rfl hl.1 rfl (Nat.le_of_ble_eq_true rfl) (oc_182 12 (aq_12 shX11_firstProofBehind_0) uw_0_84)) (fun r_11 h_12 => ?_)
        subst h_12
        have : (nI (cn 13)).toInt = (((cn 13) : Nat) : Int) := nI_toInt (by (first | omega | (have zz0 := Hid.u hb_cn; omega)))
        refine lv_icmp_ge (tgt := 104) hx hb (oc_162 15 (aq_15 shX11_firstProofBehind_0) sgw_0_89) rfl (fun c_13 => ?_) (fun c_13 => ?_)
        ·
          have tc_13 : ((nI (cn 13)).toInt : Int) ≤ (nI i6).toInt := Int32.le_iff_toInt_le.mp c_13
          refine lv_aload hx hb (oc_25 104 (aq_8 shX11_firstProofBehind_96) ub_4) (lvA1 hl) ?_
          exact W.aret (v := .ref (ad 13 m9)) hx hb hr (Or.inl ⟨_, rfl⟩) (Or.inr ⟨_, rfl⟩) (fun t ht hW => ⟨some (ad 13 m9), rfl, (Or.inl ⟨m9, rfl, h9, rfl⟩), ht⟩) (fun _ h => absurd h List.not_mem_nil) (oc_176 106 (aq_10 shX11_firstProofBehind_96))
        ·
          have tc_13 : ((nI i6).toInt : Int) < (nI (cn 13)).toInt := Int32.lt_iff_toInt_lt.mp (Int32.not_le.mp c_13)
          refine lv_aload_n hx hb (oc_42 18 (aq_18 shX11_firstProofBehind_0)) rfl (lvA2 hl) ?_
          refine gf_RX11_71 S hK hP 0 xo_0 (v := .ref (g 13)) rfl (oc_180 19 (aq_19 shX11_firstProofBehind_0) uw_0_71) ?_
          refine lv_iload hx hb (oc_21 22 (aq_22 shX11_firstProofBehind_0) ub_5) (lvA0 hl) ?_
          refine va_csq (runV_rx (As := [.int (nI i6)]) (rest := []) S (q_l_get l D cI cB cZ zz qq vv bt (g 13) (ad 2 3) (cn 23) (cn 13) i6 (ad 13 i6) (In 13) (fun i => if i < (cn 13) then some (ad 13 i) else none) (by (first | omega | (have zz0 := Hid.u hb_cn; omega))) (if_pos (by (first | omega | (have zz0 := Hid.u hb_cn; omega)))) (by (first | omega | (have zz0 := Hid.u hb_cn; omega))) (by (first | omega | (have zz0 := Hid.u hb_cn; omega)))) kV_RX11_87 hK hXS hS hP _ (two_is (xl_3 (by (first | omega | (have zz0 := Hid.u hb_cn; omega)))) (xf_16 (k := 0) (by (first | omega | (have zz0 := Hid.u hb_cn; omega))))) (va_recv hK.1 hP (ci := 0) rfl xo_27) ⟨Nat.le_of_ble_eq_true rfl, Nat.le_of_ble_eq_true rfl⟩ ⟨Nat.le_of_ble_eq_true rfl, Nat.le_of_ble_eq_true rfl⟩ rfl hl.1 rfl (Nat.le_of_ble_eq_true rfl) (oc_182 24 shX11_firstProofBehind_24 uw_0_87)) (fun r_14 h_15 => ?_)
          subst h_15
          have kf_2 : i6 < cn 13 := by (first | omega | (have zz0 := Hid.u hb_cn; omega))
          refine va_castS hx hb hown (S.2.2.2.2 _ (wk5_4 7 rfl rfl)) (xclass hK.1 (ci := 5) rfl) (va_recv hK.1 hP (ci := 5) rfl (xf_3 kf_2)) (oc_192 27 (aq_3 shX11_firstProofBehind_24) uw_0_97) ?_
          refine lv_astore (lv' := [(6, .ref (ad 13 i6)), (5, .int (nI i6)), (4, .ref (ad 13 m9)), (0, .ref (g 0)), (1, .int v0), (2, .int v1), (3, .int v2)]) hx hb (oc_58 30 (aq_6 shX11_firstProofBehind_24) ub_6) hl (ltb rfl) rfl (fun ls hl => ?_)
          refine lv_aload hx hb (oc_25 32 (aq_8 shX11_firstProofBehind_24) ub_6) (lvA0 hl) ?_
          refine gf_RX11_402 S hK hP _ (xf_3 kf_2) (v := .int ((Fn 160) i6)) rfl (oc_180 34 (aq_10 shX11_firstProofBehind_24) uw_1_146) ?_
          refine lv_iload_n hx hb (oc_28 37 (aq_13 shX11_firstProofBehind_24)) rfl (lvA5 hl) ?_
          refine lv_icmp_ne (tgt := 59) hx hb (oc_160 38 (aq_14 shX11_firstProofBehind_24) sgw_0_21) rfl (fun c_16 => ?_) (fun c_16 => ?_)
          ·
            have tc_16 : (((Fn 160) i6).toInt : Int) ≠ v1.toInt := fun q => c_16 (Int32.toInt_inj.mp q)
            refine lv_iconst (v := 0) hx hb dX11_firstProofBehind_59 kic_0 ?_
            refine lv_istore (lv' := [(7, .int 0), (6, .ref (ad 13 i6)), (5, .int (nI i6)), (4, .ref (ad 13 m9)), (0, .ref (g 0)), (1, .int v0), (2, .int v1), (3, .int v2)]) hx hb dX11_firstProofBehind_60 hl (ltb rfl) rfl (fun ls hl => ?_)
            refine lv_iload hx hb dX11_firstProofBehind_62 (lvA0 hl) ?_
            refine lv_if_eq (tgt := 98) hx hb dX11_firstProofBehind_64 rfl (fun _ => ?_) (fun h => absurd h cq_eq_0_0)
            refine lv_iinc (v := (nI (i6 + 1))) (lv' := [(5, .int (nI (i6 + 1))), (7, .int 0), (6, .ref (ad 13 i6)), (4, .ref (ad 13 m9)), (0, .ref (g 0)), (1, .int v0), (2, .int v1), (3, .int v2)]) hx hb dX11_firstProofBehind_98 hl (k := 2) rfl (nI_1 _) (ltb rfl) rfl (fun ls hl => ?_)
            refine lv_goto (tgt := 6) hx hb dX11_firstProofBehind_101 rfl ?_
            exact ih6 (i6 + 1) (some (ad 13 m9)) (by (first | omega | (have zz0 := Hid.u hb_cn; omega))) ⟨(by (first | omega | (have zz0 := Hid.u hb_cn; omega))), (Or.inr ⟨m9, h9, rfl⟩)⟩ ls (lv_sub hl [0, 3, 4, 5, 6, 7] rfl)
          ·
            have tc_16 : (((Fn 160) i6).toInt : Int) = v1.toInt := congrArg Int32.toInt c_16
            refine lv_iload_n hx hb (oc_29 41 (aq_17 shX11_firstProofBehind_24)) rfl (lvA6 hl) ?_
            refine lv_iconst (v := (-1)) hx hb (oc_2 42 (aq_18 shX11_firstProofBehind_24)) kic_m1 ?_
            refine lv_icmp_eq (tgt := 55) hx hb (oc_159 43 (aq_19 shX11_firstProofBehind_24) sgw_0_12) rfl (fun c_17 => ?_) (fun c_17 => ?_)
            ·
              have tc_17 : (v2.toInt : Int) = (-1) := congrArg Int32.toInt c_17
              refine lv_iconst (v := 1) hx hb dX11_firstProofBehind_55 kic_1 ?_
              refine lv_goto (tgt := 60) hx hb dX11_firstProofBehind_56 rfl ?_
              refine lv_istore (lv' := [(7, .int 1), (6, .ref (ad 13 i6)), (5, .int (nI i6)), (4, .ref (ad 13 m9)), (0, .ref (g 0)), (1, .int v0), (2, .int v1), (3, .int v2)]) hx hb dX11_firstProofBehind_60 hl (ltb rfl) rfl (fun ls hl => ?_)
              refine lv_iload hx hb dX11_firstProofBehind_62 (lvA0 hl) ?_
              refine lv_if_eq (tgt := 98) hx hb dX11_firstProofBehind_64 rfl (fun h => absurd h cq_eq_1_0) (fun _ => ?_)
              refine lv_aload hx hb dX11_firstProofBehind_67 (lvA1 hl) ?_
              refine gf_RX11_408 S hK hP _ (xf_3 kf_2) (v := .int ((Fn 162) i6)) rfl dX11_firstProofBehind_69 ?_
              refine lv_iload_n hx hb dX11_firstProofBehind_72 rfl (lvA5 hl) ?_
              refine lv_icmp_le (tgt := 98) hx hb dX11_firstProofBehind_73 rfl (fun c_18 => ?_) (fun c_18 => ?_)
              ·
                have tc_18 : (((Fn 162) i6).toInt : Int) ≤ v0.toInt := Int32.le_iff_toInt_le.mp c_18
                refine lv_iinc (v := (nI (i6 + 1))) (lv' := [(5, .int (nI (i6 + 1))), (7, .int 1), (6, .ref (ad 13 i6)), (4, .ref (ad 13 m9)), (0, .ref (g 0)), (1, .int v0), (2, .int v1), (3, .int v2)]) hx hb dX11_firstProofBehind_98 hl (k := 2) rfl (nI_1 _) (ltb rfl) rfl (fun ls hl => ?_)
                refine lv_goto (tgt := 6) hx hb dX11_firstProofBehind_101 rfl ?_
                exact ih6 (i6 + 1) (some (ad 13 m9)) (by (first | omega | (have zz0 := Hid.u hb_cn; omega))) ⟨(by (first | omega | (have zz0 := Hid.u hb_cn; omega))), (Or.inr ⟨m9, h9, rfl⟩)⟩ ls (lv_sub hl [0, 3, 4, 5, 6, 7] rfl)
              ·
                have tc_18 : (v0.toInt : Int) < ((Fn 162) i6).toInt := Int32.lt_iff_toInt_lt.mp (Int32.not_le.mp c_18)
                refine lv_aload hx hb dX11_firstProofBehind_76 (lvA3 hl) ?_
                refine lv_ifnull hx hb dX11_firstProofBehind_78 ?_
                refine lv_aload hx hb (oc_25 81 (aq_9 shX11_firstProofBehind_72) ub_6) (lvA1 hl) ?_
                refine gf_RX11_405 S hK hP _ (xf_3 kf_2) (v := .int ((Fn 161) i6)) rfl (oc_180 83 (aq_11 shX11_firstProofBehind_72) uw_1_149) ?_
                refine lv_aload hx hb (oc_25 86 (aq_14 shX11_firstProofBehind_72) ub_4) (lvA3 hl) ?_
                have kf_3 : m9 < cn 13 := by (first | omega | (have zz0 := Hid.u hb_cn; omega))
                refine gf_RX11_405 S hK hP _ (xf_3 kf_3) (v := .int ((Fn 161) m9)) rfl (oc_180 88 (aq_16 shX11_firstProofBehind_72) uw_1_149) ?_
                refine lv_icmp_ge (tgt := 98) hx hb (oc_162 91 (aq_19 shX11_firstProofBehind_72) sgw_0_7) rfl (fun c_19 => ?_) (fun c_19 => ?_)
                ·
                  have tc_19 : (((Fn 161) m9).toInt : Int) ≤ ((Fn 161) i6).toInt := Int32.le_iff_toInt_le.mp c_19
                  refine lv_iinc (v := (nI (i6 + 1))) (lv' := [(5, .int (nI (i6 + 1))), (7, .int 1), (6, .ref (ad 13 i6)), (4, .ref (ad 13 m9)), (0, .ref (g 0)), (1, .int v0), (2, .int v1), (3, .int v2)]) hx hb dX11_firstProofBehind_98 hl (k := 2) rfl (nI_1 _) (ltb rfl) rfl (fun ls hl => ?_)
                  refine lv_goto (tgt := 6) hx hb dX11_firstProofBehind_101 rfl ?_
                  exact ih6 (i6 + 1) (some (ad 13 m9)) (by (first | omega | (have zz0 := Hid.u hb_cn; omega))) ⟨(by (first | omega | (have zz0 := Hid.u hb_cn; omega))), (Or.inr ⟨m9, h9, rfl⟩)⟩ ls (lv_sub hl [0, 3, 4, 5, 6, 7] rfl)
                ·
                  have tc_19 : (((Fn 161) i6).toInt : Int) < ((Fn 161) m9).toInt := Int32.lt_iff_toInt_lt.mp (Int32.not_le.mp c_19)
                  refine lv_aload hx hb dX11_firstProofBehind_94 (lvA1 hl) ?_
                  refine lv_astore (lv' := [(4, .ref (ad 13 i6)), (7, .int 1), (6, .ref (ad 13 i6)), (5, .int (nI i6)), (0, .ref (g 0)), (1, .int v0), (2, .int v1), (3, .int v2)]) hx hb dX11_firstProofBehind_96 hl (ltb rfl) rfl (fun ls hl => ?_)
                  refine lv_iinc (v := (nI (i6 + 1))) (lv' := [(5, .int (nI (i6 + 1))), (4, .ref (ad 13 i6)), (7, .int 1), (6, .ref (ad 13 i6)), (0, .ref (g 0)), (1, .int v0), (2, .int v1), (3, .int v2)]) hx hb dX11_firstProofBehind_98 hl (k := 3) rfl (nI_1 _) (ltb rfl) rfl (fun ls hl => ?_)
                  refine lv_goto (tgt := 6) hx hb dX11_firstProofBehind_101 rfl ?_
                  exact ih6 (i6 + 1) (some (ad 13 i6)) (by (first | omega | (have zz0 := Hid.u hb_cn; omega))) ⟨(by (first | omega | (have zz0 := Hid.u hb_cn; omega))), (Or.inr ⟨i6, by (first | omega | (have zz0 := Hid.u hb_cn; omega)), rfl⟩)⟩ ls (lv_sub hl [0, 1, 4, 5, 6, 7] rfl)
            ·
              have tc_17 : (v2.toInt : Int) ≠ (-1) := fun q => c_17 (Int32.toInt_inj.mp q)
              refine lv_aload hx hb (oc_25 46 (aq_22 shX11_firstProofBehind_24) ub_6) (lvA0 hl) ?_
              refine gf_RX11_415 S hK hP _ (xf_3 kf_2) (v := .int ((Fn 163) i6)) rfl (oc_180 48 shX11_firstProofBehind_48 uw_1_159) ?_
              refine lv_iload_n hx hb (oc_29 51 (aq_3 shX11_firstProofBehind_48)) rfl (lvA6 hl) ?_
              refine lv_icmp_ne (tgt := 59) hx hb (oc_160 52 (aq_4 shX11_firstProofBehind_48) sgw_0_7) rfl (fun c_20 => ?_) (fun c_20 => ?_)
              ·
                have tc_20 : (((Fn 163) i6).toInt : Int) ≠ v2.toInt := fun q => c_20 (Int32.toInt_inj.mp q)
                refine lv_iconst (v := 0) hx hb dX11_firstProofBehind_59 kic_0 ?_
                refine lv_istore (lv' := [(7, .int 0), (6, .ref (ad 13 i6)), (5, .int (nI i6)), (4, .ref (ad 13 m9)), (0, .ref (g 0)), (1, .int v0), (2, .int v1), (3, .int v2)]) hx hb dX11_firstProofBehind_60 hl (ltb rfl) rfl (fun ls hl => ?_)
                refine lv_iload hx hb dX11_firstProofBehind_62 (lvA0 hl) ?_
                refine lv_if_eq (tgt := 98) hx hb dX11_firstProofBehind_64 rfl (fun _ => ?_) (fun h => absurd h cq_eq_0_0)
                refine lv_iinc (v := (nI (i6 + 1))) (lv' := [(5, .int (nI (i6 + 1))), (7, .int 0), (6, .ref (ad 13 i6)), (4, .ref (ad 13 m9)), (0, .ref (g 0)), (1, .int v0), (2, .int v1), (3, .int v2)]) hx hb dX11_firstProofBehind_98 hl (k := 2) rfl (nI_1 _) (ltb rfl) rfl (fun ls hl => ?_)
                refine lv_goto (tgt := 6) hx hb dX11_firstProofBehind_101 rfl ?_
                exact ih6 (i6 + 1) (some (ad 13 m9)) (by (first | omega | (have zz0 := Hid.u hb_cn; omega))) ⟨(by (first | omega | (have zz0 := Hid.u hb_cn; omega))), (Or.inr ⟨m9, h9, rfl⟩)⟩ ls (lv_sub hl [0, 3, 4, 5, 6, 7] rfl)
              ·
                have tc_20 : (((Fn 163) i6).toInt : Int) = v2.toInt := congrArg Int32.toInt c_20
                refine lv_iconst (v := 1) hx hb dX11_firstProofBehind_55 kic_1 ?_
                refine lv_goto (tgt := 60) hx hb dX11_firstProofBehind_56 rfl ?_
                refine lv_istore (lv' := [(7, .int 1), (6, .ref (ad 13 i6)), (5, .int (nI i6)), (4, .ref (ad 13 m9)), (0, .ref (g 0)), (1, .int v0), (2, .int v1), (3, .int v2)]) hx hb dX11_firstProofBehind_60 hl (ltb rfl) rfl (fun ls hl => ?_)
                refine lv_iload hx hb dX11_firstProofBehind_62 (lvA0 hl) ?_
                refine lv_if_eq (tgt := 98) hx hb dX11_firstProofBehind_64 rfl (fun h => absurd h cq_eq_1_0) (fun _ => ?_)
                refine lv_aload hx hb dX11_firstProofBehind_67 (lvA1 hl) ?_
                refine gf_RX11_408 S hK hP _ (xf_3 kf_2) (v := .int ((Fn 162) i6)) rfl dX11_firstProofBehind_69 ?_
                refine lv_iload_n hx hb dX11_firstProofBehind_72 rfl (lvA5 hl) ?_
                refine lv_icmp_le (tgt := 98) hx hb dX11_firstProofBehind_73 rfl (fun c_21 => ?_) (fun c_21 => ?_)
                ·
                  have tc_21 : (((Fn 162) i6).toInt : Int) ≤ v0.toInt := Int32.le_iff_toInt_le.mp c_21
                  refine lv_iinc (v := (nI (i6 + 1))) (lv' := [(5, .int (nI (i6 + 1))), (7, .int 1), (6, .ref (ad 13 i6)), (4, .ref (ad 13 m9)), (0, .ref (g 0)), (1, .int v0), (2, .int v1), (3, .int v2)]) hx hb dX11_firstProofBehind_98 hl (k := 2) rfl (nI_1 _) (ltb rfl) rfl (fun ls hl => ?_)
                  refine lv_goto (tgt := 6) hx hb dX11_firstProofBehind_101 rfl ?_
                  exact ih6 (i6 + 1) (some (ad 13 m9)) (by (first | omega | (have zz0 := Hid.u hb_cn; omega))) ⟨(by (first | omega | (have zz0 := Hid.u hb_cn; omega))), (Or.inr ⟨m9, h9, rfl⟩)⟩ ls (lv_sub hl [0, 3, 4, 5, 6, 7] rfl)
                ·
                  have tc_21 : (v0.toInt : Int) < ((Fn 162) i6).toInt := Int32.lt_iff_toInt_lt.mp (Int32.not_le.mp c_21)
                  refine lv_aload hx hb dX11_firstProofBehind_76 (lvA3 hl) ?_
                  refine lv_ifnull hx hb dX11_firstProofBehind_78 ?_
                  refine lv_aload hx hb (oc_25 81 (aq_9 shX11_firstProofBehind_72) ub_6) (lvA1 hl) ?_
                  refine gf_RX11_405 S hK hP _ (xf_3 kf_2) (v := .int ((Fn 161) i6)) rfl (oc_180 83 (aq_11 shX11_firstProofBehind_72) uw_1_149) ?_
                  refine lv_aload hx hb (oc_25 86 (aq_14 shX11_firstProofBehind_72) ub_4) (lvA3 hl) ?_
                  have kf_4 : m9 < cn 13 := by (first | omega | (have zz0 := Hid.u hb_cn; omega))
                  refine gf_RX11_405 S hK hP _ (xf_3 kf_4) (v := .int ((Fn 161) m9)) rfl (oc_180 88 (aq_16 shX11_firstProofBehind_72) uw_1_149) ?_
                  refine lv_icmp_ge (tgt := 98) hx hb (oc_162 91 (aq_19 shX11_firstProofBehind_72) sgw_0_7) rfl (fun c_22 => ?_) (fun c_22 => ?_)
                  ·
                    have tc_22 : (((Fn 161) m9).toInt : Int) ≤ ((Fn 161) i6).toInt := Int32.le_iff_toInt_le.mp c_22
                    refine lv_iinc (v := (nI (i6 + 1))) (lv' := [(5, .int (nI (i6 + 1))), (7, .int 1), (6, .ref (ad 13 i6)), (4, .ref (ad 13 m9)), (0, .ref (g 0)), (1, .int v0), (2, .int v1), (3, .int v2)]) hx hb dX11_firstProofBehind_98 hl (k := 2) rfl (nI_1 _) (ltb rfl) rfl (fun ls hl => ?_)
                    refine lv_goto (tgt := 6) hx hb dX11_firstProofBehind_101 rfl ?_
                    exact ih6 (i6 + 1) (some (ad 13 m9)) (by (first | omega | (have zz0 := Hid.u hb_cn; omega))) ⟨(by (first | omega | (have zz0 := Hid.u hb_cn; omega))), (Or.inr ⟨m9, h9, rfl⟩)⟩ ls (lv_sub hl [0, 3, 4, 5, 6, 7] rfl)
                  ·
                    have tc_22 : (((Fn 161) i6).toInt : Int) < ((Fn 161) m9).toInt := Int32.lt_iff_toInt_lt.mp (Int32.not_le.mp c_22)
                    refine lv_aload hx hb dX11_firstProofBehind_94 (lvA1 hl) ?_
                    refine lv_astore (lv' := [(4, .ref (ad 13 i6)), (7, .int 1), (6, .ref (ad 13 i6)), (5, .int (nI i6)), (0, .ref (g 0)), (1, .int v0), (2, .int v1), (3, .int v2)]) hx hb dX11_firstProofBehind_96 hl (ltb rfl) rfl (fun ls hl => ?_)
                    refine lv_iinc (v := (nI (i6 + 1))) (lv' := [(5, .int (nI (i6 + 1))), (4, .ref (ad 13 i6)), (7, .int 1), (6, .ref (ad 13 i6)), (0, .ref (g 0)), (1, .int v0), (2, .int v1), (3, .int v2)]) hx hb dX11_firstProofBehind_98 hl (k := 3) rfl (nI_1 _) (ltb rfl) rfl (fun ls hl => ?_)
                    refine lv_goto (tgt := 6) hx hb dX11_firstProofBehind_101 rfl ?_
                    exact ih6 (i6 + 1) (some (ad 13 i6)) (by (first | omega | (have zz0 := Hid.u hb_cn; omega))) ⟨(by (first | omega | (have zz0 := Hid.u hb_cn; omega))), (Or.inr ⟨i6, by (first | omega | (have zz0 := Hid.u hb_cn; omega)), rfl⟩)⟩ ls (lv_sub hl [0, 1, 4, 5, 6, 7] rfl)
  exact lp_6 _ 0 none (Nat.lt_succ_self _) ⟨(by (first | omega | (have zz0 := Hid.u hb_cn; omega))), (Or.inl rfl)⟩ ls (lv_sub hl [0, 1, 2, 3, 4, 5] rfl)
set_option maxRecDepth 100000 in
set_option maxHeartbeats 4000000 in
theorem q_XprovenLitres (l : Launch) (D : va_G) (cI cB cZ : ClassId) (zz qq vv : Nat) (bt : Nat → Int32) (g : Nat → Nat) (ad : Nat → Nat → Nat) (cn : Nat → Nat) (In : Nat → Int32) (Fn : Nat → Nat → Int32) (v0 v1 : Int32) (hB : CBX cn) : Met l yX11_provenLitres (CWS yX11_provenLitres cX11_provenLitres 7 (some .int)) (RM 4 0 0) (PBrx [.ref (g 0), .int v0, .int v1] D cI cB cZ zz qq vv bt (wX cI (D.1 99) zz g ad cn In Fn)) (vp_Si (fun _ => True)) 0 0 (fun _ => False) := by
  refine en_rx rfl pn_RX11 (Nat.le_of_ble_eq_true rfl) (fun p e s m below meth c hx hb hml hown S hr hlocks hnm hP hK hXS hS ls hl => ?_)
  have hl : lv_has ls 7 [(0, .ref (g 0)), (1, .int v0), (2, .int v1)] := hl
  have hb_cn : Hid (CBX cn) := hB
  replace hB : CBXh cn := hB
  refine lv_iconst (v := 0) hx hb (oc_3 0 shX11_provenLitres_0) kic_0 ?_
  refine lv_istore_n (lv' := [(3, .int 0), (0, .ref (g 0)), (1, .int v0), (2, .int v1)]) hx hb (oc_62 1 (aq_1 shX11_provenLitres_0)) rfl hl (ltb rfl) rfl (fun ls hl => ?_)
  refine lv_iconst (v := 0) hx hb (oc_3 2 (aq_2 shX11_provenLitres_0)) kic_0 ?_
  refine lv_istore (lv' := [(4, .int 0), (3, .int 0), (0, .ref (g 0)), (1, .int v0), (2, .int v1)]) hx hb (oc_54 3 (aq_3 shX11_provenLitres_0) ub_4) hl (ltb rfl) rfl (fun ls hl => ?_)
  refine lv_iconst (v := 0) hx hb (oc_3 5 (aq_5 shX11_provenLitres_0)) kic_0 ?_
  refine lv_istore (lv' := [(5, .int 0), (4, .int 0), (3, .int 0), (0, .ref (g 0)), (1, .int v0), (2, .int v1)]) hx hb (oc_54 6 (aq_6 shX11_provenLitres_0) ub_5) hl (ltb rfl) rfl (fun ls hl => ?_)
  have lp_8 : ∀ (n : Nat) (i8 : Nat) (x8_3 : Int32) (x8_4 : Int32) , 40 - i8 < n → (i8 ≤ 40) → ∀ ls : Array Slot, lv_has ls 7 [(5, .int (nI i8)), (4, .int x8_4), (3, .int x8_3), (0, .ref (g 0)), (1, .int v0), (2, .int v1)] → W p l e (RM 4 0 0) s m ([.ref (g 0), .int v0, .int v1]).toArray below meth c s.heap [] 0 0 (MQ below (vp_Si (fun _ => True)) ([.ref (g 0), .int v0, .int v1]).toArray s 0 0 (fun _ => False)) (F0 m 8 ls []) := by
    intro n8
    induction n8 with
    | zero => intros; (first | omega | (have zz0 := Hid.u hb_cn; omega))
    | succ n8 ih8 =>
      intro i8 x8_3 x8_4 hmu8 hinv8 ls hl
      have hr8 := hinv8
      have ti8 : (nI i8).toInt = (i8 : Int) := nI_toInt (by (first | omega | (have zz0 := Hid.u hb_cn; omega)))
      refine lv_iload hx hb (oc_21 8 (aq_8 shX11_provenLitres_0) ub_5) (lvA0 hl) ?_
      refine lv_bipush (v := 40) hx hb (oc_16 10 (aq_10 shX11_provenLitres_0) sgb_40) kbc_40 ?_
      refine lv_icmp_ge (tgt := 65) hx hb (oc_162 12 (aq_12 shX11_provenLitres_0) sgw_0_53) rfl (fun c_1 => ?_) (fun c_1 => ?_)
      ·
        have tc_1 : (40 : Int) ≤ (nI i8).toInt := Int32.le_iff_toInt_le.mp c_1
        refine lv_iload_n hx hb (oc_29 65 (aq_16 shX11_provenLitres_49)) rfl (lvA2 hl) ?_
        exact W.iret (v := x8_3) hx hb hr (fun t ht hW => ⟨x8_3, rfl, trivial, ht⟩) (fun _ h => absurd h List.not_mem_nil) (oc_172 66 (aq_17 shX11_provenLitres_49))
      ·
        have tc_1 : ((nI i8).toInt : Int) < 40 := Int32.lt_iff_toInt_lt.mp (Int32.not_le.mp c_1)
        refine lv_aload_n hx hb (oc_42 15 (aq_15 shX11_provenLitres_0)) rfl (lvA3 hl) ?_
        refine lv_iload hx hb (oc_21 16 (aq_16 shX11_provenLitres_0) ub_4) (lvA1 hl) ?_
        refine lv_iload_n hx hb (oc_27 18 (aq_18 shX11_provenLitres_0)) rfl (lvA4 hl) ?_
        refine lv_iload_n hx hb (oc_28 19 (aq_19 shX11_provenLitres_0)) rfl (lvA5 hl) ?_
        refine va_csq (runV_rxa (As := [.int x8_4, .int v0, .int v1]) (rest := []) S (q_XfirstProofBehind l D cI cB cZ zz qq vv bt g ad cn In Fn x8_4 v0 v1 hB) kV_RX11_418 hK hXS hS hP 0 xo_0 rfl rfl ⟨Nat.le_of_ble_eq_true rfl, Nat.le_of_ble_eq_true rfl⟩ ⟨Nat.le_of_ble_eq_true rfl, Nat.le_of_ble_eq_true rfl⟩ rfl hl.1 rfl (Nat.le_of_ble_eq_true rfl) (oc_182 20 (aq_20 shX11_provenLitres_0) uw_1_162)) (fun r_2 h_3 => ?_)
        rcases h_3 with ⟨mr_2, er_2, hr_2, rfl⟩ | ⟨hr_2, rfl⟩
        ·
          refine lv_astore (lv' := [(6, .ref (ad 13 mr_2)), (5, .int (nI i8)), (4, .int x8_4), (3, .int x8_3), (0, .ref (g 0)), (1, .int v0), (2, .int v1)]) hx hb (oc_58 23 (aq_23 shX11_provenLitres_0) ub_6) hl (ltb rfl) rfl (fun ls hl => ?_)
          refine lv_aload hx hb (oc_25 25 shX11_provenLitres_25 ub_6) (lvA0 hl) ?_
          refine lv_ifnonnull (tgt := 33) hx hb (oc_199 27 (aq_2 shX11_provenLitres_25) sgw_0_6) rfl ?_
          refine lv_iload_n hx hb (oc_29 33 (aq_8 shX11_provenLitres_25)) rfl (lvA3 hl) ?_
          refine lv_aload hx hb (oc_25 34 (aq_9 shX11_provenLitres_25) ub_6) (lvA0 hl) ?_
          have kf_1 : mr_2 < cn 13 := by (first | omega | (have zz0 := Hid.u hb_cn; omega))
          refine gf_RX11_408 S hK hP _ (xf_3 kf_1) (v := .int ((Fn 162) mr_2)) rfl (oc_180 36 (aq_11 shX11_provenLitres_25) uw_1_152) ?_
          refine lv_aload hx hb (oc_25 39 (aq_14 shX11_provenLitres_25) ub_6) (lvA0 hl) ?_
          refine gf_RX11_405 S hK hP _ (xf_3 kf_1) (v := .int ((Fn 161) mr_2)) rfl (oc_180 41 (aq_16 shX11_provenLitres_25) uw_1_149) ?_
          refine lv_iload hx hb (oc_21 44 (aq_19 shX11_provenLitres_25) ub_4) (lvA2 hl) ?_
          refine va_mmax hx hb (by rw [hml]; exact hl.1.symm) hown (S.2.2.2.2 _ (wk4_3 8 rfl rfl)) (S.2.2.2.2 _ (wk1_3 6 rfl rfl)) (S.2.2.2.2 _ (wk1_0 3 rfl rfl)) (S.2.2.2.2 _ (wk1_3 7 rfl rfl)) (Nat.le_of_ble_eq_true rfl) (Nat.le_of_ble_eq_true rfl) (Nat.le_of_ble_eq_true rfl) (Nat.le_of_ble_eq_true rfl) (oc_184 46 (aq_21 shX11_provenLitres_25) uw_0_232) ?_
          refine lv_isub hx hb (oc_100 49 shX11_provenLitres_49) ?_
          refine lv_iadd hx hb (oc_96 50 (aq_1 shX11_provenLitres_49)) ?_
          refine lv_istore_n (lv' := [(3, .int (x8_3 + (((Fn 162) mr_2) - (if ((Fn 161) mr_2) < x8_4 then x8_4 else ((Fn 161) mr_2))))), (6, .ref (ad 13 mr_2)), (5, .int (nI i8)), (4, .int x8_4), (0, .ref (g 0)), (1, .int v0), (2, .int v1)]) hx hb (oc_62 51 (aq_2 shX11_provenLitres_49)) rfl hl (ltb rfl) rfl (fun ls hl => ?_)
          refine lv_aload hx hb (oc_25 52 (aq_3 shX11_provenLitres_49) ub_6) (lvA1 hl) ?_
          refine gf_RX11_408 S hK hP _ (xf_3 kf_1) (v := .int ((Fn 162) mr_2)) rfl (oc_180 54 (aq_5 shX11_provenLitres_49) uw_1_152) ?_
          refine lv_istore (lv' := [(4, .int ((Fn 162) mr_2)), (3, .int (x8_3 + (((Fn 162) mr_2) - (if ((Fn 161) mr_2) < x8_4 then x8_4 else ((Fn 161) mr_2))))), (6, .ref (ad 13 mr_2)), (5, .int (nI i8)), (0, .ref (g 0)), (1, .int v0), (2, .int v1)]) hx hb (oc_54 57 (aq_8 shX11_provenLitres_49) ub_4) hl (ltb rfl) rfl (fun ls hl => ?_)
          refine lv_iinc (v := (nI (i8 + 1))) (lv' := [(5, .int (nI (i8 + 1))), (4, .int ((Fn 162) mr_2)), (3, .int (x8_3 + (((Fn 162) mr_2) - (if ((Fn 161) mr_2) < x8_4 then x8_4 else ((Fn 161) mr_2))))), (6, .ref (ad 13 mr_2)), (0, .ref (g 0)), (1, .int v0), (2, .int v1)]) hx hb (oc_132 59 (aq_10 shX11_provenLitres_49) ub_5 sgb_1) hl (k := 3) rfl (nI_1 _) (ltb rfl) rfl (fun ls hl => ?_)
          refine lv_goto (tgt := 8) hx hb (oc_167 62 (aq_13 shX11_provenLitres_49) sgw_255_202) rfl ?_
          exact ih8 (i8 + 1) (x8_3 + (((Fn 162) mr_2) - (if ((Fn 161) mr_2) < x8_4 then x8_4 else ((Fn 161) mr_2)))) ((Fn 162) mr_2) (by (first | omega | (have zz0 := Hid.u hb_cn; omega))) (by (first | omega | (have zz0 := Hid.u hb_cn; omega))) ls (lv_sub hl [0, 1, 2, 4, 5, 6] rfl)
        ·
          refine lv_astoreN (lv' := [(6, .null), (5, .int (nI i8)), (4, .int x8_4), (3, .int x8_3), (0, .ref (g 0)), (1, .int v0), (2, .int v1)]) hx hb (oc_58 23 (aq_23 shX11_provenLitres_0) ub_6) hl (ltb rfl) rfl (fun ls hl => ?_)
          refine lv_aloadN hx hb (oc_25 25 shX11_provenLitres_25 ub_6) (lvA0 hl) ?_
          refine lv_ifnonnullN hx hb (oc_199 27 (aq_2 shX11_provenLitres_25) sgw_0_6) ?_
          refine lv_goto (tgt := 65) hx hb (oc_167 30 (aq_5 shX11_provenLitres_25) sgw_0_35) rfl ?_
          refine lv_iload_n hx hb (oc_29 65 (aq_16 shX11_provenLitres_49)) rfl (lvA3 hl) ?_
          exact W.iret (v := x8_3) hx hb hr (fun t ht hW => ⟨x8_3, rfl, trivial, ht⟩) (fun _ h => absurd h List.not_mem_nil) (oc_172 66 (aq_17 shX11_provenLitres_49))
  exact lp_8 _ 0 0 0 (Nat.lt_succ_self _) (by (first | omega | (have zz0 := Hid.u hb_cn; omega))) ls (lv_sub hl [0, 1, 2, 3, 4, 5] rfl)
set_option maxRecDepth 100000 in
set_option maxHeartbeats 4000000 in
theorem q_Xbought (l : Launch) (D : va_G) (cI cB cZ : ClassId) (zz qq vv : Nat) (bt : Nat → Int32) (g : Nat → Nat) (ad : Nat → Nat → Nat) (cn : Nat → Nat) (In : Nat → Int32) (Fn : Nat → Nat → Int32) (v0 v1 : Int32) (hB : CBX cn) : Met l yX11_bought (CWS yX11_bought cX11_bought 3 (some .int)) (RM 5 0 0) (PBrx [.ref (g 0), .int v0, .int v1] D cI cB cZ zz qq vv bt (wX cI (D.1 99) zz g ad cn In Fn)) (vp_Si (fun _ => True)) 0 0 (fun _ => False) := by
  refine en_rx rfl pn_RX11 (Nat.le_of_ble_eq_true rfl) (fun p e s m below meth c hx hb hml hown S hr hlocks hnm hP hK hXS hS ls hl => ?_)
  have hl : lv_has ls 3 [(0, .ref (g 0)), (1, .int v0), (2, .int v1)] := hl
  have hb_cn : Hid (CBX cn) := hB
  replace hB : CBXh cn := hB
  refine lv_aload_n hx hb (oc_42 0 shX11_bought_0) rfl (lvA0 hl) ?_
  refine lv_iload_n hx hb (oc_27 1 (aq_1 shX11_bought_0)) rfl (lvA1 hl) ?_
  refine va_csq (runV_rxa (As := [.int v0]) (rest := []) S (q_XbatchAt l D cI cB cZ zz qq vv bt g ad cn In Fn v0 hB) kV_RX11_382 hK hXS hS hP 0 xo_0 rfl rfl ⟨Nat.le_of_ble_eq_true rfl, Nat.le_of_ble_eq_true rfl⟩ ⟨Nat.le_of_ble_eq_true rfl, Nat.le_of_ble_eq_true rfl⟩ rfl hl.1 rfl (Nat.le_of_ble_eq_true rfl) (oc_182 2 (aq_2 shX11_bought_0) uw_1_126)) (fun r_1 h_2 => ?_)
  rcases h_2 with ⟨mr_1, er_1, hr_1, rfl⟩ | ⟨hr_1, rfl⟩
  ·
    refine lv_ifnull hx hb (oc_198 5 (aq_5 shX11_bought_0) sgw_0_13) ?_
    refine lv_iload_n hx hb (oc_28 8 (aq_8 shX11_bought_0)) rfl (lvA2 hl) ?_
    refine lv_iconst (v := 0) hx hb (oc_3 9 (aq_9 shX11_bought_0)) kic_0 ?_
    refine lv_bipush (v := 9) hx hb (oc_16 10 (aq_10 shX11_bought_0) sgb_9) kbc_9 ?_
    refine vp_callSi (runS_r (As := [.int v1, .int 0, .int 9]) (rest := []) S (q_l_within l D cI cB cZ v1 0 9) kS_RX11_80 hK hP [] rfl ⟨Nat.le_of_ble_eq_true rfl, Nat.le_of_ble_eq_true rfl⟩ ⟨Nat.le_of_ble_eq_true rfl, Nat.le_of_ble_eq_true rfl⟩ rfl hl.1 rfl (Nat.le_of_ble_eq_true rfl) (oc_184 12 (aq_12 shX11_bought_0) uw_0_80)) (fun r_3 h_4 => ?_)
    rcases h_4 with ⟨rfl, h_4⟩ | ⟨rfl, h_4⟩
    ·
      have h_4 : 0 ≤ v1.toInt ∧ v1.toInt ≤ 9 := h_4
      refine lv_if_ne (tgt := 22) hx hb (oc_154 15 (aq_15 shX11_bought_0) sgw_0_7) rfl (fun _ => ?_) (fun h => absurd h cq_eq_1_0)
      refine lv_aload_n hx hb (oc_42 22 (aq_22 shX11_bought_0)) rfl (lvA0 hl) ?_
      refine lv_iload_n hx hb (oc_27 23 (aq_23 shX11_bought_0)) rfl (lvA1 hl) ?_
      refine lv_iload_n hx hb (oc_28 24 shX11_bought_24) rfl (lvA2 hl) ?_
      refine vp_callSi (runV_rxa (As := [.int v0, .int v1]) (rest := []) S (q_XprovenLitres l D cI cB cZ zz qq vv bt g ad cn In Fn v0 v1 hB) kV_RX11_385 hK hXS hS hP 0 xo_0 rfl rfl ⟨Nat.le_of_ble_eq_true rfl, Nat.le_of_ble_eq_true rfl⟩ ⟨Nat.le_of_ble_eq_true rfl, Nat.le_of_ble_eq_true rfl⟩ rfl hl.1 rfl (Nat.le_of_ble_eq_true rfl) (oc_182 25 (aq_1 shX11_bought_24) uw_1_129)) (fun r_5 h_6 => ?_)
      exact W.iret (v := r_5) hx hb hr (fun t ht hW => ⟨r_5, rfl, trivial, ht⟩) (fun _ h => absurd h List.not_mem_nil) (oc_172 28 (aq_4 shX11_bought_24))
    ·
      have h_4 : ¬ (0 ≤ v1.toInt ∧ v1.toInt ≤ 9) := h_4
      refine lv_if_ne (tgt := 22) hx hb (oc_154 15 (aq_15 shX11_bought_0) sgw_0_7) rfl (fun h => absurd h cq_eq_0_0) (fun _ => ?_)
      refine lv_iconst (v := (-1)) hx hb (oc_2 18 (aq_18 shX11_bought_0)) kic_m1 ?_
      refine lv_goto (tgt := 28) hx hb (oc_167 19 (aq_19 shX11_bought_0) sgw_0_9) rfl ?_
      exact W.iret (v := (-1)) hx hb hr (fun t ht hW => ⟨(-1), rfl, trivial, ht⟩) (fun _ h => absurd h List.not_mem_nil) (oc_172 28 (aq_4 shX11_bought_24))
  ·
    refine lv_ifnullN (tgt := 18) hx hb (oc_198 5 (aq_5 shX11_bought_0) sgw_0_13) rfl ?_
    refine lv_iconst (v := (-1)) hx hb (oc_2 18 (aq_18 shX11_bought_0)) kic_m1 ?_
    refine lv_goto (tgt := 28) hx hb (oc_167 19 (aq_19 shX11_bought_0) sgw_0_9) rfl ?_
    exact W.iret (v := (-1)) hx hb hr (fun t ht hW => ⟨(-1), rfl, trivial, ht⟩) (fun _ h => absurd h List.not_mem_nil) (oc_172 28 (aq_4 shX11_bought_24))
set_option maxRecDepth 100000 in
set_option maxHeartbeats 4000000 in
theorem q_Xwhence (l : Launch) (D : va_G) (cI cB cZ : ClassId) (zz qq vv : Nat) (bt : Nat → Int32) (g : Nat → Nat) (ad : Nat → Nat → Nat) (cn : Nat → Nat) (In : Nat → Int32) (Fn : Nat → Nat → Int32) (v0 v1 : Int32) (hB : CBX cn) : Met l yX11_whence (CWS yX11_whence cX11_whence 7 (some .int)) (RM 4 0 0) (PBrx [.ref (g 0), .int v0, .int v1] D cI cB cZ zz qq vv bt (wX cI (D.1 99) zz g ad cn In Fn)) (vp_Si (fun _ => True)) 0 0 (fun _ => False) := by
  refine en_rx rfl pn_RX11 (Nat.le_of_ble_eq_true rfl) (fun p e s m below meth c hx hb hml hown S hr hlocks hnm hP hK hXS hS ls hl => ?_)
  have hl : lv_has ls 7 [(0, .ref (g 0)), (1, .int v0), (2, .int v1)] := hl
  have hb_cn : Hid (CBX cn) := hB
  replace hB : CBXh cn := hB
  refine lv_aload_n hx hb (oc_42 0 shX11_whence_0) rfl (lvA0 hl) ?_
  refine lv_iload_n hx hb (oc_27 1 (aq_1 shX11_whence_0)) rfl (lvA1 hl) ?_
  refine va_csq (runV_rxa (As := [.int v0]) (rest := []) S (q_XbatchAt l D cI cB cZ zz qq vv bt g ad cn In Fn v0 hB) kV_RX11_382 hK hXS hS hP 0 xo_0 rfl rfl ⟨Nat.le_of_ble_eq_true rfl, Nat.le_of_ble_eq_true rfl⟩ ⟨Nat.le_of_ble_eq_true rfl, Nat.le_of_ble_eq_true rfl⟩ rfl hl.1 rfl (Nat.le_of_ble_eq_true rfl) (oc_182 2 (aq_2 shX11_whence_0) uw_1_126)) (fun r_1 h_2 => ?_)
  rcases h_2 with ⟨mr_1, er_1, hr_1, rfl⟩ | ⟨hr_1, rfl⟩
  ·
    refine lv_astore_n (lv' := [(3, .ref (ad 12 mr_1)), (0, .ref (g 0)), (1, .int v0), (2, .int v1)]) hx hb (oc_78 5 (aq_5 shX11_whence_0)) rfl hl (ltb rfl) rfl (fun ls hl => ?_)
    refine lv_aload_n hx hb (oc_45 6 (aq_6 shX11_whence_0)) rfl (lvA0 hl) ?_
    refine lv_ifnull hx hb (oc_198 7 (aq_7 shX11_whence_0) sgw_0_15) ?_
    refine lv_iload_n hx hb (oc_28 10 (aq_10 shX11_whence_0)) rfl (lvA3 hl) ?_
    refine lv_if_lt (tgt := 22) hx hb (oc_155 11 (aq_11 shX11_whence_0) sgw_0_11) rfl (fun c_3 => ?_) (fun c_3 => ?_)
    ·
      have tc_3 : (v1.toInt : Int) < 0 := Int32.lt_iff_toInt_lt.mp c_3
      refine lv_iconst (v := (-1)) hx hb (oc_2 22 (aq_22 shX11_whence_0)) kic_m1 ?_
      exact W.iret (v := (-1)) hx hb hr (fun t ht hW => ⟨(-1), rfl, trivial, ht⟩) (fun _ h => absurd h List.not_mem_nil) (oc_172 23 (aq_23 shX11_whence_0))
    ·
      have tc_3 : (0 : Int) ≤ v1.toInt := Int32.le_iff_toInt_le.mp (Int32.not_lt.mp c_3)
      refine lv_iload_n hx hb (oc_28 14 (aq_14 shX11_whence_0)) rfl (lvA3 hl) ?_
      refine lv_aload_n hx hb (oc_45 15 (aq_15 shX11_whence_0)) rfl (lvA0 hl) ?_
      have kf_1 : mr_1 < cn 12 := by (first | omega | (have zz0 := Hid.u hb_cn; omega))
      refine gf_RX11_342 S hK hP _ (xf_2 kf_1) (v := .int ((Fn 146) mr_1)) rfl (oc_180 16 (aq_16 shX11_whence_0) uw_1_86) ?_
      refine lv_icmp_lt (tgt := 24) hx hb (oc_161 19 (aq_19 shX11_whence_0) sgw_0_5) rfl (fun c_4 => ?_) (fun c_4 => ?_)
      ·
        have tc_4 : (v1.toInt : Int) < ((Fn 146) mr_1).toInt := Int32.lt_iff_toInt_lt.mp c_4
        refine lv_iconst (v := 0) hx hb (oc_3 24 shX11_whence_24) kic_0 ?_
        refine lv_istore (lv' := [(4, .int 0), (3, .ref (ad 12 mr_1)), (0, .ref (g 0)), (1, .int v0), (2, .int v1)]) hx hb (oc_54 25 (aq_1 shX11_whence_24) ub_4) hl (ltb rfl) rfl (fun ls hl => ?_)
        refine lv_iconst (v := 0) hx hb (oc_3 27 (aq_3 shX11_whence_24)) kic_0 ?_
        refine lv_istore (lv' := [(5, .int 0), (4, .int 0), (3, .ref (ad 12 mr_1)), (0, .ref (g 0)), (1, .int v0), (2, .int v1)]) hx hb (oc_54 28 (aq_4 shX11_whence_24) ub_5) hl (ltb rfl) rfl (fun ls hl => ?_)
        have lp_30 : ∀ (n : Nat) (i30 : Nat) (x30_4 : Int32) , 20 - i30 < n → (i30 ≤ 20) → ∀ ls : Array Slot, lv_has ls 7 [(5, .int (nI i30)), (4, .int x30_4), (3, .ref (ad 12 mr_1)), (0, .ref (g 0)), (1, .int v0), (2, .int v1)] → W p l e (RM 4 0 0) s m ([.ref (g 0), .int v0, .int v1]).toArray below meth c s.heap [] 0 0 (MQ below (vp_Si (fun _ => True)) ([.ref (g 0), .int v0, .int v1]).toArray s 0 0 (fun _ => False)) (F0 m 30 ls []) := by
          intro n30
          induction n30 with
          | zero => intros; (first | omega | (have zz0 := Hid.u hb_cn; omega))
          | succ n30 ih30 =>
            intro i30 x30_4 hmu30 hinv30 ls hl
            have hr30 := hinv30
            have ti30 : (nI i30).toInt = (i30 : Int) := nI_toInt (by (first | omega | (have zz0 := Hid.u hb_cn; omega)))
            refine lv_iload hx hb (oc_21 30 (aq_6 shX11_whence_24) ub_5) (lvA0 hl) ?_
            refine lv_bipush (v := 20) hx hb (oc_16 32 (aq_8 shX11_whence_24) sgb_20) kbc_20 ?_
            refine lv_icmp_ge (tgt := 88) hx hb (oc_162 34 (aq_10 shX11_whence_24) sgw_0_54) rfl (fun c_5 => ?_) (fun c_5 => ?_)
            ·
              have tc_5 : (20 : Int) ≤ (nI i30).toInt := Int32.le_iff_toInt_le.mp c_5
              refine lv_iconst (v := (-1)) hx hb (oc_2 88 (aq_15 shX11_whence_73)) kic_m1 ?_
              exact W.iret (v := (-1)) hx hb hr (fun t ht hW => ⟨(-1), rfl, trivial, ht⟩) (fun _ h => absurd h List.not_mem_nil) (oc_172 89 (aq_16 shX11_whence_73))
            ·
              have tc_5 : ((nI i30).toInt : Int) < 20 := Int32.lt_iff_toInt_lt.mp (Int32.not_le.mp c_5)
              refine lv_aload_n hx hb (oc_42 37 (aq_13 shX11_whence_24)) rfl (lvA3 hl) ?_
              refine lv_iload hx hb (oc_21 38 (aq_14 shX11_whence_24) ub_5) (lvA0 hl) ?_
              refine va_csq (runV_rxa (As := [.int (nI i30)]) (rest := []) S (q_XloadAt l D cI cB cZ zz qq vv bt g ad cn In Fn (nI i30) hB) kV_RX11_148 hK hXS hS hP 0 xo_0 rfl rfl ⟨Nat.le_of_ble_eq_true rfl, Nat.le_of_ble_eq_true rfl⟩ ⟨Nat.le_of_ble_eq_true rfl, Nat.le_of_ble_eq_true rfl⟩ rfl hl.1 rfl (Nat.le_of_ble_eq_true rfl) (oc_182 40 (aq_16 shX11_whence_24) uw_0_148)) (fun r_6 h_7 => ?_)
              rcases h_7 with ⟨mr_6, er_6, hr_6, rfl⟩ | ⟨hr_6, rfl⟩
              ·
                refine lv_astore (lv' := [(6, .ref (ad 11 mr_6)), (5, .int (nI i30)), (4, .int x30_4), (3, .ref (ad 12 mr_1)), (0, .ref (g 0)), (1, .int v0), (2, .int v1)]) hx hb (oc_58 43 (aq_19 shX11_whence_24) ub_6) hl (ltb rfl) rfl (fun ls hl => ?_)
                refine lv_iload hx hb (oc_21 45 (aq_21 shX11_whence_24) ub_4) (lvA2 hl) ?_
                refine lv_aload hx hb (oc_25 47 (aq_23 shX11_whence_24) ub_6) (lvA0 hl) ?_
                refine lv_ifnull hx hb (oc_198 49 shX11_whence_49 sgw_0_20) ?_
                refine lv_aload_n hx hb (oc_45 52 (aq_3 shX11_whence_49)) rfl (lvA3 hl) ?_
                refine lv_iload hx hb (oc_21 53 (aq_4 shX11_whence_49) ub_5) (lvA1 hl) ?_
                refine vp_callSi (runV_rxa (As := [.int (nI i30)]) (rest := [.int x30_4]) S (q_Xhas l D cI cB cZ zz qq vv bt g ad cn In Fn mr_1 (nI i30) hB (by (first | omega | (have zz0 := Hid.u hb_cn; omega)))) kV_RX11_378 hK hXS hS hP _ (xf_2 kf_1) rfl rfl ⟨Nat.le_of_ble_eq_true rfl, Nat.le_of_ble_eq_true rfl⟩ ⟨Nat.le_of_ble_eq_true rfl, Nat.le_of_ble_eq_true rfl⟩ rfl hl.1 rfl (Nat.le_of_ble_eq_true rfl) (oc_182 55 (aq_6 shX11_whence_49) uw_1_122)) (fun r_8 h_9 => ?_)
                rcases h_9 with rfl | rfl
                ·
                  refine lv_if_eq (tgt := 69) hx hb (oc_153 58 (aq_9 shX11_whence_49) sgw_0_11) rfl (fun _ => ?_) (fun h => absurd h cq_eq_0_0)
                  refine lv_iconst (v := 0) hx hb (oc_3 69 (aq_20 shX11_whence_49)) kic_0 ?_
                  refine lv_iadd hx hb (oc_96 70 (aq_21 shX11_whence_49)) ?_
                  refine lv_istore (lv' := [(4, .int (x30_4 + 0)), (6, .ref (ad 11 mr_6)), (5, .int (nI i30)), (3, .ref (ad 12 mr_1)), (0, .ref (g 0)), (1, .int v0), (2, .int v1)]) hx hb (oc_54 71 (aq_22 shX11_whence_49) ub_4) hl (ltb rfl) rfl (fun ls hl => ?_)
                  refine lv_iload_n hx hb (oc_28 73 shX11_whence_73) rfl (lvA6 hl) ?_
                  refine lv_iload hx hb (oc_21 74 (aq_1 shX11_whence_73) ub_4) (lvA0 hl) ?_
                  refine lv_icmp_ge (tgt := 82) hx hb (oc_162 76 (aq_3 shX11_whence_73) sgw_0_6) rfl (fun c_10 => ?_) (fun c_10 => ?_)
                  ·
                    have tc_10 : ((x30_4 + 0).toInt : Int) ≤ v1.toInt := Int32.le_iff_toInt_le.mp c_10
                    refine lv_iinc (v := (nI (i30 + 1))) (lv' := [(5, .int (nI (i30 + 1))), (4, .int (x30_4 + 0)), (6, .ref (ad 11 mr_6)), (3, .ref (ad 12 mr_1)), (0, .ref (g 0)), (1, .int v0), (2, .int v1)]) hx hb (oc_132 82 (aq_9 shX11_whence_73) ub_5 sgb_1) hl (k := 2) rfl (nI_1 _) (ltb rfl) rfl (fun ls hl => ?_)
                    refine lv_goto (tgt := 30) hx hb (oc_167 85 (aq_12 shX11_whence_73) sgw_255_201) rfl ?_
                    exact ih30 (i30 + 1) (x30_4 + 0) (by (first | omega | (have zz0 := Hid.u hb_cn; omega))) (by (first | omega | (have zz0 := Hid.u hb_cn; omega))) ls (lv_sub hl [0, 1, 3, 4, 5, 6] rfl)
                  ·
                    have tc_10 : (v1.toInt : Int) < (x30_4 + 0).toInt := Int32.lt_iff_toInt_lt.mp (Int32.not_le.mp c_10)
                    refine lv_iload hx hb (oc_21 79 (aq_6 shX11_whence_73) ub_5) (lvA2 hl) ?_
                    exact W.iret (v := (nI i30)) hx hb hr (fun t ht hW => ⟨(nI i30), rfl, trivial, ht⟩) (fun _ h => absurd h List.not_mem_nil) (oc_172 81 (aq_8 shX11_whence_73))
                ·
                  refine lv_if_eq (tgt := 69) hx hb (oc_153 58 (aq_9 shX11_whence_49) sgw_0_11) rfl (fun h => absurd h cq_eq_1_0) (fun _ => ?_)
                  refine lv_aload hx hb (oc_25 61 (aq_12 shX11_whence_49) ub_6) (lvA0 hl) ?_
                  have kf_2 : mr_6 < cn 11 := by (first | omega | (have zz0 := Hid.u hb_cn; omega))
                  refine gf_RX11_202 S hK hP _ (xf_1 kf_2) (v := .int ((Fn 122) mr_6)) rfl (oc_180 63 (aq_14 shX11_whence_49) uw_0_202) ?_
                  refine lv_goto (tgt := 70) hx hb (oc_167 66 (aq_17 shX11_whence_49) sgw_0_4) rfl ?_
                  refine lv_iadd hx hb (oc_96 70 (aq_21 shX11_whence_49)) ?_
                  refine lv_istore (lv' := [(4, .int (x30_4 + ((Fn 122) mr_6))), (6, .ref (ad 11 mr_6)), (5, .int (nI i30)), (3, .ref (ad 12 mr_1)), (0, .ref (g 0)), (1, .int v0), (2, .int v1)]) hx hb (oc_54 71 (aq_22 shX11_whence_49) ub_4) hl (ltb rfl) rfl (fun ls hl => ?_)
                  refine lv_iload_n hx hb (oc_28 73 shX11_whence_73) rfl (lvA6 hl) ?_
                  refine lv_iload hx hb (oc_21 74 (aq_1 shX11_whence_73) ub_4) (lvA0 hl) ?_
                  refine lv_icmp_ge (tgt := 82) hx hb (oc_162 76 (aq_3 shX11_whence_73) sgw_0_6) rfl (fun c_11 => ?_) (fun c_11 => ?_)
                  ·
                    have tc_11 : ((x30_4 + ((Fn 122) mr_6)).toInt : Int) ≤ v1.toInt := Int32.le_iff_toInt_le.mp c_11
                    refine lv_iinc (v := (nI (i30 + 1))) (lv' := [(5, .int (nI (i30 + 1))), (4, .int (x30_4 + ((Fn 122) mr_6))), (6, .ref (ad 11 mr_6)), (3, .ref (ad 12 mr_1)), (0, .ref (g 0)), (1, .int v0), (2, .int v1)]) hx hb (oc_132 82 (aq_9 shX11_whence_73) ub_5 sgb_1) hl (k := 2) rfl (nI_1 _) (ltb rfl) rfl (fun ls hl => ?_)
                    refine lv_goto (tgt := 30) hx hb (oc_167 85 (aq_12 shX11_whence_73) sgw_255_201) rfl ?_
                    exact ih30 (i30 + 1) (x30_4 + ((Fn 122) mr_6)) (by (first | omega | (have zz0 := Hid.u hb_cn; omega))) (by (first | omega | (have zz0 := Hid.u hb_cn; omega))) ls (lv_sub hl [0, 1, 3, 4, 5, 6] rfl)
                  ·
                    have tc_11 : (v1.toInt : Int) < (x30_4 + ((Fn 122) mr_6)).toInt := Int32.lt_iff_toInt_lt.mp (Int32.not_le.mp c_11)
                    refine lv_iload hx hb (oc_21 79 (aq_6 shX11_whence_73) ub_5) (lvA2 hl) ?_
                    exact W.iret (v := (nI i30)) hx hb hr (fun t ht hW => ⟨(nI i30), rfl, trivial, ht⟩) (fun _ h => absurd h List.not_mem_nil) (oc_172 81 (aq_8 shX11_whence_73))
              ·
                refine lv_astoreN (lv' := [(6, .null), (5, .int (nI i30)), (4, .int x30_4), (3, .ref (ad 12 mr_1)), (0, .ref (g 0)), (1, .int v0), (2, .int v1)]) hx hb (oc_58 43 (aq_19 shX11_whence_24) ub_6) hl (ltb rfl) rfl (fun ls hl => ?_)
                refine lv_iload hx hb (oc_21 45 (aq_21 shX11_whence_24) ub_4) (lvA2 hl) ?_
                refine lv_aloadN hx hb (oc_25 47 (aq_23 shX11_whence_24) ub_6) (lvA0 hl) ?_
                refine lv_ifnullN (tgt := 69) hx hb (oc_198 49 shX11_whence_49 sgw_0_20) rfl ?_
                refine lv_iconst (v := 0) hx hb (oc_3 69 (aq_20 shX11_whence_49)) kic_0 ?_
                refine lv_iadd hx hb (oc_96 70 (aq_21 shX11_whence_49)) ?_
                refine lv_istore (lv' := [(4, .int (x30_4 + 0)), (6, .null), (5, .int (nI i30)), (3, .ref (ad 12 mr_1)), (0, .ref (g 0)), (1, .int v0), (2, .int v1)]) hx hb (oc_54 71 (aq_22 shX11_whence_49) ub_4) hl (ltb rfl) rfl (fun ls hl => ?_)
                refine lv_iload_n hx hb (oc_28 73 shX11_whence_73) rfl (lvA6 hl) ?_
                refine lv_iload hx hb (oc_21 74 (aq_1 shX11_whence_73) ub_4) (lvA0 hl) ?_
                refine lv_icmp_ge (tgt := 82) hx hb (oc_162 76 (aq_3 shX11_whence_73) sgw_0_6) rfl (fun c_12 => ?_) (fun c_12 => ?_)
                ·
                  have tc_12 : ((x30_4 + 0).toInt : Int) ≤ v1.toInt := Int32.le_iff_toInt_le.mp c_12
                  refine lv_iinc (v := (nI (i30 + 1))) (lv' := [(5, .int (nI (i30 + 1))), (4, .int (x30_4 + 0)), (6, .null), (3, .ref (ad 12 mr_1)), (0, .ref (g 0)), (1, .int v0), (2, .int v1)]) hx hb (oc_132 82 (aq_9 shX11_whence_73) ub_5 sgb_1) hl (k := 2) rfl (nI_1 _) (ltb rfl) rfl (fun ls hl => ?_)
                  refine lv_goto (tgt := 30) hx hb (oc_167 85 (aq_12 shX11_whence_73) sgw_255_201) rfl ?_
                  exact ih30 (i30 + 1) (x30_4 + 0) (by (first | omega | (have zz0 := Hid.u hb_cn; omega))) (by (first | omega | (have zz0 := Hid.u hb_cn; omega))) ls (lv_sub hl [0, 1, 3, 4, 5, 6] rfl)
                ·
                  have tc_12 : (v1.toInt : Int) < (x30_4 + 0).toInt := Int32.lt_iff_toInt_lt.mp (Int32.not_le.mp c_12)
                  refine lv_iload hx hb (oc_21 79 (aq_6 shX11_whence_73) ub_5) (lvA2 hl) ?_
                  exact W.iret (v := (nI i30)) hx hb hr (fun t ht hW => ⟨(nI i30), rfl, trivial, ht⟩) (fun _ h => absurd h List.not_mem_nil) (oc_172 81 (aq_8 shX11_whence_73))
        exact lp_30 _ 0 0 (Nat.lt_succ_self _) (by (first | omega | (have zz0 := Hid.u hb_cn; omega))) ls (lv_sub hl [0, 1, 2, 3, 4, 5] rfl)
      ·
        have tc_4 : (((Fn 146) mr_1).toInt : Int) ≤ v1.toInt := Int32.le_iff_toInt_le.mp (Int32.not_lt.mp c_4)
        refine lv_iconst (v := (-1)) hx hb (oc_2 22 (aq_22 shX11_whence_0)) kic_m1 ?_
        exact W.iret (v := (-1)) hx hb hr (fun t ht hW => ⟨(-1), rfl, trivial, ht⟩) (fun _ h => absurd h List.not_mem_nil) (oc_172 23 (aq_23 shX11_whence_0))
  ·
    refine lv_astore_nN (lv' := [(3, .null), (0, .ref (g 0)), (1, .int v0), (2, .int v1)]) hx hb (oc_78 5 (aq_5 shX11_whence_0)) rfl hl (ltb rfl) rfl (fun ls hl => ?_)
    refine lv_aload_nN hx hb (oc_45 6 (aq_6 shX11_whence_0)) rfl (lvA0 hl) ?_
    refine lv_ifnullN (tgt := 22) hx hb (oc_198 7 (aq_7 shX11_whence_0) sgw_0_15) rfl ?_
    refine lv_iconst (v := (-1)) hx hb (oc_2 22 (aq_22 shX11_whence_0)) kic_m1 ?_
    exact W.iret (v := (-1)) hx hb hr (fun t ht hW => ⟨(-1), rfl, trivial, ht⟩) (fun _ h => absurd h List.not_mem_nil) (oc_172 23 (aq_23 shX11_whence_0))
set_option maxRecDepth 100000 in
set_option maxHeartbeats 4000000 in
theorem q_Xaudit (l : Launch) (D : va_G) (cI cB cZ : ClassId) (zz qq vv : Nat) (bt : Nat → Int32) (g : Nat → Nat) (ad : Nat → Nat → Nat) (cn : Nat → Nat) (In : Nat → Int32) (Fn : Nat → Nat → Int32) (v0 v1 : Int32) (hB : CBX cn) : Met l yX11_audit (CWS yX11_audit cX11_audit 11 (some .int)) (RM 4 0 0) (PBrx [.ref (g 0), .int v0, .int v1] D cI cB cZ zz qq vv bt (wX cI (D.1 99) zz g ad cn In Fn)) (vp_Si (fun _ => True)) 0 0 (fun _ => False) := by
  refine en_rx rfl pn_RX11 (Nat.le_of_ble_eq_true rfl) (fun p e s m below meth c hx hb hml hown S hr hlocks hnm hP hK hXS hS ls hl => ?_)
  have hl : lv_has ls 11 [(0, .ref (g 0)), (1, .int v0), (2, .int v1)] := hl
  have hb_cn : Hid (CBX cn) := hB
  replace hB : CBXh cn := hB
  refine lv_aload_n hx hb (oc_42 0 shX11_audit_0) rfl (lvA0 hl) ?_
  refine lv_iload_n hx hb (oc_27 1 (aq_1 shX11_audit_0)) rfl (lvA1 hl) ?_
  refine va_csq (runV_rxa (As := [.int v0]) (rest := []) S (q_XproofAt l D cI cB cZ zz qq vv bt g ad cn In Fn v0 hB) kV_RX11_422 hK hXS hS hP 0 xo_0 rfl rfl ⟨Nat.le_of_ble_eq_true rfl, Nat.le_of_ble_eq_true rfl⟩ ⟨Nat.le_of_ble_eq_true rfl, Nat.le_of_ble_eq_true rfl⟩ rfl hl.1 rfl (Nat.le_of_ble_eq_true rfl) (oc_182 2 (aq_2 shX11_audit_0) uw_1_166)) (fun r_1 h_2 => ?_)
  rcases h_2 with ⟨mr_1, er_1, hr_1, rfl⟩ | ⟨hr_1, rfl⟩
  ·
    refine lv_astore_n (lv' := [(3, .ref (ad 13 mr_1)), (0, .ref (g 0)), (1, .int v0), (2, .int v1)]) hx hb (oc_78 5 (aq_5 shX11_audit_0)) rfl hl (ltb rfl) rfl (fun ls hl => ?_)
    refine lv_aload_n hx hb (oc_45 6 (aq_6 shX11_audit_0)) rfl (lvA0 hl) ?_
    refine lv_ifnonnull (tgt := 14) hx hb (oc_199 7 (aq_7 shX11_audit_0) sgw_0_7) rfl ?_
    refine lv_aload_n hx hb (oc_42 14 (aq_14 shX11_audit_0)) rfl (lvA1 hl) ?_
    refine lv_aload_n hx hb (oc_45 15 (aq_15 shX11_audit_0)) rfl (lvA0 hl) ?_
    have kf_1 : mr_1 < cn 13 := by (first | omega | (have zz0 := Hid.u hb_cn; omega))
    refine gf_RX11_402 S hK hP _ (xf_3 kf_1) (v := .int ((Fn 160) mr_1)) rfl (oc_180 16 (aq_16 shX11_audit_0) uw_1_146) ?_
    refine va_csq (runV_rxa (As := [.int ((Fn 160) mr_1)]) (rest := []) S (q_XbatchAt l D cI cB cZ zz qq vv bt g ad cn In Fn ((Fn 160) mr_1) hB) kV_RX11_382 hK hXS hS hP 0 xo_0 rfl rfl ⟨Nat.le_of_ble_eq_true rfl, Nat.le_of_ble_eq_true rfl⟩ ⟨Nat.le_of_ble_eq_true rfl, Nat.le_of_ble_eq_true rfl⟩ rfl hl.1 rfl (Nat.le_of_ble_eq_true rfl) (oc_182 19 (aq_19 shX11_audit_0) uw_1_126)) (fun r_3 h_4 => ?_)
    rcases h_4 with ⟨mr_3, er_3, hr_3, rfl⟩ | ⟨hr_3, rfl⟩
    ·
      refine lv_astore (lv' := [(4, .ref (ad 12 mr_3)), (3, .ref (ad 13 mr_1)), (0, .ref (g 0)), (1, .int v0), (2, .int v1)]) hx hb (oc_58 22 (aq_22 shX11_audit_0) ub_4) hl (ltb rfl) rfl (fun ls hl => ?_)
      refine lv_aload_n hx hb (oc_45 24 shX11_audit_24) rfl (lvA1 hl) ?_
      refine lv_ifnull hx hb (oc_198 25 (aq_1 shX11_audit_24) sgw_0_16) ?_
      refine lv_aload hx hb (oc_25 28 (aq_4 shX11_audit_24) ub_4) (lvA0 hl) ?_
      refine lv_ifnull hx hb (oc_198 30 (aq_6 shX11_audit_24) sgw_0_11) ?_
      refine lv_aload_n hx hb (oc_42 33 (aq_9 shX11_audit_24)) rfl (lvA2 hl) ?_
      refine lv_iload_n hx hb (oc_28 34 (aq_10 shX11_audit_24)) rfl (lvA4 hl) ?_
      refine va_csq (runV_rxa (As := [.int v1]) (rest := []) S (q_XkitchenAt l D cI cB cZ zz qq vv bt g ad cn In Fn v1 hB) kV_RX11_114 hK hXS hS hP 0 xo_0 rfl rfl ⟨Nat.le_of_ble_eq_true rfl, Nat.le_of_ble_eq_true rfl⟩ ⟨Nat.le_of_ble_eq_true rfl, Nat.le_of_ble_eq_true rfl⟩ rfl hl.1 rfl (Nat.le_of_ble_eq_true rfl) (oc_182 35 (aq_11 shX11_audit_24) uw_0_114)) (fun r_5 h_6 => ?_)
      rcases h_6 with ⟨mr_5, er_5, hr_5, rfl⟩ | ⟨hr_5, rfl⟩
      ·
        refine lv_ifnonnull (tgt := 43) hx hb (oc_199 38 (aq_14 shX11_audit_24) sgw_0_5) rfl ?_
        refine lv_iconst (v := 0) hx hb (oc_3 43 (aq_19 shX11_audit_24)) kic_0 ?_
        refine lv_istore (lv' := [(5, .int 0), (4, .ref (ad 12 mr_3)), (3, .ref (ad 13 mr_1)), (0, .ref (g 0)), (1, .int v0), (2, .int v1)]) hx hb (oc_54 44 (aq_20 shX11_audit_24) ub_5) hl (ltb rfl) rfl (fun ls hl => ?_)
        refine lv_iconst (v := 0) hx hb (oc_3 46 (aq_22 shX11_audit_24)) kic_0 ?_
        refine lv_istore (lv' := [(6, .int 0), (5, .int 0), (4, .ref (ad 12 mr_3)), (3, .ref (ad 13 mr_1)), (0, .ref (g 0)), (1, .int v0), (2, .int v1)]) hx hb (oc_54 47 (aq_23 shX11_audit_24) ub_6) hl (ltb rfl) rfl (fun ls hl => ?_)
        refine lv_iconst (v := 0) hx hb (oc_3 49 shX11_audit_49) kic_0 ?_
        refine lv_istore (lv' := [(7, .int 0), (6, .int 0), (5, .int 0), (4, .ref (ad 12 mr_3)), (3, .ref (ad 13 mr_1)), (0, .ref (g 0)), (1, .int v0), (2, .int v1)]) hx hb (oc_54 50 (aq_1 shX11_audit_49) ub_7) hl (ltb rfl) rfl (fun ls hl => ?_)
        have lp_52 : ∀ (n : Nat) (i52 : Nat) (x52_5 : Int32) (x52_6 : Int32) , 20 - i52 < n → (i52 ≤ 20) → ∀ ls : Array Slot, lv_has ls 11 [(7, .int (nI i52)), (6, .int x52_6), (5, .int x52_5), (4, .ref (ad 12 mr_3)), (3, .ref (ad 13 mr_1)), (0, .ref (g 0)), (1, .int v0), (2, .int v1)] → W p l e (RM 4 0 0) s m ([.ref (g 0), .int v0, .int v1]).toArray below meth c s.heap [] 0 0 (MQ below (vp_Si (fun _ => True)) ([.ref (g 0), .int v0, .int v1]).toArray s 0 0 (fun _ => False)) (F0 m 52 ls []) := by
          intro n52
          induction n52 with
          | zero => intros; (first | omega | (have zz0 := Hid.u hb_cn; omega))
          | succ n52 ih52 =>
            intro i52 x52_5 x52_6 hmu52 hinv52 ls hl
            have hr52 := hinv52
            have ti52 : (nI i52).toInt = (i52 : Int) := nI_toInt (by (first | omega | (have zz0 := Hid.u hb_cn; omega)))
            refine lv_iload hx hb (oc_21 52 (aq_3 shX11_audit_49) ub_7) (lvA0 hl) ?_
            refine lv_bipush (v := 20) hx hb (oc_16 54 (aq_5 shX11_audit_49) sgb_20) kbc_20 ?_
            refine lv_icmp_ge (tgt := 150) hx hb (oc_162 56 (aq_7 shX11_audit_49) sgw_0_94) rfl (fun c_7 => ?_) (fun c_7 => ?_)
            ·
              have tc_7 : (20 : Int) ≤ (nI i52).toInt := Int32.le_iff_toInt_le.mp c_7
              refine lv_iload hx hb (oc_21 150 (aq_3 shX11_audit_147) ub_5) (lvA2 hl) ?_
              exact W.iret (v := x52_5) hx hb hr (fun t ht hW => ⟨x52_5, rfl, trivial, ht⟩) (fun _ h => absurd h List.not_mem_nil) (oc_172 152 (aq_5 shX11_audit_147))
            ·
              have tc_7 : ((nI i52).toInt : Int) < 20 := Int32.lt_iff_toInt_lt.mp (Int32.not_le.mp c_7)
              refine lv_aload_n hx hb (oc_42 59 (aq_10 shX11_audit_49)) rfl (lvA5 hl) ?_
              refine lv_iload hx hb (oc_21 60 (aq_11 shX11_audit_49) ub_7) (lvA0 hl) ?_
              refine va_csq (runV_rxa (As := [.int (nI i52)]) (rest := []) S (q_XloadAt l D cI cB cZ zz qq vv bt g ad cn In Fn (nI i52) hB) kV_RX11_148 hK hXS hS hP 0 xo_0 rfl rfl ⟨Nat.le_of_ble_eq_true rfl, Nat.le_of_ble_eq_true rfl⟩ ⟨Nat.le_of_ble_eq_true rfl, Nat.le_of_ble_eq_true rfl⟩ rfl hl.1 rfl (Nat.le_of_ble_eq_true rfl) (oc_182 62 (aq_13 shX11_audit_49) uw_0_148)) (fun r_8 h_9 => ?_)
              rcases h_9 with ⟨mr_8, er_8, hr_8, rfl⟩ | ⟨hr_8, rfl⟩
              ·
                refine lv_astore (lv' := [(8, .ref (ad 11 mr_8)), (7, .int (nI i52)), (6, .int x52_6), (5, .int x52_5), (4, .ref (ad 12 mr_3)), (3, .ref (ad 13 mr_1)), (0, .ref (g 0)), (1, .int v0), (2, .int v1)]) hx hb (oc_58 65 (aq_16 shX11_audit_49) ub_8) hl (ltb rfl) rfl (fun ls hl => ?_)
                refine lv_aload hx hb (oc_25 67 (aq_18 shX11_audit_49) ub_8) (lvA0 hl) ?_
                refine lv_ifnull hx hb (oc_198 69 (aq_20 shX11_audit_49) sgw_0_75) ?_
                refine lv_aload hx hb (oc_25 72 (aq_23 shX11_audit_49) ub_4) (lvA4 hl) ?_
                refine lv_iload hx hb (oc_21 74 shX11_audit_74 ub_7) (lvA1 hl) ?_
                have kf_2 : mr_3 < cn 12 := by (first | omega | (have zz0 := Hid.u hb_cn; omega))
                refine vp_callSi (runV_rxa (As := [.int (nI i52)]) (rest := []) S (q_Xhas l D cI cB cZ zz qq vv bt g ad cn In Fn mr_3 (nI i52) hB (by (first | omega | (have zz0 := Hid.u hb_cn; omega)))) kV_RX11_378 hK hXS hS hP _ (xf_2 kf_2) rfl rfl ⟨Nat.le_of_ble_eq_true rfl, Nat.le_of_ble_eq_true rfl⟩ ⟨Nat.le_of_ble_eq_true rfl, Nat.le_of_ble_eq_true rfl⟩ rfl hl.1 rfl (Nat.le_of_ble_eq_true rfl) (oc_182 76 (aq_2 shX11_audit_74) uw_1_122)) (fun r_10 h_11 => ?_)
                rcases h_11 with rfl | rfl
                ·
                  refine lv_if_ne (tgt := 85) hx hb (oc_154 79 (aq_5 shX11_audit_74) sgw_0_6) rfl (fun h => absurd h cq_eq_0_0) (fun _ => ?_)
                  refine lv_goto (tgt := 144) hx hb (oc_167 82 (aq_8 shX11_audit_74) sgw_0_62) rfl ?_
                  refine lv_iinc (v := (nI (i52 + 1))) (lv' := [(7, .int (nI (i52 + 1))), (8, .ref (ad 11 mr_8)), (6, .int x52_6), (5, .int x52_5), (4, .ref (ad 12 mr_3)), (3, .ref (ad 13 mr_1)), (0, .ref (g 0)), (1, .int v0), (2, .int v1)]) hx hb dX11_audit_144 hl (k := 1) rfl (nI_1 _) (ltb rfl) rfl (fun ls hl => ?_)
                  refine lv_goto (tgt := 52) hx hb dX11_audit_147 rfl ?_
                  exact ih52 (i52 + 1) x52_5 x52_6 (by (first | omega | (have zz0 := Hid.u hb_cn; omega))) (by (first | omega | (have zz0 := Hid.u hb_cn; omega))) ls (lv_sub hl [0, 2, 3, 4, 5, 6, 7, 8] rfl)
                ·
                  refine lv_if_ne (tgt := 85) hx hb (oc_154 79 (aq_5 shX11_audit_74) sgw_0_6) rfl (fun _ => ?_) (fun h => absurd h cq_eq_1_0)
                  refine lv_iload hx hb (oc_21 85 (aq_11 shX11_audit_74) ub_6) (lvA2 hl) ?_
                  refine lv_aload hx hb (oc_25 87 (aq_13 shX11_audit_74) ub_8) (lvA0 hl) ?_
                  have kf_3 : mr_8 < cn 11 := by (first | omega | (have zz0 := Hid.u hb_cn; omega))
                  refine gf_RX11_202 S hK hP _ (xf_1 kf_3) (v := .int ((Fn 122) mr_8)) rfl (oc_180 89 (aq_15 shX11_audit_74) uw_0_202) ?_
                  refine lv_iadd hx hb (oc_96 92 (aq_18 shX11_audit_74)) ?_
                  refine lv_istore (lv' := [(9, .int (x52_6 + ((Fn 122) mr_8))), (8, .ref (ad 11 mr_8)), (7, .int (nI i52)), (6, .int x52_6), (5, .int x52_5), (4, .ref (ad 12 mr_3)), (3, .ref (ad 13 mr_1)), (0, .ref (g 0)), (1, .int v0), (2, .int v1)]) hx hb (oc_54 93 (aq_19 shX11_audit_74) ub_9) hl (ltb rfl) rfl (fun ls hl => ?_)
                  refine lv_iload hx hb (oc_21 95 (aq_21 shX11_audit_74) ub_9) (lvA0 hl) ?_
                  refine lv_aload_n hx hb (oc_45 97 (aq_23 shX11_audit_74)) rfl (lvA6 hl) ?_
                  refine gf_RX11_408 S hK hP _ (xf_3 kf_1) (v := .int ((Fn 162) mr_1)) rfl (oc_180 98 shX11_audit_98 uw_1_152) ?_
                  refine va_mmin hx hb (by rw [hml]; exact hl.1.symm) hown (S.2.2.2.2 _ (wk4_3 7 rfl rfl)) (S.2.2.2.2 _ (wk2_13 10 rfl rfl)) (S.2.2.2.2 _ (wk1_0 3 rfl rfl)) (S.2.2.2.2 _ (wk2_13 11 rfl rfl)) (Nat.le_of_ble_eq_true rfl) (Nat.le_of_ble_eq_true rfl) (Nat.le_of_ble_eq_true rfl) (Nat.le_of_ble_eq_true rfl) (oc_184 101 (aq_3 shX11_audit_98) uw_0_227) ?_
                  refine lv_iload hx hb (oc_21 104 (aq_6 shX11_audit_98) ub_6) (lvA3 hl) ?_
                  refine lv_aload_n hx hb (oc_45 106 (aq_8 shX11_audit_98)) rfl (lvA6 hl) ?_
                  refine gf_RX11_405 S hK hP _ (xf_3 kf_1) (v := .int ((Fn 161) mr_1)) rfl (oc_180 107 (aq_9 shX11_audit_98) uw_1_149) ?_
                  refine va_mmax hx hb (by rw [hml]; exact hl.1.symm) hown (S.2.2.2.2 _ (wk4_3 8 rfl rfl)) (S.2.2.2.2 _ (wk1_3 6 rfl rfl)) (S.2.2.2.2 _ (wk1_0 3 rfl rfl)) (S.2.2.2.2 _ (wk1_3 7 rfl rfl)) (Nat.le_of_ble_eq_true rfl) (Nat.le_of_ble_eq_true rfl) (Nat.le_of_ble_eq_true rfl) (Nat.le_of_ble_eq_true rfl) (oc_184 110 (aq_12 shX11_audit_98) uw_0_232) ?_
                  refine lv_isub hx hb (oc_100 113 (aq_15 shX11_audit_98)) ?_
                  refine lv_istore (lv' := [(10, .int ((if ((Fn 162) mr_1) < (x52_6 + ((Fn 122) mr_8)) then ((Fn 162) mr_1) else (x52_6 + ((Fn 122) mr_8))) - (if x52_6 < ((Fn 161) mr_1) then ((Fn 161) mr_1) else x52_6))), (9, .int (x52_6 + ((Fn 122) mr_8))), (8, .ref (ad 11 mr_8)), (7, .int (nI i52)), (6, .int x52_6), (5, .int x52_5), (4, .ref (ad 12 mr_3)), (3, .ref (ad 13 mr_1)), (0, .ref (g 0)), (1, .int v0), (2, .int v1)]) hx hb (oc_54 114 (aq_16 shX11_audit_98) ub_10) hl (ltb rfl) rfl (fun ls hl => ?_)
                  refine lv_iload hx hb (oc_21 116 (aq_18 shX11_audit_98) ub_5) (lvA5 hl) ?_
                  refine lv_aload hx hb (oc_25 118 (aq_20 shX11_audit_98) ub_8) (lvA2 hl) ?_
                  refine gf_RX11_211 S hK hP _ (xf_1 kf_3) (v := .int ((Fn 120) mr_8)) rfl (oc_180 120 (aq_22 shX11_audit_98) uw_0_211) ?_
                  refine lv_iload_n hx hb (oc_28 123 shX11_audit_123) rfl (lvA10 hl) ?_
                  refine lv_icmp_ne (tgt := 136) hx hb (oc_160 124 (aq_1 shX11_audit_123) sgw_0_12) rfl (fun c_12 => ?_) (fun c_12 => ?_)
                  ·
                    have tc_12 : (((Fn 120) mr_8).toInt : Int) ≠ v1.toInt := fun q => c_12 (Int32.toInt_inj.mp q)
                    refine lv_iconst (v := 0) hx hb (oc_3 136 (aq_13 shX11_audit_123)) kic_0 ?_
                    refine lv_iadd hx hb (oc_96 137 (aq_14 shX11_audit_123)) ?_
                    refine lv_istore (lv' := [(5, .int (x52_5 + 0)), (10, .int ((if ((Fn 162) mr_1) < (x52_6 + ((Fn 122) mr_8)) then ((Fn 162) mr_1) else (x52_6 + ((Fn 122) mr_8))) - (if x52_6 < ((Fn 161) mr_1) then ((Fn 161) mr_1) else x52_6))), (9, .int (x52_6 + ((Fn 122) mr_8))), (8, .ref (ad 11 mr_8)), (7, .int (nI i52)), (6, .int x52_6), (4, .ref (ad 12 mr_3)), (3, .ref (ad 13 mr_1)), (0, .ref (g 0)), (1, .int v0), (2, .int v1)]) hx hb (oc_54 138 (aq_15 shX11_audit_123) ub_5) hl (ltb rfl) rfl (fun ls hl => ?_)
                    refine lv_iload hx hb (oc_21 140 (aq_17 shX11_audit_123) ub_9) (lvA2 hl) ?_
                    refine lv_istore (lv' := [(6, .int (x52_6 + ((Fn 122) mr_8))), (5, .int (x52_5 + 0)), (10, .int ((if ((Fn 162) mr_1) < (x52_6 + ((Fn 122) mr_8)) then ((Fn 162) mr_1) else (x52_6 + ((Fn 122) mr_8))) - (if x52_6 < ((Fn 161) mr_1) then ((Fn 161) mr_1) else x52_6))), (9, .int (x52_6 + ((Fn 122) mr_8))), (8, .ref (ad 11 mr_8)), (7, .int (nI i52)), (4, .ref (ad 12 mr_3)), (3, .ref (ad 13 mr_1)), (0, .ref (g 0)), (1, .int v0), (2, .int v1)]) hx hb (oc_54 142 (aq_19 shX11_audit_123) ub_6) hl (ltb rfl) rfl (fun ls hl => ?_)
                    refine lv_iinc (v := (nI (i52 + 1))) (lv' := [(7, .int (nI (i52 + 1))), (6, .int (x52_6 + ((Fn 122) mr_8))), (5, .int (x52_5 + 0)), (10, .int ((if ((Fn 162) mr_1) < (x52_6 + ((Fn 122) mr_8)) then ((Fn 162) mr_1) else (x52_6 + ((Fn 122) mr_8))) - (if x52_6 < ((Fn 161) mr_1) then ((Fn 161) mr_1) else x52_6))), (9, .int (x52_6 + ((Fn 122) mr_8))), (8, .ref (ad 11 mr_8)), (4, .ref (ad 12 mr_3)), (3, .ref (ad 13 mr_1)), (0, .ref (g 0)), (1, .int v0), (2, .int v1)]) hx hb dX11_audit_144 hl (k := 5) rfl (nI_1 _) (ltb rfl) rfl (fun ls hl => ?_)
                    refine lv_goto (tgt := 52) hx hb dX11_audit_147 rfl ?_
                    exact ih52 (i52 + 1) (x52_5 + 0) (x52_6 + ((Fn 122) mr_8)) (by (first | omega | (have zz0 := Hid.u hb_cn; omega))) (by (first | omega | (have zz0 := Hid.u hb_cn; omega))) ls (lv_sub hl [0, 1, 2, 6, 7, 8, 9, 10] rfl)
                  ·
                    have tc_12 : (((Fn 120) mr_8).toInt : Int) = v1.toInt := congrArg Int32.toInt c_12
                    refine lv_iconst (v := 0) hx hb (oc_3 127 (aq_4 shX11_audit_123)) kic_0 ?_
                    refine lv_iload hx hb (oc_21 128 (aq_5 shX11_audit_123) ub_10) (lvA0 hl) ?_
                    refine va_mmax hx hb (by rw [hml]; exact hl.1.symm) hown (S.2.2.2.2 _ (wk4_3 8 rfl rfl)) (S.2.2.2.2 _ (wk1_3 6 rfl rfl)) (S.2.2.2.2 _ (wk1_0 3 rfl rfl)) (S.2.2.2.2 _ (wk1_3 7 rfl rfl)) (Nat.le_of_ble_eq_true rfl) (Nat.le_of_ble_eq_true rfl) (Nat.le_of_ble_eq_true rfl) (Nat.le_of_ble_eq_true rfl) (oc_184 130 (aq_7 shX11_audit_123) uw_0_232) ?_
                    refine lv_goto (tgt := 137) hx hb (oc_167 133 (aq_10 shX11_audit_123) sgw_0_4) rfl ?_
                    refine lv_iadd hx hb (oc_96 137 (aq_14 shX11_audit_123)) ?_
                    refine lv_istore (lv' := [(5, .int (x52_5 + (if 0 < ((if ((Fn 162) mr_1) < (x52_6 + ((Fn 122) mr_8)) then ((Fn 162) mr_1) else (x52_6 + ((Fn 122) mr_8))) - (if x52_6 < ((Fn 161) mr_1) then ((Fn 161) mr_1) else x52_6)) then ((if ((Fn 162) mr_1) < (x52_6 + ((Fn 122) mr_8)) then ((Fn 162) mr_1) else (x52_6 + ((Fn 122) mr_8))) - (if x52_6 < ((Fn 161) mr_1) then ((Fn 161) mr_1) else x52_6)) else 0))), (10, .int ((if ((Fn 162) mr_1) < (x52_6 + ((Fn 122) mr_8)) then ((Fn 162) mr_1) else (x52_6 + ((Fn 122) mr_8))) - (if x52_6 < ((Fn 161) mr_1) then ((Fn 161) mr_1) else x52_6))), (9, .int (x52_6 + ((Fn 122) mr_8))), (8, .ref (ad 11 mr_8)), (7, .int (nI i52)), (6, .int x52_6), (4, .ref (ad 12 mr_3)), (3, .ref (ad 13 mr_1)), (0, .ref (g 0)), (1, .int v0), (2, .int v1)]) hx hb (oc_54 138 (aq_15 shX11_audit_123) ub_5) hl (ltb rfl) rfl (fun ls hl => ?_)
                    refine lv_iload hx hb (oc_21 140 (aq_17 shX11_audit_123) ub_9) (lvA2 hl) ?_
                    refine lv_istore (lv' := [(6, .int (x52_6 + ((Fn 122) mr_8))), (5, .int (x52_5 + (if 0 < ((if ((Fn 162) mr_1) < (x52_6 + ((Fn 122) mr_8)) then ((Fn 162) mr_1) else (x52_6 + ((Fn 122) mr_8))) - (if x52_6 < ((Fn 161) mr_1) then ((Fn 161) mr_1) else x52_6)) then ((if ((Fn 162) mr_1) < (x52_6 + ((Fn 122) mr_8)) then ((Fn 162) mr_1) else (x52_6 + ((Fn 122) mr_8))) - (if x52_6 < ((Fn 161) mr_1) then ((Fn 161) mr_1) else x52_6)) else 0))), (10, .int ((if ((Fn 162) mr_1) < (x52_6 + ((Fn 122) mr_8)) then ((Fn 162) mr_1) else (x52_6 + ((Fn 122) mr_8))) - (if x52_6 < ((Fn 161) mr_1) then ((Fn 161) mr_1) else x52_6))), (9, .int (x52_6 + ((Fn 122) mr_8))), (8, .ref (ad 11 mr_8)), (7, .int (nI i52)), (4, .ref (ad 12 mr_3)), (3, .ref (ad 13 mr_1)), (0, .ref (g 0)), (1, .int v0), (2, .int v1)]) hx hb (oc_54 142 (aq_19 shX11_audit_123) ub_6) hl (ltb rfl) rfl (fun ls hl => ?_)
                    refine lv_iinc (v := (nI (i52 + 1))) (lv' := [(7, .int (nI (i52 + 1))), (6, .int (x52_6 + ((Fn 122) mr_8))), (5, .int (x52_5 + (if 0 < ((if ((Fn 162) mr_1) < (x52_6 + ((Fn 122) mr_8)) then ((Fn 162) mr_1) else (x52_6 + ((Fn 122) mr_8))) - (if x52_6 < ((Fn 161) mr_1) then ((Fn 161) mr_1) else x52_6)) then ((if ((Fn 162) mr_1) < (x52_6 + ((Fn 122) mr_8)) then ((Fn 162) mr_1) else (x52_6 + ((Fn 122) mr_8))) - (if x52_6 < ((Fn 161) mr_1) then ((Fn 161) mr_1) else x52_6)) else 0))), (10, .int ((if ((Fn 162) mr_1) < (x52_6 + ((Fn 122) mr_8)) then ((Fn 162) mr_1) else (x52_6 + ((Fn 122) mr_8))) - (if x52_6 < ((Fn 161) mr_1) then ((Fn 161) mr_1) else x52_6))), (9, .int (x52_6 + ((Fn 122) mr_8))), (8, .ref (ad 11 mr_8)), (4, .ref (ad 12 mr_3)), (3, .ref (ad 13 mr_1)), (0, .ref (g 0)), (1, .int v0), (2, .int v1)]) hx hb dX11_audit_144 hl (k := 5) rfl (nI_1 _) (ltb rfl) rfl (fun ls hl => ?_)
                    refine lv_goto (tgt := 52) hx hb dX11_audit_147 rfl ?_
                    exact ih52 (i52 + 1) (x52_5 + (if 0 < ((if ((Fn 162) mr_1) < (x52_6 + ((Fn 122) mr_8)) then ((Fn 162) mr_1) else (x52_6 + ((Fn 122) mr_8))) - (if x52_6 < ((Fn 161) mr_1) then ((Fn 161) mr_1) else x52_6)) then ((if ((Fn 162) mr_1) < (x52_6 + ((Fn 122) mr_8)) then ((Fn 162) mr_1) else (x52_6 + ((Fn 122) mr_8))) - (if x52_6 < ((Fn 161) mr_1) then ((Fn 161) mr_1) else x52_6)) else 0)) (x52_6 + ((Fn 122) mr_8)) (by (first | omega | (have zz0 := Hid.u hb_cn; omega))) (by (first | omega | (have zz0 := Hid.u hb_cn; omega))) ls (lv_sub hl [0, 1, 2, 6, 7, 8, 9, 10] rfl)
              ·
                refine lv_astoreN (lv' := [(8, .null), (7, .int (nI i52)), (6, .int x52_6), (5, .int x52_5), (4, .ref (ad 12 mr_3)), (3, .ref (ad 13 mr_1)), (0, .ref (g 0)), (1, .int v0), (2, .int v1)]) hx hb (oc_58 65 (aq_16 shX11_audit_49) ub_8) hl (ltb rfl) rfl (fun ls hl => ?_)
                refine lv_aloadN hx hb (oc_25 67 (aq_18 shX11_audit_49) ub_8) (lvA0 hl) ?_
                refine lv_ifnullN (tgt := 144) hx hb (oc_198 69 (aq_20 shX11_audit_49) sgw_0_75) rfl ?_
                refine lv_iinc (v := (nI (i52 + 1))) (lv' := [(7, .int (nI (i52 + 1))), (8, .null), (6, .int x52_6), (5, .int x52_5), (4, .ref (ad 12 mr_3)), (3, .ref (ad 13 mr_1)), (0, .ref (g 0)), (1, .int v0), (2, .int v1)]) hx hb dX11_audit_144 hl (k := 1) rfl (nI_1 _) (ltb rfl) rfl (fun ls hl => ?_)
                refine lv_goto (tgt := 52) hx hb dX11_audit_147 rfl ?_
                exact ih52 (i52 + 1) x52_5 x52_6 (by (first | omega | (have zz0 := Hid.u hb_cn; omega))) (by (first | omega | (have zz0 := Hid.u hb_cn; omega))) ls (lv_sub hl [0, 2, 3, 4, 5, 6, 7, 8] rfl)
        exact lp_52 _ 0 0 0 (Nat.lt_succ_self _) (by (first | omega | (have zz0 := Hid.u hb_cn; omega))) ls (lv_sub hl [0, 1, 2, 3, 4, 5, 6, 7] rfl)
      ·
        refine lv_ifnonnullN hx hb (oc_199 38 (aq_14 shX11_audit_24) sgw_0_5) ?_
        refine lv_iconst (v := (-1)) hx hb (oc_2 41 (aq_17 shX11_audit_24)) kic_m1 ?_
        exact W.iret (v := (-1)) hx hb hr (fun t ht hW => ⟨(-1), rfl, trivial, ht⟩) (fun _ h => absurd h List.not_mem_nil) (oc_172 42 (aq_18 shX11_audit_24))
    ·
      refine lv_astoreN (lv' := [(4, .null), (3, .ref (ad 13 mr_1)), (0, .ref (g 0)), (1, .int v0), (2, .int v1)]) hx hb (oc_58 22 (aq_22 shX11_audit_0) ub_4) hl (ltb rfl) rfl (fun ls hl => ?_)
      refine lv_aload_n hx hb (oc_45 24 shX11_audit_24) rfl (lvA1 hl) ?_
      refine lv_ifnull hx hb (oc_198 25 (aq_1 shX11_audit_24) sgw_0_16) ?_
      refine lv_aloadN hx hb (oc_25 28 (aq_4 shX11_audit_24) ub_4) (lvA0 hl) ?_
      refine lv_ifnullN (tgt := 41) hx hb (oc_198 30 (aq_6 shX11_audit_24) sgw_0_11) rfl ?_
      refine lv_iconst (v := (-1)) hx hb (oc_2 41 (aq_17 shX11_audit_24)) kic_m1 ?_
      exact W.iret (v := (-1)) hx hb hr (fun t ht hW => ⟨(-1), rfl, trivial, ht⟩) (fun _ h => absurd h List.not_mem_nil) (oc_172 42 (aq_18 shX11_audit_24))
  ·
    refine lv_astore_nN (lv' := [(3, .null), (0, .ref (g 0)), (1, .int v0), (2, .int v1)]) hx hb (oc_78 5 (aq_5 shX11_audit_0)) rfl hl (ltb rfl) rfl (fun ls hl => ?_)
    refine lv_aload_nN hx hb (oc_45 6 (aq_6 shX11_audit_0)) rfl (lvA0 hl) ?_
    refine lv_ifnonnullN hx hb (oc_199 7 (aq_7 shX11_audit_0) sgw_0_7) ?_
    refine lv_null hx hb (oc_1 10 (aq_10 shX11_audit_0)) ?_
    refine lv_goto (tgt := 22) hx hb (oc_167 11 (aq_11 shX11_audit_0) sgw_0_11) rfl ?_
    refine lv_astoreN (lv' := [(4, .null), (3, .null), (0, .ref (g 0)), (1, .int v0), (2, .int v1)]) hx hb (oc_58 22 (aq_22 shX11_audit_0) ub_4) hl (ltb rfl) rfl (fun ls hl => ?_)
    refine lv_aload_nN hx hb (oc_45 24 shX11_audit_24) rfl (lvA1 hl) ?_
    refine lv_ifnullN (tgt := 41) hx hb (oc_198 25 (aq_1 shX11_audit_24) sgw_0_16) rfl ?_
    refine lv_iconst (v := (-1)) hx hb (oc_2 41 (aq_17 shX11_audit_24)) kic_m1 ?_
    exact W.iret (v := (-1)) hx hb hr (fun t ht hW => ⟨(-1), rfl, trivial, ht⟩) (fun _ h => absurd h List.not_mem_nil) (oc_172 42 (aq_18 shX11_audit_24))
set_option maxRecDepth 100000 in
set_option maxHeartbeats 4000000 in
theorem q_Xtax (l : Launch) (D : va_G) (cI cB cZ : ClassId) (zz qq vv : Nat) (bt : Nat → Int32) (g : Nat → Nat) (ad : Nat → Nat → Nat) (cn : Nat → Nat) (In : Nat → Int32) (Fn : Nat → Nat → Int32) (v0 : Int32) (hB : CBX cn) : Met l yX11_tax (CWS yX11_tax cX11_tax 4 (some .int)) (RM 4 0 0) (PBrx [.ref (g 0), .int v0] D cI cB cZ zz qq vv bt (wX cI (D.1 99) zz g ad cn In Fn)) (vp_Si (fun _ => True)) 0 0 (fun _ => False) := by
  refine en_rx rfl pn_RX11 (Nat.le_of_ble_eq_true rfl) (fun p e s m below meth c hx hb hml hown S hr hlocks hnm hP hK hXS hS ls hl => ?_)
  have hl : lv_has ls 4 [(0, .ref (g 0)), (1, .int v0)] := hl
  have hb_cn : Hid (CBX cn) := hB
  replace hB : CBXh cn := hB
  refine lv_aload_n hx hb (oc_42 0 shX11_tax_0) rfl (lvA0 hl) ?_
  refine lv_iload_n hx hb (oc_27 1 (aq_1 shX11_tax_0)) rfl (lvA1 hl) ?_
  refine va_csq (runV_rxa (As := [.int v0]) (rest := []) S (q_XproofAt l D cI cB cZ zz qq vv bt g ad cn In Fn v0 hB) kV_RX11_422 hK hXS hS hP 0 xo_0 rfl rfl ⟨Nat.le_of_ble_eq_true rfl, Nat.le_of_ble_eq_true rfl⟩ ⟨Nat.le_of_ble_eq_true rfl, Nat.le_of_ble_eq_true rfl⟩ rfl hl.1 rfl (Nat.le_of_ble_eq_true rfl) (oc_182 2 (aq_2 shX11_tax_0) uw_1_166)) (fun r_1 h_2 => ?_)
  rcases h_2 with ⟨mr_1, er_1, hr_1, rfl⟩ | ⟨hr_1, rfl⟩
  ·
    refine lv_astore_n (lv' := [(2, .ref (ad 13 mr_1)), (0, .ref (g 0)), (1, .int v0)]) hx hb (oc_77 5 (aq_5 shX11_tax_0)) rfl hl (ltb rfl) rfl (fun ls hl => ?_)
    refine lv_aload_n hx hb (oc_44 6 (aq_6 shX11_tax_0)) rfl (lvA0 hl) ?_
    refine lv_ifnonnull (tgt := 12) hx hb (oc_199 7 (aq_7 shX11_tax_0) sgw_0_5) rfl ?_
    refine lv_aload_n hx hb (oc_42 12 (aq_12 shX11_tax_0)) rfl (lvA1 hl) ?_
    refine gf_RX11_47 S hK hP 0 xo_0 (v := .ref (g 8)) rfl (oc_180 13 (aq_13 shX11_tax_0) uw_0_47) ?_
    refine gf_RX11_426 S hK hP 6 xo_6 (v := .ref (g 24)) rfl (oc_180 16 (aq_16 shX11_tax_0) uw_1_170) ?_
    refine lv_aload_n hx hb (oc_44 19 (aq_19 shX11_tax_0)) rfl (lvA0 hl) ?_
    have kf_1 : mr_1 < cn 13 := by (first | omega | (have zz0 := Hid.u hb_cn; omega))
    refine gf_RX11_415 S hK hP _ (xf_3 kf_1) (v := .int ((Fn 163) mr_1)) rfl (oc_180 20 (aq_20 shX11_tax_0) uw_1_159) ?_
    refine vp_callSi (runS_r (As := [.ref (g 24), .int ((Fn 163) mr_1)]) (rest := []) S (q_l_at l D cI cB cZ (g 24) 10 (Fn 24) ((Fn 163) mr_1) (by (first | omega | (have zz0 := Hid.u hb_cn; omega)))) kS_RX11_192 hK hP [11] (one_is xo_11) ⟨Nat.le_of_ble_eq_true rfl, Nat.le_of_ble_eq_true rfl⟩ ⟨Nat.le_of_ble_eq_true rfl, Nat.le_of_ble_eq_true rfl⟩ rfl hl.1 rfl (Nat.le_of_ble_eq_true rfl) (oc_184 23 (aq_23 shX11_tax_0) uw_0_192)) (fun r_3 h_4 => ?_)
    subst h_4
    refine lv_istore_n (lv' := [(3, .int (atM (Fn 24) 10 ((Fn 163) mr_1))), (2, .ref (ad 13 mr_1)), (0, .ref (g 0)), (1, .int v0)]) hx hb (oc_62 26 shX11_tax_26) rfl hl (ltb rfl) rfl (fun ls hl => ?_)
    refine lv_aload_n hx hb (oc_44 27 (aq_1 shX11_tax_26)) rfl (lvA1 hl) ?_
    refine vp_callSi (runV_rxa (As := []) (rest := []) S (q_Xplitres l D cI cB cZ zz qq vv bt g ad cn In Fn mr_1 hB (by (first | omega | (have zz0 := Hid.u hb_cn; omega)))) kV_RX11_432 hK hXS hS hP _ (xf_3 kf_1) rfl rfl ⟨Nat.le_of_ble_eq_true rfl, Nat.le_of_ble_eq_true rfl⟩ ⟨Nat.le_of_ble_eq_true rfl, Nat.le_of_ble_eq_true rfl⟩ rfl hl.1 rfl (Nat.le_of_ble_eq_true rfl) (oc_182 28 (aq_2 shX11_tax_26) uw_1_176)) (fun r_5 h_6 => ?_)
    refine lv_aload_n hx hb (oc_42 31 (aq_5 shX11_tax_26)) rfl (lvA2 hl) ?_
    refine gf_RX11_47 S hK hP 0 xo_0 (v := .ref (g 8)) rfl (oc_180 32 (aq_6 shX11_tax_26) uw_0_47) ?_
    refine gf_RX11_429 S hK hP 6 xo_6 (v := .ref (g 26)) rfl (oc_180 35 (aq_9 shX11_tax_26) uw_1_173) ?_
    refine lv_iload_n hx hb (oc_29 38 (aq_12 shX11_tax_26)) rfl (lvA0 hl) ?_
    refine lv_bipush (v := 58) hx hb (oc_16 39 (aq_13 shX11_tax_26) sgb_58) kbc_58 ?_
    refine lv_imul hx hb (oc_104 41 (aq_15 shX11_tax_26)) ?_
    refine lv_aload_n hx hb (oc_44 42 (aq_16 shX11_tax_26)) rfl (lvA1 hl) ?_
    refine gf_RX11_434 S hK hP _ (xf_3 kf_1) (v := .int ((Fn 164) mr_1)) rfl (oc_180 43 (aq_17 shX11_tax_26) uw_1_178) ?_
    refine lv_bipush (v := 7) hx hb (oc_16 46 (aq_20 shX11_tax_26) sgb_7) kbc_7 ?_
    refine lv_idiv hx hb (oc_108 48 (aq_22 shX11_tax_26)) (by decide) ?_
    refine lv_iadd hx hb (oc_96 49 (aq_23 shX11_tax_26)) ?_
    refine vp_callSi (runS_r (As := [.ref (g 26), .int (((atM (Fn 24) 10 ((Fn 163) mr_1)) * 58) + (((Fn 164) mr_1) / 7))]) (rest := [.int r_5]) S (q_l_at l D cI cB cZ (g 26) 232 (Fn 26) (((atM (Fn 24) 10 ((Fn 163) mr_1)) * 58) + (((Fn 164) mr_1) / 7)) (by (first | omega | (have zz0 := Hid.u hb_cn; omega)))) kS_RX11_192 hK hP [13] (one_is xo_13) ⟨Nat.le_of_ble_eq_true rfl, Nat.le_of_ble_eq_true rfl⟩ ⟨Nat.le_of_ble_eq_true rfl, Nat.le_of_ble_eq_true rfl⟩ rfl hl.1 rfl (Nat.le_of_ble_eq_true rfl) (oc_184 50 shX11_tax_50 uw_0_192)) (fun r_7 h_8 => ?_)
    subst h_8
    refine lv_imul hx hb (oc_104 53 (aq_3 shX11_tax_50)) ?_
    refine lv_bipush (v := 100) hx hb (oc_16 54 (aq_4 shX11_tax_50) sgb_100) kbc_100 ?_
    refine lv_idiv hx hb (oc_108 56 (aq_6 shX11_tax_50)) (by decide) ?_
    exact W.iret (v := ((r_5 * (atM (Fn 26) 232 (((atM (Fn 24) 10 ((Fn 163) mr_1)) * 58) + (((Fn 164) mr_1) / 7)))) / 100)) hx hb hr (fun t ht hW => ⟨((r_5 * (atM (Fn 26) 232 (((atM (Fn 24) 10 ((Fn 163) mr_1)) * 58) + (((Fn 164) mr_1) / 7)))) / 100), rfl, trivial, ht⟩) (fun _ h => absurd h List.not_mem_nil) (oc_172 57 (aq_7 shX11_tax_50))
  ·
    refine lv_astore_nN (lv' := [(2, .null), (0, .ref (g 0)), (1, .int v0)]) hx hb (oc_77 5 (aq_5 shX11_tax_0)) rfl hl (ltb rfl) rfl (fun ls hl => ?_)
    refine lv_aload_nN hx hb (oc_44 6 (aq_6 shX11_tax_0)) rfl (lvA0 hl) ?_
    refine lv_ifnonnullN hx hb (oc_199 7 (aq_7 shX11_tax_0) sgw_0_5) ?_
    refine lv_iconst (v := (-1)) hx hb (oc_2 10 (aq_10 shX11_tax_0)) kic_m1 ?_
    exact W.iret (v := (-1)) hx hb hr (fun t ht hW => ⟨(-1), rfl, trivial, ht⟩) (fun _ h => absurd h List.not_mem_nil) (oc_172 11 (aq_11 shX11_tax_0))
set_option maxRecDepth 100000 in
set_option maxHeartbeats 4000000 in
theorem q_XboughtIn (l : Launch) (D : va_G) (cI cB cZ : ClassId) (zz qq vv : Nat) (bt : Nat → Int32) (g : Nat → Nat) (ad : Nat → Nat → Nat) (cn : Nat → Nat) (In : Nat → Int32) (Fn : Nat → Nat → Int32) (v0 v1 : Int32) (hB : CBX cn) : Met l yX11_boughtIn (CWS yX11_boughtIn cX11_boughtIn 6 (some .int)) (RM 3 0 0) (PBrx [.ref (g 0), .int v0, .int v1] D cI cB cZ zz qq vv bt (wX cI (D.1 99) zz g ad cn In Fn)) (vp_Si (fun _ => True)) 0 0 (fun _ => False) := by
  refine en_rx rfl pn_RX11 (Nat.le_of_ble_eq_true rfl) (fun p e s m below meth c hx hb hml hown S hr hlocks hnm hP hK hXS hS ls hl => ?_)
  have hl : lv_has ls 6 [(0, .ref (g 0)), (1, .int v0), (2, .int v1)] := hl
  have hb_cn : Hid (CBX cn) := hB
  replace hB : CBXh cn := hB
  refine lv_iconst (v := 0) hx hb (oc_3 0 shX11_boughtIn_0) kic_0 ?_
  refine lv_istore_n (lv' := [(3, .int 0), (0, .ref (g 0)), (1, .int v0), (2, .int v1)]) hx hb (oc_62 1 (aq_1 shX11_boughtIn_0)) rfl hl (ltb rfl) rfl (fun ls hl => ?_)
  refine lv_iconst (v := 0) hx hb (oc_3 2 (aq_2 shX11_boughtIn_0)) kic_0 ?_
  refine lv_istore (lv' := [(4, .int 0), (3, .int 0), (0, .ref (g 0)), (1, .int v0), (2, .int v1)]) hx hb (oc_54 3 (aq_3 shX11_boughtIn_0) ub_4) hl (ltb rfl) rfl (fun ls hl => ?_)
  have lp_5 : ∀ (n : Nat) (i5 : Nat) (x5_3 : Int32) , cn 13 - i5 < n → (i5 ≤ cn 13) → ∀ ls : Array Slot, lv_has ls 6 [(4, .int (nI i5)), (3, .int x5_3), (0, .ref (g 0)), (1, .int v0), (2, .int v1)] → W p l e (RM 3 0 0) s m ([.ref (g 0), .int v0, .int v1]).toArray below meth c s.heap [] 0 0 (MQ below (vp_Si (fun _ => True)) ([.ref (g 0), .int v0, .int v1]).toArray s 0 0 (fun _ => False)) (F0 m 5 ls []) := by
    intro n5
    induction n5 with
    | zero => intros; (first | omega | (have zz0 := Hid.u hb_cn; omega))
    | succ n5 ih5 =>
      intro i5 x5_3 hmu5 hinv5 ls hl
      have hr5 := hinv5
      have ti5 : (nI i5).toInt = (i5 : Int) := nI_toInt (by (first | omega | (have zz0 := Hid.u hb_cn; omega)))
      refine lv_iload hx hb (oc_21 5 (aq_5 shX11_boughtIn_0) ub_4) (lvA0 hl) ?_
      refine lv_aload_n hx hb (oc_42 7 (aq_7 shX11_boughtIn_0)) rfl (lvA2 hl) ?_
      refine gf_RX11_71 S hK hP 0 xo_0 (v := .ref (g 13)) rfl (oc_180 8 (aq_8 shX11_boughtIn_0) uw_0_71) ?_
      refine vp_callSi (runV_r (As := []) (rest := [.int (nI i5)]) S (q_l_size l D cI cB cZ (g 13) (if (cn 13) = 0 then zz else ad 2 3) (In 13) (nI (cn 13))) kV_RX11_84 hK hP [27] (one_is xo_27) 27 xo_27 rfl rfl ⟨Nat.le_of_ble_eq_true rfl, Nat.le_of_ble_eq_true rfl⟩ ⟨Nat.le_of_ble_eq_true rfl, Nat.le_of_ble_eq_true rfl⟩ rfl hl.1 rfl (Nat.le_of_ble_eq_true rfl) (oc_182 11 (aq_11 shX11_boughtIn_0) uw_0_84)) (fun r_1 h_2 => ?_)
      subst h_2
      have : (nI (cn 13)).toInt = (((cn 13) : Nat) : Int) := nI_toInt (by (first | omega | (have zz0 := Hid.u hb_cn; omega)))
      refine lv_icmp_ge (tgt := 70) hx hb (oc_162 14 (aq_14 shX11_boughtIn_0) sgw_0_56) rfl (fun c_3 => ?_) (fun c_3 => ?_)
      ·
        have tc_3 : ((nI (cn 13)).toInt : Int) ≤ (nI i5).toInt := Int32.le_iff_toInt_le.mp c_3
        refine lv_iload_n hx hb (oc_29 70 (aq_20 shX11_boughtIn_50)) rfl (lvA1 hl) ?_
        exact W.iret (v := x5_3) hx hb hr (fun t ht hW => ⟨x5_3, rfl, trivial, ht⟩) (fun _ h => absurd h List.not_mem_nil) (oc_172 71 (aq_21 shX11_boughtIn_50))
      ·
        have tc_3 : ((nI i5).toInt : Int) < (nI (cn 13)).toInt := Int32.lt_iff_toInt_lt.mp (Int32.not_le.mp c_3)
        refine lv_aload_n hx hb (oc_42 17 (aq_17 shX11_boughtIn_0)) rfl (lvA2 hl) ?_
        refine gf_RX11_71 S hK hP 0 xo_0 (v := .ref (g 13)) rfl (oc_180 18 (aq_18 shX11_boughtIn_0) uw_0_71) ?_
        refine lv_iload hx hb (oc_21 21 (aq_21 shX11_boughtIn_0) ub_4) (lvA0 hl) ?_
        refine va_csq (runV_rx (As := [.int (nI i5)]) (rest := []) S (q_l_get l D cI cB cZ zz qq vv bt (g 13) (ad 2 3) (cn 23) (cn 13) i5 (ad 13 i5) (In 13) (fun i => if i < (cn 13) then some (ad 13 i) else none) (by (first | omega | (have zz0 := Hid.u hb_cn; omega))) (if_pos (by (first | omega | (have zz0 := Hid.u hb_cn; omega)))) (by (first | omega | (have zz0 := Hid.u hb_cn; omega))) (by (first | omega | (have zz0 := Hid.u hb_cn; omega)))) kV_RX11_87 hK hXS hS hP _ (two_is (xl_3 (by (first | omega | (have zz0 := Hid.u hb_cn; omega)))) (xf_16 (k := 0) (by (first | omega | (have zz0 := Hid.u hb_cn; omega))))) (va_recv hK.1 hP (ci := 0) rfl xo_27) ⟨Nat.le_of_ble_eq_true rfl, Nat.le_of_ble_eq_true rfl⟩ ⟨Nat.le_of_ble_eq_true rfl, Nat.le_of_ble_eq_true rfl⟩ rfl hl.1 rfl (Nat.le_of_ble_eq_true rfl) (oc_182 23 (aq_23 shX11_boughtIn_0) uw_0_87)) (fun r_4 h_5 => ?_)
        subst h_5
        have kf_1 : i5 < cn 13 := by (first | omega | (have zz0 := Hid.u hb_cn; omega))
        refine va_castS hx hb hown (S.2.2.2.2 _ (wk5_4 7 rfl rfl)) (xclass hK.1 (ci := 5) rfl) (va_recv hK.1 hP (ci := 5) rfl (xf_3 kf_1)) (oc_192 26 shX11_boughtIn_26 uw_0_97) ?_
        refine lv_astore (lv' := [(5, .ref (ad 13 i5)), (4, .int (nI i5)), (3, .int x5_3), (0, .ref (g 0)), (1, .int v0), (2, .int v1)]) hx hb (oc_58 29 (aq_3 shX11_boughtIn_26) ub_5) hl (ltb rfl) rfl (fun ls hl => ?_)
        refine lv_iload_n hx hb (oc_29 31 (aq_5 shX11_boughtIn_26)) rfl (lvA2 hl) ?_
        refine lv_aload hx hb (oc_25 32 (aq_6 shX11_boughtIn_26) ub_5) (lvA0 hl) ?_
        refine gf_RX11_415 S hK hP _ (xf_3 kf_1) (v := .int ((Fn 163) i5)) rfl (oc_180 34 (aq_8 shX11_boughtIn_26) uw_1_159) ?_
        refine lv_iload_n hx hb (oc_28 37 (aq_11 shX11_boughtIn_26)) rfl (lvA5 hl) ?_
        refine lv_icmp_ne (tgt := 61) hx hb (oc_160 38 (aq_12 shX11_boughtIn_26) sgw_0_23) rfl (fun c_6 => ?_) (fun c_6 => ?_)
        ·
          have tc_6 : (((Fn 163) i5).toInt : Int) ≠ v1.toInt := fun q => c_6 (Int32.toInt_inj.mp q)
          refine lv_iconst (v := 0) hx hb (oc_3 61 (aq_11 shX11_boughtIn_50)) kic_0 ?_
          refine lv_iadd hx hb (oc_96 62 (aq_12 shX11_boughtIn_50)) ?_
          refine lv_istore_n (lv' := [(3, .int (x5_3 + 0)), (5, .ref (ad 13 i5)), (4, .int (nI i5)), (0, .ref (g 0)), (1, .int v0), (2, .int v1)]) hx hb (oc_62 63 (aq_13 shX11_boughtIn_50)) rfl hl (ltb rfl) rfl (fun ls hl => ?_)
          refine lv_iinc (v := (nI (i5 + 1))) (lv' := [(4, .int (nI (i5 + 1))), (3, .int (x5_3 + 0)), (5, .ref (ad 13 i5)), (0, .ref (g 0)), (1, .int v0), (2, .int v1)]) hx hb (oc_132 64 (aq_14 shX11_boughtIn_50) ub_4 sgb_1) hl (k := 2) rfl (nI_1 _) (ltb rfl) rfl (fun ls hl => ?_)
          refine lv_goto (tgt := 5) hx hb (oc_167 67 (aq_17 shX11_boughtIn_50) sgw_255_194) rfl ?_
          exact ih5 (i5 + 1) (x5_3 + 0) (by (first | omega | (have zz0 := Hid.u hb_cn; omega))) (by (first | omega | (have zz0 := Hid.u hb_cn; omega))) ls (lv_sub hl [0, 1, 3, 4, 5] rfl)
        ·
          have tc_6 : (((Fn 163) i5).toInt : Int) = v1.toInt := congrArg Int32.toInt c_6
          refine lv_aload hx hb (oc_25 41 (aq_15 shX11_boughtIn_26) ub_5) (lvA0 hl) ?_
          refine gf_RX11_434 S hK hP _ (xf_3 kf_1) (v := .int ((Fn 164) i5)) rfl (oc_180 43 (aq_17 shX11_boughtIn_26) uw_1_178) ?_
          refine lv_bipush (v := 7) hx hb (oc_16 46 (aq_20 shX11_boughtIn_26) sgb_7) kbc_7 ?_
          refine lv_idiv hx hb (oc_108 48 (aq_22 shX11_boughtIn_26)) (by decide) ?_
          refine lv_iload_n hx hb (oc_27 49 (aq_23 shX11_boughtIn_26)) rfl (lvA4 hl) ?_
          refine lv_icmp_ne (tgt := 61) hx hb (oc_160 50 shX11_boughtIn_50 sgw_0_11) rfl (fun c_7 => ?_) (fun c_7 => ?_)
          ·
            have tc_7 : ((((Fn 164) i5) / 7).toInt : Int) ≠ v0.toInt := fun q => c_7 (Int32.toInt_inj.mp q)
            refine lv_iconst (v := 0) hx hb (oc_3 61 (aq_11 shX11_boughtIn_50)) kic_0 ?_
            refine lv_iadd hx hb (oc_96 62 (aq_12 shX11_boughtIn_50)) ?_
            refine lv_istore_n (lv' := [(3, .int (x5_3 + 0)), (5, .ref (ad 13 i5)), (4, .int (nI i5)), (0, .ref (g 0)), (1, .int v0), (2, .int v1)]) hx hb (oc_62 63 (aq_13 shX11_boughtIn_50)) rfl hl (ltb rfl) rfl (fun ls hl => ?_)
            refine lv_iinc (v := (nI (i5 + 1))) (lv' := [(4, .int (nI (i5 + 1))), (3, .int (x5_3 + 0)), (5, .ref (ad 13 i5)), (0, .ref (g 0)), (1, .int v0), (2, .int v1)]) hx hb (oc_132 64 (aq_14 shX11_boughtIn_50) ub_4 sgb_1) hl (k := 2) rfl (nI_1 _) (ltb rfl) rfl (fun ls hl => ?_)
            refine lv_goto (tgt := 5) hx hb (oc_167 67 (aq_17 shX11_boughtIn_50) sgw_255_194) rfl ?_
            exact ih5 (i5 + 1) (x5_3 + 0) (by (first | omega | (have zz0 := Hid.u hb_cn; omega))) (by (first | omega | (have zz0 := Hid.u hb_cn; omega))) ls (lv_sub hl [0, 1, 3, 4, 5] rfl)
          ·
            have tc_7 : ((((Fn 164) i5) / 7).toInt : Int) = v0.toInt := congrArg Int32.toInt c_7
            refine lv_aload hx hb (oc_25 53 (aq_3 shX11_boughtIn_50) ub_5) (lvA0 hl) ?_
            refine vp_callSi (runV_rxa (As := []) (rest := [.int x5_3]) S (q_Xplitres l D cI cB cZ zz qq vv bt g ad cn In Fn i5 hB (by (first | omega | (have zz0 := Hid.u hb_cn; omega)))) kV_RX11_432 hK hXS hS hP _ (xf_3 kf_1) rfl rfl ⟨Nat.le_of_ble_eq_true rfl, Nat.le_of_ble_eq_true rfl⟩ ⟨Nat.le_of_ble_eq_true rfl, Nat.le_of_ble_eq_true rfl⟩ rfl hl.1 rfl (Nat.le_of_ble_eq_true rfl) (oc_182 55 (aq_5 shX11_boughtIn_50) uw_1_176)) (fun r_8 h_9 => ?_)
            refine lv_goto (tgt := 62) hx hb (oc_167 58 (aq_8 shX11_boughtIn_50) sgw_0_4) rfl ?_
            refine lv_iadd hx hb (oc_96 62 (aq_12 shX11_boughtIn_50)) ?_
            refine lv_istore_n (lv' := [(3, .int (x5_3 + r_8)), (5, .ref (ad 13 i5)), (4, .int (nI i5)), (0, .ref (g 0)), (1, .int v0), (2, .int v1)]) hx hb (oc_62 63 (aq_13 shX11_boughtIn_50)) rfl hl (ltb rfl) rfl (fun ls hl => ?_)
            refine lv_iinc (v := (nI (i5 + 1))) (lv' := [(4, .int (nI (i5 + 1))), (3, .int (x5_3 + r_8)), (5, .ref (ad 13 i5)), (0, .ref (g 0)), (1, .int v0), (2, .int v1)]) hx hb (oc_132 64 (aq_14 shX11_boughtIn_50) ub_4 sgb_1) hl (k := 2) rfl (nI_1 _) (ltb rfl) rfl (fun ls hl => ?_)
            refine lv_goto (tgt := 5) hx hb (oc_167 67 (aq_17 shX11_boughtIn_50) sgw_255_194) rfl ?_
            exact ih5 (i5 + 1) (x5_3 + r_8) (by (first | omega | (have zz0 := Hid.u hb_cn; omega))) (by (first | omega | (have zz0 := Hid.u hb_cn; omega))) ls (lv_sub hl [0, 1, 3, 4, 5] rfl)
  exact lp_5 _ 0 0 (Nat.lt_succ_self _) (by (first | omega | (have zz0 := Hid.u hb_cn; omega))) ls (lv_sub hl [0, 1, 2, 3, 4] rfl)
set_option maxRecDepth 100000 in
set_option maxHeartbeats 4000000 in
theorem q_Xoverdrawn (l : Launch) (D : va_G) (cI cB cZ : ClassId) (zz qq vv : Nat) (bt : Nat → Int32) (g : Nat → Nat) (ad : Nat → Nat → Nat) (cn : Nat → Nat) (In : Nat → Int32) (Fn : Nat → Nat → Int32) (v0 : Int32) (hB : CBX cn) : Met l yX11_overdrawn (CWS yX11_overdrawn cX11_overdrawn 4 (some .int)) (RM 4 0 0) (PBrx [.ref (g 0), .int v0] D cI cB cZ zz qq vv bt (wX cI (D.1 99) zz g ad cn In Fn)) (vp_Si (fun _ => True)) 0 0 (fun _ => False) := by
  refine en_rx rfl pn_RX11 (Nat.le_of_ble_eq_true rfl) (fun p e s m below meth c hx hb hml hown S hr hlocks hnm hP hK hXS hS ls hl => ?_)
  have hl : lv_has ls 4 [(0, .ref (g 0)), (1, .int v0)] := hl
  have hb_cn : Hid (CBX cn) := hB
  replace hB : CBXh cn := hB
  refine lv_iload_n hx hb (oc_27 0 shX11_overdrawn_0) rfl (lvA1 hl) ?_
  refine lv_iconst (v := 0) hx hb (oc_3 1 (aq_1 shX11_overdrawn_0)) kic_0 ?_
  refine lv_bipush (v := 57) hx hb (oc_16 2 (aq_2 shX11_overdrawn_0) sgb_57) kbc_57 ?_
  refine vp_callSi (runS_r (As := [.int v0, .int 0, .int 57]) (rest := []) S (q_l_within l D cI cB cZ v0 0 57) kS_RX11_80 hK hP [] rfl ⟨Nat.le_of_ble_eq_true rfl, Nat.le_of_ble_eq_true rfl⟩ ⟨Nat.le_of_ble_eq_true rfl, Nat.le_of_ble_eq_true rfl⟩ rfl hl.1 rfl (Nat.le_of_ble_eq_true rfl) (oc_184 4 (aq_4 shX11_overdrawn_0) uw_0_80)) (fun r_1 h_2 => ?_)
  rcases h_2 with ⟨rfl, h_2⟩ | ⟨rfl, h_2⟩
  ·
    have h_2 : 0 ≤ v0.toInt ∧ v0.toInt ≤ 57 := h_2
    refine lv_if_ne (tgt := 12) hx hb (oc_154 7 (aq_7 shX11_overdrawn_0) sgw_0_5) rfl (fun _ => ?_) (fun h => absurd h cq_eq_1_0)
    refine lv_iconst (v := 0) hx hb (oc_3 12 (aq_12 shX11_overdrawn_0)) kic_0 ?_
    refine lv_istore_n (lv' := [(2, .int 0), (0, .ref (g 0)), (1, .int v0)]) hx hb (oc_61 13 (aq_13 shX11_overdrawn_0)) rfl hl (ltb rfl) rfl (fun ls hl => ?_)
    refine lv_iconst (v := 0) hx hb (oc_3 14 (aq_14 shX11_overdrawn_0)) kic_0 ?_
    refine lv_istore_n (lv' := [(3, .int 0), (2, .int 0), (0, .ref (g 0)), (1, .int v0)]) hx hb (oc_62 15 (aq_15 shX11_overdrawn_0)) rfl hl (ltb rfl) rfl (fun ls hl => ?_)
    have lp_16 : ∀ (n : Nat) (i16 : Nat) (x16_2 : Int32) , 10 - i16 < n → (i16 ≤ 10) → ∀ ls : Array Slot, lv_has ls 4 [(3, .int (nI i16)), (2, .int x16_2), (0, .ref (g 0)), (1, .int v0)] → W p l e (RM 4 0 0) s m ([.ref (g 0), .int v0]).toArray below meth c s.heap [] 0 0 (MQ below (vp_Si (fun _ => True)) ([.ref (g 0), .int v0]).toArray s 0 0 (fun _ => False)) (F0 m 16 ls []) := by
      intro n16
      induction n16 with
      | zero => intros; (first | omega | (have zz0 := Hid.u hb_cn; omega))
      | succ n16 ih16 =>
        intro i16 x16_2 hmu16 hinv16 ls hl
        have hr16 := hinv16
        have ti16 : (nI i16).toInt = (i16 : Int) := nI_toInt (by (first | omega | (have zz0 := Hid.u hb_cn; omega)))
        refine lv_iload_n hx hb (oc_29 16 (aq_16 shX11_overdrawn_0)) rfl (lvA0 hl) ?_
        refine lv_bipush (v := 10) hx hb (oc_16 17 (aq_17 shX11_overdrawn_0) sgb_10) kbc_10 ?_
        refine lv_icmp_ge (tgt := 58) hx hb (oc_162 19 (aq_19 shX11_overdrawn_0) sgw_0_39) rfl (fun c_3 => ?_) (fun c_3 => ?_)
        ·
          have tc_3 : (10 : Int) ≤ (nI i16).toInt := Int32.le_iff_toInt_le.mp c_3
          refine lv_iload_n hx hb (oc_28 58 (aq_9 shX11_overdrawn_49)) rfl (lvA1 hl) ?_
          exact W.iret (v := x16_2) hx hb hr (fun t ht hW => ⟨x16_2, rfl, trivial, ht⟩) (fun _ h => absurd h List.not_mem_nil) (oc_172 59 (aq_10 shX11_overdrawn_49))
        ·
          have tc_3 : ((nI i16).toInt : Int) < 10 := Int32.lt_iff_toInt_lt.mp (Int32.not_le.mp c_3)
          refine lv_iload_n hx hb (oc_28 22 (aq_22 shX11_overdrawn_0)) rfl (lvA1 hl) ?_
          refine lv_aload_n hx hb (oc_42 23 (aq_23 shX11_overdrawn_0)) rfl (lvA2 hl) ?_
          refine lv_iload_n hx hb (oc_27 24 shX11_overdrawn_24) rfl (lvA3 hl) ?_
          refine lv_iload_n hx hb (oc_29 25 (aq_1 shX11_overdrawn_24)) rfl (lvA0 hl) ?_
          refine vp_callSi (runV_rxa (As := [.int v0, .int (nI i16)]) (rest := [.int x16_2]) S (q_XboughtIn l D cI cB cZ zz qq vv bt g ad cn In Fn v0 (nI i16) hB) kV_RX11_438 hK hXS hS hP 0 xo_0 rfl rfl ⟨Nat.le_of_ble_eq_true rfl, Nat.le_of_ble_eq_true rfl⟩ ⟨Nat.le_of_ble_eq_true rfl, Nat.le_of_ble_eq_true rfl⟩ rfl hl.1 rfl (Nat.le_of_ble_eq_true rfl) (oc_182 26 (aq_2 shX11_overdrawn_24) uw_1_182)) (fun r_4 h_5 => ?_)
          refine lv_aload_n hx hb (oc_42 29 (aq_5 shX11_overdrawn_24)) rfl (lvA2 hl) ?_
          refine gf_RX11_47 S hK hP 0 xo_0 (v := .ref (g 8)) rfl (oc_180 30 (aq_6 shX11_overdrawn_24) uw_0_47) ?_
          refine gf_RX11_435 S hK hP 6 xo_6 (v := .ref (g 25)) rfl (oc_180 33 (aq_9 shX11_overdrawn_24) uw_1_179) ?_
          refine lv_iload_n hx hb (oc_29 36 (aq_12 shX11_overdrawn_24)) rfl (lvA0 hl) ?_
          refine vp_callSi (runS_r (As := [.ref (g 25), .int (nI i16)]) (rest := [.int r_4, .int x16_2]) S (q_l_at l D cI cB cZ (g 25) 10 (Fn 25) (nI i16) (by (first | omega | (have zz0 := Hid.u hb_cn; omega)))) kS_RX11_192 hK hP [12] (one_is xo_12) ⟨Nat.le_of_ble_eq_true rfl, Nat.le_of_ble_eq_true rfl⟩ ⟨Nat.le_of_ble_eq_true rfl, Nat.le_of_ble_eq_true rfl⟩ rfl hl.1 rfl (Nat.le_of_ble_eq_true rfl) (oc_184 37 (aq_13 shX11_overdrawn_24) uw_0_192)) (fun r_6 h_7 => ?_)
          subst h_7
          refine lv_icmp_le (tgt := 49) hx hb (oc_164 40 (aq_16 shX11_overdrawn_24) sgw_0_9) rfl (fun c_8 => ?_) (fun c_8 => ?_)
          ·
            have tc_8 : (r_4.toInt : Int) ≤ (atM (Fn 25) 10 (nI i16)).toInt := Int32.le_iff_toInt_le.mp c_8
            refine lv_iconst (v := 0) hx hb (oc_3 49 shX11_overdrawn_49) kic_0 ?_
            refine lv_ior hx hb (oc_128 50 (aq_1 shX11_overdrawn_49)) ?_
            refine lv_istore_n (lv' := [(2, .int (x16_2 ||| 0)), (3, .int (nI i16)), (0, .ref (g 0)), (1, .int v0)]) hx hb (oc_61 51 (aq_2 shX11_overdrawn_49)) rfl hl (ltb rfl) rfl (fun ls hl => ?_)
            refine lv_iinc (v := (nI (i16 + 1))) (lv' := [(3, .int (nI (i16 + 1))), (2, .int (x16_2 ||| 0)), (0, .ref (g 0)), (1, .int v0)]) hx hb (oc_132 52 (aq_3 shX11_overdrawn_49) ub_3 sgb_1) hl (k := 1) rfl (nI_1 _) (ltb rfl) rfl (fun ls hl => ?_)
            refine lv_goto (tgt := 16) hx hb (oc_167 55 (aq_6 shX11_overdrawn_49) sgw_255_217) rfl ?_
            exact ih16 (i16 + 1) (x16_2 ||| 0) (by (first | omega | (have zz0 := Hid.u hb_cn; omega))) (by (first | omega | (have zz0 := Hid.u hb_cn; omega))) ls (lv_sub hl [0, 1, 2, 3] rfl)
          ·
            have tc_8 : ((atM (Fn 25) 10 (nI i16)).toInt : Int) < r_4.toInt := Int32.lt_iff_toInt_lt.mp (Int32.not_le.mp c_8)
            refine lv_iconst (v := 1) hx hb (oc_4 43 (aq_19 shX11_overdrawn_24)) kic_1 ?_
            refine lv_iload_n hx hb (oc_29 44 (aq_20 shX11_overdrawn_24)) rfl (lvA0 hl) ?_
            refine lv_ishl hx hb (oc_120 45 (aq_21 shX11_overdrawn_24)) ?_
            refine lv_goto (tgt := 50) hx hb (oc_167 46 (aq_22 shX11_overdrawn_24) sgw_0_4) rfl ?_
            refine lv_ior hx hb (oc_128 50 (aq_1 shX11_overdrawn_49)) ?_
            refine lv_istore_n (lv' := [(2, .int (x16_2 ||| (1 <<< ((nI i16) &&& 31)))), (3, .int (nI i16)), (0, .ref (g 0)), (1, .int v0)]) hx hb (oc_61 51 (aq_2 shX11_overdrawn_49)) rfl hl (ltb rfl) rfl (fun ls hl => ?_)
            refine lv_iinc (v := (nI (i16 + 1))) (lv' := [(3, .int (nI (i16 + 1))), (2, .int (x16_2 ||| (1 <<< ((nI i16) &&& 31)))), (0, .ref (g 0)), (1, .int v0)]) hx hb (oc_132 52 (aq_3 shX11_overdrawn_49) ub_3 sgb_1) hl (k := 1) rfl (nI_1 _) (ltb rfl) rfl (fun ls hl => ?_)
            refine lv_goto (tgt := 16) hx hb (oc_167 55 (aq_6 shX11_overdrawn_49) sgw_255_217) rfl ?_
            exact ih16 (i16 + 1) (x16_2 ||| (1 <<< ((nI i16) &&& 31))) (by (first | omega | (have zz0 := Hid.u hb_cn; omega))) (by (first | omega | (have zz0 := Hid.u hb_cn; omega))) ls (lv_sub hl [0, 1, 2, 3] rfl)
    exact lp_16 _ 0 0 (Nat.lt_succ_self _) (by (first | omega | (have zz0 := Hid.u hb_cn; omega))) ls (lv_sub hl [0, 1, 2, 3] rfl)
  ·
    have h_2 : ¬ (0 ≤ v0.toInt ∧ v0.toInt ≤ 57) := h_2
    refine lv_if_ne (tgt := 12) hx hb (oc_154 7 (aq_7 shX11_overdrawn_0) sgw_0_5) rfl (fun h => absurd h cq_eq_0_0) (fun _ => ?_)
    refine lv_iconst (v := (-1)) hx hb (oc_2 10 (aq_10 shX11_overdrawn_0)) kic_m1 ?_
    exact W.iret (v := (-1)) hx hb hr (fun t ht hW => ⟨(-1), rfl, trivial, ht⟩) (fun _ h => absurd h List.not_mem_nil) (oc_172 11 (aq_11 shX11_overdrawn_0))
set_option maxRecDepth 100000 in
set_option maxHeartbeats 4000000 in
theorem q_Xblocked (l : Launch) (D : va_G) (cI cB cZ : ClassId) (zz qq vv : Nat) (bt : Nat → Int32) (g : Nat → Nat) (ad : Nat → Nat → Nat) (cn : Nat → Nat) (In : Nat → Int32) (Fn : Nat → Nat → Int32) (v0 : Int32) (sz : Nat) (hB : CBX cn) : Met l yX11_blocked (CWS yX11_blocked cX11_blocked 3 (some .int)) (RM 3 0 0) (PBx [.ref (g 0), .int v0] D cI cB cZ zz qq vv bt (wX cI (D.1 99) zz g ad cn In Fn) sz) (va_Qi (fun (r : Int32) (u : (Nat → Nat) × (Nat → Int32) × (Nat → Nat → Int32)) => (fun r c2 I2 F2 => Fr [] [] [172] cn In Fn c2 I2 F2 ∧ CBX c2 ∧ (True)) r u.1 u.2.1 u.2.2) (fun (u : (Nat → Nat) × (Nat → Int32) × (Nat → Nat → Int32)) (t : State) => va_P D vwCl (wX cI (D.1 99) zz g ad u.1 u.2.1 u.2.2) t.heap ∧ va_D (va_A (wX cI (D.1 99) zz g ad cn In Fn) sz) (wX cI (D.1 99) zz g ad u.1 u.2.1 u.2.2)) (va_A (wX cI (D.1 99) zz g ad cn In Fn) sz)) 0 0 (va_A (wX cI (D.1 99) zz g ad cn In Fn) sz) := by
  refine en_x (fun A => (va_Qi (fun (r : Int32) (u : (Nat → Nat) × (Nat → Int32) × (Nat → Nat → Int32)) => (fun (r : Int32) (c2 : Nat → Nat) (I2 : Nat → Int32) (F2 : Nat → Nat → Int32) => Fr [] [] [172] cn In Fn c2 I2 F2 ∧ CBX c2 ∧ (True)) r u.1 u.2.1 u.2.2) (fun (u : (Nat → Nat) × (Nat → Int32) × (Nat → Nat → Int32)) (t : State) => va_P D vwCl (wX cI (D.1 99) zz g ad u.1 u.2.1 u.2.2) t.heap ∧ va_D A (wX cI (D.1 99) zz g ad u.1 u.2.1 u.2.2)) A)) rfl rfl pn_RX11 (Nat.le_of_ble_eq_true rfl) (fun p e s m below meth c A hx hb hml hown S hr hlocks hnm hA hP hK hD hXS hS ls hl => ?_)
  have hl : lv_has ls 3 [(0, .ref (g 0)), (1, .int v0)] := hl
  have hb_cn : Hid (CBX cn) := hB
  replace hB : CBXh cn := hB
  refine lv_iload_n hx hb (oc_27 0 shX11_blocked_0) rfl (lvA1 hl) ?_
  refine lv_if_lt (tgt := 15) hx hb (oc_155 1 (aq_1 shX11_blocked_0) sgw_0_14) rfl (fun c_1 => ?_) (fun c_1 => ?_)
  ·
    have tc_1 : (v0.toInt : Int) < 0 := Int32.lt_iff_toInt_lt.mp c_1
    refine lv_iconst (v := (-1)) hx hb (oc_2 15 (aq_15 shX11_blocked_0)) kic_m1 ?_
    exact W.iret (v := (-1)) hx hb hr (fun t ht hW => ⟨⟨(-1), (cn, In, Fn), rfl, ⟨(Fr.mo Fr.rf (sbl rfl) (sbl rfl) (sbl rfl)), hB, trivial⟩, by rw [ht]; exact hP, hD⟩, hS.F ht⟩) hS.2.2 (oc_172 16 (aq_16 shX11_blocked_0))
  ·
    have tc_1 : (0 : Int) ≤ v0.toInt := Int32.le_iff_toInt_le.mp (Int32.not_lt.mp c_1)
    refine lv_iload_n hx hb (oc_27 4 (aq_4 shX11_blocked_0)) rfl (lvA1 hl) ?_
    refine lv_aload_n hx hb (oc_42 5 (aq_5 shX11_blocked_0)) rfl (lvA0 hl) ?_
    refine gf_RX11_74 S hK hP 0 xo_0 (v := .ref (g 14)) rfl (oc_180 6 (aq_6 shX11_blocked_0) uw_0_74) ?_
    refine vp_callSi (runV_r (As := []) (rest := [.int v0]) S (q_l_size l D cI cB cZ (g 14) (if (cn 14) = 0 then zz else ad 2 4) (In 14) (nI (cn 14))) kV_RX11_84 hK hP [28] (one_is xo_28) 28 xo_28 rfl rfl ⟨Nat.le_of_ble_eq_true rfl, Nat.le_of_ble_eq_true rfl⟩ ⟨Nat.le_of_ble_eq_true rfl, Nat.le_of_ble_eq_true rfl⟩ rfl hl.1 rfl (Nat.le_of_ble_eq_true rfl) (oc_182 9 (aq_9 shX11_blocked_0) uw_0_84)) (fun r_2 h_3 => ?_)
    subst h_3
    have : (nI (cn 14)).toInt = (((cn 14) : Nat) : Int) := nI_toInt (by (first | omega | (have zz0 := Hid.u hb_cn; omega)))
    refine lv_icmp_lt (tgt := 17) hx hb (oc_161 12 (aq_12 shX11_blocked_0) sgw_0_5) rfl (fun c_4 => ?_) (fun c_4 => ?_)
    ·
      have tc_4 : (v0.toInt : Int) < (nI (cn 14)).toInt := Int32.lt_iff_toInt_lt.mp c_4
      obtain ⟨d0, hd0, rfl⟩ := nI_of (x := v0) (fun q => by have := Int32.lt_iff_toInt_lt.mp q; have e : (0 : Int32).toInt = 0 := rfl; (first | omega | (have zz0 := Hid.u hb_cn; omega)))
      have td0 : (nI d0).toInt = (d0 : Int) := nI_toInt hd0
      have zd0 : (nI d0).toInt.toNat = d0 := by (first | omega | (have zz0 := Hid.u hb_cn; omega))
      refine lv_aload_n hx hb (oc_42 17 (aq_17 shX11_blocked_0)) rfl (lvA0 hl) ?_
      refine gf_RX11_74 S hK hP 0 xo_0 (v := .ref (g 14)) rfl (oc_180 18 (aq_18 shX11_blocked_0) uw_0_74) ?_
      refine lv_iload_n hx hb (oc_27 21 (aq_21 shX11_blocked_0)) rfl (lvA1 hl) ?_
      refine va_csq (runV_rx (As := [.int (nI d0)]) (rest := []) S (q_l_get l D cI cB cZ zz qq vv bt (g 14) (ad 2 4) (cn 24) (cn 14) d0 (ad 14 d0) (In 14) (fun i => if i < (cn 14) then some (ad 14 i) else none) (by (first | omega | (have zz0 := Hid.u hb_cn; omega))) (if_pos (by (first | omega | (have zz0 := Hid.u hb_cn; omega)))) (by (first | omega | (have zz0 := Hid.u hb_cn; omega))) (by (first | omega | (have zz0 := Hid.u hb_cn; omega)))) kV_RX11_87 hK hXS hS hP _ (two_is (xl_4 (by (first | omega | (have zz0 := Hid.u hb_cn; omega)))) (xf_17 (k := 0) (by (first | omega | (have zz0 := Hid.u hb_cn; omega))))) (va_recv hK.1 hP (ci := 0) rfl xo_28) ⟨Nat.le_of_ble_eq_true rfl, Nat.le_of_ble_eq_true rfl⟩ ⟨Nat.le_of_ble_eq_true rfl, Nat.le_of_ble_eq_true rfl⟩ rfl hl.1 rfl (Nat.le_of_ble_eq_true rfl) (oc_182 22 (aq_22 shX11_blocked_0) uw_0_87)) (fun r_5 h_6 => ?_)
      subst h_6
      have kf_1 : d0 < cn 14 := by (first | omega | (have zz0 := Hid.u hb_cn; omega))
      refine va_castS hx hb hown (S.2.2.2.2 _ (wk5_17 5 rfl rfl)) (xclass hK.1 (ci := 7) rfl) (va_recv hK.1 hP (ci := 7) rfl (xf_4 kf_1)) (oc_192 25 shX11_blocked_25 uw_1_217) ?_
      refine lv_astore_n (lv' := [(2, .ref (ad 14 d0)), (0, .ref (g 0)), (1, .int (nI d0))]) hx hb (oc_77 28 (aq_3 shX11_blocked_25)) rfl hl (ltb rfl) rfl (fun ls hl => ?_)
      refine lv_aload_n hx hb (oc_44 29 (aq_4 shX11_blocked_25)) rfl (lvA0 hl) ?_
      refine lv_dup hx hb (oc_89 30 (aq_5 shX11_blocked_25)) rfl ?_
      refine gf_RX11_477 S hK hP _ (xf_4 kf_1) (v := .int ((Fn 172) d0)) rfl (oc_180 31 (aq_6 shX11_blocked_25) uw_1_221) ?_
      refine lv_iconst (v := 1) hx hb (oc_4 34 (aq_9 shX11_blocked_25)) kic_1 ?_
      refine lv_iadd hx hb (oc_96 35 (aq_10 shX11_blocked_25)) ?_
      refine pf_RX11_477 S hK hP hD hS _ (xf_4 kf_1) (v := .int (((Fn 172) d0) + 1)) (Nat.le_of_ble_eq_true rfl) rfl rfl (oc_181 36 (aq_11 shX11_blocked_25) uw_1_221) (fun H locs hP hD hS => ?_)
      have hP : va_P D vwCl (wX cI (D.1 99) zz g ad cn In (va_up Fn 172 (upd (Fn 172) d0 (((Fn 172) d0) + 1)))) H := va_P_eq (xs_172 (by (first | omega | (have zz0 := Hid.u hb_cn; omega)))) hP
      have hD : va_D A (wX cI (D.1 99) zz g ad cn In (va_up Fn 172 (upd (Fn 172) d0 (((Fn 172) d0) + 1)))) := va_D_eq (xs_172 (by (first | omega | (have zz0 := Hid.u hb_cn; omega)))) hD
      refine lv_aload_n hx hb (oc_44 39 (aq_14 shX11_blocked_25)) rfl (lvA0 hl) ?_
      refine gf_RX11_477 S hK hP _ (xf_4 kf_1) (v := .int ((upd (Fn 172) d0 (((Fn 172) d0) + 1)) d0)) rfl (oc_180 40 (aq_15 shX11_blocked_25) uw_1_221) ?_
      exact W.iret (v := ((upd (Fn 172) d0 (((Fn 172) d0) + 1)) d0)) hx hb hr (fun t ht hW => ⟨⟨((upd (Fn 172) d0 (((Fn 172) d0) + 1)) d0), (cn, In, (va_up Fn 172 (upd (Fn 172) d0 (((Fn 172) d0) + 1)))), rfl, ⟨(Fr.mo (Fr.f 172 Fr.rf) (sbl rfl) (sbl rfl) (sbl rfl)), hB, trivial⟩, by rw [ht]; exact hP, hD⟩, hS.F ht⟩) hS.2.2 (oc_172 43 (aq_18 shX11_blocked_25))
    ·
      have tc_4 : ((nI (cn 14)).toInt : Int) ≤ v0.toInt := Int32.le_iff_toInt_le.mp (Int32.not_lt.mp c_4)
      refine lv_iconst (v := (-1)) hx hb (oc_2 15 (aq_15 shX11_blocked_0)) kic_m1 ?_
      exact W.iret (v := (-1)) hx hb hr (fun t ht hW => ⟨⟨(-1), (cn, In, Fn), rfl, ⟨(Fr.mo Fr.rf (sbl rfl) (sbl rfl) (sbl rfl)), hB, trivial⟩, by rw [ht]; exact hP, hD⟩, hS.F ht⟩) hS.2.2 (oc_172 16 (aq_16 shX11_blocked_0))
set_option maxRecDepth 100000 in
set_option maxHeartbeats 4000000 in
theorem q_XwrongPart (l : Launch) (D : va_G) (cI cB cZ : ClassId) (zz qq vv : Nat) (bt : Nat → Int32) (g : Nat → Nat) (ad : Nat → Nat → Nat) (cn : Nat → Nat) (In : Nat → Int32) (Fn : Nat → Nat → Int32) (k0 : Nat) (v1 v2 : Int32) (hB : CBX cn) (hk : k0 < cn 11) : Met l yX11_wrongPart (CWS yX11_wrongPart cX11_wrongPart 4 (some .int)) (RM 3 0 0) (PBrx [.ref (g 0), .ref (ad 11 k0), .int v1, .int v2] D cI cB cZ zz qq vv bt (wX cI (D.1 99) zz g ad cn In Fn)) (vp_Si (fun _ => True)) 0 0 (fun _ => False) := by
  refine en_rx rfl pn_RX11 (Nat.le_of_ble_eq_true rfl) (fun p e s m below meth c hx hb hml hown S hr hlocks hnm hP hK hXS hS ls hl => ?_)
  have hl : lv_has ls 4 [(0, .ref (g 0)), (1, .ref (ad 11 k0)), (2, .int v1), (3, .int v2)] := hl
  have hb_cn : Hid (CBX cn) := hB
  replace hB : CBXh cn := hB
  refine lv_aload_n hx hb (oc_42 0 shX11_wrongPart_0) rfl (lvA0 hl) ?_
  refine gf_RX11_21 S hK hP 0 xo_0 (v := .ref (g 5)) rfl (oc_180 1 (aq_1 shX11_wrongPart_0) uw_0_21) ?_
  refine lv_iload_n hx hb (oc_29 4 (aq_4 shX11_wrongPart_0)) rfl (lvA3 hl) ?_
  refine vp_callSi (runV_rxa (As := [.int v2]) (rest := []) S (q_Xnumber l D cI cB cZ zz qq vv bt g ad cn In Fn v2 hB) kV_RX11_530 hK hXS hS hP 1 xo_1 rfl rfl ⟨Nat.le_of_ble_eq_true rfl, Nat.le_of_ble_eq_true rfl⟩ ⟨Nat.le_of_ble_eq_true rfl, Nat.le_of_ble_eq_true rfl⟩ rfl hl.1 rfl (Nat.le_of_ble_eq_true rfl) (oc_182 5 (aq_5 shX11_wrongPart_0) uw_2_18)) (fun r_1 h_2 => ?_)
  refine lv_iload_n hx hb (oc_28 8 (aq_8 shX11_wrongPart_0)) rfl (lvA2 hl) ?_
  refine lv_icmp_eq (tgt := 14) hx hb (oc_159 9 (aq_9 shX11_wrongPart_0) sgw_0_5) rfl (fun c_3 => ?_) (fun c_3 => ?_)
  ·
    have tc_3 : (r_1.toInt : Int) = v1.toInt := congrArg Int32.toInt c_3
    refine lv_aload_n hx hb (oc_42 14 (aq_14 shX11_wrongPart_0)) rfl (lvA0 hl) ?_
    refine gf_RX11_21 S hK hP 0 xo_0 (v := .ref (g 5)) rfl (oc_180 15 (aq_15 shX11_wrongPart_0) uw_0_21) ?_
    refine lv_iload_n hx hb (oc_29 18 (aq_18 shX11_wrongPart_0)) rfl (lvA3 hl) ?_
    refine lv_iconst (v := 1) hx hb (oc_4 19 (aq_19 shX11_wrongPart_0)) kic_1 ?_
    refine lv_iadd hx hb (oc_96 20 (aq_20 shX11_wrongPart_0)) ?_
    refine vp_callSi (runV_rxa (As := [.int (v2 + 1)]) (rest := []) S (q_Xnumber l D cI cB cZ zz qq vv bt g ad cn In Fn (v2 + 1) hB) kV_RX11_530 hK hXS hS hP 1 xo_1 rfl rfl ⟨Nat.le_of_ble_eq_true rfl, Nat.le_of_ble_eq_true rfl⟩ ⟨Nat.le_of_ble_eq_true rfl, Nat.le_of_ble_eq_true rfl⟩ rfl hl.1 rfl (Nat.le_of_ble_eq_true rfl) (oc_182 21 (aq_21 shX11_wrongPart_0) uw_2_18)) (fun r_4 h_5 => ?_)
    refine lv_aload_n hx hb (oc_43 24 shX11_wrongPart_24) rfl (lvA1 hl) ?_
    refine gf_RX11_196 S hK hP _ (xf_1 hk) (v := .int ((Fn 121) k0)) rfl (oc_180 25 (aq_1 shX11_wrongPart_24) uw_0_196) ?_
    refine lv_icmp_eq (tgt := 33) hx hb (oc_159 28 (aq_4 shX11_wrongPart_24) sgw_0_5) rfl (fun c_6 => ?_) (fun c_6 => ?_)
    ·
      have tc_6 : (r_4.toInt : Int) = ((Fn 121) k0).toInt := congrArg Int32.toInt c_6
      refine lv_aload_n hx hb (oc_42 33 (aq_9 shX11_wrongPart_24)) rfl (lvA0 hl) ?_
      refine gf_RX11_21 S hK hP 0 xo_0 (v := .ref (g 5)) rfl (oc_180 34 (aq_10 shX11_wrongPart_24) uw_0_21) ?_
      refine lv_iload_n hx hb (oc_29 37 (aq_13 shX11_wrongPart_24)) rfl (lvA3 hl) ?_
      refine lv_iconst (v := 2) hx hb (oc_5 38 (aq_14 shX11_wrongPart_24)) kic_2 ?_
      refine lv_iadd hx hb (oc_96 39 (aq_15 shX11_wrongPart_24)) ?_
      refine vp_callSi (runV_rxa (As := [.int (v2 + 2)]) (rest := []) S (q_Xnumber l D cI cB cZ zz qq vv bt g ad cn In Fn (v2 + 2) hB) kV_RX11_530 hK hXS hS hP 1 xo_1 rfl rfl ⟨Nat.le_of_ble_eq_true rfl, Nat.le_of_ble_eq_true rfl⟩ ⟨Nat.le_of_ble_eq_true rfl, Nat.le_of_ble_eq_true rfl⟩ rfl hl.1 rfl (Nat.le_of_ble_eq_true rfl) (oc_182 40 (aq_16 shX11_wrongPart_24) uw_2_18)) (fun r_7 h_8 => ?_)
      refine lv_aload_n hx hb (oc_43 43 (aq_19 shX11_wrongPart_24)) rfl (lvA1 hl) ?_
      refine gf_RX11_202 S hK hP _ (xf_1 hk) (v := .int ((Fn 122) k0)) rfl (oc_180 44 (aq_20 shX11_wrongPart_24) uw_0_202) ?_
      refine lv_icmp_eq (tgt := 52) hx hb (oc_159 47 (aq_23 shX11_wrongPart_24) sgw_0_5) rfl (fun c_9 => ?_) (fun c_9 => ?_)
      ·
        have tc_9 : (r_7.toInt : Int) = ((Fn 122) k0).toInt := congrArg Int32.toInt c_9
        refine lv_aload_n hx hb (oc_42 52 (aq_2 shX11_wrongPart_50)) rfl (lvA0 hl) ?_
        refine gf_RX11_21 S hK hP 0 xo_0 (v := .ref (g 5)) rfl (oc_180 53 (aq_3 shX11_wrongPart_50) uw_0_21) ?_
        refine lv_iload_n hx hb (oc_29 56 (aq_6 shX11_wrongPart_50)) rfl (lvA3 hl) ?_
        refine lv_iconst (v := 3) hx hb (oc_6 57 (aq_7 shX11_wrongPart_50)) kic_3 ?_
        refine lv_iadd hx hb (oc_96 58 (aq_8 shX11_wrongPart_50)) ?_
        refine vp_callSi (runV_rxa (As := [.int (v2 + 3)]) (rest := []) S (q_Xnumber l D cI cB cZ zz qq vv bt g ad cn In Fn (v2 + 3) hB) kV_RX11_530 hK hXS hS hP 1 xo_1 rfl rfl ⟨Nat.le_of_ble_eq_true rfl, Nat.le_of_ble_eq_true rfl⟩ ⟨Nat.le_of_ble_eq_true rfl, Nat.le_of_ble_eq_true rfl⟩ rfl hl.1 rfl (Nat.le_of_ble_eq_true rfl) (oc_182 59 (aq_9 shX11_wrongPart_50) uw_2_18)) (fun r_10 h_11 => ?_)
        refine lv_aload_n hx hb (oc_43 62 (aq_12 shX11_wrongPart_50)) rfl (lvA1 hl) ?_
        refine gf_RX11_141 S hK hP _ (xf_1 hk) (v := .int ((Fn 128) k0)) rfl (oc_180 63 (aq_13 shX11_wrongPart_50) uw_0_141) ?_
        refine lv_icmp_eq (tgt := 73) hx hb (oc_159 66 (aq_16 shX11_wrongPart_50) sgw_0_7) rfl (fun c_12 => ?_) (fun c_12 => ?_)
        ·
          have tc_12 : (r_10.toInt : Int) = ((Fn 128) k0).toInt := congrArg Int32.toInt c_12
          refine lv_iconst (v := (-1)) hx hb (oc_2 73 (aq_23 shX11_wrongPart_50)) kic_m1 ?_
          exact W.iret (v := (-1)) hx hb hr (fun t ht hW => ⟨(-1), rfl, trivial, ht⟩) (fun _ h => absurd h List.not_mem_nil) (oc_172 74 shX11_wrongPart_74)
        ·
          have tc_12 : (r_10.toInt : Int) ≠ ((Fn 128) k0).toInt := fun q => c_12 (Int32.toInt_inj.mp q)
          refine lv_iconst (v := 3) hx hb (oc_6 69 (aq_19 shX11_wrongPart_50)) kic_3 ?_
          refine lv_goto (tgt := 74) hx hb (oc_167 70 (aq_20 shX11_wrongPart_50) sgw_0_4) rfl ?_
          exact W.iret (v := 3) hx hb hr (fun t ht hW => ⟨3, rfl, trivial, ht⟩) (fun _ h => absurd h List.not_mem_nil) (oc_172 74 shX11_wrongPart_74)
      ·
        have tc_9 : (r_7.toInt : Int) ≠ ((Fn 122) k0).toInt := fun q => c_9 (Int32.toInt_inj.mp q)
        refine lv_iconst (v := 2) hx hb (oc_5 50 shX11_wrongPart_50) kic_2 ?_
        exact W.iret (v := 2) hx hb hr (fun t ht hW => ⟨2, rfl, trivial, ht⟩) (fun _ h => absurd h List.not_mem_nil) (oc_172 51 (aq_1 shX11_wrongPart_50))
    ·
      have tc_6 : (r_4.toInt : Int) ≠ ((Fn 121) k0).toInt := fun q => c_6 (Int32.toInt_inj.mp q)
      refine lv_iconst (v := 1) hx hb (oc_4 31 (aq_7 shX11_wrongPart_24)) kic_1 ?_
      exact W.iret (v := 1) hx hb hr (fun t ht hW => ⟨1, rfl, trivial, ht⟩) (fun _ h => absurd h List.not_mem_nil) (oc_172 32 (aq_8 shX11_wrongPart_24))
  ·
    have tc_3 : (r_1.toInt : Int) ≠ v1.toInt := fun q => c_3 (Int32.toInt_inj.mp q)
    refine lv_iconst (v := 0) hx hb (oc_3 12 (aq_12 shX11_wrongPart_0)) kic_0 ?_
    exact W.iret (v := 0) hx hb hr (fun t ht hW => ⟨0, rfl, trivial, ht⟩) (fun _ h => absurd h List.not_mem_nil) (oc_172 13 (aq_13 shX11_wrongPart_0))
set_option maxRecDepth 100000 in
set_option maxHeartbeats 4000000 in
theorem q_XfirstWrong (l : Launch) (D : va_G) (cI cB cZ : ClassId) (zz qq vv : Nat) (bt : Nat → Int32) (g : Nat → Nat) (ad : Nat → Nat → Nat) (cn : Nat → Nat) (In : Nat → Int32) (Fn : Nat → Nat → Int32) (v0 v1 : Int32) (hB : CBX cn) : Met l yX11_firstWrong (CWS yX11_firstWrong cX11_firstWrong 7 (some .int)) (RM 4 0 0) (PBrx [.ref (g 0), .int v0, .int v1] D cI cB cZ zz qq vv bt (wX cI (D.1 99) zz g ad cn In Fn)) (vp_Si (fun _ => True)) 0 0 (fun _ => False) := by
  refine en_rx rfl pn_RX11 (Nat.le_of_ble_eq_true rfl) (fun p e s m below meth c hx hb hml hown S hr hlocks hnm hP hK hXS hS ls hl => ?_)
  have hl : lv_has ls 7 [(0, .ref (g 0)), (1, .int v0), (2, .int v1)] := hl
  have hb_cn : Hid (CBX cn) := hB
  replace hB : CBXh cn := hB
  refine lv_iconst (v := 0) hx hb (oc_3 0 shX11_firstWrong_0) kic_0 ?_
  refine lv_istore_n (lv' := [(3, .int 0), (0, .ref (g 0)), (1, .int v0), (2, .int v1)]) hx hb (oc_62 1 (aq_1 shX11_firstWrong_0)) rfl hl (ltb rfl) rfl (fun ls hl => ?_)
  refine lv_iconst (v := 0) hx hb (oc_3 2 (aq_2 shX11_firstWrong_0)) kic_0 ?_
  refine lv_istore (lv' := [(4, .int 0), (3, .int 0), (0, .ref (g 0)), (1, .int v0), (2, .int v1)]) hx hb (oc_54 3 (aq_3 shX11_firstWrong_0) ub_4) hl (ltb rfl) rfl (fun ls hl => ?_)
  have lp_5 : ∀ (n : Nat) (i5 : Nat) (x5_3 : Int32) , cn 11 - i5 < n → (i5 ≤ cn 11) → ∀ ls : Array Slot, lv_has ls 7 [(4, .int (nI i5)), (3, .int x5_3), (0, .ref (g 0)), (1, .int v0), (2, .int v1)] → W p l e (RM 4 0 0) s m ([.ref (g 0), .int v0, .int v1]).toArray below meth c s.heap [] 0 0 (MQ below (vp_Si (fun _ => True)) ([.ref (g 0), .int v0, .int v1]).toArray s 0 0 (fun _ => False)) (F0 m 5 ls []) := by
    intro n5
    induction n5 with
    | zero => intros; (first | omega | (have zz0 := Hid.u hb_cn; omega))
    | succ n5 ih5 =>
      intro i5 x5_3 hmu5 hinv5 ls hl
      have hr5 := hinv5
      have ti5 : (nI i5).toInt = (i5 : Int) := nI_toInt (by (first | omega | (have zz0 := Hid.u hb_cn; omega)))
      refine lv_iload hx hb (oc_21 5 (aq_5 shX11_firstWrong_0) ub_4) (lvA0 hl) ?_
      refine lv_aload_n hx hb (oc_42 7 (aq_7 shX11_firstWrong_0)) rfl (lvA2 hl) ?_
      refine gf_RX11_65 S hK hP 0 xo_0 (v := .ref (g 11)) rfl (oc_180 8 (aq_8 shX11_firstWrong_0) uw_0_65) ?_
      refine vp_callSi (runV_r (As := []) (rest := [.int (nI i5)]) S (q_l_size l D cI cB cZ (g 11) (if (cn 11) = 0 then zz else ad 2 1) (In 11) (nI (cn 11))) kV_RX11_84 hK hP [25] (one_is xo_25) 25 xo_25 rfl rfl ⟨Nat.le_of_ble_eq_true rfl, Nat.le_of_ble_eq_true rfl⟩ ⟨Nat.le_of_ble_eq_true rfl, Nat.le_of_ble_eq_true rfl⟩ rfl hl.1 rfl (Nat.le_of_ble_eq_true rfl) (oc_182 11 (aq_11 shX11_firstWrong_0) uw_0_84)) (fun r_1 h_2 => ?_)
      subst h_2
      have : (nI (cn 11)).toInt = (((cn 11) : Nat) : Int) := nI_toInt (by (first | omega | (have zz0 := Hid.u hb_cn; omega)))
      refine lv_icmp_ge (tgt := 81) hx hb (oc_162 14 (aq_14 shX11_firstWrong_0) sgw_0_67) rfl (fun c_3 => ?_) (fun c_3 => ?_)
      ·
        have tc_3 : ((nI (cn 11)).toInt : Int) ≤ (nI i5).toInt := Int32.le_iff_toInt_le.mp c_3
        refine lv_iload_n hx hb (oc_29 81 (aq_6 shX11_firstWrong_75)) rfl (lvA1 hl) ?_
        refine lv_iload_n hx hb (oc_28 82 (aq_7 shX11_firstWrong_75)) rfl (lvA4 hl) ?_
        refine lv_icmp_ge (tgt := 90) hx hb (oc_162 83 (aq_8 shX11_firstWrong_75) sgw_0_7) rfl (fun c_4 => ?_) (fun c_4 => ?_)
        ·
          have tc_4 : (v1.toInt : Int) ≤ x5_3.toInt := Int32.le_iff_toInt_le.mp c_4
          refine lv_iconst (v := (-1)) hx hb (oc_2 90 (aq_15 shX11_firstWrong_75)) kic_m1 ?_
          exact W.iret (v := (-1)) hx hb hr (fun t ht hW => ⟨(-1), rfl, trivial, ht⟩) (fun _ h => absurd h List.not_mem_nil) (oc_172 91 (aq_16 shX11_firstWrong_75))
        ·
          have tc_4 : (x5_3.toInt : Int) < v1.toInt := Int32.lt_iff_toInt_lt.mp (Int32.not_le.mp c_4)
          refine lv_iload_n hx hb (oc_29 86 (aq_11 shX11_firstWrong_75)) rfl (lvA1 hl) ?_
          refine lv_goto (tgt := 91) hx hb (oc_167 87 (aq_12 shX11_firstWrong_75) sgw_0_4) rfl ?_
          exact W.iret (v := x5_3) hx hb hr (fun t ht hW => ⟨x5_3, rfl, trivial, ht⟩) (fun _ h => absurd h List.not_mem_nil) (oc_172 91 (aq_16 shX11_firstWrong_75))
      ·
        have tc_3 : ((nI i5).toInt : Int) < (nI (cn 11)).toInt := Int32.lt_iff_toInt_lt.mp (Int32.not_le.mp c_3)
        refine lv_aload_n hx hb (oc_42 17 (aq_17 shX11_firstWrong_0)) rfl (lvA2 hl) ?_
        refine gf_RX11_65 S hK hP 0 xo_0 (v := .ref (g 11)) rfl (oc_180 18 (aq_18 shX11_firstWrong_0) uw_0_65) ?_
        refine lv_iload hx hb (oc_21 21 (aq_21 shX11_firstWrong_0) ub_4) (lvA0 hl) ?_
        refine va_csq (runV_rx (As := [.int (nI i5)]) (rest := []) S (q_l_get l D cI cB cZ zz qq vv bt (g 11) (ad 2 1) (cn 21) (cn 11) i5 (ad 11 i5) (In 11) (fun i => if i < (cn 11) then some (ad 11 i) else none) (by (first | omega | (have zz0 := Hid.u hb_cn; omega))) (if_pos (by (first | omega | (have zz0 := Hid.u hb_cn; omega)))) (by (first | omega | (have zz0 := Hid.u hb_cn; omega))) (by (first | omega | (have zz0 := Hid.u hb_cn; omega)))) kV_RX11_87 hK hXS hS hP _ (two_is (xl_1 (by (first | omega | (have zz0 := Hid.u hb_cn; omega)))) (xf_14 (k := 0) (by (first | omega | (have zz0 := Hid.u hb_cn; omega))))) (va_recv hK.1 hP (ci := 0) rfl xo_25) ⟨Nat.le_of_ble_eq_true rfl, Nat.le_of_ble_eq_true rfl⟩ ⟨Nat.le_of_ble_eq_true rfl, Nat.le_of_ble_eq_true rfl⟩ rfl hl.1 rfl (Nat.le_of_ble_eq_true rfl) (oc_182 23 (aq_23 shX11_firstWrong_0) uw_0_87)) (fun r_5 h_6 => ?_)
        subst h_6
        have kf_1 : i5 < cn 11 := by (first | omega | (have zz0 := Hid.u hb_cn; omega))
        refine va_castS hx hb hown (S.2.2.2.2 _ (wk2_17 0 rfl rfl)) (xclass hK.1 (ci := 3) rfl) (va_recv hK.1 hP (ci := 3) rfl (xf_1 kf_1)) (oc_192 26 shX11_firstWrong_26 uw_0_93) ?_
        refine lv_astore (lv' := [(5, .ref (ad 11 i5)), (4, .int (nI i5)), (3, .int x5_3), (0, .ref (g 0)), (1, .int v0), (2, .int v1)]) hx hb (oc_58 29 (aq_3 shX11_firstWrong_26) ub_5) hl (ltb rfl) rfl (fun ls hl => ?_)
        refine lv_aload hx hb (oc_25 31 (aq_5 shX11_firstWrong_26) ub_5) (lvA0 hl) ?_
        refine gf_RX11_211 S hK hP _ (xf_1 kf_1) (v := .int ((Fn 120) i5)) rfl (oc_180 33 (aq_7 shX11_firstWrong_26) uw_0_211) ?_
        refine lv_iload_n hx hb (oc_27 36 (aq_10 shX11_firstWrong_26)) rfl (lvA4 hl) ?_
        refine lv_icmp_eq (tgt := 43) hx hb (oc_159 37 (aq_11 shX11_firstWrong_26) sgw_0_6) rfl (fun c_7 => ?_) (fun c_7 => ?_)
        ·
          have tc_7 : (((Fn 120) i5).toInt : Int) = v0.toInt := congrArg Int32.toInt c_7
          refine lv_iload_n hx hb (oc_29 43 (aq_17 shX11_firstWrong_26)) rfl (lvA2 hl) ?_
          refine lv_iload_n hx hb (oc_28 44 (aq_18 shX11_firstWrong_26)) rfl (lvA5 hl) ?_
          refine lv_icmp_lt (tgt := 50) hx hb (oc_161 45 (aq_19 shX11_firstWrong_26) sgw_0_5) rfl (fun c_8 => ?_) (fun c_8 => ?_)
          ·
            have tc_8 : (x5_3.toInt : Int) < v1.toInt := Int32.lt_iff_toInt_lt.mp c_8
            refine lv_aload_n hx hb (oc_42 50 shX11_firstWrong_50) rfl (lvA3 hl) ?_
            refine lv_aload hx hb (oc_25 51 (aq_1 shX11_firstWrong_50) ub_5) (lvA0 hl) ?_
            refine lv_iload hx hb (oc_21 53 (aq_3 shX11_firstWrong_50) ub_4) (lvA1 hl) ?_
            refine lv_iload_n hx hb (oc_29 55 (aq_5 shX11_firstWrong_50)) rfl (lvA2 hl) ?_
            refine vp_callSi (runV_rxa (As := [.ref (ad 11 i5), .int (nI i5), .int x5_3]) (rest := []) S (q_XwrongPart l D cI cB cZ zz qq vv bt g ad cn In Fn i5 (nI i5) x5_3 hB (by (first | omega | (have zz0 := Hid.u hb_cn; omega)))) kV_RX11_526 hK hXS hS hP 0 xo_0 rfl rfl ⟨Nat.le_of_ble_eq_true rfl, Nat.le_of_ble_eq_true rfl⟩ ⟨Nat.le_of_ble_eq_true rfl, Nat.le_of_ble_eq_true rfl⟩ rfl hl.1 rfl (Nat.le_of_ble_eq_true rfl) (oc_182 56 (aq_6 shX11_firstWrong_50) uw_2_14)) (fun r_9 h_10 => ?_)
            refine lv_istore (lv' := [(6, .int r_9), (5, .ref (ad 11 i5)), (4, .int (nI i5)), (3, .int x5_3), (0, .ref (g 0)), (1, .int v0), (2, .int v1)]) hx hb (oc_54 59 (aq_9 shX11_firstWrong_50) ub_6) hl (ltb rfl) rfl (fun ls hl => ?_)
            refine lv_iload hx hb (oc_21 61 (aq_11 shX11_firstWrong_50) ub_6) (lvA0 hl) ?_
            refine lv_iconst (v := (-1)) hx hb (oc_2 63 (aq_13 shX11_firstWrong_50)) kic_m1 ?_
            refine lv_icmp_eq (tgt := 72) hx hb (oc_159 64 (aq_14 shX11_firstWrong_50) sgw_0_8) rfl (fun c_11 => ?_) (fun c_11 => ?_)
            ·
              have tc_11 : (r_9.toInt : Int) = (-1) := congrArg Int32.toInt c_11
              refine lv_iinc (v := (x5_3 + 4)) (lv' := [(3, .int (x5_3 + 4)), (6, .int r_9), (5, .ref (ad 11 i5)), (4, .int (nI i5)), (0, .ref (g 0)), (1, .int v0), (2, .int v1)]) hx hb (oc_132 72 (aq_22 shX11_firstWrong_50) ub_3 sgb_4) hl (k := 3) rfl rfl (ltb rfl) rfl (fun ls hl => ?_)
              refine lv_iinc (v := (nI (i5 + 1))) (lv' := [(4, .int (nI (i5 + 1))), (3, .int (x5_3 + 4)), (6, .int r_9), (5, .ref (ad 11 i5)), (0, .ref (g 0)), (1, .int v0), (2, .int v1)]) hx hb (oc_132 75 shX11_firstWrong_75 ub_4 sgb_1) hl (k := 3) rfl (nI_1 _) (ltb rfl) rfl (fun ls hl => ?_)
              refine lv_goto (tgt := 5) hx hb (oc_167 78 (aq_3 shX11_firstWrong_75) sgw_255_183) rfl ?_
              exact ih5 (i5 + 1) (x5_3 + 4) (by (first | omega | (have zz0 := Hid.u hb_cn; omega))) (by (first | omega | (have zz0 := Hid.u hb_cn; omega))) ls (lv_sub hl [0, 1, 4, 5, 6] rfl)
            ·
              have tc_11 : (r_9.toInt : Int) ≠ (-1) := fun q => c_11 (Int32.toInt_inj.mp q)
              refine lv_iload_n hx hb (oc_29 67 (aq_17 shX11_firstWrong_50)) rfl (lvA3 hl) ?_
              refine lv_iload hx hb (oc_21 68 (aq_18 shX11_firstWrong_50) ub_6) (lvA0 hl) ?_
              refine lv_iadd hx hb (oc_96 70 (aq_20 shX11_firstWrong_50)) ?_
              exact W.iret (v := (x5_3 + r_9)) hx hb hr (fun t ht hW => ⟨(x5_3 + r_9), rfl, trivial, ht⟩) (fun _ h => absurd h List.not_mem_nil) (oc_172 71 (aq_21 shX11_firstWrong_50))
          ·
            have tc_8 : (v1.toInt : Int) ≤ x5_3.toInt := Int32.le_iff_toInt_le.mp (Int32.not_lt.mp c_8)
            refine lv_iload_n hx hb (oc_28 48 (aq_22 shX11_firstWrong_26)) rfl (lvA5 hl) ?_
            exact W.iret (v := v1) hx hb hr (fun t ht hW => ⟨v1, rfl, trivial, ht⟩) (fun _ h => absurd h List.not_mem_nil) (oc_172 49 (aq_23 shX11_firstWrong_26))
        ·
          have tc_7 : (((Fn 120) i5).toInt : Int) ≠ v0.toInt := fun q => c_7 (Int32.toInt_inj.mp q)
          refine lv_goto (tgt := 75) hx hb (oc_167 40 (aq_14 shX11_firstWrong_26) sgw_0_35) rfl ?_
          refine lv_iinc (v := (nI (i5 + 1))) (lv' := [(4, .int (nI (i5 + 1))), (5, .ref (ad 11 i5)), (3, .int x5_3), (0, .ref (g 0)), (1, .int v0), (2, .int v1)]) hx hb (oc_132 75 shX11_firstWrong_75 ub_4 sgb_1) hl (k := 1) rfl (nI_1 _) (ltb rfl) rfl (fun ls hl => ?_)
          refine lv_goto (tgt := 5) hx hb (oc_167 78 (aq_3 shX11_firstWrong_75) sgw_255_183) rfl ?_
          exact ih5 (i5 + 1) x5_3 (by (first | omega | (have zz0 := Hid.u hb_cn; omega))) (by (first | omega | (have zz0 := Hid.u hb_cn; omega))) ls (lv_sub hl [0, 2, 3, 4, 5] rfl)
  exact lp_5 _ 0 0 (Nat.lt_succ_self _) (by (first | omega | (have zz0 := Hid.u hb_cn; omega))) ls (lv_sub hl [0, 1, 2, 3, 4] rfl)
set_option maxRecDepth 100000 in
set_option maxHeartbeats 4000000 in
theorem q_Xcheck (l : Launch) (D : va_G) (cI cB cZ : ClassId) (zz qq vv : Nat) (bt : Nat → Int32) (g : Nat → Nat) (ad : Nat → Nat → Nat) (cn : Nat → Nat) (In : Nat → Int32) (Fn : Nat → Nat → Int32) (v0 v1 : Int32) (sz : Nat) (hB : CBX cn) : Met l yX11_check (CWS yX11_check cX11_check 4 (some .int)) (RM 5 0 0) (PBx [.ref (g 0), .int v0, .int v1] D cI cB cZ zz qq vv bt (wX cI (D.1 99) zz g ad cn In Fn) sz) (va_Qi (fun (r : Int32) (u : (Nat → Nat) × (Nat → Int32) × (Nat → Nat → Int32)) => (fun r c2 I2 F2 => Fr [3] [] [] cn In Fn c2 I2 F2 ∧ CBX c2 ∧ (True)) r u.1 u.2.1 u.2.2) (fun (u : (Nat → Nat) × (Nat → Int32) × (Nat → Nat → Int32)) (t : State) => va_P D vwCl (wX cI (D.1 99) zz g ad u.1 u.2.1 u.2.2) t.heap ∧ va_D (va_A (wX cI (D.1 99) zz g ad cn In Fn) sz) (wX cI (D.1 99) zz g ad u.1 u.2.1 u.2.2)) (va_A (wX cI (D.1 99) zz g ad cn In Fn) sz)) 0 0 (va_A (wX cI (D.1 99) zz g ad cn In Fn) sz) := by
  refine en_x (fun A => (va_Qi (fun (r : Int32) (u : (Nat → Nat) × (Nat → Int32) × (Nat → Nat → Int32)) => (fun (r : Int32) (c2 : Nat → Nat) (I2 : Nat → Int32) (F2 : Nat → Nat → Int32) => Fr [3] [] [] cn In Fn c2 I2 F2 ∧ CBX c2 ∧ (True)) r u.1 u.2.1 u.2.2) (fun (u : (Nat → Nat) × (Nat → Int32) × (Nat → Nat → Int32)) (t : State) => va_P D vwCl (wX cI (D.1 99) zz g ad u.1 u.2.1 u.2.2) t.heap ∧ va_D A (wX cI (D.1 99) zz g ad u.1 u.2.1 u.2.2)) A)) rfl rfl pn_RX11 (Nat.le_of_ble_eq_true rfl) (fun p e s m below meth c A hx hb hml hown S hr hlocks hnm hA hP hK hD hXS hS ls hl => ?_)
  have hl : lv_has ls 4 [(0, .ref (g 0)), (1, .int v0), (2, .int v1)] := hl
  have hb_cn : Hid (CBX cn) := hB
  replace hB : CBXh cn := hB
  refine lv_aload_n hx hb (oc_42 0 shX11_check_0) rfl (lvA0 hl) ?_
  refine lv_iload_n hx hb (oc_27 1 (aq_1 shX11_check_0)) rfl (lvA1 hl) ?_
  refine va_csq (runV_rxa (As := [.int v0]) (rest := []) S (q_XkitchenAt l D cI cB cZ zz qq vv bt g ad cn In Fn v0 hB) kV_RX11_114 hK hXS hS hP 0 xo_0 rfl rfl ⟨Nat.le_of_ble_eq_true rfl, Nat.le_of_ble_eq_true rfl⟩ ⟨Nat.le_of_ble_eq_true rfl, Nat.le_of_ble_eq_true rfl⟩ rfl hl.1 rfl (Nat.le_of_ble_eq_true rfl) (oc_182 2 (aq_2 shX11_check_0) uw_0_114)) (fun r_1 h_2 => ?_)
  rcases h_2 with ⟨mr_1, er_1, hr_1, rfl⟩ | ⟨hr_1, rfl⟩
  ·
    refine lv_ifnull hx hb (oc_198 5 (aq_5 shX11_check_0) sgw_0_21) ?_
    refine lv_iload_n hx hb (oc_28 8 (aq_8 shX11_check_0)) rfl (lvA2 hl) ?_
    refine lv_if_lt (tgt := 26) hx hb (oc_155 9 (aq_9 shX11_check_0) sgw_0_17) rfl (fun c_3 => ?_) (fun c_3 => ?_)
    ·
      have tc_3 : (v1.toInt : Int) < 0 := Int32.lt_iff_toInt_lt.mp c_3
      refine lv_bipush (v := (-2)) hx hb (oc_16 26 shX11_check_26 sgb_254) kbc_m2 ?_
      exact W.iret (v := (-2)) hx hb hr (fun t ht hW => ⟨⟨(-2), (cn, In, Fn), rfl, ⟨(Fr.mo Fr.rf (sbl rfl) (sbl rfl) (sbl rfl)), hB, trivial⟩, by rw [ht]; exact hP, hD⟩, hS.F ht⟩) hS.2.2 (oc_172 28 (aq_2 shX11_check_26))
    ·
      have tc_3 : (0 : Int) ≤ v1.toInt := Int32.le_iff_toInt_le.mp (Int32.not_lt.mp c_3)
      refine lv_iload_n hx hb (oc_28 12 (aq_12 shX11_check_0)) rfl (lvA2 hl) ?_
      refine lv_aload_n hx hb (oc_42 13 (aq_13 shX11_check_0)) rfl (lvA0 hl) ?_
      refine gf_RX11_21 S hK hP 0 xo_0 (v := .ref (g 5)) rfl (oc_180 14 (aq_14 shX11_check_0) uw_0_21) ?_
      refine vp_callSi (runV_rxa (As := []) (rest := [.int v1]) S (q_Xlength l D cI cB cZ zz qq vv bt g ad cn In Fn  hB) kV_RX11_152 hK hXS hS hP 1 xo_1 rfl rfl ⟨Nat.le_of_ble_eq_true rfl, Nat.le_of_ble_eq_true rfl⟩ ⟨Nat.le_of_ble_eq_true rfl, Nat.le_of_ble_eq_true rfl⟩ rfl hl.1 rfl (Nat.le_of_ble_eq_true rfl) (oc_182 17 (aq_17 shX11_check_0) uw_0_152)) (fun r_4 h_5 => ?_)
      subst h_5
      refine lv_bipush (v := 16) hx hb (oc_16 20 (aq_20 shX11_check_0) sgb_16) kbc_16 ?_
      refine lv_idiv hx hb (oc_108 22 (aq_22 shX11_check_0)) (by decide) ?_
      refine lv_topi (fun y_6 ey_6 => ?_)
      obtain rfl : y_6 = (nI (((cn 3)) / 16)) := ey_6.trans (nI_div (by (first | omega | (have zz0 := Hid.u hb_cn; omega))) (by decide))
      have : (nI (((cn 3)) / 16)).toInt = (((((cn 3)) / 16) : Nat) : Int) := nI_toInt (by (first | omega | (have zz0 := Hid.u hb_cn; omega)))
      refine lv_icmp_le (tgt := 29) hx hb (oc_164 23 (aq_23 shX11_check_0) sgw_0_6) rfl (fun c_7 => ?_) (fun c_7 => ?_)
      ·
        have tc_7 : (v1.toInt : Int) ≤ (nI (((cn 3)) / 16)).toInt := Int32.le_iff_toInt_le.mp c_7
        refine lv_aload_n hx hb (oc_42 29 (aq_3 shX11_check_26)) rfl (lvA0 hl) ?_
        refine lv_iload_n hx hb (oc_27 30 (aq_4 shX11_check_26)) rfl (lvA1 hl) ?_
        refine lv_iconst (v := 4) hx hb (oc_7 31 (aq_5 shX11_check_26)) kic_4 ?_
        refine lv_iload_n hx hb (oc_28 32 (aq_6 shX11_check_26)) rfl (lvA2 hl) ?_
        refine lv_imul hx hb (oc_104 33 (aq_7 shX11_check_26)) ?_
        refine vp_callSi (runV_rxa (As := [.int v0, .int (4 * v1)]) (rest := []) S (q_XfirstWrong l D cI cB cZ zz qq vv bt g ad cn In Fn v0 (4 * v1) hB) kV_RX11_523 hK hXS hS hP 0 xo_0 rfl rfl ⟨Nat.le_of_ble_eq_true rfl, Nat.le_of_ble_eq_true rfl⟩ ⟨Nat.le_of_ble_eq_true rfl, Nat.le_of_ble_eq_true rfl⟩ rfl hl.1 rfl (Nat.le_of_ble_eq_true rfl) (oc_182 34 (aq_8 shX11_check_26) uw_2_11)) (fun r_8 h_9 => ?_)
        refine lv_istore_n (lv' := [(3, .int r_8), (0, .ref (g 0)), (1, .int v0), (2, .int v1)]) hx hb (oc_62 37 (aq_11 shX11_check_26)) rfl hl (ltb rfl) rfl (fun ls hl => ?_)
        refine lv_aload_n hx hb (oc_42 38 (aq_12 shX11_check_26)) rfl (lvA1 hl) ?_
        refine gf_RX11_21 S hK hP 0 xo_0 (v := .ref (g 5)) rfl (oc_180 39 (aq_13 shX11_check_26) uw_0_21) ?_
        have hFc := free_all hD hS hA
        refine va_callv (runV_xa (As := []) (rest := []) S (q_Xclear l D cI cB cZ zz qq vv bt g ad cn In Fn  s.heap.size hB) kV_RX11_162 hK hXS hS hFc hP hD 1 xo_1 rfl rfl ⟨Nat.le_of_ble_eq_true rfl, Nat.le_of_ble_eq_true rfl⟩ ⟨Nat.le_of_ble_eq_true rfl, Nat.le_of_ble_eq_true rfl⟩ rfl hl.1 rfl (Nat.le_of_ble_eq_true rfl) (oc_182 42 (aq_16 shX11_check_26) uw_0_162)) hS (fun q _ h => hFc q h) hFc (fun u t H1 locs ht hvm wh_11 hB1 hz1 hk1 hS => ?_)
        obtain ⟨cn11, In11, Fn11⟩ := u
        obtain ⟨hP1, hD1⟩ := hB1
        rw [ht] at hP1
        have hP : va_P D vwCl (wX cI (D.1 99) zz g ad cn11 In11 Fn11) H1 := hP1
        have hD : va_D A (wX cI (D.1 99) zz g ad cn11 In11 Fn11) := hD1.weaken (fun _ _ _ h => hFc _ h)
        generalize H1 = H at hP hS ⊢
        have vh_11 : (fun c2 I2 F2 => Fr [3] [] [] cn In Fn c2 I2 F2 ∧ CBX c2 ∧ (c2 3 = 0)) cn11 In11 Fn11 := wh_11
        obtain ⟨hfc11, hIn11, h_11⟩ := vh_11
        obtain rfl : In = In11 := (funext (fun k => hfc11.2.1 k List.not_mem_nil)).symm
        obtain rfl : Fn = Fn11 := (funext (fun k => hfc11.2.2 k List.not_mem_nil)).symm
        have hf11 : Fr [3] [] [] cn In Fn cn11 In Fn := Fr.mo (Fr.tr (Fr.rf (cn := cn) (In := In) (Fn := Fn)) hfc11) (sbl rfl) (sbl rfl) (sbl rfl)
        have hb_cn11 : Hid (CBX cn11) := hIn11
        replace hIn11 : CBXh cn11 := hIn11
        have : cn11 6 = (cn 6) := hfc11.1 6 (nml rfl)
        have : cn11 31 = (cn 31) := hfc11.1 31 (nml rfl)
        have : cn11 32 = (cn 32) := hfc11.1 32 (nml rfl)
        have hq_cn11 : Hid (cn11 0 = (cn 0) ∧ cn11 1 = (cn 1) ∧ cn11 2 = (cn 2) ∧ cn11 4 = (cn 4) ∧ cn11 5 = (cn 5) ∧ cn11 10 = (cn 10) ∧ cn11 11 = (cn 11) ∧ cn11 12 = (cn 12) ∧ cn11 13 = (cn 13) ∧ cn11 14 = (cn 14) ∧ cn11 15 = (cn 15) ∧ cn11 20 = (cn 20) ∧ cn11 21 = (cn 21) ∧ cn11 22 = (cn 22) ∧ cn11 23 = (cn 23) ∧ cn11 24 = (cn 24) ∧ cn11 25 = (cn 25)) := Hid.i (p := cn11 0 = (cn 0) ∧ cn11 1 = (cn 1) ∧ cn11 2 = (cn 2) ∧ cn11 4 = (cn 4) ∧ cn11 5 = (cn 5) ∧ cn11 10 = (cn 10) ∧ cn11 11 = (cn 11) ∧ cn11 12 = (cn 12) ∧ cn11 13 = (cn 13) ∧ cn11 14 = (cn 14) ∧ cn11 15 = (cn 15) ∧ cn11 20 = (cn 20) ∧ cn11 21 = (cn 21) ∧ cn11 22 = (cn 22) ∧ cn11 23 = (cn 23) ∧ cn11 24 = (cn 24) ∧ cn11 25 = (cn 25)) ⟨hfc11.1 0 (nml rfl), hfc11.1 1 (nml rfl), hfc11.1 2 (nml rfl), hfc11.1 4 (nml rfl), hfc11.1 5 (nml rfl), hfc11.1 10 (nml rfl), hfc11.1 11 (nml rfl), hfc11.1 12 (nml rfl), hfc11.1 13 (nml rfl), hfc11.1 14 (nml rfl), hfc11.1 15 (nml rfl), hfc11.1 20 (nml rfl), hfc11.1 21 (nml rfl), hfc11.1 22 (nml rfl), hfc11.1 23 (nml rfl), hfc11.1 24 (nml rfl), hfc11.1 25 (nml rfl)⟩
        refine lv_iload_n hx hb (oc_29 45 (aq_19 shX11_check_26)) rfl (lvA0 hl) ?_
        exact W.iret (v := r_8) hx hb hr (fun t ht hW => ⟨⟨r_8, (cn11, In, Fn), rfl, ⟨(Fr.mo hf11 (sbl rfl) (sbl rfl) (sbl rfl)), hIn11, trivial⟩, by rw [ht]; exact hP, hD⟩, hS.F ht⟩) hS.2.2 (oc_172 46 (aq_20 shX11_check_26))
      ·
        have tc_7 : ((nI (((cn 3)) / 16)).toInt : Int) < v1.toInt := Int32.lt_iff_toInt_lt.mp (Int32.not_le.mp c_7)
        refine lv_bipush (v := (-2)) hx hb (oc_16 26 shX11_check_26 sgb_254) kbc_m2 ?_
        exact W.iret (v := (-2)) hx hb hr (fun t ht hW => ⟨⟨(-2), (cn, In, Fn), rfl, ⟨(Fr.mo Fr.rf (sbl rfl) (sbl rfl) (sbl rfl)), hB, trivial⟩, by rw [ht]; exact hP, hD⟩, hS.F ht⟩) hS.2.2 (oc_172 28 (aq_2 shX11_check_26))
  ·
    refine lv_ifnullN (tgt := 26) hx hb (oc_198 5 (aq_5 shX11_check_0) sgw_0_21) rfl ?_
    refine lv_bipush (v := (-2)) hx hb (oc_16 26 shX11_check_26 sgb_254) kbc_m2 ?_
    exact W.iret (v := (-2)) hx hb hr (fun t ht hW => ⟨⟨(-2), (cn, In, Fn), rfl, ⟨(Fr.mo Fr.rf (sbl rfl) (sbl rfl) (sbl rfl)), hB, trivial⟩, by rw [ht]; exact hP, hD⟩, hS.F ht⟩) hS.2.2 (oc_172 28 (aq_2 shX11_check_26))
set_option maxRecDepth 100000 in
set_option maxHeartbeats 4000000 in
theorem q_XbatchIs (l : Launch) (D : va_G) (cI cB cZ : ClassId) (zz qq vv : Nat) (bt : Nat → Int32) (g : Nat → Nat) (ad : Nat → Nat → Nat) (cn : Nat → Nat) (In : Nat → Int32) (Fn : Nat → Nat → Int32) (v0 v1 : Int32) (hB : CBX cn) : Met l yX11_batchIs (CWS yX11_batchIs cX11_batchIs 4 (some .int)) (RM 5 0 0) (PBrx [.ref (g 0), .int v0, .int v1] D cI cB cZ zz qq vv bt (wX cI (D.1 99) zz g ad cn In Fn)) (vp_Si (fun _ => True)) 0 0 (fun _ => False) := by
  refine en_rx rfl pn_RX11 (Nat.le_of_ble_eq_true rfl) (fun p e s m below meth c hx hb hml hown S hr hlocks hnm hP hK hXS hS ls hl => ?_)
  have hl : lv_has ls 4 [(0, .ref (g 0)), (1, .int v0), (2, .int v1)] := hl
  have hb_cn : Hid (CBX cn) := hB
  replace hB : CBXh cn := hB
  refine lv_aload_n hx hb (oc_42 0 shX11_batchIs_0) rfl (lvA0 hl) ?_
  refine lv_iload_n hx hb (oc_27 1 (aq_1 shX11_batchIs_0)) rfl (lvA1 hl) ?_
  refine va_csq (runV_rxa (As := [.int v0]) (rest := []) S (q_XbatchAt l D cI cB cZ zz qq vv bt g ad cn In Fn v0 hB) kV_RX11_382 hK hXS hS hP 0 xo_0 rfl rfl ⟨Nat.le_of_ble_eq_true rfl, Nat.le_of_ble_eq_true rfl⟩ ⟨Nat.le_of_ble_eq_true rfl, Nat.le_of_ble_eq_true rfl⟩ rfl hl.1 rfl (Nat.le_of_ble_eq_true rfl) (oc_182 2 (aq_2 shX11_batchIs_0) uw_1_126)) (fun r_1 h_2 => ?_)
  rcases h_2 with ⟨mr_1, er_1, hr_1, rfl⟩ | ⟨hr_1, rfl⟩
  ·
    refine lv_astore_n (lv' := [(3, .ref (ad 12 mr_1)), (0, .ref (g 0)), (1, .int v0), (2, .int v1)]) hx hb (oc_78 5 (aq_5 shX11_batchIs_0)) rfl hl (ltb rfl) rfl (fun ls hl => ?_)
    refine lv_aload_n hx hb (oc_45 6 (aq_6 shX11_batchIs_0)) rfl (lvA0 hl) ?_
    refine lv_ifnonnull (tgt := 12) hx hb (oc_199 7 (aq_7 shX11_batchIs_0) sgw_0_5) rfl ?_
    refine lv_iload_n hx hb (oc_28 12 (aq_12 shX11_batchIs_0)) rfl (lvA3 hl) ?_
    rcases (by (first | omega | (have zz0 := Hid.u hb_cn; omega)) : v1.toInt < 0 ∨ 4 < v1.toInt ∨ v1.toInt = 0 ∨ v1.toInt = 1 ∨ v1.toInt = 2 ∨ v1.toInt = 3 ∨ v1.toInt = 4) with c_3 | c_3 | c_3 | c_3 | c_3 | c_3 | c_3
    ·
      refine lv_tableOut (tgt := 80) hx hb dX11_batchIs_13 (Or.inl c_3) (by decide) ?_
      refine lv_iconst (v := (-1)) hx hb (oc_2 80 (aq_7 shX11_batchIs_73)) kic_m1 ?_
      exact W.iret (v := (-1)) hx hb hr (fun t ht hW => ⟨(-1), rfl, trivial, ht⟩) (fun _ h => absurd h List.not_mem_nil) (oc_172 81 (aq_8 shX11_batchIs_73))
    ·
      refine lv_tableOut (tgt := 80) hx hb dX11_batchIs_13 (Or.inr c_3) (by decide) ?_
      refine lv_iconst (v := (-1)) hx hb (oc_2 80 (aq_7 shX11_batchIs_73)) kic_m1 ?_
      exact W.iret (v := (-1)) hx hb hr (fun t ht hW => ⟨(-1), rfl, trivial, ht⟩) (fun _ h => absurd h List.not_mem_nil) (oc_172 81 (aq_8 shX11_batchIs_73))
    ·
      refine lv_tableIn (tgt := 48) (off := 35) hx hb dX11_batchIs_13 (by (first | omega | (have zz0 := Hid.u hb_cn; omega))) (by (first | omega | (have zz0 := Hid.u hb_cn; omega))) (by rw [c_3]; rfl) (by decide) ?_
      refine lv_aload_n hx hb (oc_45 48 shX11_batchIs_48) rfl (lvA0 hl) ?_
      have kf_1 : mr_1 < cn 12 := by (first | omega | (have zz0 := Hid.u hb_cn; omega))
      refine gf_RX11_342 S hK hP _ (xf_2 kf_1) (v := .int ((Fn 146) mr_1)) rfl (oc_180 49 (aq_1 shX11_batchIs_48) uw_1_86) ?_
      exact W.iret (v := ((Fn 146) mr_1)) hx hb hr (fun t ht hW => ⟨((Fn 146) mr_1), rfl, trivial, ht⟩) (fun _ h => absurd h List.not_mem_nil) (oc_172 52 (aq_4 shX11_batchIs_48))
    ·
      refine lv_tableIn (tgt := 53) (off := 40) hx hb dX11_batchIs_13 (by (first | omega | (have zz0 := Hid.u hb_cn; omega))) (by (first | omega | (have zz0 := Hid.u hb_cn; omega))) (by rw [c_3]; rfl) (by decide) ?_
      refine lv_aload_n hx hb (oc_45 53 (aq_5 shX11_batchIs_48)) rfl (lvA0 hl) ?_
      have kf_2 : mr_1 < cn 12 := by (first | omega | (have zz0 := Hid.u hb_cn; omega))
      refine vp_callSi (runV_rxa (As := []) (rest := []) S (q_Xwater l D cI cB cZ zz qq vv bt g ad cn In Fn mr_1 hB (by (first | omega | (have zz0 := Hid.u hb_cn; omega)))) kV_RX11_343 hK hXS hS hP _ (xf_2 kf_2) rfl rfl ⟨Nat.le_of_ble_eq_true rfl, Nat.le_of_ble_eq_true rfl⟩ ⟨Nat.le_of_ble_eq_true rfl, Nat.le_of_ble_eq_true rfl⟩ rfl hl.1 rfl (Nat.le_of_ble_eq_true rfl) (oc_182 54 (aq_6 shX11_batchIs_48) uw_1_87)) (fun r_4 h_5 => ?_)
      exact W.iret (v := r_4) hx hb hr (fun t ht hW => ⟨r_4, rfl, trivial, ht⟩) (fun _ h => absurd h List.not_mem_nil) (oc_172 57 (aq_9 shX11_batchIs_48))
    ·
      refine lv_tableIn (tgt := 58) (off := 45) hx hb dX11_batchIs_13 (by (first | omega | (have zz0 := Hid.u hb_cn; omega))) (by (first | omega | (have zz0 := Hid.u hb_cn; omega))) (by rw [c_3]; rfl) (by decide) ?_
      refine lv_aload_n hx hb (oc_45 58 (aq_10 shX11_batchIs_48)) rfl (lvA0 hl) ?_
      have kf_3 : mr_1 < cn 12 := by (first | omega | (have zz0 := Hid.u hb_cn; omega))
      refine vp_callSi (runV_rxa (As := []) (rest := []) S (q_Xacid l D cI cB cZ zz qq vv bt g ad cn In Fn mr_1 hB (by (first | omega | (have zz0 := Hid.u hb_cn; omega)))) kV_RX11_345 hK hXS hS hP _ (xf_2 kf_3) rfl rfl ⟨Nat.le_of_ble_eq_true rfl, Nat.le_of_ble_eq_true rfl⟩ ⟨Nat.le_of_ble_eq_true rfl, Nat.le_of_ble_eq_true rfl⟩ rfl hl.1 rfl (Nat.le_of_ble_eq_true rfl) (oc_182 59 (aq_11 shX11_batchIs_48) uw_1_89)) (fun r_6 h_7 => ?_)
      exact W.iret (v := r_6) hx hb hr (fun t ht hW => ⟨r_6, rfl, trivial, ht⟩) (fun _ h => absurd h List.not_mem_nil) (oc_172 62 (aq_14 shX11_batchIs_48))
    ·
      refine lv_tableIn (tgt := 63) (off := 50) hx hb dX11_batchIs_13 (by (first | omega | (have zz0 := Hid.u hb_cn; omega))) (by (first | omega | (have zz0 := Hid.u hb_cn; omega))) (by rw [c_3]; rfl) (by decide) ?_
      refine lv_aload_n hx hb (oc_45 63 (aq_15 shX11_batchIs_48)) rfl (lvA0 hl) ?_
      have kf_4 : mr_1 < cn 12 := by (first | omega | (have zz0 := Hid.u hb_cn; omega))
      refine gf_RX11_342 S hK hP _ (xf_2 kf_4) (v := .int ((Fn 146) mr_1)) rfl (oc_180 64 (aq_16 shX11_batchIs_48) uw_1_86) ?_
      refine lv_aload_n hx hb (oc_42 67 (aq_19 shX11_batchIs_48)) rfl (lvA1 hl) ?_
      refine lv_iload_n hx hb (oc_27 68 (aq_20 shX11_batchIs_48)) rfl (lvA2 hl) ?_
      refine lv_iconst (v := (-1)) hx hb (oc_2 69 (aq_21 shX11_batchIs_48)) kic_m1 ?_
      refine vp_callSi (runV_rxa (As := [.int v0, .int (-1)]) (rest := [.int ((Fn 146) mr_1)]) S (q_XprovenLitres l D cI cB cZ zz qq vv bt g ad cn In Fn v0 (-1) hB) kV_RX11_385 hK hXS hS hP 0 xo_0 rfl rfl ⟨Nat.le_of_ble_eq_true rfl, Nat.le_of_ble_eq_true rfl⟩ ⟨Nat.le_of_ble_eq_true rfl, Nat.le_of_ble_eq_true rfl⟩ rfl hl.1 rfl (Nat.le_of_ble_eq_true rfl) (oc_182 70 (aq_22 shX11_batchIs_48) uw_1_129)) (fun r_8 h_9 => ?_)
      refine lv_isub hx hb (oc_100 73 shX11_batchIs_73) ?_
      exact W.iret (v := (((Fn 146) mr_1) - r_8)) hx hb hr (fun t ht hW => ⟨(((Fn 146) mr_1) - r_8), rfl, trivial, ht⟩) (fun _ h => absurd h List.not_mem_nil) (oc_172 74 (aq_1 shX11_batchIs_73))
    ·
      refine lv_tableIn (tgt := 75) (off := 62) hx hb dX11_batchIs_13 (by (first | omega | (have zz0 := Hid.u hb_cn; omega))) (by (first | omega | (have zz0 := Hid.u hb_cn; omega))) (by rw [c_3]; rfl) (by decide) ?_
      refine lv_aload_n hx hb (oc_45 75 (aq_2 shX11_batchIs_73)) rfl (lvA0 hl) ?_
      have kf_5 : mr_1 < cn 12 := by (first | omega | (have zz0 := Hid.u hb_cn; omega))
      refine gf_RX11_388 S hK hP _ (xf_2 kf_5) (v := .int ((Fn 144) mr_1)) rfl (oc_180 76 (aq_3 shX11_batchIs_73) uw_1_132) ?_
      exact W.iret (v := ((Fn 144) mr_1)) hx hb hr (fun t ht hW => ⟨((Fn 144) mr_1), rfl, trivial, ht⟩) (fun _ h => absurd h List.not_mem_nil) (oc_172 79 (aq_6 shX11_batchIs_73))
  ·
    refine lv_astore_nN (lv' := [(3, .null), (0, .ref (g 0)), (1, .int v0), (2, .int v1)]) hx hb (oc_78 5 (aq_5 shX11_batchIs_0)) rfl hl (ltb rfl) rfl (fun ls hl => ?_)
    refine lv_aload_nN hx hb (oc_45 6 (aq_6 shX11_batchIs_0)) rfl (lvA0 hl) ?_
    refine lv_ifnonnullN hx hb (oc_199 7 (aq_7 shX11_batchIs_0) sgw_0_5) ?_
    refine lv_iconst (v := (-1)) hx hb (oc_2 10 (aq_10 shX11_batchIs_0)) kic_m1 ?_
    exact W.iret (v := (-1)) hx hb hr (fun t ht hW => ⟨(-1), rfl, trivial, ht⟩) (fun _ h => absurd h List.not_mem_nil) (oc_172 11 (aq_11 shX11_batchIs_0))
set_option maxRecDepth 100000 in
set_option maxHeartbeats 4000000 in
theorem q_XcanNull (l : Launch) (D : va_G) (cI cB cZ : ClassId) (zz qq vv : Nat) (bt : Nat → Int32) (g : Nat → Nat) (ad : Nat → Nat → Nat) (cn : Nat → Nat) (In : Nat → Int32) (Fn : Nat → Nat → Int32)  (hB : CBX cn) : Met l yX11_canBeBatched (CWS yX11_canBeBatched cX11_canBeBatched 2 (some .boolean)) (RM 0 0 0) (PBrx [.ref (g 0), .null] D cI cB cZ zz qq vv bt (wX cI (D.1 99) zz g ad cn In Fn)) (vp_Si (fun r => r = 0)) 0 0 (fun _ => False) := by
  refine en_rx rfl pn_RX11 (Nat.le_of_ble_eq_true rfl) (fun p e s m below meth c hx hb hml hown S hr hlocks hnm hP hK hXS hS ls hl => ?_)
  have hl : lv_has ls 2 [(0, .ref (g 0)), (1, .null)] := hl
  have hb_cn : Hid (CBX cn) := hB
  replace hB : CBXh cn := hB
  refine lv_aload_nN hx hb (oc_43 0 shX11_canBeBatched_0) rfl (lvA1 hl) ?_
  refine lv_ifnullN (tgt := 26) hx hb (oc_198 1 (aq_1 shX11_canBeBatched_0) sgw_0_25) rfl ?_
  refine lv_iconst (v := 0) hx hb (oc_3 26 shX11_canBeBatched_26) kic_0 ?_
  exact W.zret (v := 0) hx hb hr rfl (fun t ht hW => ⟨0, rfl, rfl, ht⟩) (fun _ h => absurd h List.not_mem_nil) dX11_canBeBatched_27
set_option maxRecDepth 100000 in
set_option maxHeartbeats 4000000 in
theorem q_XcanLoad (l : Launch) (D : va_G) (cI cB cZ : ClassId) (zz qq vv : Nat) (bt : Nat → Int32) (g : Nat → Nat) (ad : Nat → Nat → Nat) (cn : Nat → Nat) (In : Nat → Int32) (Fn : Nat → Nat → Int32) (k0 : Nat) (hB : CBX cn) (hk : k0 < cn 11) : Met l yX11_canBeBatched (CWS yX11_canBeBatched cX11_canBeBatched 2 (some .boolean)) (RM 0 0 0) (PBrx [.ref (g 0), .ref (ad 11 k0)] D cI cB cZ zz qq vv bt (wX cI (D.1 99) zz g ad cn In Fn)) (vp_Si (fun r => r = 0 ∨ r = 1)) 0 0 (fun _ => False) := by
  refine en_rx rfl pn_RX11 (Nat.le_of_ble_eq_true rfl) (fun p e s m below meth c hx hb hml hown S hr hlocks hnm hP hK hXS hS ls hl => ?_)
  have hl : lv_has ls 2 [(0, .ref (g 0)), (1, .ref (ad 11 k0))] := hl
  have hb_cn : Hid (CBX cn) := hB
  replace hB : CBXh cn := hB
  refine lv_aload_n hx hb (oc_43 0 shX11_canBeBatched_0) rfl (lvA1 hl) ?_
  refine lv_ifnull hx hb (oc_198 1 (aq_1 shX11_canBeBatched_0) sgw_0_25) ?_
  refine lv_aload_n hx hb (oc_43 4 (aq_4 shX11_canBeBatched_0)) rfl (lvA1 hl) ?_
  refine gf_RX11_349 S hK hP _ (xf_1 hk) (v := .int ((Fn 129) k0)) rfl (oc_180 5 (aq_5 shX11_canBeBatched_0) uw_1_93) ?_
  refine lv_if_ne (tgt := 26) hx hb (oc_154 8 (aq_8 shX11_canBeBatched_0) sgw_0_18) rfl (fun c_1 => ?_) (fun c_1 => ?_)
  ·
    have tc_1 : (((Fn 129) k0).toInt : Int) ≠ 0 := fun q => c_1 (Int32.toInt_inj.mp q)
    refine lv_iconst (v := 0) hx hb (oc_3 26 shX11_canBeBatched_26) kic_0 ?_
    exact W.zret (v := 0) hx hb hr rfl (fun t ht hW => ⟨0, rfl, (Or.inl rfl), ht⟩) (fun _ h => absurd h List.not_mem_nil) dX11_canBeBatched_27
  ·
    have tc_1 : (((Fn 129) k0).toInt : Int) = 0 := congrArg Int32.toInt c_1
    refine lv_aload_n hx hb (oc_43 11 (aq_11 shX11_canBeBatched_0)) rfl (lvA1 hl) ?_
    refine gf_RX11_235 S hK hP _ (xf_1 hk) (v := .int ((Fn 125) k0)) rfl (oc_180 12 (aq_12 shX11_canBeBatched_0) uw_0_235) ?_
    refine lv_aload_n hx hb (oc_42 15 (aq_15 shX11_canBeBatched_0)) rfl (lvA0 hl) ?_
    refine gf_RX11_103 S hK hP 0 xo_0 (v := .int (nI (cn 0))) rfl (oc_180 16 (aq_16 shX11_canBeBatched_0) uw_0_103) ?_
    have : (nI (cn 0)).toInt = (((cn 0) : Nat) : Int) := nI_toInt (by (first | omega | (have zz0 := Hid.u hb_cn; omega)))
    refine lv_icmp_gt (tgt := 26) hx hb (oc_163 19 (aq_19 shX11_canBeBatched_0) sgw_0_7) rfl (fun c_2 => ?_) (fun c_2 => ?_)
    ·
      have tc_2 : ((nI (cn 0)).toInt : Int) < ((Fn 125) k0).toInt := Int32.lt_iff_toInt_lt.mp c_2
      refine lv_iconst (v := 0) hx hb (oc_3 26 shX11_canBeBatched_26) kic_0 ?_
      exact W.zret (v := 0) hx hb hr rfl (fun t ht hW => ⟨0, rfl, (Or.inl rfl), ht⟩) (fun _ h => absurd h List.not_mem_nil) dX11_canBeBatched_27
    ·
      have tc_2 : (((Fn 125) k0).toInt : Int) ≤ (nI (cn 0)).toInt := Int32.le_iff_toInt_le.mp (Int32.not_lt.mp c_2)
      refine lv_iconst (v := 1) hx hb (oc_4 22 (aq_22 shX11_canBeBatched_0)) kic_1 ?_
      refine lv_goto (tgt := 27) hx hb (oc_167 23 (aq_23 shX11_canBeBatched_0) sgw_0_4) rfl ?_
      exact W.zret (v := 1) hx hb hr rfl (fun t ht hW => ⟨1, rfl, (Or.inr rfl), ht⟩) (fun _ h => absurd h List.not_mem_nil) dX11_canBeBatched_27
set_option maxRecDepth 100000 in
set_option maxHeartbeats 4000000 in
theorem q_XcofNull (l : Launch) (D : va_G) (cI cB cZ : ClassId) (zz qq vv : Nat) (bt : Nat → Int32) (g : Nat → Nat) (ad : Nat → Nat → Nat) (cn : Nat → Nat) (In : Nat → Int32) (Fn : Nat → Nat → Int32) (v0 : Int32) (hB : CBX cn) : Met l yX11_countOfKitchen (CWS yX11_countOfKitchen cX11_countOfKitchen 3 (some .int)) (RM 0 0 0) (PBrx [.ref (g 0), .null, .int v0] D cI cB cZ zz qq vv bt (wX cI (D.1 99) zz g ad cn In Fn)) (vp_Si (fun _ => True)) 0 0 (fun _ => False) := by
  refine en_rx rfl pn_RX11 (Nat.le_of_ble_eq_true rfl) (fun p e s m below meth c hx hb hml hown S hr hlocks hnm hP hK hXS hS ls hl => ?_)
  have hl : lv_has ls 3 [(0, .ref (g 0)), (1, .null), (2, .int v0)] := hl
  have hb_cn : Hid (CBX cn) := hB
  replace hB : CBXh cn := hB
  refine lv_aload_nN hx hb (oc_43 0 shX11_countOfKitchen_0) rfl (lvA1 hl) ?_
  refine lv_ifnonnullN hx hb (oc_199 1 (aq_1 shX11_countOfKitchen_0) sgw_0_5) ?_
  refine lv_iconst (v := (-1)) hx hb (oc_2 4 (aq_4 shX11_countOfKitchen_0)) kic_m1 ?_
  exact W.iret (v := (-1)) hx hb hr (fun t ht hW => ⟨(-1), rfl, trivial, ht⟩) (fun _ h => absurd h List.not_mem_nil) (oc_172 5 (aq_5 shX11_countOfKitchen_0))
set_option maxRecDepth 100000 in
set_option maxHeartbeats 4000000 in
theorem q_XcofKitchen (l : Launch) (D : va_G) (cI cB cZ : ClassId) (zz qq vv : Nat) (bt : Nat → Int32) (g : Nat → Nat) (ad : Nat → Nat → Nat) (cn : Nat → Nat) (In : Nat → Int32) (Fn : Nat → Nat → Int32) (k0 : Nat) (v0 : Int32) (hB : CBX cn) (hk : k0 < cn 10) (hT : (∀ k : Nat, k < cn 10 → ad 3 k < cn 6) ∧ ad 4 0 < cn 6 ∧ ad 4 1 < cn 6) : Met l yX11_countOfKitchen (CWS yX11_countOfKitchen cX11_countOfKitchen 3 (some .int)) (RM 0 0 0) (PBrx [.ref (g 0), .ref (ad 10 k0), .int v0] D cI cB cZ zz qq vv bt (wX cI (D.1 99) zz g ad cn In Fn)) (vp_Si (fun _ => True)) 0 0 (fun _ => False) := by
  refine en_rx rfl pn_RX11 (Nat.le_of_ble_eq_true rfl) (fun p e s m below meth c hx hb hml hown S hr hlocks hnm hP hK hXS hS ls hl => ?_)
  have hl : lv_has ls 3 [(0, .ref (g 0)), (1, .ref (ad 10 k0)), (2, .int v0)] := hl
  have hb_cn : Hid (CBX cn) := hB
  replace hB : CBXh cn := hB
  refine lv_aload_n hx hb (oc_43 0 shX11_countOfKitchen_0) rfl (lvA1 hl) ?_
  refine lv_ifnonnull (tgt := 6) hx hb (oc_199 1 (aq_1 shX11_countOfKitchen_0) sgw_0_5) rfl ?_
  refine lv_iload_n hx hb (oc_28 6 (aq_6 shX11_countOfKitchen_0)) rfl (lvA2 hl) ?_
  refine lv_iconst (v := 1) hx hb (oc_4 7 (aq_7 shX11_countOfKitchen_0)) kic_1 ?_
  refine lv_icmp_ne (tgt := 21) hx hb (oc_160 8 (aq_8 shX11_countOfKitchen_0) sgw_0_13) rfl (fun c_1 => ?_) (fun c_1 => ?_)
  ·
    have tc_1 : (v0.toInt : Int) ≠ 1 := fun q => c_1 (Int32.toInt_inj.mp q)
    refine lv_iload_n hx hb (oc_28 21 (aq_21 shX11_countOfKitchen_0)) rfl (lvA2 hl) ?_
    refine lv_iconst (v := 2) hx hb (oc_5 22 (aq_22 shX11_countOfKitchen_0)) kic_2 ?_
    refine lv_icmp_ne (tgt := 33) hx hb (oc_160 23 (aq_23 shX11_countOfKitchen_0) sgw_0_10) rfl (fun c_2 => ?_) (fun c_2 => ?_)
    ·
      have tc_2 : (v0.toInt : Int) ≠ 2 := fun q => c_2 (Int32.toInt_inj.mp q)
      refine lv_aload_n hx hb (oc_43 33 (aq_7 shX11_countOfKitchen_26)) rfl (lvA1 hl) ?_
      refine gf_RX11_260 S hK hP _ (xf_0 hk) (v := .int ((Fn 109) k0)) rfl (oc_180 34 (aq_8 shX11_countOfKitchen_26) uw_1_4) ?_
      exact W.iret (v := ((Fn 109) k0)) hx hb hr (fun t ht hW => ⟨((Fn 109) k0), rfl, trivial, ht⟩) (fun _ h => absurd h List.not_mem_nil) (oc_172 37 (aq_11 shX11_countOfKitchen_26))
    ·
      have tc_2 : (v0.toInt : Int) = 2 := congrArg Int32.toInt c_2
      refine lv_aload_n hx hb (oc_43 26 shX11_countOfKitchen_26) rfl (lvA1 hl) ?_
      refine gf_RX11_118 S hK hP _ (xf_0 hk) (v := .int ((Fn 104) k0)) rfl (oc_180 27 (aq_1 shX11_countOfKitchen_26) uw_0_118) ?_
      refine lv_goto (tgt := 37) hx hb (oc_167 30 (aq_4 shX11_countOfKitchen_26) sgw_0_7) rfl ?_
      exact W.iret (v := ((Fn 104) k0)) hx hb hr (fun t ht hW => ⟨((Fn 104) k0), rfl, trivial, ht⟩) (fun _ h => absurd h List.not_mem_nil) (oc_172 37 (aq_11 shX11_countOfKitchen_26))
  ·
    have tc_1 : (v0.toInt : Int) = 1 := congrArg Int32.toInt c_1
    refine lv_aload_n hx hb (oc_43 11 (aq_11 shX11_countOfKitchen_0)) rfl (lvA1 hl) ?_
    refine gf_RX11_168 S hK hP _ (xf_0 hk) (v := .ref (ad 5 (ad 3 k0))) rfl (oc_180 12 (aq_12 shX11_countOfKitchen_0) uw_0_168) ?_
    refine gf_RX11_171 S hK hP _ (xf_7 (hT.1 k0 (by (first | omega | (have zz0 := Hid.u hb_cn; omega))))) (v := .int ((Fn 198) (ad 3 k0))) rfl (oc_180 15 (aq_15 shX11_countOfKitchen_0) uw_0_171) ?_
    refine lv_goto (tgt := 37) hx hb (oc_167 18 (aq_18 shX11_countOfKitchen_0) sgw_0_19) rfl ?_
    exact W.iret (v := ((Fn 198) (ad 3 k0))) hx hb hr (fun t ht hW => ⟨((Fn 198) (ad 3 k0)), rfl, trivial, ht⟩) (fun _ h => absurd h List.not_mem_nil) (oc_172 37 (aq_11 shX11_countOfKitchen_26))
set_option maxRecDepth 100000 in
set_option maxHeartbeats 4000000 in
theorem q_XcountOfAll (l : Launch) (D : va_G) (cI cB cZ : ClassId) (zz qq vv : Nat) (bt : Nat → Int32) (g : Nat → Nat) (ad : Nat → Nat → Nat) (cn : Nat → Nat) (In : Nat → Int32) (Fn : Nat → Nat → Int32) (v0 : Int32) (hB : CBX cn) (hT : (∀ k : Nat, k < cn 10 → ad 3 k < cn 6) ∧ ad 4 0 < cn 6 ∧ ad 4 1 < cn 6) (hv : 0 ≤ v0.toInt ∧ v0.toInt ≤ 9) : Met l yX11_countOfAll (CWS yX11_countOfAll cX11_countOfAll 2 (some .int)) (RM 2 0 0) (PBrx [.ref (g 0), .int v0] D cI cB cZ zz qq vv bt (wX cI (D.1 99) zz g ad cn In Fn)) (vp_Si (fun _ => True)) 0 0 (fun _ => False) := by
  refine en_rx rfl pn_RX11 (Nat.le_of_ble_eq_true rfl) (fun p e s m below meth c hx hb hml hown S hr hlocks hnm hP hK hXS hS ls hl => ?_)
  have hl : lv_has ls 2 [(0, .ref (g 0)), (1, .int v0)] := hl
  have hb_cn : Hid (CBX cn) := hB
  replace hB : CBXh cn := hB
  refine lv_iload_n hx hb (oc_27 0 shX11_countOfAll_0) rfl (lvA1 hl) ?_
  rcases (by (first | omega | (have zz0 := Hid.u hb_cn; omega)) : v0.toInt < 0 ∨ 8 < v0.toInt ∨ v0.toInt = 0 ∨ v0.toInt = 1 ∨ v0.toInt = 2 ∨ v0.toInt = 3 ∨ v0.toInt = 4 ∨ v0.toInt = 5 ∨ v0.toInt = 6 ∨ v0.toInt = 7 ∨ v0.toInt = 8) with c_1 | c_1 | c_1 | c_1 | c_1 | c_1 | c_1 | c_1 | c_1 | c_1 | c_1
  ·
    exfalso; (first | omega | (have zz0 := Hid.u hb_cn; omega))
  ·
    refine lv_tableOut (tgt := 118) hx hb dX11_countOfAll_1 (Or.inr c_1) (by decide) ?_
    refine lv_aload_n hx hb (oc_42 118 (aq_17 shX11_countOfAll_101)) rfl (lvA0 hl) ?_
    refine gf_RX11_502 S hK hP 0 xo_0 (v := .int (nI (cn 2))) rfl (oc_180 119 (aq_18 shX11_countOfAll_101) uw_1_246) ?_
    exact W.iret (v := (nI (cn 2))) hx hb hr (fun t ht hW => ⟨(nI (cn 2)), rfl, trivial, ht⟩) (fun _ h => absurd h List.not_mem_nil) (oc_172 122 (aq_21 shX11_countOfAll_101))
  ·
    refine lv_tableIn (tgt := 52) (off := 51) hx hb dX11_countOfAll_1 (by (first | omega | (have zz0 := Hid.u hb_cn; omega))) (by (first | omega | (have zz0 := Hid.u hb_cn; omega))) (by rw [c_1]; rfl) (by decide) ?_
    refine lv_aload_n hx hb (oc_42 52 shX11_countOfAll_52) rfl (lvA0 hl) ?_
    refine gf_RX11_103 S hK hP 0 xo_0 (v := .int (nI (cn 0))) rfl (oc_180 53 (aq_1 shX11_countOfAll_52) uw_0_103) ?_
    exact W.iret (v := (nI (cn 0))) hx hb hr (fun t ht hW => ⟨(nI (cn 0)), rfl, trivial, ht⟩) (fun _ h => absurd h List.not_mem_nil) (oc_172 56 (aq_4 shX11_countOfAll_52))
  ·
    refine lv_tableIn (tgt := 57) (off := 56) hx hb dX11_countOfAll_1 (by (first | omega | (have zz0 := Hid.u hb_cn; omega))) (by (first | omega | (have zz0 := Hid.u hb_cn; omega))) (by rw [c_1]; rfl) (by decide) ?_
    refine lv_aload_n hx hb (oc_42 57 (aq_5 shX11_countOfAll_52)) rfl (lvA0 hl) ?_
    refine gf_RX11_61 S hK hP 0 xo_0 (v := .ref (g 10)) rfl (oc_180 58 (aq_6 shX11_countOfAll_52) uw_0_61) ?_
    refine vp_callSi (runV_r (As := []) (rest := []) S (q_l_size l D cI cB cZ (g 10) (if (cn 10) = 0 then zz else ad 2 0) (In 10) (nI (cn 10))) kV_RX11_84 hK hP [24] (one_is xo_24) 24 xo_24 rfl rfl ⟨Nat.le_of_ble_eq_true rfl, Nat.le_of_ble_eq_true rfl⟩ ⟨Nat.le_of_ble_eq_true rfl, Nat.le_of_ble_eq_true rfl⟩ rfl hl.1 rfl (Nat.le_of_ble_eq_true rfl) (oc_182 61 (aq_9 shX11_countOfAll_52) uw_0_84)) (fun r_2 h_3 => ?_)
    subst h_3
    exact W.iret (v := (nI (cn 10))) hx hb hr (fun t ht hW => ⟨(nI (cn 10)), rfl, trivial, ht⟩) (fun _ h => absurd h List.not_mem_nil) (oc_172 64 (aq_12 shX11_countOfAll_52))
  ·
    refine lv_tableIn (tgt := 65) (off := 64) hx hb dX11_countOfAll_1 (by (first | omega | (have zz0 := Hid.u hb_cn; omega))) (by (first | omega | (have zz0 := Hid.u hb_cn; omega))) (by rw [c_1]; rfl) (by decide) ?_
    refine lv_aload_n hx hb (oc_42 65 (aq_13 shX11_countOfAll_52)) rfl (lvA0 hl) ?_
    refine gf_RX11_65 S hK hP 0 xo_0 (v := .ref (g 11)) rfl (oc_180 66 (aq_14 shX11_countOfAll_52) uw_0_65) ?_
    refine vp_callSi (runV_r (As := []) (rest := []) S (q_l_size l D cI cB cZ (g 11) (if (cn 11) = 0 then zz else ad 2 1) (In 11) (nI (cn 11))) kV_RX11_84 hK hP [25] (one_is xo_25) 25 xo_25 rfl rfl ⟨Nat.le_of_ble_eq_true rfl, Nat.le_of_ble_eq_true rfl⟩ ⟨Nat.le_of_ble_eq_true rfl, Nat.le_of_ble_eq_true rfl⟩ rfl hl.1 rfl (Nat.le_of_ble_eq_true rfl) (oc_182 69 (aq_17 shX11_countOfAll_52) uw_0_84)) (fun r_4 h_5 => ?_)
    subst h_5
    exact W.iret (v := (nI (cn 11))) hx hb hr (fun t ht hW => ⟨(nI (cn 11)), rfl, trivial, ht⟩) (fun _ h => absurd h List.not_mem_nil) (oc_172 72 (aq_20 shX11_countOfAll_52))
  ·
    refine lv_tableIn (tgt := 73) (off := 72) hx hb dX11_countOfAll_1 (by (first | omega | (have zz0 := Hid.u hb_cn; omega))) (by (first | omega | (have zz0 := Hid.u hb_cn; omega))) (by rw [c_1]; rfl) (by decide) ?_
    refine lv_aload_n hx hb (oc_42 73 (aq_21 shX11_countOfAll_52)) rfl (lvA0 hl) ?_
    refine gf_RX11_21 S hK hP 0 xo_0 (v := .ref (g 5)) rfl (oc_180 74 (aq_22 shX11_countOfAll_52) uw_0_21) ?_
    refine vp_callSi (runV_rxa (As := []) (rest := []) S (q_Xlength l D cI cB cZ zz qq vv bt g ad cn In Fn  hB) kV_RX11_152 hK hXS hS hP 1 xo_1 rfl rfl ⟨Nat.le_of_ble_eq_true rfl, Nat.le_of_ble_eq_true rfl⟩ ⟨Nat.le_of_ble_eq_true rfl, Nat.le_of_ble_eq_true rfl⟩ rfl hl.1 rfl (Nat.le_of_ble_eq_true rfl) (oc_182 77 shX11_countOfAll_77 uw_0_152)) (fun r_6 h_7 => ?_)
    subst h_7
    exact W.iret (v := (nI ((cn 3)))) hx hb hr (fun t ht hW => ⟨(nI ((cn 3))), rfl, trivial, ht⟩) (fun _ h => absurd h List.not_mem_nil) (oc_172 80 (aq_3 shX11_countOfAll_77))
  ·
    refine lv_tableIn (tgt := 81) (off := 80) hx hb dX11_countOfAll_1 (by (first | omega | (have zz0 := Hid.u hb_cn; omega))) (by (first | omega | (have zz0 := Hid.u hb_cn; omega))) (by rw [c_1]; rfl) (by decide) ?_
    refine lv_aload_n hx hb (oc_42 81 (aq_4 shX11_countOfAll_77)) rfl (lvA0 hl) ?_
    refine gf_RX11_12 S hK hP 0 xo_0 (v := .ref (ad 5 (ad 4 0))) rfl (oc_180 82 (aq_5 shX11_countOfAll_77) uw_0_12) ?_
    refine gf_RX11_171 S hK hP _ (xf_7 hT.2.1) (v := .int ((Fn 198) (ad 4 0))) rfl (oc_180 85 (aq_8 shX11_countOfAll_77) uw_0_171) ?_
    exact W.iret (v := ((Fn 198) (ad 4 0))) hx hb hr (fun t ht hW => ⟨((Fn 198) (ad 4 0)), rfl, trivial, ht⟩) (fun _ h => absurd h List.not_mem_nil) (oc_172 88 (aq_11 shX11_countOfAll_77))
  ·
    refine lv_tableIn (tgt := 89) (off := 88) hx hb dX11_countOfAll_1 (by (first | omega | (have zz0 := Hid.u hb_cn; omega))) (by (first | omega | (have zz0 := Hid.u hb_cn; omega))) (by rw [c_1]; rfl) (by decide) ?_
    refine lv_aload_n hx hb (oc_42 89 (aq_12 shX11_countOfAll_77)) rfl (lvA0 hl) ?_
    refine gf_RX11_68 S hK hP 0 xo_0 (v := .ref (g 12)) rfl (oc_180 90 (aq_13 shX11_countOfAll_77) uw_0_68) ?_
    refine vp_callSi (runV_r (As := []) (rest := []) S (q_l_size l D cI cB cZ (g 12) (if (cn 12) = 0 then zz else ad 2 2) (In 12) (nI (cn 12))) kV_RX11_84 hK hP [26] (one_is xo_26) 26 xo_26 rfl rfl ⟨Nat.le_of_ble_eq_true rfl, Nat.le_of_ble_eq_true rfl⟩ ⟨Nat.le_of_ble_eq_true rfl, Nat.le_of_ble_eq_true rfl⟩ rfl hl.1 rfl (Nat.le_of_ble_eq_true rfl) (oc_182 93 (aq_16 shX11_countOfAll_77) uw_0_84)) (fun r_8 h_9 => ?_)
    subst h_9
    exact W.iret (v := (nI (cn 12))) hx hb hr (fun t ht hW => ⟨(nI (cn 12)), rfl, trivial, ht⟩) (fun _ h => absurd h List.not_mem_nil) (oc_172 96 (aq_19 shX11_countOfAll_77))
  ·
    refine lv_tableIn (tgt := 97) (off := 96) hx hb dX11_countOfAll_1 (by (first | omega | (have zz0 := Hid.u hb_cn; omega))) (by (first | omega | (have zz0 := Hid.u hb_cn; omega))) (by rw [c_1]; rfl) (by decide) ?_
    refine lv_aload_n hx hb (oc_42 97 (aq_20 shX11_countOfAll_77)) rfl (lvA0 hl) ?_
    refine gf_RX11_71 S hK hP 0 xo_0 (v := .ref (g 13)) rfl (oc_180 98 (aq_21 shX11_countOfAll_77) uw_0_71) ?_
    refine vp_callSi (runV_r (As := []) (rest := []) S (q_l_size l D cI cB cZ (g 13) (if (cn 13) = 0 then zz else ad 2 3) (In 13) (nI (cn 13))) kV_RX11_84 hK hP [27] (one_is xo_27) 27 xo_27 rfl rfl ⟨Nat.le_of_ble_eq_true rfl, Nat.le_of_ble_eq_true rfl⟩ ⟨Nat.le_of_ble_eq_true rfl, Nat.le_of_ble_eq_true rfl⟩ rfl hl.1 rfl (Nat.le_of_ble_eq_true rfl) (oc_182 101 shX11_countOfAll_101 uw_0_84)) (fun r_10 h_11 => ?_)
    subst h_11
    exact W.iret (v := (nI (cn 13))) hx hb hr (fun t ht hW => ⟨(nI (cn 13)), rfl, trivial, ht⟩) (fun _ h => absurd h List.not_mem_nil) (oc_172 104 (aq_3 shX11_countOfAll_101))
  ·
    refine lv_tableIn (tgt := 105) (off := 104) hx hb dX11_countOfAll_1 (by (first | omega | (have zz0 := Hid.u hb_cn; omega))) (by (first | omega | (have zz0 := Hid.u hb_cn; omega))) (by rw [c_1]; rfl) (by decide) ?_
    refine lv_aload_n hx hb (oc_42 105 (aq_4 shX11_countOfAll_101)) rfl (lvA0 hl) ?_
    refine gf_RX11_74 S hK hP 0 xo_0 (v := .ref (g 14)) rfl (oc_180 106 (aq_5 shX11_countOfAll_101) uw_0_74) ?_
    refine vp_callSi (runV_r (As := []) (rest := []) S (q_l_size l D cI cB cZ (g 14) (if (cn 14) = 0 then zz else ad 2 4) (In 14) (nI (cn 14))) kV_RX11_84 hK hP [28] (one_is xo_28) 28 xo_28 rfl rfl ⟨Nat.le_of_ble_eq_true rfl, Nat.le_of_ble_eq_true rfl⟩ ⟨Nat.le_of_ble_eq_true rfl, Nat.le_of_ble_eq_true rfl⟩ rfl hl.1 rfl (Nat.le_of_ble_eq_true rfl) (oc_182 109 (aq_8 shX11_countOfAll_101) uw_0_84)) (fun r_12 h_13 => ?_)
    subst h_13
    exact W.iret (v := (nI (cn 14))) hx hb hr (fun t ht hW => ⟨(nI (cn 14)), rfl, trivial, ht⟩) (fun _ h => absurd h List.not_mem_nil) (oc_172 112 (aq_11 shX11_countOfAll_101))
  ·
    refine lv_tableIn (tgt := 113) (off := 112) hx hb dX11_countOfAll_1 (by (first | omega | (have zz0 := Hid.u hb_cn; omega))) (by (first | omega | (have zz0 := Hid.u hb_cn; omega))) (by rw [c_1]; rfl) (by decide) ?_
    refine lv_aload_n hx hb (oc_42 113 (aq_12 shX11_countOfAll_101)) rfl (lvA0 hl) ?_
    refine gf_RX11_311 S hK hP 0 xo_0 (v := .int (nI (cn 1))) rfl (oc_180 114 (aq_13 shX11_countOfAll_101) uw_1_55) ?_
    exact W.iret (v := (nI (cn 1))) hx hb hr (fun t ht hW => ⟨(nI (cn 1)), rfl, trivial, ht⟩) (fun _ h => absurd h List.not_mem_nil) (oc_172 117 (aq_16 shX11_countOfAll_101))
set_option maxRecDepth 100000 in
set_option maxHeartbeats 4000000 in
theorem q_Xcount (l : Launch) (D : va_G) (cI cB cZ : ClassId) (zz qq vv : Nat) (bt : Nat → Int32) (g : Nat → Nat) (ad : Nat → Nat → Nat) (cn : Nat → Nat) (In : Nat → Int32) (Fn : Nat → Nat → Int32) (v0 : Int32) (hB : CBX cn) (hT : (∀ k : Nat, k < cn 10 → ad 3 k < cn 6) ∧ ad 4 0 < cn 6 ∧ ad 4 1 < cn 6) : Met l yX11_count (CWS yX11_count cX11_count 3 (some .int)) (RM 4 0 0) (PBrx [.ref (g 0), .int v0] D cI cB cZ zz qq vv bt (wX cI (D.1 99) zz g ad cn In Fn)) (vp_Si (fun _ => True)) 0 0 (fun _ => False) := by
  refine en_rx rfl pn_RX11 (Nat.le_of_ble_eq_true rfl) (fun p e s m below meth c hx hb hml hown S hr hlocks hnm hP hK hXS hS ls hl => ?_)
  have hl : lv_has ls 3 [(0, .ref (g 0)), (1, .int v0)] := hl
  have hb_cn : Hid (CBX cn) := hB
  replace hB : CBXh cn := hB
  refine lv_iload_n hx hb (oc_27 0 shX11_count_0) rfl (lvA1 hl) ?_
  refine lv_iconst (v := 0) hx hb (oc_3 1 (aq_1 shX11_count_0)) kic_0 ?_
  refine lv_bipush (v := 9) hx hb (oc_16 2 (aq_2 shX11_count_0) sgb_9) kbc_9 ?_
  refine vp_callSi (runS_r (As := [.int v0, .int 0, .int 9]) (rest := []) S (q_l_within l D cI cB cZ v0 0 9) kS_RX11_80 hK hP [] rfl ⟨Nat.le_of_ble_eq_true rfl, Nat.le_of_ble_eq_true rfl⟩ ⟨Nat.le_of_ble_eq_true rfl, Nat.le_of_ble_eq_true rfl⟩ rfl hl.1 rfl (Nat.le_of_ble_eq_true rfl) (oc_184 4 (aq_4 shX11_count_0) uw_0_80)) (fun r_1 h_2 => ?_)
  rcases h_2 with ⟨rfl, h_2⟩ | ⟨rfl, h_2⟩
  ·
    have h_2 : 0 ≤ v0.toInt ∧ v0.toInt ≤ 9 := h_2
    refine lv_if_eq (tgt := 16) hx hb (oc_153 7 (aq_7 shX11_count_0) sgw_0_9) rfl (fun h => absurd h cq_eq_1_0) (fun _ => ?_)
    refine lv_aload_n hx hb (oc_42 10 (aq_10 shX11_count_0)) rfl (lvA0 hl) ?_
    refine lv_iload_n hx hb (oc_27 11 (aq_11 shX11_count_0)) rfl (lvA1 hl) ?_
    refine vp_callSi (runV_rxa (As := [.int v0]) (rest := []) S (q_XcountOfAll l D cI cB cZ zz qq vv bt g ad cn In Fn v0 hB hT (by (first | omega | (have zz0 := Hid.u hb_cn; omega)))) kV_RX11_533 hK hXS hS hP 0 xo_0 rfl rfl ⟨Nat.le_of_ble_eq_true rfl, Nat.le_of_ble_eq_true rfl⟩ ⟨Nat.le_of_ble_eq_true rfl, Nat.le_of_ble_eq_true rfl⟩ rfl hl.1 rfl (Nat.le_of_ble_eq_true rfl) (oc_182 12 (aq_12 shX11_count_0) uw_2_21)) (fun r_3 h_4 => ?_)
    exact W.iret (v := r_3) hx hb hr (fun t ht hW => ⟨r_3, rfl, trivial, ht⟩) (fun _ h => absurd h List.not_mem_nil) (oc_172 15 (aq_15 shX11_count_0))
  ·
    have h_2 : ¬ (0 ≤ v0.toInt ∧ v0.toInt ≤ 9) := h_2
    refine lv_if_eq (tgt := 16) hx hb (oc_153 7 (aq_7 shX11_count_0) sgw_0_9) rfl (fun _ => ?_) (fun h => absurd h cq_eq_0_0)
    refine lv_iload_n hx hb (oc_27 16 (aq_16 shX11_count_0)) rfl (lvA1 hl) ?_
    refine lv_bipush (v := 10) hx hb (oc_16 17 (aq_17 shX11_count_0) sgb_10) kbc_10 ?_
    refine lv_bipush (v := 39) hx hb (oc_16 19 (aq_19 shX11_count_0) sgb_39) kbc_39 ?_
    refine vp_callSi (runS_r (As := [.int v0, .int 10, .int 39]) (rest := []) S (q_l_within l D cI cB cZ v0 10 39) kS_RX11_80 hK hP [] rfl ⟨Nat.le_of_ble_eq_true rfl, Nat.le_of_ble_eq_true rfl⟩ ⟨Nat.le_of_ble_eq_true rfl, Nat.le_of_ble_eq_true rfl⟩ rfl hl.1 rfl (Nat.le_of_ble_eq_true rfl) (oc_184 21 (aq_21 shX11_count_0) uw_0_80)) (fun r_5 h_6 => ?_)
    rcases h_6 with ⟨rfl, h_6⟩ | ⟨rfl, h_6⟩
    ·
      have h_6 : 10 ≤ v0.toInt ∧ v0.toInt ≤ 39 := h_6
      refine lv_if_eq (tgt := 44) hx hb (oc_153 24 shX11_count_24 sgw_0_20) rfl (fun h => absurd h cq_eq_1_0) (fun _ => ?_)
      refine lv_aload_n hx hb (oc_42 27 (aq_3 shX11_count_24)) rfl (lvA0 hl) ?_
      refine lv_aload_n hx hb (oc_42 28 (aq_4 shX11_count_24)) rfl (lvA0 hl) ?_
      refine lv_iload_n hx hb (oc_27 29 (aq_5 shX11_count_24)) rfl (lvA1 hl) ?_
      refine lv_bipush (v := 10) hx hb (oc_16 30 (aq_6 shX11_count_24) sgb_10) kbc_10 ?_
      refine lv_irem hx hb (oc_112 32 (aq_8 shX11_count_24)) (by decide) ?_
      refine va_csq (runV_rxa (As := [.int (v0 - v0 / 10 * 10)]) (rest := [.ref (g 0)]) S (q_XkitchenAt l D cI cB cZ zz qq vv bt g ad cn In Fn (v0 - v0 / 10 * 10) hB) kV_RX11_114 hK hXS hS hP 0 xo_0 rfl rfl ⟨Nat.le_of_ble_eq_true rfl, Nat.le_of_ble_eq_true rfl⟩ ⟨Nat.le_of_ble_eq_true rfl, Nat.le_of_ble_eq_true rfl⟩ rfl hl.1 rfl (Nat.le_of_ble_eq_true rfl) (oc_182 33 (aq_9 shX11_count_24) uw_0_114)) (fun r_7 h_8 => ?_)
      rcases h_8 with ⟨mr_7, er_7, hr_7, rfl⟩ | ⟨hr_7, rfl⟩
      ·
        refine lv_iload_n hx hb (oc_27 36 (aq_12 shX11_count_24)) rfl (lvA1 hl) ?_
        refine lv_bipush (v := 10) hx hb (oc_16 37 (aq_13 shX11_count_24) sgb_10) kbc_10 ?_
        refine lv_idiv hx hb (oc_108 39 (aq_15 shX11_count_24)) (by decide) ?_
        refine vp_callSi (runV_rxa (As := [.ref (ad 10 mr_7), .int (v0 / 10)]) (rest := []) S (q_XcofKitchen l D cI cB cZ zz qq vv bt g ad cn In Fn mr_7 (v0 / 10) hB (by (first | omega | (have zz0 := Hid.u hb_cn; omega))) hT) kV_RX11_536 hK hXS hS hP 0 xo_0 rfl rfl ⟨Nat.le_of_ble_eq_true rfl, Nat.le_of_ble_eq_true rfl⟩ ⟨Nat.le_of_ble_eq_true rfl, Nat.le_of_ble_eq_true rfl⟩ rfl hl.1 rfl (Nat.le_of_ble_eq_true rfl) (oc_182 40 (aq_16 shX11_count_24) uw_2_24)) (fun r_9 h_10 => ?_)
        exact W.iret (v := r_9) hx hb hr (fun t ht hW => ⟨r_9, rfl, trivial, ht⟩) (fun _ h => absurd h List.not_mem_nil) (oc_172 43 (aq_19 shX11_count_24))
      ·
        refine lv_iload_n hx hb (oc_27 36 (aq_12 shX11_count_24)) rfl (lvA1 hl) ?_
        refine lv_bipush (v := 10) hx hb (oc_16 37 (aq_13 shX11_count_24) sgb_10) kbc_10 ?_
        refine lv_idiv hx hb (oc_108 39 (aq_15 shX11_count_24)) (by decide) ?_
        refine vp_callSi (runV_rxa (As := [.null, .int (v0 / 10)]) (rest := []) S (q_XcofNull l D cI cB cZ zz qq vv bt g ad cn In Fn (v0 / 10) hB) kV_RX11_536 hK hXS hS hP 0 xo_0 rfl rfl ⟨Nat.le_of_ble_eq_true rfl, Nat.le_of_ble_eq_true rfl⟩ ⟨Nat.le_of_ble_eq_true rfl, Nat.le_of_ble_eq_true rfl⟩ rfl hl.1 rfl (Nat.le_of_ble_eq_true rfl) (oc_182 40 (aq_16 shX11_count_24) uw_2_24)) (fun r_11 h_12 => ?_)
        exact W.iret (v := r_11) hx hb hr (fun t ht hW => ⟨r_11, rfl, trivial, ht⟩) (fun _ h => absurd h List.not_mem_nil) (oc_172 43 (aq_19 shX11_count_24))
    ·
      have h_6 : ¬ (10 ≤ v0.toInt ∧ v0.toInt ≤ 39) := h_6
      refine lv_if_eq (tgt := 44) hx hb (oc_153 24 shX11_count_24 sgw_0_20) rfl (fun _ => ?_) (fun h => absurd h cq_eq_0_0)
      refine lv_iload_n hx hb (oc_27 44 (aq_20 shX11_count_24)) rfl (lvA1 hl) ?_
      refine lv_bipush (v := 40) hx hb (oc_16 45 (aq_21 shX11_count_24) sgb_40) kbc_40 ?_
      refine lv_bipush (v := 49) hx hb (oc_16 47 (aq_23 shX11_count_24) sgb_49) kbc_49 ?_
      refine vp_callSi (runS_r (As := [.int v0, .int 40, .int 49]) (rest := []) S (q_l_within l D cI cB cZ v0 40 49) kS_RX11_80 hK hP [] rfl ⟨Nat.le_of_ble_eq_true rfl, Nat.le_of_ble_eq_true rfl⟩ ⟨Nat.le_of_ble_eq_true rfl, Nat.le_of_ble_eq_true rfl⟩ rfl hl.1 rfl (Nat.le_of_ble_eq_true rfl) (oc_184 49 shX11_count_49 uw_0_80)) (fun r_13 h_14 => ?_)
      rcases h_14 with ⟨rfl, h_14⟩ | ⟨rfl, h_14⟩
      ·
        have h_14 : 40 ≤ v0.toInt ∧ v0.toInt ≤ 49 := h_14
        refine lv_if_eq (tgt := 77) hx hb (oc_153 52 (aq_3 shX11_count_49) sgw_0_25) rfl (fun h => absurd h cq_eq_1_0) (fun _ => ?_)
        refine lv_aload_n hx hb (oc_42 55 (aq_6 shX11_count_49)) rfl (lvA0 hl) ?_
        refine lv_iload_n hx hb (oc_27 56 (aq_7 shX11_count_49)) rfl (lvA1 hl) ?_
        refine lv_bipush (v := 40) hx hb (oc_16 57 (aq_8 shX11_count_49) sgb_40) kbc_40 ?_
        refine lv_isub hx hb (oc_100 59 (aq_10 shX11_count_49)) ?_
        refine va_csq (runV_rxa (As := [.int (v0 - 40)]) (rest := []) S (q_XbatchAt l D cI cB cZ zz qq vv bt g ad cn In Fn (v0 - 40) hB) kV_RX11_382 hK hXS hS hP 0 xo_0 rfl rfl ⟨Nat.le_of_ble_eq_true rfl, Nat.le_of_ble_eq_true rfl⟩ ⟨Nat.le_of_ble_eq_true rfl, Nat.le_of_ble_eq_true rfl⟩ rfl hl.1 rfl (Nat.le_of_ble_eq_true rfl) (oc_182 60 (aq_11 shX11_count_49) uw_1_126)) (fun r_15 h_16 => ?_)
        rcases h_16 with ⟨mr_15, er_15, hr_15, rfl⟩ | ⟨hr_15, rfl⟩
        ·
          refine lv_astore_n (lv' := [(2, .ref (ad 12 mr_15)), (0, .ref (g 0)), (1, .int v0)]) hx hb (oc_77 63 (aq_14 shX11_count_49)) rfl hl (ltb rfl) rfl (fun ls hl => ?_)
          refine lv_aload_n hx hb (oc_44 64 (aq_15 shX11_count_49)) rfl (lvA0 hl) ?_
          refine lv_ifnonnull (tgt := 72) hx hb (oc_199 65 (aq_16 shX11_count_49) sgw_0_7) rfl ?_
          refine lv_aload_n hx hb (oc_44 72 (aq_23 shX11_count_49)) rfl (lvA0 hl) ?_
          have kf_1 : mr_15 < cn 12 := by (first | omega | (have zz0 := Hid.u hb_cn; omega))
          refine gf_RX11_381 S hK hP _ (xf_2 kf_1) (v := .int ((Fn 147) mr_15)) rfl (oc_180 73 shX11_count_73 uw_1_125) ?_
          exact W.iret (v := ((Fn 147) mr_15)) hx hb hr (fun t ht hW => ⟨((Fn 147) mr_15), rfl, trivial, ht⟩) (fun _ h => absurd h List.not_mem_nil) (oc_172 76 (aq_3 shX11_count_73))
        ·
          refine lv_astore_nN (lv' := [(2, .null), (0, .ref (g 0)), (1, .int v0)]) hx hb (oc_77 63 (aq_14 shX11_count_49)) rfl hl (ltb rfl) rfl (fun ls hl => ?_)
          refine lv_aload_nN hx hb (oc_44 64 (aq_15 shX11_count_49)) rfl (lvA0 hl) ?_
          refine lv_ifnonnullN hx hb (oc_199 65 (aq_16 shX11_count_49) sgw_0_7) ?_
          refine lv_iconst (v := (-1)) hx hb (oc_2 68 (aq_19 shX11_count_49)) kic_m1 ?_
          refine lv_goto (tgt := 76) hx hb (oc_167 69 (aq_20 shX11_count_49) sgw_0_7) rfl ?_
          exact W.iret (v := (-1)) hx hb hr (fun t ht hW => ⟨(-1), rfl, trivial, ht⟩) (fun _ h => absurd h List.not_mem_nil) (oc_172 76 (aq_3 shX11_count_73))
      ·
        have h_14 : ¬ (40 ≤ v0.toInt ∧ v0.toInt ≤ 49) := h_14
        refine lv_if_eq (tgt := 77) hx hb (oc_153 52 (aq_3 shX11_count_49) sgw_0_25) rfl (fun _ => ?_) (fun h => absurd h cq_eq_0_0)
        refine lv_iload_n hx hb (oc_27 77 (aq_4 shX11_count_73)) rfl (lvA1 hl) ?_
        refine lv_bipush (v := 50) hx hb (oc_16 78 (aq_5 shX11_count_73) sgb_50) kbc_50 ?_
        refine lv_icmp_ge (tgt := 87) hx hb (oc_162 80 (aq_7 shX11_count_73) sgw_0_7) rfl (fun c_17 => ?_) (fun c_17 => ?_)
        ·
          have tc_17 : (50 : Int) ≤ v0.toInt := Int32.le_iff_toInt_le.mp c_17
          refine lv_aload_n hx hb (oc_42 87 (aq_14 shX11_count_73)) rfl (lvA0 hl) ?_
          refine lv_iload_n hx hb (oc_27 88 (aq_15 shX11_count_73)) rfl (lvA1 hl) ?_
          refine lv_bipush (v := 50) hx hb (oc_16 89 (aq_16 shX11_count_73) sgb_50) kbc_50 ?_
          refine lv_isub hx hb (oc_100 91 (aq_18 shX11_count_73)) ?_
          refine va_csq (runV_rxa (As := [.int (v0 - 50)]) (rest := []) S (q_XproofAt l D cI cB cZ zz qq vv bt g ad cn In Fn (v0 - 50) hB) kV_RX11_422 hK hXS hS hP 0 xo_0 rfl rfl ⟨Nat.le_of_ble_eq_true rfl, Nat.le_of_ble_eq_true rfl⟩ ⟨Nat.le_of_ble_eq_true rfl, Nat.le_of_ble_eq_true rfl⟩ rfl hl.1 rfl (Nat.le_of_ble_eq_true rfl) (oc_182 92 (aq_19 shX11_count_73) uw_1_166)) (fun r_18 h_19 => ?_)
          rcases h_19 with ⟨mr_18, er_18, hr_18, rfl⟩ | ⟨hr_18, rfl⟩
          ·
            refine lv_astore_n (lv' := [(2, .ref (ad 13 mr_18)), (0, .ref (g 0)), (1, .int v0)]) hx hb (oc_77 95 (aq_22 shX11_count_73)) rfl hl (ltb rfl) rfl (fun ls hl => ?_)
            refine lv_aload_n hx hb (oc_44 96 (aq_23 shX11_count_73)) rfl (lvA0 hl) ?_
            refine lv_ifnonnull (tgt := 104) hx hb (oc_199 97 shX11_count_97 sgw_0_7) rfl ?_
            refine lv_aload_n hx hb (oc_44 104 (aq_7 shX11_count_97)) rfl (lvA0 hl) ?_
            have kf_2 : mr_18 < cn 13 := by (first | omega | (have zz0 := Hid.u hb_cn; omega))
            refine gf_RX11_434 S hK hP _ (xf_3 kf_2) (v := .int ((Fn 164) mr_18)) rfl (oc_180 105 (aq_8 shX11_count_97) uw_1_178) ?_
            exact W.iret (v := ((Fn 164) mr_18)) hx hb hr (fun t ht hW => ⟨((Fn 164) mr_18), rfl, trivial, ht⟩) (fun _ h => absurd h List.not_mem_nil) (oc_172 108 (aq_11 shX11_count_97))
          ·
            refine lv_astore_nN (lv' := [(2, .null), (0, .ref (g 0)), (1, .int v0)]) hx hb (oc_77 95 (aq_22 shX11_count_73)) rfl hl (ltb rfl) rfl (fun ls hl => ?_)
            refine lv_aload_nN hx hb (oc_44 96 (aq_23 shX11_count_73)) rfl (lvA0 hl) ?_
            refine lv_ifnonnullN hx hb (oc_199 97 shX11_count_97 sgw_0_7) ?_
            refine lv_iconst (v := (-1)) hx hb (oc_2 100 (aq_3 shX11_count_97)) kic_m1 ?_
            refine lv_goto (tgt := 108) hx hb (oc_167 101 (aq_4 shX11_count_97) sgw_0_7) rfl ?_
            exact W.iret (v := (-1)) hx hb hr (fun t ht hW => ⟨(-1), rfl, trivial, ht⟩) (fun _ h => absurd h List.not_mem_nil) (oc_172 108 (aq_11 shX11_count_97))
        ·
          have tc_17 : (v0.toInt : Int) < 50 := Int32.lt_iff_toInt_lt.mp (Int32.not_le.mp c_17)
          refine lv_null hx hb (oc_1 83 (aq_10 shX11_count_73)) ?_
          refine lv_goto (tgt := 95) hx hb (oc_167 84 (aq_11 shX11_count_73) sgw_0_11) rfl ?_
          refine lv_astore_nN (lv' := [(2, .null), (0, .ref (g 0)), (1, .int v0)]) hx hb (oc_77 95 (aq_22 shX11_count_73)) rfl hl (ltb rfl) rfl (fun ls hl => ?_)
          refine lv_aload_nN hx hb (oc_44 96 (aq_23 shX11_count_73)) rfl (lvA0 hl) ?_
          refine lv_ifnonnullN hx hb (oc_199 97 shX11_count_97 sgw_0_7) ?_
          refine lv_iconst (v := (-1)) hx hb (oc_2 100 (aq_3 shX11_count_97)) kic_m1 ?_
          refine lv_goto (tgt := 108) hx hb (oc_167 101 (aq_4 shX11_count_97) sgw_0_7) rfl ?_
          exact W.iret (v := (-1)) hx hb hr (fun t ht hW => ⟨(-1), rfl, trivial, ht⟩) (fun _ h => absurd h List.not_mem_nil) (oc_172 108 (aq_11 shX11_count_97))
