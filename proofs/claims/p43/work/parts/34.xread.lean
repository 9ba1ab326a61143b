/-- what a rule of the grammar keeps, brackets open: o; depth of calls: d -/
def RDQ (y : MethodName) (b : ByteArray) (n : Nat) (l : Launch) (D : va_G) (cI cB cZ : ClassId) (zz qq vv : Nat) (bt : Nat → Int32) (g : Nat → Nat) (o : Int32) (d : Nat) : Prop := ∀ (ad : Nat → Nat → Nat) (cn : Nat → Nat) (In : Nat → Int32) (Fn : Nat → Nat → Int32) (sz : Nat), CBX cn → ad 4 2 = g 40 → ad 4 1 < cn 6 → cn 31 ≤ cn 32 → cn 32 ≤ 160 → (Fn 199 (ad 4 1)).toInt ≤ 160 → Met l y (CWS y b n none) (RM d 0 0) (PBx [.ref (g 6), .int o] D cI cB cZ zz qq vv bt (wX cI (D.1 99) zz g ad cn In Fn) sz) (va_Qv (fun (u : (Nat → Nat) × (Nat → Int32) × (Nat → Nat → Int32)) => (fun c2 I2 F2 => Fr [31, 32] [33] [195, 301] cn In Fn c2 I2 F2 ∧ CBX c2 ∧ (cn 31 ≤ c2 31 ∧ c2 31 ≤ c2 32 ∧ c2 32 ≤ cn 32)) u.1 u.2.1 u.2.2) (fun (u : (Nat → Nat) × (Nat → Int32) × (Nat → Nat → Int32)) (t : State) => va_P D vwCl (wX cI (D.1 99) zz g ad u.1 u.2.1 u.2.2) t.heap ∧ va_D (va_A (wX cI (D.1 99) zz g ad cn In Fn) sz) (wX cI (D.1 99) zz g ad u.1 u.2.1 u.2.2)) (va_A (wX cI (D.1 99) zz g ad cn In Fn) sz)) 0 0 (va_A (wX cI (D.1 99) zz g ad cn In Fn) sz)

set_option maxRecDepth 100000 in
theorem hin_RX5 : ∀ w ∈ u_ws RX5 TX5 6, w ∈ wT := hin_all (C := RX5) (T := TX5) (n := 6) (hin_s (hin_s (hin_s (hin_s (hin_s (hin_s (fun k hk => absurd hk (Nat.not_lt_zero k)) (wk1_8 8 rfl rfl)) (wk1_8 10 rfl rfl)) (wk1_9 0 rfl rfl)) (wk1_9 2 rfl rfl)) (wk1_9 4 rfl rfl)) (wk1_9 6 rfl rfl))
set_option maxRecDepth 100000 in
theorem gf_RX5_31 {p : Program} {l : Launch} {e : Env} {R : Room} {s : State} {m : MethodId} {args : Array Value} {below : List Frame} {meth : Method} {c : Code} {H : Heap} {locs : List Loc} {cells slots : Nat} {Q : State → Prop} {cc : ByteArray} {nL pc : Nat} {D : va_G} {cI cB cZ : ClassId} {ws : va_W} {rest : List Value} {ls : Array Slot} {a : Nat} {fs : List Value} {v : Value} (S : SF p m c cc nL s args RX5) (hK : KK D cI cB cZ s) (hP : va_P D vwCl ws H) (q0 : Nat) (he : ws[q0]? = some (a, .inr (6, fs))) (hv : fs[3]? = some v) (hdg : decode cc pc = .ok (.getfield 31, 3)) (kk : W p l e R s m args below meth c H locs cells slots Q (F0 m (pc + 3) ls (v :: rest))) : W p l e R s m args below meth c H locs cells slots Q (F0 m pc ls (.ref a :: rest)) :=
  va_get (C := RX5) (T := TX5) (N := 6) S.1 S.2.1 S.2.2.2.2 hin_RX5 S.2.2.2.1 hK.1 hP q0 he rfl 3 (by decide) (S.2.2.2.2 _ (wk1_8 4 rfl rfl)) (fun _ h9 => h9) hv hdg kk
set_option maxRecDepth 100000 in
theorem gf_RX5_34 {p : Program} {l : Launch} {e : Env} {R : Room} {s : State} {m : MethodId} {args : Array Value} {below : List Frame} {meth : Method} {c : Code} {H : Heap} {locs : List Loc} {cells slots : Nat} {Q : State → Prop} {cc : ByteArray} {nL pc : Nat} {D : va_G} {cI cB cZ : ClassId} {ws : va_W} {rest : List Value} {ls : Array Slot} {a : Nat} {fs : List Value} {v : Value} (S : SF p m c cc nL s args RX5) (hK : KK D cI cB cZ s) (hP : va_P D vwCl ws H) (q0 : Nat) (he : ws[q0]? = some (a, .inr (6, fs))) (hv : fs[4]? = some v) (hdg : decode cc pc = .ok (.getfield 34, 3)) (kk : W p l e R s m args below meth c H locs cells slots Q (F0 m (pc + 3) ls (v :: rest))) : W p l e R s m args below meth c H locs cells slots Q (F0 m pc ls (.ref a :: rest)) :=
  va_get (C := RX5) (T := TX5) (N := 6) S.1 S.2.1 S.2.2.2.2 hin_RX5 S.2.2.2.1 hK.1 hP q0 he rfl 4 (by decide) (S.2.2.2.2 _ (wk1_8 5 rfl rfl)) (fun _ h9 => h9) hv hdg kk
set_option maxRecDepth 100000 in
theorem gf_RX5_9 {p : Program} {l : Launch} {e : Env} {R : Room} {s : State} {m : MethodId} {args : Array Value} {below : List Frame} {meth : Method} {c : Code} {H : Heap} {locs : List Loc} {cells slots : Nat} {Q : State → Prop} {cc : ByteArray} {nL pc : Nat} {D : va_G} {cI cB cZ : ClassId} {ws : va_W} {rest : List Value} {ls : Array Slot} {a : Nat} {fs : List Value} {v : Value} (S : SF p m c cc nL s args RX5) (hK : KK D cI cB cZ s) (hP : va_P D vwCl ws H) (q0 : Nat) (he : ws[q0]? = some (a, .inr (6, fs))) (hv : fs[0]? = some v) (hdg : decode cc pc = .ok (.getfield 9, 3)) (kk : W p l e R s m args below meth c H locs cells slots Q (F0 m (pc + 3) ls (v :: rest))) : W p l e R s m args below meth c H locs cells slots Q (F0 m pc ls (.ref a :: rest)) :=
  va_get (C := RX5) (T := TX5) (N := 6) S.1 S.2.1 S.2.2.2.2 hin_RX5 S.2.2.2.1 hK.1 hP q0 he rfl 0 (by decide) (S.2.2.2.2 _ (wk1_8 1 rfl rfl)) (fun _ h9 => h9) hv hdg kk
set_option maxRecDepth 100000 in
theorem gf_RX5_37 {p : Program} {l : Launch} {e : Env} {R : Room} {s : State} {m : MethodId} {args : Array Value} {below : List Frame} {meth : Method} {c : Code} {H : Heap} {locs : List Loc} {cells slots : Nat} {Q : State → Prop} {cc : ByteArray} {nL pc : Nat} {D : va_G} {cI cB cZ : ClassId} {ws : va_W} {rest : List Value} {ls : Array Slot} {a : Nat} {fs : List Value} {v : Value} (S : SF p m c cc nL s args RX5) (hK : KK D cI cB cZ s) (hP : va_P D vwCl ws H) (q0 : Nat) (he : ws[q0]? = some (a, .inr (6, fs))) (hv : fs[5]? = some v) (hdg : decode cc pc = .ok (.getfield 37, 3)) (kk : W p l e R s m args below meth c H locs cells slots Q (F0 m (pc + 3) ls (v :: rest))) : W p l e R s m args below meth c H locs cells slots Q (F0 m pc ls (.ref a :: rest)) :=
  va_get (C := RX5) (T := TX5) (N := 6) S.1 S.2.1 S.2.2.2.2 hin_RX5 S.2.2.2.1 hK.1 hP q0 he rfl 5 (by decide) (S.2.2.2.2 _ (wk1_8 6 rfl rfl)) (fun _ h9 => h9) hv hdg kk
set_option maxRecDepth 100000 in
theorem pf_RX5_37 {p : Program} {l : Launch} {e : Env} {R : Room} {s : State} {m : MethodId} {args : Array Value} {below : List Frame} {meth : Method} {c : Code} {H : Heap} {locs : List Loc} {cells slots : Nat} {Q : State → Prop} {cc : ByteArray} {nL pc : Nat} {D : va_G} {cI cB cZ : ClassId} {ws : va_W} {rest : List Value} {ls : Array Slot} {a : Nat} {fs : List Value} {v : Value} {A : Nat → Prop} {H0 : Heap} (S : SF p m c cc nL s args RX5) (hK : KK D cI cB cZ s) (hP : va_P D vwCl ws H) (hD : va_D A ws) (hS : va_S A H0 H locs) (q0 : Nat) (he : ws[q0]? = some (a, .inr (6, fs))) (hl : 5 < fs.length) (hn : narrow (tyX5 5) v = v) (hfit : fits (tyX5 5) v = true) (hdg : decode cc pc = .ok (.putfield 37, 3)) (kk : ∀ (H1 : Heap) (locs1 : List Loc), va_P D vwCl (ws.set q0 (a, .inr (6, fs.set 5 v))) H1 → va_D A (ws.set q0 (a, .inr (6, fs.set 5 v))) → va_S A H0 H1 locs1 → W p l e R s m args below meth c H1 locs1 cells slots Q (F0 m (pc + 3) ls rest)) : W p l e R s m args below meth c H locs cells slots Q (F0 m pc ls (v :: .ref a :: rest)) :=
  va_put (C := RX5) (T := TX5) (N := 6) S.1 S.2.1 S.2.2.2.2 hin_RX5 tyX5 tyX5_ok nmX5 S.2.2.2.1 hK.1 hP hD hS q0 he rfl 5 (by decide) (S.2.2.2.2 _ (wk1_8 6 rfl rfl)) (fun _ h9 => h9) rfl (tyX5_ok 5 (by decide)) hn hfit hl hdg kk
set_option maxRecDepth 100000 in
theorem pf_RX5_34 {p : Program} {l : Launch} {e : Env} {R : Room} {s : State} {m : MethodId} {args : Array Value} {below : List Frame} {meth : Method} {c : Code} {H : Heap} {locs : List Loc} {cells slots : Nat} {Q : State → Prop} {cc : ByteArray} {nL pc : Nat} {D : va_G} {cI cB cZ : ClassId} {ws : va_W} {rest : List Value} {ls : Array Slot} {a : Nat} {fs : List Value} {v : Value} {A : Nat → Prop} {H0 : Heap} (S : SF p m c cc nL s args RX5) (hK : KK D cI cB cZ s) (hP : va_P D vwCl ws H) (hD : va_D A ws) (hS : va_S A H0 H locs) (q0 : Nat) (he : ws[q0]? = some (a, .inr (6, fs))) (hl : 4 < fs.length) (hn : narrow (tyX5 4) v = v) (hfit : fits (tyX5 4) v = true) (hdg : decode cc pc = .ok (.putfield 34, 3)) (kk : ∀ (H1 : Heap) (locs1 : List Loc), va_P D vwCl (ws.set q0 (a, .inr (6, fs.set 4 v))) H1 → va_D A (ws.set q0 (a, .inr (6, fs.set 4 v))) → va_S A H0 H1 locs1 → W p l e R s m args below meth c H1 locs1 cells slots Q (F0 m (pc + 3) ls rest)) : W p l e R s m args below meth c H locs cells slots Q (F0 m pc ls (v :: .ref a :: rest)) :=
  va_put (C := RX5) (T := TX5) (N := 6) S.1 S.2.1 S.2.2.2.2 hin_RX5 tyX5 tyX5_ok nmX5 S.2.2.2.1 hK.1 hP hD hS q0 he rfl 4 (by decide) (S.2.2.2.2 _ (wk1_8 5 rfl rfl)) (fun _ h9 => h9) rfl (tyX5_ok 4 (by decide)) hn hfit hl hdg kk
set_option maxRecDepth 100000 in
theorem kV_RX5_43 : CalV RX5 43 yX5_peek cX5_peek 1 (some .int) 0 := ⟨⟨wk3_5 3 rfl rfl, wk3_5 5 rfl rfl, wT_sel 7 _ rfl rfl rfl, wk1_0 5 rfl rfl, wk3_5 6 rfl rfl⟩, ⟨nmh_6.1, nmh_6.2, pd_1⟩⟩
set_option maxRecDepth 100000 in
theorem kV_RX5_47 : CalV RX5 47 yX5_fail cX5_fail 2 none 1 := ⟨⟨wk3_5 7 rfl rfl, wk3_5 9 rfl rfl, wT_sel 8 _ rfl rfl rfl, wk1_0 5 rfl rfl, wk3_5 10 rfl rfl⟩, ⟨nmh_6.1, nmh_6.2, pd_14⟩⟩
set_option maxRecDepth 100000 in
theorem pf_RX5_31 {p : Program} {l : Launch} {e : Env} {R : Room} {s : State} {m : MethodId} {args : Array Value} {below : List Frame} {meth : Method} {c : Code} {H : Heap} {locs : List Loc} {cells slots : Nat} {Q : State → Prop} {cc : ByteArray} {nL pc : Nat} {D : va_G} {cI cB cZ : ClassId} {ws : va_W} {rest : List Value} {ls : Array Slot} {a : Nat} {fs : List Value} {v : Value} {A : Nat → Prop} {H0 : Heap} (S : SF p m c cc nL s args RX5) (hK : KK D cI cB cZ s) (hP : va_P D vwCl ws H) (hD : va_D A ws) (hS : va_S A H0 H locs) (q0 : Nat) (he : ws[q0]? = some (a, .inr (6, fs))) (hl : 3 < fs.length) (hn : narrow (tyX5 3) v = v) (hfit : fits (tyX5 3) v = true) (hdg : decode cc pc = .ok (.putfield 31, 3)) (kk : ∀ (H1 : Heap) (locs1 : List Loc), va_P D vwCl (ws.set q0 (a, .inr (6, fs.set 3 v))) H1 → va_D A (ws.set q0 (a, .inr (6, fs.set 3 v))) → va_S A H0 H1 locs1 → W p l e R s m args below meth c H1 locs1 cells slots Q (F0 m (pc + 3) ls rest)) : W p l e R s m args below meth c H locs cells slots Q (F0 m pc ls (v :: .ref a :: rest)) :=
  va_put (C := RX5) (T := TX5) (N := 6) S.1 S.2.1 S.2.2.2.2 hin_RX5 tyX5 tyX5_ok nmX5 S.2.2.2.1 hK.1 hP hD hS q0 he rfl 3 (by decide) (S.2.2.2.2 _ (wk1_8 4 rfl rfl)) (fun _ h9 => h9) rfl (tyX5_ok 3 (by decide)) hn hfit hl hdg kk
set_option maxRecDepth 100000 in
theorem gf_RX9_33 {p : Program} {l : Launch} {e : Env} {R : Room} {s : State} {m : MethodId} {args : Array Value} {below : List Frame} {meth : Method} {c : Code} {H : Heap} {locs : List Loc} {cells slots : Nat} {Q : State → Prop} {cc : ByteArray} {nL pc : Nat} {D : va_G} {cI cB cZ : ClassId} {ws : va_W} {rest : List Value} {ls : Array Slot} {a : Nat} {fs : List Value} {v : Value} (S : SF p m c cc nL s args RX9) (hK : KK D cI cB cZ s) (hP : va_P D vwCl ws H) (q0 : Nat) (he : ws[q0]? = some (a, .inr (10, fs))) (hv : fs[5]? = some v) (hdg : decode cc pc = .ok (.getfield 33, 3)) (kk : W p l e R s m args below meth c H locs cells slots Q (F0 m (pc + 3) ls (v :: rest))) : W p l e R s m args below meth c H locs cells slots Q (F0 m pc ls (.ref a :: rest)) :=
  va_get (C := RX9) (T := TX9) (N := 9) S.1 S.2.1 S.2.2.2.2 hin_RX9 S.2.2.2.1 hK.1 hP q0 he rfl 5 (by decide) (S.2.2.2.2 _ (wk1_4 1 rfl rfl)) (fun _ h9 => h9) hv hdg kk
set_option maxRecDepth 100000 in
theorem pf_RX9_33 {p : Program} {l : Launch} {e : Env} {R : Room} {s : State} {m : MethodId} {args : Array Value} {below : List Frame} {meth : Method} {c : Code} {H : Heap} {locs : List Loc} {cells slots : Nat} {Q : State → Prop} {cc : ByteArray} {nL pc : Nat} {D : va_G} {cI cB cZ : ClassId} {ws : va_W} {rest : List Value} {ls : Array Slot} {a : Nat} {fs : List Value} {v : Value} {A : Nat → Prop} {H0 : Heap} (S : SF p m c cc nL s args RX9) (hK : KK D cI cB cZ s) (hP : va_P D vwCl ws H) (hD : va_D A ws) (hS : va_S A H0 H locs) (q0 : Nat) (he : ws[q0]? = some (a, .inr (10, fs))) (hl : 5 < fs.length) (hn : narrow (tyX9 5) v = v) (hfit : fits (tyX9 5) v = true) (hdg : decode cc pc = .ok (.putfield 33, 3)) (kk : ∀ (H1 : Heap) (locs1 : List Loc), va_P D vwCl (ws.set q0 (a, .inr (10, fs.set 5 v))) H1 → va_D A (ws.set q0 (a, .inr (10, fs.set 5 v))) → va_S A H0 H1 locs1 → W p l e R s m args below meth c H1 locs1 cells slots Q (F0 m (pc + 3) ls rest)) : W p l e R s m args below meth c H locs cells slots Q (F0 m pc ls (v :: .ref a :: rest)) :=
  va_put (C := RX9) (T := TX9) (N := 9) S.1 S.2.1 S.2.2.2.2 hin_RX9 tyX9 tyX9_ok nmX9 S.2.2.2.1 hK.1 hP hD hS q0 he rfl 5 (by decide) (S.2.2.2.2 _ (wk1_4 1 rfl rfl)) (fun _ h9 => h9) rfl (tyX9_ok 5 (by decide)) hn hfit hl hdg kk
set_option maxRecDepth 100000 in
theorem kS_RX9_44 : CalS RX9 44 yX7_put cX7_put 3 none 3 := ⟨⟨wk3_6 3 rfl rfl, wk3_1 11 rfl rfl, wk1_0 7 rfl rfl, wk3_2 0 rfl rfl⟩, ⟨nmh_8.1, nmh_8.2, pd_69⟩⟩
set_option maxRecDepth 100000 in
theorem pf_RX9_48 {p : Program} {l : Launch} {e : Env} {R : Room} {s : State} {m : MethodId} {args : Array Value} {below : List Frame} {meth : Method} {c : Code} {H : Heap} {locs : List Loc} {cells slots : Nat} {Q : State → Prop} {cc : ByteArray} {nL pc : Nat} {D : va_G} {cI cB cZ : ClassId} {ws : va_W} {rest : List Value} {ls : Array Slot} {a : Nat} {fs : List Value} {v : Value} {A : Nat → Prop} {H0 : Heap} (S : SF p m c cc nL s args RX9) (hK : KK D cI cB cZ s) (hP : va_P D vwCl ws H) (hD : va_D A ws) (hS : va_S A H0 H locs) (q0 : Nat) (he : ws[q0]? = some (a, .inr (10, fs))) (hl : 8 < fs.length) (hn : narrow (tyX9 8) v = v) (hfit : fits (tyX9 8) v = true) (hdg : decode cc pc = .ok (.putfield 48, 3)) (kk : ∀ (H1 : Heap) (locs1 : List Loc), va_P D vwCl (ws.set q0 (a, .inr (10, fs.set 8 v))) H1 → va_D A (ws.set q0 (a, .inr (10, fs.set 8 v))) → va_S A H0 H1 locs1 → W p l e R s m args below meth c H1 locs1 cells slots Q (F0 m (pc + 3) ls rest)) : W p l e R s m args below meth c H locs cells slots Q (F0 m pc ls (v :: .ref a :: rest)) :=
  va_put (C := RX9) (T := TX9) (N := 9) S.1 S.2.1 S.2.2.2.2 hin_RX9 tyX9 tyX9_ok nmX9 S.2.2.2.1 hK.1 hP hD hS q0 he rfl 8 (by decide) (S.2.2.2.2 _ (wk1_4 4 rfl rfl)) (fun _ h9 => h9) rfl (tyX9_ok 8 (by decide)) hn hfit hl hdg kk
set_option maxRecDepth 100000 in
theorem kS_RX5_106 : CalS RX5 106 yX5_isDigit cX5_isDigit 1 (some .boolean) 1 := ⟨⟨wk3_14 2 rfl rfl, wk3_14 3 rfl rfl, wk1_0 5 rfl rfl, wk3_14 4 rfl rfl⟩, ⟨nmh_6.1, nmh_6.2, pd_15⟩⟩
set_option maxRecDepth 100000 in
theorem gf_RX5_20 {p : Program} {l : Launch} {e : Env} {R : Room} {s : State} {m : MethodId} {args : Array Value} {below : List Frame} {meth : Method} {c : Code} {H : Heap} {locs : List Loc} {cells slots : Nat} {Q : State → Prop} {cc : ByteArray} {nL pc : Nat} {D : va_G} {cI cB cZ : ClassId} {ws : va_W} {rest : List Value} {ls : Array Slot} {a : Nat} {fs : List Value} {v : Value} (S : SF p m c cc nL s args RX5) (hK : KK D cI cB cZ s) (hP : va_P D vwCl ws H) (q0 : Nat) (he : ws[q0]? = some (a, .inr (6, fs))) (hv : fs[1]? = some v) (hdg : decode cc pc = .ok (.getfield 20, 3)) (kk : W p l e R s m args below meth c H locs cells slots Q (F0 m (pc + 3) ls (v :: rest))) : W p l e R s m args below meth c H locs cells slots Q (F0 m pc ls (.ref a :: rest)) :=
  va_get (C := RX5) (T := TX5) (N := 6) S.1 S.2.1 S.2.2.2.2 hin_RX5 S.2.2.2.1 hK.1 hP q0 he rfl 1 (by decide) (S.2.2.2.2 _ (wk1_8 2 rfl rfl)) (fun _ h9 => h9) hv hdg kk
set_option maxRecDepth 100000 in
theorem kV_RX5_75 : CalV RX5 75 yX9_add cX9_add 3 (some .int) 2 := ⟨⟨wk3_14 9 rfl rfl, wk3_14 10 rfl rfl, wk3_14 11 rfl rfl, wk1_0 2 rfl rfl, wk3_15 0 rfl rfl⟩, ⟨nmh_10.1, nmh_10.2, pd_17⟩⟩
set_option maxRecDepth 100000 in
theorem kV_RX5_100 : CalV RX5 100 yJ0_indexOf_0f7a4 cJ0_indexOf_0f7a4 2 (some .int) 1 := ⟨⟨wk3_7 5 rfl rfl, wk3_7 6 rfl rfl, wk3_7 7 rfl rfl, wk1_0 6 rfl rfl, wk3_7 8 rfl rfl⟩, ⟨nmh_16.1, nmh_16.2, pd_8⟩⟩
set_option maxRecDepth 100000 in
theorem kV_RX5_109 : CalV RX5 109 yX5_readNumber cX5_readNumber 3 none 0 := ⟨⟨wk3_14 5 rfl rfl, wk3_14 7 rfl rfl, wT_sel 14 _ rfl rfl rfl, wk1_0 5 rfl rfl, wk3_14 8 rfl rfl⟩, ⟨nmh_6.1, nmh_6.2, pd_2⟩⟩
set_option maxRecDepth 100000 in
theorem kV_RX5_85 : CalV RX5 85 yX5_opens cX5_opens 2 (some .boolean) 1 := ⟨⟨wk3_13 6 rfl rfl, wk3_13 8 rfl rfl, wT_sel 12 _ rfl rfl rfl, wk1_0 5 rfl rfl, wk3_13 9 rfl rfl⟩, ⟨nmh_6.1, nmh_6.2, pd_15⟩⟩
set_option maxRecDepth 100000 in
theorem kV_RX5_56 : CalV RX5 56 yX5_readSum cX5_readSum 3 none 1 := ⟨⟨wk3_6 4 rfl rfl, wk3_6 6 rfl rfl, wT_sel 9 _ rfl rfl rfl, wk1_0 5 rfl rfl, wk3_6 7 rfl rfl⟩, ⟨nmh_6.1, nmh_6.2, pd_14⟩⟩
set_option maxRecDepth 100000 in
theorem kV_RX5_62 : CalV RX5 62 yX5_take cX5_take 2 none 1 := ⟨⟨wk3_13 10 rfl rfl, wk3_14 0 rfl rfl, wT_sel 13 _ rfl rfl rfl, wk1_0 5 rfl rfl, wk3_14 1 rfl rfl⟩, ⟨nmh_6.1, nmh_6.2, pd_5⟩⟩
set_option maxRecDepth 100000 in
theorem kV_RX5_95 : CalV RX5 95 yX5_readFactor cX5_readFactor 4 none 1 := ⟨⟨wk3_7 0 rfl rfl, wk3_7 2 rfl rfl, wT_sel 11 _ rfl rfl rfl, wk1_0 5 rfl rfl, wk3_7 3 rfl rfl⟩, ⟨nmh_6.1, nmh_6.2, pd_14⟩⟩
set_option maxRecDepth 100000 in
theorem kV_RX5_92 : CalV RX5 92 yX5_readTerm cX5_readTerm 3 none 1 := ⟨⟨wk3_6 8 rfl rfl, wk3_6 10 rfl rfl, wT_sel 10 _ rfl rfl rfl, wk1_0 5 rfl rfl, wk3_6 11 rfl rfl⟩, ⟨nmh_6.1, nmh_6.2, pd_14⟩⟩
set_option maxRecDepth 100000 in
theorem kV_RX5_89 : CalV RX5 89 yX5_readRelation cX5_readRelation 2 (some .int) 0 := ⟨⟨wk3_16 5 rfl rfl, wk3_16 7 rfl rfl, wT_sel 18 _ rfl rfl rfl, wk1_0 5 rfl rfl, wk3_16 8 rfl rfl⟩, ⟨nmh_6.1, nmh_6.2, pd_1⟩⟩
set_option maxRecDepth 100000 in
theorem kV_RX5_66 : CalV RX5 66 yX5_readCondition cX5_readCondition 3 none 1 := ⟨⟨wk3_15 5 rfl rfl, wk3_15 7 rfl rfl, wT_sel 15 _ rfl rfl rfl, wk1_0 5 rfl rfl, wk3_15 8 rfl rfl⟩, ⟨nmh_6.1, nmh_6.2, pd_14⟩⟩
set_option maxRecDepth 100000 in
theorem kV_RX5_82 : CalV RX5 82 yX5_readPiece cX5_readPiece 4 none 1 := ⟨⟨wk3_16 1 rfl rfl, wk3_16 3 rfl rfl, wT_sel 17 _ rfl rfl rfl, wk1_0 5 rfl rfl, wk3_16 4 rfl rfl⟩, ⟨nmh_6.1, nmh_6.2, pd_14⟩⟩
set_option maxRecDepth 100000 in
theorem kV_RX5_79 : CalV RX5 79 yX9_aim cX9_aim 2 none 1 := ⟨⟨wk3_16 9 rfl rfl, wk3_16 10 rfl rfl, wk3_16 11 rfl rfl, wk1_0 2 rfl rfl, wk3_17 0 rfl rfl⟩, ⟨nmh_10.1, nmh_10.2, pd_14⟩⟩
set_option maxRecDepth 100000 in
theorem kV_RX5_72 : CalV RX5 72 yX5_readPart cX5_readPart 3 none 1 := ⟨⟨wk3_15 9 rfl rfl, wk3_15 11 rfl rfl, wT_sel 16 _ rfl rfl rfl, wk1_0 5 rfl rfl, wk3_16 0 rfl rfl⟩, ⟨nmh_6.1, nmh_6.2, pd_14⟩⟩
noncomputable def sxX5_peek_44 : List UInt8 := []
noncomputable def sxX5_peek_26 : List UInt8 := 190 :: 162 :: 0 :: 15 :: 42 :: 180 :: 0 :: 9 :: 42 :: 180 :: 0 :: 31 :: 46 :: 167 :: 0 :: 4 :: 2 :: 172 :: sxX5_peek_44
theorem shX5_peek_0 : cX5_peek.data.toList.drop 0 = 42 :: 180 :: 0 :: 31 :: 155 :: 0 :: 38 :: 42 :: 180 :: 0 :: 31 :: 42 :: 180 :: 0 :: 34 :: 162 :: 0 :: 27 :: 42 :: 180 :: 0 :: 31 :: 42 :: 180 :: 0 :: 9 :: sxX5_peek_26 := rfl
theorem shX5_peek_26 : cX5_peek.data.toList.drop 26 = 190 :: 162 :: 0 :: 15 :: 42 :: 180 :: 0 :: 9 :: 42 :: 180 :: 0 :: 31 :: 46 :: 167 :: 0 :: 4 :: 2 :: 172 :: sxX5_peek_44 := aq_26 shX5_peek_0
noncomputable def sxX5_fail_30 : List UInt8 := []
noncomputable def sxX5_fail_26 : List UInt8 := 181 :: 0 :: 34 :: 177 :: sxX5_fail_30
theorem shX5_fail_0 : cX5_fail.data.toList.drop 0 = 42 :: 180 :: 0 :: 37 :: 154 :: 0 :: 25 :: 42 :: 17 :: 3 :: 232 :: 27 :: 104 :: 42 :: 180 :: 0 :: 31 :: 96 :: 181 :: 0 :: 37 :: 42 :: 42 :: 180 :: 0 :: 31 :: sxX5_fail_26 := rfl
theorem shX5_fail_26 : cX5_fail.data.toList.drop 26 = 181 :: 0 :: 34 :: 177 :: sxX5_fail_30 := aq_26 shX5_fail_0
noncomputable def sxX5_take_27 : List UInt8 := []
noncomputable def sxX5_take_26 : List UInt8 := 177 :: sxX5_take_27
theorem shX5_take_0 : cX5_take.data.toList.drop 0 = 42 :: 182 :: 0 :: 43 :: 27 :: 160 :: 0 :: 16 :: 42 :: 89 :: 180 :: 0 :: 31 :: 4 :: 96 :: 181 :: 0 :: 31 :: 167 :: 0 :: 8 :: 42 :: 4 :: 182 :: 0 :: 47 :: sxX5_take_26 := rfl
theorem shX5_take_26 : cX5_take.data.toList.drop 26 = 177 :: sxX5_take_27 := aq_26 shX5_take_0
noncomputable def sxX5_opens_25 : List UInt8 := []
noncomputable def sxX5_opens_24 : List UInt8 := 172 :: sxX5_opens_25
theorem shX5_opens_0 : cX5_opens.data.toList.drop 0 = 27 :: 16 :: 6 :: 161 :: 0 :: 10 :: 42 :: 8 :: 182 :: 0 :: 47 :: 3 :: 172 :: 42 :: 89 :: 180 :: 0 :: 31 :: 4 :: 96 :: 181 :: 0 :: 31 :: 4 :: sxX5_opens_24 := rfl
theorem shX5_opens_24 : cX5_opens.data.toList.drop 24 = 172 :: sxX5_opens_25 := aq_24 shX5_opens_0
noncomputable def sxX9_add_51 : List UInt8 := []
noncomputable def sxX9_add_48 : List UInt8 := 4 :: 100 :: 172 :: sxX9_add_51
noncomputable def sxX9_add_24 : List UInt8 := 180 :: 0 :: 33 :: 27 :: 16 :: 20 :: 120 :: 28 :: 128 :: 79 :: 42 :: 89 :: 180 :: 0 :: 33 :: 4 :: 96 :: 181 :: 0 :: 33 :: 42 :: 180 :: 0 :: 33 :: sxX9_add_48
theorem shX9_add_0 : cX9_add.data.toList.drop 0 = 42 :: 180 :: 0 :: 33 :: 155 :: 0 :: 30 :: 42 :: 180 :: 0 :: 33 :: 42 :: 180 :: 0 :: 17 :: 190 :: 162 :: 0 :: 18 :: 42 :: 180 :: 0 :: 17 :: 42 :: sxX9_add_24 := rfl
theorem shX9_add_24 : cX9_add.data.toList.drop 24 = 180 :: 0 :: 33 :: 27 :: 16 :: 20 :: 120 :: 28 :: 128 :: 79 :: 42 :: 89 :: 180 :: 0 :: 33 :: 4 :: 96 :: 181 :: 0 :: 33 :: 42 :: 180 :: 0 :: 33 :: sxX9_add_48 := aq_24 shX9_add_0
theorem shX9_add_48 : cX9_add.data.toList.drop 48 = 4 :: 100 :: 172 :: sxX9_add_51 := aq_24 shX9_add_24
noncomputable def sxX9_aim_25 : List UInt8 := []
noncomputable def sxX9_aim_24 : List UInt8 := 177 :: sxX9_aim_25
theorem shX9_aim_0 : cX9_aim.data.toList.drop 0 = 42 :: 180 :: 0 :: 17 :: 27 :: 42 :: 180 :: 0 :: 17 :: 27 :: 184 :: 0 :: 37 :: 18 :: 43 :: 126 :: 42 :: 180 :: 0 :: 33 :: 128 :: 184 :: 0 :: 44 :: sxX9_aim_24 := rfl
theorem shX9_aim_24 : cX9_aim.data.toList.drop 24 = 177 :: sxX9_aim_25 := aq_24 shX9_aim_0
noncomputable def sxX9_startSum_16 : List UInt8 := []
theorem shX9_startSum_0 : cX9_startSum.data.toList.drop 0 = 42 :: 180 :: 0 :: 21 :: 42 :: 180 :: 0 :: 48 :: 42 :: 180 :: 0 :: 33 :: 184 :: 0 :: 44 :: 177 :: sxX9_startSum_16 := rfl
noncomputable def sxX9_startCondition_16 : List UInt8 := []
theorem shX9_startCondition_0 : cX9_startCondition.data.toList.drop 0 = 42 :: 180 :: 0 :: 24 :: 42 :: 180 :: 0 :: 48 :: 42 :: 180 :: 0 :: 33 :: 184 :: 0 :: 44 :: 177 :: sxX9_startCondition_16 := rfl
noncomputable def sxX9_endClause_26 : List UInt8 := []
noncomputable def sxX9_endClause_25 : List UInt8 := 177 :: sxX9_endClause_26
theorem shX9_endClause_0 : cX9_endClause.data.toList.drop 0 = 42 :: 180 :: 0 :: 27 :: 42 :: 180 :: 0 :: 48 :: 42 :: 180 :: 0 :: 33 :: 184 :: 0 :: 44 :: 42 :: 89 :: 180 :: 0 :: 48 :: 4 :: 96 :: 181 :: 0 :: 48 :: sxX9_endClause_25 := rfl
theorem shX9_endClause_25 : cX9_endClause.data.toList.drop 25 = 177 :: sxX9_endClause_26 := aq_25 shX9_endClause_0
noncomputable def sxX5_isDigit_18 : List UInt8 := []
theorem shX5_isDigit_0 : cX5_isDigit.data.toList.drop 0 = 26 :: 16 :: 48 :: 161 :: 0 :: 13 :: 26 :: 16 :: 57 :: 163 :: 0 :: 7 :: 4 :: 167 :: 0 :: 4 :: 3 :: 172 :: sxX5_isDigit_18 := rfl
noncomputable def sxX5_readRelation_66 : List UInt8 := []
noncomputable def sxX5_readRelation_49 : List UInt8 := 167 :: 0 :: 16 :: 27 :: 16 :: 62 :: 160 :: 0 :: 8 :: 16 :: 9 :: 167 :: 0 :: 5 :: 16 :: 10 :: 172 :: sxX5_readRelation_66
noncomputable def sxX5_readRelation_24 : List UInt8 := 89 :: 180 :: 0 :: 31 :: 4 :: 96 :: 181 :: 0 :: 31 :: 167 :: 0 :: 8 :: 42 :: 4 :: 182 :: 0 :: 47 :: 27 :: 16 :: 60 :: 160 :: 0 :: 8 :: 16 :: 8 :: sxX5_readRelation_49
theorem shX5_readRelation_0 : cX5_readRelation.data.toList.drop 0 = 42 :: 182 :: 0 :: 43 :: 60 :: 27 :: 16 :: 60 :: 159 :: 0 :: 15 :: 27 :: 16 :: 62 :: 159 :: 0 :: 9 :: 27 :: 16 :: 61 :: 160 :: 0 :: 16 :: 42 :: sxX5_readRelation_24 := rfl
theorem shX5_readRelation_24 : cX5_readRelation.data.toList.drop 24 = 89 :: 180 :: 0 :: 31 :: 4 :: 96 :: 181 :: 0 :: 31 :: 167 :: 0 :: 8 :: 42 :: 4 :: 182 :: 0 :: 47 :: 27 :: 16 :: 60 :: 160 :: 0 :: 8 :: 16 :: 8 :: sxX5_readRelation_49 := aq_24 shX5_readRelation_0
theorem shX5_readRelation_49 : cX5_readRelation.data.toList.drop 49 = 167 :: 0 :: 16 :: 27 :: 16 :: 62 :: 160 :: 0 :: 8 :: 16 :: 9 :: 167 :: 0 :: 5 :: 16 :: 10 :: 172 :: sxX5_readRelation_66 := aq_25 shX5_readRelation_24
theorem dX5_readRelation_41 : decode cX5_readRelation 41 = .ok (.iload_n 1, 1) := oc_27 41 (aq_17 shX5_readRelation_24)
theorem dX5_readRelation_42 : decode cX5_readRelation 42 = .ok (.bipush 60, 2) := oc_16 42 (aq_18 shX5_readRelation_24) sgb_60
theorem dX5_readRelation_44 : decode cX5_readRelation 44 = .ok (.if_icmp .ne 8, 3) := oc_160 44 (aq_20 shX5_readRelation_24) sgw_0_8
theorem dX5_readRelation_65 : decode cX5_readRelation 65 = .ok (.ireturn, 1) := oc_172 65 (aq_16 shX5_readRelation_49)
noncomputable def sxX5_readNumber_75 : List UInt8 := []
noncomputable def sxX5_readNumber_73 : List UInt8 := 87 :: 177 :: sxX5_readNumber_75
noncomputable def sxX5_readNumber_49 : List UInt8 := 42 :: 182 :: 0 :: 43 :: 184 :: 0 :: 106 :: 153 :: 0 :: 8 :: 42 :: 5 :: 182 :: 0 :: 47 :: 42 :: 180 :: 0 :: 20 :: 4 :: 27 :: 182 :: 0 :: 75 :: sxX5_readNumber_73
noncomputable def sxX5_readNumber_24 : List UInt8 := 42 :: 182 :: 0 :: 43 :: 96 :: 16 :: 48 :: 100 :: 60 :: 42 :: 89 :: 180 :: 0 :: 31 :: 4 :: 96 :: 181 :: 0 :: 31 :: 132 :: 2 :: 1 :: 167 :: 255 :: 214 :: sxX5_readNumber_49
theorem shX5_readNumber_0 : cX5_readNumber.data.toList.drop 0 = 3 :: 60 :: 3 :: 61 :: 28 :: 16 :: 6 :: 162 :: 0 :: 42 :: 42 :: 182 :: 0 :: 43 :: 184 :: 0 :: 106 :: 153 :: 0 :: 32 :: 16 :: 10 :: 27 :: 104 :: sxX5_readNumber_24 := rfl
theorem shX5_readNumber_24 : cX5_readNumber.data.toList.drop 24 = 42 :: 182 :: 0 :: 43 :: 96 :: 16 :: 48 :: 100 :: 60 :: 42 :: 89 :: 180 :: 0 :: 31 :: 4 :: 96 :: 181 :: 0 :: 31 :: 132 :: 2 :: 1 :: 167 :: 255 :: 214 :: sxX5_readNumber_49 := aq_24 shX5_readNumber_0
theorem shX5_readNumber_49 : cX5_readNumber.data.toList.drop 49 = 42 :: 182 :: 0 :: 43 :: 184 :: 0 :: 106 :: 153 :: 0 :: 8 :: 42 :: 5 :: 182 :: 0 :: 47 :: 42 :: 180 :: 0 :: 20 :: 4 :: 27 :: 182 :: 0 :: 75 :: sxX5_readNumber_73 := aq_25 shX5_readNumber_24
theorem shX5_readNumber_73 : cX5_readNumber.data.toList.drop 73 = 87 :: 177 :: sxX5_readNumber_75 := aq_24 shX5_readNumber_49
theorem dX5_readNumber_56 : decode cX5_readNumber 56 = .ok (.ifCond .eq 8, 3) := oc_153 56 (aq_7 shX5_readNumber_49) sgw_0_8
theorem dX5_readNumber_64 : decode cX5_readNumber 64 = .ok (.aload_n 0, 1) := oc_42 64 (aq_15 shX5_readNumber_49)
theorem dX5_readNumber_65 : decode cX5_readNumber 65 = .ok (.getfield 20, 3) := oc_180 65 (aq_16 shX5_readNumber_49) uw_0_20
theorem dX5_readNumber_68 : decode cX5_readNumber 68 = .ok (.iconst 1, 1) := oc_4 68 (aq_19 shX5_readNumber_49)
theorem dX5_readNumber_69 : decode cX5_readNumber 69 = .ok (.iload_n 1, 1) := oc_27 69 (aq_20 shX5_readNumber_49)
theorem dX5_readNumber_70 : decode cX5_readNumber 70 = .ok (.invokevirtual 75, 3) := oc_182 70 (aq_21 shX5_readNumber_49) uw_0_75
theorem dX5_readNumber_73 : decode cX5_readNumber 73 = .ok (.pop, 1) := oc_87 73 shX5_readNumber_73
theorem dX5_readNumber_74 : decode cX5_readNumber 74 = .ok (.return_, 1) := oc_177 74 (aq_1 shX5_readNumber_73)
noncomputable def sxX5_readFactor_99 : List UInt8 := []
noncomputable def sxX5_readFactor_75 : List UInt8 := 4 :: 96 :: 181 :: 0 :: 31 :: 42 :: 180 :: 0 :: 20 :: 5 :: 29 :: 182 :: 0 :: 75 :: 87 :: 167 :: 0 :: 8 :: 42 :: 4 :: 182 :: 0 :: 47 :: 177 :: sxX5_readFactor_99
noncomputable def sxX5_readFactor_49 : List UInt8 := 167 :: 0 :: 49 :: 28 :: 184 :: 0 :: 106 :: 153 :: 0 :: 10 :: 42 :: 182 :: 0 :: 109 :: 167 :: 0 :: 35 :: 29 :: 155 :: 0 :: 26 :: 42 :: 89 :: 180 :: 0 :: 31 :: sxX5_readFactor_75
noncomputable def sxX5_readFactor_25 : List UInt8 := 160 :: 0 :: 27 :: 42 :: 27 :: 182 :: 0 :: 85 :: 153 :: 0 :: 65 :: 42 :: 27 :: 4 :: 96 :: 182 :: 0 :: 56 :: 42 :: 16 :: 93 :: 182 :: 0 :: 62 :: sxX5_readFactor_49
theorem shX5_readFactor_0 : cX5_readFactor.data.toList.drop 0 = 42 :: 182 :: 0 :: 43 :: 61 :: 28 :: 2 :: 160 :: 0 :: 7 :: 2 :: 167 :: 0 :: 10 :: 18 :: 98 :: 28 :: 146 :: 182 :: 0 :: 100 :: 62 :: 28 :: 16 :: 91 :: sxX5_readFactor_25 := rfl
theorem shX5_readFactor_25 : cX5_readFactor.data.toList.drop 25 = 160 :: 0 :: 27 :: 42 :: 27 :: 182 :: 0 :: 85 :: 153 :: 0 :: 65 :: 42 :: 27 :: 4 :: 96 :: 182 :: 0 :: 56 :: 42 :: 16 :: 93 :: 182 :: 0 :: 62 :: sxX5_readFactor_49 := aq_25 shX5_readFactor_0
theorem shX5_readFactor_49 : cX5_readFactor.data.toList.drop 49 = 167 :: 0 :: 49 :: 28 :: 184 :: 0 :: 106 :: 153 :: 0 :: 10 :: 42 :: 182 :: 0 :: 109 :: 167 :: 0 :: 35 :: 29 :: 155 :: 0 :: 26 :: 42 :: 89 :: 180 :: 0 :: 31 :: sxX5_readFactor_75 := aq_24 shX5_readFactor_25
theorem shX5_readFactor_75 : cX5_readFactor.data.toList.drop 75 = 4 :: 96 :: 181 :: 0 :: 31 :: 42 :: 180 :: 0 :: 20 :: 5 :: 29 :: 182 :: 0 :: 75 :: 87 :: 167 :: 0 :: 8 :: 42 :: 4 :: 182 :: 0 :: 47 :: 177 :: sxX5_readFactor_99 := aq_26 shX5_readFactor_49
theorem dX5_readFactor_21 : decode cX5_readFactor 21 = .ok (.istore_n 3, 1) := oc_62 21 (aq_21 shX5_readFactor_0)
theorem dX5_readFactor_22 : decode cX5_readFactor 22 = .ok (.iload_n 2, 1) := oc_28 22 (aq_22 shX5_readFactor_0)
theorem dX5_readFactor_23 : decode cX5_readFactor 23 = .ok (.bipush 91, 2) := oc_16 23 (aq_23 shX5_readFactor_0) sgb_91
theorem dX5_readFactor_25 : decode cX5_readFactor 25 = .ok (.if_icmp .ne 27, 3) := oc_160 25 shX5_readFactor_25 sgw_0_27
theorem dX5_readFactor_52 : decode cX5_readFactor 52 = .ok (.iload_n 2, 1) := oc_28 52 (aq_3 shX5_readFactor_49)
theorem dX5_readFactor_53 : decode cX5_readFactor 53 = .ok (.invokestatic 106, 3) := oc_184 53 (aq_4 shX5_readFactor_49) uw_0_106
theorem dX5_readFactor_56 : decode cX5_readFactor 56 = .ok (.ifCond .eq 10, 3) := oc_153 56 (aq_7 shX5_readFactor_49) sgw_0_10
theorem dX5_readFactor_98 : decode cX5_readFactor 98 = .ok (.return_, 1) := oc_177 98 (aq_23 shX5_readFactor_75)
theorem dX5_readFactor_66 : decode cX5_readFactor 66 = .ok (.iload_n 3, 1) := oc_29 66 (aq_17 shX5_readFactor_49)
theorem dX5_readFactor_67 : decode cX5_readFactor 67 = .ok (.ifCond .lt 26, 3) := oc_155 67 (aq_18 shX5_readFactor_49) sgw_0_26
theorem dX5_readFactor_93 : decode cX5_readFactor 93 = .ok (.aload_n 0, 1) := oc_42 93 (aq_18 shX5_readFactor_75)
theorem dX5_readFactor_94 : decode cX5_readFactor 94 = .ok (.iconst 1, 1) := oc_4 94 (aq_19 shX5_readFactor_75)
theorem dX5_readFactor_95 : decode cX5_readFactor 95 = .ok (.invokevirtual 47, 3) := oc_182 95 (aq_20 shX5_readFactor_75) uw_0_47
noncomputable def sxX5_readTerm_99 : List UInt8 := []
noncomputable def sxX5_readTerm_98 : List UInt8 := 177 :: sxX5_readTerm_99
noncomputable def sxX5_readTerm_73 : List UInt8 := 8 :: 167 :: 0 :: 16 :: 28 :: 16 :: 47 :: 160 :: 0 :: 8 :: 16 :: 6 :: 167 :: 0 :: 5 :: 16 :: 7 :: 3 :: 182 :: 0 :: 75 :: 87 :: 167 :: 255 :: 166 :: sxX5_readTerm_98
noncomputable def sxX5_readTerm_49 : List UInt8 := 89 :: 180 :: 0 :: 31 :: 4 :: 96 :: 181 :: 0 :: 31 :: 42 :: 27 :: 182 :: 0 :: 95 :: 42 :: 180 :: 0 :: 20 :: 28 :: 16 :: 42 :: 160 :: 0 :: 7 :: sxX5_readTerm_73
noncomputable def sxX5_readTerm_25 : List UInt8 := 42 :: 182 :: 0 :: 43 :: 16 :: 47 :: 159 :: 0 :: 12 :: 42 :: 182 :: 0 :: 43 :: 16 :: 37 :: 160 :: 0 :: 58 :: 42 :: 182 :: 0 :: 43 :: 61 :: 42 :: sxX5_readTerm_49
theorem shX5_readTerm_0 : cX5_readTerm.data.toList.drop 0 = 42 :: 27 :: 182 :: 0 :: 95 :: 42 :: 180 :: 0 :: 31 :: 42 :: 180 :: 0 :: 34 :: 162 :: 0 :: 85 :: 42 :: 182 :: 0 :: 43 :: 16 :: 42 :: 159 :: 0 :: 21 :: sxX5_readTerm_25 := rfl
theorem shX5_readTerm_25 : cX5_readTerm.data.toList.drop 25 = 42 :: 182 :: 0 :: 43 :: 16 :: 47 :: 159 :: 0 :: 12 :: 42 :: 182 :: 0 :: 43 :: 16 :: 37 :: 160 :: 0 :: 58 :: 42 :: 182 :: 0 :: 43 :: 61 :: 42 :: sxX5_readTerm_49 := aq_25 shX5_readTerm_0
theorem shX5_readTerm_49 : cX5_readTerm.data.toList.drop 49 = 89 :: 180 :: 0 :: 31 :: 4 :: 96 :: 181 :: 0 :: 31 :: 42 :: 27 :: 182 :: 0 :: 95 :: 42 :: 180 :: 0 :: 20 :: 28 :: 16 :: 42 :: 160 :: 0 :: 7 :: sxX5_readTerm_73 := aq_24 shX5_readTerm_25
theorem shX5_readTerm_73 : cX5_readTerm.data.toList.drop 73 = 8 :: 167 :: 0 :: 16 :: 28 :: 16 :: 47 :: 160 :: 0 :: 8 :: 16 :: 6 :: 167 :: 0 :: 5 :: 16 :: 7 :: 3 :: 182 :: 0 :: 75 :: 87 :: 167 :: 255 :: 166 :: sxX5_readTerm_98 := aq_24 shX5_readTerm_49
theorem shX5_readTerm_98 : cX5_readTerm.data.toList.drop 98 = 177 :: sxX5_readTerm_99 := aq_25 shX5_readTerm_73
theorem dX5_readTerm_90 : decode cX5_readTerm 90 = .ok (.iconst 0, 1) := oc_3 90 (aq_17 shX5_readTerm_73)
theorem dX5_readTerm_91 : decode cX5_readTerm 91 = .ok (.invokevirtual 75, 3) := oc_182 91 (aq_18 shX5_readTerm_73) uw_0_75
theorem dX5_readTerm_94 : decode cX5_readTerm 94 = .ok (.pop, 1) := oc_87 94 (aq_21 shX5_readTerm_73)
theorem dX5_readTerm_95 : decode cX5_readTerm 95 = .ok (.goto (-90), 3) := oc_167 95 (aq_22 shX5_readTerm_73) sgw_255_166
noncomputable def sxX5_readSum_78 : List UInt8 := []
noncomputable def sxX5_readSum_73 : List UInt8 := 87 :: 167 :: 255 :: 187 :: 177 :: sxX5_readSum_78
noncomputable def sxX5_readSum_49 : List UInt8 := 42 :: 89 :: 180 :: 0 :: 31 :: 4 :: 96 :: 181 :: 0 :: 31 :: 42 :: 27 :: 182 :: 0 :: 92 :: 42 :: 180 :: 0 :: 20 :: 28 :: 3 :: 182 :: 0 :: 75 :: sxX5_readSum_73
noncomputable def sxX5_readSum_25 : List UInt8 := 42 :: 182 :: 0 :: 43 :: 16 :: 45 :: 160 :: 0 :: 46 :: 42 :: 182 :: 0 :: 43 :: 16 :: 43 :: 160 :: 0 :: 7 :: 6 :: 167 :: 0 :: 4 :: 7 :: 61 :: sxX5_readSum_49
theorem shX5_readSum_0 : cX5_readSum.data.toList.drop 0 = 42 :: 27 :: 182 :: 0 :: 92 :: 42 :: 180 :: 0 :: 31 :: 42 :: 180 :: 0 :: 34 :: 162 :: 0 :: 64 :: 42 :: 182 :: 0 :: 43 :: 16 :: 43 :: 159 :: 0 :: 12 :: sxX5_readSum_25 := rfl
theorem shX5_readSum_25 : cX5_readSum.data.toList.drop 25 = 42 :: 182 :: 0 :: 43 :: 16 :: 45 :: 160 :: 0 :: 46 :: 42 :: 182 :: 0 :: 43 :: 16 :: 43 :: 160 :: 0 :: 7 :: 6 :: 167 :: 0 :: 4 :: 7 :: 61 :: sxX5_readSum_49 := aq_25 shX5_readSum_0
theorem shX5_readSum_49 : cX5_readSum.data.toList.drop 49 = 42 :: 89 :: 180 :: 0 :: 31 :: 4 :: 96 :: 181 :: 0 :: 31 :: 42 :: 27 :: 182 :: 0 :: 92 :: 42 :: 180 :: 0 :: 20 :: 28 :: 3 :: 182 :: 0 :: 75 :: sxX5_readSum_73 := aq_24 shX5_readSum_25
theorem shX5_readSum_73 : cX5_readSum.data.toList.drop 73 = 87 :: 167 :: 255 :: 187 :: 177 :: sxX5_readSum_78 := aq_24 shX5_readSum_49
theorem dX5_readSum_48 : decode cX5_readSum 48 = .ok (.istore_n 2, 1) := oc_61 48 (aq_23 shX5_readSum_25)
theorem dX5_readSum_49 : decode cX5_readSum 49 = .ok (.aload_n 0, 1) := oc_42 49 shX5_readSum_49
theorem dX5_readSum_50 : decode cX5_readSum 50 = .ok (.dup, 1) := oc_89 50 (aq_1 shX5_readSum_49)
theorem dX5_readSum_51 : decode cX5_readSum 51 = .ok (.getfield 31, 3) := oc_180 51 (aq_2 shX5_readSum_49) uw_0_31
theorem dX5_readSum_54 : decode cX5_readSum 54 = .ok (.iconst 1, 1) := oc_4 54 (aq_5 shX5_readSum_49)
theorem dX5_readSum_55 : decode cX5_readSum 55 = .ok (.iadd, 1) := oc_96 55 (aq_6 shX5_readSum_49)
theorem dX5_readSum_56 : decode cX5_readSum 56 = .ok (.putfield 31, 3) := oc_181 56 (aq_7 shX5_readSum_49) uw_0_31
theorem dX5_readSum_59 : decode cX5_readSum 59 = .ok (.aload_n 0, 1) := oc_42 59 (aq_10 shX5_readSum_49)
theorem dX5_readSum_60 : decode cX5_readSum 60 = .ok (.iload_n 1, 1) := oc_27 60 (aq_11 shX5_readSum_49)
theorem dX5_readSum_61 : decode cX5_readSum 61 = .ok (.invokevirtual 92, 3) := oc_182 61 (aq_12 shX5_readSum_49) uw_0_92
theorem dX5_readSum_64 : decode cX5_readSum 64 = .ok (.aload_n 0, 1) := oc_42 64 (aq_15 shX5_readSum_49)
theorem dX5_readSum_65 : decode cX5_readSum 65 = .ok (.getfield 20, 3) := oc_180 65 (aq_16 shX5_readSum_49) uw_0_20
theorem dX5_readSum_68 : decode cX5_readSum 68 = .ok (.iload_n 2, 1) := oc_28 68 (aq_19 shX5_readSum_49)
theorem dX5_readSum_69 : decode cX5_readSum 69 = .ok (.iconst 0, 1) := oc_3 69 (aq_20 shX5_readSum_49)
theorem dX5_readSum_70 : decode cX5_readSum 70 = .ok (.invokevirtual 75, 3) := oc_182 70 (aq_21 shX5_readSum_49) uw_0_75
theorem dX5_readSum_73 : decode cX5_readSum 73 = .ok (.pop, 1) := oc_87 73 shX5_readSum_73
theorem dX5_readSum_74 : decode cX5_readSum 74 = .ok (.goto (-69), 3) := oc_167 74 (aq_1 shX5_readSum_73) sgw_255_187
noncomputable def sxX5_readPiece_96 : List UInt8 := []
noncomputable def sxX5_readPiece_75 : List UInt8 := 42 :: 182 :: 0 :: 89 :: 62 :: 42 :: 27 :: 182 :: 0 :: 56 :: 42 :: 180 :: 0 :: 20 :: 29 :: 3 :: 182 :: 0 :: 75 :: 87 :: 177 :: sxX5_readPiece_96
noncomputable def sxX5_readPiece_51 : List UInt8 := 153 :: 0 :: 44 :: 42 :: 27 :: 4 :: 96 :: 182 :: 0 :: 66 :: 42 :: 16 :: 41 :: 182 :: 0 :: 62 :: 167 :: 0 :: 28 :: 42 :: 27 :: 182 :: 0 :: 56 :: sxX5_readPiece_75
noncomputable def sxX5_readPiece_26 : List UInt8 := 42 :: 180 :: 0 :: 20 :: 16 :: 11 :: 3 :: 182 :: 0 :: 75 :: 87 :: 167 :: 0 :: 58 :: 28 :: 16 :: 40 :: 160 :: 0 :: 27 :: 42 :: 27 :: 182 :: 0 :: 85 :: sxX5_readPiece_51
theorem shX5_readPiece_0 : cX5_readPiece.data.toList.drop 0 = 42 :: 182 :: 0 :: 43 :: 61 :: 28 :: 16 :: 33 :: 160 :: 0 :: 32 :: 42 :: 27 :: 182 :: 0 :: 85 :: 153 :: 0 :: 79 :: 42 :: 27 :: 4 :: 96 :: 182 :: 0 :: 82 :: sxX5_readPiece_26 := rfl
theorem shX5_readPiece_26 : cX5_readPiece.data.toList.drop 26 = 42 :: 180 :: 0 :: 20 :: 16 :: 11 :: 3 :: 182 :: 0 :: 75 :: 87 :: 167 :: 0 :: 58 :: 28 :: 16 :: 40 :: 160 :: 0 :: 27 :: 42 :: 27 :: 182 :: 0 :: 85 :: sxX5_readPiece_51 := aq_26 shX5_readPiece_0
theorem shX5_readPiece_51 : cX5_readPiece.data.toList.drop 51 = 153 :: 0 :: 44 :: 42 :: 27 :: 4 :: 96 :: 182 :: 0 :: 66 :: 42 :: 16 :: 41 :: 182 :: 0 :: 62 :: 167 :: 0 :: 28 :: 42 :: 27 :: 182 :: 0 :: 56 :: sxX5_readPiece_75 := aq_25 shX5_readPiece_26
theorem shX5_readPiece_75 : cX5_readPiece.data.toList.drop 75 = 42 :: 182 :: 0 :: 89 :: 62 :: 42 :: 27 :: 182 :: 0 :: 56 :: 42 :: 180 :: 0 :: 20 :: 29 :: 3 :: 182 :: 0 :: 75 :: 87 :: 177 :: sxX5_readPiece_96 := aq_24 shX5_readPiece_51
theorem dX5_readPiece_95 : decode cX5_readPiece 95 = .ok (.return_, 1) := oc_177 95 (aq_20 shX5_readPiece_75)
noncomputable def sxX5_readPart_63 : List UInt8 := []
noncomputable def sxX5_readPart_51 : List UInt8 := 42 :: 180 :: 0 :: 20 :: 28 :: 182 :: 0 :: 79 :: 167 :: 255 :: 202 :: 177 :: sxX5_readPart_63
noncomputable def sxX5_readPart_25 : List UInt8 := 42 :: 89 :: 180 :: 0 :: 31 :: 4 :: 96 :: 181 :: 0 :: 31 :: 42 :: 180 :: 0 :: 20 :: 16 :: 12 :: 3 :: 182 :: 0 :: 75 :: 61 :: 42 :: 27 :: 182 :: 0 :: 82 :: sxX5_readPart_51
theorem shX5_readPart_0 : cX5_readPart.data.toList.drop 0 = 42 :: 27 :: 182 :: 0 :: 82 :: 42 :: 180 :: 0 :: 31 :: 42 :: 180 :: 0 :: 34 :: 162 :: 0 :: 49 :: 42 :: 182 :: 0 :: 43 :: 16 :: 38 :: 160 :: 0 :: 40 :: sxX5_readPart_25 := rfl
theorem shX5_readPart_25 : cX5_readPart.data.toList.drop 25 = 42 :: 89 :: 180 :: 0 :: 31 :: 4 :: 96 :: 181 :: 0 :: 31 :: 42 :: 180 :: 0 :: 20 :: 16 :: 12 :: 3 :: 182 :: 0 :: 75 :: 61 :: 42 :: 27 :: 182 :: 0 :: 82 :: sxX5_readPart_51 := aq_25 shX5_readPart_0
theorem shX5_readPart_51 : cX5_readPart.data.toList.drop 51 = 42 :: 180 :: 0 :: 20 :: 28 :: 182 :: 0 :: 79 :: 167 :: 255 :: 202 :: 177 :: sxX5_readPart_63 := aq_26 shX5_readPart_25
noncomputable def sxX5_readCondition_63 : List UInt8 := []
noncomputable def sxX5_readCondition_51 : List UInt8 := 42 :: 180 :: 0 :: 20 :: 28 :: 182 :: 0 :: 79 :: 167 :: 255 :: 202 :: 177 :: sxX5_readCondition_63
noncomputable def sxX5_readCondition_25 : List UInt8 := 42 :: 89 :: 180 :: 0 :: 31 :: 4 :: 96 :: 181 :: 0 :: 31 :: 42 :: 180 :: 0 :: 20 :: 16 :: 13 :: 3 :: 182 :: 0 :: 75 :: 61 :: 42 :: 27 :: 182 :: 0 :: 72 :: sxX5_readCondition_51
theorem shX5_readCondition_0 : cX5_readCondition.data.toList.drop 0 = 42 :: 27 :: 182 :: 0 :: 72 :: 42 :: 180 :: 0 :: 31 :: 42 :: 180 :: 0 :: 34 :: 162 :: 0 :: 49 :: 42 :: 182 :: 0 :: 43 :: 16 :: 124 :: 160 :: 0 :: 40 :: sxX5_readCondition_25 := rfl
theorem shX5_readCondition_25 : cX5_readCondition.data.toList.drop 25 = 42 :: 89 :: 180 :: 0 :: 31 :: 4 :: 96 :: 181 :: 0 :: 31 :: 42 :: 180 :: 0 :: 20 :: 16 :: 13 :: 3 :: 182 :: 0 :: 75 :: 61 :: 42 :: 27 :: 182 :: 0 :: 72 :: sxX5_readCondition_51 := aq_25 shX5_readCondition_0
theorem shX5_readCondition_51 : cX5_readCondition.data.toList.drop 51 = 42 :: 180 :: 0 :: 20 :: 28 :: 182 :: 0 :: 79 :: 167 :: 255 :: 202 :: 177 :: sxX5_readCondition_63 := aq_26 shX5_readCondition_25
set_option maxRecDepth 100000 in
set_option maxHeartbeats 4000000 in
theorem q_Rpeek (l : Launch) (D : va_G) (cI cB cZ : ClassId) (zz qq vv : Nat) (bt : Nat → Int32) (g : Nat → Nat) (ad : Nat → Nat → Nat) (cn : Nat → Nat) (In : Nat → Int32) (Fn : Nat → Nat → Int32)  (hB : CBX cn) (hR : ad 4 2 = g 40) (h1 : ad 4 1 < cn 6) (h3 : cn 31 ≤ cn 32) (h4 : cn 32 ≤ 160) : Met l yX5_peek (CWS yX5_peek cX5_peek 1 (some .int)) (RM 0 0 0) (PBrx [.ref (g 6)] D cI cB cZ zz qq vv bt (wX cI (D.1 99) zz g ad cn In Fn)) (vp_Si (fun r => (cn 31 < cn 32 ∧ r = Fn 40 (cn 31)) ∨ (cn 32 ≤ cn 31 ∧ r.toInt = -1))) 0 0 (fun _ => False) := by
  refine en_rx rfl pn_RX5 (Nat.le_of_ble_eq_true rfl) (fun p e s m below meth c hx hb hml hown S hr hlocks hnm hP hK hXS hS ls hl => ?_)
  have hl : lv_has ls 1 [(0, .ref (g 6))] := hl
  replace hB : CBXh cn := hB
  refine lv_aload_n hx hb (oc_42 0 shX5_peek_0) rfl (lvA0 hl) ?_
  refine gf_RX5_31 S hK hP 3 xo_3 (v := .int (nI (cn 31))) rfl (oc_180 1 (aq_1 shX5_peek_0) uw_0_31) ?_
  have : (nI (cn 31)).toInt = (((cn 31) : Nat) : Int) := nI_toInt (by omega)
  refine lv_if_lt (tgt := 42) hx hb (oc_155 4 (aq_4 shX5_peek_0) sgw_0_38) rfl (fun c_1 => False.elim (by have tc_1 : ((nI (cn 31)).toInt : Int) < 0 := Int32.lt_iff_toInt_lt.mp c_1; omega)) (fun c_1 => ?_)
  have tc_1 : (0 : Int) ≤ (nI (cn 31)).toInt := Int32.le_iff_toInt_le.mp (Int32.not_lt.mp c_1)
  refine lv_aload_n hx hb (oc_42 7 (aq_7 shX5_peek_0)) rfl (lvA0 hl) ?_
  refine gf_RX5_31 S hK hP 3 xo_3 (v := .int (nI (cn 31))) rfl (oc_180 8 (aq_8 shX5_peek_0) uw_0_31) ?_
  refine lv_aload_n hx hb (oc_42 11 (aq_11 shX5_peek_0)) rfl (lvA0 hl) ?_
  refine gf_RX5_34 S hK hP 3 xo_3 (v := .int (nI (cn 32))) rfl (oc_180 12 (aq_12 shX5_peek_0) uw_0_34) ?_
  have : (nI (cn 32)).toInt = (((cn 32) : Nat) : Int) := nI_toInt (by omega)
  refine lv_icmp_ge (tgt := 42) hx hb (oc_162 15 (aq_15 shX5_peek_0) sgw_0_27) rfl (fun c_2 => ?_) (fun c_2 => ?_)
  ·
    have tc_2 : ((nI (cn 32)).toInt : Int) ≤ (nI (cn 31)).toInt := Int32.le_iff_toInt_le.mp c_2
    refine lv_iconst (v := (-1)) hx hb (oc_2 42 (aq_16 shX5_peek_26)) kic_m1 ?_
    exact W.iret (v := (-1)) hx hb hr (fun t ht hW => ⟨(-1), rfl, (Or.inr ⟨by omega, rfl⟩), ht⟩) (fun _ h => absurd h List.not_mem_nil) (oc_172 43 (aq_17 shX5_peek_26))
  ·
    have tc_2 : ((nI (cn 31)).toInt : Int) < (nI (cn 32)).toInt := Int32.lt_iff_toInt_lt.mp (Int32.not_le.mp c_2)
    refine lv_aload_n hx hb (oc_42 18 (aq_18 shX5_peek_0)) rfl (lvA0 hl) ?_
    refine gf_RX5_31 S hK hP 3 xo_3 (v := .int (nI (cn 31))) rfl (oc_180 19 (aq_19 shX5_peek_0) uw_0_31) ?_
    refine lv_aload_n hx hb (oc_42 22 (aq_22 shX5_peek_0)) rfl (lvA0 hl) ?_
    refine gf_RX5_9 S hK hP 3 xo_3 (v := .ref (ad 4 2)) rfl (oc_180 23 (aq_23 shX5_peek_0) uw_0_9) ?_
    rw [hR]
    refine va_alen hx hb hK.1 hP 2 0 xo_2 rfl (v := 200) rfl (oc_190 26 shX5_peek_26) ?_
    refine lv_icmp_ge (tgt := 42) hx hb (oc_162 27 (aq_1 shX5_peek_26) sgw_0_15) rfl (fun c_3 => ?_) (fun c_3 => ?_)
    ·
      have tc_3 : (200 : Int) ≤ (nI (cn 31)).toInt := Int32.le_iff_toInt_le.mp c_3
      refine lv_iconst (v := (-1)) hx hb (oc_2 42 (aq_16 shX5_peek_26)) kic_m1 ?_
      exact W.iret (v := (-1)) hx hb hr (fun t ht hW => ⟨(-1), rfl, (Or.inr ⟨by omega, rfl⟩), ht⟩) (fun _ h => absurd h List.not_mem_nil) (oc_172 43 (aq_17 shX5_peek_26))
    ·
      have tc_3 : ((nI (cn 31)).toInt : Int) < 200 := Int32.lt_iff_toInt_lt.mp (Int32.not_le.mp c_3)
      refine lv_aload_n hx hb (oc_42 30 (aq_4 shX5_peek_26)) rfl (lvA0 hl) ?_
      refine gf_RX5_9 S hK hP 3 xo_3 (v := .ref (ad 4 2)) rfl (oc_180 31 (aq_5 shX5_peek_26) uw_0_9) ?_
      rw [hR]
      refine lv_aload_n hx hb (oc_42 34 (aq_8 shX5_peek_26)) rfl (lvA0 hl) ?_
      refine gf_RX5_31 S hK hP 3 xo_3 (v := .int (nI (cn 31))) rfl (oc_180 35 (aq_9 shX5_peek_26) uw_0_31) ?_
      refine va_iald hx hb hK.1 hP 2 0 xo_2 rfl (vp_in_nI (by omega) (ltb rfl)) (oc_46 38 (aq_12 shX5_peek_26)) ?_
      refine lv_topi (fun y_4 ey_4 => ?_)
      obtain rfl : y_4 = ((Fn 40) (cn 31)) := ey_4.trans (congrArg (Fn 40) (nI_clamp (by omega)))
      refine lv_goto (tgt := 43) hx hb (oc_167 39 (aq_13 shX5_peek_26) sgw_0_4) rfl ?_
      exact W.iret (v := ((Fn 40) (cn 31))) hx hb hr (fun t ht hW => ⟨((Fn 40) (cn 31)), rfl, (Or.inl ⟨by omega, rfl⟩), ht⟩) (fun _ h => absurd h List.not_mem_nil) (oc_172 43 (aq_17 shX5_peek_26))
set_option maxRecDepth 100000 in
set_option maxHeartbeats 4000000 in
theorem q_Rfail (l : Launch) (D : va_G) (cI cB cZ : ClassId) (zz qq vv : Nat) (bt : Nat → Int32) (g : Nat → Nat) (ad : Nat → Nat → Nat) (cn : Nat → Nat) (In : Nat → Int32) (Fn : Nat → Nat → Int32) (v0 : Int32) (sz : Nat) (hB : CBX cn) (hR : ad 4 2 = g 40) (h1 : ad 4 1 < cn 6) (h3 : cn 31 ≤ cn 32) (h4 : cn 32 ≤ 160) : Met l yX5_fail (CWS yX5_fail cX5_fail 2 none) (RM 0 0 0) (PBx [.ref (g 6), .int v0] D cI cB cZ zz qq vv bt (wX cI (D.1 99) zz g ad cn In Fn) sz) (va_Qv (fun (u : (Nat → Nat) × (Nat → Int32) × (Nat → Nat → Int32)) => (fun c2 I2 F2 => Fr [32] [33] [] cn In Fn c2 I2 F2 ∧ CBX c2 ∧ (c2 31 = cn 31 ∧ cn 31 ≤ c2 32 ∧ c2 32 ≤ cn 32)) u.1 u.2.1 u.2.2) (fun (u : (Nat → Nat) × (Nat → Int32) × (Nat → Nat → Int32)) (t : State) => va_P D vwCl (wX cI (D.1 99) zz g ad u.1 u.2.1 u.2.2) t.heap ∧ va_D (va_A (wX cI (D.1 99) zz g ad cn In Fn) sz) (wX cI (D.1 99) zz g ad u.1 u.2.1 u.2.2)) (va_A (wX cI (D.1 99) zz g ad cn In Fn) sz)) 0 0 (va_A (wX cI (D.1 99) zz g ad cn In Fn) sz) := by
  refine en_x (fun A => (va_Qv (fun (u : (Nat → Nat) × (Nat → Int32) × (Nat → Nat → Int32)) => (fun (c2 : Nat → Nat) (I2 : Nat → Int32) (F2 : Nat → Nat → Int32) => Fr [32] [33] [] cn In Fn c2 I2 F2 ∧ CBX c2 ∧ (c2 31 = cn 31 ∧ cn 31 ≤ c2 32 ∧ c2 32 ≤ cn 32)) u.1 u.2.1 u.2.2) (fun (u : (Nat → Nat) × (Nat → Int32) × (Nat → Nat → Int32)) (t : State) => va_P D vwCl (wX cI (D.1 99) zz g ad u.1 u.2.1 u.2.2) t.heap ∧ va_D A (wX cI (D.1 99) zz g ad u.1 u.2.1 u.2.2)) A)) rfl rfl pn_RX5 (Nat.le_of_ble_eq_true rfl) (fun p e s m below meth c A hx hb hml hown S hr hlocks hnm hA hP hK hD hXS hS ls hl => ?_)
  have hl : lv_has ls 2 [(0, .ref (g 6)), (1, .int v0)] := hl
  replace hB : CBXh cn := hB
  refine lv_aload_n hx hb (oc_42 0 shX5_fail_0) rfl (lvA0 hl) ?_
  refine gf_RX5_37 S hK hP 3 xo_3 (v := .int (In 33)) rfl (oc_180 1 (aq_1 shX5_fail_0) uw_0_37) ?_
  refine lv_if_ne (tgt := 29) hx hb (oc_154 4 (aq_4 shX5_fail_0) sgw_0_25) rfl (fun c_1 => ?_) (fun c_1 => ?_)
  ·
    have tc_1 : ((In 33).toInt : Int) ≠ 0 := fun q => c_1 (Int32.toInt_inj.mp q)
    exact W.vret hx hb hr (fun t ht hW => ⟨⟨(cn, In, Fn), rfl, ⟨(Fr.mo Fr.rf (sbl rfl) (sbl rfl) (sbl rfl)), hB, (by show cn 31 = cn 31 ∧ cn 31 ≤ cn 32 ∧ cn 32 ≤ cn 32; show (cn 31) = cn 31 ∧ cn 31 ≤ (cn 32) ∧ (cn 32) ≤ cn 32; omega)⟩, by rw [ht]; exact hP, hD⟩, hS.F ht⟩) hS.2.2 (oc_177 29 (aq_3 shX5_fail_26))
  ·
    have tc_1 : ((In 33).toInt : Int) = 0 := congrArg Int32.toInt c_1
    refine lv_aload_n hx hb (oc_42 7 (aq_7 shX5_fail_0)) rfl (lvA0 hl) ?_
    refine lv_sipush (v := 1000) hx hb (oc_17 8 (aq_8 shX5_fail_0) sgw_3_232) (by decide) ?_
    refine lv_iload_n hx hb (oc_27 11 (aq_11 shX5_fail_0)) rfl (lvA1 hl) ?_
    refine lv_imul hx hb (oc_104 12 (aq_12 shX5_fail_0)) ?_
    refine lv_aload_n hx hb (oc_42 13 (aq_13 shX5_fail_0)) rfl (lvA0 hl) ?_
    refine gf_RX5_31 S hK hP 3 xo_3 (v := .int (nI (cn 31))) rfl (oc_180 14 (aq_14 shX5_fail_0) uw_0_31) ?_
    refine lv_iadd hx hb (oc_96 17 (aq_17 shX5_fail_0)) ?_
    refine pf_RX5_37 S hK hP hD hS 3 xo_3 (v := .int ((1000 * v0) + (nI (cn 31)))) (Nat.le_of_ble_eq_true rfl) rfl rfl (oc_181 18 (aq_18 shX5_fail_0) uw_0_37) (fun H locs hP hD hS => ?_)
    have hP : va_P D vwCl (wX cI (D.1 99) zz g ad cn (va_up In 33 ((1000 * v0) + (nI (cn 31)))) Fn) H := va_P_eq (xsf_3_5) hP
    have hD : va_D A (wX cI (D.1 99) zz g ad cn (va_up In 33 ((1000 * v0) + (nI (cn 31)))) Fn) := va_D_eq (xsf_3_5) hD
    refine lv_aload_n hx hb (oc_42 21 (aq_21 shX5_fail_0)) rfl (lvA0 hl) ?_
    refine lv_aload_n hx hb (oc_42 22 (aq_22 shX5_fail_0)) rfl (lvA0 hl) ?_
    refine gf_RX5_31 S hK hP 3 xo_3 (v := .int (nI (cn 31))) rfl (oc_180 23 (aq_23 shX5_fail_0) uw_0_31) ?_
    refine pf_RX5_34 S hK hP hD hS 3 xo_3 (v := .int (nI (cn 31))) (Nat.le_of_ble_eq_true rfl) rfl rfl (oc_181 26 shX5_fail_26 uw_0_34) (fun H locs hP hD hS => ?_)
    have hP : va_P D vwCl (wX cI (D.1 99) zz g ad (va_up cn 32 (cn 31)) (va_up In 33 ((1000 * v0) + (nI (cn 31)))) Fn) H := va_P_eq (xsf_3_4) hP
    have hD : va_D A (wX cI (D.1 99) zz g ad (va_up cn 32 (cn 31)) (va_up In 33 ((1000 * v0) + (nI (cn 31)))) Fn) := va_D_eq (xsf_3_4) hD
    exact W.vret hx hb hr (fun t ht hW => ⟨⟨((va_up cn 32 (cn 31)), (va_up In 33 ((1000 * v0) + (nI (cn 31)))), Fn), rfl, ⟨(Fr.mo (Fr.i 33 (Fr.c 32 Fr.rf)) (sbl rfl) (sbl rfl) (sbl rfl)), (CBX.n (k := 32) (v := (cn 31)) hB (by decide)), (by show (va_up cn 32 (cn 31)) 31 = cn 31 ∧ cn 31 ≤ (va_up cn 32 (cn 31)) 32 ∧ (va_up cn 32 (cn 31)) 32 ≤ cn 32; show (cn 31) = cn 31 ∧ cn 31 ≤ (cn 31) ∧ (cn 31) ≤ cn 32; omega)⟩, by rw [ht]; exact hP, hD⟩, hS.F ht⟩) hS.2.2 (oc_177 29 (aq_3 shX5_fail_26))
set_option maxRecDepth 100000 in
set_option maxHeartbeats 4000000 in
theorem q_Rtake (l : Launch) (D : va_G) (cI cB cZ : ClassId) (zz qq vv : Nat) (bt : Nat → Int32) (g : Nat → Nat) (ad : Nat → Nat → Nat) (cn : Nat → Nat) (In : Nat → Int32) (Fn : Nat → Nat → Int32) (v0 : Int32) (sz : Nat) (hB : CBX cn) (hR : ad 4 2 = g 40) (h1 : ad 4 1 < cn 6) (h3 : cn 31 ≤ cn 32) (h4 : cn 32 ≤ 160) (h7 : 0 ≤ v0.toInt) : Met l yX5_take (CWS yX5_take cX5_take 2 none) (RM 1 0 0) (PBx [.ref (g 6), .int v0] D cI cB cZ zz qq vv bt (wX cI (D.1 99) zz g ad cn In Fn) sz) (va_Qv (fun (u : (Nat → Nat) × (Nat → Int32) × (Nat → Nat → Int32)) => (fun c2 I2 F2 => Fr [31, 32] [33] [] cn In Fn c2 I2 F2 ∧ CBX c2 ∧ (cn 31 ≤ c2 31 ∧ c2 31 ≤ c2 32 ∧ c2 32 ≤ cn 32)) u.1 u.2.1 u.2.2) (fun (u : (Nat → Nat) × (Nat → Int32) × (Nat → Nat → Int32)) (t : State) => va_P D vwCl (wX cI (D.1 99) zz g ad u.1 u.2.1 u.2.2) t.heap ∧ va_D (va_A (wX cI (D.1 99) zz g ad cn In Fn) sz) (wX cI (D.1 99) zz g ad u.1 u.2.1 u.2.2)) (va_A (wX cI (D.1 99) zz g ad cn In Fn) sz)) 0 0 (va_A (wX cI (D.1 99) zz g ad cn In Fn) sz) := by
  refine en_x (fun A => (va_Qv (fun (u : (Nat → Nat) × (Nat → Int32) × (Nat → Nat → Int32)) => (fun (c2 : Nat → Nat) (I2 : Nat → Int32) (F2 : Nat → Nat → Int32) => Fr [31, 32] [33] [] cn In Fn c2 I2 F2 ∧ CBX c2 ∧ (cn 31 ≤ c2 31 ∧ c2 31 ≤ c2 32 ∧ c2 32 ≤ cn 32)) u.1 u.2.1 u.2.2) (fun (u : (Nat → Nat) × (Nat → Int32) × (Nat → Nat → Int32)) (t : State) => va_P D vwCl (wX cI (D.1 99) zz g ad u.1 u.2.1 u.2.2) t.heap ∧ va_D A (wX cI (D.1 99) zz g ad u.1 u.2.1 u.2.2)) A)) rfl rfl pn_RX5 (Nat.le_of_ble_eq_true rfl) (fun p e s m below meth c A hx hb hml hown S hr hlocks hnm hA hP hK hD hXS hS ls hl => ?_)
  have hl : lv_has ls 2 [(0, .ref (g 6)), (1, .int v0)] := hl
  replace hB : CBXh cn := hB
  refine lv_aload_n hx hb (oc_42 0 shX5_take_0) rfl (lvA0 hl) ?_
  refine vp_callSi (runV_rxa (As := []) (rest := []) S (q_Rpeek l D cI cB cZ zz qq vv bt g ad cn In Fn  hB (by omega) (by omega) (by omega) (by omega)) kV_RX5_43 hK hXS hS hP 3 xo_3 rfl rfl ⟨Nat.le_of_ble_eq_true rfl, Nat.le_of_ble_eq_true rfl⟩ ⟨Nat.le_of_ble_eq_true rfl, Nat.le_of_ble_eq_true rfl⟩ rfl hl.1 rfl (Nat.le_of_ble_eq_true rfl) (oc_182 1 (aq_1 shX5_take_0) uw_0_43)) (fun r_1 h_2 => ?_)
  refine lv_iload_n hx hb (oc_27 4 (aq_4 shX5_take_0)) rfl (lvA1 hl) ?_
  refine lv_icmp_ne (tgt := 21) hx hb (oc_160 5 (aq_5 shX5_take_0) sgw_0_16) rfl (fun c_3 => ?_) (fun c_3 => ?_)
  ·
    have tc_3 : (r_1.toInt : Int) ≠ v0.toInt := fun q => c_3 (Int32.toInt_inj.mp q)
    refine lv_aload_n hx hb (oc_42 21 (aq_21 shX5_take_0)) rfl (lvA0 hl) ?_
    refine lv_iconst (v := 1) hx hb (oc_4 22 (aq_22 shX5_take_0)) kic_1 ?_
    have hFc := free_all hD hS hA
    refine va_callv (runV_xa (As := [.int 1]) (rest := []) S (q_Rfail l D cI cB cZ zz qq vv bt g ad cn In Fn 1 s.heap.size hB (by omega) (by omega) (by omega) (by omega)) kV_RX5_47 hK hXS hS hFc hP hD 3 xo_3 rfl rfl ⟨Nat.le_of_ble_eq_true rfl, Nat.le_of_ble_eq_true rfl⟩ ⟨Nat.le_of_ble_eq_true rfl, Nat.le_of_ble_eq_true rfl⟩ rfl hl.1 rfl (Nat.le_of_ble_eq_true rfl) (oc_182 23 (aq_23 shX5_take_0) uw_0_47)) hS (fun q _ h => hFc q h) hFc (fun u t H1 locs ht hvm wh_5 hB1 hz1 hk1 hS => ?_)
    obtain ⟨cn5, In5, Fn5⟩ := u
    obtain ⟨hP1, hD1⟩ := hB1
    rw [ht] at hP1
    have hP : va_P D vwCl (wX cI (D.1 99) zz g ad cn5 In5 Fn5) H1 := hP1
    have hD : va_D A (wX cI (D.1 99) zz g ad cn5 In5 Fn5) := hD1.weaken (fun _ _ _ h => hFc _ h)
    generalize H1 = H at hP hS ⊢
    have vh_5 : (fun c2 I2 F2 => Fr [32] [33] [] cn In Fn c2 I2 F2 ∧ CBX c2 ∧ (c2 31 = (cn 31) ∧ (cn 31) ≤ c2 32 ∧ c2 32 ≤ (cn 32))) cn5 In5 Fn5 := wh_5
    obtain ⟨hfc5, hIn5, h_5⟩ := vh_5
    obtain rfl : Fn = Fn5 := (funext (fun k => hfc5.2.2 k List.not_mem_nil)).symm
    have hf5 : Fr [31, 32] [33] [] cn In Fn cn5 In5 Fn := Fr.mo (Fr.tr (Fr.rf (cn := cn) (In := In) (Fn := Fn)) hfc5) (sbl rfl) (sbl rfl) (sbl rfl)
    replace hIn5 : CBXh cn5 := hIn5
    have : cn5 6 = (cn 6) := hfc5.1 6 (nml rfl)
    have : cn5 31 = (cn 31) := hfc5.1 31 (nml rfl)
    exact W.vret hx hb hr (fun t ht hW => ⟨⟨(cn5, In5, Fn), rfl, ⟨(Fr.mo hf5 (sbl rfl) (sbl rfl) (sbl rfl)), hIn5, (by show cn 31 ≤ cn5 31 ∧ cn5 31 ≤ cn5 32 ∧ cn5 32 ≤ cn 32; show cn 31 ≤ (cn5 31) ∧ (cn5 31) ≤ (cn5 32) ∧ (cn5 32) ≤ cn 32; omega)⟩, by rw [ht]; exact hP, hD⟩, hS.F ht⟩) hS.2.2 (oc_177 26 shX5_take_26)
  ·
    have tc_3 : (r_1.toInt : Int) = v0.toInt := congrArg Int32.toInt c_3
    refine lv_aload_n hx hb (oc_42 8 (aq_8 shX5_take_0)) rfl (lvA0 hl) ?_
    refine lv_dup hx hb (oc_89 9 (aq_9 shX5_take_0)) rfl ?_
    refine gf_RX5_31 S hK hP 3 xo_3 (v := .int (nI (cn 31))) rfl (oc_180 10 (aq_10 shX5_take_0) uw_0_31) ?_
    refine lv_iconst (v := 1) hx hb (oc_4 13 (aq_13 shX5_take_0)) kic_1 ?_
    refine lv_iadd hx hb (oc_96 14 (aq_14 shX5_take_0)) ?_
    refine lv_topi (fun y_6 ey_6 => ?_)
    obtain rfl : y_6 = (nI ((cn 31) + 1)) := ey_6.trans (nI_add (cn 31) 1)
    refine pf_RX5_31 S hK hP hD hS 3 xo_3 (v := .int (nI ((cn 31) + 1))) (Nat.le_of_ble_eq_true rfl) rfl rfl (oc_181 15 (aq_15 shX5_take_0) uw_0_31) (fun H locs hP hD hS => ?_)
    have hP : va_P D vwCl (wX cI (D.1 99) zz g ad (va_up cn 31 ((cn 31) + 1)) In Fn) H := va_P_eq (xsf_3_3) hP
    have hD : va_D A (wX cI (D.1 99) zz g ad (va_up cn 31 ((cn 31) + 1)) In Fn) := va_D_eq (xsf_3_3) hD
    refine lv_goto (tgt := 26) hx hb (oc_167 18 (aq_18 shX5_take_0) sgw_0_8) rfl ?_
    exact W.vret hx hb hr (fun t ht hW => ⟨⟨((va_up cn 31 ((cn 31) + 1)), In, Fn), rfl, ⟨(Fr.mo (Fr.c 31 Fr.rf) (sbl rfl) (sbl rfl) (sbl rfl)), (CBX.n (k := 31) (v := ((cn 31) + 1)) hB (by decide)), (by show cn 31 ≤ (va_up cn 31 ((cn 31) + 1)) 31 ∧ (va_up cn 31 ((cn 31) + 1)) 31 ≤ (va_up cn 31 ((cn 31) + 1)) 32 ∧ (va_up cn 31 ((cn 31) + 1)) 32 ≤ cn 32; show cn 31 ≤ ((cn 31) + 1) ∧ ((cn 31) + 1) ≤ (cn 32) ∧ (cn 32) ≤ cn 32; omega)⟩, by rw [ht]; exact hP, hD⟩, hS.F ht⟩) hS.2.2 (oc_177 26 shX5_take_26)
set_option maxRecDepth 100000 in
set_option maxHeartbeats 4000000 in
theorem q_Ropens_y (l : Launch) (D : va_G) (cI cB cZ : ClassId) (zz qq vv : Nat) (bt : Nat → Int32) (g : Nat → Nat) (ad : Nat → Nat → Nat) (cn : Nat → Nat) (In : Nat → Int32) (Fn : Nat → Nat → Int32) (v0 : Int32) (sz : Nat) (hB : CBX cn) (hR : ad 4 2 = g 40) (h1 : ad 4 1 < cn 6) (h3 : cn 31 ≤ cn 32) (h4 : cn 32 ≤ 160) (h5 : cn 31 < cn 32) (h6 : v0.toInt < 6) : Met l yX5_opens (CWS yX5_opens cX5_opens 2 (some .boolean)) (RM 1 0 0) (PBx [.ref (g 6), .int v0] D cI cB cZ zz qq vv bt (wX cI (D.1 99) zz g ad cn In Fn) sz) (va_Qi (fun (r : Int32) (u : (Nat → Nat) × (Nat → Int32) × (Nat → Nat → Int32)) => (fun r c2 I2 F2 => Fr [31, 32] [33] [] cn In Fn c2 I2 F2 ∧ CBX c2 ∧ ((cn 31 ≤ c2 31 ∧ c2 31 ≤ c2 32 ∧ c2 32 ≤ cn 32) ∧ r = 1)) r u.1 u.2.1 u.2.2) (fun (u : (Nat → Nat) × (Nat → Int32) × (Nat → Nat → Int32)) (t : State) => va_P D vwCl (wX cI (D.1 99) zz g ad u.1 u.2.1 u.2.2) t.heap ∧ va_D (va_A (wX cI (D.1 99) zz g ad cn In Fn) sz) (wX cI (D.1 99) zz g ad u.1 u.2.1 u.2.2)) (va_A (wX cI (D.1 99) zz g ad cn In Fn) sz)) 0 0 (va_A (wX cI (D.1 99) zz g ad cn In Fn) sz) := by
  refine en_x (fun A => (va_Qi (fun (r : Int32) (u : (Nat → Nat) × (Nat → Int32) × (Nat → Nat → Int32)) => (fun (r : Int32) (c2 : Nat → Nat) (I2 : Nat → Int32) (F2 : Nat → Nat → Int32) => Fr [31, 32] [33] [] cn In Fn c2 I2 F2 ∧ CBX c2 ∧ ((cn 31 ≤ c2 31 ∧ c2 31 ≤ c2 32 ∧ c2 32 ≤ cn 32) ∧ r = 1)) r u.1 u.2.1 u.2.2) (fun (u : (Nat → Nat) × (Nat → Int32) × (Nat → Nat → Int32)) (t : State) => va_P D vwCl (wX cI (D.1 99) zz g ad u.1 u.2.1 u.2.2) t.heap ∧ va_D A (wX cI (D.1 99) zz g ad u.1 u.2.1 u.2.2)) A)) rfl rfl pn_RX5 (Nat.le_of_ble_eq_true rfl) (fun p e s m below meth c A hx hb hml hown S hr hlocks hnm hA hP hK hD hXS hS ls hl => ?_)
  have hl : lv_has ls 2 [(0, .ref (g 6)), (1, .int v0)] := hl
  replace hB : CBXh cn := hB
  refine lv_iload_n hx hb (oc_27 0 shX5_opens_0) rfl (lvA1 hl) ?_
  refine lv_bipush (v := 6) hx hb (oc_16 1 (aq_1 shX5_opens_0) sgb_6) kbc_6 ?_
  refine lv_icmp_lt (tgt := 13) hx hb (oc_161 3 (aq_3 shX5_opens_0) sgw_0_10) rfl (fun c_1 => ?_) (fun c_1 => False.elim (by have tc_1 : (6 : Int) ≤ v0.toInt := Int32.le_iff_toInt_le.mp (Int32.not_lt.mp c_1); omega))
  have tc_1 : (v0.toInt : Int) < 6 := Int32.lt_iff_toInt_lt.mp c_1
  refine lv_aload_n hx hb (oc_42 13 (aq_13 shX5_opens_0)) rfl (lvA0 hl) ?_
  refine lv_dup hx hb (oc_89 14 (aq_14 shX5_opens_0)) rfl ?_
  refine gf_RX5_31 S hK hP 3 xo_3 (v := .int (nI (cn 31))) rfl (oc_180 15 (aq_15 shX5_opens_0) uw_0_31) ?_
  refine lv_iconst (v := 1) hx hb (oc_4 18 (aq_18 shX5_opens_0)) kic_1 ?_
  refine lv_iadd hx hb (oc_96 19 (aq_19 shX5_opens_0)) ?_
  refine lv_topi (fun y_2 ey_2 => ?_)
  obtain rfl : y_2 = (nI ((cn 31) + 1)) := ey_2.trans (nI_add (cn 31) 1)
  refine pf_RX5_31 S hK hP hD hS 3 xo_3 (v := .int (nI ((cn 31) + 1))) (Nat.le_of_ble_eq_true rfl) rfl rfl (oc_181 20 (aq_20 shX5_opens_0) uw_0_31) (fun H locs hP hD hS => ?_)
  have hP : va_P D vwCl (wX cI (D.1 99) zz g ad (va_up cn 31 ((cn 31) + 1)) In Fn) H := va_P_eq (xsf_3_3) hP
  have hD : va_D A (wX cI (D.1 99) zz g ad (va_up cn 31 ((cn 31) + 1)) In Fn) := va_D_eq (xsf_3_3) hD
  refine lv_iconst (v := 1) hx hb (oc_4 23 (aq_23 shX5_opens_0)) kic_1 ?_
  exact W.zret (v := 1) hx hb hr rfl (fun t ht hW => ⟨⟨1, ((va_up cn 31 ((cn 31) + 1)), In, Fn), rfl, ⟨(Fr.mo (Fr.c 31 Fr.rf) (sbl rfl) (sbl rfl) (sbl rfl)), (CBX.n (k := 31) (v := ((cn 31) + 1)) hB (by decide)), (by show (cn 31 ≤ (va_up cn 31 ((cn 31) + 1)) 31 ∧ (va_up cn 31 ((cn 31) + 1)) 31 ≤ (va_up cn 31 ((cn 31) + 1)) 32 ∧ (va_up cn 31 ((cn 31) + 1)) 32 ≤ cn 32) ∧ 1 = 1; exact ⟨by show cn 31 ≤ ((cn 31) + 1) ∧ ((cn 31) + 1) ≤ (cn 32) ∧ (cn 32) ≤ cn 32; omega, rfl⟩)⟩, by rw [ht]; exact hP, hD⟩, hS.F ht⟩) hS.2.2 (oc_172 24 shX5_opens_24)
set_option maxRecDepth 100000 in
set_option maxHeartbeats 4000000 in
theorem q_Ropens_n (l : Launch) (D : va_G) (cI cB cZ : ClassId) (zz qq vv : Nat) (bt : Nat → Int32) (g : Nat → Nat) (ad : Nat → Nat → Nat) (cn : Nat → Nat) (In : Nat → Int32) (Fn : Nat → Nat → Int32) (v0 : Int32) (sz : Nat) (hB : CBX cn) (hR : ad 4 2 = g 40) (h1 : ad 4 1 < cn 6) (h3 : cn 31 ≤ cn 32) (h4 : cn 32 ≤ 160) (h5 : cn 31 < cn 32) (h6 : 6 ≤ v0.toInt) : Met l yX5_opens (CWS yX5_opens cX5_opens 2 (some .boolean)) (RM 1 0 0) (PBx [.ref (g 6), .int v0] D cI cB cZ zz qq vv bt (wX cI (D.1 99) zz g ad cn In Fn) sz) (va_Qi (fun (r : Int32) (u : (Nat → Nat) × (Nat → Int32) × (Nat → Nat → Int32)) => (fun r c2 I2 F2 => Fr [31, 32] [33] [] cn In Fn c2 I2 F2 ∧ CBX c2 ∧ ((cn 31 ≤ c2 31 ∧ c2 31 ≤ c2 32 ∧ c2 32 ≤ cn 32) ∧ r = 0)) r u.1 u.2.1 u.2.2) (fun (u : (Nat → Nat) × (Nat → Int32) × (Nat → Nat → Int32)) (t : State) => va_P D vwCl (wX cI (D.1 99) zz g ad u.1 u.2.1 u.2.2) t.heap ∧ va_D (va_A (wX cI (D.1 99) zz g ad cn In Fn) sz) (wX cI (D.1 99) zz g ad u.1 u.2.1 u.2.2)) (va_A (wX cI (D.1 99) zz g ad cn In Fn) sz)) 0 0 (va_A (wX cI (D.1 99) zz g ad cn In Fn) sz) := by
  refine en_x (fun A => (va_Qi (fun (r : Int32) (u : (Nat → Nat) × (Nat → Int32) × (Nat → Nat → Int32)) => (fun (r : Int32) (c2 : Nat → Nat) (I2 : Nat → Int32) (F2 : Nat → Nat → Int32) => Fr [31, 32] [33] [] cn In Fn c2 I2 F2 ∧ CBX c2 ∧ ((cn 31 ≤ c2 31 ∧ c2 31 ≤ c2 32 ∧ c2 32 ≤ cn 32) ∧ r = 0)) r u.1 u.2.1 u.2.2) (fun (u : (Nat → Nat) × (Nat → Int32) × (Nat → Nat → Int32)) (t : State) => va_P D vwCl (wX cI (D.1 99) zz g ad u.1 u.2.1 u.2.2) t.heap ∧ va_D A (wX cI (D.1 99) zz g ad u.1 u.2.1 u.2.2)) A)) rfl rfl pn_RX5 (Nat.le_of_ble_eq_true rfl) (fun p e s m below meth c A hx hb hml hown S hr hlocks hnm hA hP hK hD hXS hS ls hl => ?_)
  have hl : lv_has ls 2 [(0, .ref (g 6)), (1, .int v0)] := hl
  replace hB : CBXh cn := hB
  refine lv_iload_n hx hb (oc_27 0 shX5_opens_0) rfl (lvA1 hl) ?_
  refine lv_bipush (v := 6) hx hb (oc_16 1 (aq_1 shX5_opens_0) sgb_6) kbc_6 ?_
  refine lv_icmp_lt (tgt := 13) hx hb (oc_161 3 (aq_3 shX5_opens_0) sgw_0_10) rfl (fun c_1 => False.elim (by have tc_1 : (v0.toInt : Int) < 6 := Int32.lt_iff_toInt_lt.mp c_1; omega)) (fun c_1 => ?_)
  have tc_1 : (6 : Int) ≤ v0.toInt := Int32.le_iff_toInt_le.mp (Int32.not_lt.mp c_1)
  refine lv_aload_n hx hb (oc_42 6 (aq_6 shX5_opens_0)) rfl (lvA0 hl) ?_
  refine lv_iconst (v := 5) hx hb (oc_8 7 (aq_7 shX5_opens_0)) kic_5 ?_
  have hFc := free_all hD hS hA
  refine va_callv (runV_xa (As := [.int 5]) (rest := []) S (q_Rfail l D cI cB cZ zz qq vv bt g ad cn In Fn 5 s.heap.size hB (by omega) (by omega) (by omega) (by omega)) kV_RX5_47 hK hXS hS hFc hP hD 3 xo_3 rfl rfl ⟨Nat.le_of_ble_eq_true rfl, Nat.le_of_ble_eq_true rfl⟩ ⟨Nat.le_of_ble_eq_true rfl, Nat.le_of_ble_eq_true rfl⟩ rfl hl.1 rfl (Nat.le_of_ble_eq_true rfl) (oc_182 8 (aq_8 shX5_opens_0) uw_0_47)) hS (fun q _ h => hFc q h) hFc (fun u t H1 locs ht hvm wh_3 hB1 hz1 hk1 hS => ?_)
  obtain ⟨cn3, In3, Fn3⟩ := u
  obtain ⟨hP1, hD1⟩ := hB1
  rw [ht] at hP1
  have hP : va_P D vwCl (wX cI (D.1 99) zz g ad cn3 In3 Fn3) H1 := hP1
  have hD : va_D A (wX cI (D.1 99) zz g ad cn3 In3 Fn3) := hD1.weaken (fun _ _ _ h => hFc _ h)
  generalize H1 = H at hP hS ⊢
  have vh_3 : (fun c2 I2 F2 => Fr [32] [33] [] cn In Fn c2 I2 F2 ∧ CBX c2 ∧ (c2 31 = (cn 31) ∧ (cn 31) ≤ c2 32 ∧ c2 32 ≤ (cn 32))) cn3 In3 Fn3 := wh_3
  obtain ⟨hfc3, hIn3, h_3⟩ := vh_3
  obtain rfl : Fn = Fn3 := (funext (fun k => hfc3.2.2 k List.not_mem_nil)).symm
  have hf3 : Fr [31, 32] [33] [] cn In Fn cn3 In3 Fn := Fr.mo (Fr.tr (Fr.rf (cn := cn) (In := In) (Fn := Fn)) hfc3) (sbl rfl) (sbl rfl) (sbl rfl)
  replace hIn3 : CBXh cn3 := hIn3
  have : cn3 6 = (cn 6) := hfc3.1 6 (nml rfl)
  have : cn3 31 = (cn 31) := hfc3.1 31 (nml rfl)
  refine lv_iconst (v := 0) hx hb (oc_3 11 (aq_11 shX5_opens_0)) kic_0 ?_
  exact W.zret (v := 0) hx hb hr rfl (fun t ht hW => ⟨⟨0, (cn3, In3, Fn), rfl, ⟨(Fr.mo hf3 (sbl rfl) (sbl rfl) (sbl rfl)), hIn3, (by show (cn 31 ≤ cn3 31 ∧ cn3 31 ≤ cn3 32 ∧ cn3 32 ≤ cn 32) ∧ 0 = 0; exact ⟨by show cn 31 ≤ (cn3 31) ∧ (cn3 31) ≤ (cn3 32) ∧ (cn3 32) ≤ cn 32; omega, rfl⟩)⟩, by rw [ht]; exact hP, hD⟩, hS.F ht⟩) hS.2.2 (oc_172 12 (aq_12 shX5_opens_0))
set_option maxRecDepth 100000 in
set_option maxHeartbeats 4000000 in
theorem q_Tadd (l : Launch) (D : va_G) (cI cB cZ : ClassId) (zz qq vv : Nat) (bt : Nat → Int32) (g : Nat → Nat) (ad : Nat → Nat → Nat) (cn : Nat → Nat) (In : Nat → Int32) (Fn : Nat → Nat → Int32) (k0 : Nat) (v0 v1 : Int32) (sz : Nat) (hB : CBX cn) (hk : k0 < cn 6) (h9 : (Fn 199 k0).toInt ≤ 160) : Met l yX9_add (CWS yX9_add cX9_add 3 (some .int)) (RM 0 0 0) (PBx [.ref (ad 5 k0), .int v0, .int v1] D cI cB cZ zz qq vv bt (wX cI (D.1 99) zz g ad cn In Fn) sz) (va_Qi (fun (r : Int32) (u : (Nat → Nat) × (Nat → Int32) × (Nat → Nat → Int32)) => (fun r c2 I2 F2 => Fr [] [] [195, 301] cn In Fn c2 I2 F2 ∧ CBX c2 ∧ (True)) r u.1 u.2.1 u.2.2) (fun (u : (Nat → Nat) × (Nat → Int32) × (Nat → Nat → Int32)) (t : State) => va_P D vwCl (wX cI (D.1 99) zz g ad u.1 u.2.1 u.2.2) t.heap ∧ va_D (va_A (wX cI (D.1 99) zz g ad cn In Fn) sz) (wX cI (D.1 99) zz g ad u.1 u.2.1 u.2.2)) (va_A (wX cI (D.1 99) zz g ad cn In Fn) sz)) 0 0 (va_A (wX cI (D.1 99) zz g ad cn In Fn) sz) := by
  refine en_x (fun A => (va_Qi (fun (r : Int32) (u : (Nat → Nat) × (Nat → Int32) × (Nat → Nat → Int32)) => (fun (r : Int32) (c2 : Nat → Nat) (I2 : Nat → Int32) (F2 : Nat → Nat → Int32) => Fr [] [] [195, 301] cn In Fn c2 I2 F2 ∧ CBX c2 ∧ (True)) r u.1 u.2.1 u.2.2) (fun (u : (Nat → Nat) × (Nat → Int32) × (Nat → Nat → Int32)) (t : State) => va_P D vwCl (wX cI (D.1 99) zz g ad u.1 u.2.1 u.2.2) t.heap ∧ va_D A (wX cI (D.1 99) zz g ad u.1 u.2.1 u.2.2)) A)) rfl rfl pn_RX9 (Nat.le_of_ble_eq_true rfl) (fun p e s m below meth c A hx hb hml hown S hr hlocks hnm hA hP hK hD hXS hS ls hl => ?_)
  have hl : lv_has ls 3 [(0, .ref (ad 5 k0)), (1, .int v0), (2, .int v1)] := hl
  have hb_cn : Hid (CBX cn) := hB
  replace hB : CBXh cn := hB
  refine lv_aload_n hx hb (oc_42 0 shX9_add_0) rfl (lvA0 hl) ?_
  refine gf_RX9_33 S hK hP _ (xf_7 hk) (v := .int ((Fn 195) k0)) rfl (oc_180 1 (aq_1 shX9_add_0) uw_0_33) ?_
  refine lv_if_lt (tgt := 34) hx hb (oc_155 4 (aq_4 shX9_add_0) sgw_0_30) rfl (fun c_1 => ?_) (fun c_1 => ?_)
  ·
    have tc_1 : (((Fn 195) k0).toInt : Int) < 0 := Int32.lt_iff_toInt_lt.mp c_1
    refine lv_aload_n hx hb (oc_42 34 (aq_10 shX9_add_24)) rfl (lvA0 hl) ?_
    refine lv_dup hx hb (oc_89 35 (aq_11 shX9_add_24)) rfl ?_
    refine gf_RX9_33 S hK hP _ (xf_7 hk) (v := .int ((Fn 195) k0)) rfl (oc_180 36 (aq_12 shX9_add_24) uw_0_33) ?_
    refine lv_iconst (v := 1) hx hb (oc_4 39 (aq_15 shX9_add_24)) kic_1 ?_
    refine lv_iadd hx hb (oc_96 40 (aq_16 shX9_add_24)) ?_
    refine pf_RX9_33 S hK hP hD hS _ (xf_7 hk) (v := .int (((Fn 195) k0) + 1)) (Nat.le_of_ble_eq_true rfl) rfl rfl (oc_181 41 (aq_17 shX9_add_24) uw_0_33) (fun H locs hP hD hS => ?_)
    have hP : va_P D vwCl (wX cI (D.1 99) zz g ad cn In (va_up Fn 195 (upd (Fn 195) k0 (((Fn 195) k0) + 1)))) H := va_P_eq (xs_195 (by (first | omega | (have zz0 := Hid.u hb_cn; omega)))) hP
    have hD : va_D A (wX cI (D.1 99) zz g ad cn In (va_up Fn 195 (upd (Fn 195) k0 (((Fn 195) k0) + 1)))) := va_D_eq (xs_195 (by (first | omega | (have zz0 := Hid.u hb_cn; omega)))) hD
    refine lv_aload_n hx hb (oc_42 44 (aq_20 shX9_add_24)) rfl (lvA0 hl) ?_
    refine gf_RX9_33 S hK hP _ (xf_7 hk) (v := .int ((upd (Fn 195) k0 (((Fn 195) k0) + 1)) k0)) rfl (oc_180 45 (aq_21 shX9_add_24) uw_0_33) ?_
    refine lv_iconst (v := 1) hx hb (oc_4 48 shX9_add_48) kic_1 ?_
    refine lv_isub hx hb (oc_100 49 (aq_1 shX9_add_48)) ?_
    exact W.iret (v := (((upd (Fn 195) k0 (((Fn 195) k0) + 1)) k0) - 1)) hx hb hr (fun t ht hW => ⟨⟨(((upd (Fn 195) k0 (((Fn 195) k0) + 1)) k0) - 1), (cn, In, (va_up Fn 195 (upd (Fn 195) k0 (((Fn 195) k0) + 1)))), rfl, ⟨(Fr.mo (Fr.f 195 Fr.rf) (sbl rfl) (sbl rfl) (sbl rfl)), hB, trivial⟩, by rw [ht]; exact hP, hD⟩, hS.F ht⟩) hS.2.2 (oc_172 50 (aq_2 shX9_add_48))
  ·
    have tc_1 : (0 : Int) ≤ ((Fn 195) k0).toInt := Int32.le_iff_toInt_le.mp (Int32.not_lt.mp c_1)
    refine lv_aload_n hx hb (oc_42 7 (aq_7 shX9_add_0)) rfl (lvA0 hl) ?_
    refine gf_RX9_33 S hK hP _ (xf_7 hk) (v := .int ((Fn 195) k0)) rfl (oc_180 8 (aq_8 shX9_add_0) uw_0_33) ?_
    refine lv_aload_n hx hb (oc_42 11 (aq_11 shX9_add_0)) rfl (lvA0 hl) ?_
    refine gf_RX9_17 S hK hP _ (xf_7 hk) (v := .ref (ad 60 k0)) rfl (oc_180 12 (aq_12 shX9_add_0) uw_0_17) ?_
    refine va_alen hx hb hK.1 hP _ 0 (xf_8 hk) rfl (v := (nI ((Fn 199) k0).toInt.toNat)) rfl (oc_190 15 (aq_15 shX9_add_0)) ?_
    have : (nI (((Fn 199) k0).toInt.toNat)).toInt = ((((Fn 199) k0).toInt.toNat : Nat) : Int) := nI_toInt (by (first | omega | (have zz0 := Hid.u hb_cn; omega)))
    refine lv_icmp_ge (tgt := 34) hx hb (oc_162 16 (aq_16 shX9_add_0) sgw_0_18) rfl (fun c_2 => ?_) (fun c_2 => ?_)
    ·
      have tc_2 : ((nI ((Fn 199) k0).toInt.toNat).toInt : Int) ≤ ((Fn 195) k0).toInt := Int32.le_iff_toInt_le.mp c_2
      refine lv_aload_n hx hb (oc_42 34 (aq_10 shX9_add_24)) rfl (lvA0 hl) ?_
      refine lv_dup hx hb (oc_89 35 (aq_11 shX9_add_24)) rfl ?_
      refine gf_RX9_33 S hK hP _ (xf_7 hk) (v := .int ((Fn 195) k0)) rfl (oc_180 36 (aq_12 shX9_add_24) uw_0_33) ?_
      refine lv_iconst (v := 1) hx hb (oc_4 39 (aq_15 shX9_add_24)) kic_1 ?_
      refine lv_iadd hx hb (oc_96 40 (aq_16 shX9_add_24)) ?_
      refine pf_RX9_33 S hK hP hD hS _ (xf_7 hk) (v := .int (((Fn 195) k0) + 1)) (Nat.le_of_ble_eq_true rfl) rfl rfl (oc_181 41 (aq_17 shX9_add_24) uw_0_33) (fun H locs hP hD hS => ?_)
      have hP : va_P D vwCl (wX cI (D.1 99) zz g ad cn In (va_up Fn 195 (upd (Fn 195) k0 (((Fn 195) k0) + 1)))) H := va_P_eq (xs_195 (by (first | omega | (have zz0 := Hid.u hb_cn; omega)))) hP
      have hD : va_D A (wX cI (D.1 99) zz g ad cn In (va_up Fn 195 (upd (Fn 195) k0 (((Fn 195) k0) + 1)))) := va_D_eq (xs_195 (by (first | omega | (have zz0 := Hid.u hb_cn; omega)))) hD
      refine lv_aload_n hx hb (oc_42 44 (aq_20 shX9_add_24)) rfl (lvA0 hl) ?_
      refine gf_RX9_33 S hK hP _ (xf_7 hk) (v := .int ((upd (Fn 195) k0 (((Fn 195) k0) + 1)) k0)) rfl (oc_180 45 (aq_21 shX9_add_24) uw_0_33) ?_
      refine lv_iconst (v := 1) hx hb (oc_4 48 shX9_add_48) kic_1 ?_
      refine lv_isub hx hb (oc_100 49 (aq_1 shX9_add_48)) ?_
      exact W.iret (v := (((upd (Fn 195) k0 (((Fn 195) k0) + 1)) k0) - 1)) hx hb hr (fun t ht hW => ⟨⟨(((upd (Fn 195) k0 (((Fn 195) k0) + 1)) k0) - 1), (cn, In, (va_up Fn 195 (upd (Fn 195) k0 (((Fn 195) k0) + 1)))), rfl, ⟨(Fr.mo (Fr.f 195 Fr.rf) (sbl rfl) (sbl rfl) (sbl rfl)), hB, trivial⟩, by rw [ht]; exact hP, hD⟩, hS.F ht⟩) hS.2.2 (oc_172 50 (aq_2 shX9_add_48))
    ·
      have tc_2 : (((Fn 195) k0).toInt : Int) < (nI ((Fn 199) k0).toInt.toNat).toInt := Int32.lt_iff_toInt_lt.mp (Int32.not_le.mp c_2)
      refine lv_aload_n hx hb (oc_42 19 (aq_19 shX9_add_0)) rfl (lvA0 hl) ?_
      refine gf_RX9_17 S hK hP _ (xf_7 hk) (v := .ref (ad 60 k0)) rfl (oc_180 20 (aq_20 shX9_add_0) uw_0_17) ?_
      refine lv_aload_n hx hb (oc_42 23 (aq_23 shX9_add_0)) rfl (lvA0 hl) ?_
      refine gf_RX9_33 S hK hP _ (xf_7 hk) (v := .int ((Fn 195) k0)) rfl (oc_180 24 shX9_add_24 uw_0_33) ?_
      refine lv_iload_n hx hb (oc_27 27 (aq_3 shX9_add_24)) rfl (lvA1 hl) ?_
      refine lv_bipush (v := 20) hx hb (oc_16 28 (aq_4 shX9_add_24) sgb_20) kbc_20 ?_
      refine lv_ishl hx hb (oc_120 30 (aq_6 shX9_add_24)) ?_
      refine lv_iload_n hx hb (oc_28 31 (aq_7 shX9_add_24)) rfl (lvA2 hl) ?_
      refine lv_ior hx hb (oc_128 32 (aq_8 shX9_add_24)) ?_
      refine va_iast hx hb hK.1 hP hD hS _ 0 (xf_8 hk) rfl (vp_in_iff.mpr ⟨by (first | omega | (have zz0 := Hid.u hb_cn; omega)), by (first | omega | (have zz0 := Hid.u hb_cn; omega))⟩) (oc_79 33 (aq_9 shX9_add_24)) (fun H locs hP hD hS => ?_)
      have hP : va_P D vwCl (wX cI (D.1 99) zz g ad cn In (va_up Fn 301 (flat (Fn 301) 200 k0 (upd (gA (Fn 301) 200 k0) ((Fn 195) k0).toNatClampNeg ((v0 <<< (20 &&& 31)) ||| v1))))) H := va_P_eq (xsg_8 hk (upd_z (by (first | omega | (have zz0 := Hid.u hb_cn; omega))) gA_z)) hP
      have hD : va_D A (wX cI (D.1 99) zz g ad cn In (va_up Fn 301 (flat (Fn 301) 200 k0 (upd (gA (Fn 301) 200 k0) ((Fn 195) k0).toNatClampNeg ((v0 <<< (20 &&& 31)) ||| v1))))) := va_D_eq (xsg_8 hk (upd_z (by (first | omega | (have zz0 := Hid.u hb_cn; omega))) gA_z)) hD
      refine lv_aload_n hx hb (oc_42 34 (aq_10 shX9_add_24)) rfl (lvA0 hl) ?_
      refine lv_dup hx hb (oc_89 35 (aq_11 shX9_add_24)) rfl ?_
      refine gf_RX9_33 S hK hP _ (xf_7 hk) (v := .int ((Fn 195) k0)) rfl (oc_180 36 (aq_12 shX9_add_24) uw_0_33) ?_
      refine lv_iconst (v := 1) hx hb (oc_4 39 (aq_15 shX9_add_24)) kic_1 ?_
      refine lv_iadd hx hb (oc_96 40 (aq_16 shX9_add_24)) ?_
      refine pf_RX9_33 S hK hP hD hS _ (xf_7 hk) (v := .int (((Fn 195) k0) + 1)) (Nat.le_of_ble_eq_true rfl) rfl rfl (oc_181 41 (aq_17 shX9_add_24) uw_0_33) (fun H locs hP hD hS => ?_)
      have hP : va_P D vwCl (wX cI (D.1 99) zz g ad cn In (va_up (va_up Fn 301 (flat (Fn 301) 200 k0 (upd (gA (Fn 301) 200 k0) ((Fn 195) k0).toNatClampNeg ((v0 <<< (20 &&& 31)) ||| v1)))) 195 (upd (Fn 195) k0 (((Fn 195) k0) + 1)))) H := va_P_eq (xs_195 (by (first | omega | (have zz0 := Hid.u hb_cn; omega)))) hP
      have hD : va_D A (wX cI (D.1 99) zz g ad cn In (va_up (va_up Fn 301 (flat (Fn 301) 200 k0 (upd (gA (Fn 301) 200 k0) ((Fn 195) k0).toNatClampNeg ((v0 <<< (20 &&& 31)) ||| v1)))) 195 (upd (Fn 195) k0 (((Fn 195) k0) + 1)))) := va_D_eq (xs_195 (by (first | omega | (have zz0 := Hid.u hb_cn; omega)))) hD
      refine lv_aload_n hx hb (oc_42 44 (aq_20 shX9_add_24)) rfl (lvA0 hl) ?_
      refine gf_RX9_33 S hK hP _ (xf_7 hk) (v := .int ((upd (Fn 195) k0 (((Fn 195) k0) + 1)) k0)) rfl (oc_180 45 (aq_21 shX9_add_24) uw_0_33) ?_
      refine lv_iconst (v := 1) hx hb (oc_4 48 shX9_add_48) kic_1 ?_
      refine lv_isub hx hb (oc_100 49 (aq_1 shX9_add_48)) ?_
      exact W.iret (v := (((upd (Fn 195) k0 (((Fn 195) k0) + 1)) k0) - 1)) hx hb hr (fun t ht hW => ⟨⟨(((upd (Fn 195) k0 (((Fn 195) k0) + 1)) k0) - 1), (cn, In, (va_up (va_up Fn 301 (flat (Fn 301) 200 k0 (upd (gA (Fn 301) 200 k0) ((Fn 195) k0).toNatClampNeg ((v0 <<< (20 &&& 31)) ||| v1)))) 195 (upd (Fn 195) k0 (((Fn 195) k0) + 1)))), rfl, ⟨(Fr.mo (Fr.f 195 (Fr.f 301 Fr.rf)) (sbl rfl) (sbl rfl) (sbl rfl)), hB, trivial⟩, by rw [ht]; exact hP, hD⟩, hS.F ht⟩) hS.2.2 (oc_172 50 (aq_2 shX9_add_48))
set_option maxRecDepth 100000 in
set_option maxHeartbeats 4000000 in
theorem q_Taim (l : Launch) (D : va_G) (cI cB cZ : ClassId) (zz qq vv : Nat) (bt : Nat → Int32) (g : Nat → Nat) (ad : Nat → Nat → Nat) (cn : Nat → Nat) (In : Nat → Int32) (Fn : Nat → Nat → Int32) (k0 : Nat) (v0 : Int32) (sz : Nat) (hB : CBX cn) (hk : k0 < cn 6) (h9 : (Fn 199 k0).toInt ≤ 160) : Met l yX9_aim (CWS yX9_aim cX9_aim 2 none) (RM 1 0 0) (PBx [.ref (ad 5 k0), .int v0] D cI cB cZ zz qq vv bt (wX cI (D.1 99) zz g ad cn In Fn) sz) (va_Qv (fun (u : (Nat → Nat) × (Nat → Int32) × (Nat → Nat → Int32)) => (fun c2 I2 F2 => Fr [] [] [301] cn In Fn c2 I2 F2 ∧ CBX c2 ∧ (True)) u.1 u.2.1 u.2.2) (fun (u : (Nat → Nat) × (Nat → Int32) × (Nat → Nat → Int32)) (t : State) => va_P D vwCl (wX cI (D.1 99) zz g ad u.1 u.2.1 u.2.2) t.heap ∧ va_D (va_A (wX cI (D.1 99) zz g ad cn In Fn) sz) (wX cI (D.1 99) zz g ad u.1 u.2.1 u.2.2)) (va_A (wX cI (D.1 99) zz g ad cn In Fn) sz)) 0 0 (va_A (wX cI (D.1 99) zz g ad cn In Fn) sz) := by
  refine en_x (fun A => (va_Qv (fun (u : (Nat → Nat) × (Nat → Int32) × (Nat → Nat → Int32)) => (fun (c2 : Nat → Nat) (I2 : Nat → Int32) (F2 : Nat → Nat → Int32) => Fr [] [] [301] cn In Fn c2 I2 F2 ∧ CBX c2 ∧ (True)) u.1 u.2.1 u.2.2) (fun (u : (Nat → Nat) × (Nat → Int32) × (Nat → Nat → Int32)) (t : State) => va_P D vwCl (wX cI (D.1 99) zz g ad u.1 u.2.1 u.2.2) t.heap ∧ va_D A (wX cI (D.1 99) zz g ad u.1 u.2.1 u.2.2)) A)) rfl rfl pn_RX9 (Nat.le_of_ble_eq_true rfl) (fun p e s m below meth c A hx hb hml hown S hr hlocks hnm hA hP hK hD hXS hS ls hl => ?_)
  have hl : lv_has ls 2 [(0, .ref (ad 5 k0)), (1, .int v0)] := hl
  have hb_cn : Hid (CBX cn) := hB
  replace hB : CBXh cn := hB
  refine lv_aload_n hx hb (oc_42 0 shX9_aim_0) rfl (lvA0 hl) ?_
  refine gf_RX9_17 S hK hP _ (xf_7 hk) (v := .ref (ad 60 k0)) rfl (oc_180 1 (aq_1 shX9_aim_0) uw_0_17) ?_
  refine lv_iload_n hx hb (oc_27 4 (aq_4 shX9_aim_0)) rfl (lvA1 hl) ?_
  refine lv_aload_n hx hb (oc_42 5 (aq_5 shX9_aim_0)) rfl (lvA0 hl) ?_
  refine gf_RX9_17 S hK hP _ (xf_7 hk) (v := .ref (ad 60 k0)) rfl (oc_180 6 (aq_6 shX9_aim_0) uw_0_17) ?_
  refine lv_iload_n hx hb (oc_27 9 (aq_9 shX9_aim_0)) rfl (lvA1 hl) ?_
  refine vp_callSi (runS_r (As := [.ref (ad 60 k0), .int v0]) (rest := [.int v0, .ref (ad 60 k0)]) S (q_l_at l D cI cB cZ (ad 60 k0) (((Fn 199) k0).toInt.toNat) (gA (Fn 301) 200 k0) v0 (i32n _)) kS_RX9_37 hK hP _ (one_is (xf_8 hk)) ⟨Nat.le_of_ble_eq_true rfl, Nat.le_of_ble_eq_true rfl⟩ ⟨Nat.le_of_ble_eq_true rfl, Nat.le_of_ble_eq_true rfl⟩ rfl hl.1 rfl (Nat.le_of_ble_eq_true rfl) (oc_184 10 (aq_10 shX9_aim_0) uw_0_37)) (fun r_1 h_2 => ?_)
  subst h_2
  refine lv_ldc (v := (-1048576)) hx hb hown (S.2.2.2.2 _ (wk3_17 2 rfl rfl)) (oc_18 13 (aq_13 shX9_aim_0) ub_43) ?_
  refine lv_iand hx hb (oc_126 15 (aq_15 shX9_aim_0)) ?_
  refine lv_aload_n hx hb (oc_42 16 (aq_16 shX9_aim_0)) rfl (lvA0 hl) ?_
  refine gf_RX9_33 S hK hP _ (xf_7 hk) (v := .int ((Fn 195) k0)) rfl (oc_180 17 (aq_17 shX9_aim_0) uw_0_33) ?_
  refine lv_ior hx hb (oc_128 20 (aq_20 shX9_aim_0)) ?_
  have hFc := va_free (wc := [((ad 60 k0), .inl (cI, ((Fn 199) k0).toInt.toNat, .inl (gA (Fn 301) 200 k0)))]) hD hS hA _ (one_im (xf_8 hk))
  refine va_callv (runS_w (As := [.ref (ad 60 k0), .int v0, .int (((atM (gA (Fn 301) 200 k0) (((Fn 199) k0).toInt.toNat) v0) &&& (-1048576)) ||| ((Fn 195) k0))]) (rest := []) S (q_l_put l D cI cB cZ (ad 60 k0) (((Fn 199) k0).toInt.toNat) (gA (Fn 301) 200 k0) v0 (((atM (gA (Fn 301) 200 k0) (((Fn 199) k0).toInt.toNat) v0) &&& (-1048576)) ||| ((Fn 195) k0)) s.heap.size (i32n _)) kS_RX9_44 hK hP hD _ (one_is (xf_8 hk)) (one_im (xf_8 hk)) rfl ⟨Nat.le_of_ble_eq_true rfl, Nat.le_of_ble_eq_true rfl⟩ ⟨Nat.le_of_ble_eq_true rfl, Nat.le_of_ble_eq_true rfl⟩ rfl hl.1 rfl (Nat.le_of_ble_eq_true rfl) (oc_184 21 (aq_21 shX9_aim_0) uw_0_44)) hS (fun q _ h => hFc q h) hFc (fun u_5 t H1 locs ht hvm h_4 hB1 hz1 hk1 hS => ?_)
  obtain ⟨hP1, hD1⟩ := hB1
  rw [ht] at hP1
  obtain ⟨hP, hD⟩ := wset1 hP hD (xf_8 hk) hk1 hP1
  obtain rfl : u_5 = (putM (gA (Fn 301) 200 k0) ((Fn 199) k0).toInt.toNat v0 (((atM (gA (Fn 301) 200 k0) (((Fn 199) k0).toInt.toNat) v0) &&& (-1048576)) ||| ((Fn 195) k0))) := h_4
  generalize H1 = H at hP hS ⊢
  have hP : va_P D vwCl (wX cI (D.1 99) zz g ad cn In (va_up Fn 301 (flat (Fn 301) 200 k0 (putM (gA (Fn 301) 200 k0) ((Fn 199) k0).toInt.toNat v0 (((atM (gA (Fn 301) 200 k0) (((Fn 199) k0).toInt.toNat) v0) &&& (-1048576)) ||| ((Fn 195) k0)))))) H := va_P_eq (xsg_8 (by (first | omega | (have zz0 := Hid.u hb_cn; omega))) (putM_z (by (first | omega | (have zz0 := Hid.u hb_cn; omega))) gA_z)) hP
  have hD : va_D A (wX cI (D.1 99) zz g ad cn In (va_up Fn 301 (flat (Fn 301) 200 k0 (putM (gA (Fn 301) 200 k0) ((Fn 199) k0).toInt.toNat v0 (((atM (gA (Fn 301) 200 k0) (((Fn 199) k0).toInt.toNat) v0) &&& (-1048576)) ||| ((Fn 195) k0)))))) := va_D_eq (xsg_8 (by (first | omega | (have zz0 := Hid.u hb_cn; omega))) (putM_z (by (first | omega | (have zz0 := Hid.u hb_cn; omega))) gA_z)) hD
  exact W.vret hx hb hr (fun t ht hW => ⟨⟨(cn, In, (va_up Fn 301 (flat (Fn 301) 200 k0 (putM (gA (Fn 301) 200 k0) ((Fn 199) k0).toInt.toNat v0 (((atM (gA (Fn 301) 200 k0) (((Fn 199) k0).toInt.toNat) v0) &&& (-1048576)) ||| ((Fn 195) k0)))))), rfl, ⟨(Fr.mo (Fr.f 301 Fr.rf) (sbl rfl) (sbl rfl) (sbl rfl)), hB, trivial⟩, by rw [ht]; exact hP, hD⟩, hS.F ht⟩) hS.2.2 (oc_177 24 shX9_aim_24)
set_option maxRecDepth 100000 in
set_option maxHeartbeats 4000000 in
theorem q_TstartSum (l : Launch) (D : va_G) (cI cB cZ : ClassId) (zz qq vv : Nat) (bt : Nat → Int32) (g : Nat → Nat) (ad : Nat → Nat → Nat) (cn : Nat → Nat) (In : Nat → Int32) (Fn : Nat → Nat → Int32) (k0 : Nat) (sz : Nat) (hB : CBX cn) (hk : k0 < cn 6) : Met l yX9_startSum (CWS yX9_startSum cX9_startSum 1 none) (RM 1 0 0) (PBx [.ref (ad 5 k0)] D cI cB cZ zz qq vv bt (wX cI (D.1 99) zz g ad cn In Fn) sz) (va_Qv (fun (u : (Nat → Nat) × (Nat → Int32) × (Nat → Nat → Int32)) => (fun c2 I2 F2 => Fr [] [] [302] cn In Fn c2 I2 F2 ∧ CBX c2 ∧ (True)) u.1 u.2.1 u.2.2) (fun (u : (Nat → Nat) × (Nat → Int32) × (Nat → Nat → Int32)) (t : State) => va_P D vwCl (wX cI (D.1 99) zz g ad u.1 u.2.1 u.2.2) t.heap ∧ va_D (va_A (wX cI (D.1 99) zz g ad cn In Fn) sz) (wX cI (D.1 99) zz g ad u.1 u.2.1 u.2.2)) (va_A (wX cI (D.1 99) zz g ad cn In Fn) sz)) 0 0 (va_A (wX cI (D.1 99) zz g ad cn In Fn) sz) := by
  refine en_x (fun A => (va_Qv (fun (u : (Nat → Nat) × (Nat → Int32) × (Nat → Nat → Int32)) => (fun (c2 : Nat → Nat) (I2 : Nat → Int32) (F2 : Nat → Nat → Int32) => Fr [] [] [302] cn In Fn c2 I2 F2 ∧ CBX c2 ∧ (True)) u.1 u.2.1 u.2.2) (fun (u : (Nat → Nat) × (Nat → Int32) × (Nat → Nat → Int32)) (t : State) => va_P D vwCl (wX cI (D.1 99) zz g ad u.1 u.2.1 u.2.2) t.heap ∧ va_D A (wX cI (D.1 99) zz g ad u.1 u.2.1 u.2.2)) A)) rfl rfl pn_RX9 (Nat.le_of_ble_eq_true rfl) (fun p e s m below meth c A hx hb hml hown S hr hlocks hnm hA hP hK hD hXS hS ls hl => ?_)
  have hl : lv_has ls 1 [(0, .ref (ad 5 k0))] := hl
  have hb_cn : Hid (CBX cn) := hB
  replace hB : CBXh cn := hB
  refine lv_aload_n hx hb (oc_42 0 shX9_startSum_0) rfl (lvA0 hl) ?_
  refine gf_RX9_21 S hK hP _ (xf_7 hk) (v := .ref (ad 61 k0)) rfl (oc_180 1 (aq_1 shX9_startSum_0) uw_0_21) ?_
  refine lv_aload_n hx hb (oc_42 4 (aq_4 shX9_startSum_0)) rfl (lvA0 hl) ?_
  refine gf_RX9_48 S hK hP _ (xf_7 hk) (v := .int ((Fn 198) k0)) rfl (oc_180 5 (aq_5 shX9_startSum_0) uw_0_48) ?_
  refine lv_aload_n hx hb (oc_42 8 (aq_8 shX9_startSum_0)) rfl (lvA0 hl) ?_
  refine gf_RX9_33 S hK hP _ (xf_7 hk) (v := .int ((Fn 195) k0)) rfl (oc_180 9 (aq_9 shX9_startSum_0) uw_0_33) ?_
  have hFc := va_free (wc := [((ad 61 k0), .inl (cI, 12, .inl (gA (Fn 302) 12 k0)))]) hD hS hA _ (one_im (xf_9 hk))
  refine va_callv (runS_w (As := [.ref (ad 61 k0), .int ((Fn 198) k0), .int ((Fn 195) k0)]) (rest := []) S (q_l_put l D cI cB cZ (ad 61 k0) 12 (gA (Fn 302) 12 k0) ((Fn 198) k0) ((Fn 195) k0) s.heap.size (by (first | omega | (have zz0 := Hid.u hb_cn; omega)))) kS_RX9_44 hK hP hD _ (one_is (xf_9 hk)) (one_im (xf_9 hk)) rfl ⟨Nat.le_of_ble_eq_true rfl, Nat.le_of_ble_eq_true rfl⟩ ⟨Nat.le_of_ble_eq_true rfl, Nat.le_of_ble_eq_true rfl⟩ rfl hl.1 rfl (Nat.le_of_ble_eq_true rfl) (oc_184 12 (aq_12 shX9_startSum_0) uw_0_44)) hS (fun q _ h => hFc q h) hFc (fun u_3 t H1 locs ht hvm h_2 hB1 hz1 hk1 hS => ?_)
  obtain ⟨hP1, hD1⟩ := hB1
  rw [ht] at hP1
  obtain ⟨hP, hD⟩ := wset1 hP hD (xf_9 hk) hk1 hP1
  obtain rfl : u_3 = (putM (gA (Fn 302) 12 k0) 12 ((Fn 198) k0) ((Fn 195) k0)) := h_2
  generalize H1 = H at hP hS ⊢
  have hP : va_P D vwCl (wX cI (D.1 99) zz g ad cn In (va_up Fn 302 (flat (Fn 302) 12 k0 (putM (gA (Fn 302) 12 k0) 12 ((Fn 198) k0) ((Fn 195) k0))))) H := va_P_eq (xsg_9 (by (first | omega | (have zz0 := Hid.u hb_cn; omega))) (putM_z (by (first | omega | (have zz0 := Hid.u hb_cn; omega))) gA_z)) hP
  have hD : va_D A (wX cI (D.1 99) zz g ad cn In (va_up Fn 302 (flat (Fn 302) 12 k0 (putM (gA (Fn 302) 12 k0) 12 ((Fn 198) k0) ((Fn 195) k0))))) := va_D_eq (xsg_9 (by (first | omega | (have zz0 := Hid.u hb_cn; omega))) (putM_z (by (first | omega | (have zz0 := Hid.u hb_cn; omega))) gA_z)) hD
  exact W.vret hx hb hr (fun t ht hW => ⟨⟨(cn, In, (va_up Fn 302 (flat (Fn 302) 12 k0 (putM (gA (Fn 302) 12 k0) 12 ((Fn 198) k0) ((Fn 195) k0))))), rfl, ⟨(Fr.mo (Fr.f 302 Fr.rf) (sbl rfl) (sbl rfl) (sbl rfl)), hB, trivial⟩, by rw [ht]; exact hP, hD⟩, hS.F ht⟩) hS.2.2 (oc_177 15 (aq_15 shX9_startSum_0))
set_option maxRecDepth 100000 in
set_option maxHeartbeats 4000000 in
theorem q_TstartCondition (l : Launch) (D : va_G) (cI cB cZ : ClassId) (zz qq vv : Nat) (bt : Nat → Int32) (g : Nat → Nat) (ad : Nat → Nat → Nat) (cn : Nat → Nat) (In : Nat → Int32) (Fn : Nat → Nat → Int32) (k0 : Nat) (sz : Nat) (hB : CBX cn) (hk : k0 < cn 6) : Met l yX9_startCondition (CWS yX9_startCondition cX9_startCondition 1 none) (RM 1 0 0) (PBx [.ref (ad 5 k0)] D cI cB cZ zz qq vv bt (wX cI (D.1 99) zz g ad cn In Fn) sz) (va_Qv (fun (u : (Nat → Nat) × (Nat → Int32) × (Nat → Nat → Int32)) => (fun c2 I2 F2 => Fr [] [] [303] cn In Fn c2 I2 F2 ∧ CBX c2 ∧ (True)) u.1 u.2.1 u.2.2) (fun (u : (Nat → Nat) × (Nat → Int32) × (Nat → Nat → Int32)) (t : State) => va_P D vwCl (wX cI (D.1 99) zz g ad u.1 u.2.1 u.2.2) t.heap ∧ va_D (va_A (wX cI (D.1 99) zz g ad cn In Fn) sz) (wX cI (D.1 99) zz g ad u.1 u.2.1 u.2.2)) (va_A (wX cI (D.1 99) zz g ad cn In Fn) sz)) 0 0 (va_A (wX cI (D.1 99) zz g ad cn In Fn) sz) := by
  refine en_x (fun A => (va_Qv (fun (u : (Nat → Nat) × (Nat → Int32) × (Nat → Nat → Int32)) => (fun (c2 : Nat → Nat) (I2 : Nat → Int32) (F2 : Nat → Nat → Int32) => Fr [] [] [303] cn In Fn c2 I2 F2 ∧ CBX c2 ∧ (True)) u.1 u.2.1 u.2.2) (fun (u : (Nat → Nat) × (Nat → Int32) × (Nat → Nat → Int32)) (t : State) => va_P D vwCl (wX cI (D.1 99) zz g ad u.1 u.2.1 u.2.2) t.heap ∧ va_D A (wX cI (D.1 99) zz g ad u.1 u.2.1 u.2.2)) A)) rfl rfl pn_RX9 (Nat.le_of_ble_eq_true rfl) (fun p e s m below meth c A hx hb hml hown S hr hlocks hnm hA hP hK hD hXS hS ls hl => ?_)
  have hl : lv_has ls 1 [(0, .ref (ad 5 k0))] := hl
  have hb_cn : Hid (CBX cn) := hB
  replace hB : CBXh cn := hB
  refine lv_aload_n hx hb (oc_42 0 shX9_startCondition_0) rfl (lvA0 hl) ?_
  refine gf_RX9_24 S hK hP _ (xf_7 hk) (v := .ref (ad 62 k0)) rfl (oc_180 1 (aq_1 shX9_startCondition_0) uw_0_24) ?_
  refine lv_aload_n hx hb (oc_42 4 (aq_4 shX9_startCondition_0)) rfl (lvA0 hl) ?_
  refine gf_RX9_48 S hK hP _ (xf_7 hk) (v := .int ((Fn 198) k0)) rfl (oc_180 5 (aq_5 shX9_startCondition_0) uw_0_48) ?_
  refine lv_aload_n hx hb (oc_42 8 (aq_8 shX9_startCondition_0)) rfl (lvA0 hl) ?_
  refine gf_RX9_33 S hK hP _ (xf_7 hk) (v := .int ((Fn 195) k0)) rfl (oc_180 9 (aq_9 shX9_startCondition_0) uw_0_33) ?_
  have hFc := va_free (wc := [((ad 62 k0), .inl (cI, 12, .inl (gA (Fn 303) 12 k0)))]) hD hS hA _ (one_im (xf_10 hk))
  refine va_callv (runS_w (As := [.ref (ad 62 k0), .int ((Fn 198) k0), .int ((Fn 195) k0)]) (rest := []) S (q_l_put l D cI cB cZ (ad 62 k0) 12 (gA (Fn 303) 12 k0) ((Fn 198) k0) ((Fn 195) k0) s.heap.size (by (first | omega | (have zz0 := Hid.u hb_cn; omega)))) kS_RX9_44 hK hP hD _ (one_is (xf_10 hk)) (one_im (xf_10 hk)) rfl ⟨Nat.le_of_ble_eq_true rfl, Nat.le_of_ble_eq_true rfl⟩ ⟨Nat.le_of_ble_eq_true rfl, Nat.le_of_ble_eq_true rfl⟩ rfl hl.1 rfl (Nat.le_of_ble_eq_true rfl) (oc_184 12 (aq_12 shX9_startCondition_0) uw_0_44)) hS (fun q _ h => hFc q h) hFc (fun u_3 t H1 locs ht hvm h_2 hB1 hz1 hk1 hS => ?_)
  obtain ⟨hP1, hD1⟩ := hB1
  rw [ht] at hP1
  obtain ⟨hP, hD⟩ := wset1 hP hD (xf_10 hk) hk1 hP1
  obtain rfl : u_3 = (putM (gA (Fn 303) 12 k0) 12 ((Fn 198) k0) ((Fn 195) k0)) := h_2
  generalize H1 = H at hP hS ⊢
  have hP : va_P D vwCl (wX cI (D.1 99) zz g ad cn In (va_up Fn 303 (flat (Fn 303) 12 k0 (putM (gA (Fn 303) 12 k0) 12 ((Fn 198) k0) ((Fn 195) k0))))) H := va_P_eq (xsg_10 (by (first | omega | (have zz0 := Hid.u hb_cn; omega))) (putM_z (by (first | omega | (have zz0 := Hid.u hb_cn; omega))) gA_z)) hP
  have hD : va_D A (wX cI (D.1 99) zz g ad cn In (va_up Fn 303 (flat (Fn 303) 12 k0 (putM (gA (Fn 303) 12 k0) 12 ((Fn 198) k0) ((Fn 195) k0))))) := va_D_eq (xsg_10 (by (first | omega | (have zz0 := Hid.u hb_cn; omega))) (putM_z (by (first | omega | (have zz0 := Hid.u hb_cn; omega))) gA_z)) hD
  exact W.vret hx hb hr (fun t ht hW => ⟨⟨(cn, In, (va_up Fn 303 (flat (Fn 303) 12 k0 (putM (gA (Fn 303) 12 k0) 12 ((Fn 198) k0) ((Fn 195) k0))))), rfl, ⟨(Fr.mo (Fr.f 303 Fr.rf) (sbl rfl) (sbl rfl) (sbl rfl)), hB, trivial⟩, by rw [ht]; exact hP, hD⟩, hS.F ht⟩) hS.2.2 (oc_177 15 (aq_15 shX9_startCondition_0))
set_option maxRecDepth 100000 in
set_option maxHeartbeats 4000000 in
theorem q_TendClause (l : Launch) (D : va_G) (cI cB cZ : ClassId) (zz qq vv : Nat) (bt : Nat → Int32) (g : Nat → Nat) (ad : Nat → Nat → Nat) (cn : Nat → Nat) (In : Nat → Int32) (Fn : Nat → Nat → Int32) (k0 : Nat) (sz : Nat) (hB : CBX cn) (hk : k0 < cn 6) : Met l yX9_endClause (CWS yX9_endClause cX9_endClause 1 none) (RM 1 0 0) (PBx [.ref (ad 5 k0)] D cI cB cZ zz qq vv bt (wX cI (D.1 99) zz g ad cn In Fn) sz) (va_Qv (fun (u : (Nat → Nat) × (Nat → Int32) × (Nat → Nat → Int32)) => (fun c2 I2 F2 => Fr [] [] [198, 304] cn In Fn c2 I2 F2 ∧ CBX c2 ∧ (F2 198 = upd (Fn 198) k0 (Fn 198 k0 + 1))) u.1 u.2.1 u.2.2) (fun (u : (Nat → Nat) × (Nat → Int32) × (Nat → Nat → Int32)) (t : State) => va_P D vwCl (wX cI (D.1 99) zz g ad u.1 u.2.1 u.2.2) t.heap ∧ va_D (va_A (wX cI (D.1 99) zz g ad cn In Fn) sz) (wX cI (D.1 99) zz g ad u.1 u.2.1 u.2.2)) (va_A (wX cI (D.1 99) zz g ad cn In Fn) sz)) 0 0 (va_A (wX cI (D.1 99) zz g ad cn In Fn) sz) := by
  refine en_x (fun A => (va_Qv (fun (u : (Nat → Nat) × (Nat → Int32) × (Nat → Nat → Int32)) => (fun (c2 : Nat → Nat) (I2 : Nat → Int32) (F2 : Nat → Nat → Int32) => Fr [] [] [198, 304] cn In Fn c2 I2 F2 ∧ CBX c2 ∧ (F2 198 = upd (Fn 198) k0 (Fn 198 k0 + 1))) u.1 u.2.1 u.2.2) (fun (u : (Nat → Nat) × (Nat → Int32) × (Nat → Nat → Int32)) (t : State) => va_P D vwCl (wX cI (D.1 99) zz g ad u.1 u.2.1 u.2.2) t.heap ∧ va_D A (wX cI (D.1 99) zz g ad u.1 u.2.1 u.2.2)) A)) rfl rfl pn_RX9 (Nat.le_of_ble_eq_true rfl) (fun p e s m below meth c A hx hb hml hown S hr hlocks hnm hA hP hK hD hXS hS ls hl => ?_)
  have hl : lv_has ls 1 [(0, .ref (ad 5 k0))] := hl
  have hb_cn : Hid (CBX cn) := hB
  replace hB : CBXh cn := hB
  refine lv_aload_n hx hb (oc_42 0 shX9_endClause_0) rfl (lvA0 hl) ?_
  refine gf_RX9_27 S hK hP _ (xf_7 hk) (v := .ref (ad 63 k0)) rfl (oc_180 1 (aq_1 shX9_endClause_0) uw_0_27) ?_
  refine lv_aload_n hx hb (oc_42 4 (aq_4 shX9_endClause_0)) rfl (lvA0 hl) ?_
  refine gf_RX9_48 S hK hP _ (xf_7 hk) (v := .int ((Fn 198) k0)) rfl (oc_180 5 (aq_5 shX9_endClause_0) uw_0_48) ?_
  refine lv_aload_n hx hb (oc_42 8 (aq_8 shX9_endClause_0)) rfl (lvA0 hl) ?_
  refine gf_RX9_33 S hK hP _ (xf_7 hk) (v := .int ((Fn 195) k0)) rfl (oc_180 9 (aq_9 shX9_endClause_0) uw_0_33) ?_
  have hFc := va_free (wc := [((ad 63 k0), .inl (cI, 12, .inl (gA (Fn 304) 12 k0)))]) hD hS hA _ (one_im (xf_11 hk))
  refine va_callv (runS_w (As := [.ref (ad 63 k0), .int ((Fn 198) k0), .int ((Fn 195) k0)]) (rest := []) S (q_l_put l D cI cB cZ (ad 63 k0) 12 (gA (Fn 304) 12 k0) ((Fn 198) k0) ((Fn 195) k0) s.heap.size (by (first | omega | (have zz0 := Hid.u hb_cn; omega)))) kS_RX9_44 hK hP hD _ (one_is (xf_11 hk)) (one_im (xf_11 hk)) rfl ⟨Nat.le_of_ble_eq_true rfl, Nat.le_of_ble_eq_true rfl⟩ ⟨Nat.le_of_ble_eq_true rfl, Nat.le_of_ble_eq_true rfl⟩ rfl hl.1 rfl (Nat.le_of_ble_eq_true rfl) (oc_184 12 (aq_12 shX9_endClause_0) uw_0_44)) hS (fun q _ h => hFc q h) hFc (fun u_3 t H1 locs ht hvm h_2 hB1 hz1 hk1 hS => ?_)
  obtain ⟨hP1, hD1⟩ := hB1
  rw [ht] at hP1
  obtain ⟨hP, hD⟩ := wset1 hP hD (xf_11 hk) hk1 hP1
  obtain rfl : u_3 = (putM (gA (Fn 304) 12 k0) 12 ((Fn 198) k0) ((Fn 195) k0)) := h_2
  generalize H1 = H at hP hS ⊢
  have hP : va_P D vwCl (wX cI (D.1 99) zz g ad cn In (va_up Fn 304 (flat (Fn 304) 12 k0 (putM (gA (Fn 304) 12 k0) 12 ((Fn 198) k0) ((Fn 195) k0))))) H := va_P_eq (xsg_11 (by (first | omega | (have zz0 := Hid.u hb_cn; omega))) (putM_z (by (first | omega | (have zz0 := Hid.u hb_cn; omega))) gA_z)) hP
  have hD : va_D A (wX cI (D.1 99) zz g ad cn In (va_up Fn 304 (flat (Fn 304) 12 k0 (putM (gA (Fn 304) 12 k0) 12 ((Fn 198) k0) ((Fn 195) k0))))) := va_D_eq (xsg_11 (by (first | omega | (have zz0 := Hid.u hb_cn; omega))) (putM_z (by (first | omega | (have zz0 := Hid.u hb_cn; omega))) gA_z)) hD
  refine lv_aload_n hx hb (oc_42 15 (aq_15 shX9_endClause_0)) rfl (lvA0 hl) ?_
  refine lv_dup hx hb (oc_89 16 (aq_16 shX9_endClause_0)) rfl ?_
  refine gf_RX9_48 S hK hP _ (xf_7 hk) (v := .int ((Fn 198) k0)) rfl (oc_180 17 (aq_17 shX9_endClause_0) uw_0_48) ?_
  refine lv_iconst (v := 1) hx hb (oc_4 20 (aq_20 shX9_endClause_0)) kic_1 ?_
  refine lv_iadd hx hb (oc_96 21 (aq_21 shX9_endClause_0)) ?_
  refine pf_RX9_48 S hK hP hD hS _ (xf_7 hk) (v := .int (((Fn 198) k0) + 1)) (Nat.le_of_ble_eq_true rfl) rfl rfl (oc_181 22 (aq_22 shX9_endClause_0) uw_0_48) (fun H locs hP hD hS => ?_)
  have hP : va_P D vwCl (wX cI (D.1 99) zz g ad cn In (va_up (va_up Fn 304 (flat (Fn 304) 12 k0 (putM (gA (Fn 304) 12 k0) 12 ((Fn 198) k0) ((Fn 195) k0)))) 198 (upd (Fn 198) k0 (((Fn 198) k0) + 1)))) H := va_P_eq (xs_198 (by (first | omega | (have zz0 := Hid.u hb_cn; omega)))) hP
  have hD : va_D A (wX cI (D.1 99) zz g ad cn In (va_up (va_up Fn 304 (flat (Fn 304) 12 k0 (putM (gA (Fn 304) 12 k0) 12 ((Fn 198) k0) ((Fn 195) k0)))) 198 (upd (Fn 198) k0 (((Fn 198) k0) + 1)))) := va_D_eq (xs_198 (by (first | omega | (have zz0 := Hid.u hb_cn; omega)))) hD
  exact W.vret hx hb hr (fun t ht hW => ⟨⟨(cn, In, (va_up (va_up Fn 304 (flat (Fn 304) 12 k0 (putM (gA (Fn 304) 12 k0) 12 ((Fn 198) k0) ((Fn 195) k0)))) 198 (upd (Fn 198) k0 (((Fn 198) k0) + 1)))), rfl, ⟨(Fr.mo (Fr.f 198 (Fr.f 304 Fr.rf)) (sbl rfl) (sbl rfl) (sbl rfl)), hB, (by show (va_up (va_up Fn 304 (flat (Fn 304) 12 k0 (putM (gA (Fn 304) 12 k0) 12 ((Fn 198) k0) ((Fn 195) k0)))) 198 (upd (Fn 198) k0 (((Fn 198) k0) + 1))) 198 = upd (Fn 198) k0 (Fn 198 k0 + 1); rfl)⟩, by rw [ht]; exact hP, hD⟩, hS.F ht⟩) hS.2.2 (oc_177 25 shX9_endClause_25)
set_option maxRecDepth 100000 in
set_option maxHeartbeats 4000000 in
theorem q_l_isDigit (l : Launch) (D : va_G) (cI cB cZ : ClassId) (v0 : Int32) : Met l yX5_isDigit (CWS yX5_isDigit cX5_isDigit 1 (some .boolean)) (RM 0 0 0) (PBr [.int v0] D cI cB cZ []) (vp_Si (fun r => (r = 1 ∧ (48 ≤ v0.toInt ∧ v0.toInt ≤ 57)) ∨ (r = 0 ∧ ¬ (48 ≤ v0.toInt ∧ v0.toInt ≤ 57)))) 0 0 (fun _ => False) := by
  refine en_r rfl pn_RX5 (Nat.le_of_ble_eq_true rfl) (fun p e s m below meth c hx hb hml hown S hr hlocks hnm hP hK hS ls hl => ?_)
  have hP : va_P D vwCl [] s.heap := hP
  have hl : lv_has ls 1 [(0, .int v0)] := hl
  refine lv_iload_n hx hb (oc_26 0 shX5_isDigit_0) rfl (lvA0 hl) ?_
  refine lv_bipush (v := 48) hx hb (oc_16 1 (aq_1 shX5_isDigit_0) sgb_48) kbc_48 ?_
  refine lv_icmp_lt (tgt := 16) hx hb (oc_161 3 (aq_3 shX5_isDigit_0) sgw_0_13) rfl (fun c_1 => ?_) (fun c_1 => ?_)
  ·
    have tc_1 : (v0.toInt : Int) < 48 := Int32.lt_iff_toInt_lt.mp c_1
    refine lv_iconst (v := 0) hx hb (oc_3 16 (aq_16 shX5_isDigit_0)) kic_0 ?_
    exact W.zret (v := 0) hx hb hr rfl (fun t ht hW => ⟨0, rfl, (Or.inr ⟨rfl, by omega⟩), ht⟩) (fun _ h => absurd h List.not_mem_nil) (oc_172 17 (aq_17 shX5_isDigit_0))
  ·
    have tc_1 : (48 : Int) ≤ v0.toInt := Int32.le_iff_toInt_le.mp (Int32.not_lt.mp c_1)
    refine lv_iload_n hx hb (oc_26 6 (aq_6 shX5_isDigit_0)) rfl (lvA0 hl) ?_
    refine lv_bipush (v := 57) hx hb (oc_16 7 (aq_7 shX5_isDigit_0) sgb_57) kbc_57 ?_
    refine lv_icmp_gt (tgt := 16) hx hb (oc_163 9 (aq_9 shX5_isDigit_0) sgw_0_7) rfl (fun c_2 => ?_) (fun c_2 => ?_)
    ·
      have tc_2 : (57 : Int) < v0.toInt := Int32.lt_iff_toInt_lt.mp c_2
      refine lv_iconst (v := 0) hx hb (oc_3 16 (aq_16 shX5_isDigit_0)) kic_0 ?_
      exact W.zret (v := 0) hx hb hr rfl (fun t ht hW => ⟨0, rfl, (Or.inr ⟨rfl, by omega⟩), ht⟩) (fun _ h => absurd h List.not_mem_nil) (oc_172 17 (aq_17 shX5_isDigit_0))
    ·
      have tc_2 : (v0.toInt : Int) ≤ 57 := Int32.le_iff_toInt_le.mp (Int32.not_lt.mp c_2)
      refine lv_iconst (v := 1) hx hb (oc_4 12 (aq_12 shX5_isDigit_0)) kic_1 ?_
      refine lv_goto (tgt := 17) hx hb (oc_167 13 (aq_13 shX5_isDigit_0) sgw_0_4) rfl ?_
      exact W.zret (v := 1) hx hb hr rfl (fun t ht hW => ⟨1, rfl, (Or.inl ⟨rfl, by omega⟩), ht⟩) (fun _ h => absurd h List.not_mem_nil) (oc_172 17 (aq_17 shX5_isDigit_0))
set_option maxRecDepth 100000 in
set_option maxHeartbeats 4000000 in
theorem q_RreadRelation (l : Launch) (D : va_G) (cI cB cZ : ClassId) (zz qq vv : Nat) (bt : Nat → Int32) (g : Nat → Nat) (ad : Nat → Nat → Nat) (cn : Nat → Nat) (In : Nat → Int32) (Fn : Nat → Nat → Int32)  (sz : Nat) (hB : CBX cn) (hR : ad 4 2 = g 40) (h1 : ad 4 1 < cn 6) (h3 : cn 31 ≤ cn 32) (h4 : cn 32 ≤ 160) : Met l yX5_readRelation (CWS yX5_readRelation cX5_readRelation 2 (some .int)) (RM 1 0 0) (PBx [.ref (g 6)] D cI cB cZ zz qq vv bt (wX cI (D.1 99) zz g ad cn In Fn) sz) (va_Qi (fun (r : Int32) (u : (Nat → Nat) × (Nat → Int32) × (Nat → Nat → Int32)) => (fun r c2 I2 F2 => Fr [31, 32] [33] [] cn In Fn c2 I2 F2 ∧ CBX c2 ∧ (cn 31 ≤ c2 31 ∧ c2 31 ≤ c2 32 ∧ c2 32 ≤ cn 32)) r u.1 u.2.1 u.2.2) (fun (u : (Nat → Nat) × (Nat → Int32) × (Nat → Nat → Int32)) (t : State) => va_P D vwCl (wX cI (D.1 99) zz g ad u.1 u.2.1 u.2.2) t.heap ∧ va_D (va_A (wX cI (D.1 99) zz g ad cn In Fn) sz) (wX cI (D.1 99) zz g ad u.1 u.2.1 u.2.2)) (va_A (wX cI (D.1 99) zz g ad cn In Fn) sz)) 0 0 (va_A (wX cI (D.1 99) zz g ad cn In Fn) sz) := by
  refine en_x (fun A => (va_Qi (fun (r : Int32) (u : (Nat → Nat) × (Nat → Int32) × (Nat → Nat → Int32)) => (fun (r : Int32) (c2 : Nat → Nat) (I2 : Nat → Int32) (F2 : Nat → Nat → Int32) => Fr [31, 32] [33] [] cn In Fn c2 I2 F2 ∧ CBX c2 ∧ (cn 31 ≤ c2 31 ∧ c2 31 ≤ c2 32 ∧ c2 32 ≤ cn 32)) r u.1 u.2.1 u.2.2) (fun (u : (Nat → Nat) × (Nat → Int32) × (Nat → Nat → Int32)) (t : State) => va_P D vwCl (wX cI (D.1 99) zz g ad u.1 u.2.1 u.2.2) t.heap ∧ va_D A (wX cI (D.1 99) zz g ad u.1 u.2.1 u.2.2)) A)) rfl rfl pn_RX5 (Nat.le_of_ble_eq_true rfl) (fun p e s m below meth c A hx hb hml hown S hr hlocks hnm hA hP hK hD hXS hS ls hl => ?_)
  have hl : lv_has ls 2 [(0, .ref (g 6))] := hl
  replace hB : CBXh cn := hB
  refine lv_aload_n hx hb (oc_42 0 shX5_readRelation_0) rfl (lvA0 hl) ?_
  refine vp_callSi (runV_rxa (As := []) (rest := []) S (q_Rpeek l D cI cB cZ zz qq vv bt g ad cn In Fn  hB (by omega) (by omega) (by omega) (by omega)) kV_RX5_43 hK hXS hS hP 3 xo_3 rfl rfl ⟨Nat.le_of_ble_eq_true rfl, Nat.le_of_ble_eq_true rfl⟩ ⟨Nat.le_of_ble_eq_true rfl, Nat.le_of_ble_eq_true rfl⟩ rfl hl.1 rfl (Nat.le_of_ble_eq_true rfl) (oc_182 1 (aq_1 shX5_readRelation_0) uw_0_43)) (fun r_1 h_2 => ?_)
  refine lv_istore_n (lv' := [(1, .int r_1), (0, .ref (g 6))]) hx hb (oc_60 4 (aq_4 shX5_readRelation_0)) rfl hl (ltb rfl) rfl (fun ls hl => ?_)
  refine lv_iload_n hx hb (oc_27 5 (aq_5 shX5_readRelation_0)) rfl (lvA0 hl) ?_
  refine lv_bipush (v := 60) hx hb (oc_16 6 (aq_6 shX5_readRelation_0) sgb_60) kbc_60 ?_
  refine lv_icmp_eq (tgt := 23) hx hb (oc_159 8 (aq_8 shX5_readRelation_0) sgw_0_15) rfl (fun c_3 => ?_) (fun c_3 => ?_)
  ·
    have tc_3 : (r_1.toInt : Int) = 60 := congrArg Int32.toInt c_3
    refine lv_aload_n hx hb (oc_42 23 (aq_23 shX5_readRelation_0)) rfl (lvA1 hl) ?_
    refine lv_dup hx hb (oc_89 24 shX5_readRelation_24) rfl ?_
    refine gf_RX5_31 S hK hP 3 xo_3 (v := .int (nI (cn 31))) rfl (oc_180 25 (aq_1 shX5_readRelation_24) uw_0_31) ?_
    refine lv_iconst (v := 1) hx hb (oc_4 28 (aq_4 shX5_readRelation_24)) kic_1 ?_
    refine lv_iadd hx hb (oc_96 29 (aq_5 shX5_readRelation_24)) ?_
    refine lv_topi (fun y_4 ey_4 => ?_)
    obtain rfl : y_4 = (nI ((cn 31) + 1)) := ey_4.trans (nI_add (cn 31) 1)
    refine pf_RX5_31 S hK hP hD hS 3 xo_3 (v := .int (nI ((cn 31) + 1))) (Nat.le_of_ble_eq_true rfl) rfl rfl (oc_181 30 (aq_6 shX5_readRelation_24) uw_0_31) (fun H locs hP hD hS => ?_)
    have hP : va_P D vwCl (wX cI (D.1 99) zz g ad (va_up cn 31 ((cn 31) + 1)) In Fn) H := va_P_eq (xsf_3_3) hP
    have hD : va_D A (wX cI (D.1 99) zz g ad (va_up cn 31 ((cn 31) + 1)) In Fn) := va_D_eq (xsf_3_3) hD
    refine lv_goto (tgt := 41) hx hb (oc_167 33 (aq_9 shX5_readRelation_24) sgw_0_8) rfl ?_
    refine lv_iload_n hx hb dX5_readRelation_41 rfl (lvA0 hl) ?_
    refine lv_bipush (v := 60) hx hb dX5_readRelation_42 kbc_60 ?_
    refine lv_icmp_ne (tgt := 52) hx hb dX5_readRelation_44 rfl (fun c_5 => False.elim (by have tc_5 : (r_1.toInt : Int) ≠ 60 := fun q => c_5 (Int32.toInt_inj.mp q); omega)) (fun c_5 => ?_)
    have tc_5 : (r_1.toInt : Int) = 60 := congrArg Int32.toInt c_5
    refine lv_bipush (v := 8) hx hb (oc_16 47 (aq_23 shX5_readRelation_24) sgb_8) kbc_8 ?_
    refine lv_goto (tgt := 65) hx hb (oc_167 49 shX5_readRelation_49 sgw_0_16) rfl ?_
    exact W.iret (v := 8) hx hb hr (fun t ht hW => ⟨⟨8, ((va_up cn 31 ((cn 31) + 1)), In, Fn), rfl, ⟨(Fr.mo (Fr.c 31 Fr.rf) (sbl rfl) (sbl rfl) (sbl rfl)), (CBX.n (k := 31) (v := ((cn 31) + 1)) hB (by decide)), (by show cn 31 ≤ (va_up cn 31 ((cn 31) + 1)) 31 ∧ (va_up cn 31 ((cn 31) + 1)) 31 ≤ (va_up cn 31 ((cn 31) + 1)) 32 ∧ (va_up cn 31 ((cn 31) + 1)) 32 ≤ cn 32; show cn 31 ≤ ((cn 31) + 1) ∧ ((cn 31) + 1) ≤ (cn 32) ∧ (cn 32) ≤ cn 32; omega)⟩, by rw [ht]; exact hP, hD⟩, hS.F ht⟩) hS.2.2 dX5_readRelation_65
  ·
    have tc_3 : (r_1.toInt : Int) ≠ 60 := fun q => c_3 (Int32.toInt_inj.mp q)
    refine lv_iload_n hx hb (oc_27 11 (aq_11 shX5_readRelation_0)) rfl (lvA0 hl) ?_
    refine lv_bipush (v := 62) hx hb (oc_16 12 (aq_12 shX5_readRelation_0) sgb_62) kbc_62 ?_
    refine lv_icmp_eq (tgt := 23) hx hb (oc_159 14 (aq_14 shX5_readRelation_0) sgw_0_9) rfl (fun c_6 => ?_) (fun c_6 => ?_)
    ·
      have tc_6 : (r_1.toInt : Int) = 62 := congrArg Int32.toInt c_6
      refine lv_aload_n hx hb (oc_42 23 (aq_23 shX5_readRelation_0)) rfl (lvA1 hl) ?_
      refine lv_dup hx hb (oc_89 24 shX5_readRelation_24) rfl ?_
      refine gf_RX5_31 S hK hP 3 xo_3 (v := .int (nI (cn 31))) rfl (oc_180 25 (aq_1 shX5_readRelation_24) uw_0_31) ?_
      refine lv_iconst (v := 1) hx hb (oc_4 28 (aq_4 shX5_readRelation_24)) kic_1 ?_
      refine lv_iadd hx hb (oc_96 29 (aq_5 shX5_readRelation_24)) ?_
      refine lv_topi (fun y_7 ey_7 => ?_)
      obtain rfl : y_7 = (nI ((cn 31) + 1)) := ey_7.trans (nI_add (cn 31) 1)
      refine pf_RX5_31 S hK hP hD hS 3 xo_3 (v := .int (nI ((cn 31) + 1))) (Nat.le_of_ble_eq_true rfl) rfl rfl (oc_181 30 (aq_6 shX5_readRelation_24) uw_0_31) (fun H locs hP hD hS => ?_)
      have hP : va_P D vwCl (wX cI (D.1 99) zz g ad (va_up cn 31 ((cn 31) + 1)) In Fn) H := va_P_eq (xsf_3_3) hP
      have hD : va_D A (wX cI (D.1 99) zz g ad (va_up cn 31 ((cn 31) + 1)) In Fn) := va_D_eq (xsf_3_3) hD
      refine lv_goto (tgt := 41) hx hb (oc_167 33 (aq_9 shX5_readRelation_24) sgw_0_8) rfl ?_
      refine lv_iload_n hx hb dX5_readRelation_41 rfl (lvA0 hl) ?_
      refine lv_bipush (v := 60) hx hb dX5_readRelation_42 kbc_60 ?_
      refine lv_icmp_ne (tgt := 52) hx hb dX5_readRelation_44 rfl (fun c_8 => ?_) (fun c_8 => False.elim (by have tc_8 : (r_1.toInt : Int) = 60 := congrArg Int32.toInt c_8; omega))
      have tc_8 : (r_1.toInt : Int) ≠ 60 := fun q => c_8 (Int32.toInt_inj.mp q)
      refine lv_iload_n hx hb (oc_27 52 (aq_3 shX5_readRelation_49)) rfl (lvA0 hl) ?_
      refine lv_bipush (v := 62) hx hb (oc_16 53 (aq_4 shX5_readRelation_49) sgb_62) kbc_62 ?_
      refine lv_icmp_ne (tgt := 63) hx hb (oc_160 55 (aq_6 shX5_readRelation_49) sgw_0_8) rfl (fun c_9 => False.elim (by have tc_9 : (r_1.toInt : Int) ≠ 62 := fun q => c_9 (Int32.toInt_inj.mp q); omega)) (fun c_9 => ?_)
      have tc_9 : (r_1.toInt : Int) = 62 := congrArg Int32.toInt c_9
      refine lv_bipush (v := 9) hx hb (oc_16 58 (aq_9 shX5_readRelation_49) sgb_9) kbc_9 ?_
      refine lv_goto (tgt := 65) hx hb (oc_167 60 (aq_11 shX5_readRelation_49) sgw_0_5) rfl ?_
      exact W.iret (v := 9) hx hb hr (fun t ht hW => ⟨⟨9, ((va_up cn 31 ((cn 31) + 1)), In, Fn), rfl, ⟨(Fr.mo (Fr.c 31 Fr.rf) (sbl rfl) (sbl rfl) (sbl rfl)), (CBX.n (k := 31) (v := ((cn 31) + 1)) hB (by decide)), (by show cn 31 ≤ (va_up cn 31 ((cn 31) + 1)) 31 ∧ (va_up cn 31 ((cn 31) + 1)) 31 ≤ (va_up cn 31 ((cn 31) + 1)) 32 ∧ (va_up cn 31 ((cn 31) + 1)) 32 ≤ cn 32; show cn 31 ≤ ((cn 31) + 1) ∧ ((cn 31) + 1) ≤ (cn 32) ∧ (cn 32) ≤ cn 32; omega)⟩, by rw [ht]; exact hP, hD⟩, hS.F ht⟩) hS.2.2 dX5_readRelation_65
    ·
      have tc_6 : (r_1.toInt : Int) ≠ 62 := fun q => c_6 (Int32.toInt_inj.mp q)
      refine lv_iload_n hx hb (oc_27 17 (aq_17 shX5_readRelation_0)) rfl (lvA0 hl) ?_
      refine lv_bipush (v := 61) hx hb (oc_16 18 (aq_18 shX5_readRelation_0) sgb_61) kbc_61 ?_
      refine lv_icmp_ne (tgt := 36) hx hb (oc_160 20 (aq_20 shX5_readRelation_0) sgw_0_16) rfl (fun c_10 => ?_) (fun c_10 => ?_)
      ·
        have tc_10 : (r_1.toInt : Int) ≠ 61 := fun q => c_10 (Int32.toInt_inj.mp q)
        refine lv_aload_n hx hb (oc_42 36 (aq_12 shX5_readRelation_24)) rfl (lvA1 hl) ?_
        refine lv_iconst (v := 1) hx hb (oc_4 37 (aq_13 shX5_readRelation_24)) kic_1 ?_
        have hFc := free_all hD hS hA
        refine va_callv (runV_xa (As := [.int 1]) (rest := []) S (q_Rfail l D cI cB cZ zz qq vv bt g ad cn In Fn 1 s.heap.size hB (by omega) (by omega) (by omega) (by omega)) kV_RX5_47 hK hXS hS hFc hP hD 3 xo_3 rfl rfl ⟨Nat.le_of_ble_eq_true rfl, Nat.le_of_ble_eq_true rfl⟩ ⟨Nat.le_of_ble_eq_true rfl, Nat.le_of_ble_eq_true rfl⟩ rfl hl.1 rfl (Nat.le_of_ble_eq_true rfl) (oc_182 38 (aq_14 shX5_readRelation_24) uw_0_47)) hS (fun q _ h => hFc q h) hFc (fun u t H1 locs ht hvm wh_12 hB1 hz1 hk1 hS => ?_)
        obtain ⟨cn12, In12, Fn12⟩ := u
        obtain ⟨hP1, hD1⟩ := hB1
        rw [ht] at hP1
        have hP : va_P D vwCl (wX cI (D.1 99) zz g ad cn12 In12 Fn12) H1 := hP1
        have hD : va_D A (wX cI (D.1 99) zz g ad cn12 In12 Fn12) := hD1.weaken (fun _ _ _ h => hFc _ h)
        generalize H1 = H at hP hS ⊢
        have vh_12 : (fun c2 I2 F2 => Fr [32] [33] [] cn In Fn c2 I2 F2 ∧ CBX c2 ∧ (c2 31 = (cn 31) ∧ (cn 31) ≤ c2 32 ∧ c2 32 ≤ (cn 32))) cn12 In12 Fn12 := wh_12
        obtain ⟨hfc12, hIn12, h_12⟩ := vh_12
        obtain rfl : Fn = Fn12 := (funext (fun k => hfc12.2.2 k List.not_mem_nil)).symm
        have hf12 : Fr [31, 32] [33] [] cn In Fn cn12 In12 Fn := Fr.mo (Fr.tr (Fr.rf (cn := cn) (In := In) (Fn := Fn)) hfc12) (sbl rfl) (sbl rfl) (sbl rfl)
        replace hIn12 : CBXh cn12 := hIn12
        have : cn12 6 = (cn 6) := hfc12.1 6 (nml rfl)
        have : cn12 31 = (cn 31) := hfc12.1 31 (nml rfl)
        refine lv_iload_n hx hb dX5_readRelation_41 rfl (lvA0 hl) ?_
        refine lv_bipush (v := 60) hx hb dX5_readRelation_42 kbc_60 ?_
        refine lv_icmp_ne (tgt := 52) hx hb dX5_readRelation_44 rfl (fun c_13 => ?_) (fun c_13 => ?_)
        ·
          have tc_13 : (r_1.toInt : Int) ≠ 60 := fun q => c_13 (Int32.toInt_inj.mp q)
          refine lv_iload_n hx hb (oc_27 52 (aq_3 shX5_readRelation_49)) rfl (lvA0 hl) ?_
          refine lv_bipush (v := 62) hx hb (oc_16 53 (aq_4 shX5_readRelation_49) sgb_62) kbc_62 ?_
          refine lv_icmp_ne (tgt := 63) hx hb (oc_160 55 (aq_6 shX5_readRelation_49) sgw_0_8) rfl (fun c_14 => ?_) (fun c_14 => ?_)
          ·
            have tc_14 : (r_1.toInt : Int) ≠ 62 := fun q => c_14 (Int32.toInt_inj.mp q)
            refine lv_bipush (v := 10) hx hb (oc_16 63 (aq_14 shX5_readRelation_49) sgb_10) kbc_10 ?_
            exact W.iret (v := 10) hx hb hr (fun t ht hW => ⟨⟨10, (cn12, In12, Fn), rfl, ⟨(Fr.mo hf12 (sbl rfl) (sbl rfl) (sbl rfl)), hIn12, (by show cn 31 ≤ cn12 31 ∧ cn12 31 ≤ cn12 32 ∧ cn12 32 ≤ cn 32; show cn 31 ≤ (cn12 31) ∧ (cn12 31) ≤ (cn12 32) ∧ (cn12 32) ≤ cn 32; omega)⟩, by rw [ht]; exact hP, hD⟩, hS.F ht⟩) hS.2.2 dX5_readRelation_65
          ·
            have tc_14 : (r_1.toInt : Int) = 62 := congrArg Int32.toInt c_14
            refine lv_bipush (v := 9) hx hb (oc_16 58 (aq_9 shX5_readRelation_49) sgb_9) kbc_9 ?_
            refine lv_goto (tgt := 65) hx hb (oc_167 60 (aq_11 shX5_readRelation_49) sgw_0_5) rfl ?_
            exact W.iret (v := 9) hx hb hr (fun t ht hW => ⟨⟨9, (cn12, In12, Fn), rfl, ⟨(Fr.mo hf12 (sbl rfl) (sbl rfl) (sbl rfl)), hIn12, (by show cn 31 ≤ cn12 31 ∧ cn12 31 ≤ cn12 32 ∧ cn12 32 ≤ cn 32; show cn 31 ≤ (cn12 31) ∧ (cn12 31) ≤ (cn12 32) ∧ (cn12 32) ≤ cn 32; omega)⟩, by rw [ht]; exact hP, hD⟩, hS.F ht⟩) hS.2.2 dX5_readRelation_65
        ·
          have tc_13 : (r_1.toInt : Int) = 60 := congrArg Int32.toInt c_13
          refine lv_bipush (v := 8) hx hb (oc_16 47 (aq_23 shX5_readRelation_24) sgb_8) kbc_8 ?_
          refine lv_goto (tgt := 65) hx hb (oc_167 49 shX5_readRelation_49 sgw_0_16) rfl ?_
          exact W.iret (v := 8) hx hb hr (fun t ht hW => ⟨⟨8, (cn12, In12, Fn), rfl, ⟨(Fr.mo hf12 (sbl rfl) (sbl rfl) (sbl rfl)), hIn12, (by show cn 31 ≤ cn12 31 ∧ cn12 31 ≤ cn12 32 ∧ cn12 32 ≤ cn 32; show cn 31 ≤ (cn12 31) ∧ (cn12 31) ≤ (cn12 32) ∧ (cn12 32) ≤ cn 32; omega)⟩, by rw [ht]; exact hP, hD⟩, hS.F ht⟩) hS.2.2 dX5_readRelation_65
      ·
        have tc_10 : (r_1.toInt : Int) = 61 := congrArg Int32.toInt c_10
        refine lv_aload_n hx hb (oc_42 23 (aq_23 shX5_readRelation_0)) rfl (lvA1 hl) ?_
        refine lv_dup hx hb (oc_89 24 shX5_readRelation_24) rfl ?_
        refine gf_RX5_31 S hK hP 3 xo_3 (v := .int (nI (cn 31))) rfl (oc_180 25 (aq_1 shX5_readRelation_24) uw_0_31) ?_
        refine lv_iconst (v := 1) hx hb (oc_4 28 (aq_4 shX5_readRelation_24)) kic_1 ?_
        refine lv_iadd hx hb (oc_96 29 (aq_5 shX5_readRelation_24)) ?_
        refine lv_topi (fun y_15 ey_15 => ?_)
        obtain rfl : y_15 = (nI ((cn 31) + 1)) := ey_15.trans (nI_add (cn 31) 1)
        refine pf_RX5_31 S hK hP hD hS 3 xo_3 (v := .int (nI ((cn 31) + 1))) (Nat.le_of_ble_eq_true rfl) rfl rfl (oc_181 30 (aq_6 shX5_readRelation_24) uw_0_31) (fun H locs hP hD hS => ?_)
        have hP : va_P D vwCl (wX cI (D.1 99) zz g ad (va_up cn 31 ((cn 31) + 1)) In Fn) H := va_P_eq (xsf_3_3) hP
        have hD : va_D A (wX cI (D.1 99) zz g ad (va_up cn 31 ((cn 31) + 1)) In Fn) := va_D_eq (xsf_3_3) hD
        refine lv_goto (tgt := 41) hx hb (oc_167 33 (aq_9 shX5_readRelation_24) sgw_0_8) rfl ?_
        refine lv_iload_n hx hb dX5_readRelation_41 rfl (lvA0 hl) ?_
        refine lv_bipush (v := 60) hx hb dX5_readRelation_42 kbc_60 ?_
        refine lv_icmp_ne (tgt := 52) hx hb dX5_readRelation_44 rfl (fun c_16 => ?_) (fun c_16 => False.elim (by have tc_16 : (r_1.toInt : Int) = 60 := congrArg Int32.toInt c_16; omega))
        have tc_16 : (r_1.toInt : Int) ≠ 60 := fun q => c_16 (Int32.toInt_inj.mp q)
        refine lv_iload_n hx hb (oc_27 52 (aq_3 shX5_readRelation_49)) rfl (lvA0 hl) ?_
        refine lv_bipush (v := 62) hx hb (oc_16 53 (aq_4 shX5_readRelation_49) sgb_62) kbc_62 ?_
        refine lv_icmp_ne (tgt := 63) hx hb (oc_160 55 (aq_6 shX5_readRelation_49) sgw_0_8) rfl (fun c_17 => ?_) (fun c_17 => False.elim (by have tc_17 : (r_1.toInt : Int) = 62 := congrArg Int32.toInt c_17; omega))
        have tc_17 : (r_1.toInt : Int) ≠ 62 := fun q => c_17 (Int32.toInt_inj.mp q)
        refine lv_bipush (v := 10) hx hb (oc_16 63 (aq_14 shX5_readRelation_49) sgb_10) kbc_10 ?_
        exact W.iret (v := 10) hx hb hr (fun t ht hW => ⟨⟨10, ((va_up cn 31 ((cn 31) + 1)), In, Fn), rfl, ⟨(Fr.mo (Fr.c 31 Fr.rf) (sbl rfl) (sbl rfl) (sbl rfl)), (CBX.n (k := 31) (v := ((cn 31) + 1)) hB (by decide)), (by show cn 31 ≤ (va_up cn 31 ((cn 31) + 1)) 31 ∧ (va_up cn 31 ((cn 31) + 1)) 31 ≤ (va_up cn 31 ((cn 31) + 1)) 32 ∧ (va_up cn 31 ((cn 31) + 1)) 32 ≤ cn 32; show cn 31 ≤ ((cn 31) + 1) ∧ ((cn 31) + 1) ≤ (cn 32) ∧ (cn 32) ≤ cn 32; omega)⟩, by rw [ht]; exact hP, hD⟩, hS.F ht⟩) hS.2.2 dX5_readRelation_65
set_option maxRecDepth 100000 in
set_option maxHeartbeats 4000000 in
theorem q_RreadNumber (l : Launch) (D : va_G) (cI cB cZ : ClassId) (zz qq vv : Nat) (bt : Nat → Int32) (g : Nat → Nat) (ad : Nat → Nat → Nat) (cn : Nat → Nat) (In : Nat → Int32) (Fn : Nat → Nat → Int32)  (sz : Nat) (hB : CBX cn) (hR : ad 4 2 = g 40) (h1 : ad 4 1 < cn 6) (h3 : cn 31 ≤ cn 32) (h4 : cn 32 ≤ 160) (h9 : (Fn 199 (ad 4 1)).toInt ≤ 160) : Met l yX5_readNumber (CWS yX5_readNumber cX5_readNumber 3 none) (RM 1 0 0) (PBx [.ref (g 6)] D cI cB cZ zz qq vv bt (wX cI (D.1 99) zz g ad cn In Fn) sz) (va_Qv (fun (u : (Nat → Nat) × (Nat → Int32) × (Nat → Nat → Int32)) => (fun c2 I2 F2 => Fr [31, 32] [33] [195, 301] cn In Fn c2 I2 F2 ∧ CBX c2 ∧ (cn 31 ≤ c2 31 ∧ c2 31 ≤ c2 32 ∧ c2 32 ≤ cn 32)) u.1 u.2.1 u.2.2) (fun (u : (Nat → Nat) × (Nat → Int32) × (Nat → Nat → Int32)) (t : State) => va_P D vwCl (wX cI (D.1 99) zz g ad u.1 u.2.1 u.2.2) t.heap ∧ va_D (va_A (wX cI (D.1 99) zz g ad cn In Fn) sz) (wX cI (D.1 99) zz g ad u.1 u.2.1 u.2.2)) (va_A (wX cI (D.1 99) zz g ad cn In Fn) sz)) 0 0 (va_A (wX cI (D.1 99) zz g ad cn In Fn) sz) := by
  refine en_x (fun A => (va_Qv (fun (u : (Nat → Nat) × (Nat → Int32) × (Nat → Nat → Int32)) => (fun (c2 : Nat → Nat) (I2 : Nat → Int32) (F2 : Nat → Nat → Int32) => Fr [31, 32] [33] [195, 301] cn In Fn c2 I2 F2 ∧ CBX c2 ∧ (cn 31 ≤ c2 31 ∧ c2 31 ≤ c2 32 ∧ c2 32 ≤ cn 32)) u.1 u.2.1 u.2.2) (fun (u : (Nat → Nat) × (Nat → Int32) × (Nat → Nat → Int32)) (t : State) => va_P D vwCl (wX cI (D.1 99) zz g ad u.1 u.2.1 u.2.2) t.heap ∧ va_D A (wX cI (D.1 99) zz g ad u.1 u.2.1 u.2.2)) A)) rfl rfl pn_RX5 (Nat.le_of_ble_eq_true rfl) (fun p e s m below meth c A hx hb hml hown S hr hlocks hnm hA hP hK hD hXS hS ls hl => ?_)
  have hl : lv_has ls 3 [(0, .ref (g 6))] := hl
  replace hB : CBXh cn := hB
  refine lv_iconst (v := 0) hx hb (oc_3 0 shX5_readNumber_0) kic_0 ?_
  refine lv_istore_n (lv' := [(1, .int 0), (0, .ref (g 6))]) hx hb (oc_60 1 (aq_1 shX5_readNumber_0)) rfl hl (ltb rfl) rfl (fun ls hl => ?_)
  refine lv_iconst (v := 0) hx hb (oc_3 2 (aq_2 shX5_readNumber_0)) kic_0 ?_
  refine lv_istore_n (lv' := [(2, .int 0), (1, .int 0), (0, .ref (g 6))]) hx hb (oc_61 3 (aq_3 shX5_readNumber_0)) rfl hl (ltb rfl) rfl (fun ls hl => ?_)
  have lp_4 : ∀ (n : Nat) (i4 : Nat) (x4_1 : Int32) (c4 : Nat → Nat) (I4 : Nat → Int32) (F4 : Nat → Nat → Int32) (H : Heap) (locs : List Loc) , 6 - i4 < n → (i4 ≤ 6 ∧ Fr [31, 32] [33] [195, 301] cn In Fn c4 I4 F4 ∧ CBX c4 ∧ (cn 31 ≤ c4 31 ∧ c4 31 ≤ c4 32 ∧ c4 32 ≤ cn 32)) → va_P D vwCl (wX cI (D.1 99) zz g ad c4 I4 F4) H → va_D A (wX cI (D.1 99) zz g ad c4 I4 F4) → va_S A s.heap H locs → ∀ ls : Array Slot, lv_has ls 3 [(2, .int (nI i4)), (1, .int x4_1), (0, .ref (g 6))] → W p l e (RM 1 0 0) s m ([.ref (g 6)]).toArray below meth c H locs 0 0 (MQ below (va_Qv (fun (u : (Nat → Nat) × (Nat → Int32) × (Nat → Nat → Int32)) => (fun c2 I2 F2 => Fr [31, 32] [33] [195, 301] cn In Fn c2 I2 F2 ∧ CBX c2 ∧ (cn 31 ≤ c2 31 ∧ c2 31 ≤ c2 32 ∧ c2 32 ≤ cn 32)) u.1 u.2.1 u.2.2) (fun (u : (Nat → Nat) × (Nat → Int32) × (Nat → Nat → Int32)) (t : State) => va_P D vwCl (wX cI (D.1 99) zz g ad u.1 u.2.1 u.2.2) t.heap ∧ va_D A (wX cI (D.1 99) zz g ad u.1 u.2.1 u.2.2)) A) ([.ref (g 6)]).toArray s 0 0 A) (F0 m 4 ls []) := by
    intro n4
    induction n4 with
    | zero => intros; omega
    | succ n4 ih4 =>
      intro i4 x4_1 c4 I4 F4 H locs hmu4 hinv4 hP hD hS ls hl
      obtain ⟨hr4, hfr4, hI4, hx4_0⟩ := hinv4
      have ti4 : (nI i4).toInt = (i4 : Int) := nI_toInt (by omega)
      replace hI4 : CBXh c4 := hI4
      have : c4 6 = cn 6 := hfr4.1 6 (nml rfl)
      refine lv_iload_n hx hb (oc_28 4 (aq_4 shX5_readNumber_0)) rfl (lvA0 hl) ?_
      refine lv_bipush (v := 6) hx hb (oc_16 5 (aq_5 shX5_readNumber_0) sgb_6) kbc_6 ?_
      refine lv_icmp_ge (tgt := 49) hx hb (oc_162 7 (aq_7 shX5_readNumber_0) sgw_0_42) rfl (fun c_1 => ?_) (fun c_1 => ?_)
      ·
        have tc_1 : (6 : Int) ≤ (nI i4).toInt := Int32.le_iff_toInt_le.mp c_1
        refine lv_aload_n hx hb (oc_42 49 shX5_readNumber_49) rfl (lvA2 hl) ?_
        refine vp_callSi (runV_rxa (As := []) (rest := []) S (q_Rpeek l D cI cB cZ zz qq vv bt g ad c4 I4 F4  hI4 (by omega) (by omega) (by omega) (by omega)) kV_RX5_43 hK hXS hS hP 3 xo_3 rfl rfl ⟨Nat.le_of_ble_eq_true rfl, Nat.le_of_ble_eq_true rfl⟩ ⟨Nat.le_of_ble_eq_true rfl, Nat.le_of_ble_eq_true rfl⟩ rfl hl.1 rfl (Nat.le_of_ble_eq_true rfl) (oc_182 50 (aq_1 shX5_readNumber_49) uw_0_43)) (fun r_2 h_3 => ?_)
        refine vp_callSi (runS_r (As := [.int r_2]) (rest := []) S (q_l_isDigit l D cI cB cZ r_2) kS_RX5_106 hK hP [] rfl ⟨Nat.le_of_ble_eq_true rfl, Nat.le_of_ble_eq_true rfl⟩ ⟨Nat.le_of_ble_eq_true rfl, Nat.le_of_ble_eq_true rfl⟩ rfl hl.1 rfl (Nat.le_of_ble_eq_true rfl) (oc_184 53 (aq_4 shX5_readNumber_49) uw_0_106)) (fun r_4 h_5 => ?_)
        rcases h_5 with ⟨rfl, h_5⟩ | ⟨rfl, h_5⟩
        ·
          have h_5 : 48 ≤ r_2.toInt ∧ r_2.toInt ≤ 57 := h_5
          refine lv_if_eq (tgt := 64) hx hb dX5_readNumber_56 rfl (fun h => absurd h cq_eq_1_0) (fun _ => ?_)
          refine lv_aload_n hx hb (oc_42 59 (aq_10 shX5_readNumber_49)) rfl (lvA2 hl) ?_
          refine lv_iconst (v := 2) hx hb (oc_5 60 (aq_11 shX5_readNumber_49)) kic_2 ?_
          have hFc := free_all hD hS hA
          refine va_callv (runV_xa (As := [.int 2]) (rest := []) S (q_Rfail l D cI cB cZ zz qq vv bt g ad c4 I4 F4 2 H.size hI4 (by omega) (by omega) (by omega) (by omega)) kV_RX5_47 hK hXS hS hFc hP hD 3 xo_3 rfl rfl ⟨Nat.le_of_ble_eq_true rfl, Nat.le_of_ble_eq_true rfl⟩ ⟨Nat.le_of_ble_eq_true rfl, Nat.le_of_ble_eq_true rfl⟩ rfl hl.1 rfl (Nat.le_of_ble_eq_true rfl) (oc_182 61 (aq_12 shX5_readNumber_49) uw_0_47)) hS (fun q _ h => hFc q h) hFc (fun u t H1 locs ht hvm wh_7 hB1 hz1 hk1 hS => ?_)
          obtain ⟨cn7, In7, Fn7⟩ := u
          obtain ⟨hP1, hD1⟩ := hB1
          rw [ht] at hP1
          have hP : va_P D vwCl (wX cI (D.1 99) zz g ad cn7 In7 Fn7) H1 := hP1
          have hD : va_D A (wX cI (D.1 99) zz g ad cn7 In7 Fn7) := hD1.weaken (fun _ _ _ h => hFc _ h)
          generalize H1 = H at hP hS ⊢
          have vh_7 : (fun c2 I2 F2 => Fr [32] [33] [] c4 I4 F4 c2 I2 F2 ∧ CBX c2 ∧ (c2 31 = (c4 31) ∧ (c4 31) ≤ c2 32 ∧ c2 32 ≤ (c4 32))) cn7 In7 Fn7 := wh_7
          obtain ⟨hfc7, hIn7, h_7⟩ := vh_7
          obtain rfl : F4 = Fn7 := (funext (fun k => hfc7.2.2 k List.not_mem_nil)).symm
          have hf7 : Fr [31, 32] [33] [195, 301] cn In Fn cn7 In7 F4 := Fr.mo (Fr.tr hfr4 hfc7) (sbl rfl) (sbl rfl) (sbl rfl)
          replace hIn7 : CBXh cn7 := hIn7
          have : cn7 6 = (c4 6) := hfc7.1 6 (nml rfl)
          have : cn7 31 = (c4 31) := hfc7.1 31 (nml rfl)
          refine lv_aload_n hx hb dX5_readNumber_64 rfl (lvA2 hl) ?_
          refine gf_RX5_20 S hK hP 3 xo_3 (v := .ref (ad 5 (ad 4 1))) rfl dX5_readNumber_65 ?_
          refine lv_iconst (v := 1) hx hb dX5_readNumber_68 kic_1 ?_
          refine lv_iload_n hx hb dX5_readNumber_69 rfl (lvA1 hl) ?_
          have hFc := free_all hD hS hA
          refine va_calli (runV_xa (As := [.int 1, .int x4_1]) (rest := []) S (q_Tadd l D cI cB cZ zz qq vv bt g ad cn7 In7 F4 (ad 4 1) 1 x4_1 H.size hIn7 (by omega) (by rw [hf7.2.2 199 (nml rfl)]; exact h9)) kV_RX5_75 hK hXS hS hFc hP hD _ (xf_7 (show (ad 4 1) < (cn7 6) by omega)) rfl rfl ⟨Nat.le_of_ble_eq_true rfl, Nat.le_of_ble_eq_true rfl⟩ ⟨Nat.le_of_ble_eq_true rfl, Nat.le_of_ble_eq_true rfl⟩ rfl hl.1 rfl (Nat.le_of_ble_eq_true rfl) dX5_readNumber_70) hS (fun q _ h => hFc q h) hFc (fun r_8 u t H1 locs ht hvm wh_9 hB1 hz1 hk1 hS => ?_)
          obtain ⟨cn9, In9, Fn9⟩ := u
          obtain ⟨hP1, hD1⟩ := hB1
          rw [ht] at hP1
          have hP : va_P D vwCl (wX cI (D.1 99) zz g ad cn9 In9 Fn9) H1 := hP1
          have hD : va_D A (wX cI (D.1 99) zz g ad cn9 In9 Fn9) := hD1.weaken (fun _ _ _ h => hFc _ h)
          generalize H1 = H at hP hS ⊢
          have vh_9 : (fun r c2 I2 F2 => Fr [] [] [195, 301] cn7 In7 F4 c2 I2 F2 ∧ CBX c2 ∧ (True)) r_8 cn9 In9 Fn9 := wh_9
          obtain ⟨hfc9, hIn9, h_9⟩ := vh_9
          obtain rfl : cn7 = cn9 := (funext (fun k => hfc9.1 k List.not_mem_nil)).symm
          obtain rfl : In7 = In9 := (funext (fun k => hfc9.2.1 k List.not_mem_nil)).symm
          have hf9 : Fr [31, 32] [33] [195, 301] cn In Fn cn7 In7 Fn9 := Fr.mo (Fr.tr hf7 hfc9) (sbl rfl) (sbl rfl) (sbl rfl)
          replace hIn9 : CBXh cn7 := hIn9
          refine lv_pop hx hb dX5_readNumber_73 rfl ?_
          exact W.vret hx hb hr (fun t ht hW => ⟨⟨(cn7, In7, Fn9), rfl, ⟨(Fr.mo hf9 (sbl rfl) (sbl rfl) (sbl rfl)), hIn9, (by show cn 31 ≤ cn7 31 ∧ cn7 31 ≤ cn7 32 ∧ cn7 32 ≤ cn 32; show cn 31 ≤ (cn7 31) ∧ (cn7 31) ≤ (cn7 32) ∧ (cn7 32) ≤ cn 32; omega)⟩, by rw [ht]; exact hP, hD⟩, hS.F ht⟩) hS.2.2 dX5_readNumber_74
        ·
          have h_5 : ¬ (48 ≤ r_2.toInt ∧ r_2.toInt ≤ 57) := h_5
          refine lv_if_eq (tgt := 64) hx hb dX5_readNumber_56 rfl (fun _ => ?_) (fun h => absurd h cq_eq_0_0)
          refine lv_aload_n hx hb dX5_readNumber_64 rfl (lvA2 hl) ?_
          refine gf_RX5_20 S hK hP 3 xo_3 (v := .ref (ad 5 (ad 4 1))) rfl dX5_readNumber_65 ?_
          refine lv_iconst (v := 1) hx hb dX5_readNumber_68 kic_1 ?_
          refine lv_iload_n hx hb dX5_readNumber_69 rfl (lvA1 hl) ?_
          have hFc := free_all hD hS hA
          refine va_calli (runV_xa (As := [.int 1, .int x4_1]) (rest := []) S (q_Tadd l D cI cB cZ zz qq vv bt g ad c4 I4 F4 (ad 4 1) 1 x4_1 H.size hI4 (by omega) (by rw [hfr4.2.2 199 (nml rfl)]; exact h9)) kV_RX5_75 hK hXS hS hFc hP hD _ (xf_7 (show (ad 4 1) < (c4 6) by omega)) rfl rfl ⟨Nat.le_of_ble_eq_true rfl, Nat.le_of_ble_eq_true rfl⟩ ⟨Nat.le_of_ble_eq_true rfl, Nat.le_of_ble_eq_true rfl⟩ rfl hl.1 rfl (Nat.le_of_ble_eq_true rfl) dX5_readNumber_70) hS (fun q _ h => hFc q h) hFc (fun r_10 u t H1 locs ht hvm wh_11 hB1 hz1 hk1 hS => ?_)
          obtain ⟨cn11, In11, Fn11⟩ := u
          obtain ⟨hP1, hD1⟩ := hB1
          rw [ht] at hP1
          have hP : va_P D vwCl (wX cI (D.1 99) zz g ad cn11 In11 Fn11) H1 := hP1
          have hD : va_D A (wX cI (D.1 99) zz g ad cn11 In11 Fn11) := hD1.weaken (fun _ _ _ h => hFc _ h)
          generalize H1 = H at hP hS ⊢
          have vh_11 : (fun r c2 I2 F2 => Fr [] [] [195, 301] c4 I4 F4 c2 I2 F2 ∧ CBX c2 ∧ (True)) r_10 cn11 In11 Fn11 := wh_11
          obtain ⟨hfc11, hIn11, h_11⟩ := vh_11
          obtain rfl : c4 = cn11 := (funext (fun k => hfc11.1 k List.not_mem_nil)).symm
          obtain rfl : I4 = In11 := (funext (fun k => hfc11.2.1 k List.not_mem_nil)).symm
          have hf11 : Fr [31, 32] [33] [195, 301] cn In Fn c4 I4 Fn11 := Fr.mo (Fr.tr hfr4 hfc11) (sbl rfl) (sbl rfl) (sbl rfl)
          replace hIn11 : CBXh c4 := hIn11
          refine lv_pop hx hb dX5_readNumber_73 rfl ?_
          exact W.vret hx hb hr (fun t ht hW => ⟨⟨(c4, I4, Fn11), rfl, ⟨(Fr.mo hf11 (sbl rfl) (sbl rfl) (sbl rfl)), hIn11, (by show cn 31 ≤ c4 31 ∧ c4 31 ≤ c4 32 ∧ c4 32 ≤ cn 32; show cn 31 ≤ (c4 31) ∧ (c4 31) ≤ (c4 32) ∧ (c4 32) ≤ cn 32; omega)⟩, by rw [ht]; exact hP, hD⟩, hS.F ht⟩) hS.2.2 dX5_readNumber_74
      ·
        have tc_1 : ((nI i4).toInt : Int) < 6 := Int32.lt_iff_toInt_lt.mp (Int32.not_le.mp c_1)
        refine lv_aload_n hx hb (oc_42 10 (aq_10 shX5_readNumber_0)) rfl (lvA2 hl) ?_
        refine vp_callSi (runV_rxa (As := []) (rest := []) S (q_Rpeek l D cI cB cZ zz qq vv bt g ad c4 I4 F4  hI4 (by omega) (by omega) (by omega) (by omega)) kV_RX5_43 hK hXS hS hP 3 xo_3 rfl rfl ⟨Nat.le_of_ble_eq_true rfl, Nat.le_of_ble_eq_true rfl⟩ ⟨Nat.le_of_ble_eq_true rfl, Nat.le_of_ble_eq_true rfl⟩ rfl hl.1 rfl (Nat.le_of_ble_eq_true rfl) (oc_182 11 (aq_11 shX5_readNumber_0) uw_0_43)) (fun r_12 h_13 => ?_)
        refine vp_callSi (runS_r (As := [.int r_12]) (rest := []) S (q_l_isDigit l D cI cB cZ r_12) kS_RX5_106 hK hP [] rfl ⟨Nat.le_of_ble_eq_true rfl, Nat.le_of_ble_eq_true rfl⟩ ⟨Nat.le_of_ble_eq_true rfl, Nat.le_of_ble_eq_true rfl⟩ rfl hl.1 rfl (Nat.le_of_ble_eq_true rfl) (oc_184 14 (aq_14 shX5_readNumber_0) uw_0_106)) (fun r_14 h_15 => ?_)
        rcases h_15 with ⟨rfl, h_15⟩ | ⟨rfl, h_15⟩
        ·
          have h_15 : 48 ≤ r_12.toInt ∧ r_12.toInt ≤ 57 := h_15
          refine lv_if_eq (tgt := 49) hx hb (oc_153 17 (aq_17 shX5_readNumber_0) sgw_0_32) rfl (fun h => absurd h cq_eq_1_0) (fun _ => ?_)
          refine lv_bipush (v := 10) hx hb (oc_16 20 (aq_20 shX5_readNumber_0) sgb_10) kbc_10 ?_
          refine lv_iload_n hx hb (oc_27 22 (aq_22 shX5_readNumber_0)) rfl (lvA1 hl) ?_
          refine lv_imul hx hb (oc_104 23 (aq_23 shX5_readNumber_0)) ?_
          refine lv_aload_n hx hb (oc_42 24 shX5_readNumber_24) rfl (lvA2 hl) ?_
          refine vp_callSi (runV_rxa (As := []) (rest := [.int (10 * x4_1)]) S (q_Rpeek l D cI cB cZ zz qq vv bt g ad c4 I4 F4  hI4 (by omega) (by omega) (by omega) (by omega)) kV_RX5_43 hK hXS hS hP 3 xo_3 rfl rfl ⟨Nat.le_of_ble_eq_true rfl, Nat.le_of_ble_eq_true rfl⟩ ⟨Nat.le_of_ble_eq_true rfl, Nat.le_of_ble_eq_true rfl⟩ rfl hl.1 rfl (Nat.le_of_ble_eq_true rfl) (oc_182 25 (aq_1 shX5_readNumber_24) uw_0_43)) (fun r_16 h_17 => ?_)
          refine lv_iadd hx hb (oc_96 28 (aq_4 shX5_readNumber_24)) ?_
          refine lv_bipush (v := 48) hx hb (oc_16 29 (aq_5 shX5_readNumber_24) sgb_48) kbc_48 ?_
          refine lv_isub hx hb (oc_100 31 (aq_7 shX5_readNumber_24)) ?_
          refine lv_istore_n (lv' := [(1, .int (((10 * x4_1) + r_16) - 48)), (2, .int (nI i4)), (0, .ref (g 6))]) hx hb (oc_60 32 (aq_8 shX5_readNumber_24)) rfl hl (ltb rfl) rfl (fun ls hl => ?_)
          refine lv_aload_n hx hb (oc_42 33 (aq_9 shX5_readNumber_24)) rfl (lvA2 hl) ?_
          refine lv_dup hx hb (oc_89 34 (aq_10 shX5_readNumber_24)) rfl ?_
          refine gf_RX5_31 S hK hP 3 xo_3 (v := .int (nI (c4 31))) rfl (oc_180 35 (aq_11 shX5_readNumber_24) uw_0_31) ?_
          refine lv_iconst (v := 1) hx hb (oc_4 38 (aq_14 shX5_readNumber_24)) kic_1 ?_
          refine lv_iadd hx hb (oc_96 39 (aq_15 shX5_readNumber_24)) ?_
          refine lv_topi (fun y_18 ey_18 => ?_)
          obtain rfl : y_18 = (nI ((c4 31) + 1)) := ey_18.trans (nI_add (c4 31) 1)
          refine pf_RX5_31 S hK hP hD hS 3 xo_3 (v := .int (nI ((c4 31) + 1))) (Nat.le_of_ble_eq_true rfl) rfl rfl (oc_181 40 (aq_16 shX5_readNumber_24) uw_0_31) (fun H locs hP hD hS => ?_)
          have hP : va_P D vwCl (wX cI (D.1 99) zz g ad (va_up c4 31 ((c4 31) + 1)) I4 F4) H := va_P_eq (xsf_3_3) hP
          have hD : va_D A (wX cI (D.1 99) zz g ad (va_up c4 31 ((c4 31) + 1)) I4 F4) := va_D_eq (xsf_3_3) hD
          refine lv_iinc (v := (nI (i4 + 1))) (lv' := [(2, .int (nI (i4 + 1))), (1, .int (((10 * x4_1) + r_16) - 48)), (0, .ref (g 6))]) hx hb (oc_132 43 (aq_19 shX5_readNumber_24) ub_2 sgb_1) hl (k := 1) rfl (nI_1 _) (ltb rfl) rfl (fun ls hl => ?_)
          refine lv_goto (tgt := 4) hx hb (oc_167 46 (aq_22 shX5_readNumber_24) sgw_255_214) rfl ?_
          exact ih4 (i4 + 1) (((10 * x4_1) + r_16) - 48) (va_up c4 31 ((c4 31) + 1)) I4 F4 _ _ (by omega) ⟨(by omega), (Fr.mo (Fr.c 31 hfr4) (sbl rfl) (sbl rfl) (sbl rfl)), (CBX.n (k := 31) (v := ((c4 31) + 1)) hI4 (by decide)), (show cn 31 ≤ ((c4 31) + 1) ∧ ((c4 31) + 1) ≤ (c4 32) ∧ (c4 32) ≤ cn 32 by omega)⟩ hP hD hS ls (lv_sub hl [0, 1, 2] rfl)
        ·
          have h_15 : ¬ (48 ≤ r_12.toInt ∧ r_12.toInt ≤ 57) := h_15
          refine lv_if_eq (tgt := 49) hx hb (oc_153 17 (aq_17 shX5_readNumber_0) sgw_0_32) rfl (fun _ => ?_) (fun h => absurd h cq_eq_0_0)
          refine lv_aload_n hx hb (oc_42 49 shX5_readNumber_49) rfl (lvA2 hl) ?_
          refine vp_callSi (runV_rxa (As := []) (rest := []) S (q_Rpeek l D cI cB cZ zz qq vv bt g ad c4 I4 F4  hI4 (by omega) (by omega) (by omega) (by omega)) kV_RX5_43 hK hXS hS hP 3 xo_3 rfl rfl ⟨Nat.le_of_ble_eq_true rfl, Nat.le_of_ble_eq_true rfl⟩ ⟨Nat.le_of_ble_eq_true rfl, Nat.le_of_ble_eq_true rfl⟩ rfl hl.1 rfl (Nat.le_of_ble_eq_true rfl) (oc_182 50 (aq_1 shX5_readNumber_49) uw_0_43)) (fun r_19 h_20 => ?_)
          refine vp_callSi (runS_r (As := [.int r_19]) (rest := []) S (q_l_isDigit l D cI cB cZ r_19) kS_RX5_106 hK hP [] rfl ⟨Nat.le_of_ble_eq_true rfl, Nat.le_of_ble_eq_true rfl⟩ ⟨Nat.le_of_ble_eq_true rfl, Nat.le_of_ble_eq_true rfl⟩ rfl hl.1 rfl (Nat.le_of_ble_eq_true rfl) (oc_184 53 (aq_4 shX5_readNumber_49) uw_0_106)) (fun r_21 h_22 => ?_)
          rcases h_22 with ⟨rfl, h_22⟩ | ⟨rfl, h_22⟩
          ·
            have h_22 : 48 ≤ r_19.toInt ∧ r_19.toInt ≤ 57 := h_22
            refine lv_if_eq (tgt := 64) hx hb dX5_readNumber_56 rfl (fun h => absurd h cq_eq_1_0) (fun _ => ?_)
            refine lv_aload_n hx hb (oc_42 59 (aq_10 shX5_readNumber_49)) rfl (lvA2 hl) ?_
            refine lv_iconst (v := 2) hx hb (oc_5 60 (aq_11 shX5_readNumber_49)) kic_2 ?_
            have hFc := free_all hD hS hA
            refine va_callv (runV_xa (As := [.int 2]) (rest := []) S (q_Rfail l D cI cB cZ zz qq vv bt g ad c4 I4 F4 2 H.size hI4 (by omega) (by omega) (by omega) (by omega)) kV_RX5_47 hK hXS hS hFc hP hD 3 xo_3 rfl rfl ⟨Nat.le_of_ble_eq_true rfl, Nat.le_of_ble_eq_true rfl⟩ ⟨Nat.le_of_ble_eq_true rfl, Nat.le_of_ble_eq_true rfl⟩ rfl hl.1 rfl (Nat.le_of_ble_eq_true rfl) (oc_182 61 (aq_12 shX5_readNumber_49) uw_0_47)) hS (fun q _ h => hFc q h) hFc (fun u t H1 locs ht hvm wh_24 hB1 hz1 hk1 hS => ?_)
            obtain ⟨cn24, In24, Fn24⟩ := u
            obtain ⟨hP1, hD1⟩ := hB1
            rw [ht] at hP1
            have hP : va_P D vwCl (wX cI (D.1 99) zz g ad cn24 In24 Fn24) H1 := hP1
            have hD : va_D A (wX cI (D.1 99) zz g ad cn24 In24 Fn24) := hD1.weaken (fun _ _ _ h => hFc _ h)
            generalize H1 = H at hP hS ⊢
            have vh_24 : (fun c2 I2 F2 => Fr [32] [33] [] c4 I4 F4 c2 I2 F2 ∧ CBX c2 ∧ (c2 31 = (c4 31) ∧ (c4 31) ≤ c2 32 ∧ c2 32 ≤ (c4 32))) cn24 In24 Fn24 := wh_24
            obtain ⟨hfc24, hIn24, h_24⟩ := vh_24
            obtain rfl : F4 = Fn24 := (funext (fun k => hfc24.2.2 k List.not_mem_nil)).symm
            have hf24 : Fr [31, 32] [33] [195, 301] cn In Fn cn24 In24 F4 := Fr.mo (Fr.tr hfr4 hfc24) (sbl rfl) (sbl rfl) (sbl rfl)
            replace hIn24 : CBXh cn24 := hIn24
            have : cn24 6 = (c4 6) := hfc24.1 6 (nml rfl)
            have : cn24 31 = (c4 31) := hfc24.1 31 (nml rfl)
            refine lv_aload_n hx hb dX5_readNumber_64 rfl (lvA2 hl) ?_
            refine gf_RX5_20 S hK hP 3 xo_3 (v := .ref (ad 5 (ad 4 1))) rfl dX5_readNumber_65 ?_
            refine lv_iconst (v := 1) hx hb dX5_readNumber_68 kic_1 ?_
            refine lv_iload_n hx hb dX5_readNumber_69 rfl (lvA1 hl) ?_
            have hFc := free_all hD hS hA
            refine va_calli (runV_xa (As := [.int 1, .int x4_1]) (rest := []) S (q_Tadd l D cI cB cZ zz qq vv bt g ad cn24 In24 F4 (ad 4 1) 1 x4_1 H.size hIn24 (by omega) (by rw [hf24.2.2 199 (nml rfl)]; exact h9)) kV_RX5_75 hK hXS hS hFc hP hD _ (xf_7 (show (ad 4 1) < (cn24 6) by omega)) rfl rfl ⟨Nat.le_of_ble_eq_true rfl, Nat.le_of_ble_eq_true rfl⟩ ⟨Nat.le_of_ble_eq_true rfl, Nat.le_of_ble_eq_true rfl⟩ rfl hl.1 rfl (Nat.le_of_ble_eq_true rfl) dX5_readNumber_70) hS (fun q _ h => hFc q h) hFc (fun r_25 u t H1 locs ht hvm wh_26 hB1 hz1 hk1 hS => ?_)
            obtain ⟨cn26, In26, Fn26⟩ := u
            obtain ⟨hP1, hD1⟩ := hB1
            rw [ht] at hP1
            have hP : va_P D vwCl (wX cI (D.1 99) zz g ad cn26 In26 Fn26) H1 := hP1
            have hD : va_D A (wX cI (D.1 99) zz g ad cn26 In26 Fn26) := hD1.weaken (fun _ _ _ h => hFc _ h)
            generalize H1 = H at hP hS ⊢
            have vh_26 : (fun r c2 I2 F2 => Fr [] [] [195, 301] cn24 In24 F4 c2 I2 F2 ∧ CBX c2 ∧ (True)) r_25 cn26 In26 Fn26 := wh_26
            obtain ⟨hfc26, hIn26, h_26⟩ := vh_26
            obtain rfl : cn24 = cn26 := (funext (fun k => hfc26.1 k List.not_mem_nil)).symm
            obtain rfl : In24 = In26 := (funext (fun k => hfc26.2.1 k List.not_mem_nil)).symm
            have hf26 : Fr [31, 32] [33] [195, 301] cn In Fn cn24 In24 Fn26 := Fr.mo (Fr.tr hf24 hfc26) (sbl rfl) (sbl rfl) (sbl rfl)
            replace hIn26 : CBXh cn24 := hIn26
            refine lv_pop hx hb dX5_readNumber_73 rfl ?_
            exact W.vret hx hb hr (fun t ht hW => ⟨⟨(cn24, In24, Fn26), rfl, ⟨(Fr.mo hf26 (sbl rfl) (sbl rfl) (sbl rfl)), hIn26, (by show cn 31 ≤ cn24 31 ∧ cn24 31 ≤ cn24 32 ∧ cn24 32 ≤ cn 32; show cn 31 ≤ (cn24 31) ∧ (cn24 31) ≤ (cn24 32) ∧ (cn24 32) ≤ cn 32; omega)⟩, by rw [ht]; exact hP, hD⟩, hS.F ht⟩) hS.2.2 dX5_readNumber_74
          ·
            have h_22 : ¬ (48 ≤ r_19.toInt ∧ r_19.toInt ≤ 57) := h_22
            refine lv_if_eq (tgt := 64) hx hb dX5_readNumber_56 rfl (fun _ => ?_) (fun h => absurd h cq_eq_0_0)
            refine lv_aload_n hx hb dX5_readNumber_64 rfl (lvA2 hl) ?_
            refine gf_RX5_20 S hK hP 3 xo_3 (v := .ref (ad 5 (ad 4 1))) rfl dX5_readNumber_65 ?_
            refine lv_iconst (v := 1) hx hb dX5_readNumber_68 kic_1 ?_
            refine lv_iload_n hx hb dX5_readNumber_69 rfl (lvA1 hl) ?_
            have hFc := free_all hD hS hA
            refine va_calli (runV_xa (As := [.int 1, .int x4_1]) (rest := []) S (q_Tadd l D cI cB cZ zz qq vv bt g ad c4 I4 F4 (ad 4 1) 1 x4_1 H.size hI4 (by omega) (by rw [hfr4.2.2 199 (nml rfl)]; exact h9)) kV_RX5_75 hK hXS hS hFc hP hD _ (xf_7 (show (ad 4 1) < (c4 6) by omega)) rfl rfl ⟨Nat.le_of_ble_eq_true rfl, Nat.le_of_ble_eq_true rfl⟩ ⟨Nat.le_of_ble_eq_true rfl, Nat.le_of_ble_eq_true rfl⟩ rfl hl.1 rfl (Nat.le_of_ble_eq_true rfl) dX5_readNumber_70) hS (fun q _ h => hFc q h) hFc (fun r_27 u t H1 locs ht hvm wh_28 hB1 hz1 hk1 hS => ?_)
            obtain ⟨cn28, In28, Fn28⟩ := u
            obtain ⟨hP1, hD1⟩ := hB1
            rw [ht] at hP1
            have hP : va_P D vwCl (wX cI (D.1 99) zz g ad cn28 In28 Fn28) H1 := hP1
            have hD : va_D A (wX cI (D.1 99) zz g ad cn28 In28 Fn28) := hD1.weaken (fun _ _ _ h => hFc _ h)
            generalize H1 = H at hP hS ⊢
            have vh_28 : (fun r c2 I2 F2 => Fr [] [] [195, 301] c4 I4 F4 c2 I2 F2 ∧ CBX c2 ∧ (True)) r_27 cn28 In28 Fn28 := wh_28
            obtain ⟨hfc28, hIn28, h_28⟩ := vh_28
            obtain rfl : c4 = cn28 := (funext (fun k => hfc28.1 k List.not_mem_nil)).symm
            obtain rfl : I4 = In28 := (funext (fun k => hfc28.2.1 k List.not_mem_nil)).symm
            have hf28 : Fr [31, 32] [33] [195, 301] cn In Fn c4 I4 Fn28 := Fr.mo (Fr.tr hfr4 hfc28) (sbl rfl) (sbl rfl) (sbl rfl)
            replace hIn28 : CBXh c4 := hIn28
            refine lv_pop hx hb dX5_readNumber_73 rfl ?_
            exact W.vret hx hb hr (fun t ht hW => ⟨⟨(c4, I4, Fn28), rfl, ⟨(Fr.mo hf28 (sbl rfl) (sbl rfl) (sbl rfl)), hIn28, (by show cn 31 ≤ c4 31 ∧ c4 31 ≤ c4 32 ∧ c4 32 ≤ cn 32; show cn 31 ≤ (c4 31) ∧ (c4 31) ≤ (c4 32) ∧ (c4 32) ≤ cn 32; omega)⟩, by rw [ht]; exact hP, hD⟩, hS.F ht⟩) hS.2.2 dX5_readNumber_74
  exact lp_4 _ 0 0 cn In Fn _ _ (Nat.lt_succ_self _) ⟨(by omega), (Fr.mo Fr.rf (sbl rfl) (sbl rfl) (sbl rfl)), hB, (show cn 31 ≤ (cn 31) ∧ (cn 31) ≤ (cn 32) ∧ (cn 32) ≤ cn 32 by omega)⟩ hP hD hS ls (lv_sub hl [0, 1, 2] rfl)
set_option maxRecDepth 100000 in
set_option maxHeartbeats 4000000 in
theorem gq_GreadFactor6 (l : Launch) (D : va_G) (cI cB cZ : ClassId) (zz qq vv : Nat) (bt : Nat → Int32) (g : Nat → Nat) (o : Int32) (ho : 6 ≤ o.toInt) : RDQ yX5_readFactor cX5_readFactor 4 l D cI cB cZ zz qq vv bt g o (4) := by
  intro ad cn In Fn sz hB hR h1 h3 h4 h9
  refine Met.ofW (cc := cX5_readFactor) (maxL := 4) (ret := none) (by decide) rfl ?_
  intro p e s m args below meth c s₁ B hml hv
  obtain ⟨rfl, hsz, hP, hK, hD0, hXS⟩ := hv
  have hx := B.exec
  have hb := B.bytes
  have hr := B.returns
  have hts := atoms_spec (ws := (CWS yX5_readFactor cX5_readFactor 4 none)) B.pre
  have hown : s.vm.findClass RX5 = some m.cls := findClass_of_methodNamed B.named
  have hlocks := B.notSynchronized
  have S : SF p m c cX5_readFactor 4 s ([.ref (g 6), .int o]).toArray RX5 := ⟨hx, hb, hml, hown, fun w h => hts w (List.mem_cons_of_mem _ h)⟩
  subst hsz
  have hD := hD0.self (sz := s.heap.size)
  generalize hAe : va_A (wX cI (D.1 99) zz g ad cn In Fn) s.heap.size = A at hD hXS ⊢
  have hA : ∀ q : Nat, s.heap.size ≤ q → A q := fun q h => by rw [← hAe]; exact Or.inr h
  have hS : va_S A s.heap s.heap [] := va_S.rf
  have hl := lv_entry ([.ref (g 6), .int o]) (n := 4) (Nat.le_of_ble_eq_true rfl)
  rw [lg_entry_eq]
  generalize (lg_sl ([.ref (g 6), .int o]) ++ List.replicate (4 - (lg_sl ([.ref (g 6), .int o])).length) Slot.unset).toArray = ls at hl ⊢
  have hl : lv_has ls 4 [(0, .ref (g 6)), (1, .int o)] := hl
  replace hB : CBXh cn := hB
  refine lv_aload_n hx hb (oc_42 0 shX5_readFactor_0) rfl (lvA0 hl) ?_
  refine vp_callSi (runV_rxa (As := []) (rest := []) S (q_Rpeek l D cI cB cZ zz qq vv bt g ad cn In Fn  hB (by omega) (by omega) (by omega) (by omega)) kV_RX5_43 hK hXS hS hP 3 xo_3 rfl rfl ⟨Nat.le_of_ble_eq_true rfl, Nat.le_of_ble_eq_true rfl⟩ ⟨Nat.le_of_ble_eq_true rfl, Nat.le_of_ble_eq_true rfl⟩ rfl hl.1 rfl (Nat.le_of_ble_eq_true rfl) (oc_182 1 (aq_1 shX5_readFactor_0) uw_0_43)) (fun r_1 h_2 => ?_)
  refine lv_istore_n (lv' := [(2, .int r_1), (0, .ref (g 6)), (1, .int o)]) hx hb (oc_61 4 (aq_4 shX5_readFactor_0)) rfl hl (ltb rfl) rfl (fun ls hl => ?_)
  refine lv_iload_n hx hb (oc_28 5 (aq_5 shX5_readFactor_0)) rfl (lvA0 hl) ?_
  refine lv_iconst (v := (-1)) hx hb (oc_2 6 (aq_6 shX5_readFactor_0)) kic_m1 ?_
  refine lv_icmp_ne (tgt := 14) hx hb (oc_160 7 (aq_7 shX5_readFactor_0) sgw_0_7) rfl (fun c_3 => ?_) (fun c_3 => ?_)
  ·
    have tc_3 : (r_1.toInt : Int) ≠ (-1) := fun q => c_3 (Int32.toInt_inj.mp q)
    refine va_ldcS hx hb hown hXS.2.2.2.2.2.2.2.1.2 (oc_18 14 (aq_14 shX5_readFactor_0) ub_98) ?_
    refine lv_iload_n hx hb (oc_28 16 (aq_16 shX5_readFactor_0)) rfl (lvA0 hl) ?_
    refine lv_i2c (v := (r_1.toUInt32 % 65536).toInt32) hx hb (oc_146 17 (aq_17 shX5_readFactor_0)) rfl ?_
    refine vp_callSi (runV_rx (As := [.int (r_1.toUInt32 % 65536).toInt32]) (rest := []) S (q_s_strIndex l D cI cB cZ zz qq vv bt ((r_1.toUInt32 % 65536).toInt32)) kV_RX5_100 hK hXS hS hP [] rfl (va_Orecv hXS.2.2.2.1 hS) ⟨Nat.le_of_ble_eq_true rfl, Nat.le_of_ble_eq_true rfl⟩ ⟨Nat.le_of_ble_eq_true rfl, Nat.le_of_ble_eq_true rfl⟩ rfl hl.1 rfl (Nat.le_of_ble_eq_true rfl) (oc_182 18 (aq_18 shX5_readFactor_0) uw_0_100)) (fun r_4 h_5 => ?_)
    refine lv_istore_n (lv' := [(3, .int r_4), (2, .int r_1), (0, .ref (g 6)), (1, .int o)]) hx hb dX5_readFactor_21 rfl hl (ltb rfl) rfl (fun ls hl => ?_)
    refine lv_iload_n hx hb dX5_readFactor_22 rfl (lvA1 hl) ?_
    refine lv_bipush (v := 91) hx hb dX5_readFactor_23 kbc_91 ?_
    refine lv_icmp_ne (tgt := 52) hx hb dX5_readFactor_25 rfl (fun c_6 => ?_) (fun c_6 => ?_)
    ·
      have tc_6 : (r_1.toInt : Int) ≠ 91 := fun q => c_6 (Int32.toInt_inj.mp q)
      refine lv_iload_n hx hb dX5_readFactor_52 rfl (lvA1 hl) ?_
      refine vp_callSi (runS_r (As := [.int r_1]) (rest := []) S (q_l_isDigit l D cI cB cZ r_1) kS_RX5_106 hK hP [] rfl ⟨Nat.le_of_ble_eq_true rfl, Nat.le_of_ble_eq_true rfl⟩ ⟨Nat.le_of_ble_eq_true rfl, Nat.le_of_ble_eq_true rfl⟩ rfl hl.1 rfl (Nat.le_of_ble_eq_true rfl) dX5_readFactor_53) (fun r_7 h_8 => ?_)
      rcases h_8 with ⟨rfl, h_8⟩ | ⟨rfl, h_8⟩
      ·
        have h_8 : 48 ≤ r_1.toInt ∧ r_1.toInt ≤ 57 := h_8
        refine lv_if_eq (tgt := 66) hx hb dX5_readFactor_56 rfl (fun h => absurd h cq_eq_1_0) (fun _ => ?_)
        refine lv_aload_n hx hb (oc_42 59 (aq_10 shX5_readFactor_49)) rfl (lvA2 hl) ?_
        have hFc := free_all hD hS hA
        refine va_callv (runV_xa (As := []) (rest := []) S (q_RreadNumber l D cI cB cZ zz qq vv bt g ad cn In Fn  s.heap.size hB (by omega) (by omega) (by omega) (by omega) h9) kV_RX5_109 hK hXS hS hFc hP hD 3 xo_3 rfl rfl ⟨Nat.le_of_ble_eq_true rfl, Nat.le_of_ble_eq_true rfl⟩ ⟨Nat.le_of_ble_eq_true rfl, Nat.le_of_ble_eq_true rfl⟩ rfl hl.1 rfl (Nat.le_of_ble_eq_true rfl) (oc_182 60 (aq_11 shX5_readFactor_49) uw_0_109)) hS (fun q _ h => hFc q h) hFc (fun u t H1 locs ht hvm wh_10 hB1 hz1 hk1 hS => ?_)
        obtain ⟨cn10, In10, Fn10⟩ := u
        obtain ⟨hP1, hD1⟩ := hB1
        rw [ht] at hP1
        have hP : va_P D vwCl (wX cI (D.1 99) zz g ad cn10 In10 Fn10) H1 := hP1
        have hD : va_D A (wX cI (D.1 99) zz g ad cn10 In10 Fn10) := hD1.weaken (fun _ _ _ h => hFc _ h)
        generalize H1 = H at hP hS ⊢
        have vh_10 : (fun c2 I2 F2 => Fr [31, 32] [33] [195, 301] cn In Fn c2 I2 F2 ∧ CBX c2 ∧ ((cn 31) ≤ c2 31 ∧ c2 31 ≤ c2 32 ∧ c2 32 ≤ (cn 32))) cn10 In10 Fn10 := wh_10
        obtain ⟨hfc10, hIn10, h_10⟩ := vh_10
        have hf10 : Fr [31, 32] [33] [195, 301] cn In Fn cn10 In10 Fn10 := Fr.mo (Fr.tr (Fr.rf (cn := cn) (In := In) (Fn := Fn)) hfc10) (sbl rfl) (sbl rfl) (sbl rfl)
        replace hIn10 : CBXh cn10 := hIn10
        have : cn10 6 = (cn 6) := hfc10.1 6 (nml rfl)
        refine lv_goto (tgt := 98) hx hb (oc_167 63 (aq_14 shX5_readFactor_49) sgw_0_35) rfl ?_
        exact W.vret hx hb hr (fun t ht hW => ⟨⟨(cn10, In10, Fn10), rfl, ⟨(Fr.mo hf10 (sbl rfl) (sbl rfl) (sbl rfl)), hIn10, (by show cn 31 ≤ cn10 31 ∧ cn10 31 ≤ cn10 32 ∧ cn10 32 ≤ cn 32; show cn 31 ≤ (cn10 31) ∧ (cn10 31) ≤ (cn10 32) ∧ (cn10 32) ≤ cn 32; omega)⟩, by rw [ht]; exact hP, hD⟩, hS.F ht⟩) hS.2.2 dX5_readFactor_98
      ·
        have h_8 : ¬ (48 ≤ r_1.toInt ∧ r_1.toInt ≤ 57) := h_8
        refine lv_if_eq (tgt := 66) hx hb dX5_readFactor_56 rfl (fun _ => ?_) (fun h => absurd h cq_eq_0_0)
        refine lv_iload_n hx hb dX5_readFactor_66 rfl (lvA0 hl) ?_
        refine lv_if_lt (tgt := 93) hx hb dX5_readFactor_67 rfl (fun c_11 => ?_) (fun c_11 => ?_)
        ·
          have tc_11 : (r_4.toInt : Int) < 0 := Int32.lt_iff_toInt_lt.mp c_11
          refine lv_aload_n hx hb dX5_readFactor_93 rfl (lvA2 hl) ?_
          refine lv_iconst (v := 1) hx hb dX5_readFactor_94 kic_1 ?_
          have hFc := free_all hD hS hA
          refine va_callv (runV_xa (As := [.int 1]) (rest := []) S (q_Rfail l D cI cB cZ zz qq vv bt g ad cn In Fn 1 s.heap.size hB (by omega) (by omega) (by omega) (by omega)) kV_RX5_47 hK hXS hS hFc hP hD 3 xo_3 rfl rfl ⟨Nat.le_of_ble_eq_true rfl, Nat.le_of_ble_eq_true rfl⟩ ⟨Nat.le_of_ble_eq_true rfl, Nat.le_of_ble_eq_true rfl⟩ rfl hl.1 rfl (Nat.le_of_ble_eq_true rfl) dX5_readFactor_95) hS (fun q _ h => hFc q h) hFc (fun u t H1 locs ht hvm wh_13 hB1 hz1 hk1 hS => ?_)
          obtain ⟨cn13, In13, Fn13⟩ := u
          obtain ⟨hP1, hD1⟩ := hB1
          rw [ht] at hP1
          have hP : va_P D vwCl (wX cI (D.1 99) zz g ad cn13 In13 Fn13) H1 := hP1
          have hD : va_D A (wX cI (D.1 99) zz g ad cn13 In13 Fn13) := hD1.weaken (fun _ _ _ h => hFc _ h)
          generalize H1 = H at hP hS ⊢
          have vh_13 : (fun c2 I2 F2 => Fr [32] [33] [] cn In Fn c2 I2 F2 ∧ CBX c2 ∧ (c2 31 = (cn 31) ∧ (cn 31) ≤ c2 32 ∧ c2 32 ≤ (cn 32))) cn13 In13 Fn13 := wh_13
          obtain ⟨hfc13, hIn13, h_13⟩ := vh_13
          obtain rfl : Fn = Fn13 := (funext (fun k => hfc13.2.2 k List.not_mem_nil)).symm
          have hf13 : Fr [31, 32] [33] [195, 301] cn In Fn cn13 In13 Fn := Fr.mo (Fr.tr (Fr.rf (cn := cn) (In := In) (Fn := Fn)) hfc13) (sbl rfl) (sbl rfl) (sbl rfl)
          replace hIn13 : CBXh cn13 := hIn13
          have : cn13 6 = (cn 6) := hfc13.1 6 (nml rfl)
          have : cn13 31 = (cn 31) := hfc13.1 31 (nml rfl)
          exact W.vret hx hb hr (fun t ht hW => ⟨⟨(cn13, In13, Fn), rfl, ⟨(Fr.mo hf13 (sbl rfl) (sbl rfl) (sbl rfl)), hIn13, (by show cn 31 ≤ cn13 31 ∧ cn13 31 ≤ cn13 32 ∧ cn13 32 ≤ cn 32; show cn 31 ≤ (cn13 31) ∧ (cn13 31) ≤ (cn13 32) ∧ (cn13 32) ≤ cn 32; omega)⟩, by rw [ht]; exact hP, hD⟩, hS.F ht⟩) hS.2.2 dX5_readFactor_98
        ·
          have tc_11 : (0 : Int) ≤ r_4.toInt := Int32.le_iff_toInt_le.mp (Int32.not_lt.mp c_11)
          refine lv_aload_n hx hb (oc_42 70 (aq_21 shX5_readFactor_49)) rfl (lvA2 hl) ?_
          refine lv_dup hx hb (oc_89 71 (aq_22 shX5_readFactor_49)) rfl ?_
          refine gf_RX5_31 S hK hP 3 xo_3 (v := .int (nI (cn 31))) rfl (oc_180 72 (aq_23 shX5_readFactor_49) uw_0_31) ?_
          refine lv_iconst (v := 1) hx hb (oc_4 75 shX5_readFactor_75) kic_1 ?_
          refine lv_iadd hx hb (oc_96 76 (aq_1 shX5_readFactor_75)) ?_
          refine lv_topi (fun y_14 ey_14 => ?_)
          obtain rfl : y_14 = (nI ((cn 31) + 1)) := ey_14.trans (nI_add (cn 31) 1)
          refine pf_RX5_31 S hK hP hD hS 3 xo_3 (v := .int (nI ((cn 31) + 1))) (Nat.le_of_ble_eq_true rfl) rfl rfl (oc_181 77 (aq_2 shX5_readFactor_75) uw_0_31) (fun H locs hP hD hS => ?_)
          have hP : va_P D vwCl (wX cI (D.1 99) zz g ad (va_up cn 31 ((cn 31) + 1)) In Fn) H := va_P_eq (xsf_3_3) hP
          have hD : va_D A (wX cI (D.1 99) zz g ad (va_up cn 31 ((cn 31) + 1)) In Fn) := va_D_eq (xsf_3_3) hD
          refine lv_aload_n hx hb (oc_42 80 (aq_5 shX5_readFactor_75)) rfl (lvA2 hl) ?_
          refine gf_RX5_20 S hK hP 3 xo_3 (v := .ref (ad 5 (ad 4 1))) rfl (oc_180 81 (aq_6 shX5_readFactor_75) uw_0_20) ?_
          refine lv_iconst (v := 2) hx hb (oc_5 84 (aq_9 shX5_readFactor_75)) kic_2 ?_
          refine lv_iload_n hx hb (oc_29 85 (aq_10 shX5_readFactor_75)) rfl (lvA0 hl) ?_
          have hFc := free_all hD hS hA
          refine va_calli (runV_xa (As := [.int 2, .int r_4]) (rest := []) S (q_Tadd l D cI cB cZ zz qq vv bt g ad (va_up cn 31 ((cn 31) + 1)) In Fn (ad 4 1) 2 r_4 H.size (CBX.n (k := 31) (v := ((cn 31) + 1)) hB (by decide)) (show (ad 4 1) < (cn 6) by omega) h9) kV_RX5_75 hK hXS hS hFc hP hD _ (xf_7 (show (ad 4 1) < (cn 6) by omega)) rfl rfl ⟨Nat.le_of_ble_eq_true rfl, Nat.le_of_ble_eq_true rfl⟩ ⟨Nat.le_of_ble_eq_true rfl, Nat.le_of_ble_eq_true rfl⟩ rfl hl.1 rfl (Nat.le_of_ble_eq_true rfl) (oc_182 86 (aq_11 shX5_readFactor_75) uw_0_75)) hS (fun q _ h => hFc q h) hFc (fun r_15 u t H1 locs ht hvm wh_16 hB1 hz1 hk1 hS => ?_)
          obtain ⟨cn16, In16, Fn16⟩ := u
          obtain ⟨hP1, hD1⟩ := hB1
          rw [ht] at hP1
          have hP : va_P D vwCl (wX cI (D.1 99) zz g ad cn16 In16 Fn16) H1 := hP1
          have hD : va_D A (wX cI (D.1 99) zz g ad cn16 In16 Fn16) := hD1.weaken (fun _ _ _ h => hFc _ h)
          generalize H1 = H at hP hS ⊢
          have vh_16 : (fun r c2 I2 F2 => Fr [] [] [195, 301] (va_up cn 31 ((cn 31) + 1)) In Fn c2 I2 F2 ∧ CBX c2 ∧ (True)) r_15 cn16 In16 Fn16 := wh_16
          obtain ⟨hfc16, hIn16, h_16⟩ := vh_16
          obtain rfl : In = In16 := (funext (fun k => hfc16.2.1 k List.not_mem_nil)).symm
          have hf16 : Fr [31, 32] [33] [195, 301] cn In Fn cn16 In Fn16 := Fr.mo (Fr.tr (Fr.c 31 (Fr.rf (cn := cn) (In := In) (Fn := Fn))) hfc16) (sbl rfl) (sbl rfl) (sbl rfl)
          replace hIn16 : CBXh cn16 := hIn16
          have : cn16 6 = (cn 6) := hfc16.1 6 (nml rfl)
          have : cn16 31 = ((cn 31) + 1) := hfc16.1 31 (nml rfl)
          have : cn16 32 = (cn 32) := hfc16.1 32 (nml rfl)
          refine lv_pop hx hb (oc_87 89 (aq_14 shX5_readFactor_75)) rfl ?_
          refine lv_goto (tgt := 98) hx hb (oc_167 90 (aq_15 shX5_readFactor_75) sgw_0_8) rfl ?_
          exact W.vret hx hb hr (fun t ht hW => ⟨⟨(cn16, In, Fn16), rfl, ⟨(Fr.mo hf16 (sbl rfl) (sbl rfl) (sbl rfl)), hIn16, (by show cn 31 ≤ cn16 31 ∧ cn16 31 ≤ cn16 32 ∧ cn16 32 ≤ cn 32; show cn 31 ≤ (cn16 31) ∧ (cn16 31) ≤ (cn16 32) ∧ (cn16 32) ≤ cn 32; omega)⟩, by rw [ht]; exact hP, hD⟩, hS.F ht⟩) hS.2.2 dX5_readFactor_98
    ·
      have tc_6 : (r_1.toInt : Int) = 91 := congrArg Int32.toInt c_6
      refine lv_aload_n hx hb (oc_42 28 (aq_3 shX5_readFactor_25)) rfl (lvA2 hl) ?_
      refine lv_iload_n hx hb (oc_27 29 (aq_4 shX5_readFactor_25)) rfl (lvA3 hl) ?_
      have hFc := free_all hD hS hA
      refine va_calli (runV_xa (As := [.int o]) (rest := []) S (q_Ropens_n l D cI cB cZ zz qq vv bt g ad cn In Fn o s.heap.size hB (by omega) (by omega) (by omega) (by omega) (by omega) ho) kV_RX5_85 hK hXS hS hFc hP hD 3 xo_3 rfl rfl ⟨Nat.le_of_ble_eq_true rfl, Nat.le_of_ble_eq_true rfl⟩ ⟨Nat.le_of_ble_eq_true rfl, Nat.le_of_ble_eq_true rfl⟩ rfl hl.1 rfl (Nat.le_of_ble_eq_true rfl) (oc_182 30 (aq_5 shX5_readFactor_25) uw_0_85)) hS (fun q _ h => hFc q h) hFc (fun r_17 u t H1 locs ht hvm wh_18 hB1 hz1 hk1 hS => ?_)
      obtain ⟨cn18, In18, Fn18⟩ := u
      obtain ⟨hP1, hD1⟩ := hB1
      rw [ht] at hP1
      have hP : va_P D vwCl (wX cI (D.1 99) zz g ad cn18 In18 Fn18) H1 := hP1
      have hD : va_D A (wX cI (D.1 99) zz g ad cn18 In18 Fn18) := hD1.weaken (fun _ _ _ h => hFc _ h)
      generalize H1 = H at hP hS ⊢
      have vh_18 : (fun r c2 I2 F2 => Fr [31, 32] [33] [] cn In Fn c2 I2 F2 ∧ CBX c2 ∧ (((cn 31) ≤ c2 31 ∧ c2 31 ≤ c2 32 ∧ c2 32 ≤ (cn 32)) ∧ r = 0)) r_17 cn18 In18 Fn18 := wh_18
      obtain ⟨hfc18, hIn18, h_18⟩ := vh_18
      obtain rfl : Fn = Fn18 := (funext (fun k => hfc18.2.2 k List.not_mem_nil)).symm
      have hf18 : Fr [31, 32] [33] [195, 301] cn In Fn cn18 In18 Fn := Fr.mo (Fr.tr (Fr.rf (cn := cn) (In := In) (Fn := Fn)) hfc18) (sbl rfl) (sbl rfl) (sbl rfl)
      replace hIn18 : CBXh cn18 := hIn18
      have : cn18 6 = (cn 6) := hfc18.1 6 (nml rfl)
      obtain ⟨h_18, rfl⟩ := h_18
      refine lv_if_eq (tgt := 98) hx hb (oc_153 33 (aq_8 shX5_readFactor_25) sgw_0_65) rfl (fun _ => ?_) (fun h => absurd h cq_eq_0_0)
      exact W.vret hx hb hr (fun t ht hW => ⟨⟨(cn18, In18, Fn), rfl, ⟨(Fr.mo hf18 (sbl rfl) (sbl rfl) (sbl rfl)), hIn18, (by show cn 31 ≤ cn18 31 ∧ cn18 31 ≤ cn18 32 ∧ cn18 32 ≤ cn 32; show cn 31 ≤ (cn18 31) ∧ (cn18 31) ≤ (cn18 32) ∧ (cn18 32) ≤ cn 32; omega)⟩, by rw [ht]; exact hP, hD⟩, hS.F ht⟩) hS.2.2 dX5_readFactor_98
  ·
    have tc_3 : (r_1.toInt : Int) = (-1) := congrArg Int32.toInt c_3
    refine lv_iconst (v := (-1)) hx hb (oc_2 10 (aq_10 shX5_readFactor_0)) kic_m1 ?_
    refine lv_goto (tgt := 21) hx hb (oc_167 11 (aq_11 shX5_readFactor_0) sgw_0_10) rfl ?_
    refine lv_istore_n (lv' := [(3, .int (-1)), (2, .int r_1), (0, .ref (g 6)), (1, .int o)]) hx hb dX5_readFactor_21 rfl hl (ltb rfl) rfl (fun ls hl => ?_)
    refine lv_iload_n hx hb dX5_readFactor_22 rfl (lvA1 hl) ?_
    refine lv_bipush (v := 91) hx hb dX5_readFactor_23 kbc_91 ?_
    refine lv_icmp_ne (tgt := 52) hx hb dX5_readFactor_25 rfl (fun c_19 => ?_) (fun c_19 => False.elim (by have tc_19 : (r_1.toInt : Int) = 91 := congrArg Int32.toInt c_19; omega))
    have tc_19 : (r_1.toInt : Int) ≠ 91 := fun q => c_19 (Int32.toInt_inj.mp q)
    refine lv_iload_n hx hb dX5_readFactor_52 rfl (lvA1 hl) ?_
    refine vp_callSi (runS_r (As := [.int r_1]) (rest := []) S (q_l_isDigit l D cI cB cZ r_1) kS_RX5_106 hK hP [] rfl ⟨Nat.le_of_ble_eq_true rfl, Nat.le_of_ble_eq_true rfl⟩ ⟨Nat.le_of_ble_eq_true rfl, Nat.le_of_ble_eq_true rfl⟩ rfl hl.1 rfl (Nat.le_of_ble_eq_true rfl) dX5_readFactor_53) (fun r_20 h_21 => ?_)
    rcases h_21 with ⟨rfl, h_21⟩ | ⟨rfl, h_21⟩
    ·
      have h_21 : 48 ≤ r_1.toInt ∧ r_1.toInt ≤ 57 := h_21
      exfalso; omega
    ·
      have h_21 : ¬ (48 ≤ r_1.toInt ∧ r_1.toInt ≤ 57) := h_21
      refine lv_if_eq (tgt := 66) hx hb dX5_readFactor_56 rfl (fun _ => ?_) (fun h => absurd h cq_eq_0_0)
      refine lv_iload_n hx hb dX5_readFactor_66 rfl (lvA0 hl) ?_
      refine lv_if_lt (tgt := 93) hx hb dX5_readFactor_67 rfl (fun _ => ?_) (fun h => absurd h cq_lt_m1_0)
      refine lv_aload_n hx hb dX5_readFactor_93 rfl (lvA2 hl) ?_
      refine lv_iconst (v := 1) hx hb dX5_readFactor_94 kic_1 ?_
      have hFc := free_all hD hS hA
      refine va_callv (runV_xa (As := [.int 1]) (rest := []) S (q_Rfail l D cI cB cZ zz qq vv bt g ad cn In Fn 1 s.heap.size hB (by omega) (by omega) (by omega) (by omega)) kV_RX5_47 hK hXS hS hFc hP hD 3 xo_3 rfl rfl ⟨Nat.le_of_ble_eq_true rfl, Nat.le_of_ble_eq_true rfl⟩ ⟨Nat.le_of_ble_eq_true rfl, Nat.le_of_ble_eq_true rfl⟩ rfl hl.1 rfl (Nat.le_of_ble_eq_true rfl) dX5_readFactor_95) hS (fun q _ h => hFc q h) hFc (fun u t H1 locs ht hvm wh_23 hB1 hz1 hk1 hS => ?_)
      obtain ⟨cn23, In23, Fn23⟩ := u
      obtain ⟨hP1, hD1⟩ := hB1
      rw [ht] at hP1
      have hP : va_P D vwCl (wX cI (D.1 99) zz g ad cn23 In23 Fn23) H1 := hP1
      have hD : va_D A (wX cI (D.1 99) zz g ad cn23 In23 Fn23) := hD1.weaken (fun _ _ _ h => hFc _ h)
      generalize H1 = H at hP hS ⊢
      have vh_23 : (fun c2 I2 F2 => Fr [32] [33] [] cn In Fn c2 I2 F2 ∧ CBX c2 ∧ (c2 31 = (cn 31) ∧ (cn 31) ≤ c2 32 ∧ c2 32 ≤ (cn 32))) cn23 In23 Fn23 := wh_23
      obtain ⟨hfc23, hIn23, h_23⟩ := vh_23
      obtain rfl : Fn = Fn23 := (funext (fun k => hfc23.2.2 k List.not_mem_nil)).symm
      have hf23 : Fr [31, 32] [33] [195, 301] cn In Fn cn23 In23 Fn := Fr.mo (Fr.tr (Fr.rf (cn := cn) (In := In) (Fn := Fn)) hfc23) (sbl rfl) (sbl rfl) (sbl rfl)
      replace hIn23 : CBXh cn23 := hIn23
      have : cn23 6 = (cn 6) := hfc23.1 6 (nml rfl)
      have : cn23 31 = (cn 31) := hfc23.1 31 (nml rfl)
      exact W.vret hx hb hr (fun t ht hW => ⟨⟨(cn23, In23, Fn), rfl, ⟨(Fr.mo hf23 (sbl rfl) (sbl rfl) (sbl rfl)), hIn23, (by show cn 31 ≤ cn23 31 ∧ cn23 31 ≤ cn23 32 ∧ cn23 32 ≤ cn 32; show cn 31 ≤ (cn23 31) ∧ (cn23 31) ≤ (cn23 32) ∧ (cn23 32) ≤ cn 32; omega)⟩, by rw [ht]; exact hP, hD⟩, hS.F ht⟩) hS.2.2 dX5_readFactor_98
set_option maxRecDepth 100000 in
set_option maxHeartbeats 4000000 in
theorem gq_GreadFactor (l : Launch) (D : va_G) (cI cB cZ : ClassId) (zz qq vv : Nat) (bt : Nat → Int32) (g : Nat → Nat) (o : Int32) (d : Nat) (ho : o.toInt < 6) (hd : 4 ≤ d ∧ d ≤ 60) (hSq : RDQ yX5_readSum cX5_readSum 3 l D cI cB cZ zz qq vv bt g (o + 1) d) : RDQ yX5_readFactor cX5_readFactor 4 l D cI cB cZ zz qq vv bt g o (d + 1) := by
  intro ad cn In Fn sz hB hR h1 h3 h4 h9
  refine Met.ofW (cc := cX5_readFactor) (maxL := 4) (ret := none) (by decide) rfl ?_
  intro p e s m args below meth c s₁ B hml hv
  obtain ⟨rfl, hsz, hP, hK, hD0, hXS⟩ := hv
  have hx := B.exec
  have hb := B.bytes
  have hr := B.returns
  have hts := atoms_spec (ws := (CWS yX5_readFactor cX5_readFactor 4 none)) B.pre
  have hown : s.vm.findClass RX5 = some m.cls := findClass_of_methodNamed B.named
  have hlocks := B.notSynchronized
  have S : SF p m c cX5_readFactor 4 s ([.ref (g 6), .int o]).toArray RX5 := ⟨hx, hb, hml, hown, fun w h => hts w (List.mem_cons_of_mem _ h)⟩
  subst hsz
  have hD := hD0.self (sz := s.heap.size)
  generalize hAe : va_A (wX cI (D.1 99) zz g ad cn In Fn) s.heap.size = A at hD hXS ⊢
  have hA : ∀ q : Nat, s.heap.size ≤ q → A q := fun q h => by rw [← hAe]; exact Or.inr h
  have hS : va_S A s.heap s.heap [] := va_S.rf
  have hl := lv_entry ([.ref (g 6), .int o]) (n := 4) (Nat.le_of_ble_eq_true rfl)
  rw [lg_entry_eq]
  generalize (lg_sl ([.ref (g 6), .int o]) ++ List.replicate (4 - (lg_sl ([.ref (g 6), .int o])).length) Slot.unset).toArray = ls at hl ⊢
  have hl : lv_has ls 4 [(0, .ref (g 6)), (1, .int o)] := hl
  replace hB : CBXh cn := hB
  refine lv_aload_n hx hb (oc_42 0 shX5_readFactor_0) rfl (lvA0 hl) ?_
  refine vp_callSi (runV_rxa (As := []) (rest := []) S (q_Rpeek l D cI cB cZ zz qq vv bt g ad cn In Fn  hB (by omega) (by omega) (by omega) (by omega)) kV_RX5_43 hK hXS hS hP 3 xo_3 rfl rfl ⟨(by show 0 + 1 ≤ d + 1; omega), (by show 8 + (1 + 11) + 40 * 0 ≤ 40 * (d + 1); omega)⟩ ⟨Nat.le_of_ble_eq_true rfl, Nat.le_of_ble_eq_true rfl⟩ rfl hl.1 rfl (Nat.le_of_ble_eq_true rfl) (oc_182 1 (aq_1 shX5_readFactor_0) uw_0_43)) (fun r_1 h_2 => ?_)
  refine lv_istore_n (lv' := [(2, .int r_1), (0, .ref (g 6)), (1, .int o)]) hx hb (oc_61 4 (aq_4 shX5_readFactor_0)) rfl hl (ltb rfl) rfl (fun ls hl => ?_)
  refine lv_iload_n hx hb (oc_28 5 (aq_5 shX5_readFactor_0)) rfl (lvA0 hl) ?_
  refine lv_iconst (v := (-1)) hx hb (oc_2 6 (aq_6 shX5_readFactor_0)) kic_m1 ?_
  refine lv_icmp_ne (tgt := 14) hx hb (oc_160 7 (aq_7 shX5_readFactor_0) sgw_0_7) rfl (fun c_3 => ?_) (fun c_3 => ?_)
  ·
    have tc_3 : (r_1.toInt : Int) ≠ (-1) := fun q => c_3 (Int32.toInt_inj.mp q)
    refine va_ldcS hx hb hown hXS.2.2.2.2.2.2.2.1.2 (oc_18 14 (aq_14 shX5_readFactor_0) ub_98) ?_
    refine lv_iload_n hx hb (oc_28 16 (aq_16 shX5_readFactor_0)) rfl (lvA0 hl) ?_
    refine lv_i2c (v := (r_1.toUInt32 % 65536).toInt32) hx hb (oc_146 17 (aq_17 shX5_readFactor_0)) rfl ?_
    refine vp_callSi (runV_rx (As := [.int (r_1.toUInt32 % 65536).toInt32]) (rest := []) S (q_s_strIndex l D cI cB cZ zz qq vv bt ((r_1.toUInt32 % 65536).toInt32)) kV_RX5_100 hK hXS hS hP [] rfl (va_Orecv hXS.2.2.2.1 hS) ⟨(by show 3 + 1 ≤ d + 1; omega), (by show 8 + (2 + 11) + 40 * 3 ≤ 40 * (d + 1); omega)⟩ ⟨Nat.le_of_ble_eq_true rfl, Nat.le_of_ble_eq_true rfl⟩ rfl hl.1 rfl (Nat.le_of_ble_eq_true rfl) (oc_182 18 (aq_18 shX5_readFactor_0) uw_0_100)) (fun r_4 h_5 => ?_)
    refine lv_istore_n (lv' := [(3, .int r_4), (2, .int r_1), (0, .ref (g 6)), (1, .int o)]) hx hb dX5_readFactor_21 rfl hl (ltb rfl) rfl (fun ls hl => ?_)
    refine lv_iload_n hx hb dX5_readFactor_22 rfl (lvA1 hl) ?_
    refine lv_bipush (v := 91) hx hb dX5_readFactor_23 kbc_91 ?_
    refine lv_icmp_ne (tgt := 52) hx hb dX5_readFactor_25 rfl (fun c_6 => ?_) (fun c_6 => ?_)
    ·
      have tc_6 : (r_1.toInt : Int) ≠ 91 := fun q => c_6 (Int32.toInt_inj.mp q)
      refine lv_iload_n hx hb dX5_readFactor_52 rfl (lvA1 hl) ?_
      refine vp_callSi (runS_r (As := [.int r_1]) (rest := []) S (q_l_isDigit l D cI cB cZ r_1) kS_RX5_106 hK hP [] rfl ⟨(by show 0 + 1 ≤ d + 1; omega), (by show 8 + (1 + 11) + 40 * 0 ≤ 40 * (d + 1); omega)⟩ ⟨Nat.le_of_ble_eq_true rfl, Nat.le_of_ble_eq_true rfl⟩ rfl hl.1 rfl (Nat.le_of_ble_eq_true rfl) dX5_readFactor_53) (fun r_7 h_8 => ?_)
      rcases h_8 with ⟨rfl, h_8⟩ | ⟨rfl, h_8⟩
      ·
        have h_8 : 48 ≤ r_1.toInt ∧ r_1.toInt ≤ 57 := h_8
        refine lv_if_eq (tgt := 66) hx hb dX5_readFactor_56 rfl (fun h => absurd h cq_eq_1_0) (fun _ => ?_)
        refine lv_aload_n hx hb (oc_42 59 (aq_10 shX5_readFactor_49)) rfl (lvA2 hl) ?_
        have hFc := free_all hD hS hA
        refine va_callv (runV_xa (As := []) (rest := []) S (q_RreadNumber l D cI cB cZ zz qq vv bt g ad cn In Fn  s.heap.size hB (by omega) (by omega) (by omega) (by omega) h9) kV_RX5_109 hK hXS hS hFc hP hD 3 xo_3 rfl rfl ⟨(by show 1 + 1 ≤ d + 1; omega), (by show 8 + (3 + 11) + 40 * 1 ≤ 40 * (d + 1); omega)⟩ ⟨Nat.le_of_ble_eq_true rfl, Nat.le_of_ble_eq_true rfl⟩ rfl hl.1 rfl (Nat.le_of_ble_eq_true rfl) (oc_182 60 (aq_11 shX5_readFactor_49) uw_0_109)) hS (fun q _ h => hFc q h) hFc (fun u t H1 locs ht hvm wh_10 hB1 hz1 hk1 hS => ?_)
        obtain ⟨cn10, In10, Fn10⟩ := u
        obtain ⟨hP1, hD1⟩ := hB1
        rw [ht] at hP1
        have hP : va_P D vwCl (wX cI (D.1 99) zz g ad cn10 In10 Fn10) H1 := hP1
        have hD : va_D A (wX cI (D.1 99) zz g ad cn10 In10 Fn10) := hD1.weaken (fun _ _ _ h => hFc _ h)
        generalize H1 = H at hP hS ⊢
        have vh_10 : (fun c2 I2 F2 => Fr [31, 32] [33] [195, 301] cn In Fn c2 I2 F2 ∧ CBX c2 ∧ ((cn 31) ≤ c2 31 ∧ c2 31 ≤ c2 32 ∧ c2 32 ≤ (cn 32))) cn10 In10 Fn10 := wh_10
        obtain ⟨hfc10, hIn10, h_10⟩ := vh_10
        have hf10 : Fr [31, 32] [33] [195, 301] cn In Fn cn10 In10 Fn10 := Fr.mo (Fr.tr (Fr.rf (cn := cn) (In := In) (Fn := Fn)) hfc10) (sbl rfl) (sbl rfl) (sbl rfl)
        replace hIn10 : CBXh cn10 := hIn10
        have : cn10 6 = (cn 6) := hfc10.1 6 (nml rfl)
        refine lv_goto (tgt := 98) hx hb (oc_167 63 (aq_14 shX5_readFactor_49) sgw_0_35) rfl ?_
        exact W.vret hx hb hr (fun t ht hW => ⟨⟨(cn10, In10, Fn10), rfl, ⟨(Fr.mo hf10 (sbl rfl) (sbl rfl) (sbl rfl)), hIn10, (by show cn 31 ≤ cn10 31 ∧ cn10 31 ≤ cn10 32 ∧ cn10 32 ≤ cn 32; show cn 31 ≤ (cn10 31) ∧ (cn10 31) ≤ (cn10 32) ∧ (cn10 32) ≤ cn 32; omega)⟩, by rw [ht]; exact hP, hD⟩, hS.F ht⟩) hS.2.2 dX5_readFactor_98
      ·
        have h_8 : ¬ (48 ≤ r_1.toInt ∧ r_1.toInt ≤ 57) := h_8
        refine lv_if_eq (tgt := 66) hx hb dX5_readFactor_56 rfl (fun _ => ?_) (fun h => absurd h cq_eq_0_0)
        refine lv_iload_n hx hb dX5_readFactor_66 rfl (lvA0 hl) ?_
        refine lv_if_lt (tgt := 93) hx hb dX5_readFactor_67 rfl (fun c_11 => ?_) (fun c_11 => ?_)
        ·
          have tc_11 : (r_4.toInt : Int) < 0 := Int32.lt_iff_toInt_lt.mp c_11
          refine lv_aload_n hx hb dX5_readFactor_93 rfl (lvA2 hl) ?_
          refine lv_iconst (v := 1) hx hb dX5_readFactor_94 kic_1 ?_
          have hFc := free_all hD hS hA
          refine va_callv (runV_xa (As := [.int 1]) (rest := []) S (q_Rfail l D cI cB cZ zz qq vv bt g ad cn In Fn 1 s.heap.size hB (by omega) (by omega) (by omega) (by omega)) kV_RX5_47 hK hXS hS hFc hP hD 3 xo_3 rfl rfl ⟨(by show 0 + 1 ≤ d + 1; omega), (by show 8 + (2 + 11) + 40 * 0 ≤ 40 * (d + 1); omega)⟩ ⟨Nat.le_of_ble_eq_true rfl, Nat.le_of_ble_eq_true rfl⟩ rfl hl.1 rfl (Nat.le_of_ble_eq_true rfl) dX5_readFactor_95) hS (fun q _ h => hFc q h) hFc (fun u t H1 locs ht hvm wh_13 hB1 hz1 hk1 hS => ?_)
          obtain ⟨cn13, In13, Fn13⟩ := u
          obtain ⟨hP1, hD1⟩ := hB1
          rw [ht] at hP1
          have hP : va_P D vwCl (wX cI (D.1 99) zz g ad cn13 In13 Fn13) H1 := hP1
          have hD : va_D A (wX cI (D.1 99) zz g ad cn13 In13 Fn13) := hD1.weaken (fun _ _ _ h => hFc _ h)
          generalize H1 = H at hP hS ⊢
          have vh_13 : (fun c2 I2 F2 => Fr [32] [33] [] cn In Fn c2 I2 F2 ∧ CBX c2 ∧ (c2 31 = (cn 31) ∧ (cn 31) ≤ c2 32 ∧ c2 32 ≤ (cn 32))) cn13 In13 Fn13 := wh_13
          obtain ⟨hfc13, hIn13, h_13⟩ := vh_13
          obtain rfl : Fn = Fn13 := (funext (fun k => hfc13.2.2 k List.not_mem_nil)).symm
          have hf13 : Fr [31, 32] [33] [195, 301] cn In Fn cn13 In13 Fn := Fr.mo (Fr.tr (Fr.rf (cn := cn) (In := In) (Fn := Fn)) hfc13) (sbl rfl) (sbl rfl) (sbl rfl)
          replace hIn13 : CBXh cn13 := hIn13
          have : cn13 6 = (cn 6) := hfc13.1 6 (nml rfl)
          have : cn13 31 = (cn 31) := hfc13.1 31 (nml rfl)
          exact W.vret hx hb hr (fun t ht hW => ⟨⟨(cn13, In13, Fn), rfl, ⟨(Fr.mo hf13 (sbl rfl) (sbl rfl) (sbl rfl)), hIn13, (by show cn 31 ≤ cn13 31 ∧ cn13 31 ≤ cn13 32 ∧ cn13 32 ≤ cn 32; show cn 31 ≤ (cn13 31) ∧ (cn13 31) ≤ (cn13 32) ∧ (cn13 32) ≤ cn 32; omega)⟩, by rw [ht]; exact hP, hD⟩, hS.F ht⟩) hS.2.2 dX5_readFactor_98
        ·
          have tc_11 : (0 : Int) ≤ r_4.toInt := Int32.le_iff_toInt_le.mp (Int32.not_lt.mp c_11)
          refine lv_aload_n hx hb (oc_42 70 (aq_21 shX5_readFactor_49)) rfl (lvA2 hl) ?_
          refine lv_dup hx hb (oc_89 71 (aq_22 shX5_readFactor_49)) rfl ?_
          refine gf_RX5_31 S hK hP 3 xo_3 (v := .int (nI (cn 31))) rfl (oc_180 72 (aq_23 shX5_readFactor_49) uw_0_31) ?_
          refine lv_iconst (v := 1) hx hb (oc_4 75 shX5_readFactor_75) kic_1 ?_
          refine lv_iadd hx hb (oc_96 76 (aq_1 shX5_readFactor_75)) ?_
          refine lv_topi (fun y_14 ey_14 => ?_)
          obtain rfl : y_14 = (nI ((cn 31) + 1)) := ey_14.trans (nI_add (cn 31) 1)
          refine pf_RX5_31 S hK hP hD hS 3 xo_3 (v := .int (nI ((cn 31) + 1))) (Nat.le_of_ble_eq_true rfl) rfl rfl (oc_181 77 (aq_2 shX5_readFactor_75) uw_0_31) (fun H locs hP hD hS => ?_)
          have hP : va_P D vwCl (wX cI (D.1 99) zz g ad (va_up cn 31 ((cn 31) + 1)) In Fn) H := va_P_eq (xsf_3_3) hP
          have hD : va_D A (wX cI (D.1 99) zz g ad (va_up cn 31 ((cn 31) + 1)) In Fn) := va_D_eq (xsf_3_3) hD
          refine lv_aload_n hx hb (oc_42 80 (aq_5 shX5_readFactor_75)) rfl (lvA2 hl) ?_
          refine gf_RX5_20 S hK hP 3 xo_3 (v := .ref (ad 5 (ad 4 1))) rfl (oc_180 81 (aq_6 shX5_readFactor_75) uw_0_20) ?_
          refine lv_iconst (v := 2) hx hb (oc_5 84 (aq_9 shX5_readFactor_75)) kic_2 ?_
          refine lv_iload_n hx hb (oc_29 85 (aq_10 shX5_readFactor_75)) rfl (lvA0 hl) ?_
          have hFc := free_all hD hS hA
          refine va_calli (runV_xa (As := [.int 2, .int r_4]) (rest := []) S (q_Tadd l D cI cB cZ zz qq vv bt g ad (va_up cn 31 ((cn 31) + 1)) In Fn (ad 4 1) 2 r_4 H.size (CBX.n (k := 31) (v := ((cn 31) + 1)) hB (by decide)) (show (ad 4 1) < (cn 6) by omega) h9) kV_RX5_75 hK hXS hS hFc hP hD _ (xf_7 (show (ad 4 1) < (cn 6) by omega)) rfl rfl ⟨(by show 0 + 1 ≤ d + 1; omega), (by show 8 + (3 + 11) + 40 * 0 ≤ 40 * (d + 1); omega)⟩ ⟨Nat.le_of_ble_eq_true rfl, Nat.le_of_ble_eq_true rfl⟩ rfl hl.1 rfl (Nat.le_of_ble_eq_true rfl) (oc_182 86 (aq_11 shX5_readFactor_75) uw_0_75)) hS (fun q _ h => hFc q h) hFc (fun r_15 u t H1 locs ht hvm wh_16 hB1 hz1 hk1 hS => ?_)
          obtain ⟨cn16, In16, Fn16⟩ := u
          obtain ⟨hP1, hD1⟩ := hB1
          rw [ht] at hP1
          have hP : va_P D vwCl (wX cI (D.1 99) zz g ad cn16 In16 Fn16) H1 := hP1
          have hD : va_D A (wX cI (D.1 99) zz g ad cn16 In16 Fn16) := hD1.weaken (fun _ _ _ h => hFc _ h)
          generalize H1 = H at hP hS ⊢
          have vh_16 : (fun r c2 I2 F2 => Fr [] [] [195, 301] (va_up cn 31 ((cn 31) + 1)) In Fn c2 I2 F2 ∧ CBX c2 ∧ (True)) r_15 cn16 In16 Fn16 := wh_16
          obtain ⟨hfc16, hIn16, h_16⟩ := vh_16
          obtain rfl : In = In16 := (funext (fun k => hfc16.2.1 k List.not_mem_nil)).symm
          have hf16 : Fr [31, 32] [33] [195, 301] cn In Fn cn16 In Fn16 := Fr.mo (Fr.tr (Fr.c 31 (Fr.rf (cn := cn) (In := In) (Fn := Fn))) hfc16) (sbl rfl) (sbl rfl) (sbl rfl)
          replace hIn16 : CBXh cn16 := hIn16
          have : cn16 6 = (cn 6) := hfc16.1 6 (nml rfl)
          have : cn16 31 = ((cn 31) + 1) := hfc16.1 31 (nml rfl)
          have : cn16 32 = (cn 32) := hfc16.1 32 (nml rfl)
          refine lv_pop hx hb (oc_87 89 (aq_14 shX5_readFactor_75)) rfl ?_
          refine lv_goto (tgt := 98) hx hb (oc_167 90 (aq_15 shX5_readFactor_75) sgw_0_8) rfl ?_
          exact W.vret hx hb hr (fun t ht hW => ⟨⟨(cn16, In, Fn16), rfl, ⟨(Fr.mo hf16 (sbl rfl) (sbl rfl) (sbl rfl)), hIn16, (by show cn 31 ≤ cn16 31 ∧ cn16 31 ≤ cn16 32 ∧ cn16 32 ≤ cn 32; show cn 31 ≤ (cn16 31) ∧ (cn16 31) ≤ (cn16 32) ∧ (cn16 32) ≤ cn 32; omega)⟩, by rw [ht]; exact hP, hD⟩, hS.F ht⟩) hS.2.2 dX5_readFactor_98
    ·
      have tc_6 : (r_1.toInt : Int) = 91 := congrArg Int32.toInt c_6
      refine lv_aload_n hx hb (oc_42 28 (aq_3 shX5_readFactor_25)) rfl (lvA2 hl) ?_
      refine lv_iload_n hx hb (oc_27 29 (aq_4 shX5_readFactor_25)) rfl (lvA3 hl) ?_
      have hFc := free_all hD hS hA
      refine va_calli (runV_xa (As := [.int o]) (rest := []) S (q_Ropens_y l D cI cB cZ zz qq vv bt g ad cn In Fn o s.heap.size hB (by omega) (by omega) (by omega) (by omega) (by omega) ho) kV_RX5_85 hK hXS hS hFc hP hD 3 xo_3 rfl rfl ⟨(by show 1 + 1 ≤ d + 1; omega), (by show 8 + (2 + 11) + 40 * 1 ≤ 40 * (d + 1); omega)⟩ ⟨Nat.le_of_ble_eq_true rfl, Nat.le_of_ble_eq_true rfl⟩ rfl hl.1 rfl (Nat.le_of_ble_eq_true rfl) (oc_182 30 (aq_5 shX5_readFactor_25) uw_0_85)) hS (fun q _ h => hFc q h) hFc (fun r_17 u t H1 locs ht hvm wh_18 hB1 hz1 hk1 hS => ?_)
      obtain ⟨cn18, In18, Fn18⟩ := u
      obtain ⟨hP1, hD1⟩ := hB1
      rw [ht] at hP1
      have hP : va_P D vwCl (wX cI (D.1 99) zz g ad cn18 In18 Fn18) H1 := hP1
      have hD : va_D A (wX cI (D.1 99) zz g ad cn18 In18 Fn18) := hD1.weaken (fun _ _ _ h => hFc _ h)
      generalize H1 = H at hP hS ⊢
      have vh_18 : (fun r c2 I2 F2 => Fr [31, 32] [33] [] cn In Fn c2 I2 F2 ∧ CBX c2 ∧ (((cn 31) ≤ c2 31 ∧ c2 31 ≤ c2 32 ∧ c2 32 ≤ (cn 32)) ∧ r = 1)) r_17 cn18 In18 Fn18 := wh_18
      obtain ⟨hfc18, hIn18, h_18⟩ := vh_18
      obtain rfl : Fn = Fn18 := (funext (fun k => hfc18.2.2 k List.not_mem_nil)).symm
      have hf18 : Fr [31, 32] [33] [195, 301] cn In Fn cn18 In18 Fn := Fr.mo (Fr.tr (Fr.rf (cn := cn) (In := In) (Fn := Fn)) hfc18) (sbl rfl) (sbl rfl) (sbl rfl)
      replace hIn18 : CBXh cn18 := hIn18
      have : cn18 6 = (cn 6) := hfc18.1 6 (nml rfl)
      obtain ⟨h_18, rfl⟩ := h_18
      refine lv_if_eq (tgt := 98) hx hb (oc_153 33 (aq_8 shX5_readFactor_25) sgw_0_65) rfl (fun h => absurd h cq_eq_1_0) (fun _ => ?_)
      refine lv_aload_n hx hb (oc_42 36 (aq_11 shX5_readFactor_25)) rfl (lvA2 hl) ?_
      refine lv_iload_n hx hb (oc_27 37 (aq_12 shX5_readFactor_25)) rfl (lvA3 hl) ?_
      refine lv_iconst (v := 1) hx hb (oc_4 38 (aq_13 shX5_readFactor_25)) kic_1 ?_
      refine lv_iadd hx hb (oc_96 39 (aq_14 shX5_readFactor_25)) ?_
      have hFc := free_all hD hS hA
      refine va_callv (runV_xa (As := [.int (o + 1)]) (rest := []) S (hSq ad cn18 In18 Fn H.size hIn18 (by omega) (by omega) (by omega) (by omega) (by rw [hf18.2.2 199 (nml rfl)]; exact h9)) kV_RX5_56 hK hXS hS hFc hP hD 3 xo_3 rfl rfl ⟨(by show d + 1 ≤ d + 1; omega), (by show 8 + (3 + 11) + 40 * d ≤ 40 * (d + 1); omega)⟩ ⟨Nat.le_of_ble_eq_true rfl, Nat.le_of_ble_eq_true rfl⟩ rfl hl.1 rfl (Nat.le_of_ble_eq_true rfl) (oc_182 40 (aq_15 shX5_readFactor_25) uw_0_56)) hS (fun q _ h => hFc q h) hFc (fun u t H1 locs ht hvm wh_20 hB1 hz1 hk1 hS => ?_)
      obtain ⟨cn20, In20, Fn20⟩ := u
      obtain ⟨hP1, hD1⟩ := hB1
      rw [ht] at hP1
      have hP : va_P D vwCl (wX cI (D.1 99) zz g ad cn20 In20 Fn20) H1 := hP1
      have hD : va_D A (wX cI (D.1 99) zz g ad cn20 In20 Fn20) := hD1.weaken (fun _ _ _ h => hFc _ h)
      generalize H1 = H at hP hS ⊢
      have vh_20 : (fun c2 I2 F2 => Fr [31, 32] [33] [195, 301] cn18 In18 Fn c2 I2 F2 ∧ CBX c2 ∧ ((cn18 31) ≤ c2 31 ∧ c2 31 ≤ c2 32 ∧ c2 32 ≤ (cn18 32))) cn20 In20 Fn20 := wh_20
      obtain ⟨hfc20, hIn20, h_20⟩ := vh_20
      have hf20 : Fr [31, 32] [33] [195, 301] cn In Fn cn20 In20 Fn20 := Fr.mo (Fr.tr hf18 hfc20) (sbl rfl) (sbl rfl) (sbl rfl)
      replace hIn20 : CBXh cn20 := hIn20
      have : cn20 6 = (cn18 6) := hfc20.1 6 (nml rfl)
      refine lv_aload_n hx hb (oc_42 43 (aq_18 shX5_readFactor_25)) rfl (lvA2 hl) ?_
      refine lv_bipush (v := 93) hx hb (oc_16 44 (aq_19 shX5_readFactor_25) sgb_93) kbc_93 ?_
      have hFc := free_all hD hS hA
      refine va_callv (runV_xa (As := [.int 93]) (rest := []) S (q_Rtake l D cI cB cZ zz qq vv bt g ad cn20 In20 Fn20 93 H.size hIn20 (by omega) (by omega) (by omega) (by omega) (by decide)) kV_RX5_62 hK hXS hS hFc hP hD 3 xo_3 rfl rfl ⟨(by show 1 + 1 ≤ d + 1; omega), (by show 8 + (2 + 11) + 40 * 1 ≤ 40 * (d + 1); omega)⟩ ⟨Nat.le_of_ble_eq_true rfl, Nat.le_of_ble_eq_true rfl⟩ rfl hl.1 rfl (Nat.le_of_ble_eq_true rfl) (oc_182 46 (aq_21 shX5_readFactor_25) uw_0_62)) hS (fun q _ h => hFc q h) hFc (fun u t H1 locs ht hvm wh_22 hB1 hz1 hk1 hS => ?_)
      obtain ⟨cn22, In22, Fn22⟩ := u
      obtain ⟨hP1, hD1⟩ := hB1
      rw [ht] at hP1
      have hP : va_P D vwCl (wX cI (D.1 99) zz g ad cn22 In22 Fn22) H1 := hP1
      have hD : va_D A (wX cI (D.1 99) zz g ad cn22 In22 Fn22) := hD1.weaken (fun _ _ _ h => hFc _ h)
      generalize H1 = H at hP hS ⊢
      have vh_22 : (fun c2 I2 F2 => Fr [31, 32] [33] [] cn20 In20 Fn20 c2 I2 F2 ∧ CBX c2 ∧ ((cn20 31) ≤ c2 31 ∧ c2 31 ≤ c2 32 ∧ c2 32 ≤ (cn20 32))) cn22 In22 Fn22 := wh_22
      obtain ⟨hfc22, hIn22, h_22⟩ := vh_22
      obtain rfl : Fn20 = Fn22 := (funext (fun k => hfc22.2.2 k List.not_mem_nil)).symm
      have hf22 : Fr [31, 32] [33] [195, 301] cn In Fn cn22 In22 Fn20 := Fr.mo (Fr.tr hf20 hfc22) (sbl rfl) (sbl rfl) (sbl rfl)
      replace hIn22 : CBXh cn22 := hIn22
      have : cn22 6 = (cn20 6) := hfc22.1 6 (nml rfl)
      refine lv_goto (tgt := 98) hx hb (oc_167 49 shX5_readFactor_49 sgw_0_49) rfl ?_
      exact W.vret hx hb hr (fun t ht hW => ⟨⟨(cn22, In22, Fn20), rfl, ⟨(Fr.mo hf22 (sbl rfl) (sbl rfl) (sbl rfl)), hIn22, (by show cn 31 ≤ cn22 31 ∧ cn22 31 ≤ cn22 32 ∧ cn22 32 ≤ cn 32; show cn 31 ≤ (cn22 31) ∧ (cn22 31) ≤ (cn22 32) ∧ (cn22 32) ≤ cn 32; omega)⟩, by rw [ht]; exact hP, hD⟩, hS.F ht⟩) hS.2.2 dX5_readFactor_98
  ·
    have tc_3 : (r_1.toInt : Int) = (-1) := congrArg Int32.toInt c_3
    refine lv_iconst (v := (-1)) hx hb (oc_2 10 (aq_10 shX5_readFactor_0)) kic_m1 ?_
    refine lv_goto (tgt := 21) hx hb (oc_167 11 (aq_11 shX5_readFactor_0) sgw_0_10) rfl ?_
    refine lv_istore_n (lv' := [(3, .int (-1)), (2, .int r_1), (0, .ref (g 6)), (1, .int o)]) hx hb dX5_readFactor_21 rfl hl (ltb rfl) rfl (fun ls hl => ?_)
    refine lv_iload_n hx hb dX5_readFactor_22 rfl (lvA1 hl) ?_
    refine lv_bipush (v := 91) hx hb dX5_readFactor_23 kbc_91 ?_
    refine lv_icmp_ne (tgt := 52) hx hb dX5_readFactor_25 rfl (fun c_23 => ?_) (fun c_23 => False.elim (by have tc_23 : (r_1.toInt : Int) = 91 := congrArg Int32.toInt c_23; omega))
    have tc_23 : (r_1.toInt : Int) ≠ 91 := fun q => c_23 (Int32.toInt_inj.mp q)
    refine lv_iload_n hx hb dX5_readFactor_52 rfl (lvA1 hl) ?_
    refine vp_callSi (runS_r (As := [.int r_1]) (rest := []) S (q_l_isDigit l D cI cB cZ r_1) kS_RX5_106 hK hP [] rfl ⟨(by show 0 + 1 ≤ d + 1; omega), (by show 8 + (1 + 11) + 40 * 0 ≤ 40 * (d + 1); omega)⟩ ⟨Nat.le_of_ble_eq_true rfl, Nat.le_of_ble_eq_true rfl⟩ rfl hl.1 rfl (Nat.le_of_ble_eq_true rfl) dX5_readFactor_53) (fun r_24 h_25 => ?_)
    rcases h_25 with ⟨rfl, h_25⟩ | ⟨rfl, h_25⟩
    ·
      have h_25 : 48 ≤ r_1.toInt ∧ r_1.toInt ≤ 57 := h_25
      exfalso; omega
    ·
      have h_25 : ¬ (48 ≤ r_1.toInt ∧ r_1.toInt ≤ 57) := h_25
      refine lv_if_eq (tgt := 66) hx hb dX5_readFactor_56 rfl (fun _ => ?_) (fun h => absurd h cq_eq_0_0)
      refine lv_iload_n hx hb dX5_readFactor_66 rfl (lvA0 hl) ?_
      refine lv_if_lt (tgt := 93) hx hb dX5_readFactor_67 rfl (fun _ => ?_) (fun h => absurd h cq_lt_m1_0)
      refine lv_aload_n hx hb dX5_readFactor_93 rfl (lvA2 hl) ?_
      refine lv_iconst (v := 1) hx hb dX5_readFactor_94 kic_1 ?_
      have hFc := free_all hD hS hA
      refine va_callv (runV_xa (As := [.int 1]) (rest := []) S (q_Rfail l D cI cB cZ zz qq vv bt g ad cn In Fn 1 s.heap.size hB (by omega) (by omega) (by omega) (by omega)) kV_RX5_47 hK hXS hS hFc hP hD 3 xo_3 rfl rfl ⟨(by show 0 + 1 ≤ d + 1; omega), (by show 8 + (2 + 11) + 40 * 0 ≤ 40 * (d + 1); omega)⟩ ⟨Nat.le_of_ble_eq_true rfl, Nat.le_of_ble_eq_true rfl⟩ rfl hl.1 rfl (Nat.le_of_ble_eq_true rfl) dX5_readFactor_95) hS (fun q _ h => hFc q h) hFc (fun u t H1 locs ht hvm wh_27 hB1 hz1 hk1 hS => ?_)
      obtain ⟨cn27, In27, Fn27⟩ := u
      obtain ⟨hP1, hD1⟩ := hB1
      rw [ht] at hP1
      have hP : va_P D vwCl (wX cI (D.1 99) zz g ad cn27 In27 Fn27) H1 := hP1
      have hD : va_D A (wX cI (D.1 99) zz g ad cn27 In27 Fn27) := hD1.weaken (fun _ _ _ h => hFc _ h)
      generalize H1 = H at hP hS ⊢
      have vh_27 : (fun c2 I2 F2 => Fr [32] [33] [] cn In Fn c2 I2 F2 ∧ CBX c2 ∧ (c2 31 = (cn 31) ∧ (cn 31) ≤ c2 32 ∧ c2 32 ≤ (cn 32))) cn27 In27 Fn27 := wh_27
      obtain ⟨hfc27, hIn27, h_27⟩ := vh_27
      obtain rfl : Fn = Fn27 := (funext (fun k => hfc27.2.2 k List.not_mem_nil)).symm
      have hf27 : Fr [31, 32] [33] [195, 301] cn In Fn cn27 In27 Fn := Fr.mo (Fr.tr (Fr.rf (cn := cn) (In := In) (Fn := Fn)) hfc27) (sbl rfl) (sbl rfl) (sbl rfl)
      replace hIn27 : CBXh cn27 := hIn27
      have : cn27 6 = (cn 6) := hfc27.1 6 (nml rfl)
      have : cn27 31 = (cn 31) := hfc27.1 31 (nml rfl)
      exact W.vret hx hb hr (fun t ht hW => ⟨⟨(cn27, In27, Fn), rfl, ⟨(Fr.mo hf27 (sbl rfl) (sbl rfl) (sbl rfl)), hIn27, (by show cn 31 ≤ cn27 31 ∧ cn27 31 ≤ cn27 32 ∧ cn27 32 ≤ cn 32; show cn 31 ≤ (cn27 31) ∧ (cn27 31) ≤ (cn27 32) ∧ (cn27 32) ≤ cn 32; omega)⟩, by rw [ht]; exact hP, hD⟩, hS.F ht⟩) hS.2.2 dX5_readFactor_98
set_option maxRecDepth 100000 in
set_option maxHeartbeats 4000000 in
theorem gq_GreadTerm (l : Launch) (D : va_G) (cI cB cZ : ClassId) (zz qq vv : Nat) (bt : Nat → Int32) (g : Nat → Nat) (o : Int32) (d : Nat) (hd : 4 ≤ d ∧ d ≤ 60) (hSq : RDQ yX5_readFactor cX5_readFactor 4 l D cI cB cZ zz qq vv bt g o d) : RDQ yX5_readTerm cX5_readTerm 3 l D cI cB cZ zz qq vv bt g o (d + 1) := by
  intro ad cn In Fn sz hB hR h1 h3 h4 h9
  refine Met.ofW (cc := cX5_readTerm) (maxL := 3) (ret := none) (by decide) rfl ?_
  intro p e s m args below meth c s₁ B hml hv
  obtain ⟨rfl, hsz, hP, hK, hD0, hXS⟩ := hv
  have hx := B.exec
  have hb := B.bytes
  have hr := B.returns
  have hts := atoms_spec (ws := (CWS yX5_readTerm cX5_readTerm 3 none)) B.pre
  have hown : s.vm.findClass RX5 = some m.cls := findClass_of_methodNamed B.named
  have hlocks := B.notSynchronized
  have S : SF p m c cX5_readTerm 3 s ([.ref (g 6), .int o]).toArray RX5 := ⟨hx, hb, hml, hown, fun w h => hts w (List.mem_cons_of_mem _ h)⟩
  subst hsz
  have hD := hD0.self (sz := s.heap.size)
  generalize hAe : va_A (wX cI (D.1 99) zz g ad cn In Fn) s.heap.size = A at hD hXS ⊢
  have hA : ∀ q : Nat, s.heap.size ≤ q → A q := fun q h => by rw [← hAe]; exact Or.inr h
  have hS : va_S A s.heap s.heap [] := va_S.rf
  have hl := lv_entry ([.ref (g 6), .int o]) (n := 3) (Nat.le_of_ble_eq_true rfl)
  rw [lg_entry_eq]
  generalize (lg_sl ([.ref (g 6), .int o]) ++ List.replicate (3 - (lg_sl ([.ref (g 6), .int o])).length) Slot.unset).toArray = ls at hl ⊢
  have hl : lv_has ls 3 [(0, .ref (g 6)), (1, .int o)] := hl
  replace hB : CBXh cn := hB
  refine lv_aload_n hx hb (oc_42 0 shX5_readTerm_0) rfl (lvA0 hl) ?_
  refine lv_iload_n hx hb (oc_27 1 (aq_1 shX5_readTerm_0)) rfl (lvA1 hl) ?_
  have hFc := free_all hD hS hA
  refine va_callv (runV_xa (As := [.int o]) (rest := []) S (hSq ad cn In Fn s.heap.size hB (by omega) (by omega) (by omega) (by omega) h9) kV_RX5_95 hK hXS hS hFc hP hD 3 xo_3 rfl rfl ⟨(by show d + 1 ≤ d + 1; omega), (by show 8 + (4 + 11) + 40 * d ≤ 40 * (d + 1); omega)⟩ ⟨Nat.le_of_ble_eq_true rfl, Nat.le_of_ble_eq_true rfl⟩ rfl hl.1 rfl (Nat.le_of_ble_eq_true rfl) (oc_182 2 (aq_2 shX5_readTerm_0) uw_0_95)) hS (fun q _ h => hFc q h) hFc (fun u t H1 locs ht hvm wh_2 hB1 hz1 hk1 hS => ?_)
  obtain ⟨cn2, In2, Fn2⟩ := u
  obtain ⟨hP1, hD1⟩ := hB1
  rw [ht] at hP1
  have hP : va_P D vwCl (wX cI (D.1 99) zz g ad cn2 In2 Fn2) H1 := hP1
  have hD : va_D A (wX cI (D.1 99) zz g ad cn2 In2 Fn2) := hD1.weaken (fun _ _ _ h => hFc _ h)
  generalize H1 = H at hP hS ⊢
  have vh_2 : (fun c2 I2 F2 => Fr [31, 32] [33] [195, 301] cn In Fn c2 I2 F2 ∧ CBX c2 ∧ ((cn 31) ≤ c2 31 ∧ c2 31 ≤ c2 32 ∧ c2 32 ≤ (cn 32))) cn2 In2 Fn2 := wh_2
  obtain ⟨hfc2, hIn2, h_2⟩ := vh_2
  have hf2 : Fr [31, 32] [33] [195, 301] cn In Fn cn2 In2 Fn2 := Fr.mo (Fr.tr (Fr.rf (cn := cn) (In := In) (Fn := Fn)) hfc2) (sbl rfl) (sbl rfl) (sbl rfl)
  replace hIn2 : CBXh cn2 := hIn2
  have : cn2 6 = (cn 6) := hfc2.1 6 (nml rfl)
  have lp_5 : ∀ (n : Nat)  (c5 : Nat → Nat) (I5 : Nat → Int32) (F5 : Nat → Nat → Int32) (H : Heap) (locs : List Loc) , c5 32 - c5 31 < n → (Fr [31, 32] [33] [195, 301] cn In Fn c5 I5 F5 ∧ CBX c5 ∧ (cn 31 ≤ c5 31 ∧ c5 31 ≤ c5 32 ∧ c5 32 ≤ cn 32)) → va_P D vwCl (wX cI (D.1 99) zz g ad c5 I5 F5) H → va_D A (wX cI (D.1 99) zz g ad c5 I5 F5) → va_S A s.heap H locs → ∀ ls : Array Slot, lv_has ls 3 [(0, .ref (g 6)), (1, .int o)] → W p l e (RM (d + 1) 0 0) s m ([.ref (g 6), .int o]).toArray below meth c H locs 0 0 (MQ below (va_Qv (fun (u : (Nat → Nat) × (Nat → Int32) × (Nat → Nat → Int32)) => (fun c2 I2 F2 => Fr [31, 32] [33] [195, 301] cn In Fn c2 I2 F2 ∧ CBX c2 ∧ (cn 31 ≤ c2 31 ∧ c2 31 ≤ c2 32 ∧ c2 32 ≤ cn 32)) u.1 u.2.1 u.2.2) (fun (u : (Nat → Nat) × (Nat → Int32) × (Nat → Nat → Int32)) (t : State) => va_P D vwCl (wX cI (D.1 99) zz g ad u.1 u.2.1 u.2.2) t.heap ∧ va_D A (wX cI (D.1 99) zz g ad u.1 u.2.1 u.2.2)) A) ([.ref (g 6), .int o]).toArray s 0 0 A) (F0 m 5 ls []) := by
    intro n5
    induction n5 with
    | zero => intros; omega
    | succ n5 ih5 =>
      intro  c5 I5 F5 H locs hmu5 hinv5 hP hD hS ls hl
      obtain ⟨hfr5, hI5, hx5_0⟩ := hinv5
      replace hI5 : CBXh c5 := hI5
      have : c5 6 = cn 6 := hfr5.1 6 (nml rfl)
      refine lv_aload_n hx hb (oc_42 5 (aq_5 shX5_readTerm_0)) rfl (lvA0 hl) ?_
      refine gf_RX5_31 S hK hP 3 xo_3 (v := .int (nI (c5 31))) rfl (oc_180 6 (aq_6 shX5_readTerm_0) uw_0_31) ?_
      refine lv_aload_n hx hb (oc_42 9 (aq_9 shX5_readTerm_0)) rfl (lvA0 hl) ?_
      refine gf_RX5_34 S hK hP 3 xo_3 (v := .int (nI (c5 32))) rfl (oc_180 10 (aq_10 shX5_readTerm_0) uw_0_34) ?_
      have : (nI (c5 31)).toInt = (((c5 31) : Nat) : Int) := nI_toInt (by omega)
      have : (nI (c5 32)).toInt = (((c5 32) : Nat) : Int) := nI_toInt (by omega)
      refine lv_icmp_ge (tgt := 98) hx hb (oc_162 13 (aq_13 shX5_readTerm_0) sgw_0_85) rfl (fun c_3 => ?_) (fun c_3 => ?_)
      ·
        have tc_3 : ((nI (c5 32)).toInt : Int) ≤ (nI (c5 31)).toInt := Int32.le_iff_toInt_le.mp c_3
        exact W.vret hx hb hr (fun t ht hW => ⟨⟨(c5, I5, F5), rfl, ⟨(Fr.mo hfr5 (sbl rfl) (sbl rfl) (sbl rfl)), hI5, (by show cn 31 ≤ c5 31 ∧ c5 31 ≤ c5 32 ∧ c5 32 ≤ cn 32; show cn 31 ≤ (c5 31) ∧ (c5 31) ≤ (c5 32) ∧ (c5 32) ≤ cn 32; omega)⟩, by rw [ht]; exact hP, hD⟩, hS.F ht⟩) hS.2.2 (oc_177 98 shX5_readTerm_98)
      ·
        have tc_3 : ((nI (c5 31)).toInt : Int) < (nI (c5 32)).toInt := Int32.lt_iff_toInt_lt.mp (Int32.not_le.mp c_3)
        refine lv_aload_n hx hb (oc_42 16 (aq_16 shX5_readTerm_0)) rfl (lvA0 hl) ?_
        refine vp_callSi (runV_rxa (As := []) (rest := []) S (q_Rpeek l D cI cB cZ zz qq vv bt g ad c5 I5 F5  hI5 (by omega) (by omega) (by omega) (by omega)) kV_RX5_43 hK hXS hS hP 3 xo_3 rfl rfl ⟨(by show 0 + 1 ≤ d + 1; omega), (by show 8 + (1 + 11) + 40 * 0 ≤ 40 * (d + 1); omega)⟩ ⟨Nat.le_of_ble_eq_true rfl, Nat.le_of_ble_eq_true rfl⟩ rfl hl.1 rfl (Nat.le_of_ble_eq_true rfl) (oc_182 17 (aq_17 shX5_readTerm_0) uw_0_43)) (fun r_4 h_5 => ?_)
        refine lv_bipush (v := 42) hx hb (oc_16 20 (aq_20 shX5_readTerm_0) sgb_42) kbc_42 ?_
        refine lv_icmp_eq (tgt := 43) hx hb (oc_159 22 (aq_22 shX5_readTerm_0) sgw_0_21) rfl (fun c_6 => ?_) (fun c_6 => ?_)
        ·
          have tc_6 : (r_4.toInt : Int) = 42 := congrArg Int32.toInt c_6
          refine lv_aload_n hx hb (oc_42 43 (aq_18 shX5_readTerm_25)) rfl (lvA0 hl) ?_
          refine vp_callSi (runV_rxa (As := []) (rest := []) S (q_Rpeek l D cI cB cZ zz qq vv bt g ad c5 I5 F5  hI5 (by omega) (by omega) (by omega) (by omega)) kV_RX5_43 hK hXS hS hP 3 xo_3 rfl rfl ⟨(by show 0 + 1 ≤ d + 1; omega), (by show 8 + (1 + 11) + 40 * 0 ≤ 40 * (d + 1); omega)⟩ ⟨Nat.le_of_ble_eq_true rfl, Nat.le_of_ble_eq_true rfl⟩ rfl hl.1 rfl (Nat.le_of_ble_eq_true rfl) (oc_182 44 (aq_19 shX5_readTerm_25) uw_0_43)) (fun r_7 h_8 => ?_)
          refine lv_istore_n (lv' := [(2, .int r_7), (0, .ref (g 6)), (1, .int o)]) hx hb (oc_61 47 (aq_22 shX5_readTerm_25)) rfl hl (ltb rfl) rfl (fun ls hl => ?_)
          refine lv_aload_n hx hb (oc_42 48 (aq_23 shX5_readTerm_25)) rfl (lvA1 hl) ?_
          refine lv_dup hx hb (oc_89 49 shX5_readTerm_49) rfl ?_
          refine gf_RX5_31 S hK hP 3 xo_3 (v := .int (nI (c5 31))) rfl (oc_180 50 (aq_1 shX5_readTerm_49) uw_0_31) ?_
          refine lv_iconst (v := 1) hx hb (oc_4 53 (aq_4 shX5_readTerm_49)) kic_1 ?_
          refine lv_iadd hx hb (oc_96 54 (aq_5 shX5_readTerm_49)) ?_
          refine lv_topi (fun y_9 ey_9 => ?_)
          obtain rfl : y_9 = (nI ((c5 31) + 1)) := ey_9.trans (nI_add (c5 31) 1)
          refine pf_RX5_31 S hK hP hD hS 3 xo_3 (v := .int (nI ((c5 31) + 1))) (Nat.le_of_ble_eq_true rfl) rfl rfl (oc_181 55 (aq_6 shX5_readTerm_49) uw_0_31) (fun H locs hP hD hS => ?_)
          have hP : va_P D vwCl (wX cI (D.1 99) zz g ad (va_up c5 31 ((c5 31) + 1)) I5 F5) H := va_P_eq (xsf_3_3) hP
          have hD : va_D A (wX cI (D.1 99) zz g ad (va_up c5 31 ((c5 31) + 1)) I5 F5) := va_D_eq (xsf_3_3) hD
          refine lv_aload_n hx hb (oc_42 58 (aq_9 shX5_readTerm_49)) rfl (lvA1 hl) ?_
          refine lv_iload_n hx hb (oc_27 59 (aq_10 shX5_readTerm_49)) rfl (lvA2 hl) ?_
          have hFc := free_all hD hS hA
          refine va_callv (runV_xa (As := [.int o]) (rest := []) S (hSq ad (va_up c5 31 ((c5 31) + 1)) I5 F5 H.size (CBX.n (k := 31) (v := ((c5 31) + 1)) hI5 (by decide)) (show ad 4 2 = g 40 by omega) (show ad 4 1 < (c5 6) by omega) (show ((c5 31) + 1) ≤ (c5 32) by omega) (show (c5 32) ≤ 160 by omega) (by rw [hfr5.2.2 199 (nml rfl)]; exact h9)) kV_RX5_95 hK hXS hS hFc hP hD 3 xo_3 rfl rfl ⟨(by show d + 1 ≤ d + 1; omega), (by show 8 + (4 + 11) + 40 * d ≤ 40 * (d + 1); omega)⟩ ⟨Nat.le_of_ble_eq_true rfl, Nat.le_of_ble_eq_true rfl⟩ rfl hl.1 rfl (Nat.le_of_ble_eq_true rfl) (oc_182 60 (aq_11 shX5_readTerm_49) uw_0_95)) hS (fun q _ h => hFc q h) hFc (fun u t H1 locs ht hvm wh_11 hB1 hz1 hk1 hS => ?_)
          obtain ⟨cn11, In11, Fn11⟩ := u
          obtain ⟨hP1, hD1⟩ := hB1
          rw [ht] at hP1
          have hP : va_P D vwCl (wX cI (D.1 99) zz g ad cn11 In11 Fn11) H1 := hP1
          have hD : va_D A (wX cI (D.1 99) zz g ad cn11 In11 Fn11) := hD1.weaken (fun _ _ _ h => hFc _ h)
          generalize H1 = H at hP hS ⊢
          have vh_11 : (fun c2 I2 F2 => Fr [31, 32] [33] [195, 301] (va_up c5 31 ((c5 31) + 1)) I5 F5 c2 I2 F2 ∧ CBX c2 ∧ (((c5 31) + 1) ≤ c2 31 ∧ c2 31 ≤ c2 32 ∧ c2 32 ≤ (c5 32))) cn11 In11 Fn11 := wh_11
          obtain ⟨hfc11, hIn11, h_11⟩ := vh_11
          have hf11 : Fr [31, 32] [33] [195, 301] cn In Fn cn11 In11 Fn11 := Fr.mo (Fr.tr (Fr.c 31 hfr5) hfc11) (sbl rfl) (sbl rfl) (sbl rfl)
          replace hIn11 : CBXh cn11 := hIn11
          have : cn11 6 = (c5 6) := hfc11.1 6 (nml rfl)
          refine lv_aload_n hx hb (oc_42 63 (aq_14 shX5_readTerm_49)) rfl (lvA1 hl) ?_
          refine gf_RX5_20 S hK hP 3 xo_3 (v := .ref (ad 5 (ad 4 1))) rfl (oc_180 64 (aq_15 shX5_readTerm_49) uw_0_20) ?_
          refine lv_iload_n hx hb (oc_28 67 (aq_18 shX5_readTerm_49)) rfl (lvA0 hl) ?_
          refine lv_bipush (v := 42) hx hb (oc_16 68 (aq_19 shX5_readTerm_49) sgb_42) kbc_42 ?_
          refine lv_icmp_ne (tgt := 77) hx hb (oc_160 70 (aq_21 shX5_readTerm_49) sgw_0_7) rfl (fun c_12 => ?_) (fun c_12 => ?_)
          ·
            have tc_12 : (r_7.toInt : Int) ≠ 42 := fun q => c_12 (Int32.toInt_inj.mp q)
            refine lv_iload_n hx hb (oc_28 77 (aq_4 shX5_readTerm_73)) rfl (lvA0 hl) ?_
            refine lv_bipush (v := 47) hx hb (oc_16 78 (aq_5 shX5_readTerm_73) sgb_47) kbc_47 ?_
            refine lv_icmp_ne (tgt := 88) hx hb (oc_160 80 (aq_7 shX5_readTerm_73) sgw_0_8) rfl (fun c_13 => ?_) (fun c_13 => ?_)
            ·
              have tc_13 : (r_7.toInt : Int) ≠ 47 := fun q => c_13 (Int32.toInt_inj.mp q)
              refine lv_bipush (v := 7) hx hb (oc_16 88 (aq_15 shX5_readTerm_73) sgb_7) kbc_7 ?_
              refine lv_iconst (v := 0) hx hb dX5_readTerm_90 kic_0 ?_
              have hFc := free_all hD hS hA
              refine va_calli (runV_xa (As := [.int 7, .int 0]) (rest := []) S (q_Tadd l D cI cB cZ zz qq vv bt g ad cn11 In11 Fn11 (ad 4 1) 7 0 H.size hIn11 (by omega) (by rw [hf11.2.2 199 (nml rfl)]; exact h9)) kV_RX5_75 hK hXS hS hFc hP hD _ (xf_7 (show (ad 4 1) < (cn11 6) by omega)) rfl rfl ⟨(by show 0 + 1 ≤ d + 1; omega), (by show 8 + (3 + 11) + 40 * 0 ≤ 40 * (d + 1); omega)⟩ ⟨Nat.le_of_ble_eq_true rfl, Nat.le_of_ble_eq_true rfl⟩ rfl hl.1 rfl (Nat.le_of_ble_eq_true rfl) dX5_readTerm_91) hS (fun q _ h => hFc q h) hFc (fun r_14 u t H1 locs ht hvm wh_15 hB1 hz1 hk1 hS => ?_)
              obtain ⟨cn15, In15, Fn15⟩ := u
              obtain ⟨hP1, hD1⟩ := hB1
              rw [ht] at hP1
              have hP : va_P D vwCl (wX cI (D.1 99) zz g ad cn15 In15 Fn15) H1 := hP1
              have hD : va_D A (wX cI (D.1 99) zz g ad cn15 In15 Fn15) := hD1.weaken (fun _ _ _ h => hFc _ h)
              generalize H1 = H at hP hS ⊢
              have vh_15 : (fun r c2 I2 F2 => Fr [] [] [195, 301] cn11 In11 Fn11 c2 I2 F2 ∧ CBX c2 ∧ (True)) r_14 cn15 In15 Fn15 := wh_15
              obtain ⟨hfc15, hIn15, h_15⟩ := vh_15
              obtain rfl : cn11 = cn15 := (funext (fun k => hfc15.1 k List.not_mem_nil)).symm
              obtain rfl : In11 = In15 := (funext (fun k => hfc15.2.1 k List.not_mem_nil)).symm
              have hf15 : Fr [31, 32] [33] [195, 301] cn In Fn cn11 In11 Fn15 := Fr.mo (Fr.tr hf11 hfc15) (sbl rfl) (sbl rfl) (sbl rfl)
              replace hIn15 : CBXh cn11 := hIn15
              refine lv_pop hx hb dX5_readTerm_94 rfl ?_
              refine lv_goto (tgt := 5) hx hb dX5_readTerm_95 rfl ?_
              exact ih5  cn11 In11 Fn15 _ _ (show (cn11 32) - (cn11 31) < n5 by omega) ⟨(Fr.mo hf15 (sbl rfl) (sbl rfl) (sbl rfl)), hIn15, (show cn 31 ≤ (cn11 31) ∧ (cn11 31) ≤ (cn11 32) ∧ (cn11 32) ≤ cn 32 by omega)⟩ hP hD hS ls (lv_sub hl [1, 2] rfl)
            ·
              have tc_13 : (r_7.toInt : Int) = 47 := congrArg Int32.toInt c_13
              refine lv_bipush (v := 6) hx hb (oc_16 83 (aq_10 shX5_readTerm_73) sgb_6) kbc_6 ?_
              refine lv_goto (tgt := 90) hx hb (oc_167 85 (aq_12 shX5_readTerm_73) sgw_0_5) rfl ?_
              refine lv_iconst (v := 0) hx hb dX5_readTerm_90 kic_0 ?_
              have hFc := free_all hD hS hA
              refine va_calli (runV_xa (As := [.int 6, .int 0]) (rest := []) S (q_Tadd l D cI cB cZ zz qq vv bt g ad cn11 In11 Fn11 (ad 4 1) 6 0 H.size hIn11 (by omega) (by rw [hf11.2.2 199 (nml rfl)]; exact h9)) kV_RX5_75 hK hXS hS hFc hP hD _ (xf_7 (show (ad 4 1) < (cn11 6) by omega)) rfl rfl ⟨(by show 0 + 1 ≤ d + 1; omega), (by show 8 + (3 + 11) + 40 * 0 ≤ 40 * (d + 1); omega)⟩ ⟨Nat.le_of_ble_eq_true rfl, Nat.le_of_ble_eq_true rfl⟩ rfl hl.1 rfl (Nat.le_of_ble_eq_true rfl) dX5_readTerm_91) hS (fun q _ h => hFc q h) hFc (fun r_16 u t H1 locs ht hvm wh_17 hB1 hz1 hk1 hS => ?_)
              obtain ⟨cn17, In17, Fn17⟩ := u
              obtain ⟨hP1, hD1⟩ := hB1
              rw [ht] at hP1
              have hP : va_P D vwCl (wX cI (D.1 99) zz g ad cn17 In17 Fn17) H1 := hP1
              have hD : va_D A (wX cI (D.1 99) zz g ad cn17 In17 Fn17) := hD1.weaken (fun _ _ _ h => hFc _ h)
              generalize H1 = H at hP hS ⊢
              have vh_17 : (fun r c2 I2 F2 => Fr [] [] [195, 301] cn11 In11 Fn11 c2 I2 F2 ∧ CBX c2 ∧ (True)) r_16 cn17 In17 Fn17 := wh_17
              obtain ⟨hfc17, hIn17, h_17⟩ := vh_17
              obtain rfl : cn11 = cn17 := (funext (fun k => hfc17.1 k List.not_mem_nil)).symm
              obtain rfl : In11 = In17 := (funext (fun k => hfc17.2.1 k List.not_mem_nil)).symm
              have hf17 : Fr [31, 32] [33] [195, 301] cn In Fn cn11 In11 Fn17 := Fr.mo (Fr.tr hf11 hfc17) (sbl rfl) (sbl rfl) (sbl rfl)
              replace hIn17 : CBXh cn11 := hIn17
              refine lv_pop hx hb dX5_readTerm_94 rfl ?_
              refine lv_goto (tgt := 5) hx hb dX5_readTerm_95 rfl ?_
              exact ih5  cn11 In11 Fn17 _ _ (show (cn11 32) - (cn11 31) < n5 by omega) ⟨(Fr.mo hf17 (sbl rfl) (sbl rfl) (sbl rfl)), hIn17, (show cn 31 ≤ (cn11 31) ∧ (cn11 31) ≤ (cn11 32) ∧ (cn11 32) ≤ cn 32 by omega)⟩ hP hD hS ls (lv_sub hl [1, 2] rfl)
          ·
            have tc_12 : (r_7.toInt : Int) = 42 := congrArg Int32.toInt c_12
            refine lv_iconst (v := 5) hx hb (oc_8 73 shX5_readTerm_73) kic_5 ?_
            refine lv_goto (tgt := 90) hx hb (oc_167 74 (aq_1 shX5_readTerm_73) sgw_0_16) rfl ?_
            refine lv_iconst (v := 0) hx hb dX5_readTerm_90 kic_0 ?_
            have hFc := free_all hD hS hA
            refine va_calli (runV_xa (As := [.int 5, .int 0]) (rest := []) S (q_Tadd l D cI cB cZ zz qq vv bt g ad cn11 In11 Fn11 (ad 4 1) 5 0 H.size hIn11 (by omega) (by rw [hf11.2.2 199 (nml rfl)]; exact h9)) kV_RX5_75 hK hXS hS hFc hP hD _ (xf_7 (show (ad 4 1) < (cn11 6) by omega)) rfl rfl ⟨(by show 0 + 1 ≤ d + 1; omega), (by show 8 + (3 + 11) + 40 * 0 ≤ 40 * (d + 1); omega)⟩ ⟨Nat.le_of_ble_eq_true rfl, Nat.le_of_ble_eq_true rfl⟩ rfl hl.1 rfl (Nat.le_of_ble_eq_true rfl) dX5_readTerm_91) hS (fun q _ h => hFc q h) hFc (fun r_18 u t H1 locs ht hvm wh_19 hB1 hz1 hk1 hS => ?_)
            obtain ⟨cn19, In19, Fn19⟩ := u
            obtain ⟨hP1, hD1⟩ := hB1
            rw [ht] at hP1
            have hP : va_P D vwCl (wX cI (D.1 99) zz g ad cn19 In19 Fn19) H1 := hP1
            have hD : va_D A (wX cI (D.1 99) zz g ad cn19 In19 Fn19) := hD1.weaken (fun _ _ _ h => hFc _ h)
            generalize H1 = H at hP hS ⊢
            have vh_19 : (fun r c2 I2 F2 => Fr [] [] [195, 301] cn11 In11 Fn11 c2 I2 F2 ∧ CBX c2 ∧ (True)) r_18 cn19 In19 Fn19 := wh_19
            obtain ⟨hfc19, hIn19, h_19⟩ := vh_19
            obtain rfl : cn11 = cn19 := (funext (fun k => hfc19.1 k List.not_mem_nil)).symm
            obtain rfl : In11 = In19 := (funext (fun k => hfc19.2.1 k List.not_mem_nil)).symm
            have hf19 : Fr [31, 32] [33] [195, 301] cn In Fn cn11 In11 Fn19 := Fr.mo (Fr.tr hf11 hfc19) (sbl rfl) (sbl rfl) (sbl rfl)
            replace hIn19 : CBXh cn11 := hIn19
            refine lv_pop hx hb dX5_readTerm_94 rfl ?_
            refine lv_goto (tgt := 5) hx hb dX5_readTerm_95 rfl ?_
            exact ih5  cn11 In11 Fn19 _ _ (show (cn11 32) - (cn11 31) < n5 by omega) ⟨(Fr.mo hf19 (sbl rfl) (sbl rfl) (sbl rfl)), hIn19, (show cn 31 ≤ (cn11 31) ∧ (cn11 31) ≤ (cn11 32) ∧ (cn11 32) ≤ cn 32 by omega)⟩ hP hD hS ls (lv_sub hl [1, 2] rfl)
        ·
          have tc_6 : (r_4.toInt : Int) ≠ 42 := fun q => c_6 (Int32.toInt_inj.mp q)
          refine lv_aload_n hx hb (oc_42 25 shX5_readTerm_25) rfl (lvA0 hl) ?_
          refine vp_callSi (runV_rxa (As := []) (rest := []) S (q_Rpeek l D cI cB cZ zz qq vv bt g ad c5 I5 F5  hI5 (by omega) (by omega) (by omega) (by omega)) kV_RX5_43 hK hXS hS hP 3 xo_3 rfl rfl ⟨(by show 0 + 1 ≤ d + 1; omega), (by show 8 + (1 + 11) + 40 * 0 ≤ 40 * (d + 1); omega)⟩ ⟨Nat.le_of_ble_eq_true rfl, Nat.le_of_ble_eq_true rfl⟩ rfl hl.1 rfl (Nat.le_of_ble_eq_true rfl) (oc_182 26 (aq_1 shX5_readTerm_25) uw_0_43)) (fun r_20 h_21 => ?_)
          refine lv_bipush (v := 47) hx hb (oc_16 29 (aq_4 shX5_readTerm_25) sgb_47) kbc_47 ?_
          refine lv_icmp_eq (tgt := 43) hx hb (oc_159 31 (aq_6 shX5_readTerm_25) sgw_0_12) rfl (fun c_22 => ?_) (fun c_22 => ?_)
          ·
            have tc_22 : (r_20.toInt : Int) = 47 := congrArg Int32.toInt c_22
            refine lv_aload_n hx hb (oc_42 43 (aq_18 shX5_readTerm_25)) rfl (lvA0 hl) ?_
            refine vp_callSi (runV_rxa (As := []) (rest := []) S (q_Rpeek l D cI cB cZ zz qq vv bt g ad c5 I5 F5  hI5 (by omega) (by omega) (by omega) (by omega)) kV_RX5_43 hK hXS hS hP 3 xo_3 rfl rfl ⟨(by show 0 + 1 ≤ d + 1; omega), (by show 8 + (1 + 11) + 40 * 0 ≤ 40 * (d + 1); omega)⟩ ⟨Nat.le_of_ble_eq_true rfl, Nat.le_of_ble_eq_true rfl⟩ rfl hl.1 rfl (Nat.le_of_ble_eq_true rfl) (oc_182 44 (aq_19 shX5_readTerm_25) uw_0_43)) (fun r_23 h_24 => ?_)
            refine lv_istore_n (lv' := [(2, .int r_23), (0, .ref (g 6)), (1, .int o)]) hx hb (oc_61 47 (aq_22 shX5_readTerm_25)) rfl hl (ltb rfl) rfl (fun ls hl => ?_)
            refine lv_aload_n hx hb (oc_42 48 (aq_23 shX5_readTerm_25)) rfl (lvA1 hl) ?_
            refine lv_dup hx hb (oc_89 49 shX5_readTerm_49) rfl ?_
            refine gf_RX5_31 S hK hP 3 xo_3 (v := .int (nI (c5 31))) rfl (oc_180 50 (aq_1 shX5_readTerm_49) uw_0_31) ?_
            refine lv_iconst (v := 1) hx hb (oc_4 53 (aq_4 shX5_readTerm_49)) kic_1 ?_
            refine lv_iadd hx hb (oc_96 54 (aq_5 shX5_readTerm_49)) ?_
            refine lv_topi (fun y_25 ey_25 => ?_)
            obtain rfl : y_25 = (nI ((c5 31) + 1)) := ey_25.trans (nI_add (c5 31) 1)
            refine pf_RX5_31 S hK hP hD hS 3 xo_3 (v := .int (nI ((c5 31) + 1))) (Nat.le_of_ble_eq_true rfl) rfl rfl (oc_181 55 (aq_6 shX5_readTerm_49) uw_0_31) (fun H locs hP hD hS => ?_)
            have hP : va_P D vwCl (wX cI (D.1 99) zz g ad (va_up c5 31 ((c5 31) + 1)) I5 F5) H := va_P_eq (xsf_3_3) hP
            have hD : va_D A (wX cI (D.1 99) zz g ad (va_up c5 31 ((c5 31) + 1)) I5 F5) := va_D_eq (xsf_3_3) hD
            refine lv_aload_n hx hb (oc_42 58 (aq_9 shX5_readTerm_49)) rfl (lvA1 hl) ?_
            refine lv_iload_n hx hb (oc_27 59 (aq_10 shX5_readTerm_49)) rfl (lvA2 hl) ?_
            have hFc := free_all hD hS hA
            refine va_callv (runV_xa (As := [.int o]) (rest := []) S (hSq ad (va_up c5 31 ((c5 31) + 1)) I5 F5 H.size (CBX.n (k := 31) (v := ((c5 31) + 1)) hI5 (by decide)) (show ad 4 2 = g 40 by omega) (show ad 4 1 < (c5 6) by omega) (show ((c5 31) + 1) ≤ (c5 32) by omega) (show (c5 32) ≤ 160 by omega) (by rw [hfr5.2.2 199 (nml rfl)]; exact h9)) kV_RX5_95 hK hXS hS hFc hP hD 3 xo_3 rfl rfl ⟨(by show d + 1 ≤ d + 1; omega), (by show 8 + (4 + 11) + 40 * d ≤ 40 * (d + 1); omega)⟩ ⟨Nat.le_of_ble_eq_true rfl, Nat.le_of_ble_eq_true rfl⟩ rfl hl.1 rfl (Nat.le_of_ble_eq_true rfl) (oc_182 60 (aq_11 shX5_readTerm_49) uw_0_95)) hS (fun q _ h => hFc q h) hFc (fun u t H1 locs ht hvm wh_27 hB1 hz1 hk1 hS => ?_)
            obtain ⟨cn27, In27, Fn27⟩ := u
            obtain ⟨hP1, hD1⟩ := hB1
            rw [ht] at hP1
            have hP : va_P D vwCl (wX cI (D.1 99) zz g ad cn27 In27 Fn27) H1 := hP1
            have hD : va_D A (wX cI (D.1 99) zz g ad cn27 In27 Fn27) := hD1.weaken (fun _ _ _ h => hFc _ h)
            generalize H1 = H at hP hS ⊢
            have vh_27 : (fun c2 I2 F2 => Fr [31, 32] [33] [195, 301] (va_up c5 31 ((c5 31) + 1)) I5 F5 c2 I2 F2 ∧ CBX c2 ∧ (((c5 31) + 1) ≤ c2 31 ∧ c2 31 ≤ c2 32 ∧ c2 32 ≤ (c5 32))) cn27 In27 Fn27 := wh_27
            obtain ⟨hfc27, hIn27, h_27⟩ := vh_27
            have hf27 : Fr [31, 32] [33] [195, 301] cn In Fn cn27 In27 Fn27 := Fr.mo (Fr.tr (Fr.c 31 hfr5) hfc27) (sbl rfl) (sbl rfl) (sbl rfl)
            replace hIn27 : CBXh cn27 := hIn27
            have : cn27 6 = (c5 6) := hfc27.1 6 (nml rfl)
            refine lv_aload_n hx hb (oc_42 63 (aq_14 shX5_readTerm_49)) rfl (lvA1 hl) ?_
            refine gf_RX5_20 S hK hP 3 xo_3 (v := .ref (ad 5 (ad 4 1))) rfl (oc_180 64 (aq_15 shX5_readTerm_49) uw_0_20) ?_
            refine lv_iload_n hx hb (oc_28 67 (aq_18 shX5_readTerm_49)) rfl (lvA0 hl) ?_
            refine lv_bipush (v := 42) hx hb (oc_16 68 (aq_19 shX5_readTerm_49) sgb_42) kbc_42 ?_
            refine lv_icmp_ne (tgt := 77) hx hb (oc_160 70 (aq_21 shX5_readTerm_49) sgw_0_7) rfl (fun c_28 => ?_) (fun c_28 => ?_)
            ·
              have tc_28 : (r_23.toInt : Int) ≠ 42 := fun q => c_28 (Int32.toInt_inj.mp q)
              refine lv_iload_n hx hb (oc_28 77 (aq_4 shX5_readTerm_73)) rfl (lvA0 hl) ?_
              refine lv_bipush (v := 47) hx hb (oc_16 78 (aq_5 shX5_readTerm_73) sgb_47) kbc_47 ?_
              refine lv_icmp_ne (tgt := 88) hx hb (oc_160 80 (aq_7 shX5_readTerm_73) sgw_0_8) rfl (fun c_29 => ?_) (fun c_29 => ?_)
              ·
                have tc_29 : (r_23.toInt : Int) ≠ 47 := fun q => c_29 (Int32.toInt_inj.mp q)
                refine lv_bipush (v := 7) hx hb (oc_16 88 (aq_15 shX5_readTerm_73) sgb_7) kbc_7 ?_
                refine lv_iconst (v := 0) hx hb dX5_readTerm_90 kic_0 ?_
                have hFc := free_all hD hS hA
                refine va_calli (runV_xa (As := [.int 7, .int 0]) (rest := []) S (q_Tadd l D cI cB cZ zz qq vv bt g ad cn27 In27 Fn27 (ad 4 1) 7 0 H.size hIn27 (by omega) (by rw [hf27.2.2 199 (nml rfl)]; exact h9)) kV_RX5_75 hK hXS hS hFc hP hD _ (xf_7 (show (ad 4 1) < (cn27 6) by omega)) rfl rfl ⟨(by show 0 + 1 ≤ d + 1; omega), (by show 8 + (3 + 11) + 40 * 0 ≤ 40 * (d + 1); omega)⟩ ⟨Nat.le_of_ble_eq_true rfl, Nat.le_of_ble_eq_true rfl⟩ rfl hl.1 rfl (Nat.le_of_ble_eq_true rfl) dX5_readTerm_91) hS (fun q _ h => hFc q h) hFc (fun r_30 u t H1 locs ht hvm wh_31 hB1 hz1 hk1 hS => ?_)
                obtain ⟨cn31, In31, Fn31⟩ := u
                obtain ⟨hP1, hD1⟩ := hB1
                rw [ht] at hP1
                have hP : va_P D vwCl (wX cI (D.1 99) zz g ad cn31 In31 Fn31) H1 := hP1
                have hD : va_D A (wX cI (D.1 99) zz g ad cn31 In31 Fn31) := hD1.weaken (fun _ _ _ h => hFc _ h)
                generalize H1 = H at hP hS ⊢
                have vh_31 : (fun r c2 I2 F2 => Fr [] [] [195, 301] cn27 In27 Fn27 c2 I2 F2 ∧ CBX c2 ∧ (True)) r_30 cn31 In31 Fn31 := wh_31
                obtain ⟨hfc31, hIn31, h_31⟩ := vh_31
                obtain rfl : cn27 = cn31 := (funext (fun k => hfc31.1 k List.not_mem_nil)).symm
                obtain rfl : In27 = In31 := (funext (fun k => hfc31.2.1 k List.not_mem_nil)).symm
                have hf31 : Fr [31, 32] [33] [195, 301] cn In Fn cn27 In27 Fn31 := Fr.mo (Fr.tr hf27 hfc31) (sbl rfl) (sbl rfl) (sbl rfl)
                replace hIn31 : CBXh cn27 := hIn31
                refine lv_pop hx hb dX5_readTerm_94 rfl ?_
                refine lv_goto (tgt := 5) hx hb dX5_readTerm_95 rfl ?_
                exact ih5  cn27 In27 Fn31 _ _ (show (cn27 32) - (cn27 31) < n5 by omega) ⟨(Fr.mo hf31 (sbl rfl) (sbl rfl) (sbl rfl)), hIn31, (show cn 31 ≤ (cn27 31) ∧ (cn27 31) ≤ (cn27 32) ∧ (cn27 32) ≤ cn 32 by omega)⟩ hP hD hS ls (lv_sub hl [1, 2] rfl)
              ·
                have tc_29 : (r_23.toInt : Int) = 47 := congrArg Int32.toInt c_29
                refine lv_bipush (v := 6) hx hb (oc_16 83 (aq_10 shX5_readTerm_73) sgb_6) kbc_6 ?_
                refine lv_goto (tgt := 90) hx hb (oc_167 85 (aq_12 shX5_readTerm_73) sgw_0_5) rfl ?_
                refine lv_iconst (v := 0) hx hb dX5_readTerm_90 kic_0 ?_
                have hFc := free_all hD hS hA
                refine va_calli (runV_xa (As := [.int 6, .int 0]) (rest := []) S (q_Tadd l D cI cB cZ zz qq vv bt g ad cn27 In27 Fn27 (ad 4 1) 6 0 H.size hIn27 (by omega) (by rw [hf27.2.2 199 (nml rfl)]; exact h9)) kV_RX5_75 hK hXS hS hFc hP hD _ (xf_7 (show (ad 4 1) < (cn27 6) by omega)) rfl rfl ⟨(by show 0 + 1 ≤ d + 1; omega), (by show 8 + (3 + 11) + 40 * 0 ≤ 40 * (d + 1); omega)⟩ ⟨Nat.le_of_ble_eq_true rfl, Nat.le_of_ble_eq_true rfl⟩ rfl hl.1 rfl (Nat.le_of_ble_eq_true rfl) dX5_readTerm_91) hS (fun q _ h => hFc q h) hFc (fun r_32 u t H1 locs ht hvm wh_33 hB1 hz1 hk1 hS => ?_)
                obtain ⟨cn33, In33, Fn33⟩ := u
                obtain ⟨hP1, hD1⟩ := hB1
                rw [ht] at hP1
                have hP : va_P D vwCl (wX cI (D.1 99) zz g ad cn33 In33 Fn33) H1 := hP1
                have hD : va_D A (wX cI (D.1 99) zz g ad cn33 In33 Fn33) := hD1.weaken (fun _ _ _ h => hFc _ h)
                generalize H1 = H at hP hS ⊢
                have vh_33 : (fun r c2 I2 F2 => Fr [] [] [195, 301] cn27 In27 Fn27 c2 I2 F2 ∧ CBX c2 ∧ (True)) r_32 cn33 In33 Fn33 := wh_33
                obtain ⟨hfc33, hIn33, h_33⟩ := vh_33
                obtain rfl : cn27 = cn33 := (funext (fun k => hfc33.1 k List.not_mem_nil)).symm
                obtain rfl : In27 = In33 := (funext (fun k => hfc33.2.1 k List.not_mem_nil)).symm
                have hf33 : Fr [31, 32] [33] [195, 301] cn In Fn cn27 In27 Fn33 := Fr.mo (Fr.tr hf27 hfc33) (sbl rfl) (sbl rfl) (sbl rfl)
                replace hIn33 : CBXh cn27 := hIn33
                refine lv_pop hx hb dX5_readTerm_94 rfl ?_
                refine lv_goto (tgt := 5) hx hb dX5_readTerm_95 rfl ?_
                exact ih5  cn27 In27 Fn33 _ _ (show (cn27 32) - (cn27 31) < n5 by omega) ⟨(Fr.mo hf33 (sbl rfl) (sbl rfl) (sbl rfl)), hIn33, (show cn 31 ≤ (cn27 31) ∧ (cn27 31) ≤ (cn27 32) ∧ (cn27 32) ≤ cn 32 by omega)⟩ hP hD hS ls (lv_sub hl [1, 2] rfl)
            ·
              have tc_28 : (r_23.toInt : Int) = 42 := congrArg Int32.toInt c_28
              refine lv_iconst (v := 5) hx hb (oc_8 73 shX5_readTerm_73) kic_5 ?_
              refine lv_goto (tgt := 90) hx hb (oc_167 74 (aq_1 shX5_readTerm_73) sgw_0_16) rfl ?_
              refine lv_iconst (v := 0) hx hb dX5_readTerm_90 kic_0 ?_
              have hFc := free_all hD hS hA
              refine va_calli (runV_xa (As := [.int 5, .int 0]) (rest := []) S (q_Tadd l D cI cB cZ zz qq vv bt g ad cn27 In27 Fn27 (ad 4 1) 5 0 H.size hIn27 (by omega) (by rw [hf27.2.2 199 (nml rfl)]; exact h9)) kV_RX5_75 hK hXS hS hFc hP hD _ (xf_7 (show (ad 4 1) < (cn27 6) by omega)) rfl rfl ⟨(by show 0 + 1 ≤ d + 1; omega), (by show 8 + (3 + 11) + 40 * 0 ≤ 40 * (d + 1); omega)⟩ ⟨Nat.le_of_ble_eq_true rfl, Nat.le_of_ble_eq_true rfl⟩ rfl hl.1 rfl (Nat.le_of_ble_eq_true rfl) dX5_readTerm_91) hS (fun q _ h => hFc q h) hFc (fun r_34 u t H1 locs ht hvm wh_35 hB1 hz1 hk1 hS => ?_)
              obtain ⟨cn35, In35, Fn35⟩ := u
              obtain ⟨hP1, hD1⟩ := hB1
              rw [ht] at hP1
              have hP : va_P D vwCl (wX cI (D.1 99) zz g ad cn35 In35 Fn35) H1 := hP1
              have hD : va_D A (wX cI (D.1 99) zz g ad cn35 In35 Fn35) := hD1.weaken (fun _ _ _ h => hFc _ h)
              generalize H1 = H at hP hS ⊢
              have vh_35 : (fun r c2 I2 F2 => Fr [] [] [195, 301] cn27 In27 Fn27 c2 I2 F2 ∧ CBX c2 ∧ (True)) r_34 cn35 In35 Fn35 := wh_35
              obtain ⟨hfc35, hIn35, h_35⟩ := vh_35
              obtain rfl : cn27 = cn35 := (funext (fun k => hfc35.1 k List.not_mem_nil)).symm
              obtain rfl : In27 = In35 := (funext (fun k => hfc35.2.1 k List.not_mem_nil)).symm
              have hf35 : Fr [31, 32] [33] [195, 301] cn In Fn cn27 In27 Fn35 := Fr.mo (Fr.tr hf27 hfc35) (sbl rfl) (sbl rfl) (sbl rfl)
              replace hIn35 : CBXh cn27 := hIn35
              refine lv_pop hx hb dX5_readTerm_94 rfl ?_
              refine lv_goto (tgt := 5) hx hb dX5_readTerm_95 rfl ?_
              exact ih5  cn27 In27 Fn35 _ _ (show (cn27 32) - (cn27 31) < n5 by omega) ⟨(Fr.mo hf35 (sbl rfl) (sbl rfl) (sbl rfl)), hIn35, (show cn 31 ≤ (cn27 31) ∧ (cn27 31) ≤ (cn27 32) ∧ (cn27 32) ≤ cn 32 by omega)⟩ hP hD hS ls (lv_sub hl [1, 2] rfl)
          ·
            have tc_22 : (r_20.toInt : Int) ≠ 47 := fun q => c_22 (Int32.toInt_inj.mp q)
            refine lv_aload_n hx hb (oc_42 34 (aq_9 shX5_readTerm_25)) rfl (lvA0 hl) ?_
            refine vp_callSi (runV_rxa (As := []) (rest := []) S (q_Rpeek l D cI cB cZ zz qq vv bt g ad c5 I5 F5  hI5 (by omega) (by omega) (by omega) (by omega)) kV_RX5_43 hK hXS hS hP 3 xo_3 rfl rfl ⟨(by show 0 + 1 ≤ d + 1; omega), (by show 8 + (1 + 11) + 40 * 0 ≤ 40 * (d + 1); omega)⟩ ⟨Nat.le_of_ble_eq_true rfl, Nat.le_of_ble_eq_true rfl⟩ rfl hl.1 rfl (Nat.le_of_ble_eq_true rfl) (oc_182 35 (aq_10 shX5_readTerm_25) uw_0_43)) (fun r_36 h_37 => ?_)
            refine lv_bipush (v := 37) hx hb (oc_16 38 (aq_13 shX5_readTerm_25) sgb_37) kbc_37 ?_
            refine lv_icmp_ne (tgt := 98) hx hb (oc_160 40 (aq_15 shX5_readTerm_25) sgw_0_58) rfl (fun c_38 => ?_) (fun c_38 => ?_)
            ·
              have tc_38 : (r_36.toInt : Int) ≠ 37 := fun q => c_38 (Int32.toInt_inj.mp q)
              exact W.vret hx hb hr (fun t ht hW => ⟨⟨(c5, I5, F5), rfl, ⟨(Fr.mo hfr5 (sbl rfl) (sbl rfl) (sbl rfl)), hI5, (by show cn 31 ≤ c5 31 ∧ c5 31 ≤ c5 32 ∧ c5 32 ≤ cn 32; show cn 31 ≤ (c5 31) ∧ (c5 31) ≤ (c5 32) ∧ (c5 32) ≤ cn 32; omega)⟩, by rw [ht]; exact hP, hD⟩, hS.F ht⟩) hS.2.2 (oc_177 98 shX5_readTerm_98)
            ·
              have tc_38 : (r_36.toInt : Int) = 37 := congrArg Int32.toInt c_38
              refine lv_aload_n hx hb (oc_42 43 (aq_18 shX5_readTerm_25)) rfl (lvA0 hl) ?_
              refine vp_callSi (runV_rxa (As := []) (rest := []) S (q_Rpeek l D cI cB cZ zz qq vv bt g ad c5 I5 F5  hI5 (by omega) (by omega) (by omega) (by omega)) kV_RX5_43 hK hXS hS hP 3 xo_3 rfl rfl ⟨(by show 0 + 1 ≤ d + 1; omega), (by show 8 + (1 + 11) + 40 * 0 ≤ 40 * (d + 1); omega)⟩ ⟨Nat.le_of_ble_eq_true rfl, Nat.le_of_ble_eq_true rfl⟩ rfl hl.1 rfl (Nat.le_of_ble_eq_true rfl) (oc_182 44 (aq_19 shX5_readTerm_25) uw_0_43)) (fun r_39 h_40 => ?_)
              refine lv_istore_n (lv' := [(2, .int r_39), (0, .ref (g 6)), (1, .int o)]) hx hb (oc_61 47 (aq_22 shX5_readTerm_25)) rfl hl (ltb rfl) rfl (fun ls hl => ?_)
              refine lv_aload_n hx hb (oc_42 48 (aq_23 shX5_readTerm_25)) rfl (lvA1 hl) ?_
              refine lv_dup hx hb (oc_89 49 shX5_readTerm_49) rfl ?_
              refine gf_RX5_31 S hK hP 3 xo_3 (v := .int (nI (c5 31))) rfl (oc_180 50 (aq_1 shX5_readTerm_49) uw_0_31) ?_
              refine lv_iconst (v := 1) hx hb (oc_4 53 (aq_4 shX5_readTerm_49)) kic_1 ?_
              refine lv_iadd hx hb (oc_96 54 (aq_5 shX5_readTerm_49)) ?_
              refine lv_topi (fun y_41 ey_41 => ?_)
              obtain rfl : y_41 = (nI ((c5 31) + 1)) := ey_41.trans (nI_add (c5 31) 1)
              refine pf_RX5_31 S hK hP hD hS 3 xo_3 (v := .int (nI ((c5 31) + 1))) (Nat.le_of_ble_eq_true rfl) rfl rfl (oc_181 55 (aq_6 shX5_readTerm_49) uw_0_31) (fun H locs hP hD hS => ?_)
              have hP : va_P D vwCl (wX cI (D.1 99) zz g ad (va_up c5 31 ((c5 31) + 1)) I5 F5) H := va_P_eq (xsf_3_3) hP
              have hD : va_D A (wX cI (D.1 99) zz g ad (va_up c5 31 ((c5 31) + 1)) I5 F5) := va_D_eq (xsf_3_3) hD
              refine lv_aload_n hx hb (oc_42 58 (aq_9 shX5_readTerm_49)) rfl (lvA1 hl) ?_
              refine lv_iload_n hx hb (oc_27 59 (aq_10 shX5_readTerm_49)) rfl (lvA2 hl) ?_
              have hFc := free_all hD hS hA
              refine va_callv (runV_xa (As := [.int o]) (rest := []) S (hSq ad (va_up c5 31 ((c5 31) + 1)) I5 F5 H.size (CBX.n (k := 31) (v := ((c5 31) + 1)) hI5 (by decide)) (show ad 4 2 = g 40 by omega) (show ad 4 1 < (c5 6) by omega) (show ((c5 31) + 1) ≤ (c5 32) by omega) (show (c5 32) ≤ 160 by omega) (by rw [hfr5.2.2 199 (nml rfl)]; exact h9)) kV_RX5_95 hK hXS hS hFc hP hD 3 xo_3 rfl rfl ⟨(by show d + 1 ≤ d + 1; omega), (by show 8 + (4 + 11) + 40 * d ≤ 40 * (d + 1); omega)⟩ ⟨Nat.le_of_ble_eq_true rfl, Nat.le_of_ble_eq_true rfl⟩ rfl hl.1 rfl (Nat.le_of_ble_eq_true rfl) (oc_182 60 (aq_11 shX5_readTerm_49) uw_0_95)) hS (fun q _ h => hFc q h) hFc (fun u t H1 locs ht hvm wh_43 hB1 hz1 hk1 hS => ?_)
              obtain ⟨cn43, In43, Fn43⟩ := u
              obtain ⟨hP1, hD1⟩ := hB1
              rw [ht] at hP1
              have hP : va_P D vwCl (wX cI (D.1 99) zz g ad cn43 In43 Fn43) H1 := hP1
              have hD : va_D A (wX cI (D.1 99) zz g ad cn43 In43 Fn43) := hD1.weaken (fun _ _ _ h => hFc _ h)
              generalize H1 = H at hP hS ⊢
              have vh_43 : (fun c2 I2 F2 => Fr [31, 32] [33] [195, 301] (va_up c5 31 ((c5 31) + 1)) I5 F5 c2 I2 F2 ∧ CBX c2 ∧ (((c5 31) + 1) ≤ c2 31 ∧ c2 31 ≤ c2 32 ∧ c2 32 ≤ (c5 32))) cn43 In43 Fn43 := wh_43
              obtain ⟨hfc43, hIn43, h_43⟩ := vh_43
              have hf43 : Fr [31, 32] [33] [195, 301] cn In Fn cn43 In43 Fn43 := Fr.mo (Fr.tr (Fr.c 31 hfr5) hfc43) (sbl rfl) (sbl rfl) (sbl rfl)
              replace hIn43 : CBXh cn43 := hIn43
              have : cn43 6 = (c5 6) := hfc43.1 6 (nml rfl)
              refine lv_aload_n hx hb (oc_42 63 (aq_14 shX5_readTerm_49)) rfl (lvA1 hl) ?_
              refine gf_RX5_20 S hK hP 3 xo_3 (v := .ref (ad 5 (ad 4 1))) rfl (oc_180 64 (aq_15 shX5_readTerm_49) uw_0_20) ?_
              refine lv_iload_n hx hb (oc_28 67 (aq_18 shX5_readTerm_49)) rfl (lvA0 hl) ?_
              refine lv_bipush (v := 42) hx hb (oc_16 68 (aq_19 shX5_readTerm_49) sgb_42) kbc_42 ?_
              refine lv_icmp_ne (tgt := 77) hx hb (oc_160 70 (aq_21 shX5_readTerm_49) sgw_0_7) rfl (fun c_44 => ?_) (fun c_44 => ?_)
              ·
                have tc_44 : (r_39.toInt : Int) ≠ 42 := fun q => c_44 (Int32.toInt_inj.mp q)
                refine lv_iload_n hx hb (oc_28 77 (aq_4 shX5_readTerm_73)) rfl (lvA0 hl) ?_
                refine lv_bipush (v := 47) hx hb (oc_16 78 (aq_5 shX5_readTerm_73) sgb_47) kbc_47 ?_
                refine lv_icmp_ne (tgt := 88) hx hb (oc_160 80 (aq_7 shX5_readTerm_73) sgw_0_8) rfl (fun c_45 => ?_) (fun c_45 => ?_)
                ·
                  have tc_45 : (r_39.toInt : Int) ≠ 47 := fun q => c_45 (Int32.toInt_inj.mp q)
                  refine lv_bipush (v := 7) hx hb (oc_16 88 (aq_15 shX5_readTerm_73) sgb_7) kbc_7 ?_
                  refine lv_iconst (v := 0) hx hb dX5_readTerm_90 kic_0 ?_
                  have hFc := free_all hD hS hA
                  refine va_calli (runV_xa (As := [.int 7, .int 0]) (rest := []) S (q_Tadd l D cI cB cZ zz qq vv bt g ad cn43 In43 Fn43 (ad 4 1) 7 0 H.size hIn43 (by omega) (by rw [hf43.2.2 199 (nml rfl)]; exact h9)) kV_RX5_75 hK hXS hS hFc hP hD _ (xf_7 (show (ad 4 1) < (cn43 6) by omega)) rfl rfl ⟨(by show 0 + 1 ≤ d + 1; omega), (by show 8 + (3 + 11) + 40 * 0 ≤ 40 * (d + 1); omega)⟩ ⟨Nat.le_of_ble_eq_true rfl, Nat.le_of_ble_eq_true rfl⟩ rfl hl.1 rfl (Nat.le_of_ble_eq_true rfl) dX5_readTerm_91) hS (fun q _ h => hFc q h) hFc (fun r_46 u t H1 locs ht hvm wh_47 hB1 hz1 hk1 hS => ?_)
                  obtain ⟨cn47, In47, Fn47⟩ := u
                  obtain ⟨hP1, hD1⟩ := hB1
                  rw [ht] at hP1
                  have hP : va_P D vwCl (wX cI (D.1 99) zz g ad cn47 In47 Fn47) H1 := hP1
                  have hD : va_D A (wX cI (D.1 99) zz g ad cn47 In47 Fn47) := hD1.weaken (fun _ _ _ h => hFc _ h)
                  generalize H1 = H at hP hS ⊢
                  have vh_47 : (fun r c2 I2 F2 => Fr [] [] [195, 301] cn43 In43 Fn43 c2 I2 F2 ∧ CBX c2 ∧ (True)) r_46 cn47 In47 Fn47 := wh_47
                  obtain ⟨hfc47, hIn47, h_47⟩ := vh_47
                  obtain rfl : cn43 = cn47 := (funext (fun k => hfc47.1 k List.not_mem_nil)).symm
                  obtain rfl : In43 = In47 := (funext (fun k => hfc47.2.1 k List.not_mem_nil)).symm
                  have hf47 : Fr [31, 32] [33] [195, 301] cn In Fn cn43 In43 Fn47 := Fr.mo (Fr.tr hf43 hfc47) (sbl rfl) (sbl rfl) (sbl rfl)
                  replace hIn47 : CBXh cn43 := hIn47
                  refine lv_pop hx hb dX5_readTerm_94 rfl ?_
                  refine lv_goto (tgt := 5) hx hb dX5_readTerm_95 rfl ?_
                  exact ih5  cn43 In43 Fn47 _ _ (show (cn43 32) - (cn43 31) < n5 by omega) ⟨(Fr.mo hf47 (sbl rfl) (sbl rfl) (sbl rfl)), hIn47, (show cn 31 ≤ (cn43 31) ∧ (cn43 31) ≤ (cn43 32) ∧ (cn43 32) ≤ cn 32 by omega)⟩ hP hD hS ls (lv_sub hl [1, 2] rfl)
                ·
                  have tc_45 : (r_39.toInt : Int) = 47 := congrArg Int32.toInt c_45
                  refine lv_bipush (v := 6) hx hb (oc_16 83 (aq_10 shX5_readTerm_73) sgb_6) kbc_6 ?_
                  refine lv_goto (tgt := 90) hx hb (oc_167 85 (aq_12 shX5_readTerm_73) sgw_0_5) rfl ?_
                  refine lv_iconst (v := 0) hx hb dX5_readTerm_90 kic_0 ?_
                  have hFc := free_all hD hS hA
                  refine va_calli (runV_xa (As := [.int 6, .int 0]) (rest := []) S (q_Tadd l D cI cB cZ zz qq vv bt g ad cn43 In43 Fn43 (ad 4 1) 6 0 H.size hIn43 (by omega) (by rw [hf43.2.2 199 (nml rfl)]; exact h9)) kV_RX5_75 hK hXS hS hFc hP hD _ (xf_7 (show (ad 4 1) < (cn43 6) by omega)) rfl rfl ⟨(by show 0 + 1 ≤ d + 1; omega), (by show 8 + (3 + 11) + 40 * 0 ≤ 40 * (d + 1); omega)⟩ ⟨Nat.le_of_ble_eq_true rfl, Nat.le_of_ble_eq_true rfl⟩ rfl hl.1 rfl (Nat.le_of_ble_eq_true rfl) dX5_readTerm_91) hS (fun q _ h => hFc q h) hFc (fun r_48 u t H1 locs ht hvm wh_49 hB1 hz1 hk1 hS => ?_)
                  obtain ⟨cn49, In49, Fn49⟩ := u
                  obtain ⟨hP1, hD1⟩ := hB1
                  rw [ht] at hP1
                  have hP : va_P D vwCl (wX cI (D.1 99) zz g ad cn49 In49 Fn49) H1 := hP1
                  have hD : va_D A (wX cI (D.1 99) zz g ad cn49 In49 Fn49) := hD1.weaken (fun _ _ _ h => hFc _ h)
                  generalize H1 = H at hP hS ⊢
                  have vh_49 : (fun r c2 I2 F2 => Fr [] [] [195, 301] cn43 In43 Fn43 c2 I2 F2 ∧ CBX c2 ∧ (True)) r_48 cn49 In49 Fn49 := wh_49
                  obtain ⟨hfc49, hIn49, h_49⟩ := vh_49
                  obtain rfl : cn43 = cn49 := (funext (fun k => hfc49.1 k List.not_mem_nil)).symm
                  obtain rfl : In43 = In49 := (funext (fun k => hfc49.2.1 k List.not_mem_nil)).symm
                  have hf49 : Fr [31, 32] [33] [195, 301] cn In Fn cn43 In43 Fn49 := Fr.mo (Fr.tr hf43 hfc49) (sbl rfl) (sbl rfl) (sbl rfl)
                  replace hIn49 : CBXh cn43 := hIn49
                  refine lv_pop hx hb dX5_readTerm_94 rfl ?_
                  refine lv_goto (tgt := 5) hx hb dX5_readTerm_95 rfl ?_
                  exact ih5  cn43 In43 Fn49 _ _ (show (cn43 32) - (cn43 31) < n5 by omega) ⟨(Fr.mo hf49 (sbl rfl) (sbl rfl) (sbl rfl)), hIn49, (show cn 31 ≤ (cn43 31) ∧ (cn43 31) ≤ (cn43 32) ∧ (cn43 32) ≤ cn 32 by omega)⟩ hP hD hS ls (lv_sub hl [1, 2] rfl)
              ·
                have tc_44 : (r_39.toInt : Int) = 42 := congrArg Int32.toInt c_44
                refine lv_iconst (v := 5) hx hb (oc_8 73 shX5_readTerm_73) kic_5 ?_
                refine lv_goto (tgt := 90) hx hb (oc_167 74 (aq_1 shX5_readTerm_73) sgw_0_16) rfl ?_
                refine lv_iconst (v := 0) hx hb dX5_readTerm_90 kic_0 ?_
                have hFc := free_all hD hS hA
                refine va_calli (runV_xa (As := [.int 5, .int 0]) (rest := []) S (q_Tadd l D cI cB cZ zz qq vv bt g ad cn43 In43 Fn43 (ad 4 1) 5 0 H.size hIn43 (by omega) (by rw [hf43.2.2 199 (nml rfl)]; exact h9)) kV_RX5_75 hK hXS hS hFc hP hD _ (xf_7 (show (ad 4 1) < (cn43 6) by omega)) rfl rfl ⟨(by show 0 + 1 ≤ d + 1; omega), (by show 8 + (3 + 11) + 40 * 0 ≤ 40 * (d + 1); omega)⟩ ⟨Nat.le_of_ble_eq_true rfl, Nat.le_of_ble_eq_true rfl⟩ rfl hl.1 rfl (Nat.le_of_ble_eq_true rfl) dX5_readTerm_91) hS (fun q _ h => hFc q h) hFc (fun r_50 u t H1 locs ht hvm wh_51 hB1 hz1 hk1 hS => ?_)
                obtain ⟨cn51, In51, Fn51⟩ := u
                obtain ⟨hP1, hD1⟩ := hB1
                rw [ht] at hP1
                have hP : va_P D vwCl (wX cI (D.1 99) zz g ad cn51 In51 Fn51) H1 := hP1
                have hD : va_D A (wX cI (D.1 99) zz g ad cn51 In51 Fn51) := hD1.weaken (fun _ _ _ h => hFc _ h)
                generalize H1 = H at hP hS ⊢
                have vh_51 : (fun r c2 I2 F2 => Fr [] [] [195, 301] cn43 In43 Fn43 c2 I2 F2 ∧ CBX c2 ∧ (True)) r_50 cn51 In51 Fn51 := wh_51
                obtain ⟨hfc51, hIn51, h_51⟩ := vh_51
                obtain rfl : cn43 = cn51 := (funext (fun k => hfc51.1 k List.not_mem_nil)).symm
                obtain rfl : In43 = In51 := (funext (fun k => hfc51.2.1 k List.not_mem_nil)).symm
                have hf51 : Fr [31, 32] [33] [195, 301] cn In Fn cn43 In43 Fn51 := Fr.mo (Fr.tr hf43 hfc51) (sbl rfl) (sbl rfl) (sbl rfl)
                replace hIn51 : CBXh cn43 := hIn51
                refine lv_pop hx hb dX5_readTerm_94 rfl ?_
                refine lv_goto (tgt := 5) hx hb dX5_readTerm_95 rfl ?_
                exact ih5  cn43 In43 Fn51 _ _ (show (cn43 32) - (cn43 31) < n5 by omega) ⟨(Fr.mo hf51 (sbl rfl) (sbl rfl) (sbl rfl)), hIn51, (show cn 31 ≤ (cn43 31) ∧ (cn43 31) ≤ (cn43 32) ∧ (cn43 32) ≤ cn 32 by omega)⟩ hP hD hS ls (lv_sub hl [1, 2] rfl)
  exact lp_5 _  cn2 In2 Fn2 _ _ (Nat.lt_succ_self _) ⟨(Fr.mo hf2 (sbl rfl) (sbl rfl) (sbl rfl)), hIn2, (show cn 31 ≤ (cn2 31) ∧ (cn2 31) ≤ (cn2 32) ∧ (cn2 32) ≤ cn 32 by omega)⟩ hP hD hS ls (lv_sub hl [0, 1] rfl)
set_option maxRecDepth 100000 in
set_option maxHeartbeats 4000000 in
theorem gq_GreadSum (l : Launch) (D : va_G) (cI cB cZ : ClassId) (zz qq vv : Nat) (bt : Nat → Int32) (g : Nat → Nat) (o : Int32) (d : Nat) (hd : 4 ≤ d ∧ d ≤ 60) (hSq : RDQ yX5_readTerm cX5_readTerm 3 l D cI cB cZ zz qq vv bt g o d) : RDQ yX5_readSum cX5_readSum 3 l D cI cB cZ zz qq vv bt g o (d + 1) := by
  intro ad cn In Fn sz hB hR h1 h3 h4 h9
  refine Met.ofW (cc := cX5_readSum) (maxL := 3) (ret := none) (by decide) rfl ?_
  intro p e s m args below meth c s₁ B hml hv
  obtain ⟨rfl, hsz, hP, hK, hD0, hXS⟩ := hv
  have hx := B.exec
  have hb := B.bytes
  have hr := B.returns
  have hts := atoms_spec (ws := (CWS yX5_readSum cX5_readSum 3 none)) B.pre
  have hown : s.vm.findClass RX5 = some m.cls := findClass_of_methodNamed B.named
  have hlocks := B.notSynchronized
  have S : SF p m c cX5_readSum 3 s ([.ref (g 6), .int o]).toArray RX5 := ⟨hx, hb, hml, hown, fun w h => hts w (List.mem_cons_of_mem _ h)⟩
  subst hsz
  have hD := hD0.self (sz := s.heap.size)
  generalize hAe : va_A (wX cI (D.1 99) zz g ad cn In Fn) s.heap.size = A at hD hXS ⊢
  have hA : ∀ q : Nat, s.heap.size ≤ q → A q := fun q h => by rw [← hAe]; exact Or.inr h
  have hS : va_S A s.heap s.heap [] := va_S.rf
  have hl := lv_entry ([.ref (g 6), .int o]) (n := 3) (Nat.le_of_ble_eq_true rfl)
  rw [lg_entry_eq]
  generalize (lg_sl ([.ref (g 6), .int o]) ++ List.replicate (3 - (lg_sl ([.ref (g 6), .int o])).length) Slot.unset).toArray = ls at hl ⊢
  have hl : lv_has ls 3 [(0, .ref (g 6)), (1, .int o)] := hl
  replace hB : CBXh cn := hB
  refine lv_aload_n hx hb (oc_42 0 shX5_readSum_0) rfl (lvA0 hl) ?_
  refine lv_iload_n hx hb (oc_27 1 (aq_1 shX5_readSum_0)) rfl (lvA1 hl) ?_
  have hFc := free_all hD hS hA
  refine va_callv (runV_xa (As := [.int o]) (rest := []) S (hSq ad cn In Fn s.heap.size hB (by omega) (by omega) (by omega) (by omega) h9) kV_RX5_92 hK hXS hS hFc hP hD 3 xo_3 rfl rfl ⟨(by show d + 1 ≤ d + 1; omega), (by show 8 + (3 + 11) + 40 * d ≤ 40 * (d + 1); omega)⟩ ⟨Nat.le_of_ble_eq_true rfl, Nat.le_of_ble_eq_true rfl⟩ rfl hl.1 rfl (Nat.le_of_ble_eq_true rfl) (oc_182 2 (aq_2 shX5_readSum_0) uw_0_92)) hS (fun q _ h => hFc q h) hFc (fun u t H1 locs ht hvm wh_2 hB1 hz1 hk1 hS => ?_)
  obtain ⟨cn2, In2, Fn2⟩ := u
  obtain ⟨hP1, hD1⟩ := hB1
  rw [ht] at hP1
  have hP : va_P D vwCl (wX cI (D.1 99) zz g ad cn2 In2 Fn2) H1 := hP1
  have hD : va_D A (wX cI (D.1 99) zz g ad cn2 In2 Fn2) := hD1.weaken (fun _ _ _ h => hFc _ h)
  generalize H1 = H at hP hS ⊢
  have vh_2 : (fun c2 I2 F2 => Fr [31, 32] [33] [195, 301] cn In Fn c2 I2 F2 ∧ CBX c2 ∧ ((cn 31) ≤ c2 31 ∧ c2 31 ≤ c2 32 ∧ c2 32 ≤ (cn 32))) cn2 In2 Fn2 := wh_2
  obtain ⟨hfc2, hIn2, h_2⟩ := vh_2
  have hf2 : Fr [31, 32] [33] [195, 301] cn In Fn cn2 In2 Fn2 := Fr.mo (Fr.tr (Fr.rf (cn := cn) (In := In) (Fn := Fn)) hfc2) (sbl rfl) (sbl rfl) (sbl rfl)
  replace hIn2 : CBXh cn2 := hIn2
  have : cn2 6 = (cn 6) := hfc2.1 6 (nml rfl)
  have lp_5 : ∀ (n : Nat)  (c5 : Nat → Nat) (I5 : Nat → Int32) (F5 : Nat → Nat → Int32) (H : Heap) (locs : List Loc) , c5 32 - c5 31 < n → (Fr [31, 32] [33] [195, 301] cn In Fn c5 I5 F5 ∧ CBX c5 ∧ (cn 31 ≤ c5 31 ∧ c5 31 ≤ c5 32 ∧ c5 32 ≤ cn 32)) → va_P D vwCl (wX cI (D.1 99) zz g ad c5 I5 F5) H → va_D A (wX cI (D.1 99) zz g ad c5 I5 F5) → va_S A s.heap H locs → ∀ ls : Array Slot, lv_has ls 3 [(0, .ref (g 6)), (1, .int o)] → W p l e (RM (d + 1) 0 0) s m ([.ref (g 6), .int o]).toArray below meth c H locs 0 0 (MQ below (va_Qv (fun (u : (Nat → Nat) × (Nat → Int32) × (Nat → Nat → Int32)) => (fun c2 I2 F2 => Fr [31, 32] [33] [195, 301] cn In Fn c2 I2 F2 ∧ CBX c2 ∧ (cn 31 ≤ c2 31 ∧ c2 31 ≤ c2 32 ∧ c2 32 ≤ cn 32)) u.1 u.2.1 u.2.2) (fun (u : (Nat → Nat) × (Nat → Int32) × (Nat → Nat → Int32)) (t : State) => va_P D vwCl (wX cI (D.1 99) zz g ad u.1 u.2.1 u.2.2) t.heap ∧ va_D A (wX cI (D.1 99) zz g ad u.1 u.2.1 u.2.2)) A) ([.ref (g 6), .int o]).toArray s 0 0 A) (F0 m 5 ls []) := by
    intro n5
    induction n5 with
    | zero => intros; omega
    | succ n5 ih5 =>
      intro  c5 I5 F5 H locs hmu5 hinv5 hP hD hS ls hl
      obtain ⟨hfr5, hI5, hx5_0⟩ := hinv5
      replace hI5 : CBXh c5 := hI5
      have : c5 6 = cn 6 := hfr5.1 6 (nml rfl)
      refine lv_aload_n hx hb (oc_42 5 (aq_5 shX5_readSum_0)) rfl (lvA0 hl) ?_
      refine gf_RX5_31 S hK hP 3 xo_3 (v := .int (nI (c5 31))) rfl (oc_180 6 (aq_6 shX5_readSum_0) uw_0_31) ?_
      refine lv_aload_n hx hb (oc_42 9 (aq_9 shX5_readSum_0)) rfl (lvA0 hl) ?_
      refine gf_RX5_34 S hK hP 3 xo_3 (v := .int (nI (c5 32))) rfl (oc_180 10 (aq_10 shX5_readSum_0) uw_0_34) ?_
      have : (nI (c5 31)).toInt = (((c5 31) : Nat) : Int) := nI_toInt (by omega)
      have : (nI (c5 32)).toInt = (((c5 32) : Nat) : Int) := nI_toInt (by omega)
      refine lv_icmp_ge (tgt := 77) hx hb (oc_162 13 (aq_13 shX5_readSum_0) sgw_0_64) rfl (fun c_3 => ?_) (fun c_3 => ?_)
      ·
        have tc_3 : ((nI (c5 32)).toInt : Int) ≤ (nI (c5 31)).toInt := Int32.le_iff_toInt_le.mp c_3
        exact W.vret hx hb hr (fun t ht hW => ⟨⟨(c5, I5, F5), rfl, ⟨(Fr.mo hfr5 (sbl rfl) (sbl rfl) (sbl rfl)), hI5, (by show cn 31 ≤ c5 31 ∧ c5 31 ≤ c5 32 ∧ c5 32 ≤ cn 32; show cn 31 ≤ (c5 31) ∧ (c5 31) ≤ (c5 32) ∧ (c5 32) ≤ cn 32; omega)⟩, by rw [ht]; exact hP, hD⟩, hS.F ht⟩) hS.2.2 (oc_177 77 (aq_4 shX5_readSum_73))
      ·
        have tc_3 : ((nI (c5 31)).toInt : Int) < (nI (c5 32)).toInt := Int32.lt_iff_toInt_lt.mp (Int32.not_le.mp c_3)
        refine lv_aload_n hx hb (oc_42 16 (aq_16 shX5_readSum_0)) rfl (lvA0 hl) ?_
        refine vp_callSi (runV_rxa (As := []) (rest := []) S (q_Rpeek l D cI cB cZ zz qq vv bt g ad c5 I5 F5  hI5 (by omega) (by omega) (by omega) (by omega)) kV_RX5_43 hK hXS hS hP 3 xo_3 rfl rfl ⟨(by show 0 + 1 ≤ d + 1; omega), (by show 8 + (1 + 11) + 40 * 0 ≤ 40 * (d + 1); omega)⟩ ⟨Nat.le_of_ble_eq_true rfl, Nat.le_of_ble_eq_true rfl⟩ rfl hl.1 rfl (Nat.le_of_ble_eq_true rfl) (oc_182 17 (aq_17 shX5_readSum_0) uw_0_43)) (fun r_4 h_5 => ?_)
        refine lv_bipush (v := 43) hx hb (oc_16 20 (aq_20 shX5_readSum_0) sgb_43) kbc_43 ?_
        refine lv_icmp_eq (tgt := 34) hx hb (oc_159 22 (aq_22 shX5_readSum_0) sgw_0_12) rfl (fun c_6 => ?_) (fun c_6 => ?_)
        ·
          have tc_6 : (r_4.toInt : Int) = 43 := congrArg Int32.toInt c_6
          refine lv_aload_n hx hb (oc_42 34 (aq_9 shX5_readSum_25)) rfl (lvA0 hl) ?_
          refine vp_callSi (runV_rxa (As := []) (rest := []) S (q_Rpeek l D cI cB cZ zz qq vv bt g ad c5 I5 F5  hI5 (by omega) (by omega) (by omega) (by omega)) kV_RX5_43 hK hXS hS hP 3 xo_3 rfl rfl ⟨(by show 0 + 1 ≤ d + 1; omega), (by show 8 + (1 + 11) + 40 * 0 ≤ 40 * (d + 1); omega)⟩ ⟨Nat.le_of_ble_eq_true rfl, Nat.le_of_ble_eq_true rfl⟩ rfl hl.1 rfl (Nat.le_of_ble_eq_true rfl) (oc_182 35 (aq_10 shX5_readSum_25) uw_0_43)) (fun r_7 h_8 => ?_)
          refine lv_bipush (v := 43) hx hb (oc_16 38 (aq_13 shX5_readSum_25) sgb_43) kbc_43 ?_
          refine lv_icmp_ne (tgt := 47) hx hb (oc_160 40 (aq_15 shX5_readSum_25) sgw_0_7) rfl (fun c_9 => ?_) (fun c_9 => ?_)
          ·
            have tc_9 : (r_7.toInt : Int) ≠ 43 := fun q => c_9 (Int32.toInt_inj.mp q)
            refine lv_iconst (v := 4) hx hb (oc_7 47 (aq_22 shX5_readSum_25)) kic_4 ?_
            refine lv_istore_n (lv' := [(2, .int 4), (0, .ref (g 6)), (1, .int o)]) hx hb dX5_readSum_48 rfl hl (ltb rfl) rfl (fun ls hl => ?_)
            refine lv_aload_n hx hb dX5_readSum_49 rfl (lvA1 hl) ?_
            refine lv_dup hx hb dX5_readSum_50 rfl ?_
            refine gf_RX5_31 S hK hP 3 xo_3 (v := .int (nI (c5 31))) rfl dX5_readSum_51 ?_
            refine lv_iconst (v := 1) hx hb dX5_readSum_54 kic_1 ?_
            refine lv_iadd hx hb dX5_readSum_55 ?_
            refine lv_topi (fun y_10 ey_10 => ?_)
            obtain rfl : y_10 = (nI ((c5 31) + 1)) := ey_10.trans (nI_add (c5 31) 1)
            refine pf_RX5_31 S hK hP hD hS 3 xo_3 (v := .int (nI ((c5 31) + 1))) (Nat.le_of_ble_eq_true rfl) rfl rfl dX5_readSum_56 (fun H locs hP hD hS => ?_)
            have hP : va_P D vwCl (wX cI (D.1 99) zz g ad (va_up c5 31 ((c5 31) + 1)) I5 F5) H := va_P_eq (xsf_3_3) hP
            have hD : va_D A (wX cI (D.1 99) zz g ad (va_up c5 31 ((c5 31) + 1)) I5 F5) := va_D_eq (xsf_3_3) hD
            refine lv_aload_n hx hb dX5_readSum_59 rfl (lvA1 hl) ?_
            refine lv_iload_n hx hb dX5_readSum_60 rfl (lvA2 hl) ?_
            have hFc := free_all hD hS hA
            refine va_callv (runV_xa (As := [.int o]) (rest := []) S (hSq ad (va_up c5 31 ((c5 31) + 1)) I5 F5 H.size (CBX.n (k := 31) (v := ((c5 31) + 1)) hI5 (by decide)) (show ad 4 2 = g 40 by omega) (show ad 4 1 < (c5 6) by omega) (show ((c5 31) + 1) ≤ (c5 32) by omega) (show (c5 32) ≤ 160 by omega) (by rw [hfr5.2.2 199 (nml rfl)]; exact h9)) kV_RX5_92 hK hXS hS hFc hP hD 3 xo_3 rfl rfl ⟨(by show d + 1 ≤ d + 1; omega), (by show 8 + (3 + 11) + 40 * d ≤ 40 * (d + 1); omega)⟩ ⟨Nat.le_of_ble_eq_true rfl, Nat.le_of_ble_eq_true rfl⟩ rfl hl.1 rfl (Nat.le_of_ble_eq_true rfl) dX5_readSum_61) hS (fun q _ h => hFc q h) hFc (fun u t H1 locs ht hvm wh_12 hB1 hz1 hk1 hS => ?_)
            obtain ⟨cn12, In12, Fn12⟩ := u
            obtain ⟨hP1, hD1⟩ := hB1
            rw [ht] at hP1
            have hP : va_P D vwCl (wX cI (D.1 99) zz g ad cn12 In12 Fn12) H1 := hP1
            have hD : va_D A (wX cI (D.1 99) zz g ad cn12 In12 Fn12) := hD1.weaken (fun _ _ _ h => hFc _ h)
            generalize H1 = H at hP hS ⊢
            have vh_12 : (fun c2 I2 F2 => Fr [31, 32] [33] [195, 301] (va_up c5 31 ((c5 31) + 1)) I5 F5 c2 I2 F2 ∧ CBX c2 ∧ (((c5 31) + 1) ≤ c2 31 ∧ c2 31 ≤ c2 32 ∧ c2 32 ≤ (c5 32))) cn12 In12 Fn12 := wh_12
            obtain ⟨hfc12, hIn12, h_12⟩ := vh_12
            have hf12 : Fr [31, 32] [33] [195, 301] cn In Fn cn12 In12 Fn12 := Fr.mo (Fr.tr (Fr.c 31 hfr5) hfc12) (sbl rfl) (sbl rfl) (sbl rfl)
            replace hIn12 : CBXh cn12 := hIn12
            have : cn12 6 = (c5 6) := hfc12.1 6 (nml rfl)
            refine lv_aload_n hx hb dX5_readSum_64 rfl (lvA1 hl) ?_
            refine gf_RX5_20 S hK hP 3 xo_3 (v := .ref (ad 5 (ad 4 1))) rfl dX5_readSum_65 ?_
            refine lv_iload_n hx hb dX5_readSum_68 rfl (lvA0 hl) ?_
            refine lv_iconst (v := 0) hx hb dX5_readSum_69 kic_0 ?_
            have hFc := free_all hD hS hA
            refine va_calli (runV_xa (As := [.int 4, .int 0]) (rest := []) S (q_Tadd l D cI cB cZ zz qq vv bt g ad cn12 In12 Fn12 (ad 4 1) 4 0 H.size hIn12 (by omega) (by rw [hf12.2.2 199 (nml rfl)]; exact h9)) kV_RX5_75 hK hXS hS hFc hP hD _ (xf_7 (show (ad 4 1) < (cn12 6) by omega)) rfl rfl ⟨(by show 0 + 1 ≤ d + 1; omega), (by show 8 + (3 + 11) + 40 * 0 ≤ 40 * (d + 1); omega)⟩ ⟨Nat.le_of_ble_eq_true rfl, Nat.le_of_ble_eq_true rfl⟩ rfl hl.1 rfl (Nat.le_of_ble_eq_true rfl) dX5_readSum_70) hS (fun q _ h => hFc q h) hFc (fun r_13 u t H1 locs ht hvm wh_14 hB1 hz1 hk1 hS => ?_)
            obtain ⟨cn14, In14, Fn14⟩ := u
            obtain ⟨hP1, hD1⟩ := hB1
            rw [ht] at hP1
            have hP : va_P D vwCl (wX cI (D.1 99) zz g ad cn14 In14 Fn14) H1 := hP1
            have hD : va_D A (wX cI (D.1 99) zz g ad cn14 In14 Fn14) := hD1.weaken (fun _ _ _ h => hFc _ h)
            generalize H1 = H at hP hS ⊢
            have vh_14 : (fun r c2 I2 F2 => Fr [] [] [195, 301] cn12 In12 Fn12 c2 I2 F2 ∧ CBX c2 ∧ (True)) r_13 cn14 In14 Fn14 := wh_14
            obtain ⟨hfc14, hIn14, h_14⟩ := vh_14
            obtain rfl : cn12 = cn14 := (funext (fun k => hfc14.1 k List.not_mem_nil)).symm
            obtain rfl : In12 = In14 := (funext (fun k => hfc14.2.1 k List.not_mem_nil)).symm
            have hf14 : Fr [31, 32] [33] [195, 301] cn In Fn cn12 In12 Fn14 := Fr.mo (Fr.tr hf12 hfc14) (sbl rfl) (sbl rfl) (sbl rfl)
            replace hIn14 : CBXh cn12 := hIn14
            refine lv_pop hx hb dX5_readSum_73 rfl ?_
            refine lv_goto (tgt := 5) hx hb dX5_readSum_74 rfl ?_
            exact ih5  cn12 In12 Fn14 _ _ (show (cn12 32) - (cn12 31) < n5 by omega) ⟨(Fr.mo hf14 (sbl rfl) (sbl rfl) (sbl rfl)), hIn14, (show cn 31 ≤ (cn12 31) ∧ (cn12 31) ≤ (cn12 32) ∧ (cn12 32) ≤ cn 32 by omega)⟩ hP hD hS ls (lv_sub hl [1, 2] rfl)
          ·
            have tc_9 : (r_7.toInt : Int) = 43 := congrArg Int32.toInt c_9
            refine lv_iconst (v := 3) hx hb (oc_6 43 (aq_18 shX5_readSum_25)) kic_3 ?_
            refine lv_goto (tgt := 48) hx hb (oc_167 44 (aq_19 shX5_readSum_25) sgw_0_4) rfl ?_
            refine lv_istore_n (lv' := [(2, .int 3), (0, .ref (g 6)), (1, .int o)]) hx hb dX5_readSum_48 rfl hl (ltb rfl) rfl (fun ls hl => ?_)
            refine lv_aload_n hx hb dX5_readSum_49 rfl (lvA1 hl) ?_
            refine lv_dup hx hb dX5_readSum_50 rfl ?_
            refine gf_RX5_31 S hK hP 3 xo_3 (v := .int (nI (c5 31))) rfl dX5_readSum_51 ?_
            refine lv_iconst (v := 1) hx hb dX5_readSum_54 kic_1 ?_
            refine lv_iadd hx hb dX5_readSum_55 ?_
            refine lv_topi (fun y_15 ey_15 => ?_)
            obtain rfl : y_15 = (nI ((c5 31) + 1)) := ey_15.trans (nI_add (c5 31) 1)
            refine pf_RX5_31 S hK hP hD hS 3 xo_3 (v := .int (nI ((c5 31) + 1))) (Nat.le_of_ble_eq_true rfl) rfl rfl dX5_readSum_56 (fun H locs hP hD hS => ?_)
            have hP : va_P D vwCl (wX cI (D.1 99) zz g ad (va_up c5 31 ((c5 31) + 1)) I5 F5) H := va_P_eq (xsf_3_3) hP
            have hD : va_D A (wX cI (D.1 99) zz g ad (va_up c5 31 ((c5 31) + 1)) I5 F5) := va_D_eq (xsf_3_3) hD
            refine lv_aload_n hx hb dX5_readSum_59 rfl (lvA1 hl) ?_
            refine lv_iload_n hx hb dX5_readSum_60 rfl (lvA2 hl) ?_
            have hFc := free_all hD hS hA
            refine va_callv (runV_xa (As := [.int o]) (rest := []) S (hSq ad (va_up c5 31 ((c5 31) + 1)) I5 F5 H.size (CBX.n (k := 31) (v := ((c5 31) + 1)) hI5 (by decide)) (show ad 4 2 = g 40 by omega) (show ad 4 1 < (c5 6) by omega) (show ((c5 31) + 1) ≤ (c5 32) by omega) (show (c5 32) ≤ 160 by omega) (by rw [hfr5.2.2 199 (nml rfl)]; exact h9)) kV_RX5_92 hK hXS hS hFc hP hD 3 xo_3 rfl rfl ⟨(by show d + 1 ≤ d + 1; omega), (by show 8 + (3 + 11) + 40 * d ≤ 40 * (d + 1); omega)⟩ ⟨Nat.le_of_ble_eq_true rfl, Nat.le_of_ble_eq_true rfl⟩ rfl hl.1 rfl (Nat.le_of_ble_eq_true rfl) dX5_readSum_61) hS (fun q _ h => hFc q h) hFc (fun u t H1 locs ht hvm wh_17 hB1 hz1 hk1 hS => ?_)
            obtain ⟨cn17, In17, Fn17⟩ := u
            obtain ⟨hP1, hD1⟩ := hB1
            rw [ht] at hP1
            have hP : va_P D vwCl (wX cI (D.1 99) zz g ad cn17 In17 Fn17) H1 := hP1
            have hD : va_D A (wX cI (D.1 99) zz g ad cn17 In17 Fn17) := hD1.weaken (fun _ _ _ h => hFc _ h)
            generalize H1 = H at hP hS ⊢
            have vh_17 : (fun c2 I2 F2 => Fr [31, 32] [33] [195, 301] (va_up c5 31 ((c5 31) + 1)) I5 F5 c2 I2 F2 ∧ CBX c2 ∧ (((c5 31) + 1) ≤ c2 31 ∧ c2 31 ≤ c2 32 ∧ c2 32 ≤ (c5 32))) cn17 In17 Fn17 := wh_17
            obtain ⟨hfc17, hIn17, h_17⟩ := vh_17
            have hf17 : Fr [31, 32] [33] [195, 301] cn In Fn cn17 In17 Fn17 := Fr.mo (Fr.tr (Fr.c 31 hfr5) hfc17) (sbl rfl) (sbl rfl) (sbl rfl)
            replace hIn17 : CBXh cn17 := hIn17
            have : cn17 6 = (c5 6) := hfc17.1 6 (nml rfl)
            refine lv_aload_n hx hb dX5_readSum_64 rfl (lvA1 hl) ?_
            refine gf_RX5_20 S hK hP 3 xo_3 (v := .ref (ad 5 (ad 4 1))) rfl dX5_readSum_65 ?_
            refine lv_iload_n hx hb dX5_readSum_68 rfl (lvA0 hl) ?_
            refine lv_iconst (v := 0) hx hb dX5_readSum_69 kic_0 ?_
            have hFc := free_all hD hS hA
            refine va_calli (runV_xa (As := [.int 3, .int 0]) (rest := []) S (q_Tadd l D cI cB cZ zz qq vv bt g ad cn17 In17 Fn17 (ad 4 1) 3 0 H.size hIn17 (by omega) (by rw [hf17.2.2 199 (nml rfl)]; exact h9)) kV_RX5_75 hK hXS hS hFc hP hD _ (xf_7 (show (ad 4 1) < (cn17 6) by omega)) rfl rfl ⟨(by show 0 + 1 ≤ d + 1; omega), (by show 8 + (3 + 11) + 40 * 0 ≤ 40 * (d + 1); omega)⟩ ⟨Nat.le_of_ble_eq_true rfl, Nat.le_of_ble_eq_true rfl⟩ rfl hl.1 rfl (Nat.le_of_ble_eq_true rfl) dX5_readSum_70) hS (fun q _ h => hFc q h) hFc (fun r_18 u t H1 locs ht hvm wh_19 hB1 hz1 hk1 hS => ?_)
            obtain ⟨cn19, In19, Fn19⟩ := u
            obtain ⟨hP1, hD1⟩ := hB1
            rw [ht] at hP1
            have hP : va_P D vwCl (wX cI (D.1 99) zz g ad cn19 In19 Fn19) H1 := hP1
            have hD : va_D A (wX cI (D.1 99) zz g ad cn19 In19 Fn19) := hD1.weaken (fun _ _ _ h => hFc _ h)
            generalize H1 = H at hP hS ⊢
            have vh_19 : (fun r c2 I2 F2 => Fr [] [] [195, 301] cn17 In17 Fn17 c2 I2 F2 ∧ CBX c2 ∧ (True)) r_18 cn19 In19 Fn19 := wh_19
            obtain ⟨hfc19, hIn19, h_19⟩ := vh_19
            obtain rfl : cn17 = cn19 := (funext (fun k => hfc19.1 k List.not_mem_nil)).symm
            obtain rfl : In17 = In19 := (funext (fun k => hfc19.2.1 k List.not_mem_nil)).symm
            have hf19 : Fr [31, 32] [33] [195, 301] cn In Fn cn17 In17 Fn19 := Fr.mo (Fr.tr hf17 hfc19) (sbl rfl) (sbl rfl) (sbl rfl)
            replace hIn19 : CBXh cn17 := hIn19
            refine lv_pop hx hb dX5_readSum_73 rfl ?_
            refine lv_goto (tgt := 5) hx hb dX5_readSum_74 rfl ?_
            exact ih5  cn17 In17 Fn19 _ _ (show (cn17 32) - (cn17 31) < n5 by omega) ⟨(Fr.mo hf19 (sbl rfl) (sbl rfl) (sbl rfl)), hIn19, (show cn 31 ≤ (cn17 31) ∧ (cn17 31) ≤ (cn17 32) ∧ (cn17 32) ≤ cn 32 by omega)⟩ hP hD hS ls (lv_sub hl [1, 2] rfl)
        ·
          have tc_6 : (r_4.toInt : Int) ≠ 43 := fun q => c_6 (Int32.toInt_inj.mp q)
          refine lv_aload_n hx hb (oc_42 25 shX5_readSum_25) rfl (lvA0 hl) ?_
          refine vp_callSi (runV_rxa (As := []) (rest := []) S (q_Rpeek l D cI cB cZ zz qq vv bt g ad c5 I5 F5  hI5 (by omega) (by omega) (by omega) (by omega)) kV_RX5_43 hK hXS hS hP 3 xo_3 rfl rfl ⟨(by show 0 + 1 ≤ d + 1; omega), (by show 8 + (1 + 11) + 40 * 0 ≤ 40 * (d + 1); omega)⟩ ⟨Nat.le_of_ble_eq_true rfl, Nat.le_of_ble_eq_true rfl⟩ rfl hl.1 rfl (Nat.le_of_ble_eq_true rfl) (oc_182 26 (aq_1 shX5_readSum_25) uw_0_43)) (fun r_20 h_21 => ?_)
          refine lv_bipush (v := 45) hx hb (oc_16 29 (aq_4 shX5_readSum_25) sgb_45) kbc_45 ?_
          refine lv_icmp_ne (tgt := 77) hx hb (oc_160 31 (aq_6 shX5_readSum_25) sgw_0_46) rfl (fun c_22 => ?_) (fun c_22 => ?_)
          ·
            have tc_22 : (r_20.toInt : Int) ≠ 45 := fun q => c_22 (Int32.toInt_inj.mp q)
            exact W.vret hx hb hr (fun t ht hW => ⟨⟨(c5, I5, F5), rfl, ⟨(Fr.mo hfr5 (sbl rfl) (sbl rfl) (sbl rfl)), hI5, (by show cn 31 ≤ c5 31 ∧ c5 31 ≤ c5 32 ∧ c5 32 ≤ cn 32; show cn 31 ≤ (c5 31) ∧ (c5 31) ≤ (c5 32) ∧ (c5 32) ≤ cn 32; omega)⟩, by rw [ht]; exact hP, hD⟩, hS.F ht⟩) hS.2.2 (oc_177 77 (aq_4 shX5_readSum_73))
          ·
            have tc_22 : (r_20.toInt : Int) = 45 := congrArg Int32.toInt c_22
            refine lv_aload_n hx hb (oc_42 34 (aq_9 shX5_readSum_25)) rfl (lvA0 hl) ?_
            refine vp_callSi (runV_rxa (As := []) (rest := []) S (q_Rpeek l D cI cB cZ zz qq vv bt g ad c5 I5 F5  hI5 (by omega) (by omega) (by omega) (by omega)) kV_RX5_43 hK hXS hS hP 3 xo_3 rfl rfl ⟨(by show 0 + 1 ≤ d + 1; omega), (by show 8 + (1 + 11) + 40 * 0 ≤ 40 * (d + 1); omega)⟩ ⟨Nat.le_of_ble_eq_true rfl, Nat.le_of_ble_eq_true rfl⟩ rfl hl.1 rfl (Nat.le_of_ble_eq_true rfl) (oc_182 35 (aq_10 shX5_readSum_25) uw_0_43)) (fun r_23 h_24 => ?_)
            refine lv_bipush (v := 43) hx hb (oc_16 38 (aq_13 shX5_readSum_25) sgb_43) kbc_43 ?_
            refine lv_icmp_ne (tgt := 47) hx hb (oc_160 40 (aq_15 shX5_readSum_25) sgw_0_7) rfl (fun c_25 => ?_) (fun c_25 => ?_)
            ·
              have tc_25 : (r_23.toInt : Int) ≠ 43 := fun q => c_25 (Int32.toInt_inj.mp q)
              refine lv_iconst (v := 4) hx hb (oc_7 47 (aq_22 shX5_readSum_25)) kic_4 ?_
              refine lv_istore_n (lv' := [(2, .int 4), (0, .ref (g 6)), (1, .int o)]) hx hb dX5_readSum_48 rfl hl (ltb rfl) rfl (fun ls hl => ?_)
              refine lv_aload_n hx hb dX5_readSum_49 rfl (lvA1 hl) ?_
              refine lv_dup hx hb dX5_readSum_50 rfl ?_
              refine gf_RX5_31 S hK hP 3 xo_3 (v := .int (nI (c5 31))) rfl dX5_readSum_51 ?_
              refine lv_iconst (v := 1) hx hb dX5_readSum_54 kic_1 ?_
              refine lv_iadd hx hb dX5_readSum_55 ?_
              refine lv_topi (fun y_26 ey_26 => ?_)
              obtain rfl : y_26 = (nI ((c5 31) + 1)) := ey_26.trans (nI_add (c5 31) 1)
              refine pf_RX5_31 S hK hP hD hS 3 xo_3 (v := .int (nI ((c5 31) + 1))) (Nat.le_of_ble_eq_true rfl) rfl rfl dX5_readSum_56 (fun H locs hP hD hS => ?_)
              have hP : va_P D vwCl (wX cI (D.1 99) zz g ad (va_up c5 31 ((c5 31) + 1)) I5 F5) H := va_P_eq (xsf_3_3) hP
              have hD : va_D A (wX cI (D.1 99) zz g ad (va_up c5 31 ((c5 31) + 1)) I5 F5) := va_D_eq (xsf_3_3) hD
              refine lv_aload_n hx hb dX5_readSum_59 rfl (lvA1 hl) ?_
              refine lv_iload_n hx hb dX5_readSum_60 rfl (lvA2 hl) ?_
              have hFc := free_all hD hS hA
              refine va_callv (runV_xa (As := [.int o]) (rest := []) S (hSq ad (va_up c5 31 ((c5 31) + 1)) I5 F5 H.size (CBX.n (k := 31) (v := ((c5 31) + 1)) hI5 (by decide)) (show ad 4 2 = g 40 by omega) (show ad 4 1 < (c5 6) by omega) (show ((c5 31) + 1) ≤ (c5 32) by omega) (show (c5 32) ≤ 160 by omega) (by rw [hfr5.2.2 199 (nml rfl)]; exact h9)) kV_RX5_92 hK hXS hS hFc hP hD 3 xo_3 rfl rfl ⟨(by show d + 1 ≤ d + 1; omega), (by show 8 + (3 + 11) + 40 * d ≤ 40 * (d + 1); omega)⟩ ⟨Nat.le_of_ble_eq_true rfl, Nat.le_of_ble_eq_true rfl⟩ rfl hl.1 rfl (Nat.le_of_ble_eq_true rfl) dX5_readSum_61) hS (fun q _ h => hFc q h) hFc (fun u t H1 locs ht hvm wh_28 hB1 hz1 hk1 hS => ?_)
              obtain ⟨cn28, In28, Fn28⟩ := u
              obtain ⟨hP1, hD1⟩ := hB1
              rw [ht] at hP1
              have hP : va_P D vwCl (wX cI (D.1 99) zz g ad cn28 In28 Fn28) H1 := hP1
              have hD : va_D A (wX cI (D.1 99) zz g ad cn28 In28 Fn28) := hD1.weaken (fun _ _ _ h => hFc _ h)
              generalize H1 = H at hP hS ⊢
              have vh_28 : (fun c2 I2 F2 => Fr [31, 32] [33] [195, 301] (va_up c5 31 ((c5 31) + 1)) I5 F5 c2 I2 F2 ∧ CBX c2 ∧ (((c5 31) + 1) ≤ c2 31 ∧ c2 31 ≤ c2 32 ∧ c2 32 ≤ (c5 32))) cn28 In28 Fn28 := wh_28
              obtain ⟨hfc28, hIn28, h_28⟩ := vh_28
              have hf28 : Fr [31, 32] [33] [195, 301] cn In Fn cn28 In28 Fn28 := Fr.mo (Fr.tr (Fr.c 31 hfr5) hfc28) (sbl rfl) (sbl rfl) (sbl rfl)
              replace hIn28 : CBXh cn28 := hIn28
              have : cn28 6 = (c5 6) := hfc28.1 6 (nml rfl)
              refine lv_aload_n hx hb dX5_readSum_64 rfl (lvA1 hl) ?_
              refine gf_RX5_20 S hK hP 3 xo_3 (v := .ref (ad 5 (ad 4 1))) rfl dX5_readSum_65 ?_
              refine lv_iload_n hx hb dX5_readSum_68 rfl (lvA0 hl) ?_
              refine lv_iconst (v := 0) hx hb dX5_readSum_69 kic_0 ?_
              have hFc := free_all hD hS hA
              refine va_calli (runV_xa (As := [.int 4, .int 0]) (rest := []) S (q_Tadd l D cI cB cZ zz qq vv bt g ad cn28 In28 Fn28 (ad 4 1) 4 0 H.size hIn28 (by omega) (by rw [hf28.2.2 199 (nml rfl)]; exact h9)) kV_RX5_75 hK hXS hS hFc hP hD _ (xf_7 (show (ad 4 1) < (cn28 6) by omega)) rfl rfl ⟨(by show 0 + 1 ≤ d + 1; omega), (by show 8 + (3 + 11) + 40 * 0 ≤ 40 * (d + 1); omega)⟩ ⟨Nat.le_of_ble_eq_true rfl, Nat.le_of_ble_eq_true rfl⟩ rfl hl.1 rfl (Nat.le_of_ble_eq_true rfl) dX5_readSum_70) hS (fun q _ h => hFc q h) hFc (fun r_29 u t H1 locs ht hvm wh_30 hB1 hz1 hk1 hS => ?_)
              obtain ⟨cn30, In30, Fn30⟩ := u
              obtain ⟨hP1, hD1⟩ := hB1
              rw [ht] at hP1
              have hP : va_P D vwCl (wX cI (D.1 99) zz g ad cn30 In30 Fn30) H1 := hP1
              have hD : va_D A (wX cI (D.1 99) zz g ad cn30 In30 Fn30) := hD1.weaken (fun _ _ _ h => hFc _ h)
              generalize H1 = H at hP hS ⊢
              have vh_30 : (fun r c2 I2 F2 => Fr [] [] [195, 301] cn28 In28 Fn28 c2 I2 F2 ∧ CBX c2 ∧ (True)) r_29 cn30 In30 Fn30 := wh_30
              obtain ⟨hfc30, hIn30, h_30⟩ := vh_30
              obtain rfl : cn28 = cn30 := (funext (fun k => hfc30.1 k List.not_mem_nil)).symm
              obtain rfl : In28 = In30 := (funext (fun k => hfc30.2.1 k List.not_mem_nil)).symm
              have hf30 : Fr [31, 32] [33] [195, 301] cn In Fn cn28 In28 Fn30 := Fr.mo (Fr.tr hf28 hfc30) (sbl rfl) (sbl rfl) (sbl rfl)
              replace hIn30 : CBXh cn28 := hIn30
              refine lv_pop hx hb dX5_readSum_73 rfl ?_
              refine lv_goto (tgt := 5) hx hb dX5_readSum_74 rfl ?_
              exact ih5  cn28 In28 Fn30 _ _ (show (cn28 32) - (cn28 31) < n5 by omega) ⟨(Fr.mo hf30 (sbl rfl) (sbl rfl) (sbl rfl)), hIn30, (show cn 31 ≤ (cn28 31) ∧ (cn28 31) ≤ (cn28 32) ∧ (cn28 32) ≤ cn 32 by omega)⟩ hP hD hS ls (lv_sub hl [1, 2] rfl)
            ·
              have tc_25 : (r_23.toInt : Int) = 43 := congrArg Int32.toInt c_25
              refine lv_iconst (v := 3) hx hb (oc_6 43 (aq_18 shX5_readSum_25)) kic_3 ?_
              refine lv_goto (tgt := 48) hx hb (oc_167 44 (aq_19 shX5_readSum_25) sgw_0_4) rfl ?_
              refine lv_istore_n (lv' := [(2, .int 3), (0, .ref (g 6)), (1, .int o)]) hx hb dX5_readSum_48 rfl hl (ltb rfl) rfl (fun ls hl => ?_)
              refine lv_aload_n hx hb dX5_readSum_49 rfl (lvA1 hl) ?_
              refine lv_dup hx hb dX5_readSum_50 rfl ?_
              refine gf_RX5_31 S hK hP 3 xo_3 (v := .int (nI (c5 31))) rfl dX5_readSum_51 ?_
              refine lv_iconst (v := 1) hx hb dX5_readSum_54 kic_1 ?_
              refine lv_iadd hx hb dX5_readSum_55 ?_
              refine lv_topi (fun y_31 ey_31 => ?_)
              obtain rfl : y_31 = (nI ((c5 31) + 1)) := ey_31.trans (nI_add (c5 31) 1)
              refine pf_RX5_31 S hK hP hD hS 3 xo_3 (v := .int (nI ((c5 31) + 1))) (Nat.le_of_ble_eq_true rfl) rfl rfl dX5_readSum_56 (fun H locs hP hD hS => ?_)
              have hP : va_P D vwCl (wX cI (D.1 99) zz g ad (va_up c5 31 ((c5 31) + 1)) I5 F5) H := va_P_eq (xsf_3_3) hP
              have hD : va_D A (wX cI (D.1 99) zz g ad (va_up c5 31 ((c5 31) + 1)) I5 F5) := va_D_eq (xsf_3_3) hD
              refine lv_aload_n hx hb dX5_readSum_59 rfl (lvA1 hl) ?_
              refine lv_iload_n hx hb dX5_readSum_60 rfl (lvA2 hl) ?_
              have hFc := free_all hD hS hA
              refine va_callv (runV_xa (As := [.int o]) (rest := []) S (hSq ad (va_up c5 31 ((c5 31) + 1)) I5 F5 H.size (CBX.n (k := 31) (v := ((c5 31) + 1)) hI5 (by decide)) (show ad 4 2 = g 40 by omega) (show ad 4 1 < (c5 6) by omega) (show ((c5 31) + 1) ≤ (c5 32) by omega) (show (c5 32) ≤ 160 by omega) (by rw [hfr5.2.2 199 (nml rfl)]; exact h9)) kV_RX5_92 hK hXS hS hFc hP hD 3 xo_3 rfl rfl ⟨(by show d + 1 ≤ d + 1; omega), (by show 8 + (3 + 11) + 40 * d ≤ 40 * (d + 1); omega)⟩ ⟨Nat.le_of_ble_eq_true rfl, Nat.le_of_ble_eq_true rfl⟩ rfl hl.1 rfl (Nat.le_of_ble_eq_true rfl) dX5_readSum_61) hS (fun q _ h => hFc q h) hFc (fun u t H1 locs ht hvm wh_33 hB1 hz1 hk1 hS => ?_)
              obtain ⟨cn33, In33, Fn33⟩ := u
              obtain ⟨hP1, hD1⟩ := hB1
              rw [ht] at hP1
              have hP : va_P D vwCl (wX cI (D.1 99) zz g ad cn33 In33 Fn33) H1 := hP1
              have hD : va_D A (wX cI (D.1 99) zz g ad cn33 In33 Fn33) := hD1.weaken (fun _ _ _ h => hFc _ h)
              generalize H1 = H at hP hS ⊢
              have vh_33 : (fun c2 I2 F2 => Fr [31, 32] [33] [195, 301] (va_up c5 31 ((c5 31) + 1)) I5 F5 c2 I2 F2 ∧ CBX c2 ∧ (((c5 31) + 1) ≤ c2 31 ∧ c2 31 ≤ c2 32 ∧ c2 32 ≤ (c5 32))) cn33 In33 Fn33 := wh_33
              obtain ⟨hfc33, hIn33, h_33⟩ := vh_33
              have hf33 : Fr [31, 32] [33] [195, 301] cn In Fn cn33 In33 Fn33 := Fr.mo (Fr.tr (Fr.c 31 hfr5) hfc33) (sbl rfl) (sbl rfl) (sbl rfl)
              replace hIn33 : CBXh cn33 := hIn33
              have : cn33 6 = (c5 6) := hfc33.1 6 (nml rfl)
              refine lv_aload_n hx hb dX5_readSum_64 rfl (lvA1 hl) ?_
              refine gf_RX5_20 S hK hP 3 xo_3 (v := .ref (ad 5 (ad 4 1))) rfl dX5_readSum_65 ?_
              refine lv_iload_n hx hb dX5_readSum_68 rfl (lvA0 hl) ?_
              refine lv_iconst (v := 0) hx hb dX5_readSum_69 kic_0 ?_
              have hFc := free_all hD hS hA
              refine va_calli (runV_xa (As := [.int 3, .int 0]) (rest := []) S (q_Tadd l D cI cB cZ zz qq vv bt g ad cn33 In33 Fn33 (ad 4 1) 3 0 H.size hIn33 (by omega) (by rw [hf33.2.2 199 (nml rfl)]; exact h9)) kV_RX5_75 hK hXS hS hFc hP hD _ (xf_7 (show (ad 4 1) < (cn33 6) by omega)) rfl rfl ⟨(by show 0 + 1 ≤ d + 1; omega), (by show 8 + (3 + 11) + 40 * 0 ≤ 40 * (d + 1); omega)⟩ ⟨Nat.le_of_ble_eq_true rfl, Nat.le_of_ble_eq_true rfl⟩ rfl hl.1 rfl (Nat.le_of_ble_eq_true rfl) dX5_readSum_70) hS (fun q _ h => hFc q h) hFc (fun r_34 u t H1 locs ht hvm wh_35 hB1 hz1 hk1 hS => ?_)
              obtain ⟨cn35, In35, Fn35⟩ := u
              obtain ⟨hP1, hD1⟩ := hB1
              rw [ht] at hP1
              have hP : va_P D vwCl (wX cI (D.1 99) zz g ad cn35 In35 Fn35) H1 := hP1
              have hD : va_D A (wX cI (D.1 99) zz g ad cn35 In35 Fn35) := hD1.weaken (fun _ _ _ h => hFc _ h)
              generalize H1 = H at hP hS ⊢
              have vh_35 : (fun r c2 I2 F2 => Fr [] [] [195, 301] cn33 In33 Fn33 c2 I2 F2 ∧ CBX c2 ∧ (True)) r_34 cn35 In35 Fn35 := wh_35
              obtain ⟨hfc35, hIn35, h_35⟩ := vh_35
              obtain rfl : cn33 = cn35 := (funext (fun k => hfc35.1 k List.not_mem_nil)).symm
              obtain rfl : In33 = In35 := (funext (fun k => hfc35.2.1 k List.not_mem_nil)).symm
              have hf35 : Fr [31, 32] [33] [195, 301] cn In Fn cn33 In33 Fn35 := Fr.mo (Fr.tr hf33 hfc35) (sbl rfl) (sbl rfl) (sbl rfl)
              replace hIn35 : CBXh cn33 := hIn35
              refine lv_pop hx hb dX5_readSum_73 rfl ?_
              refine lv_goto (tgt := 5) hx hb dX5_readSum_74 rfl ?_
              exact ih5  cn33 In33 Fn35 _ _ (show (cn33 32) - (cn33 31) < n5 by omega) ⟨(Fr.mo hf35 (sbl rfl) (sbl rfl) (sbl rfl)), hIn35, (show cn 31 ≤ (cn33 31) ∧ (cn33 31) ≤ (cn33 32) ∧ (cn33 32) ≤ cn 32 by omega)⟩ hP hD hS ls (lv_sub hl [1, 2] rfl)
  exact lp_5 _  cn2 In2 Fn2 _ _ (Nat.lt_succ_self _) ⟨(Fr.mo hf2 (sbl rfl) (sbl rfl) (sbl rfl)), hIn2, (show cn 31 ≤ (cn2 31) ∧ (cn2 31) ≤ (cn2 32) ∧ (cn2 32) ≤ cn 32 by omega)⟩ hP hD hS ls (lv_sub hl [0, 1] rfl)
set_option maxRecDepth 100000 in
set_option maxHeartbeats 4000000 in
theorem gq_GreadPiece6 (l : Launch) (D : va_G) (cI cB cZ : ClassId) (zz qq vv : Nat) (bt : Nat → Int32) (g : Nat → Nat) (o : Int32) (d : Nat) (ho : 6 ≤ o.toInt) (hd : 4 ≤ d ∧ d ≤ 60) (hSq : RDQ yX5_readSum cX5_readSum 3 l D cI cB cZ zz qq vv bt g o d) : RDQ yX5_readPiece cX5_readPiece 4 l D cI cB cZ zz qq vv bt g o (d + 1) := by
  intro ad cn In Fn sz hB hR h1 h3 h4 h9
  refine Met.ofW (cc := cX5_readPiece) (maxL := 4) (ret := none) (by decide) rfl ?_
  intro p e s m args below meth c s₁ B hml hv
  obtain ⟨rfl, hsz, hP, hK, hD0, hXS⟩ := hv
  have hx := B.exec
  have hb := B.bytes
  have hr := B.returns
  have hts := atoms_spec (ws := (CWS yX5_readPiece cX5_readPiece 4 none)) B.pre
  have hown : s.vm.findClass RX5 = some m.cls := findClass_of_methodNamed B.named
  have hlocks := B.notSynchronized
  have S : SF p m c cX5_readPiece 4 s ([.ref (g 6), .int o]).toArray RX5 := ⟨hx, hb, hml, hown, fun w h => hts w (List.mem_cons_of_mem _ h)⟩
  subst hsz
  have hD := hD0.self (sz := s.heap.size)
  generalize hAe : va_A (wX cI (D.1 99) zz g ad cn In Fn) s.heap.size = A at hD hXS ⊢
  have hA : ∀ q : Nat, s.heap.size ≤ q → A q := fun q h => by rw [← hAe]; exact Or.inr h
  have hS : va_S A s.heap s.heap [] := va_S.rf
  have hl := lv_entry ([.ref (g 6), .int o]) (n := 4) (Nat.le_of_ble_eq_true rfl)
  rw [lg_entry_eq]
  generalize (lg_sl ([.ref (g 6), .int o]) ++ List.replicate (4 - (lg_sl ([.ref (g 6), .int o])).length) Slot.unset).toArray = ls at hl ⊢
  have hl : lv_has ls 4 [(0, .ref (g 6)), (1, .int o)] := hl
  replace hB : CBXh cn := hB
  refine lv_aload_n hx hb (oc_42 0 shX5_readPiece_0) rfl (lvA0 hl) ?_
  refine vp_callSi (runV_rxa (As := []) (rest := []) S (q_Rpeek l D cI cB cZ zz qq vv bt g ad cn In Fn  hB (by omega) (by omega) (by omega) (by omega)) kV_RX5_43 hK hXS hS hP 3 xo_3 rfl rfl ⟨(by show 0 + 1 ≤ d + 1; omega), (by show 8 + (1 + 11) + 40 * 0 ≤ 40 * (d + 1); omega)⟩ ⟨Nat.le_of_ble_eq_true rfl, Nat.le_of_ble_eq_true rfl⟩ rfl hl.1 rfl (Nat.le_of_ble_eq_true rfl) (oc_182 1 (aq_1 shX5_readPiece_0) uw_0_43)) (fun r_1 h_2 => ?_)
  refine lv_istore_n (lv' := [(2, .int r_1), (0, .ref (g 6)), (1, .int o)]) hx hb (oc_61 4 (aq_4 shX5_readPiece_0)) rfl hl (ltb rfl) rfl (fun ls hl => ?_)
  refine lv_iload_n hx hb (oc_28 5 (aq_5 shX5_readPiece_0)) rfl (lvA0 hl) ?_
  refine lv_bipush (v := 33) hx hb (oc_16 6 (aq_6 shX5_readPiece_0) sgb_33) kbc_33 ?_
  refine lv_icmp_ne (tgt := 40) hx hb (oc_160 8 (aq_8 shX5_readPiece_0) sgw_0_32) rfl (fun c_3 => ?_) (fun c_3 => ?_)
  ·
    have tc_3 : (r_1.toInt : Int) ≠ 33 := fun q => c_3 (Int32.toInt_inj.mp q)
    refine lv_iload_n hx hb (oc_28 40 (aq_14 shX5_readPiece_26)) rfl (lvA0 hl) ?_
    refine lv_bipush (v := 40) hx hb (oc_16 41 (aq_15 shX5_readPiece_26) sgb_40) kbc_40 ?_
    refine lv_icmp_ne (tgt := 70) hx hb (oc_160 43 (aq_17 shX5_readPiece_26) sgw_0_27) rfl (fun c_4 => ?_) (fun c_4 => ?_)
    ·
      have tc_4 : (r_1.toInt : Int) ≠ 40 := fun q => c_4 (Int32.toInt_inj.mp q)
      refine lv_aload_n hx hb (oc_42 70 (aq_19 shX5_readPiece_51)) rfl (lvA1 hl) ?_
      refine lv_iload_n hx hb (oc_27 71 (aq_20 shX5_readPiece_51)) rfl (lvA2 hl) ?_
      have hFc := free_all hD hS hA
      refine va_callv (runV_xa (As := [.int o]) (rest := []) S (hSq ad cn In Fn s.heap.size hB (by omega) (by omega) (by omega) (by omega) h9) kV_RX5_56 hK hXS hS hFc hP hD 3 xo_3 rfl rfl ⟨(by show d + 1 ≤ d + 1; omega), (by show 8 + (3 + 11) + 40 * d ≤ 40 * (d + 1); omega)⟩ ⟨Nat.le_of_ble_eq_true rfl, Nat.le_of_ble_eq_true rfl⟩ rfl hl.1 rfl (Nat.le_of_ble_eq_true rfl) (oc_182 72 (aq_21 shX5_readPiece_51) uw_0_56)) hS (fun q _ h => hFc q h) hFc (fun u t H1 locs ht hvm wh_6 hB1 hz1 hk1 hS => ?_)
      obtain ⟨cn6, In6, Fn6⟩ := u
      obtain ⟨hP1, hD1⟩ := hB1
      rw [ht] at hP1
      have hP : va_P D vwCl (wX cI (D.1 99) zz g ad cn6 In6 Fn6) H1 := hP1
      have hD : va_D A (wX cI (D.1 99) zz g ad cn6 In6 Fn6) := hD1.weaken (fun _ _ _ h => hFc _ h)
      generalize H1 = H at hP hS ⊢
      have vh_6 : (fun c2 I2 F2 => Fr [31, 32] [33] [195, 301] cn In Fn c2 I2 F2 ∧ CBX c2 ∧ ((cn 31) ≤ c2 31 ∧ c2 31 ≤ c2 32 ∧ c2 32 ≤ (cn 32))) cn6 In6 Fn6 := wh_6
      obtain ⟨hfc6, hIn6, h_6⟩ := vh_6
      have hf6 : Fr [31, 32] [33] [195, 301] cn In Fn cn6 In6 Fn6 := Fr.mo (Fr.tr (Fr.rf (cn := cn) (In := In) (Fn := Fn)) hfc6) (sbl rfl) (sbl rfl) (sbl rfl)
      replace hIn6 : CBXh cn6 := hIn6
      have : cn6 6 = (cn 6) := hfc6.1 6 (nml rfl)
      refine lv_aload_n hx hb (oc_42 75 shX5_readPiece_75) rfl (lvA1 hl) ?_
      have hFc := free_all hD hS hA
      refine va_calli (runV_xa (As := []) (rest := []) S (q_RreadRelation l D cI cB cZ zz qq vv bt g ad cn6 In6 Fn6  H.size hIn6 (by omega) (by omega) (by omega) (by omega)) kV_RX5_89 hK hXS hS hFc hP hD 3 xo_3 rfl rfl ⟨(by show 1 + 1 ≤ d + 1; omega), (by show 8 + (2 + 11) + 40 * 1 ≤ 40 * (d + 1); omega)⟩ ⟨Nat.le_of_ble_eq_true rfl, Nat.le_of_ble_eq_true rfl⟩ rfl hl.1 rfl (Nat.le_of_ble_eq_true rfl) (oc_182 76 (aq_1 shX5_readPiece_75) uw_0_89)) hS (fun q _ h => hFc q h) hFc (fun r_7 u t H1 locs ht hvm wh_8 hB1 hz1 hk1 hS => ?_)
      obtain ⟨cn8, In8, Fn8⟩ := u
      obtain ⟨hP1, hD1⟩ := hB1
      rw [ht] at hP1
      have hP : va_P D vwCl (wX cI (D.1 99) zz g ad cn8 In8 Fn8) H1 := hP1
      have hD : va_D A (wX cI (D.1 99) zz g ad cn8 In8 Fn8) := hD1.weaken (fun _ _ _ h => hFc _ h)
      generalize H1 = H at hP hS ⊢
      have vh_8 : (fun r c2 I2 F2 => Fr [31, 32] [33] [] cn6 In6 Fn6 c2 I2 F2 ∧ CBX c2 ∧ ((cn6 31) ≤ c2 31 ∧ c2 31 ≤ c2 32 ∧ c2 32 ≤ (cn6 32))) r_7 cn8 In8 Fn8 := wh_8
      obtain ⟨hfc8, hIn8, h_8⟩ := vh_8
      obtain rfl : Fn6 = Fn8 := (funext (fun k => hfc8.2.2 k List.not_mem_nil)).symm
      have hf8 : Fr [31, 32] [33] [195, 301] cn In Fn cn8 In8 Fn6 := Fr.mo (Fr.tr hf6 hfc8) (sbl rfl) (sbl rfl) (sbl rfl)
      replace hIn8 : CBXh cn8 := hIn8
      have : cn8 6 = (cn6 6) := hfc8.1 6 (nml rfl)
      refine lv_istore_n (lv' := [(3, .int r_7), (2, .int r_1), (0, .ref (g 6)), (1, .int o)]) hx hb (oc_62 79 (aq_4 shX5_readPiece_75)) rfl hl (ltb rfl) rfl (fun ls hl => ?_)
      refine lv_aload_n hx hb (oc_42 80 (aq_5 shX5_readPiece_75)) rfl (lvA2 hl) ?_
      refine lv_iload_n hx hb (oc_27 81 (aq_6 shX5_readPiece_75)) rfl (lvA3 hl) ?_
      have hFc := free_all hD hS hA
      refine va_callv (runV_xa (As := [.int o]) (rest := []) S (hSq ad cn8 In8 Fn6 H.size hIn8 (by omega) (by omega) (by omega) (by omega) (by rw [hf8.2.2 199 (nml rfl)]; exact h9)) kV_RX5_56 hK hXS hS hFc hP hD 3 xo_3 rfl rfl ⟨(by show d + 1 ≤ d + 1; omega), (by show 8 + (3 + 11) + 40 * d ≤ 40 * (d + 1); omega)⟩ ⟨Nat.le_of_ble_eq_true rfl, Nat.le_of_ble_eq_true rfl⟩ rfl hl.1 rfl (Nat.le_of_ble_eq_true rfl) (oc_182 82 (aq_7 shX5_readPiece_75) uw_0_56)) hS (fun q _ h => hFc q h) hFc (fun u t H1 locs ht hvm wh_10 hB1 hz1 hk1 hS => ?_)
      obtain ⟨cn10, In10, Fn10⟩ := u
      obtain ⟨hP1, hD1⟩ := hB1
      rw [ht] at hP1
      have hP : va_P D vwCl (wX cI (D.1 99) zz g ad cn10 In10 Fn10) H1 := hP1
      have hD : va_D A (wX cI (D.1 99) zz g ad cn10 In10 Fn10) := hD1.weaken (fun _ _ _ h => hFc _ h)
      generalize H1 = H at hP hS ⊢
      have vh_10 : (fun c2 I2 F2 => Fr [31, 32] [33] [195, 301] cn8 In8 Fn6 c2 I2 F2 ∧ CBX c2 ∧ ((cn8 31) ≤ c2 31 ∧ c2 31 ≤ c2 32 ∧ c2 32 ≤ (cn8 32))) cn10 In10 Fn10 := wh_10
      obtain ⟨hfc10, hIn10, h_10⟩ := vh_10
      have hf10 : Fr [31, 32] [33] [195, 301] cn In Fn cn10 In10 Fn10 := Fr.mo (Fr.tr hf8 hfc10) (sbl rfl) (sbl rfl) (sbl rfl)
      replace hIn10 : CBXh cn10 := hIn10
      have : cn10 6 = (cn8 6) := hfc10.1 6 (nml rfl)
      refine lv_aload_n hx hb (oc_42 85 (aq_10 shX5_readPiece_75)) rfl (lvA2 hl) ?_
      refine gf_RX5_20 S hK hP 3 xo_3 (v := .ref (ad 5 (ad 4 1))) rfl (oc_180 86 (aq_11 shX5_readPiece_75) uw_0_20) ?_
      refine lv_iload_n hx hb (oc_29 89 (aq_14 shX5_readPiece_75)) rfl (lvA0 hl) ?_
      refine lv_iconst (v := 0) hx hb (oc_3 90 (aq_15 shX5_readPiece_75)) kic_0 ?_
      have hFc := free_all hD hS hA
      refine va_calli (runV_xa (As := [.int r_7, .int 0]) (rest := []) S (q_Tadd l D cI cB cZ zz qq vv bt g ad cn10 In10 Fn10 (ad 4 1) r_7 0 H.size hIn10 (by omega) (by rw [hf10.2.2 199 (nml rfl)]; exact h9)) kV_RX5_75 hK hXS hS hFc hP hD _ (xf_7 (show (ad 4 1) < (cn10 6) by omega)) rfl rfl ⟨(by show 0 + 1 ≤ d + 1; omega), (by show 8 + (3 + 11) + 40 * 0 ≤ 40 * (d + 1); omega)⟩ ⟨Nat.le_of_ble_eq_true rfl, Nat.le_of_ble_eq_true rfl⟩ rfl hl.1 rfl (Nat.le_of_ble_eq_true rfl) (oc_182 91 (aq_16 shX5_readPiece_75) uw_0_75)) hS (fun q _ h => hFc q h) hFc (fun r_11 u t H1 locs ht hvm wh_12 hB1 hz1 hk1 hS => ?_)
      obtain ⟨cn12, In12, Fn12⟩ := u
      obtain ⟨hP1, hD1⟩ := hB1
      rw [ht] at hP1
      have hP : va_P D vwCl (wX cI (D.1 99) zz g ad cn12 In12 Fn12) H1 := hP1
      have hD : va_D A (wX cI (D.1 99) zz g ad cn12 In12 Fn12) := hD1.weaken (fun _ _ _ h => hFc _ h)
      generalize H1 = H at hP hS ⊢
      have vh_12 : (fun r c2 I2 F2 => Fr [] [] [195, 301] cn10 In10 Fn10 c2 I2 F2 ∧ CBX c2 ∧ (True)) r_11 cn12 In12 Fn12 := wh_12
      obtain ⟨hfc12, hIn12, h_12⟩ := vh_12
      obtain rfl : cn10 = cn12 := (funext (fun k => hfc12.1 k List.not_mem_nil)).symm
      obtain rfl : In10 = In12 := (funext (fun k => hfc12.2.1 k List.not_mem_nil)).symm
      have hf12 : Fr [31, 32] [33] [195, 301] cn In Fn cn10 In10 Fn12 := Fr.mo (Fr.tr hf10 hfc12) (sbl rfl) (sbl rfl) (sbl rfl)
      replace hIn12 : CBXh cn10 := hIn12
      refine lv_pop hx hb (oc_87 94 (aq_19 shX5_readPiece_75)) rfl ?_
      exact W.vret hx hb hr (fun t ht hW => ⟨⟨(cn10, In10, Fn12), rfl, ⟨(Fr.mo hf12 (sbl rfl) (sbl rfl) (sbl rfl)), hIn12, (by show cn 31 ≤ cn10 31 ∧ cn10 31 ≤ cn10 32 ∧ cn10 32 ≤ cn 32; show cn 31 ≤ (cn10 31) ∧ (cn10 31) ≤ (cn10 32) ∧ (cn10 32) ≤ cn 32; omega)⟩, by rw [ht]; exact hP, hD⟩, hS.F ht⟩) hS.2.2 dX5_readPiece_95
    ·
      have tc_4 : (r_1.toInt : Int) = 40 := congrArg Int32.toInt c_4
      refine lv_aload_n hx hb (oc_42 46 (aq_20 shX5_readPiece_26)) rfl (lvA1 hl) ?_
      refine lv_iload_n hx hb (oc_27 47 (aq_21 shX5_readPiece_26)) rfl (lvA2 hl) ?_
      have hFc := free_all hD hS hA
      refine va_calli (runV_xa (As := [.int o]) (rest := []) S (q_Ropens_n l D cI cB cZ zz qq vv bt g ad cn In Fn o s.heap.size hB (by omega) (by omega) (by omega) (by omega) (by omega) ho) kV_RX5_85 hK hXS hS hFc hP hD 3 xo_3 rfl rfl ⟨(by show 1 + 1 ≤ d + 1; omega), (by show 8 + (2 + 11) + 40 * 1 ≤ 40 * (d + 1); omega)⟩ ⟨Nat.le_of_ble_eq_true rfl, Nat.le_of_ble_eq_true rfl⟩ rfl hl.1 rfl (Nat.le_of_ble_eq_true rfl) (oc_182 48 (aq_22 shX5_readPiece_26) uw_0_85)) hS (fun q _ h => hFc q h) hFc (fun r_13 u t H1 locs ht hvm wh_14 hB1 hz1 hk1 hS => ?_)
      obtain ⟨cn14, In14, Fn14⟩ := u
      obtain ⟨hP1, hD1⟩ := hB1
      rw [ht] at hP1
      have hP : va_P D vwCl (wX cI (D.1 99) zz g ad cn14 In14 Fn14) H1 := hP1
      have hD : va_D A (wX cI (D.1 99) zz g ad cn14 In14 Fn14) := hD1.weaken (fun _ _ _ h => hFc _ h)
      generalize H1 = H at hP hS ⊢
      have vh_14 : (fun r c2 I2 F2 => Fr [31, 32] [33] [] cn In Fn c2 I2 F2 ∧ CBX c2 ∧ (((cn 31) ≤ c2 31 ∧ c2 31 ≤ c2 32 ∧ c2 32 ≤ (cn 32)) ∧ r = 0)) r_13 cn14 In14 Fn14 := wh_14
      obtain ⟨hfc14, hIn14, h_14⟩ := vh_14
      obtain rfl : Fn = Fn14 := (funext (fun k => hfc14.2.2 k List.not_mem_nil)).symm
      have hf14 : Fr [31, 32] [33] [195, 301] cn In Fn cn14 In14 Fn := Fr.mo (Fr.tr (Fr.rf (cn := cn) (In := In) (Fn := Fn)) hfc14) (sbl rfl) (sbl rfl) (sbl rfl)
      replace hIn14 : CBXh cn14 := hIn14
      have : cn14 6 = (cn 6) := hfc14.1 6 (nml rfl)
      obtain ⟨h_14, rfl⟩ := h_14
      refine lv_if_eq (tgt := 95) hx hb (oc_153 51 shX5_readPiece_51 sgw_0_44) rfl (fun _ => ?_) (fun h => absurd h cq_eq_0_0)
      exact W.vret hx hb hr (fun t ht hW => ⟨⟨(cn14, In14, Fn), rfl, ⟨(Fr.mo hf14 (sbl rfl) (sbl rfl) (sbl rfl)), hIn14, (by show cn 31 ≤ cn14 31 ∧ cn14 31 ≤ cn14 32 ∧ cn14 32 ≤ cn 32; show cn 31 ≤ (cn14 31) ∧ (cn14 31) ≤ (cn14 32) ∧ (cn14 32) ≤ cn 32; omega)⟩, by rw [ht]; exact hP, hD⟩, hS.F ht⟩) hS.2.2 dX5_readPiece_95
  ·
    have tc_3 : (r_1.toInt : Int) = 33 := congrArg Int32.toInt c_3
    refine lv_aload_n hx hb (oc_42 11 (aq_11 shX5_readPiece_0)) rfl (lvA1 hl) ?_
    refine lv_iload_n hx hb (oc_27 12 (aq_12 shX5_readPiece_0)) rfl (lvA2 hl) ?_
    have hFc := free_all hD hS hA
    refine va_calli (runV_xa (As := [.int o]) (rest := []) S (q_Ropens_n l D cI cB cZ zz qq vv bt g ad cn In Fn o s.heap.size hB (by omega) (by omega) (by omega) (by omega) (by omega) ho) kV_RX5_85 hK hXS hS hFc hP hD 3 xo_3 rfl rfl ⟨(by show 1 + 1 ≤ d + 1; omega), (by show 8 + (2 + 11) + 40 * 1 ≤ 40 * (d + 1); omega)⟩ ⟨Nat.le_of_ble_eq_true rfl, Nat.le_of_ble_eq_true rfl⟩ rfl hl.1 rfl (Nat.le_of_ble_eq_true rfl) (oc_182 13 (aq_13 shX5_readPiece_0) uw_0_85)) hS (fun q _ h => hFc q h) hFc (fun r_15 u t H1 locs ht hvm wh_16 hB1 hz1 hk1 hS => ?_)
    obtain ⟨cn16, In16, Fn16⟩ := u
    obtain ⟨hP1, hD1⟩ := hB1
    rw [ht] at hP1
    have hP : va_P D vwCl (wX cI (D.1 99) zz g ad cn16 In16 Fn16) H1 := hP1
    have hD : va_D A (wX cI (D.1 99) zz g ad cn16 In16 Fn16) := hD1.weaken (fun _ _ _ h => hFc _ h)
    generalize H1 = H at hP hS ⊢
    have vh_16 : (fun r c2 I2 F2 => Fr [31, 32] [33] [] cn In Fn c2 I2 F2 ∧ CBX c2 ∧ (((cn 31) ≤ c2 31 ∧ c2 31 ≤ c2 32 ∧ c2 32 ≤ (cn 32)) ∧ r = 0)) r_15 cn16 In16 Fn16 := wh_16
    obtain ⟨hfc16, hIn16, h_16⟩ := vh_16
    obtain rfl : Fn = Fn16 := (funext (fun k => hfc16.2.2 k List.not_mem_nil)).symm
    have hf16 : Fr [31, 32] [33] [195, 301] cn In Fn cn16 In16 Fn := Fr.mo (Fr.tr (Fr.rf (cn := cn) (In := In) (Fn := Fn)) hfc16) (sbl rfl) (sbl rfl) (sbl rfl)
    replace hIn16 : CBXh cn16 := hIn16
    have : cn16 6 = (cn 6) := hfc16.1 6 (nml rfl)
    obtain ⟨h_16, rfl⟩ := h_16
    refine lv_if_eq (tgt := 95) hx hb (oc_153 16 (aq_16 shX5_readPiece_0) sgw_0_79) rfl (fun _ => ?_) (fun h => absurd h cq_eq_0_0)
    exact W.vret hx hb hr (fun t ht hW => ⟨⟨(cn16, In16, Fn), rfl, ⟨(Fr.mo hf16 (sbl rfl) (sbl rfl) (sbl rfl)), hIn16, (by show cn 31 ≤ cn16 31 ∧ cn16 31 ≤ cn16 32 ∧ cn16 32 ≤ cn 32; show cn 31 ≤ (cn16 31) ∧ (cn16 31) ≤ (cn16 32) ∧ (cn16 32) ≤ cn 32; omega)⟩, by rw [ht]; exact hP, hD⟩, hS.F ht⟩) hS.2.2 dX5_readPiece_95
set_option maxRecDepth 100000 in
set_option maxHeartbeats 4000000 in
theorem gq_GreadPiece (l : Launch) (D : va_G) (cI cB cZ : ClassId) (zz qq vv : Nat) (bt : Nat → Int32) (g : Nat → Nat) (o : Int32) (d de df : Nat) (ho : o.toInt < 6) (hd : 4 ≤ d ∧ d ≤ 60 ∧ de ≤ d ∧ df ≤ d) (hSq : RDQ yX5_readSum cX5_readSum 3 l D cI cB cZ zz qq vv bt g o d) (hP9 : RDQ yX5_readPiece cX5_readPiece 4 l D cI cB cZ zz qq vv bt g (o + 1) de) (hC9 : RDQ yX5_readCondition cX5_readCondition 3 l D cI cB cZ zz qq vv bt g (o + 1) df) : RDQ yX5_readPiece cX5_readPiece 4 l D cI cB cZ zz qq vv bt g o (d + 1) := by
  intro ad cn In Fn sz hB hR h1 h3 h4 h9
  refine Met.ofW (cc := cX5_readPiece) (maxL := 4) (ret := none) (by decide) rfl ?_
  intro p e s m args below meth c s₁ B hml hv
  obtain ⟨rfl, hsz, hP, hK, hD0, hXS⟩ := hv
  have hx := B.exec
  have hb := B.bytes
  have hr := B.returns
  have hts := atoms_spec (ws := (CWS yX5_readPiece cX5_readPiece 4 none)) B.pre
  have hown : s.vm.findClass RX5 = some m.cls := findClass_of_methodNamed B.named
  have hlocks := B.notSynchronized
  have S : SF p m c cX5_readPiece 4 s ([.ref (g 6), .int o]).toArray RX5 := ⟨hx, hb, hml, hown, fun w h => hts w (List.mem_cons_of_mem _ h)⟩
  subst hsz
  have hD := hD0.self (sz := s.heap.size)
  generalize hAe : va_A (wX cI (D.1 99) zz g ad cn In Fn) s.heap.size = A at hD hXS ⊢
  have hA : ∀ q : Nat, s.heap.size ≤ q → A q := fun q h => by rw [← hAe]; exact Or.inr h
  have hS : va_S A s.heap s.heap [] := va_S.rf
  have hl := lv_entry ([.ref (g 6), .int o]) (n := 4) (Nat.le_of_ble_eq_true rfl)
  rw [lg_entry_eq]
  generalize (lg_sl ([.ref (g 6), .int o]) ++ List.replicate (4 - (lg_sl ([.ref (g 6), .int o])).length) Slot.unset).toArray = ls at hl ⊢
  have hl : lv_has ls 4 [(0, .ref (g 6)), (1, .int o)] := hl
  replace hB : CBXh cn := hB
  refine lv_aload_n hx hb (oc_42 0 shX5_readPiece_0) rfl (lvA0 hl) ?_
  refine vp_callSi (runV_rxa (As := []) (rest := []) S (q_Rpeek l D cI cB cZ zz qq vv bt g ad cn In Fn  hB (by omega) (by omega) (by omega) (by omega)) kV_RX5_43 hK hXS hS hP 3 xo_3 rfl rfl ⟨(by show 0 + 1 ≤ d + 1; omega), (by show 8 + (1 + 11) + 40 * 0 ≤ 40 * (d + 1); omega)⟩ ⟨Nat.le_of_ble_eq_true rfl, Nat.le_of_ble_eq_true rfl⟩ rfl hl.1 rfl (Nat.le_of_ble_eq_true rfl) (oc_182 1 (aq_1 shX5_readPiece_0) uw_0_43)) (fun r_1 h_2 => ?_)
  refine lv_istore_n (lv' := [(2, .int r_1), (0, .ref (g 6)), (1, .int o)]) hx hb (oc_61 4 (aq_4 shX5_readPiece_0)) rfl hl (ltb rfl) rfl (fun ls hl => ?_)
  refine lv_iload_n hx hb (oc_28 5 (aq_5 shX5_readPiece_0)) rfl (lvA0 hl) ?_
  refine lv_bipush (v := 33) hx hb (oc_16 6 (aq_6 shX5_readPiece_0) sgb_33) kbc_33 ?_
  refine lv_icmp_ne (tgt := 40) hx hb (oc_160 8 (aq_8 shX5_readPiece_0) sgw_0_32) rfl (fun c_3 => ?_) (fun c_3 => ?_)
  ·
    have tc_3 : (r_1.toInt : Int) ≠ 33 := fun q => c_3 (Int32.toInt_inj.mp q)
    refine lv_iload_n hx hb (oc_28 40 (aq_14 shX5_readPiece_26)) rfl (lvA0 hl) ?_
    refine lv_bipush (v := 40) hx hb (oc_16 41 (aq_15 shX5_readPiece_26) sgb_40) kbc_40 ?_
    refine lv_icmp_ne (tgt := 70) hx hb (oc_160 43 (aq_17 shX5_readPiece_26) sgw_0_27) rfl (fun c_4 => ?_) (fun c_4 => ?_)
    ·
      have tc_4 : (r_1.toInt : Int) ≠ 40 := fun q => c_4 (Int32.toInt_inj.mp q)
      refine lv_aload_n hx hb (oc_42 70 (aq_19 shX5_readPiece_51)) rfl (lvA1 hl) ?_
      refine lv_iload_n hx hb (oc_27 71 (aq_20 shX5_readPiece_51)) rfl (lvA2 hl) ?_
      have hFc := free_all hD hS hA
      refine va_callv (runV_xa (As := [.int o]) (rest := []) S (hSq ad cn In Fn s.heap.size hB (by omega) (by omega) (by omega) (by omega) h9) kV_RX5_56 hK hXS hS hFc hP hD 3 xo_3 rfl rfl ⟨(by show d + 1 ≤ d + 1; omega), (by show 8 + (3 + 11) + 40 * d ≤ 40 * (d + 1); omega)⟩ ⟨Nat.le_of_ble_eq_true rfl, Nat.le_of_ble_eq_true rfl⟩ rfl hl.1 rfl (Nat.le_of_ble_eq_true rfl) (oc_182 72 (aq_21 shX5_readPiece_51) uw_0_56)) hS (fun q _ h => hFc q h) hFc (fun u t H1 locs ht hvm wh_6 hB1 hz1 hk1 hS => ?_)
      obtain ⟨cn6, In6, Fn6⟩ := u
      obtain ⟨hP1, hD1⟩ := hB1
      rw [ht] at hP1
      have hP : va_P D vwCl (wX cI (D.1 99) zz g ad cn6 In6 Fn6) H1 := hP1
      have hD : va_D A (wX cI (D.1 99) zz g ad cn6 In6 Fn6) := hD1.weaken (fun _ _ _ h => hFc _ h)
      generalize H1 = H at hP hS ⊢
      have vh_6 : (fun c2 I2 F2 => Fr [31, 32] [33] [195, 301] cn In Fn c2 I2 F2 ∧ CBX c2 ∧ ((cn 31) ≤ c2 31 ∧ c2 31 ≤ c2 32 ∧ c2 32 ≤ (cn 32))) cn6 In6 Fn6 := wh_6
      obtain ⟨hfc6, hIn6, h_6⟩ := vh_6
      have hf6 : Fr [31, 32] [33] [195, 301] cn In Fn cn6 In6 Fn6 := Fr.mo (Fr.tr (Fr.rf (cn := cn) (In := In) (Fn := Fn)) hfc6) (sbl rfl) (sbl rfl) (sbl rfl)
      replace hIn6 : CBXh cn6 := hIn6
      have : cn6 6 = (cn 6) := hfc6.1 6 (nml rfl)
      refine lv_aload_n hx hb (oc_42 75 shX5_readPiece_75) rfl (lvA1 hl) ?_
      have hFc := free_all hD hS hA
      refine va_calli (runV_xa (As := []) (rest := []) S (q_RreadRelation l D cI cB cZ zz qq vv bt g ad cn6 In6 Fn6  H.size hIn6 (by omega) (by omega) (by omega) (by omega)) kV_RX5_89 hK hXS hS hFc hP hD 3 xo_3 rfl rfl ⟨(by show 1 + 1 ≤ d + 1; omega), (by show 8 + (2 + 11) + 40 * 1 ≤ 40 * (d + 1); omega)⟩ ⟨Nat.le_of_ble_eq_true rfl, Nat.le_of_ble_eq_true rfl⟩ rfl hl.1 rfl (Nat.le_of_ble_eq_true rfl) (oc_182 76 (aq_1 shX5_readPiece_75) uw_0_89)) hS (fun q _ h => hFc q h) hFc (fun r_7 u t H1 locs ht hvm wh_8 hB1 hz1 hk1 hS => ?_)
      obtain ⟨cn8, In8, Fn8⟩ := u
      obtain ⟨hP1, hD1⟩ := hB1
      rw [ht] at hP1
      have hP : va_P D vwCl (wX cI (D.1 99) zz g ad cn8 In8 Fn8) H1 := hP1
      have hD : va_D A (wX cI (D.1 99) zz g ad cn8 In8 Fn8) := hD1.weaken (fun _ _ _ h => hFc _ h)
      generalize H1 = H at hP hS ⊢
      have vh_8 : (fun r c2 I2 F2 => Fr [31, 32] [33] [] cn6 In6 Fn6 c2 I2 F2 ∧ CBX c2 ∧ ((cn6 31) ≤ c2 31 ∧ c2 31 ≤ c2 32 ∧ c2 32 ≤ (cn6 32))) r_7 cn8 In8 Fn8 := wh_8
      obtain ⟨hfc8, hIn8, h_8⟩ := vh_8
      obtain rfl : Fn6 = Fn8 := (funext (fun k => hfc8.2.2 k List.not_mem_nil)).symm
      have hf8 : Fr [31, 32] [33] [195, 301] cn In Fn cn8 In8 Fn6 := Fr.mo (Fr.tr hf6 hfc8) (sbl rfl) (sbl rfl) (sbl rfl)
      replace hIn8 : CBXh cn8 := hIn8
      have : cn8 6 = (cn6 6) := hfc8.1 6 (nml rfl)
      refine lv_istore_n (lv' := [(3, .int r_7), (2, .int r_1), (0, .ref (g 6)), (1, .int o)]) hx hb (oc_62 79 (aq_4 shX5_readPiece_75)) rfl hl (ltb rfl) rfl (fun ls hl => ?_)
      refine lv_aload_n hx hb (oc_42 80 (aq_5 shX5_readPiece_75)) rfl (lvA2 hl) ?_
      refine lv_iload_n hx hb (oc_27 81 (aq_6 shX5_readPiece_75)) rfl (lvA3 hl) ?_
      have hFc := free_all hD hS hA
      refine va_callv (runV_xa (As := [.int o]) (rest := []) S (hSq ad cn8 In8 Fn6 H.size hIn8 (by omega) (by omega) (by omega) (by omega) (by rw [hf8.2.2 199 (nml rfl)]; exact h9)) kV_RX5_56 hK hXS hS hFc hP hD 3 xo_3 rfl rfl ⟨(by show d + 1 ≤ d + 1; omega), (by show 8 + (3 + 11) + 40 * d ≤ 40 * (d + 1); omega)⟩ ⟨Nat.le_of_ble_eq_true rfl, Nat.le_of_ble_eq_true rfl⟩ rfl hl.1 rfl (Nat.le_of_ble_eq_true rfl) (oc_182 82 (aq_7 shX5_readPiece_75) uw_0_56)) hS (fun q _ h => hFc q h) hFc (fun u t H1 locs ht hvm wh_10 hB1 hz1 hk1 hS => ?_)
      obtain ⟨cn10, In10, Fn10⟩ := u
      obtain ⟨hP1, hD1⟩ := hB1
      rw [ht] at hP1
      have hP : va_P D vwCl (wX cI (D.1 99) zz g ad cn10 In10 Fn10) H1 := hP1
      have hD : va_D A (wX cI (D.1 99) zz g ad cn10 In10 Fn10) := hD1.weaken (fun _ _ _ h => hFc _ h)
      generalize H1 = H at hP hS ⊢
      have vh_10 : (fun c2 I2 F2 => Fr [31, 32] [33] [195, 301] cn8 In8 Fn6 c2 I2 F2 ∧ CBX c2 ∧ ((cn8 31) ≤ c2 31 ∧ c2 31 ≤ c2 32 ∧ c2 32 ≤ (cn8 32))) cn10 In10 Fn10 := wh_10
      obtain ⟨hfc10, hIn10, h_10⟩ := vh_10
      have hf10 : Fr [31, 32] [33] [195, 301] cn In Fn cn10 In10 Fn10 := Fr.mo (Fr.tr hf8 hfc10) (sbl rfl) (sbl rfl) (sbl rfl)
      replace hIn10 : CBXh cn10 := hIn10
      have : cn10 6 = (cn8 6) := hfc10.1 6 (nml rfl)
      refine lv_aload_n hx hb (oc_42 85 (aq_10 shX5_readPiece_75)) rfl (lvA2 hl) ?_
      refine gf_RX5_20 S hK hP 3 xo_3 (v := .ref (ad 5 (ad 4 1))) rfl (oc_180 86 (aq_11 shX5_readPiece_75) uw_0_20) ?_
      refine lv_iload_n hx hb (oc_29 89 (aq_14 shX5_readPiece_75)) rfl (lvA0 hl) ?_
      refine lv_iconst (v := 0) hx hb (oc_3 90 (aq_15 shX5_readPiece_75)) kic_0 ?_
      have hFc := free_all hD hS hA
      refine va_calli (runV_xa (As := [.int r_7, .int 0]) (rest := []) S (q_Tadd l D cI cB cZ zz qq vv bt g ad cn10 In10 Fn10 (ad 4 1) r_7 0 H.size hIn10 (by omega) (by rw [hf10.2.2 199 (nml rfl)]; exact h9)) kV_RX5_75 hK hXS hS hFc hP hD _ (xf_7 (show (ad 4 1) < (cn10 6) by omega)) rfl rfl ⟨(by show 0 + 1 ≤ d + 1; omega), (by show 8 + (3 + 11) + 40 * 0 ≤ 40 * (d + 1); omega)⟩ ⟨Nat.le_of_ble_eq_true rfl, Nat.le_of_ble_eq_true rfl⟩ rfl hl.1 rfl (Nat.le_of_ble_eq_true rfl) (oc_182 91 (aq_16 shX5_readPiece_75) uw_0_75)) hS (fun q _ h => hFc q h) hFc (fun r_11 u t H1 locs ht hvm wh_12 hB1 hz1 hk1 hS => ?_)
      obtain ⟨cn12, In12, Fn12⟩ := u
      obtain ⟨hP1, hD1⟩ := hB1
      rw [ht] at hP1
      have hP : va_P D vwCl (wX cI (D.1 99) zz g ad cn12 In12 Fn12) H1 := hP1
      have hD : va_D A (wX cI (D.1 99) zz g ad cn12 In12 Fn12) := hD1.weaken (fun _ _ _ h => hFc _ h)
      generalize H1 = H at hP hS ⊢
      have vh_12 : (fun r c2 I2 F2 => Fr [] [] [195, 301] cn10 In10 Fn10 c2 I2 F2 ∧ CBX c2 ∧ (True)) r_11 cn12 In12 Fn12 := wh_12
      obtain ⟨hfc12, hIn12, h_12⟩ := vh_12
      obtain rfl : cn10 = cn12 := (funext (fun k => hfc12.1 k List.not_mem_nil)).symm
      obtain rfl : In10 = In12 := (funext (fun k => hfc12.2.1 k List.not_mem_nil)).symm
      have hf12 : Fr [31, 32] [33] [195, 301] cn In Fn cn10 In10 Fn12 := Fr.mo (Fr.tr hf10 hfc12) (sbl rfl) (sbl rfl) (sbl rfl)
      replace hIn12 : CBXh cn10 := hIn12
      refine lv_pop hx hb (oc_87 94 (aq_19 shX5_readPiece_75)) rfl ?_
      exact W.vret hx hb hr (fun t ht hW => ⟨⟨(cn10, In10, Fn12), rfl, ⟨(Fr.mo hf12 (sbl rfl) (sbl rfl) (sbl rfl)), hIn12, (by show cn 31 ≤ cn10 31 ∧ cn10 31 ≤ cn10 32 ∧ cn10 32 ≤ cn 32; show cn 31 ≤ (cn10 31) ∧ (cn10 31) ≤ (cn10 32) ∧ (cn10 32) ≤ cn 32; omega)⟩, by rw [ht]; exact hP, hD⟩, hS.F ht⟩) hS.2.2 dX5_readPiece_95
    ·
      have tc_4 : (r_1.toInt : Int) = 40 := congrArg Int32.toInt c_4
      refine lv_aload_n hx hb (oc_42 46 (aq_20 shX5_readPiece_26)) rfl (lvA1 hl) ?_
      refine lv_iload_n hx hb (oc_27 47 (aq_21 shX5_readPiece_26)) rfl (lvA2 hl) ?_
      have hFc := free_all hD hS hA
      refine va_calli (runV_xa (As := [.int o]) (rest := []) S (q_Ropens_y l D cI cB cZ zz qq vv bt g ad cn In Fn o s.heap.size hB (by omega) (by omega) (by omega) (by omega) (by omega) ho) kV_RX5_85 hK hXS hS hFc hP hD 3 xo_3 rfl rfl ⟨(by show 1 + 1 ≤ d + 1; omega), (by show 8 + (2 + 11) + 40 * 1 ≤ 40 * (d + 1); omega)⟩ ⟨Nat.le_of_ble_eq_true rfl, Nat.le_of_ble_eq_true rfl⟩ rfl hl.1 rfl (Nat.le_of_ble_eq_true rfl) (oc_182 48 (aq_22 shX5_readPiece_26) uw_0_85)) hS (fun q _ h => hFc q h) hFc (fun r_13 u t H1 locs ht hvm wh_14 hB1 hz1 hk1 hS => ?_)
      obtain ⟨cn14, In14, Fn14⟩ := u
      obtain ⟨hP1, hD1⟩ := hB1
      rw [ht] at hP1
      have hP : va_P D vwCl (wX cI (D.1 99) zz g ad cn14 In14 Fn14) H1 := hP1
      have hD : va_D A (wX cI (D.1 99) zz g ad cn14 In14 Fn14) := hD1.weaken (fun _ _ _ h => hFc _ h)
      generalize H1 = H at hP hS ⊢
      have vh_14 : (fun r c2 I2 F2 => Fr [31, 32] [33] [] cn In Fn c2 I2 F2 ∧ CBX c2 ∧ (((cn 31) ≤ c2 31 ∧ c2 31 ≤ c2 32 ∧ c2 32 ≤ (cn 32)) ∧ r = 1)) r_13 cn14 In14 Fn14 := wh_14
      obtain ⟨hfc14, hIn14, h_14⟩ := vh_14
      obtain rfl : Fn = Fn14 := (funext (fun k => hfc14.2.2 k List.not_mem_nil)).symm
      have hf14 : Fr [31, 32] [33] [195, 301] cn In Fn cn14 In14 Fn := Fr.mo (Fr.tr (Fr.rf (cn := cn) (In := In) (Fn := Fn)) hfc14) (sbl rfl) (sbl rfl) (sbl rfl)
      replace hIn14 : CBXh cn14 := hIn14
      have : cn14 6 = (cn 6) := hfc14.1 6 (nml rfl)
      obtain ⟨h_14, rfl⟩ := h_14
      refine lv_if_eq (tgt := 95) hx hb (oc_153 51 shX5_readPiece_51 sgw_0_44) rfl (fun h => absurd h cq_eq_1_0) (fun _ => ?_)
      refine lv_aload_n hx hb (oc_42 54 (aq_3 shX5_readPiece_51)) rfl (lvA1 hl) ?_
      refine lv_iload_n hx hb (oc_27 55 (aq_4 shX5_readPiece_51)) rfl (lvA2 hl) ?_
      refine lv_iconst (v := 1) hx hb (oc_4 56 (aq_5 shX5_readPiece_51)) kic_1 ?_
      refine lv_iadd hx hb (oc_96 57 (aq_6 shX5_readPiece_51)) ?_
      have hFc := free_all hD hS hA
      refine va_callv (runV_xa (As := [.int (o + 1)]) (rest := []) S (hC9 ad cn14 In14 Fn H.size hIn14 (by omega) (by omega) (by omega) (by omega) (by rw [hf14.2.2 199 (nml rfl)]; exact h9)) kV_RX5_66 hK hXS hS hFc hP hD 3 xo_3 rfl rfl ⟨(by show df + 1 ≤ d + 1; omega), (by show 8 + (3 + 11) + 40 * df ≤ 40 * (d + 1); omega)⟩ ⟨Nat.le_of_ble_eq_true rfl, Nat.le_of_ble_eq_true rfl⟩ rfl hl.1 rfl (Nat.le_of_ble_eq_true rfl) (oc_182 58 (aq_7 shX5_readPiece_51) uw_0_66)) hS (fun q _ h => hFc q h) hFc (fun u t H1 locs ht hvm wh_16 hB1 hz1 hk1 hS => ?_)
      obtain ⟨cn16, In16, Fn16⟩ := u
      obtain ⟨hP1, hD1⟩ := hB1
      rw [ht] at hP1
      have hP : va_P D vwCl (wX cI (D.1 99) zz g ad cn16 In16 Fn16) H1 := hP1
      have hD : va_D A (wX cI (D.1 99) zz g ad cn16 In16 Fn16) := hD1.weaken (fun _ _ _ h => hFc _ h)
      generalize H1 = H at hP hS ⊢
      have vh_16 : (fun c2 I2 F2 => Fr [31, 32] [33] [195, 301] cn14 In14 Fn c2 I2 F2 ∧ CBX c2 ∧ ((cn14 31) ≤ c2 31 ∧ c2 31 ≤ c2 32 ∧ c2 32 ≤ (cn14 32))) cn16 In16 Fn16 := wh_16
      obtain ⟨hfc16, hIn16, h_16⟩ := vh_16
      have hf16 : Fr [31, 32] [33] [195, 301] cn In Fn cn16 In16 Fn16 := Fr.mo (Fr.tr hf14 hfc16) (sbl rfl) (sbl rfl) (sbl rfl)
      replace hIn16 : CBXh cn16 := hIn16
      have : cn16 6 = (cn14 6) := hfc16.1 6 (nml rfl)
      refine lv_aload_n hx hb (oc_42 61 (aq_10 shX5_readPiece_51)) rfl (lvA1 hl) ?_
      refine lv_bipush (v := 41) hx hb (oc_16 62 (aq_11 shX5_readPiece_51) sgb_41) kbc_41 ?_
      have hFc := free_all hD hS hA
      refine va_callv (runV_xa (As := [.int 41]) (rest := []) S (q_Rtake l D cI cB cZ zz qq vv bt g ad cn16 In16 Fn16 41 H.size hIn16 (by omega) (by omega) (by omega) (by omega) (by decide)) kV_RX5_62 hK hXS hS hFc hP hD 3 xo_3 rfl rfl ⟨(by show 1 + 1 ≤ d + 1; omega), (by show 8 + (2 + 11) + 40 * 1 ≤ 40 * (d + 1); omega)⟩ ⟨Nat.le_of_ble_eq_true rfl, Nat.le_of_ble_eq_true rfl⟩ rfl hl.1 rfl (Nat.le_of_ble_eq_true rfl) (oc_182 64 (aq_13 shX5_readPiece_51) uw_0_62)) hS (fun q _ h => hFc q h) hFc (fun u t H1 locs ht hvm wh_18 hB1 hz1 hk1 hS => ?_)
      obtain ⟨cn18, In18, Fn18⟩ := u
      obtain ⟨hP1, hD1⟩ := hB1
      rw [ht] at hP1
      have hP : va_P D vwCl (wX cI (D.1 99) zz g ad cn18 In18 Fn18) H1 := hP1
      have hD : va_D A (wX cI (D.1 99) zz g ad cn18 In18 Fn18) := hD1.weaken (fun _ _ _ h => hFc _ h)
      generalize H1 = H at hP hS ⊢
      have vh_18 : (fun c2 I2 F2 => Fr [31, 32] [33] [] cn16 In16 Fn16 c2 I2 F2 ∧ CBX c2 ∧ ((cn16 31) ≤ c2 31 ∧ c2 31 ≤ c2 32 ∧ c2 32 ≤ (cn16 32))) cn18 In18 Fn18 := wh_18
      obtain ⟨hfc18, hIn18, h_18⟩ := vh_18
      obtain rfl : Fn16 = Fn18 := (funext (fun k => hfc18.2.2 k List.not_mem_nil)).symm
      have hf18 : Fr [31, 32] [33] [195, 301] cn In Fn cn18 In18 Fn16 := Fr.mo (Fr.tr hf16 hfc18) (sbl rfl) (sbl rfl) (sbl rfl)
      replace hIn18 : CBXh cn18 := hIn18
      have : cn18 6 = (cn16 6) := hfc18.1 6 (nml rfl)
      refine lv_goto (tgt := 95) hx hb (oc_167 67 (aq_16 shX5_readPiece_51) sgw_0_28) rfl ?_
      exact W.vret hx hb hr (fun t ht hW => ⟨⟨(cn18, In18, Fn16), rfl, ⟨(Fr.mo hf18 (sbl rfl) (sbl rfl) (sbl rfl)), hIn18, (by show cn 31 ≤ cn18 31 ∧ cn18 31 ≤ cn18 32 ∧ cn18 32 ≤ cn 32; show cn 31 ≤ (cn18 31) ∧ (cn18 31) ≤ (cn18 32) ∧ (cn18 32) ≤ cn 32; omega)⟩, by rw [ht]; exact hP, hD⟩, hS.F ht⟩) hS.2.2 dX5_readPiece_95
  ·
    have tc_3 : (r_1.toInt : Int) = 33 := congrArg Int32.toInt c_3
    refine lv_aload_n hx hb (oc_42 11 (aq_11 shX5_readPiece_0)) rfl (lvA1 hl) ?_
    refine lv_iload_n hx hb (oc_27 12 (aq_12 shX5_readPiece_0)) rfl (lvA2 hl) ?_
    have hFc := free_all hD hS hA
    refine va_calli (runV_xa (As := [.int o]) (rest := []) S (q_Ropens_y l D cI cB cZ zz qq vv bt g ad cn In Fn o s.heap.size hB (by omega) (by omega) (by omega) (by omega) (by omega) ho) kV_RX5_85 hK hXS hS hFc hP hD 3 xo_3 rfl rfl ⟨(by show 1 + 1 ≤ d + 1; omega), (by show 8 + (2 + 11) + 40 * 1 ≤ 40 * (d + 1); omega)⟩ ⟨Nat.le_of_ble_eq_true rfl, Nat.le_of_ble_eq_true rfl⟩ rfl hl.1 rfl (Nat.le_of_ble_eq_true rfl) (oc_182 13 (aq_13 shX5_readPiece_0) uw_0_85)) hS (fun q _ h => hFc q h) hFc (fun r_19 u t H1 locs ht hvm wh_20 hB1 hz1 hk1 hS => ?_)
    obtain ⟨cn20, In20, Fn20⟩ := u
    obtain ⟨hP1, hD1⟩ := hB1
    rw [ht] at hP1
    have hP : va_P D vwCl (wX cI (D.1 99) zz g ad cn20 In20 Fn20) H1 := hP1
    have hD : va_D A (wX cI (D.1 99) zz g ad cn20 In20 Fn20) := hD1.weaken (fun _ _ _ h => hFc _ h)
    generalize H1 = H at hP hS ⊢
    have vh_20 : (fun r c2 I2 F2 => Fr [31, 32] [33] [] cn In Fn c2 I2 F2 ∧ CBX c2 ∧ (((cn 31) ≤ c2 31 ∧ c2 31 ≤ c2 32 ∧ c2 32 ≤ (cn 32)) ∧ r = 1)) r_19 cn20 In20 Fn20 := wh_20
    obtain ⟨hfc20, hIn20, h_20⟩ := vh_20
    obtain rfl : Fn = Fn20 := (funext (fun k => hfc20.2.2 k List.not_mem_nil)).symm
    have hf20 : Fr [31, 32] [33] [195, 301] cn In Fn cn20 In20 Fn := Fr.mo (Fr.tr (Fr.rf (cn := cn) (In := In) (Fn := Fn)) hfc20) (sbl rfl) (sbl rfl) (sbl rfl)
    replace hIn20 : CBXh cn20 := hIn20
    have : cn20 6 = (cn 6) := hfc20.1 6 (nml rfl)
    obtain ⟨h_20, rfl⟩ := h_20
    refine lv_if_eq (tgt := 95) hx hb (oc_153 16 (aq_16 shX5_readPiece_0) sgw_0_79) rfl (fun h => absurd h cq_eq_1_0) (fun _ => ?_)
    refine lv_aload_n hx hb (oc_42 19 (aq_19 shX5_readPiece_0)) rfl (lvA1 hl) ?_
    refine lv_iload_n hx hb (oc_27 20 (aq_20 shX5_readPiece_0)) rfl (lvA2 hl) ?_
    refine lv_iconst (v := 1) hx hb (oc_4 21 (aq_21 shX5_readPiece_0)) kic_1 ?_
    refine lv_iadd hx hb (oc_96 22 (aq_22 shX5_readPiece_0)) ?_
    have hFc := free_all hD hS hA
    refine va_callv (runV_xa (As := [.int (o + 1)]) (rest := []) S (hP9 ad cn20 In20 Fn H.size hIn20 (by omega) (by omega) (by omega) (by omega) (by rw [hf20.2.2 199 (nml rfl)]; exact h9)) kV_RX5_82 hK hXS hS hFc hP hD 3 xo_3 rfl rfl ⟨(by show de + 1 ≤ d + 1; omega), (by show 8 + (4 + 11) + 40 * de ≤ 40 * (d + 1); omega)⟩ ⟨Nat.le_of_ble_eq_true rfl, Nat.le_of_ble_eq_true rfl⟩ rfl hl.1 rfl (Nat.le_of_ble_eq_true rfl) (oc_182 23 (aq_23 shX5_readPiece_0) uw_0_82)) hS (fun q _ h => hFc q h) hFc (fun u t H1 locs ht hvm wh_22 hB1 hz1 hk1 hS => ?_)
    obtain ⟨cn22, In22, Fn22⟩ := u
    obtain ⟨hP1, hD1⟩ := hB1
    rw [ht] at hP1
    have hP : va_P D vwCl (wX cI (D.1 99) zz g ad cn22 In22 Fn22) H1 := hP1
    have hD : va_D A (wX cI (D.1 99) zz g ad cn22 In22 Fn22) := hD1.weaken (fun _ _ _ h => hFc _ h)
    generalize H1 = H at hP hS ⊢
    have vh_22 : (fun c2 I2 F2 => Fr [31, 32] [33] [195, 301] cn20 In20 Fn c2 I2 F2 ∧ CBX c2 ∧ ((cn20 31) ≤ c2 31 ∧ c2 31 ≤ c2 32 ∧ c2 32 ≤ (cn20 32))) cn22 In22 Fn22 := wh_22
    obtain ⟨hfc22, hIn22, h_22⟩ := vh_22
    have hf22 : Fr [31, 32] [33] [195, 301] cn In Fn cn22 In22 Fn22 := Fr.mo (Fr.tr hf20 hfc22) (sbl rfl) (sbl rfl) (sbl rfl)
    replace hIn22 : CBXh cn22 := hIn22
    have : cn22 6 = (cn20 6) := hfc22.1 6 (nml rfl)
    refine lv_aload_n hx hb (oc_42 26 shX5_readPiece_26) rfl (lvA1 hl) ?_
    refine gf_RX5_20 S hK hP 3 xo_3 (v := .ref (ad 5 (ad 4 1))) rfl (oc_180 27 (aq_1 shX5_readPiece_26) uw_0_20) ?_
    refine lv_bipush (v := 11) hx hb (oc_16 30 (aq_4 shX5_readPiece_26) sgb_11) kbc_11 ?_
    refine lv_iconst (v := 0) hx hb (oc_3 32 (aq_6 shX5_readPiece_26)) kic_0 ?_
    have hFc := free_all hD hS hA
    refine va_calli (runV_xa (As := [.int 11, .int 0]) (rest := []) S (q_Tadd l D cI cB cZ zz qq vv bt g ad cn22 In22 Fn22 (ad 4 1) 11 0 H.size hIn22 (by omega) (by rw [hf22.2.2 199 (nml rfl)]; exact h9)) kV_RX5_75 hK hXS hS hFc hP hD _ (xf_7 (show (ad 4 1) < (cn22 6) by omega)) rfl rfl ⟨(by show 0 + 1 ≤ d + 1; omega), (by show 8 + (3 + 11) + 40 * 0 ≤ 40 * (d + 1); omega)⟩ ⟨Nat.le_of_ble_eq_true rfl, Nat.le_of_ble_eq_true rfl⟩ rfl hl.1 rfl (Nat.le_of_ble_eq_true rfl) (oc_182 33 (aq_7 shX5_readPiece_26) uw_0_75)) hS (fun q _ h => hFc q h) hFc (fun r_23 u t H1 locs ht hvm wh_24 hB1 hz1 hk1 hS => ?_)
    obtain ⟨cn24, In24, Fn24⟩ := u
    obtain ⟨hP1, hD1⟩ := hB1
    rw [ht] at hP1
    have hP : va_P D vwCl (wX cI (D.1 99) zz g ad cn24 In24 Fn24) H1 := hP1
    have hD : va_D A (wX cI (D.1 99) zz g ad cn24 In24 Fn24) := hD1.weaken (fun _ _ _ h => hFc _ h)
    generalize H1 = H at hP hS ⊢
    have vh_24 : (fun r c2 I2 F2 => Fr [] [] [195, 301] cn22 In22 Fn22 c2 I2 F2 ∧ CBX c2 ∧ (True)) r_23 cn24 In24 Fn24 := wh_24
    obtain ⟨hfc24, hIn24, h_24⟩ := vh_24
    obtain rfl : cn22 = cn24 := (funext (fun k => hfc24.1 k List.not_mem_nil)).symm
    obtain rfl : In22 = In24 := (funext (fun k => hfc24.2.1 k List.not_mem_nil)).symm
    have hf24 : Fr [31, 32] [33] [195, 301] cn In Fn cn22 In22 Fn24 := Fr.mo (Fr.tr hf22 hfc24) (sbl rfl) (sbl rfl) (sbl rfl)
    replace hIn24 : CBXh cn22 := hIn24
    refine lv_pop hx hb (oc_87 36 (aq_10 shX5_readPiece_26)) rfl ?_
    refine lv_goto (tgt := 95) hx hb (oc_167 37 (aq_11 shX5_readPiece_26) sgw_0_58) rfl ?_
    exact W.vret hx hb hr (fun t ht hW => ⟨⟨(cn22, In22, Fn24), rfl, ⟨(Fr.mo hf24 (sbl rfl) (sbl rfl) (sbl rfl)), hIn24, (by show cn 31 ≤ cn22 31 ∧ cn22 31 ≤ cn22 32 ∧ cn22 32 ≤ cn 32; show cn 31 ≤ (cn22 31) ∧ (cn22 31) ≤ (cn22 32) ∧ (cn22 32) ≤ cn 32; omega)⟩, by rw [ht]; exact hP, hD⟩, hS.F ht⟩) hS.2.2 dX5_readPiece_95
set_option maxRecDepth 100000 in
set_option maxHeartbeats 4000000 in
theorem gq_GreadPart (l : Launch) (D : va_G) (cI cB cZ : ClassId) (zz qq vv : Nat) (bt : Nat → Int32) (g : Nat → Nat) (o : Int32) (d : Nat) (hd : 4 ≤ d ∧ d ≤ 60) (hSq : RDQ yX5_readPiece cX5_readPiece 4 l D cI cB cZ zz qq vv bt g o d) : RDQ yX5_readPart cX5_readPart 3 l D cI cB cZ zz qq vv bt g o (d + 1) := by
  intro ad cn In Fn sz hB hR h1 h3 h4 h9
  refine Met.ofW (cc := cX5_readPart) (maxL := 3) (ret := none) (by decide) rfl ?_
  intro p e s m args below meth c s₁ B hml hv
  obtain ⟨rfl, hsz, hP, hK, hD0, hXS⟩ := hv
  have hx := B.exec
  have hb := B.bytes
  have hr := B.returns
  have hts := atoms_spec (ws := (CWS yX5_readPart cX5_readPart 3 none)) B.pre
  have hown : s.vm.findClass RX5 = some m.cls := findClass_of_methodNamed B.named
  have hlocks := B.notSynchronized
  have S : SF p m c cX5_readPart 3 s ([.ref (g 6), .int o]).toArray RX5 := ⟨hx, hb, hml, hown, fun w h => hts w (List.mem_cons_of_mem _ h)⟩
  subst hsz
  have hD := hD0.self (sz := s.heap.size)
  generalize hAe : va_A (wX cI (D.1 99) zz g ad cn In Fn) s.heap.size = A at hD hXS ⊢
  have hA : ∀ q : Nat, s.heap.size ≤ q → A q := fun q h => by rw [← hAe]; exact Or.inr h
  have hS : va_S A s.heap s.heap [] := va_S.rf
  have hl := lv_entry ([.ref (g 6), .int o]) (n := 3) (Nat.le_of_ble_eq_true rfl)
  rw [lg_entry_eq]
  generalize (lg_sl ([.ref (g 6), .int o]) ++ List.replicate (3 - (lg_sl ([.ref (g 6), .int o])).length) Slot.unset).toArray = ls at hl ⊢
  have hl : lv_has ls 3 [(0, .ref (g 6)), (1, .int o)] := hl
  replace hB : CBXh cn := hB
  refine lv_aload_n hx hb (oc_42 0 shX5_readPart_0) rfl (lvA0 hl) ?_
  refine lv_iload_n hx hb (oc_27 1 (aq_1 shX5_readPart_0)) rfl (lvA1 hl) ?_
  have hFc := free_all hD hS hA
  refine va_callv (runV_xa (As := [.int o]) (rest := []) S (hSq ad cn In Fn s.heap.size hB (by omega) (by omega) (by omega) (by omega) h9) kV_RX5_82 hK hXS hS hFc hP hD 3 xo_3 rfl rfl ⟨(by show d + 1 ≤ d + 1; omega), (by show 8 + (4 + 11) + 40 * d ≤ 40 * (d + 1); omega)⟩ ⟨Nat.le_of_ble_eq_true rfl, Nat.le_of_ble_eq_true rfl⟩ rfl hl.1 rfl (Nat.le_of_ble_eq_true rfl) (oc_182 2 (aq_2 shX5_readPart_0) uw_0_82)) hS (fun q _ h => hFc q h) hFc (fun u t H1 locs ht hvm wh_2 hB1 hz1 hk1 hS => ?_)
  obtain ⟨cn2, In2, Fn2⟩ := u
  obtain ⟨hP1, hD1⟩ := hB1
  rw [ht] at hP1
  have hP : va_P D vwCl (wX cI (D.1 99) zz g ad cn2 In2 Fn2) H1 := hP1
  have hD : va_D A (wX cI (D.1 99) zz g ad cn2 In2 Fn2) := hD1.weaken (fun _ _ _ h => hFc _ h)
  generalize H1 = H at hP hS ⊢
  have vh_2 : (fun c2 I2 F2 => Fr [31, 32] [33] [195, 301] cn In Fn c2 I2 F2 ∧ CBX c2 ∧ ((cn 31) ≤ c2 31 ∧ c2 31 ≤ c2 32 ∧ c2 32 ≤ (cn 32))) cn2 In2 Fn2 := wh_2
  obtain ⟨hfc2, hIn2, h_2⟩ := vh_2
  have hf2 : Fr [31, 32] [33] [195, 301] cn In Fn cn2 In2 Fn2 := Fr.mo (Fr.tr (Fr.rf (cn := cn) (In := In) (Fn := Fn)) hfc2) (sbl rfl) (sbl rfl) (sbl rfl)
  replace hIn2 : CBXh cn2 := hIn2
  have : cn2 6 = (cn 6) := hfc2.1 6 (nml rfl)
  have lp_5 : ∀ (n : Nat)  (c5 : Nat → Nat) (I5 : Nat → Int32) (F5 : Nat → Nat → Int32) (H : Heap) (locs : List Loc) , c5 32 - c5 31 < n → (Fr [31, 32] [33] [195, 301] cn In Fn c5 I5 F5 ∧ CBX c5 ∧ (cn 31 ≤ c5 31 ∧ c5 31 ≤ c5 32 ∧ c5 32 ≤ cn 32)) → va_P D vwCl (wX cI (D.1 99) zz g ad c5 I5 F5) H → va_D A (wX cI (D.1 99) zz g ad c5 I5 F5) → va_S A s.heap H locs → ∀ ls : Array Slot, lv_has ls 3 [(0, .ref (g 6)), (1, .int o)] → W p l e (RM (d + 1) 0 0) s m ([.ref (g 6), .int o]).toArray below meth c H locs 0 0 (MQ below (va_Qv (fun (u : (Nat → Nat) × (Nat → Int32) × (Nat → Nat → Int32)) => (fun c2 I2 F2 => Fr [31, 32] [33] [195, 301] cn In Fn c2 I2 F2 ∧ CBX c2 ∧ (cn 31 ≤ c2 31 ∧ c2 31 ≤ c2 32 ∧ c2 32 ≤ cn 32)) u.1 u.2.1 u.2.2) (fun (u : (Nat → Nat) × (Nat → Int32) × (Nat → Nat → Int32)) (t : State) => va_P D vwCl (wX cI (D.1 99) zz g ad u.1 u.2.1 u.2.2) t.heap ∧ va_D A (wX cI (D.1 99) zz g ad u.1 u.2.1 u.2.2)) A) ([.ref (g 6), .int o]).toArray s 0 0 A) (F0 m 5 ls []) := by
    intro n5
    induction n5 with
    | zero => intros; omega
    | succ n5 ih5 =>
      intro  c5 I5 F5 H locs hmu5 hinv5 hP hD hS ls hl
      obtain ⟨hfr5, hI5, hx5_0⟩ := hinv5
      replace hI5 : CBXh c5 := hI5
      have : c5 6 = cn 6 := hfr5.1 6 (nml rfl)
      refine lv_aload_n hx hb (oc_42 5 (aq_5 shX5_readPart_0)) rfl (lvA0 hl) ?_
      refine gf_RX5_31 S hK hP 3 xo_3 (v := .int (nI (c5 31))) rfl (oc_180 6 (aq_6 shX5_readPart_0) uw_0_31) ?_
      refine lv_aload_n hx hb (oc_42 9 (aq_9 shX5_readPart_0)) rfl (lvA0 hl) ?_
      refine gf_RX5_34 S hK hP 3 xo_3 (v := .int (nI (c5 32))) rfl (oc_180 10 (aq_10 shX5_readPart_0) uw_0_34) ?_
      have : (nI (c5 31)).toInt = (((c5 31) : Nat) : Int) := nI_toInt (by omega)
      have : (nI (c5 32)).toInt = (((c5 32) : Nat) : Int) := nI_toInt (by omega)
      refine lv_icmp_ge (tgt := 62) hx hb (oc_162 13 (aq_13 shX5_readPart_0) sgw_0_49) rfl (fun c_3 => ?_) (fun c_3 => ?_)
      ·
        have tc_3 : ((nI (c5 32)).toInt : Int) ≤ (nI (c5 31)).toInt := Int32.le_iff_toInt_le.mp c_3
        exact W.vret hx hb hr (fun t ht hW => ⟨⟨(c5, I5, F5), rfl, ⟨(Fr.mo hfr5 (sbl rfl) (sbl rfl) (sbl rfl)), hI5, (by show cn 31 ≤ c5 31 ∧ c5 31 ≤ c5 32 ∧ c5 32 ≤ cn 32; show cn 31 ≤ (c5 31) ∧ (c5 31) ≤ (c5 32) ∧ (c5 32) ≤ cn 32; omega)⟩, by rw [ht]; exact hP, hD⟩, hS.F ht⟩) hS.2.2 (oc_177 62 (aq_11 shX5_readPart_51))
      ·
        have tc_3 : ((nI (c5 31)).toInt : Int) < (nI (c5 32)).toInt := Int32.lt_iff_toInt_lt.mp (Int32.not_le.mp c_3)
        refine lv_aload_n hx hb (oc_42 16 (aq_16 shX5_readPart_0)) rfl (lvA0 hl) ?_
        refine vp_callSi (runV_rxa (As := []) (rest := []) S (q_Rpeek l D cI cB cZ zz qq vv bt g ad c5 I5 F5  hI5 (by omega) (by omega) (by omega) (by omega)) kV_RX5_43 hK hXS hS hP 3 xo_3 rfl rfl ⟨(by show 0 + 1 ≤ d + 1; omega), (by show 8 + (1 + 11) + 40 * 0 ≤ 40 * (d + 1); omega)⟩ ⟨Nat.le_of_ble_eq_true rfl, Nat.le_of_ble_eq_true rfl⟩ rfl hl.1 rfl (Nat.le_of_ble_eq_true rfl) (oc_182 17 (aq_17 shX5_readPart_0) uw_0_43)) (fun r_4 h_5 => ?_)
        refine lv_bipush (v := 38) hx hb (oc_16 20 (aq_20 shX5_readPart_0) sgb_38) kbc_38 ?_
        refine lv_icmp_ne (tgt := 62) hx hb (oc_160 22 (aq_22 shX5_readPart_0) sgw_0_40) rfl (fun c_6 => ?_) (fun c_6 => ?_)
        ·
          have tc_6 : (r_4.toInt : Int) ≠ 38 := fun q => c_6 (Int32.toInt_inj.mp q)
          exact W.vret hx hb hr (fun t ht hW => ⟨⟨(c5, I5, F5), rfl, ⟨(Fr.mo hfr5 (sbl rfl) (sbl rfl) (sbl rfl)), hI5, (by show cn 31 ≤ c5 31 ∧ c5 31 ≤ c5 32 ∧ c5 32 ≤ cn 32; show cn 31 ≤ (c5 31) ∧ (c5 31) ≤ (c5 32) ∧ (c5 32) ≤ cn 32; omega)⟩, by rw [ht]; exact hP, hD⟩, hS.F ht⟩) hS.2.2 (oc_177 62 (aq_11 shX5_readPart_51))
        ·
          have tc_6 : (r_4.toInt : Int) = 38 := congrArg Int32.toInt c_6
          refine lv_aload_n hx hb (oc_42 25 shX5_readPart_25) rfl (lvA0 hl) ?_
          refine lv_dup hx hb (oc_89 26 (aq_1 shX5_readPart_25)) rfl ?_
          refine gf_RX5_31 S hK hP 3 xo_3 (v := .int (nI (c5 31))) rfl (oc_180 27 (aq_2 shX5_readPart_25) uw_0_31) ?_
          refine lv_iconst (v := 1) hx hb (oc_4 30 (aq_5 shX5_readPart_25)) kic_1 ?_
          refine lv_iadd hx hb (oc_96 31 (aq_6 shX5_readPart_25)) ?_
          refine lv_topi (fun y_7 ey_7 => ?_)
          obtain rfl : y_7 = (nI ((c5 31) + 1)) := ey_7.trans (nI_add (c5 31) 1)
          refine pf_RX5_31 S hK hP hD hS 3 xo_3 (v := .int (nI ((c5 31) + 1))) (Nat.le_of_ble_eq_true rfl) rfl rfl (oc_181 32 (aq_7 shX5_readPart_25) uw_0_31) (fun H locs hP hD hS => ?_)
          have hP : va_P D vwCl (wX cI (D.1 99) zz g ad (va_up c5 31 ((c5 31) + 1)) I5 F5) H := va_P_eq (xsf_3_3) hP
          have hD : va_D A (wX cI (D.1 99) zz g ad (va_up c5 31 ((c5 31) + 1)) I5 F5) := va_D_eq (xsf_3_3) hD
          refine lv_aload_n hx hb (oc_42 35 (aq_10 shX5_readPart_25)) rfl (lvA0 hl) ?_
          refine gf_RX5_20 S hK hP 3 xo_3 (v := .ref (ad 5 (ad 4 1))) rfl (oc_180 36 (aq_11 shX5_readPart_25) uw_0_20) ?_
          refine lv_bipush (v := 12) hx hb (oc_16 39 (aq_14 shX5_readPart_25) sgb_12) kbc_12 ?_
          refine lv_iconst (v := 0) hx hb (oc_3 41 (aq_16 shX5_readPart_25)) kic_0 ?_
          have hFc := free_all hD hS hA
          refine va_calli (runV_xa (As := [.int 12, .int 0]) (rest := []) S (q_Tadd l D cI cB cZ zz qq vv bt g ad (va_up c5 31 ((c5 31) + 1)) I5 F5 (ad 4 1) 12 0 H.size (CBX.n (k := 31) (v := ((c5 31) + 1)) hI5 (by decide)) (show (ad 4 1) < (c5 6) by omega) (by rw [hfr5.2.2 199 (nml rfl)]; exact h9)) kV_RX5_75 hK hXS hS hFc hP hD _ (xf_7 (show (ad 4 1) < (c5 6) by omega)) rfl rfl ⟨(by show 0 + 1 ≤ d + 1; omega), (by show 8 + (3 + 11) + 40 * 0 ≤ 40 * (d + 1); omega)⟩ ⟨Nat.le_of_ble_eq_true rfl, Nat.le_of_ble_eq_true rfl⟩ rfl hl.1 rfl (Nat.le_of_ble_eq_true rfl) (oc_182 42 (aq_17 shX5_readPart_25) uw_0_75)) hS (fun q _ h => hFc q h) hFc (fun r_8 u t H1 locs ht hvm wh_9 hB1 hz1 hk1 hS => ?_)
          obtain ⟨cn9, In9, Fn9⟩ := u
          obtain ⟨hP1, hD1⟩ := hB1
          rw [ht] at hP1
          have hP : va_P D vwCl (wX cI (D.1 99) zz g ad cn9 In9 Fn9) H1 := hP1
          have hD : va_D A (wX cI (D.1 99) zz g ad cn9 In9 Fn9) := hD1.weaken (fun _ _ _ h => hFc _ h)
          generalize H1 = H at hP hS ⊢
          have vh_9 : (fun r c2 I2 F2 => Fr [] [] [195, 301] (va_up c5 31 ((c5 31) + 1)) I5 F5 c2 I2 F2 ∧ CBX c2 ∧ (True)) r_8 cn9 In9 Fn9 := wh_9
          obtain ⟨hfc9, hIn9, h_9⟩ := vh_9
          obtain rfl : I5 = In9 := (funext (fun k => hfc9.2.1 k List.not_mem_nil)).symm
          have hf9 : Fr [31, 32] [33] [195, 301] cn In Fn cn9 I5 Fn9 := Fr.mo (Fr.tr (Fr.c 31 hfr5) hfc9) (sbl rfl) (sbl rfl) (sbl rfl)
          replace hIn9 : CBXh cn9 := hIn9
          have : cn9 6 = (c5 6) := hfc9.1 6 (nml rfl)
          have : cn9 31 = ((c5 31) + 1) := hfc9.1 31 (nml rfl)
          have : cn9 32 = (c5 32) := hfc9.1 32 (nml rfl)
          refine lv_istore_n (lv' := [(2, .int r_8), (0, .ref (g 6)), (1, .int o)]) hx hb (oc_61 45 (aq_20 shX5_readPart_25)) rfl hl (ltb rfl) rfl (fun ls hl => ?_)
          refine lv_aload_n hx hb (oc_42 46 (aq_21 shX5_readPart_25)) rfl (lvA1 hl) ?_
          refine lv_iload_n hx hb (oc_27 47 (aq_22 shX5_readPart_25)) rfl (lvA2 hl) ?_
          have hFc := free_all hD hS hA
          refine va_callv (runV_xa (As := [.int o]) (rest := []) S (hSq ad cn9 I5 Fn9 H.size hIn9 (by omega) (by omega) (by omega) (by omega) (by rw [hf9.2.2 199 (nml rfl)]; exact h9)) kV_RX5_82 hK hXS hS hFc hP hD 3 xo_3 rfl rfl ⟨(by show d + 1 ≤ d + 1; omega), (by show 8 + (4 + 11) + 40 * d ≤ 40 * (d + 1); omega)⟩ ⟨Nat.le_of_ble_eq_true rfl, Nat.le_of_ble_eq_true rfl⟩ rfl hl.1 rfl (Nat.le_of_ble_eq_true rfl) (oc_182 48 (aq_23 shX5_readPart_25) uw_0_82)) hS (fun q _ h => hFc q h) hFc (fun u t H1 locs ht hvm wh_11 hB1 hz1 hk1 hS => ?_)
          obtain ⟨cn11, In11, Fn11⟩ := u
          obtain ⟨hP1, hD1⟩ := hB1
          rw [ht] at hP1
          have hP : va_P D vwCl (wX cI (D.1 99) zz g ad cn11 In11 Fn11) H1 := hP1
          have hD : va_D A (wX cI (D.1 99) zz g ad cn11 In11 Fn11) := hD1.weaken (fun _ _ _ h => hFc _ h)
          generalize H1 = H at hP hS ⊢
          have vh_11 : (fun c2 I2 F2 => Fr [31, 32] [33] [195, 301] cn9 I5 Fn9 c2 I2 F2 ∧ CBX c2 ∧ ((cn9 31) ≤ c2 31 ∧ c2 31 ≤ c2 32 ∧ c2 32 ≤ (cn9 32))) cn11 In11 Fn11 := wh_11
          obtain ⟨hfc11, hIn11, h_11⟩ := vh_11
          have hf11 : Fr [31, 32] [33] [195, 301] cn In Fn cn11 In11 Fn11 := Fr.mo (Fr.tr hf9 hfc11) (sbl rfl) (sbl rfl) (sbl rfl)
          replace hIn11 : CBXh cn11 := hIn11
          have : cn11 6 = (cn9 6) := hfc11.1 6 (nml rfl)
          refine lv_aload_n hx hb (oc_42 51 shX5_readPart_51) rfl (lvA1 hl) ?_
          refine gf_RX5_20 S hK hP 3 xo_3 (v := .ref (ad 5 (ad 4 1))) rfl (oc_180 52 (aq_1 shX5_readPart_51) uw_0_20) ?_
          refine lv_iload_n hx hb (oc_28 55 (aq_4 shX5_readPart_51)) rfl (lvA0 hl) ?_
          have hFc := free_all hD hS hA
          refine va_callv (runV_xa (As := [.int r_8]) (rest := []) S (q_Taim l D cI cB cZ zz qq vv bt g ad cn11 In11 Fn11 (ad 4 1) r_8 H.size hIn11 (by omega) (by rw [hf11.2.2 199 (nml rfl)]; exact h9)) kV_RX5_79 hK hXS hS hFc hP hD _ (xf_7 (show (ad 4 1) < (cn11 6) by omega)) rfl rfl ⟨(by show 1 + 1 ≤ d + 1; omega), (by show 8 + (2 + 11) + 40 * 1 ≤ 40 * (d + 1); omega)⟩ ⟨Nat.le_of_ble_eq_true rfl, Nat.le_of_ble_eq_true rfl⟩ rfl hl.1 rfl (Nat.le_of_ble_eq_true rfl) (oc_182 56 (aq_5 shX5_readPart_51) uw_0_79)) hS (fun q _ h => hFc q h) hFc (fun u t H1 locs ht hvm wh_13 hB1 hz1 hk1 hS => ?_)
          obtain ⟨cn13, In13, Fn13⟩ := u
          obtain ⟨hP1, hD1⟩ := hB1
          rw [ht] at hP1
          have hP : va_P D vwCl (wX cI (D.1 99) zz g ad cn13 In13 Fn13) H1 := hP1
          have hD : va_D A (wX cI (D.1 99) zz g ad cn13 In13 Fn13) := hD1.weaken (fun _ _ _ h => hFc _ h)
          generalize H1 = H at hP hS ⊢
          have vh_13 : (fun c2 I2 F2 => Fr [] [] [301] cn11 In11 Fn11 c2 I2 F2 ∧ CBX c2 ∧ (True)) cn13 In13 Fn13 := wh_13
          obtain ⟨hfc13, hIn13, h_13⟩ := vh_13
          obtain rfl : cn11 = cn13 := (funext (fun k => hfc13.1 k List.not_mem_nil)).symm
          obtain rfl : In11 = In13 := (funext (fun k => hfc13.2.1 k List.not_mem_nil)).symm
          have hf13 : Fr [31, 32] [33] [195, 301] cn In Fn cn11 In11 Fn13 := Fr.mo (Fr.tr hf11 hfc13) (sbl rfl) (sbl rfl) (sbl rfl)
          replace hIn13 : CBXh cn11 := hIn13
          refine lv_goto (tgt := 5) hx hb (oc_167 59 (aq_8 shX5_readPart_51) sgw_255_202) rfl ?_
          exact ih5  cn11 In11 Fn13 _ _ (show (cn11 32) - (cn11 31) < n5 by omega) ⟨(Fr.mo hf13 (sbl rfl) (sbl rfl) (sbl rfl)), hIn13, (show cn 31 ≤ (cn11 31) ∧ (cn11 31) ≤ (cn11 32) ∧ (cn11 32) ≤ cn 32 by omega)⟩ hP hD hS ls (lv_sub hl [1, 2] rfl)
  exact lp_5 _  cn2 In2 Fn2 _ _ (Nat.lt_succ_self _) ⟨(Fr.mo hf2 (sbl rfl) (sbl rfl) (sbl rfl)), hIn2, (show cn 31 ≤ (cn2 31) ∧ (cn2 31) ≤ (cn2 32) ∧ (cn2 32) ≤ cn 32 by omega)⟩ hP hD hS ls (lv_sub hl [0, 1] rfl)
set_option maxRecDepth 100000 in
set_option maxHeartbeats 4000000 in
theorem gq_GreadCondition (l : Launch) (D : va_G) (cI cB cZ : ClassId) (zz qq vv : Nat) (bt : Nat → Int32) (g : Nat → Nat) (o : Int32) (d : Nat) (hd : 4 ≤ d ∧ d ≤ 60) (hSq : RDQ yX5_readPart cX5_readPart 3 l D cI cB cZ zz qq vv bt g o d) : RDQ yX5_readCondition cX5_readCondition 3 l D cI cB cZ zz qq vv bt g o (d + 1) := by
  intro ad cn In Fn sz hB hR h1 h3 h4 h9
  refine Met.ofW (cc := cX5_readCondition) (maxL := 3) (ret := none) (by decide) rfl ?_
  intro p e s m args below meth c s₁ B hml hv
  obtain ⟨rfl, hsz, hP, hK, hD0, hXS⟩ := hv
  have hx := B.exec
  have hb := B.bytes
  have hr := B.returns
  have hts := atoms_spec (ws := (CWS yX5_readCondition cX5_readCondition 3 none)) B.pre
  have hown : s.vm.findClass RX5 = some m.cls := findClass_of_methodNamed B.named
  have hlocks := B.notSynchronized
  have S : SF p m c cX5_readCondition 3 s ([.ref (g 6), .int o]).toArray RX5 := ⟨hx, hb, hml, hown, fun w h => hts w (List.mem_cons_of_mem _ h)⟩
  subst hsz
  have hD := hD0.self (sz := s.heap.size)
  generalize hAe : va_A (wX cI (D.1 99) zz g ad cn In Fn) s.heap.size = A at hD hXS ⊢
  have hA : ∀ q : Nat, s.heap.size ≤ q → A q := fun q h => by rw [← hAe]; exact Or.inr h
  have hS : va_S A s.heap s.heap [] := va_S.rf
  have hl := lv_entry ([.ref (g 6), .int o]) (n := 3) (Nat.le_of_ble_eq_true rfl)
  rw [lg_entry_eq]
  generalize (lg_sl ([.ref (g 6), .int o]) ++ List.replicate (3 - (lg_sl ([.ref (g 6), .int o])).length) Slot.unset).toArray = ls at hl ⊢
  have hl : lv_has ls 3 [(0, .ref (g 6)), (1, .int o)] := hl
  replace hB : CBXh cn := hB
  refine lv_aload_n hx hb (oc_42 0 shX5_readCondition_0) rfl (lvA0 hl) ?_
  refine lv_iload_n hx hb (oc_27 1 (aq_1 shX5_readCondition_0)) rfl (lvA1 hl) ?_
  have hFc := free_all hD hS hA
  refine va_callv (runV_xa (As := [.int o]) (rest := []) S (hSq ad cn In Fn s.heap.size hB (by omega) (by omega) (by omega) (by omega) h9) kV_RX5_72 hK hXS hS hFc hP hD 3 xo_3 rfl rfl ⟨(by show d + 1 ≤ d + 1; omega), (by show 8 + (3 + 11) + 40 * d ≤ 40 * (d + 1); omega)⟩ ⟨Nat.le_of_ble_eq_true rfl, Nat.le_of_ble_eq_true rfl⟩ rfl hl.1 rfl (Nat.le_of_ble_eq_true rfl) (oc_182 2 (aq_2 shX5_readCondition_0) uw_0_72)) hS (fun q _ h => hFc q h) hFc (fun u t H1 locs ht hvm wh_2 hB1 hz1 hk1 hS => ?_)
  obtain ⟨cn2, In2, Fn2⟩ := u
  obtain ⟨hP1, hD1⟩ := hB1
  rw [ht] at hP1
  have hP : va_P D vwCl (wX cI (D.1 99) zz g ad cn2 In2 Fn2) H1 := hP1
  have hD : va_D A (wX cI (D.1 99) zz g ad cn2 In2 Fn2) := hD1.weaken (fun _ _ _ h => hFc _ h)
  generalize H1 = H at hP hS ⊢
  have vh_2 : (fun c2 I2 F2 => Fr [31, 32] [33] [195, 301] cn In Fn c2 I2 F2 ∧ CBX c2 ∧ ((cn 31) ≤ c2 31 ∧ c2 31 ≤ c2 32 ∧ c2 32 ≤ (cn 32))) cn2 In2 Fn2 := wh_2
  obtain ⟨hfc2, hIn2, h_2⟩ := vh_2
  have hf2 : Fr [31, 32] [33] [195, 301] cn In Fn cn2 In2 Fn2 := Fr.mo (Fr.tr (Fr.rf (cn := cn) (In := In) (Fn := Fn)) hfc2) (sbl rfl) (sbl rfl) (sbl rfl)
  replace hIn2 : CBXh cn2 := hIn2
  have : cn2 6 = (cn 6) := hfc2.1 6 (nml rfl)
  have lp_5 : ∀ (n : Nat)  (c5 : Nat → Nat) (I5 : Nat → Int32) (F5 : Nat → Nat → Int32) (H : Heap) (locs : List Loc) , c5 32 - c5 31 < n → (Fr [31, 32] [33] [195, 301] cn In Fn c5 I5 F5 ∧ CBX c5 ∧ (cn 31 ≤ c5 31 ∧ c5 31 ≤ c5 32 ∧ c5 32 ≤ cn 32)) → va_P D vwCl (wX cI (D.1 99) zz g ad c5 I5 F5) H → va_D A (wX cI (D.1 99) zz g ad c5 I5 F5) → va_S A s.heap H locs → ∀ ls : Array Slot, lv_has ls 3 [(0, .ref (g 6)), (1, .int o)] → W p l e (RM (d + 1) 0 0) s m ([.ref (g 6), .int o]).toArray below meth c H locs 0 0 (MQ below (va_Qv (fun (u : (Nat → Nat) × (Nat → Int32) × (Nat → Nat → Int32)) => (fun c2 I2 F2 => Fr [31, 32] [33] [195, 301] cn In Fn c2 I2 F2 ∧ CBX c2 ∧ (cn 31 ≤ c2 31 ∧ c2 31 ≤ c2 32 ∧ c2 32 ≤ cn 32)) u.1 u.2.1 u.2.2) (fun (u : (Nat → Nat) × (Nat → Int32) × (Nat → Nat → Int32)) (t : State) => va_P D vwCl (wX cI (D.1 99) zz g ad u.1 u.2.1 u.2.2) t.heap ∧ va_D A (wX cI (D.1 99) zz g ad u.1 u.2.1 u.2.2)) A) ([.ref (g 6), .int o]).toArray s 0 0 A) (F0 m 5 ls []) := by
    intro n5
    induction n5 with
    | zero => intros; omega
    | succ n5 ih5 =>
      intro  c5 I5 F5 H locs hmu5 hinv5 hP hD hS ls hl
      obtain ⟨hfr5, hI5, hx5_0⟩ := hinv5
      replace hI5 : CBXh c5 := hI5
      have : c5 6 = cn 6 := hfr5.1 6 (nml rfl)
      refine lv_aload_n hx hb (oc_42 5 (aq_5 shX5_readCondition_0)) rfl (lvA0 hl) ?_
      refine gf_RX5_31 S hK hP 3 xo_3 (v := .int (nI (c5 31))) rfl (oc_180 6 (aq_6 shX5_readCondition_0) uw_0_31) ?_
      refine lv_aload_n hx hb (oc_42 9 (aq_9 shX5_readCondition_0)) rfl (lvA0 hl) ?_
      refine gf_RX5_34 S hK hP 3 xo_3 (v := .int (nI (c5 32))) rfl (oc_180 10 (aq_10 shX5_readCondition_0) uw_0_34) ?_
      have : (nI (c5 31)).toInt = (((c5 31) : Nat) : Int) := nI_toInt (by omega)
      have : (nI (c5 32)).toInt = (((c5 32) : Nat) : Int) := nI_toInt (by omega)
      refine lv_icmp_ge (tgt := 62) hx hb (oc_162 13 (aq_13 shX5_readCondition_0) sgw_0_49) rfl (fun c_3 => ?_) (fun c_3 => ?_)
      ·
        have tc_3 : ((nI (c5 32)).toInt : Int) ≤ (nI (c5 31)).toInt := Int32.le_iff_toInt_le.mp c_3
        exact W.vret hx hb hr (fun t ht hW => ⟨⟨(c5, I5, F5), rfl, ⟨(Fr.mo hfr5 (sbl rfl) (sbl rfl) (sbl rfl)), hI5, (by show cn 31 ≤ c5 31 ∧ c5 31 ≤ c5 32 ∧ c5 32 ≤ cn 32; show cn 31 ≤ (c5 31) ∧ (c5 31) ≤ (c5 32) ∧ (c5 32) ≤ cn 32; omega)⟩, by rw [ht]; exact hP, hD⟩, hS.F ht⟩) hS.2.2 (oc_177 62 (aq_11 shX5_readCondition_51))
      ·
        have tc_3 : ((nI (c5 31)).toInt : Int) < (nI (c5 32)).toInt := Int32.lt_iff_toInt_lt.mp (Int32.not_le.mp c_3)
        refine lv_aload_n hx hb (oc_42 16 (aq_16 shX5_readCondition_0)) rfl (lvA0 hl) ?_
        refine vp_callSi (runV_rxa (As := []) (rest := []) S (q_Rpeek l D cI cB cZ zz qq vv bt g ad c5 I5 F5  hI5 (by omega) (by omega) (by omega) (by omega)) kV_RX5_43 hK hXS hS hP 3 xo_3 rfl rfl ⟨(by show 0 + 1 ≤ d + 1; omega), (by show 8 + (1 + 11) + 40 * 0 ≤ 40 * (d + 1); omega)⟩ ⟨Nat.le_of_ble_eq_true rfl, Nat.le_of_ble_eq_true rfl⟩ rfl hl.1 rfl (Nat.le_of_ble_eq_true rfl) (oc_182 17 (aq_17 shX5_readCondition_0) uw_0_43)) (fun r_4 h_5 => ?_)
        refine lv_bipush (v := 124) hx hb (oc_16 20 (aq_20 shX5_readCondition_0) sgb_124) kbc_124 ?_
        refine lv_icmp_ne (tgt := 62) hx hb (oc_160 22 (aq_22 shX5_readCondition_0) sgw_0_40) rfl (fun c_6 => ?_) (fun c_6 => ?_)
        ·
          have tc_6 : (r_4.toInt : Int) ≠ 124 := fun q => c_6 (Int32.toInt_inj.mp q)
          exact W.vret hx hb hr (fun t ht hW => ⟨⟨(c5, I5, F5), rfl, ⟨(Fr.mo hfr5 (sbl rfl) (sbl rfl) (sbl rfl)), hI5, (by show cn 31 ≤ c5 31 ∧ c5 31 ≤ c5 32 ∧ c5 32 ≤ cn 32; show cn 31 ≤ (c5 31) ∧ (c5 31) ≤ (c5 32) ∧ (c5 32) ≤ cn 32; omega)⟩, by rw [ht]; exact hP, hD⟩, hS.F ht⟩) hS.2.2 (oc_177 62 (aq_11 shX5_readCondition_51))
        ·
          have tc_6 : (r_4.toInt : Int) = 124 := congrArg Int32.toInt c_6
          refine lv_aload_n hx hb (oc_42 25 shX5_readCondition_25) rfl (lvA0 hl) ?_
          refine lv_dup hx hb (oc_89 26 (aq_1 shX5_readCondition_25)) rfl ?_
          refine gf_RX5_31 S hK hP 3 xo_3 (v := .int (nI (c5 31))) rfl (oc_180 27 (aq_2 shX5_readCondition_25) uw_0_31) ?_
          refine lv_iconst (v := 1) hx hb (oc_4 30 (aq_5 shX5_readCondition_25)) kic_1 ?_
          refine lv_iadd hx hb (oc_96 31 (aq_6 shX5_readCondition_25)) ?_
          refine lv_topi (fun y_7 ey_7 => ?_)
          obtain rfl : y_7 = (nI ((c5 31) + 1)) := ey_7.trans (nI_add (c5 31) 1)
          refine pf_RX5_31 S hK hP hD hS 3 xo_3 (v := .int (nI ((c5 31) + 1))) (Nat.le_of_ble_eq_true rfl) rfl rfl (oc_181 32 (aq_7 shX5_readCondition_25) uw_0_31) (fun H locs hP hD hS => ?_)
          have hP : va_P D vwCl (wX cI (D.1 99) zz g ad (va_up c5 31 ((c5 31) + 1)) I5 F5) H := va_P_eq (xsf_3_3) hP
          have hD : va_D A (wX cI (D.1 99) zz g ad (va_up c5 31 ((c5 31) + 1)) I5 F5) := va_D_eq (xsf_3_3) hD
          refine lv_aload_n hx hb (oc_42 35 (aq_10 shX5_readCondition_25)) rfl (lvA0 hl) ?_
          refine gf_RX5_20 S hK hP 3 xo_3 (v := .ref (ad 5 (ad 4 1))) rfl (oc_180 36 (aq_11 shX5_readCondition_25) uw_0_20) ?_
          refine lv_bipush (v := 13) hx hb (oc_16 39 (aq_14 shX5_readCondition_25) sgb_13) kbc_13 ?_
          refine lv_iconst (v := 0) hx hb (oc_3 41 (aq_16 shX5_readCondition_25)) kic_0 ?_
          have hFc := free_all hD hS hA
          refine va_calli (runV_xa (As := [.int 13, .int 0]) (rest := []) S (q_Tadd l D cI cB cZ zz qq vv bt g ad (va_up c5 31 ((c5 31) + 1)) I5 F5 (ad 4 1) 13 0 H.size (CBX.n (k := 31) (v := ((c5 31) + 1)) hI5 (by decide)) (show (ad 4 1) < (c5 6) by omega) (by rw [hfr5.2.2 199 (nml rfl)]; exact h9)) kV_RX5_75 hK hXS hS hFc hP hD _ (xf_7 (show (ad 4 1) < (c5 6) by omega)) rfl rfl ⟨(by show 0 + 1 ≤ d + 1; omega), (by show 8 + (3 + 11) + 40 * 0 ≤ 40 * (d + 1); omega)⟩ ⟨Nat.le_of_ble_eq_true rfl, Nat.le_of_ble_eq_true rfl⟩ rfl hl.1 rfl (Nat.le_of_ble_eq_true rfl) (oc_182 42 (aq_17 shX5_readCondition_25) uw_0_75)) hS (fun q _ h => hFc q h) hFc (fun r_8 u t H1 locs ht hvm wh_9 hB1 hz1 hk1 hS => ?_)
          obtain ⟨cn9, In9, Fn9⟩ := u
          obtain ⟨hP1, hD1⟩ := hB1
          rw [ht] at hP1
          have hP : va_P D vwCl (wX cI (D.1 99) zz g ad cn9 In9 Fn9) H1 := hP1
          have hD : va_D A (wX cI (D.1 99) zz g ad cn9 In9 Fn9) := hD1.weaken (fun _ _ _ h => hFc _ h)
          generalize H1 = H at hP hS ⊢
          have vh_9 : (fun r c2 I2 F2 => Fr [] [] [195, 301] (va_up c5 31 ((c5 31) + 1)) I5 F5 c2 I2 F2 ∧ CBX c2 ∧ (True)) r_8 cn9 In9 Fn9 := wh_9
          obtain ⟨hfc9, hIn9, h_9⟩ := vh_9
          obtain rfl : I5 = In9 := (funext (fun k => hfc9.2.1 k List.not_mem_nil)).symm
          have hf9 : Fr [31, 32] [33] [195, 301] cn In Fn cn9 I5 Fn9 := Fr.mo (Fr.tr (Fr.c 31 hfr5) hfc9) (sbl rfl) (sbl rfl) (sbl rfl)
          replace hIn9 : CBXh cn9 := hIn9
          have : cn9 6 = (c5 6) := hfc9.1 6 (nml rfl)
          have : cn9 31 = ((c5 31) + 1) := hfc9.1 31 (nml rfl)
          have : cn9 32 = (c5 32) := hfc9.1 32 (nml rfl)
          refine lv_istore_n (lv' := [(2, .int r_8), (0, .ref (g 6)), (1, .int o)]) hx hb (oc_61 45 (aq_20 shX5_readCondition_25)) rfl hl (ltb rfl) rfl (fun ls hl => ?_)
          refine lv_aload_n hx hb (oc_42 46 (aq_21 shX5_readCondition_25)) rfl (lvA1 hl) ?_
          refine lv_iload_n hx hb (oc_27 47 (aq_22 shX5_readCondition_25)) rfl (lvA2 hl) ?_
          have hFc := free_all hD hS hA
          refine va_callv (runV_xa (As := [.int o]) (rest := []) S (hSq ad cn9 I5 Fn9 H.size hIn9 (by omega) (by omega) (by omega) (by omega) (by rw [hf9.2.2 199 (nml rfl)]; exact h9)) kV_RX5_72 hK hXS hS hFc hP hD 3 xo_3 rfl rfl ⟨(by show d + 1 ≤ d + 1; omega), (by show 8 + (3 + 11) + 40 * d ≤ 40 * (d + 1); omega)⟩ ⟨Nat.le_of_ble_eq_true rfl, Nat.le_of_ble_eq_true rfl⟩ rfl hl.1 rfl (Nat.le_of_ble_eq_true rfl) (oc_182 48 (aq_23 shX5_readCondition_25) uw_0_72)) hS (fun q _ h => hFc q h) hFc (fun u t H1 locs ht hvm wh_11 hB1 hz1 hk1 hS => ?_)
          obtain ⟨cn11, In11, Fn11⟩ := u
          obtain ⟨hP1, hD1⟩ := hB1
          rw [ht] at hP1
          have hP : va_P D vwCl (wX cI (D.1 99) zz g ad cn11 In11 Fn11) H1 := hP1
          have hD : va_D A (wX cI (D.1 99) zz g ad cn11 In11 Fn11) := hD1.weaken (fun _ _ _ h => hFc _ h)
          generalize H1 = H at hP hS ⊢
          have vh_11 : (fun c2 I2 F2 => Fr [31, 32] [33] [195, 301] cn9 I5 Fn9 c2 I2 F2 ∧ CBX c2 ∧ ((cn9 31) ≤ c2 31 ∧ c2 31 ≤ c2 32 ∧ c2 32 ≤ (cn9 32))) cn11 In11 Fn11 := wh_11
          obtain ⟨hfc11, hIn11, h_11⟩ := vh_11
          have hf11 : Fr [31, 32] [33] [195, 301] cn In Fn cn11 In11 Fn11 := Fr.mo (Fr.tr hf9 hfc11) (sbl rfl) (sbl rfl) (sbl rfl)
          replace hIn11 : CBXh cn11 := hIn11
          have : cn11 6 = (cn9 6) := hfc11.1 6 (nml rfl)
          refine lv_aload_n hx hb (oc_42 51 shX5_readCondition_51) rfl (lvA1 hl) ?_
          refine gf_RX5_20 S hK hP 3 xo_3 (v := .ref (ad 5 (ad 4 1))) rfl (oc_180 52 (aq_1 shX5_readCondition_51) uw_0_20) ?_
          refine lv_iload_n hx hb (oc_28 55 (aq_4 shX5_readCondition_51)) rfl (lvA0 hl) ?_
          have hFc := free_all hD hS hA
          refine va_callv (runV_xa (As := [.int r_8]) (rest := []) S (q_Taim l D cI cB cZ zz qq vv bt g ad cn11 In11 Fn11 (ad 4 1) r_8 H.size hIn11 (by omega) (by rw [hf11.2.2 199 (nml rfl)]; exact h9)) kV_RX5_79 hK hXS hS hFc hP hD _ (xf_7 (show (ad 4 1) < (cn11 6) by omega)) rfl rfl ⟨(by show 1 + 1 ≤ d + 1; omega), (by show 8 + (2 + 11) + 40 * 1 ≤ 40 * (d + 1); omega)⟩ ⟨Nat.le_of_ble_eq_true rfl, Nat.le_of_ble_eq_true rfl⟩ rfl hl.1 rfl (Nat.le_of_ble_eq_true rfl) (oc_182 56 (aq_5 shX5_readCondition_51) uw_0_79)) hS (fun q _ h => hFc q h) hFc (fun u t H1 locs ht hvm wh_13 hB1 hz1 hk1 hS => ?_)
          obtain ⟨cn13, In13, Fn13⟩ := u
          obtain ⟨hP1, hD1⟩ := hB1
          rw [ht] at hP1
          have hP : va_P D vwCl (wX cI (D.1 99) zz g ad cn13 In13 Fn13) H1 := hP1
          have hD : va_D A (wX cI (D.1 99) zz g ad cn13 In13 Fn13) := hD1.weaken (fun _ _ _ h => hFc _ h)
          generalize H1 = H at hP hS ⊢
          have vh_13 : (fun c2 I2 F2 => Fr [] [] [301] cn11 In11 Fn11 c2 I2 F2 ∧ CBX c2 ∧ (True)) cn13 In13 Fn13 := wh_13
          obtain ⟨hfc13, hIn13, h_13⟩ := vh_13
          obtain rfl : cn11 = cn13 := (funext (fun k => hfc13.1 k List.not_mem_nil)).symm
          obtain rfl : In11 = In13 := (funext (fun k => hfc13.2.1 k List.not_mem_nil)).symm
          have hf13 : Fr [31, 32] [33] [195, 301] cn In Fn cn11 In11 Fn13 := Fr.mo (Fr.tr hf11 hfc13) (sbl rfl) (sbl rfl) (sbl rfl)
          replace hIn13 : CBXh cn11 := hIn13
          refine lv_goto (tgt := 5) hx hb (oc_167 59 (aq_8 shX5_readCondition_51) sgw_255_202) rfl ?_
          exact ih5  cn11 In11 Fn13 _ _ (show (cn11 32) - (cn11 31) < n5 by omega) ⟨(Fr.mo hf13 (sbl rfl) (sbl rfl) (sbl rfl)), hIn13, (show cn 31 ≤ (cn11 31) ∧ (cn11 31) ≤ (cn11 32) ∧ (cn11 32) ≤ cn 32 by omega)⟩ hP hD hS ls (lv_sub hl [1, 2] rfl)
  exact lp_5 _  cn2 In2 Fn2 _ _ (Nat.lt_succ_self _) ⟨(Fr.mo hf2 (sbl rfl) (sbl rfl) (sbl rfl)), hIn2, (show cn 31 ≤ (cn2 31) ∧ (cn2 31) ≤ (cn2 32) ∧ (cn2 32) ≤ cn 32 by omega)⟩ hP hD hS ls (lv_sub hl [0, 1] rfl)
set_option maxRecDepth 100000 in
set_option maxHeartbeats 4000000 in
theorem q_RreadSum_0 (l : Launch) (D : va_G) (cI cB cZ : ClassId) (zz qq vv : Nat) (bt : Nat → Int32) (g : Nat → Nat) (ad : Nat → Nat → Nat) (cn : Nat → Nat) (In : Nat → Int32) (Fn : Nat → Nat → Int32)  (sz : Nat) (hB : CBX cn) (hR : ad 4 2 = g 40) (h1 : ad 4 1 < cn 6) (h3 : cn 31 ≤ cn 32) (h4 : cn 32 ≤ 160) (h9 : (Fn 199 (ad 4 1)).toInt ≤ 160) : Met l yX5_readSum (CWS yX5_readSum cX5_readSum 3 none) (RM 24 0 0) (PBx [.ref (g 6), .int 0] D cI cB cZ zz qq vv bt (wX cI (D.1 99) zz g ad cn In Fn) sz) (va_Qv (fun (u : (Nat → Nat) × (Nat → Int32) × (Nat → Nat → Int32)) => (fun c2 I2 F2 => Fr [31, 32] [33] [195, 301] cn In Fn c2 I2 F2 ∧ CBX c2 ∧ (cn 31 ≤ c2 31 ∧ c2 31 ≤ c2 32 ∧ c2 32 ≤ cn 32)) u.1 u.2.1 u.2.2) (fun (u : (Nat → Nat) × (Nat → Int32) × (Nat → Nat → Int32)) (t : State) => va_P D vwCl (wX cI (D.1 99) zz g ad u.1 u.2.1 u.2.2) t.heap ∧ va_D (va_A (wX cI (D.1 99) zz g ad cn In Fn) sz) (wX cI (D.1 99) zz g ad u.1 u.2.1 u.2.2)) (va_A (wX cI (D.1 99) zz g ad cn In Fn) sz)) 0 0 (va_A (wX cI (D.1 99) zz g ad cn In Fn) sz) := by
  have f6 := gq_GreadFactor6 l D cI cB cZ zz qq vv bt g 6 (by decide)
  have t6 := gq_GreadTerm l D cI cB cZ zz qq vv bt g 6 4 (by decide) f6
  have s6 := gq_GreadSum l D cI cB cZ zz qq vv bt g 6 5 (by decide) t6
  have f5 := gq_GreadFactor l D cI cB cZ zz qq vv bt g 5 6 (by decide) (by decide) (by rw [show (5 : Int32) + 1 = 6 by decide]; exact s6)
  have t5 := gq_GreadTerm l D cI cB cZ zz qq vv bt g 5 7 (by decide) f5
  have s5 := gq_GreadSum l D cI cB cZ zz qq vv bt g 5 8 (by decide) t5
  have f4 := gq_GreadFactor l D cI cB cZ zz qq vv bt g 4 9 (by decide) (by decide) (by rw [show (4 : Int32) + 1 = 5 by decide]; exact s5)
  have t4 := gq_GreadTerm l D cI cB cZ zz qq vv bt g 4 10 (by decide) f4
  have s4 := gq_GreadSum l D cI cB cZ zz qq vv bt g 4 11 (by decide) t4
  have f3 := gq_GreadFactor l D cI cB cZ zz qq vv bt g 3 12 (by decide) (by decide) (by rw [show (3 : Int32) + 1 = 4 by decide]; exact s4)
  have t3 := gq_GreadTerm l D cI cB cZ zz qq vv bt g 3 13 (by decide) f3
  have s3 := gq_GreadSum l D cI cB cZ zz qq vv bt g 3 14 (by decide) t3
  have f2 := gq_GreadFactor l D cI cB cZ zz qq vv bt g 2 15 (by decide) (by decide) (by rw [show (2 : Int32) + 1 = 3 by decide]; exact s3)
  have t2 := gq_GreadTerm l D cI cB cZ zz qq vv bt g 2 16 (by decide) f2
  have s2 := gq_GreadSum l D cI cB cZ zz qq vv bt g 2 17 (by decide) t2
  have f1 := gq_GreadFactor l D cI cB cZ zz qq vv bt g 1 18 (by decide) (by decide) (by rw [show (1 : Int32) + 1 = 2 by decide]; exact s2)
  have t1 := gq_GreadTerm l D cI cB cZ zz qq vv bt g 1 19 (by decide) f1
  have s1 := gq_GreadSum l D cI cB cZ zz qq vv bt g 1 20 (by decide) t1
  have f0 := gq_GreadFactor l D cI cB cZ zz qq vv bt g 0 21 (by decide) (by decide) (by rw [show (0 : Int32) + 1 = 1 by decide]; exact s1)
  have t0 := gq_GreadTerm l D cI cB cZ zz qq vv bt g 0 22 (by decide) f0
  have s0 := gq_GreadSum l D cI cB cZ zz qq vv bt g 0 23 (by decide) t0
  exact s0 ad cn In Fn sz hB hR h1 h3 h4 h9
set_option maxRecDepth 100000 in
set_option maxHeartbeats 4000000 in
theorem q_RreadCondition_1 (l : Launch) (D : va_G) (cI cB cZ : ClassId) (zz qq vv : Nat) (bt : Nat → Int32) (g : Nat → Nat) (ad : Nat → Nat → Nat) (cn : Nat → Nat) (In : Nat → Int32) (Fn : Nat → Nat → Int32)  (sz : Nat) (hB : CBX cn) (hR : ad 4 2 = g 40) (h1 : ad 4 1 < cn 6) (h3 : cn 31 ≤ cn 32) (h4 : cn 32 ≤ 160) (h9 : (Fn 199 (ad 4 1)).toInt ≤ 160) : Met l yX5_readCondition (CWS yX5_readCondition cX5_readCondition 3 none) (RM 24 0 0) (PBx [.ref (g 6), .int 1] D cI cB cZ zz qq vv bt (wX cI (D.1 99) zz g ad cn In Fn) sz) (va_Qv (fun (u : (Nat → Nat) × (Nat → Int32) × (Nat → Nat → Int32)) => (fun c2 I2 F2 => Fr [31, 32] [33] [195, 301] cn In Fn c2 I2 F2 ∧ CBX c2 ∧ (cn 31 ≤ c2 31 ∧ c2 31 ≤ c2 32 ∧ c2 32 ≤ cn 32)) u.1 u.2.1 u.2.2) (fun (u : (Nat → Nat) × (Nat → Int32) × (Nat → Nat → Int32)) (t : State) => va_P D vwCl (wX cI (D.1 99) zz g ad u.1 u.2.1 u.2.2) t.heap ∧ va_D (va_A (wX cI (D.1 99) zz g ad cn In Fn) sz) (wX cI (D.1 99) zz g ad u.1 u.2.1 u.2.2)) (va_A (wX cI (D.1 99) zz g ad cn In Fn) sz)) 0 0 (va_A (wX cI (D.1 99) zz g ad cn In Fn) sz) := by
  have f6 := gq_GreadFactor6 l D cI cB cZ zz qq vv bt g 6 (by decide)
  have t6 := gq_GreadTerm l D cI cB cZ zz qq vv bt g 6 4 (by decide) f6
  have s6 := gq_GreadSum l D cI cB cZ zz qq vv bt g 6 5 (by decide) t6
  have f5 := gq_GreadFactor l D cI cB cZ zz qq vv bt g 5 6 (by decide) (by decide) (by rw [show (5 : Int32) + 1 = 6 by decide]; exact s6)
  have t5 := gq_GreadTerm l D cI cB cZ zz qq vv bt g 5 7 (by decide) f5
  have s5 := gq_GreadSum l D cI cB cZ zz qq vv bt g 5 8 (by decide) t5
  have f4 := gq_GreadFactor l D cI cB cZ zz qq vv bt g 4 9 (by decide) (by decide) (by rw [show (4 : Int32) + 1 = 5 by decide]; exact s5)
  have t4 := gq_GreadTerm l D cI cB cZ zz qq vv bt g 4 10 (by decide) f4
  have s4 := gq_GreadSum l D cI cB cZ zz qq vv bt g 4 11 (by decide) t4
  have f3 := gq_GreadFactor l D cI cB cZ zz qq vv bt g 3 12 (by decide) (by decide) (by rw [show (3 : Int32) + 1 = 4 by decide]; exact s4)
  have t3 := gq_GreadTerm l D cI cB cZ zz qq vv bt g 3 13 (by decide) f3
  have s3 := gq_GreadSum l D cI cB cZ zz qq vv bt g 3 14 (by decide) t3
  have f2 := gq_GreadFactor l D cI cB cZ zz qq vv bt g 2 15 (by decide) (by decide) (by rw [show (2 : Int32) + 1 = 3 by decide]; exact s3)
  have t2 := gq_GreadTerm l D cI cB cZ zz qq vv bt g 2 16 (by decide) f2
  have s2 := gq_GreadSum l D cI cB cZ zz qq vv bt g 2 17 (by decide) t2
  have f1 := gq_GreadFactor l D cI cB cZ zz qq vv bt g 1 18 (by decide) (by decide) (by rw [show (1 : Int32) + 1 = 2 by decide]; exact s2)
  have t1 := gq_GreadTerm l D cI cB cZ zz qq vv bt g 1 19 (by decide) f1
  have s1 := gq_GreadSum l D cI cB cZ zz qq vv bt g 1 20 (by decide) t1
  have f0 := gq_GreadFactor l D cI cB cZ zz qq vv bt g 0 21 (by decide) (by decide) (by rw [show (0 : Int32) + 1 = 1 by decide]; exact s1)
  have t0 := gq_GreadTerm l D cI cB cZ zz qq vv bt g 0 22 (by decide) f0
  have s0 := gq_GreadSum l D cI cB cZ zz qq vv bt g 0 23 (by decide) t0
  have p6 := gq_GreadPiece6 l D cI cB cZ zz qq vv bt g 6 6 (by decide) (by decide) s6
  have u6 := gq_GreadPart l D cI cB cZ zz qq vv bt g 6 7 (by decide) p6
  have c6 := gq_GreadCondition l D cI cB cZ zz qq vv bt g 6 8 (by decide) u6
  have p5 := gq_GreadPiece l D cI cB cZ zz qq vv bt g 5 9 7 9 (by decide) (by decide) s5 (by rw [show (5 : Int32) + 1 = 6 by decide]; exact p6) (by rw [show (5 : Int32) + 1 = 6 by decide]; exact c6)
  have u5 := gq_GreadPart l D cI cB cZ zz qq vv bt g 5 10 (by decide) p5
  have c5 := gq_GreadCondition l D cI cB cZ zz qq vv bt g 5 11 (by decide) u5
  have p4 := gq_GreadPiece l D cI cB cZ zz qq vv bt g 4 12 10 12 (by decide) (by decide) s4 (by rw [show (4 : Int32) + 1 = 5 by decide]; exact p5) (by rw [show (4 : Int32) + 1 = 5 by decide]; exact c5)
  have u4 := gq_GreadPart l D cI cB cZ zz qq vv bt g 4 13 (by decide) p4
  have c4 := gq_GreadCondition l D cI cB cZ zz qq vv bt g 4 14 (by decide) u4
  have p3 := gq_GreadPiece l D cI cB cZ zz qq vv bt g 3 15 13 15 (by decide) (by decide) s3 (by rw [show (3 : Int32) + 1 = 4 by decide]; exact p4) (by rw [show (3 : Int32) + 1 = 4 by decide]; exact c4)
  have u3 := gq_GreadPart l D cI cB cZ zz qq vv bt g 3 16 (by decide) p3
  have c3 := gq_GreadCondition l D cI cB cZ zz qq vv bt g 3 17 (by decide) u3
  have p2 := gq_GreadPiece l D cI cB cZ zz qq vv bt g 2 18 16 18 (by decide) (by decide) s2 (by rw [show (2 : Int32) + 1 = 3 by decide]; exact p3) (by rw [show (2 : Int32) + 1 = 3 by decide]; exact c3)
  have u2 := gq_GreadPart l D cI cB cZ zz qq vv bt g 2 19 (by decide) p2
  have c2 := gq_GreadCondition l D cI cB cZ zz qq vv bt g 2 20 (by decide) u2
  have p1 := gq_GreadPiece l D cI cB cZ zz qq vv bt g 1 21 19 21 (by decide) (by decide) s1 (by rw [show (1 : Int32) + 1 = 2 by decide]; exact p2) (by rw [show (1 : Int32) + 1 = 2 by decide]; exact c2)
  have u1 := gq_GreadPart l D cI cB cZ zz qq vv bt g 1 22 (by decide) p1
  have c1 := gq_GreadCondition l D cI cB cZ zz qq vv bt g 1 23 (by decide) u1
  exact c1 ad cn In Fn sz hB hR h1 h3 h4 h9
