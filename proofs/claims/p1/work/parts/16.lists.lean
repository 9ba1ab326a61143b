set_option maxRecDepth 100000 in
theorem gf_RJx4a65c_9 {p : Program} {l : Launch} {e : Env} {R : Room} {s : State} {m : MethodId} {args : Array Value} {below : List Frame} {meth : Method} {c : Code} {H : Heap} {locs : List Loc} {cells slots : Nat} {Q : State → Prop} {cc : ByteArray} {nL pc : Nat} {D : va_G} {cI cB cZ : ClassId} {ws : va_W} {rest : List Value} {ls : Array Slot} {a : Nat} {fs : List Value} {v : Value} (S : SF p m c cc nL s args RJx4a65c) (hK : KK D cI cB cZ s) (hP : va_P D vwCl ws H) (q0 : Nat) (he : ws[q0]? = some (a, .inr (0, fs))) (hv : fs[1]? = some v) (hdg : decode cc pc = .ok (.getfield 9, 3)) (kk : W p l e R s m args below meth c H locs cells slots Q (F0 m (pc + 3) ls (v :: rest))) : W p l e R s m args below meth c H locs cells slots Q (F0 m pc ls (.ref a :: rest)) :=
  va_get (C := RJx4a65c) (T := TJx4a65c) (N := 3) S.1 S.2.1 S.2.2.2.2 hin_RJx4a65c S.2.2.2.1 hK.1 hP q0 he rfl 1 (by decide) (S.2.2.2.2 _ (wT_tab 224 rfl rfl)) (fun _ h9 => h9) hv hdg kk
set_option maxRecDepth 100000 in
theorem kV_RJx4a65c_69 : CalV RJx4a65c 69 yJx4a65c_grow_92f84 cJx4a65c_grow_92f84 4 (some (.array (.object "java/lang/Object"))) 1 := ⟨⟨wT_tab 366 rfl rfl, wT_tab 368 rfl rfl, wT_sel 2 _ rfl rfl rfl, wT_tab 12 rfl rfl, wT_tab 369 rfl rfl⟩, ⟨by decide, by decide, by decide +kernel⟩⟩
set_option maxRecDepth 100000 in
theorem kV_RJx4a65c_129 : CalV RJx4a65c 129 yJx4a65c_grow_d5877 cJx4a65c_grow_d5877 1 (some (.array (.object "java/lang/Object"))) 0 := ⟨⟨wT_tab 362 rfl rfl, wT_tab 364 rfl rfl, wT_sel 1 _ rfl rfl rfl, wT_tab 12 rfl rfl, wT_tab 365 rfl rfl⟩, ⟨by decide, by decide, by decide +kernel⟩⟩
set_option maxRecDepth 100000 in
theorem pf_RJx4a65c_48 {p : Program} {l : Launch} {e : Env} {R : Room} {s : State} {m : MethodId} {args : Array Value} {below : List Frame} {meth : Method} {c : Code} {H : Heap} {locs : List Loc} {cells slots : Nat} {Q : State → Prop} {cc : ByteArray} {nL pc : Nat} {D : va_G} {cI cB cZ : ClassId} {ws : va_W} {rest : List Value} {ls : Array Slot} {a : Nat} {fs : List Value} {v : Value} {A : Nat → Prop} {H0 : Heap} (S : SF p m c cc nL s args RJx4a65c) (hK : KK D cI cB cZ s) (hP : va_P D vwCl ws H) (hD : va_D A ws) (hS : va_S A H0 H locs) (q0 : Nat) (he : ws[q0]? = some (a, .inr (0, fs))) (hl : 2 < fs.length) (hn : narrow (tyJx4a65c 2) v = v) (hfit : fits (tyJx4a65c 2) v = true) (hdg : decode cc pc = .ok (.putfield 48, 3)) (kk : ∀ (H1 : Heap) (locs1 : List Loc), va_P D vwCl (ws.set q0 (a, .inr (0, fs.set 2 v))) H1 → va_D A (ws.set q0 (a, .inr (0, fs.set 2 v))) → va_S A H0 H1 locs1 → W p l e R s m args below meth c H1 locs1 cells slots Q (F0 m (pc + 3) ls rest)) : W p l e R s m args below meth c H locs cells slots Q (F0 m pc ls (v :: .ref a :: rest)) :=
  va_put (C := RJx4a65c) (T := TJx4a65c) (N := 3) S.1 S.2.1 S.2.2.2.2 hin_RJx4a65c tyJx4a65c tyJx4a65c_ok nmJx4a65c S.2.2.2.1 hK.1 hP hD hS q0 he rfl 2 (by decide) (S.2.2.2.2 _ (wT_tab 225 rfl rfl)) (fun _ h9 => h9) rfl (tyJx4a65c_ok 2 (by decide)) hn hfit hl hdg kk
set_option maxRecDepth 100000 in
theorem gf_RJx4a65c_63 {p : Program} {l : Launch} {e : Env} {R : Room} {s : State} {m : MethodId} {args : Array Value} {below : List Frame} {meth : Method} {c : Code} {H : Heap} {locs : List Loc} {cells slots : Nat} {Q : State → Prop} {cc : ByteArray} {nL pc : Nat} {D : va_G} {cI cB cZ : ClassId} {ws : va_W} {rest : List Value} {ls : Array Slot} {a : Nat} {fs : List Value} {v : Value} (S : SF p m c cc nL s args RJx4a65c) (hK : KK D cI cB cZ s) (hP : va_P D vwCl ws H) (q0 : Nat) (he : ws[q0]? = some (a, .inr (0, fs))) (hv : fs[0]? = some v) (hdg : decode cc pc = .ok (.getfield 63, 3)) (kk : W p l e R s m args below meth c H locs cells slots Q (F0 m (pc + 3) ls (v :: rest))) : W p l e R s m args below meth c H locs cells slots Q (F0 m pc ls (.ref a :: rest)) :=
  va_get (C := RJx4a65c) (T := TJx4a65c) (N := 3) S.1 S.2.1 S.2.2.2.2 hin_RJx4a65c S.2.2.2.1 hK.1 hP q0 he rfl 0 (by decide) (S.2.2.2.2 _ (wT_tab 227 rfl rfl)) (fun x9 h9 => u_same (S.2.2.2.2 _ (wT_tab 228 rfl rfl)) x9 h9) hv hdg kk
set_option maxRecDepth 100000 in
theorem pf_RJx4a65c_63 {p : Program} {l : Launch} {e : Env} {R : Room} {s : State} {m : MethodId} {args : Array Value} {below : List Frame} {meth : Method} {c : Code} {H : Heap} {locs : List Loc} {cells slots : Nat} {Q : State → Prop} {cc : ByteArray} {nL pc : Nat} {D : va_G} {cI cB cZ : ClassId} {ws : va_W} {rest : List Value} {ls : Array Slot} {a : Nat} {fs : List Value} {v : Value} {A : Nat → Prop} {H0 : Heap} (S : SF p m c cc nL s args RJx4a65c) (hK : KK D cI cB cZ s) (hP : va_P D vwCl ws H) (hD : va_D A ws) (hS : va_S A H0 H locs) (q0 : Nat) (he : ws[q0]? = some (a, .inr (0, fs))) (hl : 0 < fs.length) (hn : narrow (tyJx4a65c 0) v = v) (hfit : fits (tyJx4a65c 0) v = true) (hdg : decode cc pc = .ok (.putfield 63, 3)) (kk : ∀ (H1 : Heap) (locs1 : List Loc), va_P D vwCl (ws.set q0 (a, .inr (0, fs.set 0 v))) H1 → va_D A (ws.set q0 (a, .inr (0, fs.set 0 v))) → va_S A H0 H1 locs1 → W p l e R s m args below meth c H1 locs1 cells slots Q (F0 m (pc + 3) ls rest)) : W p l e R s m args below meth c H locs cells slots Q (F0 m pc ls (v :: .ref a :: rest)) :=
  va_put (C := RJx4a65c) (T := TJx4a65c) (N := 3) S.1 S.2.1 S.2.2.2.2 hin_RJx4a65c tyJx4a65c tyJx4a65c_ok nmJx4a65c S.2.2.2.1 hK.1 hP hD hS q0 he rfl 0 (by decide) (S.2.2.2.2 _ (wT_tab 227 rfl rfl)) (fun x9 h9 => u_same (S.2.2.2.2 _ (wT_tab 228 rfl rfl)) x9 h9) rfl (tyJx4a65c_ok 0 (by decide)) hn hfit hl hdg kk
set_option maxRecDepth 100000 in
theorem kV_RJx4a65c_131 : CalV RJx4a65c 131 yJx4a65c_add_72be8 cJx4a65c_add_72be8 4 none 3 := ⟨⟨wT_tab 358 rfl rfl, wT_tab 360 rfl rfl, wT_sel 0 _ rfl rfl rfl, wT_tab 12 rfl rfl, wT_tab 361 rfl rfl⟩, ⟨by decide, by decide, by decide +kernel⟩⟩
set_option maxRecDepth 100000 in
theorem hin_RX1 : ∀ w ∈ u_ws RX1 TX1 11, w ∈ wT := by decide +kernel
set_option maxRecDepth 100000 in
theorem pf_RX1_7 {p : Program} {l : Launch} {e : Env} {R : Room} {s : State} {m : MethodId} {args : Array Value} {below : List Frame} {meth : Method} {c : Code} {H : Heap} {locs : List Loc} {cells slots : Nat} {Q : State → Prop} {cc : ByteArray} {nL pc : Nat} {D : va_G} {cI cB cZ : ClassId} {ws : va_W} {rest : List Value} {ls : Array Slot} {a : Nat} {fs : List Value} {v : Value} {A : Nat → Prop} {H0 : Heap} (S : SF p m c cc nL s args RX1) (hin : meth.name = "<init>") (hK : KK D cI cB cZ s) (hP : va_P D vwCl ws H) (hD : va_D A ws) (hS : va_S A H0 H locs) (q0 : Nat) (he : ws[q0]? = some (a, .inr (2, fs))) (hl : 0 < fs.length) (hn : narrow (tyX1 0) v = v) (hfit : fits (tyX1 0) v = true) (hdg : decode cc pc = .ok (.putfield 7, 3)) (kk : ∀ (H1 : Heap) (locs1 : List Loc), va_P D vwCl (ws.set q0 (a, .inr (2, fs.set 0 v))) H1 → va_D A (ws.set q0 (a, .inr (2, fs.set 0 v))) → va_S A H0 H1 locs1 → W p l e R s m args below meth c H1 locs1 cells slots Q (F0 m (pc + 3) ls rest)) : W p l e R s m args below meth c H locs cells slots Q (F0 m pc ls (v :: .ref a :: rest)) :=
  va_putF (C := RX1) (T := TX1) (N := 11) S.1 S.2.1 S.2.2.2.2 hin_RX1 tyX1 tyX1_ok nmX1 S.2.2.2.1 hK.1 hP hD hS q0 he rfl 0 (by decide) (S.2.2.2.2 _ (wT_tab 311 rfl rfl)) (fun _ h9 => h9) rfl hin rfl (tyX1_ok 0 (by decide)) hn hfit hl hdg kk
set_option maxRecDepth 100000 in
theorem pf_RX1_13 {p : Program} {l : Launch} {e : Env} {R : Room} {s : State} {m : MethodId} {args : Array Value} {below : List Frame} {meth : Method} {c : Code} {H : Heap} {locs : List Loc} {cells slots : Nat} {Q : State → Prop} {cc : ByteArray} {nL pc : Nat} {D : va_G} {cI cB cZ : ClassId} {ws : va_W} {rest : List Value} {ls : Array Slot} {a : Nat} {fs : List Value} {v : Value} {A : Nat → Prop} {H0 : Heap} (S : SF p m c cc nL s args RX1) (hin : meth.name = "<init>") (hK : KK D cI cB cZ s) (hP : va_P D vwCl ws H) (hD : va_D A ws) (hS : va_S A H0 H locs) (q0 : Nat) (he : ws[q0]? = some (a, .inr (2, fs))) (hl : 1 < fs.length) (hn : narrow (tyX1 1) v = v) (hfit : fits (tyX1 1) v = true) (hdg : decode cc pc = .ok (.putfield 13, 3)) (kk : ∀ (H1 : Heap) (locs1 : List Loc), va_P D vwCl (ws.set q0 (a, .inr (2, fs.set 1 v))) H1 → va_D A (ws.set q0 (a, .inr (2, fs.set 1 v))) → va_S A H0 H1 locs1 → W p l e R s m args below meth c H1 locs1 cells slots Q (F0 m (pc + 3) ls rest)) : W p l e R s m args below meth c H locs cells slots Q (F0 m pc ls (v :: .ref a :: rest)) :=
  va_putF (C := RX1) (T := TX1) (N := 11) S.1 S.2.1 S.2.2.2.2 hin_RX1 tyX1 tyX1_ok nmX1 S.2.2.2.1 hK.1 hP hD hS q0 he rfl 1 (by decide) (S.2.2.2.2 _ (wT_tab 314 rfl rfl)) (fun _ h9 => h9) rfl hin rfl (tyX1_ok 1 (by decide)) hn hfit hl hdg kk
set_option maxRecDepth 100000 in
theorem pf_RX1_16 {p : Program} {l : Launch} {e : Env} {R : Room} {s : State} {m : MethodId} {args : Array Value} {below : List Frame} {meth : Method} {c : Code} {H : Heap} {locs : List Loc} {cells slots : Nat} {Q : State → Prop} {cc : ByteArray} {nL pc : Nat} {D : va_G} {cI cB cZ : ClassId} {ws : va_W} {rest : List Value} {ls : Array Slot} {a : Nat} {fs : List Value} {v : Value} {A : Nat → Prop} {H0 : Heap} (S : SF p m c cc nL s args RX1) (hin : meth.name = "<init>") (hK : KK D cI cB cZ s) (hP : va_P D vwCl ws H) (hD : va_D A ws) (hS : va_S A H0 H locs) (q0 : Nat) (he : ws[q0]? = some (a, .inr (2, fs))) (hl : 2 < fs.length) (hn : narrow (tyX1 2) v = v) (hfit : fits (tyX1 2) v = true) (hdg : decode cc pc = .ok (.putfield 16, 3)) (kk : ∀ (H1 : Heap) (locs1 : List Loc), va_P D vwCl (ws.set q0 (a, .inr (2, fs.set 2 v))) H1 → va_D A (ws.set q0 (a, .inr (2, fs.set 2 v))) → va_S A H0 H1 locs1 → W p l e R s m args below meth c H1 locs1 cells slots Q (F0 m (pc + 3) ls rest)) : W p l e R s m args below meth c H locs cells slots Q (F0 m pc ls (v :: .ref a :: rest)) :=
  va_putF (C := RX1) (T := TX1) (N := 11) S.1 S.2.1 S.2.2.2.2 hin_RX1 tyX1 tyX1_ok nmX1 S.2.2.2.1 hK.1 hP hD hS q0 he rfl 2 (by decide) (S.2.2.2.2 _ (wT_tab 317 rfl rfl)) (fun _ h9 => h9) rfl hin rfl (tyX1_ok 2 (by decide)) hn hfit hl hdg kk
set_option maxRecDepth 100000 in
theorem pf_RX1_19 {p : Program} {l : Launch} {e : Env} {R : Room} {s : State} {m : MethodId} {args : Array Value} {below : List Frame} {meth : Method} {c : Code} {H : Heap} {locs : List Loc} {cells slots : Nat} {Q : State → Prop} {cc : ByteArray} {nL pc : Nat} {D : va_G} {cI cB cZ : ClassId} {ws : va_W} {rest : List Value} {ls : Array Slot} {a : Nat} {fs : List Value} {v : Value} {A : Nat → Prop} {H0 : Heap} (S : SF p m c cc nL s args RX1) (hin : meth.name = "<init>") (hK : KK D cI cB cZ s) (hP : va_P D vwCl ws H) (hD : va_D A ws) (hS : va_S A H0 H locs) (q0 : Nat) (he : ws[q0]? = some (a, .inr (2, fs))) (hl : 3 < fs.length) (hn : narrow (tyX1 3) v = v) (hfit : fits (tyX1 3) v = true) (hdg : decode cc pc = .ok (.putfield 19, 3)) (kk : ∀ (H1 : Heap) (locs1 : List Loc), va_P D vwCl (ws.set q0 (a, .inr (2, fs.set 3 v))) H1 → va_D A (ws.set q0 (a, .inr (2, fs.set 3 v))) → va_S A H0 H1 locs1 → W p l e R s m args below meth c H1 locs1 cells slots Q (F0 m (pc + 3) ls rest)) : W p l e R s m args below meth c H locs cells slots Q (F0 m pc ls (v :: .ref a :: rest)) :=
  va_putF (C := RX1) (T := TX1) (N := 11) S.1 S.2.1 S.2.2.2.2 hin_RX1 tyX1 tyX1_ok nmX1 S.2.2.2.1 hK.1 hP hD hS q0 he rfl 3 (by decide) (S.2.2.2.2 _ (wT_tab 319 rfl rfl)) (fun _ h9 => h9) rfl hin rfl (tyX1_ok 3 (by decide)) hn hfit hl hdg kk
set_option maxRecDepth 100000 in
theorem kI_RX1_24 : CalI RX1 24 yX9_init cX9_init 2 1 := ⟨⟨wT_tab 310 rfl rfl, wT_tab 38 rfl rfl, wT_tab 2 rfl rfl, wT_tab 39 rfl rfl⟩, rfl, ⟨by decide, by decide, by decide +kernel⟩⟩
set_option maxRecDepth 100000 in
theorem pf_RX1_27 {p : Program} {l : Launch} {e : Env} {R : Room} {s : State} {m : MethodId} {args : Array Value} {below : List Frame} {meth : Method} {c : Code} {H : Heap} {locs : List Loc} {cells slots : Nat} {Q : State → Prop} {cc : ByteArray} {nL pc : Nat} {D : va_G} {cI cB cZ : ClassId} {ws : va_W} {rest : List Value} {ls : Array Slot} {a : Nat} {fs : List Value} {v : Value} {A : Nat → Prop} {H0 : Heap} (S : SF p m c cc nL s args RX1) (hK : KK D cI cB cZ s) (hP : va_P D vwCl ws H) (hD : va_D A ws) (hS : va_S A H0 H locs) (q0 : Nat) (he : ws[q0]? = some (a, .inr (2, fs))) (hl : 10 < fs.length) (hn : narrow (tyX1 10) v = v) (hfit : fits (tyX1 10) v = true) (hdg : decode cc pc = .ok (.putfield 27, 3)) (kk : ∀ (H1 : Heap) (locs1 : List Loc), va_P D vwCl (ws.set q0 (a, .inr (2, fs.set 10 v))) H1 → va_D A (ws.set q0 (a, .inr (2, fs.set 10 v))) → va_S A H0 H1 locs1 → W p l e R s m args below meth c H1 locs1 cells slots Q (F0 m (pc + 3) ls rest)) : W p l e R s m args below meth c H locs cells slots Q (F0 m pc ls (v :: .ref a :: rest)) :=
  va_put (C := RX1) (T := TX1) (N := 11) S.1 S.2.1 S.2.2.2.2 hin_RX1 tyX1 tyX1_ok nmX1 S.2.2.2.1 hK.1 hP hD hS q0 he rfl 10 (by decide) (S.2.2.2.2 _ (wT_tab 329 rfl rfl)) (fun _ h9 => h9) rfl (tyX1_ok 10 (by decide)) hn hfit hl hdg kk
set_option maxRecDepth 100000 in
theorem hin_RX6 : ∀ w ∈ u_ws RX6 TX6 3, w ∈ wT := by decide +kernel
set_option maxRecDepth 100000 in
theorem pf_RX6_7 {p : Program} {l : Launch} {e : Env} {R : Room} {s : State} {m : MethodId} {args : Array Value} {below : List Frame} {meth : Method} {c : Code} {H : Heap} {locs : List Loc} {cells slots : Nat} {Q : State → Prop} {cc : ByteArray} {nL pc : Nat} {D : va_G} {cI cB cZ : ClassId} {ws : va_W} {rest : List Value} {ls : Array Slot} {a : Nat} {fs : List Value} {v : Value} {A : Nat → Prop} {H0 : Heap} (S : SF p m c cc nL s args RX6) (hin : meth.name = "<init>") (hK : KK D cI cB cZ s) (hP : va_P D vwCl ws H) (hD : va_D A ws) (hS : va_S A H0 H locs) (q0 : Nat) (he : ws[q0]? = some (a, .inr (7, fs))) (hl : 0 < fs.length) (hn : narrow (tyX6 0) v = v) (hfit : fits (tyX6 0) v = true) (hdg : decode cc pc = .ok (.putfield 7, 3)) (kk : ∀ (H1 : Heap) (locs1 : List Loc), va_P D vwCl (ws.set q0 (a, .inr (7, fs.set 0 v))) H1 → va_D A (ws.set q0 (a, .inr (7, fs.set 0 v))) → va_S A H0 H1 locs1 → W p l e R s m args below meth c H1 locs1 cells slots Q (F0 m (pc + 3) ls rest)) : W p l e R s m args below meth c H locs cells slots Q (F0 m pc ls (v :: .ref a :: rest)) :=
  va_putF (C := RX6) (T := TX6) (N := 3) S.1 S.2.1 S.2.2.2.2 hin_RX6 tyX6 tyX6_ok nmX6 S.2.2.2.1 hK.1 hP hD hS q0 he rfl 0 (by decide) (S.2.2.2.2 _ (wT_tab 1175 rfl rfl)) (fun _ h9 => h9) rfl hin rfl (tyX6_ok 0 (by decide)) hn hfit hl hdg kk
set_option maxRecDepth 100000 in
theorem pf_RX6_13 {p : Program} {l : Launch} {e : Env} {R : Room} {s : State} {m : MethodId} {args : Array Value} {below : List Frame} {meth : Method} {c : Code} {H : Heap} {locs : List Loc} {cells slots : Nat} {Q : State → Prop} {cc : ByteArray} {nL pc : Nat} {D : va_G} {cI cB cZ : ClassId} {ws : va_W} {rest : List Value} {ls : Array Slot} {a : Nat} {fs : List Value} {v : Value} {A : Nat → Prop} {H0 : Heap} (S : SF p m c cc nL s args RX6) (hin : meth.name = "<init>") (hK : KK D cI cB cZ s) (hP : va_P D vwCl ws H) (hD : va_D A ws) (hS : va_S A H0 H locs) (q0 : Nat) (he : ws[q0]? = some (a, .inr (7, fs))) (hl : 1 < fs.length) (hn : narrow (tyX6 1) v = v) (hfit : fits (tyX6 1) v = true) (hdg : decode cc pc = .ok (.putfield 13, 3)) (kk : ∀ (H1 : Heap) (locs1 : List Loc), va_P D vwCl (ws.set q0 (a, .inr (7, fs.set 1 v))) H1 → va_D A (ws.set q0 (a, .inr (7, fs.set 1 v))) → va_S A H0 H1 locs1 → W p l e R s m args below meth c H1 locs1 cells slots Q (F0 m (pc + 3) ls rest)) : W p l e R s m args below meth c H locs cells slots Q (F0 m pc ls (v :: .ref a :: rest)) :=
  va_putF (C := RX6) (T := TX6) (N := 3) S.1 S.2.1 S.2.2.2.2 hin_RX6 tyX6 tyX6_ok nmX6 S.2.2.2.1 hK.1 hP hD hS q0 he rfl 1 (by decide) (S.2.2.2.2 _ (wT_tab 1177 rfl rfl)) (fun _ h9 => h9) rfl hin rfl (tyX6_ok 1 (by decide)) hn hfit hl hdg kk
set_option maxRecDepth 100000 in
theorem kI_RX11_107 : CalI RX11 107 yX1_init cX1_init 5 4 := ⟨⟨wT_tab 305 rfl rfl, wT_tab 306 rfl rfl, wT_tab 14 rfl rfl, wT_tab 307 rfl rfl⟩, rfl, ⟨by decide, by decide, by decide +kernel⟩⟩
set_option maxRecDepth 100000 in
theorem kV_RX11_110 : CalV RX11 110 yJx4a65c_add_9ea2d cJx4a65c_add_9ea2d 2 (some .boolean) 1 := ⟨⟨wT_tab 354 rfl rfl, wT_tab 355 rfl rfl, wT_tab 356 rfl rfl, wT_tab 12 rfl rfl, wT_tab 357 rfl rfl⟩, ⟨by decide, by decide, by decide +kernel⟩⟩
set_option maxRecDepth 100000 in
theorem kI_RX11_475 : CalI RX11 475 yX6_init cX6_init 3 2 := ⟨⟨wT_tab 1171 rfl rfl, wT_tab 1172 rfl rfl, wT_tab 25 rfl rfl, wT_tab 1173 rfl rfl⟩, rfl, ⟨by decide, by decide, by decide +kernel⟩⟩
theorem dJx4a65c_grow_92f84_0 : decode cJx4a65c_grow_92f84 0 = .ok (.aload_n 0, 1) := by decide +kernel
theorem dJx4a65c_grow_92f84_1 : decode cJx4a65c_grow_92f84 1 = .ok (.getfield 9, 3) := by decide +kernel
theorem dJx4a65c_grow_92f84_4 : decode cJx4a65c_grow_92f84 4 = .ok (.arraylength, 1) := by decide +kernel
theorem dJx4a65c_grow_92f84_5 : decode cJx4a65c_grow_92f84 5 = .ok (.istore_n 2, 1) := by decide +kernel
theorem dJx4a65c_grow_92f84_6 : decode cJx4a65c_grow_92f84 6 = .ok (.iload_n 2, 1) := by decide +kernel
theorem dJx4a65c_grow_92f84_7 : decode cJx4a65c_grow_92f84 7 = .ok (.ifCond .gt 13, 3) := by decide +kernel
theorem dJx4a65c_grow_92f84_10 : decode cJx4a65c_grow_92f84 10 = .ok (.aload_n 0, 1) := by decide +kernel
theorem dJx4a65c_grow_92f84_11 : decode cJx4a65c_grow_92f84 11 = .ok (.getfield 9, 3) := by decide +kernel
theorem dJx4a65c_grow_92f84_14 : decode cJx4a65c_grow_92f84 14 = .ok (.getstatic 39, 3) := by decide +kernel
theorem dJx4a65c_grow_92f84_17 : decode cJx4a65c_grow_92f84 17 = .ok (.if_acmp .eq 28, 3) := by decide +kernel
theorem dJx4a65c_grow_92f84_45 : decode cJx4a65c_grow_92f84 45 = .ok (.aload_n 0, 1) := by decide +kernel
theorem dJx4a65c_grow_92f84_46 : decode cJx4a65c_grow_92f84 46 = .ok (.bipush 10, 2) := by decide +kernel
theorem dJx4a65c_grow_92f84_48 : decode cJx4a65c_grow_92f84 48 = .ok (.iload_n 1, 1) := by decide +kernel
theorem dJx4a65c_grow_92f84_49 : decode cJx4a65c_grow_92f84 49 = .ok (.invokestatic 79, 3) := by decide +kernel
theorem dJx4a65c_grow_92f84_52 : decode cJx4a65c_grow_92f84 52 = .ok (.anewarray 7, 3) := by decide +kernel
theorem dJx4a65c_grow_92f84_55 : decode cJx4a65c_grow_92f84 55 = .ok (.dup_x1, 1) := by decide +kernel
theorem dJx4a65c_grow_92f84_56 : decode cJx4a65c_grow_92f84 56 = .ok (.putfield 9, 3) := by decide +kernel
theorem dJx4a65c_grow_92f84_59 : decode cJx4a65c_grow_92f84 59 = .ok (.areturn, 1) := by decide +kernel
theorem dJx4a65c_grow_d5877_0 : decode cJx4a65c_grow_d5877 0 = .ok (.aload_n 0, 1) := by decide +kernel
theorem dJx4a65c_grow_d5877_1 : decode cJx4a65c_grow_d5877 1 = .ok (.aload_n 0, 1) := by decide +kernel
theorem dJx4a65c_grow_d5877_2 : decode cJx4a65c_grow_d5877 2 = .ok (.getfield 48, 3) := by decide +kernel
theorem dJx4a65c_grow_d5877_5 : decode cJx4a65c_grow_d5877 5 = .ok (.iconst 1, 1) := by decide +kernel
theorem dJx4a65c_grow_d5877_6 : decode cJx4a65c_grow_d5877 6 = .ok (.iadd, 1) := by decide +kernel
theorem dJx4a65c_grow_d5877_7 : decode cJx4a65c_grow_d5877 7 = .ok (.invokevirtual 69, 3) := by decide +kernel
theorem dJx4a65c_grow_d5877_10 : decode cJx4a65c_grow_d5877 10 = .ok (.areturn, 1) := by decide +kernel
theorem dJx4a65c_add_72be8_0 : decode cJx4a65c_add_72be8 0 = .ok (.iload_n 3, 1) := by decide +kernel
theorem dJx4a65c_add_72be8_1 : decode cJx4a65c_add_72be8 1 = .ok (.aload_n 2, 1) := by decide +kernel
theorem dJx4a65c_add_72be8_2 : decode cJx4a65c_add_72be8 2 = .ok (.arraylength, 1) := by decide +kernel
theorem dJx4a65c_add_72be8_3 : decode cJx4a65c_add_72be8 3 = .ok (.if_icmp .ne 8, 3) := by decide +kernel
theorem dJx4a65c_add_72be8_6 : decode cJx4a65c_add_72be8 6 = .ok (.aload_n 0, 1) := by decide +kernel
theorem dJx4a65c_add_72be8_7 : decode cJx4a65c_add_72be8 7 = .ok (.invokevirtual 129, 3) := by decide +kernel
theorem dJx4a65c_add_72be8_10 : decode cJx4a65c_add_72be8 10 = .ok (.astore_n 2, 1) := by decide +kernel
theorem dJx4a65c_add_72be8_11 : decode cJx4a65c_add_72be8 11 = .ok (.aload_n 2, 1) := by decide +kernel
theorem dJx4a65c_add_72be8_12 : decode cJx4a65c_add_72be8 12 = .ok (.iload_n 3, 1) := by decide +kernel
theorem dJx4a65c_add_72be8_13 : decode cJx4a65c_add_72be8 13 = .ok (.aload_n 1, 1) := by decide +kernel
theorem dJx4a65c_add_72be8_14 : decode cJx4a65c_add_72be8 14 = .ok (.aastore, 1) := by decide +kernel
theorem dJx4a65c_add_72be8_15 : decode cJx4a65c_add_72be8 15 = .ok (.aload_n 0, 1) := by decide +kernel
theorem dJx4a65c_add_72be8_16 : decode cJx4a65c_add_72be8 16 = .ok (.iload_n 3, 1) := by decide +kernel
theorem dJx4a65c_add_72be8_17 : decode cJx4a65c_add_72be8 17 = .ok (.iconst 1, 1) := by decide +kernel
theorem dJx4a65c_add_72be8_18 : decode cJx4a65c_add_72be8 18 = .ok (.iadd, 1) := by decide +kernel
theorem dJx4a65c_add_72be8_19 : decode cJx4a65c_add_72be8 19 = .ok (.putfield 48, 3) := by decide +kernel
theorem dJx4a65c_add_72be8_22 : decode cJx4a65c_add_72be8 22 = .ok (.return_, 1) := by decide +kernel
theorem dJx4a65c_add_9ea2d_0 : decode cJx4a65c_add_9ea2d 0 = .ok (.aload_n 0, 1) := by decide +kernel
theorem dJx4a65c_add_9ea2d_1 : decode cJx4a65c_add_9ea2d 1 = .ok (.dup, 1) := by decide +kernel
theorem dJx4a65c_add_9ea2d_2 : decode cJx4a65c_add_9ea2d 2 = .ok (.getfield 63, 3) := by decide +kernel
theorem dJx4a65c_add_9ea2d_5 : decode cJx4a65c_add_9ea2d 5 = .ok (.iconst 1, 1) := by decide +kernel
theorem dJx4a65c_add_9ea2d_6 : decode cJx4a65c_add_9ea2d 6 = .ok (.iadd, 1) := by decide +kernel
theorem dJx4a65c_add_9ea2d_7 : decode cJx4a65c_add_9ea2d 7 = .ok (.putfield 63, 3) := by decide +kernel
theorem dJx4a65c_add_9ea2d_10 : decode cJx4a65c_add_9ea2d 10 = .ok (.aload_n 0, 1) := by decide +kernel
theorem dJx4a65c_add_9ea2d_11 : decode cJx4a65c_add_9ea2d 11 = .ok (.aload_n 1, 1) := by decide +kernel
theorem dJx4a65c_add_9ea2d_12 : decode cJx4a65c_add_9ea2d 12 = .ok (.aload_n 0, 1) := by decide +kernel
theorem dJx4a65c_add_9ea2d_13 : decode cJx4a65c_add_9ea2d 13 = .ok (.getfield 9, 3) := by decide +kernel
theorem dJx4a65c_add_9ea2d_16 : decode cJx4a65c_add_9ea2d 16 = .ok (.aload_n 0, 1) := by decide +kernel
theorem dJx4a65c_add_9ea2d_17 : decode cJx4a65c_add_9ea2d 17 = .ok (.getfield 48, 3) := by decide +kernel
theorem dJx4a65c_add_9ea2d_20 : decode cJx4a65c_add_9ea2d 20 = .ok (.invokevirtual 131, 3) := by decide +kernel
theorem dJx4a65c_add_9ea2d_23 : decode cJx4a65c_add_9ea2d 23 = .ok (.iconst 1, 1) := by decide +kernel
theorem dJx4a65c_add_9ea2d_24 : decode cJx4a65c_add_9ea2d 24 = .ok (.ireturn, 1) := by decide +kernel
theorem dX1_init_0 : decode cX1_init 0 = .ok (.aload_n 0, 1) := by decide +kernel
theorem dX1_init_1 : decode cX1_init 1 = .ok (.invokespecial 1, 3) := by decide +kernel
theorem dX1_init_4 : decode cX1_init 4 = .ok (.aload_n 0, 1) := by decide +kernel
theorem dX1_init_5 : decode cX1_init 5 = .ok (.iload_n 1, 1) := by decide +kernel
theorem dX1_init_6 : decode cX1_init 6 = .ok (.putfield 7, 3) := by decide +kernel
theorem dX1_init_9 : decode cX1_init 9 = .ok (.aload_n 0, 1) := by decide +kernel
theorem dX1_init_10 : decode cX1_init 10 = .ok (.iload_n 2, 1) := by decide +kernel
theorem dX1_init_11 : decode cX1_init 11 = .ok (.putfield 13, 3) := by decide +kernel
theorem dX1_init_14 : decode cX1_init 14 = .ok (.aload_n 0, 1) := by decide +kernel
theorem dX1_init_15 : decode cX1_init 15 = .ok (.iload_n 3, 1) := by decide +kernel
theorem dX1_init_16 : decode cX1_init 16 = .ok (.putfield 16, 3) := by decide +kernel
theorem dX1_init_19 : decode cX1_init 19 = .ok (.aload_n 0, 1) := by decide +kernel
theorem dX1_init_20 : decode cX1_init 20 = .ok (.iload 4, 2) := by decide +kernel
theorem dX1_init_22 : decode cX1_init 22 = .ok (.putfield 19, 3) := by decide +kernel
theorem dX1_init_25 : decode cX1_init 25 = .ok (.aload_n 0, 1) := by decide +kernel
theorem dX1_init_26 : decode cX1_init 26 = .ok (.new 22, 3) := by decide +kernel
theorem dX1_init_29 : decode cX1_init 29 = .ok (.dup, 1) := by decide +kernel
theorem dX1_init_30 : decode cX1_init 30 = .ok (.iconst 0, 1) := by decide +kernel
theorem dX1_init_31 : decode cX1_init 31 = .ok (.invokespecial 24, 3) := by decide +kernel
theorem dX1_init_34 : decode cX1_init 34 = .ok (.putfield 27, 3) := by decide +kernel
theorem dX1_init_37 : decode cX1_init 37 = .ok (.return_, 1) := by decide +kernel
theorem dX6_init_0 : decode cX6_init 0 = .ok (.aload_n 0, 1) := by decide +kernel
theorem dX6_init_1 : decode cX6_init 1 = .ok (.invokespecial 1, 3) := by decide +kernel
theorem dX6_init_4 : decode cX6_init 4 = .ok (.aload_n 0, 1) := by decide +kernel
theorem dX6_init_5 : decode cX6_init 5 = .ok (.iload_n 1, 1) := by decide +kernel
theorem dX6_init_6 : decode cX6_init 6 = .ok (.putfield 7, 3) := by decide +kernel
theorem dX6_init_9 : decode cX6_init 9 = .ok (.aload_n 0, 1) := by decide +kernel
theorem dX6_init_10 : decode cX6_init 10 = .ok (.iload_n 2, 1) := by decide +kernel
theorem dX6_init_11 : decode cX6_init 11 = .ok (.putfield 13, 3) := by decide +kernel
theorem dX6_init_14 : decode cX6_init 14 = .ok (.return_, 1) := by decide +kernel
theorem dX11_kitchen_0 : decode cX11_kitchen 0 = .ok (.iload_n 1, 1) := by decide +kernel
theorem dX11_kitchen_1 : decode cX11_kitchen 1 = .ok (.iconst 0, 1) := by decide +kernel
theorem dX11_kitchen_2 : decode cX11_kitchen 2 = .ok (.bipush 99, 2) := by decide +kernel
theorem dX11_kitchen_4 : decode cX11_kitchen 4 = .ok (.invokestatic 80, 3) := by decide +kernel
theorem dX11_kitchen_7 : decode cX11_kitchen 7 = .ok (.ifCond .eq 17, 3) := by decide +kernel
theorem dX11_kitchen_10 : decode cX11_kitchen 10 = .ok (.iload_n 2, 1) := by decide +kernel
theorem dX11_kitchen_11 : decode cX11_kitchen 11 = .ok (.iconst 0, 1) := by decide +kernel
theorem dX11_kitchen_12 : decode cX11_kitchen 12 = .ok (.bipush 99, 2) := by decide +kernel
theorem dX11_kitchen_14 : decode cX11_kitchen 14 = .ok (.invokestatic 80, 3) := by decide +kernel
theorem dX11_kitchen_17 : decode cX11_kitchen 17 = .ok (.ifCond .eq 7, 3) := by decide +kernel
theorem dX11_kitchen_20 : decode cX11_kitchen 20 = .ok (.iconst 1, 1) := by decide +kernel
theorem dX11_kitchen_21 : decode cX11_kitchen 21 = .ok (.goto 4, 3) := by decide +kernel
theorem dX11_kitchen_25 : decode cX11_kitchen 25 = .ok (.istore 5, 2) := by decide +kernel
theorem dX11_kitchen_27 : decode cX11_kitchen 27 = .ok (.iload 5, 2) := by decide +kernel
theorem dX11_kitchen_29 : decode cX11_kitchen 29 = .ok (.ifCond .eq 38, 3) := by decide +kernel
theorem dX11_kitchen_32 : decode cX11_kitchen 32 = .ok (.iload_n 3, 1) := by decide +kernel
theorem dX11_kitchen_33 : decode cX11_kitchen 33 = .ok (.iconst 0, 1) := by decide +kernel
theorem dX11_kitchen_34 : decode cX11_kitchen 34 = .ok (.bipush 50, 2) := by decide +kernel
theorem dX11_kitchen_36 : decode cX11_kitchen 36 = .ok (.invokestatic 80, 3) := by decide +kernel
theorem dX11_kitchen_39 : decode cX11_kitchen 39 = .ok (.ifCond .eq 28, 3) := by decide +kernel
theorem dX11_kitchen_42 : decode cX11_kitchen 42 = .ok (.iload 4, 2) := by decide +kernel
theorem dX11_kitchen_44 : decode cX11_kitchen 44 = .ok (.bipush 20, 2) := by decide +kernel
theorem dX11_kitchen_46 : decode cX11_kitchen 46 = .ok (.sipush 400, 3) := by decide +kernel
theorem dX11_kitchen_49 : decode cX11_kitchen 49 = .ok (.invokestatic 80, 3) := by decide +kernel
theorem dX11_kitchen_52 : decode cX11_kitchen 52 = .ok (.ifCond .eq 15, 3) := by decide +kernel
theorem dX11_kitchen_55 : decode cX11_kitchen 55 = .ok (.aload_n 0, 1) := by decide +kernel
theorem dX11_kitchen_56 : decode cX11_kitchen 56 = .ok (.getfield 61, 3) := by decide +kernel
theorem dX11_kitchen_59 : decode cX11_kitchen 59 = .ok (.invokevirtual 84, 3) := by decide +kernel
theorem dX11_kitchen_62 : decode cX11_kitchen 62 = .ok (.bipush 10, 2) := by decide +kernel
theorem dX11_kitchen_64 : decode cX11_kitchen 64 = .ok (.if_icmp .lt 5, 3) := by decide +kernel
theorem dX11_kitchen_69 : decode cX11_kitchen 69 = .ok (.aload_n 0, 1) := by decide +kernel
theorem dX11_kitchen_70 : decode cX11_kitchen 70 = .ok (.getfield 61, 3) := by decide +kernel
theorem dX11_kitchen_73 : decode cX11_kitchen 73 = .ok (.new 91, 3) := by decide +kernel
theorem dX11_kitchen_76 : decode cX11_kitchen 76 = .ok (.dup, 1) := by decide +kernel
theorem dX11_kitchen_77 : decode cX11_kitchen 77 = .ok (.iload_n 1, 1) := by decide +kernel
theorem dX11_kitchen_78 : decode cX11_kitchen 78 = .ok (.iload_n 2, 1) := by decide +kernel
theorem dX11_kitchen_79 : decode cX11_kitchen 79 = .ok (.iload_n 3, 1) := by decide +kernel
theorem dX11_kitchen_80 : decode cX11_kitchen 80 = .ok (.iload 4, 2) := by decide +kernel
theorem dX11_kitchen_82 : decode cX11_kitchen 82 = .ok (.invokespecial 107, 3) := by decide +kernel
theorem dX11_kitchen_85 : decode cX11_kitchen 85 = .ok (.invokevirtual 110, 3) := by decide +kernel
theorem dX11_kitchen_88 : decode cX11_kitchen 88 = .ok (.pop, 1) := by decide +kernel
theorem dX11_kitchen_89 : decode cX11_kitchen 89 = .ok (.aload_n 0, 1) := by decide +kernel
theorem dX11_kitchen_90 : decode cX11_kitchen 90 = .ok (.getfield 61, 3) := by decide +kernel
theorem dX11_kitchen_93 : decode cX11_kitchen 93 = .ok (.invokevirtual 84, 3) := by decide +kernel
theorem dX11_kitchen_96 : decode cX11_kitchen 96 = .ok (.iconst 1, 1) := by decide +kernel
theorem dX11_kitchen_97 : decode cX11_kitchen 97 = .ok (.isub, 1) := by decide +kernel
theorem dX11_kitchen_98 : decode cX11_kitchen 98 = .ok (.ireturn, 1) := by decide +kernel
theorem dX11_kitchen_67 : decode cX11_kitchen 67 = .ok (.iconst (-1), 1) := by decide +kernel
theorem dX11_kitchen_68 : decode cX11_kitchen 68 = .ok (.ireturn, 1) := by decide +kernel
theorem dX11_kitchen_24 : decode cX11_kitchen 24 = .ok (.iconst 0, 1) := by decide +kernel
theorem dX11_sewer_0 : decode cX11_sewer 0 = .ok (.iload_n 1, 1) := by decide +kernel
theorem dX11_sewer_1 : decode cX11_sewer 1 = .ok (.iconst 0, 1) := by decide +kernel
theorem dX11_sewer_2 : decode cX11_sewer 2 = .ok (.bipush 99, 2) := by decide +kernel
theorem dX11_sewer_4 : decode cX11_sewer 4 = .ok (.invokestatic 80, 3) := by decide +kernel
theorem dX11_sewer_7 : decode cX11_sewer 7 = .ok (.ifCond .eq 25, 3) := by decide +kernel
theorem dX11_sewer_10 : decode cX11_sewer 10 = .ok (.iload_n 2, 1) := by decide +kernel
theorem dX11_sewer_11 : decode cX11_sewer 11 = .ok (.iconst 0, 1) := by decide +kernel
theorem dX11_sewer_12 : decode cX11_sewer 12 = .ok (.bipush 99, 2) := by decide +kernel
theorem dX11_sewer_14 : decode cX11_sewer 14 = .ok (.invokestatic 80, 3) := by decide +kernel
theorem dX11_sewer_17 : decode cX11_sewer 17 = .ok (.ifCond .eq 15, 3) := by decide +kernel
theorem dX11_sewer_20 : decode cX11_sewer 20 = .ok (.aload_n 0, 1) := by decide +kernel
theorem dX11_sewer_21 : decode cX11_sewer 21 = .ok (.getfield 74, 3) := by decide +kernel
theorem dX11_sewer_24 : decode cX11_sewer 24 = .ok (.invokevirtual 84, 3) := by decide +kernel
theorem dX11_sewer_27 : decode cX11_sewer 27 = .ok (.bipush 10, 2) := by decide +kernel
theorem dX11_sewer_29 : decode cX11_sewer 29 = .ok (.if_icmp .lt 5, 3) := by decide +kernel
theorem dX11_sewer_34 : decode cX11_sewer 34 = .ok (.aload_n 0, 1) := by decide +kernel
theorem dX11_sewer_35 : decode cX11_sewer 35 = .ok (.getfield 74, 3) := by decide +kernel
theorem dX11_sewer_38 : decode cX11_sewer 38 = .ok (.new 473, 3) := by decide +kernel
theorem dX11_sewer_41 : decode cX11_sewer 41 = .ok (.dup, 1) := by decide +kernel
theorem dX11_sewer_42 : decode cX11_sewer 42 = .ok (.iload_n 1, 1) := by decide +kernel
theorem dX11_sewer_43 : decode cX11_sewer 43 = .ok (.iload_n 2, 1) := by decide +kernel
theorem dX11_sewer_44 : decode cX11_sewer 44 = .ok (.invokespecial 475, 3) := by decide +kernel
theorem dX11_sewer_47 : decode cX11_sewer 47 = .ok (.invokevirtual 110, 3) := by decide +kernel
theorem dX11_sewer_50 : decode cX11_sewer 50 = .ok (.pop, 1) := by decide +kernel
theorem dX11_sewer_51 : decode cX11_sewer 51 = .ok (.aload_n 0, 1) := by decide +kernel
theorem dX11_sewer_52 : decode cX11_sewer 52 = .ok (.getfield 74, 3) := by decide +kernel
theorem dX11_sewer_55 : decode cX11_sewer 55 = .ok (.invokevirtual 84, 3) := by decide +kernel
theorem dX11_sewer_58 : decode cX11_sewer 58 = .ok (.iconst 1, 1) := by decide +kernel
theorem dX11_sewer_59 : decode cX11_sewer 59 = .ok (.isub, 1) := by decide +kernel
theorem dX11_sewer_60 : decode cX11_sewer 60 = .ok (.ireturn, 1) := by decide +kernel
theorem dX11_sewer_32 : decode cX11_sewer 32 = .ok (.iconst (-1), 1) := by decide +kernel
theorem dX11_sewer_33 : decode cX11_sewer 33 = .ok (.ireturn, 1) := by decide +kernel
theorem dX11_fetch_0 : decode cX11_fetch 0 = .ok (.aload_n 0, 1) := by decide +kernel
theorem dX11_fetch_1 : decode cX11_fetch 1 = .ok (.iload_n 1, 1) := by decide +kernel
theorem dX11_fetch_2 : decode cX11_fetch 2 = .ok (.invokevirtual 114, 3) := by decide +kernel
theorem dX11_fetch_5 : decode cX11_fetch 5 = .ok (.astore 7, 2) := by decide +kernel
theorem dX11_fetch_7 : decode cX11_fetch 7 = .ok (.aload 7, 2) := by decide +kernel
theorem dX11_fetch_9 : decode cX11_fetch 9 = .ok (.ifnull 78, 3) := by decide +kernel
theorem dX11_fetch_87 : decode cX11_fetch 87 = .ok (.iconst (-1), 1) := by decide +kernel
theorem dX11_fetch_88 : decode cX11_fetch 88 = .ok (.ireturn, 1) := by decide +kernel
set_option maxRecDepth 100000 in
set_option maxHeartbeats 4000000 in
theorem q_grow1 (l : Launch) (D : va_G) (cI cB cZ : ClassId) (zz qq vv : Nat) (bt : Nat → Int32) (x : Nat) (mc : Int32) (sz : Nat) : Met l yJx4a65c_grow_92f84 (CWS yJx4a65c_grow_92f84 cJx4a65c_grow_92f84 4 (some (.array (.object "java/lang/Object")))) (RM 1 1 10) (PBx [.ref x, .int 1] D cI cB cZ zz qq vv bt [(x, .inr (0, [.int mc, .ref zz, .int 0]))] sz) (va_Qq (fun (r : Option Nat) (u : Nat) => r = some u) (fun (u : Nat) (t : State) => va_P D vwCl [(x, .inr (0, [.int mc, .ref u, .int 0])), (u, .inl (D.1 99, 10, .inr (.inr (.inr (.inr (fun _ => none))))))] t.heap ∧ va_D (va_A [(x, .inr (0, [.int mc, .ref zz, .int 0]))] sz) [(x, .inr (0, [.int mc, .ref u, .int 0])), (u, .inl (D.1 99, 10, .inr (.inr (.inr (.inr (fun _ => none))))))]) (va_A [(x, .inr (0, [.int mc, .ref zz, .int 0]))] sz)) 1 10 (va_A [(x, .inr (0, [.int mc, .ref zz, .int 0]))] sz) := by
  refine Met.ofW (cc := cJx4a65c_grow_92f84) (maxL := 4) (ret := (some (.array (.object "java/lang/Object")))) (by decide) rfl ?_
  intro p e s m args below meth c s₁ B hml hv
  obtain ⟨rfl, hsz, hP, hK, hD0, hXS⟩ := hv
  have hx := B.exec
  have hb := B.bytes
  have hr := B.returns
  have hts := atoms_spec (ws := (CWS yJx4a65c_grow_92f84 cJx4a65c_grow_92f84 4 (some (.array (.object "java/lang/Object"))))) B.pre
  have hown : s.vm.findClass RJx4a65c = some m.cls := findClass_of_methodNamed B.named
  have hlocks := B.notSynchronized
  have S : SF p m c cJx4a65c_grow_92f84 4 s ([.ref x, .int 1]).toArray RJx4a65c := ⟨hx, hb, hml, hown, fun w h => hts w (List.mem_cons_of_mem _ h)⟩
  subst hsz
  have hD := hD0.self (sz := s.heap.size)
  generalize hAe : va_A [(x, .inr (0, [.int mc, .ref zz, .int 0]))] s.heap.size = A at hD hXS ⊢
  have hA : ∀ q : Nat, s.heap.size ≤ q → A q := fun q h => by rw [← hAe]; exact Or.inr h
  have hS : va_S A s.heap s.heap [] := va_S.rf
  have hP : va_P D vwCl [(x, .inr (0, [.int mc, .ref zz, .int 0]))] s.heap := hP
  have hD : va_D A [(x, .inr (0, [.int mc, .ref zz, .int 0]))] := hD
  have hl := lv_entry ([.ref x, .int 1]) (n := 4) (Nat.le_of_ble_eq_true rfl)
  rw [lg_entry_eq]
  generalize (lg_sl ([.ref x, .int 1]) ++ List.replicate (4 - (lg_sl ([.ref x, .int 1])).length) Slot.unset).toArray = ls at hl ⊢
  have hl : lv_has ls 4 [(0, .ref x), (1, .int 1)] := hl
  refine lv_aload_n hx hb dJx4a65c_grow_92f84_0 rfl (lv_at hl 0 rfl) ?_
  refine gf_RJx4a65c_9 S hK hP 0 rfl (v := .ref zz) rfl dJx4a65c_grow_92f84_1 ?_
  refine va_tlen hx hb hXS.2.2.1 hS (v := 0) rfl dJx4a65c_grow_92f84_4 ?_
  refine lv_istore_n (lv' := [(2, .int 0), (0, .ref x), (1, .int 1)]) hx hb dJx4a65c_grow_92f84_5 rfl hl (by decide) rfl (fun ls hl => ?_)
  refine lv_iload_n hx hb dJx4a65c_grow_92f84_6 rfl (lv_at hl 0 rfl) ?_
  refine lv_if_gt (tgt := 20) hx hb dJx4a65c_grow_92f84_7 (by decide) (fun h => absurd h (by decide)) (fun _ => ?_)
  refine lv_aload_n hx hb dJx4a65c_grow_92f84_10 rfl (lv_at hl 1 rfl) ?_
  refine gf_RJx4a65c_9 S hK hP 0 rfl (v := .ref zz) rfl dJx4a65c_grow_92f84_11 ?_
  refine va_gets hx hb hXS.2.1 hS hown (S.2.2.2.2 _ (wT_tab 222 rfl rfl)) (fun _ h9 => h9) dJx4a65c_grow_92f84_14 ?_
  refine lv_acmp_eq (rx := some zz) (ry := some zz) (tgt := 45) hx hb dJx4a65c_grow_92f84_17 (by decide) (fun _ => ?_) (fun h => absurd rfl h)
  refine lv_aload_n hx hb dJx4a65c_grow_92f84_45 rfl (lv_at hl 1 rfl) ?_
  refine lv_bipush (v := 10) hx hb dJx4a65c_grow_92f84_46 (by decide) ?_
  refine lv_iload_n hx hb dJx4a65c_grow_92f84_48 rfl (lv_at hl 2 rfl) ?_
  refine va_mmax hx hb (by rw [hml]; exact hl.1.symm) hown (S.2.2.2.2 _ (wT_tab 411 rfl rfl)) (S.2.2.2.2 _ (wT_tab 42 rfl rfl)) (S.2.2.2.2 _ (wT_tab 3 rfl rfl)) (S.2.2.2.2 _ (wT_tab 43 rfl rfl)) (Nat.le_of_ble_eq_true rfl) (Nat.le_of_ble_eq_true rfl) (Nat.le_of_ble_eq_true rfl) (Nat.le_of_ble_eq_true rfl) dJx4a65c_grow_92f84_49 ?_
  refine lv_topi (fun y_1 ey_1 => ?_)
  obtain rfl : y_1 = 10 := ey_1.trans (by decide)
  refine newq_obj S hXS hK hP hD hS hA (N' := 10) (wT_tab 412 rfl rfl) (by decide) (by decide) (Nat.le_of_ble_eq_true rfl) (Nat.le_of_ble_eq_true rfl) (Nat.le_of_ble_eq_true rfl) dJx4a65c_grow_92f84_52 (fun q52 H hP hD hS => ?_)
  have hP : va_P D vwCl [(x, .inr (0, [.int mc, .ref zz, .int 0])), (q52, .inl (D.1 99, 10, .inr (.inr (.inr (.inr (fun _ => none))))))] H := hP
  have hD : va_D A [(x, .inr (0, [.int mc, .ref zz, .int 0])), (q52, .inl (D.1 99, 10, .inr (.inr (.inr (.inr (fun _ => none))))))] := hD
  refine lv_dup_x1 hx hb dJx4a65c_grow_92f84_55 rfl rfl ?_
  refine pf_RJx4a65c_9 S hK hP hD hS 0 rfl (v := .ref q52) (Nat.le_of_ble_eq_true rfl) rfl rfl dJx4a65c_grow_92f84_56 (fun H locs hP hD hS => ?_)
  have hP : va_P D vwCl [(x, .inr (0, [.int mc, .ref q52, .int 0])), (q52, .inl (D.1 99, 10, .inr (.inr (.inr (.inr (fun _ => none))))))] H := hP
  have hD : va_D A [(x, .inr (0, [.int mc, .ref q52, .int 0])), (q52, .inl (D.1 99, 10, .inr (.inr (.inr (.inr (fun _ => none))))))] := hD
  have hP9 := hP.sub (ws' := [(x, .inr (0, [.int mc, .ref q52, .int 0])), (q52, .inl (D.1 99, 10, .inr (.inr (.inr (.inr (fun _ => none))))))]) [0, 1] rfl
  have hD9 := hD.sub (ws' := [(x, .inr (0, [.int mc, .ref q52, .int 0])), (q52, .inl (D.1 99, 10, .inr (.inr (.inr (.inr (fun _ => none))))))]) [0, 1] (by decide) rfl
  exact W.aret (v := .ref q52) hx hb hr (by first | exact Or.inl ⟨_, rfl⟩ | exact Or.inr ⟨_, rfl⟩) (Or.inr ⟨_, rfl⟩) (fun t ht hW => ⟨⟨some q52, q52, rfl, rfl, by rw [ht]; exact hP9, hD9⟩, hS.F ht⟩) hS.2.2 dJx4a65c_grow_92f84_59
set_option maxRecDepth 100000 in
set_option maxHeartbeats 4000000 in
theorem q_grow0 (l : Launch) (D : va_G) (cI cB cZ : ClassId) (zz qq vv : Nat) (bt : Nat → Int32) (x : Nat) (mc : Int32) (sz : Nat) : Met l yJx4a65c_grow_d5877 (CWS yJx4a65c_grow_d5877 cJx4a65c_grow_d5877 1 (some (.array (.object "java/lang/Object")))) (RM 2 1 10) (PBx [.ref x] D cI cB cZ zz qq vv bt [(x, .inr (0, [.int mc, .ref zz, .int 0]))] sz) (va_Qq (fun (r : Option Nat) (u : Nat) => r = some u) (fun (u : Nat) (t : State) => va_P D vwCl [(x, .inr (0, [.int mc, .ref u, .int 0])), (u, .inl (D.1 99, 10, .inr (.inr (.inr (.inr (fun _ => none))))))] t.heap ∧ va_D (va_A [(x, .inr (0, [.int mc, .ref zz, .int 0]))] sz) [(x, .inr (0, [.int mc, .ref u, .int 0])), (u, .inl (D.1 99, 10, .inr (.inr (.inr (.inr (fun _ => none))))))]) (va_A [(x, .inr (0, [.int mc, .ref zz, .int 0]))] sz)) 1 10 (va_A [(x, .inr (0, [.int mc, .ref zz, .int 0]))] sz) := by
  refine Met.ofW (cc := cJx4a65c_grow_d5877) (maxL := 1) (ret := (some (.array (.object "java/lang/Object")))) (by decide) rfl ?_
  intro p e s m args below meth c s₁ B hml hv
  obtain ⟨rfl, hsz, hP, hK, hD0, hXS⟩ := hv
  have hx := B.exec
  have hb := B.bytes
  have hr := B.returns
  have hts := atoms_spec (ws := (CWS yJx4a65c_grow_d5877 cJx4a65c_grow_d5877 1 (some (.array (.object "java/lang/Object"))))) B.pre
  have hown : s.vm.findClass RJx4a65c = some m.cls := findClass_of_methodNamed B.named
  have hlocks := B.notSynchronized
  have S : SF p m c cJx4a65c_grow_d5877 1 s ([.ref x]).toArray RJx4a65c := ⟨hx, hb, hml, hown, fun w h => hts w (List.mem_cons_of_mem _ h)⟩
  subst hsz
  have hD := hD0.self (sz := s.heap.size)
  generalize hAe : va_A [(x, .inr (0, [.int mc, .ref zz, .int 0]))] s.heap.size = A at hD hXS ⊢
  have hA : ∀ q : Nat, s.heap.size ≤ q → A q := fun q h => by rw [← hAe]; exact Or.inr h
  have hS : va_S A s.heap s.heap [] := va_S.rf
  have hP : va_P D vwCl [(x, .inr (0, [.int mc, .ref zz, .int 0]))] s.heap := hP
  have hD : va_D A [(x, .inr (0, [.int mc, .ref zz, .int 0]))] := hD
  have hl := lv_entry ([.ref x]) (n := 1) (Nat.le_of_ble_eq_true rfl)
  rw [lg_entry_eq]
  generalize (lg_sl ([.ref x]) ++ List.replicate (1 - (lg_sl ([.ref x])).length) Slot.unset).toArray = ls at hl ⊢
  have hl : lv_has ls 1 [(0, .ref x)] := hl
  refine lv_aload_n hx hb dJx4a65c_grow_d5877_0 rfl (lv_at hl 0 rfl) ?_
  refine lv_aload_n hx hb dJx4a65c_grow_d5877_1 rfl (lv_at hl 0 rfl) ?_
  refine gf_RJx4a65c_48 S hK hP 0 rfl (v := .int 0) rfl dJx4a65c_grow_d5877_2 ?_
  refine lv_iconst (v := 1) hx hb dJx4a65c_grow_d5877_5 (by decide) ?_
  refine lv_iadd hx hb dJx4a65c_grow_d5877_6 ?_
  refine lv_topi (fun y_1 ey_1 => ?_)
  obtain rfl : y_1 = 1 := ey_1.trans (by decide)
  have hFc := va_free (wc := [(x, .inr (0, [.int mc, .ref zz, .int 0]))]) hD hS hA [0] rfl
  refine va_callq (runV_x (As := [.int 1]) (rest := []) S (q_grow1 l D cI cB cZ zz qq vv bt x mc s.heap.size) kV_RJx4a65c_69 hK hXS hS hFc hP hD [0] rfl rfl (by decide) 0 rfl rfl rfl ⟨Nat.le_of_ble_eq_true rfl, Nat.le_of_ble_eq_true rfl⟩ ⟨Nat.le_of_ble_eq_true rfl, Nat.le_of_ble_eq_true rfl⟩ rfl hl.1 rfl (Nat.le_of_ble_eq_true rfl) dJx4a65c_grow_d5877_7) hS (fun q _ h => hFc q h) hFc (fun r_2 u_3 t H1 locs ht hvm h_4 hB hz1 hk1 hS => ?_)
  obtain ⟨hP1, hD1⟩ := hB
  rw [ht] at hP1
  obtain ⟨hP, hD⟩ := va_join (wr := []) (w1 := [(x, .inr (0, [.int mc, .ref u_3, .int 0])), (u_3, .inl (D.1 99, 10, .inr (.inr (.inr (.inr (fun _ => none))))))]) hP hD [0] [] rfl rfl (by decide) (by decide) hk1 hFc hP1 hD1
  generalize H1 = H at hP hS ⊢
  have hP : va_P D vwCl [(x, .inr (0, [.int mc, .ref u_3, .int 0])), (u_3, .inl (D.1 99, 10, .inr (.inr (.inr (.inr (fun _ => none))))))] H := hP
  have hD : va_D A [(x, .inr (0, [.int mc, .ref u_3, .int 0])), (u_3, .inl (D.1 99, 10, .inr (.inr (.inr (.inr (fun _ => none))))))] := hD
  subst h_4
  have hP9 := hP.sub (ws' := [(x, .inr (0, [.int mc, .ref u_3, .int 0])), (u_3, .inl (D.1 99, 10, .inr (.inr (.inr (.inr (fun _ => none))))))]) [0, 1] rfl
  have hD9 := hD.sub (ws' := [(x, .inr (0, [.int mc, .ref u_3, .int 0])), (u_3, .inl (D.1 99, 10, .inr (.inr (.inr (.inr (fun _ => none))))))]) [0, 1] (by decide) rfl
  exact W.aret (v := .ref u_3) hx hb hr (by first | exact Or.inl ⟨_, rfl⟩ | exact Or.inr ⟨_, rfl⟩) (Or.inr ⟨_, rfl⟩) (fun t ht hW => ⟨⟨some u_3, u_3, rfl, rfl, by rw [ht]; exact hP9, hD9⟩, hS.F ht⟩) hS.2.2 dJx4a65c_grow_d5877_10
set_option maxRecDepth 100000 in
set_option maxHeartbeats 4000000 in
theorem q_add3K (l : Launch) (D : va_G) (cI cB cZ : ClassId) (zz qq vv : Nat) (bt : Nat → Int32) (x eo : Nat) (mc : Int32) (v0 v1 v2 v3 : Int32) (w : Nat) (sz : Nat) : Met l yJx4a65c_add_72be8 (CWS yJx4a65c_add_72be8 cJx4a65c_add_72be8 4 none) (RM 3 1 10) (PBx [.ref x, .ref eo, .ref zz, .int 0] D cI cB cZ zz qq vv bt [(x, .inr (0, [.int mc, .ref zz, .int 0])), (eo, .inr (2, [.int v0, .int v1, .int v2, .int v3, .int 0, .int 0, .int 0, .int 0, .int 0, .int 0, .ref w]))] sz) (va_Qv (fun (_ : Nat) => True) (fun (u : Nat) (t : State) => va_P D vwCl [(x, .inr (0, [.int mc, .ref u, .int 1]))] t.heap ∧ va_D (va_A [(x, .inr (0, [.int mc, .ref zz, .int 0])), (eo, .inr (2, [.int v0, .int v1, .int v2, .int v3, .int 0, .int 0, .int 0, .int 0, .int 0, .int 0, .ref w]))] sz) [(x, .inr (0, [.int mc, .ref u, .int 1]))]) (va_A [(x, .inr (0, [.int mc, .ref zz, .int 0])), (eo, .inr (2, [.int v0, .int v1, .int v2, .int v3, .int 0, .int 0, .int 0, .int 0, .int 0, .int 0, .ref w]))] sz)) 1 10 (va_A [(x, .inr (0, [.int mc, .ref zz, .int 0])), (eo, .inr (2, [.int v0, .int v1, .int v2, .int v3, .int 0, .int 0, .int 0, .int 0, .int 0, .int 0, .ref w]))] sz) := by
  refine Met.ofW (cc := cJx4a65c_add_72be8) (maxL := 4) (ret := none) (by decide) rfl ?_
  intro p e s m args below meth c s₁ B hml hv
  obtain ⟨rfl, hsz, hP, hK, hD0, hXS⟩ := hv
  have hx := B.exec
  have hb := B.bytes
  have hr := B.returns
  have hts := atoms_spec (ws := (CWS yJx4a65c_add_72be8 cJx4a65c_add_72be8 4 none)) B.pre
  have hown : s.vm.findClass RJx4a65c = some m.cls := findClass_of_methodNamed B.named
  have hlocks := B.notSynchronized
  have S : SF p m c cJx4a65c_add_72be8 4 s ([.ref x, .ref eo, .ref zz, .int 0]).toArray RJx4a65c := ⟨hx, hb, hml, hown, fun w h => hts w (List.mem_cons_of_mem _ h)⟩
  subst hsz
  have hD := hD0.self (sz := s.heap.size)
  generalize hAe : va_A [(x, .inr (0, [.int mc, .ref zz, .int 0])), (eo, .inr (2, [.int v0, .int v1, .int v2, .int v3, .int 0, .int 0, .int 0, .int 0, .int 0, .int 0, .ref w]))] s.heap.size = A at hD hXS ⊢
  have hA : ∀ q : Nat, s.heap.size ≤ q → A q := fun q h => by rw [← hAe]; exact Or.inr h
  have hS : va_S A s.heap s.heap [] := va_S.rf
  have hP : va_P D vwCl [(x, .inr (0, [.int mc, .ref zz, .int 0])), (eo, .inr (2, [.int v0, .int v1, .int v2, .int v3, .int 0, .int 0, .int 0, .int 0, .int 0, .int 0, .ref w]))] s.heap := hP
  have hD : va_D A [(x, .inr (0, [.int mc, .ref zz, .int 0])), (eo, .inr (2, [.int v0, .int v1, .int v2, .int v3, .int 0, .int 0, .int 0, .int 0, .int 0, .int 0, .ref w]))] := hD
  have hl := lv_entry ([.ref x, .ref eo, .ref zz, .int 0]) (n := 4) (Nat.le_of_ble_eq_true rfl)
  rw [lg_entry_eq]
  generalize (lg_sl ([.ref x, .ref eo, .ref zz, .int 0]) ++ List.replicate (4 - (lg_sl ([.ref x, .ref eo, .ref zz, .int 0])).length) Slot.unset).toArray = ls at hl ⊢
  have hl : lv_has ls 4 [(0, .ref x), (1, .ref eo), (2, .ref zz), (3, .int 0)] := hl
  refine lv_iload_n hx hb dJx4a65c_add_72be8_0 rfl (lv_at hl 3 rfl) ?_
  refine lv_aload_n hx hb dJx4a65c_add_72be8_1 rfl (lv_at hl 2 rfl) ?_
  refine va_tlen hx hb hXS.2.2.1 hS (v := 0) rfl dJx4a65c_add_72be8_2 ?_
  refine lv_icmp_ne (tgt := 11) hx hb dJx4a65c_add_72be8_3 (by decide) (fun h => absurd h (by decide)) (fun _ => ?_)
  refine lv_aload_n hx hb dJx4a65c_add_72be8_6 rfl (lv_at hl 0 rfl) ?_
  have hFc := va_free (wc := [(x, .inr (0, [.int mc, .ref zz, .int 0]))]) hD hS hA [0] rfl
  refine va_callq (runV_x (As := []) (rest := []) S (q_grow0 l D cI cB cZ zz qq vv bt x mc s.heap.size) kV_RJx4a65c_129 hK hXS hS hFc hP hD [0] rfl rfl (by decide) 0 rfl rfl rfl ⟨Nat.le_of_ble_eq_true rfl, Nat.le_of_ble_eq_true rfl⟩ ⟨Nat.le_of_ble_eq_true rfl, Nat.le_of_ble_eq_true rfl⟩ rfl hl.1 rfl (Nat.le_of_ble_eq_true rfl) dJx4a65c_add_72be8_7) hS (fun q _ h => hFc q h) hFc (fun r_1 u_2 t H1 locs ht hvm h_3 hB hz1 hk1 hS => ?_)
  obtain ⟨hP1, hD1⟩ := hB
  rw [ht] at hP1
  obtain ⟨hP, hD⟩ := va_join (wr := [(eo, .inr (2, [.int v0, .int v1, .int v2, .int v3, .int 0, .int 0, .int 0, .int 0, .int 0, .int 0, .ref w]))]) (w1 := [(x, .inr (0, [.int mc, .ref u_2, .int 0])), (u_2, .inl (D.1 99, 10, .inr (.inr (.inr (.inr (fun _ => none))))))]) hP hD [0] [1] rfl rfl (by decide) (by decide) hk1 hFc hP1 hD1
  generalize H1 = H at hP hS ⊢
  have hP : va_P D vwCl [(eo, .inr (2, [.int v0, .int v1, .int v2, .int v3, .int 0, .int 0, .int 0, .int 0, .int 0, .int 0, .ref w])), (x, .inr (0, [.int mc, .ref u_2, .int 0])), (u_2, .inl (D.1 99, 10, .inr (.inr (.inr (.inr (fun _ => none))))))] H := hP
  have hD : va_D A [(eo, .inr (2, [.int v0, .int v1, .int v2, .int v3, .int 0, .int 0, .int 0, .int 0, .int 0, .int 0, .ref w])), (x, .inr (0, [.int mc, .ref u_2, .int 0])), (u_2, .inl (D.1 99, 10, .inr (.inr (.inr (.inr (fun _ => none))))))] := hD
  subst h_3
  refine lv_astore_n (lv' := [(2, .ref u_2), (0, .ref x), (1, .ref eo), (3, .int 0)]) hx hb dJx4a65c_add_72be8_10 rfl hl (by decide) rfl (fun ls hl => ?_)
  refine lv_aload_n hx hb dJx4a65c_add_72be8_11 rfl (lv_at hl 0 rfl) ?_
  refine lv_iload_n hx hb dJx4a65c_add_72be8_12 rfl (lv_at hl 3 rfl) ?_
  refine lv_aload_n hx hb dJx4a65c_add_72be8_13 rfl (lv_at hl 2 rfl) ?_
  refine va_astqO hx hb hXS.2.2.2.2.2.2.2.2.1 hP hD hS 2 0 0 2 rfl rfl hXS.2.2.2.2.2.2.2.2.2.2.1 rfl rfl (by unfold vp_in; decide) dJx4a65c_add_72be8_14 (fun H locs hP hD hS => ?_)
  have hP : va_P D vwCl [(eo, .inr (2, [.int v0, .int v1, .int v2, .int v3, .int 0, .int 0, .int 0, .int 0, .int 0, .int 0, .ref w])), (x, .inr (0, [.int mc, .ref u_2, .int 0])), (u_2, .inl (D.1 99, 10, .inr (.inr (.inr (.inr (va_up (fun _ => none) (0 : Int32).toNatClampNeg (some eo)))))))] H := hP
  have hD : va_D A [(eo, .inr (2, [.int v0, .int v1, .int v2, .int v3, .int 0, .int 0, .int 0, .int 0, .int 0, .int 0, .ref w])), (x, .inr (0, [.int mc, .ref u_2, .int 0])), (u_2, .inl (D.1 99, 10, .inr (.inr (.inr (.inr (va_up (fun _ => none) (0 : Int32).toNatClampNeg (some eo)))))))] := hD
  refine lv_aload_n hx hb dJx4a65c_add_72be8_15 rfl (lv_at hl 1 rfl) ?_
  refine lv_iload_n hx hb dJx4a65c_add_72be8_16 rfl (lv_at hl 3 rfl) ?_
  refine lv_iconst (v := 1) hx hb dJx4a65c_add_72be8_17 (by decide) ?_
  refine lv_iadd hx hb dJx4a65c_add_72be8_18 ?_
  refine lv_topi (fun y_4 ey_4 => ?_)
  obtain rfl : y_4 = 1 := ey_4.trans (by decide)
  refine pf_RJx4a65c_48 S hK hP hD hS 1 rfl (v := .int 1) (Nat.le_of_ble_eq_true rfl) rfl rfl dJx4a65c_add_72be8_19 (fun H locs hP hD hS => ?_)
  have hP : va_P D vwCl [(eo, .inr (2, [.int v0, .int v1, .int v2, .int v3, .int 0, .int 0, .int 0, .int 0, .int 0, .int 0, .ref w])), (x, .inr (0, [.int mc, .ref u_2, .int 1])), (u_2, .inl (D.1 99, 10, .inr (.inr (.inr (.inr (va_up (fun _ => none) (0 : Int32).toNatClampNeg (some eo)))))))] H := hP
  have hD : va_D A [(eo, .inr (2, [.int v0, .int v1, .int v2, .int v3, .int 0, .int 0, .int 0, .int 0, .int 0, .int 0, .ref w])), (x, .inr (0, [.int mc, .ref u_2, .int 1])), (u_2, .inl (D.1 99, 10, .inr (.inr (.inr (.inr (va_up (fun _ => none) (0 : Int32).toNatClampNeg (some eo)))))))] := hD
  have hP9 := hP.sub (ws' := [(x, .inr (0, [.int mc, .ref u_2, .int 1]))]) [1] rfl
  have hD9 := hD.sub (ws' := [(x, .inr (0, [.int mc, .ref u_2, .int 1]))]) [1] (by decide) rfl
  exact W.vret hx hb hr (fun t ht hW => ⟨⟨u_2, rfl, trivial, by rw [ht]; exact hP9, hD9⟩, hS.F ht⟩) hS.2.2 dJx4a65c_add_72be8_22
set_option maxRecDepth 100000 in
set_option maxHeartbeats 4000000 in
theorem q_add1K (l : Launch) (D : va_G) (cI cB cZ : ClassId) (zz qq vv : Nat) (bt : Nat → Int32) (x eo : Nat) (v0 v1 v2 v3 : Int32) (w : Nat) (sz : Nat) : Met l yJx4a65c_add_9ea2d (CWS yJx4a65c_add_9ea2d cJx4a65c_add_9ea2d 2 (some .boolean)) (RM 4 1 10) (PBx [.ref x, .ref eo] D cI cB cZ zz qq vv bt [(x, .inr (0, [.int 0, .ref zz, .int 0])), (eo, .inr (2, [.int v0, .int v1, .int v2, .int v3, .int 0, .int 0, .int 0, .int 0, .int 0, .int 0, .ref w]))] sz) (va_Qi (fun (r : Int32) (_ : Nat) => r = 1) (fun (u : Nat) (t : State) => va_P D vwCl [(x, .inr (0, [.int 1, .ref u, .int 1]))] t.heap ∧ va_D (va_A [(x, .inr (0, [.int 0, .ref zz, .int 0])), (eo, .inr (2, [.int v0, .int v1, .int v2, .int v3, .int 0, .int 0, .int 0, .int 0, .int 0, .int 0, .ref w]))] sz) [(x, .inr (0, [.int 1, .ref u, .int 1]))]) (va_A [(x, .inr (0, [.int 0, .ref zz, .int 0])), (eo, .inr (2, [.int v0, .int v1, .int v2, .int v3, .int 0, .int 0, .int 0, .int 0, .int 0, .int 0, .ref w]))] sz)) 1 10 (va_A [(x, .inr (0, [.int 0, .ref zz, .int 0])), (eo, .inr (2, [.int v0, .int v1, .int v2, .int v3, .int 0, .int 0, .int 0, .int 0, .int 0, .int 0, .ref w]))] sz) := by
  refine Met.ofW (cc := cJx4a65c_add_9ea2d) (maxL := 2) (ret := (some .boolean)) (by decide) rfl ?_
  intro p e s m args below meth c s₁ B hml hv
  obtain ⟨rfl, hsz, hP, hK, hD0, hXS⟩ := hv
  have hx := B.exec
  have hb := B.bytes
  have hr := B.returns
  have hts := atoms_spec (ws := (CWS yJx4a65c_add_9ea2d cJx4a65c_add_9ea2d 2 (some .boolean))) B.pre
  have hown : s.vm.findClass RJx4a65c = some m.cls := findClass_of_methodNamed B.named
  have hlocks := B.notSynchronized
  have S : SF p m c cJx4a65c_add_9ea2d 2 s ([.ref x, .ref eo]).toArray RJx4a65c := ⟨hx, hb, hml, hown, fun w h => hts w (List.mem_cons_of_mem _ h)⟩
  subst hsz
  have hD := hD0.self (sz := s.heap.size)
  generalize hAe : va_A [(x, .inr (0, [.int 0, .ref zz, .int 0])), (eo, .inr (2, [.int v0, .int v1, .int v2, .int v3, .int 0, .int 0, .int 0, .int 0, .int 0, .int 0, .ref w]))] s.heap.size = A at hD hXS ⊢
  have hA : ∀ q : Nat, s.heap.size ≤ q → A q := fun q h => by rw [← hAe]; exact Or.inr h
  have hS : va_S A s.heap s.heap [] := va_S.rf
  have hP : va_P D vwCl [(x, .inr (0, [.int 0, .ref zz, .int 0])), (eo, .inr (2, [.int v0, .int v1, .int v2, .int v3, .int 0, .int 0, .int 0, .int 0, .int 0, .int 0, .ref w]))] s.heap := hP
  have hD : va_D A [(x, .inr (0, [.int 0, .ref zz, .int 0])), (eo, .inr (2, [.int v0, .int v1, .int v2, .int v3, .int 0, .int 0, .int 0, .int 0, .int 0, .int 0, .ref w]))] := hD
  have hl := lv_entry ([.ref x, .ref eo]) (n := 2) (Nat.le_of_ble_eq_true rfl)
  rw [lg_entry_eq]
  generalize (lg_sl ([.ref x, .ref eo]) ++ List.replicate (2 - (lg_sl ([.ref x, .ref eo])).length) Slot.unset).toArray = ls at hl ⊢
  have hl : lv_has ls 2 [(0, .ref x), (1, .ref eo)] := hl
  refine lv_aload_n hx hb dJx4a65c_add_9ea2d_0 rfl (lv_at hl 0 rfl) ?_
  refine lv_dup hx hb dJx4a65c_add_9ea2d_1 rfl ?_
  refine gf_RJx4a65c_63 S hK hP 0 rfl (v := .int 0) rfl dJx4a65c_add_9ea2d_2 ?_
  refine lv_iconst (v := 1) hx hb dJx4a65c_add_9ea2d_5 (by decide) ?_
  refine lv_iadd hx hb dJx4a65c_add_9ea2d_6 ?_
  refine lv_topi (fun y_1 ey_1 => ?_)
  obtain rfl : y_1 = 1 := ey_1.trans (by decide)
  refine pf_RJx4a65c_63 S hK hP hD hS 0 rfl (v := .int 1) (Nat.le_of_ble_eq_true rfl) rfl rfl dJx4a65c_add_9ea2d_7 (fun H locs hP hD hS => ?_)
  have hP : va_P D vwCl [(x, .inr (0, [.int 1, .ref zz, .int 0])), (eo, .inr (2, [.int v0, .int v1, .int v2, .int v3, .int 0, .int 0, .int 0, .int 0, .int 0, .int 0, .ref w]))] H := hP
  have hD : va_D A [(x, .inr (0, [.int 1, .ref zz, .int 0])), (eo, .inr (2, [.int v0, .int v1, .int v2, .int v3, .int 0, .int 0, .int 0, .int 0, .int 0, .int 0, .ref w]))] := hD
  refine lv_aload_n hx hb dJx4a65c_add_9ea2d_10 rfl (lv_at hl 0 rfl) ?_
  refine lv_aload_n hx hb dJx4a65c_add_9ea2d_11 rfl (lv_at hl 1 rfl) ?_
  refine lv_aload_n hx hb dJx4a65c_add_9ea2d_12 rfl (lv_at hl 0 rfl) ?_
  refine gf_RJx4a65c_9 S hK hP 0 rfl (v := .ref zz) rfl dJx4a65c_add_9ea2d_13 ?_
  refine lv_aload_n hx hb dJx4a65c_add_9ea2d_16 rfl (lv_at hl 0 rfl) ?_
  refine gf_RJx4a65c_48 S hK hP 0 rfl (v := .int 0) rfl dJx4a65c_add_9ea2d_17 ?_
  have hFc := va_free (wc := [(x, .inr (0, [.int 1, .ref zz, .int 0])), (eo, .inr (2, [.int v0, .int v1, .int v2, .int v3, .int 0, .int 0, .int 0, .int 0, .int 0, .int 0, .ref w]))]) hD hS hA [0, 1] rfl
  refine va_callv (runV_x (As := [.ref eo, .ref zz, .int 0]) (rest := []) S (q_add3K l D cI cB cZ zz qq vv bt x eo 1 v0 v1 v2 v3 w H.size) kV_RJx4a65c_131 hK hXS hS hFc hP hD [0, 1] rfl rfl (by decide) 0 rfl rfl rfl ⟨Nat.le_of_ble_eq_true rfl, Nat.le_of_ble_eq_true rfl⟩ ⟨Nat.le_of_ble_eq_true rfl, Nat.le_of_ble_eq_true rfl⟩ rfl hl.1 rfl (Nat.le_of_ble_eq_true rfl) dJx4a65c_add_9ea2d_20) hS (fun q _ h => hFc q h) hFc (fun u_3 t H1 locs ht hvm h_4 hB hz1 hk1 hS => ?_)
  obtain ⟨hP1, hD1⟩ := hB
  rw [ht] at hP1
  obtain ⟨hP, hD⟩ := va_join (wr := []) (w1 := [(x, .inr (0, [.int 1, .ref u_3, .int 1]))]) hP hD [0, 1] [] rfl rfl (by decide) (by decide) hk1 hFc hP1 hD1
  generalize H1 = H at hP hS ⊢
  have hP : va_P D vwCl [(x, .inr (0, [.int 1, .ref u_3, .int 1]))] H := hP
  have hD : va_D A [(x, .inr (0, [.int 1, .ref u_3, .int 1]))] := hD
  refine lv_iconst (v := 1) hx hb dJx4a65c_add_9ea2d_23 (by decide) ?_
  have hP9 := hP.sub (ws' := [(x, .inr (0, [.int 1, .ref u_3, .int 1]))]) [0] rfl
  have hD9 := hD.sub (ws' := [(x, .inr (0, [.int 1, .ref u_3, .int 1]))]) [0] (by decide) rfl
  exact W.zret (v := 1) hx hb hr rfl (fun t ht hW => ⟨⟨1, u_3, rfl, rfl, by rw [ht]; exact hP9, hD9⟩, hS.F ht⟩) hS.2.2 dJx4a65c_add_9ea2d_24
set_option maxRecDepth 100000 in
set_option maxHeartbeats 4000000 in
theorem q_add3S (l : Launch) (D : va_G) (cI cB cZ : ClassId) (zz qq vv : Nat) (bt : Nat → Int32) (x eo : Nat) (mc : Int32) (v0 v1 : Int32) (sz : Nat) : Met l yJx4a65c_add_72be8 (CWS yJx4a65c_add_72be8 cJx4a65c_add_72be8 4 none) (RM 3 1 10) (PBx [.ref x, .ref eo, .ref zz, .int 0] D cI cB cZ zz qq vv bt [(x, .inr (0, [.int mc, .ref zz, .int 0])), (eo, .inr (7, [.int v0, .int v1, .int 0]))] sz) (va_Qv (fun (_ : Nat) => True) (fun (u : Nat) (t : State) => va_P D vwCl [(x, .inr (0, [.int mc, .ref u, .int 1]))] t.heap ∧ va_D (va_A [(x, .inr (0, [.int mc, .ref zz, .int 0])), (eo, .inr (7, [.int v0, .int v1, .int 0]))] sz) [(x, .inr (0, [.int mc, .ref u, .int 1]))]) (va_A [(x, .inr (0, [.int mc, .ref zz, .int 0])), (eo, .inr (7, [.int v0, .int v1, .int 0]))] sz)) 1 10 (va_A [(x, .inr (0, [.int mc, .ref zz, .int 0])), (eo, .inr (7, [.int v0, .int v1, .int 0]))] sz) := by
  refine Met.ofW (cc := cJx4a65c_add_72be8) (maxL := 4) (ret := none) (by decide) rfl ?_
  intro p e s m args below meth c s₁ B hml hv
  obtain ⟨rfl, hsz, hP, hK, hD0, hXS⟩ := hv
  have hx := B.exec
  have hb := B.bytes
  have hr := B.returns
  have hts := atoms_spec (ws := (CWS yJx4a65c_add_72be8 cJx4a65c_add_72be8 4 none)) B.pre
  have hown : s.vm.findClass RJx4a65c = some m.cls := findClass_of_methodNamed B.named
  have hlocks := B.notSynchronized
  have S : SF p m c cJx4a65c_add_72be8 4 s ([.ref x, .ref eo, .ref zz, .int 0]).toArray RJx4a65c := ⟨hx, hb, hml, hown, fun w h => hts w (List.mem_cons_of_mem _ h)⟩
  subst hsz
  have hD := hD0.self (sz := s.heap.size)
  generalize hAe : va_A [(x, .inr (0, [.int mc, .ref zz, .int 0])), (eo, .inr (7, [.int v0, .int v1, .int 0]))] s.heap.size = A at hD hXS ⊢
  have hA : ∀ q : Nat, s.heap.size ≤ q → A q := fun q h => by rw [← hAe]; exact Or.inr h
  have hS : va_S A s.heap s.heap [] := va_S.rf
  have hP : va_P D vwCl [(x, .inr (0, [.int mc, .ref zz, .int 0])), (eo, .inr (7, [.int v0, .int v1, .int 0]))] s.heap := hP
  have hD : va_D A [(x, .inr (0, [.int mc, .ref zz, .int 0])), (eo, .inr (7, [.int v0, .int v1, .int 0]))] := hD
  have hl := lv_entry ([.ref x, .ref eo, .ref zz, .int 0]) (n := 4) (Nat.le_of_ble_eq_true rfl)
  rw [lg_entry_eq]
  generalize (lg_sl ([.ref x, .ref eo, .ref zz, .int 0]) ++ List.replicate (4 - (lg_sl ([.ref x, .ref eo, .ref zz, .int 0])).length) Slot.unset).toArray = ls at hl ⊢
  have hl : lv_has ls 4 [(0, .ref x), (1, .ref eo), (2, .ref zz), (3, .int 0)] := hl
  refine lv_iload_n hx hb dJx4a65c_add_72be8_0 rfl (lv_at hl 3 rfl) ?_
  refine lv_aload_n hx hb dJx4a65c_add_72be8_1 rfl (lv_at hl 2 rfl) ?_
  refine va_tlen hx hb hXS.2.2.1 hS (v := 0) rfl dJx4a65c_add_72be8_2 ?_
  refine lv_icmp_ne (tgt := 11) hx hb dJx4a65c_add_72be8_3 (by decide) (fun h => absurd h (by decide)) (fun _ => ?_)
  refine lv_aload_n hx hb dJx4a65c_add_72be8_6 rfl (lv_at hl 0 rfl) ?_
  have hFc := va_free (wc := [(x, .inr (0, [.int mc, .ref zz, .int 0]))]) hD hS hA [0] rfl
  refine va_callq (runV_x (As := []) (rest := []) S (q_grow0 l D cI cB cZ zz qq vv bt x mc s.heap.size) kV_RJx4a65c_129 hK hXS hS hFc hP hD [0] rfl rfl (by decide) 0 rfl rfl rfl ⟨Nat.le_of_ble_eq_true rfl, Nat.le_of_ble_eq_true rfl⟩ ⟨Nat.le_of_ble_eq_true rfl, Nat.le_of_ble_eq_true rfl⟩ rfl hl.1 rfl (Nat.le_of_ble_eq_true rfl) dJx4a65c_add_72be8_7) hS (fun q _ h => hFc q h) hFc (fun r_1 u_2 t H1 locs ht hvm h_3 hB hz1 hk1 hS => ?_)
  obtain ⟨hP1, hD1⟩ := hB
  rw [ht] at hP1
  obtain ⟨hP, hD⟩ := va_join (wr := [(eo, .inr (7, [.int v0, .int v1, .int 0]))]) (w1 := [(x, .inr (0, [.int mc, .ref u_2, .int 0])), (u_2, .inl (D.1 99, 10, .inr (.inr (.inr (.inr (fun _ => none))))))]) hP hD [0] [1] rfl rfl (by decide) (by decide) hk1 hFc hP1 hD1
  generalize H1 = H at hP hS ⊢
  have hP : va_P D vwCl [(eo, .inr (7, [.int v0, .int v1, .int 0])), (x, .inr (0, [.int mc, .ref u_2, .int 0])), (u_2, .inl (D.1 99, 10, .inr (.inr (.inr (.inr (fun _ => none))))))] H := hP
  have hD : va_D A [(eo, .inr (7, [.int v0, .int v1, .int 0])), (x, .inr (0, [.int mc, .ref u_2, .int 0])), (u_2, .inl (D.1 99, 10, .inr (.inr (.inr (.inr (fun _ => none))))))] := hD
  subst h_3
  refine lv_astore_n (lv' := [(2, .ref u_2), (0, .ref x), (1, .ref eo), (3, .int 0)]) hx hb dJx4a65c_add_72be8_10 rfl hl (by decide) rfl (fun ls hl => ?_)
  refine lv_aload_n hx hb dJx4a65c_add_72be8_11 rfl (lv_at hl 0 rfl) ?_
  refine lv_iload_n hx hb dJx4a65c_add_72be8_12 rfl (lv_at hl 3 rfl) ?_
  refine lv_aload_n hx hb dJx4a65c_add_72be8_13 rfl (lv_at hl 2 rfl) ?_
  refine va_astqO hx hb hXS.2.2.2.2.2.2.2.2.1 hP hD hS 2 0 0 7 rfl rfl hXS.2.2.2.2.2.2.2.2.2.2.2 rfl rfl (by unfold vp_in; decide) dJx4a65c_add_72be8_14 (fun H locs hP hD hS => ?_)
  have hP : va_P D vwCl [(eo, .inr (7, [.int v0, .int v1, .int 0])), (x, .inr (0, [.int mc, .ref u_2, .int 0])), (u_2, .inl (D.1 99, 10, .inr (.inr (.inr (.inr (va_up (fun _ => none) (0 : Int32).toNatClampNeg (some eo)))))))] H := hP
  have hD : va_D A [(eo, .inr (7, [.int v0, .int v1, .int 0])), (x, .inr (0, [.int mc, .ref u_2, .int 0])), (u_2, .inl (D.1 99, 10, .inr (.inr (.inr (.inr (va_up (fun _ => none) (0 : Int32).toNatClampNeg (some eo)))))))] := hD
  refine lv_aload_n hx hb dJx4a65c_add_72be8_15 rfl (lv_at hl 1 rfl) ?_
  refine lv_iload_n hx hb dJx4a65c_add_72be8_16 rfl (lv_at hl 3 rfl) ?_
  refine lv_iconst (v := 1) hx hb dJx4a65c_add_72be8_17 (by decide) ?_
  refine lv_iadd hx hb dJx4a65c_add_72be8_18 ?_
  refine lv_topi (fun y_4 ey_4 => ?_)
  obtain rfl : y_4 = 1 := ey_4.trans (by decide)
  refine pf_RJx4a65c_48 S hK hP hD hS 1 rfl (v := .int 1) (Nat.le_of_ble_eq_true rfl) rfl rfl dJx4a65c_add_72be8_19 (fun H locs hP hD hS => ?_)
  have hP : va_P D vwCl [(eo, .inr (7, [.int v0, .int v1, .int 0])), (x, .inr (0, [.int mc, .ref u_2, .int 1])), (u_2, .inl (D.1 99, 10, .inr (.inr (.inr (.inr (va_up (fun _ => none) (0 : Int32).toNatClampNeg (some eo)))))))] H := hP
  have hD : va_D A [(eo, .inr (7, [.int v0, .int v1, .int 0])), (x, .inr (0, [.int mc, .ref u_2, .int 1])), (u_2, .inl (D.1 99, 10, .inr (.inr (.inr (.inr (va_up (fun _ => none) (0 : Int32).toNatClampNeg (some eo)))))))] := hD
  have hP9 := hP.sub (ws' := [(x, .inr (0, [.int mc, .ref u_2, .int 1]))]) [1] rfl
  have hD9 := hD.sub (ws' := [(x, .inr (0, [.int mc, .ref u_2, .int 1]))]) [1] (by decide) rfl
  exact W.vret hx hb hr (fun t ht hW => ⟨⟨u_2, rfl, trivial, by rw [ht]; exact hP9, hD9⟩, hS.F ht⟩) hS.2.2 dJx4a65c_add_72be8_22
set_option maxRecDepth 100000 in
set_option maxHeartbeats 4000000 in
theorem q_add1S (l : Launch) (D : va_G) (cI cB cZ : ClassId) (zz qq vv : Nat) (bt : Nat → Int32) (x eo : Nat) (v0 v1 : Int32) (sz : Nat) : Met l yJx4a65c_add_9ea2d (CWS yJx4a65c_add_9ea2d cJx4a65c_add_9ea2d 2 (some .boolean)) (RM 4 1 10) (PBx [.ref x, .ref eo] D cI cB cZ zz qq vv bt [(x, .inr (0, [.int 0, .ref zz, .int 0])), (eo, .inr (7, [.int v0, .int v1, .int 0]))] sz) (va_Qi (fun (r : Int32) (_ : Nat) => r = 1) (fun (u : Nat) (t : State) => va_P D vwCl [(x, .inr (0, [.int 1, .ref u, .int 1]))] t.heap ∧ va_D (va_A [(x, .inr (0, [.int 0, .ref zz, .int 0])), (eo, .inr (7, [.int v0, .int v1, .int 0]))] sz) [(x, .inr (0, [.int 1, .ref u, .int 1]))]) (va_A [(x, .inr (0, [.int 0, .ref zz, .int 0])), (eo, .inr (7, [.int v0, .int v1, .int 0]))] sz)) 1 10 (va_A [(x, .inr (0, [.int 0, .ref zz, .int 0])), (eo, .inr (7, [.int v0, .int v1, .int 0]))] sz) := by
  refine Met.ofW (cc := cJx4a65c_add_9ea2d) (maxL := 2) (ret := (some .boolean)) (by decide) rfl ?_
  intro p e s m args below meth c s₁ B hml hv
  obtain ⟨rfl, hsz, hP, hK, hD0, hXS⟩ := hv
  have hx := B.exec
  have hb := B.bytes
  have hr := B.returns
  have hts := atoms_spec (ws := (CWS yJx4a65c_add_9ea2d cJx4a65c_add_9ea2d 2 (some .boolean))) B.pre
  have hown : s.vm.findClass RJx4a65c = some m.cls := findClass_of_methodNamed B.named
  have hlocks := B.notSynchronized
  have S : SF p m c cJx4a65c_add_9ea2d 2 s ([.ref x, .ref eo]).toArray RJx4a65c := ⟨hx, hb, hml, hown, fun w h => hts w (List.mem_cons_of_mem _ h)⟩
  subst hsz
  have hD := hD0.self (sz := s.heap.size)
  generalize hAe : va_A [(x, .inr (0, [.int 0, .ref zz, .int 0])), (eo, .inr (7, [.int v0, .int v1, .int 0]))] s.heap.size = A at hD hXS ⊢
  have hA : ∀ q : Nat, s.heap.size ≤ q → A q := fun q h => by rw [← hAe]; exact Or.inr h
  have hS : va_S A s.heap s.heap [] := va_S.rf
  have hP : va_P D vwCl [(x, .inr (0, [.int 0, .ref zz, .int 0])), (eo, .inr (7, [.int v0, .int v1, .int 0]))] s.heap := hP
  have hD : va_D A [(x, .inr (0, [.int 0, .ref zz, .int 0])), (eo, .inr (7, [.int v0, .int v1, .int 0]))] := hD
  have hl := lv_entry ([.ref x, .ref eo]) (n := 2) (Nat.le_of_ble_eq_true rfl)
  rw [lg_entry_eq]
  generalize (lg_sl ([.ref x, .ref eo]) ++ List.replicate (2 - (lg_sl ([.ref x, .ref eo])).length) Slot.unset).toArray = ls at hl ⊢
  have hl : lv_has ls 2 [(0, .ref x), (1, .ref eo)] := hl
  refine lv_aload_n hx hb dJx4a65c_add_9ea2d_0 rfl (lv_at hl 0 rfl) ?_
  refine lv_dup hx hb dJx4a65c_add_9ea2d_1 rfl ?_
  refine gf_RJx4a65c_63 S hK hP 0 rfl (v := .int 0) rfl dJx4a65c_add_9ea2d_2 ?_
  refine lv_iconst (v := 1) hx hb dJx4a65c_add_9ea2d_5 (by decide) ?_
  refine lv_iadd hx hb dJx4a65c_add_9ea2d_6 ?_
  refine lv_topi (fun y_1 ey_1 => ?_)
  obtain rfl : y_1 = 1 := ey_1.trans (by decide)
  refine pf_RJx4a65c_63 S hK hP hD hS 0 rfl (v := .int 1) (Nat.le_of_ble_eq_true rfl) rfl rfl dJx4a65c_add_9ea2d_7 (fun H locs hP hD hS => ?_)
  have hP : va_P D vwCl [(x, .inr (0, [.int 1, .ref zz, .int 0])), (eo, .inr (7, [.int v0, .int v1, .int 0]))] H := hP
  have hD : va_D A [(x, .inr (0, [.int 1, .ref zz, .int 0])), (eo, .inr (7, [.int v0, .int v1, .int 0]))] := hD
  refine lv_aload_n hx hb dJx4a65c_add_9ea2d_10 rfl (lv_at hl 0 rfl) ?_
  refine lv_aload_n hx hb dJx4a65c_add_9ea2d_11 rfl (lv_at hl 1 rfl) ?_
  refine lv_aload_n hx hb dJx4a65c_add_9ea2d_12 rfl (lv_at hl 0 rfl) ?_
  refine gf_RJx4a65c_9 S hK hP 0 rfl (v := .ref zz) rfl dJx4a65c_add_9ea2d_13 ?_
  refine lv_aload_n hx hb dJx4a65c_add_9ea2d_16 rfl (lv_at hl 0 rfl) ?_
  refine gf_RJx4a65c_48 S hK hP 0 rfl (v := .int 0) rfl dJx4a65c_add_9ea2d_17 ?_
  have hFc := va_free (wc := [(x, .inr (0, [.int 1, .ref zz, .int 0])), (eo, .inr (7, [.int v0, .int v1, .int 0]))]) hD hS hA [0, 1] rfl
  refine va_callv (runV_x (As := [.ref eo, .ref zz, .int 0]) (rest := []) S (q_add3S l D cI cB cZ zz qq vv bt x eo 1 v0 v1 H.size) kV_RJx4a65c_131 hK hXS hS hFc hP hD [0, 1] rfl rfl (by decide) 0 rfl rfl rfl ⟨Nat.le_of_ble_eq_true rfl, Nat.le_of_ble_eq_true rfl⟩ ⟨Nat.le_of_ble_eq_true rfl, Nat.le_of_ble_eq_true rfl⟩ rfl hl.1 rfl (Nat.le_of_ble_eq_true rfl) dJx4a65c_add_9ea2d_20) hS (fun q _ h => hFc q h) hFc (fun u_3 t H1 locs ht hvm h_4 hB hz1 hk1 hS => ?_)
  obtain ⟨hP1, hD1⟩ := hB
  rw [ht] at hP1
  obtain ⟨hP, hD⟩ := va_join (wr := []) (w1 := [(x, .inr (0, [.int 1, .ref u_3, .int 1]))]) hP hD [0, 1] [] rfl rfl (by decide) (by decide) hk1 hFc hP1 hD1
  generalize H1 = H at hP hS ⊢
  have hP : va_P D vwCl [(x, .inr (0, [.int 1, .ref u_3, .int 1]))] H := hP
  have hD : va_D A [(x, .inr (0, [.int 1, .ref u_3, .int 1]))] := hD
  refine lv_iconst (v := 1) hx hb dJx4a65c_add_9ea2d_23 (by decide) ?_
  have hP9 := hP.sub (ws' := [(x, .inr (0, [.int 1, .ref u_3, .int 1]))]) [0] rfl
  have hD9 := hD.sub (ws' := [(x, .inr (0, [.int 1, .ref u_3, .int 1]))]) [0] (by decide) rfl
  exact W.zret (v := 1) hx hb hr rfl (fun t ht hW => ⟨⟨1, u_3, rfl, rfl, by rw [ht]; exact hP9, hD9⟩, hS.F ht⟩) hS.2.2 dJx4a65c_add_9ea2d_24
set_option maxRecDepth 100000 in
set_option maxHeartbeats 4000000 in
theorem q_Kitchen (l : Launch) (D : va_G) (cI cB cZ : ClassId) (x : Nat) (v0 v1 v2 v3 : Int32) (sz : Nat) : Met l yX1_init (CWS yX1_init cX1_init 5 none) (RM 2 6 77) (PBw [.ref x, .int v0, .int v1, .int v2, .int v3] D cI cB cZ [(x, .inr (2, [.int 0, .int 0, .int 0, .int 0, .int 0, .int 0, .int 0, .int 0, .int 0, .int 0, .null]))] sz) (va_Qv (fun (_ : Nat) => True) (fun (u : Nat) (t : State) => va_P D vwCl [(x, .inr (2, [.int v0, .int v1, .int v2, .int v3, .int 0, .int 0, .int 0, .int 0, .int 0, .int 0, .ref u]))] t.heap ∧ va_D (va_A [(x, .inr (2, [.int 0, .int 0, .int 0, .int 0, .int 0, .int 0, .int 0, .int 0, .int 0, .int 0, .null]))] sz) [(x, .inr (2, [.int v0, .int v1, .int v2, .int v3, .int 0, .int 0, .int 0, .int 0, .int 0, .int 0, .ref u]))]) (va_A [(x, .inr (2, [.int 0, .int 0, .int 0, .int 0, .int 0, .int 0, .int 0, .int 0, .int 0, .int 0, .null]))] sz)) 6 77 (va_A [(x, .inr (2, [.int 0, .int 0, .int 0, .int 0, .int 0, .int 0, .int 0, .int 0, .int 0, .int 0, .null]))] sz) := by
  refine Met.ofW (cc := cX1_init) (maxL := 5) (ret := none) (by decide) rfl ?_
  intro p e s m args below meth c s₁ B hml hv
  obtain ⟨rfl, hsz, hP, hK, hD0⟩ := hv
  have hx := B.exec
  have hb := B.bytes
  have hr := B.returns
  have hts := atoms_spec (ws := (CWS yX1_init cX1_init 5 none)) B.pre
  have hown : s.vm.findClass RX1 = some m.cls := findClass_of_methodNamed B.named
  have hlocks := B.notSynchronized
  have hin : meth.name = "<init>" := (name_of_methodNamed B.named B.method).1
  have S : SF p m c cX1_init 5 s ([.ref x, .int v0, .int v1, .int v2, .int v3]).toArray RX1 := ⟨hx, hb, hml, hown, fun w h => hts w (List.mem_cons_of_mem _ h)⟩
  subst hsz
  have hD := hD0.self (sz := s.heap.size)
  generalize hAe : va_A [(x, .inr (2, [.int 0, .int 0, .int 0, .int 0, .int 0, .int 0, .int 0, .int 0, .int 0, .int 0, .null]))] s.heap.size = A at hD ⊢
  have hA : ∀ q : Nat, s.heap.size ≤ q → A q := fun q h => by rw [← hAe]; exact Or.inr h
  have hS : va_S A s.heap s.heap [] := va_S.rf
  have hP : va_P D vwCl [(x, .inr (2, [.int 0, .int 0, .int 0, .int 0, .int 0, .int 0, .int 0, .int 0, .int 0, .int 0, .null]))] s.heap := hP
  have hD : va_D A [(x, .inr (2, [.int 0, .int 0, .int 0, .int 0, .int 0, .int 0, .int 0, .int 0, .int 0, .int 0, .null]))] := hD
  have hl := lv_entry ([.ref x, .int v0, .int v1, .int v2, .int v3]) (n := 5) (Nat.le_of_ble_eq_true rfl)
  rw [lg_entry_eq]
  generalize (lg_sl ([.ref x, .int v0, .int v1, .int v2, .int v3]) ++ List.replicate (5 - (lg_sl ([.ref x, .int v0, .int v1, .int v2, .int v3])).length) Slot.unset).toArray = ls at hl ⊢
  have hl : lv_has ls 5 [(0, .ref x), (1, .int v0), (2, .int v1), (3, .int v2), (4, .int v3)] := hl
  refine lv_aload_n hx hb dX1_init_0 rfl (lv_at hl 0 rfl) ?_
  refine W.objInit hx hb hown (S.2.2.2.2 _ (wT_tab 308 rfl rfl)) (S.2.2.2.2 _ (wT_tab 33 rfl rfl)) (S.2.2.2.2 _ (wT_tab 34 rfl rfl)) rfl (by rw [hml]; exact hl.1) rfl dX1_init_1 (Nat.le_of_ble_eq_true rfl) (Nat.le_of_ble_eq_true rfl) ?_
  refine W.eq (g2 := F0 m 4 ls []) rfl ?_
  refine lv_aload_n hx hb dX1_init_4 rfl (lv_at hl 0 rfl) ?_
  refine lv_iload_n hx hb dX1_init_5 rfl (lv_at hl 1 rfl) ?_
  refine pf_RX1_7 S hin hK hP hD hS 0 rfl (v := .int v0) (Nat.le_of_ble_eq_true rfl) rfl rfl dX1_init_6 (fun H locs hP hD hS => ?_)
  have hP : va_P D vwCl [(x, .inr (2, [.int v0, .int 0, .int 0, .int 0, .int 0, .int 0, .int 0, .int 0, .int 0, .int 0, .null]))] H := hP
  have hD : va_D A [(x, .inr (2, [.int v0, .int 0, .int 0, .int 0, .int 0, .int 0, .int 0, .int 0, .int 0, .int 0, .null]))] := hD
  refine lv_aload_n hx hb dX1_init_9 rfl (lv_at hl 0 rfl) ?_
  refine lv_iload_n hx hb dX1_init_10 rfl (lv_at hl 2 rfl) ?_
  refine pf_RX1_13 S hin hK hP hD hS 0 rfl (v := .int v1) (Nat.le_of_ble_eq_true rfl) rfl rfl dX1_init_11 (fun H locs hP hD hS => ?_)
  have hP : va_P D vwCl [(x, .inr (2, [.int v0, .int v1, .int 0, .int 0, .int 0, .int 0, .int 0, .int 0, .int 0, .int 0, .null]))] H := hP
  have hD : va_D A [(x, .inr (2, [.int v0, .int v1, .int 0, .int 0, .int 0, .int 0, .int 0, .int 0, .int 0, .int 0, .null]))] := hD
  refine lv_aload_n hx hb dX1_init_14 rfl (lv_at hl 0 rfl) ?_
  refine lv_iload_n hx hb dX1_init_15 rfl (lv_at hl 3 rfl) ?_
  refine pf_RX1_16 S hin hK hP hD hS 0 rfl (v := .int v2) (Nat.le_of_ble_eq_true rfl) rfl rfl dX1_init_16 (fun H locs hP hD hS => ?_)
  have hP : va_P D vwCl [(x, .inr (2, [.int v0, .int v1, .int v2, .int 0, .int 0, .int 0, .int 0, .int 0, .int 0, .int 0, .null]))] H := hP
  have hD : va_D A [(x, .inr (2, [.int v0, .int v1, .int v2, .int 0, .int 0, .int 0, .int 0, .int 0, .int 0, .int 0, .null]))] := hD
  refine lv_aload_n hx hb dX1_init_19 rfl (lv_at hl 0 rfl) ?_
  refine lv_iload hx hb dX1_init_20 (lv_at hl 4 rfl) ?_
  refine pf_RX1_19 S hin hK hP hD hS 0 rfl (v := .int v3) (Nat.le_of_ble_eq_true rfl) rfl rfl dX1_init_22 (fun H locs hP hD hS => ?_)
  have hP : va_P D vwCl [(x, .inr (2, [.int v0, .int v1, .int v2, .int v3, .int 0, .int 0, .int 0, .int 0, .int 0, .int 0, .null]))] H := hP
  have hD : va_D A [(x, .inr (2, [.int v0, .int v1, .int v2, .int v3, .int 0, .int 0, .int 0, .int 0, .int 0, .int 0, .null]))] := hD
  refine lv_aload_n hx hb dX1_init_25 rfl (lv_at hl 0 rfl) ?_
  refine va_new (ci := 10) (fs := [.null, .null, .null, .null, .null, .int 0, .int 0, .int 0, .int 0]) (C := RX9) (T := TX9) (N := 9) hx hb S.2.2.2.2 hin_RX9 tyX9 tyX9_ok hown (S.2.2.2.2 _ (wT_tab 309 rfl rfl)) (S.2.2.2.2 _ (wT_tab 36 rfl rfl)) (S.2.2.2.2 _ (wT_tab 2 rfl rfl)) hK.1 hP hD hS hA rfl (by decide +kernel) (Nat.le_of_ble_eq_true rfl) (Nat.le_of_ble_eq_true rfl) dX1_init_26 (fun q26 H hP hD hS => ?_)
  have hP : va_P D vwCl [(x, .inr (2, [.int v0, .int v1, .int v2, .int v3, .int 0, .int 0, .int 0, .int 0, .int 0, .int 0, .null])), (q26, .inr (10, [.null, .null, .null, .null, .null, .int 0, .int 0, .int 0, .int 0]))] H := hP
  have hD : va_D A [(x, .inr (2, [.int v0, .int v1, .int v2, .int v3, .int 0, .int 0, .int 0, .int 0, .int 0, .int 0, .null])), (q26, .inr (10, [.null, .null, .null, .null, .null, .int 0, .int 0, .int 0, .int 0]))] := hD
  refine lv_dup hx hb dX1_init_29 rfl ?_
  refine lv_iconst (v := 0) hx hb dX1_init_30 (by decide) ?_
  have hFc := va_free (wc := [(q26, .inr (10, [.null, .null, .null, .null, .null, .int 0, .int 0, .int 0, .int 0]))]) hD hS hA [1] rfl
  refine va_callv (runI_w (As := [.int 0]) (rest := [.ref q26, .ref x]) S (q_Text l D cI cB cZ q26 H.size) kI_RX1_24 hK hP hD [1] rfl rfl (by decide) ⟨Nat.le_of_ble_eq_true rfl, Nat.le_of_ble_eq_true rfl⟩ ⟨Nat.le_of_ble_eq_true rfl, Nat.le_of_ble_eq_true rfl⟩ rfl hl.1 rfl (Nat.le_of_ble_eq_true rfl) dX1_init_31) hS (fun q _ h => hFc q h) hFc (fun u_2 t H1 locs ht hvm h_3 hB hz1 hk1 hS => ?_)
  obtain ⟨hP1, hD1⟩ := hB
  rw [ht] at hP1
  obtain ⟨hP, hD⟩ := va_join (wr := [(x, .inr (2, [.int v0, .int v1, .int v2, .int v3, .int 0, .int 0, .int 0, .int 0, .int 0, .int 0, .null]))]) (w1 := [(q26, .inr (10, [.ref (u_2 0), .ref (u_2 1), .ref (u_2 2), .ref (u_2 3), .ref (u_2 4), .int 0, .int 0, .int 0, .int 0]))]) hP hD [1] [0] rfl rfl (by decide) (by decide) hk1 hFc hP1 hD1
  generalize H1 = H at hP hS ⊢
  have hP : va_P D vwCl [(x, .inr (2, [.int v0, .int v1, .int v2, .int v3, .int 0, .int 0, .int 0, .int 0, .int 0, .int 0, .null])), (q26, .inr (10, [.ref (u_2 0), .ref (u_2 1), .ref (u_2 2), .ref (u_2 3), .ref (u_2 4), .int 0, .int 0, .int 0, .int 0]))] H := hP
  have hD : va_D A [(x, .inr (2, [.int v0, .int v1, .int v2, .int v3, .int 0, .int 0, .int 0, .int 0, .int 0, .int 0, .null])), (q26, .inr (10, [.ref (u_2 0), .ref (u_2 1), .ref (u_2 2), .ref (u_2 3), .ref (u_2 4), .int 0, .int 0, .int 0, .int 0]))] := hD
  refine pf_RX1_27 S hK hP hD hS 0 rfl (v := .ref q26) (Nat.le_of_ble_eq_true rfl) rfl rfl dX1_init_34 (fun H locs hP hD hS => ?_)
  have hP : va_P D vwCl [(x, .inr (2, [.int v0, .int v1, .int v2, .int v3, .int 0, .int 0, .int 0, .int 0, .int 0, .int 0, .ref q26])), (q26, .inr (10, [.ref (u_2 0), .ref (u_2 1), .ref (u_2 2), .ref (u_2 3), .ref (u_2 4), .int 0, .int 0, .int 0, .int 0]))] H := hP
  have hD : va_D A [(x, .inr (2, [.int v0, .int v1, .int v2, .int v3, .int 0, .int 0, .int 0, .int 0, .int 0, .int 0, .ref q26])), (q26, .inr (10, [.ref (u_2 0), .ref (u_2 1), .ref (u_2 2), .ref (u_2 3), .ref (u_2 4), .int 0, .int 0, .int 0, .int 0]))] := hD
  have hP9 := hP.sub (ws' := [(x, .inr (2, [.int v0, .int v1, .int v2, .int v3, .int 0, .int 0, .int 0, .int 0, .int 0, .int 0, .ref q26]))]) [0] rfl
  have hD9 := hD.sub (ws' := [(x, .inr (2, [.int v0, .int v1, .int v2, .int v3, .int 0, .int 0, .int 0, .int 0, .int 0, .int 0, .ref q26]))]) [0] (by decide) rfl
  exact W.vret hx hb hr (fun t ht hW => ⟨⟨q26, rfl, trivial, by rw [ht]; exact hP9, hD9⟩, hS.F ht⟩) hS.2.2 dX1_init_37
set_option maxRecDepth 100000 in
set_option maxHeartbeats 4000000 in
theorem q_Sewer (l : Launch) (D : va_G) (cI cB cZ : ClassId) (x : Nat) (v0 v1 : Int32) (sz : Nat) : Met l yX6_init (CWS yX6_init cX6_init 3 none) (RM 1 0 0) (PBw [.ref x, .int v0, .int v1] D cI cB cZ [(x, .inr (7, [.int 0, .int 0, .int 0]))] sz) (va_Qv (fun (_ : Unit) => True) (fun (u : Unit) (t : State) => va_P D vwCl [(x, .inr (7, [.int v0, .int v1, .int 0]))] t.heap ∧ va_D (va_A [(x, .inr (7, [.int 0, .int 0, .int 0]))] sz) [(x, .inr (7, [.int v0, .int v1, .int 0]))]) (va_A [(x, .inr (7, [.int 0, .int 0, .int 0]))] sz)) 0 0 (va_A [(x, .inr (7, [.int 0, .int 0, .int 0]))] sz) := by
  refine Met.ofW (cc := cX6_init) (maxL := 3) (ret := none) (by decide) rfl ?_
  intro p e s m args below meth c s₁ B hml hv
  obtain ⟨rfl, hsz, hP, hK, hD0⟩ := hv
  have hx := B.exec
  have hb := B.bytes
  have hr := B.returns
  have hts := atoms_spec (ws := (CWS yX6_init cX6_init 3 none)) B.pre
  have hown : s.vm.findClass RX6 = some m.cls := findClass_of_methodNamed B.named
  have hlocks := B.notSynchronized
  have hin : meth.name = "<init>" := (name_of_methodNamed B.named B.method).1
  have S : SF p m c cX6_init 3 s ([.ref x, .int v0, .int v1]).toArray RX6 := ⟨hx, hb, hml, hown, fun w h => hts w (List.mem_cons_of_mem _ h)⟩
  subst hsz
  have hD := hD0.self (sz := s.heap.size)
  generalize hAe : va_A [(x, .inr (7, [.int 0, .int 0, .int 0]))] s.heap.size = A at hD ⊢
  have hA : ∀ q : Nat, s.heap.size ≤ q → A q := fun q h => by rw [← hAe]; exact Or.inr h
  have hS : va_S A s.heap s.heap [] := va_S.rf
  have hP : va_P D vwCl [(x, .inr (7, [.int 0, .int 0, .int 0]))] s.heap := hP
  have hD : va_D A [(x, .inr (7, [.int 0, .int 0, .int 0]))] := hD
  have hl := lv_entry ([.ref x, .int v0, .int v1]) (n := 3) (Nat.le_of_ble_eq_true rfl)
  rw [lg_entry_eq]
  generalize (lg_sl ([.ref x, .int v0, .int v1]) ++ List.replicate (3 - (lg_sl ([.ref x, .int v0, .int v1])).length) Slot.unset).toArray = ls at hl ⊢
  have hl : lv_has ls 3 [(0, .ref x), (1, .int v0), (2, .int v1)] := hl
  refine lv_aload_n hx hb dX6_init_0 rfl (lv_at hl 0 rfl) ?_
  refine W.objInit hx hb hown (S.2.2.2.2 _ (wT_tab 1174 rfl rfl)) (S.2.2.2.2 _ (wT_tab 33 rfl rfl)) (S.2.2.2.2 _ (wT_tab 34 rfl rfl)) rfl (by rw [hml]; exact hl.1) rfl dX6_init_1 (Nat.le_of_ble_eq_true rfl) (Nat.le_of_ble_eq_true rfl) ?_
  refine W.eq (g2 := F0 m 4 ls []) rfl ?_
  refine lv_aload_n hx hb dX6_init_4 rfl (lv_at hl 0 rfl) ?_
  refine lv_iload_n hx hb dX6_init_5 rfl (lv_at hl 1 rfl) ?_
  refine pf_RX6_7 S hin hK hP hD hS 0 rfl (v := .int v0) (Nat.le_of_ble_eq_true rfl) rfl rfl dX6_init_6 (fun H locs hP hD hS => ?_)
  have hP : va_P D vwCl [(x, .inr (7, [.int v0, .int 0, .int 0]))] H := hP
  have hD : va_D A [(x, .inr (7, [.int v0, .int 0, .int 0]))] := hD
  refine lv_aload_n hx hb dX6_init_9 rfl (lv_at hl 0 rfl) ?_
  refine lv_iload_n hx hb dX6_init_10 rfl (lv_at hl 2 rfl) ?_
  refine pf_RX6_13 S hin hK hP hD hS 0 rfl (v := .int v1) (Nat.le_of_ble_eq_true rfl) rfl rfl dX6_init_11 (fun H locs hP hD hS => ?_)
  have hP : va_P D vwCl [(x, .inr (7, [.int v0, .int v1, .int 0]))] H := hP
  have hD : va_D A [(x, .inr (7, [.int v0, .int v1, .int 0]))] := hD
  have hP9 := hP.sub (ws' := [(x, .inr (7, [.int v0, .int v1, .int 0]))]) [0] rfl
  have hD9 := hD.sub (ws' := [(x, .inr (7, [.int v0, .int v1, .int 0]))]) [0] (by decide) rfl
  exact W.vret hx hb hr (fun t ht hW => ⟨⟨(), rfl, trivial, by rw [ht]; exact hP9, hD9⟩, hS.F ht⟩) hS.2.2 dX6_init_14
set_option maxRecDepth 100000 in
set_option maxHeartbeats 4000000 in
theorem q_X_kitchen (l : Launch) (D : va_G) (cI cB cZ : ClassId) (zz qq vv : Nat) (bt : Nat → Int32) (g : Nat → Nat) (v0 v1 v2 v3 : Int32) (sz : Nat) : Met l yX11_kitchen (CWS yX11_kitchen cX11_kitchen 6 (some .int)) (RM 5 8 98) (PBx [.ref (g 0), .int v0, .int v1, .int v2, .int v3] D cI cB cZ zz qq vv bt [((g 0), .inr (12, oX g)), ((g 10), .inr (0, [.int 0, .ref zz, .int 0]))] sz) (va_Qi (fun (r : Int32) (_ : Unit) => r = (if (0 ≤ v0.toInt ∧ v0.toInt ≤ 99) ∧ (0 ≤ v1.toInt ∧ v1.toInt ≤ 99) ∧ (0 ≤ v2.toInt ∧ v2.toInt ≤ 50) ∧ 20 ≤ v3.toInt ∧ v3.toInt ≤ 400 then (0 : Int32) else -1)) (fun (_ : Unit) (_ : State) => True) (va_A [((g 0), .inr (12, oX g)), ((g 10), .inr (0, [.int 0, .ref zz, .int 0]))] sz)) 8 98 (va_A [((g 0), .inr (12, oX g)), ((g 10), .inr (0, [.int 0, .ref zz, .int 0]))] sz) := by
  refine Met.ofW (cc := cX11_kitchen) (maxL := 6) (ret := (some .int)) (by decide) rfl ?_
  intro p e s m args below meth c s₁ B hml hv
  obtain ⟨rfl, hsz, hP, hK, hD0, hXS⟩ := hv
  have hx := B.exec
  have hb := B.bytes
  have hr := B.returns
  have hts := atoms_spec (ws := (CWS yX11_kitchen cX11_kitchen 6 (some .int))) B.pre
  have hown : s.vm.findClass RX11 = some m.cls := findClass_of_methodNamed B.named
  have hlocks := B.notSynchronized
  have S : SF p m c cX11_kitchen 6 s ([.ref (g 0), .int v0, .int v1, .int v2, .int v3]).toArray RX11 := ⟨hx, hb, hml, hown, fun w h => hts w (List.mem_cons_of_mem _ h)⟩
  subst hsz
  have hD := hD0.self (sz := s.heap.size)
  generalize hAe : va_A [((g 0), .inr (12, oX g)), ((g 10), .inr (0, [.int 0, .ref zz, .int 0]))] s.heap.size = A at hD hXS ⊢
  have hA : ∀ q : Nat, s.heap.size ≤ q → A q := fun q h => by rw [← hAe]; exact Or.inr h
  have hS : va_S A s.heap s.heap [] := va_S.rf
  have hP : va_P D vwCl [((g 0), .inr (12, oX g)), ((g 10), .inr (0, [.int 0, .ref zz, .int 0]))] s.heap := hP
  have hD : va_D A [((g 0), .inr (12, oX g)), ((g 10), .inr (0, [.int 0, .ref zz, .int 0]))] := hD
  have hl := lv_entry ([.ref (g 0), .int v0, .int v1, .int v2, .int v3]) (n := 6) (Nat.le_of_ble_eq_true rfl)
  rw [lg_entry_eq]
  generalize (lg_sl ([.ref (g 0), .int v0, .int v1, .int v2, .int v3]) ++ List.replicate (6 - (lg_sl ([.ref (g 0), .int v0, .int v1, .int v2, .int v3])).length) Slot.unset).toArray = ls at hl ⊢
  have hl : lv_has ls 6 [(0, .ref (g 0)), (1, .int v0), (2, .int v1), (3, .int v2), (4, .int v3)] := hl
  refine lv_iload_n hx hb dX11_kitchen_0 rfl (lv_at hl 1 rfl) ?_
  refine lv_iconst (v := 0) hx hb dX11_kitchen_1 (by decide) ?_
  refine lv_bipush (v := 99) hx hb dX11_kitchen_2 (by decide) ?_
  refine vp_callSi (runS_r (As := [.int v0, .int 0, .int 99]) (rest := []) S (q_within l D cI cB cZ v0 0 99) kS_RX11_80 hK hP [] rfl ⟨Nat.le_of_ble_eq_true rfl, Nat.le_of_ble_eq_true rfl⟩ ⟨Nat.le_of_ble_eq_true rfl, Nat.le_of_ble_eq_true rfl⟩ rfl hl.1 rfl (Nat.le_of_ble_eq_true rfl) dX11_kitchen_4) (fun r_1 h_2 => ?_)
  rcases h_2 with ⟨rfl, h_2⟩ | ⟨rfl, h_2⟩
  ·
    have h_2 : 0 ≤ v0.toInt ∧ v0.toInt ≤ 99 := h_2
    refine lv_if_eq (tgt := 24) hx hb dX11_kitchen_7 (by decide) (fun h => absurd h (by decide)) (fun _ => ?_)
    refine lv_iload_n hx hb dX11_kitchen_10 rfl (lv_at hl 2 rfl) ?_
    refine lv_iconst (v := 0) hx hb dX11_kitchen_11 (by decide) ?_
    refine lv_bipush (v := 99) hx hb dX11_kitchen_12 (by decide) ?_
    refine vp_callSi (runS_r (As := [.int v1, .int 0, .int 99]) (rest := []) S (q_within l D cI cB cZ v1 0 99) kS_RX11_80 hK hP [] rfl ⟨Nat.le_of_ble_eq_true rfl, Nat.le_of_ble_eq_true rfl⟩ ⟨Nat.le_of_ble_eq_true rfl, Nat.le_of_ble_eq_true rfl⟩ rfl hl.1 rfl (Nat.le_of_ble_eq_true rfl) dX11_kitchen_14) (fun r_3 h_4 => ?_)
    rcases h_4 with ⟨rfl, h_4⟩ | ⟨rfl, h_4⟩
    ·
      have h_4 : 0 ≤ v1.toInt ∧ v1.toInt ≤ 99 := h_4
      refine lv_if_eq (tgt := 24) hx hb dX11_kitchen_17 (by decide) (fun h => absurd h (by decide)) (fun _ => ?_)
      refine lv_iconst (v := 1) hx hb dX11_kitchen_20 (by decide) ?_
      refine lv_goto (tgt := 25) hx hb dX11_kitchen_21 (by decide) ?_
      refine lv_istore (lv' := [(5, .int 1), (0, .ref (g 0)), (1, .int v0), (2, .int v1), (3, .int v2), (4, .int v3)]) hx hb dX11_kitchen_25 hl (by decide) rfl (fun ls hl => ?_)
      refine lv_iload hx hb dX11_kitchen_27 (lv_at hl 0 rfl) ?_
      refine lv_if_eq (tgt := 67) hx hb dX11_kitchen_29 (by decide) (fun h => absurd h (by decide)) (fun _ => ?_)
      refine lv_iload_n hx hb dX11_kitchen_32 rfl (lv_at hl 4 rfl) ?_
      refine lv_iconst (v := 0) hx hb dX11_kitchen_33 (by decide) ?_
      refine lv_bipush (v := 50) hx hb dX11_kitchen_34 (by decide) ?_
      refine vp_callSi (runS_r (As := [.int v2, .int 0, .int 50]) (rest := []) S (q_within l D cI cB cZ v2 0 50) kS_RX11_80 hK hP [] rfl ⟨Nat.le_of_ble_eq_true rfl, Nat.le_of_ble_eq_true rfl⟩ ⟨Nat.le_of_ble_eq_true rfl, Nat.le_of_ble_eq_true rfl⟩ rfl hl.1 rfl (Nat.le_of_ble_eq_true rfl) dX11_kitchen_36) (fun r_5 h_6 => ?_)
      rcases h_6 with ⟨rfl, h_6⟩ | ⟨rfl, h_6⟩
      ·
        have h_6 : 0 ≤ v2.toInt ∧ v2.toInt ≤ 50 := h_6
        refine lv_if_eq (tgt := 67) hx hb dX11_kitchen_39 (by decide) (fun h => absurd h (by decide)) (fun _ => ?_)
        refine lv_iload hx hb dX11_kitchen_42 (lv_at hl 5 rfl) ?_
        refine lv_bipush (v := 20) hx hb dX11_kitchen_44 (by decide) ?_
        refine lv_sipush (v := 400) hx hb dX11_kitchen_46 (by decide) ?_
        refine vp_callSi (runS_r (As := [.int v3, .int 20, .int 400]) (rest := []) S (q_within l D cI cB cZ v3 20 400) kS_RX11_80 hK hP [] rfl ⟨Nat.le_of_ble_eq_true rfl, Nat.le_of_ble_eq_true rfl⟩ ⟨Nat.le_of_ble_eq_true rfl, Nat.le_of_ble_eq_true rfl⟩ rfl hl.1 rfl (Nat.le_of_ble_eq_true rfl) dX11_kitchen_49) (fun r_7 h_8 => ?_)
        rcases h_8 with ⟨rfl, h_8⟩ | ⟨rfl, h_8⟩
        ·
          have h_8 : 20 ≤ v3.toInt ∧ v3.toInt ≤ 400 := h_8
          refine lv_if_eq (tgt := 67) hx hb dX11_kitchen_52 (by decide) (fun h => absurd h (by decide)) (fun _ => ?_)
          refine lv_aload_n hx hb dX11_kitchen_55 rfl (lv_at hl 1 rfl) ?_
          refine gf_RX11_61 S hK hP 0 rfl (v := .ref (g 10)) rfl dX11_kitchen_56 ?_
          refine vp_callSi (runV_r (As := []) (rest := []) S (q_size l D cI cB cZ (g 10) zz 0 0) kV_RX11_84 hK hP [1] rfl 1 rfl rfl rfl ⟨Nat.le_of_ble_eq_true rfl, Nat.le_of_ble_eq_true rfl⟩ ⟨Nat.le_of_ble_eq_true rfl, Nat.le_of_ble_eq_true rfl⟩ rfl hl.1 rfl (Nat.le_of_ble_eq_true rfl) dX11_kitchen_59) (fun r_9 h_10 => ?_)
          subst h_10
          refine lv_bipush (v := 10) hx hb dX11_kitchen_62 (by decide) ?_
          refine lv_icmp_lt (tgt := 69) hx hb dX11_kitchen_64 (by decide) (fun _ => ?_) (fun h => absurd h (by decide))
          refine lv_aload_n hx hb dX11_kitchen_69 rfl (lv_at hl 1 rfl) ?_
          refine gf_RX11_61 S hK hP 0 rfl (v := .ref (g 10)) rfl dX11_kitchen_70 ?_
          refine va_new (ci := 2) (fs := [.int 0, .int 0, .int 0, .int 0, .int 0, .int 0, .int 0, .int 0, .int 0, .int 0, .null]) (C := RX1) (T := TX1) (N := 11) hx hb S.2.2.2.2 hin_RX1 tyX1 tyX1_ok hown (S.2.2.2.2 _ (wT_tab 303 rfl rfl)) (S.2.2.2.2 _ (wT_tab 304 rfl rfl)) (S.2.2.2.2 _ (wT_tab 14 rfl rfl)) hK.1 hP hD hS hA rfl (by decide +kernel) (Nat.le_of_ble_eq_true rfl) (Nat.le_of_ble_eq_true rfl) dX11_kitchen_73 (fun q73 H hP hD hS => ?_)
          have hP : va_P D vwCl [((g 0), .inr (12, oX g)), ((g 10), .inr (0, [.int 0, .ref zz, .int 0])), (q73, .inr (2, [.int 0, .int 0, .int 0, .int 0, .int 0, .int 0, .int 0, .int 0, .int 0, .int 0, .null]))] H := hP
          have hD : va_D A [((g 0), .inr (12, oX g)), ((g 10), .inr (0, [.int 0, .ref zz, .int 0])), (q73, .inr (2, [.int 0, .int 0, .int 0, .int 0, .int 0, .int 0, .int 0, .int 0, .int 0, .int 0, .null]))] := hD
          refine lv_dup hx hb dX11_kitchen_76 rfl ?_
          refine lv_iload_n hx hb dX11_kitchen_77 rfl (lv_at hl 2 rfl) ?_
          refine lv_iload_n hx hb dX11_kitchen_78 rfl (lv_at hl 3 rfl) ?_
          refine lv_iload_n hx hb dX11_kitchen_79 rfl (lv_at hl 4 rfl) ?_
          refine lv_iload hx hb dX11_kitchen_80 (lv_at hl 5 rfl) ?_
          have hFc := va_free (wc := [(q73, .inr (2, [.int 0, .int 0, .int 0, .int 0, .int 0, .int 0, .int 0, .int 0, .int 0, .int 0, .null]))]) hD hS hA [2] rfl
          refine va_callv (runI_w (As := [.int v0, .int v1, .int v2, .int v3]) (rest := [.ref q73, .ref (g 10)]) S (q_Kitchen l D cI cB cZ q73 v0 v1 v2 v3 H.size) kI_RX11_107 hK hP hD [2] rfl rfl (by decide) ⟨Nat.le_of_ble_eq_true rfl, Nat.le_of_ble_eq_true rfl⟩ ⟨Nat.le_of_ble_eq_true rfl, Nat.le_of_ble_eq_true rfl⟩ rfl hl.1 rfl (Nat.le_of_ble_eq_true rfl) dX11_kitchen_82) hS (fun q _ h => hFc q h) hFc (fun u_12 t H1 locs ht hvm h_13 hB hz1 hk1 hS => ?_)
          obtain ⟨hP1, hD1⟩ := hB
          rw [ht] at hP1
          obtain ⟨hP, hD⟩ := va_join (wr := [((g 0), .inr (12, oX g)), ((g 10), .inr (0, [.int 0, .ref zz, .int 0]))]) (w1 := [(q73, .inr (2, [.int v0, .int v1, .int v2, .int v3, .int 0, .int 0, .int 0, .int 0, .int 0, .int 0, .ref u_12]))]) hP hD [2] [0, 1] rfl rfl (by decide) (by decide) hk1 hFc hP1 hD1
          generalize H1 = H at hP hS ⊢
          have hP : va_P D vwCl [((g 0), .inr (12, oX g)), ((g 10), .inr (0, [.int 0, .ref zz, .int 0])), (q73, .inr (2, [.int v0, .int v1, .int v2, .int v3, .int 0, .int 0, .int 0, .int 0, .int 0, .int 0, .ref u_12]))] H := hP
          have hD : va_D A [((g 0), .inr (12, oX g)), ((g 10), .inr (0, [.int 0, .ref zz, .int 0])), (q73, .inr (2, [.int v0, .int v1, .int v2, .int v3, .int 0, .int 0, .int 0, .int 0, .int 0, .int 0, .ref u_12]))] := hD
          have hFc := va_free (wc := [((g 10), .inr (0, [.int 0, .ref zz, .int 0])), (q73, .inr (2, [.int v0, .int v1, .int v2, .int v3, .int 0, .int 0, .int 0, .int 0, .int 0, .int 0, .ref u_12]))]) hD hS hA [1, 2] rfl
          refine va_calli (runV_x (As := [.ref q73]) (rest := []) S (q_add1K l D cI cB cZ zz qq vv bt (g 10) q73 v0 v1 v2 v3 u_12 H.size) kV_RX11_110 hK hXS hS hFc hP hD [1, 2] rfl rfl (by decide) 1 rfl rfl rfl ⟨Nat.le_of_ble_eq_true rfl, Nat.le_of_ble_eq_true rfl⟩ ⟨Nat.le_of_ble_eq_true rfl, Nat.le_of_ble_eq_true rfl⟩ rfl hl.1 rfl (Nat.le_of_ble_eq_true rfl) dX11_kitchen_85) hS (fun q _ h => hFc q h) hFc (fun r_14 u_15 t H1 locs ht hvm h_16 hB hz1 hk1 hS => ?_)
          obtain ⟨hP1, hD1⟩ := hB
          rw [ht] at hP1
          obtain ⟨hP, hD⟩ := va_join (wr := [((g 0), .inr (12, oX g))]) (w1 := [((g 10), .inr (0, [.int 1, .ref u_15, .int 1]))]) hP hD [1, 2] [0] rfl rfl (by decide) (by decide) hk1 hFc hP1 hD1
          generalize H1 = H at hP hS ⊢
          have hP : va_P D vwCl [((g 0), .inr (12, oX g)), ((g 10), .inr (0, [.int 1, .ref u_15, .int 1]))] H := hP
          have hD : va_D A [((g 0), .inr (12, oX g)), ((g 10), .inr (0, [.int 1, .ref u_15, .int 1]))] := hD
          subst h_16
          refine lv_pop hx hb dX11_kitchen_88 rfl ?_
          refine lv_aload_n hx hb dX11_kitchen_89 rfl (lv_at hl 1 rfl) ?_
          refine gf_RX11_61 S hK hP 0 rfl (v := .ref (g 10)) rfl dX11_kitchen_90 ?_
          refine vp_callSi (runV_r (As := []) (rest := []) S (q_size l D cI cB cZ (g 10) u_15 1 1) kV_RX11_84 hK hP [1] rfl 1 rfl rfl rfl ⟨Nat.le_of_ble_eq_true rfl, Nat.le_of_ble_eq_true rfl⟩ ⟨Nat.le_of_ble_eq_true rfl, Nat.le_of_ble_eq_true rfl⟩ rfl hl.1 rfl (Nat.le_of_ble_eq_true rfl) dX11_kitchen_93) (fun r_17 h_18 => ?_)
          subst h_18
          refine lv_iconst (v := 1) hx hb dX11_kitchen_96 (by decide) ?_
          refine lv_isub hx hb dX11_kitchen_97 ?_
          refine lv_topi (fun y_19 ey_19 => ?_)
          obtain rfl : y_19 = 0 := ey_19.trans (by decide)
          exact W.iret (v := 0) hx hb hr (fun t ht hW => ⟨⟨0, (), rfl, (if_pos (by omega)).symm, trivial⟩, hS.F ht⟩) hS.2.2 dX11_kitchen_98
        ·
          have h_8 : ¬ (20 ≤ v3.toInt ∧ v3.toInt ≤ 400) := h_8
          refine lv_if_eq (tgt := 67) hx hb dX11_kitchen_52 (by decide) (fun _ => ?_) (fun h => absurd h (by decide))
          refine lv_iconst (v := (-1)) hx hb dX11_kitchen_67 (by decide) ?_
          refine W.widen (k := 8) (n := 98) (Nat.le_of_ble_eq_true rfl) (Nat.le_of_ble_eq_true rfl) ?_
          exact W.iret (v := (-1)) hx hb hr (fun t ht hW => ⟨⟨(-1), (), rfl, (if_neg (by omega)).symm, trivial⟩, hS.F ht⟩) hS.2.2 dX11_kitchen_68
      ·
        have h_6 : ¬ (0 ≤ v2.toInt ∧ v2.toInt ≤ 50) := h_6
        refine lv_if_eq (tgt := 67) hx hb dX11_kitchen_39 (by decide) (fun _ => ?_) (fun h => absurd h (by decide))
        refine lv_iconst (v := (-1)) hx hb dX11_kitchen_67 (by decide) ?_
        refine W.widen (k := 8) (n := 98) (Nat.le_of_ble_eq_true rfl) (Nat.le_of_ble_eq_true rfl) ?_
        exact W.iret (v := (-1)) hx hb hr (fun t ht hW => ⟨⟨(-1), (), rfl, (if_neg (by omega)).symm, trivial⟩, hS.F ht⟩) hS.2.2 dX11_kitchen_68
    ·
      have h_4 : ¬ (0 ≤ v1.toInt ∧ v1.toInt ≤ 99) := h_4
      refine lv_if_eq (tgt := 24) hx hb dX11_kitchen_17 (by decide) (fun _ => ?_) (fun h => absurd h (by decide))
      refine lv_iconst (v := 0) hx hb dX11_kitchen_24 (by decide) ?_
      refine lv_istore (lv' := [(5, .int 0), (0, .ref (g 0)), (1, .int v0), (2, .int v1), (3, .int v2), (4, .int v3)]) hx hb dX11_kitchen_25 hl (by decide) rfl (fun ls hl => ?_)
      refine lv_iload hx hb dX11_kitchen_27 (lv_at hl 0 rfl) ?_
      refine lv_if_eq (tgt := 67) hx hb dX11_kitchen_29 (by decide) (fun _ => ?_) (fun h => absurd h (by decide))
      refine lv_iconst (v := (-1)) hx hb dX11_kitchen_67 (by decide) ?_
      refine W.widen (k := 8) (n := 98) (Nat.le_of_ble_eq_true rfl) (Nat.le_of_ble_eq_true rfl) ?_
      exact W.iret (v := (-1)) hx hb hr (fun t ht hW => ⟨⟨(-1), (), rfl, (if_neg (by omega)).symm, trivial⟩, hS.F ht⟩) hS.2.2 dX11_kitchen_68
  ·
    have h_2 : ¬ (0 ≤ v0.toInt ∧ v0.toInt ≤ 99) := h_2
    refine lv_if_eq (tgt := 24) hx hb dX11_kitchen_7 (by decide) (fun _ => ?_) (fun h => absurd h (by decide))
    refine lv_iconst (v := 0) hx hb dX11_kitchen_24 (by decide) ?_
    refine lv_istore (lv' := [(5, .int 0), (0, .ref (g 0)), (1, .int v0), (2, .int v1), (3, .int v2), (4, .int v3)]) hx hb dX11_kitchen_25 hl (by decide) rfl (fun ls hl => ?_)
    refine lv_iload hx hb dX11_kitchen_27 (lv_at hl 0 rfl) ?_
    refine lv_if_eq (tgt := 67) hx hb dX11_kitchen_29 (by decide) (fun _ => ?_) (fun h => absurd h (by decide))
    refine lv_iconst (v := (-1)) hx hb dX11_kitchen_67 (by decide) ?_
    refine W.widen (k := 8) (n := 98) (Nat.le_of_ble_eq_true rfl) (Nat.le_of_ble_eq_true rfl) ?_
    exact W.iret (v := (-1)) hx hb hr (fun t ht hW => ⟨⟨(-1), (), rfl, (if_neg (by omega)).symm, trivial⟩, hS.F ht⟩) hS.2.2 dX11_kitchen_68
set_option maxRecDepth 100000 in
set_option maxHeartbeats 4000000 in
theorem q_X_sewer (l : Launch) (D : va_G) (cI cB cZ : ClassId) (zz qq vv : Nat) (bt : Nat → Int32) (g : Nat → Nat) (v0 v1 : Int32) (sz : Nat) : Met l yX11_sewer (CWS yX11_sewer cX11_sewer 3 (some .int)) (RM 5 2 13) (PBx [.ref (g 0), .int v0, .int v1] D cI cB cZ zz qq vv bt [((g 0), .inr (12, oX g)), ((g 14), .inr (0, [.int 0, .ref zz, .int 0]))] sz) (va_Qi (fun (r : Int32) (_ : Unit) => r = (if (0 ≤ v0.toInt ∧ v0.toInt ≤ 99) ∧ 0 ≤ v1.toInt ∧ v1.toInt ≤ 99 then (0 : Int32) else -1)) (fun (_ : Unit) (_ : State) => True) (va_A [((g 0), .inr (12, oX g)), ((g 14), .inr (0, [.int 0, .ref zz, .int 0]))] sz)) 2 13 (va_A [((g 0), .inr (12, oX g)), ((g 14), .inr (0, [.int 0, .ref zz, .int 0]))] sz) := by
  refine Met.ofW (cc := cX11_sewer) (maxL := 3) (ret := (some .int)) (by decide) rfl ?_
  intro p e s m args below meth c s₁ B hml hv
  obtain ⟨rfl, hsz, hP, hK, hD0, hXS⟩ := hv
  have hx := B.exec
  have hb := B.bytes
  have hr := B.returns
  have hts := atoms_spec (ws := (CWS yX11_sewer cX11_sewer 3 (some .int))) B.pre
  have hown : s.vm.findClass RX11 = some m.cls := findClass_of_methodNamed B.named
  have hlocks := B.notSynchronized
  have S : SF p m c cX11_sewer 3 s ([.ref (g 0), .int v0, .int v1]).toArray RX11 := ⟨hx, hb, hml, hown, fun w h => hts w (List.mem_cons_of_mem _ h)⟩
  subst hsz
  have hD := hD0.self (sz := s.heap.size)
  generalize hAe : va_A [((g 0), .inr (12, oX g)), ((g 14), .inr (0, [.int 0, .ref zz, .int 0]))] s.heap.size = A at hD hXS ⊢
  have hA : ∀ q : Nat, s.heap.size ≤ q → A q := fun q h => by rw [← hAe]; exact Or.inr h
  have hS : va_S A s.heap s.heap [] := va_S.rf
  have hP : va_P D vwCl [((g 0), .inr (12, oX g)), ((g 14), .inr (0, [.int 0, .ref zz, .int 0]))] s.heap := hP
  have hD : va_D A [((g 0), .inr (12, oX g)), ((g 14), .inr (0, [.int 0, .ref zz, .int 0]))] := hD
  have hl := lv_entry ([.ref (g 0), .int v0, .int v1]) (n := 3) (Nat.le_of_ble_eq_true rfl)
  rw [lg_entry_eq]
  generalize (lg_sl ([.ref (g 0), .int v0, .int v1]) ++ List.replicate (3 - (lg_sl ([.ref (g 0), .int v0, .int v1])).length) Slot.unset).toArray = ls at hl ⊢
  have hl : lv_has ls 3 [(0, .ref (g 0)), (1, .int v0), (2, .int v1)] := hl
  refine lv_iload_n hx hb dX11_sewer_0 rfl (lv_at hl 1 rfl) ?_
  refine lv_iconst (v := 0) hx hb dX11_sewer_1 (by decide) ?_
  refine lv_bipush (v := 99) hx hb dX11_sewer_2 (by decide) ?_
  refine vp_callSi (runS_r (As := [.int v0, .int 0, .int 99]) (rest := []) S (q_within l D cI cB cZ v0 0 99) kS_RX11_80 hK hP [] rfl ⟨Nat.le_of_ble_eq_true rfl, Nat.le_of_ble_eq_true rfl⟩ ⟨Nat.le_of_ble_eq_true rfl, Nat.le_of_ble_eq_true rfl⟩ rfl hl.1 rfl (Nat.le_of_ble_eq_true rfl) dX11_sewer_4) (fun r_1 h_2 => ?_)
  rcases h_2 with ⟨rfl, h_2⟩ | ⟨rfl, h_2⟩
  ·
    have h_2 : 0 ≤ v0.toInt ∧ v0.toInt ≤ 99 := h_2
    refine lv_if_eq (tgt := 32) hx hb dX11_sewer_7 (by decide) (fun h => absurd h (by decide)) (fun _ => ?_)
    refine lv_iload_n hx hb dX11_sewer_10 rfl (lv_at hl 2 rfl) ?_
    refine lv_iconst (v := 0) hx hb dX11_sewer_11 (by decide) ?_
    refine lv_bipush (v := 99) hx hb dX11_sewer_12 (by decide) ?_
    refine vp_callSi (runS_r (As := [.int v1, .int 0, .int 99]) (rest := []) S (q_within l D cI cB cZ v1 0 99) kS_RX11_80 hK hP [] rfl ⟨Nat.le_of_ble_eq_true rfl, Nat.le_of_ble_eq_true rfl⟩ ⟨Nat.le_of_ble_eq_true rfl, Nat.le_of_ble_eq_true rfl⟩ rfl hl.1 rfl (Nat.le_of_ble_eq_true rfl) dX11_sewer_14) (fun r_3 h_4 => ?_)
    rcases h_4 with ⟨rfl, h_4⟩ | ⟨rfl, h_4⟩
    ·
      have h_4 : 0 ≤ v1.toInt ∧ v1.toInt ≤ 99 := h_4
      refine lv_if_eq (tgt := 32) hx hb dX11_sewer_17 (by decide) (fun h => absurd h (by decide)) (fun _ => ?_)
      refine lv_aload_n hx hb dX11_sewer_20 rfl (lv_at hl 0 rfl) ?_
      refine gf_RX11_74 S hK hP 0 rfl (v := .ref (g 14)) rfl dX11_sewer_21 ?_
      refine vp_callSi (runV_r (As := []) (rest := []) S (q_size l D cI cB cZ (g 14) zz 0 0) kV_RX11_84 hK hP [1] rfl 1 rfl rfl rfl ⟨Nat.le_of_ble_eq_true rfl, Nat.le_of_ble_eq_true rfl⟩ ⟨Nat.le_of_ble_eq_true rfl, Nat.le_of_ble_eq_true rfl⟩ rfl hl.1 rfl (Nat.le_of_ble_eq_true rfl) dX11_sewer_24) (fun r_5 h_6 => ?_)
      subst h_6
      refine lv_bipush (v := 10) hx hb dX11_sewer_27 (by decide) ?_
      refine lv_icmp_lt (tgt := 34) hx hb dX11_sewer_29 (by decide) (fun _ => ?_) (fun h => absurd h (by decide))
      refine lv_aload_n hx hb dX11_sewer_34 rfl (lv_at hl 0 rfl) ?_
      refine gf_RX11_74 S hK hP 0 rfl (v := .ref (g 14)) rfl dX11_sewer_35 ?_
      refine va_new (ci := 7) (fs := [.int 0, .int 0, .int 0]) (C := RX6) (T := TX6) (N := 3) hx hb S.2.2.2.2 hin_RX6 tyX6 tyX6_ok hown (S.2.2.2.2 _ (wT_tab 1169 rfl rfl)) (S.2.2.2.2 _ (wT_tab 1170 rfl rfl)) (S.2.2.2.2 _ (wT_tab 25 rfl rfl)) hK.1 hP hD hS hA rfl (by decide +kernel) (Nat.le_of_ble_eq_true rfl) (Nat.le_of_ble_eq_true rfl) dX11_sewer_38 (fun q38 H hP hD hS => ?_)
      have hP : va_P D vwCl [((g 0), .inr (12, oX g)), ((g 14), .inr (0, [.int 0, .ref zz, .int 0])), (q38, .inr (7, [.int 0, .int 0, .int 0]))] H := hP
      have hD : va_D A [((g 0), .inr (12, oX g)), ((g 14), .inr (0, [.int 0, .ref zz, .int 0])), (q38, .inr (7, [.int 0, .int 0, .int 0]))] := hD
      refine lv_dup hx hb dX11_sewer_41 rfl ?_
      refine lv_iload_n hx hb dX11_sewer_42 rfl (lv_at hl 1 rfl) ?_
      refine lv_iload_n hx hb dX11_sewer_43 rfl (lv_at hl 2 rfl) ?_
      have hFc := va_free (wc := [(q38, .inr (7, [.int 0, .int 0, .int 0]))]) hD hS hA [2] rfl
      refine va_callv (runI_w (As := [.int v0, .int v1]) (rest := [.ref q38, .ref (g 14)]) S (q_Sewer l D cI cB cZ q38 v0 v1 H.size) kI_RX11_475 hK hP hD [2] rfl rfl (by decide) ⟨Nat.le_of_ble_eq_true rfl, Nat.le_of_ble_eq_true rfl⟩ ⟨Nat.le_of_ble_eq_true rfl, Nat.le_of_ble_eq_true rfl⟩ rfl hl.1 rfl (Nat.le_of_ble_eq_true rfl) dX11_sewer_44) hS (fun q _ h => hFc q h) hFc (fun u_8 t H1 locs ht hvm h_9 hB hz1 hk1 hS => ?_)
      obtain ⟨hP1, hD1⟩ := hB
      rw [ht] at hP1
      obtain ⟨hP, hD⟩ := va_join (wr := [((g 0), .inr (12, oX g)), ((g 14), .inr (0, [.int 0, .ref zz, .int 0]))]) (w1 := [(q38, .inr (7, [.int v0, .int v1, .int 0]))]) hP hD [2] [0, 1] rfl rfl (by decide) (by decide) hk1 hFc hP1 hD1
      generalize H1 = H at hP hS ⊢
      have hP : va_P D vwCl [((g 0), .inr (12, oX g)), ((g 14), .inr (0, [.int 0, .ref zz, .int 0])), (q38, .inr (7, [.int v0, .int v1, .int 0]))] H := hP
      have hD : va_D A [((g 0), .inr (12, oX g)), ((g 14), .inr (0, [.int 0, .ref zz, .int 0])), (q38, .inr (7, [.int v0, .int v1, .int 0]))] := hD
      have hFc := va_free (wc := [((g 14), .inr (0, [.int 0, .ref zz, .int 0])), (q38, .inr (7, [.int v0, .int v1, .int 0]))]) hD hS hA [1, 2] rfl
      refine va_calli (runV_x (As := [.ref q38]) (rest := []) S (q_add1S l D cI cB cZ zz qq vv bt (g 14) q38 v0 v1 H.size) kV_RX11_110 hK hXS hS hFc hP hD [1, 2] rfl rfl (by decide) 1 rfl rfl rfl ⟨Nat.le_of_ble_eq_true rfl, Nat.le_of_ble_eq_true rfl⟩ ⟨Nat.le_of_ble_eq_true rfl, Nat.le_of_ble_eq_true rfl⟩ rfl hl.1 rfl (Nat.le_of_ble_eq_true rfl) dX11_sewer_47) hS (fun q _ h => hFc q h) hFc (fun r_10 u_11 t H1 locs ht hvm h_12 hB hz1 hk1 hS => ?_)
      obtain ⟨hP1, hD1⟩ := hB
      rw [ht] at hP1
      obtain ⟨hP, hD⟩ := va_join (wr := [((g 0), .inr (12, oX g))]) (w1 := [((g 14), .inr (0, [.int 1, .ref u_11, .int 1]))]) hP hD [1, 2] [0] rfl rfl (by decide) (by decide) hk1 hFc hP1 hD1
      generalize H1 = H at hP hS ⊢
      have hP : va_P D vwCl [((g 0), .inr (12, oX g)), ((g 14), .inr (0, [.int 1, .ref u_11, .int 1]))] H := hP
      have hD : va_D A [((g 0), .inr (12, oX g)), ((g 14), .inr (0, [.int 1, .ref u_11, .int 1]))] := hD
      subst h_12
      refine lv_pop hx hb dX11_sewer_50 rfl ?_
      refine lv_aload_n hx hb dX11_sewer_51 rfl (lv_at hl 0 rfl) ?_
      refine gf_RX11_74 S hK hP 0 rfl (v := .ref (g 14)) rfl dX11_sewer_52 ?_
      refine vp_callSi (runV_r (As := []) (rest := []) S (q_size l D cI cB cZ (g 14) u_11 1 1) kV_RX11_84 hK hP [1] rfl 1 rfl rfl rfl ⟨Nat.le_of_ble_eq_true rfl, Nat.le_of_ble_eq_true rfl⟩ ⟨Nat.le_of_ble_eq_true rfl, Nat.le_of_ble_eq_true rfl⟩ rfl hl.1 rfl (Nat.le_of_ble_eq_true rfl) dX11_sewer_55) (fun r_13 h_14 => ?_)
      subst h_14
      refine lv_iconst (v := 1) hx hb dX11_sewer_58 (by decide) ?_
      refine lv_isub hx hb dX11_sewer_59 ?_
      refine lv_topi (fun y_15 ey_15 => ?_)
      obtain rfl : y_15 = 0 := ey_15.trans (by decide)
      exact W.iret (v := 0) hx hb hr (fun t ht hW => ⟨⟨0, (), rfl, (if_pos (by omega)).symm, trivial⟩, hS.F ht⟩) hS.2.2 dX11_sewer_60
    ·
      have h_4 : ¬ (0 ≤ v1.toInt ∧ v1.toInt ≤ 99) := h_4
      refine lv_if_eq (tgt := 32) hx hb dX11_sewer_17 (by decide) (fun _ => ?_) (fun h => absurd h (by decide))
      refine lv_iconst (v := (-1)) hx hb dX11_sewer_32 (by decide) ?_
      refine W.widen (k := 2) (n := 13) (Nat.le_of_ble_eq_true rfl) (Nat.le_of_ble_eq_true rfl) ?_
      exact W.iret (v := (-1)) hx hb hr (fun t ht hW => ⟨⟨(-1), (), rfl, (if_neg (by omega)).symm, trivial⟩, hS.F ht⟩) hS.2.2 dX11_sewer_33
  ·
    have h_2 : ¬ (0 ≤ v0.toInt ∧ v0.toInt ≤ 99) := h_2
    refine lv_if_eq (tgt := 32) hx hb dX11_sewer_7 (by decide) (fun _ => ?_) (fun h => absurd h (by decide))
    refine lv_iconst (v := (-1)) hx hb dX11_sewer_32 (by decide) ?_
    refine W.widen (k := 2) (n := 13) (Nat.le_of_ble_eq_true rfl) (Nat.le_of_ble_eq_true rfl) ?_
    exact W.iret (v := (-1)) hx hb hr (fun t ht hW => ⟨⟨(-1), (), rfl, (if_neg (by omega)).symm, trivial⟩, hS.F ht⟩) hS.2.2 dX11_sewer_33
set_option maxRecDepth 100000 in
set_option maxHeartbeats 4000000 in
theorem q_X_fetch (l : Launch) (D : va_G) (cI cB cZ : ClassId) (g : Nat → Nat) (v0 v1 v2 v3 v4 v5 : Int32) : Met l yX11_fetch (CWS yX11_fetch cX11_fetch 9 (some .int)) (RM 3 0 0) (PBr [.ref (g 0), .int v0, .int v1, .int v2, .int v3, .int v4, .int v5] D cI cB cZ [((g 0), .inr (12, oX g)), ((g 10), .inr (0, [.int 0, .ref (g 50), .int 0]))]) (vp_Si (fun r => r = -1)) 0 0 (fun _ => False) := by
  refine Met.ofW (cc := cX11_fetch) (maxL := 9) (ret := (some .int)) (by decide) rfl ?_
  intro p e s m args below meth c s₁ B hml hv
  obtain ⟨rfl, hP, hK⟩ := hv
  have hx := B.exec
  have hb := B.bytes
  have hr := B.returns
  have hts := atoms_spec (ws := (CWS yX11_fetch cX11_fetch 9 (some .int))) B.pre
  have hown : s.vm.findClass RX11 = some m.cls := findClass_of_methodNamed B.named
  have hlocks := B.notSynchronized
  have S : SF p m c cX11_fetch 9 s ([.ref (g 0), .int v0, .int v1, .int v2, .int v3, .int v4, .int v5]).toArray RX11 := ⟨hx, hb, hml, hown, fun w h => hts w (List.mem_cons_of_mem _ h)⟩
  have hP : va_P D vwCl [((g 0), .inr (12, oX g)), ((g 10), .inr (0, [.int 0, .ref (g 50), .int 0]))] s.heap := hP
  have hl := lv_entry ([.ref (g 0), .int v0, .int v1, .int v2, .int v3, .int v4, .int v5]) (n := 9) (Nat.le_of_ble_eq_true rfl)
  rw [lg_entry_eq]
  generalize (lg_sl ([.ref (g 0), .int v0, .int v1, .int v2, .int v3, .int v4, .int v5]) ++ List.replicate (9 - (lg_sl ([.ref (g 0), .int v0, .int v1, .int v2, .int v3, .int v4, .int v5])).length) Slot.unset).toArray = ls at hl ⊢
  have hl : lv_has ls 9 [(0, .ref (g 0)), (1, .int v0), (2, .int v1), (3, .int v2), (4, .int v3), (5, .int v4), (6, .int v5)] := hl
  refine lv_aload_n hx hb dX11_fetch_0 rfl (lv_at hl 0 rfl) ?_
  refine lv_iload_n hx hb dX11_fetch_1 rfl (lv_at hl 1 rfl) ?_
  refine va_csq (runV_r (As := [.int v0]) (rest := []) S (q_kitchenAt l D cI cB cZ g v0) kV_RX11_114 hK hP [0, 1] rfl 0 rfl rfl rfl ⟨Nat.le_of_ble_eq_true rfl, Nat.le_of_ble_eq_true rfl⟩ ⟨Nat.le_of_ble_eq_true rfl, Nat.le_of_ble_eq_true rfl⟩ rfl hl.1 rfl (Nat.le_of_ble_eq_true rfl) dX11_fetch_2) (fun r_1 h_2 => ?_)
  subst h_2
  refine lv_astoreN (lv' := [(7, .null), (0, .ref (g 0)), (1, .int v0), (2, .int v1), (3, .int v2), (4, .int v3), (5, .int v4), (6, .int v5)]) hx hb dX11_fetch_5 hl (by decide) rfl (fun ls hl => ?_)
  refine lv_aloadN hx hb dX11_fetch_7 (lv_at hl 0 rfl) ?_
  refine lv_ifnullN (tgt := 87) hx hb dX11_fetch_9 (by decide) ?_
  refine lv_iconst (v := (-1)) hx hb dX11_fetch_87 (by decide) ?_
  exact W.iret (v := (-1)) hx hb hr (fun t ht hW => ⟨(-1), rfl, rfl, ht⟩) (fun _ h => absurd h List.not_mem_nil) dX11_fetch_88
