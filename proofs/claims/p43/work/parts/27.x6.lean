set_option maxRecDepth 100000 in
theorem pf_RJx4a65c_9 {p : Program} {l : Launch} {e : Env} {R : Room} {s : State} {m : MethodId} {args : Array Value} {below : List Frame} {meth : Method} {c : Code} {H : Heap} {locs : List Loc} {cells slots : Nat} {Q : State → Prop} {cc : ByteArray} {nL pc : Nat} {D : va_G} {cI cB cZ : ClassId} {ws : va_W} {rest : List Value} {ls : Array Slot} {a : Nat} {fs : List Value} {v : Value} {A : Nat → Prop} {H0 : Heap} (S : SF p m c cc nL s args RJx4a65c) (hK : KK D cI cB cZ s) (hP : va_P D vwCl ws H) (hD : va_D A ws) (hS : va_S A H0 H locs) (q0 : Nat) (he : ws[q0]? = some (a, .inr (0, fs))) (hl : 1 < fs.length) (hn : narrow (tyJx4a65c 1) v = v) (hfit : fits (tyJx4a65c 1) v = true) (hdg : decode cc pc = .ok (.putfield 9, 3)) (kk : ∀ (H1 : Heap) (locs1 : List Loc), va_P D vwCl (ws.set q0 (a, .inr (0, fs.set 1 v))) H1 → va_D A (ws.set q0 (a, .inr (0, fs.set 1 v))) → va_S A H0 H1 locs1 → W p l e R s m args below meth c H1 locs1 cells slots Q (F0 m (pc + 3) ls rest)) : W p l e R s m args below meth c H locs cells slots Q (F0 m pc ls (v :: .ref a :: rest)) :=
  va_put (C := RJx4a65c) (T := TJx4a65c) (N := 3) S.1 S.2.1 S.2.2.2.2 hin_RJx4a65c tyJx4a65c tyJx4a65c_ok nmJx4a65c S.2.2.2.1 hK.1 hP hD hS q0 he rfl 1 (by decide) (S.2.2.2.2 _ (wk1_18 8 rfl rfl)) (fun _ h9 => h9) rfl (tyJx4a65c_ok 1 (by decide)) hn hfit hl hdg kk
set_option maxRecDepth 100000 in
theorem kV_RJx4a65c_69 : CalV RJx4a65c 69 yJx4a65c_grow_92f84 cJx4a65c_grow_92f84 4 (some (.array (.object "java/lang/Object"))) 1 := ⟨⟨wk2_10 6 rfl rfl, wk2_10 8 rfl rfl, wT_sel 2 _ rfl rfl rfl, wk1_1 0 rfl rfl, wk2_10 9 rfl rfl⟩, ⟨nmh_21.1, nmh_21.2, pd_16⟩⟩
set_option maxRecDepth 100000 in
theorem pf_RJx4a65c_48 {p : Program} {l : Launch} {e : Env} {R : Room} {s : State} {m : MethodId} {args : Array Value} {below : List Frame} {meth : Method} {c : Code} {H : Heap} {locs : List Loc} {cells slots : Nat} {Q : State → Prop} {cc : ByteArray} {nL pc : Nat} {D : va_G} {cI cB cZ : ClassId} {ws : va_W} {rest : List Value} {ls : Array Slot} {a : Nat} {fs : List Value} {v : Value} {A : Nat → Prop} {H0 : Heap} (S : SF p m c cc nL s args RJx4a65c) (hK : KK D cI cB cZ s) (hP : va_P D vwCl ws H) (hD : va_D A ws) (hS : va_S A H0 H locs) (q0 : Nat) (he : ws[q0]? = some (a, .inr (0, fs))) (hl : 2 < fs.length) (hn : narrow (tyJx4a65c 2) v = v) (hfit : fits (tyJx4a65c 2) v = true) (hdg : decode cc pc = .ok (.putfield 48, 3)) (kk : ∀ (H1 : Heap) (locs1 : List Loc), va_P D vwCl (ws.set q0 (a, .inr (0, fs.set 2 v))) H1 → va_D A (ws.set q0 (a, .inr (0, fs.set 2 v))) → va_S A H0 H1 locs1 → W p l e R s m args below meth c H1 locs1 cells slots Q (F0 m (pc + 3) ls rest)) : W p l e R s m args below meth c H locs cells slots Q (F0 m pc ls (v :: .ref a :: rest)) :=
  va_put (C := RJx4a65c) (T := TJx4a65c) (N := 3) S.1 S.2.1 S.2.2.2.2 hin_RJx4a65c tyJx4a65c tyJx4a65c_ok nmJx4a65c S.2.2.2.1 hK.1 hP hD hS q0 he rfl 2 (by decide) (S.2.2.2.2 _ (wk1_18 9 rfl rfl)) (fun _ h9 => h9) rfl (tyJx4a65c_ok 2 (by decide)) hn hfit hl hdg kk
set_option maxRecDepth 100000 in
theorem gf_RJx4a65c_63 {p : Program} {l : Launch} {e : Env} {R : Room} {s : State} {m : MethodId} {args : Array Value} {below : List Frame} {meth : Method} {c : Code} {H : Heap} {locs : List Loc} {cells slots : Nat} {Q : State → Prop} {cc : ByteArray} {nL pc : Nat} {D : va_G} {cI cB cZ : ClassId} {ws : va_W} {rest : List Value} {ls : Array Slot} {a : Nat} {fs : List Value} {v : Value} (S : SF p m c cc nL s args RJx4a65c) (hK : KK D cI cB cZ s) (hP : va_P D vwCl ws H) (q0 : Nat) (he : ws[q0]? = some (a, .inr (0, fs))) (hv : fs[0]? = some v) (hdg : decode cc pc = .ok (.getfield 63, 3)) (kk : W p l e R s m args below meth c H locs cells slots Q (F0 m (pc + 3) ls (v :: rest))) : W p l e R s m args below meth c H locs cells slots Q (F0 m pc ls (.ref a :: rest)) :=
  va_get (C := RJx4a65c) (T := TJx4a65c) (N := 3) S.1 S.2.1 S.2.2.2.2 hin_RJx4a65c S.2.2.2.1 hK.1 hP q0 he rfl 0 (by decide) (S.2.2.2.2 _ (wk1_18 11 rfl rfl)) (fun x9 h9 => u_same (S.2.2.2.2 _ (wk1_19 0 rfl rfl)) x9 h9) hv hdg kk
set_option maxRecDepth 100000 in
theorem pf_RJx4a65c_63 {p : Program} {l : Launch} {e : Env} {R : Room} {s : State} {m : MethodId} {args : Array Value} {below : List Frame} {meth : Method} {c : Code} {H : Heap} {locs : List Loc} {cells slots : Nat} {Q : State → Prop} {cc : ByteArray} {nL pc : Nat} {D : va_G} {cI cB cZ : ClassId} {ws : va_W} {rest : List Value} {ls : Array Slot} {a : Nat} {fs : List Value} {v : Value} {A : Nat → Prop} {H0 : Heap} (S : SF p m c cc nL s args RJx4a65c) (hK : KK D cI cB cZ s) (hP : va_P D vwCl ws H) (hD : va_D A ws) (hS : va_S A H0 H locs) (q0 : Nat) (he : ws[q0]? = some (a, .inr (0, fs))) (hl : 0 < fs.length) (hn : narrow (tyJx4a65c 0) v = v) (hfit : fits (tyJx4a65c 0) v = true) (hdg : decode cc pc = .ok (.putfield 63, 3)) (kk : ∀ (H1 : Heap) (locs1 : List Loc), va_P D vwCl (ws.set q0 (a, .inr (0, fs.set 0 v))) H1 → va_D A (ws.set q0 (a, .inr (0, fs.set 0 v))) → va_S A H0 H1 locs1 → W p l e R s m args below meth c H1 locs1 cells slots Q (F0 m (pc + 3) ls rest)) : W p l e R s m args below meth c H locs cells slots Q (F0 m pc ls (v :: .ref a :: rest)) :=
  va_put (C := RJx4a65c) (T := TJx4a65c) (N := 3) S.1 S.2.1 S.2.2.2.2 hin_RJx4a65c tyJx4a65c tyJx4a65c_ok nmJx4a65c S.2.2.2.1 hK.1 hP hD hS q0 he rfl 0 (by decide) (S.2.2.2.2 _ (wk1_18 11 rfl rfl)) (fun x9 h9 => u_same (S.2.2.2.2 _ (wk1_19 0 rfl rfl)) x9 h9) rfl (tyJx4a65c_ok 0 (by decide)) hn hfit hl hdg kk
set_option maxRecDepth 100000 in
theorem kV_RJx4a65c_131 : CalV RJx4a65c 131 yJx4a65c_add_72be8 cJx4a65c_add_72be8 4 none 3 := ⟨⟨wk2_9 10 rfl rfl, wk2_10 0 rfl rfl, wT_sel 0 _ rfl rfl rfl, wk1_1 0 rfl rfl, wk2_10 1 rfl rfl⟩, ⟨nmh_21.1, nmh_21.2, pd_58⟩⟩
set_option maxRecDepth 100000 in
theorem kV_RJx4a65c_129 : CalV RJx4a65c 129 yJx4a65c_grow_d5877 cJx4a65c_grow_d5877 1 (some (.array (.object "java/lang/Object"))) 0 := ⟨⟨wk2_10 2 rfl rfl, wk2_10 4 rfl rfl, wT_sel 1 _ rfl rfl rfl, wk1_1 0 rfl rfl, wk2_10 5 rfl rfl⟩, ⟨nmh_21.1, nmh_21.2, pd_4⟩⟩
set_option maxRecDepth 100000 in
theorem pf_RX6_7 {p : Program} {l : Launch} {e : Env} {R : Room} {s : State} {m : MethodId} {args : Array Value} {below : List Frame} {meth : Method} {c : Code} {H : Heap} {locs : List Loc} {cells slots : Nat} {Q : State → Prop} {cc : ByteArray} {nL pc : Nat} {D : va_G} {cI cB cZ : ClassId} {ws : va_W} {rest : List Value} {ls : Array Slot} {a : Nat} {fs : List Value} {v : Value} {A : Nat → Prop} {H0 : Heap} (S : SF p m c cc nL s args RX6) (hin : meth.name = "<init>") (hK : KK D cI cB cZ s) (hP : va_P D vwCl ws H) (hD : va_D A ws) (hS : va_S A H0 H locs) (q0 : Nat) (he : ws[q0]? = some (a, .inr (7, fs))) (hl : 0 < fs.length) (hn : narrow (tyX6 0) v = v) (hfit : fits (tyX6 0) v = true) (hdg : decode cc pc = .ok (.putfield 7, 3)) (kk : ∀ (H1 : Heap) (locs1 : List Loc), va_P D vwCl (ws.set q0 (a, .inr (7, fs.set 0 v))) H1 → va_D A (ws.set q0 (a, .inr (7, fs.set 0 v))) → va_S A H0 H1 locs1 → W p l e R s m args below meth c H1 locs1 cells slots Q (F0 m (pc + 3) ls rest)) : W p l e R s m args below meth c H locs cells slots Q (F0 m pc ls (v :: .ref a :: rest)) :=
  va_putF (C := RX6) (T := TX6) (N := 3) S.1 S.2.1 S.2.2.2.2 hin_RX6 tyX6 tyX6_ok nmX6 S.2.2.2.1 hK.1 hP hD hS q0 he rfl 0 (by decide) (S.2.2.2.2 _ (wk5_17 11 rfl rfl)) (fun _ h9 => h9) rfl hin rfl (tyX6_ok 0 (by decide)) hn hfit hl hdg kk
set_option maxRecDepth 100000 in
theorem pf_RX6_13 {p : Program} {l : Launch} {e : Env} {R : Room} {s : State} {m : MethodId} {args : Array Value} {below : List Frame} {meth : Method} {c : Code} {H : Heap} {locs : List Loc} {cells slots : Nat} {Q : State → Prop} {cc : ByteArray} {nL pc : Nat} {D : va_G} {cI cB cZ : ClassId} {ws : va_W} {rest : List Value} {ls : Array Slot} {a : Nat} {fs : List Value} {v : Value} {A : Nat → Prop} {H0 : Heap} (S : SF p m c cc nL s args RX6) (hin : meth.name = "<init>") (hK : KK D cI cB cZ s) (hP : va_P D vwCl ws H) (hD : va_D A ws) (hS : va_S A H0 H locs) (q0 : Nat) (he : ws[q0]? = some (a, .inr (7, fs))) (hl : 1 < fs.length) (hn : narrow (tyX6 1) v = v) (hfit : fits (tyX6 1) v = true) (hdg : decode cc pc = .ok (.putfield 13, 3)) (kk : ∀ (H1 : Heap) (locs1 : List Loc), va_P D vwCl (ws.set q0 (a, .inr (7, fs.set 1 v))) H1 → va_D A (ws.set q0 (a, .inr (7, fs.set 1 v))) → va_S A H0 H1 locs1 → W p l e R s m args below meth c H1 locs1 cells slots Q (F0 m (pc + 3) ls rest)) : W p l e R s m args below meth c H locs cells slots Q (F0 m pc ls (v :: .ref a :: rest)) :=
  va_putF (C := RX6) (T := TX6) (N := 3) S.1 S.2.1 S.2.2.2.2 hin_RX6 tyX6 tyX6_ok nmX6 S.2.2.2.1 hK.1 hP hD hS q0 he rfl 1 (by decide) (S.2.2.2.2 _ (wk5_18 1 rfl rfl)) (fun _ h9 => h9) rfl hin rfl (tyX6_ok 1 (by decide)) hn hfit hl hdg kk
set_option maxRecDepth 100000 in
theorem pf_RX3_7 {p : Program} {l : Launch} {e : Env} {R : Room} {s : State} {m : MethodId} {args : Array Value} {below : List Frame} {meth : Method} {c : Code} {H : Heap} {locs : List Loc} {cells slots : Nat} {Q : State → Prop} {cc : ByteArray} {nL pc : Nat} {D : va_G} {cI cB cZ : ClassId} {ws : va_W} {rest : List Value} {ls : Array Slot} {a : Nat} {fs : List Value} {v : Value} {A : Nat → Prop} {H0 : Heap} (S : SF p m c cc nL s args RX3) (hin : meth.name = "<init>") (hK : KK D cI cB cZ s) (hP : va_P D vwCl ws H) (hD : va_D A ws) (hS : va_S A H0 H locs) (q0 : Nat) (he : ws[q0]? = some (a, .inr (4, fs))) (hl : 0 < fs.length) (hn : narrow (tyX3 0) v = v) (hfit : fits (tyX3 0) v = true) (hdg : decode cc pc = .ok (.putfield 7, 3)) (kk : ∀ (H1 : Heap) (locs1 : List Loc), va_P D vwCl (ws.set q0 (a, .inr (4, fs.set 0 v))) H1 → va_D A (ws.set q0 (a, .inr (4, fs.set 0 v))) → va_S A H0 H1 locs1 → W p l e R s m args below meth c H1 locs1 cells slots Q (F0 m (pc + 3) ls rest)) : W p l e R s m args below meth c H locs cells slots Q (F0 m pc ls (v :: .ref a :: rest)) :=
  va_putF (C := RX3) (T := TX3) (N := 3) S.1 S.2.1 S.2.2.2.2 hin_RX3 tyX3 tyX3_ok nmX3 S.2.2.2.1 hK.1 hP hD hS q0 he rfl 0 (by decide) (S.2.2.2.2 _ (wk6_3 9 rfl rfl)) (fun _ h9 => h9) rfl hin rfl (tyX3_ok 0 (by decide)) hn hfit hl hdg kk
set_option maxRecDepth 100000 in
theorem pf_RX3_13 {p : Program} {l : Launch} {e : Env} {R : Room} {s : State} {m : MethodId} {args : Array Value} {below : List Frame} {meth : Method} {c : Code} {H : Heap} {locs : List Loc} {cells slots : Nat} {Q : State → Prop} {cc : ByteArray} {nL pc : Nat} {D : va_G} {cI cB cZ : ClassId} {ws : va_W} {rest : List Value} {ls : Array Slot} {a : Nat} {fs : List Value} {v : Value} {A : Nat → Prop} {H0 : Heap} (S : SF p m c cc nL s args RX3) (hin : meth.name = "<init>") (hK : KK D cI cB cZ s) (hP : va_P D vwCl ws H) (hD : va_D A ws) (hS : va_S A H0 H locs) (q0 : Nat) (he : ws[q0]? = some (a, .inr (4, fs))) (hl : 1 < fs.length) (hn : narrow (tyX3 1) v = v) (hfit : fits (tyX3 1) v = true) (hdg : decode cc pc = .ok (.putfield 13, 3)) (kk : ∀ (H1 : Heap) (locs1 : List Loc), va_P D vwCl (ws.set q0 (a, .inr (4, fs.set 1 v))) H1 → va_D A (ws.set q0 (a, .inr (4, fs.set 1 v))) → va_S A H0 H1 locs1 → W p l e R s m args below meth c H1 locs1 cells slots Q (F0 m (pc + 3) ls rest)) : W p l e R s m args below meth c H locs cells slots Q (F0 m pc ls (v :: .ref a :: rest)) :=
  va_putF (C := RX3) (T := TX3) (N := 3) S.1 S.2.1 S.2.2.2.2 hin_RX3 tyX3 tyX3_ok nmX3 S.2.2.2.1 hK.1 hP hD hS q0 he rfl 1 (by decide) (S.2.2.2.2 _ (wk6_3 11 rfl rfl)) (fun _ h9 => h9) rfl hin rfl (tyX3_ok 1 (by decide)) hn hfit hl hdg kk
set_option maxRecDepth 100000 in
theorem pf_RX3_16 {p : Program} {l : Launch} {e : Env} {R : Room} {s : State} {m : MethodId} {args : Array Value} {below : List Frame} {meth : Method} {c : Code} {H : Heap} {locs : List Loc} {cells slots : Nat} {Q : State → Prop} {cc : ByteArray} {nL pc : Nat} {D : va_G} {cI cB cZ : ClassId} {ws : va_W} {rest : List Value} {ls : Array Slot} {a : Nat} {fs : List Value} {v : Value} {A : Nat → Prop} {H0 : Heap} (S : SF p m c cc nL s args RX3) (hin : meth.name = "<init>") (hK : KK D cI cB cZ s) (hP : va_P D vwCl ws H) (hD : va_D A ws) (hS : va_S A H0 H locs) (q0 : Nat) (he : ws[q0]? = some (a, .inr (4, fs))) (hl : 2 < fs.length) (hn : narrow (tyX3 2) v = v) (hfit : fits (tyX3 2) v = true) (hdg : decode cc pc = .ok (.putfield 16, 3)) (kk : ∀ (H1 : Heap) (locs1 : List Loc), va_P D vwCl (ws.set q0 (a, .inr (4, fs.set 2 v))) H1 → va_D A (ws.set q0 (a, .inr (4, fs.set 2 v))) → va_S A H0 H1 locs1 → W p l e R s m args below meth c H1 locs1 cells slots Q (F0 m (pc + 3) ls rest)) : W p l e R s m args below meth c H locs cells slots Q (F0 m pc ls (v :: .ref a :: rest)) :=
  va_putF (C := RX3) (T := TX3) (N := 3) S.1 S.2.1 S.2.2.2.2 hin_RX3 tyX3 tyX3_ok nmX3 S.2.2.2.1 hK.1 hP hD hS q0 he rfl 2 (by decide) (S.2.2.2.2 _ (wk6_4 1 rfl rfl)) (fun _ h9 => h9) rfl hin rfl (tyX3_ok 2 (by decide)) hn hfit hl hdg kk
set_option maxRecDepth 100000 in
theorem pf_RX4_7 {p : Program} {l : Launch} {e : Env} {R : Room} {s : State} {m : MethodId} {args : Array Value} {below : List Frame} {meth : Method} {c : Code} {H : Heap} {locs : List Loc} {cells slots : Nat} {Q : State → Prop} {cc : ByteArray} {nL pc : Nat} {D : va_G} {cI cB cZ : ClassId} {ws : va_W} {rest : List Value} {ls : Array Slot} {a : Nat} {fs : List Value} {v : Value} {A : Nat → Prop} {H0 : Heap} (S : SF p m c cc nL s args RX4) (hin : meth.name = "<init>") (hK : KK D cI cB cZ s) (hP : va_P D vwCl ws H) (hD : va_D A ws) (hS : va_S A H0 H locs) (q0 : Nat) (he : ws[q0]? = some (a, .inr (5, fs))) (hl : 0 < fs.length) (hn : narrow (tyX4 0) v = v) (hfit : fits (tyX4 0) v = true) (hdg : decode cc pc = .ok (.putfield 7, 3)) (kk : ∀ (H1 : Heap) (locs1 : List Loc), va_P D vwCl (ws.set q0 (a, .inr (5, fs.set 0 v))) H1 → va_D A (ws.set q0 (a, .inr (5, fs.set 0 v))) → va_S A H0 H1 locs1 → W p l e R s m args below meth c H1 locs1 cells slots Q (F0 m (pc + 3) ls rest)) : W p l e R s m args below meth c H locs cells slots Q (F0 m pc ls (v :: .ref a :: rest)) :=
  va_putF (C := RX4) (T := TX4) (N := 5) S.1 S.2.1 S.2.2.2.2 hin_RX4 tyX4 tyX4_ok nmX4 S.2.2.2.1 hK.1 hP hD hS q0 he rfl 0 (by decide) (S.2.2.2.2 _ (wk5_6 5 rfl rfl)) (fun _ h9 => h9) rfl hin rfl (tyX4_ok 0 (by decide)) hn hfit hl hdg kk
set_option maxRecDepth 100000 in
theorem pf_RX4_13 {p : Program} {l : Launch} {e : Env} {R : Room} {s : State} {m : MethodId} {args : Array Value} {below : List Frame} {meth : Method} {c : Code} {H : Heap} {locs : List Loc} {cells slots : Nat} {Q : State → Prop} {cc : ByteArray} {nL pc : Nat} {D : va_G} {cI cB cZ : ClassId} {ws : va_W} {rest : List Value} {ls : Array Slot} {a : Nat} {fs : List Value} {v : Value} {A : Nat → Prop} {H0 : Heap} (S : SF p m c cc nL s args RX4) (hin : meth.name = "<init>") (hK : KK D cI cB cZ s) (hP : va_P D vwCl ws H) (hD : va_D A ws) (hS : va_S A H0 H locs) (q0 : Nat) (he : ws[q0]? = some (a, .inr (5, fs))) (hl : 1 < fs.length) (hn : narrow (tyX4 1) v = v) (hfit : fits (tyX4 1) v = true) (hdg : decode cc pc = .ok (.putfield 13, 3)) (kk : ∀ (H1 : Heap) (locs1 : List Loc), va_P D vwCl (ws.set q0 (a, .inr (5, fs.set 1 v))) H1 → va_D A (ws.set q0 (a, .inr (5, fs.set 1 v))) → va_S A H0 H1 locs1 → W p l e R s m args below meth c H1 locs1 cells slots Q (F0 m (pc + 3) ls rest)) : W p l e R s m args below meth c H locs cells slots Q (F0 m pc ls (v :: .ref a :: rest)) :=
  va_putF (C := RX4) (T := TX4) (N := 5) S.1 S.2.1 S.2.2.2.2 hin_RX4 tyX4 tyX4_ok nmX4 S.2.2.2.1 hK.1 hP hD hS q0 he rfl 1 (by decide) (S.2.2.2.2 _ (wk5_6 7 rfl rfl)) (fun _ h9 => h9) rfl hin rfl (tyX4_ok 1 (by decide)) hn hfit hl hdg kk
set_option maxRecDepth 100000 in
theorem pf_RX4_16 {p : Program} {l : Launch} {e : Env} {R : Room} {s : State} {m : MethodId} {args : Array Value} {below : List Frame} {meth : Method} {c : Code} {H : Heap} {locs : List Loc} {cells slots : Nat} {Q : State → Prop} {cc : ByteArray} {nL pc : Nat} {D : va_G} {cI cB cZ : ClassId} {ws : va_W} {rest : List Value} {ls : Array Slot} {a : Nat} {fs : List Value} {v : Value} {A : Nat → Prop} {H0 : Heap} (S : SF p m c cc nL s args RX4) (hin : meth.name = "<init>") (hK : KK D cI cB cZ s) (hP : va_P D vwCl ws H) (hD : va_D A ws) (hS : va_S A H0 H locs) (q0 : Nat) (he : ws[q0]? = some (a, .inr (5, fs))) (hl : 2 < fs.length) (hn : narrow (tyX4 2) v = v) (hfit : fits (tyX4 2) v = true) (hdg : decode cc pc = .ok (.putfield 16, 3)) (kk : ∀ (H1 : Heap) (locs1 : List Loc), va_P D vwCl (ws.set q0 (a, .inr (5, fs.set 2 v))) H1 → va_D A (ws.set q0 (a, .inr (5, fs.set 2 v))) → va_S A H0 H1 locs1 → W p l e R s m args below meth c H1 locs1 cells slots Q (F0 m (pc + 3) ls rest)) : W p l e R s m args below meth c H locs cells slots Q (F0 m pc ls (v :: .ref a :: rest)) :=
  va_putF (C := RX4) (T := TX4) (N := 5) S.1 S.2.1 S.2.2.2.2 hin_RX4 tyX4 tyX4_ok nmX4 S.2.2.2.1 hK.1 hP hD hS q0 he rfl 2 (by decide) (S.2.2.2.2 _ (wk5_6 9 rfl rfl)) (fun _ h9 => h9) rfl hin rfl (tyX4_ok 2 (by decide)) hn hfit hl hdg kk
set_option maxRecDepth 100000 in
theorem pf_RX4_19 {p : Program} {l : Launch} {e : Env} {R : Room} {s : State} {m : MethodId} {args : Array Value} {below : List Frame} {meth : Method} {c : Code} {H : Heap} {locs : List Loc} {cells slots : Nat} {Q : State → Prop} {cc : ByteArray} {nL pc : Nat} {D : va_G} {cI cB cZ : ClassId} {ws : va_W} {rest : List Value} {ls : Array Slot} {a : Nat} {fs : List Value} {v : Value} {A : Nat → Prop} {H0 : Heap} (S : SF p m c cc nL s args RX4) (hin : meth.name = "<init>") (hK : KK D cI cB cZ s) (hP : va_P D vwCl ws H) (hD : va_D A ws) (hS : va_S A H0 H locs) (q0 : Nat) (he : ws[q0]? = some (a, .inr (5, fs))) (hl : 3 < fs.length) (hn : narrow (tyX4 3) v = v) (hfit : fits (tyX4 3) v = true) (hdg : decode cc pc = .ok (.putfield 19, 3)) (kk : ∀ (H1 : Heap) (locs1 : List Loc), va_P D vwCl (ws.set q0 (a, .inr (5, fs.set 3 v))) H1 → va_D A (ws.set q0 (a, .inr (5, fs.set 3 v))) → va_S A H0 H1 locs1 → W p l e R s m args below meth c H1 locs1 cells slots Q (F0 m (pc + 3) ls rest)) : W p l e R s m args below meth c H locs cells slots Q (F0 m pc ls (v :: .ref a :: rest)) :=
  va_putF (C := RX4) (T := TX4) (N := 5) S.1 S.2.1 S.2.2.2.2 hin_RX4 tyX4 tyX4_ok nmX4 S.2.2.2.1 hK.1 hP hD hS q0 he rfl 3 (by decide) (S.2.2.2.2 _ (wk5_6 11 rfl rfl)) (fun _ h9 => h9) rfl hin rfl (tyX4_ok 3 (by decide)) hn hfit hl hdg kk
set_option maxRecDepth 100000 in
theorem pf_RX4_22 {p : Program} {l : Launch} {e : Env} {R : Room} {s : State} {m : MethodId} {args : Array Value} {below : List Frame} {meth : Method} {c : Code} {H : Heap} {locs : List Loc} {cells slots : Nat} {Q : State → Prop} {cc : ByteArray} {nL pc : Nat} {D : va_G} {cI cB cZ : ClassId} {ws : va_W} {rest : List Value} {ls : Array Slot} {a : Nat} {fs : List Value} {v : Value} {A : Nat → Prop} {H0 : Heap} (S : SF p m c cc nL s args RX4) (hin : meth.name = "<init>") (hK : KK D cI cB cZ s) (hP : va_P D vwCl ws H) (hD : va_D A ws) (hS : va_S A H0 H locs) (q0 : Nat) (he : ws[q0]? = some (a, .inr (5, fs))) (hl : 4 < fs.length) (hn : narrow (tyX4 4) v = v) (hfit : fits (tyX4 4) v = true) (hdg : decode cc pc = .ok (.putfield 22, 3)) (kk : ∀ (H1 : Heap) (locs1 : List Loc), va_P D vwCl (ws.set q0 (a, .inr (5, fs.set 4 v))) H1 → va_D A (ws.set q0 (a, .inr (5, fs.set 4 v))) → va_S A H0 H1 locs1 → W p l e R s m args below meth c H1 locs1 cells slots Q (F0 m (pc + 3) ls rest)) : W p l e R s m args below meth c H locs cells slots Q (F0 m pc ls (v :: .ref a :: rest)) :=
  va_putF (C := RX4) (T := TX4) (N := 5) S.1 S.2.1 S.2.2.2.2 hin_RX4 tyX4 tyX4_ok nmX4 S.2.2.2.1 hK.1 hP hD hS q0 he rfl 4 (by decide) (S.2.2.2.2 _ (wk5_7 1 rfl rfl)) (fun _ h9 => h9) rfl hin rfl (tyX4_ok 4 (by decide)) hn hfit hl hdg kk
set_option maxRecDepth 100000 in
theorem pf_RX2_7 {p : Program} {l : Launch} {e : Env} {R : Room} {s : State} {m : MethodId} {args : Array Value} {below : List Frame} {meth : Method} {c : Code} {H : Heap} {locs : List Loc} {cells slots : Nat} {Q : State → Prop} {cc : ByteArray} {nL pc : Nat} {D : va_G} {cI cB cZ : ClassId} {ws : va_W} {rest : List Value} {ls : Array Slot} {a : Nat} {fs : List Value} {v : Value} {A : Nat → Prop} {H0 : Heap} (S : SF p m c cc nL s args RX2) (hin : meth.name = "<init>") (hK : KK D cI cB cZ s) (hP : va_P D vwCl ws H) (hD : va_D A ws) (hS : va_S A H0 H locs) (q0 : Nat) (he : ws[q0]? = some (a, .inr (3, fs))) (hl : 0 < fs.length) (hn : narrow (tyX2 0) v = v) (hfit : fits (tyX2 0) v = true) (hdg : decode cc pc = .ok (.putfield 7, 3)) (kk : ∀ (H1 : Heap) (locs1 : List Loc), va_P D vwCl (ws.set q0 (a, .inr (3, fs.set 0 v))) H1 → va_D A (ws.set q0 (a, .inr (3, fs.set 0 v))) → va_S A H0 H1 locs1 → W p l e R s m args below meth c H1 locs1 cells slots Q (F0 m (pc + 3) ls rest)) : W p l e R s m args below meth c H locs cells slots Q (F0 m pc ls (v :: .ref a :: rest)) :=
  va_putF (C := RX2) (T := TX2) (N := 10) S.1 S.2.1 S.2.2.2.2 hin_RX2 tyX2 tyX2_ok nmX2 S.2.2.2.1 hK.1 hP hD hS q0 he rfl 0 (by decide) (S.2.2.2.2 _ (wk2_17 6 rfl rfl)) (fun _ h9 => h9) rfl hin rfl (tyX2_ok 0 (by decide)) hn hfit hl hdg kk
set_option maxRecDepth 100000 in
theorem pf_RX2_13 {p : Program} {l : Launch} {e : Env} {R : Room} {s : State} {m : MethodId} {args : Array Value} {below : List Frame} {meth : Method} {c : Code} {H : Heap} {locs : List Loc} {cells slots : Nat} {Q : State → Prop} {cc : ByteArray} {nL pc : Nat} {D : va_G} {cI cB cZ : ClassId} {ws : va_W} {rest : List Value} {ls : Array Slot} {a : Nat} {fs : List Value} {v : Value} {A : Nat → Prop} {H0 : Heap} (S : SF p m c cc nL s args RX2) (hin : meth.name = "<init>") (hK : KK D cI cB cZ s) (hP : va_P D vwCl ws H) (hD : va_D A ws) (hS : va_S A H0 H locs) (q0 : Nat) (he : ws[q0]? = some (a, .inr (3, fs))) (hl : 1 < fs.length) (hn : narrow (tyX2 1) v = v) (hfit : fits (tyX2 1) v = true) (hdg : decode cc pc = .ok (.putfield 13, 3)) (kk : ∀ (H1 : Heap) (locs1 : List Loc), va_P D vwCl (ws.set q0 (a, .inr (3, fs.set 1 v))) H1 → va_D A (ws.set q0 (a, .inr (3, fs.set 1 v))) → va_S A H0 H1 locs1 → W p l e R s m args below meth c H1 locs1 cells slots Q (F0 m (pc + 3) ls rest)) : W p l e R s m args below meth c H locs cells slots Q (F0 m pc ls (v :: .ref a :: rest)) :=
  va_putF (C := RX2) (T := TX2) (N := 10) S.1 S.2.1 S.2.2.2.2 hin_RX2 tyX2 tyX2_ok nmX2 S.2.2.2.1 hK.1 hP hD hS q0 he rfl 1 (by decide) (S.2.2.2.2 _ (wk2_17 8 rfl rfl)) (fun _ h9 => h9) rfl hin rfl (tyX2_ok 1 (by decide)) hn hfit hl hdg kk
set_option maxRecDepth 100000 in
theorem pf_RX2_16 {p : Program} {l : Launch} {e : Env} {R : Room} {s : State} {m : MethodId} {args : Array Value} {below : List Frame} {meth : Method} {c : Code} {H : Heap} {locs : List Loc} {cells slots : Nat} {Q : State → Prop} {cc : ByteArray} {nL pc : Nat} {D : va_G} {cI cB cZ : ClassId} {ws : va_W} {rest : List Value} {ls : Array Slot} {a : Nat} {fs : List Value} {v : Value} {A : Nat → Prop} {H0 : Heap} (S : SF p m c cc nL s args RX2) (hin : meth.name = "<init>") (hK : KK D cI cB cZ s) (hP : va_P D vwCl ws H) (hD : va_D A ws) (hS : va_S A H0 H locs) (q0 : Nat) (he : ws[q0]? = some (a, .inr (3, fs))) (hl : 2 < fs.length) (hn : narrow (tyX2 2) v = v) (hfit : fits (tyX2 2) v = true) (hdg : decode cc pc = .ok (.putfield 16, 3)) (kk : ∀ (H1 : Heap) (locs1 : List Loc), va_P D vwCl (ws.set q0 (a, .inr (3, fs.set 2 v))) H1 → va_D A (ws.set q0 (a, .inr (3, fs.set 2 v))) → va_S A H0 H1 locs1 → W p l e R s m args below meth c H1 locs1 cells slots Q (F0 m (pc + 3) ls rest)) : W p l e R s m args below meth c H locs cells slots Q (F0 m pc ls (v :: .ref a :: rest)) :=
  va_putF (C := RX2) (T := TX2) (N := 10) S.1 S.2.1 S.2.2.2.2 hin_RX2 tyX2 tyX2_ok nmX2 S.2.2.2.1 hK.1 hP hD hS q0 he rfl 2 (by decide) (S.2.2.2.2 _ (wk2_17 10 rfl rfl)) (fun _ h9 => h9) rfl hin rfl (tyX2_ok 2 (by decide)) hn hfit hl hdg kk
set_option maxRecDepth 100000 in
theorem pf_RX2_19 {p : Program} {l : Launch} {e : Env} {R : Room} {s : State} {m : MethodId} {args : Array Value} {below : List Frame} {meth : Method} {c : Code} {H : Heap} {locs : List Loc} {cells slots : Nat} {Q : State → Prop} {cc : ByteArray} {nL pc : Nat} {D : va_G} {cI cB cZ : ClassId} {ws : va_W} {rest : List Value} {ls : Array Slot} {a : Nat} {fs : List Value} {v : Value} {A : Nat → Prop} {H0 : Heap} (S : SF p m c cc nL s args RX2) (hin : meth.name = "<init>") (hK : KK D cI cB cZ s) (hP : va_P D vwCl ws H) (hD : va_D A ws) (hS : va_S A H0 H locs) (q0 : Nat) (he : ws[q0]? = some (a, .inr (3, fs))) (hl : 3 < fs.length) (hn : narrow (tyX2 3) v = v) (hfit : fits (tyX2 3) v = true) (hdg : decode cc pc = .ok (.putfield 19, 3)) (kk : ∀ (H1 : Heap) (locs1 : List Loc), va_P D vwCl (ws.set q0 (a, .inr (3, fs.set 3 v))) H1 → va_D A (ws.set q0 (a, .inr (3, fs.set 3 v))) → va_S A H0 H1 locs1 → W p l e R s m args below meth c H1 locs1 cells slots Q (F0 m (pc + 3) ls rest)) : W p l e R s m args below meth c H locs cells slots Q (F0 m pc ls (v :: .ref a :: rest)) :=
  va_putF (C := RX2) (T := TX2) (N := 10) S.1 S.2.1 S.2.2.2.2 hin_RX2 tyX2 tyX2_ok nmX2 S.2.2.2.1 hK.1 hP hD hS q0 he rfl 3 (by decide) (S.2.2.2.2 _ (wk2_18 1 rfl rfl)) (fun _ h9 => h9) rfl hin rfl (tyX2_ok 3 (by decide)) hn hfit hl hdg kk
set_option maxRecDepth 100000 in
theorem pf_RX2_22 {p : Program} {l : Launch} {e : Env} {R : Room} {s : State} {m : MethodId} {args : Array Value} {below : List Frame} {meth : Method} {c : Code} {H : Heap} {locs : List Loc} {cells slots : Nat} {Q : State → Prop} {cc : ByteArray} {nL pc : Nat} {D : va_G} {cI cB cZ : ClassId} {ws : va_W} {rest : List Value} {ls : Array Slot} {a : Nat} {fs : List Value} {v : Value} {A : Nat → Prop} {H0 : Heap} (S : SF p m c cc nL s args RX2) (hin : meth.name = "<init>") (hK : KK D cI cB cZ s) (hP : va_P D vwCl ws H) (hD : va_D A ws) (hS : va_S A H0 H locs) (q0 : Nat) (he : ws[q0]? = some (a, .inr (3, fs))) (hl : 4 < fs.length) (hn : narrow (tyX2 4) v = v) (hfit : fits (tyX2 4) v = true) (hdg : decode cc pc = .ok (.putfield 22, 3)) (kk : ∀ (H1 : Heap) (locs1 : List Loc), va_P D vwCl (ws.set q0 (a, .inr (3, fs.set 4 v))) H1 → va_D A (ws.set q0 (a, .inr (3, fs.set 4 v))) → va_S A H0 H1 locs1 → W p l e R s m args below meth c H1 locs1 cells slots Q (F0 m (pc + 3) ls rest)) : W p l e R s m args below meth c H locs cells slots Q (F0 m pc ls (v :: .ref a :: rest)) :=
  va_putF (C := RX2) (T := TX2) (N := 10) S.1 S.2.1 S.2.2.2.2 hin_RX2 tyX2 tyX2_ok nmX2 S.2.2.2.1 hK.1 hP hD hS q0 he rfl 4 (by decide) (S.2.2.2.2 _ (wk2_18 4 rfl rfl)) (fun _ h9 => h9) rfl hin rfl (tyX2_ok 4 (by decide)) hn hfit hl hdg kk
set_option maxRecDepth 100000 in
theorem pf_RX2_25 {p : Program} {l : Launch} {e : Env} {R : Room} {s : State} {m : MethodId} {args : Array Value} {below : List Frame} {meth : Method} {c : Code} {H : Heap} {locs : List Loc} {cells slots : Nat} {Q : State → Prop} {cc : ByteArray} {nL pc : Nat} {D : va_G} {cI cB cZ : ClassId} {ws : va_W} {rest : List Value} {ls : Array Slot} {a : Nat} {fs : List Value} {v : Value} {A : Nat → Prop} {H0 : Heap} (S : SF p m c cc nL s args RX2) (hin : meth.name = "<init>") (hK : KK D cI cB cZ s) (hP : va_P D vwCl ws H) (hD : va_D A ws) (hS : va_S A H0 H locs) (q0 : Nat) (he : ws[q0]? = some (a, .inr (3, fs))) (hl : 5 < fs.length) (hn : narrow (tyX2 5) v = v) (hfit : fits (tyX2 5) v = true) (hdg : decode cc pc = .ok (.putfield 25, 3)) (kk : ∀ (H1 : Heap) (locs1 : List Loc), va_P D vwCl (ws.set q0 (a, .inr (3, fs.set 5 v))) H1 → va_D A (ws.set q0 (a, .inr (3, fs.set 5 v))) → va_S A H0 H1 locs1 → W p l e R s m args below meth c H1 locs1 cells slots Q (F0 m (pc + 3) ls rest)) : W p l e R s m args below meth c H locs cells slots Q (F0 m pc ls (v :: .ref a :: rest)) :=
  va_putF (C := RX2) (T := TX2) (N := 10) S.1 S.2.1 S.2.2.2.2 hin_RX2 tyX2 tyX2_ok nmX2 S.2.2.2.1 hK.1 hP hD hS q0 he rfl 5 (by decide) (S.2.2.2.2 _ (wk2_18 7 rfl rfl)) (fun _ h9 => h9) rfl hin rfl (tyX2_ok 5 (by decide)) hn hfit hl hdg kk
set_option maxRecDepth 100000 in
theorem pf_RX0_9 {p : Program} {l : Launch} {e : Env} {R : Room} {s : State} {m : MethodId} {args : Array Value} {below : List Frame} {meth : Method} {c : Code} {H : Heap} {locs : List Loc} {cells slots : Nat} {Q : State → Prop} {cc : ByteArray} {nL pc : Nat} {D : va_G} {cI cB cZ : ClassId} {ws : va_W} {rest : List Value} {ls : Array Slot} {a : Nat} {fs : List Value} {v : Value} {A : Nat → Prop} {H0 : Heap} (S : SF p m c cc nL s args RX0) (hin : meth.name = "<init>") (hK : KK D cI cB cZ s) (hP : va_P D vwCl ws H) (hD : va_D A ws) (hS : va_S A H0 H locs) (q0 : Nat) (he : ws[q0]? = some (a, .inr (1, fs))) (hl : 0 < fs.length) (hn : narrow (tyX0 0) v = v) (hfit : fits (tyX0 0) v = true) (hdg : decode cc pc = .ok (.putfield 9, 3)) (kk : ∀ (H1 : Heap) (locs1 : List Loc), va_P D vwCl (ws.set q0 (a, .inr (1, fs.set 0 v))) H1 → va_D A (ws.set q0 (a, .inr (1, fs.set 0 v))) → va_S A H0 H1 locs1 → W p l e R s m args below meth c H1 locs1 cells slots Q (F0 m (pc + 3) ls rest)) : W p l e R s m args below meth c H locs cells slots Q (F0 m pc ls (v :: .ref a :: rest)) :=
  va_putF (C := RX0) (T := TX0) (N := 8) S.1 S.2.1 S.2.2.2.2 hin_RX0 tyX0 tyX0_ok nmX0 S.2.2.2.1 hK.1 hP hD hS q0 he rfl 0 (by decide) (S.2.2.2.2 _ (wk4_18 1 rfl rfl)) (fun _ h9 => h9) rfl hin rfl (tyX0_ok 0 (by decide)) hn hfit hl hdg kk
set_option maxRecDepth 100000 in
theorem pf_RX9_17 {p : Program} {l : Launch} {e : Env} {R : Room} {s : State} {m : MethodId} {args : Array Value} {below : List Frame} {meth : Method} {c : Code} {H : Heap} {locs : List Loc} {cells slots : Nat} {Q : State → Prop} {cc : ByteArray} {nL pc : Nat} {D : va_G} {cI cB cZ : ClassId} {ws : va_W} {rest : List Value} {ls : Array Slot} {a : Nat} {fs : List Value} {v : Value} {A : Nat → Prop} {H0 : Heap} (S : SF p m c cc nL s args RX9) (hin : meth.name = "<init>") (hK : KK D cI cB cZ s) (hP : va_P D vwCl ws H) (hD : va_D A ws) (hS : va_S A H0 H locs) (q0 : Nat) (he : ws[q0]? = some (a, .inr (10, fs))) (hl : 0 < fs.length) (hn : narrow (tyX9 0) v = v) (hfit : fits (tyX9 0) v = true) (hdg : decode cc pc = .ok (.putfield 17, 3)) (kk : ∀ (H1 : Heap) (locs1 : List Loc), va_P D vwCl (ws.set q0 (a, .inr (10, fs.set 0 v))) H1 → va_D A (ws.set q0 (a, .inr (10, fs.set 0 v))) → va_S A H0 H1 locs1 → W p l e R s m args below meth c H1 locs1 cells slots Q (F0 m (pc + 3) ls rest)) : W p l e R s m args below meth c H locs cells slots Q (F0 m pc ls (v :: .ref a :: rest)) :=
  va_putF (C := RX9) (T := TX9) (N := 9) S.1 S.2.1 S.2.2.2.2 hin_RX9 tyX9 tyX9_ok nmX9 S.2.2.2.1 hK.1 hP hD hS q0 he rfl 0 (by decide) (S.2.2.2.2 _ (wk1_3 8 rfl rfl)) (fun _ h9 => h9) rfl hin rfl (tyX9_ok 0 (by decide)) hn hfit hl hdg kk
set_option maxRecDepth 100000 in
theorem pf_RX9_21 {p : Program} {l : Launch} {e : Env} {R : Room} {s : State} {m : MethodId} {args : Array Value} {below : List Frame} {meth : Method} {c : Code} {H : Heap} {locs : List Loc} {cells slots : Nat} {Q : State → Prop} {cc : ByteArray} {nL pc : Nat} {D : va_G} {cI cB cZ : ClassId} {ws : va_W} {rest : List Value} {ls : Array Slot} {a : Nat} {fs : List Value} {v : Value} {A : Nat → Prop} {H0 : Heap} (S : SF p m c cc nL s args RX9) (hin : meth.name = "<init>") (hK : KK D cI cB cZ s) (hP : va_P D vwCl ws H) (hD : va_D A ws) (hS : va_S A H0 H locs) (q0 : Nat) (he : ws[q0]? = some (a, .inr (10, fs))) (hl : 1 < fs.length) (hn : narrow (tyX9 1) v = v) (hfit : fits (tyX9 1) v = true) (hdg : decode cc pc = .ok (.putfield 21, 3)) (kk : ∀ (H1 : Heap) (locs1 : List Loc), va_P D vwCl (ws.set q0 (a, .inr (10, fs.set 1 v))) H1 → va_D A (ws.set q0 (a, .inr (10, fs.set 1 v))) → va_S A H0 H1 locs1 → W p l e R s m args below meth c H1 locs1 cells slots Q (F0 m (pc + 3) ls rest)) : W p l e R s m args below meth c H locs cells slots Q (F0 m pc ls (v :: .ref a :: rest)) :=
  va_putF (C := RX9) (T := TX9) (N := 9) S.1 S.2.1 S.2.2.2.2 hin_RX9 tyX9 tyX9_ok nmX9 S.2.2.2.1 hK.1 hP hD hS q0 he rfl 1 (by decide) (S.2.2.2.2 _ (wk1_3 9 rfl rfl)) (fun _ h9 => h9) rfl hin rfl (tyX9_ok 1 (by decide)) hn hfit hl hdg kk
set_option maxRecDepth 100000 in
theorem pf_RX9_24 {p : Program} {l : Launch} {e : Env} {R : Room} {s : State} {m : MethodId} {args : Array Value} {below : List Frame} {meth : Method} {c : Code} {H : Heap} {locs : List Loc} {cells slots : Nat} {Q : State → Prop} {cc : ByteArray} {nL pc : Nat} {D : va_G} {cI cB cZ : ClassId} {ws : va_W} {rest : List Value} {ls : Array Slot} {a : Nat} {fs : List Value} {v : Value} {A : Nat → Prop} {H0 : Heap} (S : SF p m c cc nL s args RX9) (hin : meth.name = "<init>") (hK : KK D cI cB cZ s) (hP : va_P D vwCl ws H) (hD : va_D A ws) (hS : va_S A H0 H locs) (q0 : Nat) (he : ws[q0]? = some (a, .inr (10, fs))) (hl : 2 < fs.length) (hn : narrow (tyX9 2) v = v) (hfit : fits (tyX9 2) v = true) (hdg : decode cc pc = .ok (.putfield 24, 3)) (kk : ∀ (H1 : Heap) (locs1 : List Loc), va_P D vwCl (ws.set q0 (a, .inr (10, fs.set 2 v))) H1 → va_D A (ws.set q0 (a, .inr (10, fs.set 2 v))) → va_S A H0 H1 locs1 → W p l e R s m args below meth c H1 locs1 cells slots Q (F0 m (pc + 3) ls rest)) : W p l e R s m args below meth c H locs cells slots Q (F0 m pc ls (v :: .ref a :: rest)) :=
  va_putF (C := RX9) (T := TX9) (N := 9) S.1 S.2.1 S.2.2.2.2 hin_RX9 tyX9 tyX9_ok nmX9 S.2.2.2.1 hK.1 hP hD hS q0 he rfl 2 (by decide) (S.2.2.2.2 _ (wk1_3 10 rfl rfl)) (fun _ h9 => h9) rfl hin rfl (tyX9_ok 2 (by decide)) hn hfit hl hdg kk
set_option maxRecDepth 100000 in
theorem pf_RX9_27 {p : Program} {l : Launch} {e : Env} {R : Room} {s : State} {m : MethodId} {args : Array Value} {below : List Frame} {meth : Method} {c : Code} {H : Heap} {locs : List Loc} {cells slots : Nat} {Q : State → Prop} {cc : ByteArray} {nL pc : Nat} {D : va_G} {cI cB cZ : ClassId} {ws : va_W} {rest : List Value} {ls : Array Slot} {a : Nat} {fs : List Value} {v : Value} {A : Nat → Prop} {H0 : Heap} (S : SF p m c cc nL s args RX9) (hin : meth.name = "<init>") (hK : KK D cI cB cZ s) (hP : va_P D vwCl ws H) (hD : va_D A ws) (hS : va_S A H0 H locs) (q0 : Nat) (he : ws[q0]? = some (a, .inr (10, fs))) (hl : 3 < fs.length) (hn : narrow (tyX9 3) v = v) (hfit : fits (tyX9 3) v = true) (hdg : decode cc pc = .ok (.putfield 27, 3)) (kk : ∀ (H1 : Heap) (locs1 : List Loc), va_P D vwCl (ws.set q0 (a, .inr (10, fs.set 3 v))) H1 → va_D A (ws.set q0 (a, .inr (10, fs.set 3 v))) → va_S A H0 H1 locs1 → W p l e R s m args below meth c H1 locs1 cells slots Q (F0 m (pc + 3) ls rest)) : W p l e R s m args below meth c H locs cells slots Q (F0 m pc ls (v :: .ref a :: rest)) :=
  va_putF (C := RX9) (T := TX9) (N := 9) S.1 S.2.1 S.2.2.2.2 hin_RX9 tyX9 tyX9_ok nmX9 S.2.2.2.1 hK.1 hP hD hS q0 he rfl 3 (by decide) (S.2.2.2.2 _ (wk1_3 11 rfl rfl)) (fun _ h9 => h9) rfl hin rfl (tyX9_ok 3 (by decide)) hn hfit hl hdg kk
set_option maxRecDepth 100000 in
theorem pf_RX9_30 {p : Program} {l : Launch} {e : Env} {R : Room} {s : State} {m : MethodId} {args : Array Value} {below : List Frame} {meth : Method} {c : Code} {H : Heap} {locs : List Loc} {cells slots : Nat} {Q : State → Prop} {cc : ByteArray} {nL pc : Nat} {D : va_G} {cI cB cZ : ClassId} {ws : va_W} {rest : List Value} {ls : Array Slot} {a : Nat} {fs : List Value} {v : Value} {A : Nat → Prop} {H0 : Heap} (S : SF p m c cc nL s args RX9) (hin : meth.name = "<init>") (hK : KK D cI cB cZ s) (hP : va_P D vwCl ws H) (hD : va_D A ws) (hS : va_S A H0 H locs) (q0 : Nat) (he : ws[q0]? = some (a, .inr (10, fs))) (hl : 4 < fs.length) (hn : narrow (tyX9 4) v = v) (hfit : fits (tyX9 4) v = true) (hdg : decode cc pc = .ok (.putfield 30, 3)) (kk : ∀ (H1 : Heap) (locs1 : List Loc), va_P D vwCl (ws.set q0 (a, .inr (10, fs.set 4 v))) H1 → va_D A (ws.set q0 (a, .inr (10, fs.set 4 v))) → va_S A H0 H1 locs1 → W p l e R s m args below meth c H1 locs1 cells slots Q (F0 m (pc + 3) ls rest)) : W p l e R s m args below meth c H locs cells slots Q (F0 m pc ls (v :: .ref a :: rest)) :=
  va_putF (C := RX9) (T := TX9) (N := 9) S.1 S.2.1 S.2.2.2.2 hin_RX9 tyX9 tyX9_ok nmX9 S.2.2.2.1 hK.1 hP hD hS q0 he rfl 4 (by decide) (S.2.2.2.2 _ (wk1_4 0 rfl rfl)) (fun _ h9 => h9) rfl hin rfl (tyX9_ok 4 (by decide)) hn hfit hl hdg kk
set_option maxRecDepth 100000 in
theorem pf_RX1_7 {p : Program} {l : Launch} {e : Env} {R : Room} {s : State} {m : MethodId} {args : Array Value} {below : List Frame} {meth : Method} {c : Code} {H : Heap} {locs : List Loc} {cells slots : Nat} {Q : State → Prop} {cc : ByteArray} {nL pc : Nat} {D : va_G} {cI cB cZ : ClassId} {ws : va_W} {rest : List Value} {ls : Array Slot} {a : Nat} {fs : List Value} {v : Value} {A : Nat → Prop} {H0 : Heap} (S : SF p m c cc nL s args RX1) (hin : meth.name = "<init>") (hK : KK D cI cB cZ s) (hP : va_P D vwCl ws H) (hD : va_D A ws) (hS : va_S A H0 H locs) (q0 : Nat) (he : ws[q0]? = some (a, .inr (2, fs))) (hl : 0 < fs.length) (hn : narrow (tyX1 0) v = v) (hfit : fits (tyX1 0) v = true) (hdg : decode cc pc = .ok (.putfield 7, 3)) (kk : ∀ (H1 : Heap) (locs1 : List Loc), va_P D vwCl (ws.set q0 (a, .inr (2, fs.set 0 v))) H1 → va_D A (ws.set q0 (a, .inr (2, fs.set 0 v))) → va_S A H0 H1 locs1 → W p l e R s m args below meth c H1 locs1 cells slots Q (F0 m (pc + 3) ls rest)) : W p l e R s m args below meth c H locs cells slots Q (F0 m pc ls (v :: .ref a :: rest)) :=
  va_putF (C := RX1) (T := TX1) (N := 11) S.1 S.2.1 S.2.2.2.2 hin_RX1 tyX1 tyX1_ok nmX1 S.2.2.2.1 hK.1 hP hD hS q0 he rfl 0 (by decide) (S.2.2.2.2 _ (wk2_5 11 rfl rfl)) (fun _ h9 => h9) rfl hin rfl (tyX1_ok 0 (by decide)) hn hfit hl hdg kk
set_option maxRecDepth 100000 in
theorem pf_RX1_13 {p : Program} {l : Launch} {e : Env} {R : Room} {s : State} {m : MethodId} {args : Array Value} {below : List Frame} {meth : Method} {c : Code} {H : Heap} {locs : List Loc} {cells slots : Nat} {Q : State → Prop} {cc : ByteArray} {nL pc : Nat} {D : va_G} {cI cB cZ : ClassId} {ws : va_W} {rest : List Value} {ls : Array Slot} {a : Nat} {fs : List Value} {v : Value} {A : Nat → Prop} {H0 : Heap} (S : SF p m c cc nL s args RX1) (hin : meth.name = "<init>") (hK : KK D cI cB cZ s) (hP : va_P D vwCl ws H) (hD : va_D A ws) (hS : va_S A H0 H locs) (q0 : Nat) (he : ws[q0]? = some (a, .inr (2, fs))) (hl : 1 < fs.length) (hn : narrow (tyX1 1) v = v) (hfit : fits (tyX1 1) v = true) (hdg : decode cc pc = .ok (.putfield 13, 3)) (kk : ∀ (H1 : Heap) (locs1 : List Loc), va_P D vwCl (ws.set q0 (a, .inr (2, fs.set 1 v))) H1 → va_D A (ws.set q0 (a, .inr (2, fs.set 1 v))) → va_S A H0 H1 locs1 → W p l e R s m args below meth c H1 locs1 cells slots Q (F0 m (pc + 3) ls rest)) : W p l e R s m args below meth c H locs cells slots Q (F0 m pc ls (v :: .ref a :: rest)) :=
  va_putF (C := RX1) (T := TX1) (N := 11) S.1 S.2.1 S.2.2.2.2 hin_RX1 tyX1 tyX1_ok nmX1 S.2.2.2.1 hK.1 hP hD hS q0 he rfl 1 (by decide) (S.2.2.2.2 _ (wk2_6 2 rfl rfl)) (fun _ h9 => h9) rfl hin rfl (tyX1_ok 1 (by decide)) hn hfit hl hdg kk
set_option maxRecDepth 100000 in
theorem pf_RX1_16 {p : Program} {l : Launch} {e : Env} {R : Room} {s : State} {m : MethodId} {args : Array Value} {below : List Frame} {meth : Method} {c : Code} {H : Heap} {locs : List Loc} {cells slots : Nat} {Q : State → Prop} {cc : ByteArray} {nL pc : Nat} {D : va_G} {cI cB cZ : ClassId} {ws : va_W} {rest : List Value} {ls : Array Slot} {a : Nat} {fs : List Value} {v : Value} {A : Nat → Prop} {H0 : Heap} (S : SF p m c cc nL s args RX1) (hin : meth.name = "<init>") (hK : KK D cI cB cZ s) (hP : va_P D vwCl ws H) (hD : va_D A ws) (hS : va_S A H0 H locs) (q0 : Nat) (he : ws[q0]? = some (a, .inr (2, fs))) (hl : 2 < fs.length) (hn : narrow (tyX1 2) v = v) (hfit : fits (tyX1 2) v = true) (hdg : decode cc pc = .ok (.putfield 16, 3)) (kk : ∀ (H1 : Heap) (locs1 : List Loc), va_P D vwCl (ws.set q0 (a, .inr (2, fs.set 2 v))) H1 → va_D A (ws.set q0 (a, .inr (2, fs.set 2 v))) → va_S A H0 H1 locs1 → W p l e R s m args below meth c H1 locs1 cells slots Q (F0 m (pc + 3) ls rest)) : W p l e R s m args below meth c H locs cells slots Q (F0 m pc ls (v :: .ref a :: rest)) :=
  va_putF (C := RX1) (T := TX1) (N := 11) S.1 S.2.1 S.2.2.2.2 hin_RX1 tyX1 tyX1_ok nmX1 S.2.2.2.1 hK.1 hP hD hS q0 he rfl 2 (by decide) (S.2.2.2.2 _ (wk2_6 5 rfl rfl)) (fun _ h9 => h9) rfl hin rfl (tyX1_ok 2 (by decide)) hn hfit hl hdg kk
set_option maxRecDepth 100000 in
theorem pf_RX1_19 {p : Program} {l : Launch} {e : Env} {R : Room} {s : State} {m : MethodId} {args : Array Value} {below : List Frame} {meth : Method} {c : Code} {H : Heap} {locs : List Loc} {cells slots : Nat} {Q : State → Prop} {cc : ByteArray} {nL pc : Nat} {D : va_G} {cI cB cZ : ClassId} {ws : va_W} {rest : List Value} {ls : Array Slot} {a : Nat} {fs : List Value} {v : Value} {A : Nat → Prop} {H0 : Heap} (S : SF p m c cc nL s args RX1) (hin : meth.name = "<init>") (hK : KK D cI cB cZ s) (hP : va_P D vwCl ws H) (hD : va_D A ws) (hS : va_S A H0 H locs) (q0 : Nat) (he : ws[q0]? = some (a, .inr (2, fs))) (hl : 3 < fs.length) (hn : narrow (tyX1 3) v = v) (hfit : fits (tyX1 3) v = true) (hdg : decode cc pc = .ok (.putfield 19, 3)) (kk : ∀ (H1 : Heap) (locs1 : List Loc), va_P D vwCl (ws.set q0 (a, .inr (2, fs.set 3 v))) H1 → va_D A (ws.set q0 (a, .inr (2, fs.set 3 v))) → va_S A H0 H1 locs1 → W p l e R s m args below meth c H1 locs1 cells slots Q (F0 m (pc + 3) ls rest)) : W p l e R s m args below meth c H locs cells slots Q (F0 m pc ls (v :: .ref a :: rest)) :=
  va_putF (C := RX1) (T := TX1) (N := 11) S.1 S.2.1 S.2.2.2.2 hin_RX1 tyX1 tyX1_ok nmX1 S.2.2.2.1 hK.1 hP hD hS q0 he rfl 3 (by decide) (S.2.2.2.2 _ (wk2_6 7 rfl rfl)) (fun _ h9 => h9) rfl hin rfl (tyX1_ok 3 (by decide)) hn hfit hl hdg kk
set_option maxRecDepth 100000 in
theorem kI_RX1_24 : CalI RX1 24 yX9_init cX9_init 2 1 := ⟨⟨wk2_5 10 rfl rfl, wk1_3 2 rfl rfl, wk1_0 2 rfl rfl, wk1_3 3 rfl rfl⟩, rfl, ⟨nmh_10.1, nmh_10.2, pd_14⟩⟩
set_option maxRecDepth 100000 in
theorem pf_RX1_27 {p : Program} {l : Launch} {e : Env} {R : Room} {s : State} {m : MethodId} {args : Array Value} {below : List Frame} {meth : Method} {c : Code} {H : Heap} {locs : List Loc} {cells slots : Nat} {Q : State → Prop} {cc : ByteArray} {nL pc : Nat} {D : va_G} {cI cB cZ : ClassId} {ws : va_W} {rest : List Value} {ls : Array Slot} {a : Nat} {fs : List Value} {v : Value} {A : Nat → Prop} {H0 : Heap} (S : SF p m c cc nL s args RX1) (hK : KK D cI cB cZ s) (hP : va_P D vwCl ws H) (hD : va_D A ws) (hS : va_S A H0 H locs) (q0 : Nat) (he : ws[q0]? = some (a, .inr (2, fs))) (hl : 10 < fs.length) (hn : narrow (tyX1 10) v = v) (hfit : fits (tyX1 10) v = true) (hdg : decode cc pc = .ok (.putfield 27, 3)) (kk : ∀ (H1 : Heap) (locs1 : List Loc), va_P D vwCl (ws.set q0 (a, .inr (2, fs.set 10 v))) H1 → va_D A (ws.set q0 (a, .inr (2, fs.set 10 v))) → va_S A H0 H1 locs1 → W p l e R s m args below meth c H1 locs1 cells slots Q (F0 m (pc + 3) ls rest)) : W p l e R s m args below meth c H locs cells slots Q (F0 m pc ls (v :: .ref a :: rest)) :=
  va_put (C := RX1) (T := TX1) (N := 11) S.1 S.2.1 S.2.2.2.2 hin_RX1 tyX1 tyX1_ok nmX1 S.2.2.2.1 hK.1 hP hD hS q0 he rfl 10 (by decide) (S.2.2.2.2 _ (wk2_7 5 rfl rfl)) (fun _ h9 => h9) rfl (tyX1_ok 10 (by decide)) hn hfit hl hdg kk
noncomputable def sxJx4a65c_grow_92f84_60 : List UInt8 := []
noncomputable def sxJx4a65c_grow_92f84_48 : List UInt8 := 27 :: 184 :: 0 :: 79 :: 189 :: 0 :: 7 :: 90 :: 181 :: 0 :: 9 :: 176 :: sxJx4a65c_grow_92f84_60
noncomputable def sxJx4a65c_grow_92f84_24 : List UInt8 := 28 :: 4 :: 122 :: 184 :: 0 :: 73 :: 62 :: 42 :: 42 :: 180 :: 0 :: 9 :: 29 :: 184 :: 0 :: 66 :: 90 :: 181 :: 0 :: 9 :: 176 :: 42 :: 16 :: 10 :: sxJx4a65c_grow_92f84_48
theorem shJx4a65c_grow_92f84_0 : cJx4a65c_grow_92f84.data.toList.drop 0 = 42 :: 180 :: 0 :: 9 :: 190 :: 61 :: 28 :: 157 :: 0 :: 13 :: 42 :: 180 :: 0 :: 9 :: 178 :: 0 :: 39 :: 165 :: 0 :: 28 :: 28 :: 27 :: 28 :: 100 :: sxJx4a65c_grow_92f84_24 := rfl
theorem shJx4a65c_grow_92f84_24 : cJx4a65c_grow_92f84.data.toList.drop 24 = 28 :: 4 :: 122 :: 184 :: 0 :: 73 :: 62 :: 42 :: 42 :: 180 :: 0 :: 9 :: 29 :: 184 :: 0 :: 66 :: 90 :: 181 :: 0 :: 9 :: 176 :: 42 :: 16 :: 10 :: sxJx4a65c_grow_92f84_48 := aq_24 shJx4a65c_grow_92f84_0
theorem shJx4a65c_grow_92f84_48 : cJx4a65c_grow_92f84.data.toList.drop 48 = 27 :: 184 :: 0 :: 79 :: 189 :: 0 :: 7 :: 90 :: 181 :: 0 :: 9 :: 176 :: sxJx4a65c_grow_92f84_60 := aq_24 shJx4a65c_grow_92f84_24
theorem dJx4a65c_grow_92f84_0 : decode cJx4a65c_grow_92f84 0 = .ok (.aload_n 0, 1) := oc_42 0 shJx4a65c_grow_92f84_0
theorem dJx4a65c_grow_92f84_1 : decode cJx4a65c_grow_92f84 1 = .ok (.getfield 9, 3) := oc_180 1 (aq_1 shJx4a65c_grow_92f84_0) uw_0_9
theorem dJx4a65c_grow_92f84_4 : decode cJx4a65c_grow_92f84 4 = .ok (.arraylength, 1) := oc_190 4 (aq_4 shJx4a65c_grow_92f84_0)
theorem dJx4a65c_grow_92f84_5 : decode cJx4a65c_grow_92f84 5 = .ok (.istore_n 2, 1) := oc_61 5 (aq_5 shJx4a65c_grow_92f84_0)
theorem dJx4a65c_grow_92f84_6 : decode cJx4a65c_grow_92f84 6 = .ok (.iload_n 2, 1) := oc_28 6 (aq_6 shJx4a65c_grow_92f84_0)
theorem dJx4a65c_grow_92f84_7 : decode cJx4a65c_grow_92f84 7 = .ok (.ifCond .gt 13, 3) := oc_157 7 (aq_7 shJx4a65c_grow_92f84_0) sgw_0_13
noncomputable def sxJx4a65c_grow_d5877_11 : List UInt8 := []
theorem shJx4a65c_grow_d5877_0 : cJx4a65c_grow_d5877.data.toList.drop 0 = 42 :: 42 :: 180 :: 0 :: 48 :: 4 :: 96 :: 182 :: 0 :: 69 :: 176 :: sxJx4a65c_grow_d5877_11 := rfl
theorem dJx4a65c_grow_d5877_0 : decode cJx4a65c_grow_d5877 0 = .ok (.aload_n 0, 1) := oc_42 0 shJx4a65c_grow_d5877_0
theorem dJx4a65c_grow_d5877_1 : decode cJx4a65c_grow_d5877 1 = .ok (.aload_n 0, 1) := oc_42 1 (aq_1 shJx4a65c_grow_d5877_0)
theorem dJx4a65c_grow_d5877_2 : decode cJx4a65c_grow_d5877 2 = .ok (.getfield 48, 3) := oc_180 2 (aq_2 shJx4a65c_grow_d5877_0) uw_0_48
theorem dJx4a65c_grow_d5877_5 : decode cJx4a65c_grow_d5877 5 = .ok (.iconst 1, 1) := oc_4 5 (aq_5 shJx4a65c_grow_d5877_0)
theorem dJx4a65c_grow_d5877_6 : decode cJx4a65c_grow_d5877 6 = .ok (.iadd, 1) := oc_96 6 (aq_6 shJx4a65c_grow_d5877_0)
theorem dJx4a65c_grow_d5877_7 : decode cJx4a65c_grow_d5877 7 = .ok (.invokevirtual 69, 3) := oc_182 7 (aq_7 shJx4a65c_grow_d5877_0) uw_0_69
theorem dJx4a65c_grow_d5877_10 : decode cJx4a65c_grow_d5877 10 = .ok (.areturn, 1) := oc_176 10 (aq_10 shJx4a65c_grow_d5877_0)
noncomputable def sxJx4a65c_add_72be8_23 : List UInt8 := []
theorem shJx4a65c_add_72be8_0 : cJx4a65c_add_72be8.data.toList.drop 0 = 29 :: 44 :: 190 :: 160 :: 0 :: 8 :: 42 :: 182 :: 0 :: 129 :: 77 :: 44 :: 29 :: 43 :: 83 :: 42 :: 29 :: 4 :: 96 :: 181 :: 0 :: 48 :: 177 :: sxJx4a65c_add_72be8_23 := rfl
theorem dJx4a65c_add_72be8_0 : decode cJx4a65c_add_72be8 0 = .ok (.iload_n 3, 1) := oc_29 0 shJx4a65c_add_72be8_0
theorem dJx4a65c_add_72be8_1 : decode cJx4a65c_add_72be8 1 = .ok (.aload_n 2, 1) := oc_44 1 (aq_1 shJx4a65c_add_72be8_0)
theorem dJx4a65c_add_72be8_2 : decode cJx4a65c_add_72be8 2 = .ok (.arraylength, 1) := oc_190 2 (aq_2 shJx4a65c_add_72be8_0)
theorem dJx4a65c_add_72be8_3 : decode cJx4a65c_add_72be8 3 = .ok (.if_icmp .ne 8, 3) := oc_160 3 (aq_3 shJx4a65c_add_72be8_0) sgw_0_8
theorem dJx4a65c_add_72be8_11 : decode cJx4a65c_add_72be8 11 = .ok (.aload_n 2, 1) := oc_44 11 (aq_11 shJx4a65c_add_72be8_0)
theorem dJx4a65c_add_72be8_12 : decode cJx4a65c_add_72be8 12 = .ok (.iload_n 3, 1) := oc_29 12 (aq_12 shJx4a65c_add_72be8_0)
theorem dJx4a65c_add_72be8_13 : decode cJx4a65c_add_72be8 13 = .ok (.aload_n 1, 1) := oc_43 13 (aq_13 shJx4a65c_add_72be8_0)
theorem dJx4a65c_add_72be8_14 : decode cJx4a65c_add_72be8 14 = .ok (.aastore, 1) := oc_83 14 (aq_14 shJx4a65c_add_72be8_0)
theorem dJx4a65c_add_72be8_15 : decode cJx4a65c_add_72be8 15 = .ok (.aload_n 0, 1) := oc_42 15 (aq_15 shJx4a65c_add_72be8_0)
theorem dJx4a65c_add_72be8_16 : decode cJx4a65c_add_72be8 16 = .ok (.iload_n 3, 1) := oc_29 16 (aq_16 shJx4a65c_add_72be8_0)
theorem dJx4a65c_add_72be8_17 : decode cJx4a65c_add_72be8 17 = .ok (.iconst 1, 1) := oc_4 17 (aq_17 shJx4a65c_add_72be8_0)
theorem dJx4a65c_add_72be8_18 : decode cJx4a65c_add_72be8 18 = .ok (.iadd, 1) := oc_96 18 (aq_18 shJx4a65c_add_72be8_0)
theorem dJx4a65c_add_72be8_19 : decode cJx4a65c_add_72be8 19 = .ok (.putfield 48, 3) := oc_181 19 (aq_19 shJx4a65c_add_72be8_0) uw_0_48
theorem dJx4a65c_add_72be8_22 : decode cJx4a65c_add_72be8 22 = .ok (.return_, 1) := oc_177 22 (aq_22 shJx4a65c_add_72be8_0)
noncomputable def sxJx4a65c_add_9ea2d_25 : List UInt8 := []
noncomputable def sxJx4a65c_add_9ea2d_24 : List UInt8 := 172 :: sxJx4a65c_add_9ea2d_25
theorem shJx4a65c_add_9ea2d_0 : cJx4a65c_add_9ea2d.data.toList.drop 0 = 42 :: 89 :: 180 :: 0 :: 63 :: 4 :: 96 :: 181 :: 0 :: 63 :: 42 :: 43 :: 42 :: 180 :: 0 :: 9 :: 42 :: 180 :: 0 :: 48 :: 182 :: 0 :: 131 :: 4 :: sxJx4a65c_add_9ea2d_24 := rfl
theorem shJx4a65c_add_9ea2d_24 : cJx4a65c_add_9ea2d.data.toList.drop 24 = 172 :: sxJx4a65c_add_9ea2d_25 := aq_24 shJx4a65c_add_9ea2d_0
theorem dJx4a65c_add_9ea2d_0 : decode cJx4a65c_add_9ea2d 0 = .ok (.aload_n 0, 1) := oc_42 0 shJx4a65c_add_9ea2d_0
theorem dJx4a65c_add_9ea2d_1 : decode cJx4a65c_add_9ea2d 1 = .ok (.dup, 1) := oc_89 1 (aq_1 shJx4a65c_add_9ea2d_0)
theorem dJx4a65c_add_9ea2d_2 : decode cJx4a65c_add_9ea2d 2 = .ok (.getfield 63, 3) := oc_180 2 (aq_2 shJx4a65c_add_9ea2d_0) uw_0_63
theorem dJx4a65c_add_9ea2d_5 : decode cJx4a65c_add_9ea2d 5 = .ok (.iconst 1, 1) := oc_4 5 (aq_5 shJx4a65c_add_9ea2d_0)
theorem dJx4a65c_add_9ea2d_6 : decode cJx4a65c_add_9ea2d 6 = .ok (.iadd, 1) := oc_96 6 (aq_6 shJx4a65c_add_9ea2d_0)
theorem dJx4a65c_add_9ea2d_7 : decode cJx4a65c_add_9ea2d 7 = .ok (.putfield 63, 3) := oc_181 7 (aq_7 shJx4a65c_add_9ea2d_0) uw_0_63
theorem dJx4a65c_add_9ea2d_10 : decode cJx4a65c_add_9ea2d 10 = .ok (.aload_n 0, 1) := oc_42 10 (aq_10 shJx4a65c_add_9ea2d_0)
theorem dJx4a65c_add_9ea2d_11 : decode cJx4a65c_add_9ea2d 11 = .ok (.aload_n 1, 1) := oc_43 11 (aq_11 shJx4a65c_add_9ea2d_0)
theorem dJx4a65c_add_9ea2d_12 : decode cJx4a65c_add_9ea2d 12 = .ok (.aload_n 0, 1) := oc_42 12 (aq_12 shJx4a65c_add_9ea2d_0)
theorem dJx4a65c_add_9ea2d_13 : decode cJx4a65c_add_9ea2d 13 = .ok (.getfield 9, 3) := oc_180 13 (aq_13 shJx4a65c_add_9ea2d_0) uw_0_9
theorem dJx4a65c_add_9ea2d_16 : decode cJx4a65c_add_9ea2d 16 = .ok (.aload_n 0, 1) := oc_42 16 (aq_16 shJx4a65c_add_9ea2d_0)
theorem dJx4a65c_add_9ea2d_17 : decode cJx4a65c_add_9ea2d 17 = .ok (.getfield 48, 3) := oc_180 17 (aq_17 shJx4a65c_add_9ea2d_0) uw_0_48
theorem dJx4a65c_add_9ea2d_20 : decode cJx4a65c_add_9ea2d 20 = .ok (.invokevirtual 131, 3) := oc_182 20 (aq_20 shJx4a65c_add_9ea2d_0) uw_0_131
theorem dJx4a65c_add_9ea2d_23 : decode cJx4a65c_add_9ea2d 23 = .ok (.iconst 1, 1) := oc_4 23 (aq_23 shJx4a65c_add_9ea2d_0)
theorem dJx4a65c_add_9ea2d_24 : decode cJx4a65c_add_9ea2d 24 = .ok (.ireturn, 1) := oc_172 24 shJx4a65c_add_9ea2d_24
theorem dJx4a65c_add_72be8_6 : decode cJx4a65c_add_72be8 6 = .ok (.aload_n 0, 1) := oc_42 6 (aq_6 shJx4a65c_add_72be8_0)
theorem dJx4a65c_add_72be8_7 : decode cJx4a65c_add_72be8 7 = .ok (.invokevirtual 129, 3) := oc_182 7 (aq_7 shJx4a65c_add_72be8_0) uw_0_129
theorem dJx4a65c_add_72be8_10 : decode cJx4a65c_add_72be8 10 = .ok (.astore_n 2, 1) := oc_77 10 (aq_10 shJx4a65c_add_72be8_0)
noncomputable def sxX6_init_15 : List UInt8 := []
theorem shX6_init_0 : cX6_init.data.toList.drop 0 = 42 :: 183 :: 0 :: 1 :: 42 :: 27 :: 181 :: 0 :: 7 :: 42 :: 28 :: 181 :: 0 :: 13 :: 177 :: sxX6_init_15 := rfl
noncomputable def sxX3_init_20 : List UInt8 := []
theorem shX3_init_0 : cX3_init.data.toList.drop 0 = 42 :: 183 :: 0 :: 1 :: 42 :: 27 :: 181 :: 0 :: 7 :: 42 :: 28 :: 181 :: 0 :: 13 :: 42 :: 29 :: 181 :: 0 :: 16 :: 177 :: sxX3_init_20 := rfl
noncomputable def sxX4_init_32 : List UInt8 := []
noncomputable def sxX4_init_25 : List UInt8 := 42 :: 21 :: 5 :: 181 :: 0 :: 22 :: 177 :: sxX4_init_32
theorem shX4_init_0 : cX4_init.data.toList.drop 0 = 42 :: 183 :: 0 :: 1 :: 42 :: 27 :: 181 :: 0 :: 7 :: 42 :: 28 :: 181 :: 0 :: 13 :: 42 :: 29 :: 181 :: 0 :: 16 :: 42 :: 21 :: 4 :: 181 :: 0 :: 19 :: sxX4_init_25 := rfl
theorem shX4_init_25 : cX4_init.data.toList.drop 25 = 42 :: 21 :: 5 :: 181 :: 0 :: 22 :: 177 :: sxX4_init_32 := aq_25 shX4_init_0
noncomputable def sxX2_init_38 : List UInt8 := []
noncomputable def sxX2_init_25 : List UInt8 := 42 :: 21 :: 5 :: 181 :: 0 :: 22 :: 42 :: 21 :: 6 :: 181 :: 0 :: 25 :: 177 :: sxX2_init_38
theorem shX2_init_0 : cX2_init.data.toList.drop 0 = 42 :: 183 :: 0 :: 1 :: 42 :: 27 :: 181 :: 0 :: 7 :: 42 :: 28 :: 181 :: 0 :: 13 :: 42 :: 29 :: 181 :: 0 :: 16 :: 42 :: 21 :: 4 :: 181 :: 0 :: 19 :: sxX2_init_25 := rfl
theorem shX2_init_25 : cX2_init.data.toList.drop 25 = 42 :: 21 :: 5 :: 181 :: 0 :: 22 :: 42 :: 21 :: 6 :: 181 :: 0 :: 25 :: 177 :: sxX2_init_38 := aq_25 shX2_init_0
noncomputable def sxX0_init_13 : List UInt8 := []
theorem shX0_init_0 : cX0_init.data.toList.drop 0 = 42 :: 183 :: 0 :: 1 :: 42 :: 16 :: 12 :: 188 :: 10 :: 181 :: 0 :: 9 :: 177 :: sxX0_init_13 := rfl
noncomputable def sxX9_init_48 : List UInt8 := []
noncomputable def sxX9_init_24 : List UInt8 := 16 :: 12 :: 188 :: 10 :: 181 :: 0 :: 24 :: 42 :: 16 :: 12 :: 188 :: 10 :: 181 :: 0 :: 27 :: 42 :: 16 :: 32 :: 188 :: 10 :: 181 :: 0 :: 30 :: 177 :: sxX9_init_48
theorem shX9_init_0 : cX9_init.data.toList.drop 0 = 42 :: 183 :: 0 :: 5 :: 42 :: 27 :: 3 :: 184 :: 0 :: 11 :: 188 :: 10 :: 181 :: 0 :: 17 :: 42 :: 16 :: 12 :: 188 :: 10 :: 181 :: 0 :: 21 :: 42 :: sxX9_init_24 := rfl
theorem shX9_init_24 : cX9_init.data.toList.drop 24 = 16 :: 12 :: 188 :: 10 :: 181 :: 0 :: 24 :: 42 :: 16 :: 12 :: 188 :: 10 :: 181 :: 0 :: 27 :: 42 :: 16 :: 32 :: 188 :: 10 :: 181 :: 0 :: 30 :: 177 :: sxX9_init_48 := aq_24 shX9_init_0
noncomputable def sxX1_init_38 : List UInt8 := []
noncomputable def sxX1_init_25 : List UInt8 := 42 :: 187 :: 0 :: 22 :: 89 :: 3 :: 183 :: 0 :: 24 :: 181 :: 0 :: 27 :: 177 :: sxX1_init_38
theorem shX1_init_0 : cX1_init.data.toList.drop 0 = 42 :: 183 :: 0 :: 1 :: 42 :: 27 :: 181 :: 0 :: 7 :: 42 :: 28 :: 181 :: 0 :: 13 :: 42 :: 29 :: 181 :: 0 :: 16 :: 42 :: 21 :: 4 :: 181 :: 0 :: 19 :: sxX1_init_25 := rfl
theorem shX1_init_25 : cX1_init.data.toList.drop 25 = 42 :: 187 :: 0 :: 22 :: 89 :: 3 :: 183 :: 0 :: 24 :: 181 :: 0 :: 27 :: 177 :: sxX1_init_38 := aq_25 shX1_init_0
set_option maxRecDepth 100000 in
set_option maxHeartbeats 4000000 in
theorem q_l_grow1 (l : Launch) (D : va_G) (cI cB cZ : ClassId) (zz qq vv : Nat) (bt : Nat → Int32) (x : Nat) (mc : Int32) (sz : Nat) : Met l yJx4a65c_grow_92f84 (CWS yJx4a65c_grow_92f84 cJx4a65c_grow_92f84 4 (some (.array (.object "java/lang/Object")))) (RM 1 1 10) (PBx [.ref x, .int 1] D cI cB cZ zz qq vv bt [(x, .inr (0, [.int mc, .ref zz, .int 0]))] sz) (va_Qq (fun (r : Option Nat) (u : Nat) => r = some u) (fun (u : Nat) (t : State) => va_P D vwCl [(x, .inr (0, [.int mc, .ref u, .int 0])), (u, .inl (D.1 99, 10, .inr (.inr (.inr (.inr (fun _ => none))))))] t.heap ∧ va_D (va_A [(x, .inr (0, [.int mc, .ref zz, .int 0]))] sz) [(x, .inr (0, [.int mc, .ref u, .int 0])), (u, .inl (D.1 99, 10, .inr (.inr (.inr (.inr (fun _ => none))))))]) (va_A [(x, .inr (0, [.int mc, .ref zz, .int 0]))] sz)) 1 10 (va_A [(x, .inr (0, [.int mc, .ref zz, .int 0]))] sz) := by
  refine en_x (fun A => (va_Qq (fun (r : Option Nat) (u : Nat) => r = some u) (fun (u : Nat) (t : State) => va_P D vwCl [(x, .inr (0, [.int mc, .ref u, .int 0])), (u, .inl (D.1 99, 10, .inr (.inr (.inr (.inr (fun _ => none))))))] t.heap ∧ va_D A [(x, .inr (0, [.int mc, .ref u, .int 0])), (u, .inl (D.1 99, 10, .inr (.inr (.inr (.inr (fun _ => none))))))]) A)) rfl rfl pn_RJx4a65c (Nat.le_of_ble_eq_true rfl) (fun p e s m below meth c A hx hb hml hown S hr hlocks hnm hA hP hK hD hXS hS ls hl => ?_)
  have hP : va_P D vwCl [(x, .inr (0, [.int mc, .ref zz, .int 0]))] s.heap := hP
  have hD : va_D A [(x, .inr (0, [.int mc, .ref zz, .int 0]))] := hD
  have hl : lv_has ls 4 [(0, .ref x), (1, .int 1)] := hl
  refine lv_aload_n hx hb dJx4a65c_grow_92f84_0 rfl (lvA0 hl) ?_
  refine gf_RJx4a65c_9 S hK hP 0 rfl (v := .ref zz) rfl dJx4a65c_grow_92f84_1 ?_
  refine va_tlen hx hb hXS.2.2.1 hS (v := 0) rfl dJx4a65c_grow_92f84_4 ?_
  refine lv_istore_n (lv' := [(2, .int 0), (0, .ref x), (1, .int 1)]) hx hb dJx4a65c_grow_92f84_5 rfl hl (ltb rfl) rfl (fun ls hl => ?_)
  refine lv_iload_n hx hb dJx4a65c_grow_92f84_6 rfl (lvA0 hl) ?_
  refine lv_if_gt (tgt := 20) hx hb dJx4a65c_grow_92f84_7 rfl (fun h => absurd h cq_lt_0_0) (fun _ => ?_)
  refine lv_aload_n hx hb (oc_42 10 (aq_10 shJx4a65c_grow_92f84_0)) rfl (lvA1 hl) ?_
  refine gf_RJx4a65c_9 S hK hP 0 rfl (v := .ref zz) rfl (oc_180 11 (aq_11 shJx4a65c_grow_92f84_0) uw_0_9) ?_
  refine va_gets hx hb hXS.2.1 hS hown (S.2.2.2.2 _ (wk1_18 6 rfl rfl)) (fun _ h9 => h9) (oc_178 14 (aq_14 shJx4a65c_grow_92f84_0) uw_0_39) ?_
  refine lv_acmp_eq (rx := some zz) (ry := some zz) (tgt := 45) hx hb (oc_165 17 (aq_17 shJx4a65c_grow_92f84_0) sgw_0_28) (by decide) (fun _ => ?_) (fun h => absurd rfl h)
  refine lv_aload_n hx hb (oc_42 45 (aq_21 shJx4a65c_grow_92f84_24)) rfl (lvA1 hl) ?_
  refine lv_bipush (v := 10) hx hb (oc_16 46 (aq_22 shJx4a65c_grow_92f84_24) sgb_10) kbc_10 ?_
  refine lv_iload_n hx hb (oc_27 48 shJx4a65c_grow_92f84_48) rfl (lvA2 hl) ?_
  refine va_mmax hx hb (by rw [hml]; exact hl.1.symm) hown (S.2.2.2.2 _ (wk2_14 3 rfl rfl)) (S.2.2.2.2 _ (wk1_3 6 rfl rfl)) (S.2.2.2.2 _ (wk1_0 3 rfl rfl)) (S.2.2.2.2 _ (wk1_3 7 rfl rfl)) (Nat.le_of_ble_eq_true rfl) (Nat.le_of_ble_eq_true rfl) (Nat.le_of_ble_eq_true rfl) (Nat.le_of_ble_eq_true rfl) (oc_184 49 (aq_1 shJx4a65c_grow_92f84_48) uw_0_79) ?_
  refine lv_topi (fun y_1 ey_1 => ?_)
  obtain rfl : y_1 = 10 := ey_1.trans (by decide)
  refine newq_obj S hXS hK hP hD hS hA (N' := 10) (wk2_14 4 rfl rfl) (by decide) (by decide) (Nat.le_of_ble_eq_true rfl) (Nat.le_of_ble_eq_true rfl) (Nat.le_of_ble_eq_true rfl) (oc_189 52 (aq_4 shJx4a65c_grow_92f84_48) uw_0_7) (fun q52 H hP hD hS => ?_)
  have hP : va_P D vwCl [(x, .inr (0, [.int mc, .ref zz, .int 0])), (q52, .inl (D.1 99, 10, .inr (.inr (.inr (.inr (fun _ => none))))))] H := hP
  have hD : va_D A [(x, .inr (0, [.int mc, .ref zz, .int 0])), (q52, .inl (D.1 99, 10, .inr (.inr (.inr (.inr (fun _ => none))))))] := hD
  refine lv_dup_x1 hx hb (oc_90 55 (aq_7 shJx4a65c_grow_92f84_48)) rfl rfl ?_
  refine pf_RJx4a65c_9 S hK hP hD hS 0 rfl (v := .ref q52) (Nat.le_of_ble_eq_true rfl) rfl rfl (oc_181 56 (aq_8 shJx4a65c_grow_92f84_48) uw_0_9) (fun H locs hP hD hS => ?_)
  have hP : va_P D vwCl [(x, .inr (0, [.int mc, .ref q52, .int 0])), (q52, .inl (D.1 99, 10, .inr (.inr (.inr (.inr (fun _ => none))))))] H := hP
  have hD : va_D A [(x, .inr (0, [.int mc, .ref q52, .int 0])), (q52, .inl (D.1 99, 10, .inr (.inr (.inr (.inr (fun _ => none))))))] := hD
  have hP9 := hP.sub (ws' := [(x, .inr (0, [.int mc, .ref q52, .int 0])), (q52, .inl (D.1 99, 10, .inr (.inr (.inr (.inr (fun _ => none))))))]) [0, 1] rfl
  have hD9 := hD.sub (ws' := [(x, .inr (0, [.int mc, .ref q52, .int 0])), (q52, .inl (D.1 99, 10, .inr (.inr (.inr (.inr (fun _ => none))))))]) [0, 1] (by decide) rfl
  exact W.aret (v := .ref q52) hx hb hr (by first | exact Or.inl ⟨_, rfl⟩ | exact Or.inr ⟨_, rfl⟩) (Or.inr ⟨_, rfl⟩) (fun t ht hW => ⟨⟨some q52, q52, rfl, rfl, by rw [ht]; exact hP9, hD9⟩, hS.F ht⟩) hS.2.2 (oc_176 59 (aq_11 shJx4a65c_grow_92f84_48))
set_option maxRecDepth 100000 in
set_option maxHeartbeats 4000000 in
theorem q_l_grow0 (l : Launch) (D : va_G) (cI cB cZ : ClassId) (zz qq vv : Nat) (bt : Nat → Int32) (x : Nat) (mc : Int32) (sz : Nat) : Met l yJx4a65c_grow_d5877 (CWS yJx4a65c_grow_d5877 cJx4a65c_grow_d5877 1 (some (.array (.object "java/lang/Object")))) (RM 2 1 10) (PBx [.ref x] D cI cB cZ zz qq vv bt [(x, .inr (0, [.int mc, .ref zz, .int 0]))] sz) (va_Qq (fun (r : Option Nat) (u : Nat) => r = some u) (fun (u : Nat) (t : State) => va_P D vwCl [(x, .inr (0, [.int mc, .ref u, .int 0])), (u, .inl (D.1 99, 10, .inr (.inr (.inr (.inr (fun _ => none))))))] t.heap ∧ va_D (va_A [(x, .inr (0, [.int mc, .ref zz, .int 0]))] sz) [(x, .inr (0, [.int mc, .ref u, .int 0])), (u, .inl (D.1 99, 10, .inr (.inr (.inr (.inr (fun _ => none))))))]) (va_A [(x, .inr (0, [.int mc, .ref zz, .int 0]))] sz)) 1 10 (va_A [(x, .inr (0, [.int mc, .ref zz, .int 0]))] sz) := by
  refine en_x (fun A => (va_Qq (fun (r : Option Nat) (u : Nat) => r = some u) (fun (u : Nat) (t : State) => va_P D vwCl [(x, .inr (0, [.int mc, .ref u, .int 0])), (u, .inl (D.1 99, 10, .inr (.inr (.inr (.inr (fun _ => none))))))] t.heap ∧ va_D A [(x, .inr (0, [.int mc, .ref u, .int 0])), (u, .inl (D.1 99, 10, .inr (.inr (.inr (.inr (fun _ => none))))))]) A)) rfl rfl pn_RJx4a65c (Nat.le_of_ble_eq_true rfl) (fun p e s m below meth c A hx hb hml hown S hr hlocks hnm hA hP hK hD hXS hS ls hl => ?_)
  have hP : va_P D vwCl [(x, .inr (0, [.int mc, .ref zz, .int 0]))] s.heap := hP
  have hD : va_D A [(x, .inr (0, [.int mc, .ref zz, .int 0]))] := hD
  have hl : lv_has ls 1 [(0, .ref x)] := hl
  refine lv_aload_n hx hb dJx4a65c_grow_d5877_0 rfl (lvA0 hl) ?_
  refine lv_aload_n hx hb dJx4a65c_grow_d5877_1 rfl (lvA0 hl) ?_
  refine gf_RJx4a65c_48 S hK hP 0 rfl (v := .int 0) rfl dJx4a65c_grow_d5877_2 ?_
  refine lv_iconst (v := 1) hx hb dJx4a65c_grow_d5877_5 kic_1 ?_
  refine lv_iadd hx hb dJx4a65c_grow_d5877_6 ?_
  refine lv_topi (fun y_1 ey_1 => ?_)
  obtain rfl : y_1 = 1 := ey_1.trans (by decide)
  have hFc := va_free (wc := [(x, .inr (0, [.int mc, .ref zz, .int 0]))]) hD hS hA [0] rfl
  refine va_callq (runV_x (As := [.int 1]) (rest := []) S (q_l_grow1 l D cI cB cZ zz qq vv bt x mc s.heap.size) kV_RJx4a65c_69 hK hXS hS hFc hP hD [0] rfl rfl (by decide) 0 rfl rfl rfl ⟨Nat.le_of_ble_eq_true rfl, Nat.le_of_ble_eq_true rfl⟩ ⟨Nat.le_of_ble_eq_true rfl, Nat.le_of_ble_eq_true rfl⟩ rfl hl.1 rfl (Nat.le_of_ble_eq_true rfl) dJx4a65c_grow_d5877_7) hS (fun q _ h => hFc q h) hFc (fun r_2 u_3 t H1 locs ht hvm h_4 hB hz1 hk1 hS => ?_)
  obtain ⟨hP1, hD1⟩ := hB
  rw [ht] at hP1
  obtain ⟨hP, hD⟩ := va_join (wr := []) (w1 := [(x, .inr (0, [.int mc, .ref u_3, .int 0])), (u_3, .inl (D.1 99, 10, .inr (.inr (.inr (.inr (fun _ => none))))))]) hP hD [0] [] rfl rfl (by decide) (by decide) hk1 hFc hP1 hD1
  generalize H1 = H at hP hS ⊢
  have hP : va_P D vwCl [(x, .inr (0, [.int mc, .ref u_3, .int 0])), (u_3, .inl (D.1 99, 10, .inr (.inr (.inr (.inr (fun _ => none))))))] H := hP
  have hD : va_D A [(x, .inr (0, [.int mc, .ref u_3, .int 0])), (u_3, .inl (D.1 99, 10, .inr (.inr (.inr (.inr (fun _ => none))))))] := hD
  subst h_4
  have hP9 := hP.sub (ws' := [(x, .inr (0, [.int mc, .ref u_3, .int 0])), (u_3, .inl (D.1 99, 10, .inr (.inr (.inr (.inr (fun _ => none))))))]) [0, 1] rfl
  have hD9 := hD.sub (ws' := [(x, .inr (0, [.int mc, .ref u_3, .int 0])), (u_3, .inl (D.1 99, 10, .inr (.inr (.inr (.inr (fun _ => none))))))]) [0, 1] (by decide) rfl
  exact W.aret (v := .ref u_3) hx hb hr (by first | exact Or.inl ⟨_, rfl⟩ | exact Or.inr ⟨_, rfl⟩) (Or.inr ⟨_, rfl⟩) (fun t ht hW => ⟨⟨some u_3, u_3, rfl, rfl, by rw [ht]; exact hP9, hD9⟩, hS.F ht⟩) hS.2.2 dJx4a65c_grow_d5877_10
set_option maxRecDepth 100000 in
set_option maxHeartbeats 4000000 in
theorem q_l_add3ZK (l : Launch) (D : va_G) (cI cB cZ : ClassId) (zz qq vv : Nat) (bt : Nat → Int32) (x eo : Nat) (mc : Int32) (e0 e1 e2 e3 e4 e5 e6 e7 e8 e9 : Int32) (w : Nat) (sz : Nat) : Met l yJx4a65c_add_72be8 (CWS yJx4a65c_add_72be8 cJx4a65c_add_72be8 4 none) (RM 3 1 10) (PBx [.ref x, .ref eo, .ref zz, .int 0] D cI cB cZ zz qq vv bt [(x, .inr (0, [.int mc, .ref zz, .int 0])), (eo, .inr (2, [.int e0, .int e1, .int e2, .int e3, .int e4, .int e5, .int e6, .int e7, .int e8, .int e9, .ref w]))] sz) (va_Qv (fun (_ : Nat) => True) (fun (u : Nat) (t : State) => va_P D vwCl [(x, .inr (0, [.int mc, .ref u, .int 1])), (u, .inl (D.1 99, 10, .inr (.inr (.inr (.inr (va_up (fun _ => none) 0 (some eo))))))), (eo, .inr (2, [.int e0, .int e1, .int e2, .int e3, .int e4, .int e5, .int e6, .int e7, .int e8, .int e9, .ref w]))] t.heap ∧ va_D (va_A [(x, .inr (0, [.int mc, .ref zz, .int 0])), (eo, .inr (2, [.int e0, .int e1, .int e2, .int e3, .int e4, .int e5, .int e6, .int e7, .int e8, .int e9, .ref w]))] sz) [(x, .inr (0, [.int mc, .ref u, .int 1])), (u, .inl (D.1 99, 10, .inr (.inr (.inr (.inr (va_up (fun _ => none) 0 (some eo))))))), (eo, .inr (2, [.int e0, .int e1, .int e2, .int e3, .int e4, .int e5, .int e6, .int e7, .int e8, .int e9, .ref w]))]) (va_A [(x, .inr (0, [.int mc, .ref zz, .int 0])), (eo, .inr (2, [.int e0, .int e1, .int e2, .int e3, .int e4, .int e5, .int e6, .int e7, .int e8, .int e9, .ref w]))] sz)) 1 10 (va_A [(x, .inr (0, [.int mc, .ref zz, .int 0])), (eo, .inr (2, [.int e0, .int e1, .int e2, .int e3, .int e4, .int e5, .int e6, .int e7, .int e8, .int e9, .ref w]))] sz) := by
  refine en_x (fun A => (va_Qv (fun (_ : Nat) => True) (fun (u : Nat) (t : State) => va_P D vwCl [(x, .inr (0, [.int mc, .ref u, .int 1])), (u, .inl (D.1 99, 10, .inr (.inr (.inr (.inr (va_up (fun _ => none) 0 (some eo))))))), (eo, .inr (2, [.int e0, .int e1, .int e2, .int e3, .int e4, .int e5, .int e6, .int e7, .int e8, .int e9, .ref w]))] t.heap ∧ va_D A [(x, .inr (0, [.int mc, .ref u, .int 1])), (u, .inl (D.1 99, 10, .inr (.inr (.inr (.inr (va_up (fun _ => none) 0 (some eo))))))), (eo, .inr (2, [.int e0, .int e1, .int e2, .int e3, .int e4, .int e5, .int e6, .int e7, .int e8, .int e9, .ref w]))]) A)) rfl rfl pn_RJx4a65c (Nat.le_of_ble_eq_true rfl) (fun p e s m below meth c A hx hb hml hown S hr hlocks hnm hA hP hK hD hXS hS ls hl => ?_)
  have hP : va_P D vwCl [(x, .inr (0, [.int mc, .ref zz, .int 0])), (eo, .inr (2, [.int e0, .int e1, .int e2, .int e3, .int e4, .int e5, .int e6, .int e7, .int e8, .int e9, .ref w]))] s.heap := hP
  have hD : va_D A [(x, .inr (0, [.int mc, .ref zz, .int 0])), (eo, .inr (2, [.int e0, .int e1, .int e2, .int e3, .int e4, .int e5, .int e6, .int e7, .int e8, .int e9, .ref w]))] := hD
  have hl : lv_has ls 4 [(0, .ref x), (1, .ref eo), (2, .ref zz), (3, .int 0)] := hl
  refine lv_iload_n hx hb dJx4a65c_add_72be8_0 rfl (lvA3 hl) ?_
  refine lv_aload_n hx hb dJx4a65c_add_72be8_1 rfl (lvA2 hl) ?_
  refine va_tlen hx hb hXS.2.2.1 hS (v := 0) rfl dJx4a65c_add_72be8_2 ?_
  refine lv_icmp_ne (tgt := 11) hx hb dJx4a65c_add_72be8_3 rfl (fun h => absurd h cq_eq_0_0) (fun _ => ?_)
  refine lv_aload_n hx hb dJx4a65c_add_72be8_6 rfl (lvA0 hl) ?_
  have hFc := va_free (wc := [(x, .inr (0, [.int mc, .ref zz, .int 0]))]) hD hS hA [0] rfl
  refine va_callq (runV_x (As := []) (rest := []) S (q_l_grow0 l D cI cB cZ zz qq vv bt x mc s.heap.size) kV_RJx4a65c_129 hK hXS hS hFc hP hD [0] rfl rfl (by decide) 0 rfl rfl rfl ⟨Nat.le_of_ble_eq_true rfl, Nat.le_of_ble_eq_true rfl⟩ ⟨Nat.le_of_ble_eq_true rfl, Nat.le_of_ble_eq_true rfl⟩ rfl hl.1 rfl (Nat.le_of_ble_eq_true rfl) dJx4a65c_add_72be8_7) hS (fun q _ h => hFc q h) hFc (fun r_1 u_2 t H1 locs ht hvm h_3 hB hz1 hk1 hS => ?_)
  obtain ⟨hP1, hD1⟩ := hB
  rw [ht] at hP1
  obtain ⟨hP, hD⟩ := va_join (wr := [(eo, .inr (2, [.int e0, .int e1, .int e2, .int e3, .int e4, .int e5, .int e6, .int e7, .int e8, .int e9, .ref w]))]) (w1 := [(x, .inr (0, [.int mc, .ref u_2, .int 0])), (u_2, .inl (D.1 99, 10, .inr (.inr (.inr (.inr (fun _ => none))))))]) hP hD [0] [1] rfl rfl (by decide) (by decide) hk1 hFc hP1 hD1
  generalize H1 = H at hP hS ⊢
  have hP : va_P D vwCl [(eo, .inr (2, [.int e0, .int e1, .int e2, .int e3, .int e4, .int e5, .int e6, .int e7, .int e8, .int e9, .ref w])), (x, .inr (0, [.int mc, .ref u_2, .int 0])), (u_2, .inl (D.1 99, 10, .inr (.inr (.inr (.inr (fun _ => none))))))] H := hP
  have hD : va_D A [(eo, .inr (2, [.int e0, .int e1, .int e2, .int e3, .int e4, .int e5, .int e6, .int e7, .int e8, .int e9, .ref w])), (x, .inr (0, [.int mc, .ref u_2, .int 0])), (u_2, .inl (D.1 99, 10, .inr (.inr (.inr (.inr (fun _ => none))))))] := hD
  subst h_3
  refine lv_astore_n (lv' := [(2, .ref u_2), (0, .ref x), (1, .ref eo), (3, .int 0)]) hx hb dJx4a65c_add_72be8_10 rfl hl (ltb rfl) rfl (fun ls hl => ?_)
  refine lv_aload_n hx hb dJx4a65c_add_72be8_11 rfl (lvA0 hl) ?_
  refine lv_iload_n hx hb dJx4a65c_add_72be8_12 rfl (lvA3 hl) ?_
  refine lv_aload_n hx hb dJx4a65c_add_72be8_13 rfl (lvA2 hl) ?_
  have hca14 : va_Nw (.castable (RX1, TX1, 11).1 "java/lang/Object") s := hXS.2.2.2.2.2.2.2.2.2.2.1
  refine va_astqO (r := (RX1, TX1, 11)) (E := "java/lang/Object") (cA := D.1 99) hx hb hXS.2.2.2.2.2.2.2.2.1 hP hD hS 2 0 0 2 rfl rfl hca14 rfl rfl (by unfold vp_in; decide) dJx4a65c_add_72be8_14 (fun H locs hP hD hS => ?_)
  have hP : va_P D vwCl [(eo, .inr (2, [.int e0, .int e1, .int e2, .int e3, .int e4, .int e5, .int e6, .int e7, .int e8, .int e9, .ref w])), (x, .inr (0, [.int mc, .ref u_2, .int 0])), (u_2, .inl (D.1 99, 10, .inr (.inr (.inr (.inr (va_up (fun _ => none) (0 : Int32).toNatClampNeg (some eo)))))))] H := hP
  have hD : va_D A [(eo, .inr (2, [.int e0, .int e1, .int e2, .int e3, .int e4, .int e5, .int e6, .int e7, .int e8, .int e9, .ref w])), (x, .inr (0, [.int mc, .ref u_2, .int 0])), (u_2, .inl (D.1 99, 10, .inr (.inr (.inr (.inr (va_up (fun _ => none) (0 : Int32).toNatClampNeg (some eo)))))))] := hD
  rw [show (0 : Int32).toNatClampNeg = 0 by decide] at hP hD
  have hP : va_P D vwCl [(eo, .inr (2, [.int e0, .int e1, .int e2, .int e3, .int e4, .int e5, .int e6, .int e7, .int e8, .int e9, .ref w])), (x, .inr (0, [.int mc, .ref u_2, .int 0])), (u_2, .inl (D.1 99, 10, .inr (.inr (.inr (.inr (va_up (fun _ => none) 0 (some eo)))))))] H := hP
  have hD : va_D A [(eo, .inr (2, [.int e0, .int e1, .int e2, .int e3, .int e4, .int e5, .int e6, .int e7, .int e8, .int e9, .ref w])), (x, .inr (0, [.int mc, .ref u_2, .int 0])), (u_2, .inl (D.1 99, 10, .inr (.inr (.inr (.inr (va_up (fun _ => none) 0 (some eo)))))))] := hD
  refine lv_aload_n hx hb dJx4a65c_add_72be8_15 rfl (lvA1 hl) ?_
  refine lv_iload_n hx hb dJx4a65c_add_72be8_16 rfl (lvA3 hl) ?_
  refine lv_iconst (v := 1) hx hb dJx4a65c_add_72be8_17 kic_1 ?_
  refine lv_iadd hx hb dJx4a65c_add_72be8_18 ?_
  refine lv_topi (fun y_4 ey_4 => ?_)
  obtain rfl : y_4 = 1 := ey_4.trans (by decide)
  refine pf_RJx4a65c_48 S hK hP hD hS 1 rfl (v := .int 1) (Nat.le_of_ble_eq_true rfl) rfl rfl dJx4a65c_add_72be8_19 (fun H locs hP hD hS => ?_)
  have hP : va_P D vwCl [(eo, .inr (2, [.int e0, .int e1, .int e2, .int e3, .int e4, .int e5, .int e6, .int e7, .int e8, .int e9, .ref w])), (x, .inr (0, [.int mc, .ref u_2, .int 1])), (u_2, .inl (D.1 99, 10, .inr (.inr (.inr (.inr (va_up (fun _ => none) 0 (some eo)))))))] H := hP
  have hD : va_D A [(eo, .inr (2, [.int e0, .int e1, .int e2, .int e3, .int e4, .int e5, .int e6, .int e7, .int e8, .int e9, .ref w])), (x, .inr (0, [.int mc, .ref u_2, .int 1])), (u_2, .inl (D.1 99, 10, .inr (.inr (.inr (.inr (va_up (fun _ => none) 0 (some eo)))))))] := hD
  have hP9 := hP.sub (ws' := [(x, .inr (0, [.int mc, .ref u_2, .int 1])), (u_2, .inl (D.1 99, 10, .inr (.inr (.inr (.inr (va_up (fun _ => none) 0 (some eo))))))), (eo, .inr (2, [.int e0, .int e1, .int e2, .int e3, .int e4, .int e5, .int e6, .int e7, .int e8, .int e9, .ref w]))]) [1, 2, 0] rfl
  have hD9 := hD.sub (ws' := [(x, .inr (0, [.int mc, .ref u_2, .int 1])), (u_2, .inl (D.1 99, 10, .inr (.inr (.inr (.inr (va_up (fun _ => none) 0 (some eo))))))), (eo, .inr (2, [.int e0, .int e1, .int e2, .int e3, .int e4, .int e5, .int e6, .int e7, .int e8, .int e9, .ref w]))]) [1, 2, 0] (by decide) rfl
  exact W.vret hx hb hr (fun t ht hW => ⟨⟨u_2, rfl, trivial, by rw [ht]; exact hP9, hD9⟩, hS.F ht⟩) hS.2.2 dJx4a65c_add_72be8_22
set_option maxRecDepth 100000 in
set_option maxHeartbeats 4000000 in
theorem q_l_addZK (l : Launch) (D : va_G) (cI cB cZ : ClassId) (zz qq vv : Nat) (bt : Nat → Int32) (x eo : Nat) (mc : Int32) (e0 e1 e2 e3 e4 e5 e6 e7 e8 e9 : Int32) (w : Nat) (sz : Nat) : Met l yJx4a65c_add_9ea2d (CWS yJx4a65c_add_9ea2d cJx4a65c_add_9ea2d 2 (some .boolean)) (RM 4 1 10) (PBx [.ref x, .ref eo] D cI cB cZ zz qq vv bt [(x, .inr (0, [.int mc, .ref zz, .int 0])), (eo, .inr (2, [.int e0, .int e1, .int e2, .int e3, .int e4, .int e5, .int e6, .int e7, .int e8, .int e9, .ref w]))] sz) (va_Qi (fun (r : Int32) (_ : Nat) => r = 1) (fun (u : Nat) (t : State) => va_P D vwCl [(x, .inr (0, [.int (mc + 1), .ref u, .int 1])), (u, .inl (D.1 99, 10, .inr (.inr (.inr (.inr (va_up (fun _ => none) 0 (some eo))))))), (eo, .inr (2, [.int e0, .int e1, .int e2, .int e3, .int e4, .int e5, .int e6, .int e7, .int e8, .int e9, .ref w]))] t.heap ∧ va_D (va_A [(x, .inr (0, [.int mc, .ref zz, .int 0])), (eo, .inr (2, [.int e0, .int e1, .int e2, .int e3, .int e4, .int e5, .int e6, .int e7, .int e8, .int e9, .ref w]))] sz) [(x, .inr (0, [.int (mc + 1), .ref u, .int 1])), (u, .inl (D.1 99, 10, .inr (.inr (.inr (.inr (va_up (fun _ => none) 0 (some eo))))))), (eo, .inr (2, [.int e0, .int e1, .int e2, .int e3, .int e4, .int e5, .int e6, .int e7, .int e8, .int e9, .ref w]))]) (va_A [(x, .inr (0, [.int mc, .ref zz, .int 0])), (eo, .inr (2, [.int e0, .int e1, .int e2, .int e3, .int e4, .int e5, .int e6, .int e7, .int e8, .int e9, .ref w]))] sz)) 1 10 (va_A [(x, .inr (0, [.int mc, .ref zz, .int 0])), (eo, .inr (2, [.int e0, .int e1, .int e2, .int e3, .int e4, .int e5, .int e6, .int e7, .int e8, .int e9, .ref w]))] sz) := by
  refine en_x (fun A => (va_Qi (fun (r : Int32) (_ : Nat) => r = 1) (fun (u : Nat) (t : State) => va_P D vwCl [(x, .inr (0, [.int (mc + 1), .ref u, .int 1])), (u, .inl (D.1 99, 10, .inr (.inr (.inr (.inr (va_up (fun _ => none) 0 (some eo))))))), (eo, .inr (2, [.int e0, .int e1, .int e2, .int e3, .int e4, .int e5, .int e6, .int e7, .int e8, .int e9, .ref w]))] t.heap ∧ va_D A [(x, .inr (0, [.int (mc + 1), .ref u, .int 1])), (u, .inl (D.1 99, 10, .inr (.inr (.inr (.inr (va_up (fun _ => none) 0 (some eo))))))), (eo, .inr (2, [.int e0, .int e1, .int e2, .int e3, .int e4, .int e5, .int e6, .int e7, .int e8, .int e9, .ref w]))]) A)) rfl rfl pn_RJx4a65c (Nat.le_of_ble_eq_true rfl) (fun p e s m below meth c A hx hb hml hown S hr hlocks hnm hA hP hK hD hXS hS ls hl => ?_)
  have hP : va_P D vwCl [(x, .inr (0, [.int mc, .ref zz, .int 0])), (eo, .inr (2, [.int e0, .int e1, .int e2, .int e3, .int e4, .int e5, .int e6, .int e7, .int e8, .int e9, .ref w]))] s.heap := hP
  have hD : va_D A [(x, .inr (0, [.int mc, .ref zz, .int 0])), (eo, .inr (2, [.int e0, .int e1, .int e2, .int e3, .int e4, .int e5, .int e6, .int e7, .int e8, .int e9, .ref w]))] := hD
  have hl : lv_has ls 2 [(0, .ref x), (1, .ref eo)] := hl
  refine lv_aload_n hx hb dJx4a65c_add_9ea2d_0 rfl (lvA0 hl) ?_
  refine lv_dup hx hb dJx4a65c_add_9ea2d_1 rfl ?_
  refine gf_RJx4a65c_63 S hK hP 0 rfl (v := .int mc) rfl dJx4a65c_add_9ea2d_2 ?_
  refine lv_iconst (v := 1) hx hb dJx4a65c_add_9ea2d_5 kic_1 ?_
  refine lv_iadd hx hb dJx4a65c_add_9ea2d_6 ?_
  refine pf_RJx4a65c_63 S hK hP hD hS 0 rfl (v := .int (mc + 1)) (Nat.le_of_ble_eq_true rfl) rfl rfl dJx4a65c_add_9ea2d_7 (fun H locs hP hD hS => ?_)
  have hP : va_P D vwCl [(x, .inr (0, [.int (mc + 1), .ref zz, .int 0])), (eo, .inr (2, [.int e0, .int e1, .int e2, .int e3, .int e4, .int e5, .int e6, .int e7, .int e8, .int e9, .ref w]))] H := hP
  have hD : va_D A [(x, .inr (0, [.int (mc + 1), .ref zz, .int 0])), (eo, .inr (2, [.int e0, .int e1, .int e2, .int e3, .int e4, .int e5, .int e6, .int e7, .int e8, .int e9, .ref w]))] := hD
  refine lv_aload_n hx hb dJx4a65c_add_9ea2d_10 rfl (lvA0 hl) ?_
  refine lv_aload_n hx hb dJx4a65c_add_9ea2d_11 rfl (lvA1 hl) ?_
  refine lv_aload_n hx hb dJx4a65c_add_9ea2d_12 rfl (lvA0 hl) ?_
  refine gf_RJx4a65c_9 S hK hP 0 rfl (v := .ref zz) rfl dJx4a65c_add_9ea2d_13 ?_
  refine lv_aload_n hx hb dJx4a65c_add_9ea2d_16 rfl (lvA0 hl) ?_
  refine gf_RJx4a65c_48 S hK hP 0 rfl (v := .int 0) rfl dJx4a65c_add_9ea2d_17 ?_
  have hFc := va_free (wc := [(x, .inr (0, [.int (mc + 1), .ref zz, .int 0])), (eo, .inr (2, [.int e0, .int e1, .int e2, .int e3, .int e4, .int e5, .int e6, .int e7, .int e8, .int e9, .ref w]))]) hD hS hA [0, 1] rfl
  refine va_callv (runV_x (As := [.ref eo, .ref zz, .int 0]) (rest := []) S (q_l_add3ZK l D cI cB cZ zz qq vv bt x eo (mc + 1) e0 e1 e2 e3 e4 e5 e6 e7 e8 e9 w H.size) kV_RJx4a65c_131 hK hXS hS hFc hP hD [0, 1] rfl rfl (by decide) 0 rfl rfl rfl ⟨Nat.le_of_ble_eq_true rfl, Nat.le_of_ble_eq_true rfl⟩ ⟨Nat.le_of_ble_eq_true rfl, Nat.le_of_ble_eq_true rfl⟩ rfl hl.1 rfl (Nat.le_of_ble_eq_true rfl) dJx4a65c_add_9ea2d_20) hS (fun q _ h => hFc q h) hFc (fun u_2 t H1 locs ht hvm h_3 hB hz1 hk1 hS => ?_)
  obtain ⟨hP1, hD1⟩ := hB
  rw [ht] at hP1
  obtain ⟨hP, hD⟩ := va_join (wr := []) (w1 := [(x, .inr (0, [.int (mc + 1), .ref u_2, .int 1])), (u_2, .inl (D.1 99, 10, .inr (.inr (.inr (.inr (va_up (fun _ => none) 0 (some eo))))))), (eo, .inr (2, [.int e0, .int e1, .int e2, .int e3, .int e4, .int e5, .int e6, .int e7, .int e8, .int e9, .ref w]))]) hP hD [0, 1] [] rfl rfl (by decide) (by decide) hk1 hFc hP1 hD1
  generalize H1 = H at hP hS ⊢
  have hP : va_P D vwCl [(x, .inr (0, [.int (mc + 1), .ref u_2, .int 1])), (u_2, .inl (D.1 99, 10, .inr (.inr (.inr (.inr (va_up (fun _ => none) 0 (some eo))))))), (eo, .inr (2, [.int e0, .int e1, .int e2, .int e3, .int e4, .int e5, .int e6, .int e7, .int e8, .int e9, .ref w]))] H := hP
  have hD : va_D A [(x, .inr (0, [.int (mc + 1), .ref u_2, .int 1])), (u_2, .inl (D.1 99, 10, .inr (.inr (.inr (.inr (va_up (fun _ => none) 0 (some eo))))))), (eo, .inr (2, [.int e0, .int e1, .int e2, .int e3, .int e4, .int e5, .int e6, .int e7, .int e8, .int e9, .ref w]))] := hD
  refine lv_iconst (v := 1) hx hb dJx4a65c_add_9ea2d_23 kic_1 ?_
  have hP9 := hP.sub (ws' := [(x, .inr (0, [.int (mc + 1), .ref u_2, .int 1])), (u_2, .inl (D.1 99, 10, .inr (.inr (.inr (.inr (va_up (fun _ => none) 0 (some eo))))))), (eo, .inr (2, [.int e0, .int e1, .int e2, .int e3, .int e4, .int e5, .int e6, .int e7, .int e8, .int e9, .ref w]))]) [0, 1, 2] rfl
  have hD9 := hD.sub (ws' := [(x, .inr (0, [.int (mc + 1), .ref u_2, .int 1])), (u_2, .inl (D.1 99, 10, .inr (.inr (.inr (.inr (va_up (fun _ => none) 0 (some eo))))))), (eo, .inr (2, [.int e0, .int e1, .int e2, .int e3, .int e4, .int e5, .int e6, .int e7, .int e8, .int e9, .ref w]))]) [0, 1, 2] (by decide) rfl
  exact W.zret (v := 1) hx hb hr rfl (fun t ht hW => ⟨⟨1, u_2, rfl, rfl, by rw [ht]; exact hP9, hD9⟩, hS.F ht⟩) hS.2.2 dJx4a65c_add_9ea2d_24
set_option maxRecDepth 100000 in
set_option maxHeartbeats 4000000 in
theorem q_l_add3ZL (l : Launch) (D : va_G) (cI cB cZ : ClassId) (zz qq vv : Nat) (bt : Nat → Int32) (x eo : Nat) (mc : Int32) (e0 e1 e2 e3 e4 e5 e6 e7 e8 e9 : Int32) (sz : Nat) : Met l yJx4a65c_add_72be8 (CWS yJx4a65c_add_72be8 cJx4a65c_add_72be8 4 none) (RM 3 1 10) (PBx [.ref x, .ref eo, .ref zz, .int 0] D cI cB cZ zz qq vv bt [(x, .inr (0, [.int mc, .ref zz, .int 0])), (eo, .inr (3, [.int e0, .int e1, .int e2, .int e3, .int e4, .int e5, .int e6, .int e7, .int e8, .int e9]))] sz) (va_Qv (fun (_ : Nat) => True) (fun (u : Nat) (t : State) => va_P D vwCl [(x, .inr (0, [.int mc, .ref u, .int 1])), (u, .inl (D.1 99, 10, .inr (.inr (.inr (.inr (va_up (fun _ => none) 0 (some eo))))))), (eo, .inr (3, [.int e0, .int e1, .int e2, .int e3, .int e4, .int e5, .int e6, .int e7, .int e8, .int e9]))] t.heap ∧ va_D (va_A [(x, .inr (0, [.int mc, .ref zz, .int 0])), (eo, .inr (3, [.int e0, .int e1, .int e2, .int e3, .int e4, .int e5, .int e6, .int e7, .int e8, .int e9]))] sz) [(x, .inr (0, [.int mc, .ref u, .int 1])), (u, .inl (D.1 99, 10, .inr (.inr (.inr (.inr (va_up (fun _ => none) 0 (some eo))))))), (eo, .inr (3, [.int e0, .int e1, .int e2, .int e3, .int e4, .int e5, .int e6, .int e7, .int e8, .int e9]))]) (va_A [(x, .inr (0, [.int mc, .ref zz, .int 0])), (eo, .inr (3, [.int e0, .int e1, .int e2, .int e3, .int e4, .int e5, .int e6, .int e7, .int e8, .int e9]))] sz)) 1 10 (va_A [(x, .inr (0, [.int mc, .ref zz, .int 0])), (eo, .inr (3, [.int e0, .int e1, .int e2, .int e3, .int e4, .int e5, .int e6, .int e7, .int e8, .int e9]))] sz) := by
  refine en_x (fun A => (va_Qv (fun (_ : Nat) => True) (fun (u : Nat) (t : State) => va_P D vwCl [(x, .inr (0, [.int mc, .ref u, .int 1])), (u, .inl (D.1 99, 10, .inr (.inr (.inr (.inr (va_up (fun _ => none) 0 (some eo))))))), (eo, .inr (3, [.int e0, .int e1, .int e2, .int e3, .int e4, .int e5, .int e6, .int e7, .int e8, .int e9]))] t.heap ∧ va_D A [(x, .inr (0, [.int mc, .ref u, .int 1])), (u, .inl (D.1 99, 10, .inr (.inr (.inr (.inr (va_up (fun _ => none) 0 (some eo))))))), (eo, .inr (3, [.int e0, .int e1, .int e2, .int e3, .int e4, .int e5, .int e6, .int e7, .int e8, .int e9]))]) A)) rfl rfl pn_RJx4a65c (Nat.le_of_ble_eq_true rfl) (fun p e s m below meth c A hx hb hml hown S hr hlocks hnm hA hP hK hD hXS hS ls hl => ?_)
  have hP : va_P D vwCl [(x, .inr (0, [.int mc, .ref zz, .int 0])), (eo, .inr (3, [.int e0, .int e1, .int e2, .int e3, .int e4, .int e5, .int e6, .int e7, .int e8, .int e9]))] s.heap := hP
  have hD : va_D A [(x, .inr (0, [.int mc, .ref zz, .int 0])), (eo, .inr (3, [.int e0, .int e1, .int e2, .int e3, .int e4, .int e5, .int e6, .int e7, .int e8, .int e9]))] := hD
  have hl : lv_has ls 4 [(0, .ref x), (1, .ref eo), (2, .ref zz), (3, .int 0)] := hl
  refine lv_iload_n hx hb dJx4a65c_add_72be8_0 rfl (lvA3 hl) ?_
  refine lv_aload_n hx hb dJx4a65c_add_72be8_1 rfl (lvA2 hl) ?_
  refine va_tlen hx hb hXS.2.2.1 hS (v := 0) rfl dJx4a65c_add_72be8_2 ?_
  refine lv_icmp_ne (tgt := 11) hx hb dJx4a65c_add_72be8_3 rfl (fun h => absurd h cq_eq_0_0) (fun _ => ?_)
  refine lv_aload_n hx hb dJx4a65c_add_72be8_6 rfl (lvA0 hl) ?_
  have hFc := va_free (wc := [(x, .inr (0, [.int mc, .ref zz, .int 0]))]) hD hS hA [0] rfl
  refine va_callq (runV_x (As := []) (rest := []) S (q_l_grow0 l D cI cB cZ zz qq vv bt x mc s.heap.size) kV_RJx4a65c_129 hK hXS hS hFc hP hD [0] rfl rfl (by decide) 0 rfl rfl rfl ⟨Nat.le_of_ble_eq_true rfl, Nat.le_of_ble_eq_true rfl⟩ ⟨Nat.le_of_ble_eq_true rfl, Nat.le_of_ble_eq_true rfl⟩ rfl hl.1 rfl (Nat.le_of_ble_eq_true rfl) dJx4a65c_add_72be8_7) hS (fun q _ h => hFc q h) hFc (fun r_1 u_2 t H1 locs ht hvm h_3 hB hz1 hk1 hS => ?_)
  obtain ⟨hP1, hD1⟩ := hB
  rw [ht] at hP1
  obtain ⟨hP, hD⟩ := va_join (wr := [(eo, .inr (3, [.int e0, .int e1, .int e2, .int e3, .int e4, .int e5, .int e6, .int e7, .int e8, .int e9]))]) (w1 := [(x, .inr (0, [.int mc, .ref u_2, .int 0])), (u_2, .inl (D.1 99, 10, .inr (.inr (.inr (.inr (fun _ => none))))))]) hP hD [0] [1] rfl rfl (by decide) (by decide) hk1 hFc hP1 hD1
  generalize H1 = H at hP hS ⊢
  have hP : va_P D vwCl [(eo, .inr (3, [.int e0, .int e1, .int e2, .int e3, .int e4, .int e5, .int e6, .int e7, .int e8, .int e9])), (x, .inr (0, [.int mc, .ref u_2, .int 0])), (u_2, .inl (D.1 99, 10, .inr (.inr (.inr (.inr (fun _ => none))))))] H := hP
  have hD : va_D A [(eo, .inr (3, [.int e0, .int e1, .int e2, .int e3, .int e4, .int e5, .int e6, .int e7, .int e8, .int e9])), (x, .inr (0, [.int mc, .ref u_2, .int 0])), (u_2, .inl (D.1 99, 10, .inr (.inr (.inr (.inr (fun _ => none))))))] := hD
  subst h_3
  refine lv_astore_n (lv' := [(2, .ref u_2), (0, .ref x), (1, .ref eo), (3, .int 0)]) hx hb dJx4a65c_add_72be8_10 rfl hl (ltb rfl) rfl (fun ls hl => ?_)
  refine lv_aload_n hx hb dJx4a65c_add_72be8_11 rfl (lvA0 hl) ?_
  refine lv_iload_n hx hb dJx4a65c_add_72be8_12 rfl (lvA3 hl) ?_
  refine lv_aload_n hx hb dJx4a65c_add_72be8_13 rfl (lvA2 hl) ?_
  have hca14 : va_Nw (.castable (RX2, TX2, 10).1 "java/lang/Object") s := hXS.2.2.2.2.2.2.2.2.2.2.2.2.1.1
  refine va_astqO (r := (RX2, TX2, 10)) (E := "java/lang/Object") (cA := D.1 99) hx hb hXS.2.2.2.2.2.2.2.2.1 hP hD hS 2 0 0 3 rfl rfl hca14 rfl rfl (by unfold vp_in; decide) dJx4a65c_add_72be8_14 (fun H locs hP hD hS => ?_)
  have hP : va_P D vwCl [(eo, .inr (3, [.int e0, .int e1, .int e2, .int e3, .int e4, .int e5, .int e6, .int e7, .int e8, .int e9])), (x, .inr (0, [.int mc, .ref u_2, .int 0])), (u_2, .inl (D.1 99, 10, .inr (.inr (.inr (.inr (va_up (fun _ => none) (0 : Int32).toNatClampNeg (some eo)))))))] H := hP
  have hD : va_D A [(eo, .inr (3, [.int e0, .int e1, .int e2, .int e3, .int e4, .int e5, .int e6, .int e7, .int e8, .int e9])), (x, .inr (0, [.int mc, .ref u_2, .int 0])), (u_2, .inl (D.1 99, 10, .inr (.inr (.inr (.inr (va_up (fun _ => none) (0 : Int32).toNatClampNeg (some eo)))))))] := hD
  rw [show (0 : Int32).toNatClampNeg = 0 by decide] at hP hD
  have hP : va_P D vwCl [(eo, .inr (3, [.int e0, .int e1, .int e2, .int e3, .int e4, .int e5, .int e6, .int e7, .int e8, .int e9])), (x, .inr (0, [.int mc, .ref u_2, .int 0])), (u_2, .inl (D.1 99, 10, .inr (.inr (.inr (.inr (va_up (fun _ => none) 0 (some eo)))))))] H := hP
  have hD : va_D A [(eo, .inr (3, [.int e0, .int e1, .int e2, .int e3, .int e4, .int e5, .int e6, .int e7, .int e8, .int e9])), (x, .inr (0, [.int mc, .ref u_2, .int 0])), (u_2, .inl (D.1 99, 10, .inr (.inr (.inr (.inr (va_up (fun _ => none) 0 (some eo)))))))] := hD
  refine lv_aload_n hx hb dJx4a65c_add_72be8_15 rfl (lvA1 hl) ?_
  refine lv_iload_n hx hb dJx4a65c_add_72be8_16 rfl (lvA3 hl) ?_
  refine lv_iconst (v := 1) hx hb dJx4a65c_add_72be8_17 kic_1 ?_
  refine lv_iadd hx hb dJx4a65c_add_72be8_18 ?_
  refine lv_topi (fun y_4 ey_4 => ?_)
  obtain rfl : y_4 = 1 := ey_4.trans (by decide)
  refine pf_RJx4a65c_48 S hK hP hD hS 1 rfl (v := .int 1) (Nat.le_of_ble_eq_true rfl) rfl rfl dJx4a65c_add_72be8_19 (fun H locs hP hD hS => ?_)
  have hP : va_P D vwCl [(eo, .inr (3, [.int e0, .int e1, .int e2, .int e3, .int e4, .int e5, .int e6, .int e7, .int e8, .int e9])), (x, .inr (0, [.int mc, .ref u_2, .int 1])), (u_2, .inl (D.1 99, 10, .inr (.inr (.inr (.inr (va_up (fun _ => none) 0 (some eo)))))))] H := hP
  have hD : va_D A [(eo, .inr (3, [.int e0, .int e1, .int e2, .int e3, .int e4, .int e5, .int e6, .int e7, .int e8, .int e9])), (x, .inr (0, [.int mc, .ref u_2, .int 1])), (u_2, .inl (D.1 99, 10, .inr (.inr (.inr (.inr (va_up (fun _ => none) 0 (some eo)))))))] := hD
  have hP9 := hP.sub (ws' := [(x, .inr (0, [.int mc, .ref u_2, .int 1])), (u_2, .inl (D.1 99, 10, .inr (.inr (.inr (.inr (va_up (fun _ => none) 0 (some eo))))))), (eo, .inr (3, [.int e0, .int e1, .int e2, .int e3, .int e4, .int e5, .int e6, .int e7, .int e8, .int e9]))]) [1, 2, 0] rfl
  have hD9 := hD.sub (ws' := [(x, .inr (0, [.int mc, .ref u_2, .int 1])), (u_2, .inl (D.1 99, 10, .inr (.inr (.inr (.inr (va_up (fun _ => none) 0 (some eo))))))), (eo, .inr (3, [.int e0, .int e1, .int e2, .int e3, .int e4, .int e5, .int e6, .int e7, .int e8, .int e9]))]) [1, 2, 0] (by decide) rfl
  exact W.vret hx hb hr (fun t ht hW => ⟨⟨u_2, rfl, trivial, by rw [ht]; exact hP9, hD9⟩, hS.F ht⟩) hS.2.2 dJx4a65c_add_72be8_22
set_option maxRecDepth 100000 in
set_option maxHeartbeats 4000000 in
theorem q_l_addZL (l : Launch) (D : va_G) (cI cB cZ : ClassId) (zz qq vv : Nat) (bt : Nat → Int32) (x eo : Nat) (mc : Int32) (e0 e1 e2 e3 e4 e5 e6 e7 e8 e9 : Int32) (sz : Nat) : Met l yJx4a65c_add_9ea2d (CWS yJx4a65c_add_9ea2d cJx4a65c_add_9ea2d 2 (some .boolean)) (RM 4 1 10) (PBx [.ref x, .ref eo] D cI cB cZ zz qq vv bt [(x, .inr (0, [.int mc, .ref zz, .int 0])), (eo, .inr (3, [.int e0, .int e1, .int e2, .int e3, .int e4, .int e5, .int e6, .int e7, .int e8, .int e9]))] sz) (va_Qi (fun (r : Int32) (_ : Nat) => r = 1) (fun (u : Nat) (t : State) => va_P D vwCl [(x, .inr (0, [.int (mc + 1), .ref u, .int 1])), (u, .inl (D.1 99, 10, .inr (.inr (.inr (.inr (va_up (fun _ => none) 0 (some eo))))))), (eo, .inr (3, [.int e0, .int e1, .int e2, .int e3, .int e4, .int e5, .int e6, .int e7, .int e8, .int e9]))] t.heap ∧ va_D (va_A [(x, .inr (0, [.int mc, .ref zz, .int 0])), (eo, .inr (3, [.int e0, .int e1, .int e2, .int e3, .int e4, .int e5, .int e6, .int e7, .int e8, .int e9]))] sz) [(x, .inr (0, [.int (mc + 1), .ref u, .int 1])), (u, .inl (D.1 99, 10, .inr (.inr (.inr (.inr (va_up (fun _ => none) 0 (some eo))))))), (eo, .inr (3, [.int e0, .int e1, .int e2, .int e3, .int e4, .int e5, .int e6, .int e7, .int e8, .int e9]))]) (va_A [(x, .inr (0, [.int mc, .ref zz, .int 0])), (eo, .inr (3, [.int e0, .int e1, .int e2, .int e3, .int e4, .int e5, .int e6, .int e7, .int e8, .int e9]))] sz)) 1 10 (va_A [(x, .inr (0, [.int mc, .ref zz, .int 0])), (eo, .inr (3, [.int e0, .int e1, .int e2, .int e3, .int e4, .int e5, .int e6, .int e7, .int e8, .int e9]))] sz) := by
  refine en_x (fun A => (va_Qi (fun (r : Int32) (_ : Nat) => r = 1) (fun (u : Nat) (t : State) => va_P D vwCl [(x, .inr (0, [.int (mc + 1), .ref u, .int 1])), (u, .inl (D.1 99, 10, .inr (.inr (.inr (.inr (va_up (fun _ => none) 0 (some eo))))))), (eo, .inr (3, [.int e0, .int e1, .int e2, .int e3, .int e4, .int e5, .int e6, .int e7, .int e8, .int e9]))] t.heap ∧ va_D A [(x, .inr (0, [.int (mc + 1), .ref u, .int 1])), (u, .inl (D.1 99, 10, .inr (.inr (.inr (.inr (va_up (fun _ => none) 0 (some eo))))))), (eo, .inr (3, [.int e0, .int e1, .int e2, .int e3, .int e4, .int e5, .int e6, .int e7, .int e8, .int e9]))]) A)) rfl rfl pn_RJx4a65c (Nat.le_of_ble_eq_true rfl) (fun p e s m below meth c A hx hb hml hown S hr hlocks hnm hA hP hK hD hXS hS ls hl => ?_)
  have hP : va_P D vwCl [(x, .inr (0, [.int mc, .ref zz, .int 0])), (eo, .inr (3, [.int e0, .int e1, .int e2, .int e3, .int e4, .int e5, .int e6, .int e7, .int e8, .int e9]))] s.heap := hP
  have hD : va_D A [(x, .inr (0, [.int mc, .ref zz, .int 0])), (eo, .inr (3, [.int e0, .int e1, .int e2, .int e3, .int e4, .int e5, .int e6, .int e7, .int e8, .int e9]))] := hD
  have hl : lv_has ls 2 [(0, .ref x), (1, .ref eo)] := hl
  refine lv_aload_n hx hb dJx4a65c_add_9ea2d_0 rfl (lvA0 hl) ?_
  refine lv_dup hx hb dJx4a65c_add_9ea2d_1 rfl ?_
  refine gf_RJx4a65c_63 S hK hP 0 rfl (v := .int mc) rfl dJx4a65c_add_9ea2d_2 ?_
  refine lv_iconst (v := 1) hx hb dJx4a65c_add_9ea2d_5 kic_1 ?_
  refine lv_iadd hx hb dJx4a65c_add_9ea2d_6 ?_
  refine pf_RJx4a65c_63 S hK hP hD hS 0 rfl (v := .int (mc + 1)) (Nat.le_of_ble_eq_true rfl) rfl rfl dJx4a65c_add_9ea2d_7 (fun H locs hP hD hS => ?_)
  have hP : va_P D vwCl [(x, .inr (0, [.int (mc + 1), .ref zz, .int 0])), (eo, .inr (3, [.int e0, .int e1, .int e2, .int e3, .int e4, .int e5, .int e6, .int e7, .int e8, .int e9]))] H := hP
  have hD : va_D A [(x, .inr (0, [.int (mc + 1), .ref zz, .int 0])), (eo, .inr (3, [.int e0, .int e1, .int e2, .int e3, .int e4, .int e5, .int e6, .int e7, .int e8, .int e9]))] := hD
  refine lv_aload_n hx hb dJx4a65c_add_9ea2d_10 rfl (lvA0 hl) ?_
  refine lv_aload_n hx hb dJx4a65c_add_9ea2d_11 rfl (lvA1 hl) ?_
  refine lv_aload_n hx hb dJx4a65c_add_9ea2d_12 rfl (lvA0 hl) ?_
  refine gf_RJx4a65c_9 S hK hP 0 rfl (v := .ref zz) rfl dJx4a65c_add_9ea2d_13 ?_
  refine lv_aload_n hx hb dJx4a65c_add_9ea2d_16 rfl (lvA0 hl) ?_
  refine gf_RJx4a65c_48 S hK hP 0 rfl (v := .int 0) rfl dJx4a65c_add_9ea2d_17 ?_
  have hFc := va_free (wc := [(x, .inr (0, [.int (mc + 1), .ref zz, .int 0])), (eo, .inr (3, [.int e0, .int e1, .int e2, .int e3, .int e4, .int e5, .int e6, .int e7, .int e8, .int e9]))]) hD hS hA [0, 1] rfl
  refine va_callv (runV_x (As := [.ref eo, .ref zz, .int 0]) (rest := []) S (q_l_add3ZL l D cI cB cZ zz qq vv bt x eo (mc + 1) e0 e1 e2 e3 e4 e5 e6 e7 e8 e9 H.size) kV_RJx4a65c_131 hK hXS hS hFc hP hD [0, 1] rfl rfl (by decide) 0 rfl rfl rfl ⟨Nat.le_of_ble_eq_true rfl, Nat.le_of_ble_eq_true rfl⟩ ⟨Nat.le_of_ble_eq_true rfl, Nat.le_of_ble_eq_true rfl⟩ rfl hl.1 rfl (Nat.le_of_ble_eq_true rfl) dJx4a65c_add_9ea2d_20) hS (fun q _ h => hFc q h) hFc (fun u_2 t H1 locs ht hvm h_3 hB hz1 hk1 hS => ?_)
  obtain ⟨hP1, hD1⟩ := hB
  rw [ht] at hP1
  obtain ⟨hP, hD⟩ := va_join (wr := []) (w1 := [(x, .inr (0, [.int (mc + 1), .ref u_2, .int 1])), (u_2, .inl (D.1 99, 10, .inr (.inr (.inr (.inr (va_up (fun _ => none) 0 (some eo))))))), (eo, .inr (3, [.int e0, .int e1, .int e2, .int e3, .int e4, .int e5, .int e6, .int e7, .int e8, .int e9]))]) hP hD [0, 1] [] rfl rfl (by decide) (by decide) hk1 hFc hP1 hD1
  generalize H1 = H at hP hS ⊢
  have hP : va_P D vwCl [(x, .inr (0, [.int (mc + 1), .ref u_2, .int 1])), (u_2, .inl (D.1 99, 10, .inr (.inr (.inr (.inr (va_up (fun _ => none) 0 (some eo))))))), (eo, .inr (3, [.int e0, .int e1, .int e2, .int e3, .int e4, .int e5, .int e6, .int e7, .int e8, .int e9]))] H := hP
  have hD : va_D A [(x, .inr (0, [.int (mc + 1), .ref u_2, .int 1])), (u_2, .inl (D.1 99, 10, .inr (.inr (.inr (.inr (va_up (fun _ => none) 0 (some eo))))))), (eo, .inr (3, [.int e0, .int e1, .int e2, .int e3, .int e4, .int e5, .int e6, .int e7, .int e8, .int e9]))] := hD
  refine lv_iconst (v := 1) hx hb dJx4a65c_add_9ea2d_23 kic_1 ?_
  have hP9 := hP.sub (ws' := [(x, .inr (0, [.int (mc + 1), .ref u_2, .int 1])), (u_2, .inl (D.1 99, 10, .inr (.inr (.inr (.inr (va_up (fun _ => none) 0 (some eo))))))), (eo, .inr (3, [.int e0, .int e1, .int e2, .int e3, .int e4, .int e5, .int e6, .int e7, .int e8, .int e9]))]) [0, 1, 2] rfl
  have hD9 := hD.sub (ws' := [(x, .inr (0, [.int (mc + 1), .ref u_2, .int 1])), (u_2, .inl (D.1 99, 10, .inr (.inr (.inr (.inr (va_up (fun _ => none) 0 (some eo))))))), (eo, .inr (3, [.int e0, .int e1, .int e2, .int e3, .int e4, .int e5, .int e6, .int e7, .int e8, .int e9]))]) [0, 1, 2] (by decide) rfl
  exact W.zret (v := 1) hx hb hr rfl (fun t ht hW => ⟨⟨1, u_2, rfl, rfl, by rw [ht]; exact hP9, hD9⟩, hS.F ht⟩) hS.2.2 dJx4a65c_add_9ea2d_24
set_option maxRecDepth 100000 in
set_option maxHeartbeats 4000000 in
theorem q_l_add3ZB (l : Launch) (D : va_G) (cI cB cZ : ClassId) (zz qq vv : Nat) (bt : Nat → Int32) (x eo : Nat) (mc : Int32) (e1 e2 e3 e4 e5 e6 e7 : Int32) (w : Nat) (sz : Nat) : Met l yJx4a65c_add_72be8 (CWS yJx4a65c_add_72be8 cJx4a65c_add_72be8 4 none) (RM 3 1 10) (PBx [.ref x, .ref eo, .ref zz, .int 0] D cI cB cZ zz qq vv bt [(x, .inr (0, [.int mc, .ref zz, .int 0])), (eo, .inr (1, [.ref w, .int e1, .int e2, .int e3, .int e4, .int e5, .int e6, .int e7]))] sz) (va_Qv (fun (_ : Nat) => True) (fun (u : Nat) (t : State) => va_P D vwCl [(x, .inr (0, [.int mc, .ref u, .int 1])), (u, .inl (D.1 99, 10, .inr (.inr (.inr (.inr (va_up (fun _ => none) 0 (some eo))))))), (eo, .inr (1, [.ref w, .int e1, .int e2, .int e3, .int e4, .int e5, .int e6, .int e7]))] t.heap ∧ va_D (va_A [(x, .inr (0, [.int mc, .ref zz, .int 0])), (eo, .inr (1, [.ref w, .int e1, .int e2, .int e3, .int e4, .int e5, .int e6, .int e7]))] sz) [(x, .inr (0, [.int mc, .ref u, .int 1])), (u, .inl (D.1 99, 10, .inr (.inr (.inr (.inr (va_up (fun _ => none) 0 (some eo))))))), (eo, .inr (1, [.ref w, .int e1, .int e2, .int e3, .int e4, .int e5, .int e6, .int e7]))]) (va_A [(x, .inr (0, [.int mc, .ref zz, .int 0])), (eo, .inr (1, [.ref w, .int e1, .int e2, .int e3, .int e4, .int e5, .int e6, .int e7]))] sz)) 1 10 (va_A [(x, .inr (0, [.int mc, .ref zz, .int 0])), (eo, .inr (1, [.ref w, .int e1, .int e2, .int e3, .int e4, .int e5, .int e6, .int e7]))] sz) := by
  refine en_x (fun A => (va_Qv (fun (_ : Nat) => True) (fun (u : Nat) (t : State) => va_P D vwCl [(x, .inr (0, [.int mc, .ref u, .int 1])), (u, .inl (D.1 99, 10, .inr (.inr (.inr (.inr (va_up (fun _ => none) 0 (some eo))))))), (eo, .inr (1, [.ref w, .int e1, .int e2, .int e3, .int e4, .int e5, .int e6, .int e7]))] t.heap ∧ va_D A [(x, .inr (0, [.int mc, .ref u, .int 1])), (u, .inl (D.1 99, 10, .inr (.inr (.inr (.inr (va_up (fun _ => none) 0 (some eo))))))), (eo, .inr (1, [.ref w, .int e1, .int e2, .int e3, .int e4, .int e5, .int e6, .int e7]))]) A)) rfl rfl pn_RJx4a65c (Nat.le_of_ble_eq_true rfl) (fun p e s m below meth c A hx hb hml hown S hr hlocks hnm hA hP hK hD hXS hS ls hl => ?_)
  have hP : va_P D vwCl [(x, .inr (0, [.int mc, .ref zz, .int 0])), (eo, .inr (1, [.ref w, .int e1, .int e2, .int e3, .int e4, .int e5, .int e6, .int e7]))] s.heap := hP
  have hD : va_D A [(x, .inr (0, [.int mc, .ref zz, .int 0])), (eo, .inr (1, [.ref w, .int e1, .int e2, .int e3, .int e4, .int e5, .int e6, .int e7]))] := hD
  have hl : lv_has ls 4 [(0, .ref x), (1, .ref eo), (2, .ref zz), (3, .int 0)] := hl
  refine lv_iload_n hx hb dJx4a65c_add_72be8_0 rfl (lvA3 hl) ?_
  refine lv_aload_n hx hb dJx4a65c_add_72be8_1 rfl (lvA2 hl) ?_
  refine va_tlen hx hb hXS.2.2.1 hS (v := 0) rfl dJx4a65c_add_72be8_2 ?_
  refine lv_icmp_ne (tgt := 11) hx hb dJx4a65c_add_72be8_3 rfl (fun h => absurd h cq_eq_0_0) (fun _ => ?_)
  refine lv_aload_n hx hb dJx4a65c_add_72be8_6 rfl (lvA0 hl) ?_
  have hFc := va_free (wc := [(x, .inr (0, [.int mc, .ref zz, .int 0]))]) hD hS hA [0] rfl
  refine va_callq (runV_x (As := []) (rest := []) S (q_l_grow0 l D cI cB cZ zz qq vv bt x mc s.heap.size) kV_RJx4a65c_129 hK hXS hS hFc hP hD [0] rfl rfl (by decide) 0 rfl rfl rfl ⟨Nat.le_of_ble_eq_true rfl, Nat.le_of_ble_eq_true rfl⟩ ⟨Nat.le_of_ble_eq_true rfl, Nat.le_of_ble_eq_true rfl⟩ rfl hl.1 rfl (Nat.le_of_ble_eq_true rfl) dJx4a65c_add_72be8_7) hS (fun q _ h => hFc q h) hFc (fun r_1 u_2 t H1 locs ht hvm h_3 hB hz1 hk1 hS => ?_)
  obtain ⟨hP1, hD1⟩ := hB
  rw [ht] at hP1
  obtain ⟨hP, hD⟩ := va_join (wr := [(eo, .inr (1, [.ref w, .int e1, .int e2, .int e3, .int e4, .int e5, .int e6, .int e7]))]) (w1 := [(x, .inr (0, [.int mc, .ref u_2, .int 0])), (u_2, .inl (D.1 99, 10, .inr (.inr (.inr (.inr (fun _ => none))))))]) hP hD [0] [1] rfl rfl (by decide) (by decide) hk1 hFc hP1 hD1
  generalize H1 = H at hP hS ⊢
  have hP : va_P D vwCl [(eo, .inr (1, [.ref w, .int e1, .int e2, .int e3, .int e4, .int e5, .int e6, .int e7])), (x, .inr (0, [.int mc, .ref u_2, .int 0])), (u_2, .inl (D.1 99, 10, .inr (.inr (.inr (.inr (fun _ => none))))))] H := hP
  have hD : va_D A [(eo, .inr (1, [.ref w, .int e1, .int e2, .int e3, .int e4, .int e5, .int e6, .int e7])), (x, .inr (0, [.int mc, .ref u_2, .int 0])), (u_2, .inl (D.1 99, 10, .inr (.inr (.inr (.inr (fun _ => none))))))] := hD
  subst h_3
  refine lv_astore_n (lv' := [(2, .ref u_2), (0, .ref x), (1, .ref eo), (3, .int 0)]) hx hb dJx4a65c_add_72be8_10 rfl hl (ltb rfl) rfl (fun ls hl => ?_)
  refine lv_aload_n hx hb dJx4a65c_add_72be8_11 rfl (lvA0 hl) ?_
  refine lv_iload_n hx hb dJx4a65c_add_72be8_12 rfl (lvA3 hl) ?_
  refine lv_aload_n hx hb dJx4a65c_add_72be8_13 rfl (lvA2 hl) ?_
  have hca14 : va_Nw (.castable (RX0, TX0, 8).1 "java/lang/Object") s := hXS.2.2.2.2.2.2.2.2.2.2.2.2.1.2.1
  refine va_astqO (r := (RX0, TX0, 8)) (E := "java/lang/Object") (cA := D.1 99) hx hb hXS.2.2.2.2.2.2.2.2.1 hP hD hS 2 0 0 1 rfl rfl hca14 rfl rfl (by unfold vp_in; decide) dJx4a65c_add_72be8_14 (fun H locs hP hD hS => ?_)
  have hP : va_P D vwCl [(eo, .inr (1, [.ref w, .int e1, .int e2, .int e3, .int e4, .int e5, .int e6, .int e7])), (x, .inr (0, [.int mc, .ref u_2, .int 0])), (u_2, .inl (D.1 99, 10, .inr (.inr (.inr (.inr (va_up (fun _ => none) (0 : Int32).toNatClampNeg (some eo)))))))] H := hP
  have hD : va_D A [(eo, .inr (1, [.ref w, .int e1, .int e2, .int e3, .int e4, .int e5, .int e6, .int e7])), (x, .inr (0, [.int mc, .ref u_2, .int 0])), (u_2, .inl (D.1 99, 10, .inr (.inr (.inr (.inr (va_up (fun _ => none) (0 : Int32).toNatClampNeg (some eo)))))))] := hD
  rw [show (0 : Int32).toNatClampNeg = 0 by decide] at hP hD
  have hP : va_P D vwCl [(eo, .inr (1, [.ref w, .int e1, .int e2, .int e3, .int e4, .int e5, .int e6, .int e7])), (x, .inr (0, [.int mc, .ref u_2, .int 0])), (u_2, .inl (D.1 99, 10, .inr (.inr (.inr (.inr (va_up (fun _ => none) 0 (some eo)))))))] H := hP
  have hD : va_D A [(eo, .inr (1, [.ref w, .int e1, .int e2, .int e3, .int e4, .int e5, .int e6, .int e7])), (x, .inr (0, [.int mc, .ref u_2, .int 0])), (u_2, .inl (D.1 99, 10, .inr (.inr (.inr (.inr (va_up (fun _ => none) 0 (some eo)))))))] := hD
  refine lv_aload_n hx hb dJx4a65c_add_72be8_15 rfl (lvA1 hl) ?_
  refine lv_iload_n hx hb dJx4a65c_add_72be8_16 rfl (lvA3 hl) ?_
  refine lv_iconst (v := 1) hx hb dJx4a65c_add_72be8_17 kic_1 ?_
  refine lv_iadd hx hb dJx4a65c_add_72be8_18 ?_
  refine lv_topi (fun y_4 ey_4 => ?_)
  obtain rfl : y_4 = 1 := ey_4.trans (by decide)
  refine pf_RJx4a65c_48 S hK hP hD hS 1 rfl (v := .int 1) (Nat.le_of_ble_eq_true rfl) rfl rfl dJx4a65c_add_72be8_19 (fun H locs hP hD hS => ?_)
  have hP : va_P D vwCl [(eo, .inr (1, [.ref w, .int e1, .int e2, .int e3, .int e4, .int e5, .int e6, .int e7])), (x, .inr (0, [.int mc, .ref u_2, .int 1])), (u_2, .inl (D.1 99, 10, .inr (.inr (.inr (.inr (va_up (fun _ => none) 0 (some eo)))))))] H := hP
  have hD : va_D A [(eo, .inr (1, [.ref w, .int e1, .int e2, .int e3, .int e4, .int e5, .int e6, .int e7])), (x, .inr (0, [.int mc, .ref u_2, .int 1])), (u_2, .inl (D.1 99, 10, .inr (.inr (.inr (.inr (va_up (fun _ => none) 0 (some eo)))))))] := hD
  have hP9 := hP.sub (ws' := [(x, .inr (0, [.int mc, .ref u_2, .int 1])), (u_2, .inl (D.1 99, 10, .inr (.inr (.inr (.inr (va_up (fun _ => none) 0 (some eo))))))), (eo, .inr (1, [.ref w, .int e1, .int e2, .int e3, .int e4, .int e5, .int e6, .int e7]))]) [1, 2, 0] rfl
  have hD9 := hD.sub (ws' := [(x, .inr (0, [.int mc, .ref u_2, .int 1])), (u_2, .inl (D.1 99, 10, .inr (.inr (.inr (.inr (va_up (fun _ => none) 0 (some eo))))))), (eo, .inr (1, [.ref w, .int e1, .int e2, .int e3, .int e4, .int e5, .int e6, .int e7]))]) [1, 2, 0] (by decide) rfl
  exact W.vret hx hb hr (fun t ht hW => ⟨⟨u_2, rfl, trivial, by rw [ht]; exact hP9, hD9⟩, hS.F ht⟩) hS.2.2 dJx4a65c_add_72be8_22
set_option maxRecDepth 100000 in
set_option maxHeartbeats 4000000 in
theorem q_l_addZB (l : Launch) (D : va_G) (cI cB cZ : ClassId) (zz qq vv : Nat) (bt : Nat → Int32) (x eo : Nat) (mc : Int32) (e1 e2 e3 e4 e5 e6 e7 : Int32) (w : Nat) (sz : Nat) : Met l yJx4a65c_add_9ea2d (CWS yJx4a65c_add_9ea2d cJx4a65c_add_9ea2d 2 (some .boolean)) (RM 4 1 10) (PBx [.ref x, .ref eo] D cI cB cZ zz qq vv bt [(x, .inr (0, [.int mc, .ref zz, .int 0])), (eo, .inr (1, [.ref w, .int e1, .int e2, .int e3, .int e4, .int e5, .int e6, .int e7]))] sz) (va_Qi (fun (r : Int32) (_ : Nat) => r = 1) (fun (u : Nat) (t : State) => va_P D vwCl [(x, .inr (0, [.int (mc + 1), .ref u, .int 1])), (u, .inl (D.1 99, 10, .inr (.inr (.inr (.inr (va_up (fun _ => none) 0 (some eo))))))), (eo, .inr (1, [.ref w, .int e1, .int e2, .int e3, .int e4, .int e5, .int e6, .int e7]))] t.heap ∧ va_D (va_A [(x, .inr (0, [.int mc, .ref zz, .int 0])), (eo, .inr (1, [.ref w, .int e1, .int e2, .int e3, .int e4, .int e5, .int e6, .int e7]))] sz) [(x, .inr (0, [.int (mc + 1), .ref u, .int 1])), (u, .inl (D.1 99, 10, .inr (.inr (.inr (.inr (va_up (fun _ => none) 0 (some eo))))))), (eo, .inr (1, [.ref w, .int e1, .int e2, .int e3, .int e4, .int e5, .int e6, .int e7]))]) (va_A [(x, .inr (0, [.int mc, .ref zz, .int 0])), (eo, .inr (1, [.ref w, .int e1, .int e2, .int e3, .int e4, .int e5, .int e6, .int e7]))] sz)) 1 10 (va_A [(x, .inr (0, [.int mc, .ref zz, .int 0])), (eo, .inr (1, [.ref w, .int e1, .int e2, .int e3, .int e4, .int e5, .int e6, .int e7]))] sz) := by
  refine en_x (fun A => (va_Qi (fun (r : Int32) (_ : Nat) => r = 1) (fun (u : Nat) (t : State) => va_P D vwCl [(x, .inr (0, [.int (mc + 1), .ref u, .int 1])), (u, .inl (D.1 99, 10, .inr (.inr (.inr (.inr (va_up (fun _ => none) 0 (some eo))))))), (eo, .inr (1, [.ref w, .int e1, .int e2, .int e3, .int e4, .int e5, .int e6, .int e7]))] t.heap ∧ va_D A [(x, .inr (0, [.int (mc + 1), .ref u, .int 1])), (u, .inl (D.1 99, 10, .inr (.inr (.inr (.inr (va_up (fun _ => none) 0 (some eo))))))), (eo, .inr (1, [.ref w, .int e1, .int e2, .int e3, .int e4, .int e5, .int e6, .int e7]))]) A)) rfl rfl pn_RJx4a65c (Nat.le_of_ble_eq_true rfl) (fun p e s m below meth c A hx hb hml hown S hr hlocks hnm hA hP hK hD hXS hS ls hl => ?_)
  have hP : va_P D vwCl [(x, .inr (0, [.int mc, .ref zz, .int 0])), (eo, .inr (1, [.ref w, .int e1, .int e2, .int e3, .int e4, .int e5, .int e6, .int e7]))] s.heap := hP
  have hD : va_D A [(x, .inr (0, [.int mc, .ref zz, .int 0])), (eo, .inr (1, [.ref w, .int e1, .int e2, .int e3, .int e4, .int e5, .int e6, .int e7]))] := hD
  have hl : lv_has ls 2 [(0, .ref x), (1, .ref eo)] := hl
  refine lv_aload_n hx hb dJx4a65c_add_9ea2d_0 rfl (lvA0 hl) ?_
  refine lv_dup hx hb dJx4a65c_add_9ea2d_1 rfl ?_
  refine gf_RJx4a65c_63 S hK hP 0 rfl (v := .int mc) rfl dJx4a65c_add_9ea2d_2 ?_
  refine lv_iconst (v := 1) hx hb dJx4a65c_add_9ea2d_5 kic_1 ?_
  refine lv_iadd hx hb dJx4a65c_add_9ea2d_6 ?_
  refine pf_RJx4a65c_63 S hK hP hD hS 0 rfl (v := .int (mc + 1)) (Nat.le_of_ble_eq_true rfl) rfl rfl dJx4a65c_add_9ea2d_7 (fun H locs hP hD hS => ?_)
  have hP : va_P D vwCl [(x, .inr (0, [.int (mc + 1), .ref zz, .int 0])), (eo, .inr (1, [.ref w, .int e1, .int e2, .int e3, .int e4, .int e5, .int e6, .int e7]))] H := hP
  have hD : va_D A [(x, .inr (0, [.int (mc + 1), .ref zz, .int 0])), (eo, .inr (1, [.ref w, .int e1, .int e2, .int e3, .int e4, .int e5, .int e6, .int e7]))] := hD
  refine lv_aload_n hx hb dJx4a65c_add_9ea2d_10 rfl (lvA0 hl) ?_
  refine lv_aload_n hx hb dJx4a65c_add_9ea2d_11 rfl (lvA1 hl) ?_
  refine lv_aload_n hx hb dJx4a65c_add_9ea2d_12 rfl (lvA0 hl) ?_
  refine gf_RJx4a65c_9 S hK hP 0 rfl (v := .ref zz) rfl dJx4a65c_add_9ea2d_13 ?_
  refine lv_aload_n hx hb dJx4a65c_add_9ea2d_16 rfl (lvA0 hl) ?_
  refine gf_RJx4a65c_48 S hK hP 0 rfl (v := .int 0) rfl dJx4a65c_add_9ea2d_17 ?_
  have hFc := va_free (wc := [(x, .inr (0, [.int (mc + 1), .ref zz, .int 0])), (eo, .inr (1, [.ref w, .int e1, .int e2, .int e3, .int e4, .int e5, .int e6, .int e7]))]) hD hS hA [0, 1] rfl
  refine va_callv (runV_x (As := [.ref eo, .ref zz, .int 0]) (rest := []) S (q_l_add3ZB l D cI cB cZ zz qq vv bt x eo (mc + 1) e1 e2 e3 e4 e5 e6 e7 w H.size) kV_RJx4a65c_131 hK hXS hS hFc hP hD [0, 1] rfl rfl (by decide) 0 rfl rfl rfl ⟨Nat.le_of_ble_eq_true rfl, Nat.le_of_ble_eq_true rfl⟩ ⟨Nat.le_of_ble_eq_true rfl, Nat.le_of_ble_eq_true rfl⟩ rfl hl.1 rfl (Nat.le_of_ble_eq_true rfl) dJx4a65c_add_9ea2d_20) hS (fun q _ h => hFc q h) hFc (fun u_2 t H1 locs ht hvm h_3 hB hz1 hk1 hS => ?_)
  obtain ⟨hP1, hD1⟩ := hB
  rw [ht] at hP1
  obtain ⟨hP, hD⟩ := va_join (wr := []) (w1 := [(x, .inr (0, [.int (mc + 1), .ref u_2, .int 1])), (u_2, .inl (D.1 99, 10, .inr (.inr (.inr (.inr (va_up (fun _ => none) 0 (some eo))))))), (eo, .inr (1, [.ref w, .int e1, .int e2, .int e3, .int e4, .int e5, .int e6, .int e7]))]) hP hD [0, 1] [] rfl rfl (by decide) (by decide) hk1 hFc hP1 hD1
  generalize H1 = H at hP hS ⊢
  have hP : va_P D vwCl [(x, .inr (0, [.int (mc + 1), .ref u_2, .int 1])), (u_2, .inl (D.1 99, 10, .inr (.inr (.inr (.inr (va_up (fun _ => none) 0 (some eo))))))), (eo, .inr (1, [.ref w, .int e1, .int e2, .int e3, .int e4, .int e5, .int e6, .int e7]))] H := hP
  have hD : va_D A [(x, .inr (0, [.int (mc + 1), .ref u_2, .int 1])), (u_2, .inl (D.1 99, 10, .inr (.inr (.inr (.inr (va_up (fun _ => none) 0 (some eo))))))), (eo, .inr (1, [.ref w, .int e1, .int e2, .int e3, .int e4, .int e5, .int e6, .int e7]))] := hD
  refine lv_iconst (v := 1) hx hb dJx4a65c_add_9ea2d_23 kic_1 ?_
  have hP9 := hP.sub (ws' := [(x, .inr (0, [.int (mc + 1), .ref u_2, .int 1])), (u_2, .inl (D.1 99, 10, .inr (.inr (.inr (.inr (va_up (fun _ => none) 0 (some eo))))))), (eo, .inr (1, [.ref w, .int e1, .int e2, .int e3, .int e4, .int e5, .int e6, .int e7]))]) [0, 1, 2] rfl
  have hD9 := hD.sub (ws' := [(x, .inr (0, [.int (mc + 1), .ref u_2, .int 1])), (u_2, .inl (D.1 99, 10, .inr (.inr (.inr (.inr (va_up (fun _ => none) 0 (some eo))))))), (eo, .inr (1, [.ref w, .int e1, .int e2, .int e3, .int e4, .int e5, .int e6, .int e7]))]) [0, 1, 2] (by decide) rfl
  exact W.zret (v := 1) hx hb hr rfl (fun t ht hW => ⟨⟨1, u_2, rfl, rfl, by rw [ht]; exact hP9, hD9⟩, hS.F ht⟩) hS.2.2 dJx4a65c_add_9ea2d_24
set_option maxRecDepth 100000 in
set_option maxHeartbeats 4000000 in
theorem q_l_add3ZP (l : Launch) (D : va_G) (cI cB cZ : ClassId) (zz qq vv : Nat) (bt : Nat → Int32) (x eo : Nat) (mc : Int32) (e0 e1 e2 e3 e4 : Int32) (sz : Nat) : Met l yJx4a65c_add_72be8 (CWS yJx4a65c_add_72be8 cJx4a65c_add_72be8 4 none) (RM 3 1 10) (PBx [.ref x, .ref eo, .ref zz, .int 0] D cI cB cZ zz qq vv bt [(x, .inr (0, [.int mc, .ref zz, .int 0])), (eo, .inr (5, [.int e0, .int e1, .int e2, .int e3, .int e4]))] sz) (va_Qv (fun (_ : Nat) => True) (fun (u : Nat) (t : State) => va_P D vwCl [(x, .inr (0, [.int mc, .ref u, .int 1])), (u, .inl (D.1 99, 10, .inr (.inr (.inr (.inr (va_up (fun _ => none) 0 (some eo))))))), (eo, .inr (5, [.int e0, .int e1, .int e2, .int e3, .int e4]))] t.heap ∧ va_D (va_A [(x, .inr (0, [.int mc, .ref zz, .int 0])), (eo, .inr (5, [.int e0, .int e1, .int e2, .int e3, .int e4]))] sz) [(x, .inr (0, [.int mc, .ref u, .int 1])), (u, .inl (D.1 99, 10, .inr (.inr (.inr (.inr (va_up (fun _ => none) 0 (some eo))))))), (eo, .inr (5, [.int e0, .int e1, .int e2, .int e3, .int e4]))]) (va_A [(x, .inr (0, [.int mc, .ref zz, .int 0])), (eo, .inr (5, [.int e0, .int e1, .int e2, .int e3, .int e4]))] sz)) 1 10 (va_A [(x, .inr (0, [.int mc, .ref zz, .int 0])), (eo, .inr (5, [.int e0, .int e1, .int e2, .int e3, .int e4]))] sz) := by
  refine en_x (fun A => (va_Qv (fun (_ : Nat) => True) (fun (u : Nat) (t : State) => va_P D vwCl [(x, .inr (0, [.int mc, .ref u, .int 1])), (u, .inl (D.1 99, 10, .inr (.inr (.inr (.inr (va_up (fun _ => none) 0 (some eo))))))), (eo, .inr (5, [.int e0, .int e1, .int e2, .int e3, .int e4]))] t.heap ∧ va_D A [(x, .inr (0, [.int mc, .ref u, .int 1])), (u, .inl (D.1 99, 10, .inr (.inr (.inr (.inr (va_up (fun _ => none) 0 (some eo))))))), (eo, .inr (5, [.int e0, .int e1, .int e2, .int e3, .int e4]))]) A)) rfl rfl pn_RJx4a65c (Nat.le_of_ble_eq_true rfl) (fun p e s m below meth c A hx hb hml hown S hr hlocks hnm hA hP hK hD hXS hS ls hl => ?_)
  have hP : va_P D vwCl [(x, .inr (0, [.int mc, .ref zz, .int 0])), (eo, .inr (5, [.int e0, .int e1, .int e2, .int e3, .int e4]))] s.heap := hP
  have hD : va_D A [(x, .inr (0, [.int mc, .ref zz, .int 0])), (eo, .inr (5, [.int e0, .int e1, .int e2, .int e3, .int e4]))] := hD
  have hl : lv_has ls 4 [(0, .ref x), (1, .ref eo), (2, .ref zz), (3, .int 0)] := hl
  refine lv_iload_n hx hb dJx4a65c_add_72be8_0 rfl (lvA3 hl) ?_
  refine lv_aload_n hx hb dJx4a65c_add_72be8_1 rfl (lvA2 hl) ?_
  refine va_tlen hx hb hXS.2.2.1 hS (v := 0) rfl dJx4a65c_add_72be8_2 ?_
  refine lv_icmp_ne (tgt := 11) hx hb dJx4a65c_add_72be8_3 rfl (fun h => absurd h cq_eq_0_0) (fun _ => ?_)
  refine lv_aload_n hx hb dJx4a65c_add_72be8_6 rfl (lvA0 hl) ?_
  have hFc := va_free (wc := [(x, .inr (0, [.int mc, .ref zz, .int 0]))]) hD hS hA [0] rfl
  refine va_callq (runV_x (As := []) (rest := []) S (q_l_grow0 l D cI cB cZ zz qq vv bt x mc s.heap.size) kV_RJx4a65c_129 hK hXS hS hFc hP hD [0] rfl rfl (by decide) 0 rfl rfl rfl ⟨Nat.le_of_ble_eq_true rfl, Nat.le_of_ble_eq_true rfl⟩ ⟨Nat.le_of_ble_eq_true rfl, Nat.le_of_ble_eq_true rfl⟩ rfl hl.1 rfl (Nat.le_of_ble_eq_true rfl) dJx4a65c_add_72be8_7) hS (fun q _ h => hFc q h) hFc (fun r_1 u_2 t H1 locs ht hvm h_3 hB hz1 hk1 hS => ?_)
  obtain ⟨hP1, hD1⟩ := hB
  rw [ht] at hP1
  obtain ⟨hP, hD⟩ := va_join (wr := [(eo, .inr (5, [.int e0, .int e1, .int e2, .int e3, .int e4]))]) (w1 := [(x, .inr (0, [.int mc, .ref u_2, .int 0])), (u_2, .inl (D.1 99, 10, .inr (.inr (.inr (.inr (fun _ => none))))))]) hP hD [0] [1] rfl rfl (by decide) (by decide) hk1 hFc hP1 hD1
  generalize H1 = H at hP hS ⊢
  have hP : va_P D vwCl [(eo, .inr (5, [.int e0, .int e1, .int e2, .int e3, .int e4])), (x, .inr (0, [.int mc, .ref u_2, .int 0])), (u_2, .inl (D.1 99, 10, .inr (.inr (.inr (.inr (fun _ => none))))))] H := hP
  have hD : va_D A [(eo, .inr (5, [.int e0, .int e1, .int e2, .int e3, .int e4])), (x, .inr (0, [.int mc, .ref u_2, .int 0])), (u_2, .inl (D.1 99, 10, .inr (.inr (.inr (.inr (fun _ => none))))))] := hD
  subst h_3
  refine lv_astore_n (lv' := [(2, .ref u_2), (0, .ref x), (1, .ref eo), (3, .int 0)]) hx hb dJx4a65c_add_72be8_10 rfl hl (ltb rfl) rfl (fun ls hl => ?_)
  refine lv_aload_n hx hb dJx4a65c_add_72be8_11 rfl (lvA0 hl) ?_
  refine lv_iload_n hx hb dJx4a65c_add_72be8_12 rfl (lvA3 hl) ?_
  refine lv_aload_n hx hb dJx4a65c_add_72be8_13 rfl (lvA2 hl) ?_
  have hca14 : va_Nw (.castable (RX4, TX4, 5).1 "java/lang/Object") s := hXS.2.2.2.2.2.2.2.2.2.2.2.2.1.2.2.1
  refine va_astqO (r := (RX4, TX4, 5)) (E := "java/lang/Object") (cA := D.1 99) hx hb hXS.2.2.2.2.2.2.2.2.1 hP hD hS 2 0 0 5 rfl rfl hca14 rfl rfl (by unfold vp_in; decide) dJx4a65c_add_72be8_14 (fun H locs hP hD hS => ?_)
  have hP : va_P D vwCl [(eo, .inr (5, [.int e0, .int e1, .int e2, .int e3, .int e4])), (x, .inr (0, [.int mc, .ref u_2, .int 0])), (u_2, .inl (D.1 99, 10, .inr (.inr (.inr (.inr (va_up (fun _ => none) (0 : Int32).toNatClampNeg (some eo)))))))] H := hP
  have hD : va_D A [(eo, .inr (5, [.int e0, .int e1, .int e2, .int e3, .int e4])), (x, .inr (0, [.int mc, .ref u_2, .int 0])), (u_2, .inl (D.1 99, 10, .inr (.inr (.inr (.inr (va_up (fun _ => none) (0 : Int32).toNatClampNeg (some eo)))))))] := hD
  rw [show (0 : Int32).toNatClampNeg = 0 by decide] at hP hD
  have hP : va_P D vwCl [(eo, .inr (5, [.int e0, .int e1, .int e2, .int e3, .int e4])), (x, .inr (0, [.int mc, .ref u_2, .int 0])), (u_2, .inl (D.1 99, 10, .inr (.inr (.inr (.inr (va_up (fun _ => none) 0 (some eo)))))))] H := hP
  have hD : va_D A [(eo, .inr (5, [.int e0, .int e1, .int e2, .int e3, .int e4])), (x, .inr (0, [.int mc, .ref u_2, .int 0])), (u_2, .inl (D.1 99, 10, .inr (.inr (.inr (.inr (va_up (fun _ => none) 0 (some eo)))))))] := hD
  refine lv_aload_n hx hb dJx4a65c_add_72be8_15 rfl (lvA1 hl) ?_
  refine lv_iload_n hx hb dJx4a65c_add_72be8_16 rfl (lvA3 hl) ?_
  refine lv_iconst (v := 1) hx hb dJx4a65c_add_72be8_17 kic_1 ?_
  refine lv_iadd hx hb dJx4a65c_add_72be8_18 ?_
  refine lv_topi (fun y_4 ey_4 => ?_)
  obtain rfl : y_4 = 1 := ey_4.trans (by decide)
  refine pf_RJx4a65c_48 S hK hP hD hS 1 rfl (v := .int 1) (Nat.le_of_ble_eq_true rfl) rfl rfl dJx4a65c_add_72be8_19 (fun H locs hP hD hS => ?_)
  have hP : va_P D vwCl [(eo, .inr (5, [.int e0, .int e1, .int e2, .int e3, .int e4])), (x, .inr (0, [.int mc, .ref u_2, .int 1])), (u_2, .inl (D.1 99, 10, .inr (.inr (.inr (.inr (va_up (fun _ => none) 0 (some eo)))))))] H := hP
  have hD : va_D A [(eo, .inr (5, [.int e0, .int e1, .int e2, .int e3, .int e4])), (x, .inr (0, [.int mc, .ref u_2, .int 1])), (u_2, .inl (D.1 99, 10, .inr (.inr (.inr (.inr (va_up (fun _ => none) 0 (some eo)))))))] := hD
  have hP9 := hP.sub (ws' := [(x, .inr (0, [.int mc, .ref u_2, .int 1])), (u_2, .inl (D.1 99, 10, .inr (.inr (.inr (.inr (va_up (fun _ => none) 0 (some eo))))))), (eo, .inr (5, [.int e0, .int e1, .int e2, .int e3, .int e4]))]) [1, 2, 0] rfl
  have hD9 := hD.sub (ws' := [(x, .inr (0, [.int mc, .ref u_2, .int 1])), (u_2, .inl (D.1 99, 10, .inr (.inr (.inr (.inr (va_up (fun _ => none) 0 (some eo))))))), (eo, .inr (5, [.int e0, .int e1, .int e2, .int e3, .int e4]))]) [1, 2, 0] (by decide) rfl
  exact W.vret hx hb hr (fun t ht hW => ⟨⟨u_2, rfl, trivial, by rw [ht]; exact hP9, hD9⟩, hS.F ht⟩) hS.2.2 dJx4a65c_add_72be8_22
set_option maxRecDepth 100000 in
set_option maxHeartbeats 4000000 in
theorem q_l_addZP (l : Launch) (D : va_G) (cI cB cZ : ClassId) (zz qq vv : Nat) (bt : Nat → Int32) (x eo : Nat) (mc : Int32) (e0 e1 e2 e3 e4 : Int32) (sz : Nat) : Met l yJx4a65c_add_9ea2d (CWS yJx4a65c_add_9ea2d cJx4a65c_add_9ea2d 2 (some .boolean)) (RM 4 1 10) (PBx [.ref x, .ref eo] D cI cB cZ zz qq vv bt [(x, .inr (0, [.int mc, .ref zz, .int 0])), (eo, .inr (5, [.int e0, .int e1, .int e2, .int e3, .int e4]))] sz) (va_Qi (fun (r : Int32) (_ : Nat) => r = 1) (fun (u : Nat) (t : State) => va_P D vwCl [(x, .inr (0, [.int (mc + 1), .ref u, .int 1])), (u, .inl (D.1 99, 10, .inr (.inr (.inr (.inr (va_up (fun _ => none) 0 (some eo))))))), (eo, .inr (5, [.int e0, .int e1, .int e2, .int e3, .int e4]))] t.heap ∧ va_D (va_A [(x, .inr (0, [.int mc, .ref zz, .int 0])), (eo, .inr (5, [.int e0, .int e1, .int e2, .int e3, .int e4]))] sz) [(x, .inr (0, [.int (mc + 1), .ref u, .int 1])), (u, .inl (D.1 99, 10, .inr (.inr (.inr (.inr (va_up (fun _ => none) 0 (some eo))))))), (eo, .inr (5, [.int e0, .int e1, .int e2, .int e3, .int e4]))]) (va_A [(x, .inr (0, [.int mc, .ref zz, .int 0])), (eo, .inr (5, [.int e0, .int e1, .int e2, .int e3, .int e4]))] sz)) 1 10 (va_A [(x, .inr (0, [.int mc, .ref zz, .int 0])), (eo, .inr (5, [.int e0, .int e1, .int e2, .int e3, .int e4]))] sz) := by
  refine en_x (fun A => (va_Qi (fun (r : Int32) (_ : Nat) => r = 1) (fun (u : Nat) (t : State) => va_P D vwCl [(x, .inr (0, [.int (mc + 1), .ref u, .int 1])), (u, .inl (D.1 99, 10, .inr (.inr (.inr (.inr (va_up (fun _ => none) 0 (some eo))))))), (eo, .inr (5, [.int e0, .int e1, .int e2, .int e3, .int e4]))] t.heap ∧ va_D A [(x, .inr (0, [.int (mc + 1), .ref u, .int 1])), (u, .inl (D.1 99, 10, .inr (.inr (.inr (.inr (va_up (fun _ => none) 0 (some eo))))))), (eo, .inr (5, [.int e0, .int e1, .int e2, .int e3, .int e4]))]) A)) rfl rfl pn_RJx4a65c (Nat.le_of_ble_eq_true rfl) (fun p e s m below meth c A hx hb hml hown S hr hlocks hnm hA hP hK hD hXS hS ls hl => ?_)
  have hP : va_P D vwCl [(x, .inr (0, [.int mc, .ref zz, .int 0])), (eo, .inr (5, [.int e0, .int e1, .int e2, .int e3, .int e4]))] s.heap := hP
  have hD : va_D A [(x, .inr (0, [.int mc, .ref zz, .int 0])), (eo, .inr (5, [.int e0, .int e1, .int e2, .int e3, .int e4]))] := hD
  have hl : lv_has ls 2 [(0, .ref x), (1, .ref eo)] := hl
  refine lv_aload_n hx hb dJx4a65c_add_9ea2d_0 rfl (lvA0 hl) ?_
  refine lv_dup hx hb dJx4a65c_add_9ea2d_1 rfl ?_
  refine gf_RJx4a65c_63 S hK hP 0 rfl (v := .int mc) rfl dJx4a65c_add_9ea2d_2 ?_
  refine lv_iconst (v := 1) hx hb dJx4a65c_add_9ea2d_5 kic_1 ?_
  refine lv_iadd hx hb dJx4a65c_add_9ea2d_6 ?_
  refine pf_RJx4a65c_63 S hK hP hD hS 0 rfl (v := .int (mc + 1)) (Nat.le_of_ble_eq_true rfl) rfl rfl dJx4a65c_add_9ea2d_7 (fun H locs hP hD hS => ?_)
  have hP : va_P D vwCl [(x, .inr (0, [.int (mc + 1), .ref zz, .int 0])), (eo, .inr (5, [.int e0, .int e1, .int e2, .int e3, .int e4]))] H := hP
  have hD : va_D A [(x, .inr (0, [.int (mc + 1), .ref zz, .int 0])), (eo, .inr (5, [.int e0, .int e1, .int e2, .int e3, .int e4]))] := hD
  refine lv_aload_n hx hb dJx4a65c_add_9ea2d_10 rfl (lvA0 hl) ?_
  refine lv_aload_n hx hb dJx4a65c_add_9ea2d_11 rfl (lvA1 hl) ?_
  refine lv_aload_n hx hb dJx4a65c_add_9ea2d_12 rfl (lvA0 hl) ?_
  refine gf_RJx4a65c_9 S hK hP 0 rfl (v := .ref zz) rfl dJx4a65c_add_9ea2d_13 ?_
  refine lv_aload_n hx hb dJx4a65c_add_9ea2d_16 rfl (lvA0 hl) ?_
  refine gf_RJx4a65c_48 S hK hP 0 rfl (v := .int 0) rfl dJx4a65c_add_9ea2d_17 ?_
  have hFc := va_free (wc := [(x, .inr (0, [.int (mc + 1), .ref zz, .int 0])), (eo, .inr (5, [.int e0, .int e1, .int e2, .int e3, .int e4]))]) hD hS hA [0, 1] rfl
  refine va_callv (runV_x (As := [.ref eo, .ref zz, .int 0]) (rest := []) S (q_l_add3ZP l D cI cB cZ zz qq vv bt x eo (mc + 1) e0 e1 e2 e3 e4 H.size) kV_RJx4a65c_131 hK hXS hS hFc hP hD [0, 1] rfl rfl (by decide) 0 rfl rfl rfl ⟨Nat.le_of_ble_eq_true rfl, Nat.le_of_ble_eq_true rfl⟩ ⟨Nat.le_of_ble_eq_true rfl, Nat.le_of_ble_eq_true rfl⟩ rfl hl.1 rfl (Nat.le_of_ble_eq_true rfl) dJx4a65c_add_9ea2d_20) hS (fun q _ h => hFc q h) hFc (fun u_2 t H1 locs ht hvm h_3 hB hz1 hk1 hS => ?_)
  obtain ⟨hP1, hD1⟩ := hB
  rw [ht] at hP1
  obtain ⟨hP, hD⟩ := va_join (wr := []) (w1 := [(x, .inr (0, [.int (mc + 1), .ref u_2, .int 1])), (u_2, .inl (D.1 99, 10, .inr (.inr (.inr (.inr (va_up (fun _ => none) 0 (some eo))))))), (eo, .inr (5, [.int e0, .int e1, .int e2, .int e3, .int e4]))]) hP hD [0, 1] [] rfl rfl (by decide) (by decide) hk1 hFc hP1 hD1
  generalize H1 = H at hP hS ⊢
  have hP : va_P D vwCl [(x, .inr (0, [.int (mc + 1), .ref u_2, .int 1])), (u_2, .inl (D.1 99, 10, .inr (.inr (.inr (.inr (va_up (fun _ => none) 0 (some eo))))))), (eo, .inr (5, [.int e0, .int e1, .int e2, .int e3, .int e4]))] H := hP
  have hD : va_D A [(x, .inr (0, [.int (mc + 1), .ref u_2, .int 1])), (u_2, .inl (D.1 99, 10, .inr (.inr (.inr (.inr (va_up (fun _ => none) 0 (some eo))))))), (eo, .inr (5, [.int e0, .int e1, .int e2, .int e3, .int e4]))] := hD
  refine lv_iconst (v := 1) hx hb dJx4a65c_add_9ea2d_23 kic_1 ?_
  have hP9 := hP.sub (ws' := [(x, .inr (0, [.int (mc + 1), .ref u_2, .int 1])), (u_2, .inl (D.1 99, 10, .inr (.inr (.inr (.inr (va_up (fun _ => none) 0 (some eo))))))), (eo, .inr (5, [.int e0, .int e1, .int e2, .int e3, .int e4]))]) [0, 1, 2] rfl
  have hD9 := hD.sub (ws' := [(x, .inr (0, [.int (mc + 1), .ref u_2, .int 1])), (u_2, .inl (D.1 99, 10, .inr (.inr (.inr (.inr (va_up (fun _ => none) 0 (some eo))))))), (eo, .inr (5, [.int e0, .int e1, .int e2, .int e3, .int e4]))]) [0, 1, 2] (by decide) rfl
  exact W.zret (v := 1) hx hb hr rfl (fun t ht hW => ⟨⟨1, u_2, rfl, rfl, by rw [ht]; exact hP9, hD9⟩, hS.F ht⟩) hS.2.2 dJx4a65c_add_9ea2d_24
set_option maxRecDepth 100000 in
set_option maxHeartbeats 4000000 in
theorem q_l_add3ZS (l : Launch) (D : va_G) (cI cB cZ : ClassId) (zz qq vv : Nat) (bt : Nat → Int32) (x eo : Nat) (mc : Int32) (e0 e1 e2 : Int32) (sz : Nat) : Met l yJx4a65c_add_72be8 (CWS yJx4a65c_add_72be8 cJx4a65c_add_72be8 4 none) (RM 3 1 10) (PBx [.ref x, .ref eo, .ref zz, .int 0] D cI cB cZ zz qq vv bt [(x, .inr (0, [.int mc, .ref zz, .int 0])), (eo, .inr (7, [.int e0, .int e1, .int e2]))] sz) (va_Qv (fun (_ : Nat) => True) (fun (u : Nat) (t : State) => va_P D vwCl [(x, .inr (0, [.int mc, .ref u, .int 1])), (u, .inl (D.1 99, 10, .inr (.inr (.inr (.inr (va_up (fun _ => none) 0 (some eo))))))), (eo, .inr (7, [.int e0, .int e1, .int e2]))] t.heap ∧ va_D (va_A [(x, .inr (0, [.int mc, .ref zz, .int 0])), (eo, .inr (7, [.int e0, .int e1, .int e2]))] sz) [(x, .inr (0, [.int mc, .ref u, .int 1])), (u, .inl (D.1 99, 10, .inr (.inr (.inr (.inr (va_up (fun _ => none) 0 (some eo))))))), (eo, .inr (7, [.int e0, .int e1, .int e2]))]) (va_A [(x, .inr (0, [.int mc, .ref zz, .int 0])), (eo, .inr (7, [.int e0, .int e1, .int e2]))] sz)) 1 10 (va_A [(x, .inr (0, [.int mc, .ref zz, .int 0])), (eo, .inr (7, [.int e0, .int e1, .int e2]))] sz) := by
  refine en_x (fun A => (va_Qv (fun (_ : Nat) => True) (fun (u : Nat) (t : State) => va_P D vwCl [(x, .inr (0, [.int mc, .ref u, .int 1])), (u, .inl (D.1 99, 10, .inr (.inr (.inr (.inr (va_up (fun _ => none) 0 (some eo))))))), (eo, .inr (7, [.int e0, .int e1, .int e2]))] t.heap ∧ va_D A [(x, .inr (0, [.int mc, .ref u, .int 1])), (u, .inl (D.1 99, 10, .inr (.inr (.inr (.inr (va_up (fun _ => none) 0 (some eo))))))), (eo, .inr (7, [.int e0, .int e1, .int e2]))]) A)) rfl rfl pn_RJx4a65c (Nat.le_of_ble_eq_true rfl) (fun p e s m below meth c A hx hb hml hown S hr hlocks hnm hA hP hK hD hXS hS ls hl => ?_)
  have hP : va_P D vwCl [(x, .inr (0, [.int mc, .ref zz, .int 0])), (eo, .inr (7, [.int e0, .int e1, .int e2]))] s.heap := hP
  have hD : va_D A [(x, .inr (0, [.int mc, .ref zz, .int 0])), (eo, .inr (7, [.int e0, .int e1, .int e2]))] := hD
  have hl : lv_has ls 4 [(0, .ref x), (1, .ref eo), (2, .ref zz), (3, .int 0)] := hl
  refine lv_iload_n hx hb dJx4a65c_add_72be8_0 rfl (lvA3 hl) ?_
  refine lv_aload_n hx hb dJx4a65c_add_72be8_1 rfl (lvA2 hl) ?_
  refine va_tlen hx hb hXS.2.2.1 hS (v := 0) rfl dJx4a65c_add_72be8_2 ?_
  refine lv_icmp_ne (tgt := 11) hx hb dJx4a65c_add_72be8_3 rfl (fun h => absurd h cq_eq_0_0) (fun _ => ?_)
  refine lv_aload_n hx hb dJx4a65c_add_72be8_6 rfl (lvA0 hl) ?_
  have hFc := va_free (wc := [(x, .inr (0, [.int mc, .ref zz, .int 0]))]) hD hS hA [0] rfl
  refine va_callq (runV_x (As := []) (rest := []) S (q_l_grow0 l D cI cB cZ zz qq vv bt x mc s.heap.size) kV_RJx4a65c_129 hK hXS hS hFc hP hD [0] rfl rfl (by decide) 0 rfl rfl rfl ⟨Nat.le_of_ble_eq_true rfl, Nat.le_of_ble_eq_true rfl⟩ ⟨Nat.le_of_ble_eq_true rfl, Nat.le_of_ble_eq_true rfl⟩ rfl hl.1 rfl (Nat.le_of_ble_eq_true rfl) dJx4a65c_add_72be8_7) hS (fun q _ h => hFc q h) hFc (fun r_1 u_2 t H1 locs ht hvm h_3 hB hz1 hk1 hS => ?_)
  obtain ⟨hP1, hD1⟩ := hB
  rw [ht] at hP1
  obtain ⟨hP, hD⟩ := va_join (wr := [(eo, .inr (7, [.int e0, .int e1, .int e2]))]) (w1 := [(x, .inr (0, [.int mc, .ref u_2, .int 0])), (u_2, .inl (D.1 99, 10, .inr (.inr (.inr (.inr (fun _ => none))))))]) hP hD [0] [1] rfl rfl (by decide) (by decide) hk1 hFc hP1 hD1
  generalize H1 = H at hP hS ⊢
  have hP : va_P D vwCl [(eo, .inr (7, [.int e0, .int e1, .int e2])), (x, .inr (0, [.int mc, .ref u_2, .int 0])), (u_2, .inl (D.1 99, 10, .inr (.inr (.inr (.inr (fun _ => none))))))] H := hP
  have hD : va_D A [(eo, .inr (7, [.int e0, .int e1, .int e2])), (x, .inr (0, [.int mc, .ref u_2, .int 0])), (u_2, .inl (D.1 99, 10, .inr (.inr (.inr (.inr (fun _ => none))))))] := hD
  subst h_3
  refine lv_astore_n (lv' := [(2, .ref u_2), (0, .ref x), (1, .ref eo), (3, .int 0)]) hx hb dJx4a65c_add_72be8_10 rfl hl (ltb rfl) rfl (fun ls hl => ?_)
  refine lv_aload_n hx hb dJx4a65c_add_72be8_11 rfl (lvA0 hl) ?_
  refine lv_iload_n hx hb dJx4a65c_add_72be8_12 rfl (lvA3 hl) ?_
  refine lv_aload_n hx hb dJx4a65c_add_72be8_13 rfl (lvA2 hl) ?_
  have hca14 : va_Nw (.castable (RX6, TX6, 3).1 "java/lang/Object") s := hXS.2.2.2.2.2.2.2.2.2.2.2.1
  refine va_astqO (r := (RX6, TX6, 3)) (E := "java/lang/Object") (cA := D.1 99) hx hb hXS.2.2.2.2.2.2.2.2.1 hP hD hS 2 0 0 7 rfl rfl hca14 rfl rfl (by unfold vp_in; decide) dJx4a65c_add_72be8_14 (fun H locs hP hD hS => ?_)
  have hP : va_P D vwCl [(eo, .inr (7, [.int e0, .int e1, .int e2])), (x, .inr (0, [.int mc, .ref u_2, .int 0])), (u_2, .inl (D.1 99, 10, .inr (.inr (.inr (.inr (va_up (fun _ => none) (0 : Int32).toNatClampNeg (some eo)))))))] H := hP
  have hD : va_D A [(eo, .inr (7, [.int e0, .int e1, .int e2])), (x, .inr (0, [.int mc, .ref u_2, .int 0])), (u_2, .inl (D.1 99, 10, .inr (.inr (.inr (.inr (va_up (fun _ => none) (0 : Int32).toNatClampNeg (some eo)))))))] := hD
  rw [show (0 : Int32).toNatClampNeg = 0 by decide] at hP hD
  have hP : va_P D vwCl [(eo, .inr (7, [.int e0, .int e1, .int e2])), (x, .inr (0, [.int mc, .ref u_2, .int 0])), (u_2, .inl (D.1 99, 10, .inr (.inr (.inr (.inr (va_up (fun _ => none) 0 (some eo)))))))] H := hP
  have hD : va_D A [(eo, .inr (7, [.int e0, .int e1, .int e2])), (x, .inr (0, [.int mc, .ref u_2, .int 0])), (u_2, .inl (D.1 99, 10, .inr (.inr (.inr (.inr (va_up (fun _ => none) 0 (some eo)))))))] := hD
  refine lv_aload_n hx hb dJx4a65c_add_72be8_15 rfl (lvA1 hl) ?_
  refine lv_iload_n hx hb dJx4a65c_add_72be8_16 rfl (lvA3 hl) ?_
  refine lv_iconst (v := 1) hx hb dJx4a65c_add_72be8_17 kic_1 ?_
  refine lv_iadd hx hb dJx4a65c_add_72be8_18 ?_
  refine lv_topi (fun y_4 ey_4 => ?_)
  obtain rfl : y_4 = 1 := ey_4.trans (by decide)
  refine pf_RJx4a65c_48 S hK hP hD hS 1 rfl (v := .int 1) (Nat.le_of_ble_eq_true rfl) rfl rfl dJx4a65c_add_72be8_19 (fun H locs hP hD hS => ?_)
  have hP : va_P D vwCl [(eo, .inr (7, [.int e0, .int e1, .int e2])), (x, .inr (0, [.int mc, .ref u_2, .int 1])), (u_2, .inl (D.1 99, 10, .inr (.inr (.inr (.inr (va_up (fun _ => none) 0 (some eo)))))))] H := hP
  have hD : va_D A [(eo, .inr (7, [.int e0, .int e1, .int e2])), (x, .inr (0, [.int mc, .ref u_2, .int 1])), (u_2, .inl (D.1 99, 10, .inr (.inr (.inr (.inr (va_up (fun _ => none) 0 (some eo)))))))] := hD
  have hP9 := hP.sub (ws' := [(x, .inr (0, [.int mc, .ref u_2, .int 1])), (u_2, .inl (D.1 99, 10, .inr (.inr (.inr (.inr (va_up (fun _ => none) 0 (some eo))))))), (eo, .inr (7, [.int e0, .int e1, .int e2]))]) [1, 2, 0] rfl
  have hD9 := hD.sub (ws' := [(x, .inr (0, [.int mc, .ref u_2, .int 1])), (u_2, .inl (D.1 99, 10, .inr (.inr (.inr (.inr (va_up (fun _ => none) 0 (some eo))))))), (eo, .inr (7, [.int e0, .int e1, .int e2]))]) [1, 2, 0] (by decide) rfl
  exact W.vret hx hb hr (fun t ht hW => ⟨⟨u_2, rfl, trivial, by rw [ht]; exact hP9, hD9⟩, hS.F ht⟩) hS.2.2 dJx4a65c_add_72be8_22
set_option maxRecDepth 100000 in
set_option maxHeartbeats 4000000 in
theorem q_l_addZS (l : Launch) (D : va_G) (cI cB cZ : ClassId) (zz qq vv : Nat) (bt : Nat → Int32) (x eo : Nat) (mc : Int32) (e0 e1 e2 : Int32) (sz : Nat) : Met l yJx4a65c_add_9ea2d (CWS yJx4a65c_add_9ea2d cJx4a65c_add_9ea2d 2 (some .boolean)) (RM 4 1 10) (PBx [.ref x, .ref eo] D cI cB cZ zz qq vv bt [(x, .inr (0, [.int mc, .ref zz, .int 0])), (eo, .inr (7, [.int e0, .int e1, .int e2]))] sz) (va_Qi (fun (r : Int32) (_ : Nat) => r = 1) (fun (u : Nat) (t : State) => va_P D vwCl [(x, .inr (0, [.int (mc + 1), .ref u, .int 1])), (u, .inl (D.1 99, 10, .inr (.inr (.inr (.inr (va_up (fun _ => none) 0 (some eo))))))), (eo, .inr (7, [.int e0, .int e1, .int e2]))] t.heap ∧ va_D (va_A [(x, .inr (0, [.int mc, .ref zz, .int 0])), (eo, .inr (7, [.int e0, .int e1, .int e2]))] sz) [(x, .inr (0, [.int (mc + 1), .ref u, .int 1])), (u, .inl (D.1 99, 10, .inr (.inr (.inr (.inr (va_up (fun _ => none) 0 (some eo))))))), (eo, .inr (7, [.int e0, .int e1, .int e2]))]) (va_A [(x, .inr (0, [.int mc, .ref zz, .int 0])), (eo, .inr (7, [.int e0, .int e1, .int e2]))] sz)) 1 10 (va_A [(x, .inr (0, [.int mc, .ref zz, .int 0])), (eo, .inr (7, [.int e0, .int e1, .int e2]))] sz) := by
  refine en_x (fun A => (va_Qi (fun (r : Int32) (_ : Nat) => r = 1) (fun (u : Nat) (t : State) => va_P D vwCl [(x, .inr (0, [.int (mc + 1), .ref u, .int 1])), (u, .inl (D.1 99, 10, .inr (.inr (.inr (.inr (va_up (fun _ => none) 0 (some eo))))))), (eo, .inr (7, [.int e0, .int e1, .int e2]))] t.heap ∧ va_D A [(x, .inr (0, [.int (mc + 1), .ref u, .int 1])), (u, .inl (D.1 99, 10, .inr (.inr (.inr (.inr (va_up (fun _ => none) 0 (some eo))))))), (eo, .inr (7, [.int e0, .int e1, .int e2]))]) A)) rfl rfl pn_RJx4a65c (Nat.le_of_ble_eq_true rfl) (fun p e s m below meth c A hx hb hml hown S hr hlocks hnm hA hP hK hD hXS hS ls hl => ?_)
  have hP : va_P D vwCl [(x, .inr (0, [.int mc, .ref zz, .int 0])), (eo, .inr (7, [.int e0, .int e1, .int e2]))] s.heap := hP
  have hD : va_D A [(x, .inr (0, [.int mc, .ref zz, .int 0])), (eo, .inr (7, [.int e0, .int e1, .int e2]))] := hD
  have hl : lv_has ls 2 [(0, .ref x), (1, .ref eo)] := hl
  refine lv_aload_n hx hb dJx4a65c_add_9ea2d_0 rfl (lvA0 hl) ?_
  refine lv_dup hx hb dJx4a65c_add_9ea2d_1 rfl ?_
  refine gf_RJx4a65c_63 S hK hP 0 rfl (v := .int mc) rfl dJx4a65c_add_9ea2d_2 ?_
  refine lv_iconst (v := 1) hx hb dJx4a65c_add_9ea2d_5 kic_1 ?_
  refine lv_iadd hx hb dJx4a65c_add_9ea2d_6 ?_
  refine pf_RJx4a65c_63 S hK hP hD hS 0 rfl (v := .int (mc + 1)) (Nat.le_of_ble_eq_true rfl) rfl rfl dJx4a65c_add_9ea2d_7 (fun H locs hP hD hS => ?_)
  have hP : va_P D vwCl [(x, .inr (0, [.int (mc + 1), .ref zz, .int 0])), (eo, .inr (7, [.int e0, .int e1, .int e2]))] H := hP
  have hD : va_D A [(x, .inr (0, [.int (mc + 1), .ref zz, .int 0])), (eo, .inr (7, [.int e0, .int e1, .int e2]))] := hD
  refine lv_aload_n hx hb dJx4a65c_add_9ea2d_10 rfl (lvA0 hl) ?_
  refine lv_aload_n hx hb dJx4a65c_add_9ea2d_11 rfl (lvA1 hl) ?_
  refine lv_aload_n hx hb dJx4a65c_add_9ea2d_12 rfl (lvA0 hl) ?_
  refine gf_RJx4a65c_9 S hK hP 0 rfl (v := .ref zz) rfl dJx4a65c_add_9ea2d_13 ?_
  refine lv_aload_n hx hb dJx4a65c_add_9ea2d_16 rfl (lvA0 hl) ?_
  refine gf_RJx4a65c_48 S hK hP 0 rfl (v := .int 0) rfl dJx4a65c_add_9ea2d_17 ?_
  have hFc := va_free (wc := [(x, .inr (0, [.int (mc + 1), .ref zz, .int 0])), (eo, .inr (7, [.int e0, .int e1, .int e2]))]) hD hS hA [0, 1] rfl
  refine va_callv (runV_x (As := [.ref eo, .ref zz, .int 0]) (rest := []) S (q_l_add3ZS l D cI cB cZ zz qq vv bt x eo (mc + 1) e0 e1 e2 H.size) kV_RJx4a65c_131 hK hXS hS hFc hP hD [0, 1] rfl rfl (by decide) 0 rfl rfl rfl ⟨Nat.le_of_ble_eq_true rfl, Nat.le_of_ble_eq_true rfl⟩ ⟨Nat.le_of_ble_eq_true rfl, Nat.le_of_ble_eq_true rfl⟩ rfl hl.1 rfl (Nat.le_of_ble_eq_true rfl) dJx4a65c_add_9ea2d_20) hS (fun q _ h => hFc q h) hFc (fun u_2 t H1 locs ht hvm h_3 hB hz1 hk1 hS => ?_)
  obtain ⟨hP1, hD1⟩ := hB
  rw [ht] at hP1
  obtain ⟨hP, hD⟩ := va_join (wr := []) (w1 := [(x, .inr (0, [.int (mc + 1), .ref u_2, .int 1])), (u_2, .inl (D.1 99, 10, .inr (.inr (.inr (.inr (va_up (fun _ => none) 0 (some eo))))))), (eo, .inr (7, [.int e0, .int e1, .int e2]))]) hP hD [0, 1] [] rfl rfl (by decide) (by decide) hk1 hFc hP1 hD1
  generalize H1 = H at hP hS ⊢
  have hP : va_P D vwCl [(x, .inr (0, [.int (mc + 1), .ref u_2, .int 1])), (u_2, .inl (D.1 99, 10, .inr (.inr (.inr (.inr (va_up (fun _ => none) 0 (some eo))))))), (eo, .inr (7, [.int e0, .int e1, .int e2]))] H := hP
  have hD : va_D A [(x, .inr (0, [.int (mc + 1), .ref u_2, .int 1])), (u_2, .inl (D.1 99, 10, .inr (.inr (.inr (.inr (va_up (fun _ => none) 0 (some eo))))))), (eo, .inr (7, [.int e0, .int e1, .int e2]))] := hD
  refine lv_iconst (v := 1) hx hb dJx4a65c_add_9ea2d_23 kic_1 ?_
  have hP9 := hP.sub (ws' := [(x, .inr (0, [.int (mc + 1), .ref u_2, .int 1])), (u_2, .inl (D.1 99, 10, .inr (.inr (.inr (.inr (va_up (fun _ => none) 0 (some eo))))))), (eo, .inr (7, [.int e0, .int e1, .int e2]))]) [0, 1, 2] rfl
  have hD9 := hD.sub (ws' := [(x, .inr (0, [.int (mc + 1), .ref u_2, .int 1])), (u_2, .inl (D.1 99, 10, .inr (.inr (.inr (.inr (va_up (fun _ => none) 0 (some eo))))))), (eo, .inr (7, [.int e0, .int e1, .int e2]))]) [0, 1, 2] (by decide) rfl
  exact W.zret (v := 1) hx hb hr rfl (fun t ht hW => ⟨⟨1, u_2, rfl, rfl, by rw [ht]; exact hP9, hD9⟩, hS.F ht⟩) hS.2.2 dJx4a65c_add_9ea2d_24
set_option maxRecDepth 100000 in
set_option maxHeartbeats 4000000 in
theorem q_l_add3ZM (l : Launch) (D : va_G) (cI cB cZ : ClassId) (zz qq vv : Nat) (bt : Nat → Int32) (x eo : Nat) (mc : Int32) (e0 e1 e2 : Int32) (sz : Nat) : Met l yJx4a65c_add_72be8 (CWS yJx4a65c_add_72be8 cJx4a65c_add_72be8 4 none) (RM 3 1 10) (PBx [.ref x, .ref eo, .ref zz, .int 0] D cI cB cZ zz qq vv bt [(x, .inr (0, [.int mc, .ref zz, .int 0])), (eo, .inr (4, [.int e0, .int e1, .int e2]))] sz) (va_Qv (fun (_ : Nat) => True) (fun (u : Nat) (t : State) => va_P D vwCl [(x, .inr (0, [.int mc, .ref u, .int 1])), (u, .inl (D.1 99, 10, .inr (.inr (.inr (.inr (va_up (fun _ => none) 0 (some eo))))))), (eo, .inr (4, [.int e0, .int e1, .int e2]))] t.heap ∧ va_D (va_A [(x, .inr (0, [.int mc, .ref zz, .int 0])), (eo, .inr (4, [.int e0, .int e1, .int e2]))] sz) [(x, .inr (0, [.int mc, .ref u, .int 1])), (u, .inl (D.1 99, 10, .inr (.inr (.inr (.inr (va_up (fun _ => none) 0 (some eo))))))), (eo, .inr (4, [.int e0, .int e1, .int e2]))]) (va_A [(x, .inr (0, [.int mc, .ref zz, .int 0])), (eo, .inr (4, [.int e0, .int e1, .int e2]))] sz)) 1 10 (va_A [(x, .inr (0, [.int mc, .ref zz, .int 0])), (eo, .inr (4, [.int e0, .int e1, .int e2]))] sz) := by
  refine en_x (fun A => (va_Qv (fun (_ : Nat) => True) (fun (u : Nat) (t : State) => va_P D vwCl [(x, .inr (0, [.int mc, .ref u, .int 1])), (u, .inl (D.1 99, 10, .inr (.inr (.inr (.inr (va_up (fun _ => none) 0 (some eo))))))), (eo, .inr (4, [.int e0, .int e1, .int e2]))] t.heap ∧ va_D A [(x, .inr (0, [.int mc, .ref u, .int 1])), (u, .inl (D.1 99, 10, .inr (.inr (.inr (.inr (va_up (fun _ => none) 0 (some eo))))))), (eo, .inr (4, [.int e0, .int e1, .int e2]))]) A)) rfl rfl pn_RJx4a65c (Nat.le_of_ble_eq_true rfl) (fun p e s m below meth c A hx hb hml hown S hr hlocks hnm hA hP hK hD hXS hS ls hl => ?_)
  have hP : va_P D vwCl [(x, .inr (0, [.int mc, .ref zz, .int 0])), (eo, .inr (4, [.int e0, .int e1, .int e2]))] s.heap := hP
  have hD : va_D A [(x, .inr (0, [.int mc, .ref zz, .int 0])), (eo, .inr (4, [.int e0, .int e1, .int e2]))] := hD
  have hl : lv_has ls 4 [(0, .ref x), (1, .ref eo), (2, .ref zz), (3, .int 0)] := hl
  refine lv_iload_n hx hb dJx4a65c_add_72be8_0 rfl (lvA3 hl) ?_
  refine lv_aload_n hx hb dJx4a65c_add_72be8_1 rfl (lvA2 hl) ?_
  refine va_tlen hx hb hXS.2.2.1 hS (v := 0) rfl dJx4a65c_add_72be8_2 ?_
  refine lv_icmp_ne (tgt := 11) hx hb dJx4a65c_add_72be8_3 rfl (fun h => absurd h cq_eq_0_0) (fun _ => ?_)
  refine lv_aload_n hx hb dJx4a65c_add_72be8_6 rfl (lvA0 hl) ?_
  have hFc := va_free (wc := [(x, .inr (0, [.int mc, .ref zz, .int 0]))]) hD hS hA [0] rfl
  refine va_callq (runV_x (As := []) (rest := []) S (q_l_grow0 l D cI cB cZ zz qq vv bt x mc s.heap.size) kV_RJx4a65c_129 hK hXS hS hFc hP hD [0] rfl rfl (by decide) 0 rfl rfl rfl ⟨Nat.le_of_ble_eq_true rfl, Nat.le_of_ble_eq_true rfl⟩ ⟨Nat.le_of_ble_eq_true rfl, Nat.le_of_ble_eq_true rfl⟩ rfl hl.1 rfl (Nat.le_of_ble_eq_true rfl) dJx4a65c_add_72be8_7) hS (fun q _ h => hFc q h) hFc (fun r_1 u_2 t H1 locs ht hvm h_3 hB hz1 hk1 hS => ?_)
  obtain ⟨hP1, hD1⟩ := hB
  rw [ht] at hP1
  obtain ⟨hP, hD⟩ := va_join (wr := [(eo, .inr (4, [.int e0, .int e1, .int e2]))]) (w1 := [(x, .inr (0, [.int mc, .ref u_2, .int 0])), (u_2, .inl (D.1 99, 10, .inr (.inr (.inr (.inr (fun _ => none))))))]) hP hD [0] [1] rfl rfl (by decide) (by decide) hk1 hFc hP1 hD1
  generalize H1 = H at hP hS ⊢
  have hP : va_P D vwCl [(eo, .inr (4, [.int e0, .int e1, .int e2])), (x, .inr (0, [.int mc, .ref u_2, .int 0])), (u_2, .inl (D.1 99, 10, .inr (.inr (.inr (.inr (fun _ => none))))))] H := hP
  have hD : va_D A [(eo, .inr (4, [.int e0, .int e1, .int e2])), (x, .inr (0, [.int mc, .ref u_2, .int 0])), (u_2, .inl (D.1 99, 10, .inr (.inr (.inr (.inr (fun _ => none))))))] := hD
  subst h_3
  refine lv_astore_n (lv' := [(2, .ref u_2), (0, .ref x), (1, .ref eo), (3, .int 0)]) hx hb dJx4a65c_add_72be8_10 rfl hl (ltb rfl) rfl (fun ls hl => ?_)
  refine lv_aload_n hx hb dJx4a65c_add_72be8_11 rfl (lvA0 hl) ?_
  refine lv_iload_n hx hb dJx4a65c_add_72be8_12 rfl (lvA3 hl) ?_
  refine lv_aload_n hx hb dJx4a65c_add_72be8_13 rfl (lvA2 hl) ?_
  have hca14 : va_Nw (.castable (RX3, TX3, 3).1 "java/lang/Object") s := hXS.2.2.2.2.2.2.2.2.2.2.2.2.1.2.2.2
  refine va_astqO (r := (RX3, TX3, 3)) (E := "java/lang/Object") (cA := D.1 99) hx hb hXS.2.2.2.2.2.2.2.2.1 hP hD hS 2 0 0 4 rfl rfl hca14 rfl rfl (by unfold vp_in; decide) dJx4a65c_add_72be8_14 (fun H locs hP hD hS => ?_)
  have hP : va_P D vwCl [(eo, .inr (4, [.int e0, .int e1, .int e2])), (x, .inr (0, [.int mc, .ref u_2, .int 0])), (u_2, .inl (D.1 99, 10, .inr (.inr (.inr (.inr (va_up (fun _ => none) (0 : Int32).toNatClampNeg (some eo)))))))] H := hP
  have hD : va_D A [(eo, .inr (4, [.int e0, .int e1, .int e2])), (x, .inr (0, [.int mc, .ref u_2, .int 0])), (u_2, .inl (D.1 99, 10, .inr (.inr (.inr (.inr (va_up (fun _ => none) (0 : Int32).toNatClampNeg (some eo)))))))] := hD
  rw [show (0 : Int32).toNatClampNeg = 0 by decide] at hP hD
  have hP : va_P D vwCl [(eo, .inr (4, [.int e0, .int e1, .int e2])), (x, .inr (0, [.int mc, .ref u_2, .int 0])), (u_2, .inl (D.1 99, 10, .inr (.inr (.inr (.inr (va_up (fun _ => none) 0 (some eo)))))))] H := hP
  have hD : va_D A [(eo, .inr (4, [.int e0, .int e1, .int e2])), (x, .inr (0, [.int mc, .ref u_2, .int 0])), (u_2, .inl (D.1 99, 10, .inr (.inr (.inr (.inr (va_up (fun _ => none) 0 (some eo)))))))] := hD
  refine lv_aload_n hx hb dJx4a65c_add_72be8_15 rfl (lvA1 hl) ?_
  refine lv_iload_n hx hb dJx4a65c_add_72be8_16 rfl (lvA3 hl) ?_
  refine lv_iconst (v := 1) hx hb dJx4a65c_add_72be8_17 kic_1 ?_
  refine lv_iadd hx hb dJx4a65c_add_72be8_18 ?_
  refine lv_topi (fun y_4 ey_4 => ?_)
  obtain rfl : y_4 = 1 := ey_4.trans (by decide)
  refine pf_RJx4a65c_48 S hK hP hD hS 1 rfl (v := .int 1) (Nat.le_of_ble_eq_true rfl) rfl rfl dJx4a65c_add_72be8_19 (fun H locs hP hD hS => ?_)
  have hP : va_P D vwCl [(eo, .inr (4, [.int e0, .int e1, .int e2])), (x, .inr (0, [.int mc, .ref u_2, .int 1])), (u_2, .inl (D.1 99, 10, .inr (.inr (.inr (.inr (va_up (fun _ => none) 0 (some eo)))))))] H := hP
  have hD : va_D A [(eo, .inr (4, [.int e0, .int e1, .int e2])), (x, .inr (0, [.int mc, .ref u_2, .int 1])), (u_2, .inl (D.1 99, 10, .inr (.inr (.inr (.inr (va_up (fun _ => none) 0 (some eo)))))))] := hD
  have hP9 := hP.sub (ws' := [(x, .inr (0, [.int mc, .ref u_2, .int 1])), (u_2, .inl (D.1 99, 10, .inr (.inr (.inr (.inr (va_up (fun _ => none) 0 (some eo))))))), (eo, .inr (4, [.int e0, .int e1, .int e2]))]) [1, 2, 0] rfl
  have hD9 := hD.sub (ws' := [(x, .inr (0, [.int mc, .ref u_2, .int 1])), (u_2, .inl (D.1 99, 10, .inr (.inr (.inr (.inr (va_up (fun _ => none) 0 (some eo))))))), (eo, .inr (4, [.int e0, .int e1, .int e2]))]) [1, 2, 0] (by decide) rfl
  exact W.vret hx hb hr (fun t ht hW => ⟨⟨u_2, rfl, trivial, by rw [ht]; exact hP9, hD9⟩, hS.F ht⟩) hS.2.2 dJx4a65c_add_72be8_22
set_option maxRecDepth 100000 in
set_option maxHeartbeats 4000000 in
theorem q_l_addZM (l : Launch) (D : va_G) (cI cB cZ : ClassId) (zz qq vv : Nat) (bt : Nat → Int32) (x eo : Nat) (mc : Int32) (e0 e1 e2 : Int32) (sz : Nat) : Met l yJx4a65c_add_9ea2d (CWS yJx4a65c_add_9ea2d cJx4a65c_add_9ea2d 2 (some .boolean)) (RM 4 1 10) (PBx [.ref x, .ref eo] D cI cB cZ zz qq vv bt [(x, .inr (0, [.int mc, .ref zz, .int 0])), (eo, .inr (4, [.int e0, .int e1, .int e2]))] sz) (va_Qi (fun (r : Int32) (_ : Nat) => r = 1) (fun (u : Nat) (t : State) => va_P D vwCl [(x, .inr (0, [.int (mc + 1), .ref u, .int 1])), (u, .inl (D.1 99, 10, .inr (.inr (.inr (.inr (va_up (fun _ => none) 0 (some eo))))))), (eo, .inr (4, [.int e0, .int e1, .int e2]))] t.heap ∧ va_D (va_A [(x, .inr (0, [.int mc, .ref zz, .int 0])), (eo, .inr (4, [.int e0, .int e1, .int e2]))] sz) [(x, .inr (0, [.int (mc + 1), .ref u, .int 1])), (u, .inl (D.1 99, 10, .inr (.inr (.inr (.inr (va_up (fun _ => none) 0 (some eo))))))), (eo, .inr (4, [.int e0, .int e1, .int e2]))]) (va_A [(x, .inr (0, [.int mc, .ref zz, .int 0])), (eo, .inr (4, [.int e0, .int e1, .int e2]))] sz)) 1 10 (va_A [(x, .inr (0, [.int mc, .ref zz, .int 0])), (eo, .inr (4, [.int e0, .int e1, .int e2]))] sz) := by
  refine en_x (fun A => (va_Qi (fun (r : Int32) (_ : Nat) => r = 1) (fun (u : Nat) (t : State) => va_P D vwCl [(x, .inr (0, [.int (mc + 1), .ref u, .int 1])), (u, .inl (D.1 99, 10, .inr (.inr (.inr (.inr (va_up (fun _ => none) 0 (some eo))))))), (eo, .inr (4, [.int e0, .int e1, .int e2]))] t.heap ∧ va_D A [(x, .inr (0, [.int (mc + 1), .ref u, .int 1])), (u, .inl (D.1 99, 10, .inr (.inr (.inr (.inr (va_up (fun _ => none) 0 (some eo))))))), (eo, .inr (4, [.int e0, .int e1, .int e2]))]) A)) rfl rfl pn_RJx4a65c (Nat.le_of_ble_eq_true rfl) (fun p e s m below meth c A hx hb hml hown S hr hlocks hnm hA hP hK hD hXS hS ls hl => ?_)
  have hP : va_P D vwCl [(x, .inr (0, [.int mc, .ref zz, .int 0])), (eo, .inr (4, [.int e0, .int e1, .int e2]))] s.heap := hP
  have hD : va_D A [(x, .inr (0, [.int mc, .ref zz, .int 0])), (eo, .inr (4, [.int e0, .int e1, .int e2]))] := hD
  have hl : lv_has ls 2 [(0, .ref x), (1, .ref eo)] := hl
  refine lv_aload_n hx hb dJx4a65c_add_9ea2d_0 rfl (lvA0 hl) ?_
  refine lv_dup hx hb dJx4a65c_add_9ea2d_1 rfl ?_
  refine gf_RJx4a65c_63 S hK hP 0 rfl (v := .int mc) rfl dJx4a65c_add_9ea2d_2 ?_
  refine lv_iconst (v := 1) hx hb dJx4a65c_add_9ea2d_5 kic_1 ?_
  refine lv_iadd hx hb dJx4a65c_add_9ea2d_6 ?_
  refine pf_RJx4a65c_63 S hK hP hD hS 0 rfl (v := .int (mc + 1)) (Nat.le_of_ble_eq_true rfl) rfl rfl dJx4a65c_add_9ea2d_7 (fun H locs hP hD hS => ?_)
  have hP : va_P D vwCl [(x, .inr (0, [.int (mc + 1), .ref zz, .int 0])), (eo, .inr (4, [.int e0, .int e1, .int e2]))] H := hP
  have hD : va_D A [(x, .inr (0, [.int (mc + 1), .ref zz, .int 0])), (eo, .inr (4, [.int e0, .int e1, .int e2]))] := hD
  refine lv_aload_n hx hb dJx4a65c_add_9ea2d_10 rfl (lvA0 hl) ?_
  refine lv_aload_n hx hb dJx4a65c_add_9ea2d_11 rfl (lvA1 hl) ?_
  refine lv_aload_n hx hb dJx4a65c_add_9ea2d_12 rfl (lvA0 hl) ?_
  refine gf_RJx4a65c_9 S hK hP 0 rfl (v := .ref zz) rfl dJx4a65c_add_9ea2d_13 ?_
  refine lv_aload_n hx hb dJx4a65c_add_9ea2d_16 rfl (lvA0 hl) ?_
  refine gf_RJx4a65c_48 S hK hP 0 rfl (v := .int 0) rfl dJx4a65c_add_9ea2d_17 ?_
  have hFc := va_free (wc := [(x, .inr (0, [.int (mc + 1), .ref zz, .int 0])), (eo, .inr (4, [.int e0, .int e1, .int e2]))]) hD hS hA [0, 1] rfl
  refine va_callv (runV_x (As := [.ref eo, .ref zz, .int 0]) (rest := []) S (q_l_add3ZM l D cI cB cZ zz qq vv bt x eo (mc + 1) e0 e1 e2 H.size) kV_RJx4a65c_131 hK hXS hS hFc hP hD [0, 1] rfl rfl (by decide) 0 rfl rfl rfl ⟨Nat.le_of_ble_eq_true rfl, Nat.le_of_ble_eq_true rfl⟩ ⟨Nat.le_of_ble_eq_true rfl, Nat.le_of_ble_eq_true rfl⟩ rfl hl.1 rfl (Nat.le_of_ble_eq_true rfl) dJx4a65c_add_9ea2d_20) hS (fun q _ h => hFc q h) hFc (fun u_2 t H1 locs ht hvm h_3 hB hz1 hk1 hS => ?_)
  obtain ⟨hP1, hD1⟩ := hB
  rw [ht] at hP1
  obtain ⟨hP, hD⟩ := va_join (wr := []) (w1 := [(x, .inr (0, [.int (mc + 1), .ref u_2, .int 1])), (u_2, .inl (D.1 99, 10, .inr (.inr (.inr (.inr (va_up (fun _ => none) 0 (some eo))))))), (eo, .inr (4, [.int e0, .int e1, .int e2]))]) hP hD [0, 1] [] rfl rfl (by decide) (by decide) hk1 hFc hP1 hD1
  generalize H1 = H at hP hS ⊢
  have hP : va_P D vwCl [(x, .inr (0, [.int (mc + 1), .ref u_2, .int 1])), (u_2, .inl (D.1 99, 10, .inr (.inr (.inr (.inr (va_up (fun _ => none) 0 (some eo))))))), (eo, .inr (4, [.int e0, .int e1, .int e2]))] H := hP
  have hD : va_D A [(x, .inr (0, [.int (mc + 1), .ref u_2, .int 1])), (u_2, .inl (D.1 99, 10, .inr (.inr (.inr (.inr (va_up (fun _ => none) 0 (some eo))))))), (eo, .inr (4, [.int e0, .int e1, .int e2]))] := hD
  refine lv_iconst (v := 1) hx hb dJx4a65c_add_9ea2d_23 kic_1 ?_
  have hP9 := hP.sub (ws' := [(x, .inr (0, [.int (mc + 1), .ref u_2, .int 1])), (u_2, .inl (D.1 99, 10, .inr (.inr (.inr (.inr (va_up (fun _ => none) 0 (some eo))))))), (eo, .inr (4, [.int e0, .int e1, .int e2]))]) [0, 1, 2] rfl
  have hD9 := hD.sub (ws' := [(x, .inr (0, [.int (mc + 1), .ref u_2, .int 1])), (u_2, .inl (D.1 99, 10, .inr (.inr (.inr (.inr (va_up (fun _ => none) 0 (some eo))))))), (eo, .inr (4, [.int e0, .int e1, .int e2]))]) [0, 1, 2] (by decide) rfl
  exact W.zret (v := 1) hx hb hr rfl (fun t ht hW => ⟨⟨1, u_2, rfl, rfl, by rw [ht]; exact hP9, hD9⟩, hS.F ht⟩) hS.2.2 dJx4a65c_add_9ea2d_24
set_option maxRecDepth 100000 in
set_option maxHeartbeats 4000000 in
theorem q_l_Sewer (l : Launch) (D : va_G) (cI cB cZ : ClassId) (x : Nat) (v0 v1 : Int32) (sz : Nat) : Met l yX6_init (CWS yX6_init cX6_init 3 none) (RM 1 0 0) (PBw [.ref x, .int v0, .int v1] D cI cB cZ [(x, .inr (7, [.int 0, .int 0, .int 0]))] sz) (va_Qv (fun (_ : Unit) => True) (fun (u : Unit) (t : State) => va_P D vwCl [(x, .inr (7, [.int v0, .int v1, .int 0]))] t.heap ∧ va_D (va_A [(x, .inr (7, [.int 0, .int 0, .int 0]))] sz) [(x, .inr (7, [.int v0, .int v1, .int 0]))]) (va_A [(x, .inr (7, [.int 0, .int 0, .int 0]))] sz)) 0 0 (va_A [(x, .inr (7, [.int 0, .int 0, .int 0]))] sz) := by
  refine en_w (fun A => (va_Qv (fun (_ : Unit) => True) (fun (u : Unit) (t : State) => va_P D vwCl [(x, .inr (7, [.int v0, .int v1, .int 0]))] t.heap ∧ va_D A [(x, .inr (7, [.int v0, .int v1, .int 0]))]) A)) rfl rfl pn_RX6 (Nat.le_of_ble_eq_true rfl) (fun p e s m below meth c A hx hb hml hown S hr hlocks hnm hA hP hK hD hS ls hl => ?_)
  have hin : meth.name = "<init>" := hnm
  have hP : va_P D vwCl [(x, .inr (7, [.int 0, .int 0, .int 0]))] s.heap := hP
  have hD : va_D A [(x, .inr (7, [.int 0, .int 0, .int 0]))] := hD
  have hl : lv_has ls 3 [(0, .ref x), (1, .int v0), (2, .int v1)] := hl
  refine lv_aload_n hx hb (oc_42 0 shX6_init_0) rfl (lvA0 hl) ?_
  refine W.objInit hx hb hown (S.2.2.2.2 _ (wk5_17 10 rfl rfl)) (S.2.2.2.2 _ (wk1_2 9 rfl rfl)) (S.2.2.2.2 _ (wk1_2 10 rfl rfl)) rfl (by rw [hml]; exact hl.1) rfl (oc_183 1 (aq_1 shX6_init_0) uw_0_1) (Nat.le_of_ble_eq_true rfl) (Nat.le_of_ble_eq_true rfl) ?_
  refine W.eq (g2 := F0 m 4 ls []) rfl ?_
  refine lv_aload_n hx hb (oc_42 4 (aq_4 shX6_init_0)) rfl (lvA0 hl) ?_
  refine lv_iload_n hx hb (oc_27 5 (aq_5 shX6_init_0)) rfl (lvA1 hl) ?_
  refine pf_RX6_7 S hin hK hP hD hS 0 rfl (v := .int v0) (Nat.le_of_ble_eq_true rfl) rfl rfl (oc_181 6 (aq_6 shX6_init_0) uw_0_7) (fun H locs hP hD hS => ?_)
  have hP : va_P D vwCl [(x, .inr (7, [.int v0, .int 0, .int 0]))] H := hP
  have hD : va_D A [(x, .inr (7, [.int v0, .int 0, .int 0]))] := hD
  refine lv_aload_n hx hb (oc_42 9 (aq_9 shX6_init_0)) rfl (lvA0 hl) ?_
  refine lv_iload_n hx hb (oc_28 10 (aq_10 shX6_init_0)) rfl (lvA2 hl) ?_
  refine pf_RX6_13 S hin hK hP hD hS 0 rfl (v := .int v1) (Nat.le_of_ble_eq_true rfl) rfl rfl (oc_181 11 (aq_11 shX6_init_0) uw_0_13) (fun H locs hP hD hS => ?_)
  have hP : va_P D vwCl [(x, .inr (7, [.int v0, .int v1, .int 0]))] H := hP
  have hD : va_D A [(x, .inr (7, [.int v0, .int v1, .int 0]))] := hD
  have hP9 := hP.sub (ws' := [(x, .inr (7, [.int v0, .int v1, .int 0]))]) [0] rfl
  have hD9 := hD.sub (ws' := [(x, .inr (7, [.int v0, .int v1, .int 0]))]) [0] (by decide) rfl
  exact W.vret hx hb hr (fun t ht hW => ⟨⟨(), rfl, trivial, by rw [ht]; exact hP9, hD9⟩, hS.F ht⟩) hS.2.2 (oc_177 14 (aq_14 shX6_init_0))
set_option maxRecDepth 100000 in
set_option maxHeartbeats 4000000 in
theorem q_l_Move (l : Launch) (D : va_G) (cI cB cZ : ClassId) (x : Nat) (v0 v1 v2 : Int32) (sz : Nat) : Met l yX3_init (CWS yX3_init cX3_init 4 none) (RM 1 0 0) (PBw [.ref x, .int v0, .int v1, .int v2] D cI cB cZ [(x, .inr (4, [.int 0, .int 0, .int 0]))] sz) (va_Qv (fun (_ : Unit) => True) (fun (u : Unit) (t : State) => va_P D vwCl [(x, .inr (4, [.int v0, .int v1, .int v2]))] t.heap ∧ va_D (va_A [(x, .inr (4, [.int 0, .int 0, .int 0]))] sz) [(x, .inr (4, [.int v0, .int v1, .int v2]))]) (va_A [(x, .inr (4, [.int 0, .int 0, .int 0]))] sz)) 0 0 (va_A [(x, .inr (4, [.int 0, .int 0, .int 0]))] sz) := by
  refine en_w (fun A => (va_Qv (fun (_ : Unit) => True) (fun (u : Unit) (t : State) => va_P D vwCl [(x, .inr (4, [.int v0, .int v1, .int v2]))] t.heap ∧ va_D A [(x, .inr (4, [.int v0, .int v1, .int v2]))]) A)) rfl rfl pn_RX3 (Nat.le_of_ble_eq_true rfl) (fun p e s m below meth c A hx hb hml hown S hr hlocks hnm hA hP hK hD hS ls hl => ?_)
  have hin : meth.name = "<init>" := hnm
  have hP : va_P D vwCl [(x, .inr (4, [.int 0, .int 0, .int 0]))] s.heap := hP
  have hD : va_D A [(x, .inr (4, [.int 0, .int 0, .int 0]))] := hD
  have hl : lv_has ls 4 [(0, .ref x), (1, .int v0), (2, .int v1), (3, .int v2)] := hl
  refine lv_aload_n hx hb (oc_42 0 shX3_init_0) rfl (lvA0 hl) ?_
  refine W.objInit hx hb hown (S.2.2.2.2 _ (wk6_3 8 rfl rfl)) (S.2.2.2.2 _ (wk1_2 9 rfl rfl)) (S.2.2.2.2 _ (wk1_2 10 rfl rfl)) rfl (by rw [hml]; exact hl.1) rfl (oc_183 1 (aq_1 shX3_init_0) uw_0_1) (Nat.le_of_ble_eq_true rfl) (Nat.le_of_ble_eq_true rfl) ?_
  refine W.eq (g2 := F0 m 4 ls []) rfl ?_
  refine lv_aload_n hx hb (oc_42 4 (aq_4 shX3_init_0)) rfl (lvA0 hl) ?_
  refine lv_iload_n hx hb (oc_27 5 (aq_5 shX3_init_0)) rfl (lvA1 hl) ?_
  refine pf_RX3_7 S hin hK hP hD hS 0 rfl (v := .int v0) (Nat.le_of_ble_eq_true rfl) rfl rfl (oc_181 6 (aq_6 shX3_init_0) uw_0_7) (fun H locs hP hD hS => ?_)
  have hP : va_P D vwCl [(x, .inr (4, [.int v0, .int 0, .int 0]))] H := hP
  have hD : va_D A [(x, .inr (4, [.int v0, .int 0, .int 0]))] := hD
  refine lv_aload_n hx hb (oc_42 9 (aq_9 shX3_init_0)) rfl (lvA0 hl) ?_
  refine lv_iload_n hx hb (oc_28 10 (aq_10 shX3_init_0)) rfl (lvA2 hl) ?_
  refine pf_RX3_13 S hin hK hP hD hS 0 rfl (v := .int v1) (Nat.le_of_ble_eq_true rfl) rfl rfl (oc_181 11 (aq_11 shX3_init_0) uw_0_13) (fun H locs hP hD hS => ?_)
  have hP : va_P D vwCl [(x, .inr (4, [.int v0, .int v1, .int 0]))] H := hP
  have hD : va_D A [(x, .inr (4, [.int v0, .int v1, .int 0]))] := hD
  refine lv_aload_n hx hb (oc_42 14 (aq_14 shX3_init_0)) rfl (lvA0 hl) ?_
  refine lv_iload_n hx hb (oc_29 15 (aq_15 shX3_init_0)) rfl (lvA3 hl) ?_
  refine pf_RX3_16 S hin hK hP hD hS 0 rfl (v := .int v2) (Nat.le_of_ble_eq_true rfl) rfl rfl (oc_181 16 (aq_16 shX3_init_0) uw_0_16) (fun H locs hP hD hS => ?_)
  have hP : va_P D vwCl [(x, .inr (4, [.int v0, .int v1, .int v2]))] H := hP
  have hD : va_D A [(x, .inr (4, [.int v0, .int v1, .int v2]))] := hD
  have hP9 := hP.sub (ws' := [(x, .inr (4, [.int v0, .int v1, .int v2]))]) [0] rfl
  have hD9 := hD.sub (ws' := [(x, .inr (4, [.int v0, .int v1, .int v2]))]) [0] (by decide) rfl
  exact W.vret hx hb hr (fun t ht hW => ⟨⟨(), rfl, trivial, by rw [ht]; exact hP9, hD9⟩, hS.F ht⟩) hS.2.2 (oc_177 19 (aq_19 shX3_init_0))
set_option maxRecDepth 100000 in
set_option maxHeartbeats 4000000 in
theorem q_l_Proof (l : Launch) (D : va_G) (cI cB cZ : ClassId) (x : Nat) (v0 v1 v2 v3 v4 : Int32) (sz : Nat) : Met l yX4_init (CWS yX4_init cX4_init 6 none) (RM 1 0 0) (PBw [.ref x, .int v0, .int v1, .int v2, .int v3, .int v4] D cI cB cZ [(x, .inr (5, [.int 0, .int 0, .int 0, .int 0, .int 0]))] sz) (va_Qv (fun (_ : Unit) => True) (fun (u : Unit) (t : State) => va_P D vwCl [(x, .inr (5, [.int v0, .int v1, .int v2, .int v3, .int v4]))] t.heap ∧ va_D (va_A [(x, .inr (5, [.int 0, .int 0, .int 0, .int 0, .int 0]))] sz) [(x, .inr (5, [.int v0, .int v1, .int v2, .int v3, .int v4]))]) (va_A [(x, .inr (5, [.int 0, .int 0, .int 0, .int 0, .int 0]))] sz)) 0 0 (va_A [(x, .inr (5, [.int 0, .int 0, .int 0, .int 0, .int 0]))] sz) := by
  refine en_w (fun A => (va_Qv (fun (_ : Unit) => True) (fun (u : Unit) (t : State) => va_P D vwCl [(x, .inr (5, [.int v0, .int v1, .int v2, .int v3, .int v4]))] t.heap ∧ va_D A [(x, .inr (5, [.int v0, .int v1, .int v2, .int v3, .int v4]))]) A)) rfl rfl pn_RX4 (Nat.le_of_ble_eq_true rfl) (fun p e s m below meth c A hx hb hml hown S hr hlocks hnm hA hP hK hD hS ls hl => ?_)
  have hin : meth.name = "<init>" := hnm
  have hP : va_P D vwCl [(x, .inr (5, [.int 0, .int 0, .int 0, .int 0, .int 0]))] s.heap := hP
  have hD : va_D A [(x, .inr (5, [.int 0, .int 0, .int 0, .int 0, .int 0]))] := hD
  have hl : lv_has ls 6 [(0, .ref x), (1, .int v0), (2, .int v1), (3, .int v2), (4, .int v3), (5, .int v4)] := hl
  refine lv_aload_n hx hb (oc_42 0 shX4_init_0) rfl (lvA0 hl) ?_
  refine W.objInit hx hb hown (S.2.2.2.2 _ (wk5_6 4 rfl rfl)) (S.2.2.2.2 _ (wk1_2 9 rfl rfl)) (S.2.2.2.2 _ (wk1_2 10 rfl rfl)) rfl (by rw [hml]; exact hl.1) rfl (oc_183 1 (aq_1 shX4_init_0) uw_0_1) (Nat.le_of_ble_eq_true rfl) (Nat.le_of_ble_eq_true rfl) ?_
  refine W.eq (g2 := F0 m 4 ls []) rfl ?_
  refine lv_aload_n hx hb (oc_42 4 (aq_4 shX4_init_0)) rfl (lvA0 hl) ?_
  refine lv_iload_n hx hb (oc_27 5 (aq_5 shX4_init_0)) rfl (lvA1 hl) ?_
  refine pf_RX4_7 S hin hK hP hD hS 0 rfl (v := .int v0) (Nat.le_of_ble_eq_true rfl) rfl rfl (oc_181 6 (aq_6 shX4_init_0) uw_0_7) (fun H locs hP hD hS => ?_)
  have hP : va_P D vwCl [(x, .inr (5, [.int v0, .int 0, .int 0, .int 0, .int 0]))] H := hP
  have hD : va_D A [(x, .inr (5, [.int v0, .int 0, .int 0, .int 0, .int 0]))] := hD
  refine lv_aload_n hx hb (oc_42 9 (aq_9 shX4_init_0)) rfl (lvA0 hl) ?_
  refine lv_iload_n hx hb (oc_28 10 (aq_10 shX4_init_0)) rfl (lvA2 hl) ?_
  refine pf_RX4_13 S hin hK hP hD hS 0 rfl (v := .int v1) (Nat.le_of_ble_eq_true rfl) rfl rfl (oc_181 11 (aq_11 shX4_init_0) uw_0_13) (fun H locs hP hD hS => ?_)
  have hP : va_P D vwCl [(x, .inr (5, [.int v0, .int v1, .int 0, .int 0, .int 0]))] H := hP
  have hD : va_D A [(x, .inr (5, [.int v0, .int v1, .int 0, .int 0, .int 0]))] := hD
  refine lv_aload_n hx hb (oc_42 14 (aq_14 shX4_init_0)) rfl (lvA0 hl) ?_
  refine lv_iload_n hx hb (oc_29 15 (aq_15 shX4_init_0)) rfl (lvA3 hl) ?_
  refine pf_RX4_16 S hin hK hP hD hS 0 rfl (v := .int v2) (Nat.le_of_ble_eq_true rfl) rfl rfl (oc_181 16 (aq_16 shX4_init_0) uw_0_16) (fun H locs hP hD hS => ?_)
  have hP : va_P D vwCl [(x, .inr (5, [.int v0, .int v1, .int v2, .int 0, .int 0]))] H := hP
  have hD : va_D A [(x, .inr (5, [.int v0, .int v1, .int v2, .int 0, .int 0]))] := hD
  refine lv_aload_n hx hb (oc_42 19 (aq_19 shX4_init_0)) rfl (lvA0 hl) ?_
  refine lv_iload hx hb (oc_21 20 (aq_20 shX4_init_0) ub_4) (lvA4 hl) ?_
  refine pf_RX4_19 S hin hK hP hD hS 0 rfl (v := .int v3) (Nat.le_of_ble_eq_true rfl) rfl rfl (oc_181 22 (aq_22 shX4_init_0) uw_0_19) (fun H locs hP hD hS => ?_)
  have hP : va_P D vwCl [(x, .inr (5, [.int v0, .int v1, .int v2, .int v3, .int 0]))] H := hP
  have hD : va_D A [(x, .inr (5, [.int v0, .int v1, .int v2, .int v3, .int 0]))] := hD
  refine lv_aload_n hx hb (oc_42 25 shX4_init_25) rfl (lvA0 hl) ?_
  refine lv_iload hx hb (oc_21 26 (aq_1 shX4_init_25) ub_5) (lvA5 hl) ?_
  refine pf_RX4_22 S hin hK hP hD hS 0 rfl (v := .int v4) (Nat.le_of_ble_eq_true rfl) rfl rfl (oc_181 28 (aq_3 shX4_init_25) uw_0_22) (fun H locs hP hD hS => ?_)
  have hP : va_P D vwCl [(x, .inr (5, [.int v0, .int v1, .int v2, .int v3, .int v4]))] H := hP
  have hD : va_D A [(x, .inr (5, [.int v0, .int v1, .int v2, .int v3, .int v4]))] := hD
  have hP9 := hP.sub (ws' := [(x, .inr (5, [.int v0, .int v1, .int v2, .int v3, .int v4]))]) [0] rfl
  have hD9 := hD.sub (ws' := [(x, .inr (5, [.int v0, .int v1, .int v2, .int v3, .int v4]))]) [0] (by decide) rfl
  exact W.vret hx hb hr (fun t ht hW => ⟨⟨(), rfl, trivial, by rw [ht]; exact hP9, hD9⟩, hS.F ht⟩) hS.2.2 (oc_177 31 (aq_6 shX4_init_25))
set_option maxRecDepth 100000 in
set_option maxHeartbeats 4000000 in
theorem q_l_Load (l : Launch) (D : va_G) (cI cB cZ : ClassId) (x : Nat) (v0 v1 v2 v3 v4 v5 : Int32) (sz : Nat) : Met l yX2_init (CWS yX2_init cX2_init 7 none) (RM 1 0 0) (PBw [.ref x, .int v0, .int v1, .int v2, .int v3, .int v4, .int v5] D cI cB cZ [(x, .inr (3, [.int 0, .int 0, .int 0, .int 0, .int 0, .int 0, .int 0, .int 0, .int 0, .int 0]))] sz) (va_Qv (fun (_ : Unit) => True) (fun (u : Unit) (t : State) => va_P D vwCl [(x, .inr (3, [.int v0, .int v1, .int v2, .int v3, .int v4, .int v5, .int 0, .int 0, .int 0, .int 0]))] t.heap ∧ va_D (va_A [(x, .inr (3, [.int 0, .int 0, .int 0, .int 0, .int 0, .int 0, .int 0, .int 0, .int 0, .int 0]))] sz) [(x, .inr (3, [.int v0, .int v1, .int v2, .int v3, .int v4, .int v5, .int 0, .int 0, .int 0, .int 0]))]) (va_A [(x, .inr (3, [.int 0, .int 0, .int 0, .int 0, .int 0, .int 0, .int 0, .int 0, .int 0, .int 0]))] sz)) 0 0 (va_A [(x, .inr (3, [.int 0, .int 0, .int 0, .int 0, .int 0, .int 0, .int 0, .int 0, .int 0, .int 0]))] sz) := by
  refine en_w (fun A => (va_Qv (fun (_ : Unit) => True) (fun (u : Unit) (t : State) => va_P D vwCl [(x, .inr (3, [.int v0, .int v1, .int v2, .int v3, .int v4, .int v5, .int 0, .int 0, .int 0, .int 0]))] t.heap ∧ va_D A [(x, .inr (3, [.int v0, .int v1, .int v2, .int v3, .int v4, .int v5, .int 0, .int 0, .int 0, .int 0]))]) A)) rfl rfl pn_RX2 (Nat.le_of_ble_eq_true rfl) (fun p e s m below meth c A hx hb hml hown S hr hlocks hnm hA hP hK hD hS ls hl => ?_)
  have hin : meth.name = "<init>" := hnm
  have hP : va_P D vwCl [(x, .inr (3, [.int 0, .int 0, .int 0, .int 0, .int 0, .int 0, .int 0, .int 0, .int 0, .int 0]))] s.heap := hP
  have hD : va_D A [(x, .inr (3, [.int 0, .int 0, .int 0, .int 0, .int 0, .int 0, .int 0, .int 0, .int 0, .int 0]))] := hD
  have hl : lv_has ls 7 [(0, .ref x), (1, .int v0), (2, .int v1), (3, .int v2), (4, .int v3), (5, .int v4), (6, .int v5)] := hl
  refine lv_aload_n hx hb (oc_42 0 shX2_init_0) rfl (lvA0 hl) ?_
  refine W.objInit hx hb hown (S.2.2.2.2 _ (wk2_17 5 rfl rfl)) (S.2.2.2.2 _ (wk1_2 9 rfl rfl)) (S.2.2.2.2 _ (wk1_2 10 rfl rfl)) rfl (by rw [hml]; exact hl.1) rfl (oc_183 1 (aq_1 shX2_init_0) uw_0_1) (Nat.le_of_ble_eq_true rfl) (Nat.le_of_ble_eq_true rfl) ?_
  refine W.eq (g2 := F0 m 4 ls []) rfl ?_
  refine lv_aload_n hx hb (oc_42 4 (aq_4 shX2_init_0)) rfl (lvA0 hl) ?_
  refine lv_iload_n hx hb (oc_27 5 (aq_5 shX2_init_0)) rfl (lvA1 hl) ?_
  refine pf_RX2_7 S hin hK hP hD hS 0 rfl (v := .int v0) (Nat.le_of_ble_eq_true rfl) rfl rfl (oc_181 6 (aq_6 shX2_init_0) uw_0_7) (fun H locs hP hD hS => ?_)
  have hP : va_P D vwCl [(x, .inr (3, [.int v0, .int 0, .int 0, .int 0, .int 0, .int 0, .int 0, .int 0, .int 0, .int 0]))] H := hP
  have hD : va_D A [(x, .inr (3, [.int v0, .int 0, .int 0, .int 0, .int 0, .int 0, .int 0, .int 0, .int 0, .int 0]))] := hD
  refine lv_aload_n hx hb (oc_42 9 (aq_9 shX2_init_0)) rfl (lvA0 hl) ?_
  refine lv_iload_n hx hb (oc_28 10 (aq_10 shX2_init_0)) rfl (lvA2 hl) ?_
  refine pf_RX2_13 S hin hK hP hD hS 0 rfl (v := .int v1) (Nat.le_of_ble_eq_true rfl) rfl rfl (oc_181 11 (aq_11 shX2_init_0) uw_0_13) (fun H locs hP hD hS => ?_)
  have hP : va_P D vwCl [(x, .inr (3, [.int v0, .int v1, .int 0, .int 0, .int 0, .int 0, .int 0, .int 0, .int 0, .int 0]))] H := hP
  have hD : va_D A [(x, .inr (3, [.int v0, .int v1, .int 0, .int 0, .int 0, .int 0, .int 0, .int 0, .int 0, .int 0]))] := hD
  refine lv_aload_n hx hb (oc_42 14 (aq_14 shX2_init_0)) rfl (lvA0 hl) ?_
  refine lv_iload_n hx hb (oc_29 15 (aq_15 shX2_init_0)) rfl (lvA3 hl) ?_
  refine pf_RX2_16 S hin hK hP hD hS 0 rfl (v := .int v2) (Nat.le_of_ble_eq_true rfl) rfl rfl (oc_181 16 (aq_16 shX2_init_0) uw_0_16) (fun H locs hP hD hS => ?_)
  have hP : va_P D vwCl [(x, .inr (3, [.int v0, .int v1, .int v2, .int 0, .int 0, .int 0, .int 0, .int 0, .int 0, .int 0]))] H := hP
  have hD : va_D A [(x, .inr (3, [.int v0, .int v1, .int v2, .int 0, .int 0, .int 0, .int 0, .int 0, .int 0, .int 0]))] := hD
  refine lv_aload_n hx hb (oc_42 19 (aq_19 shX2_init_0)) rfl (lvA0 hl) ?_
  refine lv_iload hx hb (oc_21 20 (aq_20 shX2_init_0) ub_4) (lvA4 hl) ?_
  refine pf_RX2_19 S hin hK hP hD hS 0 rfl (v := .int v3) (Nat.le_of_ble_eq_true rfl) rfl rfl (oc_181 22 (aq_22 shX2_init_0) uw_0_19) (fun H locs hP hD hS => ?_)
  have hP : va_P D vwCl [(x, .inr (3, [.int v0, .int v1, .int v2, .int v3, .int 0, .int 0, .int 0, .int 0, .int 0, .int 0]))] H := hP
  have hD : va_D A [(x, .inr (3, [.int v0, .int v1, .int v2, .int v3, .int 0, .int 0, .int 0, .int 0, .int 0, .int 0]))] := hD
  refine lv_aload_n hx hb (oc_42 25 shX2_init_25) rfl (lvA0 hl) ?_
  refine lv_iload hx hb (oc_21 26 (aq_1 shX2_init_25) ub_5) (lvA5 hl) ?_
  refine pf_RX2_22 S hin hK hP hD hS 0 rfl (v := .int v4) (Nat.le_of_ble_eq_true rfl) rfl rfl (oc_181 28 (aq_3 shX2_init_25) uw_0_22) (fun H locs hP hD hS => ?_)
  have hP : va_P D vwCl [(x, .inr (3, [.int v0, .int v1, .int v2, .int v3, .int v4, .int 0, .int 0, .int 0, .int 0, .int 0]))] H := hP
  have hD : va_D A [(x, .inr (3, [.int v0, .int v1, .int v2, .int v3, .int v4, .int 0, .int 0, .int 0, .int 0, .int 0]))] := hD
  refine lv_aload_n hx hb (oc_42 31 (aq_6 shX2_init_25)) rfl (lvA0 hl) ?_
  refine lv_iload hx hb (oc_21 32 (aq_7 shX2_init_25) ub_6) (lvA6 hl) ?_
  refine pf_RX2_25 S hin hK hP hD hS 0 rfl (v := .int v5) (Nat.le_of_ble_eq_true rfl) rfl rfl (oc_181 34 (aq_9 shX2_init_25) uw_0_25) (fun H locs hP hD hS => ?_)
  have hP : va_P D vwCl [(x, .inr (3, [.int v0, .int v1, .int v2, .int v3, .int v4, .int v5, .int 0, .int 0, .int 0, .int 0]))] H := hP
  have hD : va_D A [(x, .inr (3, [.int v0, .int v1, .int v2, .int v3, .int v4, .int v5, .int 0, .int 0, .int 0, .int 0]))] := hD
  have hP9 := hP.sub (ws' := [(x, .inr (3, [.int v0, .int v1, .int v2, .int v3, .int v4, .int v5, .int 0, .int 0, .int 0, .int 0]))]) [0] rfl
  have hD9 := hD.sub (ws' := [(x, .inr (3, [.int v0, .int v1, .int v2, .int v3, .int v4, .int v5, .int 0, .int 0, .int 0, .int 0]))]) [0] (by decide) rfl
  exact W.vret hx hb hr (fun t ht hW => ⟨⟨(), rfl, trivial, by rw [ht]; exact hP9, hD9⟩, hS.F ht⟩) hS.2.2 (oc_177 37 (aq_12 shX2_init_25))
set_option maxRecDepth 100000 in
set_option maxHeartbeats 4000000 in
theorem q_l_Batch (l : Launch) (D : va_G) (cI cB cZ : ClassId) (x : Nat) (sz : Nat) : Met l yX0_init (CWS yX0_init cX0_init 1 none) (RM 1 1 12) (PBw [.ref x] D cI cB cZ [(x, .inr (1, [.null, .int 0, .int 0, .int 0, .int 0, .int 0, .int 0, .int 0]))] sz) (va_Qv (fun (_ : Nat) => True) (fun (u : Nat) (t : State) => va_P D vwCl [(x, .inr (1, [.ref u, .int 0, .int 0, .int 0, .int 0, .int 0, .int 0, .int 0])), (u, .inl (cI, 12, .inl (fun _ => 0)))] t.heap ∧ va_D (va_A [(x, .inr (1, [.null, .int 0, .int 0, .int 0, .int 0, .int 0, .int 0, .int 0]))] sz) [(x, .inr (1, [.ref u, .int 0, .int 0, .int 0, .int 0, .int 0, .int 0, .int 0])), (u, .inl (cI, 12, .inl (fun _ => 0)))]) (va_A [(x, .inr (1, [.null, .int 0, .int 0, .int 0, .int 0, .int 0, .int 0, .int 0]))] sz)) 1 12 (va_A [(x, .inr (1, [.null, .int 0, .int 0, .int 0, .int 0, .int 0, .int 0, .int 0]))] sz) := by
  refine en_w (fun A => (va_Qv (fun (_ : Nat) => True) (fun (u : Nat) (t : State) => va_P D vwCl [(x, .inr (1, [.ref u, .int 0, .int 0, .int 0, .int 0, .int 0, .int 0, .int 0])), (u, .inl (cI, 12, .inl (fun _ => 0)))] t.heap ∧ va_D A [(x, .inr (1, [.ref u, .int 0, .int 0, .int 0, .int 0, .int 0, .int 0, .int 0])), (u, .inl (cI, 12, .inl (fun _ => 0)))]) A)) rfl rfl pn_RX0 (Nat.le_of_ble_eq_true rfl) (fun p e s m below meth c A hx hb hml hown S hr hlocks hnm hA hP hK hD hS ls hl => ?_)
  have hin : meth.name = "<init>" := hnm
  have hP : va_P D vwCl [(x, .inr (1, [.null, .int 0, .int 0, .int 0, .int 0, .int 0, .int 0, .int 0]))] s.heap := hP
  have hD : va_D A [(x, .inr (1, [.null, .int 0, .int 0, .int 0, .int 0, .int 0, .int 0, .int 0]))] := hD
  have hl : lv_has ls 1 [(0, .ref x)] := hl
  refine lv_aload_n hx hb (oc_42 0 shX0_init_0) rfl (lvA0 hl) ?_
  refine W.objInit hx hb hown (S.2.2.2.2 _ (wk4_18 0 rfl rfl)) (S.2.2.2.2 _ (wk1_2 9 rfl rfl)) (S.2.2.2.2 _ (wk1_2 10 rfl rfl)) rfl (by rw [hml]; exact hl.1) rfl (oc_183 1 (aq_1 shX0_init_0) uw_0_1) (Nat.le_of_ble_eq_true rfl) (Nat.le_of_ble_eq_true rfl) ?_
  refine W.eq (g2 := F0 m 4 ls []) rfl ?_
  refine lv_aload_n hx hb (oc_42 4 (aq_4 shX0_init_0)) rfl (lvA0 hl) ?_
  refine lv_bipush (v := 12) hx hb (oc_16 5 (aq_5 shX0_init_0) sgb_12) kbc_12 ?_
  refine newa_int S hK hP hD hS hA (N' := 12) (by decide) (by decide) (Nat.le_of_ble_eq_true rfl) (Nat.le_of_ble_eq_true rfl) (Nat.le_of_ble_eq_true rfl) (oc_188_10 7 (aq_7 shX0_init_0)) (fun q7 H hP hD hS => ?_)
  have hP : va_P D vwCl [(x, .inr (1, [.null, .int 0, .int 0, .int 0, .int 0, .int 0, .int 0, .int 0])), (q7, .inl (cI, 12, .inl (fun _ => 0)))] H := hP
  have hD : va_D A [(x, .inr (1, [.null, .int 0, .int 0, .int 0, .int 0, .int 0, .int 0, .int 0])), (q7, .inl (cI, 12, .inl (fun _ => 0)))] := hD
  refine pf_RX0_9 S hin hK hP hD hS 0 rfl (v := .ref q7) (Nat.le_of_ble_eq_true rfl) rfl rfl (oc_181 9 (aq_9 shX0_init_0) uw_0_9) (fun H locs hP hD hS => ?_)
  have hP : va_P D vwCl [(x, .inr (1, [.ref q7, .int 0, .int 0, .int 0, .int 0, .int 0, .int 0, .int 0])), (q7, .inl (cI, 12, .inl (fun _ => 0)))] H := hP
  have hD : va_D A [(x, .inr (1, [.ref q7, .int 0, .int 0, .int 0, .int 0, .int 0, .int 0, .int 0])), (q7, .inl (cI, 12, .inl (fun _ => 0)))] := hD
  have hP9 := hP.sub (ws' := [(x, .inr (1, [.ref q7, .int 0, .int 0, .int 0, .int 0, .int 0, .int 0, .int 0])), (q7, .inl (cI, 12, .inl (fun _ => 0)))]) [0, 1] rfl
  have hD9 := hD.sub (ws' := [(x, .inr (1, [.ref q7, .int 0, .int 0, .int 0, .int 0, .int 0, .int 0, .int 0])), (q7, .inl (cI, 12, .inl (fun _ => 0)))]) [0, 1] (by decide) rfl
  exact W.vret hx hb hr (fun t ht hW => ⟨⟨q7, rfl, trivial, by rw [ht]; exact hP9, hD9⟩, hS.F ht⟩) hS.2.2 (oc_177 12 (aq_12 shX0_init_0))
set_option maxRecDepth 100000 in
set_option maxHeartbeats 4000000 in
theorem q_l_Text0 (l : Launch) (D : va_G) (cI cB cZ : ClassId) (x : Nat) (sz : Nat) : Met l yX9_init (CWS yX9_init cX9_init 2 none) (RM 1 5 68) (PBw [.ref x, .int 0] D cI cB cZ [(x, .inr (10, [.null, .null, .null, .null, .null, .int 0, .int 0, .int 0, .int 0]))] sz) (va_Qv (fun (_ : Nat → Nat) => True) (fun (u : Nat → Nat) (t : State) => va_P D vwCl [(x, .inr (10, [.ref (u 0), .ref (u 1), .ref (u 2), .ref (u 3), .ref (u 4), .int 0, .int 0, .int 0, .int 0])), ((u 0), .inl (cI, 0, .inl (fun _ => 0))), ((u 1), .inl (cI, 12, .inl (fun _ => 0))), ((u 2), .inl (cI, 12, .inl (fun _ => 0))), ((u 3), .inl (cI, 12, .inl (fun _ => 0))), ((u 4), .inl (cI, 32, .inl (fun _ => 0)))] t.heap ∧ va_D (va_A [(x, .inr (10, [.null, .null, .null, .null, .null, .int 0, .int 0, .int 0, .int 0]))] sz) [(x, .inr (10, [.ref (u 0), .ref (u 1), .ref (u 2), .ref (u 3), .ref (u 4), .int 0, .int 0, .int 0, .int 0])), ((u 0), .inl (cI, 0, .inl (fun _ => 0))), ((u 1), .inl (cI, 12, .inl (fun _ => 0))), ((u 2), .inl (cI, 12, .inl (fun _ => 0))), ((u 3), .inl (cI, 12, .inl (fun _ => 0))), ((u 4), .inl (cI, 32, .inl (fun _ => 0)))]) (va_A [(x, .inr (10, [.null, .null, .null, .null, .null, .int 0, .int 0, .int 0, .int 0]))] sz)) 5 68 (va_A [(x, .inr (10, [.null, .null, .null, .null, .null, .int 0, .int 0, .int 0, .int 0]))] sz) := by
  refine en_w (fun A => (va_Qv (fun (_ : Nat → Nat) => True) (fun (u : Nat → Nat) (t : State) => va_P D vwCl [(x, .inr (10, [.ref (u 0), .ref (u 1), .ref (u 2), .ref (u 3), .ref (u 4), .int 0, .int 0, .int 0, .int 0])), ((u 0), .inl (cI, 0, .inl (fun _ => 0))), ((u 1), .inl (cI, 12, .inl (fun _ => 0))), ((u 2), .inl (cI, 12, .inl (fun _ => 0))), ((u 3), .inl (cI, 12, .inl (fun _ => 0))), ((u 4), .inl (cI, 32, .inl (fun _ => 0)))] t.heap ∧ va_D A [(x, .inr (10, [.ref (u 0), .ref (u 1), .ref (u 2), .ref (u 3), .ref (u 4), .int 0, .int 0, .int 0, .int 0])), ((u 0), .inl (cI, 0, .inl (fun _ => 0))), ((u 1), .inl (cI, 12, .inl (fun _ => 0))), ((u 2), .inl (cI, 12, .inl (fun _ => 0))), ((u 3), .inl (cI, 12, .inl (fun _ => 0))), ((u 4), .inl (cI, 32, .inl (fun _ => 0)))]) A)) rfl rfl pn_RX9 (Nat.le_of_ble_eq_true rfl) (fun p e s m below meth c A hx hb hml hown S hr hlocks hnm hA hP hK hD hS ls hl => ?_)
  have hin : meth.name = "<init>" := hnm
  have hP : va_P D vwCl [(x, .inr (10, [.null, .null, .null, .null, .null, .int 0, .int 0, .int 0, .int 0]))] s.heap := hP
  have hD : va_D A [(x, .inr (10, [.null, .null, .null, .null, .null, .int 0, .int 0, .int 0, .int 0]))] := hD
  have hl : lv_has ls 2 [(0, .ref x), (1, .int 0)] := hl
  refine lv_aload_n hx hb (oc_42 0 shX9_init_0) rfl (lvA0 hl) ?_
  refine W.objInit hx hb hown (S.2.2.2.2 _ (wk1_3 4 rfl rfl)) (S.2.2.2.2 _ (wk1_2 9 rfl rfl)) (S.2.2.2.2 _ (wk1_2 10 rfl rfl)) rfl (by rw [hml]; exact hl.1) rfl (oc_183 1 (aq_1 shX9_init_0) uw_0_5) (Nat.le_of_ble_eq_true rfl) (Nat.le_of_ble_eq_true rfl) ?_
  refine W.eq (g2 := F0 m 4 ls []) rfl ?_
  refine lv_aload_n hx hb (oc_42 4 (aq_4 shX9_init_0)) rfl (lvA0 hl) ?_
  refine lv_iload_n hx hb (oc_27 5 (aq_5 shX9_init_0)) rfl (lvA1 hl) ?_
  refine lv_iconst (v := 0) hx hb (oc_3 6 (aq_6 shX9_init_0)) kic_0 ?_
  refine va_mmax hx hb (by rw [hml]; exact hl.1.symm) hown (S.2.2.2.2 _ (wk1_3 5 rfl rfl)) (S.2.2.2.2 _ (wk1_3 6 rfl rfl)) (S.2.2.2.2 _ (wk1_0 3 rfl rfl)) (S.2.2.2.2 _ (wk1_3 7 rfl rfl)) (Nat.le_of_ble_eq_true rfl) (Nat.le_of_ble_eq_true rfl) (Nat.le_of_ble_eq_true rfl) (Nat.le_of_ble_eq_true rfl) (oc_184 7 (aq_7 shX9_init_0) uw_0_11) ?_
  refine lv_topi (fun y_1 ey_1 => ?_)
  obtain rfl : y_1 = 0 := ey_1.trans (by decide)
  refine newa_int S hK hP hD hS hA (N' := 0) (by decide) (by decide) (Nat.le_of_ble_eq_true rfl) (Nat.le_of_ble_eq_true rfl) (Nat.le_of_ble_eq_true rfl) (oc_188_10 10 (aq_10 shX9_init_0)) (fun q10 H hP hD hS => ?_)
  have hP : va_P D vwCl [(x, .inr (10, [.null, .null, .null, .null, .null, .int 0, .int 0, .int 0, .int 0])), (q10, .inl (cI, 0, .inl (fun _ => 0)))] H := hP
  have hD : va_D A [(x, .inr (10, [.null, .null, .null, .null, .null, .int 0, .int 0, .int 0, .int 0])), (q10, .inl (cI, 0, .inl (fun _ => 0)))] := hD
  refine pf_RX9_17 S hin hK hP hD hS 0 rfl (v := .ref q10) (Nat.le_of_ble_eq_true rfl) rfl rfl (oc_181 12 (aq_12 shX9_init_0) uw_0_17) (fun H locs hP hD hS => ?_)
  have hP : va_P D vwCl [(x, .inr (10, [.ref q10, .null, .null, .null, .null, .int 0, .int 0, .int 0, .int 0])), (q10, .inl (cI, 0, .inl (fun _ => 0)))] H := hP
  have hD : va_D A [(x, .inr (10, [.ref q10, .null, .null, .null, .null, .int 0, .int 0, .int 0, .int 0])), (q10, .inl (cI, 0, .inl (fun _ => 0)))] := hD
  refine lv_aload_n hx hb (oc_42 15 (aq_15 shX9_init_0)) rfl (lvA0 hl) ?_
  refine lv_bipush (v := 12) hx hb (oc_16 16 (aq_16 shX9_init_0) sgb_12) kbc_12 ?_
  refine newa_int S hK hP hD hS hA (N' := 12) (by decide) (by decide) (Nat.le_of_ble_eq_true rfl) (Nat.le_of_ble_eq_true rfl) (Nat.le_of_ble_eq_true rfl) (oc_188_10 18 (aq_18 shX9_init_0)) (fun q18 H hP hD hS => ?_)
  have hP : va_P D vwCl [(x, .inr (10, [.ref q10, .null, .null, .null, .null, .int 0, .int 0, .int 0, .int 0])), (q10, .inl (cI, 0, .inl (fun _ => 0))), (q18, .inl (cI, 12, .inl (fun _ => 0)))] H := hP
  have hD : va_D A [(x, .inr (10, [.ref q10, .null, .null, .null, .null, .int 0, .int 0, .int 0, .int 0])), (q10, .inl (cI, 0, .inl (fun _ => 0))), (q18, .inl (cI, 12, .inl (fun _ => 0)))] := hD
  refine pf_RX9_21 S hin hK hP hD hS 0 rfl (v := .ref q18) (Nat.le_of_ble_eq_true rfl) rfl rfl (oc_181 20 (aq_20 shX9_init_0) uw_0_21) (fun H locs hP hD hS => ?_)
  have hP : va_P D vwCl [(x, .inr (10, [.ref q10, .ref q18, .null, .null, .null, .int 0, .int 0, .int 0, .int 0])), (q10, .inl (cI, 0, .inl (fun _ => 0))), (q18, .inl (cI, 12, .inl (fun _ => 0)))] H := hP
  have hD : va_D A [(x, .inr (10, [.ref q10, .ref q18, .null, .null, .null, .int 0, .int 0, .int 0, .int 0])), (q10, .inl (cI, 0, .inl (fun _ => 0))), (q18, .inl (cI, 12, .inl (fun _ => 0)))] := hD
  refine lv_aload_n hx hb (oc_42 23 (aq_23 shX9_init_0)) rfl (lvA0 hl) ?_
  refine lv_bipush (v := 12) hx hb (oc_16 24 shX9_init_24 sgb_12) kbc_12 ?_
  refine newa_int S hK hP hD hS hA (N' := 12) (by decide) (by decide) (Nat.le_of_ble_eq_true rfl) (Nat.le_of_ble_eq_true rfl) (Nat.le_of_ble_eq_true rfl) (oc_188_10 26 (aq_2 shX9_init_24)) (fun q26 H hP hD hS => ?_)
  have hP : va_P D vwCl [(x, .inr (10, [.ref q10, .ref q18, .null, .null, .null, .int 0, .int 0, .int 0, .int 0])), (q10, .inl (cI, 0, .inl (fun _ => 0))), (q18, .inl (cI, 12, .inl (fun _ => 0))), (q26, .inl (cI, 12, .inl (fun _ => 0)))] H := hP
  have hD : va_D A [(x, .inr (10, [.ref q10, .ref q18, .null, .null, .null, .int 0, .int 0, .int 0, .int 0])), (q10, .inl (cI, 0, .inl (fun _ => 0))), (q18, .inl (cI, 12, .inl (fun _ => 0))), (q26, .inl (cI, 12, .inl (fun _ => 0)))] := hD
  refine pf_RX9_24 S hin hK hP hD hS 0 rfl (v := .ref q26) (Nat.le_of_ble_eq_true rfl) rfl rfl (oc_181 28 (aq_4 shX9_init_24) uw_0_24) (fun H locs hP hD hS => ?_)
  have hP : va_P D vwCl [(x, .inr (10, [.ref q10, .ref q18, .ref q26, .null, .null, .int 0, .int 0, .int 0, .int 0])), (q10, .inl (cI, 0, .inl (fun _ => 0))), (q18, .inl (cI, 12, .inl (fun _ => 0))), (q26, .inl (cI, 12, .inl (fun _ => 0)))] H := hP
  have hD : va_D A [(x, .inr (10, [.ref q10, .ref q18, .ref q26, .null, .null, .int 0, .int 0, .int 0, .int 0])), (q10, .inl (cI, 0, .inl (fun _ => 0))), (q18, .inl (cI, 12, .inl (fun _ => 0))), (q26, .inl (cI, 12, .inl (fun _ => 0)))] := hD
  refine lv_aload_n hx hb (oc_42 31 (aq_7 shX9_init_24)) rfl (lvA0 hl) ?_
  refine lv_bipush (v := 12) hx hb (oc_16 32 (aq_8 shX9_init_24) sgb_12) kbc_12 ?_
  refine newa_int S hK hP hD hS hA (N' := 12) (by decide) (by decide) (Nat.le_of_ble_eq_true rfl) (Nat.le_of_ble_eq_true rfl) (Nat.le_of_ble_eq_true rfl) (oc_188_10 34 (aq_10 shX9_init_24)) (fun q34 H hP hD hS => ?_)
  have hP : va_P D vwCl [(x, .inr (10, [.ref q10, .ref q18, .ref q26, .null, .null, .int 0, .int 0, .int 0, .int 0])), (q10, .inl (cI, 0, .inl (fun _ => 0))), (q18, .inl (cI, 12, .inl (fun _ => 0))), (q26, .inl (cI, 12, .inl (fun _ => 0))), (q34, .inl (cI, 12, .inl (fun _ => 0)))] H := hP
  have hD : va_D A [(x, .inr (10, [.ref q10, .ref q18, .ref q26, .null, .null, .int 0, .int 0, .int 0, .int 0])), (q10, .inl (cI, 0, .inl (fun _ => 0))), (q18, .inl (cI, 12, .inl (fun _ => 0))), (q26, .inl (cI, 12, .inl (fun _ => 0))), (q34, .inl (cI, 12, .inl (fun _ => 0)))] := hD
  refine pf_RX9_27 S hin hK hP hD hS 0 rfl (v := .ref q34) (Nat.le_of_ble_eq_true rfl) rfl rfl (oc_181 36 (aq_12 shX9_init_24) uw_0_27) (fun H locs hP hD hS => ?_)
  have hP : va_P D vwCl [(x, .inr (10, [.ref q10, .ref q18, .ref q26, .ref q34, .null, .int 0, .int 0, .int 0, .int 0])), (q10, .inl (cI, 0, .inl (fun _ => 0))), (q18, .inl (cI, 12, .inl (fun _ => 0))), (q26, .inl (cI, 12, .inl (fun _ => 0))), (q34, .inl (cI, 12, .inl (fun _ => 0)))] H := hP
  have hD : va_D A [(x, .inr (10, [.ref q10, .ref q18, .ref q26, .ref q34, .null, .int 0, .int 0, .int 0, .int 0])), (q10, .inl (cI, 0, .inl (fun _ => 0))), (q18, .inl (cI, 12, .inl (fun _ => 0))), (q26, .inl (cI, 12, .inl (fun _ => 0))), (q34, .inl (cI, 12, .inl (fun _ => 0)))] := hD
  refine lv_aload_n hx hb (oc_42 39 (aq_15 shX9_init_24)) rfl (lvA0 hl) ?_
  refine lv_bipush (v := 32) hx hb (oc_16 40 (aq_16 shX9_init_24) sgb_32) kbc_32 ?_
  refine newa_int S hK hP hD hS hA (N' := 32) (by decide) (by decide) (Nat.le_of_ble_eq_true rfl) (Nat.le_of_ble_eq_true rfl) (Nat.le_of_ble_eq_true rfl) (oc_188_10 42 (aq_18 shX9_init_24)) (fun q42 H hP hD hS => ?_)
  have hP : va_P D vwCl [(x, .inr (10, [.ref q10, .ref q18, .ref q26, .ref q34, .null, .int 0, .int 0, .int 0, .int 0])), (q10, .inl (cI, 0, .inl (fun _ => 0))), (q18, .inl (cI, 12, .inl (fun _ => 0))), (q26, .inl (cI, 12, .inl (fun _ => 0))), (q34, .inl (cI, 12, .inl (fun _ => 0))), (q42, .inl (cI, 32, .inl (fun _ => 0)))] H := hP
  have hD : va_D A [(x, .inr (10, [.ref q10, .ref q18, .ref q26, .ref q34, .null, .int 0, .int 0, .int 0, .int 0])), (q10, .inl (cI, 0, .inl (fun _ => 0))), (q18, .inl (cI, 12, .inl (fun _ => 0))), (q26, .inl (cI, 12, .inl (fun _ => 0))), (q34, .inl (cI, 12, .inl (fun _ => 0))), (q42, .inl (cI, 32, .inl (fun _ => 0)))] := hD
  refine pf_RX9_30 S hin hK hP hD hS 0 rfl (v := .ref q42) (Nat.le_of_ble_eq_true rfl) rfl rfl (oc_181 44 (aq_20 shX9_init_24) uw_0_30) (fun H locs hP hD hS => ?_)
  have hP : va_P D vwCl [(x, .inr (10, [.ref q10, .ref q18, .ref q26, .ref q34, .ref q42, .int 0, .int 0, .int 0, .int 0])), (q10, .inl (cI, 0, .inl (fun _ => 0))), (q18, .inl (cI, 12, .inl (fun _ => 0))), (q26, .inl (cI, 12, .inl (fun _ => 0))), (q34, .inl (cI, 12, .inl (fun _ => 0))), (q42, .inl (cI, 32, .inl (fun _ => 0)))] H := hP
  have hD : va_D A [(x, .inr (10, [.ref q10, .ref q18, .ref q26, .ref q34, .ref q42, .int 0, .int 0, .int 0, .int 0])), (q10, .inl (cI, 0, .inl (fun _ => 0))), (q18, .inl (cI, 12, .inl (fun _ => 0))), (q26, .inl (cI, 12, .inl (fun _ => 0))), (q34, .inl (cI, 12, .inl (fun _ => 0))), (q42, .inl (cI, 32, .inl (fun _ => 0)))] := hD
  have hP9 := hP.sub (ws' := [(x, .inr (10, [.ref q10, .ref q18, .ref q26, .ref q34, .ref q42, .int 0, .int 0, .int 0, .int 0])), (q10, .inl (cI, 0, .inl (fun _ => 0))), (q18, .inl (cI, 12, .inl (fun _ => 0))), (q26, .inl (cI, 12, .inl (fun _ => 0))), (q34, .inl (cI, 12, .inl (fun _ => 0))), (q42, .inl (cI, 32, .inl (fun _ => 0)))]) [0, 1, 2, 3, 4, 5] rfl
  have hD9 := hD.sub (ws' := [(x, .inr (10, [.ref q10, .ref q18, .ref q26, .ref q34, .ref q42, .int 0, .int 0, .int 0, .int 0])), (q10, .inl (cI, 0, .inl (fun _ => 0))), (q18, .inl (cI, 12, .inl (fun _ => 0))), (q26, .inl (cI, 12, .inl (fun _ => 0))), (q34, .inl (cI, 12, .inl (fun _ => 0))), (q42, .inl (cI, 32, .inl (fun _ => 0)))]) [0, 1, 2, 3, 4, 5] (by decide) rfl
  exact W.vret hx hb hr (fun t ht hW => ⟨⟨(fun k => ([q10, q18, q26, q34, q42] : List Nat).getD k 0), rfl, trivial, by rw [ht]; exact hP9, hD9⟩, hS.F ht⟩) hS.2.2 (oc_177 47 (aq_23 shX9_init_24))
set_option maxRecDepth 100000 in
set_option maxHeartbeats 4000000 in
theorem q_l_Kitchen (l : Launch) (D : va_G) (cI cB cZ : ClassId) (x : Nat) (v0 v1 v2 v3 : Int32) (sz : Nat) : Met l yX1_init (CWS yX1_init cX1_init 5 none) (RM 2 6 77) (PBw [.ref x, .int v0, .int v1, .int v2, .int v3] D cI cB cZ [(x, .inr (2, [.int 0, .int 0, .int 0, .int 0, .int 0, .int 0, .int 0, .int 0, .int 0, .int 0, .null]))] sz) (va_Qv (fun (_ : Nat → Nat) => True) (fun (u : Nat → Nat) (t : State) => va_P D vwCl [(x, .inr (2, [.int v0, .int v1, .int v2, .int v3, .int 0, .int 0, .int 0, .int 0, .int 0, .int 0, .ref (u 5)])), ((u 5), .inr (10, [.ref (u 0), .ref (u 1), .ref (u 2), .ref (u 3), .ref (u 4), .int 0, .int 0, .int 0, .int 0])), ((u 0), .inl (cI, 0, .inl (fun _ => 0))), ((u 1), .inl (cI, 12, .inl (fun _ => 0))), ((u 2), .inl (cI, 12, .inl (fun _ => 0))), ((u 3), .inl (cI, 12, .inl (fun _ => 0))), ((u 4), .inl (cI, 32, .inl (fun _ => 0)))] t.heap ∧ va_D (va_A [(x, .inr (2, [.int 0, .int 0, .int 0, .int 0, .int 0, .int 0, .int 0, .int 0, .int 0, .int 0, .null]))] sz) [(x, .inr (2, [.int v0, .int v1, .int v2, .int v3, .int 0, .int 0, .int 0, .int 0, .int 0, .int 0, .ref (u 5)])), ((u 5), .inr (10, [.ref (u 0), .ref (u 1), .ref (u 2), .ref (u 3), .ref (u 4), .int 0, .int 0, .int 0, .int 0])), ((u 0), .inl (cI, 0, .inl (fun _ => 0))), ((u 1), .inl (cI, 12, .inl (fun _ => 0))), ((u 2), .inl (cI, 12, .inl (fun _ => 0))), ((u 3), .inl (cI, 12, .inl (fun _ => 0))), ((u 4), .inl (cI, 32, .inl (fun _ => 0)))]) (va_A [(x, .inr (2, [.int 0, .int 0, .int 0, .int 0, .int 0, .int 0, .int 0, .int 0, .int 0, .int 0, .null]))] sz)) 6 77 (va_A [(x, .inr (2, [.int 0, .int 0, .int 0, .int 0, .int 0, .int 0, .int 0, .int 0, .int 0, .int 0, .null]))] sz) := by
  refine en_w (fun A => (va_Qv (fun (_ : Nat → Nat) => True) (fun (u : Nat → Nat) (t : State) => va_P D vwCl [(x, .inr (2, [.int v0, .int v1, .int v2, .int v3, .int 0, .int 0, .int 0, .int 0, .int 0, .int 0, .ref (u 5)])), ((u 5), .inr (10, [.ref (u 0), .ref (u 1), .ref (u 2), .ref (u 3), .ref (u 4), .int 0, .int 0, .int 0, .int 0])), ((u 0), .inl (cI, 0, .inl (fun _ => 0))), ((u 1), .inl (cI, 12, .inl (fun _ => 0))), ((u 2), .inl (cI, 12, .inl (fun _ => 0))), ((u 3), .inl (cI, 12, .inl (fun _ => 0))), ((u 4), .inl (cI, 32, .inl (fun _ => 0)))] t.heap ∧ va_D A [(x, .inr (2, [.int v0, .int v1, .int v2, .int v3, .int 0, .int 0, .int 0, .int 0, .int 0, .int 0, .ref (u 5)])), ((u 5), .inr (10, [.ref (u 0), .ref (u 1), .ref (u 2), .ref (u 3), .ref (u 4), .int 0, .int 0, .int 0, .int 0])), ((u 0), .inl (cI, 0, .inl (fun _ => 0))), ((u 1), .inl (cI, 12, .inl (fun _ => 0))), ((u 2), .inl (cI, 12, .inl (fun _ => 0))), ((u 3), .inl (cI, 12, .inl (fun _ => 0))), ((u 4), .inl (cI, 32, .inl (fun _ => 0)))]) A)) rfl rfl pn_RX1 (Nat.le_of_ble_eq_true rfl) (fun p e s m below meth c A hx hb hml hown S hr hlocks hnm hA hP hK hD hS ls hl => ?_)
  have hin : meth.name = "<init>" := hnm
  have hP : va_P D vwCl [(x, .inr (2, [.int 0, .int 0, .int 0, .int 0, .int 0, .int 0, .int 0, .int 0, .int 0, .int 0, .null]))] s.heap := hP
  have hD : va_D A [(x, .inr (2, [.int 0, .int 0, .int 0, .int 0, .int 0, .int 0, .int 0, .int 0, .int 0, .int 0, .null]))] := hD
  have hl : lv_has ls 5 [(0, .ref x), (1, .int v0), (2, .int v1), (3, .int v2), (4, .int v3)] := hl
  refine lv_aload_n hx hb (oc_42 0 shX1_init_0) rfl (lvA0 hl) ?_
  refine W.objInit hx hb hown (S.2.2.2.2 _ (wk2_5 8 rfl rfl)) (S.2.2.2.2 _ (wk1_2 9 rfl rfl)) (S.2.2.2.2 _ (wk1_2 10 rfl rfl)) rfl (by rw [hml]; exact hl.1) rfl (oc_183 1 (aq_1 shX1_init_0) uw_0_1) (Nat.le_of_ble_eq_true rfl) (Nat.le_of_ble_eq_true rfl) ?_
  refine W.eq (g2 := F0 m 4 ls []) rfl ?_
  refine lv_aload_n hx hb (oc_42 4 (aq_4 shX1_init_0)) rfl (lvA0 hl) ?_
  refine lv_iload_n hx hb (oc_27 5 (aq_5 shX1_init_0)) rfl (lvA1 hl) ?_
  refine pf_RX1_7 S hin hK hP hD hS 0 rfl (v := .int v0) (Nat.le_of_ble_eq_true rfl) rfl rfl (oc_181 6 (aq_6 shX1_init_0) uw_0_7) (fun H locs hP hD hS => ?_)
  have hP : va_P D vwCl [(x, .inr (2, [.int v0, .int 0, .int 0, .int 0, .int 0, .int 0, .int 0, .int 0, .int 0, .int 0, .null]))] H := hP
  have hD : va_D A [(x, .inr (2, [.int v0, .int 0, .int 0, .int 0, .int 0, .int 0, .int 0, .int 0, .int 0, .int 0, .null]))] := hD
  refine lv_aload_n hx hb (oc_42 9 (aq_9 shX1_init_0)) rfl (lvA0 hl) ?_
  refine lv_iload_n hx hb (oc_28 10 (aq_10 shX1_init_0)) rfl (lvA2 hl) ?_
  refine pf_RX1_13 S hin hK hP hD hS 0 rfl (v := .int v1) (Nat.le_of_ble_eq_true rfl) rfl rfl (oc_181 11 (aq_11 shX1_init_0) uw_0_13) (fun H locs hP hD hS => ?_)
  have hP : va_P D vwCl [(x, .inr (2, [.int v0, .int v1, .int 0, .int 0, .int 0, .int 0, .int 0, .int 0, .int 0, .int 0, .null]))] H := hP
  have hD : va_D A [(x, .inr (2, [.int v0, .int v1, .int 0, .int 0, .int 0, .int 0, .int 0, .int 0, .int 0, .int 0, .null]))] := hD
  refine lv_aload_n hx hb (oc_42 14 (aq_14 shX1_init_0)) rfl (lvA0 hl) ?_
  refine lv_iload_n hx hb (oc_29 15 (aq_15 shX1_init_0)) rfl (lvA3 hl) ?_
  refine pf_RX1_16 S hin hK hP hD hS 0 rfl (v := .int v2) (Nat.le_of_ble_eq_true rfl) rfl rfl (oc_181 16 (aq_16 shX1_init_0) uw_0_16) (fun H locs hP hD hS => ?_)
  have hP : va_P D vwCl [(x, .inr (2, [.int v0, .int v1, .int v2, .int 0, .int 0, .int 0, .int 0, .int 0, .int 0, .int 0, .null]))] H := hP
  have hD : va_D A [(x, .inr (2, [.int v0, .int v1, .int v2, .int 0, .int 0, .int 0, .int 0, .int 0, .int 0, .int 0, .null]))] := hD
  refine lv_aload_n hx hb (oc_42 19 (aq_19 shX1_init_0)) rfl (lvA0 hl) ?_
  refine lv_iload hx hb (oc_21 20 (aq_20 shX1_init_0) ub_4) (lvA4 hl) ?_
  refine pf_RX1_19 S hin hK hP hD hS 0 rfl (v := .int v3) (Nat.le_of_ble_eq_true rfl) rfl rfl (oc_181 22 (aq_22 shX1_init_0) uw_0_19) (fun H locs hP hD hS => ?_)
  have hP : va_P D vwCl [(x, .inr (2, [.int v0, .int v1, .int v2, .int v3, .int 0, .int 0, .int 0, .int 0, .int 0, .int 0, .null]))] H := hP
  have hD : va_D A [(x, .inr (2, [.int v0, .int v1, .int v2, .int v3, .int 0, .int 0, .int 0, .int 0, .int 0, .int 0, .null]))] := hD
  refine lv_aload_n hx hb (oc_42 25 shX1_init_25) rfl (lvA0 hl) ?_
  refine va_new (ci := 10) (fs := [.null, .null, .null, .null, .null, .int 0, .int 0, .int 0, .int 0]) (C := RX9) (T := TX9) (N := 9) hx hb S.2.2.2.2 hin_RX9 tyX9 tyX9_ok hown (S.2.2.2.2 _ (wk2_5 9 rfl rfl)) (S.2.2.2.2 _ (wk1_3 0 rfl rfl)) (S.2.2.2.2 _ (wk1_0 2 rfl rfl)) hK.1 hP hD hS hA rfl (by decide +kernel) (Nat.le_of_ble_eq_true rfl) (Nat.le_of_ble_eq_true rfl) (oc_187 26 (aq_1 shX1_init_25) uw_0_22) (fun q26 H hP hD hS => ?_)
  have hP : va_P D vwCl [(x, .inr (2, [.int v0, .int v1, .int v2, .int v3, .int 0, .int 0, .int 0, .int 0, .int 0, .int 0, .null])), (q26, .inr (10, [.null, .null, .null, .null, .null, .int 0, .int 0, .int 0, .int 0]))] H := hP
  have hD : va_D A [(x, .inr (2, [.int v0, .int v1, .int v2, .int v3, .int 0, .int 0, .int 0, .int 0, .int 0, .int 0, .null])), (q26, .inr (10, [.null, .null, .null, .null, .null, .int 0, .int 0, .int 0, .int 0]))] := hD
  refine lv_dup hx hb (oc_89 29 (aq_4 shX1_init_25)) rfl ?_
  refine lv_iconst (v := 0) hx hb (oc_3 30 (aq_5 shX1_init_25)) kic_0 ?_
  have hFc := va_free (wc := [(q26, .inr (10, [.null, .null, .null, .null, .null, .int 0, .int 0, .int 0, .int 0]))]) hD hS hA [1] rfl
  refine va_callv (runI_w (As := [.int 0]) (rest := [.ref q26, .ref x]) S (q_l_Text0 l D cI cB cZ q26 H.size) kI_RX1_24 hK hP hD [1] rfl rfl (by decide) ⟨Nat.le_of_ble_eq_true rfl, Nat.le_of_ble_eq_true rfl⟩ ⟨Nat.le_of_ble_eq_true rfl, Nat.le_of_ble_eq_true rfl⟩ rfl hl.1 rfl (Nat.le_of_ble_eq_true rfl) (oc_183 31 (aq_6 shX1_init_25) uw_0_24)) hS (fun q _ h => hFc q h) hFc (fun u_2 t H1 locs ht hvm h_3 hB hz1 hk1 hS => ?_)
  obtain ⟨hP1, hD1⟩ := hB
  rw [ht] at hP1
  obtain ⟨hP, hD⟩ := va_join (wr := [(x, .inr (2, [.int v0, .int v1, .int v2, .int v3, .int 0, .int 0, .int 0, .int 0, .int 0, .int 0, .null]))]) (w1 := [(q26, .inr (10, [.ref (u_2 0), .ref (u_2 1), .ref (u_2 2), .ref (u_2 3), .ref (u_2 4), .int 0, .int 0, .int 0, .int 0])), ((u_2 0), .inl (cI, 0, .inl (fun _ => 0))), ((u_2 1), .inl (cI, 12, .inl (fun _ => 0))), ((u_2 2), .inl (cI, 12, .inl (fun _ => 0))), ((u_2 3), .inl (cI, 12, .inl (fun _ => 0))), ((u_2 4), .inl (cI, 32, .inl (fun _ => 0)))]) hP hD [1] [0] rfl rfl (by decide) (by decide) hk1 hFc hP1 hD1
  generalize H1 = H at hP hS ⊢
  have hP : va_P D vwCl [(x, .inr (2, [.int v0, .int v1, .int v2, .int v3, .int 0, .int 0, .int 0, .int 0, .int 0, .int 0, .null])), (q26, .inr (10, [.ref (u_2 0), .ref (u_2 1), .ref (u_2 2), .ref (u_2 3), .ref (u_2 4), .int 0, .int 0, .int 0, .int 0])), ((u_2 0), .inl (cI, 0, .inl (fun _ => 0))), ((u_2 1), .inl (cI, 12, .inl (fun _ => 0))), ((u_2 2), .inl (cI, 12, .inl (fun _ => 0))), ((u_2 3), .inl (cI, 12, .inl (fun _ => 0))), ((u_2 4), .inl (cI, 32, .inl (fun _ => 0)))] H := hP
  have hD : va_D A [(x, .inr (2, [.int v0, .int v1, .int v2, .int v3, .int 0, .int 0, .int 0, .int 0, .int 0, .int 0, .null])), (q26, .inr (10, [.ref (u_2 0), .ref (u_2 1), .ref (u_2 2), .ref (u_2 3), .ref (u_2 4), .int 0, .int 0, .int 0, .int 0])), ((u_2 0), .inl (cI, 0, .inl (fun _ => 0))), ((u_2 1), .inl (cI, 12, .inl (fun _ => 0))), ((u_2 2), .inl (cI, 12, .inl (fun _ => 0))), ((u_2 3), .inl (cI, 12, .inl (fun _ => 0))), ((u_2 4), .inl (cI, 32, .inl (fun _ => 0)))] := hD
  refine pf_RX1_27 S hK hP hD hS 0 rfl (v := .ref q26) (Nat.le_of_ble_eq_true rfl) rfl rfl (oc_181 34 (aq_9 shX1_init_25) uw_0_27) (fun H locs hP hD hS => ?_)
  have hP : va_P D vwCl [(x, .inr (2, [.int v0, .int v1, .int v2, .int v3, .int 0, .int 0, .int 0, .int 0, .int 0, .int 0, .ref q26])), (q26, .inr (10, [.ref (u_2 0), .ref (u_2 1), .ref (u_2 2), .ref (u_2 3), .ref (u_2 4), .int 0, .int 0, .int 0, .int 0])), ((u_2 0), .inl (cI, 0, .inl (fun _ => 0))), ((u_2 1), .inl (cI, 12, .inl (fun _ => 0))), ((u_2 2), .inl (cI, 12, .inl (fun _ => 0))), ((u_2 3), .inl (cI, 12, .inl (fun _ => 0))), ((u_2 4), .inl (cI, 32, .inl (fun _ => 0)))] H := hP
  have hD : va_D A [(x, .inr (2, [.int v0, .int v1, .int v2, .int v3, .int 0, .int 0, .int 0, .int 0, .int 0, .int 0, .ref q26])), (q26, .inr (10, [.ref (u_2 0), .ref (u_2 1), .ref (u_2 2), .ref (u_2 3), .ref (u_2 4), .int 0, .int 0, .int 0, .int 0])), ((u_2 0), .inl (cI, 0, .inl (fun _ => 0))), ((u_2 1), .inl (cI, 12, .inl (fun _ => 0))), ((u_2 2), .inl (cI, 12, .inl (fun _ => 0))), ((u_2 3), .inl (cI, 12, .inl (fun _ => 0))), ((u_2 4), .inl (cI, 32, .inl (fun _ => 0)))] := hD
  have hP9 := hP.sub (ws' := [(x, .inr (2, [.int v0, .int v1, .int v2, .int v3, .int 0, .int 0, .int 0, .int 0, .int 0, .int 0, .ref q26])), (q26, .inr (10, [.ref (u_2 0), .ref (u_2 1), .ref (u_2 2), .ref (u_2 3), .ref (u_2 4), .int 0, .int 0, .int 0, .int 0])), ((u_2 0), .inl (cI, 0, .inl (fun _ => 0))), ((u_2 1), .inl (cI, 12, .inl (fun _ => 0))), ((u_2 2), .inl (cI, 12, .inl (fun _ => 0))), ((u_2 3), .inl (cI, 12, .inl (fun _ => 0))), ((u_2 4), .inl (cI, 32, .inl (fun _ => 0)))]) [0, 1, 2, 3, 4, 5, 6] rfl
  have hD9 := hD.sub (ws' := [(x, .inr (2, [.int v0, .int v1, .int v2, .int v3, .int 0, .int 0, .int 0, .int 0, .int 0, .int 0, .ref q26])), (q26, .inr (10, [.ref (u_2 0), .ref (u_2 1), .ref (u_2 2), .ref (u_2 3), .ref (u_2 4), .int 0, .int 0, .int 0, .int 0])), ((u_2 0), .inl (cI, 0, .inl (fun _ => 0))), ((u_2 1), .inl (cI, 12, .inl (fun _ => 0))), ((u_2 2), .inl (cI, 12, .inl (fun _ => 0))), ((u_2 3), .inl (cI, 12, .inl (fun _ => 0))), ((u_2 4), .inl (cI, 32, .inl (fun _ => 0)))]) [0, 1, 2, 3, 4, 5, 6] (by decide) rfl
  exact W.vret hx hb hr (fun t ht hW => ⟨⟨(fun k => ([(u_2 0), (u_2 1), (u_2 2), (u_2 3), (u_2 4), q26] : List Nat).getD k 0), rfl, trivial, by rw [ht]; exact hP9, hD9⟩, hS.F ht⟩) hS.2.2 (oc_177 37 (aq_12 shX1_init_25))
